/-! Rows of my own for methods that may throw. -/
abbrev gxIA : String := "java/lang/IllegalArgumentException"
abbrev gxIS : String := "java/lang/IllegalStateException"
abbrev gxIO : String := "java/lang/IndexOutOfBoundsException"
abbrev gxNm : List String := ["java/lang/RuntimeException", "java/lang/Exception"]
/-- the words of a throw that no list of words holds -/
def gNw (U : State) : Prop := (va_Nw (.declares (Bundle.initS "java/lang/RuntimeException")) U ∧ va_Nw (.declares (Bundle.initS "java/lang/Exception")) U ∧ va_Nw (.declares (Bundle.initS Bundle.tN)) U) ∧ va_Nw (.castable gxIA gxIA) U ∧ va_Nw (.castable gxIS gxIS) U ∧ va_Nw (.castable gxIO gxIO) U
theorem gNw.warm {s U : State} (hW : s.WarmedH U.vm) (h : gNw s) : gNw U := ⟨⟨va_Nw.warmD hW h.1.1, va_Nw.warmD hW h.1.2.1, va_Nw.warmD hW h.1.2.2⟩, va_Nw.warmC hW h.2.1, va_Nw.warmC hW h.2.2.1, va_Nw.warmC hW h.2.2.2⟩
/-- the texts of the class's exceptions -/
def gStr (U : State) : Prop := (∃ a, vk_R RX1 25 "no such order" a U) ∧ (∃ a, vk_R RX1 36 "no room for a gate" a U) ∧ (∃ a, vk_R RX1 46 "no room for a goat" a U) ∧ (∃ a, vk_R RX1 76 "fewer permits are free" a U) ∧ (∃ a, vk_R RX1 85 "the goat is idle" a U) ∧ (∃ a, vk_R RX1 218 "no such gate" a U) ∧ (∃ a, vk_R RX1 221 "no such goat" a U) ∧ (∃ a, vk_R RX1 223 "the goat is not idle" a U) ∧ (∃ a, vk_R RX1 225 "the number is too small or too great" a U)
theorem gStr.warm {s U : State} (hW : s.WarmedH U.vm) (h : gStr s) : gStr U := by
  obtain ⟨⟨a1, h1⟩, ⟨a2, h2⟩, ⟨a3, h3⟩, ⟨a4, h4⟩, ⟨a5, h5⟩, ⟨a6, h6⟩, ⟨a7, h7⟩, ⟨a8, h8⟩, ⟨a9, h9⟩⟩ := h
  exact ⟨⟨a1, vk_R.warm hW h1⟩, ⟨a2, vk_R.warm hW h2⟩, ⟨a3, vk_R.warm hW h3⟩, ⟨a4, vk_R.warm hW h4⟩, ⟨a5, vk_R.warm hW h5⟩, ⟨a6, vk_R.warm hW h6⟩, ⟨a7, vk_R.warm hW h7⟩, ⟨a8, vk_R.warm hW h8⟩, ⟨a9, vk_R.warm hW h9⟩⟩
/-- what a throw needs of the machine: two statics of Throwable, the texts -/
def gTh (A : Nat → Prop) (U : State) (H : Heap) : Prop := vx_Zq Bundle.tN "UNASSIGNED_STACK" Bundle.steD A U H ∧ vx_Zq Bundle.tN "SUPPRESSED_SENTINEL" Bundle.listD A U H ∧ gStr U ∧ gNw U
theorem gTh.on {A B : Nat → Prop} {s U : State} {H0 H : Heap} {locs : List Loc} (h : gTh A s H0) (hS : va_S A H0 H locs) (hAB : ∀ q, B q → A q) (hW : s.WarmedH U.vm) : gTh B U H :=
  ⟨((h.1.kept hS.2.1).narrow hAB).moved hW.alike, ((h.2.1.kept hS.2.1).narrow hAB).moved hW.alike, h.2.2.1.warm hW, h.2.2.2.warm hW⟩
def gPx (D : va_G) (tys : List (ClassId × FieldType)) (av : List Value) (w : va_W) (sz : Nat) : Array Value → State → Prop := va_Pc av (fun U => U.heap.size = sz ∧ va_P D vwCl w U.heap ∧ va_K D vwCl tys U ∧ va_D (fun _ => True) w ∧ gTh (va_A w sz) U U.heap)
def gQx (D : va_G) (tys : List (ClassId × FieldType)) (x : Option String) (w' : va_W) (rv : Option Value) (A : Nat → Prop) : Array Value → State → Outcome → State → Prop := fun a st oc t => x = none ∧ gQ D tys w' rv A a st oc t
def gXC (D : va_G) (tys : List (ClassId × FieldType)) (x : Option String) (w : va_W) (A : Nat → Prop) : String → State → State → Prop := fun E st t => x = some E ∧ va_P D vwCl w t.heap ∧ va_K D vwCl tys t ∧ va_D A w ∧ va_F A st t
/-- A CONTRACT OF A METHOD THAT MAY THROW: x none: it answers rv, with the world w'; x some E: it throws an E, the world stays -/
def Cx (l : Launch) (D : va_G) (tys : List (ClassId × FieldType)) (y : MethodName) (wsy : List Cond) (fr lo mc ms : Nat) (av : List Value) (w : va_W) (x : Option String) (rv : Option Value) (w' : va_W) : Prop :=
  ∀ sz : Nat, vx_Met l y wsy ({ frames := fr, cells := mc, slots := ms, locals := lo } : Room) (gPx D tys av w sz) (gQx D tys x w' rv (va_A w sz)) (gXC D tys x w (va_A w sz)) mc ms (va_A w sz)
theorem gPx_blind {D : va_G} {tys : List (ClassId × FieldType)} {av : List Value} {w : va_W} {sz : Nat} : FrameBlind (gPx D tys av w sz) := by
  intro a U g mk q
  obtain ⟨q0, q1, qP, qK, qD, qT⟩ := q
  exact ⟨q0, q1, qP, va_K.moved (u := U) (U := U.calling g mk a) (Vm.Alike.refl U.vm) qK, qD, qT.on (U := U.calling g mk a) va_S.rf (fun _ h => h) (State.WarmedH.refl U)⟩
def gZx (below : List Frame) (D : va_G) (tys : List (ClassId × FieldType)) (x : Option String) (w w' : va_W) (rv : Option Value) (A : Nat → Prop) (args : Array Value) (s : State) (mc ms : Nat) : State → Prop := vx_MQ below (gQx D tys x w' rv A) (gXC D tys x w A) args s mc ms A
theorem Cx.ofW {l : Launch} {D : va_G} {tys : List (ClassId × FieldType)} {y : MethodName} {wsy ws0 : List Cond} {fr lo mc ms : Nat} {av : List Value} {w : va_W} {x : Option String} {rv : Option Value} {w' : va_W} {cc : ByteArray} {maxL : Nat} {ret : Option FieldType}
    (hy : plainName y.cls = true) (hw : wsy = Cond.code y cc maxL ret :: ws0) (hav : (lg_sl av).length ≤ maxL)
    (h : ∀ (p : Program) (e : Env) (s : State) (m : MethodId) (below : List Frame) (meth : Method) (c : Code) (A : Nat → Prop) (ls : Array Slot),
      CallFix p m c cc maxL s av.toArray wsy y.cls → meth.sig.returnType = ret → meth.locks = false → (∀ z ∈ c.exceptionTable.toList, False) → gTh A s s.heap → va_P D vwCl w s.heap → va_D A w → va_S A s.heap s.heap [] → va_K D vwCl tys s → (∀ q, s.heap.size ≤ q → A q) → lv_has ls maxL (lv_args 0 av) →
      W p l e ({ frames := fr, cells := mc, slots := ms, locals := lo } : Room) s m av.toArray below meth c s.heap [] 0 0 (gZx below D tys x w w' rv A av.toArray s mc ms) (F0 m 0 ls [])) : Cx l D tys y wsy fr lo mc ms av w x rv w' := by
  intro sz
  refine vx_ofW (cc := cc) (maxL := maxL) (ret := ret) hy hw ?_
  intro p e s m args below meth c s₁ B hml htab hv
  obtain ⟨rfl, hsz, hP, hK, hD0, hTh⟩ := hv
  have hts := atoms_spec (ws := wsy) B.pre
  have hown : s.vm.findClass y.cls = some m.cls := findClass_of_methodNamed B.named
  subst hsz
  have hD := hD0.self (sz := s.heap.size)
  have hl := lv_entry av (n := maxL) hav
  rw [lg_entry_eq]
  exact h p e s m below meth c (va_A w s.heap.size) _ ⟨B.exec, B.bytes, hml, hown, hts⟩ B.returns B.notSynchronized htab hTh hP hD va_S.rf hK (fun q hq => Or.inr hq) hl
section GX
variable {p : Program} {l : Launch} {e : Env} {R : Room} {s : State} {m : MethodId} {args : Array Value} {below : List Frame} {meth : Method} {c : Code} {H : Heap} {locs : List Loc} {cells slots : Nat} {Q : State → Prop}
variable {cc : ByteArray} {pc nL : Nat} {Ts : List Cond} {own : String} {ls : Array Slot} {rest st0 : List Value} {D : va_G} {A : Nat → Prop} {a : Nat} {tys : List (ClassId × FieldType)} {ws ws' : va_W} {H0 : Heap}
variable {rv : Option Value} {w0 w' : va_W} {mc ms mcC msC : Nat} {x : Option String}
theorem gx_iret (S : CallFix p m c cc nL s args Ts own) (hr : meth.sig.returnType = some .int) (hlocks : meth.locks = false) (hK : va_K D vwCl tys s) (hP : va_P D vwCl ws H) (hD : va_D A ws) (hS : va_S A s.heap H locs) {v : Int32} (hxn : x = none) (hv : some (Value.int v) = rv) (hw : ws = w') (hdg : decode cc pc = .ok (.ireturn, 1)) (hc : cells ≤ mc) (hs : slots ≤ ms) :
    W p l e R s m args below meth c H locs cells slots (gZx below D tys x w0 w' rv A args s mc ms) (F0 m pc ls [.int v]) := by
  subst hw; subst hv
  refine vx_ret (W.widen hc hs ?_)
  exact W.iret S.1 S.2.1 hr (fun t ht hW => ⟨hxn, ⟨rfl, by rw [ht]; exact hP, va_K.moved hW.alike hK, hD⟩, hS.F ht⟩) hS.2.2 hdg hlocks
theorem gx_vret (S : CallFix p m c cc nL s args Ts own) (hr : meth.sig.returnType = none) (hlocks : meth.locks = false) (hK : va_K D vwCl tys s) (hP : va_P D vwCl ws H) (hD : va_D A ws) (hS : va_S A s.heap H locs) (hxn : x = none) (hv : none = rv) (hw : ws = w') (hdg : decode cc pc = .ok (.return_, 1)) (hc : cells ≤ mc) (hs : slots ≤ ms) :
    W p l e R s m args below meth c H locs cells slots (gZx below D tys x w0 w' rv A args s mc ms) (F0 m pc ls []) := by
  subst hw; subst hv
  refine vx_ret (W.widen hc hs ?_)
  exact W.vret S.1 S.2.1 hr (fun t ht hW => ⟨hxn, ⟨rfl, by rw [ht]; exact hP, va_K.moved hW.alike hK, hD⟩, hS.F ht⟩) hS.2.2 hdg hlocks
theorem gx_lret (S : CallFix p m c cc nL s args Ts own) (hr : meth.sig.returnType = some .long) (hlocks : meth.locks = false) (hK : va_K D vwCl tys s) (hP : va_P D vwCl ws H) (hD : va_D A ws) (hS : va_S A s.heap H locs) {v : Int64} (hxn : x = none) (hv : some (Value.long v) = rv) (hw : ws = w') (hdg : decode cc pc = .ok (.lreturn, 1)) (hc : cells ≤ mc) (hs : slots ≤ ms) :
    W p l e R s m args below meth c H locs cells slots (gZx below D tys x w0 w' rv A args s mc ms) (F0 m pc ls [.long v]) := by
  subst hw; subst hv
  refine vx_ret (W.widen hc hs ?_)
  exact W.lret S.1 S.2.1 hr (fun t ht hW => ⟨hxn, ⟨rfl, by rw [ht]; exact hP, va_K.moved hW.alike hK, hD⟩, hS.F ht⟩) hS.2.2 hdg hlocks
/-- throw new E("text") -/
theorem gx_throw (S : CallFix p m c cc nL s args Ts own) (hl0 : l.stackTraces = false) {cls text : String} {ik is ic : Nat} (hTh : gTh A s s.heap) (hlocks : meth.locks = false) (htab : ∀ z ∈ c.exceptionTable.toList, False) (hK : va_K D vwCl tys s) (hP : va_P D vwCl ws H) (hD : va_D A ws) (hS : va_S A s.heap H locs) (hsz : ls.size = nL) (i1 i2 : Nat)
    (h1 : Ts[i1]? = some (Cond.classLink own ik cls)) (h2 : Ts[i2]? = some (Cond.initialized cls)) (hstr : ∃ sa, vk_R own is text sa s)
    (hcls : Bundle.fit cls = true) (hat : ∀ w ∈ (vx_atS own ic cls ["java/lang/RuntimeException", "java/lang/Exception"]).filter goodWord, w ∈ Ts) (hcast : va_Nw (.castable cls cls) s) (hat2 : (vx_atS own ic cls ["java/lang/RuntimeException", "java/lang/Exception"]).filter (fun w => !goodWord w) = [.declares (Bundle.initS "java/lang/RuntimeException"), .declares (Bundle.initS "java/lang/Exception"), .declares (Bundle.initS Bundle.tN), .castable cls cls])
    (hgood : (Cond.classLink own ik cls :: Cond.initialized cls :: vx_atS own ic cls ["java/lang/RuntimeException", "java/lang/Exception"]).all vx_ot = true)
    (d0 : decode cc pc = .ok (.new ik, 3)) (d3 : decode cc (pc + 3) = .ok (.dup, 1)) (d4 : decode cc (pc + 4) = .ok (.ldc is, 2)) (d6 : decode cc (pc + 6) = .ok (.invokespecial ic, 3)) (d9 : decode cc (pc + 9) = .ok (.athrow, 1))
    (hR : 5 < R.frames ∧ (rest.map fun v => v.category).sum + 82 ≤ R.locals ∧ cells + 1 ≤ R.cells ∧ slots + 6 ≤ R.slots) (hxs : x = some cls) (hw : ws = w0) (hcm : cells + 1 ≤ mc ∧ slots + 6 ≤ ms) :
    W p l e R s m args below meth c H locs cells slots (gZx below D tys x w0 w' rv A args s mc ms) (F0 m pc ls rest) := by
  subst hw
  obtain ⟨sa, hstr⟩ := hstr
  refine vx_throwS (names := ["java/lang/RuntimeException", "java/lang/Exception"]) (A := A) S.1 S.2.1 hl0 S.2.2.2.1 hcls (by decide +kernel) (S.2.2.2.2 _ (List.mem_of_getElem? h1)) (S.2.2.2.2 _ (List.mem_of_getElem? h2)) hstr ?_ (List.all_eq_true.mp hgood) hTh.1 hTh.2.1 hS (hsz.trans S.2.2.1.symm) d0 d3 d4 d6 d9 (fun z hz => (htab z hz).elim) hR.1 hR.2.1 hR.2.2.1 hR.2.2.2 hlocks ?_ hS.2.2 hcm.1 hcm.2
  · refine vx_hat (B := [.declares (Bundle.initS "java/lang/RuntimeException"), .declares (Bundle.initS "java/lang/Exception"), .declares (Bundle.initS Bundle.tN), .castable cls cls]) (fun w hw => S.2.2.2.2 _ (hat w hw)) (fun w hw => ?_) (vx_c (va_Nw.use rfl hTh.2.2.2.1.1) (vx_c (va_Nw.use rfl hTh.2.2.2.1.2.1) (vx_c (va_Nw.use rfl hTh.2.2.2.1.2.2) (vx_c (va_Nw.use rfl hcast) vx_n))))
    rw [hat2] at hw
    exact hw
  · intro t hA hz hk
    refine ⟨hxs, hP.kept (fun k q hq => hk q.1 (hP k q hq).lt), va_K.moved hA hK, hD, ⟨Nat.le_trans hS.1 hz, fun q h3 h4 => ?_⟩⟩
    rw [hk q (Nat.lt_of_lt_of_le h3 hS.1)]
    exact hS.2.1 q h3 h4
/-- a call of a method that may throw, by its run -/
theorem gx_run0 {tysC : List (ClassId × FieldType)} {av : Array Value} {w : va_W} (hr : vx_Run p l e R s m args below meth c H locs cells slots mcC msC (F0 m pc ls st0) rest (gQx D tysC x w' rv (va_A w H.size) av) (gXC D tysC x w (va_A w H.size)) (va_A w H.size)) (hDw : va_D A w) (hS : va_S A H0 H locs) (hA : ∀ q, H0.size ≤ q → A q)
    (kx : ∀ (E : String) (ce : Cell) (q9 : Addr) (H1 : Heap) (locs1 : List Loc), x = some E → va_P D vwCl w H1 → va_D (va_A w H.size) w → (∀ q : Nat, q < H.size → ¬ va_A w H.size q → H1[q]? = H[q]?) → (∀ q, va_A w H.size q → A q) → va_S A H0 H1 locs1 → H1[q9]? = some ce → ce.vm = .none → s.vm.findClass E = some ce.cls → vx_W p l e R s m args below meth c H1 locs1 (cells + mcC) (slots + msC) Q (F0 m pc ls rest) q9)
    (kk : ∀ (H1 : Heap) (locs1 : List Loc), x = none → va_P D vwCl w' H1 → va_D (va_A w H.size) w' → (∀ q : Nat, q < H.size → ¬ va_A w H.size q → H1[q]? = H[q]?) → (∀ q, va_A w H.size q → A q) → va_S A H0 H1 locs1 → W p l e R s m args below meth c H1 locs1 (cells + mcC) (slots + msC) Q (F0 m (pc + 3) ls (rv.toList ++ rest))) : W p l e R s m args below meth c H locs cells slots Q (F0 m pc ls st0) := by
  have hF : ∀ q, va_A w H.size q → A q := by
    rintro q (⟨k, e9, h⟩ | h)
    · exact hDw.2 k (q, e9) h
    · exact hA q (Nat.le_trans hS.1 h)
  intro T hT X
  rcases hr T hT X with ⟨v, st₀, t, T', L, h0, X', hL, e1, e2, ⟨hxn, ⟨hv, hP', hK', hD'⟩, hz, hk⟩, st⟩ | ⟨q, st₀, t, T', L, E, ce, h0, X', hL, e1, e2, ⟨hxs, hP', hK', hD', hz, hk⟩, hce, hcv, hcl, st⟩
  · cases hv
    rw [h0] at hz hk
    obtain ⟨t2, a1, b1⟩ := kk T'.heap (locs ++ L) hxn (by rw [e1]; exact hP') hD' (fun q h1 h2 => by rw [e1]; exact hk q h1 h2) hF
      ⟨Nat.le_trans hS.1 (by rw [e1]; exact hz), fun q h1 h2 => by rw [e1, hk q (Nat.lt_of_lt_of_le h1 hS.1) (fun z => h2 (hF q z))]; exact hS.2.1 q h1 h2, fun q hq => by
        rcases List.mem_append.mp hq with h | h
        · exact hS.2.2 q h
        · exact hF _ (hL q h)⟩ T' rfl X'
    exact ⟨t2, st t2 a1, b1⟩
  · rw [h0] at hz hk
    obtain ⟨t2, a1, b1⟩ := kx E ce q T'.heap (locs ++ L) hxs (by rw [e1]; exact hP') hD' (fun q h1 h2 => by rw [e1]; exact hk q h1 h2) hF
      ⟨Nat.le_trans hS.1 (by rw [e1]; exact hz), fun q h1 h2 => by rw [e1, hk q (Nat.lt_of_lt_of_le h1 hS.1) (fun z => h2 (hF q z))]; exact hS.2.1 q h1 h2, fun q hq => by
        rcases List.mem_append.mp hq with h | h
        · exact hS.2.2 q h
        · exact hF _ (hL q h)⟩ (by rw [e1]; exact hce) hcv hcl T' rfl X'
    exact ⟨t2, st.trans a1, b1⟩
/-- .. an invokevirtual; the callee's world is the caller's; what it throws goes through -/
theorem gx_callV {tysC : List (ClassId × FieldType)} {xC : Option String} {rvC : Option Value} {wC' : va_W} (S : CallFix p m c cc nL s args Ts own) (q0 ci n : Nat) {fr lo : Nat} {y : MethodName} {wsy : List Cond} {b : Nat} {As : List Value} {C : String} {index maxL : Nat} {bytes : ByteArray} {ret : Option FieldType} {T : u_T} {N : Nat} {fs : List Value} {ws0 : List Cond}
    (hM : Cx l D tysC y wsy fr lo mcC msC (.ref b :: As) ws xC rvC wC') (hG : GoodIn Ts (wsV own index C y wsy)) (hdg : decode cc pc = .ok (.invokevirtual index, 3)) (hTh : gTh A s s.heap) (hlocks : meth.locks = false) (htab : ∀ z ∈ c.exceptionTable.toList, False) (hK : va_K D vwCl tysC s) (hP : va_P D vwCl ws H) (hD : va_D A ws) (hS : va_S A s.heap H locs) (hA : ∀ q, s.heap.size ≤ q → A q) (hlL : ls.size = nL)
    (hwy : wsy = Cond.code y bytes maxL ret :: ws0) (hd : y.cls = C ∧ y.cls ≠ "java/lang/invoke/MethodHandle" ∧ y.cls ≠ "java/lang/invoke/VarHandle" ∧ (parseMethodDescriptor y.desc).map (fun d => d.parameters.length) = some n) (hR : fr + 1 ≤ R.frames ∧ 8 + (maxL + 11) + lo ≤ R.locals) (hroom : cells + mcC ≤ R.cells ∧ slots + msC ≤ R.slots)
    (he : ws[q0]? = some (b, .inr (ci, fs))) (hc : vwCl[ci]? = some (C, T, N)) (hn : As.length = n) (hst : st0 = As.reverse ++ .ref b :: rest) (hcat : (rest.map fun v => v.category).sum ≤ 8)
    (hcm : cells + mcC ≤ mc ∧ slots + msC ≤ ms) (hthr : ∀ E, xC = some E → x = some E ∧ ws = w0)
    (kk : xC = none → ∀ (H1 : Heap) (locs1 : List Loc), va_P D vwCl wC' H1 → va_D A wC' → va_S A s.heap H1 locs1 → W p l e R s m args below meth c H1 locs1 (cells + mcC) (slots + msC) (gZx below D tysC x w0 w' rv A args s mc ms) (F0 m (pc + 3) ls (rvC.toList ++ rest))) : W p l e R s m args below meth c H locs cells slots (gZx below D tysC x w0 w' rv A args s mc ms) (F0 m pc ls st0) := by
  have hF : ∀ q, va_A ws H.size q → A q := by
    rintro q (⟨k, e9, h⟩ | h)
    · exact hD.2 k (q, e9) h
    · exact hA q (Nat.le_trans hS.1 h)
  refine gx_run0 (w := ws) (vx_runV (C := C) (As := As) (rest := rest) S (hM H.size) (cwV n S.2.2.2.2 hG hwy rfl rfl hd hR) ⟨gPx_blind, va_recv hK hP hc he, fun U hU hW => ⟨rfl, by rw [hU], by rw [hU]; exact hP, va_K.moved hW.alike hK, hD.weaken (fun _ _ _ _ => trivial), by rw [hU]; exact hTh.on hS hF hW⟩⟩ rfl hn hlL hst (lv_room hcat) hdg hroom) hD hS hA (fun E ce q9 H1 locs1 g0 g1 g2 g3 g4 g5 g6 g7 g8 => ?_) (fun H1 locs1 g0 g1 g2 _ g4 g5 => kk g0 H1 locs1 g1 (g2.weaken (fun _ q _ h => g4 q.1 h)) g5)
  obtain ⟨hx1, rfl⟩ := hthr E g0
  exact vx_out (fun z hz => (htab z hz).elim) hlocks g6 g7 g8 (fun t ht hAl => ⟨hx1, by rw [ht]; exact g1, va_K.moved hAl hK, g2.weaken (fun _ q _ h => g4 q.1 h), g5.F ht⟩) g5.2.2 hcm.1 hcm.2
/-- .. a static one without a world -/
theorem gx_callS {tysC : List (ClassId × FieldType)} {xC : Option String} {rvC : Option Value} (S : CallFix p m c cc nL s args Ts own) (n : Nat) {fr lo : Nat} {y : MethodName} {wsy : List Cond} {As : List Value} {index maxL : Nat} {bytes : ByteArray} {ret : Option FieldType} {ws0 : List Cond}
    (hM : Cx l D [] y wsy fr lo mcC msC As [] xC rvC []) (hG : GoodIn Ts (va_wsS own index y wsy)) (hdg : decode cc pc = .ok (.invokestatic index, 3)) (hTh : gTh A s s.heap) (hlocks : meth.locks = false) (htab : ∀ z ∈ c.exceptionTable.toList, False) (hK : va_K D vwCl tysC s) (hP : va_P D vwCl ws H) (hD : va_D A ws) (hS : va_S A s.heap H locs) (hA : ∀ q, s.heap.size ≤ q → A q) (hlL : ls.size = nL)
    (hwy : wsy = Cond.code y bytes maxL ret :: ws0) (hd : y.cls ≠ "java/lang/invoke/MethodHandle" ∧ y.cls ≠ "java/lang/invoke/VarHandle" ∧ (parseMethodDescriptor y.desc).map (fun d => d.parameters.length) = some n) (hR : fr + 1 ≤ R.frames ∧ 8 + (maxL + 11) + lo ≤ R.locals) (hroom : cells + mcC ≤ R.cells ∧ slots + msC ≤ R.slots)
    (hn : As.length = n) (hst : st0 = As.reverse ++ rest) (hcat : (rest.map fun v => v.category).sum ≤ 8)
    (hcm : cells + mcC ≤ mc ∧ slots + msC ≤ ms) (hthr : ∀ E, xC = some E → x = some E ∧ ws = w0)
    (kk : xC = none → ∀ (H1 : Heap) (locs1 : List Loc), va_P D vwCl ws H1 → va_D A ws → va_S A s.heap H1 locs1 → W p l e R s m args below meth c H1 locs1 (cells + mcC) (slots + msC) (gZx below D tysC x w0 w' rv A args s mc ms) (F0 m (pc + 3) ls (rvC.toList ++ rest))) : W p l e R s m args below meth c H locs cells slots (gZx below D tysC x w0 w' rv A args s mc ms) (F0 m pc ls st0) := by
  have hPw : va_P D vwCl ([] : va_W) H := gt_Pm.mpr fun q hq => nomatch hq
  have hDw : va_D A ([] : va_W) := gt_Dm.mpr ⟨List.nodup_nil, fun q hq => nomatch hq⟩
  have hKc : va_K D vwCl [] s := ⟨hK.1, fun k z hz => by cases hz⟩
  have hF : ∀ q, va_A ([] : va_W) H.size q → A q := by
    rintro q (⟨k, e9, h⟩ | h)
    · cases h
    · exact hA q (Nat.le_trans hS.1 h)
  refine gx_run0 (w := ([] : va_W)) (vx_runS (As := As) (rest := rest) S (hM H.size) (va_cwS n S.2.2.2.2 hG hwy rfl rfl hd hR) ⟨gPx_blind, fun U hU hW => ⟨rfl, by rw [hU], by rw [hU]; exact hPw, va_K.moved hW.alike hKc, hDw.weaken (fun _ _ _ _ => trivial), by rw [hU]; exact hTh.on hS hF hW⟩⟩ rfl hn hlL hst (lv_room hcat) hdg hroom) hDw hS hA (fun E ce q9 H1 locs1 g0 g1 g2 g3 g4 g5 g6 g7 g8 => ?_) (fun H1 locs1 g0 g1 g2 g3 g4 g5 => ?_)
  · obtain ⟨hx1, rfl⟩ := hthr E g0
    obtain ⟨j1, j2⟩ := gt_swap (wa := []) (w := []) (wb := ws) (w' := []) hP hD g3 g4 g1 g2
    exact vx_out (fun z hz => (htab z hz).elim) hlocks g6 g7 g8 (fun t ht hAl => ⟨hx1, by rw [ht]; exact j1, va_K.moved hAl hK, j2, g5.F ht⟩) g5.2.2 hcm.1 hcm.2
  · obtain ⟨j1, j2⟩ := gt_swap (wa := []) (w := []) (wb := ws) (w' := []) hP hD g3 g4 g1 g2
    exact kk g0 H1 locs1 j1 j2 g5
end GX
theorem gxb_IA : (vx_atS RX1 27 gxIA gxNm).filter (fun w => !goodWord w) = [.declares (Bundle.initS "java/lang/RuntimeException"), .declares (Bundle.initS "java/lang/Exception"), .declares (Bundle.initS Bundle.tN), .castable gxIA gxIA] := by decide +kernel
theorem gxb_IS : (vx_atS RX1 38 gxIS gxNm).filter (fun w => !goodWord w) = [.declares (Bundle.initS "java/lang/RuntimeException"), .declares (Bundle.initS "java/lang/Exception"), .declares (Bundle.initS Bundle.tN), .castable gxIS gxIS] := by decide +kernel
theorem gxb_IO : (vx_atS RX1 220 gxIO gxNm).filter (fun w => !goodWord w) = [.declares (Bundle.initS "java/lang/RuntimeException"), .declares (Bundle.initS "java/lang/Exception"), .declares (Bundle.initS Bundle.tN), .castable gxIO gxIO] := by decide +kernel
theorem gxg_IA : (Cond.classLink RX1 23 gxIA :: Cond.initialized gxIA :: vx_atS RX1 27 gxIA gxNm).all vx_ot = true := by decide +kernel
theorem gxg_IS : (Cond.classLink RX1 34 gxIS :: Cond.initialized gxIS :: vx_atS RX1 38 gxIS gxNm).all vx_ot = true := by decide +kernel
theorem gxg_IO : (Cond.classLink RX1 216 gxIO :: Cond.initialized gxIO :: vx_atS RX1 220 gxIO gxNm).all vx_ot = true := by decide +kernel
