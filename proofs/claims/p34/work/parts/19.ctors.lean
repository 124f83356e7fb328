/-! The constructors: new rows. -/
def gPn (D : va_G) (tys : List (ClassId × FieldType)) (av : List Value) (w : va_W) (Ex : State → Prop) (sz : Nat) : Array Value → State → Prop := va_Pc av (fun U => U.heap.size = sz ∧ va_P D vwCl w U.heap ∧ va_K D vwCl tys U ∧ va_D (fun _ => True) w ∧ Ex U)
/-- a contract of a constructor: the world behind it holds new cells -/
def CtN {σ : Type} (l : Launch) (D : va_G) (tys : List (ClassId × FieldType)) (y : MethodName) (wsy : List Cond) (fr lo mc ms : Nat) (av : List Value) (w : va_W) (Ex : State → Prop) (W' : σ → va_W) : Prop :=
  ∀ sz : Nat, Met l y wsy ({ frames := fr, cells := mc, slots := ms, locals := lo } : Room) (gPn D tys av w Ex sz) (fun a st oc t => ∃ r : σ, gQ D tys (W' r) none (va_A w sz) a st oc t) mc ms (va_A w sz)
theorem gPn_blind {D : va_G} {tys : List (ClassId × FieldType)} {av : List Value} {w : va_W} {Ex : State → Prop} {sz : Nat} (hE : ∀ (U : State) (g : JFrame) (mk : MethodId) (a : Array Value), Ex U → Ex (U.calling g mk a)) : FrameBlind (gPn D tys av w Ex sz) := by
  intro a U g mk q
  obtain ⟨q0, q1, qP, qK, qD, qE⟩ := q
  exact ⟨q0, q1, qP, va_K.moved (u := U) (U := U.calling g mk a) (Vm.Alike.refl U.vm) qK, qD, hE U g mk a qE⟩
def gZn {σ : Type} (below : List Frame) (D : va_G) (tys : List (ClassId × FieldType)) (W' : σ → va_W) (A : Nat → Prop) (args : Array Value) (s : State) (mc ms : Nat) : State → Prop := MQ below (fun a st oc t => ∃ r : σ, gQ D tys (W' r) none A a st oc t) args s mc ms A
theorem CtN.ofW {σ : Type} {l : Launch} {D : va_G} {tys : List (ClassId × FieldType)} {y : MethodName} {wsy ws0 : List Cond} {fr lo mc ms : Nat} {av : List Value} {w : va_W} {Ex : State → Prop} {W' : σ → va_W} {cc : ByteArray} {maxL : Nat} {ret : Option FieldType}
    (hy : plainName y.cls = true) (hw : wsy = Cond.code y cc maxL ret :: ws0) (hav : (lg_sl av).length ≤ maxL)
    (h : ∀ (p : Program) (e : Env) (s : State) (m : MethodId) (below : List Frame) (meth : Method) (c : Code) (A : Nat → Prop) (ls : Array Slot),
      CallFix p m c cc maxL s av.toArray wsy y.cls → meth.sig.returnType = ret → meth.locks = false → (y.name = "<init>" → meth.name = "<init>") → Ex s → va_P D vwCl w s.heap → va_D A w → va_S A s.heap s.heap [] → va_K D vwCl tys s → (∀ q, s.heap.size ≤ q → A q) → lv_has ls maxL (lv_args 0 av) →
      W p l e ({ frames := fr, cells := mc, slots := ms, locals := lo } : Room) s m av.toArray below meth c s.heap [] 0 0 (gZn below D tys W' A av.toArray s mc ms) (F0 m 0 ls [])) : CtN l D tys y wsy fr lo mc ms av w Ex W' := by
  intro sz
  refine Met.ofW (cc := cc) (maxL := maxL) (ret := ret) hy hw ?_
  intro p e s m args below meth c s₁ B hml hv
  obtain ⟨rfl, hsz, hP, hK, hD0, hE⟩ := hv
  have hts := atoms_spec (ws := wsy) B.pre
  have hown : s.vm.findClass y.cls = some m.cls := findClass_of_methodNamed B.named
  subst hsz
  have hD := hD0.self (sz := s.heap.size)
  have hl := lv_entry av (n := maxL) hav
  rw [lg_entry_eq]
  exact h p e s m below meth c (va_A w s.heap.size) _ ⟨B.exec, B.bytes, hml, hown, hts⟩ B.returns B.notSynchronized (fun hi => (name_of_methodNamed B.named B.method).1.trans hi) hE hP hD va_S.rf hK (fun q hq => Or.inr hq) hl
section GTN
variable {p : Program} {l : Launch} {e : Env} {R : Room} {s : State} {m : MethodId} {args : Array Value} {below : List Frame} {meth : Method} {c : Code} {H : Heap} {locs : List Loc} {cells slots : Nat} {Q : State → Prop}
variable {cc : ByteArray} {pc nL : Nat} {Ts : List Cond} {own : String} {ls : Array Slot} {rest st0 : List Value} {D : va_G} {A : Nat → Prop} {a : Nat} {tys : List (ClassId × FieldType)} {ws ws' : va_W} {H0 : Heap} {mc ms : Nat}
theorem gn_vret {σ : Type} {W' : σ → va_W} (r : σ) (S : CallFix p m c cc nL s args Ts own) (hr : meth.sig.returnType = none) (hlocks : meth.locks = false) (hK : va_K D vwCl tys s) (hP : va_P D vwCl ws H) (hD : va_D A ws) (hS : va_S A s.heap H locs) (hw : ws = W' r) (hdg : decode cc pc = .ok (.return_, 1)) (hc : cells ≤ mc) (hs : slots ≤ ms) :
    W p l e R s m args below meth c H locs cells slots (gZn below D tys W' A args s mc ms) (F0 m pc ls []) := by
  subst hw
  refine W.widen hc hs ?_
  exact W.vret S.1 S.2.1 hr (fun t ht hW => ⟨r, ⟨rfl, by rw [ht]; exact hP, va_K.moved hW.alike hK, hD⟩, hS.F ht⟩) hS.2.2 hdg hlocks
/-- a new row of ints -/
theorem gn_newa (S : CallFix p m c cc nL s args Ts own) (i : Nat) (harr : Ts[i]? = some (Cond.arrayClass .int)) {cI : ClassId} (hK : va_K D vwCl [(cI, .int)] s) (hP : va_P D vwCl ws H) (hD : va_D A ws) (hS : va_S A H0 H locs) (hA : ∀ q, H0.size ≤ q → A q) {n : Int32} (N' : Nat) (hn : n = nI N') (hN : N' < 2 ^ 20) (hroom : cells + 1 ≤ R.cells ∧ slots + N' ≤ R.slots) (hdg : decode cc pc = .ok (.newarray .int, 2))
    (kk : ∀ (q : Nat) (H1 : Heap), va_P D vwCl (ws ++ [(q, .inl (cI, N', .inl (fun _ => 0)))]) H1 → va_D A (ws ++ [(q, .inl (cI, N', .inl (fun _ => 0)))]) → va_S A H0 H1 locs → W p l e R s m args below meth c H1 locs (cells + 1) (slots + N') Q (F0 m (pc + 2) ls (.ref q :: rest))) : W p l e R s m args below meth c H locs cells slots Q (F0 m pc ls (.int n :: rest)) := by
  subst hn
  refine va_newa (atype := .int) (ty := .int) (a0 := (N', .inl (fun _ => 0))) S.1 S.2.1 (S.2.2.2.2 _ (List.mem_of_getElem? harr)) rfl hK hP hD hS hA (fun _ => rfl) (nI_pos (by omega)) (nI_clamp (by omega)) (by show N' * 4 ≤ 536870912; omega) hroom.1 hroom.2 hdg (fun q cA H1 hK1 hP1 hD1 hS1 => ?_)
  have e1 := (hK1.2 1 (cA, .int) rfl).2
  have e2 := (hK.2 0 (cI, .int) rfl).2
  have e3 : cA = cI := Option.some.inj (e1.symm.trans e2)
  subst e3
  exact kk q H1 hP1 hD1 hS1
/-- a final field of a new object gets a row -/
theorem gn_putr (S : CallFix p m c cc nL s args Ts own) (q0 ci k i v : Nat) {ref C : String} {T : u_T} {N index : Nat} {fs : List Value} {ty : FieldType} (hin : ∀ w ∈ u_ws C T N, w ∈ Ts) {ty0 : Nat → FieldType} (hty : ∀ k, k < N → parseFieldDescriptor (T k).2.2.1 = some (ty0 k)) (hnm : ∀ a, a < N → ∀ b, b < N → a ≠ b → (T a).2.1 ≠ (T b).2.1) (hK : va_K D vwCl tys s) (hP : va_P D vwCl ws H) (hD : va_D A ws) (hS : va_S A H0 H locs) (hinit : meth.name = "<init>") (hdg : decode cc pc = .ok (.putfield index, 3)) (hc : vwCl[ci]? = some (C, T, N)) (he : ws[q0]? = some (a, .inr (ci, fs))) (hk : k < N) (hlink : Ts[i]? = some (Cond.fieldLink own index ref (T k).2.1 (T k).2.2.1)) (href : (T k).1 = ref) (hown : (T k).1 = own) (hfin : (T k).2.2.2 = true) (hd : ty0 k = ty) (hnar : narrow ty (.ref v) = .ref v) (hfit : fits ty (.ref v) = true) (hl : k < fs.length) (hw : ws.set q0 (a, .inr (ci, fs.set k (.ref v))) = ws')
    (kk : ∀ (H1 : Heap) (locs1 : List Loc), va_P D vwCl ws' H1 → va_D A ws' → va_S A H0 H1 locs1 → W p l e R s m args below meth c H1 locs1 cells slots Q (F0 m (pc + 3) ls rest)) : W p l e R s m args below meth c H locs cells slots Q (F0 m pc ls (.ref v :: .ref a :: rest)) := by
  subst hw
  exact va_putF (ci := ci) (ty := ty) (v := .ref v) S.1 S.2.1 S.2.2.2.2 hin ty0 hty hnm S.2.2.2.1 hK hP hD hS q0 he hc k hk (S.2.2.2.2 _ (List.mem_of_getElem? hlink)) (fun x h => by rw [← href]; exact h) hfin hinit hown (by rw [hty k hk, hd]) hnar hfit hl hdg kk
/-- behind a constructor's call: the new world beside the rest -/
theorem gn_run0 {σ : Type} {W' : σ → va_W} {D : va_G} {tysC : List (ClassId × FieldType)} {av : Array Value} {wa w wb : va_W} (hr : va_Run p l e R s m args below meth c H locs cells slots mc ms (F0 m pc ls st0) rest ((fun a st oc t => ∃ r : σ, gQ D tysC (W' r) none (va_A w H.size) a st oc t) av) (va_A w H.size)) (hP : va_P D vwCl (wa ++ (w ++ wb)) H) (hD : va_D A (wa ++ (w ++ wb))) (hDw : va_D A w) (hS : va_S A H0 H locs) (hA : ∀ q, H0.size ≤ q → A q)
    (kk : ∀ (r : σ) (H1 : Heap) (locs1 : List Loc), va_P D vwCl (wa ++ (W' r ++ wb)) H1 → va_D A (wa ++ (W' r ++ wb)) → va_S A H0 H1 locs1 → W p l e R s m args below meth c H1 locs1 (cells + mc) (slots + ms) Q (F0 m (pc + 3) ls rest)) : W p l e R s m args below meth c H locs cells slots Q (F0 m pc ls st0) := by
  have hF : ∀ q, va_A w H.size q → A q := by
    rintro q (⟨k, e9, h⟩ | h)
    · exact hDw.2 k (q, e9) h
    · exact hA q (Nat.le_trans hS.1 h)
  intro T hT X
  obtain ⟨v, st₀, t, T', L, h0, X', hL, e1, e2, ⟨r, ⟨hv, hP', hK', hD'⟩, hz, hk⟩, st⟩ := hr T hT X
  cases hv
  rw [h0] at hz hk
  obtain ⟨j1, j2⟩ := gt_swap hP hD (H1 := T'.heap) (fun q h1 h2 => by rw [e1]; exact hk q h1 h2) hF (by rw [e1]; exact hP') hD'
  obtain ⟨t2, a1, b1⟩ := kk r T'.heap (locs ++ L) j1 j2
    ⟨Nat.le_trans hS.1 (by rw [e1]; exact hz), fun q h1 h2 => by rw [e1, hk q (Nat.lt_of_lt_of_le h1 hS.1) (fun z => h2 (hF q z))]; exact hS.2.1 q h1 h2, fun q hq => by
      rcases List.mem_append.mp hq with h | h
      · exact hS.2.2 q h
      · exact hF _ (hL q h)⟩ T' rfl X'
  exact ⟨t2, st t2 a1, b1⟩
end GTN
def Z0 : SS := fun _ _ => 0

set_option maxHeartbeats 1000000 in
set_option maxRecDepth 100000 in
theorem ct_X0_init (l : Launch) (D : va_G) (cI : ClassId) (o : Nat) : CtN l D [(cI, .int)] yX0_init wsX0_init 1 12 12 120 [.ref o] [(o, .inr (0, [.int 0, .int 0, .int 0, .int 0, .int 0, .null, .null, .null, .null, .null, .null, .null, .null, .null, .null, .null, .null]))] (fun _ => True) (fun r : Nat → Nat => sw cI o r Z0) := by
  refine CtN.ofW (cc := cX0_init) (maxL := 1) (ret := none) (by decide) rfl (Nat.le_of_ble_eq_true rfl) ?_
  intro p e s m below meth c A ls hC hr hlk hin _ hP hD hS hK hA hl
  have hx := hC.1
  have hb := hC.2.1
  have hin := hin rfl
  have hinX0 : ∀ w ∈ wsX00, w ∈ wsX0_init := fun _ _h => List.mem_cons_of_mem _ (List.mem_append_right _ _h)
  have hl : lv_has ls 1 [(0, .ref o)] := hl
  refine lv_aload_n hx hb dX0_init_0 rfl (lv_at hl 0 rfl) ?_
  refine W.objInit hx hb hC.2.2.2.1 (hC.2.2.2.2 _ (List.mem_of_getElem? (i := 1) rfl)) (hC.2.2.2.2 _ (List.mem_of_getElem? (i := 2) rfl)) (hC.2.2.2.2 _ (List.mem_of_getElem? (i := 3) rfl)) rfl (hl.1.trans hC.2.2.1.symm) rfl dX0_init_1 (Nat.le_of_ble_eq_true rfl) (Nat.le_of_ble_eq_true rfl) ?_
  refine W.eq (g2 := F0 m 4 ls []) rfl ?_
  refine lv_aload_n hx hb dX0_init_4 rfl (lv_at hl 0 rfl) ?_
  refine lv_iconst (v := 4) hx hb dX0_init_5 (by decide) ?_
  refine gn_newa hC 4 rfl hK hP hD hS hA 4 (by decide) (by decide) ⟨Nat.le_of_ble_eq_true rfl, Nat.le_of_ble_eq_true rfl⟩ dX0_init_6 (fun a0 H hP hD hS => ?_)
  refine gn_putr (ws' := [(o, .inr (0, [.int 0, .int 0, .int 0, .int 0, .int 0, .ref a0, .null, .null, .null, .null, .null, .null, .null, .null, .null, .null, .null])), (a0, .inl (cI, 4, .inl (fun _ => 0)))]) (ty := .array .int) hC 0 0 5 5 a0 hinX0 tyX0_ok nmX0 hK hP hD hS hin dX0_init_8 rfl rfl (by decide) rfl rfl rfl rfl rfl rfl rfl (Nat.le_of_ble_eq_true rfl) rfl (fun H locs hP hD hS => ?_)
  refine lv_aload_n hx hb dX0_init_11 rfl (lv_at hl 0 rfl) ?_
  refine lv_iconst (v := 4) hx hb dX0_init_12 (by decide) ?_
  refine gn_newa hC 4 rfl hK hP hD hS hA 4 (by decide) (by decide) ⟨Nat.le_of_ble_eq_true rfl, Nat.le_of_ble_eq_true rfl⟩ dX0_init_13 (fun a1 H hP hD hS => ?_)
  refine gn_putr (ws' := [(o, .inr (0, [.int 0, .int 0, .int 0, .int 0, .int 0, .ref a0, .ref a1, .null, .null, .null, .null, .null, .null, .null, .null, .null, .null])), (a0, .inl (cI, 4, .inl (fun _ => 0))), (a1, .inl (cI, 4, .inl (fun _ => 0)))]) (ty := .array .int) hC 0 0 6 6 a1 hinX0 tyX0_ok nmX0 hK hP hD hS hin dX0_init_15 rfl rfl (by decide) rfl rfl rfl rfl rfl rfl rfl (Nat.le_of_ble_eq_true rfl) rfl (fun H locs hP hD hS => ?_)
  refine lv_aload_n hx hb dX0_init_18 rfl (lv_at hl 0 rfl) ?_
  refine lv_iconst (v := 4) hx hb dX0_init_19 (by decide) ?_
  refine gn_newa hC 4 rfl hK hP hD hS hA 4 (by decide) (by decide) ⟨Nat.le_of_ble_eq_true rfl, Nat.le_of_ble_eq_true rfl⟩ dX0_init_20 (fun a2 H hP hD hS => ?_)
  refine gn_putr (ws' := [(o, .inr (0, [.int 0, .int 0, .int 0, .int 0, .int 0, .ref a0, .ref a1, .ref a2, .null, .null, .null, .null, .null, .null, .null, .null, .null])), (a0, .inl (cI, 4, .inl (fun _ => 0))), (a1, .inl (cI, 4, .inl (fun _ => 0))), (a2, .inl (cI, 4, .inl (fun _ => 0)))]) (ty := .array .int) hC 0 0 7 7 a2 hinX0 tyX0_ok nmX0 hK hP hD hS hin dX0_init_22 rfl rfl (by decide) rfl rfl rfl rfl rfl rfl rfl (Nat.le_of_ble_eq_true rfl) rfl (fun H locs hP hD hS => ?_)
  refine lv_aload_n hx hb dX0_init_25 rfl (lv_at hl 0 rfl) ?_
  refine lv_bipush (v := 12) hx hb dX0_init_26 (by decide) ?_
  refine gn_newa hC 4 rfl hK hP hD hS hA 12 (by decide) (by decide) ⟨Nat.le_of_ble_eq_true rfl, Nat.le_of_ble_eq_true rfl⟩ dX0_init_28 (fun a3 H hP hD hS => ?_)
  refine gn_putr (ws' := [(o, .inr (0, [.int 0, .int 0, .int 0, .int 0, .int 0, .ref a0, .ref a1, .ref a2, .ref a3, .null, .null, .null, .null, .null, .null, .null, .null])), (a0, .inl (cI, 4, .inl (fun _ => 0))), (a1, .inl (cI, 4, .inl (fun _ => 0))), (a2, .inl (cI, 4, .inl (fun _ => 0))), (a3, .inl (cI, 12, .inl (fun _ => 0)))]) (ty := .array .int) hC 0 0 8 8 a3 hinX0 tyX0_ok nmX0 hK hP hD hS hin dX0_init_30 rfl rfl (by decide) rfl rfl rfl rfl rfl rfl rfl (Nat.le_of_ble_eq_true rfl) rfl (fun H locs hP hD hS => ?_)
  refine lv_aload_n hx hb dX0_init_33 rfl (lv_at hl 0 rfl) ?_
  refine lv_bipush (v := 12) hx hb dX0_init_34 (by decide) ?_
  refine gn_newa hC 4 rfl hK hP hD hS hA 12 (by decide) (by decide) ⟨Nat.le_of_ble_eq_true rfl, Nat.le_of_ble_eq_true rfl⟩ dX0_init_36 (fun a4 H hP hD hS => ?_)
  refine gn_putr (ws' := [(o, .inr (0, [.int 0, .int 0, .int 0, .int 0, .int 0, .ref a0, .ref a1, .ref a2, .ref a3, .ref a4, .null, .null, .null, .null, .null, .null, .null])), (a0, .inl (cI, 4, .inl (fun _ => 0))), (a1, .inl (cI, 4, .inl (fun _ => 0))), (a2, .inl (cI, 4, .inl (fun _ => 0))), (a3, .inl (cI, 12, .inl (fun _ => 0))), (a4, .inl (cI, 12, .inl (fun _ => 0)))]) (ty := .array .int) hC 0 0 9 9 a4 hinX0 tyX0_ok nmX0 hK hP hD hS hin dX0_init_38 rfl rfl (by decide) rfl rfl rfl rfl rfl rfl rfl (Nat.le_of_ble_eq_true rfl) rfl (fun H locs hP hD hS => ?_)
  refine lv_aload_n hx hb dX0_init_41 rfl (lv_at hl 0 rfl) ?_
  refine lv_bipush (v := 12) hx hb dX0_init_42 (by decide) ?_
  refine gn_newa hC 4 rfl hK hP hD hS hA 12 (by decide) (by decide) ⟨Nat.le_of_ble_eq_true rfl, Nat.le_of_ble_eq_true rfl⟩ dX0_init_44 (fun a5 H hP hD hS => ?_)
  refine gn_putr (ws' := [(o, .inr (0, [.int 0, .int 0, .int 0, .int 0, .int 0, .ref a0, .ref a1, .ref a2, .ref a3, .ref a4, .ref a5, .null, .null, .null, .null, .null, .null])), (a0, .inl (cI, 4, .inl (fun _ => 0))), (a1, .inl (cI, 4, .inl (fun _ => 0))), (a2, .inl (cI, 4, .inl (fun _ => 0))), (a3, .inl (cI, 12, .inl (fun _ => 0))), (a4, .inl (cI, 12, .inl (fun _ => 0))), (a5, .inl (cI, 12, .inl (fun _ => 0)))]) (ty := .array .int) hC 0 0 10 10 a5 hinX0 tyX0_ok nmX0 hK hP hD hS hin dX0_init_46 rfl rfl (by decide) rfl rfl rfl rfl rfl rfl rfl (Nat.le_of_ble_eq_true rfl) rfl (fun H locs hP hD hS => ?_)
  refine lv_aload_n hx hb dX0_init_49 rfl (lv_at hl 0 rfl) ?_
  refine lv_bipush (v := 12) hx hb dX0_init_50 (by decide) ?_
  refine gn_newa hC 4 rfl hK hP hD hS hA 12 (by decide) (by decide) ⟨Nat.le_of_ble_eq_true rfl, Nat.le_of_ble_eq_true rfl⟩ dX0_init_52 (fun a6 H hP hD hS => ?_)
  refine gn_putr (ws' := [(o, .inr (0, [.int 0, .int 0, .int 0, .int 0, .int 0, .ref a0, .ref a1, .ref a2, .ref a3, .ref a4, .ref a5, .ref a6, .null, .null, .null, .null, .null])), (a0, .inl (cI, 4, .inl (fun _ => 0))), (a1, .inl (cI, 4, .inl (fun _ => 0))), (a2, .inl (cI, 4, .inl (fun _ => 0))), (a3, .inl (cI, 12, .inl (fun _ => 0))), (a4, .inl (cI, 12, .inl (fun _ => 0))), (a5, .inl (cI, 12, .inl (fun _ => 0))), (a6, .inl (cI, 12, .inl (fun _ => 0)))]) (ty := .array .int) hC 0 0 11 11 a6 hinX0 tyX0_ok nmX0 hK hP hD hS hin dX0_init_54 rfl rfl (by decide) rfl rfl rfl rfl rfl rfl rfl (Nat.le_of_ble_eq_true rfl) rfl (fun H locs hP hD hS => ?_)
  refine lv_aload_n hx hb dX0_init_57 rfl (lv_at hl 0 rfl) ?_
  refine lv_bipush (v := 12) hx hb dX0_init_58 (by decide) ?_
  refine gn_newa hC 4 rfl hK hP hD hS hA 12 (by decide) (by decide) ⟨Nat.le_of_ble_eq_true rfl, Nat.le_of_ble_eq_true rfl⟩ dX0_init_60 (fun a7 H hP hD hS => ?_)
  refine gn_putr (ws' := [(o, .inr (0, [.int 0, .int 0, .int 0, .int 0, .int 0, .ref a0, .ref a1, .ref a2, .ref a3, .ref a4, .ref a5, .ref a6, .ref a7, .null, .null, .null, .null])), (a0, .inl (cI, 4, .inl (fun _ => 0))), (a1, .inl (cI, 4, .inl (fun _ => 0))), (a2, .inl (cI, 4, .inl (fun _ => 0))), (a3, .inl (cI, 12, .inl (fun _ => 0))), (a4, .inl (cI, 12, .inl (fun _ => 0))), (a5, .inl (cI, 12, .inl (fun _ => 0))), (a6, .inl (cI, 12, .inl (fun _ => 0))), (a7, .inl (cI, 12, .inl (fun _ => 0)))]) (ty := .array .int) hC 0 0 12 12 a7 hinX0 tyX0_ok nmX0 hK hP hD hS hin dX0_init_62 rfl rfl (by decide) rfl rfl rfl rfl rfl rfl rfl (Nat.le_of_ble_eq_true rfl) rfl (fun H locs hP hD hS => ?_)
  refine lv_aload_n hx hb dX0_init_65 rfl (lv_at hl 0 rfl) ?_
  refine lv_bipush (v := 12) hx hb dX0_init_66 (by decide) ?_
  refine gn_newa hC 4 rfl hK hP hD hS hA 12 (by decide) (by decide) ⟨Nat.le_of_ble_eq_true rfl, Nat.le_of_ble_eq_true rfl⟩ dX0_init_68 (fun a8 H hP hD hS => ?_)
  refine gn_putr (ws' := [(o, .inr (0, [.int 0, .int 0, .int 0, .int 0, .int 0, .ref a0, .ref a1, .ref a2, .ref a3, .ref a4, .ref a5, .ref a6, .ref a7, .ref a8, .null, .null, .null])), (a0, .inl (cI, 4, .inl (fun _ => 0))), (a1, .inl (cI, 4, .inl (fun _ => 0))), (a2, .inl (cI, 4, .inl (fun _ => 0))), (a3, .inl (cI, 12, .inl (fun _ => 0))), (a4, .inl (cI, 12, .inl (fun _ => 0))), (a5, .inl (cI, 12, .inl (fun _ => 0))), (a6, .inl (cI, 12, .inl (fun _ => 0))), (a7, .inl (cI, 12, .inl (fun _ => 0))), (a8, .inl (cI, 12, .inl (fun _ => 0)))]) (ty := .array .int) hC 0 0 13 13 a8 hinX0 tyX0_ok nmX0 hK hP hD hS hin dX0_init_70 rfl rfl (by decide) rfl rfl rfl rfl rfl rfl rfl (Nat.le_of_ble_eq_true rfl) rfl (fun H locs hP hD hS => ?_)
  refine lv_aload_n hx hb dX0_init_73 rfl (lv_at hl 0 rfl) ?_
  refine lv_bipush (v := 12) hx hb dX0_init_74 (by decide) ?_
  refine gn_newa hC 4 rfl hK hP hD hS hA 12 (by decide) (by decide) ⟨Nat.le_of_ble_eq_true rfl, Nat.le_of_ble_eq_true rfl⟩ dX0_init_76 (fun a9 H hP hD hS => ?_)
  refine gn_putr (ws' := [(o, .inr (0, [.int 0, .int 0, .int 0, .int 0, .int 0, .ref a0, .ref a1, .ref a2, .ref a3, .ref a4, .ref a5, .ref a6, .ref a7, .ref a8, .ref a9, .null, .null])), (a0, .inl (cI, 4, .inl (fun _ => 0))), (a1, .inl (cI, 4, .inl (fun _ => 0))), (a2, .inl (cI, 4, .inl (fun _ => 0))), (a3, .inl (cI, 12, .inl (fun _ => 0))), (a4, .inl (cI, 12, .inl (fun _ => 0))), (a5, .inl (cI, 12, .inl (fun _ => 0))), (a6, .inl (cI, 12, .inl (fun _ => 0))), (a7, .inl (cI, 12, .inl (fun _ => 0))), (a8, .inl (cI, 12, .inl (fun _ => 0))), (a9, .inl (cI, 12, .inl (fun _ => 0)))]) (ty := .array .int) hC 0 0 14 14 a9 hinX0 tyX0_ok nmX0 hK hP hD hS hin dX0_init_78 rfl rfl (by decide) rfl rfl rfl rfl rfl rfl rfl (Nat.le_of_ble_eq_true rfl) rfl (fun H locs hP hD hS => ?_)
  refine lv_aload_n hx hb dX0_init_81 rfl (lv_at hl 0 rfl) ?_
  refine lv_bipush (v := 12) hx hb dX0_init_82 (by decide) ?_
  refine gn_newa hC 4 rfl hK hP hD hS hA 12 (by decide) (by decide) ⟨Nat.le_of_ble_eq_true rfl, Nat.le_of_ble_eq_true rfl⟩ dX0_init_84 (fun a10 H hP hD hS => ?_)
  refine gn_putr (ws' := [(o, .inr (0, [.int 0, .int 0, .int 0, .int 0, .int 0, .ref a0, .ref a1, .ref a2, .ref a3, .ref a4, .ref a5, .ref a6, .ref a7, .ref a8, .ref a9, .ref a10, .null])), (a0, .inl (cI, 4, .inl (fun _ => 0))), (a1, .inl (cI, 4, .inl (fun _ => 0))), (a2, .inl (cI, 4, .inl (fun _ => 0))), (a3, .inl (cI, 12, .inl (fun _ => 0))), (a4, .inl (cI, 12, .inl (fun _ => 0))), (a5, .inl (cI, 12, .inl (fun _ => 0))), (a6, .inl (cI, 12, .inl (fun _ => 0))), (a7, .inl (cI, 12, .inl (fun _ => 0))), (a8, .inl (cI, 12, .inl (fun _ => 0))), (a9, .inl (cI, 12, .inl (fun _ => 0))), (a10, .inl (cI, 12, .inl (fun _ => 0)))]) (ty := .array .int) hC 0 0 15 15 a10 hinX0 tyX0_ok nmX0 hK hP hD hS hin dX0_init_86 rfl rfl (by decide) rfl rfl rfl rfl rfl rfl rfl (Nat.le_of_ble_eq_true rfl) rfl (fun H locs hP hD hS => ?_)
  refine lv_aload_n hx hb dX0_init_89 rfl (lv_at hl 0 rfl) ?_
  refine lv_bipush (v := 12) hx hb dX0_init_90 (by decide) ?_
  refine gn_newa hC 4 rfl hK hP hD hS hA 12 (by decide) (by decide) ⟨Nat.le_of_ble_eq_true rfl, Nat.le_of_ble_eq_true rfl⟩ dX0_init_92 (fun a11 H hP hD hS => ?_)
  refine gn_putr (ws' := [(o, .inr (0, [.int 0, .int 0, .int 0, .int 0, .int 0, .ref a0, .ref a1, .ref a2, .ref a3, .ref a4, .ref a5, .ref a6, .ref a7, .ref a8, .ref a9, .ref a10, .ref a11])), (a0, .inl (cI, 4, .inl (fun _ => 0))), (a1, .inl (cI, 4, .inl (fun _ => 0))), (a2, .inl (cI, 4, .inl (fun _ => 0))), (a3, .inl (cI, 12, .inl (fun _ => 0))), (a4, .inl (cI, 12, .inl (fun _ => 0))), (a5, .inl (cI, 12, .inl (fun _ => 0))), (a6, .inl (cI, 12, .inl (fun _ => 0))), (a7, .inl (cI, 12, .inl (fun _ => 0))), (a8, .inl (cI, 12, .inl (fun _ => 0))), (a9, .inl (cI, 12, .inl (fun _ => 0))), (a10, .inl (cI, 12, .inl (fun _ => 0))), (a11, .inl (cI, 12, .inl (fun _ => 0)))]) (ty := .array .int) hC 0 0 16 16 a11 hinX0 tyX0_ok nmX0 hK hP hD hS hin dX0_init_94 rfl rfl (by decide) rfl rfl rfl rfl rfl rfl rfl (Nat.le_of_ble_eq_true rfl) rfl (fun H locs hP hD hS => ?_)
  exact gn_vret (fun k => match k with | 5 => a0 | 6 => a1 | 7 => a2 | 8 => a3 | 9 => a4 | 10 => a5 | 11 => a6 | 12 => a7 | 13 => a8 | 14 => a9 | 15 => a10 | 16 => a11 | _ => 0) hC hr hlk hK hP hD hS rfl dX0_init_97 (Nat.le_of_ble_eq_true rfl) (Nat.le_of_ble_eq_true rfl)
theorem hd_X0_init : yX0_init.cls ≠ "java/lang/invoke/MethodHandle" ∧ yX0_init.cls ≠ "java/lang/invoke/VarHandle" ∧ (parseMethodDescriptor yX0_init.desc).map (fun d => d.parameters.length) = some 0 := by decide +kernel
set_option maxHeartbeats 1000000 in
set_option maxRecDepth 100000 in
theorem ct_X1_init (l : Launch) (D : va_G) (cI : ClassId) (t : Nat) : CtN l D [(cI, .int)] yX1_init wsX1_init 2 32 26 274 [.ref t] [(t, .inr (1, [.null, .null]))] (fun U => va_Nw (.methodLinkNest RX1 9 yX0_init RX1) U) (fun z : (Nat × (Nat → Nat)) × (Nat × (Nat → Nat)) => tw cI t z.1.1 z.1.2 Z0 z.2.1 z.2.2 Z0) := by
  refine CtN.ofW (cc := cX1_init) (maxL := 1) (ret := none) (by decide) rfl (Nat.le_of_ble_eq_true rfl) ?_
  intro p e s m below meth c A ls hC hr hlk hin hE hP hD hS hK hA hl
  have hx := hC.1
  have hb := hC.2.1
  have hin := hin rfl
  have hinX0 : ∀ w ∈ wsX00, w ∈ wsX1_init := fun _ _h => List.mem_cons_of_mem _ (List.mem_append_left _ (List.mem_append_right _ _h))
  have hinX1 : ∀ w ∈ wsX10, w ∈ wsX1_init := fun _ _h => List.mem_cons_of_mem _ (List.mem_append_right _ _h)
  have hl : lv_has ls 1 [(0, .ref t)] := hl
  refine lv_aload_n hx hb dX1_init_0 rfl (lv_at hl 0 rfl) ?_
  refine W.objInit hx hb hC.2.2.2.1 (hC.2.2.2.2 _ (List.mem_of_getElem? (i := 1) rfl)) (hC.2.2.2.2 _ (List.mem_of_getElem? (i := 2) rfl)) (hC.2.2.2.2 _ (List.mem_of_getElem? (i := 3) rfl)) rfl (hl.1.trans hC.2.2.1.symm) rfl dX1_init_1 (Nat.le_of_ble_eq_true rfl) (Nat.le_of_ble_eq_true rfl) ?_
  refine W.eq (g2 := F0 m 4 ls []) rfl ?_
  refine lv_aload_n hx hb dX1_init_4 rfl (lv_at hl 0 rfl) ?_
  refine va_new (ci := 0) (fs := [.int 0, .int 0, .int 0, .int 0, .int 0, .null, .null, .null, .null, .null, .null, .null, .null, .null, .null, .null, .null]) (C := RX0) (T := TX0) (N := 17) hx hb hC.2.2.2.2 hinX0 tyX0 tyX0_ok hC.2.2.2.1 (hC.2.2.2.2 _ (List.mem_of_getElem? (i := 4) rfl)) (hC.2.2.2.2 _ (List.mem_of_getElem? (i := 5) rfl)) (hC.2.2.2.2 _ (List.mem_of_getElem? (i := 6) rfl)) hK hP hD hS hA rfl (by decide) (Nat.le_of_ble_eq_true rfl) (Nat.le_of_ble_eq_true rfl) dX1_init_5 (fun o H hP hD hS => ?_)
  refine lv_dup hx hb dX1_init_8 rfl ?_
  refine gn_run0 (wa := [(t, .inr (1, [.null, .null]))]) (w := [(o, .inr (0, [.int 0, .int 0, .int 0, .int 0, .int 0, .null, .null, .null, .null, .null, .null, .null, .null, .null, .null, .null, .null]))]) (wb := []) (va_runIN (As := []) (rest := [.ref o, .ref t]) hC (ct_X0_init l D cI o H.size) ⟨va_cnB 0 hC.2.2.2.2 gX1_init_X0_init_n9 rfl rfl rfl hE (hC.2.2.2.2 _ (List.mem_of_getElem? (i := 6) rfl)) hd_X0_init ⟨Nat.le_of_ble_eq_true rfl, Nat.le_of_ble_eq_true rfl⟩, rfl, (hC.2.2.2.2 _ (List.mem_of_getElem? (i := 9) rfl))⟩ ⟨gPn_blind (fun _ _ _ _ _ => trivial), fun U hU hW => ⟨rfl, by rw [hU], by rw [hU]; exact gt_Pm.mpr (fun z hz => gt_Pm.mp hP z (List.mem_append_right _ hz)), va_K.moved hW.alike hK, gt_Dm.mpr ⟨List.nodup_cons.mpr ⟨List.not_mem_nil, List.nodup_nil⟩, fun _ _ => trivial⟩, trivial⟩⟩ rfl rfl hl.1 rfl (lv_room (Nat.le_of_ble_eq_true rfl)) dX1_init_9 ⟨Nat.le_of_ble_eq_true rfl, Nat.le_of_ble_eq_true rfl⟩) hP hD (gt_Dm.mpr ⟨List.nodup_cons.mpr ⟨List.not_mem_nil, List.nodup_nil⟩, fun z hz => (gt_Dm.mp hD).2 z (List.mem_append_right _ hz)⟩) hS hA (fun r H locs hP hD hS => ?_)
  refine gn_putr (ws' := ((t, .inr (1, [.ref o, .null])) :: sw cI o r Z0)) (ty := .object "GoatTower$Scene") hC 0 1 0 7 o hinX1 tyX1_ok nmX1 hK hP hD hS hin dX1_init_12 rfl rfl (by decide) rfl rfl rfl rfl rfl rfl rfl (Nat.le_of_ble_eq_true rfl) rfl (fun H locs hP hD hS => ?_)
  refine lv_aload_n hx hb dX1_init_15 rfl (lv_at hl 0 rfl) ?_
  refine va_new (ci := 0) (fs := [.int 0, .int 0, .int 0, .int 0, .int 0, .null, .null, .null, .null, .null, .null, .null, .null, .null, .null, .null, .null]) (C := RX0) (T := TX0) (N := 17) hx hb hC.2.2.2.2 hinX0 tyX0 tyX0_ok hC.2.2.2.1 (hC.2.2.2.2 _ (List.mem_of_getElem? (i := 4) rfl)) (hC.2.2.2.2 _ (List.mem_of_getElem? (i := 5) rfl)) (hC.2.2.2.2 _ (List.mem_of_getElem? (i := 6) rfl)) hK hP hD hS hA rfl (by decide) (Nat.le_of_ble_eq_true rfl) (Nat.le_of_ble_eq_true rfl) dX1_init_16 (fun o1 H hP hD hS => ?_)
  refine lv_dup hx hb dX1_init_19 rfl ?_
  refine gn_run0 (wa := ((t, .inr (1, [.ref o, .null])) :: sw cI o r Z0)) (w := [(o1, .inr (0, [.int 0, .int 0, .int 0, .int 0, .int 0, .null, .null, .null, .null, .null, .null, .null, .null, .null, .null, .null, .null]))]) (wb := []) (va_runIN (As := []) (rest := [.ref o1, .ref t]) hC (ct_X0_init l D cI o1 H.size) ⟨va_cnB 0 hC.2.2.2.2 gX1_init_X0_init_n9 rfl rfl rfl hE (hC.2.2.2.2 _ (List.mem_of_getElem? (i := 6) rfl)) hd_X0_init ⟨Nat.le_of_ble_eq_true rfl, Nat.le_of_ble_eq_true rfl⟩, rfl, (hC.2.2.2.2 _ (List.mem_of_getElem? (i := 9) rfl))⟩ ⟨gPn_blind (fun _ _ _ _ _ => trivial), fun U hU hW => ⟨rfl, by rw [hU], by rw [hU]; exact gt_Pm.mpr (fun z hz => gt_Pm.mp hP z (List.mem_append_right _ hz)), va_K.moved hW.alike hK, gt_Dm.mpr ⟨List.nodup_cons.mpr ⟨List.not_mem_nil, List.nodup_nil⟩, fun _ _ => trivial⟩, trivial⟩⟩ rfl rfl hl.1 rfl (lv_room (Nat.le_of_ble_eq_true rfl)) dX1_init_20 ⟨Nat.le_of_ble_eq_true rfl, Nat.le_of_ble_eq_true rfl⟩) hP hD (gt_Dm.mpr ⟨List.nodup_cons.mpr ⟨List.not_mem_nil, List.nodup_nil⟩, fun z hz => (gt_Dm.mp hD).2 z (List.mem_append_right _ hz)⟩) hS hA (fun r1 H locs hP hD hS => ?_)
  refine gn_putr (ws' := (tw cI t o r Z0 o1 r1 Z0)) (ty := .object "GoatTower$Scene") hC 0 1 1 8 o1 hinX1 tyX1_ok nmX1 hK hP hD hS hin dX1_init_23 rfl rfl (by decide) rfl rfl rfl rfl rfl rfl rfl (Nat.le_of_ble_eq_true rfl) rfl (fun H locs hP hD hS => ?_)
  exact gn_vret (((o, r), (o1, r1)) : (Nat × (Nat → Nat)) × (Nat × (Nat → Nat))) hC hr hlk hK hP hD hS rfl dX1_init_26 (Nat.le_of_ble_eq_true rfl) (Nat.le_of_ble_eq_true rfl)
