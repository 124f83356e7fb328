/-! Rows of the law's body. -/
theorem gPw_blind {D : va_G} {tys : List (ClassId × FieldType)} {av : List Value} {w : va_W} {sz : Nat} : FrameBlind (gPw D tys av w sz) := by
  intro a U g mk q
  obtain ⟨q0, q1, qP, qK, qD, qT, qN⟩ := q
  exact ⟨q0, q1, qP, va_K.moved (u := U) (U := U.calling g mk a) (Vm.Alike.refl U.vm) qK, qD, qT.on (U := U.calling g mk a) va_S.rf (fun _ h => h) (State.WarmedH.refl U), qN.warm (U := U.calling g mk a) (State.WarmedH.refl U)⟩
theorem lg_cmp_self (x : Int64) : lg_cmp x x = 0 := by
  unfold lg_cmp
  simp
theorem xc_0 {A B : String} {x : Option String} (h : xc A B x = 0) : x = none := by
  cases x with
  | none => rfl
  | some E =>
    exfalso
    have h : (if E = A then (1 : Int32) else (if E = B then 2 else 3)) = 0 := h
    split at h
    · exact absurd h (by decide)
    · split at h
      · exact absurd h (by decide)
      · exact absurd h (by decide)
section GLR
variable {p : Program} {l : Launch} {e : Env} {R : Room} {s : State} {m : MethodId} {args : Array Value} {below : List Frame} {meth : Method} {c : Code} {H : Heap} {locs : List Loc} {cells slots : Nat} {Q : State → Prop}
variable {cc : ByteArray} {pc nL : Nat} {Ts : List Cond} {own : String} {ls : Array Slot} {rest st0 : List Value} {D : va_G} {A : Nat → Prop} {tys : List (ClassId × FieldType)}
variable {mcC msC : Nat}
/-- a call of one of the law's own methods -/
theorem gl_callS {wa w w' : va_W} {rv : Option Value} (S : CallFix p m c cc nL s args Ts own) (n : Nat) {fr lo : Nat} {y : MethodName} {wsy : List Cond} {As : List Value} {index maxL : Nat} {bytes : ByteArray} {ret : Option FieldType} {hh : List (Nat × Nat × Nat × Nat)} {ws0 : List Cond}
    (hM : Cw l D tys y wsy fr lo mcC msC As w rv w') (hG : GoodIn Ts (va_wsS own index y wsy)) (hdg : decode cc pc = .ok (.invokestatic index, 3)) (hTh : gTh A s s.heap) (hNc : gNc s) (hK : va_K D vwCl tys s) (hP : va_P D vwCl (wa ++ w) H) (hD : va_D A (wa ++ w)) (hS : va_S A s.heap H locs) (hA : ∀ q, s.heap.size ≤ q → A q) (hlL : ls.size = nL)
    (hwy : wsy = Cond.codeWith y bytes maxL ret hh :: ws0) (hd : y.cls ≠ "java/lang/invoke/MethodHandle" ∧ y.cls ≠ "java/lang/invoke/VarHandle" ∧ (parseMethodDescriptor y.desc).map (fun d => d.parameters.length) = some n) (hR : fr + 1 ≤ R.frames ∧ 8 + (maxL + 11) + lo ≤ R.locals) (hroom : cells + mcC ≤ R.cells ∧ slots + msC ≤ R.slots)
    (hn : As.length = n) (hst : st0 = As.reverse ++ rest) (hcat : (rest.map fun v => v.category).sum ≤ 8)
    (kk : ∀ (H1 : Heap) (locs1 : List Loc), va_P D vwCl (wa ++ w') H1 → va_D A (wa ++ w') → va_S A s.heap H1 locs1 → W p l e R s m args below meth c H1 locs1 (cells + mcC) (slots + msC) Q (F0 m (pc + 3) ls (rv.toList ++ rest))) : W p l e R s m args below meth c H locs cells slots Q (F0 m pc ls st0) := by
  have hPw : va_P D vwCl w H := gt_Pm.mpr fun q hq => gt_Pm.mp hP q (List.mem_append_right _ hq)
  have hDw : va_D A w := by
    have h := gt_Dm.mp hD
    refine gt_Dm.mpr ⟨?_, fun q hq => h.2 q (List.mem_append_right _ hq)⟩
    have h1 := h.1
    rw [List.map_append, List.nodup_append] at h1
    exact h1.2.1
  have hF : ∀ q, va_A w H.size q → A q := by
    rintro q (⟨k, e9, h⟩ | h)
    · exact hDw.2 k (q, e9) h
    · exact hA q (Nat.le_trans hS.1 h)
  have eN : ∀ z : va_W, wa ++ (z ++ []) = wa ++ z := fun z => by rw [List.append_nil]
  refine gx_run0 (x := none) (w := w) (vx_runSX S (hM H.size) (vx_cwSW n S.2.2.2.2 hG hwy rfl rfl hd hR) ⟨gPw_blind, fun U hU hW => ⟨rfl, by rw [hU], by rw [hU]; exact hPw, va_K.moved hW.alike hK, hDw.weaken (fun _ _ _ _ => trivial), by rw [hU]; exact hTh.on hS hF hW, hNc.warm hW⟩⟩ rfl hn hlL hst (lv_room hcat) hdg hroom) hDw hS hA (fun E ce q9 H1 locs1 g0 g1 g2 g3 g4 g5 g6 g7 g8 => (nomatch g0)) (fun H1 locs1 g0 g1 g2 g3 g4 g5 => ?_)
  obtain ⟨j1, j2⟩ := gt_swap (wa := wa) (w := w) (wb := []) (w' := w') (by rw [eN]; exact hP) (by rw [eN]; exact hD) g3 g4 g1 g2
  rw [eN] at j1 j2
  exact kk H1 locs1 j1 j2 g5
/-- an invokevirtual of a method that throws nothing here, in the midst of a world -/
theorem gl_callX {tysC : List (ClassId × FieldType)} {rvC : Option Value} {wa w wC' wb : va_W} (S : CallFix p m c cc nL s args Ts own) (q0 ci n : Nat) {fr lo : Nat} {y : MethodName} {wsy : List Cond} {b : Nat} {As : List Value} {C : String} {index maxL : Nat} {bytes : ByteArray} {ret : Option FieldType} {T : u_T} {N : Nat} {fs : List Value} {ws0 : List Cond}
    (hM : Cx l D tysC y wsy fr lo mcC msC (.ref b :: As) w none rvC wC') (hG : GoodIn Ts (wsV own index C y wsy)) (hdg : decode cc pc = .ok (.invokevirtual index, 3)) (hTh : gTh A s s.heap) (hK : va_K D vwCl tysC s) (hP : va_P D vwCl (wa ++ (w ++ wb)) H) (hD : va_D A (wa ++ (w ++ wb))) (hS : va_S A s.heap H locs) (hA : ∀ q, s.heap.size ≤ q → A q) (hlL : ls.size = nL)
    (hwy : wsy = Cond.code y bytes maxL ret :: ws0) (hd : y.cls = C ∧ y.cls ≠ "java/lang/invoke/MethodHandle" ∧ y.cls ≠ "java/lang/invoke/VarHandle" ∧ (parseMethodDescriptor y.desc).map (fun d => d.parameters.length) = some n) (hR : fr + 1 ≤ R.frames ∧ 8 + (maxL + 11) + lo ≤ R.locals) (hroom : cells + mcC ≤ R.cells ∧ slots + msC ≤ R.slots)
    (he : w[q0]? = some (b, .inr (ci, fs))) (hc : vwCl[ci]? = some (C, T, N)) (hn : As.length = n) (hst : st0 = As.reverse ++ .ref b :: rest) (hcat : (rest.map fun v => v.category).sum ≤ 8)
    (kk : ∀ (H1 : Heap) (locs1 : List Loc), va_P D vwCl (wa ++ (wC' ++ wb)) H1 → va_D A (wa ++ (wC' ++ wb)) → va_S A s.heap H1 locs1 → W p l e R s m args below meth c H1 locs1 (cells + mcC) (slots + msC) Q (F0 m (pc + 3) ls (rvC.toList ++ rest))) : W p l e R s m args below meth c H locs cells slots Q (F0 m pc ls st0) := by
  have hPw : va_P D vwCl w H := gt_Pm.mpr fun q hq => gt_Pm.mp hP q (List.mem_append_right _ (List.mem_append_left _ hq))
  have hDw : va_D A w := by
    have h := gt_Dm.mp hD
    refine gt_Dm.mpr ⟨?_, fun q hq => h.2 q (List.mem_append_right _ (List.mem_append_left _ hq))⟩
    have h1 := h.1
    rw [List.map_append, List.map_append, List.nodup_append, List.nodup_append] at h1
    exact h1.2.1.1
  have hF : ∀ q, va_A w H.size q → A q := by
    rintro q (⟨k, e9, h⟩ | h)
    · exact hDw.2 k (q, e9) h
    · exact hA q (Nat.le_trans hS.1 h)
  refine gx_run0 (w := w) (vx_runV (C := C) (As := As) (rest := rest) S (hM H.size) (cwV n S.2.2.2.2 hG hwy rfl rfl hd hR) ⟨gPx_blind, va_recv hK hPw hc he, fun U hU hW => ⟨rfl, by rw [hU], by rw [hU]; exact hPw, va_K.moved hW.alike hK, hDw.weaken (fun _ _ _ _ => trivial), by rw [hU]; exact hTh.on hS hF hW⟩⟩ rfl hn hlL hst (lv_room hcat) hdg hroom) hDw hS hA (fun E ce q9 H1 locs1 g0 g1 g2 g3 g4 g5 g6 g7 g8 => (nomatch g0)) (fun H1 locs1 g0 g1 g2 g3 g4 g5 => ?_)
  obtain ⟨j1, j2⟩ := gt_swap (wa := wa) (w := w) (wb := wb) (w' := wC') hP hD g3 g4 g1 g2
  exact kk H1 locs1 j1 j2 g5
end GLR
theorem gxMean_n (S : SS) (N : Nat) : FP.Core.dIsNaN (gxMean S N) = false := by
  unfold gxMean
  split
  · decide +kernel
  · rename_i h
    exact gx_divN _ _ h
theorem gxMean_self (S : SS) (N : Nat) : Op.cmpValue (FP.dcmp (gxMean S N) (gxMean S N)) .l = 0 := by
  have h : FP.Core.val64 (gxMean S N) ≠ .nan := fun z => by
    have h2 := (FP.Core.dIsNaN_iff _).mpr z
    rw [gxMean_n] at h2
    cases h2
  rw [FP.dcmp_core, FP.Core.dcmp_self h]
  rfl
