/-! The mean: a division that is no NaN. -/
theorem gx_n64 (z : UInt64) (h : FP.Core.dIsNaN z = false) : vf_n64 z := by
  rw [← Bool.not_eq_true, FP.Core.isNaN_bits] at h
  unfold vf_n64
  rw [UInt64.le_iff_toNat_le, UInt64.toNat_and]
  have h2 : (0x7fffffffffffffff : UInt64).toNat = 2 ^ 63 - 1 := by decide
  have h3 : (0x7ff0000000000000 : UInt64).toNat = 9218868437227405312 := by decide
  rw [h2, h3, Nat.and_two_pow_sub_one_eq_mod]
  exact Nat.not_lt.mp h
theorem gx_divN (x y : Int32) (hy : ¬ y = 0) : FP.Core.dIsNaN (FP.ddiv (FP.i2d x) (FP.i2d y)) = false := by
  rw [FP.ddiv_core, FP.i2d_core]
  exact FP.Core.ddiv_out (FP.Core.DFin.notNaN (FP.Core.i2d_fin x)) (FP.Core.i2d_fin y) (fun z => FP.Core.i2d_ne_zero hy ((FP.Core.zero_bits2 _).mp z))
theorem gx_div (x y : Int32) (hy : ¬ y = 0) : vf_n64 (FP.ddiv (FP.i2d x) (FP.i2d y)) := gx_n64 _ (gx_divN x y hy)
section GTD
variable {p : Program} {l : Launch} {e : Env} {R : Room} {s : State} {m : MethodId} {args : Array Value} {below : List Frame} {meth : Method} {c : Code} {H : Heap} {locs : List Loc} {cells slots : Nat}
variable {cc : ByteArray} {pc nL : Nat} {Ts : List Cond} {own : String} {ls : Array Slot} {D : va_G} {A : Nat → Prop} {tys : List (ClassId × FieldType)} {ws w' : va_W} {rv : Option Value} {mc ms : Nat}
theorem gt_dret (S : CallFix p m c cc nL s args Ts own) (hr : meth.sig.returnType = some .double) (hlocks : meth.locks = false) (hK : va_K D vwCl tys s) (hP : va_P D vwCl ws H) (hD : va_D A ws) (hS : va_S A s.heap H locs) {v : UInt64} (hv : some (Value.double v) = rv) (hw : ws = w') (hdg : decode cc pc = .ok (.dreturn, 1)) (hc : cells ≤ mc) (hs : slots ≤ ms) :
    W p l e R s m args below meth c H locs cells slots (gZ below D tys w' rv A args s mc ms) (F0 m pc ls [.double v]) := by
  subst hw; subst hv
  refine W.widen hc hs ?_
  exact W.dret S.1 S.2.1 hr (fun t ht hW => ⟨⟨rfl, by rw [ht]; exact hP, va_K.moved hW.alike hK, hD⟩, hS.F ht⟩) hS.2.2 hdg hlocks
end GTD
def gxMean (S : SS) (N : Nat) : UInt64 := if S 0 2 = 0 then FP.dconst0 else FP.ddiv (FP.i2d (gxSum S N)) (FP.i2d (S 0 2))
def mMean (M : SS) (N : Nat) : UInt64 := if M 12 2 = 0 then FP.dconst0 else FP.ddiv (FP.i2d (mSum M N)) (FP.i2d (M 12 2))
theorem hd_X1_meanWaited : yX1_meanWaited.cls = RX1 ∧ yX1_meanWaited.cls ≠ "java/lang/invoke/MethodHandle" ∧ yX1_meanWaited.cls ≠ "java/lang/invoke/VarHandle" ∧ (parseMethodDescriptor yX1_meanWaited.desc).map (fun d => d.parameters.length) = some 0 := by decide +kernel
set_option maxHeartbeats 400000 in
set_option maxRecDepth 100000 in
theorem ct_X1_meanWaited (l : Launch) (D : va_G) (cI : ClassId) (t o : Nat) (r : Nat → Nat) (S : SS) (o1 : Nat) (r1 : Nat → Nat) (T : SS) (N : Nat) (hN : S 0 2 = nI N) (hN12 : N ≤ 12) : Ct l D [(cI, .int)] yX1_meanWaited wsX1_meanWaited 1 22 0 0 [.ref t] (tw cI t o r S o1 r1 T) (some (.double (gxMean S N))) (tw cI t o r S o1 r1 T) := by
  refine Ct.ofW (cc := cX1_meanWaited) (maxL := 1) (ret := (some .double)) (by decide) rfl (Nat.le_of_ble_eq_true rfl) ?_
  intro p e s m below meth c A ls hC hr hlk _ hP hD hS hK hA hl
  have hx := hC.1
  have hb := hC.2.1
  have hinX0 : ∀ w ∈ wsX00, w ∈ wsX1_meanWaited := fun _ _h => List.mem_cons_of_mem _ (List.mem_append_right _ _h)
  have hinX1 : ∀ w ∈ wsX10, w ∈ wsX1_meanWaited := fun _ _h => List.mem_cons_of_mem _ (List.mem_append_left _ (List.mem_append_right _ _h))
  have hl : lv_has ls 1 [(0, .ref t)] := hl
  refine lv_aload_n hx hb dX1_meanWaited_0 rfl (lv_at hl 0 rfl) ?_
  refine gt_get hC 0 1 0 1 hinX1 hK hP dX1_meanWaited_1 rfl rfl rfl (by decide) rfl rfl ?_
  refine gt_get hC 1 0 2 2 hinX0 hK hP dX1_meanWaited_4 rfl rfl rfl (by decide) rfl rfl ?_
  refine lv_if_ne (tgt := 12) hx hb dX1_meanWaited_7 (by decide) (fun c7_1 : ¬ ((S 0 2) = 0) => ?_) (fun c7_1 : (S 0 2) = 0 => ?_)
  · skip
    refine lv_aload_n hx hb dX1_meanWaited_12 rfl (lv_at hl 0 rfl) ?_
    refine gt_get hC 0 1 0 1 hinX1 hK hP dX1_meanWaited_13 rfl rfl rfl (by decide) rfl rfl ?_
    refine gt_callV (ws' := (tw cI t o r S o1 r1 T)) hC [(t, .inr (1, [.ref o, .ref o1]))] (sw cI o1 r1 T) 0 0 0 (ct_X0_sumOfWaited l D cI o r S N hN hN12) gX1_meanWaited_X0_sumOfWaited dX1_meanWaited_16 hK hP hD hS hA hl.1 rfl hd_X0_sumOfWaited ⟨Nat.le_of_ble_eq_true rfl, Nat.le_of_ble_eq_true rfl⟩ ⟨Nat.le_of_ble_eq_true rfl, Nat.le_of_ble_eq_true rfl⟩ rfl rfl rfl rfl rfl rfl (Nat.le_of_ble_eq_true rfl) (fun H locs hP hD hS => ?_)
    refine lv_i2d hx hb dX1_meanWaited_19 ?_
    refine lv_aload_n hx hb dX1_meanWaited_20 rfl (lv_at hl 0 rfl) ?_
    refine gt_get hC 0 1 0 1 hinX1 hK hP dX1_meanWaited_21 rfl rfl rfl (by decide) rfl rfl ?_
    refine gt_get hC 1 0 2 2 hinX0 hK hP dX1_meanWaited_24 rfl rfl rfl (by decide) rfl rfl ?_
    refine lv_i2d hx hb dX1_meanWaited_27 ?_
    refine lv_ddiv hx hb dX1_meanWaited_28 (gx_div _ _ c7_1) ?_
    exact gt_dret hC hr hlk hK (ws := (tw cI t o r S o1 r1 T)) hP hD hS (show some (Value.double (FP.ddiv (FP.i2d (gxSum S N)) (FP.i2d (S 0 2)))) = _ from (congrArg (fun z => some (Value.double z)) ((if_neg c7_1).trans rfl).symm)) rfl dX1_meanWaited_29 (Nat.le_of_ble_eq_true rfl) (Nat.le_of_ble_eq_true rfl)
  · skip
    refine lv_dconst0 hx hb dX1_meanWaited_10 ?_
    exact gt_dret hC hr hlk hK (ws := (tw cI t o r S o1 r1 T)) hP hD hS (show some (Value.double FP.dconst0) = _ from (congrArg (fun z => some (Value.double z)) ((if_pos c7_1).trans rfl).symm)) rfl dX1_meanWaited_11 (Nat.le_of_ble_eq_true rfl) (Nat.le_of_ble_eq_true rfl)

theorem hd_X2_meanWaited : yX2_meanWaited.cls = RX2 ∧ yX2_meanWaited.cls ≠ "java/lang/invoke/MethodHandle" ∧ yX2_meanWaited.cls ≠ "java/lang/invoke/VarHandle" ∧ (parseMethodDescriptor yX2_meanWaited.desc).map (fun d => d.parameters.length) = some 0 := by decide +kernel
set_option maxHeartbeats 400000 in
set_option maxRecDepth 100000 in
theorem ct_X2_meanWaited (l : Launch) (D : va_G) (cI : ClassId) (t : Nat) (q : Nat → Nat) (M K : SS) (N : Nat) (hN : M 12 2 = nI N) (hN12 : N ≤ 12) : Ct l D [(cI, .int)] yX2_meanWaited wsX2_meanWaited 1 22 0 0 [.ref t] (mw cI t q M K) (some (.double (mMean M N))) (mw cI t q (up2 M 12 0 0) K) := by
  refine Ct.ofW (cc := cX2_meanWaited) (maxL := 3) (ret := (some .double)) (by decide) rfl (Nat.le_of_ble_eq_true rfl) ?_
  intro p e s m below meth c A ls hC hr hlk _ hP hD hS hK hA hl
  have hx := hC.1
  have hb := hC.2.1
  have hinX2 : ∀ w ∈ wsX20, w ∈ wsX2_meanWaited := fun _ _h => List.mem_cons_of_mem _ (List.mem_append_right _ _h)
  have hl : lv_has ls 3 [(0, .ref t)] := hl
  refine lv_aload_n hx hb dX2_meanWaited_0 rfl (lv_at hl 0 rfl) ?_
  refine lv_iconst (v := 0) hx hb dX2_meanWaited_1 (by decide) ?_
  refine gt_puti (ws' := (mw cI t q (up2 M 12 0 0) K)) hC 0 2 0 1 hinX2 tyX2_ok nmX2 hK hP hD hS dX2_meanWaited_2 rfl rfl (by decide) rfl rfl rfl rfl (Nat.le_of_ble_eq_true rfl) (mw_f0 cI t q M K 0) (fun H locs hP hD hS => ?_)
  refine lv_iconst (v := 0) hx hb dX2_meanWaited_5 (by decide) ?_
  refine lv_istore_n (lv' := [(1, .int 0), (0, .ref t)]) hx hb dX2_meanWaited_6 rfl hl (by decide) rfl (fun ls hl => ?_)
  refine lv_iconst (v := 0) hx hb dX2_meanWaited_7 (by decide) ?_
  refine lv_istore_n (lv' := [(2, .int 0), (1, .int 0), (0, .ref t)]) hx hb dX2_meanWaited_8 rfl hl (by decide) rfl (fun ls hl => ?_)
  refine gt_loop D A s.heap 3 N (fun n => [(2, .int (nI n)), (1, .int (mSum M n)), (0, .ref t)]) (fun n => (mw cI t q (up2 M 12 0 0) K)) (lv_sub hl [0, 1, 2] rfl) hP hD hS (fun n hi_n H locs ls hP hD hS hl K1 => ?_) (fun H locs ls hP hD hS hl => ?_)
  · skip
    refine lv_iload_n hx hb dX2_meanWaited_9 rfl (lv_at hl 0 rfl) ?_
    refine lv_aload_n hx hb dX2_meanWaited_10 rfl (lv_at hl 2 rfl) ?_
    refine gt_get hC 0 2 2 2 hinX2 hK hP dX2_meanWaited_11 rfl rfl rfl (by decide) rfl rfl ?_
    refine gt_ge_f (tgt := 33) hC n N dX2_meanWaited_14 (by decide) rfl hN hi_n (by omega) ?_
    refine lv_iload_n hx hb dX2_meanWaited_17 rfl (lv_at hl 1 rfl) ?_
    refine lv_aload_n hx hb dX2_meanWaited_18 rfl (lv_at hl 2 rfl) ?_
    refine lv_iload_n hx hb dX2_meanWaited_19 rfl (lv_at hl 0 rfl) ?_
    refine lv_bipush (v := 6) hx hb dX2_meanWaited_20 (by decide) ?_
    refine gt_call0 hC 0 2 2 (ct_X2_of l D cI t q (up2 M 12 0 0) K n 6 (by omega) (by decide)) gX2_meanWaited_X2_of dX2_meanWaited_22 hK hP hD hS hA hl.1 rfl hd_X2_of ⟨Nat.le_of_ble_eq_true rfl, Nat.le_of_ble_eq_true rfl⟩ ⟨Nat.le_of_ble_eq_true rfl, Nat.le_of_ble_eq_true rfl⟩ rfl rfl rfl rfl (Nat.le_of_ble_eq_true rfl) (fun H locs hP hD hS => ?_)
    refine lv_iadd hx hb dX2_meanWaited_25 ?_
    refine lv_istore_n (lv' := [(1, .int ((mSum M n) + ((up2 M 12 0 0) 6 n))), (2, .int (nI n)), (0, .ref t)]) hx hb dX2_meanWaited_26 rfl hl (by decide) rfl (fun ls hl => ?_)
    refine gt_inc (lv' := [(2, .int (nI (n + 1))), (1, .int ((mSum M n) + ((up2 M 12 0 0) 6 n))), (0, .ref t)]) hC 1 n dX2_meanWaited_27 hl rfl rfl (by decide) rfl (fun ls hl => ?_)
    refine lv_goto (tgt := 9) hx hb dX2_meanWaited_30 (by decide) ?_
    have hl9 : lv_has ls 3 [(2, .int (nI (n + 1))), (1, .int ((mSum M n) + ((up2 M 12 0 0) 6 n))), (0, .ref t)] := lv_sub hl [0, 1, 2] rfl
    rw [show .int ((mSum M n) + ((up2 M 12 0 0) 6 n)) = (Value.int (mSum M (n + 1))) from congrArg _ (rfl)] at hl9
    exact K1 H locs ls hP hD hS hl9
  · skip
    refine lv_iload_n hx hb dX2_meanWaited_9 rfl (lv_at hl 0 rfl) ?_
    refine lv_aload_n hx hb dX2_meanWaited_10 rfl (lv_at hl 2 rfl) ?_
    refine gt_get hC 0 2 2 2 hinX2 hK hP dX2_meanWaited_11 rfl rfl rfl (by decide) rfl rfl ?_
    refine gt_ge_t (tgt := 33) hC N N dX2_meanWaited_14 (by decide) rfl hN (Nat.le_refl _) (by omega) ?_
    refine lv_aload_n hx hb dX2_meanWaited_33 rfl (lv_at hl 2 rfl) ?_
    refine gt_get hC 0 2 2 2 hinX2 hK hP dX2_meanWaited_34 rfl rfl rfl (by decide) rfl rfl ?_
    refine lv_if_ne (tgt := 44) hx hb dX2_meanWaited_37 (by decide) (fun c37_2 : ¬ ((M 12 2) = 0) => ?_) (fun c37_2 : (M 12 2) = 0 => ?_)
    · skip
      refine lv_iload_n hx hb dX2_meanWaited_44 rfl (lv_at hl 1 rfl) ?_
      refine lv_i2d hx hb dX2_meanWaited_45 ?_
      refine lv_aload_n hx hb dX2_meanWaited_46 rfl (lv_at hl 2 rfl) ?_
      refine gt_get hC 0 2 2 2 hinX2 hK hP dX2_meanWaited_47 rfl rfl rfl (by decide) rfl rfl ?_
      refine gt_stk [.int (M 12 2), .double (FP.i2d (mSum M N))] rfl ?_
      refine lv_i2d hx hb dX2_meanWaited_50 ?_
      refine lv_ddiv hx hb dX2_meanWaited_51 (gx_div _ _ c37_2) ?_
      exact gt_dret hC hr hlk hK (ws := (mw cI t q (up2 M 12 0 0) K)) hP hD hS (show some (Value.double (FP.ddiv (FP.i2d (mSum M N)) (FP.i2d (M 12 2)))) = _ from (congrArg (fun z => some (Value.double z)) ((if_neg c37_2).trans rfl).symm)) rfl dX2_meanWaited_52 (Nat.le_of_ble_eq_true rfl) (Nat.le_of_ble_eq_true rfl)
    · skip
      refine lv_dconst0 hx hb dX2_meanWaited_40 ?_
      refine lv_goto (tgt := 52) hx hb dX2_meanWaited_41 (by decide) ?_
      exact gt_dret hC hr hlk hK (ws := (mw cI t q (up2 M 12 0 0) K)) hP hD hS (show some (Value.double FP.dconst0) = _ from (congrArg (fun z => some (Value.double z)) ((if_pos c37_2).trans rfl).symm)) rfl dX2_meanWaited_52 (Nat.le_of_ble_eq_true rfl) (Nat.le_of_ble_eq_true rfl)
