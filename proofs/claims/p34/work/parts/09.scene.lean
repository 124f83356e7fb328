/-! The contracts of the Scene's methods (laid by wip/whole/gen/scene.py). -/
theorem hd_X0_waitsAt : yX0_waitsAt.cls = RX0 ∧ yX0_waitsAt.cls ≠ "java/lang/invoke/MethodHandle" ∧ yX0_waitsAt.cls ≠ "java/lang/invoke/VarHandle" ∧ (parseMethodDescriptor yX0_waitsAt.desc).map (fun d => d.parameters.length) = some 2 := by decide +kernel
set_option maxHeartbeats 4000000 in
set_option maxRecDepth 100000 in
theorem ct_X0_waitsAt (l : Launch) (D : va_G) (cI : ClassId) (o : Nat) (r : Nat → Nat) (S : SS) (i : Nat) (g : Int32) (hi : i < 12) : Ct l D [(cI, .int)] yX0_waitsAt wsX0_waitsAt 0 0 0 0 [.ref o, .int (nI i), .int g] (sw cI o r S) (some (.int (gxWt S i g))) (sw cI o r S) := by
  refine Ct.ofW (cc := cX0_waitsAt) (maxL := 3) (ret := (some .boolean)) (by decide) rfl (Nat.le_of_ble_eq_true rfl) ?_
  intro p e s m below meth c A ls hC hr hlk _ hP hD hS hK hA hl
  have hx := hC.1
  have hb := hC.2.1
  have hinX0 : ∀ w ∈ wsX00, w ∈ wsX0_waitsAt := fun _ _h => List.mem_cons_of_mem _ (List.mem_append_right _ _h)
  have hl : lv_has ls 3 [(0, .ref o), (1, .int (nI i)), (2, .int g)] := hl
  refine lv_aload_n hx hb dX0_waitsAt_0 rfl (lv_at hl 0 rfl) ?_
  refine gt_get hC 0 0 9 1 hinX0 hK hP dX0_waitsAt_1 rfl rfl rfl (by decide) rfl rfl ?_
  refine lv_iload_n hx hb dX0_waitsAt_4 rfl (lv_at hl 1 rfl) ?_
  refine gt_ald hC 5 0 i hK hP dX0_waitsAt_5 rfl rfl rfl (by omega) (Nat.le_of_ble_eq_true rfl) ?_
  refine lv_iconst (v := 1) hx hb dX0_waitsAt_6 (by decide) ?_
  refine gt_meet (rest := []) 25 (gxWt S i g) (fun K1 => ?_) ?_
  · skip
    refine lv_icmp_ne (tgt := 24) hx hb dX0_waitsAt_7 (by decide) (fun c7_2 : ¬ ((S 9 i) = 1) => ?_) (fun c7_2 : (S 9 i) = 1 => ?_)
    · skip
      refine lv_iconst (v := 0) hx hb dX0_waitsAt_24 (by decide) ?_
      exact K1 _ (show 0 = (if (S 9 i) = 1 then (if (S 10 i) = g then 1 else 0) else 0) from by rw [if_neg c7_2])
    · skip
      refine lv_aload_n hx hb dX0_waitsAt_10 rfl (lv_at hl 0 rfl) ?_
      refine gt_get hC 0 0 10 2 hinX0 hK hP dX0_waitsAt_11 rfl rfl rfl (by decide) rfl rfl ?_
      refine lv_iload_n hx hb dX0_waitsAt_14 rfl (lv_at hl 1 rfl) ?_
      refine gt_ald hC 6 0 i hK hP dX0_waitsAt_15 rfl rfl rfl (by omega) (Nat.le_of_ble_eq_true rfl) ?_
      refine lv_iload_n hx hb dX0_waitsAt_16 rfl (lv_at hl 2 rfl) ?_
      refine lv_icmp_ne (tgt := 24) hx hb dX0_waitsAt_17 (by decide) (fun c17_3 : ¬ ((S 10 i) = g) => ?_) (fun c17_3 : (S 10 i) = g => ?_)
      · skip
        refine lv_iconst (v := 0) hx hb dX0_waitsAt_24 (by decide) ?_
        exact K1 _ (show 0 = (if (S 9 i) = 1 then (if (S 10 i) = g then 1 else 0) else 0) from by rw [if_pos c7_2, if_neg c17_3])
      · skip
        refine lv_iconst (v := 1) hx hb dX0_waitsAt_20 (by decide) ?_
        refine lv_goto (tgt := 25) hx hb dX0_waitsAt_21 (by decide) ?_
        exact K1 _ (show 1 = (if (S 9 i) = 1 then (if (S 10 i) = g then 1 else 0) else 0) from by rw [if_pos c7_2, if_pos c17_3])
  · skip
    exact gt_zret hC hr hlk hK (ws := (sw cI o r S)) hP hD hS (gxWt_01 S i g) (show some (Value.int (gxWt S i g)) = _ from rfl) rfl dX0_waitsAt_25 (Nat.le_of_ble_eq_true rfl) (Nat.le_of_ble_eq_true rfl)

theorem hd_X0_held : yX0_held.cls = RX0 ∧ yX0_held.cls ≠ "java/lang/invoke/MethodHandle" ∧ yX0_held.cls ≠ "java/lang/invoke/VarHandle" ∧ (parseMethodDescriptor yX0_held.desc).map (fun d => d.parameters.length) = some 1 := by decide +kernel
set_option maxHeartbeats 4000000 in
set_option maxRecDepth 100000 in
theorem ct_X0_held (l : Launch) (D : va_G) (cI : ClassId) (o : Nat) (r : Nat → Nat) (S : SS) (i : Nat) (hi : i < 12) : Ct l D [(cI, .int)] yX0_held wsX0_held 0 0 0 0 [.ref o, .int (nI i)] (sw cI o r S) (some (.int (gxHeld S i))) (sw cI o r S) := by
  refine Ct.ofW (cc := cX0_held) (maxL := 2) (ret := (some .int)) (by decide) rfl (Nat.le_of_ble_eq_true rfl) ?_
  intro p e s m below meth c A ls hC hr hlk _ hP hD hS hK hA hl
  have hx := hC.1
  have hb := hC.2.1
  have hinX0 : ∀ w ∈ wsX00, w ∈ wsX0_held := fun _ _h => List.mem_cons_of_mem _ (List.mem_append_right _ _h)
  have hl : lv_has ls 2 [(0, .ref o), (1, .int (nI i))] := hl
  refine lv_aload_n hx hb dX0_held_0 rfl (lv_at hl 0 rfl) ?_
  refine gt_get hC 0 0 9 1 hinX0 hK hP dX0_held_1 rfl rfl rfl (by decide) rfl rfl ?_
  refine lv_iload_n hx hb dX0_held_4 rfl (lv_at hl 1 rfl) ?_
  refine gt_ald hC 5 0 i hK hP dX0_held_5 rfl rfl rfl (by omega) (Nat.le_of_ble_eq_true rfl) ?_
  refine lv_iconst (v := 2) hx hb dX0_held_6 (by decide) ?_
  refine gt_meet (rest := []) 20 (gxHeld S i) (fun K1 => ?_) ?_
  · skip
    refine lv_icmp_ne (tgt := 19) hx hb dX0_held_7 (by decide) (fun c7_2 : ¬ ((S 9 i) = 2) => ?_) (fun c7_2 : (S 9 i) = 2 => ?_)
    · skip
      refine lv_iconst (v := 0) hx hb dX0_held_19 (by decide) ?_
      exact K1 _ (show 0 = (if (S 9 i) = 2 then (S 11 i) else 0) from by rw [if_neg c7_2])
    · skip
      refine lv_aload_n hx hb dX0_held_10 rfl (lv_at hl 0 rfl) ?_
      refine gt_get hC 0 0 11 2 hinX0 hK hP dX0_held_11 rfl rfl rfl (by decide) rfl rfl ?_
      refine lv_iload_n hx hb dX0_held_14 rfl (lv_at hl 1 rfl) ?_
      refine gt_ald hC 7 0 i hK hP dX0_held_15 rfl rfl rfl (by omega) (Nat.le_of_ble_eq_true rfl) ?_
      refine lv_goto (tgt := 20) hx hb dX0_held_16 (by decide) ?_
      exact K1 _ (show (S 11 i) = (if (S 9 i) = 2 then (S 11 i) else 0) from by rw [if_pos c7_2])
  · skip
    exact gt_iret hC hr hlk hK (ws := (sw cI o r S)) hP hD hS (show some (Value.int (gxHeld S i)) = _ from rfl) rfl dX0_held_20 (Nat.le_of_ble_eq_true rfl) (Nat.le_of_ble_eq_true rfl)

theorem hd_X0_seeming : yX0_seeming.cls = RX0 ∧ yX0_seeming.cls ≠ "java/lang/invoke/MethodHandle" ∧ yX0_seeming.cls ≠ "java/lang/invoke/VarHandle" ∧ (parseMethodDescriptor yX0_seeming.desc).map (fun d => d.parameters.length) = some 1 := by decide +kernel
set_option maxHeartbeats 4000000 in
set_option maxRecDepth 100000 in
theorem ct_X0_seeming (l : Launch) (D : va_G) (cI : ClassId) (o : Nat) (r : Nat → Nat) (S : SS) (i : Nat) (hi : i < 12) : Ct l D [(cI, .int)] yX0_seeming wsX0_seeming 0 0 0 0 [.ref o, .int (nI i)] (sw cI o r S) (some (.int (gxSeem S i))) (sw cI o r S) := by
  refine Ct.ofW (cc := cX0_seeming) (maxL := 2) (ret := (some .int)) (by decide) rfl (Nat.le_of_ble_eq_true rfl) ?_
  intro p e s m below meth c A ls hC hr hlk _ hP hD hS hK hA hl
  have hx := hC.1
  have hb := hC.2.1
  have hinX0 : ∀ w ∈ wsX00, w ∈ wsX0_seeming := fun _ _h => List.mem_cons_of_mem _ (List.mem_append_right _ _h)
  have hl : lv_has ls 2 [(0, .ref o), (1, .int (nI i))] := hl
  refine lv_aload_n hx hb dX0_seeming_0 rfl (lv_at hl 0 rfl) ?_
  refine gt_get hC 0 0 8 1 hinX0 hK hP dX0_seeming_1 rfl rfl rfl (by decide) rfl rfl ?_
  refine lv_iload_n hx hb dX0_seeming_4 rfl (lv_at hl 1 rfl) ?_
  refine gt_ald hC 4 0 i hK hP dX0_seeming_5 rfl rfl rfl (by omega) (Nat.le_of_ble_eq_true rfl) ?_
  refine lv_aload_n hx hb dX0_seeming_6 rfl (lv_at hl 0 rfl) ?_
  refine gt_get hC 0 0 15 2 hinX0 hK hP dX0_seeming_7 rfl rfl rfl (by decide) rfl rfl ?_
  refine lv_iload_n hx hb dX0_seeming_10 rfl (lv_at hl 1 rfl) ?_
  refine gt_ald hC 11 0 i hK hP dX0_seeming_11 rfl rfl rfl (by omega) (Nat.le_of_ble_eq_true rfl) ?_
  refine lv_iconst (v := 3) hx hb dX0_seeming_12 (by decide) ?_
  refine lv_idiv hx hb dX0_seeming_13 (by decide) ?_
  refine lv_iadd hx hb dX0_seeming_14 ?_
  exact gt_iret hC hr hlk hK (ws := (sw cI o r S)) hP hD hS (show some (Value.int ((S 8 i) + ((S 15 i) / 3))) = _ from rfl) rfl dX0_seeming_15 (Nat.le_of_ble_eq_true rfl) (Nat.le_of_ble_eq_true rfl)

theorem hd_X0_freePermits : yX0_freePermits.cls = RX0 ∧ yX0_freePermits.cls ≠ "java/lang/invoke/MethodHandle" ∧ yX0_freePermits.cls ≠ "java/lang/invoke/VarHandle" ∧ (parseMethodDescriptor yX0_freePermits.desc).map (fun d => d.parameters.length) = some 1 := by decide +kernel
set_option maxHeartbeats 4000000 in
set_option maxRecDepth 100000 in
theorem ct_X0_freePermits (l : Launch) (D : va_G) (cI : ClassId) (o : Nat) (r : Nat → Nat) (S : SS) (g : Nat) (hg : g < 4) (N : Nat) (hN : S 0 2 = nI N) (hN12 : N ≤ 12) : Ct l D [(cI, .int)] yX0_freePermits wsX0_freePermits 0 0 0 0 [.ref o, .int (nI g)] (sw cI o r S) (some (.int (gxFree S g N))) (sw cI o r S) := by
  refine Ct.ofW (cc := cX0_freePermits) (maxL := 4) (ret := (some .int)) (by decide) rfl (Nat.le_of_ble_eq_true rfl) ?_
  intro p e s m below meth c A ls hC hr hlk _ hP hD hS hK hA hl
  have hx := hC.1
  have hb := hC.2.1
  have hinX0 : ∀ w ∈ wsX00, w ∈ wsX0_freePermits := fun _ _h => List.mem_cons_of_mem _ (List.mem_append_right _ _h)
  have hl : lv_has ls 4 [(0, .ref o), (1, .int (nI g))] := hl
  refine lv_aload_n hx hb dX0_freePermits_0 rfl (lv_at hl 0 rfl) ?_
  refine gt_get hC 0 0 5 1 hinX0 hK hP dX0_freePermits_1 rfl rfl rfl (by decide) rfl rfl ?_
  refine lv_iload_n hx hb dX0_freePermits_4 rfl (lv_at hl 1 rfl) ?_
  refine gt_ald hC 1 0 g hK hP dX0_freePermits_5 rfl rfl rfl (by omega) (Nat.le_of_ble_eq_true rfl) ?_
  refine lv_istore_n (lv' := [(2, .int (S 5 g)), (0, .ref o), (1, .int (nI g))]) hx hb dX0_freePermits_6 rfl hl (by decide) rfl (fun ls hl => ?_)
  refine lv_iconst (v := 0) hx hb dX0_freePermits_7 (by decide) ?_
  refine lv_istore_n (lv' := [(3, .int 0), (2, .int (S 5 g)), (0, .ref o), (1, .int (nI g))]) hx hb dX0_freePermits_8 rfl hl (by decide) rfl (fun ls hl => ?_)
  refine gt_loop D A s.heap 4 N (fun n => [(3, .int (nI n)), (2, .int (gxFree S g n)), (0, .ref o), (1, .int (nI g))]) (fun n => (sw cI o r S)) (lv_sub hl [0, 1, 2, 3] rfl) hP hD hS (fun n hi_n H locs ls hP hD hS hl K1 => ?_) (fun H locs ls hP hD hS hl => ?_)
  · skip
    refine lv_iload_n hx hb dX0_freePermits_9 rfl (lv_at hl 0 rfl) ?_
    refine lv_aload_n hx hb dX0_freePermits_10 rfl (lv_at hl 2 rfl) ?_
    refine gt_get hC 0 0 2 2 hinX0 hK hP dX0_freePermits_11 rfl rfl rfl (by decide) rfl rfl ?_
    refine gt_ge_f (tgt := 52) hC n N dX0_freePermits_14 (by decide) rfl hN hi_n (by omega) ?_
    refine lv_aload_n hx hb dX0_freePermits_17 rfl (lv_at hl 2 rfl) ?_
    refine gt_get hC 0 0 9 3 hinX0 hK hP dX0_freePermits_18 rfl rfl rfl (by decide) rfl rfl ?_
    refine lv_iload_n hx hb dX0_freePermits_21 rfl (lv_at hl 0 rfl) ?_
    refine gt_ald hC 5 0 n hK hP dX0_freePermits_22 rfl rfl rfl (by omega) (Nat.le_of_ble_eq_true rfl) ?_
    refine lv_iconst (v := 2) hx hb dX0_freePermits_23 (by decide) ?_
    refine lv_icmp_ne (tgt := 46) hx hb dX0_freePermits_24 (by decide) (fun c24_2 : ¬ ((S 9 n) = 2) => ?_) (fun c24_2 : (S 9 n) = 2 => ?_)
    · skip
      refine gt_inc (lv' := [(3, .int (nI (n + 1))), (2, .int (gxFree S g n)), (0, .ref o), (1, .int (nI g))]) hC 0 n dX0_freePermits_46 hl rfl rfl (by decide) rfl (fun ls hl => ?_)
      refine lv_goto (tgt := 9) hx hb dX0_freePermits_49 (by decide) ?_
      have hl9 : lv_has ls 4 [(3, .int (nI (n + 1))), (2, .int (gxFree S g n)), (0, .ref o), (1, .int (nI g))] := lv_sub hl [0, 1, 2, 3] rfl
      rw [show .int (gxFree S g n) = (Value.int (gxFree S g (n + 1))) from congrArg _ (by simp only [gxFree, if_neg c24_2])] at hl9
      exact K1 H locs ls hP hD hS hl9
    · skip
      refine lv_aload_n hx hb dX0_freePermits_27 rfl (lv_at hl 2 rfl) ?_
      refine gt_get hC 0 0 10 4 hinX0 hK hP dX0_freePermits_28 rfl rfl rfl (by decide) rfl rfl ?_
      refine lv_iload_n hx hb dX0_freePermits_31 rfl (lv_at hl 0 rfl) ?_
      refine gt_ald hC 6 0 n hK hP dX0_freePermits_32 rfl rfl rfl (by omega) (Nat.le_of_ble_eq_true rfl) ?_
      refine lv_iload_n hx hb dX0_freePermits_33 rfl (lv_at hl 3 rfl) ?_
      refine lv_icmp_ne (tgt := 46) hx hb dX0_freePermits_34 (by decide) (fun c34_3 : ¬ ((S 10 n) = (nI g)) => ?_) (fun c34_3 : (S 10 n) = (nI g) => ?_)
      · skip
        refine gt_inc (lv' := [(3, .int (nI (n + 1))), (2, .int (gxFree S g n)), (0, .ref o), (1, .int (nI g))]) hC 0 n dX0_freePermits_46 hl rfl rfl (by decide) rfl (fun ls hl => ?_)
        refine lv_goto (tgt := 9) hx hb dX0_freePermits_49 (by decide) ?_
        have hl9 : lv_has ls 4 [(3, .int (nI (n + 1))), (2, .int (gxFree S g n)), (0, .ref o), (1, .int (nI g))] := lv_sub hl [0, 1, 2, 3] rfl
        rw [show .int (gxFree S g n) = (Value.int (gxFree S g (n + 1))) from congrArg _ (by simp only [gxFree, if_pos c24_2, if_neg c34_3])] at hl9
        exact K1 H locs ls hP hD hS hl9
      · skip
        refine lv_iload_n hx hb dX0_freePermits_37 rfl (lv_at hl 1 rfl) ?_
        refine lv_aload_n hx hb dX0_freePermits_38 rfl (lv_at hl 2 rfl) ?_
        refine gt_get hC 0 0 11 5 hinX0 hK hP dX0_freePermits_39 rfl rfl rfl (by decide) rfl rfl ?_
        refine lv_iload_n hx hb dX0_freePermits_42 rfl (lv_at hl 0 rfl) ?_
        refine gt_ald hC 7 0 n hK hP dX0_freePermits_43 rfl rfl rfl (by omega) (Nat.le_of_ble_eq_true rfl) ?_
        refine lv_isub hx hb dX0_freePermits_44 ?_
        refine lv_istore_n (lv' := [(2, .int ((gxFree S g n) - (S 11 n))), (3, .int (nI n)), (0, .ref o), (1, .int (nI g))]) hx hb dX0_freePermits_45 rfl hl (by decide) rfl (fun ls hl => ?_)
        refine gt_inc (lv' := [(3, .int (nI (n + 1))), (2, .int ((gxFree S g n) - (S 11 n))), (0, .ref o), (1, .int (nI g))]) hC 1 n dX0_freePermits_46 hl rfl rfl (by decide) rfl (fun ls hl => ?_)
        refine lv_goto (tgt := 9) hx hb dX0_freePermits_49 (by decide) ?_
        have hl9 : lv_has ls 4 [(3, .int (nI (n + 1))), (2, .int ((gxFree S g n) - (S 11 n))), (0, .ref o), (1, .int (nI g))] := lv_sub hl [0, 1, 2, 3] rfl
        rw [show .int ((gxFree S g n) - (S 11 n)) = (Value.int (gxFree S g (n + 1))) from congrArg _ (by simp only [gxFree, if_pos c24_2, if_pos c34_3])] at hl9
        exact K1 H locs ls hP hD hS hl9
  · skip
    refine lv_iload_n hx hb dX0_freePermits_9 rfl (lv_at hl 0 rfl) ?_
    refine lv_aload_n hx hb dX0_freePermits_10 rfl (lv_at hl 2 rfl) ?_
    refine gt_get hC 0 0 2 2 hinX0 hK hP dX0_freePermits_11 rfl rfl rfl (by decide) rfl rfl ?_
    refine gt_ge_t (tgt := 52) hC N N dX0_freePermits_14 (by decide) rfl hN (Nat.le_refl _) (by omega) ?_
    refine lv_iload_n hx hb dX0_freePermits_52 rfl (lv_at hl 1 rfl) ?_
    exact gt_iret hC hr hlk hK (ws := (sw cI o r S)) hP hD hS (show some (Value.int (gxFree S g N)) = _ from rfl) rfl dX0_freePermits_53 (Nat.le_of_ble_eq_true rfl) (Nat.le_of_ble_eq_true rfl)

theorem hd_X0_countInState : yX0_countInState.cls = RX0 ∧ yX0_countInState.cls ≠ "java/lang/invoke/MethodHandle" ∧ yX0_countInState.cls ≠ "java/lang/invoke/VarHandle" ∧ (parseMethodDescriptor yX0_countInState.desc).map (fun d => d.parameters.length) = some 1 := by decide +kernel
set_option maxHeartbeats 4000000 in
set_option maxRecDepth 100000 in
theorem ct_X0_countInState (l : Launch) (D : va_G) (cI : ClassId) (o : Nat) (r : Nat → Nat) (S : SS) (w : Int32) (N : Nat) (hN : S 0 2 = nI N) (hN12 : N ≤ 12) : Ct l D [(cI, .int)] yX0_countInState wsX0_countInState 0 0 0 0 [.ref o, .int w] (sw cI o r S) (some (.int (gxCnt S w N))) (sw cI o r S) := by
  refine Ct.ofW (cc := cX0_countInState) (maxL := 4) (ret := (some .int)) (by decide) rfl (Nat.le_of_ble_eq_true rfl) ?_
  intro p e s m below meth c A ls hC hr hlk _ hP hD hS hK hA hl
  have hx := hC.1
  have hb := hC.2.1
  have hinX0 : ∀ w ∈ wsX00, w ∈ wsX0_countInState := fun _ _h => List.mem_cons_of_mem _ (List.mem_append_right _ _h)
  have hl : lv_has ls 4 [(0, .ref o), (1, .int w)] := hl
  refine lv_iconst (v := 0) hx hb dX0_countInState_0 (by decide) ?_
  refine lv_istore_n (lv' := [(2, .int 0), (0, .ref o), (1, .int w)]) hx hb dX0_countInState_1 rfl hl (by decide) rfl (fun ls hl => ?_)
  refine lv_iconst (v := 0) hx hb dX0_countInState_2 (by decide) ?_
  refine lv_istore_n (lv' := [(3, .int 0), (2, .int 0), (0, .ref o), (1, .int w)]) hx hb dX0_countInState_3 rfl hl (by decide) rfl (fun ls hl => ?_)
  refine gt_loop D A s.heap 4 N (fun n => [(3, .int (nI n)), (2, .int (gxCnt S w n)), (0, .ref o), (1, .int w)]) (fun n => (sw cI o r S)) (lv_sub hl [0, 1, 2, 3] rfl) hP hD hS (fun n hi_n H locs ls hP hD hS hl K1 => ?_) (fun H locs ls hP hD hS hl => ?_)
  · skip
    refine lv_iload_n hx hb dX0_countInState_4 rfl (lv_at hl 0 rfl) ?_
    refine lv_aload_n hx hb dX0_countInState_5 rfl (lv_at hl 2 rfl) ?_
    refine gt_get hC 0 0 2 1 hinX0 hK hP dX0_countInState_6 rfl rfl rfl (by decide) rfl rfl ?_
    refine gt_ge_f (tgt := 31) hC n N dX0_countInState_9 (by decide) rfl hN hi_n (by omega) ?_
    refine lv_aload_n hx hb dX0_countInState_12 rfl (lv_at hl 2 rfl) ?_
    refine gt_get hC 0 0 9 2 hinX0 hK hP dX0_countInState_13 rfl rfl rfl (by decide) rfl rfl ?_
    refine lv_iload_n hx hb dX0_countInState_16 rfl (lv_at hl 0 rfl) ?_
    refine gt_ald hC 5 0 n hK hP dX0_countInState_17 rfl rfl rfl (by omega) (Nat.le_of_ble_eq_true rfl) ?_
    refine lv_iload_n hx hb dX0_countInState_18 rfl (lv_at hl 3 rfl) ?_
    refine lv_icmp_ne (tgt := 25) hx hb dX0_countInState_19 (by decide) (fun c19_2 : ¬ ((S 9 n) = w) => ?_) (fun c19_2 : (S 9 n) = w => ?_)
    · skip
      refine gt_inc (lv' := [(3, .int (nI (n + 1))), (2, .int (gxCnt S w n)), (0, .ref o), (1, .int w)]) hC 0 n dX0_countInState_25 hl rfl rfl (by decide) rfl (fun ls hl => ?_)
      refine lv_goto (tgt := 4) hx hb dX0_countInState_28 (by decide) ?_
      have hl9 : lv_has ls 4 [(3, .int (nI (n + 1))), (2, .int (gxCnt S w n)), (0, .ref o), (1, .int w)] := lv_sub hl [0, 1, 2, 3] rfl
      rw [show .int (gxCnt S w n) = (Value.int (gxCnt S w (n + 1))) from congrArg _ (by simp only [gxCnt, if_neg c19_2])] at hl9
      exact K1 H locs ls hP hD hS hl9
    · skip
      refine lv_iinc (v := (gxCnt S w n) + 1) (lv' := [(2, .int ((gxCnt S w n) + 1)), (3, .int (nI n)), (0, .ref o), (1, .int w)]) hx hb dX0_countInState_22 hl (k := 1) rfl rfl (by decide) rfl (fun ls hl => ?_)
      refine gt_inc (lv' := [(3, .int (nI (n + 1))), (2, .int ((gxCnt S w n) + 1)), (0, .ref o), (1, .int w)]) hC 1 n dX0_countInState_25 hl rfl rfl (by decide) rfl (fun ls hl => ?_)
      refine lv_goto (tgt := 4) hx hb dX0_countInState_28 (by decide) ?_
      have hl9 : lv_has ls 4 [(3, .int (nI (n + 1))), (2, .int ((gxCnt S w n) + 1)), (0, .ref o), (1, .int w)] := lv_sub hl [0, 1, 2, 3] rfl
      rw [show .int ((gxCnt S w n) + 1) = (Value.int (gxCnt S w (n + 1))) from congrArg _ (by simp only [gxCnt, if_pos c19_2])] at hl9
      exact K1 H locs ls hP hD hS hl9
  · skip
    refine lv_iload_n hx hb dX0_countInState_4 rfl (lv_at hl 0 rfl) ?_
    refine lv_aload_n hx hb dX0_countInState_5 rfl (lv_at hl 2 rfl) ?_
    refine gt_get hC 0 0 2 1 hinX0 hK hP dX0_countInState_6 rfl rfl rfl (by decide) rfl rfl ?_
    refine gt_ge_t (tgt := 31) hC N N dX0_countInState_9 (by decide) rfl hN (Nat.le_refl _) (by omega) ?_
    refine lv_iload_n hx hb dX0_countInState_31 rfl (lv_at hl 1 rfl) ?_
    exact gt_iret hC hr hlk hK (ws := (sw cI o r S)) hP hD hS (show some (Value.int (gxCnt S w N)) = _ from rfl) rfl dX0_countInState_32 (Nat.le_of_ble_eq_true rfl) (Nat.le_of_ble_eq_true rfl)

theorem hd_X0_countStarving : yX0_countStarving.cls = RX0 ∧ yX0_countStarving.cls ≠ "java/lang/invoke/MethodHandle" ∧ yX0_countStarving.cls ≠ "java/lang/invoke/VarHandle" ∧ (parseMethodDescriptor yX0_countStarving.desc).map (fun d => d.parameters.length) = some 0 := by decide +kernel
set_option maxHeartbeats 4000000 in
set_option maxRecDepth 100000 in
theorem ct_X0_countStarving (l : Launch) (D : va_G) (cI : ClassId) (o : Nat) (r : Nat → Nat) (S : SS) (N : Nat) (hN : S 0 2 = nI N) (hN12 : N ≤ 12) : Ct l D [(cI, .int)] yX0_countStarving wsX0_countStarving 0 0 0 0 [.ref o] (sw cI o r S) (some (.int (gxStv S N))) (sw cI o r S) := by
  refine Ct.ofW (cc := cX0_countStarving) (maxL := 3) (ret := (some .int)) (by decide) rfl (Nat.le_of_ble_eq_true rfl) ?_
  intro p e s m below meth c A ls hC hr hlk _ hP hD hS hK hA hl
  have hx := hC.1
  have hb := hC.2.1
  have hinX0 : ∀ w ∈ wsX00, w ∈ wsX0_countStarving := fun _ _h => List.mem_cons_of_mem _ (List.mem_append_right _ _h)
  have hl : lv_has ls 3 [(0, .ref o)] := hl
  refine lv_iconst (v := 0) hx hb dX0_countStarving_0 (by decide) ?_
  refine lv_istore_n (lv' := [(1, .int 0), (0, .ref o)]) hx hb dX0_countStarving_1 rfl hl (by decide) rfl (fun ls hl => ?_)
  refine lv_iconst (v := 0) hx hb dX0_countStarving_2 (by decide) ?_
  refine lv_istore_n (lv' := [(2, .int 0), (1, .int 0), (0, .ref o)]) hx hb dX0_countStarving_3 rfl hl (by decide) rfl (fun ls hl => ?_)
  refine gt_loop D A s.heap 3 N (fun n => [(2, .int (nI n)), (1, .int (gxStv S n)), (0, .ref o)]) (fun n => (sw cI o r S)) (lv_sub hl [0, 1, 2] rfl) hP hD hS (fun n hi_n H locs ls hP hD hS hl K1 => ?_) (fun H locs ls hP hD hS hl => ?_)
  · skip
    refine lv_iload_n hx hb dX0_countStarving_4 rfl (lv_at hl 0 rfl) ?_
    refine lv_aload_n hx hb dX0_countStarving_5 rfl (lv_at hl 2 rfl) ?_
    refine gt_get hC 0 0 2 1 hinX0 hK hP dX0_countStarving_6 rfl rfl rfl (by decide) rfl rfl ?_
    refine gt_ge_f (tgt := 42) hC n N dX0_countStarving_9 (by decide) rfl hN hi_n (by omega) ?_
    refine lv_aload_n hx hb dX0_countStarving_12 rfl (lv_at hl 2 rfl) ?_
    refine gt_get hC 0 0 9 2 hinX0 hK hP dX0_countStarving_13 rfl rfl rfl (by decide) rfl rfl ?_
    refine lv_iload_n hx hb dX0_countStarving_16 rfl (lv_at hl 0 rfl) ?_
    refine gt_ald hC 5 0 n hK hP dX0_countStarving_17 rfl rfl rfl (by omega) (Nat.le_of_ble_eq_true rfl) ?_
    refine lv_iconst (v := 1) hx hb dX0_countStarving_18 (by decide) ?_
    refine lv_icmp_ne (tgt := 36) hx hb dX0_countStarving_19 (by decide) (fun c19_2 : ¬ ((S 9 n) = 1) => ?_) (fun c19_2 : (S 9 n) = 1 => ?_)
    · skip
      refine gt_inc (lv' := [(2, .int (nI (n + 1))), (1, .int (gxStv S n)), (0, .ref o)]) hC 0 n dX0_countStarving_36 hl rfl rfl (by decide) rfl (fun ls hl => ?_)
      refine lv_goto (tgt := 4) hx hb dX0_countStarving_39 (by decide) ?_
      have hl9 : lv_has ls 3 [(2, .int (nI (n + 1))), (1, .int (gxStv S n)), (0, .ref o)] := lv_sub hl [0, 1, 2] rfl
      rw [show .int (gxStv S n) = (Value.int (gxStv S (n + 1))) from congrArg _ (by simp only [gxStv, if_neg c19_2])] at hl9
      exact K1 H locs ls hP hD hS hl9
    · skip
      refine lv_aload_n hx hb dX0_countStarving_22 rfl (lv_at hl 2 rfl) ?_
      refine gt_get hC 0 0 15 3 hinX0 hK hP dX0_countStarving_23 rfl rfl rfl (by decide) rfl rfl ?_
      refine lv_iload_n hx hb dX0_countStarving_26 rfl (lv_at hl 0 rfl) ?_
      refine gt_ald hC 11 0 n hK hP dX0_countStarving_27 rfl rfl rfl (by omega) (Nat.le_of_ble_eq_true rfl) ?_
      refine lv_bipush (v := 8) hx hb dX0_countStarving_28 (by decide) ?_
      refine lv_icmp_lt (tgt := 36) hx hb dX0_countStarving_30 (by decide) (fun c30_3 : (S 15 n) < 8 => ?_) (fun c30_3 : ¬ ((S 15 n) < 8) => ?_)
      · skip
        refine gt_inc (lv' := [(2, .int (nI (n + 1))), (1, .int (gxStv S n)), (0, .ref o)]) hC 0 n dX0_countStarving_36 hl rfl rfl (by decide) rfl (fun ls hl => ?_)
        refine lv_goto (tgt := 4) hx hb dX0_countStarving_39 (by decide) ?_
        have hl9 : lv_has ls 3 [(2, .int (nI (n + 1))), (1, .int (gxStv S n)), (0, .ref o)] := lv_sub hl [0, 1, 2] rfl
        rw [show .int (gxStv S n) = (Value.int (gxStv S (n + 1))) from congrArg _ (by simp only [gxStv, if_pos c19_2, if_pos c30_3])] at hl9
        exact K1 H locs ls hP hD hS hl9
      · skip
        refine lv_iinc (v := (gxStv S n) + 1) (lv' := [(1, .int ((gxStv S n) + 1)), (2, .int (nI n)), (0, .ref o)]) hx hb dX0_countStarving_33 hl (k := 1) rfl rfl (by decide) rfl (fun ls hl => ?_)
        refine gt_inc (lv' := [(2, .int (nI (n + 1))), (1, .int ((gxStv S n) + 1)), (0, .ref o)]) hC 1 n dX0_countStarving_36 hl rfl rfl (by decide) rfl (fun ls hl => ?_)
        refine lv_goto (tgt := 4) hx hb dX0_countStarving_39 (by decide) ?_
        have hl9 : lv_has ls 3 [(2, .int (nI (n + 1))), (1, .int ((gxStv S n) + 1)), (0, .ref o)] := lv_sub hl [0, 1, 2] rfl
        rw [show .int ((gxStv S n) + 1) = (Value.int (gxStv S (n + 1))) from congrArg _ (by simp only [gxStv, if_pos c19_2, if_neg c30_3])] at hl9
        exact K1 H locs ls hP hD hS hl9
  · skip
    refine lv_iload_n hx hb dX0_countStarving_4 rfl (lv_at hl 0 rfl) ?_
    refine lv_aload_n hx hb dX0_countStarving_5 rfl (lv_at hl 2 rfl) ?_
    refine gt_get hC 0 0 2 1 hinX0 hK hP dX0_countStarving_6 rfl rfl rfl (by decide) rfl rfl ?_
    refine gt_ge_t (tgt := 42) hC N N dX0_countStarving_9 (by decide) rfl hN (Nat.le_refl _) (by omega) ?_
    refine lv_iload_n hx hb dX0_countStarving_42 rfl (lv_at hl 1 rfl) ?_
    exact gt_iret hC hr hlk hK (ws := (sw cI o r S)) hP hD hS (show some (Value.int (gxStv S N)) = _ from rfl) rfl dX0_countStarving_43 (Nat.le_of_ble_eq_true rfl) (Nat.le_of_ble_eq_true rfl)

theorem hd_X0_countWaitingAt : yX0_countWaitingAt.cls = RX0 ∧ yX0_countWaitingAt.cls ≠ "java/lang/invoke/MethodHandle" ∧ yX0_countWaitingAt.cls ≠ "java/lang/invoke/VarHandle" ∧ (parseMethodDescriptor yX0_countWaitingAt.desc).map (fun d => d.parameters.length) = some 1 := by decide +kernel
set_option maxHeartbeats 4000000 in
set_option maxRecDepth 100000 in
theorem ct_X0_countWaitingAt (l : Launch) (D : va_G) (cI : ClassId) (o : Nat) (r : Nat → Nat) (S : SS) (g : Int32) (N : Nat) (hN : S 0 2 = nI N) (hN12 : N ≤ 12) : Ct l D [(cI, .int)] yX0_countWaitingAt wsX0_countWaitingAt 1 22 0 0 [.ref o, .int g] (sw cI o r S) (some (.int (gxWat S g N))) (sw cI o r S) := by
  refine Ct.ofW (cc := cX0_countWaitingAt) (maxL := 4) (ret := (some .int)) (by decide) rfl (Nat.le_of_ble_eq_true rfl) ?_
  intro p e s m below meth c A ls hC hr hlk _ hP hD hS hK hA hl
  have hx := hC.1
  have hb := hC.2.1
  have hinX0 : ∀ w ∈ wsX00, w ∈ wsX0_countWaitingAt := fun _ _h => List.mem_cons_of_mem _ (List.mem_append_right _ _h)
  have hl : lv_has ls 4 [(0, .ref o), (1, .int g)] := hl
  refine lv_iconst (v := 0) hx hb dX0_countWaitingAt_0 (by decide) ?_
  refine lv_istore_n (lv' := [(2, .int 0), (0, .ref o), (1, .int g)]) hx hb dX0_countWaitingAt_1 rfl hl (by decide) rfl (fun ls hl => ?_)
  refine lv_iconst (v := 0) hx hb dX0_countWaitingAt_2 (by decide) ?_
  refine lv_istore_n (lv' := [(3, .int 0), (2, .int 0), (0, .ref o), (1, .int g)]) hx hb dX0_countWaitingAt_3 rfl hl (by decide) rfl (fun ls hl => ?_)
  refine gt_loop D A s.heap 4 N (fun n => [(3, .int (nI n)), (2, .int (gxWat S g n)), (0, .ref o), (1, .int g)]) (fun n => (sw cI o r S)) (lv_sub hl [0, 1, 2, 3] rfl) hP hD hS (fun n hi_n H locs ls hP hD hS hl K1 => ?_) (fun H locs ls hP hD hS hl => ?_)
  · skip
    refine lv_iload_n hx hb dX0_countWaitingAt_4 rfl (lv_at hl 0 rfl) ?_
    refine lv_aload_n hx hb dX0_countWaitingAt_5 rfl (lv_at hl 2 rfl) ?_
    refine gt_get hC 0 0 2 1 hinX0 hK hP dX0_countWaitingAt_6 rfl rfl rfl (by decide) rfl rfl ?_
    refine gt_ge_f (tgt := 30) hC n N dX0_countWaitingAt_9 (by decide) rfl hN hi_n (by omega) ?_
    refine lv_aload_n hx hb dX0_countWaitingAt_12 rfl (lv_at hl 2 rfl) ?_
    refine lv_iload_n hx hb dX0_countWaitingAt_13 rfl (lv_at hl 0 rfl) ?_
    refine lv_iload_n hx hb dX0_countWaitingAt_14 rfl (lv_at hl 3 rfl) ?_
    refine gt_call0 hC 0 0 2 (ct_X0_waitsAt l D cI o r S n g (by omega)) gX0_countWaitingAt_X0_waitsAt dX0_countWaitingAt_15 hK hP hD hS hA hl.1 rfl hd_X0_waitsAt ⟨Nat.le_of_ble_eq_true rfl, Nat.le_of_ble_eq_true rfl⟩ ⟨Nat.le_of_ble_eq_true rfl, Nat.le_of_ble_eq_true rfl⟩ rfl rfl rfl rfl (Nat.le_of_ble_eq_true rfl) (fun H locs hP hD hS => ?_)
    refine lv_if_eq (tgt := 24) hx hb dX0_countWaitingAt_18 (by decide) (fun c18_2 : (gxWt S n g) = 0 => ?_) (fun c18_2 : ¬ ((gxWt S n g) = 0) => ?_)
    · skip
      refine gt_inc (lv' := [(3, .int (nI (n + 1))), (2, .int (gxWat S g n)), (0, .ref o), (1, .int g)]) hC 0 n dX0_countWaitingAt_24 hl rfl rfl (by decide) rfl (fun ls hl => ?_)
      refine lv_goto (tgt := 4) hx hb dX0_countWaitingAt_27 (by decide) ?_
      have hl9 : lv_has ls 4 [(3, .int (nI (n + 1))), (2, .int (gxWat S g n)), (0, .ref o), (1, .int g)] := lv_sub hl [0, 1, 2, 3] rfl
      rw [show .int (gxWat S g n) = (Value.int (gxWat S g (n + 1))) from congrArg _ (by simp only [gxWat, if_pos c18_2])] at hl9
      exact K1 H locs ls hP hD hS hl9
    · skip
      refine lv_iinc (v := (gxWat S g n) + 1) (lv' := [(2, .int ((gxWat S g n) + 1)), (3, .int (nI n)), (0, .ref o), (1, .int g)]) hx hb dX0_countWaitingAt_21 hl (k := 1) rfl rfl (by decide) rfl (fun ls hl => ?_)
      refine gt_inc (lv' := [(3, .int (nI (n + 1))), (2, .int ((gxWat S g n) + 1)), (0, .ref o), (1, .int g)]) hC 1 n dX0_countWaitingAt_24 hl rfl rfl (by decide) rfl (fun ls hl => ?_)
      refine lv_goto (tgt := 4) hx hb dX0_countWaitingAt_27 (by decide) ?_
      have hl9 : lv_has ls 4 [(3, .int (nI (n + 1))), (2, .int ((gxWat S g n) + 1)), (0, .ref o), (1, .int g)] := lv_sub hl [0, 1, 2, 3] rfl
      rw [show .int ((gxWat S g n) + 1) = (Value.int (gxWat S g (n + 1))) from congrArg _ (by simp only [gxWat, if_neg c18_2])] at hl9
      exact K1 H locs ls hP hD hS hl9
  · skip
    refine lv_iload_n hx hb dX0_countWaitingAt_4 rfl (lv_at hl 0 rfl) ?_
    refine lv_aload_n hx hb dX0_countWaitingAt_5 rfl (lv_at hl 2 rfl) ?_
    refine gt_get hC 0 0 2 1 hinX0 hK hP dX0_countWaitingAt_6 rfl rfl rfl (by decide) rfl rfl ?_
    refine gt_ge_t (tgt := 30) hC N N dX0_countWaitingAt_9 (by decide) rfl hN (Nat.le_refl _) (by omega) ?_
    refine lv_iload_n hx hb dX0_countWaitingAt_30 rfl (lv_at hl 1 rfl) ?_
    exact gt_iret hC hr hlk hK (ws := (sw cI o r S)) hP hD hS (show some (Value.int (gxWat S g N)) = _ from rfl) rfl dX0_countWaitingAt_31 (Nat.le_of_ble_eq_true rfl) (Nat.le_of_ble_eq_true rfl)

theorem hd_X0_countAheadOf : yX0_countAheadOf.cls = RX0 ∧ yX0_countAheadOf.cls ≠ "java/lang/invoke/MethodHandle" ∧ yX0_countAheadOf.cls ≠ "java/lang/invoke/VarHandle" ∧ (parseMethodDescriptor yX0_countAheadOf.desc).map (fun d => d.parameters.length) = some 1 := by decide +kernel
set_option maxHeartbeats 4000000 in
set_option maxRecDepth 100000 in
theorem ct_X0_countAheadOf (l : Launch) (D : va_G) (cI : ClassId) (o : Nat) (r : Nat → Nat) (S : SS) (j : Nat) (hj : j < 12) (N : Nat) (hN : S 0 2 = nI N) (hN12 : N ≤ 12) : Ct l D [(cI, .int)] yX0_countAheadOf wsX0_countAheadOf 1 22 0 0 [.ref o, .int (nI j)] (sw cI o r S) (some (.int (gxAhd S j N))) (sw cI o r S) := by
  refine Ct.ofW (cc := cX0_countAheadOf) (maxL := 4) (ret := (some .int)) (by decide) rfl (Nat.le_of_ble_eq_true rfl) ?_
  intro p e s m below meth c A ls hC hr hlk _ hP hD hS hK hA hl
  have hx := hC.1
  have hb := hC.2.1
  have hinX0 : ∀ w ∈ wsX00, w ∈ wsX0_countAheadOf := fun _ _h => List.mem_cons_of_mem _ (List.mem_append_right _ _h)
  have hl : lv_has ls 4 [(0, .ref o), (1, .int (nI j))] := hl
  refine lv_iconst (v := 0) hx hb dX0_countAheadOf_0 (by decide) ?_
  refine lv_istore_n (lv' := [(2, .int 0), (0, .ref o), (1, .int (nI j))]) hx hb dX0_countAheadOf_1 rfl hl (by decide) rfl (fun ls hl => ?_)
  refine lv_iconst (v := 0) hx hb dX0_countAheadOf_2 (by decide) ?_
  refine lv_istore_n (lv' := [(3, .int 0), (2, .int 0), (0, .ref o), (1, .int (nI j))]) hx hb dX0_countAheadOf_3 rfl hl (by decide) rfl (fun ls hl => ?_)
  refine gt_loop D A s.heap 4 N (fun n => [(3, .int (nI n)), (2, .int (gxAhd S j n)), (0, .ref o), (1, .int (nI j))]) (fun n => (sw cI o r S)) (lv_sub hl [0, 1, 2, 3] rfl) hP hD hS (fun n hi_n H locs ls hP hD hS hl K1 => ?_) (fun H locs ls hP hD hS hl => ?_)
  · skip
    refine lv_iload_n hx hb dX0_countAheadOf_4 rfl (lv_at hl 0 rfl) ?_
    refine lv_aload_n hx hb dX0_countAheadOf_5 rfl (lv_at hl 2 rfl) ?_
    refine gt_get hC 0 0 2 1 hinX0 hK hP dX0_countAheadOf_6 rfl rfl rfl (by decide) rfl rfl ?_
    refine gt_ge_f (tgt := 50) hC n N dX0_countAheadOf_9 (by decide) rfl hN hi_n (by omega) ?_
    refine lv_aload_n hx hb dX0_countAheadOf_12 rfl (lv_at hl 2 rfl) ?_
    refine lv_iload_n hx hb dX0_countAheadOf_13 rfl (lv_at hl 0 rfl) ?_
    refine lv_aload_n hx hb dX0_countAheadOf_14 rfl (lv_at hl 2 rfl) ?_
    refine gt_get hC 0 0 10 2 hinX0 hK hP dX0_countAheadOf_15 rfl rfl rfl (by decide) rfl rfl ?_
    refine lv_iload_n hx hb dX0_countAheadOf_18 rfl (lv_at hl 3 rfl) ?_
    refine gt_ald hC 6 0 j hK hP dX0_countAheadOf_19 rfl rfl rfl (by omega) (Nat.le_of_ble_eq_true rfl) ?_
    refine gt_call0 hC 0 0 2 (ct_X0_waitsAt l D cI o r S n (S 10 j) (by omega)) gX0_countAheadOf_X0_waitsAt dX0_countAheadOf_20 hK hP hD hS hA hl.1 rfl hd_X0_waitsAt ⟨Nat.le_of_ble_eq_true rfl, Nat.le_of_ble_eq_true rfl⟩ ⟨Nat.le_of_ble_eq_true rfl, Nat.le_of_ble_eq_true rfl⟩ rfl rfl rfl rfl (Nat.le_of_ble_eq_true rfl) (fun H locs hP hD hS => ?_)
    refine lv_if_eq (tgt := 44) hx hb dX0_countAheadOf_23 (by decide) (fun c23_2 : (gxWt S n (S 10 j)) = 0 => ?_) (fun c23_2 : ¬ ((gxWt S n (S 10 j)) = 0) => ?_)
    · skip
      refine gt_inc (lv' := [(3, .int (nI (n + 1))), (2, .int (gxAhd S j n)), (0, .ref o), (1, .int (nI j))]) hC 0 n dX0_countAheadOf_44 hl rfl rfl (by decide) rfl (fun ls hl => ?_)
      refine lv_goto (tgt := 4) hx hb dX0_countAheadOf_47 (by decide) ?_
      have hl9 : lv_has ls 4 [(3, .int (nI (n + 1))), (2, .int (gxAhd S j n)), (0, .ref o), (1, .int (nI j))] := lv_sub hl [0, 1, 2, 3] rfl
      rw [show .int (gxAhd S j n) = (Value.int (gxAhd S j (n + 1))) from congrArg _ (by simp only [gxAhd, if_pos c23_2])] at hl9
      exact K1 H locs ls hP hD hS hl9
    · skip
      refine lv_aload_n hx hb dX0_countAheadOf_26 rfl (lv_at hl 2 rfl) ?_
      refine gt_get hC 0 0 14 3 hinX0 hK hP dX0_countAheadOf_27 rfl rfl rfl (by decide) rfl rfl ?_
      refine lv_iload_n hx hb dX0_countAheadOf_30 rfl (lv_at hl 0 rfl) ?_
      refine gt_ald hC 10 0 n hK hP dX0_countAheadOf_31 rfl rfl rfl (by omega) (Nat.le_of_ble_eq_true rfl) ?_
      refine lv_aload_n hx hb dX0_countAheadOf_32 rfl (lv_at hl 2 rfl) ?_
      refine gt_get hC 0 0 14 3 hinX0 hK hP dX0_countAheadOf_33 rfl rfl rfl (by decide) rfl rfl ?_
      refine lv_iload_n hx hb dX0_countAheadOf_36 rfl (lv_at hl 3 rfl) ?_
      refine gt_ald hC 10 0 j hK hP dX0_countAheadOf_37 rfl rfl rfl (by omega) (Nat.le_of_ble_eq_true rfl) ?_
      refine lv_icmp_ge (tgt := 44) hx hb dX0_countAheadOf_38 (by decide) (fun c38_3 : (S 14 j) ≤ (S 14 n) => ?_) (fun c38_3 : ¬ ((S 14 j) ≤ (S 14 n)) => ?_)
      · skip
        refine gt_inc (lv' := [(3, .int (nI (n + 1))), (2, .int (gxAhd S j n)), (0, .ref o), (1, .int (nI j))]) hC 0 n dX0_countAheadOf_44 hl rfl rfl (by decide) rfl (fun ls hl => ?_)
        refine lv_goto (tgt := 4) hx hb dX0_countAheadOf_47 (by decide) ?_
        have hl9 : lv_has ls 4 [(3, .int (nI (n + 1))), (2, .int (gxAhd S j n)), (0, .ref o), (1, .int (nI j))] := lv_sub hl [0, 1, 2, 3] rfl
        rw [show .int (gxAhd S j n) = (Value.int (gxAhd S j (n + 1))) from congrArg _ (by simp only [gxAhd, if_neg c23_2, if_pos c38_3])] at hl9
        exact K1 H locs ls hP hD hS hl9
      · skip
        refine lv_iinc (v := (gxAhd S j n) + 1) (lv' := [(2, .int ((gxAhd S j n) + 1)), (3, .int (nI n)), (0, .ref o), (1, .int (nI j))]) hx hb dX0_countAheadOf_41 hl (k := 1) rfl rfl (by decide) rfl (fun ls hl => ?_)
        refine gt_inc (lv' := [(3, .int (nI (n + 1))), (2, .int ((gxAhd S j n) + 1)), (0, .ref o), (1, .int (nI j))]) hC 1 n dX0_countAheadOf_44 hl rfl rfl (by decide) rfl (fun ls hl => ?_)
        refine lv_goto (tgt := 4) hx hb dX0_countAheadOf_47 (by decide) ?_
        have hl9 : lv_has ls 4 [(3, .int (nI (n + 1))), (2, .int ((gxAhd S j n) + 1)), (0, .ref o), (1, .int (nI j))] := lv_sub hl [0, 1, 2, 3] rfl
        rw [show .int ((gxAhd S j n) + 1) = (Value.int (gxAhd S j (n + 1))) from congrArg _ (by simp only [gxAhd, if_neg c23_2, if_neg c38_3])] at hl9
        exact K1 H locs ls hP hD hS hl9
  · skip
    refine lv_iload_n hx hb dX0_countAheadOf_4 rfl (lv_at hl 0 rfl) ?_
    refine lv_aload_n hx hb dX0_countAheadOf_5 rfl (lv_at hl 2 rfl) ?_
    refine gt_get hC 0 0 2 1 hinX0 hK hP dX0_countAheadOf_6 rfl rfl rfl (by decide) rfl rfl ?_
    refine gt_ge_t (tgt := 50) hC N N dX0_countAheadOf_9 (by decide) rfl hN (Nat.le_refl _) (by omega) ?_
    refine lv_iload_n hx hb dX0_countAheadOf_50 rfl (lv_at hl 1 rfl) ?_
    exact gt_iret hC hr hlk hK (ws := (sw cI o r S)) hP hD hS (show some (Value.int (gxAhd S j N)) = _ from rfl) rfl dX0_countAheadOf_51 (Nat.le_of_ble_eq_true rfl) (Nat.le_of_ble_eq_true rfl)

theorem hd_X0_givenUpInAll : yX0_givenUpInAll.cls = RX0 ∧ yX0_givenUpInAll.cls ≠ "java/lang/invoke/MethodHandle" ∧ yX0_givenUpInAll.cls ≠ "java/lang/invoke/VarHandle" ∧ (parseMethodDescriptor yX0_givenUpInAll.desc).map (fun d => d.parameters.length) = some 0 := by decide +kernel
set_option maxHeartbeats 4000000 in
set_option maxRecDepth 100000 in
theorem ct_X0_givenUpInAll (l : Launch) (D : va_G) (cI : ClassId) (o : Nat) (r : Nat → Nat) (S : SS) (G : Nat) (hG : S 0 1 = nI G) (hG4 : G ≤ 4) : Ct l D [(cI, .int)] yX0_givenUpInAll wsX0_givenUpInAll 0 0 0 0 [.ref o] (sw cI o r S) (some (.int (gxGiv S G))) (sw cI o r S) := by
  refine Ct.ofW (cc := cX0_givenUpInAll) (maxL := 3) (ret := (some .int)) (by decide) rfl (Nat.le_of_ble_eq_true rfl) ?_
  intro p e s m below meth c A ls hC hr hlk _ hP hD hS hK hA hl
  have hx := hC.1
  have hb := hC.2.1
  have hinX0 : ∀ w ∈ wsX00, w ∈ wsX0_givenUpInAll := fun _ _h => List.mem_cons_of_mem _ (List.mem_append_right _ _h)
  have hl : lv_has ls 3 [(0, .ref o)] := hl
  refine lv_iconst (v := 0) hx hb dX0_givenUpInAll_0 (by decide) ?_
  refine lv_istore_n (lv' := [(1, .int 0), (0, .ref o)]) hx hb dX0_givenUpInAll_1 rfl hl (by decide) rfl (fun ls hl => ?_)
  refine lv_iconst (v := 0) hx hb dX0_givenUpInAll_2 (by decide) ?_
  refine lv_istore_n (lv' := [(2, .int 0), (1, .int 0), (0, .ref o)]) hx hb dX0_givenUpInAll_3 rfl hl (by decide) rfl (fun ls hl => ?_)
  refine gt_loop D A s.heap 3 G (fun n => [(2, .int (nI n)), (1, .int (gxGiv S n)), (0, .ref o)]) (fun n => (sw cI o r S)) (lv_sub hl [0, 1, 2] rfl) hP hD hS (fun n hi_n H locs ls hP hD hS hl K1 => ?_) (fun H locs ls hP hD hS hl => ?_)
  · skip
    refine lv_iload_n hx hb dX0_givenUpInAll_4 rfl (lv_at hl 0 rfl) ?_
    refine lv_aload_n hx hb dX0_givenUpInAll_5 rfl (lv_at hl 2 rfl) ?_
    refine gt_get hC 0 0 1 1 hinX0 hK hP dX0_givenUpInAll_6 rfl rfl rfl (by decide) rfl rfl ?_
    refine gt_ge_f (tgt := 27) hC n G dX0_givenUpInAll_9 (by decide) rfl hG hi_n (by omega) ?_
    refine lv_iload_n hx hb dX0_givenUpInAll_12 rfl (lv_at hl 1 rfl) ?_
    refine lv_aload_n hx hb dX0_givenUpInAll_13 rfl (lv_at hl 2 rfl) ?_
    refine gt_get hC 0 0 7 2 hinX0 hK hP dX0_givenUpInAll_14 rfl rfl rfl (by decide) rfl rfl ?_
    refine lv_iload_n hx hb dX0_givenUpInAll_17 rfl (lv_at hl 0 rfl) ?_
    refine gt_ald hC 3 0 n hK hP dX0_givenUpInAll_18 rfl rfl rfl (by omega) (Nat.le_of_ble_eq_true rfl) ?_
    refine lv_iadd hx hb dX0_givenUpInAll_19 ?_
    refine lv_istore_n (lv' := [(1, .int ((gxGiv S n) + (S 7 n))), (2, .int (nI n)), (0, .ref o)]) hx hb dX0_givenUpInAll_20 rfl hl (by decide) rfl (fun ls hl => ?_)
    refine gt_inc (lv' := [(2, .int (nI (n + 1))), (1, .int ((gxGiv S n) + (S 7 n))), (0, .ref o)]) hC 1 n dX0_givenUpInAll_21 hl rfl rfl (by decide) rfl (fun ls hl => ?_)
    refine lv_goto (tgt := 4) hx hb dX0_givenUpInAll_24 (by decide) ?_
    have hl9 : lv_has ls 3 [(2, .int (nI (n + 1))), (1, .int ((gxGiv S n) + (S 7 n))), (0, .ref o)] := lv_sub hl [0, 1, 2] rfl
    rw [show .int ((gxGiv S n) + (S 7 n)) = (Value.int (gxGiv S (n + 1))) from congrArg _ (by simp only [gxGiv])] at hl9
    exact K1 H locs ls hP hD hS hl9
  · skip
    refine lv_iload_n hx hb dX0_givenUpInAll_4 rfl (lv_at hl 0 rfl) ?_
    refine lv_aload_n hx hb dX0_givenUpInAll_5 rfl (lv_at hl 2 rfl) ?_
    refine gt_get hC 0 0 1 1 hinX0 hK hP dX0_givenUpInAll_6 rfl rfl rfl (by decide) rfl rfl ?_
    refine gt_ge_t (tgt := 27) hC G G dX0_givenUpInAll_9 (by decide) rfl hG (Nat.le_refl _) (by omega) ?_
    refine lv_iload_n hx hb dX0_givenUpInAll_27 rfl (lv_at hl 1 rfl) ?_
    exact gt_iret hC hr hlk hK (ws := (sw cI o r S)) hP hD hS (show some (Value.int (gxGiv S G)) = _ from rfl) rfl dX0_givenUpInAll_28 (Nat.le_of_ble_eq_true rfl) (Nat.le_of_ble_eq_true rfl)

theorem hd_X0_sumOfWaited : yX0_sumOfWaited.cls = RX0 ∧ yX0_sumOfWaited.cls ≠ "java/lang/invoke/MethodHandle" ∧ yX0_sumOfWaited.cls ≠ "java/lang/invoke/VarHandle" ∧ (parseMethodDescriptor yX0_sumOfWaited.desc).map (fun d => d.parameters.length) = some 0 := by decide +kernel
set_option maxHeartbeats 4000000 in
set_option maxRecDepth 100000 in
theorem ct_X0_sumOfWaited (l : Launch) (D : va_G) (cI : ClassId) (o : Nat) (r : Nat → Nat) (S : SS) (N : Nat) (hN : S 0 2 = nI N) (hN12 : N ≤ 12) : Ct l D [(cI, .int)] yX0_sumOfWaited wsX0_sumOfWaited 0 0 0 0 [.ref o] (sw cI o r S) (some (.int (gxSum S N))) (sw cI o r S) := by
  refine Ct.ofW (cc := cX0_sumOfWaited) (maxL := 3) (ret := (some .int)) (by decide) rfl (Nat.le_of_ble_eq_true rfl) ?_
  intro p e s m below meth c A ls hC hr hlk _ hP hD hS hK hA hl
  have hx := hC.1
  have hb := hC.2.1
  have hinX0 : ∀ w ∈ wsX00, w ∈ wsX0_sumOfWaited := fun _ _h => List.mem_cons_of_mem _ (List.mem_append_right _ _h)
  have hl : lv_has ls 3 [(0, .ref o)] := hl
  refine lv_iconst (v := 0) hx hb dX0_sumOfWaited_0 (by decide) ?_
  refine lv_istore_n (lv' := [(1, .int 0), (0, .ref o)]) hx hb dX0_sumOfWaited_1 rfl hl (by decide) rfl (fun ls hl => ?_)
  refine lv_iconst (v := 0) hx hb dX0_sumOfWaited_2 (by decide) ?_
  refine lv_istore_n (lv' := [(2, .int 0), (1, .int 0), (0, .ref o)]) hx hb dX0_sumOfWaited_3 rfl hl (by decide) rfl (fun ls hl => ?_)
  refine gt_loop D A s.heap 3 N (fun n => [(2, .int (nI n)), (1, .int (gxSum S n)), (0, .ref o)]) (fun n => (sw cI o r S)) (lv_sub hl [0, 1, 2] rfl) hP hD hS (fun n hi_n H locs ls hP hD hS hl K1 => ?_) (fun H locs ls hP hD hS hl => ?_)
  · skip
    refine lv_iload_n hx hb dX0_sumOfWaited_4 rfl (lv_at hl 0 rfl) ?_
    refine lv_aload_n hx hb dX0_sumOfWaited_5 rfl (lv_at hl 2 rfl) ?_
    refine gt_get hC 0 0 2 1 hinX0 hK hP dX0_sumOfWaited_6 rfl rfl rfl (by decide) rfl rfl ?_
    refine gt_ge_f (tgt := 27) hC n N dX0_sumOfWaited_9 (by decide) rfl hN hi_n (by omega) ?_
    refine lv_iload_n hx hb dX0_sumOfWaited_12 rfl (lv_at hl 1 rfl) ?_
    refine lv_aload_n hx hb dX0_sumOfWaited_13 rfl (lv_at hl 2 rfl) ?_
    refine gt_get hC 0 0 16 2 hinX0 hK hP dX0_sumOfWaited_14 rfl rfl rfl (by decide) rfl rfl ?_
    refine lv_iload_n hx hb dX0_sumOfWaited_17 rfl (lv_at hl 0 rfl) ?_
    refine gt_ald hC 12 0 n hK hP dX0_sumOfWaited_18 rfl rfl rfl (by omega) (Nat.le_of_ble_eq_true rfl) ?_
    refine lv_iadd hx hb dX0_sumOfWaited_19 ?_
    refine lv_istore_n (lv' := [(1, .int ((gxSum S n) + (S 16 n))), (2, .int (nI n)), (0, .ref o)]) hx hb dX0_sumOfWaited_20 rfl hl (by decide) rfl (fun ls hl => ?_)
    refine gt_inc (lv' := [(2, .int (nI (n + 1))), (1, .int ((gxSum S n) + (S 16 n))), (0, .ref o)]) hC 1 n dX0_sumOfWaited_21 hl rfl rfl (by decide) rfl (fun ls hl => ?_)
    refine lv_goto (tgt := 4) hx hb dX0_sumOfWaited_24 (by decide) ?_
    have hl9 : lv_has ls 3 [(2, .int (nI (n + 1))), (1, .int ((gxSum S n) + (S 16 n))), (0, .ref o)] := lv_sub hl [0, 1, 2] rfl
    rw [show .int ((gxSum S n) + (S 16 n)) = (Value.int (gxSum S (n + 1))) from congrArg _ (by simp only [gxSum])] at hl9
    exact K1 H locs ls hP hD hS hl9
  · skip
    refine lv_iload_n hx hb dX0_sumOfWaited_4 rfl (lv_at hl 0 rfl) ?_
    refine lv_aload_n hx hb dX0_sumOfWaited_5 rfl (lv_at hl 2 rfl) ?_
    refine gt_get hC 0 0 2 1 hinX0 hK hP dX0_sumOfWaited_6 rfl rfl rfl (by decide) rfl rfl ?_
    refine gt_ge_t (tgt := 27) hC N N dX0_sumOfWaited_9 (by decide) rfl hN (Nat.le_refl _) (by omega) ?_
    refine lv_iload_n hx hb dX0_sumOfWaited_27 rfl (lv_at hl 1 rfl) ?_
    exact gt_iret hC hr hlk hK (ws := (sw cI o r S)) hP hD hS (show some (Value.int (gxSum S N)) = _ from rfl) rfl dX0_sumOfWaited_28 (Nat.le_of_ble_eq_true rfl) (Nat.le_of_ble_eq_true rfl)

theorem hd_X0_rest : yX0_rest.cls = RX0 ∧ yX0_rest.cls ≠ "java/lang/invoke/MethodHandle" ∧ yX0_rest.cls ≠ "java/lang/invoke/VarHandle" ∧ (parseMethodDescriptor yX0_rest.desc).map (fun d => d.parameters.length) = some 1 := by decide +kernel
set_option maxHeartbeats 4000000 in
set_option maxRecDepth 100000 in
theorem ct_X0_rest (l : Launch) (D : va_G) (cI : ClassId) (o : Nat) (r : Nat → Nat) (S : SS) (i : Nat) (hi : i < 12) : Ct l D [(cI, .int)] yX0_rest wsX0_rest 0 0 0 0 [.ref o, .int (nI i)] (sw cI o r S) none (sw cI o r (gxRest S i)) := by
  refine Ct.ofW (cc := cX0_rest) (maxL := 2) (ret := none) (by decide) rfl (Nat.le_of_ble_eq_true rfl) ?_
  intro p e s m below meth c A ls hC hr hlk _ hP hD hS hK hA hl
  have hx := hC.1
  have hb := hC.2.1
  have hinX0 : ∀ w ∈ wsX00, w ∈ wsX0_rest := fun _ _h => List.mem_cons_of_mem _ (List.mem_append_right _ _h)
  have hl : lv_has ls 2 [(0, .ref o), (1, .int (nI i))] := hl
  refine lv_aload_n hx hb dX0_rest_0 rfl (lv_at hl 0 rfl) ?_
  refine gt_get hC 0 0 9 1 hinX0 hK hP dX0_rest_1 rfl rfl rfl (by decide) rfl rfl ?_
  refine lv_iload_n hx hb dX0_rest_4 rfl (lv_at hl 1 rfl) ?_
  refine lv_iconst (v := 0) hx hb dX0_rest_5 (by decide) ?_
  refine gt_ast (ws' := (sw cI o r (up2 S 9 i 0))) hC 5 0 i hK hP hD hS dX0_rest_6 rfl rfl rfl (by omega) (Nat.le_of_ble_eq_true rfl) rfl (fun H locs hP hD hS => ?_)
  refine lv_aload_n hx hb dX0_rest_7 rfl (lv_at hl 0 rfl) ?_
  refine gt_get hC 0 0 10 2 hinX0 hK hP dX0_rest_8 rfl rfl rfl (by decide) rfl rfl ?_
  refine lv_iload_n hx hb dX0_rest_11 rfl (lv_at hl 1 rfl) ?_
  refine lv_iconst (v := (-1)) hx hb dX0_rest_12 (by decide) ?_
  refine gt_ast (ws' := (sw cI o r (up2 (up2 S 9 i 0) 10 i (-1)))) hC 6 0 i hK hP hD hS dX0_rest_13 rfl rfl rfl (by omega) (Nat.le_of_ble_eq_true rfl) rfl (fun H locs hP hD hS => ?_)
  refine lv_aload_n hx hb dX0_rest_14 rfl (lv_at hl 0 rfl) ?_
  refine gt_get hC 0 0 13 3 hinX0 hK hP dX0_rest_15 rfl rfl rfl (by decide) rfl rfl ?_
  refine lv_iload_n hx hb dX0_rest_18 rfl (lv_at hl 1 rfl) ?_
  refine lv_iconst (v := 0) hx hb dX0_rest_19 (by decide) ?_
  refine gt_ast (ws' := (sw cI o r (up2 (up2 (up2 S 9 i 0) 10 i (-1)) 13 i 0))) hC 9 0 i hK hP hD hS dX0_rest_20 rfl rfl rfl (by omega) (Nat.le_of_ble_eq_true rfl) rfl (fun H locs hP hD hS => ?_)
  refine lv_aload_n hx hb dX0_rest_21 rfl (lv_at hl 0 rfl) ?_
  refine gt_get hC 0 0 15 4 hinX0 hK hP dX0_rest_22 rfl rfl rfl (by decide) rfl rfl ?_
  refine lv_iload_n hx hb dX0_rest_25 rfl (lv_at hl 1 rfl) ?_
  refine lv_iconst (v := 0) hx hb dX0_rest_26 (by decide) ?_
  refine gt_ast (ws' := (sw cI o r (up2 (up2 (up2 (up2 S 9 i 0) 10 i (-1)) 13 i 0) 15 i 0))) hC 11 0 i hK hP hD hS dX0_rest_27 rfl rfl rfl (by omega) (Nat.le_of_ble_eq_true rfl) rfl (fun H locs hP hD hS => ?_)
  exact gt_vret hC hr hlk hK (ws := (sw cI o r (up2 (up2 (up2 (up2 S 9 i 0) 10 i (-1)) 13 i 0) 15 i 0))) hP hD hS rfl rfl dX0_rest_28 (Nat.le_of_ble_eq_true rfl) (Nat.le_of_ble_eq_true rfl)

theorem hd_X0_lineUp : yX0_lineUp.cls = RX0 ∧ yX0_lineUp.cls ≠ "java/lang/invoke/MethodHandle" ∧ yX0_lineUp.cls ≠ "java/lang/invoke/VarHandle" ∧ (parseMethodDescriptor yX0_lineUp.desc).map (fun d => d.parameters.length) = some 5 := by decide +kernel
set_option maxHeartbeats 4000000 in
set_option maxRecDepth 100000 in
theorem ct_X0_lineUp (l : Launch) (D : va_G) (cI : ClassId) (o : Nat) (r : Nat → Nat) (S : SS) (i : Nat) (g : Int32) (w : Int32) (mi : Int32) (wt : Int32) (hi : i < 12) : Ct l D [(cI, .int)] yX0_lineUp wsX0_lineUp 0 0 0 0 [.ref o, .int (nI i), .int g, .int w, .int mi, .int wt] (sw cI o r S) none (sw cI o r (gxLine S i g w mi wt)) := by
  refine Ct.ofW (cc := cX0_lineUp) (maxL := 6) (ret := none) (by decide) rfl (Nat.le_of_ble_eq_true rfl) ?_
  intro p e s m below meth c A ls hC hr hlk _ hP hD hS hK hA hl
  have hx := hC.1
  have hb := hC.2.1
  have hinX0 : ∀ w ∈ wsX00, w ∈ wsX0_lineUp := fun _ _h => List.mem_cons_of_mem _ (List.mem_append_right _ _h)
  have hl : lv_has ls 6 [(0, .ref o), (1, .int (nI i)), (2, .int g), (3, .int w), (4, .int mi), (5, .int wt)] := hl
  refine lv_aload_n hx hb dX0_lineUp_0 rfl (lv_at hl 0 rfl) ?_
  refine gt_get hC 0 0 9 1 hinX0 hK hP dX0_lineUp_1 rfl rfl rfl (by decide) rfl rfl ?_
  refine lv_iload_n hx hb dX0_lineUp_4 rfl (lv_at hl 1 rfl) ?_
  refine lv_iconst (v := 1) hx hb dX0_lineUp_5 (by decide) ?_
  refine gt_ast (ws' := (sw cI o r (up2 S 9 i 1))) hC 5 0 i hK hP hD hS dX0_lineUp_6 rfl rfl rfl (by omega) (Nat.le_of_ble_eq_true rfl) rfl (fun H locs hP hD hS => ?_)
  refine lv_aload_n hx hb dX0_lineUp_7 rfl (lv_at hl 0 rfl) ?_
  refine gt_get hC 0 0 10 2 hinX0 hK hP dX0_lineUp_8 rfl rfl rfl (by decide) rfl rfl ?_
  refine lv_iload_n hx hb dX0_lineUp_11 rfl (lv_at hl 1 rfl) ?_
  refine lv_iload_n hx hb dX0_lineUp_12 rfl (lv_at hl 2 rfl) ?_
  refine gt_ast (ws' := (sw cI o r (up2 (up2 S 9 i 1) 10 i g))) hC 6 0 i hK hP hD hS dX0_lineUp_13 rfl rfl rfl (by omega) (Nat.le_of_ble_eq_true rfl) rfl (fun H locs hP hD hS => ?_)
  refine lv_aload_n hx hb dX0_lineUp_14 rfl (lv_at hl 0 rfl) ?_
  refine gt_get hC 0 0 11 3 hinX0 hK hP dX0_lineUp_15 rfl rfl rfl (by decide) rfl rfl ?_
  refine lv_iload_n hx hb dX0_lineUp_18 rfl (lv_at hl 1 rfl) ?_
  refine lv_iload_n hx hb dX0_lineUp_19 rfl (lv_at hl 3 rfl) ?_
  refine gt_ast (ws' := (sw cI o r (up2 (up2 (up2 S 9 i 1) 10 i g) 11 i w))) hC 7 0 i hK hP hD hS dX0_lineUp_20 rfl rfl rfl (by omega) (Nat.le_of_ble_eq_true rfl) rfl (fun H locs hP hD hS => ?_)
  refine lv_aload_n hx hb dX0_lineUp_21 rfl (lv_at hl 0 rfl) ?_
  refine gt_get hC 0 0 12 4 hinX0 hK hP dX0_lineUp_22 rfl rfl rfl (by decide) rfl rfl ?_
  refine lv_iload_n hx hb dX0_lineUp_25 rfl (lv_at hl 1 rfl) ?_
  refine lv_iload hx hb dX0_lineUp_26 (lv_at hl 4 rfl) ?_
  refine gt_ast (ws' := (sw cI o r (up2 (up2 (up2 (up2 S 9 i 1) 10 i g) 11 i w) 12 i mi))) hC 8 0 i hK hP hD hS dX0_lineUp_28 rfl rfl rfl (by omega) (Nat.le_of_ble_eq_true rfl) rfl (fun H locs hP hD hS => ?_)
  refine lv_aload_n hx hb dX0_lineUp_29 rfl (lv_at hl 0 rfl) ?_
  refine gt_get hC 0 0 13 5 hinX0 hK hP dX0_lineUp_30 rfl rfl rfl (by decide) rfl rfl ?_
  refine lv_iload_n hx hb dX0_lineUp_33 rfl (lv_at hl 1 rfl) ?_
  refine lv_iload hx hb dX0_lineUp_34 (lv_at hl 5 rfl) ?_
  refine gt_ast (ws' := (sw cI o r (up2 (up2 (up2 (up2 (up2 S 9 i 1) 10 i g) 11 i w) 12 i mi) 13 i wt))) hC 9 0 i hK hP hD hS dX0_lineUp_36 rfl rfl rfl (by omega) (Nat.le_of_ble_eq_true rfl) rfl (fun H locs hP hD hS => ?_)
  refine lv_aload_n hx hb dX0_lineUp_37 rfl (lv_at hl 0 rfl) ?_
  refine gt_get hC 0 0 14 6 hinX0 hK hP dX0_lineUp_38 rfl rfl rfl (by decide) rfl rfl ?_
  refine lv_iload_n hx hb dX0_lineUp_41 rfl (lv_at hl 1 rfl) ?_
  refine lv_aload_n hx hb dX0_lineUp_42 rfl (lv_at hl 0 rfl) ?_
  refine gt_get hC 0 0 3 7 hinX0 hK hP dX0_lineUp_43 rfl rfl rfl (by decide) rfl rfl ?_
  refine gt_ast (ws' := (sw cI o r (up2 (up2 (up2 (up2 (up2 (up2 S 9 i 1) 10 i g) 11 i w) 12 i mi) 13 i wt) 14 i (S 0 3)))) hC 10 0 i hK hP hD hS dX0_lineUp_46 rfl rfl rfl (by omega) (Nat.le_of_ble_eq_true rfl) rfl (fun H locs hP hD hS => ?_)
  refine lv_aload_n hx hb dX0_lineUp_47 rfl (lv_at hl 0 rfl) ?_
  refine lv_dup hx hb dX0_lineUp_48 rfl ?_
  refine gt_get hC 0 0 3 7 hinX0 hK hP dX0_lineUp_49 rfl rfl rfl (by decide) rfl rfl ?_
  refine lv_iconst (v := 1) hx hb dX0_lineUp_52 (by decide) ?_
  refine lv_iadd hx hb dX0_lineUp_53 ?_
  refine gt_puti (ws' := (sw cI o r (up2 (up2 (up2 (up2 (up2 (up2 (up2 S 9 i 1) 10 i g) 11 i w) 12 i mi) 13 i wt) 14 i (S 0 3)) 0 3 ((S 0 3) + 1)))) hC 0 0 3 7 hinX0 tyX0_ok nmX0 hK hP hD hS dX0_lineUp_54 rfl rfl (by decide) rfl rfl rfl rfl (Nat.le_of_ble_eq_true rfl) rfl (fun H locs hP hD hS => ?_)
  exact gt_vret hC hr hlk hK (ws := (sw cI o r (up2 (up2 (up2 (up2 (up2 (up2 (up2 S 9 i 1) 10 i g) 11 i w) 12 i mi) 13 i wt) 14 i (S 0 3)) 0 3 ((S 0 3) + 1)))) hP hD hS rfl rfl dX0_lineUp_57 (Nat.le_of_ble_eq_true rfl) (Nat.le_of_ble_eq_true rfl)

theorem hd_X0_enter : yX0_enter.cls = RX0 ∧ yX0_enter.cls ≠ "java/lang/invoke/MethodHandle" ∧ yX0_enter.cls ≠ "java/lang/invoke/VarHandle" ∧ (parseMethodDescriptor yX0_enter.desc).map (fun d => d.parameters.length) = some 4 := by decide +kernel
set_option maxHeartbeats 4000000 in
set_option maxRecDepth 100000 in
theorem ct_X0_enter (l : Launch) (D : va_G) (cI : ClassId) (o : Nat) (r : Nat → Nat) (S : SS) (i : Nat) (g : Int32) (t : Int32) (mi : Int32) (hi : i < 12) : Ct l D [(cI, .int)] yX0_enter wsX0_enter 0 0 0 0 [.ref o, .int (nI i), .int g, .int t, .int mi] (sw cI o r S) none (sw cI o r (gxEnt S i g t mi)) := by
  refine Ct.ofW (cc := cX0_enter) (maxL := 5) (ret := none) (by decide) rfl (Nat.le_of_ble_eq_true rfl) ?_
  intro p e s m below meth c A ls hC hr hlk _ hP hD hS hK hA hl
  have hx := hC.1
  have hb := hC.2.1
  have hinX0 : ∀ w ∈ wsX00, w ∈ wsX0_enter := fun _ _h => List.mem_cons_of_mem _ (List.mem_append_right _ _h)
  have hl : lv_has ls 5 [(0, .ref o), (1, .int (nI i)), (2, .int g), (3, .int t), (4, .int mi)] := hl
  refine lv_aload_n hx hb dX0_enter_0 rfl (lv_at hl 0 rfl) ?_
  refine gt_get hC 0 0 9 1 hinX0 hK hP dX0_enter_1 rfl rfl rfl (by decide) rfl rfl ?_
  refine lv_iload_n hx hb dX0_enter_4 rfl (lv_at hl 1 rfl) ?_
  refine lv_iconst (v := 2) hx hb dX0_enter_5 (by decide) ?_
  refine gt_ast (ws' := (sw cI o r (up2 S 9 i 2))) hC 5 0 i hK hP hD hS dX0_enter_6 rfl rfl rfl (by omega) (Nat.le_of_ble_eq_true rfl) rfl (fun H locs hP hD hS => ?_)
  refine lv_aload_n hx hb dX0_enter_7 rfl (lv_at hl 0 rfl) ?_
  refine gt_get hC 0 0 10 2 hinX0 hK hP dX0_enter_8 rfl rfl rfl (by decide) rfl rfl ?_
  refine lv_iload_n hx hb dX0_enter_11 rfl (lv_at hl 1 rfl) ?_
  refine lv_iload_n hx hb dX0_enter_12 rfl (lv_at hl 2 rfl) ?_
  refine gt_ast (ws' := (sw cI o r (up2 (up2 S 9 i 2) 10 i g))) hC 6 0 i hK hP hD hS dX0_enter_13 rfl rfl rfl (by omega) (Nat.le_of_ble_eq_true rfl) rfl (fun H locs hP hD hS => ?_)
  refine lv_aload_n hx hb dX0_enter_14 rfl (lv_at hl 0 rfl) ?_
  refine gt_get hC 0 0 11 3 hinX0 hK hP dX0_enter_15 rfl rfl rfl (by decide) rfl rfl ?_
  refine lv_iload_n hx hb dX0_enter_18 rfl (lv_at hl 1 rfl) ?_
  refine lv_iload_n hx hb dX0_enter_19 rfl (lv_at hl 3 rfl) ?_
  refine gt_ast (ws' := (sw cI o r (up2 (up2 (up2 S 9 i 2) 10 i g) 11 i t))) hC 7 0 i hK hP hD hS dX0_enter_20 rfl rfl rfl (by omega) (Nat.le_of_ble_eq_true rfl) rfl (fun H locs hP hD hS => ?_)
  refine lv_aload_n hx hb dX0_enter_21 rfl (lv_at hl 0 rfl) ?_
  refine gt_get hC 0 0 13 4 hinX0 hK hP dX0_enter_22 rfl rfl rfl (by decide) rfl rfl ?_
  refine lv_iload_n hx hb dX0_enter_25 rfl (lv_at hl 1 rfl) ?_
  refine lv_iload hx hb dX0_enter_26 (lv_at hl 4 rfl) ?_
  refine gt_ast (ws' := (sw cI o r (up2 (up2 (up2 (up2 S 9 i 2) 10 i g) 11 i t) 13 i mi))) hC 9 0 i hK hP hD hS dX0_enter_28 rfl rfl rfl (by omega) (Nat.le_of_ble_eq_true rfl) rfl (fun H locs hP hD hS => ?_)
  refine lv_aload_n hx hb dX0_enter_29 rfl (lv_at hl 0 rfl) ?_
  refine gt_get hC 0 0 15 5 hinX0 hK hP dX0_enter_30 rfl rfl rfl (by decide) rfl rfl ?_
  refine lv_iload_n hx hb dX0_enter_33 rfl (lv_at hl 1 rfl) ?_
  refine lv_iconst (v := 0) hx hb dX0_enter_34 (by decide) ?_
  refine gt_ast (ws' := (sw cI o r (up2 (up2 (up2 (up2 (up2 S 9 i 2) 10 i g) 11 i t) 13 i mi) 15 i 0))) hC 11 0 i hK hP hD hS dX0_enter_35 rfl rfl rfl (by omega) (Nat.le_of_ble_eq_true rfl) rfl (fun H locs hP hD hS => ?_)
  exact gt_vret hC hr hlk hK (ws := (sw cI o r (up2 (up2 (up2 (up2 (up2 S 9 i 2) 10 i g) 11 i t) 13 i mi) 15 i 0))) hP hD hS rfl rfl dX0_enter_36 (Nat.le_of_ble_eq_true rfl) (Nat.le_of_ble_eq_true rfl)

theorem hd_X0_openGate : yX0_openGate.cls = RX0 ∧ yX0_openGate.cls ≠ "java/lang/invoke/MethodHandle" ∧ yX0_openGate.cls ≠ "java/lang/invoke/VarHandle" ∧ (parseMethodDescriptor yX0_openGate.desc).map (fun d => d.parameters.length) = some 2 := by decide +kernel
set_option maxHeartbeats 4000000 in
set_option maxRecDepth 100000 in
theorem ct_X0_openGate (l : Launch) (D : va_G) (cI : ClassId) (o : Nat) (r : Nat → Nat) (S : SS) (G : Nat) (hG : S 0 1 = nI G) (hG4 : G < 4) (a : Int32) (b : Int32) : Ct l D [(cI, .int)] yX0_openGate wsX0_openGate 0 0 0 0 [.ref o, .int a, .int b] (sw cI o r S) (some (.int (S 0 1))) (sw cI o r (gxOpn S G a b)) := by
  refine Ct.ofW (cc := cX0_openGate) (maxL := 4) (ret := (some .int)) (by decide) rfl (Nat.le_of_ble_eq_true rfl) ?_
  intro p e s m below meth c A ls hC hr hlk _ hP hD hS hK hA hl
  have hx := hC.1
  have hb := hC.2.1
  have hinX0 : ∀ w ∈ wsX00, w ∈ wsX0_openGate := fun _ _h => List.mem_cons_of_mem _ (List.mem_append_right _ _h)
  have hl : lv_has ls 4 [(0, .ref o), (1, .int a), (2, .int b)] := hl
  refine lv_aload_n hx hb dX0_openGate_0 rfl (lv_at hl 0 rfl) ?_
  refine gt_get hC 0 0 1 1 hinX0 hK hP dX0_openGate_1 rfl rfl rfl (by decide) rfl rfl ?_
  refine lv_istore_n (lv' := [(3, .int (S 0 1)), (0, .ref o), (1, .int a), (2, .int b)]) hx hb dX0_openGate_4 rfl hl (by decide) rfl (fun ls hl => ?_)
  refine lv_aload_n hx hb dX0_openGate_5 rfl (lv_at hl 1 rfl) ?_
  refine gt_get hC 0 0 5 2 hinX0 hK hP dX0_openGate_6 rfl rfl rfl (by decide) rfl rfl ?_
  refine lv_iload_n hx hb dX0_openGate_9 rfl (lv_at hl 0 rfl) ?_
  refine lv_iload_n hx hb dX0_openGate_10 rfl (lv_at hl 2 rfl) ?_
  refine gt_ast (ws' := (sw cI o r (up2 S 5 G a))) hC 1 0 G hK hP hD hS dX0_openGate_11 rfl rfl hG (by omega) (Nat.le_of_ble_eq_true rfl) rfl (fun H locs hP hD hS => ?_)
  refine lv_aload_n hx hb dX0_openGate_12 rfl (lv_at hl 1 rfl) ?_
  refine gt_get hC 0 0 6 3 hinX0 hK hP dX0_openGate_13 rfl rfl rfl (by decide) rfl rfl ?_
  refine lv_iload_n hx hb dX0_openGate_16 rfl (lv_at hl 0 rfl) ?_
  refine lv_iload_n hx hb dX0_openGate_17 rfl (lv_at hl 3 rfl) ?_
  refine gt_ast (ws' := (sw cI o r (up2 (up2 S 5 G a) 6 G b))) hC 2 0 G hK hP hD hS dX0_openGate_18 rfl rfl hG (by omega) (Nat.le_of_ble_eq_true rfl) rfl (fun H locs hP hD hS => ?_)
  refine lv_aload_n hx hb dX0_openGate_19 rfl (lv_at hl 1 rfl) ?_
  refine lv_dup hx hb dX0_openGate_20 rfl ?_
  refine gt_get hC 0 0 1 1 hinX0 hK hP dX0_openGate_21 rfl rfl rfl (by decide) rfl rfl ?_
  refine lv_iconst (v := 1) hx hb dX0_openGate_24 (by decide) ?_
  refine lv_iadd hx hb dX0_openGate_25 ?_
  refine gt_puti (ws' := (sw cI o r (up2 (up2 (up2 S 5 G a) 6 G b) 0 1 ((S 0 1) + 1)))) hC 0 0 1 1 hinX0 tyX0_ok nmX0 hK hP hD hS dX0_openGate_26 rfl rfl (by decide) rfl rfl rfl rfl (Nat.le_of_ble_eq_true rfl) rfl (fun H locs hP hD hS => ?_)
  refine lv_iload_n hx hb dX0_openGate_29 rfl (lv_at hl 0 rfl) ?_
  exact gt_iret hC hr hlk hK (ws := (sw cI o r (up2 (up2 (up2 S 5 G a) 6 G b) 0 1 ((S 0 1) + 1)))) hP hD hS (show some (Value.int (S 0 1)) = _ from rfl) rfl dX0_openGate_30 (Nat.le_of_ble_eq_true rfl) (Nat.le_of_ble_eq_true rfl)

theorem hd_X0_bringGoat : yX0_bringGoat.cls = RX0 ∧ yX0_bringGoat.cls ≠ "java/lang/invoke/MethodHandle" ∧ yX0_bringGoat.cls ≠ "java/lang/invoke/VarHandle" ∧ (parseMethodDescriptor yX0_bringGoat.desc).map (fun d => d.parameters.length) = some 1 := by decide +kernel
set_option maxHeartbeats 4000000 in
set_option maxRecDepth 100000 in
theorem ct_X0_bringGoat (l : Launch) (D : va_G) (cI : ClassId) (o : Nat) (r : Nat → Nat) (S : SS) (N : Nat) (hN : S 0 2 = nI N) (hN12 : N < 12) (h : Int32) : Ct l D [(cI, .int)] yX0_bringGoat wsX0_bringGoat 1 21 0 0 [.ref o, .int h] (sw cI o r S) (some (.int (S 0 2))) (sw cI o r (gxBrg S N h)) := by
  refine Ct.ofW (cc := cX0_bringGoat) (maxL := 3) (ret := (some .int)) (by decide) rfl (Nat.le_of_ble_eq_true rfl) ?_
  intro p e s m below meth c A ls hC hr hlk _ hP hD hS hK hA hl
  have hx := hC.1
  have hb := hC.2.1
  have hinX0 : ∀ w ∈ wsX00, w ∈ wsX0_bringGoat := fun _ _h => List.mem_cons_of_mem _ (List.mem_append_right _ _h)
  have hl : lv_has ls 3 [(0, .ref o), (1, .int h)] := hl
  refine lv_aload_n hx hb dX0_bringGoat_0 rfl (lv_at hl 0 rfl) ?_
  refine gt_get hC 0 0 2 1 hinX0 hK hP dX0_bringGoat_1 rfl rfl rfl (by decide) rfl rfl ?_
  refine lv_istore_n (lv' := [(2, .int (S 0 2)), (0, .ref o), (1, .int h)]) hx hb dX0_bringGoat_4 rfl hl (by decide) rfl (fun ls hl => ?_)
  refine lv_aload_n hx hb dX0_bringGoat_5 rfl (lv_at hl 1 rfl) ?_
  refine gt_get hC 0 0 8 2 hinX0 hK hP dX0_bringGoat_6 rfl rfl rfl (by decide) rfl rfl ?_
  refine lv_iload_n hx hb dX0_bringGoat_9 rfl (lv_at hl 0 rfl) ?_
  refine lv_iload_n hx hb dX0_bringGoat_10 rfl (lv_at hl 2 rfl) ?_
  refine gt_ast (ws' := (sw cI o r (up2 S 8 N h))) hC 4 0 N hK hP hD hS dX0_bringGoat_11 rfl rfl hN (by omega) (Nat.le_of_ble_eq_true rfl) rfl (fun H locs hP hD hS => ?_)
  refine lv_aload_n hx hb dX0_bringGoat_12 rfl (lv_at hl 1 rfl) ?_
  refine lv_iload_n hx hb dX0_bringGoat_13 rfl (lv_at hl 0 rfl) ?_
  refine gt_stk [.int (nI N), .ref o] (by rw [hN] <;> rfl) ?_
  refine gt_call0 hC 0 0 1 (ct_X0_rest l D cI o r (up2 S 8 N h) N (by omega)) gX0_bringGoat_X0_rest dX0_bringGoat_14 hK hP hD hS hA hl.1 rfl hd_X0_rest ⟨Nat.le_of_ble_eq_true rfl, Nat.le_of_ble_eq_true rfl⟩ ⟨Nat.le_of_ble_eq_true rfl, Nat.le_of_ble_eq_true rfl⟩ rfl rfl rfl rfl (Nat.le_of_ble_eq_true rfl) (fun H locs hP hD hS => ?_)
  refine lv_aload_n hx hb dX0_bringGoat_17 rfl (lv_at hl 1 rfl) ?_
  refine lv_dup hx hb dX0_bringGoat_18 rfl ?_
  refine gt_get hC 0 0 2 1 hinX0 hK hP dX0_bringGoat_19 rfl rfl rfl (by decide) rfl rfl ?_
  refine lv_iconst (v := 1) hx hb dX0_bringGoat_22 (by decide) ?_
  refine lv_iadd hx hb dX0_bringGoat_23 ?_
  refine gt_puti (ws' := (sw cI o r (up2 (gxRest (up2 S 8 N h) N) 0 2 (((gxRest (up2 S 8 N h) N) 0 2) + 1)))) hC 0 0 2 1 hinX0 tyX0_ok nmX0 hK hP hD hS dX0_bringGoat_24 rfl rfl (by decide) rfl rfl rfl rfl (Nat.le_of_ble_eq_true rfl) rfl (fun H locs hP hD hS => ?_)
  refine lv_iload_n hx hb dX0_bringGoat_27 rfl (lv_at hl 0 rfl) ?_
  exact gt_iret hC hr hlk hK (ws := (sw cI o r (up2 (gxRest (up2 S 8 N h) N) 0 2 (((gxRest (up2 S 8 N h) N) 0 2) + 1)))) hP hD hS (show some (Value.int (S 0 2)) = _ from rfl) rfl dX0_bringGoat_28 (Nat.le_of_ble_eq_true rfl) (Nat.le_of_ble_eq_true rfl)

theorem hd_X0_leaveThoseWhoStayed : yX0_leaveThoseWhoStayed.cls = RX0 ∧ yX0_leaveThoseWhoStayed.cls ≠ "java/lang/invoke/MethodHandle" ∧ yX0_leaveThoseWhoStayed.cls ≠ "java/lang/invoke/VarHandle" ∧ (parseMethodDescriptor yX0_leaveThoseWhoStayed.desc).map (fun d => d.parameters.length) = some 0 := by decide +kernel
set_option maxHeartbeats 4000000 in
set_option maxRecDepth 100000 in
theorem ct_X0_leaveThoseWhoStayed (l : Launch) (D : va_G) (cI : ClassId) (o : Nat) (r : Nat → Nat) (S : SS) (N : Nat) (hN : S 0 2 = nI N) (hN12 : N ≤ 12) : Ct l D [(cI, .int)] yX0_leaveThoseWhoStayed wsX0_leaveThoseWhoStayed 1 21 0 0 [.ref o] (sw cI o r S) none (sw cI o r (gxLv S N)) := by
  refine Ct.ofW (cc := cX0_leaveThoseWhoStayed) (maxL := 2) (ret := none) (by decide) rfl (Nat.le_of_ble_eq_true rfl) ?_
  intro p e s m below meth c A ls hC hr hlk _ hP hD hS hK hA hl
  have hx := hC.1
  have hb := hC.2.1
  have hinX0 : ∀ w ∈ wsX00, w ∈ wsX0_leaveThoseWhoStayed := fun _ _h => List.mem_cons_of_mem _ (List.mem_append_right _ _h)
  have hl : lv_has ls 2 [(0, .ref o)] := hl
  refine lv_iconst (v := 0) hx hb dX0_leaveThoseWhoStayed_0 (by decide) ?_
  refine lv_istore_n (lv' := [(1, .int 0), (0, .ref o)]) hx hb dX0_leaveThoseWhoStayed_1 rfl hl (by decide) rfl (fun ls hl => ?_)
  refine gt_loop D A s.heap 2 N (fun n => [(1, .int (nI n)), (0, .ref o)]) (fun n => (sw cI o r (gxLv S n))) (lv_sub hl [0, 1] rfl) hP hD hS (fun n hi_n H locs ls hP hD hS hl K1 => ?_) (fun H locs ls hP hD hS hl => ?_)
  · skip
    refine lv_iload_n hx hb dX0_leaveThoseWhoStayed_2 rfl (lv_at hl 0 rfl) ?_
    refine lv_aload_n hx hb dX0_leaveThoseWhoStayed_3 rfl (lv_at hl 1 rfl) ?_
    refine gt_get hC 0 0 2 1 hinX0 hK hP dX0_leaveThoseWhoStayed_4 rfl rfl rfl (by decide) rfl rfl ?_
    refine gt_ge_f (tgt := 50) hC n N dX0_leaveThoseWhoStayed_7 (by decide) rfl ((congrFun (gxLv_0 S _) 2).trans hN) hi_n (by omega) ?_
    refine lv_aload_n hx hb dX0_leaveThoseWhoStayed_10 rfl (lv_at hl 1 rfl) ?_
    refine gt_get hC 0 0 9 2 hinX0 hK hP dX0_leaveThoseWhoStayed_11 rfl rfl rfl (by decide) rfl rfl ?_
    refine lv_iload_n hx hb dX0_leaveThoseWhoStayed_14 rfl (lv_at hl 0 rfl) ?_
    refine gt_ald hC 5 0 n hK hP dX0_leaveThoseWhoStayed_15 rfl rfl rfl (by omega) (Nat.le_of_ble_eq_true rfl) ?_
    refine lv_iconst (v := 2) hx hb dX0_leaveThoseWhoStayed_16 (by decide) ?_
    refine lv_icmp_ne (tgt := 44) hx hb dX0_leaveThoseWhoStayed_17 (by decide) (fun c17_2 : ¬ (((gxLv S n) 9 n) = 2) => ?_) (fun c17_2 : ((gxLv S n) 9 n) = 2 => ?_)
    · skip
      refine gt_inc (lv' := [(1, .int (nI (n + 1))), (0, .ref o)]) hC 0 n dX0_leaveThoseWhoStayed_44 hl rfl rfl (by decide) rfl (fun ls hl => ?_)
      refine lv_goto (tgt := 2) hx hb dX0_leaveThoseWhoStayed_47 (by decide) ?_
      have hl9 : lv_has ls 2 [(1, .int (nI (n + 1))), (0, .ref o)] := lv_sub hl [0, 1] rfl
      have e9 : (gxLv S n) = (gxLv S (n + 1)) := by show _ = gxLvT (gxLv S n) n; simp only [gxLvT, if_neg c17_2]
      rw [e9] at hP hD
      exact K1 H locs ls hP hD hS hl9
    · skip
      refine lv_aload_n hx hb dX0_leaveThoseWhoStayed_20 rfl (lv_at hl 1 rfl) ?_
      refine gt_get hC 0 0 13 3 hinX0 hK hP dX0_leaveThoseWhoStayed_21 rfl rfl rfl (by decide) rfl rfl ?_
      refine lv_iload_n hx hb dX0_leaveThoseWhoStayed_24 rfl (lv_at hl 0 rfl) ?_
      refine lv_dup2_11 hx hb dX0_leaveThoseWhoStayed_25 rfl rfl ?_
      refine gt_ald hC 9 0 n hK hP dX0_leaveThoseWhoStayed_26 rfl rfl rfl (by omega) (Nat.le_of_ble_eq_true rfl) ?_
      refine lv_iconst (v := 1) hx hb dX0_leaveThoseWhoStayed_27 (by decide) ?_
      refine lv_isub hx hb dX0_leaveThoseWhoStayed_28 ?_
      refine gt_ast (ws' := (sw cI o r (up2 (gxLv S n) 13 n (((gxLv S n) 13 n) - 1)))) hC 9 0 n hK hP hD hS dX0_leaveThoseWhoStayed_29 rfl rfl rfl (by omega) (Nat.le_of_ble_eq_true rfl) rfl (fun H locs hP hD hS => ?_)
      refine lv_aload_n hx hb dX0_leaveThoseWhoStayed_30 rfl (lv_at hl 1 rfl) ?_
      refine gt_get hC 0 0 13 3 hinX0 hK hP dX0_leaveThoseWhoStayed_31 rfl rfl rfl (by decide) rfl rfl ?_
      refine lv_iload_n hx hb dX0_leaveThoseWhoStayed_34 rfl (lv_at hl 0 rfl) ?_
      refine gt_ald hC 9 0 n hK hP dX0_leaveThoseWhoStayed_35 rfl rfl rfl (by omega) (Nat.le_of_ble_eq_true rfl) ?_
      refine lv_if_gt (tgt := 44) hx hb dX0_leaveThoseWhoStayed_36 (by decide) (fun c36_3 : 0 < ((up2 (gxLv S n) 13 n (((gxLv S n) 13 n) - 1)) 13 n) => ?_) (fun c36_3 : ¬ (0 < ((up2 (gxLv S n) 13 n (((gxLv S n) 13 n) - 1)) 13 n)) => ?_)
      · skip
        refine gt_inc (lv' := [(1, .int (nI (n + 1))), (0, .ref o)]) hC 0 n dX0_leaveThoseWhoStayed_44 hl rfl rfl (by decide) rfl (fun ls hl => ?_)
        refine lv_goto (tgt := 2) hx hb dX0_leaveThoseWhoStayed_47 (by decide) ?_
        have hl9 : lv_has ls 2 [(1, .int (nI (n + 1))), (0, .ref o)] := lv_sub hl [0, 1] rfl
        have e9 : (up2 (gxLv S n) 13 n (((gxLv S n) 13 n) - 1)) = (gxLv S (n + 1)) := by show _ = gxLvT (gxLv S n) n; simp only [gxLvT, if_pos c17_2, if_pos c36_3]
        rw [e9] at hP hD
        exact K1 H locs ls hP hD hS hl9
      · skip
        refine lv_aload_n hx hb dX0_leaveThoseWhoStayed_39 rfl (lv_at hl 1 rfl) ?_
        refine lv_iload_n hx hb dX0_leaveThoseWhoStayed_40 rfl (lv_at hl 0 rfl) ?_
        refine gt_call0 hC 0 0 1 (ct_X0_rest l D cI o r (up2 (gxLv S n) 13 n (((gxLv S n) 13 n) - 1)) n (by omega)) gX0_leaveThoseWhoStayed_X0_rest dX0_leaveThoseWhoStayed_41 hK hP hD hS hA hl.1 rfl hd_X0_rest ⟨Nat.le_of_ble_eq_true rfl, Nat.le_of_ble_eq_true rfl⟩ ⟨Nat.le_of_ble_eq_true rfl, Nat.le_of_ble_eq_true rfl⟩ rfl rfl rfl rfl (Nat.le_of_ble_eq_true rfl) (fun H locs hP hD hS => ?_)
        refine gt_inc (lv' := [(1, .int (nI (n + 1))), (0, .ref o)]) hC 0 n dX0_leaveThoseWhoStayed_44 hl rfl rfl (by decide) rfl (fun ls hl => ?_)
        refine lv_goto (tgt := 2) hx hb dX0_leaveThoseWhoStayed_47 (by decide) ?_
        have hl9 : lv_has ls 2 [(1, .int (nI (n + 1))), (0, .ref o)] := lv_sub hl [0, 1] rfl
        have e9 : gxRest (up2 (gxLv S n) 13 n (((gxLv S n) 13 n) - 1)) n = (gxLv S (n + 1)) := by show _ = gxLvT (gxLv S n) n; simp only [gxLvT, if_pos c17_2, if_neg c36_3]
        rw [e9] at hP hD
        exact K1 H locs ls hP hD hS hl9
  · skip
    refine lv_iload_n hx hb dX0_leaveThoseWhoStayed_2 rfl (lv_at hl 0 rfl) ?_
    refine lv_aload_n hx hb dX0_leaveThoseWhoStayed_3 rfl (lv_at hl 1 rfl) ?_
    refine gt_get hC 0 0 2 1 hinX0 hK hP dX0_leaveThoseWhoStayed_4 rfl rfl rfl (by decide) rfl rfl ?_
    refine gt_ge_t (tgt := 50) hC N N dX0_leaveThoseWhoStayed_7 (by decide) rfl ((congrFun (gxLv_0 S _) 2).trans hN) (Nat.le_refl _) (by omega) ?_
    exact gt_vret hC hr hlk hK (ws := (sw cI o r (gxLv S N))) hP hD hS rfl rfl dX0_leaveThoseWhoStayed_50 (Nat.le_of_ble_eq_true rfl) (Nat.le_of_ble_eq_true rfl)

theorem hd_X0_firstIn : yX0_firstIn.cls = RX0 ∧ yX0_firstIn.cls ≠ "java/lang/invoke/MethodHandle" ∧ yX0_firstIn.cls ≠ "java/lang/invoke/VarHandle" ∧ (parseMethodDescriptor yX0_firstIn.desc).map (fun d => d.parameters.length) = some 1 := by decide +kernel
set_option maxHeartbeats 4000000 in
set_option maxRecDepth 100000 in
theorem ct_X0_firstIn (l : Launch) (D : va_G) (cI : ClassId) (o : Nat) (r : Nat → Nat) (S : SS) (g : Nat) (hg : g < 4) (N : Nat) (hN : S 0 2 = nI N) (hN12 : N ≤ 12) : Ct l D [(cI, .int)] yX0_firstIn wsX0_firstIn 1 23 0 0 [.ref o, .int (nI g)] (sw cI o r S) (some (.int (gxFiR S g N))) (sw cI o r S) := by
  refine Ct.ofW (cc := cX0_firstIn) (maxL := 10) (ret := (some .int)) (by decide) rfl (Nat.le_of_ble_eq_true rfl) ?_
  intro p e s m below meth c A ls hC hr hlk _ hP hD hS hK hA hl
  have hx := hC.1
  have hb := hC.2.1
  have hinX0 : ∀ w ∈ wsX00, w ∈ wsX0_firstIn := fun _ _h => List.mem_cons_of_mem _ (List.mem_append_right _ _h)
  have hl : lv_has ls 10 [(0, .ref o), (1, .int (nI g))] := hl
  refine lv_aload_n hx hb dX0_firstIn_0 rfl (lv_at hl 0 rfl) ?_
  refine lv_iload_n hx hb dX0_firstIn_1 rfl (lv_at hl 1 rfl) ?_
  refine gt_call0 hC 0 0 1 (ct_X0_freePermits l D cI o r S g (by omega) N hN hN12) gX0_firstIn_X0_freePermits dX0_firstIn_2 hK hP hD hS hA hl.1 rfl hd_X0_freePermits ⟨Nat.le_of_ble_eq_true rfl, Nat.le_of_ble_eq_true rfl⟩ ⟨Nat.le_of_ble_eq_true rfl, Nat.le_of_ble_eq_true rfl⟩ rfl rfl rfl rfl (Nat.le_of_ble_eq_true rfl) (fun H locs hP hD hS => ?_)
  refine lv_istore_n (lv' := [(2, .int (gxFree S g N)), (0, .ref o), (1, .int (nI g))]) hx hb dX0_firstIn_5 rfl hl (by decide) rfl (fun ls hl => ?_)
  refine lv_aload_n hx hb dX0_firstIn_6 rfl (lv_at hl 1 rfl) ?_
  refine gt_get hC 0 0 6 1 hinX0 hK hP dX0_firstIn_7 rfl rfl rfl (by decide) rfl rfl ?_
  refine lv_iload_n hx hb dX0_firstIn_10 rfl (lv_at hl 2 rfl) ?_
  refine gt_ald hC 2 0 g hK hP dX0_firstIn_11 rfl rfl rfl (by omega) (Nat.le_of_ble_eq_true rfl) ?_
  refine lv_iconst (v := 1) hx hb dX0_firstIn_12 (by decide) ?_
  refine gt_meet (rest := []) 21 (gxBh S g) (fun K1 => ?_) ?_
  · skip
    refine lv_icmp_ne (tgt := 20) hx hb dX0_firstIn_13 (by decide) (fun c13_2 : ¬ ((S 6 g) = 1) => ?_) (fun c13_2 : (S 6 g) = 1 => ?_)
    · skip
      refine lv_iconst (v := 0) hx hb dX0_firstIn_20 (by decide) ?_
      exact K1 _ (show 0 = (if (S 6 g) = 1 then 1 else 0) from by rw [if_neg c13_2])
    · skip
      refine lv_iconst (v := 1) hx hb dX0_firstIn_16 (by decide) ?_
      refine lv_goto (tgt := 21) hx hb dX0_firstIn_17 (by decide) ?_
      exact K1 _ (show 1 = (if (S 6 g) = 1 then 1 else 0) from by rw [if_pos c13_2])
  · skip
    refine lv_istore_n (lv' := [(3, .int (gxBh S g)), (2, .int (gxFree S g N)), (0, .ref o), (1, .int (nI g))]) hx hb dX0_firstIn_21 rfl hl (by decide) rfl (fun ls hl => ?_)
    refine lv_iconst (v := (-1)) hx hb dX0_firstIn_22 (by decide) ?_
    refine lv_istore (lv' := [(4, .int (-1)), (3, .int (gxBh S g)), (2, .int (gxFree S g N)), (0, .ref o), (1, .int (nI g))]) hx hb dX0_firstIn_23 hl (by decide) rfl (fun ls hl => ?_)
    refine lv_iconst (v := 0) hx hb dX0_firstIn_25 (by decide) ?_
    refine lv_istore (lv' := [(5, .int 0), (4, .int (-1)), (3, .int (gxBh S g)), (2, .int (gxFree S g N)), (0, .ref o), (1, .int (nI g))]) hx hb dX0_firstIn_26 hl (by decide) rfl (fun ls hl => ?_)
    refine lv_iconst (v := 0) hx hb dX0_firstIn_28 (by decide) ?_
    refine lv_istore (lv' := [(6, .int 0), (5, .int 0), (4, .int (-1)), (3, .int (gxBh S g)), (2, .int (gxFree S g N)), (0, .ref o), (1, .int (nI g))]) hx hb dX0_firstIn_29 hl (by decide) rfl (fun ls hl => ?_)
    refine gt_loop D A s.heap 10 N (fun n => [(6, .int (nI n)), (5, .int ((gxFiL S (gxFree S g N) (gxBh S g) g n).2)), (4, .int ((gxFiL S (gxFree S g N) (gxBh S g) g n).1)), (3, .int (gxBh S g)), (2, .int (gxFree S g N)), (0, .ref o), (1, .int (nI g))]) (fun n => (sw cI o r S)) (lv_sub hl [0, 1, 2, 3, 4, 5, 6] rfl) hP hD hS (fun n hi_n H locs ls hP hD hS hl K3 => ?_) (fun H locs ls hP hD hS hl => ?_)
    · skip
      refine lv_iload hx hb dX0_firstIn_31 (lv_at hl 0 rfl) ?_
      refine lv_aload_n hx hb dX0_firstIn_33 rfl (lv_at hl 5 rfl) ?_
      refine gt_get hC 0 0 2 2 hinX0 hK hP dX0_firstIn_34 rfl rfl rfl (by decide) rfl rfl ?_
      refine gt_ge_f (tgt := 155) hC n N dX0_firstIn_37 (by decide) rfl hN hi_n (by omega) ?_
      refine lv_aload_n hx hb dX0_firstIn_40 rfl (lv_at hl 5 rfl) ?_
      refine lv_iload hx hb dX0_firstIn_41 (lv_at hl 0 rfl) ?_
      refine lv_iload_n hx hb dX0_firstIn_43 rfl (lv_at hl 6 rfl) ?_
      refine gt_call0 hC 0 0 2 (ct_X0_waitsAt l D cI o r S n (nI g) (by omega)) gX0_firstIn_X0_waitsAt dX0_firstIn_44 hK hP hD hS hA hl.1 rfl hd_X0_waitsAt ⟨Nat.le_of_ble_eq_true rfl, Nat.le_of_ble_eq_true rfl⟩ ⟨Nat.le_of_ble_eq_true rfl, Nat.le_of_ble_eq_true rfl⟩ rfl rfl rfl rfl (Nat.le_of_ble_eq_true rfl) (fun H locs hP hD hS => ?_)
      refine gt_meet (rest := []) 70 (gxCo S (gxFree S g N) (gxBh S g) g n) (fun K4 => ?_) ?_
      · skip
        refine lv_if_eq (tgt := 69) hx hb dX0_firstIn_47 (by decide) (fun c47_5 : (gxWt S n (nI g)) = 0 => ?_) (fun c47_5 : ¬ ((gxWt S n (nI g)) = 0) => ?_)
        · skip
          refine lv_iconst (v := 0) hx hb dX0_firstIn_69 (by decide) ?_
          exact K4 _ (show 0 = (if (gxWt S n (nI g)) = 0 then 0 else (if (gxBh S g) = 0 then 1 else (if (gxFree S g N) < (S 11 n) then 0 else 1))) from by rw [if_pos c47_5])
        · skip
          refine lv_iload_n hx hb dX0_firstIn_50 rfl (lv_at hl 3 rfl) ?_
          refine lv_if_eq (tgt := 65) hx hb dX0_firstIn_51 (by decide) (fun c51_6 : (gxBh S g) = 0 => ?_) (fun c51_6 : ¬ ((gxBh S g) = 0) => ?_)
          · skip
            refine lv_iconst (v := 1) hx hb dX0_firstIn_65 (by decide) ?_
            refine lv_goto (tgt := 70) hx hb dX0_firstIn_66 (by decide) ?_
            exact K4 _ (show 1 = (if (gxWt S n (nI g)) = 0 then 0 else (if (gxBh S g) = 0 then 1 else (if (gxFree S g N) < (S 11 n) then 0 else 1))) from by rw [if_neg c47_5, if_pos c51_6])
          · skip
            refine lv_aload_n hx hb dX0_firstIn_54 rfl (lv_at hl 5 rfl) ?_
            refine gt_get hC 0 0 11 3 hinX0 hK hP dX0_firstIn_55 rfl rfl rfl (by decide) rfl rfl ?_
            refine lv_iload hx hb dX0_firstIn_58 (lv_at hl 0 rfl) ?_
            refine gt_ald hC 7 0 n hK hP dX0_firstIn_60 rfl rfl rfl (by omega) (Nat.le_of_ble_eq_true rfl) ?_
            refine lv_iload_n hx hb dX0_firstIn_61 rfl (lv_at hl 4 rfl) ?_
            refine lv_icmp_gt (tgt := 69) hx hb dX0_firstIn_62 (by decide) (fun c62_7 : (gxFree S g N) < (S 11 n) => ?_) (fun c62_7 : ¬ ((gxFree S g N) < (S 11 n)) => ?_)
            · skip
              refine lv_iconst (v := 0) hx hb dX0_firstIn_69 (by decide) ?_
              exact K4 _ (show 0 = (if (gxWt S n (nI g)) = 0 then 0 else (if (gxBh S g) = 0 then 1 else (if (gxFree S g N) < (S 11 n) then 0 else 1))) from by rw [if_neg c47_5, if_neg c51_6, if_pos c62_7])
            · skip
              refine lv_iconst (v := 1) hx hb dX0_firstIn_65 (by decide) ?_
              refine lv_goto (tgt := 70) hx hb dX0_firstIn_66 (by decide) ?_
              exact K4 _ (show 1 = (if (gxWt S n (nI g)) = 0 then 0 else (if (gxBh S g) = 0 then 1 else (if (gxFree S g N) < (S 11 n) then 0 else 1))) from by rw [if_neg c47_5, if_neg c51_6, if_neg c62_7])
      · skip
        refine lv_istore (lv' := [(7, .int (gxCo S (gxFree S g N) (gxBh S g) g n)), (6, .int (nI n)), (5, .int ((gxFiL S (gxFree S g N) (gxBh S g) g n).2)), (4, .int ((gxFiL S (gxFree S g N) (gxBh S g) g n).1)), (3, .int (gxBh S g)), (2, .int (gxFree S g N)), (0, .ref o), (1, .int (nI g))]) hx hb dX0_firstIn_70 hl (by decide) rfl (fun ls hl => ?_)
        refine lv_iload_n hx hb dX0_firstIn_72 rfl (lv_at hl 4 rfl) ?_
        refine gt_meetH D A s.heap (sw cI o r S) hP hD hS (rest := []) 86 (gxLn S (gxBh S g) n) (fun K8 => ?_) (fun H locs hP hD hS => ?_)
        · skip
          refine lv_if_eq (tgt := 85) hx hb dX0_firstIn_73 (by decide) (fun c73_9 : (gxBh S g) = 0 => ?_) (fun c73_9 : ¬ ((gxBh S g) = 0) => ?_)
          · skip
            refine lv_iconst (v := 0) hx hb dX0_firstIn_85 (by decide) ?_
            exact K8 _ H locs hP hD hS (show 0 = (if (gxBh S g) = 0 then 0 else (gxSeem S n)) from by rw [if_pos c73_9])
          · skip
            refine lv_aload_n hx hb dX0_firstIn_76 rfl (lv_at hl 6 rfl) ?_
            refine lv_iload hx hb dX0_firstIn_77 (lv_at hl 1 rfl) ?_
            refine gt_call0 hC 0 0 1 (ct_X0_seeming l D cI o r S n (by omega)) gX0_firstIn_X0_seeming dX0_firstIn_79 hK hP hD hS hA hl.1 rfl hd_X0_seeming ⟨Nat.le_of_ble_eq_true rfl, Nat.le_of_ble_eq_true rfl⟩ ⟨Nat.le_of_ble_eq_true rfl, Nat.le_of_ble_eq_true rfl⟩ rfl rfl rfl rfl (Nat.le_of_ble_eq_true rfl) (fun H locs hP hD hS => ?_)
            refine lv_goto (tgt := 86) hx hb dX0_firstIn_82 (by decide) ?_
            exact K8 _ H locs hP hD hS (show (gxSeem S n) = (if (gxBh S g) = 0 then 0 else (gxSeem S n)) from by rw [if_neg c73_9])
        · skip
          refine lv_istore (lv' := [(8, .int (gxLn S (gxBh S g) n)), (7, .int (gxCo S (gxFree S g N) (gxBh S g) g n)), (6, .int (nI n)), (5, .int ((gxFiL S (gxFree S g N) (gxBh S g) g n).2)), (4, .int ((gxFiL S (gxFree S g N) (gxBh S g) g n).1)), (3, .int (gxBh S g)), (2, .int (gxFree S g N)), (0, .ref o), (1, .int (nI g))]) hx hb dX0_firstIn_86 hl (by decide) rfl (fun ls hl => ?_)
          refine lv_iload hx hb dX0_firstIn_88 (lv_at hl 4 rfl) ?_
          refine gt_meet (rest := []) 115 (gxEr S (gxFiL S (gxFree S g N) (gxBh S g) g n).1 n) (fun K10 => ?_) ?_
          · skip
            refine lv_if_lt (tgt := 110) hx hb dX0_firstIn_90 (by decide) (fun c90_11 : ((gxFiL S (gxFree S g N) (gxBh S g) g n).1) < 0 => ?_) (fun c90_11 : ¬ (((gxFiL S (gxFree S g N) (gxBh S g) g n).1) < 0) => ?_)
            · skip
              refine lv_iconst (v := 1) hx hb dX0_firstIn_110 (by decide) ?_
              refine lv_goto (tgt := 115) hx hb dX0_firstIn_111 (by decide) ?_
              exact K10 _ (show 1 = (if ((gxFiL S (gxFree S g N) (gxBh S g) g n).1) < 0 then 1 else (if (S 14 (((gxFiL S (gxFree S g N) (gxBh S g) g n).1).toNatClampNeg)) ≤ (S 14 n) then 0 else 1)) from by rw [if_pos c90_11])
            · skip
              refine lv_aload_n hx hb dX0_firstIn_93 rfl (lv_at hl 7 rfl) ?_
              refine gt_get hC 0 0 14 4 hinX0 hK hP dX0_firstIn_94 rfl rfl rfl (by decide) rfl rfl ?_
              refine lv_iload hx hb dX0_firstIn_97 (lv_at hl 2 rfl) ?_
              refine gt_ald hC 10 0 n hK hP dX0_firstIn_99 rfl rfl rfl (by omega) (Nat.le_of_ble_eq_true rfl) ?_
              refine lv_aload_n hx hb dX0_firstIn_100 rfl (lv_at hl 7 rfl) ?_
              refine gt_get hC 0 0 14 4 hinX0 hK hP dX0_firstIn_101 rfl rfl rfl (by decide) rfl rfl ?_
              refine lv_iload hx hb dX0_firstIn_104 (lv_at hl 4 rfl) ?_
              refine gt_ald hC 10 0 (((gxFiL S (gxFree S g N) (gxBh S g) g n).1).toNatClampNeg) hK hP dX0_firstIn_106 rfl rfl (gxFiL_cl (by omega) c90_11).1 (Nat.lt_of_lt_of_le (gxFiL_cl (by omega) c90_11).2 (by omega)) (Nat.le_of_ble_eq_true rfl) ?_
              refine lv_icmp_ge (tgt := 114) hx hb dX0_firstIn_107 (by decide) (fun c107_12 : (S 14 (((gxFiL S (gxFree S g N) (gxBh S g) g n).1).toNatClampNeg)) ≤ (S 14 n) => ?_) (fun c107_12 : ¬ ((S 14 (((gxFiL S (gxFree S g N) (gxBh S g) g n).1).toNatClampNeg)) ≤ (S 14 n)) => ?_)
              · skip
                refine lv_iconst (v := 0) hx hb dX0_firstIn_114 (by decide) ?_
                exact K10 _ (show 0 = (if ((gxFiL S (gxFree S g N) (gxBh S g) g n).1) < 0 then 1 else (if (S 14 (((gxFiL S (gxFree S g N) (gxBh S g) g n).1).toNatClampNeg)) ≤ (S 14 n) then 0 else 1)) from by rw [if_neg c90_11, if_pos c107_12])
              · skip
                refine lv_iconst (v := 1) hx hb dX0_firstIn_110 (by decide) ?_
                refine lv_goto (tgt := 115) hx hb dX0_firstIn_111 (by decide) ?_
                exact K10 _ (show 1 = (if ((gxFiL S (gxFree S g N) (gxBh S g) g n).1) < 0 then 1 else (if (S 14 (((gxFiL S (gxFree S g N) (gxBh S g) g n).1).toNatClampNeg)) ≤ (S 14 n) then 0 else 1)) from by rw [if_neg c90_11, if_neg c107_12])
          · skip
            refine lv_istore (lv' := [(9, .int (gxEr S (gxFiL S (gxFree S g N) (gxBh S g) g n).1 n)), (8, .int (gxLn S (gxBh S g) n)), (7, .int (gxCo S (gxFree S g N) (gxBh S g) g n)), (6, .int (nI n)), (5, .int ((gxFiL S (gxFree S g N) (gxBh S g) g n).2)), (4, .int ((gxFiL S (gxFree S g N) (gxBh S g) g n).1)), (3, .int (gxBh S g)), (2, .int (gxFree S g N)), (0, .ref o), (1, .int (nI g))]) hx hb dX0_firstIn_115 hl (by decide) rfl (fun ls hl => ?_)
            refine lv_iload hx hb dX0_firstIn_117 (lv_at hl 2 rfl) ?_
            refine lv_if_eq (tgt := 149) hx hb dX0_firstIn_119 (by decide) (fun c119_13 : (gxCo S (gxFree S g N) (gxBh S g) g n) = 0 => ?_) (fun c119_13 : ¬ ((gxCo S (gxFree S g N) (gxBh S g) g n) = 0) => ?_)
            · skip
              refine gt_inc (lv' := [(6, .int (nI (n + 1))), (9, .int (gxEr S (gxFiL S (gxFree S g N) (gxBh S g) g n).1 n)), (8, .int (gxLn S (gxBh S g) n)), (7, .int (gxCo S (gxFree S g N) (gxBh S g) g n)), (5, .int ((gxFiL S (gxFree S g N) (gxBh S g) g n).2)), (4, .int ((gxFiL S (gxFree S g N) (gxBh S g) g n).1)), (3, .int (gxBh S g)), (2, .int (gxFree S g N)), (0, .ref o), (1, .int (nI g))]) hC 3 n dX0_firstIn_149 hl rfl rfl (by decide) rfl (fun ls hl => ?_)
              refine lv_goto (tgt := 31) hx hb dX0_firstIn_152 (by decide) ?_
              have hl9 : lv_has ls 10 [(6, .int (nI (n + 1))), (5, .int ((gxFiL S (gxFree S g N) (gxBh S g) g n).2)), (4, .int ((gxFiL S (gxFree S g N) (gxBh S g) g n).1)), (3, .int (gxBh S g)), (2, .int (gxFree S g N)), (0, .ref o), (1, .int (nI g))] := lv_sub hl [0, 4, 5, 6, 7, 8, 9] rfl
              rw [show .int ((gxFiL S (gxFree S g N) (gxBh S g) g n).2) = (Value.int ((gxFiL S (gxFree S g N) (gxBh S g) g (n + 1)).2)) from congrArg _ (by show _ = (gxFiS S (gxFree S g N) (gxBh S g) g n (gxFiL S (gxFree S g N) (gxBh S g) g n)).2; simp only [gxFiS, if_pos c119_13])] at hl9
              rw [show .int ((gxFiL S (gxFree S g N) (gxBh S g) g n).1) = (Value.int ((gxFiL S (gxFree S g N) (gxBh S g) g (n + 1)).1)) from congrArg _ (by show _ = (gxFiS S (gxFree S g N) (gxBh S g) g n (gxFiL S (gxFree S g N) (gxBh S g) g n)).1; simp only [gxFiS, if_pos c119_13])] at hl9
              exact K3 H locs ls hP hD hS hl9
            · skip
              refine lv_iload hx hb dX0_firstIn_122 (lv_at hl 1 rfl) ?_
              refine lv_iload hx hb dX0_firstIn_124 (lv_at hl 4 rfl) ?_
              refine lv_icmp_gt (tgt := 141) hx hb dX0_firstIn_126 (by decide) (fun c126_14 : ((gxFiL S (gxFree S g N) (gxBh S g) g n).2) < (gxLn S (gxBh S g) n) => ?_) (fun c126_14 : ¬ (((gxFiL S (gxFree S g N) (gxBh S g) g n).2) < (gxLn S (gxBh S g) n)) => ?_)
              · skip
                refine lv_iload hx hb dX0_firstIn_141 (lv_at hl 3 rfl) ?_
                refine lv_istore (lv' := [(4, .int (nI n)), (9, .int (gxEr S (gxFiL S (gxFree S g N) (gxBh S g) g n).1 n)), (8, .int (gxLn S (gxBh S g) n)), (7, .int (gxCo S (gxFree S g N) (gxBh S g) g n)), (6, .int (nI n)), (5, .int ((gxFiL S (gxFree S g N) (gxBh S g) g n).2)), (3, .int (gxBh S g)), (2, .int (gxFree S g N)), (0, .ref o), (1, .int (nI g))]) hx hb dX0_firstIn_143 hl (by decide) rfl (fun ls hl => ?_)
                refine lv_iload hx hb dX0_firstIn_145 (lv_at hl 2 rfl) ?_
                refine lv_istore (lv' := [(5, .int (gxLn S (gxBh S g) n)), (4, .int (nI n)), (9, .int (gxEr S (gxFiL S (gxFree S g N) (gxBh S g) g n).1 n)), (8, .int (gxLn S (gxBh S g) n)), (7, .int (gxCo S (gxFree S g N) (gxBh S g) g n)), (6, .int (nI n)), (3, .int (gxBh S g)), (2, .int (gxFree S g N)), (0, .ref o), (1, .int (nI g))]) hx hb dX0_firstIn_147 hl (by decide) rfl (fun ls hl => ?_)
                refine gt_inc (lv' := [(6, .int (nI (n + 1))), (5, .int (gxLn S (gxBh S g) n)), (4, .int (nI n)), (9, .int (gxEr S (gxFiL S (gxFree S g N) (gxBh S g) g n).1 n)), (8, .int (gxLn S (gxBh S g) n)), (7, .int (gxCo S (gxFree S g N) (gxBh S g) g n)), (3, .int (gxBh S g)), (2, .int (gxFree S g N)), (0, .ref o), (1, .int (nI g))]) hC 5 n dX0_firstIn_149 hl rfl rfl (by decide) rfl (fun ls hl => ?_)
                refine lv_goto (tgt := 31) hx hb dX0_firstIn_152 (by decide) ?_
                have hl9 : lv_has ls 10 [(6, .int (nI (n + 1))), (5, .int (gxLn S (gxBh S g) n)), (4, .int (nI n)), (3, .int (gxBh S g)), (2, .int (gxFree S g N)), (0, .ref o), (1, .int (nI g))] := lv_sub hl [0, 1, 2, 6, 7, 8, 9] rfl
                rw [show .int (gxLn S (gxBh S g) n) = (Value.int ((gxFiL S (gxFree S g N) (gxBh S g) g (n + 1)).2)) from congrArg _ (by show _ = (gxFiS S (gxFree S g N) (gxBh S g) g n (gxFiL S (gxFree S g N) (gxBh S g) g n)).2; simp only [gxFiS, if_neg c119_13, if_pos c126_14])] at hl9
                rw [show .int (nI n) = (Value.int ((gxFiL S (gxFree S g N) (gxBh S g) g (n + 1)).1)) from congrArg _ (by show _ = (gxFiS S (gxFree S g N) (gxBh S g) g n (gxFiL S (gxFree S g N) (gxBh S g) g n)).1; simp only [gxFiS, if_neg c119_13, if_pos c126_14])] at hl9
                exact K3 H locs ls hP hD hS hl9
              · skip
                refine lv_iload hx hb dX0_firstIn_129 (lv_at hl 1 rfl) ?_
                refine lv_iload hx hb dX0_firstIn_131 (lv_at hl 4 rfl) ?_
                refine lv_icmp_ne (tgt := 149) hx hb dX0_firstIn_133 (by decide) (fun c133_15 : ¬ ((gxLn S (gxBh S g) n) = ((gxFiL S (gxFree S g N) (gxBh S g) g n).2)) => ?_) (fun c133_15 : (gxLn S (gxBh S g) n) = ((gxFiL S (gxFree S g N) (gxBh S g) g n).2) => ?_)
                · skip
                  refine gt_inc (lv' := [(6, .int (nI (n + 1))), (9, .int (gxEr S (gxFiL S (gxFree S g N) (gxBh S g) g n).1 n)), (8, .int (gxLn S (gxBh S g) n)), (7, .int (gxCo S (gxFree S g N) (gxBh S g) g n)), (5, .int ((gxFiL S (gxFree S g N) (gxBh S g) g n).2)), (4, .int ((gxFiL S (gxFree S g N) (gxBh S g) g n).1)), (3, .int (gxBh S g)), (2, .int (gxFree S g N)), (0, .ref o), (1, .int (nI g))]) hC 3 n dX0_firstIn_149 hl rfl rfl (by decide) rfl (fun ls hl => ?_)
                  refine lv_goto (tgt := 31) hx hb dX0_firstIn_152 (by decide) ?_
                  have hl9 : lv_has ls 10 [(6, .int (nI (n + 1))), (5, .int ((gxFiL S (gxFree S g N) (gxBh S g) g n).2)), (4, .int ((gxFiL S (gxFree S g N) (gxBh S g) g n).1)), (3, .int (gxBh S g)), (2, .int (gxFree S g N)), (0, .ref o), (1, .int (nI g))] := lv_sub hl [0, 4, 5, 6, 7, 8, 9] rfl
                  rw [show .int ((gxFiL S (gxFree S g N) (gxBh S g) g n).2) = (Value.int ((gxFiL S (gxFree S g N) (gxBh S g) g (n + 1)).2)) from congrArg _ (by show _ = (gxFiS S (gxFree S g N) (gxBh S g) g n (gxFiL S (gxFree S g N) (gxBh S g) g n)).2; simp only [gxFiS, if_neg c119_13, if_neg c126_14, if_neg c133_15])] at hl9
                  rw [show .int ((gxFiL S (gxFree S g N) (gxBh S g) g n).1) = (Value.int ((gxFiL S (gxFree S g N) (gxBh S g) g (n + 1)).1)) from congrArg _ (by show _ = (gxFiS S (gxFree S g N) (gxBh S g) g n (gxFiL S (gxFree S g N) (gxBh S g) g n)).1; simp only [gxFiS, if_neg c119_13, if_neg c126_14, if_neg c133_15])] at hl9
                  exact K3 H locs ls hP hD hS hl9
                · skip
                  refine lv_iload hx hb dX0_firstIn_136 (lv_at hl 0 rfl) ?_
                  refine lv_if_eq (tgt := 149) hx hb dX0_firstIn_138 (by decide) (fun c138_16 : (gxEr S (gxFiL S (gxFree S g N) (gxBh S g) g n).1 n) = 0 => ?_) (fun c138_16 : ¬ ((gxEr S (gxFiL S (gxFree S g N) (gxBh S g) g n).1 n) = 0) => ?_)
                  · skip
                    refine gt_inc (lv' := [(6, .int (nI (n + 1))), (9, .int (gxEr S (gxFiL S (gxFree S g N) (gxBh S g) g n).1 n)), (8, .int (gxLn S (gxBh S g) n)), (7, .int (gxCo S (gxFree S g N) (gxBh S g) g n)), (5, .int ((gxFiL S (gxFree S g N) (gxBh S g) g n).2)), (4, .int ((gxFiL S (gxFree S g N) (gxBh S g) g n).1)), (3, .int (gxBh S g)), (2, .int (gxFree S g N)), (0, .ref o), (1, .int (nI g))]) hC 3 n dX0_firstIn_149 hl rfl rfl (by decide) rfl (fun ls hl => ?_)
                    refine lv_goto (tgt := 31) hx hb dX0_firstIn_152 (by decide) ?_
                    have hl9 : lv_has ls 10 [(6, .int (nI (n + 1))), (5, .int ((gxFiL S (gxFree S g N) (gxBh S g) g n).2)), (4, .int ((gxFiL S (gxFree S g N) (gxBh S g) g n).1)), (3, .int (gxBh S g)), (2, .int (gxFree S g N)), (0, .ref o), (1, .int (nI g))] := lv_sub hl [0, 4, 5, 6, 7, 8, 9] rfl
                    rw [show .int ((gxFiL S (gxFree S g N) (gxBh S g) g n).2) = (Value.int ((gxFiL S (gxFree S g N) (gxBh S g) g (n + 1)).2)) from congrArg _ (by show _ = (gxFiS S (gxFree S g N) (gxBh S g) g n (gxFiL S (gxFree S g N) (gxBh S g) g n)).2; simp only [gxFiS, if_neg c119_13, if_neg c126_14, if_pos c133_15, if_pos c138_16])] at hl9
                    rw [show .int ((gxFiL S (gxFree S g N) (gxBh S g) g n).1) = (Value.int ((gxFiL S (gxFree S g N) (gxBh S g) g (n + 1)).1)) from congrArg _ (by show _ = (gxFiS S (gxFree S g N) (gxBh S g) g n (gxFiL S (gxFree S g N) (gxBh S g) g n)).1; simp only [gxFiS, if_neg c119_13, if_neg c126_14, if_pos c133_15, if_pos c138_16])] at hl9
                    exact K3 H locs ls hP hD hS hl9
                  · skip
                    refine lv_iload hx hb dX0_firstIn_141 (lv_at hl 3 rfl) ?_
                    refine lv_istore (lv' := [(4, .int (nI n)), (9, .int (gxEr S (gxFiL S (gxFree S g N) (gxBh S g) g n).1 n)), (8, .int (gxLn S (gxBh S g) n)), (7, .int (gxCo S (gxFree S g N) (gxBh S g) g n)), (6, .int (nI n)), (5, .int ((gxFiL S (gxFree S g N) (gxBh S g) g n).2)), (3, .int (gxBh S g)), (2, .int (gxFree S g N)), (0, .ref o), (1, .int (nI g))]) hx hb dX0_firstIn_143 hl (by decide) rfl (fun ls hl => ?_)
                    refine lv_iload hx hb dX0_firstIn_145 (lv_at hl 2 rfl) ?_
                    refine lv_istore (lv' := [(5, .int (gxLn S (gxBh S g) n)), (4, .int (nI n)), (9, .int (gxEr S (gxFiL S (gxFree S g N) (gxBh S g) g n).1 n)), (8, .int (gxLn S (gxBh S g) n)), (7, .int (gxCo S (gxFree S g N) (gxBh S g) g n)), (6, .int (nI n)), (3, .int (gxBh S g)), (2, .int (gxFree S g N)), (0, .ref o), (1, .int (nI g))]) hx hb dX0_firstIn_147 hl (by decide) rfl (fun ls hl => ?_)
                    refine gt_inc (lv' := [(6, .int (nI (n + 1))), (5, .int (gxLn S (gxBh S g) n)), (4, .int (nI n)), (9, .int (gxEr S (gxFiL S (gxFree S g N) (gxBh S g) g n).1 n)), (8, .int (gxLn S (gxBh S g) n)), (7, .int (gxCo S (gxFree S g N) (gxBh S g) g n)), (3, .int (gxBh S g)), (2, .int (gxFree S g N)), (0, .ref o), (1, .int (nI g))]) hC 5 n dX0_firstIn_149 hl rfl rfl (by decide) rfl (fun ls hl => ?_)
                    refine lv_goto (tgt := 31) hx hb dX0_firstIn_152 (by decide) ?_
                    have hl9 : lv_has ls 10 [(6, .int (nI (n + 1))), (5, .int (gxLn S (gxBh S g) n)), (4, .int (nI n)), (3, .int (gxBh S g)), (2, .int (gxFree S g N)), (0, .ref o), (1, .int (nI g))] := lv_sub hl [0, 1, 2, 6, 7, 8, 9] rfl
                    rw [show .int (gxLn S (gxBh S g) n) = (Value.int ((gxFiL S (gxFree S g N) (gxBh S g) g (n + 1)).2)) from congrArg _ (by show _ = (gxFiS S (gxFree S g N) (gxBh S g) g n (gxFiL S (gxFree S g N) (gxBh S g) g n)).2; simp only [gxFiS, if_neg c119_13, if_neg c126_14, if_pos c133_15, if_neg c138_16])] at hl9
                    rw [show .int (nI n) = (Value.int ((gxFiL S (gxFree S g N) (gxBh S g) g (n + 1)).1)) from congrArg _ (by show _ = (gxFiS S (gxFree S g N) (gxBh S g) g n (gxFiL S (gxFree S g N) (gxBh S g) g n)).1; simp only [gxFiS, if_neg c119_13, if_neg c126_14, if_pos c133_15, if_neg c138_16])] at hl9
                    exact K3 H locs ls hP hD hS hl9
    · skip
      refine lv_iload hx hb dX0_firstIn_31 (lv_at hl 0 rfl) ?_
      refine lv_aload_n hx hb dX0_firstIn_33 rfl (lv_at hl 5 rfl) ?_
      refine gt_get hC 0 0 2 2 hinX0 hK hP dX0_firstIn_34 rfl rfl rfl (by decide) rfl rfl ?_
      refine gt_ge_t (tgt := 155) hC N N dX0_firstIn_37 (by decide) rfl hN (Nat.le_refl _) (by omega) ?_
      refine lv_iload hx hb dX0_firstIn_155 (lv_at hl 2 rfl) ?_
      refine gt_meet (rest := []) 177 (gxFiR S g N) (fun K17 => ?_) ?_
      · skip
        refine lv_if_lt (tgt := 176) hx hb dX0_firstIn_157 (by decide) (fun c157_18 : ((gxFiL S (gxFree S g N) (gxBh S g) g N).1) < 0 => ?_) (fun c157_18 : ¬ (((gxFiL S (gxFree S g N) (gxBh S g) g N).1) < 0) => ?_)
        · skip
          refine lv_iconst (v := (-1)) hx hb dX0_firstIn_176 (by decide) ?_
          exact K17 _ (show (-1) = (if ((gxFiL S (gxFree S g N) (gxBh S g) g N).1) < 0 then (-1) else (if (gxFree S g N) < (S 11 (((gxFiL S (gxFree S g N) (gxBh S g) g N).1).toNatClampNeg)) then (-1) else ((gxFiL S (gxFree S g N) (gxBh S g) g N).1))) from by rw [if_pos c157_18])
        · skip
          refine lv_aload_n hx hb dX0_firstIn_160 rfl (lv_at hl 5 rfl) ?_
          refine gt_get hC 0 0 11 3 hinX0 hK hP dX0_firstIn_161 rfl rfl rfl (by decide) rfl rfl ?_
          refine lv_iload hx hb dX0_firstIn_164 (lv_at hl 2 rfl) ?_
          refine gt_ald hC 7 0 (((gxFiL S (gxFree S g N) (gxBh S g) g N).1).toNatClampNeg) hK hP dX0_firstIn_166 rfl rfl (gxFiL_cl hN12 c157_18).1 (Nat.lt_of_lt_of_le (gxFiL_cl hN12 c157_18).2 hN12) (Nat.le_of_ble_eq_true rfl) ?_
          refine lv_iload_n hx hb dX0_firstIn_167 rfl (lv_at hl 4 rfl) ?_
          refine lv_icmp_gt (tgt := 176) hx hb dX0_firstIn_168 (by decide) (fun c168_19 : (gxFree S g N) < (S 11 (((gxFiL S (gxFree S g N) (gxBh S g) g N).1).toNatClampNeg)) => ?_) (fun c168_19 : ¬ ((gxFree S g N) < (S 11 (((gxFiL S (gxFree S g N) (gxBh S g) g N).1).toNatClampNeg))) => ?_)
          · skip
            refine lv_iconst (v := (-1)) hx hb dX0_firstIn_176 (by decide) ?_
            exact K17 _ (show (-1) = (if ((gxFiL S (gxFree S g N) (gxBh S g) g N).1) < 0 then (-1) else (if (gxFree S g N) < (S 11 (((gxFiL S (gxFree S g N) (gxBh S g) g N).1).toNatClampNeg)) then (-1) else ((gxFiL S (gxFree S g N) (gxBh S g) g N).1))) from by rw [if_neg c157_18, if_pos c168_19])
          · skip
            refine lv_iload hx hb dX0_firstIn_171 (lv_at hl 2 rfl) ?_
            refine lv_goto (tgt := 177) hx hb dX0_firstIn_173 (by decide) ?_
            exact K17 _ (show ((gxFiL S (gxFree S g N) (gxBh S g) g N).1) = (if ((gxFiL S (gxFree S g N) (gxBh S g) g N).1) < 0 then (-1) else (if (gxFree S g N) < (S 11 (((gxFiL S (gxFree S g N) (gxBh S g) g N).1).toNatClampNeg)) then (-1) else ((gxFiL S (gxFree S g N) (gxBh S g) g N).1))) from by rw [if_neg c157_18, if_neg c168_19])
      · skip
        exact gt_iret hC hr hlk hK (ws := (sw cI o r S)) hP hD hS (show some (Value.int (gxFiR S g N)) = _ from rfl) rfl dX0_firstIn_177 (Nat.le_of_ble_eq_true rfl) (Nat.le_of_ble_eq_true rfl)

theorem hd_X0_letInThrough : yX0_letInThrough.cls = RX0 ∧ yX0_letInThrough.cls ≠ "java/lang/invoke/MethodHandle" ∧ yX0_letInThrough.cls ≠ "java/lang/invoke/VarHandle" ∧ (parseMethodDescriptor yX0_letInThrough.desc).map (fun d => d.parameters.length) = some 1 := by decide +kernel
set_option maxHeartbeats 4000000 in
set_option maxRecDepth 100000 in
theorem ct_X0_letInThrough (l : Launch) (D : va_G) (cI : ClassId) (o : Nat) (r : Nat → Nat) (S : SS) (g : Nat) (hg : g < 4) (N : Nat) (hN : S 0 2 = nI N) (hN12 : N ≤ 12) : Ct l D [(cI, .int)] yX0_letInThrough wsX0_letInThrough 2 52 0 0 [.ref o, .int (nI g)] (sw cI o r S) none (sw cI o r (gxLiF S g N)) := by
  refine Ct.ofW (cc := cX0_letInThrough) (maxL := 4) (ret := none) (by decide) rfl (Nat.le_of_ble_eq_true rfl) ?_
  intro p e s m below meth c A ls hC hr hlk _ hP hD hS hK hA hl
  have hx := hC.1
  have hb := hC.2.1
  have hinX0 : ∀ w ∈ wsX00, w ∈ wsX0_letInThrough := fun _ _h => List.mem_cons_of_mem _ (List.mem_append_right _ _h)
  have hl : lv_has ls 4 [(0, .ref o), (1, .int (nI g))] := hl
  refine lv_iconst (v := 0) hx hb dX0_letInThrough_0 (by decide) ?_
  refine lv_istore_n (lv' := [(2, .int 0), (0, .ref o), (1, .int (nI g))]) hx hb dX0_letInThrough_1 rfl hl (by decide) rfl (fun ls hl => ?_)
  refine gt_loop D A s.heap 4 (gxLiK g N N S) (fun n => [(2, .int (nI n)), (0, .ref o), (1, .int (nI g))]) (fun n => (sw cI o r (gxLiI S g N n))) (lv_sub hl [0, 1, 2] rfl) hP hD hS (fun n hi_n H locs ls hP hD hS hl K1 => ?_) (fun H locs ls hP hD hS hl => ?_)
  · skip
    have hNn : (gxLiI S g N n) 0 2 = nI N := (gxLiI_0 S g N (by decide) n).trans hN
    have hno : ¬ gxFiR (gxLiI S g N n) g N < 0 := gxLiK_no N S n hi_n
    have hle : n < N := Nat.lt_of_lt_of_le hi_n (gxLiK_le g N N S)
    have hge : (0 : Int32) ≤ gxFiR (gxLiI S g N n) g N := Int32.not_lt.mp hno
    refine lv_iload_n hx hb dX0_letInThrough_2 rfl (lv_at hl 0 rfl) ?_
    refine lv_aload_n hx hb dX0_letInThrough_3 rfl (lv_at hl 1 rfl) ?_
    refine gt_get hC 0 0 2 1 hinX0 hK hP dX0_letInThrough_4 rfl rfl rfl (by decide) rfl rfl ?_
    refine gt_ge_f (tgt := 55) hC n N dX0_letInThrough_7 (by decide) rfl hNn hle (by omega) ?_
    refine lv_aload_n hx hb dX0_letInThrough_10 rfl (lv_at hl 1 rfl) ?_
    refine lv_iload_n hx hb dX0_letInThrough_11 rfl (lv_at hl 2 rfl) ?_
    refine gt_call0 hC 0 0 1 (ct_X0_firstIn l D cI o r (gxLiI S g N n) g (by omega) N hNn hN12) gX0_letInThrough_X0_firstIn dX0_letInThrough_12 hK hP hD hS hA hl.1 rfl hd_X0_firstIn ⟨Nat.le_of_ble_eq_true rfl, Nat.le_of_ble_eq_true rfl⟩ ⟨Nat.le_of_ble_eq_true rfl, Nat.le_of_ble_eq_true rfl⟩ rfl rfl rfl rfl (Nat.le_of_ble_eq_true rfl) (fun H locs hP hD hS => ?_)
    refine lv_istore_n (lv' := [(3, .int (gxFiR (gxLiI S g N n) g N)), (2, .int (nI n)), (0, .ref o), (1, .int (nI g))]) hx hb dX0_letInThrough_15 rfl hl (by decide) rfl (fun ls hl => ?_)
    refine lv_iload_n hx hb dX0_letInThrough_16 rfl (lv_at hl 0 rfl) ?_
    refine lv_if_ge (tgt := 21) hx hb dX0_letInThrough_17 (by decide) (fun c17_2 : 0 ≤ (gxFiR (gxLiI S g N n) g N) => ?_) (fun c17_2 : ¬ (0 ≤ (gxFiR (gxLiI S g N n) g N)) => absurd c17_2 (not_not_intro hge))
    obtain ⟨j, hjN, hfx⟩ := gxFiR_ix hN12 hno
    refine lv_aload_n hx hb dX0_letInThrough_21 rfl (lv_at hl 2 rfl) ?_
    refine lv_iload_n hx hb dX0_letInThrough_22 rfl (lv_at hl 0 rfl) ?_
    refine lv_iload_n hx hb dX0_letInThrough_23 rfl (lv_at hl 3 rfl) ?_
    refine lv_aload_n hx hb dX0_letInThrough_24 rfl (lv_at hl 2 rfl) ?_
    refine gt_get hC 0 0 11 2 hinX0 hK hP dX0_letInThrough_25 rfl rfl rfl (by decide) rfl rfl ?_
    refine lv_iload_n hx hb dX0_letInThrough_28 rfl (lv_at hl 0 rfl) ?_
    refine gt_ald hC 7 0 j hK hP dX0_letInThrough_29 rfl rfl hfx (by omega) (Nat.le_of_ble_eq_true rfl) ?_
    refine lv_aload_n hx hb dX0_letInThrough_30 rfl (lv_at hl 2 rfl) ?_
    refine gt_get hC 0 0 12 3 hinX0 hK hP dX0_letInThrough_31 rfl rfl rfl (by decide) rfl rfl ?_
    refine lv_iload_n hx hb dX0_letInThrough_34 rfl (lv_at hl 0 rfl) ?_
    refine gt_ald hC 8 0 j hK hP dX0_letInThrough_35 rfl rfl hfx (by omega) (Nat.le_of_ble_eq_true rfl) ?_
    refine gt_stk [.int ((gxLiI S g N n) 12 j), .int ((gxLiI S g N n) 11 j), .int (nI g), .int (nI j), .ref o] (by rw [hfx] <;> rfl) ?_
    refine gt_call0 hC 0 0 4 (ct_X0_enter l D cI o r (gxLiI S g N n) j (nI g) ((gxLiI S g N n) 11 j) ((gxLiI S g N n) 12 j) (by omega)) gX0_letInThrough_X0_enter dX0_letInThrough_36 hK hP hD hS hA hl.1 rfl hd_X0_enter ⟨Nat.le_of_ble_eq_true rfl, Nat.le_of_ble_eq_true rfl⟩ ⟨Nat.le_of_ble_eq_true rfl, Nat.le_of_ble_eq_true rfl⟩ rfl rfl rfl rfl (Nat.le_of_ble_eq_true rfl) (fun H locs hP hD hS => ?_)
    refine lv_aload_n hx hb dX0_letInThrough_39 rfl (lv_at hl 2 rfl) ?_
    refine lv_dup hx hb dX0_letInThrough_40 rfl ?_
    refine gt_get hC 0 0 4 4 hinX0 hK hP dX0_letInThrough_41 rfl rfl rfl (by decide) rfl rfl ?_
    refine lv_iconst (v := 1) hx hb dX0_letInThrough_44 (by decide) ?_
    refine lv_iadd hx hb dX0_letInThrough_45 ?_
    refine gt_puti (ws' := (sw cI o r (up2 (gxEnt (gxLiI S g N n) j (nI g) ((gxLiI S g N n) 11 j) ((gxLiI S g N n) 12 j)) 0 4 (((gxEnt (gxLiI S g N n) j (nI g) ((gxLiI S g N n) 11 j) ((gxLiI S g N n) 12 j)) 0 4) + 1)))) hC 0 0 4 4 hinX0 tyX0_ok nmX0 hK hP hD hS dX0_letInThrough_46 rfl rfl (by decide) rfl rfl rfl rfl (Nat.le_of_ble_eq_true rfl) rfl (fun H locs hP hD hS => ?_)
    refine gt_inc (lv' := [(2, .int (nI (n + 1))), (3, .int (gxFiR (gxLiI S g N n) g N)), (0, .ref o), (1, .int (nI g))]) hC 1 n dX0_letInThrough_49 hl rfl rfl (by decide) rfl (fun ls hl => ?_)
    refine lv_goto (tgt := 2) hx hb dX0_letInThrough_52 (by decide) ?_
    have hl9 : lv_has ls 4 [(2, .int (nI (n + 1))), (0, .ref o), (1, .int (nI g))] := lv_sub hl [0, 2, 3] rfl
    have e9 : (up2 (gxEnt (gxLiI S g N n) j (nI g) ((gxLiI S g N n) 11 j) ((gxLiI S g N n) 12 j)) 0 4 (((gxEnt (gxLiI S g N n) j (nI g) ((gxLiI S g N n) 11 j) ((gxLiI S g N n) 12 j)) 0 4) + 1)) = (gxLiI S g N (n + 1)) := by show _ = gxLiS (gxLiI S g N n) g N; unfold gxLiS; rw [hfx, nI_clamp (by omega)] <;> rfl
    rw [e9] at hP hD
    exact K1 H locs ls hP hD hS hl9
  · skip
    have hNx : (gxLiI S g N (gxLiK g N N S)) 0 2 = nI N := (gxLiI_0 S g N (by decide) _).trans hN
    have hle : gxLiK g N N S ≤ N := gxLiK_le g N N S
    refine lv_iload_n hx hb dX0_letInThrough_2 rfl (lv_at hl 0 rfl) ?_
    refine lv_aload_n hx hb dX0_letInThrough_3 rfl (lv_at hl 1 rfl) ?_
    refine gt_get hC 0 0 2 1 hinX0 hK hP dX0_letInThrough_4 rfl rfl rfl (by decide) rfl rfl ?_
    refine lv_icmp_ge (tgt := 55) hx hb dX0_letInThrough_7 (by decide) (fun c7_3 : ((gxLiI S g N (gxLiK g N N S)) 0 2) ≤ (nI (gxLiK g N N S)) => ?_) (fun c7_3 : ¬ (((gxLiI S g N (gxLiK g N N S)) 0 2) ≤ (nI (gxLiK g N N S))) => ?_)
    · skip
      exact gt_vret hC hr hlk hK (ws := (sw cI o r (gxLiI S g N (gxLiK g N N S)))) hP hD hS rfl rfl dX0_letInThrough_55 (Nat.le_of_ble_eq_true rfl) (Nat.le_of_ble_eq_true rfl)
    · skip
      have hlt : gxLiK g N N S < N := Nat.lt_of_not_le (fun q => c7_3 (by rw [hNx]; exact nI_le q (by omega)))
      refine lv_aload_n hx hb dX0_letInThrough_10 rfl (lv_at hl 1 rfl) ?_
      refine lv_iload_n hx hb dX0_letInThrough_11 rfl (lv_at hl 2 rfl) ?_
      refine gt_call0 hC 0 0 1 (ct_X0_firstIn l D cI o r (gxLiI S g N (gxLiK g N N S)) g (by omega) N hNx hN12) gX0_letInThrough_X0_firstIn dX0_letInThrough_12 hK hP hD hS hA hl.1 rfl hd_X0_firstIn ⟨Nat.le_of_ble_eq_true rfl, Nat.le_of_ble_eq_true rfl⟩ ⟨Nat.le_of_ble_eq_true rfl, Nat.le_of_ble_eq_true rfl⟩ rfl rfl rfl rfl (Nat.le_of_ble_eq_true rfl) (fun H locs hP hD hS => ?_)
      refine lv_istore_n (lv' := [(3, .int (gxFiR (gxLiI S g N (gxLiK g N N S)) g N)), (2, .int (nI (gxLiK g N N S))), (0, .ref o), (1, .int (nI g))]) hx hb dX0_letInThrough_15 rfl hl (by decide) rfl (fun ls hl => ?_)
      refine lv_iload_n hx hb dX0_letInThrough_16 rfl (lv_at hl 0 rfl) ?_
      refine lv_if_ge (tgt := 21) hx hb dX0_letInThrough_17 (by decide) (fun c17_4 : 0 ≤ (gxFiR (gxLiI S g N (gxLiK g N N S)) g N) => absurd c17_4 (Int32.not_le.mpr (gxLiK_yes N S hlt))) (fun c17_4 : ¬ (0 ≤ (gxFiR (gxLiI S g N (gxLiK g N N S)) g N)) => ?_)
      exact gt_vret hC hr hlk hK (ws := (sw cI o r (gxLiI S g N (gxLiK g N N S)))) hP hD hS rfl rfl dX0_letInThrough_20 (Nat.le_of_ble_eq_true rfl) (Nat.le_of_ble_eq_true rfl)

theorem hd_X0_waitOnAt : yX0_waitOnAt.cls = RX0 ∧ yX0_waitOnAt.cls ≠ "java/lang/invoke/MethodHandle" ∧ yX0_waitOnAt.cls ≠ "java/lang/invoke/VarHandle" ∧ (parseMethodDescriptor yX0_waitOnAt.desc).map (fun d => d.parameters.length) = some 1 := by decide +kernel
set_option maxHeartbeats 4000000 in
set_option maxRecDepth 100000 in
theorem ct_X0_waitOnAt (l : Launch) (D : va_G) (cI : ClassId) (o : Nat) (r : Nat → Nat) (S : SS) (g : Nat) (hg : g < 4) (N : Nat) (hN : S 0 2 = nI N) (hN12 : N ≤ 12) : Ct l D [(cI, .int)] yX0_waitOnAt wsX0_waitOnAt 1 22 0 0 [.ref o, .int (nI g)] (sw cI o r S) none (sw cI o r (gxWo S g N)) := by
  refine Ct.ofW (cc := cX0_waitOnAt) (maxL := 3) (ret := none) (by decide) rfl (Nat.le_of_ble_eq_true rfl) ?_
  intro p e s m below meth c A ls hC hr hlk _ hP hD hS hK hA hl
  have hx := hC.1
  have hb := hC.2.1
  have hinX0 : ∀ w ∈ wsX00, w ∈ wsX0_waitOnAt := fun _ _h => List.mem_cons_of_mem _ (List.mem_append_right _ _h)
  have hl : lv_has ls 3 [(0, .ref o), (1, .int (nI g))] := hl
  refine lv_iconst (v := 0) hx hb dX0_waitOnAt_0 (by decide) ?_
  refine lv_istore_n (lv' := [(2, .int 0), (0, .ref o), (1, .int (nI g))]) hx hb dX0_waitOnAt_1 rfl hl (by decide) rfl (fun ls hl => ?_)
  refine gt_loop D A s.heap 3 N (fun n => [(2, .int (nI n)), (0, .ref o), (1, .int (nI g))]) (fun n => (sw cI o r (gxWo S g n))) (lv_sub hl [0, 1, 2] rfl) hP hD hS (fun n hi_n H locs ls hP hD hS hl K1 => ?_) (fun H locs ls hP hD hS hl => ?_)
  · skip
    refine lv_iload_n hx hb dX0_waitOnAt_2 rfl (lv_at hl 0 rfl) ?_
    refine lv_aload_n hx hb dX0_waitOnAt_3 rfl (lv_at hl 1 rfl) ?_
    refine gt_get hC 0 0 2 1 hinX0 hK hP dX0_waitOnAt_4 rfl rfl rfl (by decide) rfl rfl ?_
    refine gt_ge_f (tgt := 79) hC n N dX0_waitOnAt_7 (by decide) rfl ((congrFun (gxWo_0 S g _) 2).trans hN) hi_n (by omega) ?_
    refine lv_aload_n hx hb dX0_waitOnAt_10 rfl (lv_at hl 1 rfl) ?_
    refine lv_iload_n hx hb dX0_waitOnAt_11 rfl (lv_at hl 0 rfl) ?_
    refine lv_iload_n hx hb dX0_waitOnAt_12 rfl (lv_at hl 2 rfl) ?_
    refine gt_call0 hC 0 0 2 (ct_X0_waitsAt l D cI o r (gxWo S g n) n (nI g) (by omega)) gX0_waitOnAt_X0_waitsAt dX0_waitOnAt_13 hK hP hD hS hA hl.1 rfl hd_X0_waitsAt ⟨Nat.le_of_ble_eq_true rfl, Nat.le_of_ble_eq_true rfl⟩ ⟨Nat.le_of_ble_eq_true rfl, Nat.le_of_ble_eq_true rfl⟩ rfl rfl rfl rfl (Nat.le_of_ble_eq_true rfl) (fun H locs hP hD hS => ?_)
    refine lv_if_eq (tgt := 73) hx hb dX0_waitOnAt_16 (by decide) (fun c16_2 : (gxWt (gxWo S g n) n (nI g)) = 0 => ?_) (fun c16_2 : ¬ ((gxWt (gxWo S g n) n (nI g)) = 0) => ?_)
    · skip
      refine gt_inc (lv' := [(2, .int (nI (n + 1))), (0, .ref o), (1, .int (nI g))]) hC 0 n dX0_waitOnAt_73 hl rfl rfl (by decide) rfl (fun ls hl => ?_)
      refine lv_goto (tgt := 2) hx hb dX0_waitOnAt_76 (by decide) ?_
      have hl9 : lv_has ls 3 [(2, .int (nI (n + 1))), (0, .ref o), (1, .int (nI g))] := lv_sub hl [0, 1, 2] rfl
      have e9 : (gxWo S g n) = (gxWo S g (n + 1)) := by show _ = gxWoT (gxWo S g n) g n; exact ((if_pos c16_2).trans rfl).symm
      rw [e9] at hP hD
      exact K1 H locs ls hP hD hS hl9
    · skip
      refine lv_aload_n hx hb dX0_waitOnAt_19 rfl (lv_at hl 1 rfl) ?_
      refine gt_get hC 0 0 15 2 hinX0 hK hP dX0_waitOnAt_20 rfl rfl rfl (by decide) rfl rfl ?_
      refine lv_iload_n hx hb dX0_waitOnAt_23 rfl (lv_at hl 0 rfl) ?_
      refine lv_dup2_11 hx hb dX0_waitOnAt_24 rfl rfl ?_
      refine gt_ald hC 11 0 n hK hP dX0_waitOnAt_25 rfl rfl rfl (by omega) (Nat.le_of_ble_eq_true rfl) ?_
      refine lv_iconst (v := 1) hx hb dX0_waitOnAt_26 (by decide) ?_
      refine lv_iadd hx hb dX0_waitOnAt_27 ?_
      refine gt_ast (ws' := (sw cI o r (up2 (gxWo S g n) 15 n (((gxWo S g n) 15 n) + 1)))) hC 11 0 n hK hP hD hS dX0_waitOnAt_28 rfl rfl rfl (by omega) (Nat.le_of_ble_eq_true rfl) rfl (fun H locs hP hD hS => ?_)
      refine lv_aload_n hx hb dX0_waitOnAt_29 rfl (lv_at hl 1 rfl) ?_
      refine gt_get hC 0 0 16 3 hinX0 hK hP dX0_waitOnAt_30 rfl rfl rfl (by decide) rfl rfl ?_
      refine lv_iload_n hx hb dX0_waitOnAt_33 rfl (lv_at hl 0 rfl) ?_
      refine lv_dup2_11 hx hb dX0_waitOnAt_34 rfl rfl ?_
      refine gt_ald hC 12 0 n hK hP dX0_waitOnAt_35 rfl rfl rfl (by omega) (Nat.le_of_ble_eq_true rfl) ?_
      refine lv_iconst (v := 1) hx hb dX0_waitOnAt_36 (by decide) ?_
      refine lv_iadd hx hb dX0_waitOnAt_37 ?_
      refine gt_ast (ws' := (sw cI o r (up2 (up2 (gxWo S g n) 15 n (((gxWo S g n) 15 n) + 1)) 16 n (((gxWo S g n) 16 n) + 1)))) hC 12 0 n hK hP hD hS dX0_waitOnAt_38 rfl rfl rfl (by omega) (Nat.le_of_ble_eq_true rfl) rfl (fun H locs hP hD hS => ?_)
      refine lv_aload_n hx hb dX0_waitOnAt_39 rfl (lv_at hl 1 rfl) ?_
      refine gt_get hC 0 0 13 4 hinX0 hK hP dX0_waitOnAt_40 rfl rfl rfl (by decide) rfl rfl ?_
      refine lv_iload_n hx hb dX0_waitOnAt_43 rfl (lv_at hl 0 rfl) ?_
      refine lv_dup2_11 hx hb dX0_waitOnAt_44 rfl rfl ?_
      refine gt_ald hC 9 0 n hK hP dX0_waitOnAt_45 rfl rfl rfl (by omega) (Nat.le_of_ble_eq_true rfl) ?_
      refine lv_iconst (v := 1) hx hb dX0_waitOnAt_46 (by decide) ?_
      refine lv_isub hx hb dX0_waitOnAt_47 ?_
      refine gt_ast (ws' := (sw cI o r (up2 (up2 (up2 (gxWo S g n) 15 n (((gxWo S g n) 15 n) + 1)) 16 n (((gxWo S g n) 16 n) + 1)) 13 n (((gxWo S g n) 13 n) - 1)))) hC 9 0 n hK hP hD hS dX0_waitOnAt_48 rfl rfl rfl (by omega) (Nat.le_of_ble_eq_true rfl) rfl (fun H locs hP hD hS => ?_)
      refine lv_aload_n hx hb dX0_waitOnAt_49 rfl (lv_at hl 1 rfl) ?_
      refine gt_get hC 0 0 13 4 hinX0 hK hP dX0_waitOnAt_50 rfl rfl rfl (by decide) rfl rfl ?_
      refine lv_iload_n hx hb dX0_waitOnAt_53 rfl (lv_at hl 0 rfl) ?_
      refine gt_ald hC 9 0 n hK hP dX0_waitOnAt_54 rfl rfl rfl (by omega) (Nat.le_of_ble_eq_true rfl) ?_
      refine lv_if_gt (tgt := 73) hx hb dX0_waitOnAt_55 (by decide) (fun c55_3 : 0 < ((up2 (up2 (up2 (gxWo S g n) 15 n (((gxWo S g n) 15 n) + 1)) 16 n (((gxWo S g n) 16 n) + 1)) 13 n (((gxWo S g n) 13 n) - 1)) 13 n) => ?_) (fun c55_3 : ¬ (0 < ((up2 (up2 (up2 (gxWo S g n) 15 n (((gxWo S g n) 15 n) + 1)) 16 n (((gxWo S g n) 16 n) + 1)) 13 n (((gxWo S g n) 13 n) - 1)) 13 n)) => ?_)
      · skip
        refine gt_inc (lv' := [(2, .int (nI (n + 1))), (0, .ref o), (1, .int (nI g))]) hC 0 n dX0_waitOnAt_73 hl rfl rfl (by decide) rfl (fun ls hl => ?_)
        refine lv_goto (tgt := 2) hx hb dX0_waitOnAt_76 (by decide) ?_
        have hl9 : lv_has ls 3 [(2, .int (nI (n + 1))), (0, .ref o), (1, .int (nI g))] := lv_sub hl [0, 1, 2] rfl
        have e9 : (up2 (up2 (up2 (gxWo S g n) 15 n (((gxWo S g n) 15 n) + 1)) 16 n (((gxWo S g n) 16 n) + 1)) 13 n (((gxWo S g n) 13 n) - 1)) = (gxWo S g (n + 1)) := by show _ = gxWoT (gxWo S g n) g n; exact ((if_neg c16_2).trans ((if_pos c55_3).trans rfl)).symm
        rw [e9] at hP hD
        exact K1 H locs ls hP hD hS hl9
      · skip
        refine lv_aload_n hx hb dX0_waitOnAt_58 rfl (lv_at hl 1 rfl) ?_
        refine lv_iload_n hx hb dX0_waitOnAt_59 rfl (lv_at hl 0 rfl) ?_
        refine gt_call0 hC 0 0 1 (ct_X0_rest l D cI o r (up2 (up2 (up2 (gxWo S g n) 15 n (((gxWo S g n) 15 n) + 1)) 16 n (((gxWo S g n) 16 n) + 1)) 13 n (((gxWo S g n) 13 n) - 1)) n (by omega)) gX0_waitOnAt_X0_rest dX0_waitOnAt_60 hK hP hD hS hA hl.1 rfl hd_X0_rest ⟨Nat.le_of_ble_eq_true rfl, Nat.le_of_ble_eq_true rfl⟩ ⟨Nat.le_of_ble_eq_true rfl, Nat.le_of_ble_eq_true rfl⟩ rfl rfl rfl rfl (Nat.le_of_ble_eq_true rfl) (fun H locs hP hD hS => ?_)
        refine lv_aload_n hx hb dX0_waitOnAt_63 rfl (lv_at hl 1 rfl) ?_
        refine gt_get hC 0 0 7 5 hinX0 hK hP dX0_waitOnAt_64 rfl rfl rfl (by decide) rfl rfl ?_
        refine lv_iload_n hx hb dX0_waitOnAt_67 rfl (lv_at hl 2 rfl) ?_
        refine lv_dup2_11 hx hb dX0_waitOnAt_68 rfl rfl ?_
        refine gt_ald hC 3 0 g hK hP dX0_waitOnAt_69 rfl rfl rfl (by omega) (Nat.le_of_ble_eq_true rfl) ?_
        refine lv_iconst (v := 1) hx hb dX0_waitOnAt_70 (by decide) ?_
        refine lv_iadd hx hb dX0_waitOnAt_71 ?_
        refine gt_ast (ws' := (sw cI o r (up2 (gxRest (up2 (up2 (up2 (gxWo S g n) 15 n (((gxWo S g n) 15 n) + 1)) 16 n (((gxWo S g n) 16 n) + 1)) 13 n (((gxWo S g n) 13 n) - 1)) n) 7 g (((gxRest (up2 (up2 (up2 (gxWo S g n) 15 n (((gxWo S g n) 15 n) + 1)) 16 n (((gxWo S g n) 16 n) + 1)) 13 n (((gxWo S g n) 13 n) - 1)) n) 7 g) + 1)))) hC 3 0 g hK hP hD hS dX0_waitOnAt_72 rfl rfl rfl (by omega) (Nat.le_of_ble_eq_true rfl) rfl (fun H locs hP hD hS => ?_)
        refine gt_inc (lv' := [(2, .int (nI (n + 1))), (0, .ref o), (1, .int (nI g))]) hC 0 n dX0_waitOnAt_73 hl rfl rfl (by decide) rfl (fun ls hl => ?_)
        refine lv_goto (tgt := 2) hx hb dX0_waitOnAt_76 (by decide) ?_
        have hl9 : lv_has ls 3 [(2, .int (nI (n + 1))), (0, .ref o), (1, .int (nI g))] := lv_sub hl [0, 1, 2] rfl
        have e9 : (up2 (gxRest (up2 (up2 (up2 (gxWo S g n) 15 n (((gxWo S g n) 15 n) + 1)) 16 n (((gxWo S g n) 16 n) + 1)) 13 n (((gxWo S g n) 13 n) - 1)) n) 7 g (((gxRest (up2 (up2 (up2 (gxWo S g n) 15 n (((gxWo S g n) 15 n) + 1)) 16 n (((gxWo S g n) 16 n) + 1)) 13 n (((gxWo S g n) 13 n) - 1)) n) 7 g) + 1)) = (gxWo S g (n + 1)) := by show _ = gxWoT (gxWo S g n) g n; exact ((if_neg c16_2).trans ((if_neg c55_3).trans rfl)).symm
        rw [e9] at hP hD
        exact K1 H locs ls hP hD hS hl9
  · skip
    refine lv_iload_n hx hb dX0_waitOnAt_2 rfl (lv_at hl 0 rfl) ?_
    refine lv_aload_n hx hb dX0_waitOnAt_3 rfl (lv_at hl 1 rfl) ?_
    refine gt_get hC 0 0 2 1 hinX0 hK hP dX0_waitOnAt_4 rfl rfl rfl (by decide) rfl rfl ?_
    refine gt_ge_t (tgt := 79) hC N N dX0_waitOnAt_7 (by decide) rfl ((congrFun (gxWo_0 S g _) 2).trans hN) (Nat.le_refl _) (by omega) ?_
    exact gt_vret hC hr hlk hK (ws := (sw cI o r (gxWo S g N))) hP hD hS rfl rfl dX0_waitOnAt_79 (Nat.le_of_ble_eq_true rfl) (Nat.le_of_ble_eq_true rfl)

theorem hd_X0_liveAMinute : yX0_liveAMinute.cls = RX0 ∧ yX0_liveAMinute.cls ≠ "java/lang/invoke/MethodHandle" ∧ yX0_liveAMinute.cls ≠ "java/lang/invoke/VarHandle" ∧ (parseMethodDescriptor yX0_liveAMinute.desc).map (fun d => d.parameters.length) = some 0 := by decide +kernel
set_option maxHeartbeats 4000000 in
set_option maxRecDepth 100000 in
theorem ct_X0_liveAMinute (l : Launch) (D : va_G) (cI : ClassId) (o : Nat) (r : Nat → Nat) (S : SS) (N : Nat) (hN : S 0 2 = nI N) (hN12 : N ≤ 12) (G : Nat) (hG : S 0 1 = nI G) (hG4 : G ≤ 4) : Ct l D [(cI, .int)] yX0_liveAMinute wsX0_liveAMinute 3 75 0 0 [.ref o] (sw cI o r S) none (sw cI o r (gxMin S G N)) := by
  refine Ct.ofW (cc := cX0_liveAMinute) (maxL := 2) (ret := none) (by decide) rfl (Nat.le_of_ble_eq_true rfl) ?_
  intro p e s m below meth c A ls hC hr hlk _ hP hD hS hK hA hl
  have hx := hC.1
  have hb := hC.2.1
  have hinX0 : ∀ w ∈ wsX00, w ∈ wsX0_liveAMinute := fun _ _h => List.mem_cons_of_mem _ (List.mem_append_right _ _h)
  have hl : lv_has ls 2 [(0, .ref o)] := hl
  refine lv_aload_n hx hb dX0_liveAMinute_0 rfl (lv_at hl 0 rfl) ?_
  refine gt_call0 hC 0 0 0 (ct_X0_leaveThoseWhoStayed l D cI o r S N hN hN12) gX0_liveAMinute_X0_leaveThoseWhoStayed dX0_liveAMinute_1 hK hP hD hS hA hl.1 rfl hd_X0_leaveThoseWhoStayed ⟨Nat.le_of_ble_eq_true rfl, Nat.le_of_ble_eq_true rfl⟩ ⟨Nat.le_of_ble_eq_true rfl, Nat.le_of_ble_eq_true rfl⟩ rfl rfl rfl rfl (Nat.le_of_ble_eq_true rfl) (fun H locs hP hD hS => ?_)
  refine lv_iconst (v := 0) hx hb dX0_liveAMinute_4 (by decide) ?_
  refine lv_istore_n (lv' := [(1, .int 0), (0, .ref o)]) hx hb dX0_liveAMinute_5 rfl hl (by decide) rfl (fun ls hl => ?_)
  refine gt_loop D A s.heap 2 G (fun n => [(1, .int (nI n)), (0, .ref o)]) (fun n => (sw cI o r (gxLg S N n))) (lv_sub hl [0, 1] rfl) hP hD hS (fun n hi_n H locs ls hP hD hS hl K1 => ?_) (fun H locs ls hP hD hS hl => ?_)
  · skip
    refine lv_iload_n hx hb dX0_liveAMinute_6 rfl (lv_at hl 0 rfl) ?_
    refine lv_aload_n hx hb dX0_liveAMinute_7 rfl (lv_at hl 1 rfl) ?_
    refine gt_get hC 0 0 1 1 hinX0 hK hP dX0_liveAMinute_8 rfl rfl rfl (by decide) rfl rfl ?_
    refine gt_ge_f (tgt := 25) hC n G dX0_liveAMinute_11 (by decide) rfl ((gxLg_0 S N (by decide) n).trans hG) hi_n (by omega) ?_
    refine lv_aload_n hx hb dX0_liveAMinute_14 rfl (lv_at hl 1 rfl) ?_
    refine lv_iload_n hx hb dX0_liveAMinute_15 rfl (lv_at hl 0 rfl) ?_
    refine gt_call0 hC 0 0 1 (ct_X0_letInThrough l D cI o r (gxLg S N n) n (by omega) N ((gxLg_0 S N (by decide) n).trans hN) hN12) gX0_liveAMinute_X0_letInThrough dX0_liveAMinute_16 hK hP hD hS hA hl.1 rfl hd_X0_letInThrough ⟨Nat.le_of_ble_eq_true rfl, Nat.le_of_ble_eq_true rfl⟩ ⟨Nat.le_of_ble_eq_true rfl, Nat.le_of_ble_eq_true rfl⟩ rfl rfl rfl rfl (Nat.le_of_ble_eq_true rfl) (fun H locs hP hD hS => ?_)
    refine gt_inc (lv' := [(1, .int (nI (n + 1))), (0, .ref o)]) hC 0 n dX0_liveAMinute_19 hl rfl rfl (by decide) rfl (fun ls hl => ?_)
    refine lv_goto (tgt := 6) hx hb dX0_liveAMinute_22 (by decide) ?_
    have hl9 : lv_has ls 2 [(1, .int (nI (n + 1))), (0, .ref o)] := lv_sub hl [0, 1] rfl
    have e9 : gxLiF (gxLg S N n) n N = (gxLg S N (n + 1)) := rfl
    rw [e9] at hP hD
    exact K1 H locs ls hP hD hS hl9
  · skip
    refine lv_iload_n hx hb dX0_liveAMinute_6 rfl (lv_at hl 0 rfl) ?_
    refine lv_aload_n hx hb dX0_liveAMinute_7 rfl (lv_at hl 1 rfl) ?_
    refine gt_get hC 0 0 1 1 hinX0 hK hP dX0_liveAMinute_8 rfl rfl rfl (by decide) rfl rfl ?_
    refine gt_ge_t (tgt := 25) hC G G dX0_liveAMinute_11 (by decide) rfl ((gxLg_0 S N (by decide) G).trans hG) (Nat.le_refl _) (by omega) ?_
    refine lv_iconst (v := 0) hx hb dX0_liveAMinute_25 (by decide) ?_
    refine lv_istore_n (lv' := [(1, .int 0), (0, .ref o)]) hx hb dX0_liveAMinute_26 rfl hl (by decide) rfl (fun ls hl => ?_)
    refine gt_loop D A s.heap 2 G (fun n => [(1, .int (nI n)), (0, .ref o)]) (fun n => (sw cI o r (gxWg S N G n))) (lv_sub hl [0, 1] rfl) hP hD hS (fun n hi_n H locs ls hP hD hS hl K2 => ?_) (fun H locs ls hP hD hS hl => ?_)
    · skip
      refine lv_iload_n hx hb dX0_liveAMinute_27 rfl (lv_at hl 0 rfl) ?_
      refine lv_aload_n hx hb dX0_liveAMinute_28 rfl (lv_at hl 1 rfl) ?_
      refine gt_get hC 0 0 1 1 hinX0 hK hP dX0_liveAMinute_29 rfl rfl rfl (by decide) rfl rfl ?_
      refine gt_ge_f (tgt := 46) hC n G dX0_liveAMinute_32 (by decide) rfl ((gxWg_0 S N G (by decide) n).trans hG) hi_n (by omega) ?_
      refine lv_aload_n hx hb dX0_liveAMinute_35 rfl (lv_at hl 1 rfl) ?_
      refine lv_iload_n hx hb dX0_liveAMinute_36 rfl (lv_at hl 0 rfl) ?_
      refine gt_call0 hC 0 0 1 (ct_X0_waitOnAt l D cI o r (gxWg S N G n) n (by omega) N ((gxWg_0 S N G (by decide) n).trans hN) hN12) gX0_liveAMinute_X0_waitOnAt dX0_liveAMinute_37 hK hP hD hS hA hl.1 rfl hd_X0_waitOnAt ⟨Nat.le_of_ble_eq_true rfl, Nat.le_of_ble_eq_true rfl⟩ ⟨Nat.le_of_ble_eq_true rfl, Nat.le_of_ble_eq_true rfl⟩ rfl rfl rfl rfl (Nat.le_of_ble_eq_true rfl) (fun H locs hP hD hS => ?_)
      refine gt_inc (lv' := [(1, .int (nI (n + 1))), (0, .ref o)]) hC 0 n dX0_liveAMinute_40 hl rfl rfl (by decide) rfl (fun ls hl => ?_)
      refine lv_goto (tgt := 27) hx hb dX0_liveAMinute_43 (by decide) ?_
      have hl9 : lv_has ls 2 [(1, .int (nI (n + 1))), (0, .ref o)] := lv_sub hl [0, 1] rfl
      have e9 : gxWo (gxWg S N G n) n N = (gxWg S N G (n + 1)) := rfl
      rw [e9] at hP hD
      exact K2 H locs ls hP hD hS hl9
    · skip
      refine lv_iload_n hx hb dX0_liveAMinute_27 rfl (lv_at hl 0 rfl) ?_
      refine lv_aload_n hx hb dX0_liveAMinute_28 rfl (lv_at hl 1 rfl) ?_
      refine gt_get hC 0 0 1 1 hinX0 hK hP dX0_liveAMinute_29 rfl rfl rfl (by decide) rfl rfl ?_
      refine gt_ge_t (tgt := 46) hC G G dX0_liveAMinute_32 (by decide) rfl ((gxWg_0 S N G (by decide) G).trans hG) (Nat.le_refl _) (by omega) ?_
      refine lv_aload_n hx hb dX0_liveAMinute_46 rfl (lv_at hl 1 rfl) ?_
      refine lv_dup hx hb dX0_liveAMinute_47 rfl ?_
      refine gt_get hC 0 0 0 2 hinX0 hK hP dX0_liveAMinute_48 rfl rfl rfl (by decide) rfl rfl ?_
      refine lv_iconst (v := 1) hx hb dX0_liveAMinute_51 (by decide) ?_
      refine lv_iadd hx hb dX0_liveAMinute_52 ?_
      refine gt_puti (ws' := (sw cI o r (up2 (gxWg S N G G) 0 0 (((gxWg S N G G) 0 0) + 1)))) hC 0 0 0 2 hinX0 tyX0_ok nmX0 hK hP hD hS dX0_liveAMinute_53 rfl rfl (by decide) rfl rfl rfl rfl (Nat.le_of_ble_eq_true rfl) rfl (fun H locs hP hD hS => ?_)
      exact gt_vret hC hr hlk hK (ws := (sw cI o r (up2 (gxWg S N G G) 0 0 (((gxWg S N G G) 0 0) + 1)))) hP hD hS rfl rfl dX0_liveAMinute_56 (Nat.le_of_ble_eq_true rfl) (Nat.le_of_ble_eq_true rfl)
