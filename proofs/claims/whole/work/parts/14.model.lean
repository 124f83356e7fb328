/-! The contracts of the reference's methods, first half (laid by wip/whole/gen/model.py). -/
theorem hd_X2_isIn : yX2_isIn.cls ≠ "java/lang/invoke/MethodHandle" ∧ yX2_isIn.cls ≠ "java/lang/invoke/VarHandle" ∧ (parseMethodDescriptor yX2_isIn.desc).map (fun d => d.parameters.length) = some 3 := by decide +kernel
set_option maxHeartbeats 400000 in
set_option maxRecDepth 100000 in
theorem ct_X2_isIn (l : Launch) (D : va_G) (v : Int32) (lo : Int32) (hi : Int32) : Ct l D [] yX2_isIn wsX2_isIn 0 0 0 0 [.int v, .int lo, .int hi] ([] : va_W) (some (.int (mIn v lo hi))) ([] : va_W) := by
  refine Ct.ofW (cc := cX2_isIn) (maxL := 3) (ret := (some .boolean)) (by decide) rfl (Nat.le_of_ble_eq_true rfl) ?_
  intro p e s m below meth c A ls hC hr hlk _ hP hD hS hK hA hl
  have hx := hC.1
  have hb := hC.2.1
  have hl : lv_has ls 3 [(0, .int v), (1, .int lo), (2, .int hi)] := hl
  refine lv_iload_n hx hb dX2_isIn_0 rfl (lv_at hl 0 rfl) ?_
  refine lv_iload_n hx hb dX2_isIn_1 rfl (lv_at hl 1 rfl) ?_
  refine gt_meet (rest := []) 15 (mIn v lo hi) (fun K1 => ?_) ?_
  · skip
    refine lv_icmp_lt (tgt := 14) hx hb dX2_isIn_2 (by decide) (fun c2_2 : v < lo => ?_) (fun c2_2 : ¬ (v < lo) => ?_)
    · skip
      refine lv_iconst (v := 0) hx hb dX2_isIn_14 (by decide) ?_
      exact K1 _ (show 0 = (if v < lo then 0 else (if hi < v then 0 else 1)) from by rw [if_pos c2_2])
    · skip
      refine lv_iload_n hx hb dX2_isIn_5 rfl (lv_at hl 0 rfl) ?_
      refine lv_iload_n hx hb dX2_isIn_6 rfl (lv_at hl 2 rfl) ?_
      refine lv_icmp_gt (tgt := 14) hx hb dX2_isIn_7 (by decide) (fun c7_3 : hi < v => ?_) (fun c7_3 : ¬ (hi < v) => ?_)
      · skip
        refine lv_iconst (v := 0) hx hb dX2_isIn_14 (by decide) ?_
        exact K1 _ (show 0 = (if v < lo then 0 else (if hi < v then 0 else 1)) from by rw [if_neg c2_2, if_pos c7_3])
      · skip
        refine lv_iconst (v := 1) hx hb dX2_isIn_10 (by decide) ?_
        refine lv_goto (tgt := 15) hx hb dX2_isIn_11 (by decide) ?_
        exact K1 _ (show 1 = (if v < lo then 0 else (if hi < v then 0 else 1)) from by rw [if_neg c2_2, if_neg c7_3])
  · skip
    exact gt_zret hC hr hlk hK (ws := ([] : va_W)) hP hD hS (mIn_01 _ _ _) (show some (Value.int (mIn v lo hi)) = _ from rfl) rfl dX2_isIn_15 (Nat.le_of_ble_eq_true rfl) (Nat.le_of_ble_eq_true rfl)

theorem hd_X2_no : yX2_no.cls = RX2 ∧ yX2_no.cls ≠ "java/lang/invoke/MethodHandle" ∧ yX2_no.cls ≠ "java/lang/invoke/VarHandle" ∧ (parseMethodDescriptor yX2_no.desc).map (fun d => d.parameters.length) = some 1 := by decide +kernel
set_option maxHeartbeats 400000 in
set_option maxRecDepth 100000 in
theorem ct_X2_no (l : Launch) (D : va_G) (cI : ClassId) (t : Nat) (q : Nat → Nat) (M K : SS) (c9 : Int32) : Ct l D [(cI, .int)] yX2_no wsX2_no 0 0 0 0 [.ref t, .int c9] (mw cI t q M K) (some (.int 0)) (mw cI t q (up2 M 12 0 c9) K) := by
  refine Ct.ofW (cc := cX2_no) (maxL := 2) (ret := (some .int)) (by decide) rfl (Nat.le_of_ble_eq_true rfl) ?_
  intro p e s m below meth c A ls hC hr hlk _ hP hD hS hK hA hl
  have hx := hC.1
  have hb := hC.2.1
  have hinX2 : ∀ w ∈ wsX20, w ∈ wsX2_no := fun _ _h => List.mem_cons_of_mem _ (List.mem_append_right _ _h)
  have hl : lv_has ls 2 [(0, .ref t), (1, .int c9)] := hl
  refine lv_aload_n hx hb dX2_no_0 rfl (lv_at hl 0 rfl) ?_
  refine lv_iload_n hx hb dX2_no_1 rfl (lv_at hl 1 rfl) ?_
  refine gt_puti (ws' := (mw cI t q (up2 M 12 0 c9) K)) hC 0 2 0 1 hinX2 tyX2_ok nmX2 hK hP hD hS dX2_no_2 rfl rfl (by decide) rfl rfl rfl rfl (Nat.le_of_ble_eq_true rfl) (mw_f0 cI t q M K c9) (fun H locs hP hD hS => ?_)
  refine lv_iconst (v := 0) hx hb dX2_no_5 (by decide) ?_
  exact gt_iret hC hr hlk hK (ws := (mw cI t q (up2 M 12 0 c9) K)) hP hD hS (show some (Value.int 0) = _ from rfl) rfl dX2_no_6 (Nat.le_of_ble_eq_true rfl) (Nat.le_of_ble_eq_true rfl)

theorem hd_X2_ok : yX2_ok.cls = RX2 ∧ yX2_ok.cls ≠ "java/lang/invoke/MethodHandle" ∧ yX2_ok.cls ≠ "java/lang/invoke/VarHandle" ∧ (parseMethodDescriptor yX2_ok.desc).map (fun d => d.parameters.length) = some 1 := by decide +kernel
set_option maxHeartbeats 400000 in
set_option maxRecDepth 100000 in
theorem ct_X2_ok (l : Launch) (D : va_G) (cI : ClassId) (t : Nat) (q : Nat → Nat) (M K : SS) (c9 : Int32) : Ct l D [(cI, .int)] yX2_ok wsX2_ok 0 0 0 0 [.ref t, .int c9] (mw cI t q M K) (some (.int c9)) (mw cI t q (up2 M 12 0 0) K) := by
  refine Ct.ofW (cc := cX2_ok) (maxL := 2) (ret := (some .int)) (by decide) rfl (Nat.le_of_ble_eq_true rfl) ?_
  intro p e s m below meth c A ls hC hr hlk _ hP hD hS hK hA hl
  have hx := hC.1
  have hb := hC.2.1
  have hinX2 : ∀ w ∈ wsX20, w ∈ wsX2_ok := fun _ _h => List.mem_cons_of_mem _ (List.mem_append_right _ _h)
  have hl : lv_has ls 2 [(0, .ref t), (1, .int c9)] := hl
  refine lv_aload_n hx hb dX2_ok_0 rfl (lv_at hl 0 rfl) ?_
  refine lv_iconst (v := 0) hx hb dX2_ok_1 (by decide) ?_
  refine gt_puti (ws' := (mw cI t q (up2 M 12 0 0) K)) hC 0 2 0 1 hinX2 tyX2_ok nmX2 hK hP hD hS dX2_ok_2 rfl rfl (by decide) rfl rfl rfl rfl (Nat.le_of_ble_eq_true rfl) (mw_f0 cI t q M K 0) (fun H locs hP hD hS => ?_)
  refine lv_iload_n hx hb dX2_ok_5 rfl (lv_at hl 1 rfl) ?_
  exact gt_iret hC hr hlk hK (ws := (mw cI t q (up2 M 12 0 0) K)) hP hD hS (show some (Value.int c9) = _ from rfl) rfl dX2_ok_6 (Nat.le_of_ble_eq_true rfl) (Nat.le_of_ble_eq_true rfl)

theorem hd_X2_thrown : yX2_thrown.cls = RX2 ∧ yX2_thrown.cls ≠ "java/lang/invoke/MethodHandle" ∧ yX2_thrown.cls ≠ "java/lang/invoke/VarHandle" ∧ (parseMethodDescriptor yX2_thrown.desc).map (fun d => d.parameters.length) = some 0 := by decide +kernel
set_option maxHeartbeats 400000 in
set_option maxRecDepth 100000 in
theorem ct_X2_thrown (l : Launch) (D : va_G) (cI : ClassId) (t : Nat) (q : Nat → Nat) (M K : SS)  : Ct l D [(cI, .int)] yX2_thrown wsX2_thrown 0 0 0 0 [.ref t] (mw cI t q M K) (some (.int (M 12 0))) (mw cI t q M K) := by
  refine Ct.ofW (cc := cX2_thrown) (maxL := 1) (ret := (some .int)) (by decide) rfl (Nat.le_of_ble_eq_true rfl) ?_
  intro p e s m below meth c A ls hC hr hlk _ hP hD hS hK hA hl
  have hx := hC.1
  have hb := hC.2.1
  have hinX2 : ∀ w ∈ wsX20, w ∈ wsX2_thrown := fun _ _h => List.mem_cons_of_mem _ (List.mem_append_right _ _h)
  have hl : lv_has ls 1 [(0, .ref t)] := hl
  refine lv_aload_n hx hb dX2_thrown_0 rfl (lv_at hl 0 rfl) ?_
  refine gt_get hC 0 2 0 1 hinX2 hK hP dX2_thrown_1 rfl rfl rfl (by decide) rfl rfl ?_
  exact gt_iret hC hr hlk hK (ws := (mw cI t q M K)) hP hD hS (show some (Value.int (M 12 0)) = _ from rfl) rfl dX2_thrown_4 (Nat.le_of_ble_eq_true rfl) (Nat.le_of_ble_eq_true rfl)

theorem hd_X2_isGate : yX2_isGate.cls = RX2 ∧ yX2_isGate.cls ≠ "java/lang/invoke/MethodHandle" ∧ yX2_isGate.cls ≠ "java/lang/invoke/VarHandle" ∧ (parseMethodDescriptor yX2_isGate.desc).map (fun d => d.parameters.length) = some 1 := by decide +kernel
set_option maxHeartbeats 400000 in
set_option maxRecDepth 100000 in
theorem ct_X2_isGate (l : Launch) (D : va_G) (cI : ClassId) (t : Nat) (q : Nat → Nat) (M K : SS) (g : Int32) : Ct l D [(cI, .int)] yX2_isGate wsX2_isGate 1 22 0 0 [.ref t, .int g] (mw cI t q M K) (some (.int (mGate M g))) (mw cI t q M K) := by
  refine Ct.ofW (cc := cX2_isGate) (maxL := 2) (ret := (some .boolean)) (by decide) rfl (Nat.le_of_ble_eq_true rfl) ?_
  intro p e s m below meth c A ls hC hr hlk _ hP hD hS hK hA hl
  have hx := hC.1
  have hb := hC.2.1
  have hinX2 : ∀ w ∈ wsX20, w ∈ wsX2_isGate := fun _ _h => List.mem_cons_of_mem _ (List.mem_append_right _ _h)
  have hl : lv_has ls 2 [(0, .ref t), (1, .int g)] := hl
  refine lv_iload_n hx hb dX2_isGate_0 rfl (lv_at hl 1 rfl) ?_
  refine lv_iconst (v := 0) hx hb dX2_isGate_1 (by decide) ?_
  refine lv_aload_n hx hb dX2_isGate_2 rfl (lv_at hl 0 rfl) ?_
  refine gt_get hC 0 2 1 1 hinX2 hK hP dX2_isGate_3 rfl rfl rfl (by decide) rfl rfl ?_
  refine lv_iconst (v := 1) hx hb dX2_isGate_6 (by decide) ?_
  refine lv_isub hx hb dX2_isGate_7 ?_
  refine gt_callS hC 3 (ct_X2_isIn l D g 0 ((M 12 1) - 1)) gX2_isGate_X2_isIn dX2_isGate_8 hK hP hD hS hA hl.1 rfl hd_X2_isIn ⟨Nat.le_of_ble_eq_true rfl, Nat.le_of_ble_eq_true rfl⟩ ⟨Nat.le_of_ble_eq_true rfl, Nat.le_of_ble_eq_true rfl⟩ rfl rfl (Nat.le_of_ble_eq_true rfl) (fun H locs hP hD hS => ?_)
  exact gt_zret hC hr hlk hK (ws := (mw cI t q M K)) hP hD hS (mIn_01 _ _ _) (show some (Value.int (mIn g 0 ((M 12 1) - 1))) = _ from rfl) rfl dX2_isGate_11 (Nat.le_of_ble_eq_true rfl) (Nat.le_of_ble_eq_true rfl)

theorem hd_X2_isGoat : yX2_isGoat.cls = RX2 ∧ yX2_isGoat.cls ≠ "java/lang/invoke/MethodHandle" ∧ yX2_isGoat.cls ≠ "java/lang/invoke/VarHandle" ∧ (parseMethodDescriptor yX2_isGoat.desc).map (fun d => d.parameters.length) = some 1 := by decide +kernel
set_option maxHeartbeats 400000 in
set_option maxRecDepth 100000 in
theorem ct_X2_isGoat (l : Launch) (D : va_G) (cI : ClassId) (t : Nat) (q : Nat → Nat) (M K : SS) (g : Int32) : Ct l D [(cI, .int)] yX2_isGoat wsX2_isGoat 1 22 0 0 [.ref t, .int g] (mw cI t q M K) (some (.int (mGoat M g))) (mw cI t q M K) := by
  refine Ct.ofW (cc := cX2_isGoat) (maxL := 2) (ret := (some .boolean)) (by decide) rfl (Nat.le_of_ble_eq_true rfl) ?_
  intro p e s m below meth c A ls hC hr hlk _ hP hD hS hK hA hl
  have hx := hC.1
  have hb := hC.2.1
  have hinX2 : ∀ w ∈ wsX20, w ∈ wsX2_isGoat := fun _ _h => List.mem_cons_of_mem _ (List.mem_append_right _ _h)
  have hl : lv_has ls 2 [(0, .ref t), (1, .int g)] := hl
  refine lv_iload_n hx hb dX2_isGoat_0 rfl (lv_at hl 1 rfl) ?_
  refine lv_iconst (v := 0) hx hb dX2_isGoat_1 (by decide) ?_
  refine lv_aload_n hx hb dX2_isGoat_2 rfl (lv_at hl 0 rfl) ?_
  refine gt_get hC 0 2 2 1 hinX2 hK hP dX2_isGoat_3 rfl rfl rfl (by decide) rfl rfl ?_
  refine lv_iconst (v := 1) hx hb dX2_isGoat_6 (by decide) ?_
  refine lv_isub hx hb dX2_isGoat_7 ?_
  refine gt_callS hC 3 (ct_X2_isIn l D g 0 ((M 12 2) - 1)) gX2_isGoat_X2_isIn dX2_isGoat_8 hK hP hD hS hA hl.1 rfl hd_X2_isIn ⟨Nat.le_of_ble_eq_true rfl, Nat.le_of_ble_eq_true rfl⟩ ⟨Nat.le_of_ble_eq_true rfl, Nat.le_of_ble_eq_true rfl⟩ rfl rfl (Nat.le_of_ble_eq_true rfl) (fun H locs hP hD hS => ?_)
  exact gt_zret hC hr hlk hK (ws := (mw cI t q M K)) hP hD hS (mIn_01 _ _ _) (show some (Value.int (mIn g 0 ((M 12 2) - 1))) = _ from rfl) rfl dX2_isGoat_11 (Nat.le_of_ble_eq_true rfl) (Nat.le_of_ble_eq_true rfl)

theorem hd_X2_of : yX2_of.cls = RX2 ∧ yX2_of.cls ≠ "java/lang/invoke/MethodHandle" ∧ yX2_of.cls ≠ "java/lang/invoke/VarHandle" ∧ (parseMethodDescriptor yX2_of.desc).map (fun d => d.parameters.length) = some 2 := by decide +kernel
set_option maxHeartbeats 400000 in
set_option maxRecDepth 100000 in
theorem ct_X2_of (l : Launch) (D : va_G) (cI : ClassId) (t : Nat) (q : Nat → Nat) (M K : SS) (k : Nat) (w : Nat) (hk : k < 12) (hw : w < 8) : Ct l D [(cI, .int)] yX2_of wsX2_of 0 0 0 0 [.ref t, .int (nI k), .int (nI w)] (mw cI t q M K) (some (.int (M w k))) (mw cI t q M K) := by
  refine Ct.ofW (cc := cX2_of) (maxL := 3) (ret := (some .int)) (by decide) rfl (Nat.le_of_ble_eq_true rfl) ?_
  intro p e s m below meth c A ls hC hr hlk _ hP hD hS hK hA hl
  have hx := hC.1
  have hb := hC.2.1
  have hinX2 : ∀ w ∈ wsX20, w ∈ wsX2_of := fun _ _h => List.mem_cons_of_mem _ (List.mem_append_right _ _h)
  have hl : lv_has ls 3 [(0, .ref t), (1, .int (nI k)), (2, .int (nI w))] := hl
  refine lv_aload_n hx hb dX2_of_0 rfl (lv_at hl 0 rfl) ?_
  refine gt_get hC 0 2 6 1 hinX2 hK hP dX2_of_1 rfl rfl rfl (by decide) rfl rfl ?_
  refine lv_iconst (v := 4) hx hb dX2_of_4 (by decide) ?_
  refine lv_bipush (v := 8) hx hb dX2_of_5 (by decide) ?_
  refine lv_iload_n hx hb dX2_of_7 rfl (lv_at hl 1 rfl) ?_
  refine lv_imul hx hb dX2_of_8 ?_
  refine lv_iadd hx hb dX2_of_9 ?_
  refine lv_iload_n hx hb dX2_of_10 rfl (lv_at hl 2 rfl) ?_
  refine lv_iadd hx hb dX2_of_11 ?_
  refine gt_ald hC 4 0 (4 + 8 * k + w) hK hP dX2_of_12 rfl rfl (by rw [show (4 : Int32) = nI 4 from rfl, show (8 : Int32) = nI 8 from rfl, pk_mul, nI_add, nI_add]) (by omega) (Nat.le_of_ble_eq_true rfl) ?_
  exact gt_iret hC hr hlk hK (ws := (mw cI t q M K)) hP hD hS (show some (Value.int (enc M (4 + 8 * k + w))) = _ from (by rw [enc_at M k hw])) rfl dX2_of_13 (Nat.le_of_ble_eq_true rfl) (Nat.le_of_ble_eq_true rfl)

theorem hd_X2_let : yX2_let.cls = RX2 ∧ yX2_let.cls ≠ "java/lang/invoke/MethodHandle" ∧ yX2_let.cls ≠ "java/lang/invoke/VarHandle" ∧ (parseMethodDescriptor yX2_let.desc).map (fun d => d.parameters.length) = some 3 := by decide +kernel
set_option maxHeartbeats 400000 in
set_option maxRecDepth 100000 in
theorem ct_X2_let (l : Launch) (D : va_G) (cI : ClassId) (t : Nat) (q : Nat → Nat) (M K : SS) (k : Nat) (w : Nat) (v : Int32) (hk : k < 12) (hw : w < 8) : Ct l D [(cI, .int)] yX2_let wsX2_let 0 0 0 0 [.ref t, .int (nI k), .int (nI w), .int v] (mw cI t q M K) none (mw cI t q (up2 M w k v) K) := by
  refine Ct.ofW (cc := cX2_let) (maxL := 4) (ret := none) (by decide) rfl (Nat.le_of_ble_eq_true rfl) ?_
  intro p e s m below meth c A ls hC hr hlk _ hP hD hS hK hA hl
  have hx := hC.1
  have hb := hC.2.1
  have hinX2 : ∀ w ∈ wsX20, w ∈ wsX2_let := fun _ _h => List.mem_cons_of_mem _ (List.mem_append_right _ _h)
  have hl : lv_has ls 4 [(0, .ref t), (1, .int (nI k)), (2, .int (nI w)), (3, .int v)] := hl
  refine lv_aload_n hx hb dX2_let_0 rfl (lv_at hl 0 rfl) ?_
  refine gt_get hC 0 2 6 1 hinX2 hK hP dX2_let_1 rfl rfl rfl (by decide) rfl rfl ?_
  refine lv_iconst (v := 4) hx hb dX2_let_4 (by decide) ?_
  refine lv_bipush (v := 8) hx hb dX2_let_5 (by decide) ?_
  refine lv_iload_n hx hb dX2_let_7 rfl (lv_at hl 1 rfl) ?_
  refine lv_imul hx hb dX2_let_8 ?_
  refine lv_iadd hx hb dX2_let_9 ?_
  refine lv_iload_n hx hb dX2_let_10 rfl (lv_at hl 2 rfl) ?_
  refine lv_iadd hx hb dX2_let_11 ?_
  refine lv_iload_n hx hb dX2_let_12 rfl (lv_at hl 3 rfl) ?_
  refine gt_ast (ws' := (mw cI t q (up2 M w k v) K)) hC 4 0 (4 + 8 * k + w) hK hP hD hS dX2_let_13 rfl rfl (by rw [show (4 : Int32) = nI 4 from rfl, show (8 : Int32) = nI 8 from rfl, pk_mul, nI_add, nI_add]) (by omega) (Nat.le_of_ble_eq_true rfl) (mw_let cI t q M K k v hw) (fun H locs hP hD hS => ?_)
  exact gt_vret hC hr hlk hK (ws := (mw cI t q (up2 M w k v) K)) hP hD hS rfl rfl dX2_let_14 (Nat.le_of_ble_eq_true rfl) (Nat.le_of_ble_eq_true rfl)

theorem hd_X2_is : yX2_is.cls = RX2 ∧ yX2_is.cls ≠ "java/lang/invoke/MethodHandle" ∧ yX2_is.cls ≠ "java/lang/invoke/VarHandle" ∧ (parseMethodDescriptor yX2_is.desc).map (fun d => d.parameters.length) = some 2 := by decide +kernel
set_option maxHeartbeats 400000 in
set_option maxRecDepth 100000 in
theorem ct_X2_is (l : Launch) (D : va_G) (cI : ClassId) (t : Nat) (q : Nat → Nat) (M K : SS) (k : Nat) (w : Int32) (hk : k < 12) : Ct l D [(cI, .int)] yX2_is wsX2_is 1 22 0 0 [.ref t, .int (nI k), .int w] (mw cI t q M K) (some (.int (mIs M k w))) (mw cI t q M K) := by
  refine Ct.ofW (cc := cX2_is) (maxL := 3) (ret := (some .boolean)) (by decide) rfl (Nat.le_of_ble_eq_true rfl) ?_
  intro p e s m below meth c A ls hC hr hlk _ hP hD hS hK hA hl
  have hx := hC.1
  have hb := hC.2.1
  have hinX2 : ∀ w ∈ wsX20, w ∈ wsX2_is := fun _ _h => List.mem_cons_of_mem _ (List.mem_append_right _ _h)
  have hl : lv_has ls 3 [(0, .ref t), (1, .int (nI k)), (2, .int w)] := hl
  refine lv_aload_n hx hb dX2_is_0 rfl (lv_at hl 0 rfl) ?_
  refine lv_iload_n hx hb dX2_is_1 rfl (lv_at hl 1 rfl) ?_
  refine lv_iconst (v := 0) hx hb dX2_is_2 (by decide) ?_
  refine gt_call0 hC 0 2 2 (ct_X2_of l D cI t q M K k 0 (by omega) (by decide)) gX2_is_X2_of dX2_is_3 hK hP hD hS hA hl.1 rfl hd_X2_of ⟨Nat.le_of_ble_eq_true rfl, Nat.le_of_ble_eq_true rfl⟩ ⟨Nat.le_of_ble_eq_true rfl, Nat.le_of_ble_eq_true rfl⟩ rfl rfl rfl rfl (Nat.le_of_ble_eq_true rfl) (fun H locs hP hD hS => ?_)
  refine lv_iload_n hx hb dX2_is_6 rfl (lv_at hl 2 rfl) ?_
  refine gt_meet (rest := []) 15 (mIs M k w) (fun K1 => ?_) ?_
  · skip
    refine lv_icmp_ne (tgt := 14) hx hb dX2_is_7 (by decide) (fun c7_2 : ¬ ((M 0 k) = w) => ?_) (fun c7_2 : (M 0 k) = w => ?_)
    · skip
      refine lv_iconst (v := 0) hx hb dX2_is_14 (by decide) ?_
      exact K1 _ (show 0 = (if (M 0 k) = w then 1 else 0) from by rw [if_neg c7_2])
    · skip
      refine lv_iconst (v := 1) hx hb dX2_is_10 (by decide) ?_
      refine lv_goto (tgt := 15) hx hb dX2_is_11 (by decide) ?_
      exact K1 _ (show 1 = (if (M 0 k) = w then 1 else 0) from by rw [if_pos c7_2])
  · skip
    exact gt_zret hC hr hlk hK (ws := (mw cI t q M K)) hP hD hS (mIs_01 _ _ _) (show some (Value.int (mIs M k w)) = _ from rfl) rfl dX2_is_15 (Nat.le_of_ble_eq_true rfl) (Nat.le_of_ble_eq_true rfl)

theorem hd_X2_isAt : yX2_isAt.cls = RX2 ∧ yX2_isAt.cls ≠ "java/lang/invoke/MethodHandle" ∧ yX2_isAt.cls ≠ "java/lang/invoke/VarHandle" ∧ (parseMethodDescriptor yX2_isAt.desc).map (fun d => d.parameters.length) = some 2 := by decide +kernel
set_option maxHeartbeats 400000 in
set_option maxRecDepth 100000 in
theorem ct_X2_isAt (l : Launch) (D : va_G) (cI : ClassId) (t : Nat) (q : Nat → Nat) (M K : SS) (k : Nat) (g : Int32) (hk : k < 12) : Ct l D [(cI, .int)] yX2_isAt wsX2_isAt 2 44 0 0 [.ref t, .int (nI k), .int g] (mw cI t q M K) (some (.int (mAt M k g))) (mw cI t q M K) := by
  refine Ct.ofW (cc := cX2_isAt) (maxL := 3) (ret := (some .boolean)) (by decide) rfl (Nat.le_of_ble_eq_true rfl) ?_
  intro p e s m below meth c A ls hC hr hlk _ hP hD hS hK hA hl
  have hx := hC.1
  have hb := hC.2.1
  have hinX2 : ∀ w ∈ wsX20, w ∈ wsX2_isAt := fun _ _h => List.mem_cons_of_mem _ (List.mem_append_right _ _h)
  have hl : lv_has ls 3 [(0, .ref t), (1, .int (nI k)), (2, .int g)] := hl
  refine lv_aload_n hx hb dX2_isAt_0 rfl (lv_at hl 0 rfl) ?_
  refine lv_iload_n hx hb dX2_isAt_1 rfl (lv_at hl 1 rfl) ?_
  refine lv_iconst (v := 1) hx hb dX2_isAt_2 (by decide) ?_
  refine gt_call0 hC 0 2 2 (ct_X2_is l D cI t q M K k 1 (by omega)) gX2_isAt_X2_is dX2_isAt_3 hK hP hD hS hA hl.1 rfl hd_X2_is ⟨Nat.le_of_ble_eq_true rfl, Nat.le_of_ble_eq_true rfl⟩ ⟨Nat.le_of_ble_eq_true rfl, Nat.le_of_ble_eq_true rfl⟩ rfl rfl rfl rfl (Nat.le_of_ble_eq_true rfl) (fun H locs hP hD hS => ?_)
  refine gt_meetH D A s.heap (mw cI t q M K) hP hD hS (rest := []) 24 (mAt M k g) (fun K1 => ?_) (fun H locs hP hD hS => ?_)
  · skip
    refine lv_if_eq (tgt := 23) hx hb dX2_isAt_6 (by decide) (fun c6_2 : (mIs M k 1) = 0 => ?_) (fun c6_2 : ¬ ((mIs M k 1) = 0) => ?_)
    · skip
      refine lv_iconst (v := 0) hx hb dX2_isAt_23 (by decide) ?_
      exact K1 _ H locs hP hD hS (show 0 = (if (mIs M k 1) = 0 then 0 else (if (M 1 k) = g then 1 else 0)) from by rw [if_pos c6_2])
    · skip
      refine lv_aload_n hx hb dX2_isAt_9 rfl (lv_at hl 0 rfl) ?_
      refine lv_iload_n hx hb dX2_isAt_10 rfl (lv_at hl 1 rfl) ?_
      refine lv_iconst (v := 1) hx hb dX2_isAt_11 (by decide) ?_
      refine gt_call0 hC 0 2 2 (ct_X2_of l D cI t q M K k 1 (by omega) (by decide)) gX2_isAt_X2_of dX2_isAt_12 hK hP hD hS hA hl.1 rfl hd_X2_of ⟨Nat.le_of_ble_eq_true rfl, Nat.le_of_ble_eq_true rfl⟩ ⟨Nat.le_of_ble_eq_true rfl, Nat.le_of_ble_eq_true rfl⟩ rfl rfl rfl rfl (Nat.le_of_ble_eq_true rfl) (fun H locs hP hD hS => ?_)
      refine lv_iload_n hx hb dX2_isAt_15 rfl (lv_at hl 2 rfl) ?_
      refine lv_icmp_ne (tgt := 23) hx hb dX2_isAt_16 (by decide) (fun c16_3 : ¬ ((M 1 k) = g) => ?_) (fun c16_3 : (M 1 k) = g => ?_)
      · skip
        refine lv_iconst (v := 0) hx hb dX2_isAt_23 (by decide) ?_
        exact K1 _ H locs hP hD hS (show 0 = (if (mIs M k 1) = 0 then 0 else (if (M 1 k) = g then 1 else 0)) from by rw [if_neg c6_2, if_neg c16_3])
      · skip
        refine lv_iconst (v := 1) hx hb dX2_isAt_19 (by decide) ?_
        refine lv_goto (tgt := 24) hx hb dX2_isAt_20 (by decide) ?_
        exact K1 _ H locs hP hD hS (show 1 = (if (mIs M k 1) = 0 then 0 else (if (M 1 k) = g then 1 else 0)) from by rw [if_neg c6_2, if_pos c16_3])
  · skip
    exact gt_zret hC hr hlk hK (ws := (mw cI t q M K)) hP hD hS (mAt_01 _ _ _) (show some (Value.int (mAt M k g)) = _ from rfl) rfl dX2_isAt_24 (Nat.le_of_ble_eq_true rfl) (Nat.le_of_ble_eq_true rfl)

theorem hd_X2_free : yX2_free.cls = RX2 ∧ yX2_free.cls ≠ "java/lang/invoke/MethodHandle" ∧ yX2_free.cls ≠ "java/lang/invoke/VarHandle" ∧ (parseMethodDescriptor yX2_free.desc).map (fun d => d.parameters.length) = some 1 := by decide +kernel
set_option maxHeartbeats 400000 in
set_option maxRecDepth 100000 in
theorem ct_X2_free (l : Launch) (D : va_G) (cI : ClassId) (t : Nat) (q : Nat → Nat) (M K : SS) (g : Nat) (hg : g < 4) (N : Nat) (hN : M 12 2 = nI N) (hN12 : N ≤ 12) : Ct l D [(cI, .int)] yX2_free wsX2_free 2 44 0 0 [.ref t, .int (nI g)] (mw cI t q M K) (some (.int (mFree M g N))) (mw cI t q M K) := by
  refine Ct.ofW (cc := cX2_free) (maxL := 4) (ret := (some .int)) (by decide) rfl (Nat.le_of_ble_eq_true rfl) ?_
  intro p e s m below meth c A ls hC hr hlk _ hP hD hS hK hA hl
  have hx := hC.1
  have hb := hC.2.1
  have hinX2 : ∀ w ∈ wsX20, w ∈ wsX2_free := fun _ _h => List.mem_cons_of_mem _ (List.mem_append_right _ _h)
  have hl : lv_has ls 4 [(0, .ref t), (1, .int (nI g))] := hl
  refine lv_aload_n hx hb dX2_free_0 rfl (lv_at hl 0 rfl) ?_
  refine gt_get hC 0 2 3 1 hinX2 hK hP dX2_free_1 rfl rfl rfl (by decide) rfl rfl ?_
  refine lv_iload_n hx hb dX2_free_4 rfl (lv_at hl 1 rfl) ?_
  refine gt_ald hC 1 0 g hK hP dX2_free_5 rfl rfl rfl (by omega) (Nat.le_of_ble_eq_true rfl) ?_
  refine lv_istore_n (lv' := [(2, .int (M 9 g)), (0, .ref t), (1, .int (nI g))]) hx hb dX2_free_6 rfl hl (by decide) rfl (fun ls hl => ?_)
  refine lv_iconst (v := 0) hx hb dX2_free_7 (by decide) ?_
  refine lv_istore_n (lv' := [(3, .int 0), (2, .int (M 9 g)), (0, .ref t), (1, .int (nI g))]) hx hb dX2_free_8 rfl hl (by decide) rfl (fun ls hl => ?_)
  refine gt_loop D A s.heap 4 N (fun n => [(3, .int (nI n)), (2, .int (mFree M g n)), (0, .ref t), (1, .int (nI g))]) (fun n => (mw cI t q M K)) (lv_sub hl [0, 1, 2, 3] rfl) hP hD hS (fun n hi_n H locs ls hP hD hS hl K1 => ?_) (fun H locs ls hP hD hS hl => ?_)
  · skip
    refine lv_iload_n hx hb dX2_free_9 rfl (lv_at hl 0 rfl) ?_
    refine lv_aload_n hx hb dX2_free_10 rfl (lv_at hl 2 rfl) ?_
    refine gt_get hC 0 2 2 2 hinX2 hK hP dX2_free_11 rfl rfl rfl (by decide) rfl rfl ?_
    refine gt_ge_f (tgt := 51) hC n N dX2_free_14 (by decide) rfl hN hi_n (by omega) ?_
    refine lv_aload_n hx hb dX2_free_17 rfl (lv_at hl 2 rfl) ?_
    refine lv_iload_n hx hb dX2_free_18 rfl (lv_at hl 0 rfl) ?_
    refine lv_iconst (v := 2) hx hb dX2_free_19 (by decide) ?_
    refine gt_call0 hC 0 2 2 (ct_X2_is l D cI t q M K n 2 (by omega)) gX2_free_X2_is dX2_free_20 hK hP hD hS hA hl.1 rfl hd_X2_is ⟨Nat.le_of_ble_eq_true rfl, Nat.le_of_ble_eq_true rfl⟩ ⟨Nat.le_of_ble_eq_true rfl, Nat.le_of_ble_eq_true rfl⟩ rfl rfl rfl rfl (Nat.le_of_ble_eq_true rfl) (fun H locs hP hD hS => ?_)
    refine lv_if_eq (tgt := 45) hx hb dX2_free_23 (by decide) (fun c23_2 : (mIs M n 2) = 0 => ?_) (fun c23_2 : ¬ ((mIs M n 2) = 0) => ?_)
    · skip
      refine gt_inc (lv' := [(3, .int (nI (n + 1))), (2, .int (mFree M g n)), (0, .ref t), (1, .int (nI g))]) hC 0 n dX2_free_45 hl rfl rfl (by decide) rfl (fun ls hl => ?_)
      refine lv_goto (tgt := 9) hx hb dX2_free_48 (by decide) ?_
      have hl9 : lv_has ls 4 [(3, .int (nI (n + 1))), (2, .int (mFree M g n)), (0, .ref t), (1, .int (nI g))] := lv_sub hl [0, 1, 2, 3] rfl
      rw [show .int (mFree M g n) = (Value.int (mFree M g (n + 1))) from congrArg _ (by simp only [mFree, if_pos c23_2])] at hl9
      exact K1 H locs ls hP hD hS hl9
    · skip
      refine lv_aload_n hx hb dX2_free_26 rfl (lv_at hl 2 rfl) ?_
      refine lv_iload_n hx hb dX2_free_27 rfl (lv_at hl 0 rfl) ?_
      refine lv_iconst (v := 1) hx hb dX2_free_28 (by decide) ?_
      refine gt_call0 hC 0 2 2 (ct_X2_of l D cI t q M K n 1 (by omega) (by decide)) gX2_free_X2_of dX2_free_29 hK hP hD hS hA hl.1 rfl hd_X2_of ⟨Nat.le_of_ble_eq_true rfl, Nat.le_of_ble_eq_true rfl⟩ ⟨Nat.le_of_ble_eq_true rfl, Nat.le_of_ble_eq_true rfl⟩ rfl rfl rfl rfl (Nat.le_of_ble_eq_true rfl) (fun H locs hP hD hS => ?_)
      refine lv_iload_n hx hb dX2_free_32 rfl (lv_at hl 3 rfl) ?_
      refine lv_icmp_ne (tgt := 45) hx hb dX2_free_33 (by decide) (fun c33_3 : ¬ ((M 1 n) = (nI g)) => ?_) (fun c33_3 : (M 1 n) = (nI g) => ?_)
      · skip
        refine gt_inc (lv' := [(3, .int (nI (n + 1))), (2, .int (mFree M g n)), (0, .ref t), (1, .int (nI g))]) hC 0 n dX2_free_45 hl rfl rfl (by decide) rfl (fun ls hl => ?_)
        refine lv_goto (tgt := 9) hx hb dX2_free_48 (by decide) ?_
        have hl9 : lv_has ls 4 [(3, .int (nI (n + 1))), (2, .int (mFree M g n)), (0, .ref t), (1, .int (nI g))] := lv_sub hl [0, 1, 2, 3] rfl
        rw [show .int (mFree M g n) = (Value.int (mFree M g (n + 1))) from congrArg _ (by simp only [mFree, if_neg c23_2, if_neg c33_3])] at hl9
        exact K1 H locs ls hP hD hS hl9
      · skip
        refine lv_iload_n hx hb dX2_free_36 rfl (lv_at hl 1 rfl) ?_
        refine lv_aload_n hx hb dX2_free_37 rfl (lv_at hl 2 rfl) ?_
        refine lv_iload_n hx hb dX2_free_38 rfl (lv_at hl 0 rfl) ?_
        refine lv_iconst (v := 2) hx hb dX2_free_39 (by decide) ?_
        refine gt_call0 hC 0 2 2 (ct_X2_of l D cI t q M K n 2 (by omega) (by decide)) gX2_free_X2_of dX2_free_40 hK hP hD hS hA hl.1 rfl hd_X2_of ⟨Nat.le_of_ble_eq_true rfl, Nat.le_of_ble_eq_true rfl⟩ ⟨Nat.le_of_ble_eq_true rfl, Nat.le_of_ble_eq_true rfl⟩ rfl rfl rfl rfl (Nat.le_of_ble_eq_true rfl) (fun H locs hP hD hS => ?_)
        refine lv_isub hx hb dX2_free_43 ?_
        refine lv_istore_n (lv' := [(2, .int ((mFree M g n) - (M 2 n))), (3, .int (nI n)), (0, .ref t), (1, .int (nI g))]) hx hb dX2_free_44 rfl hl (by decide) rfl (fun ls hl => ?_)
        refine gt_inc (lv' := [(3, .int (nI (n + 1))), (2, .int ((mFree M g n) - (M 2 n))), (0, .ref t), (1, .int (nI g))]) hC 1 n dX2_free_45 hl rfl rfl (by decide) rfl (fun ls hl => ?_)
        refine lv_goto (tgt := 9) hx hb dX2_free_48 (by decide) ?_
        have hl9 : lv_has ls 4 [(3, .int (nI (n + 1))), (2, .int ((mFree M g n) - (M 2 n))), (0, .ref t), (1, .int (nI g))] := lv_sub hl [0, 1, 2, 3] rfl
        rw [show .int ((mFree M g n) - (M 2 n)) = (Value.int (mFree M g (n + 1))) from congrArg _ (by simp only [mFree, if_neg c23_2, if_pos c33_3])] at hl9
        exact K1 H locs ls hP hD hS hl9
  · skip
    refine lv_iload_n hx hb dX2_free_9 rfl (lv_at hl 0 rfl) ?_
    refine lv_aload_n hx hb dX2_free_10 rfl (lv_at hl 2 rfl) ?_
    refine gt_get hC 0 2 2 2 hinX2 hK hP dX2_free_11 rfl rfl rfl (by decide) rfl rfl ?_
    refine gt_ge_t (tgt := 51) hC N N dX2_free_14 (by decide) rfl hN (Nat.le_refl _) (by omega) ?_
    refine lv_iload_n hx hb dX2_free_51 rfl (lv_at hl 1 rfl) ?_
    exact gt_iret hC hr hlk hK (ws := (mw cI t q M K)) hP hD hS (show some (Value.int (mFree M g N)) = _ from rfl) rfl dX2_free_52 (Nat.le_of_ble_eq_true rfl) (Nat.le_of_ble_eq_true rfl)

theorem hd_X2_seem : yX2_seem.cls = RX2 ∧ yX2_seem.cls ≠ "java/lang/invoke/MethodHandle" ∧ yX2_seem.cls ≠ "java/lang/invoke/VarHandle" ∧ (parseMethodDescriptor yX2_seem.desc).map (fun d => d.parameters.length) = some 1 := by decide +kernel
set_option maxHeartbeats 400000 in
set_option maxRecDepth 100000 in
theorem ct_X2_seem (l : Launch) (D : va_G) (cI : ClassId) (t : Nat) (q : Nat → Nat) (M K : SS) (k : Nat) (hk : k < 12) : Ct l D [(cI, .int)] yX2_seem wsX2_seem 2 44 0 0 [.ref t, .int (nI k)] (mw cI t q M K) (some (.int (mSeem M k))) (mw cI t q M K) := by
  refine Ct.ofW (cc := cX2_seem) (maxL := 2) (ret := (some .int)) (by decide) rfl (Nat.le_of_ble_eq_true rfl) ?_
  intro p e s m below meth c A ls hC hr hlk _ hP hD hS hK hA hl
  have hx := hC.1
  have hb := hC.2.1
  have hinX2 : ∀ w ∈ wsX20, w ∈ wsX2_seem := fun _ _h => List.mem_cons_of_mem _ (List.mem_append_right _ _h)
  have hl : lv_has ls 2 [(0, .ref t), (1, .int (nI k))] := hl
  refine lv_aload_n hx hb dX2_seem_0 rfl (lv_at hl 0 rfl) ?_
  refine gt_get hC 0 2 5 1 hinX2 hK hP dX2_seem_1 rfl rfl rfl (by decide) rfl rfl ?_
  refine lv_iload_n hx hb dX2_seem_4 rfl (lv_at hl 1 rfl) ?_
  refine gt_ald hC 3 0 k hK hP dX2_seem_5 rfl rfl rfl (by omega) (Nat.le_of_ble_eq_true rfl) ?_
  refine lv_aload_n hx hb dX2_seem_6 rfl (lv_at hl 0 rfl) ?_
  refine lv_iload_n hx hb dX2_seem_7 rfl (lv_at hl 1 rfl) ?_
  refine lv_iconst (v := 1) hx hb dX2_seem_8 (by decide) ?_
  refine gt_call0 hC 0 2 2 (ct_X2_is l D cI t q M K k 1 (by omega)) gX2_seem_X2_is dX2_seem_9 hK hP hD hS hA hl.1 rfl hd_X2_is ⟨Nat.le_of_ble_eq_true rfl, Nat.le_of_ble_eq_true rfl⟩ ⟨Nat.le_of_ble_eq_true rfl, Nat.le_of_ble_eq_true rfl⟩ rfl rfl rfl rfl (Nat.le_of_ble_eq_true rfl) (fun H locs hP hD hS => ?_)
  refine gt_meetH D A s.heap (mw cI t q M K) hP hD hS (rest := [.int (M 11 k)]) 27 (mSeI M k) (fun K1 => ?_) (fun H locs hP hD hS => ?_)
  · skip
    refine lv_if_eq (tgt := 26) hx hb dX2_seem_12 (by decide) (fun c12_2 : (mIs M k 1) = 0 => ?_) (fun c12_2 : ¬ ((mIs M k 1) = 0) => ?_)
    · skip
      refine lv_iconst (v := 0) hx hb dX2_seem_26 (by decide) ?_
      exact K1 _ H locs hP hD hS (show 0 = (if (mIs M k 1) = 0 then 0 else ((M 5 k) / 3)) from by rw [if_pos c12_2])
    · skip
      refine lv_aload_n hx hb dX2_seem_15 rfl (lv_at hl 0 rfl) ?_
      refine lv_iload_n hx hb dX2_seem_16 rfl (lv_at hl 1 rfl) ?_
      refine lv_iconst (v := 5) hx hb dX2_seem_17 (by decide) ?_
      refine gt_call0 hC 0 2 2 (ct_X2_of l D cI t q M K k 5 (by omega) (by decide)) gX2_seem_X2_of dX2_seem_18 hK hP hD hS hA hl.1 rfl hd_X2_of ⟨Nat.le_of_ble_eq_true rfl, Nat.le_of_ble_eq_true rfl⟩ ⟨Nat.le_of_ble_eq_true rfl, Nat.le_of_ble_eq_true rfl⟩ rfl rfl rfl rfl (Nat.le_of_ble_eq_true rfl) (fun H locs hP hD hS => ?_)
      refine lv_iconst (v := 3) hx hb dX2_seem_21 (by decide) ?_
      refine lv_idiv hx hb dX2_seem_22 (by decide) ?_
      refine lv_goto (tgt := 27) hx hb dX2_seem_23 (by decide) ?_
      exact K1 _ H locs hP hD hS (show ((M 5 k) / 3) = (if (mIs M k 1) = 0 then 0 else ((M 5 k) / 3)) from by rw [if_neg c12_2])
  · skip
    refine lv_iadd hx hb dX2_seem_27 ?_
    exact gt_iret hC hr hlk hK (ws := (mw cI t q M K)) hP hD hS (show some (Value.int ((M 11 k) + (mSeI M k))) = _ from rfl) rfl dX2_seem_28 (Nat.le_of_ble_eq_true rfl) (Nat.le_of_ble_eq_true rfl)

theorem hd_X2_firstAt : yX2_firstAt.cls = RX2 ∧ yX2_firstAt.cls ≠ "java/lang/invoke/MethodHandle" ∧ yX2_firstAt.cls ≠ "java/lang/invoke/VarHandle" ∧ (parseMethodDescriptor yX2_firstAt.desc).map (fun d => d.parameters.length) = some 1 := by decide +kernel
set_option maxHeartbeats 400000 in
set_option maxRecDepth 100000 in
theorem ct_X2_firstAt (l : Launch) (D : va_G) (cI : ClassId) (t : Nat) (q : Nat → Nat) (M K : SS) (g : Nat) (hg : g < 4) (N : Nat) (hN : M 12 2 = nI N) (hN12 : N ≤ 12) : Ct l D [(cI, .int)] yX2_firstAt wsX2_firstAt 3 66 0 0 [.ref t, .int (nI g)] (mw cI t q M K) (some (.int (mFst M g N))) (mw cI t q M K) := by
  refine Ct.ofW (cc := cX2_firstAt) (maxL := 4) (ret := (some .int)) (by decide) rfl (Nat.le_of_ble_eq_true rfl) ?_
  intro p e s m below meth c A ls hC hr hlk _ hP hD hS hK hA hl
  have hx := hC.1
  have hb := hC.2.1
  have hinX2 : ∀ w ∈ wsX20, w ∈ wsX2_firstAt := fun _ _h => List.mem_cons_of_mem _ (List.mem_append_right _ _h)
  have hl : lv_has ls 4 [(0, .ref t), (1, .int (nI g))] := hl
  refine lv_iconst (v := (-1)) hx hb dX2_firstAt_0 (by decide) ?_
  refine lv_istore_n (lv' := [(2, .int (-1)), (0, .ref t), (1, .int (nI g))]) hx hb dX2_firstAt_1 rfl hl (by decide) rfl (fun ls hl => ?_)
  refine lv_iconst (v := 0) hx hb dX2_firstAt_2 (by decide) ?_
  refine lv_istore_n (lv' := [(3, .int 0), (2, .int (-1)), (0, .ref t), (1, .int (nI g))]) hx hb dX2_firstAt_3 rfl hl (by decide) rfl (fun ls hl => ?_)
  refine gt_loop D A s.heap 4 N (fun n => [(3, .int (nI n)), (2, .int (mFst M g n)), (0, .ref t), (1, .int (nI g))]) (fun n => (mw cI t q M K)) (lv_sub hl [0, 1, 2, 3] rfl) hP hD hS (fun n hi_n H locs ls hP hD hS hl K1 => ?_) (fun H locs ls hP hD hS hl => ?_)
  · skip
    refine lv_iload_n hx hb dX2_firstAt_4 rfl (lv_at hl 0 rfl) ?_
    refine lv_aload_n hx hb dX2_firstAt_5 rfl (lv_at hl 2 rfl) ?_
    refine gt_get hC 0 2 2 1 hinX2 hK hP dX2_firstAt_6 rfl rfl rfl (by decide) rfl rfl ?_
    refine gt_ge_f (tgt := 51) hC n N dX2_firstAt_9 (by decide) rfl hN hi_n (by omega) ?_
    refine lv_aload_n hx hb dX2_firstAt_12 rfl (lv_at hl 2 rfl) ?_
    refine lv_iload_n hx hb dX2_firstAt_13 rfl (lv_at hl 0 rfl) ?_
    refine lv_iload_n hx hb dX2_firstAt_14 rfl (lv_at hl 3 rfl) ?_
    refine gt_call0 hC 0 2 2 (ct_X2_isAt l D cI t q M K n (nI g) (by omega)) gX2_firstAt_X2_isAt dX2_firstAt_15 hK hP hD hS hA hl.1 rfl hd_X2_isAt ⟨Nat.le_of_ble_eq_true rfl, Nat.le_of_ble_eq_true rfl⟩ ⟨Nat.le_of_ble_eq_true rfl, Nat.le_of_ble_eq_true rfl⟩ rfl rfl rfl rfl (Nat.le_of_ble_eq_true rfl) (fun H locs hP hD hS => ?_)
    refine lv_if_eq (tgt := 45) hx hb dX2_firstAt_18 (by decide) (fun c18_2 : (mAt M n (nI g)) = 0 => ?_) (fun c18_2 : ¬ ((mAt M n (nI g)) = 0) => ?_)
    · skip
      refine gt_inc (lv' := [(3, .int (nI (n + 1))), (2, .int (mFst M g n)), (0, .ref t), (1, .int (nI g))]) hC 0 n dX2_firstAt_45 hl rfl rfl (by decide) rfl (fun ls hl => ?_)
      refine lv_goto (tgt := 4) hx hb dX2_firstAt_48 (by decide) ?_
      have hl9 : lv_has ls 4 [(3, .int (nI (n + 1))), (2, .int (mFst M g n)), (0, .ref t), (1, .int (nI g))] := lv_sub hl [0, 1, 2, 3] rfl
      rw [show .int (mFst M g n) = (Value.int (mFst M g (n + 1))) from congrArg _ (((if_pos c18_2).trans rfl).symm)] at hl9
      exact K1 H locs ls hP hD hS hl9
    · skip
      refine lv_iload_n hx hb dX2_firstAt_21 rfl (lv_at hl 1 rfl) ?_
      refine lv_iconst (v := (-1)) hx hb dX2_firstAt_22 (by decide) ?_
      refine lv_icmp_eq (tgt := 43) hx hb dX2_firstAt_23 (by decide) (fun c23_3 : (mFst M g n) = (-1) => ?_) (fun c23_3 : ¬ ((mFst M g n) = (-1)) => ?_)
      · skip
        refine lv_iload_n hx hb dX2_firstAt_43 rfl (lv_at hl 0 rfl) ?_
        refine lv_istore_n (lv' := [(2, .int (nI n)), (3, .int (nI n)), (0, .ref t), (1, .int (nI g))]) hx hb dX2_firstAt_44 rfl hl (by decide) rfl (fun ls hl => ?_)
        refine gt_inc (lv' := [(3, .int (nI (n + 1))), (2, .int (nI n)), (0, .ref t), (1, .int (nI g))]) hC 1 n dX2_firstAt_45 hl rfl rfl (by decide) rfl (fun ls hl => ?_)
        refine lv_goto (tgt := 4) hx hb dX2_firstAt_48 (by decide) ?_
        have hl9 : lv_has ls 4 [(3, .int (nI (n + 1))), (2, .int (nI n)), (0, .ref t), (1, .int (nI g))] := lv_sub hl [0, 1, 2, 3] rfl
        rw [show .int (nI n) = (Value.int (mFst M g (n + 1))) from congrArg _ (((if_neg c18_2).trans ((if_pos c23_3).trans rfl)).symm)] at hl9
        exact K1 H locs ls hP hD hS hl9
      · skip
        refine lv_aload_n hx hb dX2_firstAt_26 rfl (lv_at hl 2 rfl) ?_
        refine lv_iload_n hx hb dX2_firstAt_27 rfl (lv_at hl 0 rfl) ?_
        refine lv_bipush (v := 7) hx hb dX2_firstAt_28 (by decide) ?_
        refine gt_call0 hC 0 2 2 (ct_X2_of l D cI t q M K n 7 (by omega) (by decide)) gX2_firstAt_X2_of dX2_firstAt_30 hK hP hD hS hA hl.1 rfl hd_X2_of ⟨Nat.le_of_ble_eq_true rfl, Nat.le_of_ble_eq_true rfl⟩ ⟨Nat.le_of_ble_eq_true rfl, Nat.le_of_ble_eq_true rfl⟩ rfl rfl rfl rfl (Nat.le_of_ble_eq_true rfl) (fun H locs hP hD hS => ?_)
        refine lv_aload_n hx hb dX2_firstAt_33 rfl (lv_at hl 2 rfl) ?_
        refine lv_iload_n hx hb dX2_firstAt_34 rfl (lv_at hl 1 rfl) ?_
        refine lv_bipush (v := 7) hx hb dX2_firstAt_35 (by decide) ?_
        have hf := (ix_of (by omega) (mFst_ix n (by omega) c23_3))
        refine gt_stk [.int 7, .int (nI ((mFst M g n).toNatClampNeg)), .ref t, .int (M 7 n)] (congrArg (fun z : Int32 => ([.int 7, .int z, .ref t, .int (M 7 n)] : List Value)) hf.1) ?_
        refine gt_call0 hC 0 2 2 (ct_X2_of l D cI t q M K ((mFst M g n).toNatClampNeg) 7 (by omega) (by decide)) gX2_firstAt_X2_of dX2_firstAt_37 hK hP hD hS hA hl.1 rfl hd_X2_of ⟨Nat.le_of_ble_eq_true rfl, Nat.le_of_ble_eq_true rfl⟩ ⟨Nat.le_of_ble_eq_true rfl, Nat.le_of_ble_eq_true rfl⟩ rfl rfl rfl rfl (Nat.le_of_ble_eq_true rfl) (fun H locs hP hD hS => ?_)
        refine lv_icmp_ge (tgt := 45) hx hb dX2_firstAt_40 (by decide) (fun c40_4 : (M 7 ((mFst M g n).toNatClampNeg)) ≤ (M 7 n) => ?_) (fun c40_4 : ¬ ((M 7 ((mFst M g n).toNatClampNeg)) ≤ (M 7 n)) => ?_)
        · skip
          refine gt_inc (lv' := [(3, .int (nI (n + 1))), (2, .int (mFst M g n)), (0, .ref t), (1, .int (nI g))]) hC 0 n dX2_firstAt_45 hl rfl rfl (by decide) rfl (fun ls hl => ?_)
          refine lv_goto (tgt := 4) hx hb dX2_firstAt_48 (by decide) ?_
          have hl9 : lv_has ls 4 [(3, .int (nI (n + 1))), (2, .int (mFst M g n)), (0, .ref t), (1, .int (nI g))] := lv_sub hl [0, 1, 2, 3] rfl
          rw [show .int (mFst M g n) = (Value.int (mFst M g (n + 1))) from congrArg _ (((if_neg c18_2).trans ((if_neg c23_3).trans ((if_pos c40_4).trans rfl))).symm)] at hl9
          exact K1 H locs ls hP hD hS hl9
        · skip
          refine lv_iload_n hx hb dX2_firstAt_43 rfl (lv_at hl 0 rfl) ?_
          refine lv_istore_n (lv' := [(2, .int (nI n)), (3, .int (nI n)), (0, .ref t), (1, .int (nI g))]) hx hb dX2_firstAt_44 rfl hl (by decide) rfl (fun ls hl => ?_)
          refine gt_inc (lv' := [(3, .int (nI (n + 1))), (2, .int (nI n)), (0, .ref t), (1, .int (nI g))]) hC 1 n dX2_firstAt_45 hl rfl rfl (by decide) rfl (fun ls hl => ?_)
          refine lv_goto (tgt := 4) hx hb dX2_firstAt_48 (by decide) ?_
          have hl9 : lv_has ls 4 [(3, .int (nI (n + 1))), (2, .int (nI n)), (0, .ref t), (1, .int (nI g))] := lv_sub hl [0, 1, 2, 3] rfl
          rw [show .int (nI n) = (Value.int (mFst M g (n + 1))) from congrArg _ (((if_neg c18_2).trans ((if_neg c23_3).trans ((if_neg c40_4).trans rfl))).symm)] at hl9
          exact K1 H locs ls hP hD hS hl9
  · skip
    refine lv_iload_n hx hb dX2_firstAt_4 rfl (lv_at hl 0 rfl) ?_
    refine lv_aload_n hx hb dX2_firstAt_5 rfl (lv_at hl 2 rfl) ?_
    refine gt_get hC 0 2 2 1 hinX2 hK hP dX2_firstAt_6 rfl rfl rfl (by decide) rfl rfl ?_
    refine gt_ge_t (tgt := 51) hC N N dX2_firstAt_9 (by decide) rfl hN (Nat.le_refl _) (by omega) ?_
    refine lv_iload_n hx hb dX2_firstAt_51 rfl (lv_at hl 1 rfl) ?_
    exact gt_iret hC hr hlk hK (ws := (mw cI t q M K)) hP hD hS (show some (Value.int (mFst M g N)) = _ from rfl) rfl dX2_firstAt_52 (Nat.le_of_ble_eq_true rfl) (Nat.le_of_ble_eq_true rfl)

theorem hd_X2_next : yX2_next.cls = RX2 ∧ yX2_next.cls ≠ "java/lang/invoke/MethodHandle" ∧ yX2_next.cls ≠ "java/lang/invoke/VarHandle" ∧ (parseMethodDescriptor yX2_next.desc).map (fun d => d.parameters.length) = some 1 := by decide +kernel
set_option maxHeartbeats 400000 in
set_option maxRecDepth 100000 in
theorem ct_X2_next (l : Launch) (D : va_G) (cI : ClassId) (t : Nat) (q : Nat → Nat) (M K : SS) (g : Nat) (hg : g < 4) (N : Nat) (hN : M 12 2 = nI N) (hN12 : N ≤ 12) : Ct l D [(cI, .int)] yX2_next wsX2_next 4 89 0 0 [.ref t, .int (nI g)] (mw cI t q M K) (some (.int (mNx M g N))) (mw cI t q M K) := by
  refine Ct.ofW (cc := cX2_next) (maxL := 5) (ret := (some .int)) (by decide) rfl (Nat.le_of_ble_eq_true rfl) ?_
  intro p e s m below meth c A ls hC hr hlk _ hP hD hS hK hA hl
  have hx := hC.1
  have hb := hC.2.1
  have hinX2 : ∀ w ∈ wsX20, w ∈ wsX2_next := fun _ _h => List.mem_cons_of_mem _ (List.mem_append_right _ _h)
  have hl : lv_has ls 5 [(0, .ref t), (1, .int (nI g))] := hl
  refine lv_aload_n hx hb dX2_next_0 rfl (lv_at hl 0 rfl) ?_
  refine lv_iload_n hx hb dX2_next_1 rfl (lv_at hl 1 rfl) ?_
  refine gt_call0 hC 0 2 1 (ct_X2_free l D cI t q M K g (by omega) N hN hN12) gX2_next_X2_free dX2_next_2 hK hP hD hS hA hl.1 rfl hd_X2_free ⟨Nat.le_of_ble_eq_true rfl, Nat.le_of_ble_eq_true rfl⟩ ⟨Nat.le_of_ble_eq_true rfl, Nat.le_of_ble_eq_true rfl⟩ rfl rfl rfl rfl (Nat.le_of_ble_eq_true rfl) (fun H locs hP hD hS => ?_)
  refine lv_istore_n (lv' := [(2, .int (mFree M g N)), (0, .ref t), (1, .int (nI g))]) hx hb dX2_next_5 rfl hl (by decide) rfl (fun ls hl => ?_)
  refine lv_aload_n hx hb dX2_next_6 rfl (lv_at hl 1 rfl) ?_
  refine gt_get hC 0 2 4 1 hinX2 hK hP dX2_next_7 rfl rfl rfl (by decide) rfl rfl ?_
  refine lv_iload_n hx hb dX2_next_10 rfl (lv_at hl 2 rfl) ?_
  refine gt_ald hC 2 0 g hK hP dX2_next_11 rfl rfl rfl (by omega) (Nat.le_of_ble_eq_true rfl) ?_
  refine lv_if_ne (tgt := 42) hx hb dX2_next_12 (by decide) (fun c12_1 : ¬ ((M 10 g) = 0) => ?_) (fun c12_1 : (M 10 g) = 0 => ?_)
  · skip
    refine lv_iconst (v := (-1)) hx hb dX2_next_42 (by decide) ?_
    refine lv_istore_n (lv' := [(3, .int (-1)), (2, .int (mFree M g N)), (0, .ref t), (1, .int (nI g))]) hx hb dX2_next_43 rfl hl (by decide) rfl (fun ls hl => ?_)
    refine lv_iconst (v := 0) hx hb dX2_next_44 (by decide) ?_
    refine lv_istore (lv' := [(4, .int 0), (3, .int (-1)), (2, .int (mFree M g N)), (0, .ref t), (1, .int (nI g))]) hx hb dX2_next_45 hl (by decide) rfl (fun ls hl => ?_)
    refine gt_loop D A s.heap 5 N (fun n => [(4, .int (nI n)), (3, .int (mNb M (mFree M g N) g n)), (2, .int (mFree M g N)), (0, .ref t), (1, .int (nI g))]) (fun n => (mw cI t q M K)) (lv_sub hl [0, 1, 2, 3, 4] rfl) hP hD hS (fun n hi_n H locs ls hP hD hS hl K2 => ?_) (fun H locs ls hP hD hS hl => ?_)
    · skip
      refine lv_iload hx hb dX2_next_47 (lv_at hl 0 rfl) ?_
      refine lv_aload_n hx hb dX2_next_49 rfl (lv_at hl 3 rfl) ?_
      refine gt_get hC 0 2 2 2 hinX2 hK hP dX2_next_50 rfl rfl rfl (by decide) rfl rfl ?_
      refine gt_ge_f (tgt := 140) hC n N dX2_next_53 (by decide) rfl hN hi_n (by omega) ?_
      refine lv_aload_n hx hb dX2_next_56 rfl (lv_at hl 3 rfl) ?_
      refine lv_iload hx hb dX2_next_57 (lv_at hl 0 rfl) ?_
      refine lv_iload_n hx hb dX2_next_59 rfl (lv_at hl 4 rfl) ?_
      refine gt_call0 hC 0 2 2 (ct_X2_isAt l D cI t q M K n (nI g) (by omega)) gX2_next_X2_isAt dX2_next_60 hK hP hD hS hA hl.1 rfl hd_X2_isAt ⟨Nat.le_of_ble_eq_true rfl, Nat.le_of_ble_eq_true rfl⟩ ⟨Nat.le_of_ble_eq_true rfl, Nat.le_of_ble_eq_true rfl⟩ rfl rfl rfl rfl (Nat.le_of_ble_eq_true rfl) (fun H locs hP hD hS => ?_)
      refine lv_if_eq (tgt := 134) hx hb dX2_next_63 (by decide) (fun c63_3 : (mAt M n (nI g)) = 0 => ?_) (fun c63_3 : ¬ ((mAt M n (nI g)) = 0) => ?_)
      · skip
        refine gt_inc (lv' := [(4, .int (nI (n + 1))), (3, .int (mNb M (mFree M g N) g n)), (2, .int (mFree M g N)), (0, .ref t), (1, .int (nI g))]) hC 0 n dX2_next_134 hl rfl rfl (by decide) rfl (fun ls hl => ?_)
        refine lv_goto (tgt := 47) hx hb dX2_next_137 (by decide) ?_
        have hl9 : lv_has ls 5 [(4, .int (nI (n + 1))), (3, .int (mNb M (mFree M g N) g n)), (2, .int (mFree M g N)), (0, .ref t), (1, .int (nI g))] := lv_sub hl [0, 1, 2, 3, 4] rfl
        rw [show .int (mNb M (mFree M g N) g n) = (Value.int (mNb M (mFree M g N) g (n + 1))) from congrArg _ (((if_pos c63_3).trans rfl).symm)] at hl9
        exact K2 H locs ls hP hD hS hl9
      · skip
        refine lv_aload_n hx hb dX2_next_66 rfl (lv_at hl 3 rfl) ?_
        refine lv_iload hx hb dX2_next_67 (lv_at hl 0 rfl) ?_
        refine lv_iconst (v := 2) hx hb dX2_next_69 (by decide) ?_
        refine gt_call0 hC 0 2 2 (ct_X2_of l D cI t q M K n 2 (by omega) (by decide)) gX2_next_X2_of dX2_next_70 hK hP hD hS hA hl.1 rfl hd_X2_of ⟨Nat.le_of_ble_eq_true rfl, Nat.le_of_ble_eq_true rfl⟩ ⟨Nat.le_of_ble_eq_true rfl, Nat.le_of_ble_eq_true rfl⟩ rfl rfl rfl rfl (Nat.le_of_ble_eq_true rfl) (fun H locs hP hD hS => ?_)
        refine lv_iload_n hx hb dX2_next_73 rfl (lv_at hl 2 rfl) ?_
        refine lv_icmp_le (tgt := 80) hx hb dX2_next_74 (by decide) (fun c74_4 : (M 2 n) ≤ (mFree M g N) => ?_) (fun c74_4 : ¬ ((M 2 n) ≤ (mFree M g N)) => ?_)
        · skip
          refine lv_iload_n hx hb dX2_next_80 rfl (lv_at hl 1 rfl) ?_
          refine lv_iconst (v := (-1)) hx hb dX2_next_81 (by decide) ?_
          refine lv_icmp_eq (tgt := 131) hx hb dX2_next_82 (by decide) (fun c82_5 : (mNb M (mFree M g N) g n) = (-1) => ?_) (fun c82_5 : ¬ ((mNb M (mFree M g N) g n) = (-1)) => ?_)
          · skip
            refine lv_iload hx hb dX2_next_131 (lv_at hl 0 rfl) ?_
            refine lv_istore_n (lv' := [(3, .int (nI n)), (4, .int (nI n)), (2, .int (mFree M g N)), (0, .ref t), (1, .int (nI g))]) hx hb dX2_next_133 rfl hl (by decide) rfl (fun ls hl => ?_)
            refine gt_inc (lv' := [(4, .int (nI (n + 1))), (3, .int (nI n)), (2, .int (mFree M g N)), (0, .ref t), (1, .int (nI g))]) hC 1 n dX2_next_134 hl rfl rfl (by decide) rfl (fun ls hl => ?_)
            refine lv_goto (tgt := 47) hx hb dX2_next_137 (by decide) ?_
            have hl9 : lv_has ls 5 [(4, .int (nI (n + 1))), (3, .int (nI n)), (2, .int (mFree M g N)), (0, .ref t), (1, .int (nI g))] := lv_sub hl [0, 1, 2, 3, 4] rfl
            rw [show .int (nI n) = (Value.int (mNb M (mFree M g N) g (n + 1))) from congrArg _ (((if_neg c63_3).trans ((if_pos c74_4).trans ((if_pos c82_5).trans rfl))).symm)] at hl9
            exact K2 H locs ls hP hD hS hl9
          · skip
            refine lv_aload_n hx hb dX2_next_85 rfl (lv_at hl 3 rfl) ?_
            refine lv_iload hx hb dX2_next_86 (lv_at hl 0 rfl) ?_
            refine gt_call0 hC 0 2 1 (ct_X2_seem l D cI t q M K n (by omega)) gX2_next_X2_seem dX2_next_88 hK hP hD hS hA hl.1 rfl hd_X2_seem ⟨Nat.le_of_ble_eq_true rfl, Nat.le_of_ble_eq_true rfl⟩ ⟨Nat.le_of_ble_eq_true rfl, Nat.le_of_ble_eq_true rfl⟩ rfl rfl rfl rfl (Nat.le_of_ble_eq_true rfl) (fun H locs hP hD hS => ?_)
            refine lv_aload_n hx hb dX2_next_91 rfl (lv_at hl 3 rfl) ?_
            refine lv_iload_n hx hb dX2_next_92 rfl (lv_at hl 1 rfl) ?_
            have hf := ix_of (by omega) (mNb_ix n (by omega) c82_5)
            refine gt_stk [.int (nI ((mNb M (mFree M g N) g n).toNatClampNeg)), .ref t, .int (mSeem M n)] (congrArg (fun z : Int32 => ([.int z, .ref t, .int (mSeem M n)] : List Value)) hf.1) ?_
            refine gt_call0 hC 0 2 1 (ct_X2_seem l D cI t q M K ((mNb M (mFree M g N) g n).toNatClampNeg) (by omega)) gX2_next_X2_seem dX2_next_93 hK hP hD hS hA hl.1 rfl hd_X2_seem ⟨Nat.le_of_ble_eq_true rfl, Nat.le_of_ble_eq_true rfl⟩ ⟨Nat.le_of_ble_eq_true rfl, Nat.le_of_ble_eq_true rfl⟩ rfl rfl rfl rfl (Nat.le_of_ble_eq_true rfl) (fun H locs hP hD hS => ?_)
            refine lv_icmp_gt (tgt := 131) hx hb dX2_next_96 (by decide) (fun c96_6 : (mSeem M ((mNb M (mFree M g N) g n).toNatClampNeg)) < (mSeem M n) => ?_) (fun c96_6 : ¬ ((mSeem M ((mNb M (mFree M g N) g n).toNatClampNeg)) < (mSeem M n)) => ?_)
            · skip
              refine lv_iload hx hb dX2_next_131 (lv_at hl 0 rfl) ?_
              refine lv_istore_n (lv' := [(3, .int (nI n)), (4, .int (nI n)), (2, .int (mFree M g N)), (0, .ref t), (1, .int (nI g))]) hx hb dX2_next_133 rfl hl (by decide) rfl (fun ls hl => ?_)
              refine gt_inc (lv' := [(4, .int (nI (n + 1))), (3, .int (nI n)), (2, .int (mFree M g N)), (0, .ref t), (1, .int (nI g))]) hC 1 n dX2_next_134 hl rfl rfl (by decide) rfl (fun ls hl => ?_)
              refine lv_goto (tgt := 47) hx hb dX2_next_137 (by decide) ?_
              have hl9 : lv_has ls 5 [(4, .int (nI (n + 1))), (3, .int (nI n)), (2, .int (mFree M g N)), (0, .ref t), (1, .int (nI g))] := lv_sub hl [0, 1, 2, 3, 4] rfl
              rw [show .int (nI n) = (Value.int (mNb M (mFree M g N) g (n + 1))) from congrArg _ (((if_neg c63_3).trans ((if_pos c74_4).trans ((if_neg c82_5).trans ((if_pos c96_6).trans rfl)))).symm)] at hl9
              exact K2 H locs ls hP hD hS hl9
            · skip
              refine lv_aload_n hx hb dX2_next_99 rfl (lv_at hl 3 rfl) ?_
              refine lv_iload hx hb dX2_next_100 (lv_at hl 0 rfl) ?_
              refine gt_call0 hC 0 2 1 (ct_X2_seem l D cI t q M K n (by omega)) gX2_next_X2_seem dX2_next_102 hK hP hD hS hA hl.1 rfl hd_X2_seem ⟨Nat.le_of_ble_eq_true rfl, Nat.le_of_ble_eq_true rfl⟩ ⟨Nat.le_of_ble_eq_true rfl, Nat.le_of_ble_eq_true rfl⟩ rfl rfl rfl rfl (Nat.le_of_ble_eq_true rfl) (fun H locs hP hD hS => ?_)
              refine lv_aload_n hx hb dX2_next_105 rfl (lv_at hl 3 rfl) ?_
              refine lv_iload_n hx hb dX2_next_106 rfl (lv_at hl 1 rfl) ?_
              have hf := ix_of (by omega) (mNb_ix n (by omega) c82_5)
              refine gt_stk [.int (nI ((mNb M (mFree M g N) g n).toNatClampNeg)), .ref t, .int (mSeem M n)] (congrArg (fun z : Int32 => ([.int z, .ref t, .int (mSeem M n)] : List Value)) hf.1) ?_
              refine gt_call0 hC 0 2 1 (ct_X2_seem l D cI t q M K ((mNb M (mFree M g N) g n).toNatClampNeg) (by omega)) gX2_next_X2_seem dX2_next_107 hK hP hD hS hA hl.1 rfl hd_X2_seem ⟨Nat.le_of_ble_eq_true rfl, Nat.le_of_ble_eq_true rfl⟩ ⟨Nat.le_of_ble_eq_true rfl, Nat.le_of_ble_eq_true rfl⟩ rfl rfl rfl rfl (Nat.le_of_ble_eq_true rfl) (fun H locs hP hD hS => ?_)
              refine lv_icmp_ne (tgt := 134) hx hb dX2_next_110 (by decide) (fun c110_7 : ¬ ((mSeem M n) = (mSeem M ((mNb M (mFree M g N) g n).toNatClampNeg))) => ?_) (fun c110_7 : (mSeem M n) = (mSeem M ((mNb M (mFree M g N) g n).toNatClampNeg)) => ?_)
              · skip
                refine gt_inc (lv' := [(4, .int (nI (n + 1))), (3, .int (mNb M (mFree M g N) g n)), (2, .int (mFree M g N)), (0, .ref t), (1, .int (nI g))]) hC 0 n dX2_next_134 hl rfl rfl (by decide) rfl (fun ls hl => ?_)
                refine lv_goto (tgt := 47) hx hb dX2_next_137 (by decide) ?_
                have hl9 : lv_has ls 5 [(4, .int (nI (n + 1))), (3, .int (mNb M (mFree M g N) g n)), (2, .int (mFree M g N)), (0, .ref t), (1, .int (nI g))] := lv_sub hl [0, 1, 2, 3, 4] rfl
                rw [show .int (mNb M (mFree M g N) g n) = (Value.int (mNb M (mFree M g N) g (n + 1))) from congrArg _ (((if_neg c63_3).trans ((if_pos c74_4).trans ((if_neg c82_5).trans ((if_neg c96_6).trans ((if_neg c110_7).trans rfl))))).symm)] at hl9
                exact K2 H locs ls hP hD hS hl9
              · skip
                refine lv_aload_n hx hb dX2_next_113 rfl (lv_at hl 3 rfl) ?_
                refine lv_iload hx hb dX2_next_114 (lv_at hl 0 rfl) ?_
                refine lv_bipush (v := 7) hx hb dX2_next_116 (by decide) ?_
                refine gt_call0 hC 0 2 2 (ct_X2_of l D cI t q M K n 7 (by omega) (by decide)) gX2_next_X2_of dX2_next_118 hK hP hD hS hA hl.1 rfl hd_X2_of ⟨Nat.le_of_ble_eq_true rfl, Nat.le_of_ble_eq_true rfl⟩ ⟨Nat.le_of_ble_eq_true rfl, Nat.le_of_ble_eq_true rfl⟩ rfl rfl rfl rfl (Nat.le_of_ble_eq_true rfl) (fun H locs hP hD hS => ?_)
                refine lv_aload_n hx hb dX2_next_121 rfl (lv_at hl 3 rfl) ?_
                refine lv_iload_n hx hb dX2_next_122 rfl (lv_at hl 1 rfl) ?_
                refine lv_bipush (v := 7) hx hb dX2_next_123 (by decide) ?_
                have hf := ix_of (by omega) (mNb_ix n (by omega) c82_5)
                refine gt_stk [.int 7, .int (nI ((mNb M (mFree M g N) g n).toNatClampNeg)), .ref t, .int (M 7 n)] (congrArg (fun z : Int32 => ([.int 7, .int z, .ref t, .int (M 7 n)] : List Value)) hf.1) ?_
                refine gt_call0 hC 0 2 2 (ct_X2_of l D cI t q M K ((mNb M (mFree M g N) g n).toNatClampNeg) 7 (by omega) (by decide)) gX2_next_X2_of dX2_next_125 hK hP hD hS hA hl.1 rfl hd_X2_of ⟨Nat.le_of_ble_eq_true rfl, Nat.le_of_ble_eq_true rfl⟩ ⟨Nat.le_of_ble_eq_true rfl, Nat.le_of_ble_eq_true rfl⟩ rfl rfl rfl rfl (Nat.le_of_ble_eq_true rfl) (fun H locs hP hD hS => ?_)
                refine lv_icmp_ge (tgt := 134) hx hb dX2_next_128 (by decide) (fun c128_8 : (M 7 ((mNb M (mFree M g N) g n).toNatClampNeg)) ≤ (M 7 n) => ?_) (fun c128_8 : ¬ ((M 7 ((mNb M (mFree M g N) g n).toNatClampNeg)) ≤ (M 7 n)) => ?_)
                · skip
                  refine gt_inc (lv' := [(4, .int (nI (n + 1))), (3, .int (mNb M (mFree M g N) g n)), (2, .int (mFree M g N)), (0, .ref t), (1, .int (nI g))]) hC 0 n dX2_next_134 hl rfl rfl (by decide) rfl (fun ls hl => ?_)
                  refine lv_goto (tgt := 47) hx hb dX2_next_137 (by decide) ?_
                  have hl9 : lv_has ls 5 [(4, .int (nI (n + 1))), (3, .int (mNb M (mFree M g N) g n)), (2, .int (mFree M g N)), (0, .ref t), (1, .int (nI g))] := lv_sub hl [0, 1, 2, 3, 4] rfl
                  rw [show .int (mNb M (mFree M g N) g n) = (Value.int (mNb M (mFree M g N) g (n + 1))) from congrArg _ (((if_neg c63_3).trans ((if_pos c74_4).trans ((if_neg c82_5).trans ((if_neg c96_6).trans ((if_pos c110_7).trans ((if_pos c128_8).trans rfl)))))).symm)] at hl9
                  exact K2 H locs ls hP hD hS hl9
                · skip
                  refine lv_iload hx hb dX2_next_131 (lv_at hl 0 rfl) ?_
                  refine lv_istore_n (lv' := [(3, .int (nI n)), (4, .int (nI n)), (2, .int (mFree M g N)), (0, .ref t), (1, .int (nI g))]) hx hb dX2_next_133 rfl hl (by decide) rfl (fun ls hl => ?_)
                  refine gt_inc (lv' := [(4, .int (nI (n + 1))), (3, .int (nI n)), (2, .int (mFree M g N)), (0, .ref t), (1, .int (nI g))]) hC 1 n dX2_next_134 hl rfl rfl (by decide) rfl (fun ls hl => ?_)
                  refine lv_goto (tgt := 47) hx hb dX2_next_137 (by decide) ?_
                  have hl9 : lv_has ls 5 [(4, .int (nI (n + 1))), (3, .int (nI n)), (2, .int (mFree M g N)), (0, .ref t), (1, .int (nI g))] := lv_sub hl [0, 1, 2, 3, 4] rfl
                  rw [show .int (nI n) = (Value.int (mNb M (mFree M g N) g (n + 1))) from congrArg _ (((if_neg c63_3).trans ((if_pos c74_4).trans ((if_neg c82_5).trans ((if_neg c96_6).trans ((if_pos c110_7).trans ((if_neg c128_8).trans rfl)))))).symm)] at hl9
                  exact K2 H locs ls hP hD hS hl9
        · skip
          refine lv_goto (tgt := 134) hx hb dX2_next_77 (by decide) ?_
          refine gt_inc (lv' := [(4, .int (nI (n + 1))), (3, .int (mNb M (mFree M g N) g n)), (2, .int (mFree M g N)), (0, .ref t), (1, .int (nI g))]) hC 0 n dX2_next_134 hl rfl rfl (by decide) rfl (fun ls hl => ?_)
          refine lv_goto (tgt := 47) hx hb dX2_next_137 (by decide) ?_
          have hl9 : lv_has ls 5 [(4, .int (nI (n + 1))), (3, .int (mNb M (mFree M g N) g n)), (2, .int (mFree M g N)), (0, .ref t), (1, .int (nI g))] := lv_sub hl [0, 1, 2, 3, 4] rfl
          rw [show .int (mNb M (mFree M g N) g n) = (Value.int (mNb M (mFree M g N) g (n + 1))) from congrArg _ (((if_neg c63_3).trans ((if_neg c74_4).trans rfl)).symm)] at hl9
          exact K2 H locs ls hP hD hS hl9
    · skip
      refine lv_iload hx hb dX2_next_47 (lv_at hl 0 rfl) ?_
      refine lv_aload_n hx hb dX2_next_49 rfl (lv_at hl 3 rfl) ?_
      refine gt_get hC 0 2 2 2 hinX2 hK hP dX2_next_50 rfl rfl rfl (by decide) rfl rfl ?_
      refine gt_ge_t (tgt := 140) hC N N dX2_next_53 (by decide) rfl hN (Nat.le_refl _) (by omega) ?_
      refine lv_iload_n hx hb dX2_next_140 rfl (lv_at hl 1 rfl) ?_
      exact gt_iret hC hr hlk hK (ws := (mw cI t q M K)) hP hD hS (show some (Value.int (mNb M (mFree M g N) g N)) = _ from (congrArg (fun z => some (Value.int z)) (if_neg c12_1).symm)) rfl dX2_next_141 (Nat.le_of_ble_eq_true rfl) (Nat.le_of_ble_eq_true rfl)
  · skip
    refine lv_aload_n hx hb dX2_next_15 rfl (lv_at hl 1 rfl) ?_
    refine lv_iload_n hx hb dX2_next_16 rfl (lv_at hl 2 rfl) ?_
    refine gt_call0 hC 0 2 1 (ct_X2_firstAt l D cI t q M K g (by omega) N hN hN12) gX2_next_X2_firstAt dX2_next_17 hK hP hD hS hA hl.1 rfl hd_X2_firstAt ⟨Nat.le_of_ble_eq_true rfl, Nat.le_of_ble_eq_true rfl⟩ ⟨Nat.le_of_ble_eq_true rfl, Nat.le_of_ble_eq_true rfl⟩ rfl rfl rfl rfl (Nat.le_of_ble_eq_true rfl) (fun H locs hP hD hS => ?_)
    refine lv_istore_n (lv' := [(3, .int (mFst M g N)), (2, .int (mFree M g N)), (0, .ref t), (1, .int (nI g))]) hx hb dX2_next_20 rfl hl (by decide) rfl (fun ls hl => ?_)
    refine lv_iload_n hx hb dX2_next_21 rfl (lv_at hl 0 rfl) ?_
    refine lv_iconst (v := (-1)) hx hb dX2_next_22 (by decide) ?_
    refine gt_meetH D A s.heap (mw cI t q M K) hP hD hS (rest := []) 41 (mNfR M g N) (fun K9 => ?_) (fun H locs hP hD hS => ?_)
    · skip
      refine lv_icmp_eq (tgt := 36) hx hb dX2_next_23 (by decide) (fun c23_10 : (mFst M g N) = (-1) => ?_) (fun c23_10 : ¬ ((mFst M g N) = (-1)) => ?_)
      · skip
        refine lv_iconst (v := (-1)) hx hb dX2_next_36 (by decide) ?_
        refine lv_goto (tgt := 41) hx hb dX2_next_37 (by decide) ?_
        exact K9 _ H locs hP hD hS (show (-1) = (if (mFst M g N) = (-1) then (-1) else (if (M 2 ((mFst M g N).toNatClampNeg)) ≤ (mFree M g N) then (mFst M g N) else (-1))) from by rw [if_pos c23_10])
      · skip
        refine lv_aload_n hx hb dX2_next_26 rfl (lv_at hl 2 rfl) ?_
        refine lv_iload_n hx hb dX2_next_27 rfl (lv_at hl 0 rfl) ?_
        refine lv_iconst (v := 2) hx hb dX2_next_28 (by decide) ?_
        have hf := ix_of hN12 (mFst_ix N hN12 c23_10)
        refine gt_stk [.int 2, .int (nI ((mFst M g N).toNatClampNeg)), .ref t] (congrArg (fun z : Int32 => ([.int 2, .int z, .ref t] : List Value)) hf.1) ?_
        refine gt_call0 hC 0 2 2 (ct_X2_of l D cI t q M K ((mFst M g N).toNatClampNeg) 2 (by omega) (by decide)) gX2_next_X2_of dX2_next_29 hK hP hD hS hA hl.1 rfl hd_X2_of ⟨Nat.le_of_ble_eq_true rfl, Nat.le_of_ble_eq_true rfl⟩ ⟨Nat.le_of_ble_eq_true rfl, Nat.le_of_ble_eq_true rfl⟩ rfl rfl rfl rfl (Nat.le_of_ble_eq_true rfl) (fun H locs hP hD hS => ?_)
        refine lv_iload_n hx hb dX2_next_32 rfl (lv_at hl 1 rfl) ?_
        refine lv_icmp_le (tgt := 40) hx hb dX2_next_33 (by decide) (fun c33_11 : (M 2 ((mFst M g N).toNatClampNeg)) ≤ (mFree M g N) => ?_) (fun c33_11 : ¬ ((M 2 ((mFst M g N).toNatClampNeg)) ≤ (mFree M g N)) => ?_)
        · skip
          refine lv_iload_n hx hb dX2_next_40 rfl (lv_at hl 0 rfl) ?_
          exact K9 _ H locs hP hD hS (show (mFst M g N) = (if (mFst M g N) = (-1) then (-1) else (if (M 2 ((mFst M g N).toNatClampNeg)) ≤ (mFree M g N) then (mFst M g N) else (-1))) from by rw [if_neg c23_10, if_pos c33_11])
        · skip
          refine lv_iconst (v := (-1)) hx hb dX2_next_36 (by decide) ?_
          refine lv_goto (tgt := 41) hx hb dX2_next_37 (by decide) ?_
          exact K9 _ H locs hP hD hS (show (-1) = (if (mFst M g N) = (-1) then (-1) else (if (M 2 ((mFst M g N).toNatClampNeg)) ≤ (mFree M g N) then (mFst M g N) else (-1))) from by rw [if_neg c23_10, if_neg c33_11])
    · skip
      exact gt_iret hC hr hlk hK (ws := (mw cI t q M K)) hP hD hS (show some (Value.int (mNfR M g N)) = _ from (congrArg (fun z => some (Value.int z)) (if_pos c12_1).symm)) rfl dX2_next_41 (Nat.le_of_ble_eq_true rfl) (Nat.le_of_ble_eq_true rfl)

theorem hd_X2_manyAt : yX2_manyAt.cls = RX2 ∧ yX2_manyAt.cls ≠ "java/lang/invoke/MethodHandle" ∧ yX2_manyAt.cls ≠ "java/lang/invoke/VarHandle" ∧ (parseMethodDescriptor yX2_manyAt.desc).map (fun d => d.parameters.length) = some 1 := by decide +kernel
set_option maxHeartbeats 400000 in
set_option maxRecDepth 100000 in
theorem ct_X2_manyAt (l : Launch) (D : va_G) (cI : ClassId) (t : Nat) (q : Nat → Nat) (M K : SS) (g : Int32) (N : Nat) (hN : M 12 2 = nI N) (hN12 : N ≤ 12) : Ct l D [(cI, .int)] yX2_manyAt wsX2_manyAt 3 66 0 0 [.ref t, .int g] (mw cI t q M K) (some (.int (mMat M g N))) (mw cI t q M K) := by
  refine Ct.ofW (cc := cX2_manyAt) (maxL := 4) (ret := (some .int)) (by decide) rfl (Nat.le_of_ble_eq_true rfl) ?_
  intro p e s m below meth c A ls hC hr hlk _ hP hD hS hK hA hl
  have hx := hC.1
  have hb := hC.2.1
  have hinX2 : ∀ w ∈ wsX20, w ∈ wsX2_manyAt := fun _ _h => List.mem_cons_of_mem _ (List.mem_append_right _ _h)
  have hl : lv_has ls 4 [(0, .ref t), (1, .int g)] := hl
  refine lv_iconst (v := 0) hx hb dX2_manyAt_0 (by decide) ?_
  refine lv_istore_n (lv' := [(2, .int 0), (0, .ref t), (1, .int g)]) hx hb dX2_manyAt_1 rfl hl (by decide) rfl (fun ls hl => ?_)
  refine lv_iconst (v := 0) hx hb dX2_manyAt_2 (by decide) ?_
  refine lv_istore_n (lv' := [(3, .int 0), (2, .int 0), (0, .ref t), (1, .int g)]) hx hb dX2_manyAt_3 rfl hl (by decide) rfl (fun ls hl => ?_)
  refine gt_loop D A s.heap 4 N (fun n => [(3, .int (nI n)), (2, .int (mMat M g n)), (0, .ref t), (1, .int g)]) (fun n => (mw cI t q M K)) (lv_sub hl [0, 1, 2, 3] rfl) hP hD hS (fun n hi_n H locs ls hP hD hS hl K1 => ?_) (fun H locs ls hP hD hS hl => ?_)
  · skip
    refine lv_iload_n hx hb dX2_manyAt_4 rfl (lv_at hl 0 rfl) ?_
    refine lv_aload_n hx hb dX2_manyAt_5 rfl (lv_at hl 2 rfl) ?_
    refine gt_get hC 0 2 2 1 hinX2 hK hP dX2_manyAt_6 rfl rfl rfl (by decide) rfl rfl ?_
    refine gt_ge_f (tgt := 35) hC n N dX2_manyAt_9 (by decide) rfl hN hi_n (by omega) ?_
    refine lv_iload_n hx hb dX2_manyAt_12 rfl (lv_at hl 1 rfl) ?_
    refine lv_aload_n hx hb dX2_manyAt_13 rfl (lv_at hl 2 rfl) ?_
    refine lv_iload_n hx hb dX2_manyAt_14 rfl (lv_at hl 0 rfl) ?_
    refine lv_iload_n hx hb dX2_manyAt_15 rfl (lv_at hl 3 rfl) ?_
    refine gt_call0 hC 0 2 2 (ct_X2_isAt l D cI t q M K n g (by omega)) gX2_manyAt_X2_isAt dX2_manyAt_16 hK hP hD hS hA hl.1 rfl hd_X2_isAt ⟨Nat.le_of_ble_eq_true rfl, Nat.le_of_ble_eq_true rfl⟩ ⟨Nat.le_of_ble_eq_true rfl, Nat.le_of_ble_eq_true rfl⟩ rfl rfl rfl rfl (Nat.le_of_ble_eq_true rfl) (fun H locs hP hD hS => ?_)
    refine gt_meet (rest := [.int (mMat M g n)]) 27 (if (mAt M n g) = 0 then 0 else 1) (fun K2 => ?_) ?_
    · skip
      refine lv_if_eq (tgt := 26) hx hb dX2_manyAt_19 (by decide) (fun c19_3 : (mAt M n g) = 0 => ?_) (fun c19_3 : ¬ ((mAt M n g) = 0) => ?_)
      · skip
        refine lv_iconst (v := 0) hx hb dX2_manyAt_26 (by decide) ?_
        exact K2 _ (show 0 = (if (mAt M n g) = 0 then 0 else 1) from by rw [if_pos c19_3])
      · skip
        refine lv_iconst (v := 1) hx hb dX2_manyAt_22 (by decide) ?_
        refine lv_goto (tgt := 27) hx hb dX2_manyAt_23 (by decide) ?_
        exact K2 _ (show 1 = (if (mAt M n g) = 0 then 0 else 1) from by rw [if_neg c19_3])
    · skip
      refine lv_iadd hx hb dX2_manyAt_27 ?_
      refine lv_istore_n (lv' := [(2, .int ((mMat M g n) + (if (mAt M n g) = 0 then 0 else 1))), (3, .int (nI n)), (0, .ref t), (1, .int g)]) hx hb dX2_manyAt_28 rfl hl (by decide) rfl (fun ls hl => ?_)
      refine gt_inc (lv' := [(3, .int (nI (n + 1))), (2, .int ((mMat M g n) + (if (mAt M n g) = 0 then 0 else 1))), (0, .ref t), (1, .int g)]) hC 1 n dX2_manyAt_29 hl rfl rfl (by decide) rfl (fun ls hl => ?_)
      refine lv_goto (tgt := 4) hx hb dX2_manyAt_32 (by decide) ?_
      have hl9 : lv_has ls 4 [(3, .int (nI (n + 1))), (2, .int ((mMat M g n) + (if (mAt M n g) = 0 then 0 else 1))), (0, .ref t), (1, .int g)] := lv_sub hl [0, 1, 2, 3] rfl
      rw [show .int ((mMat M g n) + (if (mAt M n g) = 0 then 0 else 1)) = (Value.int (mMat M g (n + 1))) from congrArg _ (rfl)] at hl9
      exact K1 H locs ls hP hD hS hl9
  · skip
    refine lv_iload_n hx hb dX2_manyAt_4 rfl (lv_at hl 0 rfl) ?_
    refine lv_aload_n hx hb dX2_manyAt_5 rfl (lv_at hl 2 rfl) ?_
    refine gt_get hC 0 2 2 1 hinX2 hK hP dX2_manyAt_6 rfl rfl rfl (by decide) rfl rfl ?_
    refine gt_ge_t (tgt := 35) hC N N dX2_manyAt_9 (by decide) rfl hN (Nat.le_refl _) (by omega) ?_
    refine lv_iload_n hx hb dX2_manyAt_35 rfl (lv_at hl 1 rfl) ?_
    exact gt_iret hC hr hlk hK (ws := (mw cI t q M K)) hP hD hS (show some (Value.int (mMat M g N)) = _ from rfl) rfl dX2_manyAt_36 (Nat.le_of_ble_eq_true rfl) (Nat.le_of_ble_eq_true rfl)

theorem hd_X2_many : yX2_many.cls = RX2 ∧ yX2_many.cls ≠ "java/lang/invoke/MethodHandle" ∧ yX2_many.cls ≠ "java/lang/invoke/VarHandle" ∧ (parseMethodDescriptor yX2_many.desc).map (fun d => d.parameters.length) = some 1 := by decide +kernel
set_option maxHeartbeats 400000 in
set_option maxRecDepth 100000 in
theorem ct_X2_many (l : Launch) (D : va_G) (cI : ClassId) (t : Nat) (q : Nat → Nat) (M K : SS) (w : Int32) (N : Nat) (hN : M 12 2 = nI N) (hN12 : N ≤ 12) : Ct l D [(cI, .int)] yX2_many wsX2_many 2 44 0 0 [.ref t, .int w] (mw cI t q M K) (some (.int (mMany M w N))) (mw cI t q M K) := by
  refine Ct.ofW (cc := cX2_many) (maxL := 4) (ret := (some .int)) (by decide) rfl (Nat.le_of_ble_eq_true rfl) ?_
  intro p e s m below meth c A ls hC hr hlk _ hP hD hS hK hA hl
  have hx := hC.1
  have hb := hC.2.1
  have hinX2 : ∀ w ∈ wsX20, w ∈ wsX2_many := fun _ _h => List.mem_cons_of_mem _ (List.mem_append_right _ _h)
  have hl : lv_has ls 4 [(0, .ref t), (1, .int w)] := hl
  refine lv_iconst (v := 0) hx hb dX2_many_0 (by decide) ?_
  refine lv_istore_n (lv' := [(2, .int 0), (0, .ref t), (1, .int w)]) hx hb dX2_many_1 rfl hl (by decide) rfl (fun ls hl => ?_)
  refine lv_iconst (v := 0) hx hb dX2_many_2 (by decide) ?_
  refine lv_istore_n (lv' := [(3, .int 0), (2, .int 0), (0, .ref t), (1, .int w)]) hx hb dX2_many_3 rfl hl (by decide) rfl (fun ls hl => ?_)
  refine gt_loop D A s.heap 4 N (fun n => [(3, .int (nI n)), (2, .int (mMany M w n)), (0, .ref t), (1, .int w)]) (fun n => (mw cI t q M K)) (lv_sub hl [0, 1, 2, 3] rfl) hP hD hS (fun n hi_n H locs ls hP hD hS hl K1 => ?_) (fun H locs ls hP hD hS hl => ?_)
  · skip
    refine lv_iload_n hx hb dX2_many_4 rfl (lv_at hl 0 rfl) ?_
    refine lv_aload_n hx hb dX2_many_5 rfl (lv_at hl 2 rfl) ?_
    refine gt_get hC 0 2 2 1 hinX2 hK hP dX2_many_6 rfl rfl rfl (by decide) rfl rfl ?_
    refine gt_ge_f (tgt := 35) hC n N dX2_many_9 (by decide) rfl hN hi_n (by omega) ?_
    refine lv_iload_n hx hb dX2_many_12 rfl (lv_at hl 1 rfl) ?_
    refine lv_aload_n hx hb dX2_many_13 rfl (lv_at hl 2 rfl) ?_
    refine lv_iload_n hx hb dX2_many_14 rfl (lv_at hl 0 rfl) ?_
    refine lv_iload_n hx hb dX2_many_15 rfl (lv_at hl 3 rfl) ?_
    refine gt_call0 hC 0 2 2 (ct_X2_is l D cI t q M K n w (by omega)) gX2_many_X2_is dX2_many_16 hK hP hD hS hA hl.1 rfl hd_X2_is ⟨Nat.le_of_ble_eq_true rfl, Nat.le_of_ble_eq_true rfl⟩ ⟨Nat.le_of_ble_eq_true rfl, Nat.le_of_ble_eq_true rfl⟩ rfl rfl rfl rfl (Nat.le_of_ble_eq_true rfl) (fun H locs hP hD hS => ?_)
    refine gt_meet (rest := [.int (mMany M w n)]) 27 (if (mIs M n w) = 0 then 0 else 1) (fun K2 => ?_) ?_
    · skip
      refine lv_if_eq (tgt := 26) hx hb dX2_many_19 (by decide) (fun c19_3 : (mIs M n w) = 0 => ?_) (fun c19_3 : ¬ ((mIs M n w) = 0) => ?_)
      · skip
        refine lv_iconst (v := 0) hx hb dX2_many_26 (by decide) ?_
        exact K2 _ (show 0 = (if (mIs M n w) = 0 then 0 else 1) from by rw [if_pos c19_3])
      · skip
        refine lv_iconst (v := 1) hx hb dX2_many_22 (by decide) ?_
        refine lv_goto (tgt := 27) hx hb dX2_many_23 (by decide) ?_
        exact K2 _ (show 1 = (if (mIs M n w) = 0 then 0 else 1) from by rw [if_neg c19_3])
    · skip
      refine lv_iadd hx hb dX2_many_27 ?_
      refine lv_istore_n (lv' := [(2, .int ((mMany M w n) + (if (mIs M n w) = 0 then 0 else 1))), (3, .int (nI n)), (0, .ref t), (1, .int w)]) hx hb dX2_many_28 rfl hl (by decide) rfl (fun ls hl => ?_)
      refine gt_inc (lv' := [(3, .int (nI (n + 1))), (2, .int ((mMany M w n) + (if (mIs M n w) = 0 then 0 else 1))), (0, .ref t), (1, .int w)]) hC 1 n dX2_many_29 hl rfl rfl (by decide) rfl (fun ls hl => ?_)
      refine lv_goto (tgt := 4) hx hb dX2_many_32 (by decide) ?_
      have hl9 : lv_has ls 4 [(3, .int (nI (n + 1))), (2, .int ((mMany M w n) + (if (mIs M n w) = 0 then 0 else 1))), (0, .ref t), (1, .int w)] := lv_sub hl [0, 1, 2, 3] rfl
      rw [show .int ((mMany M w n) + (if (mIs M n w) = 0 then 0 else 1)) = (Value.int (mMany M w (n + 1))) from congrArg _ (rfl)] at hl9
      exact K1 H locs ls hP hD hS hl9
  · skip
    refine lv_iload_n hx hb dX2_many_4 rfl (lv_at hl 0 rfl) ?_
    refine lv_aload_n hx hb dX2_many_5 rfl (lv_at hl 2 rfl) ?_
    refine gt_get hC 0 2 2 1 hinX2 hK hP dX2_many_6 rfl rfl rfl (by decide) rfl rfl ?_
    refine gt_ge_t (tgt := 35) hC N N dX2_many_9 (by decide) rfl hN (Nat.le_refl _) (by omega) ?_
    refine lv_iload_n hx hb dX2_many_35 rfl (lv_at hl 1 rfl) ?_
    exact gt_iret hC hr hlk hK (ws := (mw cI t q M K)) hP hD hS (show some (Value.int (mMany M w N)) = _ from rfl) rfl dX2_many_36 (Nat.le_of_ble_eq_true rfl) (Nat.le_of_ble_eq_true rfl)

theorem hd_X2_starved : yX2_starved.cls = RX2 ∧ yX2_starved.cls ≠ "java/lang/invoke/MethodHandle" ∧ yX2_starved.cls ≠ "java/lang/invoke/VarHandle" ∧ (parseMethodDescriptor yX2_starved.desc).map (fun d => d.parameters.length) = some 0 := by decide +kernel
set_option maxHeartbeats 400000 in
set_option maxRecDepth 100000 in
theorem ct_X2_starved (l : Launch) (D : va_G) (cI : ClassId) (t : Nat) (q : Nat → Nat) (M K : SS) (N : Nat) (hN : M 12 2 = nI N) (hN12 : N ≤ 12) : Ct l D [(cI, .int)] yX2_starved wsX2_starved 2 44 0 0 [.ref t] (mw cI t q M K) (some (.int (mStv M N))) (mw cI t q M K) := by
  refine Ct.ofW (cc := cX2_starved) (maxL := 3) (ret := (some .int)) (by decide) rfl (Nat.le_of_ble_eq_true rfl) ?_
  intro p e s m below meth c A ls hC hr hlk _ hP hD hS hK hA hl
  have hx := hC.1
  have hb := hC.2.1
  have hinX2 : ∀ w ∈ wsX20, w ∈ wsX2_starved := fun _ _h => List.mem_cons_of_mem _ (List.mem_append_right _ _h)
  have hl : lv_has ls 3 [(0, .ref t)] := hl
  refine lv_iconst (v := 0) hx hb dX2_starved_0 (by decide) ?_
  refine lv_istore_n (lv' := [(1, .int 0), (0, .ref t)]) hx hb dX2_starved_1 rfl hl (by decide) rfl (fun ls hl => ?_)
  refine lv_iconst (v := 0) hx hb dX2_starved_2 (by decide) ?_
  refine lv_istore_n (lv' := [(2, .int 0), (1, .int 0), (0, .ref t)]) hx hb dX2_starved_3 rfl hl (by decide) rfl (fun ls hl => ?_)
  refine gt_loop D A s.heap 3 N (fun n => [(2, .int (nI n)), (1, .int (mStv M n)), (0, .ref t)]) (fun n => (mw cI t q M K)) (lv_sub hl [0, 1, 2] rfl) hP hD hS (fun n hi_n H locs ls hP hD hS hl K1 => ?_) (fun H locs ls hP hD hS hl => ?_)
  · skip
    refine lv_iload_n hx hb dX2_starved_4 rfl (lv_at hl 0 rfl) ?_
    refine lv_aload_n hx hb dX2_starved_5 rfl (lv_at hl 2 rfl) ?_
    refine gt_get hC 0 2 2 1 hinX2 hK hP dX2_starved_6 rfl rfl rfl (by decide) rfl rfl ?_
    refine gt_ge_f (tgt := 46) hC n N dX2_starved_9 (by decide) rfl hN hi_n (by omega) ?_
    refine lv_iload_n hx hb dX2_starved_12 rfl (lv_at hl 1 rfl) ?_
    refine lv_aload_n hx hb dX2_starved_13 rfl (lv_at hl 2 rfl) ?_
    refine lv_iload_n hx hb dX2_starved_14 rfl (lv_at hl 0 rfl) ?_
    refine lv_iconst (v := 1) hx hb dX2_starved_15 (by decide) ?_
    refine gt_call0 hC 0 2 2 (ct_X2_is l D cI t q M K n 1 (by omega)) gX2_starved_X2_is dX2_starved_16 hK hP hD hS hA hl.1 rfl hd_X2_is ⟨Nat.le_of_ble_eq_true rfl, Nat.le_of_ble_eq_true rfl⟩ ⟨Nat.le_of_ble_eq_true rfl, Nat.le_of_ble_eq_true rfl⟩ rfl rfl rfl rfl (Nat.le_of_ble_eq_true rfl) (fun H locs hP hD hS => ?_)
    refine gt_meetH D A s.heap (mw cI t q M K) hP hD hS (rest := [.int (mStv M n)]) 38 (if (mIs M n 1) = 0 then 0 else (if (M 5 n) ≤ 7 then 0 else 1)) (fun K2 => ?_) (fun H locs hP hD hS => ?_)
    · skip
      refine lv_if_eq (tgt := 37) hx hb dX2_starved_19 (by decide) (fun c19_3 : (mIs M n 1) = 0 => ?_) (fun c19_3 : ¬ ((mIs M n 1) = 0) => ?_)
      · skip
        refine lv_iconst (v := 0) hx hb dX2_starved_37 (by decide) ?_
        exact K2 _ H locs hP hD hS (show 0 = (if (mIs M n 1) = 0 then 0 else (if (M 5 n) ≤ 7 then 0 else 1)) from by rw [if_pos c19_3])
      · skip
        refine lv_aload_n hx hb dX2_starved_22 rfl (lv_at hl 2 rfl) ?_
        refine lv_iload_n hx hb dX2_starved_23 rfl (lv_at hl 0 rfl) ?_
        refine lv_iconst (v := 5) hx hb dX2_starved_24 (by decide) ?_
        refine gt_call0 hC 0 2 2 (ct_X2_of l D cI t q M K n 5 (by omega) (by decide)) gX2_starved_X2_of dX2_starved_25 hK hP hD hS hA hl.1 rfl hd_X2_of ⟨Nat.le_of_ble_eq_true rfl, Nat.le_of_ble_eq_true rfl⟩ ⟨Nat.le_of_ble_eq_true rfl, Nat.le_of_ble_eq_true rfl⟩ rfl rfl rfl rfl (Nat.le_of_ble_eq_true rfl) (fun H locs hP hD hS => ?_)
        refine lv_bipush (v := 7) hx hb dX2_starved_28 (by decide) ?_
        refine lv_icmp_le (tgt := 37) hx hb dX2_starved_30 (by decide) (fun c30_4 : (M 5 n) ≤ 7 => ?_) (fun c30_4 : ¬ ((M 5 n) ≤ 7) => ?_)
        · skip
          refine lv_iconst (v := 0) hx hb dX2_starved_37 (by decide) ?_
          exact K2 _ H locs hP hD hS (show 0 = (if (mIs M n 1) = 0 then 0 else (if (M 5 n) ≤ 7 then 0 else 1)) from by rw [if_neg c19_3, if_pos c30_4])
        · skip
          refine lv_iconst (v := 1) hx hb dX2_starved_33 (by decide) ?_
          refine lv_goto (tgt := 38) hx hb dX2_starved_34 (by decide) ?_
          exact K2 _ H locs hP hD hS (show 1 = (if (mIs M n 1) = 0 then 0 else (if (M 5 n) ≤ 7 then 0 else 1)) from by rw [if_neg c19_3, if_neg c30_4])
    · skip
      refine lv_iadd hx hb dX2_starved_38 ?_
      refine lv_istore_n (lv' := [(1, .int ((mStv M n) + (if (mIs M n 1) = 0 then 0 else (if (M 5 n) ≤ 7 then 0 else 1)))), (2, .int (nI n)), (0, .ref t)]) hx hb dX2_starved_39 rfl hl (by decide) rfl (fun ls hl => ?_)
      refine gt_inc (lv' := [(2, .int (nI (n + 1))), (1, .int ((mStv M n) + (if (mIs M n 1) = 0 then 0 else (if (M 5 n) ≤ 7 then 0 else 1)))), (0, .ref t)]) hC 1 n dX2_starved_40 hl rfl rfl (by decide) rfl (fun ls hl => ?_)
      refine lv_goto (tgt := 4) hx hb dX2_starved_43 (by decide) ?_
      have hl9 : lv_has ls 3 [(2, .int (nI (n + 1))), (1, .int ((mStv M n) + (if (mIs M n 1) = 0 then 0 else (if (M 5 n) ≤ 7 then 0 else 1)))), (0, .ref t)] := lv_sub hl [0, 1, 2] rfl
      rw [show .int ((mStv M n) + (if (mIs M n 1) = 0 then 0 else (if (M 5 n) ≤ 7 then 0 else 1))) = (Value.int (mStv M (n + 1))) from congrArg _ (rfl)] at hl9
      exact K1 H locs ls hP hD hS hl9
  · skip
    refine lv_iload_n hx hb dX2_starved_4 rfl (lv_at hl 0 rfl) ?_
    refine lv_aload_n hx hb dX2_starved_5 rfl (lv_at hl 2 rfl) ?_
    refine gt_get hC 0 2 2 1 hinX2 hK hP dX2_starved_6 rfl rfl rfl (by decide) rfl rfl ?_
    refine gt_ge_t (tgt := 46) hC N N dX2_starved_9 (by decide) rfl hN (Nat.le_refl _) (by omega) ?_
    refine lv_iload_n hx hb dX2_starved_46 rfl (lv_at hl 1 rfl) ?_
    exact gt_iret hC hr hlk hK (ws := (mw cI t q M K)) hP hD hS (show some (Value.int (mStv M N)) = _ from rfl) rfl dX2_starved_47 (Nat.le_of_ble_eq_true rfl) (Nat.le_of_ble_eq_true rfl)

theorem hd_X2_held : yX2_held.cls = RX2 ∧ yX2_held.cls ≠ "java/lang/invoke/MethodHandle" ∧ yX2_held.cls ≠ "java/lang/invoke/VarHandle" ∧ (parseMethodDescriptor yX2_held.desc).map (fun d => d.parameters.length) = some 1 := by decide +kernel
set_option maxHeartbeats 400000 in
set_option maxRecDepth 100000 in
theorem ct_X2_held (l : Launch) (D : va_G) (cI : ClassId) (t : Nat) (q : Nat → Nat) (M K : SS) (k : Nat) (hk : k < 12) : Ct l D [(cI, .int)] yX2_held wsX2_held 2 44 0 0 [.ref t, .int (nI k)] (mw cI t q M K) (some (.int (mHeld M k))) (mw cI t q M K) := by
  refine Ct.ofW (cc := cX2_held) (maxL := 2) (ret := (some .int)) (by decide) rfl (Nat.le_of_ble_eq_true rfl) ?_
  intro p e s m below meth c A ls hC hr hlk _ hP hD hS hK hA hl
  have hx := hC.1
  have hb := hC.2.1
  have hinX2 : ∀ w ∈ wsX20, w ∈ wsX2_held := fun _ _h => List.mem_cons_of_mem _ (List.mem_append_right _ _h)
  have hl : lv_has ls 2 [(0, .ref t), (1, .int (nI k))] := hl
  refine lv_aload_n hx hb dX2_held_0 rfl (lv_at hl 0 rfl) ?_
  refine lv_iload_n hx hb dX2_held_1 rfl (lv_at hl 1 rfl) ?_
  refine lv_iconst (v := 2) hx hb dX2_held_2 (by decide) ?_
  refine gt_call0 hC 0 2 2 (ct_X2_is l D cI t q M K k 2 (by omega)) gX2_held_X2_is dX2_held_3 hK hP hD hS hA hl.1 rfl hd_X2_is ⟨Nat.le_of_ble_eq_true rfl, Nat.le_of_ble_eq_true rfl⟩ ⟨Nat.le_of_ble_eq_true rfl, Nat.le_of_ble_eq_true rfl⟩ rfl rfl rfl rfl (Nat.le_of_ble_eq_true rfl) (fun H locs hP hD hS => ?_)
  refine gt_meetH D A s.heap (mw cI t q M K) hP hD hS (rest := []) 19 (if (mIs M k 2) = 0 then 0 else (M 2 k)) (fun K1 => ?_) (fun H locs hP hD hS => ?_)
  · skip
    refine lv_if_eq (tgt := 18) hx hb dX2_held_6 (by decide) (fun c6_2 : (mIs M k 2) = 0 => ?_) (fun c6_2 : ¬ ((mIs M k 2) = 0) => ?_)
    · skip
      refine lv_iconst (v := 0) hx hb dX2_held_18 (by decide) ?_
      exact K1 _ H locs hP hD hS (show 0 = (if (mIs M k 2) = 0 then 0 else (M 2 k)) from by rw [if_pos c6_2])
    · skip
      refine lv_aload_n hx hb dX2_held_9 rfl (lv_at hl 0 rfl) ?_
      refine lv_iload_n hx hb dX2_held_10 rfl (lv_at hl 1 rfl) ?_
      refine lv_iconst (v := 2) hx hb dX2_held_11 (by decide) ?_
      refine gt_call0 hC 0 2 2 (ct_X2_of l D cI t q M K k 2 (by omega) (by decide)) gX2_held_X2_of dX2_held_12 hK hP hD hS hA hl.1 rfl hd_X2_of ⟨Nat.le_of_ble_eq_true rfl, Nat.le_of_ble_eq_true rfl⟩ ⟨Nat.le_of_ble_eq_true rfl, Nat.le_of_ble_eq_true rfl⟩ rfl rfl rfl rfl (Nat.le_of_ble_eq_true rfl) (fun H locs hP hD hS => ?_)
      refine lv_goto (tgt := 19) hx hb dX2_held_15 (by decide) ?_
      exact K1 _ H locs hP hD hS (show (M 2 k) = (if (mIs M k 2) = 0 then 0 else (M 2 k)) from by rw [if_neg c6_2])
  · skip
    exact gt_iret hC hr hlk hK (ws := (mw cI t q M K)) hP hD hS (show some (Value.int (if (mIs M k 2) = 0 then 0 else (M 2 k))) = _ from rfl) rfl dX2_held_19 (Nat.le_of_ble_eq_true rfl) (Nat.le_of_ble_eq_true rfl)

theorem hd_X2_where : yX2_where.cls = RX2 ∧ yX2_where.cls ≠ "java/lang/invoke/MethodHandle" ∧ yX2_where.cls ≠ "java/lang/invoke/VarHandle" ∧ (parseMethodDescriptor yX2_where.desc).map (fun d => d.parameters.length) = some 1 := by decide +kernel
set_option maxHeartbeats 400000 in
set_option maxRecDepth 100000 in
theorem ct_X2_where (l : Launch) (D : va_G) (cI : ClassId) (t : Nat) (q : Nat → Nat) (M K : SS) (k : Nat) (hk : k < 12) : Ct l D [(cI, .int)] yX2_where wsX2_where 2 44 0 0 [.ref t, .int (nI k)] (mw cI t q M K) (some (.int (mWhere M k))) (mw cI t q M K) := by
  refine Ct.ofW (cc := cX2_where) (maxL := 2) (ret := (some .int)) (by decide) rfl (Nat.le_of_ble_eq_true rfl) ?_
  intro p e s m below meth c A ls hC hr hlk _ hP hD hS hK hA hl
  have hx := hC.1
  have hb := hC.2.1
  have hinX2 : ∀ w ∈ wsX20, w ∈ wsX2_where := fun _ _h => List.mem_cons_of_mem _ (List.mem_append_right _ _h)
  have hl : lv_has ls 2 [(0, .ref t), (1, .int (nI k))] := hl
  refine lv_aload_n hx hb dX2_where_0 rfl (lv_at hl 0 rfl) ?_
  refine lv_iload_n hx hb dX2_where_1 rfl (lv_at hl 1 rfl) ?_
  refine lv_iconst (v := 0) hx hb dX2_where_2 (by decide) ?_
  refine gt_call0 hC 0 2 2 (ct_X2_is l D cI t q M K k 0 (by omega)) gX2_where_X2_is dX2_where_3 hK hP hD hS hA hl.1 rfl hd_X2_is ⟨Nat.le_of_ble_eq_true rfl, Nat.le_of_ble_eq_true rfl⟩ ⟨Nat.le_of_ble_eq_true rfl, Nat.le_of_ble_eq_true rfl⟩ rfl rfl rfl rfl (Nat.le_of_ble_eq_true rfl) (fun H locs hP hD hS => ?_)
  refine gt_meetH D A s.heap (mw cI t q M K) hP hD hS (rest := []) 19 (if (mIs M k 0) = 0 then (M 1 k) else (-1)) (fun K1 => ?_) (fun H locs hP hD hS => ?_)
  · skip
    refine lv_if_eq (tgt := 13) hx hb dX2_where_6 (by decide) (fun c6_2 : (mIs M k 0) = 0 => ?_) (fun c6_2 : ¬ ((mIs M k 0) = 0) => ?_)
    · skip
      refine lv_aload_n hx hb dX2_where_13 rfl (lv_at hl 0 rfl) ?_
      refine lv_iload_n hx hb dX2_where_14 rfl (lv_at hl 1 rfl) ?_
      refine lv_iconst (v := 1) hx hb dX2_where_15 (by decide) ?_
      refine gt_call0 hC 0 2 2 (ct_X2_of l D cI t q M K k 1 (by omega) (by decide)) gX2_where_X2_of dX2_where_16 hK hP hD hS hA hl.1 rfl hd_X2_of ⟨Nat.le_of_ble_eq_true rfl, Nat.le_of_ble_eq_true rfl⟩ ⟨Nat.le_of_ble_eq_true rfl, Nat.le_of_ble_eq_true rfl⟩ rfl rfl rfl rfl (Nat.le_of_ble_eq_true rfl) (fun H locs hP hD hS => ?_)
      exact K1 _ H locs hP hD hS (show (M 1 k) = (if (mIs M k 0) = 0 then (M 1 k) else (-1)) from by rw [if_pos c6_2])
    · skip
      refine lv_iconst (v := (-1)) hx hb dX2_where_9 (by decide) ?_
      refine lv_goto (tgt := 19) hx hb dX2_where_10 (by decide) ?_
      exact K1 _ H locs hP hD hS (show (-1) = (if (mIs M k 0) = 0 then (M 1 k) else (-1)) from by rw [if_neg c6_2])
  · skip
    exact gt_iret hC hr hlk hK (ws := (mw cI t q M K)) hP hD hS (show some (Value.int (if (mIs M k 0) = 0 then (M 1 k) else (-1))) = _ from rfl) rfl dX2_where_19 (Nat.le_of_ble_eq_true rfl) (Nat.le_of_ble_eq_true rfl)

theorem hd_X2_left : yX2_left.cls = RX2 ∧ yX2_left.cls ≠ "java/lang/invoke/MethodHandle" ∧ yX2_left.cls ≠ "java/lang/invoke/VarHandle" ∧ (parseMethodDescriptor yX2_left.desc).map (fun d => d.parameters.length) = some 1 := by decide +kernel
set_option maxHeartbeats 400000 in
set_option maxRecDepth 100000 in
theorem ct_X2_left (l : Launch) (D : va_G) (cI : ClassId) (t : Nat) (q : Nat → Nat) (M K : SS) (k : Nat) (hk : k < 12) : Ct l D [(cI, .int)] yX2_left wsX2_left 2 44 0 0 [.ref t, .int (nI k)] (mw cI t q M K) (some (.int (mLeft M k))) (mw cI t q M K) := by
  refine Ct.ofW (cc := cX2_left) (maxL := 2) (ret := (some .int)) (by decide) rfl (Nat.le_of_ble_eq_true rfl) ?_
  intro p e s m below meth c A ls hC hr hlk _ hP hD hS hK hA hl
  have hx := hC.1
  have hb := hC.2.1
  have hinX2 : ∀ w ∈ wsX20, w ∈ wsX2_left := fun _ _h => List.mem_cons_of_mem _ (List.mem_append_right _ _h)
  have hl : lv_has ls 2 [(0, .ref t), (1, .int (nI k))] := hl
  refine lv_aload_n hx hb dX2_left_0 rfl (lv_at hl 0 rfl) ?_
  refine lv_iload_n hx hb dX2_left_1 rfl (lv_at hl 1 rfl) ?_
  refine lv_iconst (v := 1) hx hb dX2_left_2 (by decide) ?_
  refine gt_call0 hC 0 2 2 (ct_X2_is l D cI t q M K k 1 (by omega)) gX2_left_X2_is dX2_left_3 hK hP hD hS hA hl.1 rfl hd_X2_is ⟨Nat.le_of_ble_eq_true rfl, Nat.le_of_ble_eq_true rfl⟩ ⟨Nat.le_of_ble_eq_true rfl, Nat.le_of_ble_eq_true rfl⟩ rfl rfl rfl rfl (Nat.le_of_ble_eq_true rfl) (fun H locs hP hD hS => ?_)
  refine gt_meetH D A s.heap (mw cI t q M K) hP hD hS (rest := []) 44 (if (mIs M k 1) = 0 then (if (mIs M k 2) = 0 then 0 else (M 3 k)) else ((M 4 k) - (M 5 k))) (fun K1 => ?_) (fun H locs hP hD hS => ?_)
  · skip
    refine lv_if_eq (tgt := 25) hx hb dX2_left_6 (by decide) (fun c6_2 : (mIs M k 1) = 0 => ?_) (fun c6_2 : ¬ ((mIs M k 1) = 0) => ?_)
    · skip
      refine lv_aload_n hx hb dX2_left_25 rfl (lv_at hl 0 rfl) ?_
      refine lv_iload_n hx hb dX2_left_26 rfl (lv_at hl 1 rfl) ?_
      refine lv_iconst (v := 2) hx hb dX2_left_27 (by decide) ?_
      refine gt_call0 hC 0 2 2 (ct_X2_is l D cI t q M K k 2 (by omega)) gX2_left_X2_is dX2_left_28 hK hP hD hS hA hl.1 rfl hd_X2_is ⟨Nat.le_of_ble_eq_true rfl, Nat.le_of_ble_eq_true rfl⟩ ⟨Nat.le_of_ble_eq_true rfl, Nat.le_of_ble_eq_true rfl⟩ rfl rfl rfl rfl (Nat.le_of_ble_eq_true rfl) (fun H locs hP hD hS => ?_)
      refine lv_if_eq (tgt := 43) hx hb dX2_left_31 (by decide) (fun c31_3 : (mIs M k 2) = 0 => ?_) (fun c31_3 : ¬ ((mIs M k 2) = 0) => ?_)
      · skip
        refine lv_iconst (v := 0) hx hb dX2_left_43 (by decide) ?_
        exact K1 _ H locs hP hD hS (show 0 = (if (mIs M k 1) = 0 then (if (mIs M k 2) = 0 then 0 else (M 3 k)) else ((M 4 k) - (M 5 k))) from by rw [if_pos c6_2, if_pos c31_3])
      · skip
        refine lv_aload_n hx hb dX2_left_34 rfl (lv_at hl 0 rfl) ?_
        refine lv_iload_n hx hb dX2_left_35 rfl (lv_at hl 1 rfl) ?_
        refine lv_iconst (v := 3) hx hb dX2_left_36 (by decide) ?_
        refine gt_call0 hC 0 2 2 (ct_X2_of l D cI t q M K k 3 (by omega) (by decide)) gX2_left_X2_of dX2_left_37 hK hP hD hS hA hl.1 rfl hd_X2_of ⟨Nat.le_of_ble_eq_true rfl, Nat.le_of_ble_eq_true rfl⟩ ⟨Nat.le_of_ble_eq_true rfl, Nat.le_of_ble_eq_true rfl⟩ rfl rfl rfl rfl (Nat.le_of_ble_eq_true rfl) (fun H locs hP hD hS => ?_)
        refine lv_goto (tgt := 44) hx hb dX2_left_40 (by decide) ?_
        exact K1 _ H locs hP hD hS (show (M 3 k) = (if (mIs M k 1) = 0 then (if (mIs M k 2) = 0 then 0 else (M 3 k)) else ((M 4 k) - (M 5 k))) from by rw [if_pos c6_2, if_neg c31_3])
    · skip
      refine lv_aload_n hx hb dX2_left_9 rfl (lv_at hl 0 rfl) ?_
      refine lv_iload_n hx hb dX2_left_10 rfl (lv_at hl 1 rfl) ?_
      refine lv_iconst (v := 4) hx hb dX2_left_11 (by decide) ?_
      refine gt_call0 hC 0 2 2 (ct_X2_of l D cI t q M K k 4 (by omega) (by decide)) gX2_left_X2_of dX2_left_12 hK hP hD hS hA hl.1 rfl hd_X2_of ⟨Nat.le_of_ble_eq_true rfl, Nat.le_of_ble_eq_true rfl⟩ ⟨Nat.le_of_ble_eq_true rfl, Nat.le_of_ble_eq_true rfl⟩ rfl rfl rfl rfl (Nat.le_of_ble_eq_true rfl) (fun H locs hP hD hS => ?_)
      refine lv_aload_n hx hb dX2_left_15 rfl (lv_at hl 0 rfl) ?_
      refine lv_iload_n hx hb dX2_left_16 rfl (lv_at hl 1 rfl) ?_
      refine lv_iconst (v := 5) hx hb dX2_left_17 (by decide) ?_
      refine gt_call0 hC 0 2 2 (ct_X2_of l D cI t q M K k 5 (by omega) (by decide)) gX2_left_X2_of dX2_left_18 hK hP hD hS hA hl.1 rfl hd_X2_of ⟨Nat.le_of_ble_eq_true rfl, Nat.le_of_ble_eq_true rfl⟩ ⟨Nat.le_of_ble_eq_true rfl, Nat.le_of_ble_eq_true rfl⟩ rfl rfl rfl rfl (Nat.le_of_ble_eq_true rfl) (fun H locs hP hD hS => ?_)
      refine lv_isub hx hb dX2_left_21 ?_
      refine lv_goto (tgt := 44) hx hb dX2_left_22 (by decide) ?_
      exact K1 _ H locs hP hD hS (show ((M 4 k) - (M 5 k)) = (if (mIs M k 1) = 0 then (if (mIs M k 2) = 0 then 0 else (M 3 k)) else ((M 4 k) - (M 5 k))) from by rw [if_neg c6_2])
  · skip
    exact gt_iret hC hr hlk hK (ws := (mw cI t q M K)) hP hD hS (show some (Value.int (if (mIs M k 1) = 0 then (if (mIs M k 2) = 0 then 0 else (M 3 k)) else ((M 4 k) - (M 5 k)))) = _ from rfl) rfl dX2_left_44 (Nat.le_of_ble_eq_true rfl) (Nat.le_of_ble_eq_true rfl)

theorem hd_X2_place : yX2_place.cls = RX2 ∧ yX2_place.cls ≠ "java/lang/invoke/MethodHandle" ∧ yX2_place.cls ≠ "java/lang/invoke/VarHandle" ∧ (parseMethodDescriptor yX2_place.desc).map (fun d => d.parameters.length) = some 1 := by decide +kernel
set_option maxHeartbeats 400000 in
set_option maxRecDepth 100000 in
theorem ct_X2_place (l : Launch) (D : va_G) (cI : ClassId) (t : Nat) (q : Nat → Nat) (M K : SS) (k : Nat) (hk : k < 12) (N : Nat) (hN : M 12 2 = nI N) (hN12 : N ≤ 12) : Ct l D [(cI, .int)] yX2_place wsX2_place 3 66 0 0 [.ref t, .int (nI k)] (mw cI t q M K) (some (.int (mPl M N k))) (mw cI t q M K) := by
  refine Ct.ofW (cc := cX2_place) (maxL := 4) (ret := (some .int)) (by decide) rfl (Nat.le_of_ble_eq_true rfl) ?_
  intro p e s m below meth c A ls hC hr hlk _ hP hD hS hK hA hl
  have hx := hC.1
  have hb := hC.2.1
  have hinX2 : ∀ w ∈ wsX20, w ∈ wsX2_place := fun _ _h => List.mem_cons_of_mem _ (List.mem_append_right _ _h)
  have hl : lv_has ls 4 [(0, .ref t), (1, .int (nI k))] := hl
  refine lv_aload_n hx hb dX2_place_0 rfl (lv_at hl 0 rfl) ?_
  refine lv_iload_n hx hb dX2_place_1 rfl (lv_at hl 1 rfl) ?_
  refine lv_iconst (v := 1) hx hb dX2_place_2 (by decide) ?_
  refine gt_call0 hC 0 2 2 (ct_X2_is l D cI t q M K k 1 (by omega)) gX2_place_X2_is dX2_place_3 hK hP hD hS hA hl.1 rfl hd_X2_is ⟨Nat.le_of_ble_eq_true rfl, Nat.le_of_ble_eq_true rfl⟩ ⟨Nat.le_of_ble_eq_true rfl, Nat.le_of_ble_eq_true rfl⟩ rfl rfl rfl rfl (Nat.le_of_ble_eq_true rfl) (fun H locs hP hD hS => ?_)
  refine lv_if_ne (tgt := 11) hx hb dX2_place_6 (by decide) (fun c6_1 : ¬ ((mIs M k 1) = 0) => ?_) (fun c6_1 : (mIs M k 1) = 0 => ?_)
  · skip
    refine lv_iconst (v := 0) hx hb dX2_place_11 (by decide) ?_
    refine lv_istore_n (lv' := [(2, .int 0), (0, .ref t), (1, .int (nI k))]) hx hb dX2_place_12 rfl hl (by decide) rfl (fun ls hl => ?_)
    refine lv_iconst (v := 0) hx hb dX2_place_13 (by decide) ?_
    refine lv_istore_n (lv' := [(3, .int 0), (2, .int 0), (0, .ref t), (1, .int (nI k))]) hx hb dX2_place_14 rfl hl (by decide) rfl (fun ls hl => ?_)
    refine gt_loop D A s.heap 4 N (fun n => [(3, .int (nI n)), (2, .int (mPlL M k n)), (0, .ref t), (1, .int (nI k))]) (fun n => (mw cI t q M K)) (lv_sub hl [0, 1, 2, 3] rfl) hP hD hS (fun n hi_n H locs ls hP hD hS hl K2 => ?_) (fun H locs ls hP hD hS hl => ?_)
    · skip
      refine lv_iload_n hx hb dX2_place_15 rfl (lv_at hl 0 rfl) ?_
      refine lv_aload_n hx hb dX2_place_16 rfl (lv_at hl 2 rfl) ?_
      refine gt_get hC 0 2 2 1 hinX2 hK hP dX2_place_17 rfl rfl rfl (by decide) rfl rfl ?_
      refine gt_ge_f (tgt := 68) hC n N dX2_place_20 (by decide) rfl hN hi_n (by omega) ?_
      refine lv_iload_n hx hb dX2_place_23 rfl (lv_at hl 1 rfl) ?_
      refine lv_aload_n hx hb dX2_place_24 rfl (lv_at hl 2 rfl) ?_
      refine lv_iload_n hx hb dX2_place_25 rfl (lv_at hl 0 rfl) ?_
      refine lv_aload_n hx hb dX2_place_26 rfl (lv_at hl 2 rfl) ?_
      refine lv_iload_n hx hb dX2_place_27 rfl (lv_at hl 3 rfl) ?_
      refine lv_iconst (v := 1) hx hb dX2_place_28 (by decide) ?_
      refine gt_call0 hC 0 2 2 (ct_X2_of l D cI t q M K k 1 (by omega) (by decide)) gX2_place_X2_of dX2_place_29 hK hP hD hS hA hl.1 rfl hd_X2_of ⟨Nat.le_of_ble_eq_true rfl, Nat.le_of_ble_eq_true rfl⟩ ⟨Nat.le_of_ble_eq_true rfl, Nat.le_of_ble_eq_true rfl⟩ rfl rfl rfl rfl (Nat.le_of_ble_eq_true rfl) (fun H locs hP hD hS => ?_)
      refine gt_call0 hC 0 2 2 (ct_X2_isAt l D cI t q M K n (M 1 k) (by omega)) gX2_place_X2_isAt dX2_place_32 hK hP hD hS hA hl.1 rfl hd_X2_isAt ⟨Nat.le_of_ble_eq_true rfl, Nat.le_of_ble_eq_true rfl⟩ ⟨Nat.le_of_ble_eq_true rfl, Nat.le_of_ble_eq_true rfl⟩ rfl rfl rfl rfl (Nat.le_of_ble_eq_true rfl) (fun H locs hP hD hS => ?_)
      refine gt_meetH D A s.heap (mw cI t q M K) hP hD hS (rest := [.int (mPlL M k n)]) 60 (if (mAt M n (M 1 k)) = 0 then 0 else (if (M 7 k) ≤ (M 7 n) then 0 else 1)) (fun K3 => ?_) (fun H locs hP hD hS => ?_)
      · skip
        refine lv_if_eq (tgt := 59) hx hb dX2_place_35 (by decide) (fun c35_4 : (mAt M n (M 1 k)) = 0 => ?_) (fun c35_4 : ¬ ((mAt M n (M 1 k)) = 0) => ?_)
        · skip
          refine lv_iconst (v := 0) hx hb dX2_place_59 (by decide) ?_
          exact K3 _ H locs hP hD hS (show 0 = (if (mAt M n (M 1 k)) = 0 then 0 else (if (M 7 k) ≤ (M 7 n) then 0 else 1)) from by rw [if_pos c35_4])
        · skip
          refine lv_aload_n hx hb dX2_place_38 rfl (lv_at hl 2 rfl) ?_
          refine lv_iload_n hx hb dX2_place_39 rfl (lv_at hl 0 rfl) ?_
          refine lv_bipush (v := 7) hx hb dX2_place_40 (by decide) ?_
          refine gt_call0 hC 0 2 2 (ct_X2_of l D cI t q M K n 7 (by omega) (by decide)) gX2_place_X2_of dX2_place_42 hK hP hD hS hA hl.1 rfl hd_X2_of ⟨Nat.le_of_ble_eq_true rfl, Nat.le_of_ble_eq_true rfl⟩ ⟨Nat.le_of_ble_eq_true rfl, Nat.le_of_ble_eq_true rfl⟩ rfl rfl rfl rfl (Nat.le_of_ble_eq_true rfl) (fun H locs hP hD hS => ?_)
          refine lv_aload_n hx hb dX2_place_45 rfl (lv_at hl 2 rfl) ?_
          refine lv_iload_n hx hb dX2_place_46 rfl (lv_at hl 3 rfl) ?_
          refine lv_bipush (v := 7) hx hb dX2_place_47 (by decide) ?_
          refine gt_call0 hC 0 2 2 (ct_X2_of l D cI t q M K k 7 (by omega) (by decide)) gX2_place_X2_of dX2_place_49 hK hP hD hS hA hl.1 rfl hd_X2_of ⟨Nat.le_of_ble_eq_true rfl, Nat.le_of_ble_eq_true rfl⟩ ⟨Nat.le_of_ble_eq_true rfl, Nat.le_of_ble_eq_true rfl⟩ rfl rfl rfl rfl (Nat.le_of_ble_eq_true rfl) (fun H locs hP hD hS => ?_)
          refine lv_icmp_ge (tgt := 59) hx hb dX2_place_52 (by decide) (fun c52_5 : (M 7 k) ≤ (M 7 n) => ?_) (fun c52_5 : ¬ ((M 7 k) ≤ (M 7 n)) => ?_)
          · skip
            refine lv_iconst (v := 0) hx hb dX2_place_59 (by decide) ?_
            exact K3 _ H locs hP hD hS (show 0 = (if (mAt M n (M 1 k)) = 0 then 0 else (if (M 7 k) ≤ (M 7 n) then 0 else 1)) from by rw [if_neg c35_4, if_pos c52_5])
          · skip
            refine lv_iconst (v := 1) hx hb dX2_place_55 (by decide) ?_
            refine lv_goto (tgt := 60) hx hb dX2_place_56 (by decide) ?_
            exact K3 _ H locs hP hD hS (show 1 = (if (mAt M n (M 1 k)) = 0 then 0 else (if (M 7 k) ≤ (M 7 n) then 0 else 1)) from by rw [if_neg c35_4, if_neg c52_5])
      · skip
        refine lv_iadd hx hb dX2_place_60 ?_
        refine lv_istore_n (lv' := [(2, .int ((mPlL M k n) + (if (mAt M n (M 1 k)) = 0 then 0 else (if (M 7 k) ≤ (M 7 n) then 0 else 1)))), (3, .int (nI n)), (0, .ref t), (1, .int (nI k))]) hx hb dX2_place_61 rfl hl (by decide) rfl (fun ls hl => ?_)
        refine gt_inc (lv' := [(3, .int (nI (n + 1))), (2, .int ((mPlL M k n) + (if (mAt M n (M 1 k)) = 0 then 0 else (if (M 7 k) ≤ (M 7 n) then 0 else 1)))), (0, .ref t), (1, .int (nI k))]) hC 1 n dX2_place_62 hl rfl rfl (by decide) rfl (fun ls hl => ?_)
        refine lv_goto (tgt := 15) hx hb dX2_place_65 (by decide) ?_
        have hl9 : lv_has ls 4 [(3, .int (nI (n + 1))), (2, .int ((mPlL M k n) + (if (mAt M n (M 1 k)) = 0 then 0 else (if (M 7 k) ≤ (M 7 n) then 0 else 1)))), (0, .ref t), (1, .int (nI k))] := lv_sub hl [0, 1, 2, 3] rfl
        rw [show .int ((mPlL M k n) + (if (mAt M n (M 1 k)) = 0 then 0 else (if (M 7 k) ≤ (M 7 n) then 0 else 1))) = (Value.int (mPlL M k (n + 1))) from congrArg _ (rfl)] at hl9
        exact K2 H locs ls hP hD hS hl9
    · skip
      refine lv_iload_n hx hb dX2_place_15 rfl (lv_at hl 0 rfl) ?_
      refine lv_aload_n hx hb dX2_place_16 rfl (lv_at hl 2 rfl) ?_
      refine gt_get hC 0 2 2 1 hinX2 hK hP dX2_place_17 rfl rfl rfl (by decide) rfl rfl ?_
      refine gt_ge_t (tgt := 68) hC N N dX2_place_20 (by decide) rfl hN (Nat.le_refl _) (by omega) ?_
      refine lv_iload_n hx hb dX2_place_68 rfl (lv_at hl 1 rfl) ?_
      exact gt_iret hC hr hlk hK (ws := (mw cI t q M K)) hP hD hS (show some (Value.int (mPlL M k N)) = _ from (congrArg (fun z => some (Value.int z)) (if_neg c6_1).symm)) rfl dX2_place_69 (Nat.le_of_ble_eq_true rfl) (Nat.le_of_ble_eq_true rfl)
  · skip
    refine lv_iconst (v := (-1)) hx hb dX2_place_9 (by decide) ?_
    exact gt_iret hC hr hlk hK (ws := (mw cI t q M K)) hP hD hS (show some (Value.int (-1)) = _ from (congrArg (fun z => some (Value.int z)) (if_pos c6_1).symm)) rfl dX2_place_10 (Nat.le_of_ble_eq_true rfl) (Nat.le_of_ble_eq_true rfl)

theorem hd_X2_stay : yX2_stay.cls = RX2 ∧ yX2_stay.cls ≠ "java/lang/invoke/MethodHandle" ∧ yX2_stay.cls ≠ "java/lang/invoke/VarHandle" ∧ (parseMethodDescriptor yX2_stay.desc).map (fun d => d.parameters.length) = some 1 := by decide +kernel
set_option maxHeartbeats 400000 in
set_option maxRecDepth 100000 in
theorem ct_X2_stay (l : Launch) (D : va_G) (cI : ClassId) (t : Nat) (q : Nat → Nat) (M K : SS) (k : Nat) (hk : k < 12) : Ct l D [(cI, .int)] yX2_stay wsX2_stay 2 44 0 0 [.ref t, .int (nI k)] (mw cI t q M K) none (mw cI t q (mStT M k) K) := by
  refine Ct.ofW (cc := cX2_stay) (maxL := 2) (ret := none) (by decide) rfl (Nat.le_of_ble_eq_true rfl) ?_
  intro p e s m below meth c A ls hC hr hlk _ hP hD hS hK hA hl
  have hx := hC.1
  have hb := hC.2.1
  have hinX2 : ∀ w ∈ wsX20, w ∈ wsX2_stay := fun _ _h => List.mem_cons_of_mem _ (List.mem_append_right _ _h)
  have hl : lv_has ls 2 [(0, .ref t), (1, .int (nI k))] := hl
  refine lv_aload_n hx hb dX2_stay_0 rfl (lv_at hl 0 rfl) ?_
  refine lv_iload_n hx hb dX2_stay_1 rfl (lv_at hl 1 rfl) ?_
  refine lv_iconst (v := 2) hx hb dX2_stay_2 (by decide) ?_
  refine gt_call0 hC 0 2 2 (ct_X2_is l D cI t q M K k 2 (by omega)) gX2_stay_X2_is dX2_stay_3 hK hP hD hS hA hl.1 rfl hd_X2_is ⟨Nat.le_of_ble_eq_true rfl, Nat.le_of_ble_eq_true rfl⟩ ⟨Nat.le_of_ble_eq_true rfl, Nat.le_of_ble_eq_true rfl⟩ rfl rfl rfl rfl (Nat.le_of_ble_eq_true rfl) (fun H locs hP hD hS => ?_)
  refine lv_if_ne (tgt := 10) hx hb dX2_stay_6 (by decide) (fun c6_1 : ¬ ((mIs M k 2) = 0) => ?_) (fun c6_1 : (mIs M k 2) = 0 => ?_)
  · skip
    refine lv_aload_n hx hb dX2_stay_10 rfl (lv_at hl 0 rfl) ?_
    refine lv_iload_n hx hb dX2_stay_11 rfl (lv_at hl 1 rfl) ?_
    refine lv_iconst (v := 3) hx hb dX2_stay_12 (by decide) ?_
    refine lv_aload_n hx hb dX2_stay_13 rfl (lv_at hl 0 rfl) ?_
    refine lv_iload_n hx hb dX2_stay_14 rfl (lv_at hl 1 rfl) ?_
    refine lv_iconst (v := 3) hx hb dX2_stay_15 (by decide) ?_
    refine gt_call0 hC 0 2 2 (ct_X2_of l D cI t q M K k 3 (by omega) (by decide)) gX2_stay_X2_of dX2_stay_16 hK hP hD hS hA hl.1 rfl hd_X2_of ⟨Nat.le_of_ble_eq_true rfl, Nat.le_of_ble_eq_true rfl⟩ ⟨Nat.le_of_ble_eq_true rfl, Nat.le_of_ble_eq_true rfl⟩ rfl rfl rfl rfl (Nat.le_of_ble_eq_true rfl) (fun H locs hP hD hS => ?_)
    refine lv_iconst (v := 1) hx hb dX2_stay_19 (by decide) ?_
    refine lv_isub hx hb dX2_stay_20 ?_
    refine gt_call0 hC 0 2 3 (ct_X2_let l D cI t q M K k 3 ((M 3 k) - 1) (by omega) (by decide)) gX2_stay_X2_let dX2_stay_21 hK hP hD hS hA hl.1 rfl hd_X2_let ⟨Nat.le_of_ble_eq_true rfl, Nat.le_of_ble_eq_true rfl⟩ ⟨Nat.le_of_ble_eq_true rfl, Nat.le_of_ble_eq_true rfl⟩ rfl rfl rfl rfl (Nat.le_of_ble_eq_true rfl) (fun H locs hP hD hS => ?_)
    refine lv_aload_n hx hb dX2_stay_24 rfl (lv_at hl 0 rfl) ?_
    refine lv_iload_n hx hb dX2_stay_25 rfl (lv_at hl 1 rfl) ?_
    refine lv_iconst (v := 3) hx hb dX2_stay_26 (by decide) ?_
    refine gt_call0 hC 0 2 2 (ct_X2_of l D cI t q (up2 M 3 k ((M 3 k) - 1)) K k 3 (by omega) (by decide)) gX2_stay_X2_of dX2_stay_27 hK hP hD hS hA hl.1 rfl hd_X2_of ⟨Nat.le_of_ble_eq_true rfl, Nat.le_of_ble_eq_true rfl⟩ ⟨Nat.le_of_ble_eq_true rfl, Nat.le_of_ble_eq_true rfl⟩ rfl rfl rfl rfl (Nat.le_of_ble_eq_true rfl) (fun H locs hP hD hS => ?_)
    refine lv_if_ne (tgt := 40) hx hb dX2_stay_30 (by decide) (fun c30_2 : ¬ (((up2 M 3 k ((M 3 k) - 1)) 3 k) = 0) => ?_) (fun c30_2 : ((up2 M 3 k ((M 3 k) - 1)) 3 k) = 0 => ?_)
    · skip
      exact gt_vret hC hr hlk hK (ws := (mw cI t q (up2 M 3 k ((M 3 k) - 1)) K)) hP hD hS rfl (congrArg (fun z => mw cI t q z K) ((if_neg c6_1).trans ((if_neg c30_2).trans rfl)).symm) dX2_stay_40 (Nat.le_of_ble_eq_true rfl) (Nat.le_of_ble_eq_true rfl)
    · skip
      refine lv_aload_n hx hb dX2_stay_33 rfl (lv_at hl 0 rfl) ?_
      refine lv_iload_n hx hb dX2_stay_34 rfl (lv_at hl 1 rfl) ?_
      refine lv_iconst (v := 0) hx hb dX2_stay_35 (by decide) ?_
      refine lv_iconst (v := 0) hx hb dX2_stay_36 (by decide) ?_
      refine gt_call0 hC 0 2 3 (ct_X2_let l D cI t q (up2 M 3 k ((M 3 k) - 1)) K k 0 0 (by omega) (by decide)) gX2_stay_X2_let dX2_stay_37 hK hP hD hS hA hl.1 rfl hd_X2_let ⟨Nat.le_of_ble_eq_true rfl, Nat.le_of_ble_eq_true rfl⟩ ⟨Nat.le_of_ble_eq_true rfl, Nat.le_of_ble_eq_true rfl⟩ rfl rfl rfl rfl (Nat.le_of_ble_eq_true rfl) (fun H locs hP hD hS => ?_)
      exact gt_vret hC hr hlk hK (ws := (mw cI t q (up2 (up2 M 3 k ((M 3 k) - 1)) 0 k 0) K)) hP hD hS rfl (congrArg (fun z => mw cI t q z K) ((if_neg c6_1).trans ((if_pos c30_2).trans rfl)).symm) dX2_stay_40 (Nat.le_of_ble_eq_true rfl) (Nat.le_of_ble_eq_true rfl)
  · skip
    exact gt_vret hC hr hlk hK (ws := (mw cI t q M K)) hP hD hS rfl (congrArg (fun z => mw cI t q z K) ((if_pos c6_1).trans rfl).symm) dX2_stay_9 (Nat.le_of_ble_eq_true rfl) (Nat.le_of_ble_eq_true rfl)

theorem hd_X2_waitOn : yX2_waitOn.cls = RX2 ∧ yX2_waitOn.cls ≠ "java/lang/invoke/MethodHandle" ∧ yX2_waitOn.cls ≠ "java/lang/invoke/VarHandle" ∧ (parseMethodDescriptor yX2_waitOn.desc).map (fun d => d.parameters.length) = some 1 := by decide +kernel
set_option maxHeartbeats 400000 in
set_option maxRecDepth 100000 in
theorem ct_X2_waitOn (l : Launch) (D : va_G) (cI : ClassId) (t : Nat) (q : Nat → Nat) (M K : SS) (k : Nat) (hk : k < 12) : Ct l D [(cI, .int)] yX2_waitOn wsX2_waitOn 2 44 0 0 [.ref t, .int (nI k)] (mw cI t q M K) none (mw cI t q (mWaT M k) K) := by
  refine Ct.ofW (cc := cX2_waitOn) (maxL := 2) (ret := none) (by decide) rfl (Nat.le_of_ble_eq_true rfl) ?_
  intro p e s m below meth c A ls hC hr hlk _ hP hD hS hK hA hl
  have hx := hC.1
  have hb := hC.2.1
  have hinX2 : ∀ w ∈ wsX20, w ∈ wsX2_waitOn := fun _ _h => List.mem_cons_of_mem _ (List.mem_append_right _ _h)
  have hl : lv_has ls 2 [(0, .ref t), (1, .int (nI k))] := hl
  refine lv_aload_n hx hb dX2_waitOn_0 rfl (lv_at hl 0 rfl) ?_
  refine lv_iload_n hx hb dX2_waitOn_1 rfl (lv_at hl 1 rfl) ?_
  refine lv_iconst (v := 1) hx hb dX2_waitOn_2 (by decide) ?_
  refine gt_call0 hC 0 2 2 (ct_X2_is l D cI t q M K k 1 (by omega)) gX2_waitOn_X2_is dX2_waitOn_3 hK hP hD hS hA hl.1 rfl hd_X2_is ⟨Nat.le_of_ble_eq_true rfl, Nat.le_of_ble_eq_true rfl⟩ ⟨Nat.le_of_ble_eq_true rfl, Nat.le_of_ble_eq_true rfl⟩ rfl rfl rfl rfl (Nat.le_of_ble_eq_true rfl) (fun H locs hP hD hS => ?_)
  refine lv_if_ne (tgt := 10) hx hb dX2_waitOn_6 (by decide) (fun c6_1 : ¬ ((mIs M k 1) = 0) => ?_) (fun c6_1 : (mIs M k 1) = 0 => ?_)
  · skip
    refine lv_aload_n hx hb dX2_waitOn_10 rfl (lv_at hl 0 rfl) ?_
    refine lv_iload_n hx hb dX2_waitOn_11 rfl (lv_at hl 1 rfl) ?_
    refine lv_iconst (v := 5) hx hb dX2_waitOn_12 (by decide) ?_
    refine lv_aload_n hx hb dX2_waitOn_13 rfl (lv_at hl 0 rfl) ?_
    refine lv_iload_n hx hb dX2_waitOn_14 rfl (lv_at hl 1 rfl) ?_
    refine lv_iconst (v := 5) hx hb dX2_waitOn_15 (by decide) ?_
    refine gt_call0 hC 0 2 2 (ct_X2_of l D cI t q M K k 5 (by omega) (by decide)) gX2_waitOn_X2_of dX2_waitOn_16 hK hP hD hS hA hl.1 rfl hd_X2_of ⟨Nat.le_of_ble_eq_true rfl, Nat.le_of_ble_eq_true rfl⟩ ⟨Nat.le_of_ble_eq_true rfl, Nat.le_of_ble_eq_true rfl⟩ rfl rfl rfl rfl (Nat.le_of_ble_eq_true rfl) (fun H locs hP hD hS => ?_)
    refine lv_iconst (v := 1) hx hb dX2_waitOn_19 (by decide) ?_
    refine lv_iadd hx hb dX2_waitOn_20 ?_
    refine gt_call0 hC 0 2 3 (ct_X2_let l D cI t q M K k 5 ((M 5 k) + 1) (by omega) (by decide)) gX2_waitOn_X2_let dX2_waitOn_21 hK hP hD hS hA hl.1 rfl hd_X2_let ⟨Nat.le_of_ble_eq_true rfl, Nat.le_of_ble_eq_true rfl⟩ ⟨Nat.le_of_ble_eq_true rfl, Nat.le_of_ble_eq_true rfl⟩ rfl rfl rfl rfl (Nat.le_of_ble_eq_true rfl) (fun H locs hP hD hS => ?_)
    refine lv_aload_n hx hb dX2_waitOn_24 rfl (lv_at hl 0 rfl) ?_
    refine lv_iload_n hx hb dX2_waitOn_25 rfl (lv_at hl 1 rfl) ?_
    refine lv_bipush (v := 6) hx hb dX2_waitOn_26 (by decide) ?_
    refine lv_aload_n hx hb dX2_waitOn_28 rfl (lv_at hl 0 rfl) ?_
    refine lv_iload_n hx hb dX2_waitOn_29 rfl (lv_at hl 1 rfl) ?_
    refine lv_bipush (v := 6) hx hb dX2_waitOn_30 (by decide) ?_
    refine gt_call0 hC 0 2 2 (ct_X2_of l D cI t q (up2 M 5 k ((M 5 k) + 1)) K k 6 (by omega) (by decide)) gX2_waitOn_X2_of dX2_waitOn_32 hK hP hD hS hA hl.1 rfl hd_X2_of ⟨Nat.le_of_ble_eq_true rfl, Nat.le_of_ble_eq_true rfl⟩ ⟨Nat.le_of_ble_eq_true rfl, Nat.le_of_ble_eq_true rfl⟩ rfl rfl rfl rfl (Nat.le_of_ble_eq_true rfl) (fun H locs hP hD hS => ?_)
    refine lv_iconst (v := 1) hx hb dX2_waitOn_35 (by decide) ?_
    refine lv_iadd hx hb dX2_waitOn_36 ?_
    refine gt_call0 hC 0 2 3 (ct_X2_let l D cI t q (up2 M 5 k ((M 5 k) + 1)) K k 6 (((up2 M 5 k ((M 5 k) + 1)) 6 k) + 1) (by omega) (by decide)) gX2_waitOn_X2_let dX2_waitOn_37 hK hP hD hS hA hl.1 rfl hd_X2_let ⟨Nat.le_of_ble_eq_true rfl, Nat.le_of_ble_eq_true rfl⟩ ⟨Nat.le_of_ble_eq_true rfl, Nat.le_of_ble_eq_true rfl⟩ rfl rfl rfl rfl (Nat.le_of_ble_eq_true rfl) (fun H locs hP hD hS => ?_)
    refine lv_aload_n hx hb dX2_waitOn_40 rfl (lv_at hl 0 rfl) ?_
    refine lv_iload_n hx hb dX2_waitOn_41 rfl (lv_at hl 1 rfl) ?_
    refine lv_iconst (v := 5) hx hb dX2_waitOn_42 (by decide) ?_
    refine gt_call0 hC 0 2 2 (ct_X2_of l D cI t q (up2 (up2 M 5 k ((M 5 k) + 1)) 6 k (((up2 M 5 k ((M 5 k) + 1)) 6 k) + 1)) K k 5 (by omega) (by decide)) gX2_waitOn_X2_of dX2_waitOn_43 hK hP hD hS hA hl.1 rfl hd_X2_of ⟨Nat.le_of_ble_eq_true rfl, Nat.le_of_ble_eq_true rfl⟩ ⟨Nat.le_of_ble_eq_true rfl, Nat.le_of_ble_eq_true rfl⟩ rfl rfl rfl rfl (Nat.le_of_ble_eq_true rfl) (fun H locs hP hD hS => ?_)
    refine lv_aload_n hx hb dX2_waitOn_46 rfl (lv_at hl 0 rfl) ?_
    refine lv_iload_n hx hb dX2_waitOn_47 rfl (lv_at hl 1 rfl) ?_
    refine lv_iconst (v := 4) hx hb dX2_waitOn_48 (by decide) ?_
    refine gt_call0 hC 0 2 2 (ct_X2_of l D cI t q (up2 (up2 M 5 k ((M 5 k) + 1)) 6 k (((up2 M 5 k ((M 5 k) + 1)) 6 k) + 1)) K k 4 (by omega) (by decide)) gX2_waitOn_X2_of dX2_waitOn_49 hK hP hD hS hA hl.1 rfl hd_X2_of ⟨Nat.le_of_ble_eq_true rfl, Nat.le_of_ble_eq_true rfl⟩ ⟨Nat.le_of_ble_eq_true rfl, Nat.le_of_ble_eq_true rfl⟩ rfl rfl rfl rfl (Nat.le_of_ble_eq_true rfl) (fun H locs hP hD hS => ?_)
    refine lv_icmp_ge (tgt := 56) hx hb dX2_waitOn_52 (by decide) (fun c52_2 : ((up2 (up2 M 5 k ((M 5 k) + 1)) 6 k (((up2 M 5 k ((M 5 k) + 1)) 6 k) + 1)) 4 k) ≤ ((up2 (up2 M 5 k ((M 5 k) + 1)) 6 k (((up2 M 5 k ((M 5 k) + 1)) 6 k) + 1)) 5 k) => ?_) (fun c52_2 : ¬ (((up2 (up2 M 5 k ((M 5 k) + 1)) 6 k (((up2 M 5 k ((M 5 k) + 1)) 6 k) + 1)) 4 k) ≤ ((up2 (up2 M 5 k ((M 5 k) + 1)) 6 k (((up2 M 5 k ((M 5 k) + 1)) 6 k) + 1)) 5 k)) => ?_)
    · skip
      refine lv_aload_n hx hb dX2_waitOn_56 rfl (lv_at hl 0 rfl) ?_
      refine lv_iload_n hx hb dX2_waitOn_57 rfl (lv_at hl 1 rfl) ?_
      refine lv_iconst (v := 0) hx hb dX2_waitOn_58 (by decide) ?_
      refine lv_iconst (v := 0) hx hb dX2_waitOn_59 (by decide) ?_
      refine gt_call0 hC 0 2 3 (ct_X2_let l D cI t q (up2 (up2 M 5 k ((M 5 k) + 1)) 6 k (((up2 M 5 k ((M 5 k) + 1)) 6 k) + 1)) K k 0 0 (by omega) (by decide)) gX2_waitOn_X2_let dX2_waitOn_60 hK hP hD hS hA hl.1 rfl hd_X2_let ⟨Nat.le_of_ble_eq_true rfl, Nat.le_of_ble_eq_true rfl⟩ ⟨Nat.le_of_ble_eq_true rfl, Nat.le_of_ble_eq_true rfl⟩ rfl rfl rfl rfl (Nat.le_of_ble_eq_true rfl) (fun H locs hP hD hS => ?_)
      refine lv_aload_n hx hb dX2_waitOn_63 rfl (lv_at hl 0 rfl) ?_
      refine gt_get hC 0 2 6 1 hinX2 hK hP dX2_waitOn_64 rfl rfl rfl (by decide) rfl rfl ?_
      refine lv_iconst (v := 2) hx hb dX2_waitOn_67 (by decide) ?_
      refine lv_dup2_11 hx hb dX2_waitOn_68 rfl rfl ?_
      refine gt_ald hC 4 0 2 hK hP dX2_waitOn_69 rfl rfl (by decide) (by decide) (Nat.le_of_ble_eq_true rfl) ?_
      refine lv_iconst (v := 1) hx hb dX2_waitOn_70 (by decide) ?_
      refine lv_iadd hx hb dX2_waitOn_71 ?_
      refine gt_ast (ws' := (mw cI t q (up2 (up2 (up2 (up2 M 5 k ((M 5 k) + 1)) 6 k (((up2 M 5 k ((M 5 k) + 1)) 6 k) + 1)) 0 k 0) 8 2 ((M 8 2) + 1)) K)) hC 4 0 2 hK hP hD hS dX2_waitOn_72 rfl rfl (by decide) (by decide) (Nat.le_of_ble_eq_true rfl) (mw_hdr cI t q (up2 (up2 (up2 M 5 k ((M 5 k) + 1)) 6 k (((up2 M 5 k ((M 5 k) + 1)) 6 k) + 1)) 0 k 0) K 2 ((M 8 2) + 1) (by decide)) (fun H locs hP hD hS => ?_)
      exact gt_vret hC hr hlk hK (ws := (mw cI t q (up2 (up2 (up2 (up2 M 5 k ((M 5 k) + 1)) 6 k (((up2 M 5 k ((M 5 k) + 1)) 6 k) + 1)) 0 k 0) 8 2 ((M 8 2) + 1)) K)) hP hD hS rfl (congrArg (fun z => mw cI t q z K) ((if_neg c6_1).trans ((if_pos c52_2).trans rfl)).symm) dX2_waitOn_73 (Nat.le_of_ble_eq_true rfl) (Nat.le_of_ble_eq_true rfl)
    · skip
      exact gt_vret hC hr hlk hK (ws := (mw cI t q (up2 (up2 M 5 k ((M 5 k) + 1)) 6 k (((up2 M 5 k ((M 5 k) + 1)) 6 k) + 1)) K)) hP hD hS rfl (congrArg (fun z => mw cI t q z K) ((if_neg c6_1).trans ((if_neg c52_2).trans rfl)).symm) dX2_waitOn_55 (Nat.le_of_ble_eq_true rfl) (Nat.le_of_ble_eq_true rfl)
  · skip
    exact gt_vret hC hr hlk hK (ws := (mw cI t q M K)) hP hD hS rfl (congrArg (fun z => mw cI t q z K) ((if_pos c6_1).trans rfl).symm) dX2_waitOn_9 (Nat.le_of_ble_eq_true rfl) (Nat.le_of_ble_eq_true rfl)

theorem hd_X2_open : yX2_open.cls = RX2 ∧ yX2_open.cls ≠ "java/lang/invoke/MethodHandle" ∧ yX2_open.cls ≠ "java/lang/invoke/VarHandle" ∧ (parseMethodDescriptor yX2_open.desc).map (fun d => d.parameters.length) = some 1 := by decide +kernel
set_option maxHeartbeats 400000 in
set_option maxRecDepth 100000 in
theorem ct_X2_open (l : Launch) (D : va_G) (cI : ClassId) (t : Nat) (q : Nat → Nat) (M K : SS) (g : Nat) (hg : g < 4) (N : Nat) (hN : M 12 2 = nI N) (hN12 : N ≤ 12) (ht : mOpN M g N < 13) : Ct l D [(cI, .int)] yX2_open wsX2_open 5 113 0 0 [.ref t, .int (nI g)] (mw cI t q M K) none (mw cI t q (mOpF M g N) K) := by
  refine Ct.ofW (cc := cX2_open) (maxL := 3) (ret := none) (by decide) rfl (Nat.le_of_ble_eq_true rfl) ?_
  intro p e s m below meth c A ls hC hr hlk _ hP hD hS hK hA hl
  have hx := hC.1
  have hb := hC.2.1
  have hinX2 : ∀ w ∈ wsX20, w ∈ wsX2_open := fun _ _h => List.mem_cons_of_mem _ (List.mem_append_right _ _h)
  have hl : lv_has ls 3 [(0, .ref t), (1, .int (nI g))] := hl
  refine lv_aload_n hx hb dX2_open_0 rfl (lv_at hl 0 rfl) ?_
  refine lv_iload_n hx hb dX2_open_1 rfl (lv_at hl 1 rfl) ?_
  refine gt_call0 hC 0 2 1 (ct_X2_next l D cI t q M K g (by omega) N hN hN12) gX2_open_X2_next dX2_open_2 hK hP hD hS hA hl.1 rfl hd_X2_next ⟨Nat.le_of_ble_eq_true rfl, Nat.le_of_ble_eq_true rfl⟩ ⟨Nat.le_of_ble_eq_true rfl, Nat.le_of_ble_eq_true rfl⟩ rfl rfl rfl rfl (Nat.le_of_ble_eq_true rfl) (fun H locs hP hD hS => ?_)
  refine lv_istore_n (lv' := [(2, .int (mNx M g N)), (0, .ref t), (1, .int (nI g))]) hx hb dX2_open_5 rfl hl (by decide) rfl (fun ls hl => ?_)
  refine gt_loop D A s.heap 3 (mOpN M g N) (fun n => [(2, .int (mNx (mOpI M g N n) g N)), (0, .ref t), (1, .int (nI g))]) (fun n => (mw cI t q (mOpI M g N n) K)) (lv_sub hl [0, 1, 2] rfl) hP hD hS (fun n hi_n H locs ls hP hD hS hl K1 => ?_) (fun H locs ls hP hD hS hl => ?_)
  · skip
    have hno : ¬ mNx (mOpI M g N n) g N = -1 := of_decide_eq_false (gxF_no (fun i => decide (mNx (mOpI M g N i) g N = -1)) 13 n hi_n)
    have hNn : (mOpI M g N n) 12 2 = nI N := (congrFun (mOpI_r M g N (by decide) n) 2).trans hN
    refine lv_iload_n hx hb dX2_open_6 rfl (lv_at hl 0 rfl) ?_
    refine lv_iconst (v := (-1)) hx hb dX2_open_7 (by decide) ?_
    refine lv_icmp_eq (tgt := 37) hx hb dX2_open_8 (by decide) (fun c8_2 : (mNx (mOpI M g N n) g N) = (-1) => absurd c8_2 hno) (fun c8_2 : ¬ ((mNx (mOpI M g N n) g N) = (-1)) => ?_)
    refine lv_aload_n hx hb dX2_open_11 rfl (lv_at hl 1 rfl) ?_
    refine lv_iload_n hx hb dX2_open_12 rfl (lv_at hl 0 rfl) ?_
    refine lv_iconst (v := 0) hx hb dX2_open_13 (by decide) ?_
    refine lv_iconst (v := 2) hx hb dX2_open_14 (by decide) ?_
    have hf := ix_of hN12 (mNx_ix hN12 hno)
    refine gt_stk [.int 2, .int 0, .int (nI ((mNx (mOpI M g N n) g N).toNatClampNeg)), .ref t] (congrArg (fun z : Int32 => ([.int 2, .int 0, .int z, .ref t] : List Value)) hf.1) ?_
    refine gt_call0 hC 0 2 3 (ct_X2_let l D cI t q (mOpI M g N n) K ((mNx (mOpI M g N n) g N).toNatClampNeg) 0 2 (Nat.lt_of_lt_of_le hf.2 hN12) (by decide)) gX2_open_X2_let dX2_open_15 hK hP hD hS hA hl.1 rfl hd_X2_let ⟨Nat.le_of_ble_eq_true rfl, Nat.le_of_ble_eq_true rfl⟩ ⟨Nat.le_of_ble_eq_true rfl, Nat.le_of_ble_eq_true rfl⟩ rfl rfl rfl rfl (Nat.le_of_ble_eq_true rfl) (fun H locs hP hD hS => ?_)
    refine lv_aload_n hx hb dX2_open_18 rfl (lv_at hl 1 rfl) ?_
    refine gt_get hC 0 2 6 1 hinX2 hK hP dX2_open_19 rfl rfl rfl (by decide) rfl rfl ?_
    refine lv_iconst (v := 1) hx hb dX2_open_22 (by decide) ?_
    refine lv_dup2_11 hx hb dX2_open_23 rfl rfl ?_
    refine gt_ald hC 4 0 1 hK hP dX2_open_24 rfl rfl (by decide) (by decide) (Nat.le_of_ble_eq_true rfl) ?_
    refine lv_iconst (v := 1) hx hb dX2_open_25 (by decide) ?_
    refine lv_iadd hx hb dX2_open_26 ?_
    refine gt_ast (ws' := (mw cI t q (up2 (up2 (mOpI M g N n) 0 ((mNx (mOpI M g N n) g N).toNatClampNeg) 2) 8 1 (((mOpI M g N n) 8 1) + 1)) K)) hC 4 0 1 hK hP hD hS dX2_open_27 rfl rfl (by decide) (by decide) (Nat.le_of_ble_eq_true rfl) (mw_hdr cI t q (up2 (mOpI M g N n) 0 ((mNx (mOpI M g N n) g N).toNatClampNeg) 2) K 1 (((mOpI M g N n) 8 1) + 1) (by decide)) (fun H locs hP hD hS => ?_)
    refine lv_aload_n hx hb dX2_open_28 rfl (lv_at hl 1 rfl) ?_
    refine lv_iload_n hx hb dX2_open_29 rfl (lv_at hl 2 rfl) ?_
    refine gt_call0 hC 0 2 1 (ct_X2_next l D cI t q (up2 (up2 (mOpI M g N n) 0 ((mNx (mOpI M g N n) g N).toNatClampNeg) 2) 8 1 (((mOpI M g N n) 8 1) + 1)) K g (by omega) N hNn hN12) gX2_open_X2_next dX2_open_30 hK hP hD hS hA hl.1 rfl hd_X2_next ⟨Nat.le_of_ble_eq_true rfl, Nat.le_of_ble_eq_true rfl⟩ ⟨Nat.le_of_ble_eq_true rfl, Nat.le_of_ble_eq_true rfl⟩ rfl rfl rfl rfl (Nat.le_of_ble_eq_true rfl) (fun H locs hP hD hS => ?_)
    refine lv_istore_n (lv' := [(2, .int (mNx (up2 (up2 (mOpI M g N n) 0 ((mNx (mOpI M g N n) g N).toNatClampNeg) 2) 8 1 (((mOpI M g N n) 8 1) + 1)) g N)), (0, .ref t), (1, .int (nI g))]) hx hb dX2_open_33 rfl hl (by decide) rfl (fun ls hl => ?_)
    refine lv_goto (tgt := 6) hx hb dX2_open_34 (by decide) ?_
    have hl9 : lv_has ls 3 [(2, .int (mNx (up2 (up2 (mOpI M g N n) 0 ((mNx (mOpI M g N n) g N).toNatClampNeg) 2) 8 1 (((mOpI M g N n) 8 1) + 1)) g N)), (0, .ref t), (1, .int (nI g))] := lv_sub hl [0, 1, 2] rfl
    rw [show .int (mNx (up2 (up2 (mOpI M g N n) 0 ((mNx (mOpI M g N n) g N).toNatClampNeg) 2) 8 1 (((mOpI M g N n) 8 1) + 1)) g N) = (Value.int (mNx (mOpI M g N (n + 1)) g N)) from congrArg _ (rfl)] at hl9
    have e9 : (up2 (up2 (mOpI M g N n) 0 ((mNx (mOpI M g N n) g N).toNatClampNeg) 2) 8 1 (((mOpI M g N n) 8 1) + 1)) = (mOpI M g N (n + 1)) := rfl
    rw [e9] at hP hD
    exact K1 H locs ls hP hD hS hl9
  · skip
    have hye : mNx (mOpI M g N (mOpN M g N)) g N = -1 := of_decide_eq_true (gxF_yes (fun i => decide (mNx (mOpI M g N i) g N = -1)) 13 ht)
    refine lv_iload_n hx hb dX2_open_6 rfl (lv_at hl 0 rfl) ?_
    refine lv_iconst (v := (-1)) hx hb dX2_open_7 (by decide) ?_
    refine lv_icmp_eq (tgt := 37) hx hb dX2_open_8 (by decide) (fun c8_3 : (mNx (mOpI M g N (mOpN M g N)) g N) = (-1) => ?_) (fun c8_3 : ¬ ((mNx (mOpI M g N (mOpN M g N)) g N) = (-1)) => absurd c8_3 (not_not_intro hye))
    exact gt_vret hC hr hlk hK (ws := (mw cI t q (mOpI M g N (mOpN M g N)) K)) hP hD hS rfl rfl dX2_open_37 (Nat.le_of_ble_eq_true rfl) (Nat.le_of_ble_eq_true rfl)

theorem hd_X2_minuteOn : yX2_minuteOn.cls = RX2 ∧ yX2_minuteOn.cls ≠ "java/lang/invoke/MethodHandle" ∧ yX2_minuteOn.cls ≠ "java/lang/invoke/VarHandle" ∧ (parseMethodDescriptor yX2_minuteOn.desc).map (fun d => d.parameters.length) = some 0 := by decide +kernel
set_option maxHeartbeats 400000 in
set_option maxRecDepth 100000 in
theorem ct_X2_minuteOn (l : Launch) (D : va_G) (cI : ClassId) (t : Nat) (q : Nat → Nat) (M K : SS) (N : Nat) (hN : M 12 2 = nI N) (hN12 : N ≤ 12) (G : Nat) (hG : M 12 1 = nI G) (hG4 : G ≤ 4) (ht : ∀ (X : SS) (g : Nat), mOpN X g N < 13) : Ct l D [(cI, .int)] yX2_minuteOn wsX2_minuteOn 6 135 0 0 [.ref t] (mw cI t q M K) none (mw cI t q (mMin M G N) K) := by
  refine Ct.ofW (cc := cX2_minuteOn) (maxL := 2) (ret := none) (by decide) rfl (Nat.le_of_ble_eq_true rfl) ?_
  intro p e s m below meth c A ls hC hr hlk _ hP hD hS hK hA hl
  have hx := hC.1
  have hb := hC.2.1
  have hinX2 : ∀ w ∈ wsX20, w ∈ wsX2_minuteOn := fun _ _h => List.mem_cons_of_mem _ (List.mem_append_right _ _h)
  have hl : lv_has ls 2 [(0, .ref t)] := hl
  refine lv_iconst (v := 0) hx hb dX2_minuteOn_0 (by decide) ?_
  refine lv_istore_n (lv' := [(1, .int 0), (0, .ref t)]) hx hb dX2_minuteOn_1 rfl hl (by decide) rfl (fun ls hl => ?_)
  refine gt_loop D A s.heap 2 N (fun n => [(1, .int (nI n)), (0, .ref t)]) (fun n => (mw cI t q (mSt M n) K)) (lv_sub hl [0, 1] rfl) hP hD hS (fun n hi_n H locs ls hP hD hS hl K1 => ?_) (fun H locs ls hP hD hS hl => ?_)
  · skip
    refine lv_iload_n hx hb dX2_minuteOn_2 rfl (lv_at hl 0 rfl) ?_
    refine lv_aload_n hx hb dX2_minuteOn_3 rfl (lv_at hl 1 rfl) ?_
    refine gt_get hC 0 2 2 1 hinX2 hK hP dX2_minuteOn_4 rfl rfl rfl (by decide) rfl rfl ?_
    refine gt_ge_f (tgt := 21) hC n N dX2_minuteOn_7 (by decide) rfl ((congrFun (mSt_r M (by decide) n) 2).trans hN) hi_n (by omega) ?_
    refine lv_aload_n hx hb dX2_minuteOn_10 rfl (lv_at hl 1 rfl) ?_
    refine lv_iload_n hx hb dX2_minuteOn_11 rfl (lv_at hl 0 rfl) ?_
    refine gt_call0 hC 0 2 1 (ct_X2_stay l D cI t q (mSt M n) K n (by omega)) gX2_minuteOn_X2_stay dX2_minuteOn_12 hK hP hD hS hA hl.1 rfl hd_X2_stay ⟨Nat.le_of_ble_eq_true rfl, Nat.le_of_ble_eq_true rfl⟩ ⟨Nat.le_of_ble_eq_true rfl, Nat.le_of_ble_eq_true rfl⟩ rfl rfl rfl rfl (Nat.le_of_ble_eq_true rfl) (fun H locs hP hD hS => ?_)
    refine gt_inc (lv' := [(1, .int (nI (n + 1))), (0, .ref t)]) hC 0 n dX2_minuteOn_15 hl rfl rfl (by decide) rfl (fun ls hl => ?_)
    refine lv_goto (tgt := 2) hx hb dX2_minuteOn_18 (by decide) ?_
    have hl9 : lv_has ls 2 [(1, .int (nI (n + 1))), (0, .ref t)] := lv_sub hl [0, 1] rfl
    have e9 : mStT (mSt M n) n = (mSt M (n + 1)) := rfl
    rw [e9] at hP hD
    exact K1 H locs ls hP hD hS hl9
  · skip
    refine lv_iload_n hx hb dX2_minuteOn_2 rfl (lv_at hl 0 rfl) ?_
    refine lv_aload_n hx hb dX2_minuteOn_3 rfl (lv_at hl 1 rfl) ?_
    refine gt_get hC 0 2 2 1 hinX2 hK hP dX2_minuteOn_4 rfl rfl rfl (by decide) rfl rfl ?_
    refine gt_ge_t (tgt := 21) hC N N dX2_minuteOn_7 (by decide) rfl ((congrFun (mSt_r M (by decide) N) 2).trans hN) (Nat.le_refl _) (by omega) ?_
    refine lv_iconst (v := 0) hx hb dX2_minuteOn_21 (by decide) ?_
    refine lv_istore_n (lv' := [(1, .int 0), (0, .ref t)]) hx hb dX2_minuteOn_22 rfl hl (by decide) rfl (fun ls hl => ?_)
    refine gt_loop D A s.heap 2 G (fun n => [(1, .int (nI n)), (0, .ref t)]) (fun n => (mw cI t q (mOp M N n) K)) (lv_sub hl [0, 1] rfl) hP hD hS (fun n hi_n H locs ls hP hD hS hl K2 => ?_) (fun H locs ls hP hD hS hl => ?_)
    · skip
      refine lv_iload_n hx hb dX2_minuteOn_23 rfl (lv_at hl 0 rfl) ?_
      refine lv_aload_n hx hb dX2_minuteOn_24 rfl (lv_at hl 1 rfl) ?_
      refine gt_get hC 0 2 1 2 hinX2 hK hP dX2_minuteOn_25 rfl rfl rfl (by decide) rfl rfl ?_
      refine gt_ge_f (tgt := 42) hC n G dX2_minuteOn_28 (by decide) rfl ((congrFun (mOp_r M N (by decide) n) 1).trans hG) hi_n (by omega) ?_
      refine lv_aload_n hx hb dX2_minuteOn_31 rfl (lv_at hl 1 rfl) ?_
      refine lv_iload_n hx hb dX2_minuteOn_32 rfl (lv_at hl 0 rfl) ?_
      refine gt_call0 hC 0 2 1 (ct_X2_open l D cI t q (mOp M N n) K n (by omega) N ((congrFun (mOp_r M N (by decide) n) 2).trans hN) hN12 (ht _ _)) gX2_minuteOn_X2_open dX2_minuteOn_33 hK hP hD hS hA hl.1 rfl hd_X2_open ⟨Nat.le_of_ble_eq_true rfl, Nat.le_of_ble_eq_true rfl⟩ ⟨Nat.le_of_ble_eq_true rfl, Nat.le_of_ble_eq_true rfl⟩ rfl rfl rfl rfl (Nat.le_of_ble_eq_true rfl) (fun H locs hP hD hS => ?_)
      refine gt_inc (lv' := [(1, .int (nI (n + 1))), (0, .ref t)]) hC 0 n dX2_minuteOn_36 hl rfl rfl (by decide) rfl (fun ls hl => ?_)
      refine lv_goto (tgt := 23) hx hb dX2_minuteOn_39 (by decide) ?_
      have hl9 : lv_has ls 2 [(1, .int (nI (n + 1))), (0, .ref t)] := lv_sub hl [0, 1] rfl
      have e9 : mOpF (mOp M N n) n N = (mOp M N (n + 1)) := rfl
      rw [e9] at hP hD
      exact K2 H locs ls hP hD hS hl9
    · skip
      refine lv_iload_n hx hb dX2_minuteOn_23 rfl (lv_at hl 0 rfl) ?_
      refine lv_aload_n hx hb dX2_minuteOn_24 rfl (lv_at hl 1 rfl) ?_
      refine gt_get hC 0 2 1 2 hinX2 hK hP dX2_minuteOn_25 rfl rfl rfl (by decide) rfl rfl ?_
      refine gt_ge_t (tgt := 42) hC G G dX2_minuteOn_28 (by decide) rfl ((congrFun (mOp_r M N (by decide) G) 1).trans hG) (Nat.le_refl _) (by omega) ?_
      refine lv_iconst (v := 0) hx hb dX2_minuteOn_42 (by decide) ?_
      refine lv_istore_n (lv' := [(1, .int 0), (0, .ref t)]) hx hb dX2_minuteOn_43 rfl hl (by decide) rfl (fun ls hl => ?_)
      refine gt_loop D A s.heap 2 N (fun n => [(1, .int (nI n)), (0, .ref t)]) (fun n => (mw cI t q (mWg M N G n) K)) (lv_sub hl [0, 1] rfl) hP hD hS (fun n hi_n H locs ls hP hD hS hl K3 => ?_) (fun H locs ls hP hD hS hl => ?_)
      · skip
        refine lv_iload_n hx hb dX2_minuteOn_44 rfl (lv_at hl 0 rfl) ?_
        refine lv_aload_n hx hb dX2_minuteOn_45 rfl (lv_at hl 1 rfl) ?_
        refine gt_get hC 0 2 2 1 hinX2 hK hP dX2_minuteOn_46 rfl rfl rfl (by decide) rfl rfl ?_
        refine gt_ge_f (tgt := 63) hC n N dX2_minuteOn_49 (by decide) rfl ((congrFun (mWg_r M N G (by decide) n) 2).trans hN) hi_n (by omega) ?_
        refine lv_aload_n hx hb dX2_minuteOn_52 rfl (lv_at hl 1 rfl) ?_
        refine lv_iload_n hx hb dX2_minuteOn_53 rfl (lv_at hl 0 rfl) ?_
        refine gt_call0 hC 0 2 1 (ct_X2_waitOn l D cI t q (mWg M N G n) K n (by omega)) gX2_minuteOn_X2_waitOn dX2_minuteOn_54 hK hP hD hS hA hl.1 rfl hd_X2_waitOn ⟨Nat.le_of_ble_eq_true rfl, Nat.le_of_ble_eq_true rfl⟩ ⟨Nat.le_of_ble_eq_true rfl, Nat.le_of_ble_eq_true rfl⟩ rfl rfl rfl rfl (Nat.le_of_ble_eq_true rfl) (fun H locs hP hD hS => ?_)
        refine gt_inc (lv' := [(1, .int (nI (n + 1))), (0, .ref t)]) hC 0 n dX2_minuteOn_57 hl rfl rfl (by decide) rfl (fun ls hl => ?_)
        refine lv_goto (tgt := 44) hx hb dX2_minuteOn_60 (by decide) ?_
        have hl9 : lv_has ls 2 [(1, .int (nI (n + 1))), (0, .ref t)] := lv_sub hl [0, 1] rfl
        have e9 : mWaT (mWg M N G n) n = (mWg M N G (n + 1)) := rfl
        rw [e9] at hP hD
        exact K3 H locs ls hP hD hS hl9
      · skip
        refine lv_iload_n hx hb dX2_minuteOn_44 rfl (lv_at hl 0 rfl) ?_
        refine lv_aload_n hx hb dX2_minuteOn_45 rfl (lv_at hl 1 rfl) ?_
        refine gt_get hC 0 2 2 1 hinX2 hK hP dX2_minuteOn_46 rfl rfl rfl (by decide) rfl rfl ?_
        refine gt_ge_t (tgt := 63) hC N N dX2_minuteOn_49 (by decide) rfl ((congrFun (mWg_r M N G (by decide) N) 2).trans hN) (Nat.le_refl _) (by omega) ?_
        refine lv_aload_n hx hb dX2_minuteOn_63 rfl (lv_at hl 1 rfl) ?_
        refine gt_get hC 0 2 6 3 hinX2 hK hP dX2_minuteOn_64 rfl rfl rfl (by decide) rfl rfl ?_
        refine lv_iconst (v := 0) hx hb dX2_minuteOn_67 (by decide) ?_
        refine lv_dup2_11 hx hb dX2_minuteOn_68 rfl rfl ?_
        refine gt_ald hC 4 0 0 hK hP dX2_minuteOn_69 rfl rfl (by decide) (by decide) (Nat.le_of_ble_eq_true rfl) ?_
        refine lv_iconst (v := 1) hx hb dX2_minuteOn_70 (by decide) ?_
        refine lv_iadd hx hb dX2_minuteOn_71 ?_
        refine gt_ast (ws' := (mw cI t q (up2 (mWg M N G N) 8 0 (((mWg M N G N) 8 0) + 1)) K)) hC 4 0 0 hK hP hD hS dX2_minuteOn_72 rfl rfl (by decide) (by decide) (Nat.le_of_ble_eq_true rfl) (mw_hdr cI t q (mWg M N G N) K 0 (((mWg M N G N) 8 0) + 1) (by decide)) (fun H locs hP hD hS => ?_)
        exact gt_vret hC hr hlk hK (ws := (mw cI t q (up2 (mWg M N G N) 8 0 (((mWg M N G N) 8 0) + 1)) K)) hP hD hS rfl rfl dX2_minuteOn_73 (Nat.le_of_ble_eq_true rfl) (Nat.le_of_ble_eq_true rfl)

theorem hd_X2_minutesOn : yX2_minutesOn.cls = RX2 ∧ yX2_minutesOn.cls ≠ "java/lang/invoke/MethodHandle" ∧ yX2_minutesOn.cls ≠ "java/lang/invoke/VarHandle" ∧ (parseMethodDescriptor yX2_minutesOn.desc).map (fun d => d.parameters.length) = some 1 := by decide +kernel
set_option maxHeartbeats 400000 in
set_option maxRecDepth 100000 in
theorem ct_X2_minutesOn (l : Launch) (D : va_G) (cI : ClassId) (t : Nat) (q : Nat → Nat) (M K : SS) (mn : Nat) (hmn : mn ≤ 60) (N : Nat) (hN : M 12 2 = nI N) (hN12 : N ≤ 12) (G : Nat) (hG : M 12 1 = nI G) (hG4 : G ≤ 4) (ht : ∀ (X : SS) (g : Nat), mOpN X g N < 13) : Ct l D [(cI, .int)] yX2_minutesOn wsX2_minutesOn 7 156 0 0 [.ref t, .int (nI mn)] (mw cI t q M K) none (mw cI t q (mIt M G N mn) K) := by
  refine Ct.ofW (cc := cX2_minutesOn) (maxL := 3) (ret := none) (by decide) rfl (Nat.le_of_ble_eq_true rfl) ?_
  intro p e s m below meth c A ls hC hr hlk _ hP hD hS hK hA hl
  have hx := hC.1
  have hb := hC.2.1
  have hinX2 : ∀ w ∈ wsX20, w ∈ wsX2_minutesOn := fun _ _h => List.mem_cons_of_mem _ (List.mem_append_right _ _h)
  have hl : lv_has ls 3 [(0, .ref t), (1, .int (nI mn))] := hl
  refine lv_iconst (v := 0) hx hb dX2_minutesOn_0 (by decide) ?_
  refine lv_istore_n (lv' := [(2, .int 0), (0, .ref t), (1, .int (nI mn))]) hx hb dX2_minutesOn_1 rfl hl (by decide) rfl (fun ls hl => ?_)
  refine gt_loop D A s.heap 3 mn (fun n => [(2, .int (nI n)), (0, .ref t), (1, .int (nI mn))]) (fun n => (mw cI t q (mIt M G N n) K)) (lv_sub hl [0, 1, 2] rfl) hP hD hS (fun n hi_n H locs ls hP hD hS hl K1 => ?_) (fun H locs ls hP hD hS hl => ?_)
  · skip
    refine lv_iload_n hx hb dX2_minutesOn_2 rfl (lv_at hl 0 rfl) ?_
    refine lv_iload_n hx hb dX2_minutesOn_3 rfl (lv_at hl 2 rfl) ?_
    refine gt_ge_f (tgt := 17) hC n mn dX2_minutesOn_4 (by decide) rfl rfl hi_n (by omega) ?_
    refine lv_aload_n hx hb dX2_minutesOn_7 rfl (lv_at hl 1 rfl) ?_
    refine gt_call0 hC 0 2 0 (ct_X2_minuteOn l D cI t q (mIt M G N n) K N ((congrFun (mIt_r M G N (by decide) n) 2).trans hN) hN12 G ((congrFun (mIt_r M G N (by decide) n) 1).trans hG) hG4 ht) gX2_minutesOn_X2_minuteOn dX2_minutesOn_8 hK hP hD hS hA hl.1 rfl hd_X2_minuteOn ⟨Nat.le_of_ble_eq_true rfl, Nat.le_of_ble_eq_true rfl⟩ ⟨Nat.le_of_ble_eq_true rfl, Nat.le_of_ble_eq_true rfl⟩ rfl rfl rfl rfl (Nat.le_of_ble_eq_true rfl) (fun H locs hP hD hS => ?_)
    refine gt_inc (lv' := [(2, .int (nI (n + 1))), (0, .ref t), (1, .int (nI mn))]) hC 0 n dX2_minutesOn_11 hl rfl rfl (by decide) rfl (fun ls hl => ?_)
    refine lv_goto (tgt := 2) hx hb dX2_minutesOn_14 (by decide) ?_
    have hl9 : lv_has ls 3 [(2, .int (nI (n + 1))), (0, .ref t), (1, .int (nI mn))] := lv_sub hl [0, 1, 2] rfl
    have e9 : mMin (mIt M G N n) G N = (mIt M G N (n + 1)) := rfl
    rw [e9] at hP hD
    exact K1 H locs ls hP hD hS hl9
  · skip
    refine lv_iload_n hx hb dX2_minutesOn_2 rfl (lv_at hl 0 rfl) ?_
    refine lv_iload_n hx hb dX2_minutesOn_3 rfl (lv_at hl 2 rfl) ?_
    refine gt_ge_t (tgt := 17) hC mn mn dX2_minutesOn_4 (by decide) rfl rfl (Nat.le_refl _) (by omega) ?_
    exact gt_vret hC hr hlk hK (ws := (mw cI t q (mIt M G N mn) K)) hP hD hS rfl rfl dX2_minutesOn_17 (Nat.le_of_ble_eq_true rfl) (Nat.le_of_ble_eq_true rfl)
