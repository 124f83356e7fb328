/-! The contracts of the reference's methods, second half (laid by wip/whole/gen/model2.py). -/
theorem hd_X2_keep : yX2_keep.cls = RX2 ∧ yX2_keep.cls ≠ "java/lang/invoke/MethodHandle" ∧ yX2_keep.cls ≠ "java/lang/invoke/VarHandle" ∧ (parseMethodDescriptor yX2_keep.desc).map (fun d => d.parameters.length) = some 0 := by decide +kernel
set_option maxHeartbeats 400000 in
set_option maxRecDepth 100000 in
theorem ct_X2_keep (l : Launch) (D : va_G) (cI : ClassId) (t : Nat) (q : Nat → Nat) (M K : SS)  : Ct l D [(cI, .int)] yX2_keep wsX2_keep 1 60 0 0 [.ref t] (mw cI t q M K) none (mw cI t q M M) := by
  refine Ct.ofW (cc := cX2_keep) (maxL := 1) (ret := none) (by decide) rfl (Nat.le_of_ble_eq_true rfl) ?_
  intro p e s m below meth c A ls hC hr hlk _ hP hD hS hK hA hl
  have hx := hC.1
  have hb := hC.2.1
  have hinX2 : ∀ w ∈ wsX20, w ∈ wsX2_keep := fun _ _h => List.mem_cons_of_mem _ (List.mem_append_right _ _h)
  have hl : lv_has ls 1 [(0, .ref t)] := hl
  refine lv_aload_n hx hb dX2_keep_0 rfl (lv_at hl 0 rfl) ?_
  refine gt_get hC 0 2 6 1 hinX2 hK hP dX2_keep_1 rfl rfl rfl (by decide) rfl rfl ?_
  refine lv_iconst (v := 0) hx hb dX2_keep_4 (by decide) ?_
  refine lv_aload_n hx hb dX2_keep_5 rfl (lv_at hl 0 rfl) ?_
  refine gt_get hC 0 2 7 2 hinX2 hK hP dX2_keep_6 rfl rfl rfl (by decide) rfl rfl ?_
  refine lv_iconst (v := 0) hx hb dX2_keep_9 (by decide) ?_
  refine lv_bipush (v := 100) hx hb dX2_keep_10 (by decide) ?_
  refine va_copyi hx hb (hC.2.2.1.trans hl.1.symm) hC.2.2.2.1 (hC.2.2.2.2 _ (List.mem_of_getElem? (i := 3) rfl)) (hC.2.2.2.2 _ (List.mem_of_getElem? (i := 4) rfl)) (hC.2.2.2.2 _ (List.mem_of_getElem? (i := 5) rfl)) (hC.2.2.2.2 _ (List.mem_of_getElem? (i := 6) rfl)) hK hP hD hS 4 5 0 0 rfl rfl rfl rfl rfl (by decide) (by decide) (by decide) (by decide) (by decide) (fun i _ => rfl) (by decide) (by decide +kernel) dX2_keep_12 (fun H locs hP hD hS => ?_)
  have hP : va_P D vwCl (mw cI t q M M) H := mw_keepP hP
  have hD : va_D A (mw cI t q M M) := gt_Dsame (by rfl) hD
  exact gt_vret hC hr hlk hK (ws := (mw cI t q M M)) hP hD hS rfl rfl dX2_keep_15 (Nat.le_of_ble_eq_true rfl) (Nat.le_of_ble_eq_true rfl)

theorem hd_X2_bringBack : yX2_bringBack.cls = RX2 ∧ yX2_bringBack.cls ≠ "java/lang/invoke/MethodHandle" ∧ yX2_bringBack.cls ≠ "java/lang/invoke/VarHandle" ∧ (parseMethodDescriptor yX2_bringBack.desc).map (fun d => d.parameters.length) = some 0 := by decide +kernel
set_option maxHeartbeats 400000 in
set_option maxRecDepth 100000 in
theorem ct_X2_bringBack (l : Launch) (D : va_G) (cI : ClassId) (t : Nat) (q : Nat → Nat) (M K : SS)  : Ct l D [(cI, .int)] yX2_bringBack wsX2_bringBack 1 60 0 0 [.ref t] (mw cI t q M K) none (mw cI t q (mBack M K) K) := by
  refine Ct.ofW (cc := cX2_bringBack) (maxL := 1) (ret := none) (by decide) rfl (Nat.le_of_ble_eq_true rfl) ?_
  intro p e s m below meth c A ls hC hr hlk _ hP hD hS hK hA hl
  have hx := hC.1
  have hb := hC.2.1
  have hinX2 : ∀ w ∈ wsX20, w ∈ wsX2_bringBack := fun _ _h => List.mem_cons_of_mem _ (List.mem_append_right _ _h)
  have hl : lv_has ls 1 [(0, .ref t)] := hl
  refine lv_aload_n hx hb dX2_bringBack_0 rfl (lv_at hl 0 rfl) ?_
  refine gt_get hC 0 2 7 1 hinX2 hK hP dX2_bringBack_1 rfl rfl rfl (by decide) rfl rfl ?_
  refine lv_iconst (v := 0) hx hb dX2_bringBack_4 (by decide) ?_
  refine lv_aload_n hx hb dX2_bringBack_5 rfl (lv_at hl 0 rfl) ?_
  refine gt_get hC 0 2 6 2 hinX2 hK hP dX2_bringBack_6 rfl rfl rfl (by decide) rfl rfl ?_
  refine lv_iconst (v := 0) hx hb dX2_bringBack_9 (by decide) ?_
  refine lv_bipush (v := 100) hx hb dX2_bringBack_10 (by decide) ?_
  refine va_copyi hx hb (hC.2.2.1.trans hl.1.symm) hC.2.2.2.1 (hC.2.2.2.2 _ (List.mem_of_getElem? (i := 3) rfl)) (hC.2.2.2.2 _ (List.mem_of_getElem? (i := 4) rfl)) (hC.2.2.2.2 _ (List.mem_of_getElem? (i := 5) rfl)) (hC.2.2.2.2 _ (List.mem_of_getElem? (i := 6) rfl)) hK hP hD hS 5 4 0 0 rfl rfl rfl rfl rfl (by decide) (by decide) (by decide) (by decide) (by decide) (fun i _ => rfl) (by decide) (by decide +kernel) dX2_bringBack_12 (fun H locs hP hD hS => ?_)
  have hP : va_P D vwCl (mw cI t q (mBack M K) K) H := mw_backP hP
  have hD : va_D A (mw cI t q (mBack M K) K) := gt_Dsame (by rfl) hD
  exact gt_vret hC hr hlk hK (ws := (mw cI t q (mBack M K) K)) hP hD hS rfl rfl dX2_bringBack_15 (Nat.le_of_ble_eq_true rfl) (Nat.le_of_ble_eq_true rfl)

theorem hd_X2_until : yX2_until.cls = RX2 ∧ yX2_until.cls ≠ "java/lang/invoke/MethodHandle" ∧ yX2_until.cls ≠ "java/lang/invoke/VarHandle" ∧ (parseMethodDescriptor yX2_until.desc).map (fun d => d.parameters.length) = some 1 := by decide +kernel
set_option maxHeartbeats 400000 in
set_option maxRecDepth 100000 in
theorem ct_X2_until (l : Launch) (D : va_G) (cI : ClassId) (t : Nat) (q : Nat → Nat) (M K : SS) (k : Nat) (hk : k < 12) (N : Nat) (hN : M 12 2 = nI N) (hN12 : N ≤ 12) (G : Nat) (hG : M 12 1 = nI G) (hG4 : G ≤ 4) (ht : ∀ (X : SS) (g : Nat), mOpN X g N < 13) (hu : mUnN M G N k < 61) : Ct l D [(cI, .int)] yX2_until wsX2_until 7 156 0 0 [.ref t, .int (nI k)] (mw cI t q M K) (some (.int (mUn M G N k))) (mw cI t q M (if mIs M k 1 = 0 then K else M)) := by
  refine Ct.ofW (cc := cX2_until) (maxL := 4) (ret := (some .int)) (by decide) rfl (Nat.le_of_ble_eq_true rfl) ?_
  intro p e s m below meth c A ls hC hr hlk _ hP hD hS hK hA hl
  have hx := hC.1
  have hb := hC.2.1
  have hinX2 : ∀ w ∈ wsX20, w ∈ wsX2_until := fun _ _h => List.mem_cons_of_mem _ (List.mem_append_right _ _h)
  have hl : lv_has ls 4 [(0, .ref t), (1, .int (nI k))] := hl
  refine lv_aload_n hx hb dX2_until_0 rfl (lv_at hl 0 rfl) ?_
  refine lv_iload_n hx hb dX2_until_1 rfl (lv_at hl 1 rfl) ?_
  refine lv_iconst (v := 1) hx hb dX2_until_2 (by decide) ?_
  refine gt_call0 hC 0 2 2 (ct_X2_is l D cI t q M K k 1 (by omega)) gX2_until_X2_is dX2_until_3 hK hP hD hS hA hl.1 rfl hd_X2_is ⟨Nat.le_of_ble_eq_true rfl, Nat.le_of_ble_eq_true rfl⟩ ⟨Nat.le_of_ble_eq_true rfl, Nat.le_of_ble_eq_true rfl⟩ rfl rfl rfl rfl (Nat.le_of_ble_eq_true rfl) (fun H locs hP hD hS => ?_)
  refine lv_if_ne (tgt := 11) hx hb dX2_until_6 (by decide) (fun c6_1 : ¬ ((mIs M k 1) = 0) => ?_) (fun c6_1 : (mIs M k 1) = 0 => ?_)
  · skip
    refine lv_aload_n hx hb dX2_until_11 rfl (lv_at hl 0 rfl) ?_
    refine gt_call0 hC 0 2 0 (ct_X2_keep l D cI t q M K) gX2_until_X2_keep dX2_until_12 hK hP hD hS hA hl.1 rfl hd_X2_keep ⟨Nat.le_of_ble_eq_true rfl, Nat.le_of_ble_eq_true rfl⟩ ⟨Nat.le_of_ble_eq_true rfl, Nat.le_of_ble_eq_true rfl⟩ rfl rfl rfl rfl (Nat.le_of_ble_eq_true rfl) (fun H locs hP hD hS => ?_)
    refine lv_iconst (v := 0) hx hb dX2_until_15 (by decide) ?_
    refine lv_istore_n (lv' := [(2, .int 0), (0, .ref t), (1, .int (nI k))]) hx hb dX2_until_16 rfl hl (by decide) rfl (fun ls hl => ?_)
    refine gt_loop D A s.heap 4 (mUnN M G N k) (fun n => [(2, .int (nI n)), (0, .ref t), (1, .int (nI k))]) (fun n => (mw cI t q (mIt M G N n) M)) (lv_sub hl [0, 1, 2] rfl) hP hD hS (fun n hi_n H locs ls hP hD hS hl K2 => ?_) (fun H locs ls hP hD hS hl => ?_)
    · skip
      have hno : ¬ mIs (mIt M G N n) k 1 = 0 := of_decide_eq_false (gxF_no (fun i => decide (mIs (mIt M G N i) k 1 = 0)) 61 n hi_n)
      refine lv_aload_n hx hb dX2_until_17 rfl (lv_at hl 1 rfl) ?_
      refine lv_iload_n hx hb dX2_until_18 rfl (lv_at hl 2 rfl) ?_
      refine lv_iconst (v := 1) hx hb dX2_until_19 (by decide) ?_
      refine gt_call0 hC 0 2 2 (ct_X2_is l D cI t q (mIt M G N n) M k 1 (by omega)) gX2_until_X2_is dX2_until_20 hK hP hD hS hA hl.1 rfl hd_X2_is ⟨Nat.le_of_ble_eq_true rfl, Nat.le_of_ble_eq_true rfl⟩ ⟨Nat.le_of_ble_eq_true rfl, Nat.le_of_ble_eq_true rfl⟩ rfl rfl rfl rfl (Nat.le_of_ble_eq_true rfl) (fun H locs hP hD hS => ?_)
      refine lv_if_eq (tgt := 36) hx hb dX2_until_23 (by decide) (fun c23_3 : (mIs (mIt M G N n) k 1) = 0 => absurd c23_3 hno) (fun c23_3 : ¬ ((mIs (mIt M G N n) k 1) = 0) => ?_)
      refine lv_aload_n hx hb dX2_until_26 rfl (lv_at hl 1 rfl) ?_
      refine gt_call0 hC 0 2 0 (ct_X2_minuteOn l D cI t q (mIt M G N n) M N ((congrFun (mIt_r M G N (by decide) n) 2).trans hN) hN12 G ((congrFun (mIt_r M G N (by decide) n) 1).trans hG) hG4 ht) gX2_until_X2_minuteOn dX2_until_27 hK hP hD hS hA hl.1 rfl hd_X2_minuteOn ⟨Nat.le_of_ble_eq_true rfl, Nat.le_of_ble_eq_true rfl⟩ ⟨Nat.le_of_ble_eq_true rfl, Nat.le_of_ble_eq_true rfl⟩ rfl rfl rfl rfl (Nat.le_of_ble_eq_true rfl) (fun H locs hP hD hS => ?_)
      refine gt_inc (lv' := [(2, .int (nI (n + 1))), (0, .ref t), (1, .int (nI k))]) hC 0 n dX2_until_30 hl rfl rfl (by decide) rfl (fun ls hl => ?_)
      refine lv_goto (tgt := 17) hx hb dX2_until_33 (by decide) ?_
      have hl9 : lv_has ls 4 [(2, .int (nI (n + 1))), (0, .ref t), (1, .int (nI k))] := lv_sub hl [0, 1, 2] rfl
      have e9 : mMin (mIt M G N n) G N = (mIt M G N (n + 1)) := rfl
      rw [e9] at hP hD
      exact K2 H locs ls hP hD hS hl9
    · skip
      have hye : mIs (mIt M G N (mUnN M G N k)) k 1 = 0 := of_decide_eq_true (gxF_yes (fun i => decide (mIs (mIt M G N i) k 1 = 0)) 61 hu)
      refine lv_aload_n hx hb dX2_until_17 rfl (lv_at hl 1 rfl) ?_
      refine lv_iload_n hx hb dX2_until_18 rfl (lv_at hl 2 rfl) ?_
      refine lv_iconst (v := 1) hx hb dX2_until_19 (by decide) ?_
      refine gt_call0 hC 0 2 2 (ct_X2_is l D cI t q (mIt M G N (mUnN M G N k)) M k 1 (by omega)) gX2_until_X2_is dX2_until_20 hK hP hD hS hA hl.1 rfl hd_X2_is ⟨Nat.le_of_ble_eq_true rfl, Nat.le_of_ble_eq_true rfl⟩ ⟨Nat.le_of_ble_eq_true rfl, Nat.le_of_ble_eq_true rfl⟩ rfl rfl rfl rfl (Nat.le_of_ble_eq_true rfl) (fun H locs hP hD hS => ?_)
      refine lv_if_eq (tgt := 36) hx hb dX2_until_23 (by decide) (fun c23_4 : (mIs (mIt M G N (mUnN M G N k)) k 1) = 0 => ?_) (fun c23_4 : ¬ ((mIs (mIt M G N (mUnN M G N k)) k 1) = 0) => absurd c23_4 (not_not_intro hye))
      refine lv_aload_n hx hb dX2_until_36 rfl (lv_at hl 1 rfl) ?_
      refine lv_iload_n hx hb dX2_until_37 rfl (lv_at hl 2 rfl) ?_
      refine lv_iconst (v := 2) hx hb dX2_until_38 (by decide) ?_
      refine gt_call0 hC 0 2 2 (ct_X2_is l D cI t q (mIt M G N (mUnN M G N k)) M k 2 (by omega)) gX2_until_X2_is dX2_until_39 hK hP hD hS hA hl.1 rfl hd_X2_is ⟨Nat.le_of_ble_eq_true rfl, Nat.le_of_ble_eq_true rfl⟩ ⟨Nat.le_of_ble_eq_true rfl, Nat.le_of_ble_eq_true rfl⟩ rfl rfl rfl rfl (Nat.le_of_ble_eq_true rfl) (fun H locs hP hD hS => ?_)
      refine lv_istore_n (lv' := [(3, .int (mIs (mIt M G N (mUnN M G N k)) k 2)), (2, .int (nI (mUnN M G N k))), (0, .ref t), (1, .int (nI k))]) hx hb dX2_until_42 rfl hl (by decide) rfl (fun ls hl => ?_)
      refine lv_aload_n hx hb dX2_until_43 rfl (lv_at hl 2 rfl) ?_
      refine gt_call0 hC 0 2 0 (ct_X2_bringBack l D cI t q (mIt M G N (mUnN M G N k)) M) gX2_until_X2_bringBack dX2_until_44 hK hP hD hS hA hl.1 rfl hd_X2_bringBack ⟨Nat.le_of_ble_eq_true rfl, Nat.le_of_ble_eq_true rfl⟩ ⟨Nat.le_of_ble_eq_true rfl, Nat.le_of_ble_eq_true rfl⟩ rfl rfl rfl rfl (Nat.le_of_ble_eq_true rfl) (fun H locs hP hD hS => ?_)
      refine lv_iload_n hx hb dX2_until_47 rfl (lv_at hl 0 rfl) ?_
      refine gt_meet (rest := []) 56 (mUnR M G N k) (fun K5 => ?_) ?_
      · skip
        refine lv_if_eq (tgt := 55) hx hb dX2_until_48 (by decide) (fun c48_6 : (mIs (mIt M G N (mUnN M G N k)) k 2) = 0 => ?_) (fun c48_6 : ¬ ((mIs (mIt M G N (mUnN M G N k)) k 2) = 0) => ?_)
        · skip
          refine lv_iconst (v := (-1)) hx hb dX2_until_55 (by decide) ?_
          exact K5 _ (show (-1) = (if (mIs (mIt M G N (mUnN M G N k)) k 2) = 0 then (-1) else (nI (mUnN M G N k))) from by rw [if_pos c48_6])
        · skip
          refine lv_iload_n hx hb dX2_until_51 rfl (lv_at hl 1 rfl) ?_
          refine lv_goto (tgt := 56) hx hb dX2_until_52 (by decide) ?_
          exact K5 _ (show (nI (mUnN M G N k)) = (if (mIs (mIt M G N (mUnN M G N k)) k 2) = 0 then (-1) else (nI (mUnN M G N k))) from by rw [if_neg c48_6])
      · skip
        exact gt_iret hC hr hlk hK (ws := (mw cI t q (mBack (mIt M G N (mUnN M G N k)) M) M)) hP hD hS (show some (Value.int (mUnR M G N k)) = _ from (congrArg (fun z => some (Value.int z)) (if_neg c6_1).symm)) (by rw [mBack_it, if_neg c6_1]) dX2_until_56 (Nat.le_of_ble_eq_true rfl) (Nat.le_of_ble_eq_true rfl)
  · skip
    refine lv_iconst (v := (-1)) hx hb dX2_until_9 (by decide) ?_
    exact gt_iret hC hr hlk hK (ws := (mw cI t q M K)) hP hD hS (show some (Value.int (-1)) = _ from (congrArg (fun z => some (Value.int z)) (if_pos c6_1).symm)) (by rw [if_pos c6_1]) dX2_until_10 (Nat.le_of_ble_eq_true rfl) (Nat.le_of_ble_eq_true rfl)

theorem hd_X2_lost : yX2_lost.cls = RX2 ∧ yX2_lost.cls ≠ "java/lang/invoke/MethodHandle" ∧ yX2_lost.cls ≠ "java/lang/invoke/VarHandle" ∧ (parseMethodDescriptor yX2_lost.desc).map (fun d => d.parameters.length) = some 1 := by decide +kernel
set_option maxHeartbeats 400000 in
set_option maxRecDepth 100000 in
theorem ct_X2_lost (l : Launch) (D : va_G) (cI : ClassId) (t : Nat) (q : Nat → Nat) (M K : SS) (g : Nat) (hg : g < 4) (N : Nat) (hN : M 12 2 = nI N) (hN12 : N ≤ 12) (G : Nat) (hG : M 12 1 = nI G) (hG4 : G ≤ 4) (ht : ∀ (X : SS) (g : Nat), mOpN X g N < 13) : Ct l D [(cI, .int)] yX2_lost wsX2_lost 7 156 0 0 [.ref t, .int (nI g)] (mw cI t q M K) (some (.int (mLost M G N g))) (mw cI t q M M) := by
  refine Ct.ofW (cc := cX2_lost) (maxL := 6) (ret := (some .int)) (by decide) rfl (Nat.le_of_ble_eq_true rfl) ?_
  intro p e s m below meth c A ls hC hr hlk _ hP hD hS hK hA hl
  have hx := hC.1
  have hb := hC.2.1
  have hinX2 : ∀ w ∈ wsX20, w ∈ wsX2_lost := fun _ _h => List.mem_cons_of_mem _ (List.mem_append_right _ _h)
  have hl : lv_has ls 6 [(0, .ref t), (1, .int (nI g))] := hl
  refine lv_iconst (v := 0) hx hb dX2_lost_0 (by decide) ?_
  refine lv_istore_n (lv' := [(2, .int 0), (0, .ref t), (1, .int (nI g))]) hx hb dX2_lost_1 rfl hl (by decide) rfl (fun ls hl => ?_)
  refine lv_iconst (v := 0) hx hb dX2_lost_2 (by decide) ?_
  refine lv_istore_n (lv' := [(3, .int 0), (2, .int 0), (0, .ref t), (1, .int (nI g))]) hx hb dX2_lost_3 rfl hl (by decide) rfl (fun ls hl => ?_)
  refine gt_loop D A s.heap 6 N (fun n => [(3, .int (nI n)), (2, .int (mMk M g n)), (0, .ref t), (1, .int (nI g))]) (fun n => (mw cI t q M K)) (lv_sub hl [0, 1, 2, 3] rfl) hP hD hS (fun n hi_n H locs ls hP hD hS hl K1 => ?_) (fun H locs ls hP hD hS hl => ?_)
  · skip
    refine lv_iload_n hx hb dX2_lost_4 rfl (lv_at hl 0 rfl) ?_
    refine lv_aload_n hx hb dX2_lost_5 rfl (lv_at hl 2 rfl) ?_
    refine gt_get hC 0 2 2 1 hinX2 hK hP dX2_lost_6 rfl rfl rfl (by decide) rfl rfl ?_
    refine gt_ge_f (tgt := 37) hC n N dX2_lost_9 (by decide) rfl hN hi_n (by omega) ?_
    refine lv_iload_n hx hb dX2_lost_12 rfl (lv_at hl 1 rfl) ?_
    refine lv_aload_n hx hb dX2_lost_13 rfl (lv_at hl 2 rfl) ?_
    refine lv_iload_n hx hb dX2_lost_14 rfl (lv_at hl 0 rfl) ?_
    refine lv_iload_n hx hb dX2_lost_15 rfl (lv_at hl 3 rfl) ?_
    refine gt_call0 hC 0 2 2 (ct_X2_isAt l D cI t q M K n (nI g) (by omega)) gX2_lost_X2_isAt dX2_lost_16 hK hP hD hS hA hl.1 rfl hd_X2_isAt ⟨Nat.le_of_ble_eq_true rfl, Nat.le_of_ble_eq_true rfl⟩ ⟨Nat.le_of_ble_eq_true rfl, Nat.le_of_ble_eq_true rfl⟩ rfl rfl rfl rfl (Nat.le_of_ble_eq_true rfl) (fun H locs hP hD hS => ?_)
    refine gt_meet (rest := [.int (mMk M g n)]) 29 (if (mAt M n (nI g)) = 0 then 0 else ((1 : Int32) <<< ((nI n) &&& 31))) (fun K2 => ?_) ?_
    · skip
      refine lv_if_eq (tgt := 28) hx hb dX2_lost_19 (by decide) (fun c19_3 : (mAt M n (nI g)) = 0 => ?_) (fun c19_3 : ¬ ((mAt M n (nI g)) = 0) => ?_)
      · skip
        refine lv_iconst (v := 0) hx hb dX2_lost_28 (by decide) ?_
        exact K2 _ (show 0 = (if (mAt M n (nI g)) = 0 then 0 else ((1 : Int32) <<< ((nI n) &&& 31))) from by rw [if_pos c19_3])
      · skip
        refine lv_iconst (v := 1) hx hb dX2_lost_22 (by decide) ?_
        refine lv_iload_n hx hb dX2_lost_23 rfl (lv_at hl 0 rfl) ?_
        refine lv_ishl hx hb dX2_lost_24 ?_
        refine lv_goto (tgt := 29) hx hb dX2_lost_25 (by decide) ?_
        exact K2 _ (show ((1 : Int32) <<< ((nI n) &&& 31)) = (if (mAt M n (nI g)) = 0 then 0 else ((1 : Int32) <<< ((nI n) &&& 31))) from by rw [if_neg c19_3])
    · skip
      refine lv_ior hx hb dX2_lost_29 ?_
      refine lv_istore_n (lv' := [(2, .int ((mMk M g n) ||| (if (mAt M n (nI g)) = 0 then 0 else ((1 : Int32) <<< ((nI n) &&& 31))))), (3, .int (nI n)), (0, .ref t), (1, .int (nI g))]) hx hb dX2_lost_30 rfl hl (by decide) rfl (fun ls hl => ?_)
      refine gt_inc (lv' := [(3, .int (nI (n + 1))), (2, .int ((mMk M g n) ||| (if (mAt M n (nI g)) = 0 then 0 else ((1 : Int32) <<< ((nI n) &&& 31))))), (0, .ref t), (1, .int (nI g))]) hC 1 n dX2_lost_31 hl rfl rfl (by decide) rfl (fun ls hl => ?_)
      refine lv_goto (tgt := 4) hx hb dX2_lost_34 (by decide) ?_
      have hl9 : lv_has ls 6 [(3, .int (nI (n + 1))), (2, .int ((mMk M g n) ||| (if (mAt M n (nI g)) = 0 then 0 else ((1 : Int32) <<< ((nI n) &&& 31))))), (0, .ref t), (1, .int (nI g))] := lv_sub hl [0, 1, 2, 3] rfl
      rw [show .int ((mMk M g n) ||| (if (mAt M n (nI g)) = 0 then 0 else ((1 : Int32) <<< ((nI n) &&& 31)))) = (Value.int (mMk M g (n + 1))) from congrArg _ (rfl)] at hl9
      exact K1 H locs ls hP hD hS hl9
  · skip
    refine lv_iload_n hx hb dX2_lost_4 rfl (lv_at hl 0 rfl) ?_
    refine lv_aload_n hx hb dX2_lost_5 rfl (lv_at hl 2 rfl) ?_
    refine gt_get hC 0 2 2 1 hinX2 hK hP dX2_lost_6 rfl rfl rfl (by decide) rfl rfl ?_
    refine gt_ge_t (tgt := 37) hC N N dX2_lost_9 (by decide) rfl hN (Nat.le_refl _) (by omega) ?_
    refine lv_aload_n hx hb dX2_lost_37 rfl (lv_at hl 2 rfl) ?_
    refine gt_call0 hC 0 2 0 (ct_X2_keep l D cI t q M K) gX2_lost_X2_keep dX2_lost_38 hK hP hD hS hA hl.1 rfl hd_X2_keep ⟨Nat.le_of_ble_eq_true rfl, Nat.le_of_ble_eq_true rfl⟩ ⟨Nat.le_of_ble_eq_true rfl, Nat.le_of_ble_eq_true rfl⟩ rfl rfl rfl rfl (Nat.le_of_ble_eq_true rfl) (fun H locs hP hD hS => ?_)
    refine lv_iconst (v := 0) hx hb dX2_lost_41 (by decide) ?_
    refine lv_istore_n (lv' := [(3, .int 0), (2, .int (mMk M g N)), (0, .ref t), (1, .int (nI g))]) hx hb dX2_lost_42 rfl hl (by decide) rfl (fun ls hl => ?_)
    refine lv_iconst (v := 0) hx hb dX2_lost_43 (by decide) ?_
    refine lv_istore (lv' := [(4, .int 0), (3, .int 0), (2, .int (mMk M g N)), (0, .ref t), (1, .int (nI g))]) hx hb dX2_lost_44 hl (by decide) rfl (fun ls hl => ?_)
    refine gt_loop D A s.heap 6 60 (fun n => [(4, .int (nI n)), (3, .int ((mLo M G N g n).1)), (2, .int ((mLo M G N g n).2)), (0, .ref t), (1, .int (nI g))]) (fun n => (mw cI t q (mIt M G N n) M)) (lv_sub hl [0, 1, 2, 3, 4] rfl) hP hD hS (fun n hi_n H locs ls hP hD hS hl K4 => ?_) (fun H locs ls hP hD hS hl => ?_)
    · skip
      refine lv_iload hx hb dX2_lost_46 (lv_at hl 0 rfl) ?_
      refine lv_bipush (v := 60) hx hb dX2_lost_48 (by decide) ?_
      refine gt_ge_f (tgt := 130) hC n 60 dX2_lost_50 (by decide) rfl (by decide) hi_n (by decide) ?_
      refine lv_aload_n hx hb dX2_lost_53 rfl (lv_at hl 3 rfl) ?_
      refine gt_call0 hC 0 2 0 (ct_X2_minuteOn l D cI t q (mIt M G N n) M N ((congrFun (mIt_r M G N (by decide) n) 2).trans hN) hN12 G ((congrFun (mIt_r M G N (by decide) n) 1).trans hG) hG4 ht) gX2_lost_X2_minuteOn dX2_lost_54 hK hP hD hS hA hl.1 rfl hd_X2_minuteOn ⟨Nat.le_of_ble_eq_true rfl, Nat.le_of_ble_eq_true rfl⟩ ⟨Nat.le_of_ble_eq_true rfl, Nat.le_of_ble_eq_true rfl⟩ rfl rfl rfl rfl (Nat.le_of_ble_eq_true rfl) (fun H locs hP hD hS => ?_)
      refine lv_iconst (v := 0) hx hb dX2_lost_57 (by decide) ?_
      refine lv_istore (lv' := [(5, .int 0), (4, .int (nI n)), (3, .int ((mLo M G N g n).1)), (2, .int ((mLo M G N g n).2)), (0, .ref t), (1, .int (nI g))]) hx hb dX2_lost_58 hl (by decide) rfl (fun ls hl => ?_)
      refine gt_loop D A s.heap 6 N (fun k => [(5, .int (nI k)), (3, .int ((mLi (mIt M G N (n + 1)) (mLo M G N g n) k).1)), (2, .int ((mLi (mIt M G N (n + 1)) (mLo M G N g n) k).2)), (4, .int (nI n)), (0, .ref t), (1, .int (nI g))]) (fun k => (mw cI t q (mIt M G N (n + 1)) M)) (lv_sub hl [0, 2, 3, 1, 4, 5] rfl) hP hD hS (fun k hi_k H locs ls hP hD hS hl K5 => ?_) (fun H locs ls hP hD hS hl => ?_)
      · skip
        refine lv_iload hx hb dX2_lost_60 (lv_at hl 0 rfl) ?_
        refine lv_aload_n hx hb dX2_lost_62 rfl (lv_at hl 4 rfl) ?_
        refine gt_get hC 0 2 2 1 hinX2 hK hP dX2_lost_63 rfl rfl rfl (by decide) rfl rfl ?_
        refine gt_ge_f (tgt := 124) hC k N dX2_lost_66 (by decide) rfl ((congrFun (mIt_r M G N (by decide) (n + 1)) 2).trans hN) hi_k (by omega) ?_
        refine lv_iload_n hx hb dX2_lost_69 rfl (lv_at hl 2 rfl) ?_
        refine lv_iload hx hb dX2_lost_70 (lv_at hl 0 rfl) ?_
        refine lv_ishr hx hb dX2_lost_72 ?_
        refine lv_iconst (v := 1) hx hb dX2_lost_73 (by decide) ?_
        refine lv_iand hx hb dX2_lost_74 ?_
        refine lv_if_eq (tgt := 118) hx hb dX2_lost_75 (by decide) (fun c75_6 : ((((mLi (mIt M G N (n + 1)) (mLo M G N g n) k).2) >>> ((nI k) &&& 31)) &&& 1) = 0 => ?_) (fun c75_6 : ¬ (((((mLi (mIt M G N (n + 1)) (mLo M G N g n) k).2) >>> ((nI k) &&& 31)) &&& 1) = 0) => ?_)
        · skip
          refine gt_inc (lv' := [(5, .int (nI (k + 1))), (3, .int ((mLi (mIt M G N (n + 1)) (mLo M G N g n) k).1)), (2, .int ((mLi (mIt M G N (n + 1)) (mLo M G N g n) k).2)), (4, .int (nI n)), (0, .ref t), (1, .int (nI g))]) hC 0 k dX2_lost_118 hl rfl rfl (by decide) rfl (fun ls hl => ?_)
          refine lv_goto (tgt := 60) hx hb dX2_lost_121 (by decide) ?_
          have hl9 : lv_has ls 6 [(5, .int (nI (k + 1))), (3, .int ((mLi (mIt M G N (n + 1)) (mLo M G N g n) k).1)), (2, .int ((mLi (mIt M G N (n + 1)) (mLo M G N g n) k).2)), (4, .int (nI n)), (0, .ref t), (1, .int (nI g))] := lv_sub hl [0, 1, 2, 3, 4, 5] rfl
          rw [show .int ((mLi (mIt M G N (n + 1)) (mLo M G N g n) k).1) = (Value.int ((mLi (mIt M G N (n + 1)) (mLo M G N g n) (k + 1)).1)) from congrArg _ ((congrArg Prod.fst (show mLiS (mIt M G N (n + 1)) k (mLi (mIt M G N (n + 1)) (mLo M G N g n) k) = (mLi (mIt M G N (n + 1)) (mLo M G N g n) k) from ((if_pos c75_6).trans rfl))).symm)] at hl9
          rw [show .int ((mLi (mIt M G N (n + 1)) (mLo M G N g n) k).2) = (Value.int ((mLi (mIt M G N (n + 1)) (mLo M G N g n) (k + 1)).2)) from congrArg _ ((congrArg Prod.snd (show mLiS (mIt M G N (n + 1)) k (mLi (mIt M G N (n + 1)) (mLo M G N g n) k) = (mLi (mIt M G N (n + 1)) (mLo M G N g n) k) from ((if_pos c75_6).trans rfl))).symm)] at hl9
          exact K5 H locs ls hP hD hS hl9
        · skip
          refine lv_aload_n hx hb dX2_lost_78 rfl (lv_at hl 4 rfl) ?_
          refine lv_iload hx hb dX2_lost_79 (lv_at hl 0 rfl) ?_
          refine lv_iconst (v := 1) hx hb dX2_lost_81 (by decide) ?_
          refine gt_call0 hC 0 2 2 (ct_X2_is l D cI t q (mIt M G N (n + 1)) M k 1 (by omega)) gX2_lost_X2_is dX2_lost_82 hK hP hD hS hA hl.1 rfl hd_X2_is ⟨Nat.le_of_ble_eq_true rfl, Nat.le_of_ble_eq_true rfl⟩ ⟨Nat.le_of_ble_eq_true rfl, Nat.le_of_ble_eq_true rfl⟩ rfl rfl rfl rfl (Nat.le_of_ble_eq_true rfl) (fun H locs hP hD hS => ?_)
          refine lv_if_eq (tgt := 91) hx hb dX2_lost_85 (by decide) (fun c85_7 : (mIs (mIt M G N (n + 1)) k 1) = 0 => ?_) (fun c85_7 : ¬ ((mIs (mIt M G N (n + 1)) k 1) = 0) => ?_)
          · skip
            refine lv_iload_n hx hb dX2_lost_91 rfl (lv_at hl 1 rfl) ?_
            refine lv_aload_n hx hb dX2_lost_92 rfl (lv_at hl 4 rfl) ?_
            refine lv_iload hx hb dX2_lost_93 (lv_at hl 0 rfl) ?_
            refine lv_iconst (v := 0) hx hb dX2_lost_95 (by decide) ?_
            refine gt_call0 hC 0 2 2 (ct_X2_is l D cI t q (mIt M G N (n + 1)) M k 0 (by omega)) gX2_lost_X2_is dX2_lost_96 hK hP hD hS hA hl.1 rfl hd_X2_is ⟨Nat.le_of_ble_eq_true rfl, Nat.le_of_ble_eq_true rfl⟩ ⟨Nat.le_of_ble_eq_true rfl, Nat.le_of_ble_eq_true rfl⟩ rfl rfl rfl rfl (Nat.le_of_ble_eq_true rfl) (fun H locs hP hD hS => ?_)
            refine gt_meet (rest := [.int ((mLi (mIt M G N (n + 1)) (mLo M G N g n) k).1)]) 107 (if (mIs (mIt M G N (n + 1)) k 0) = 0 then 0 else 1) (fun K8 => ?_) ?_
            · skip
              refine lv_if_eq (tgt := 106) hx hb dX2_lost_99 (by decide) (fun c99_9 : (mIs (mIt M G N (n + 1)) k 0) = 0 => ?_) (fun c99_9 : ¬ ((mIs (mIt M G N (n + 1)) k 0) = 0) => ?_)
              · skip
                refine lv_iconst (v := 0) hx hb dX2_lost_106 (by decide) ?_
                exact K8 _ (show 0 = (if (mIs (mIt M G N (n + 1)) k 0) = 0 then 0 else 1) from by rw [if_pos c99_9])
              · skip
                refine lv_iconst (v := 1) hx hb dX2_lost_102 (by decide) ?_
                refine lv_goto (tgt := 107) hx hb dX2_lost_103 (by decide) ?_
                exact K8 _ (show 1 = (if (mIs (mIt M G N (n + 1)) k 0) = 0 then 0 else 1) from by rw [if_neg c99_9])
            · skip
              refine lv_iadd hx hb dX2_lost_107 ?_
              refine lv_istore_n (lv' := [(3, .int (((mLi (mIt M G N (n + 1)) (mLo M G N g n) k).1) + (if (mIs (mIt M G N (n + 1)) k 0) = 0 then 0 else 1))), (5, .int (nI k)), (2, .int ((mLi (mIt M G N (n + 1)) (mLo M G N g n) k).2)), (4, .int (nI n)), (0, .ref t), (1, .int (nI g))]) hx hb dX2_lost_108 rfl hl (by decide) rfl (fun ls hl => ?_)
              refine lv_iload_n hx hb dX2_lost_109 rfl (lv_at hl 2 rfl) ?_
              refine lv_iconst (v := 1) hx hb dX2_lost_110 (by decide) ?_
              refine lv_iload hx hb dX2_lost_111 (lv_at hl 1 rfl) ?_
              refine lv_ishl hx hb dX2_lost_113 ?_
              refine lv_iconst (v := (-1)) hx hb dX2_lost_114 (by decide) ?_
              refine lv_ixor hx hb dX2_lost_115 ?_
              refine lv_iand hx hb dX2_lost_116 ?_
              refine lv_istore_n (lv' := [(2, .int (((mLi (mIt M G N (n + 1)) (mLo M G N g n) k).2) &&& (((1 : Int32) <<< ((nI k) &&& 31)) ^^^ (-1)))), (3, .int (((mLi (mIt M G N (n + 1)) (mLo M G N g n) k).1) + (if (mIs (mIt M G N (n + 1)) k 0) = 0 then 0 else 1))), (5, .int (nI k)), (4, .int (nI n)), (0, .ref t), (1, .int (nI g))]) hx hb dX2_lost_117 rfl hl (by decide) rfl (fun ls hl => ?_)
              refine gt_inc (lv' := [(5, .int (nI (k + 1))), (2, .int (((mLi (mIt M G N (n + 1)) (mLo M G N g n) k).2) &&& (((1 : Int32) <<< ((nI k) &&& 31)) ^^^ (-1)))), (3, .int (((mLi (mIt M G N (n + 1)) (mLo M G N g n) k).1) + (if (mIs (mIt M G N (n + 1)) k 0) = 0 then 0 else 1))), (4, .int (nI n)), (0, .ref t), (1, .int (nI g))]) hC 2 k dX2_lost_118 hl rfl rfl (by decide) rfl (fun ls hl => ?_)
              refine lv_goto (tgt := 60) hx hb dX2_lost_121 (by decide) ?_
              have hl9 : lv_has ls 6 [(5, .int (nI (k + 1))), (3, .int (((mLi (mIt M G N (n + 1)) (mLo M G N g n) k).1) + (if (mIs (mIt M G N (n + 1)) k 0) = 0 then 0 else 1))), (2, .int (((mLi (mIt M G N (n + 1)) (mLo M G N g n) k).2) &&& (((1 : Int32) <<< ((nI k) &&& 31)) ^^^ (-1)))), (4, .int (nI n)), (0, .ref t), (1, .int (nI g))] := lv_sub hl [0, 2, 1, 3, 4, 5] rfl
              rw [show .int (((mLi (mIt M G N (n + 1)) (mLo M G N g n) k).1) + (if (mIs (mIt M G N (n + 1)) k 0) = 0 then 0 else 1)) = (Value.int ((mLi (mIt M G N (n + 1)) (mLo M G N g n) (k + 1)).1)) from congrArg _ ((congrArg Prod.fst (show mLiS (mIt M G N (n + 1)) k (mLi (mIt M G N (n + 1)) (mLo M G N g n) k) = ((mLi (mIt M G N (n + 1)) (mLo M G N g n) k).1 + (if mIs (mIt M G N (n + 1)) k 0 = 0 then 0 else 1), (mLi (mIt M G N (n + 1)) (mLo M G N g n) k).2 &&& (((1 : Int32) <<< (nI k &&& 31)) ^^^ (-1))) from ((if_neg c75_6).trans ((if_pos c85_7).trans rfl)))).symm)] at hl9
              rw [show .int (((mLi (mIt M G N (n + 1)) (mLo M G N g n) k).2) &&& (((1 : Int32) <<< ((nI k) &&& 31)) ^^^ (-1))) = (Value.int ((mLi (mIt M G N (n + 1)) (mLo M G N g n) (k + 1)).2)) from congrArg _ ((congrArg Prod.snd (show mLiS (mIt M G N (n + 1)) k (mLi (mIt M G N (n + 1)) (mLo M G N g n) k) = ((mLi (mIt M G N (n + 1)) (mLo M G N g n) k).1 + (if mIs (mIt M G N (n + 1)) k 0 = 0 then 0 else 1), (mLi (mIt M G N (n + 1)) (mLo M G N g n) k).2 &&& (((1 : Int32) <<< (nI k &&& 31)) ^^^ (-1))) from ((if_neg c75_6).trans ((if_pos c85_7).trans rfl)))).symm)] at hl9
              exact K5 H locs ls hP hD hS hl9
          · skip
            refine lv_goto (tgt := 118) hx hb dX2_lost_88 (by decide) ?_
            refine gt_inc (lv' := [(5, .int (nI (k + 1))), (3, .int ((mLi (mIt M G N (n + 1)) (mLo M G N g n) k).1)), (2, .int ((mLi (mIt M G N (n + 1)) (mLo M G N g n) k).2)), (4, .int (nI n)), (0, .ref t), (1, .int (nI g))]) hC 0 k dX2_lost_118 hl rfl rfl (by decide) rfl (fun ls hl => ?_)
            refine lv_goto (tgt := 60) hx hb dX2_lost_121 (by decide) ?_
            have hl9 : lv_has ls 6 [(5, .int (nI (k + 1))), (3, .int ((mLi (mIt M G N (n + 1)) (mLo M G N g n) k).1)), (2, .int ((mLi (mIt M G N (n + 1)) (mLo M G N g n) k).2)), (4, .int (nI n)), (0, .ref t), (1, .int (nI g))] := lv_sub hl [0, 1, 2, 3, 4, 5] rfl
            rw [show .int ((mLi (mIt M G N (n + 1)) (mLo M G N g n) k).1) = (Value.int ((mLi (mIt M G N (n + 1)) (mLo M G N g n) (k + 1)).1)) from congrArg _ ((congrArg Prod.fst (show mLiS (mIt M G N (n + 1)) k (mLi (mIt M G N (n + 1)) (mLo M G N g n) k) = (mLi (mIt M G N (n + 1)) (mLo M G N g n) k) from ((if_neg c75_6).trans ((if_neg c85_7).trans rfl)))).symm)] at hl9
            rw [show .int ((mLi (mIt M G N (n + 1)) (mLo M G N g n) k).2) = (Value.int ((mLi (mIt M G N (n + 1)) (mLo M G N g n) (k + 1)).2)) from congrArg _ ((congrArg Prod.snd (show mLiS (mIt M G N (n + 1)) k (mLi (mIt M G N (n + 1)) (mLo M G N g n) k) = (mLi (mIt M G N (n + 1)) (mLo M G N g n) k) from ((if_neg c75_6).trans ((if_neg c85_7).trans rfl)))).symm)] at hl9
            exact K5 H locs ls hP hD hS hl9
      · skip
        refine lv_iload hx hb dX2_lost_60 (lv_at hl 0 rfl) ?_
        refine lv_aload_n hx hb dX2_lost_62 rfl (lv_at hl 4 rfl) ?_
        refine gt_get hC 0 2 2 1 hinX2 hK hP dX2_lost_63 rfl rfl rfl (by decide) rfl rfl ?_
        refine gt_ge_t (tgt := 124) hC N N dX2_lost_66 (by decide) rfl ((congrFun (mIt_r M G N (by decide) (n + 1)) 2).trans hN) (Nat.le_refl _) (by omega) ?_
        refine gt_inc (lv' := [(4, .int (nI (n + 1))), (5, .int (nI N)), (3, .int ((mLi (mIt M G N (n + 1)) (mLo M G N g n) N).1)), (2, .int ((mLi (mIt M G N (n + 1)) (mLo M G N g n) N).2)), (0, .ref t), (1, .int (nI g))]) hC 3 n dX2_lost_124 hl rfl rfl (by decide) rfl (fun ls hl => ?_)
        refine lv_goto (tgt := 46) hx hb dX2_lost_127 (by decide) ?_
        have hl9 : lv_has ls 6 [(4, .int (nI (n + 1))), (3, .int ((mLi (mIt M G N (n + 1)) (mLo M G N g n) N).1)), (2, .int ((mLi (mIt M G N (n + 1)) (mLo M G N g n) N).2)), (0, .ref t), (1, .int (nI g))] := lv_sub hl [0, 2, 3, 4, 5] rfl
        rw [show .int ((mLi (mIt M G N (n + 1)) (mLo M G N g n) N).1) = (Value.int ((mLo M G N g (n + 1)).1)) from congrArg _ (rfl)] at hl9
        rw [show .int ((mLi (mIt M G N (n + 1)) (mLo M G N g n) N).2) = (Value.int ((mLo M G N g (n + 1)).2)) from congrArg _ (rfl)] at hl9
        exact K4 H locs ls hP hD hS hl9
    · skip
      refine lv_iload hx hb dX2_lost_46 (lv_at hl 0 rfl) ?_
      refine lv_bipush (v := 60) hx hb dX2_lost_48 (by decide) ?_
      refine gt_ge_t (tgt := 130) hC 60 60 dX2_lost_50 (by decide) rfl (by decide) (Nat.le_refl _) (by decide) ?_
      refine lv_aload_n hx hb dX2_lost_130 rfl (lv_at hl 3 rfl) ?_
      refine gt_call0 hC 0 2 0 (ct_X2_bringBack l D cI t q (mIt M G N 60) M) gX2_lost_X2_bringBack dX2_lost_131 hK hP hD hS hA hl.1 rfl hd_X2_bringBack ⟨Nat.le_of_ble_eq_true rfl, Nat.le_of_ble_eq_true rfl⟩ ⟨Nat.le_of_ble_eq_true rfl, Nat.le_of_ble_eq_true rfl⟩ rfl rfl rfl rfl (Nat.le_of_ble_eq_true rfl) (fun H locs hP hD hS => ?_)
      refine lv_iload_n hx hb dX2_lost_134 rfl (lv_at hl 1 rfl) ?_
      exact gt_iret hC hr hlk hK (ws := (mw cI t q (mBack (mIt M G N 60) M) M)) hP hD hS (show some (Value.int ((mLo M G N g 60).1)) = _ from rfl) (by rw [mBack_it]) dX2_lost_135 (Nat.le_of_ble_eq_true rfl) (Nat.le_of_ble_eq_true rfl)

theorem hd_X2_wanted : yX2_wanted.cls = RX2 ∧ yX2_wanted.cls ≠ "java/lang/invoke/MethodHandle" ∧ yX2_wanted.cls ≠ "java/lang/invoke/VarHandle" ∧ (parseMethodDescriptor yX2_wanted.desc).map (fun d => d.parameters.length) = some 1 := by decide +kernel
set_option maxHeartbeats 400000 in
set_option maxRecDepth 100000 in
theorem ct_X2_wanted (l : Launch) (D : va_G) (cI : ClassId) (t : Nat) (q : Nat → Nat) (M K : SS) (g : Nat) (hg : g < 4) (N : Nat) (hN : M 12 2 = nI N) (hN12 : N ≤ 12) (G : Nat) (hG : M 12 1 = nI G) (hG4 : G ≤ 4) (ht : ∀ (X : SS) (g : Nat), mOpN X g N < 13) : Ct l D [(cI, .int)] yX2_wanted wsX2_wanted 8 181 0 0 [.ref t, .int (nI g)] (mw cI t q M K) (some (.int (mWan M G N g))) (mw cI t q M (mWk M K g (mWn M G N g))) := by
  refine Ct.ofW (cc := cX2_wanted) (maxL := 5) (ret := (some .int)) (by decide) rfl (Nat.le_of_ble_eq_true rfl) ?_
  intro p e s m below meth c A ls hC hr hlk _ hP hD hS hK hA hl
  have hx := hC.1
  have hb := hC.2.1
  have hinX2 : ∀ w ∈ wsX20, w ∈ wsX2_wanted := fun _ _h => List.mem_cons_of_mem _ (List.mem_append_right _ _h)
  have hl : lv_has ls 5 [(0, .ref t), (1, .int (nI g))] := hl
  refine lv_aload_n hx hb dX2_wanted_0 rfl (lv_at hl 0 rfl) ?_
  refine gt_get hC 0 2 3 1 hinX2 hK hP dX2_wanted_1 rfl rfl rfl (by decide) rfl rfl ?_
  refine lv_iload_n hx hb dX2_wanted_4 rfl (lv_at hl 1 rfl) ?_
  refine gt_ald hC 1 0 g hK hP dX2_wanted_5 rfl rfl rfl (by omega) (Nat.le_of_ble_eq_true rfl) ?_
  refine lv_istore_n (lv' := [(2, .int (M 9 g)), (0, .ref t), (1, .int (nI g))]) hx hb dX2_wanted_6 rfl hl (by decide) rfl (fun ls hl => ?_)
  refine lv_iconst (v := (-1)) hx hb dX2_wanted_7 (by decide) ?_
  refine lv_istore_n (lv' := [(3, .int (-1)), (2, .int (M 9 g)), (0, .ref t), (1, .int (nI g))]) hx hb dX2_wanted_8 rfl hl (by decide) rfl (fun ls hl => ?_)
  refine lv_iconst (v := 0) hx hb dX2_wanted_9 (by decide) ?_
  refine lv_istore (lv' := [(4, .int 0), (3, .int (-1)), (2, .int (M 9 g)), (0, .ref t), (1, .int (nI g))]) hx hb dX2_wanted_10 hl (by decide) rfl (fun ls hl => ?_)
  refine gt_loop D A s.heap 5 (mWn M G N g) (fun n => [(4, .int (nI n)), (3, .int (mWb M G N g n)), (2, .int (M 9 g)), (0, .ref t), (1, .int (nI g))]) (fun n => (mw cI t q (mWm M g n) (mWk M K g n))) (lv_sub hl [0, 1, 2, 3, 4] rfl) hP hD hS (fun n hi_n H locs ls hP hD hS hl K1 => ?_) (fun H locs ls hP hD hS hl => ?_)
  · skip
    have hle : n < 10 := Nat.lt_of_lt_of_le hi_n (mWn_le M G N g)
    have hm1 : mWb M G N g n = -1 := mWb_no hi_n
    refine lv_iload hx hb dX2_wanted_12 (lv_at hl 0 rfl) ?_
    refine lv_bipush (v := 9) hx hb dX2_wanted_14 (by decide) ?_
    refine gt_gt_f (tgt := 51) hC n 9 dX2_wanted_16 (by decide) rfl (by decide) (by omega) (by decide) ?_
    refine lv_iload_n hx hb dX2_wanted_19 rfl (lv_at hl 1 rfl) ?_
    refine lv_iconst (v := (-1)) hx hb dX2_wanted_20 (by decide) ?_
    refine lv_icmp_ne (tgt := 51) hx hb dX2_wanted_21 (by decide) (fun c21_2 : ¬ ((mWb M G N g n) = (-1)) => absurd c21_2 (not_not_intro hm1)) (fun c21_2 : (mWb M G N g n) = (-1) => ?_)
    refine lv_aload_n hx hb dX2_wanted_24 rfl (lv_at hl 3 rfl) ?_
    refine gt_get hC 0 2 3 1 hinX2 hK hP dX2_wanted_25 rfl rfl rfl (by decide) rfl rfl ?_
    refine lv_iload_n hx hb dX2_wanted_28 rfl (lv_at hl 4 rfl) ?_
    refine lv_iload_n hx hb dX2_wanted_29 rfl (lv_at hl 2 rfl) ?_
    refine lv_iload hx hb dX2_wanted_30 (lv_at hl 0 rfl) ?_
    refine lv_iadd hx hb dX2_wanted_32 ?_
    refine gt_ast (ws' := (mw cI t q (up2 (mWm M g n) 9 g ((M 9 g) + (nI n))) (mWk M K g n))) hC 1 0 g hK hP hD hS dX2_wanted_33 rfl rfl rfl (by omega) (Nat.le_of_ble_eq_true rfl) (mw_a3 cI t q (mWm M g n) (mWk M K g n) g ((M 9 g) + (nI n))) (fun H locs hP hD hS => ?_)
    refine lv_aload_n hx hb dX2_wanted_34 rfl (lv_at hl 3 rfl) ?_
    refine lv_iload_n hx hb dX2_wanted_35 rfl (lv_at hl 4 rfl) ?_
    refine gt_call0 hC 0 2 1 (ct_X2_lost l D cI t q (up2 (mWm M g n) 9 g ((M 9 g) + (nI n))) (mWk M K g n) g (by omega) N ((mWm_12 M g 2 n).trans hN) hN12 G ((mWm_12 M g 1 n).trans hG) hG4 ht) gX2_wanted_X2_lost dX2_wanted_36 hK hP hD hS hA hl.1 rfl hd_X2_lost ⟨Nat.le_of_ble_eq_true rfl, Nat.le_of_ble_eq_true rfl⟩ ⟨Nat.le_of_ble_eq_true rfl, Nat.le_of_ble_eq_true rfl⟩ rfl rfl rfl rfl (Nat.le_of_ble_eq_true rfl) (fun H locs hP hD hS => ?_)
    refine lv_if_ne (tgt := 45) hx hb dX2_wanted_39 (by decide) (fun c39_3 : ¬ ((mLost (up2 (mWm M g n) 9 g ((M 9 g) + (nI n))) G N g) = 0) => ?_) (fun c39_3 : (mLost (up2 (mWm M g n) 9 g ((M 9 g) + (nI n))) G N g) = 0 => ?_)
    · skip
      refine gt_inc (lv' := [(4, .int (nI (n + 1))), (3, .int (mWb M G N g n)), (2, .int (M 9 g)), (0, .ref t), (1, .int (nI g))]) hC 0 n dX2_wanted_45 hl rfl rfl (by decide) rfl (fun ls hl => ?_)
      refine lv_goto (tgt := 12) hx hb dX2_wanted_48 (by decide) ?_
      have hl9 : lv_has ls 5 [(4, .int (nI (n + 1))), (3, .int (mWb M G N g n)), (2, .int (M 9 g)), (0, .ref t), (1, .int (nI g))] := lv_sub hl [0, 1, 2, 3, 4] rfl
      rw [show .int (mWb M G N g n) = (Value.int (mWb M G N g (n + 1))) from congrArg _ (by show _ = (if mLost (mWm M g (n + 1)) G N g = 0 then nI n else mWb M G N g n); exact ((if_neg c39_3).trans rfl).symm)] at hl9
      have e9 : (up2 (mWm M g n) 9 g ((M 9 g) + (nI n))) = (mWm M g (n + 1)) := rfl
      rw [e9] at hP hD
      exact K1 H locs ls hP hD hS hl9
    · skip
      refine lv_iload hx hb dX2_wanted_42 (lv_at hl 0 rfl) ?_
      refine lv_istore_n (lv' := [(3, .int (nI n)), (4, .int (nI n)), (2, .int (M 9 g)), (0, .ref t), (1, .int (nI g))]) hx hb dX2_wanted_44 rfl hl (by decide) rfl (fun ls hl => ?_)
      refine gt_inc (lv' := [(4, .int (nI (n + 1))), (3, .int (nI n)), (2, .int (M 9 g)), (0, .ref t), (1, .int (nI g))]) hC 1 n dX2_wanted_45 hl rfl rfl (by decide) rfl (fun ls hl => ?_)
      refine lv_goto (tgt := 12) hx hb dX2_wanted_48 (by decide) ?_
      have hl9 : lv_has ls 5 [(4, .int (nI (n + 1))), (3, .int (nI n)), (2, .int (M 9 g)), (0, .ref t), (1, .int (nI g))] := lv_sub hl [0, 1, 2, 3, 4] rfl
      rw [show .int (nI n) = (Value.int (mWb M G N g (n + 1))) from congrArg _ (by show _ = (if mLost (mWm M g (n + 1)) G N g = 0 then nI n else mWb M G N g n); exact ((if_pos c39_3).trans rfl).symm)] at hl9
      have e9 : (up2 (mWm M g n) 9 g ((M 9 g) + (nI n))) = (mWm M g (n + 1)) := rfl
      rw [e9] at hP hD
      exact K1 H locs ls hP hD hS hl9
  · skip
    have hle : mWn M G N g ≤ 10 := mWn_le M G N g
    refine lv_iload hx hb dX2_wanted_12 (lv_at hl 0 rfl) ?_
    refine lv_bipush (v := 9) hx hb dX2_wanted_14 (by decide) ?_
    refine lv_icmp_gt (tgt := 51) hx hb dX2_wanted_16 (by decide) (fun c16_4 : 9 < (nI (mWn M G N g)) => ?_) (fun c16_4 : ¬ (9 < (nI (mWn M G N g))) => ?_)
    · skip
      refine lv_aload_n hx hb dX2_wanted_51 rfl (lv_at hl 3 rfl) ?_
      refine gt_get hC 0 2 3 1 hinX2 hK hP dX2_wanted_52 rfl rfl rfl (by decide) rfl rfl ?_
      refine lv_iload_n hx hb dX2_wanted_55 rfl (lv_at hl 4 rfl) ?_
      refine lv_iload_n hx hb dX2_wanted_56 rfl (lv_at hl 2 rfl) ?_
      refine gt_ast (ws' := (mw cI t q (up2 (mWm M g (mWn M G N g)) 9 g (M 9 g)) (mWk M K g (mWn M G N g)))) hC 1 0 g hK hP hD hS dX2_wanted_57 rfl rfl rfl (by omega) (Nat.le_of_ble_eq_true rfl) (mw_a3 cI t q (mWm M g (mWn M G N g)) (mWk M K g (mWn M G N g)) g (M 9 g)) (fun H locs hP hD hS => ?_)
      refine lv_iload_n hx hb dX2_wanted_58 rfl (lv_at hl 1 rfl) ?_
      exact gt_iret hC hr hlk hK (ws := (mw cI t q (up2 (mWm M g (mWn M G N g)) 9 g (M 9 g)) (mWk M K g (mWn M G N g)))) hP hD hS (show some (Value.int (mWb M G N g (mWn M G N g))) = _ from rfl) (by rw [mWm_back]) dX2_wanted_59 (Nat.le_of_ble_eq_true rfl) (Nat.le_of_ble_eq_true rfl)
    · skip
      have hye : ¬ mWb M G N g (mWn M G N g) = -1 := mWn_end (Nat.lt_of_not_le (fun z => c16_4 (nI_lt (a := 9) (by omega) (by omega))))
      refine lv_iload_n hx hb dX2_wanted_19 rfl (lv_at hl 1 rfl) ?_
      refine lv_iconst (v := (-1)) hx hb dX2_wanted_20 (by decide) ?_
      refine lv_icmp_ne (tgt := 51) hx hb dX2_wanted_21 (by decide) (fun c21_5 : ¬ ((mWb M G N g (mWn M G N g)) = (-1)) => ?_) (fun c21_5 : (mWb M G N g (mWn M G N g)) = (-1) => absurd c21_5 hye)
      refine lv_aload_n hx hb dX2_wanted_51 rfl (lv_at hl 3 rfl) ?_
      refine gt_get hC 0 2 3 1 hinX2 hK hP dX2_wanted_52 rfl rfl rfl (by decide) rfl rfl ?_
      refine lv_iload_n hx hb dX2_wanted_55 rfl (lv_at hl 4 rfl) ?_
      refine lv_iload_n hx hb dX2_wanted_56 rfl (lv_at hl 2 rfl) ?_
      refine gt_ast (ws' := (mw cI t q (up2 (mWm M g (mWn M G N g)) 9 g (M 9 g)) (mWk M K g (mWn M G N g)))) hC 1 0 g hK hP hD hS dX2_wanted_57 rfl rfl rfl (by omega) (Nat.le_of_ble_eq_true rfl) (mw_a3 cI t q (mWm M g (mWn M G N g)) (mWk M K g (mWn M G N g)) g (M 9 g)) (fun H locs hP hD hS => ?_)
      refine lv_iload_n hx hb dX2_wanted_58 rfl (lv_at hl 1 rfl) ?_
      exact gt_iret hC hr hlk hK (ws := (mw cI t q (up2 (mWm M g (mWn M G N g)) 9 g (M 9 g)) (mWk M K g (mWn M G N g)))) hP hD hS (show some (Value.int (mWb M G N g (mWn M G N g))) = _ from rfl) (by rw [mWm_back]) dX2_wanted_59 (Nat.le_of_ble_eq_true rfl) (Nat.le_of_ble_eq_true rfl)

theorem hd_X2_lostBy : yX2_lostBy.cls = RX2 ∧ yX2_lostBy.cls ≠ "java/lang/invoke/MethodHandle" ∧ yX2_lostBy.cls ≠ "java/lang/invoke/VarHandle" ∧ (parseMethodDescriptor yX2_lostBy.desc).map (fun d => d.parameters.length) = some 2 := by decide +kernel
set_option maxHeartbeats 400000 in
set_option maxRecDepth 100000 in
theorem ct_X2_lostBy (l : Launch) (D : va_G) (cI : ClassId) (t : Nat) (q : Nat → Nat) (M K : SS) (g : Nat) (its : Int32) (hg : g < 4) (N : Nat) (hN : M 12 2 = nI N) (hN12 : N ≤ 12) (G : Nat) (hG : M 12 1 = nI G) (hG4 : G ≤ 4) (ht : ∀ (X : SS) (g : Nat), mOpN X g N < 13) : Ct l D [(cI, .int)] yX2_lostBy wsX2_lostBy 8 181 0 0 [.ref t, .int (nI g), .int its] (mw cI t q M K) (some (.int (mLost (up2 M 10 g its) G N g))) (mw cI t q M (up2 M 10 g its)) := by
  refine Ct.ofW (cc := cX2_lostBy) (maxL := 5) (ret := (some .int)) (by decide) rfl (Nat.le_of_ble_eq_true rfl) ?_
  intro p e s m below meth c A ls hC hr hlk _ hP hD hS hK hA hl
  have hx := hC.1
  have hb := hC.2.1
  have hinX2 : ∀ w ∈ wsX20, w ∈ wsX2_lostBy := fun _ _h => List.mem_cons_of_mem _ (List.mem_append_right _ _h)
  have hl : lv_has ls 5 [(0, .ref t), (1, .int (nI g)), (2, .int its)] := hl
  refine lv_aload_n hx hb dX2_lostBy_0 rfl (lv_at hl 0 rfl) ?_
  refine gt_get hC 0 2 4 1 hinX2 hK hP dX2_lostBy_1 rfl rfl rfl (by decide) rfl rfl ?_
  refine lv_iload_n hx hb dX2_lostBy_4 rfl (lv_at hl 1 rfl) ?_
  refine gt_ald hC 2 0 g hK hP dX2_lostBy_5 rfl rfl rfl (by omega) (Nat.le_of_ble_eq_true rfl) ?_
  refine lv_istore_n (lv' := [(3, .int (M 10 g)), (0, .ref t), (1, .int (nI g)), (2, .int its)]) hx hb dX2_lostBy_6 rfl hl (by decide) rfl (fun ls hl => ?_)
  refine lv_aload_n hx hb dX2_lostBy_7 rfl (lv_at hl 1 rfl) ?_
  refine gt_get hC 0 2 4 1 hinX2 hK hP dX2_lostBy_8 rfl rfl rfl (by decide) rfl rfl ?_
  refine lv_iload_n hx hb dX2_lostBy_11 rfl (lv_at hl 2 rfl) ?_
  refine lv_iload_n hx hb dX2_lostBy_12 rfl (lv_at hl 3 rfl) ?_
  refine gt_ast (ws' := (mw cI t q (up2 M 10 g its) K)) hC 2 0 g hK hP hD hS dX2_lostBy_13 rfl rfl rfl (by omega) (Nat.le_of_ble_eq_true rfl) (mw_a4 cI t q M K g its) (fun H locs hP hD hS => ?_)
  refine lv_aload_n hx hb dX2_lostBy_14 rfl (lv_at hl 1 rfl) ?_
  refine lv_iload_n hx hb dX2_lostBy_15 rfl (lv_at hl 2 rfl) ?_
  refine gt_call0 hC 0 2 1 (ct_X2_lost l D cI t q (up2 M 10 g its) K g (by omega) N hN hN12 G hG hG4 ht) gX2_lostBy_X2_lost dX2_lostBy_16 hK hP hD hS hA hl.1 rfl hd_X2_lost ⟨Nat.le_of_ble_eq_true rfl, Nat.le_of_ble_eq_true rfl⟩ ⟨Nat.le_of_ble_eq_true rfl, Nat.le_of_ble_eq_true rfl⟩ rfl rfl rfl rfl (Nat.le_of_ble_eq_true rfl) (fun H locs hP hD hS => ?_)
  refine lv_istore (lv' := [(4, .int (mLost (up2 M 10 g its) G N g)), (3, .int (M 10 g)), (0, .ref t), (1, .int (nI g)), (2, .int its)]) hx hb dX2_lostBy_19 hl (by decide) rfl (fun ls hl => ?_)
  refine lv_aload_n hx hb dX2_lostBy_21 rfl (lv_at hl 2 rfl) ?_
  refine gt_get hC 0 2 4 1 hinX2 hK hP dX2_lostBy_22 rfl rfl rfl (by decide) rfl rfl ?_
  refine lv_iload_n hx hb dX2_lostBy_25 rfl (lv_at hl 3 rfl) ?_
  refine lv_iload_n hx hb dX2_lostBy_26 rfl (lv_at hl 1 rfl) ?_
  refine gt_ast (ws' := (mw cI t q (up2 (up2 M 10 g its) 10 g (M 10 g)) (up2 M 10 g its))) hC 2 0 g hK hP hD hS dX2_lostBy_27 rfl rfl rfl (by omega) (Nat.le_of_ble_eq_true rfl) (mw_a4 cI t q (up2 M 10 g its) (up2 M 10 g its) g (M 10 g)) (fun H locs hP hD hS => ?_)
  refine lv_iload hx hb dX2_lostBy_28 (lv_at hl 0 rfl) ?_
  exact gt_iret hC hr hlk hK (ws := (mw cI t q (up2 (up2 M 10 g its) 10 g (M 10 g)) (up2 M 10 g its))) hP hD hS (show some (Value.int (mLost (up2 M 10 g its) G N g)) = _ from rfl) (by rw [up2_back]) dX2_lostBy_30 (Nat.le_of_ble_eq_true rfl) (Nat.le_of_ble_eq_true rfl)

theorem hd_X2_better : yX2_better.cls = RX2 ∧ yX2_better.cls ≠ "java/lang/invoke/MethodHandle" ∧ yX2_better.cls ≠ "java/lang/invoke/VarHandle" ∧ (parseMethodDescriptor yX2_better.desc).map (fun d => d.parameters.length) = some 1 := by decide +kernel
set_option maxHeartbeats 400000 in
set_option maxRecDepth 100000 in
theorem ct_X2_better (l : Launch) (D : va_G) (cI : ClassId) (t : Nat) (q : Nat → Nat) (M K : SS) (g : Nat) (hg : g < 4) (N : Nat) (hN : M 12 2 = nI N) (hN12 : N ≤ 12) (G : Nat) (hG : M 12 1 = nI G) (hG4 : G ≤ 4) (ht : ∀ (X : SS) (g : Nat), mOpN X g N < 13) : Ct l D [(cI, .int)] yX2_better wsX2_better 9 205 0 0 [.ref t, .int (nI g)] (mw cI t q M K) (some (.int (mBet M G N g))) (mw cI t q M (up2 M 10 g 0)) := by
  refine Ct.ofW (cc := cX2_better) (maxL := 2) (ret := (some .int)) (by decide) rfl (Nat.le_of_ble_eq_true rfl) ?_
  intro p e s m below meth c A ls hC hr hlk _ hP hD hS hK hA hl
  have hx := hC.1
  have hb := hC.2.1
  have hinX2 : ∀ w ∈ wsX20, w ∈ wsX2_better := fun _ _h => List.mem_cons_of_mem _ (List.mem_append_right _ _h)
  have hl : lv_has ls 2 [(0, .ref t), (1, .int (nI g))] := hl
  refine lv_aload_n hx hb dX2_better_0 rfl (lv_at hl 0 rfl) ?_
  refine lv_iload_n hx hb dX2_better_1 rfl (lv_at hl 1 rfl) ?_
  refine lv_iconst (v := 1) hx hb dX2_better_2 (by decide) ?_
  refine gt_call0 hC 0 2 2 (ct_X2_lostBy l D cI t q M K g 1 (by omega) N hN hN12 G hG hG4 ht) gX2_better_X2_lostBy dX2_better_3 hK hP hD hS hA hl.1 rfl hd_X2_lostBy ⟨Nat.le_of_ble_eq_true rfl, Nat.le_of_ble_eq_true rfl⟩ ⟨Nat.le_of_ble_eq_true rfl, Nat.le_of_ble_eq_true rfl⟩ rfl rfl rfl rfl (Nat.le_of_ble_eq_true rfl) (fun H locs hP hD hS => ?_)
  refine lv_aload_n hx hb dX2_better_6 rfl (lv_at hl 0 rfl) ?_
  refine lv_iload_n hx hb dX2_better_7 rfl (lv_at hl 1 rfl) ?_
  refine lv_iconst (v := 0) hx hb dX2_better_8 (by decide) ?_
  refine gt_call0 hC 0 2 2 (ct_X2_lostBy l D cI t q M (up2 M 10 g 1) g 0 (by omega) N hN hN12 G hG hG4 ht) gX2_better_X2_lostBy dX2_better_9 hK hP hD hS hA hl.1 rfl hd_X2_lostBy ⟨Nat.le_of_ble_eq_true rfl, Nat.le_of_ble_eq_true rfl⟩ ⟨Nat.le_of_ble_eq_true rfl, Nat.le_of_ble_eq_true rfl⟩ rfl rfl rfl rfl (Nat.le_of_ble_eq_true rfl) (fun H locs hP hD hS => ?_)
  refine gt_meet (rest := []) 20 (mBet M G N g) (fun K1 => ?_) ?_
  · skip
    refine lv_icmp_ge (tgt := 19) hx hb dX2_better_12 (by decide) (fun c12_2 : (mLost (up2 M 10 g 0) G N g) ≤ (mLost (up2 M 10 g 1) G N g) => ?_) (fun c12_2 : ¬ ((mLost (up2 M 10 g 0) G N g) ≤ (mLost (up2 M 10 g 1) G N g)) => ?_)
    · skip
      refine lv_iconst (v := 0) hx hb dX2_better_19 (by decide) ?_
      exact K1 _ (show 0 = (if (mLost (up2 M 10 g 0) G N g) ≤ (mLost (up2 M 10 g 1) G N g) then 0 else 1) from by rw [if_pos c12_2])
    · skip
      refine lv_iconst (v := 1) hx hb dX2_better_15 (by decide) ?_
      refine lv_goto (tgt := 20) hx hb dX2_better_16 (by decide) ?_
      exact K1 _ (show 1 = (if (mLost (up2 M 10 g 0) G N g) ≤ (mLost (up2 M 10 g 1) G N g) then 0 else 1) from by rw [if_neg c12_2])
  · skip
    exact gt_iret hC hr hlk hK (ws := (mw cI t q M (up2 M 10 g 0))) hP hD hS (show some (Value.int (mBet M G N g)) = _ from rfl) rfl dX2_better_20 (Nat.le_of_ble_eq_true rfl) (Nat.le_of_ble_eq_true rfl)

theorem hd_X2_write : yX2_write.cls = RX2 ∧ yX2_write.cls ≠ "java/lang/invoke/MethodHandle" ∧ yX2_write.cls ≠ "java/lang/invoke/VarHandle" ∧ (parseMethodDescriptor yX2_write.desc).map (fun d => d.parameters.length) = some 5 := by decide +kernel
set_option maxHeartbeats 400000 in
set_option maxRecDepth 100000 in
theorem ct_X2_write (l : Launch) (D : va_G) (cI : ClassId) (t : Nat) (q : Nat → Nat) (M K : SS) (k : Nat) (a1 : Int32) (a2 : Int32) (a3 : Int32) (a4 : Int32) (hk : k < 12) : Ct l D [(cI, .int)] yX2_write wsX2_write 1 23 0 0 [.ref t, .int (nI k), .int a1, .int a2, .int a3, .int a4] (mw cI t q M K) none (mw cI t q (up2 (up2 (up2 (up2 M 0 k a1) 1 k a2) 2 k a3) 3 k a4) K) := by
  refine Ct.ofW (cc := cX2_write) (maxL := 6) (ret := none) (by decide) rfl (Nat.le_of_ble_eq_true rfl) ?_
  intro p e s m below meth c A ls hC hr hlk _ hP hD hS hK hA hl
  have hx := hC.1
  have hb := hC.2.1
  have hinX2 : ∀ w ∈ wsX20, w ∈ wsX2_write := fun _ _h => List.mem_cons_of_mem _ (List.mem_append_right _ _h)
  have hl : lv_has ls 6 [(0, .ref t), (1, .int (nI k)), (2, .int a1), (3, .int a2), (4, .int a3), (5, .int a4)] := hl
  refine lv_aload_n hx hb dX2_write_0 rfl (lv_at hl 0 rfl) ?_
  refine lv_iload_n hx hb dX2_write_1 rfl (lv_at hl 1 rfl) ?_
  refine lv_iconst (v := 0) hx hb dX2_write_2 (by decide) ?_
  refine lv_iload_n hx hb dX2_write_3 rfl (lv_at hl 2 rfl) ?_
  refine gt_call0 hC 0 2 3 (ct_X2_let l D cI t q M K k 0 a1 (by omega) (by decide)) gX2_write_X2_let dX2_write_4 hK hP hD hS hA hl.1 rfl hd_X2_let ⟨Nat.le_of_ble_eq_true rfl, Nat.le_of_ble_eq_true rfl⟩ ⟨Nat.le_of_ble_eq_true rfl, Nat.le_of_ble_eq_true rfl⟩ rfl rfl rfl rfl (Nat.le_of_ble_eq_true rfl) (fun H locs hP hD hS => ?_)
  refine lv_aload_n hx hb dX2_write_7 rfl (lv_at hl 0 rfl) ?_
  refine lv_iload_n hx hb dX2_write_8 rfl (lv_at hl 1 rfl) ?_
  refine lv_iconst (v := 1) hx hb dX2_write_9 (by decide) ?_
  refine lv_iload_n hx hb dX2_write_10 rfl (lv_at hl 3 rfl) ?_
  refine gt_call0 hC 0 2 3 (ct_X2_let l D cI t q (up2 M 0 k a1) K k 1 a2 (by omega) (by decide)) gX2_write_X2_let dX2_write_11 hK hP hD hS hA hl.1 rfl hd_X2_let ⟨Nat.le_of_ble_eq_true rfl, Nat.le_of_ble_eq_true rfl⟩ ⟨Nat.le_of_ble_eq_true rfl, Nat.le_of_ble_eq_true rfl⟩ rfl rfl rfl rfl (Nat.le_of_ble_eq_true rfl) (fun H locs hP hD hS => ?_)
  refine lv_aload_n hx hb dX2_write_14 rfl (lv_at hl 0 rfl) ?_
  refine lv_iload_n hx hb dX2_write_15 rfl (lv_at hl 1 rfl) ?_
  refine lv_iconst (v := 2) hx hb dX2_write_16 (by decide) ?_
  refine lv_iload hx hb dX2_write_17 (lv_at hl 4 rfl) ?_
  refine gt_call0 hC 0 2 3 (ct_X2_let l D cI t q (up2 (up2 M 0 k a1) 1 k a2) K k 2 a3 (by omega) (by decide)) gX2_write_X2_let dX2_write_19 hK hP hD hS hA hl.1 rfl hd_X2_let ⟨Nat.le_of_ble_eq_true rfl, Nat.le_of_ble_eq_true rfl⟩ ⟨Nat.le_of_ble_eq_true rfl, Nat.le_of_ble_eq_true rfl⟩ rfl rfl rfl rfl (Nat.le_of_ble_eq_true rfl) (fun H locs hP hD hS => ?_)
  refine lv_aload_n hx hb dX2_write_22 rfl (lv_at hl 0 rfl) ?_
  refine lv_iload_n hx hb dX2_write_23 rfl (lv_at hl 1 rfl) ?_
  refine lv_iconst (v := 3) hx hb dX2_write_24 (by decide) ?_
  refine lv_iload hx hb dX2_write_25 (lv_at hl 5 rfl) ?_
  refine gt_call0 hC 0 2 3 (ct_X2_let l D cI t q (up2 (up2 (up2 M 0 k a1) 1 k a2) 2 k a3) K k 3 a4 (by omega) (by decide)) gX2_write_X2_let dX2_write_27 hK hP hD hS hA hl.1 rfl hd_X2_let ⟨Nat.le_of_ble_eq_true rfl, Nat.le_of_ble_eq_true rfl⟩ ⟨Nat.le_of_ble_eq_true rfl, Nat.le_of_ble_eq_true rfl⟩ rfl rfl rfl rfl (Nat.le_of_ble_eq_true rfl) (fun H locs hP hD hS => ?_)
  exact gt_vret hC hr hlk hK (ws := (mw cI t q (up2 (up2 (up2 (up2 M 0 k a1) 1 k a2) 2 k a3) 3 k a4) K)) hP hD hS rfl rfl dX2_write_30 (Nat.le_of_ble_eq_true rfl) (Nat.le_of_ble_eq_true rfl)
