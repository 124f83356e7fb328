/-! The tower's checksum (laid by wip/whole/gen/tower3.py). -/
theorem hd_X1_digest : yX1_digest.cls = RX1 ∧ yX1_digest.cls ≠ "java/lang/invoke/MethodHandle" ∧ yX1_digest.cls ≠ "java/lang/invoke/VarHandle" ∧ (parseMethodDescriptor yX1_digest.desc).map (fun d => d.parameters.length) = some 0 := by decide +kernel
set_option maxHeartbeats 400000 in
set_option maxRecDepth 100000 in
theorem ct_X1_digest (l : Launch) (hl0 : l.stackTraces = false) (D : va_G) (cI : ClassId) (t o : Nat) (r : Nat → Nat) (S : SS) (o1 : Nat) (r1 : Nat → Nat) (T : SS) (N : Nat) (hN : S 0 2 = nI N) (hN12 : N ≤ 12) (G : Nat) (hG : S 0 1 = nI G) (hG4 : G ≤ 4) : Cx l D [(cI, .int)] yX1_digest wsX1_digest 8 143 120 720 [.ref t] (tw cI t o r S o1 r1 T) (none) (some (.long (gxDk S G N N))) (tw cI t o r S o1 r1 (gxT2 S T G N N)) := by
  refine Cx.ofW (cc := cX1_digest) (maxL := 4) (ret := (some .long)) (by decide) rfl (Nat.le_of_ble_eq_true rfl) ?_
  intro p e s m below meth c A ls hC hr hlk htab hTh hP hD hS hK hA hl
  have hx := hC.1
  have hb := hC.2.1
  have hinX0 : ∀ w ∈ wsX00, w ∈ wsX1_digest := fun _ _h => List.mem_cons_of_mem _ (List.mem_append_left _ (List.mem_append_right _ _h))
  have hinX1 : ∀ w ∈ wsX10, w ∈ wsX1_digest := fun _ _h => List.mem_cons_of_mem _ (List.mem_append_left _ (List.mem_append_left _ (List.mem_append_right _ _h)))
  have hl : lv_has ls 4 [(0, .ref t)] := hl
  refine lv_ldc2 (v := 2161) hx hb hC.2.2.2.1 (hC.2.2.2.2 _ (List.mem_of_getElem? (i := 1) rfl)) dX1_digest_0 ?_
  refine lv_lstore_n (lv' := [(1, .long 2161), (0, .ref t)]) hx hb dX1_digest_3 rfl hl (by decide) rfl (fun ls hl => ?_)
  refine lv_lload_n hx hb dX1_digest_4 rfl (lv_at hl 0 rfl) ?_
  refine lv_ldc2 (v := 31) hx hb hC.2.2.2.1 (hC.2.2.2.2 _ (List.mem_of_getElem? (i := 2) rfl)) dX1_digest_5 ?_
  refine lv_lmul hx hb dX1_digest_8 ?_
  refine lv_aload_n hx hb dX1_digest_9 rfl (lv_at hl 1 rfl) ?_
  refine gt_call0 hC 0 1 0 (ct_X1_minute l D cI t o r S o1 r1 T) gX1_digest_X1_minute dX1_digest_10 hK hP hD hS hA hl.1 rfl hd_X1_minute ⟨Nat.le_of_ble_eq_true rfl, Nat.le_of_ble_eq_true rfl⟩ ⟨Nat.le_of_ble_eq_true rfl, Nat.le_of_ble_eq_true rfl⟩ rfl rfl rfl rfl (Nat.le_of_ble_eq_true rfl) (fun H locs hP hD hS => ?_)
  refine lv_i2l hx hb dX1_digest_13 rfl ?_
  refine lv_ladd hx hb dX1_digest_14 ?_
  refine lv_lstore_n (lv' := [(1, .long ((2161 * 31) + (Int32.toInt64 (S 0 0)))), (0, .ref t)]) hx hb dX1_digest_15 rfl hl (by decide) rfl (fun ls hl => ?_)
  refine lv_lload_n hx hb dX1_digest_16 rfl (lv_at hl 0 rfl) ?_
  refine lv_ldc2 (v := 31) hx hb hC.2.2.2.1 (hC.2.2.2.2 _ (List.mem_of_getElem? (i := 2) rfl)) dX1_digest_17 ?_
  refine lv_lmul hx hb dX1_digest_20 ?_
  refine lv_aload_n hx hb dX1_digest_21 rfl (lv_at hl 1 rfl) ?_
  refine gt_call0 hC 0 1 0 (ct_X1_gates l D cI t o r S o1 r1 T) gX1_digest_X1_gates dX1_digest_22 hK hP hD hS hA hl.1 rfl hd_X1_gates ⟨Nat.le_of_ble_eq_true rfl, Nat.le_of_ble_eq_true rfl⟩ ⟨Nat.le_of_ble_eq_true rfl, Nat.le_of_ble_eq_true rfl⟩ rfl rfl rfl rfl (Nat.le_of_ble_eq_true rfl) (fun H locs hP hD hS => ?_)
  refine lv_i2l hx hb dX1_digest_25 rfl ?_
  refine lv_ladd hx hb dX1_digest_26 ?_
  refine lv_lstore_n (lv' := [(1, .long ((((2161 * 31) + (Int32.toInt64 (S 0 0))) * 31) + (Int32.toInt64 (S 0 1)))), (0, .ref t)]) hx hb dX1_digest_27 rfl hl (by decide) rfl (fun ls hl => ?_)
  refine lv_lload_n hx hb dX1_digest_28 rfl (lv_at hl 0 rfl) ?_
  refine lv_ldc2 (v := 31) hx hb hC.2.2.2.1 (hC.2.2.2.2 _ (List.mem_of_getElem? (i := 2) rfl)) dX1_digest_29 ?_
  refine lv_lmul hx hb dX1_digest_32 ?_
  refine lv_aload_n hx hb dX1_digest_33 rfl (lv_at hl 1 rfl) ?_
  refine gt_call0 hC 0 1 0 (ct_X1_goats l D cI t o r S o1 r1 T) gX1_digest_X1_goats dX1_digest_34 hK hP hD hS hA hl.1 rfl hd_X1_goats ⟨Nat.le_of_ble_eq_true rfl, Nat.le_of_ble_eq_true rfl⟩ ⟨Nat.le_of_ble_eq_true rfl, Nat.le_of_ble_eq_true rfl⟩ rfl rfl rfl rfl (Nat.le_of_ble_eq_true rfl) (fun H locs hP hD hS => ?_)
  refine lv_i2l hx hb dX1_digest_37 rfl ?_
  refine lv_ladd hx hb dX1_digest_38 ?_
  refine lv_lstore_n (lv' := [(1, .long ((((((2161 * 31) + (Int32.toInt64 (S 0 0))) * 31) + (Int32.toInt64 (S 0 1))) * 31) + (Int32.toInt64 (S 0 2)))), (0, .ref t)]) hx hb dX1_digest_39 rfl hl (by decide) rfl (fun ls hl => ?_)
  refine lv_lload_n hx hb dX1_digest_40 rfl (lv_at hl 0 rfl) ?_
  refine lv_ldc2 (v := 31) hx hb hC.2.2.2.1 (hC.2.2.2.2 _ (List.mem_of_getElem? (i := 2) rfl)) dX1_digest_41 ?_
  refine lv_lmul hx hb dX1_digest_44 ?_
  refine lv_aload_n hx hb dX1_digest_45 rfl (lv_at hl 1 rfl) ?_
  refine gt_call0 hC 0 1 0 (ct_X1_waiting l D cI t o r S o1 r1 T N hN hN12) gX1_digest_X1_waiting dX1_digest_46 hK hP hD hS hA hl.1 rfl hd_X1_waiting ⟨Nat.le_of_ble_eq_true rfl, Nat.le_of_ble_eq_true rfl⟩ ⟨Nat.le_of_ble_eq_true rfl, Nat.le_of_ble_eq_true rfl⟩ rfl rfl rfl rfl (Nat.le_of_ble_eq_true rfl) (fun H locs hP hD hS => ?_)
  refine lv_i2l hx hb dX1_digest_49 rfl ?_
  refine lv_ladd hx hb dX1_digest_50 ?_
  refine lv_lstore_n (lv' := [(1, .long ((((((((2161 * 31) + (Int32.toInt64 (S 0 0))) * 31) + (Int32.toInt64 (S 0 1))) * 31) + (Int32.toInt64 (S 0 2))) * 31) + (Int32.toInt64 (gxCnt S 1 N)))), (0, .ref t)]) hx hb dX1_digest_51 rfl hl (by decide) rfl (fun ls hl => ?_)
  refine lv_lload_n hx hb dX1_digest_52 rfl (lv_at hl 0 rfl) ?_
  refine lv_ldc2 (v := 31) hx hb hC.2.2.2.1 (hC.2.2.2.2 _ (List.mem_of_getElem? (i := 2) rfl)) dX1_digest_53 ?_
  refine lv_lmul hx hb dX1_digest_56 ?_
  refine lv_aload_n hx hb dX1_digest_57 rfl (lv_at hl 1 rfl) ?_
  refine gt_call0 hC 0 1 0 (ct_X1_inside l D cI t o r S o1 r1 T N hN hN12) gX1_digest_X1_inside dX1_digest_58 hK hP hD hS hA hl.1 rfl hd_X1_inside ⟨Nat.le_of_ble_eq_true rfl, Nat.le_of_ble_eq_true rfl⟩ ⟨Nat.le_of_ble_eq_true rfl, Nat.le_of_ble_eq_true rfl⟩ rfl rfl rfl rfl (Nat.le_of_ble_eq_true rfl) (fun H locs hP hD hS => ?_)
  refine lv_i2l hx hb dX1_digest_61 rfl ?_
  refine lv_ladd hx hb dX1_digest_62 ?_
  refine lv_lstore_n (lv' := [(1, .long ((((((((((2161 * 31) + (Int32.toInt64 (S 0 0))) * 31) + (Int32.toInt64 (S 0 1))) * 31) + (Int32.toInt64 (S 0 2))) * 31) + (Int32.toInt64 (gxCnt S 1 N))) * 31) + (Int32.toInt64 (gxCnt S 2 N)))), (0, .ref t)]) hx hb dX1_digest_63 rfl hl (by decide) rfl (fun ls hl => ?_)
  refine lv_lload_n hx hb dX1_digest_64 rfl (lv_at hl 0 rfl) ?_
  refine lv_ldc2 (v := 31) hx hb hC.2.2.2.1 (hC.2.2.2.2 _ (List.mem_of_getElem? (i := 2) rfl)) dX1_digest_65 ?_
  refine lv_lmul hx hb dX1_digest_68 ?_
  refine lv_aload_n hx hb dX1_digest_69 rfl (lv_at hl 1 rfl) ?_
  refine gt_call0 hC 0 1 0 (ct_X1_starving l D cI t o r S o1 r1 T N hN hN12) gX1_digest_X1_starving dX1_digest_70 hK hP hD hS hA hl.1 rfl hd_X1_starving ⟨Nat.le_of_ble_eq_true rfl, Nat.le_of_ble_eq_true rfl⟩ ⟨Nat.le_of_ble_eq_true rfl, Nat.le_of_ble_eq_true rfl⟩ rfl rfl rfl rfl (Nat.le_of_ble_eq_true rfl) (fun H locs hP hD hS => ?_)
  refine lv_i2l hx hb dX1_digest_73 rfl ?_
  refine lv_ladd hx hb dX1_digest_74 ?_
  refine lv_lstore_n (lv' := [(1, .long ((((((((((((2161 * 31) + (Int32.toInt64 (S 0 0))) * 31) + (Int32.toInt64 (S 0 1))) * 31) + (Int32.toInt64 (S 0 2))) * 31) + (Int32.toInt64 (gxCnt S 1 N))) * 31) + (Int32.toInt64 (gxCnt S 2 N))) * 31) + (Int32.toInt64 (gxStv S N)))), (0, .ref t)]) hx hb dX1_digest_75 rfl hl (by decide) rfl (fun ls hl => ?_)
  refine lv_lload_n hx hb dX1_digest_76 rfl (lv_at hl 0 rfl) ?_
  refine lv_ldc2 (v := 31) hx hb hC.2.2.2.1 (hC.2.2.2.2 _ (List.mem_of_getElem? (i := 2) rfl)) dX1_digest_77 ?_
  refine lv_lmul hx hb dX1_digest_80 ?_
  refine lv_aload_n hx hb dX1_digest_81 rfl (lv_at hl 1 rfl) ?_
  refine gt_call0 hC 0 1 0 (ct_X1_letIn l D cI t o r S o1 r1 T) gX1_digest_X1_letIn dX1_digest_82 hK hP hD hS hA hl.1 rfl hd_X1_letIn ⟨Nat.le_of_ble_eq_true rfl, Nat.le_of_ble_eq_true rfl⟩ ⟨Nat.le_of_ble_eq_true rfl, Nat.le_of_ble_eq_true rfl⟩ rfl rfl rfl rfl (Nat.le_of_ble_eq_true rfl) (fun H locs hP hD hS => ?_)
  refine lv_i2l hx hb dX1_digest_85 rfl ?_
  refine lv_ladd hx hb dX1_digest_86 ?_
  refine lv_lstore_n (lv' := [(1, .long ((((((((((((((2161 * 31) + (Int32.toInt64 (S 0 0))) * 31) + (Int32.toInt64 (S 0 1))) * 31) + (Int32.toInt64 (S 0 2))) * 31) + (Int32.toInt64 (gxCnt S 1 N))) * 31) + (Int32.toInt64 (gxCnt S 2 N))) * 31) + (Int32.toInt64 (gxStv S N))) * 31) + (Int32.toInt64 (S 0 4)))), (0, .ref t)]) hx hb dX1_digest_87 rfl hl (by decide) rfl (fun ls hl => ?_)
  refine lv_lload_n hx hb dX1_digest_88 rfl (lv_at hl 0 rfl) ?_
  refine lv_ldc2 (v := 31) hx hb hC.2.2.2.1 (hC.2.2.2.2 _ (List.mem_of_getElem? (i := 2) rfl)) dX1_digest_89 ?_
  refine lv_lmul hx hb dX1_digest_92 ?_
  refine lv_aload_n hx hb dX1_digest_93 rfl (lv_at hl 1 rfl) ?_
  refine gt_call0 hC 0 1 0 (ct_X1_givenUp l D cI t o r S o1 r1 T G hG hG4) gX1_digest_X1_givenUp dX1_digest_94 hK hP hD hS hA hl.1 rfl hd_X1_givenUp ⟨Nat.le_of_ble_eq_true rfl, Nat.le_of_ble_eq_true rfl⟩ ⟨Nat.le_of_ble_eq_true rfl, Nat.le_of_ble_eq_true rfl⟩ rfl rfl rfl rfl (Nat.le_of_ble_eq_true rfl) (fun H locs hP hD hS => ?_)
  refine lv_i2l hx hb dX1_digest_97 rfl ?_
  refine lv_ladd hx hb dX1_digest_98 ?_
  refine lv_lstore_n (lv' := [(1, .long ((((((((((((((((2161 * 31) + (Int32.toInt64 (S 0 0))) * 31) + (Int32.toInt64 (S 0 1))) * 31) + (Int32.toInt64 (S 0 2))) * 31) + (Int32.toInt64 (gxCnt S 1 N))) * 31) + (Int32.toInt64 (gxCnt S 2 N))) * 31) + (Int32.toInt64 (gxStv S N))) * 31) + (Int32.toInt64 (S 0 4))) * 31) + (Int32.toInt64 (gxGiv S G)))), (0, .ref t)]) hx hb dX1_digest_99 rfl hl (by decide) rfl (fun ls hl => ?_)
  refine lv_iconst (v := 0) hx hb dX1_digest_100 (by decide) ?_
  refine lv_istore_n (lv' := [(3, .int 0), (1, .long ((((((((((((((((2161 * 31) + (Int32.toInt64 (S 0 0))) * 31) + (Int32.toInt64 (S 0 1))) * 31) + (Int32.toInt64 (S 0 2))) * 31) + (Int32.toInt64 (gxCnt S 1 N))) * 31) + (Int32.toInt64 (gxCnt S 2 N))) * 31) + (Int32.toInt64 (gxStv S N))) * 31) + (Int32.toInt64 (S 0 4))) * 31) + (Int32.toInt64 (gxGiv S G)))), (0, .ref t)]) hx hb dX1_digest_101 rfl hl (by decide) rfl (fun ls hl => ?_)
  refine gt_loopC D A s.heap 4 G 0 0 6 36 (fun n => [(3, .int (nI n)), (1, .long (gxDg S G N n)), (0, .ref t)]) (fun n => (tw cI t o r S o1 r1 (gxT1 S T G N n))) (lv_sub hl [0, 1, 2] rfl) hP hD hS (by omega) (by omega) (fun n hi_n H locs ls hP hD hS hl K1 => ?_) (fun H locs ls hP hD hS hl => ?_)
  · skip
    have hcn : (nI n).toNatClampNeg = n := nI_clamp (by omega)
    refine lv_iload_n hx hb dX1_digest_102 rfl (lv_at hl 0 rfl) ?_
    refine lv_aload_n hx hb dX1_digest_103 rfl (lv_at hl 2 rfl) ?_
    refine gt_get hC 0 1 0 3 hinX1 hK hP dX1_digest_104 rfl rfl rfl (by decide) rfl rfl ?_
    refine gt_get hC 1 0 1 4 hinX0 hK hP dX1_digest_107 rfl rfl rfl (by decide) rfl rfl ?_
    refine gt_ge_f (tgt := 197) hC n G dX1_digest_110 (by decide) rfl hG hi_n (by omega) ?_
    refine lv_lload_n hx hb dX1_digest_113 rfl (lv_at hl 1 rfl) ?_
    refine lv_ldc2 (v := 31) hx hb hC.2.2.2.1 (hC.2.2.2.2 _ (List.mem_of_getElem? (i := 2) rfl)) dX1_digest_114 ?_
    refine lv_lmul hx hb dX1_digest_117 ?_
    refine lv_aload_n hx hb dX1_digest_118 rfl (lv_at hl 2 rfl) ?_
    refine lv_iload_n hx hb dX1_digest_119 rfl (lv_at hl 0 rfl) ?_
    refine gx_callV hC 0 1 1 (ct_X1_permitsOf l hl0 D cI t o r S o1 r1 (gxT1 S T G N n) (nI n) G hG hG4) gX1_digest_X1_permitsOf dX1_digest_120 hTh hlk htab hK hP hD hS hA hl.1 rfl hd_X1_permitsOf ⟨Nat.le_of_ble_eq_true rfl, Nat.le_of_ble_eq_true rfl⟩ (by show _ ≤ 120 ∧ _ ≤ 720; omega) rfl rfl rfl rfl (Nat.le_of_ble_eq_true rfl) (by omega) (fun E hE => by rw [(xGate_ok hG hG4 hi_n)] at hE; cases hE) (fun hn120 H locs hP hD hS => ?_)
    refine lv_i2l hx hb dX1_digest_123 rfl ?_
    refine lv_ladd hx hb dX1_digest_124 ?_
    refine lv_lstore_n (lv' := [(1, .long (((gxDg S G N n) * 31) + (Int32.toInt64 (S 5 (nI n).toNatClampNeg)))), (3, .int (nI n)), (0, .ref t)]) hx hb dX1_digest_125 rfl hl (by decide) rfl (fun ls hl => ?_)
    refine lv_lload_n hx hb dX1_digest_126 rfl (lv_at hl 0 rfl) ?_
    refine lv_ldc2 (v := 31) hx hb hC.2.2.2.1 (hC.2.2.2.2 _ (List.mem_of_getElem? (i := 2) rfl)) dX1_digest_127 ?_
    refine lv_lmul hx hb dX1_digest_130 ?_
    refine lv_aload_n hx hb dX1_digest_131 rfl (lv_at hl 2 rfl) ?_
    refine lv_iload_n hx hb dX1_digest_132 rfl (lv_at hl 1 rfl) ?_
    refine gx_callV hC 0 1 1 (ct_X1_freeOf l hl0 D cI t o r S o1 r1 (gxT1 S T G N n) (nI n) N hN hN12 G hG hG4) gX1_digest_X1_freeOf dX1_digest_133 hTh hlk htab hK hP hD hS hA hl.1 rfl hd_X1_freeOf ⟨Nat.le_of_ble_eq_true rfl, Nat.le_of_ble_eq_true rfl⟩ (by show _ ≤ 120 ∧ _ ≤ 720; omega) rfl rfl rfl rfl (Nat.le_of_ble_eq_true rfl) (by omega) (fun E hE => by rw [(xGate_ok hG hG4 hi_n)] at hE; cases hE) (fun hn133 H locs hP hD hS => ?_)
    refine lv_i2l hx hb dX1_digest_136 rfl ?_
    refine lv_ladd hx hb dX1_digest_137 ?_
    refine lv_lstore_n (lv' := [(1, .long (((((gxDg S G N n) * 31) + (Int32.toInt64 (S 5 (nI n).toNatClampNeg))) * 31) + (Int32.toInt64 (gxFree S (nI n).toNatClampNeg N)))), (3, .int (nI n)), (0, .ref t)]) hx hb dX1_digest_138 rfl hl (by decide) rfl (fun ls hl => ?_)
    refine lv_lload_n hx hb dX1_digest_139 rfl (lv_at hl 0 rfl) ?_
    refine lv_ldc2 (v := 31) hx hb hC.2.2.2.1 (hC.2.2.2.2 _ (List.mem_of_getElem? (i := 2) rfl)) dX1_digest_140 ?_
    refine lv_lmul hx hb dX1_digest_143 ?_
    refine lv_aload_n hx hb dX1_digest_144 rfl (lv_at hl 2 rfl) ?_
    refine lv_iload_n hx hb dX1_digest_145 rfl (lv_at hl 1 rfl) ?_
    refine gx_callV hC 0 1 1 (ct_X1_waitingAt l hl0 D cI t o r S o1 r1 (gxT1 S T G N n) (nI n) N hN hN12 G hG hG4) gX1_digest_X1_waitingAt dX1_digest_146 hTh hlk htab hK hP hD hS hA hl.1 rfl hd_X1_waitingAt ⟨Nat.le_of_ble_eq_true rfl, Nat.le_of_ble_eq_true rfl⟩ (by show _ ≤ 120 ∧ _ ≤ 720; omega) rfl rfl rfl rfl (Nat.le_of_ble_eq_true rfl) (by omega) (fun E hE => by rw [(xGate_ok hG hG4 hi_n)] at hE; cases hE) (fun hn146 H locs hP hD hS => ?_)
    refine lv_i2l hx hb dX1_digest_149 rfl ?_
    refine lv_ladd hx hb dX1_digest_150 ?_
    refine lv_lstore_n (lv' := [(1, .long (((((((gxDg S G N n) * 31) + (Int32.toInt64 (S 5 (nI n).toNatClampNeg))) * 31) + (Int32.toInt64 (gxFree S (nI n).toNatClampNeg N))) * 31) + (Int32.toInt64 (gxWat S (nI n) N)))), (3, .int (nI n)), (0, .ref t)]) hx hb dX1_digest_151 rfl hl (by decide) rfl (fun ls hl => ?_)
    refine lv_lload_n hx hb dX1_digest_152 rfl (lv_at hl 0 rfl) ?_
    refine lv_ldc2 (v := 31) hx hb hC.2.2.2.1 (hC.2.2.2.2 _ (List.mem_of_getElem? (i := 2) rfl)) dX1_digest_153 ?_
    refine lv_lmul hx hb dX1_digest_156 ?_
    refine lv_aload_n hx hb dX1_digest_157 rfl (lv_at hl 2 rfl) ?_
    refine lv_iload_n hx hb dX1_digest_158 rfl (lv_at hl 1 rfl) ?_
    refine gx_callV hC 0 1 1 (ct_X1_nextAt l hl0 D cI t o r S o1 r1 (gxT1 S T G N n) (nI n) N hN hN12 G hG hG4) gX1_digest_X1_nextAt dX1_digest_159 hTh hlk htab hK hP hD hS hA hl.1 rfl hd_X1_nextAt ⟨Nat.le_of_ble_eq_true rfl, Nat.le_of_ble_eq_true rfl⟩ (by show _ ≤ 120 ∧ _ ≤ 720; omega) rfl rfl rfl rfl (Nat.le_of_ble_eq_true rfl) (by omega) (fun E hE => by rw [(xGate_ok hG hG4 hi_n)] at hE; cases hE) (fun hn159 H locs hP hD hS => ?_)
    refine lv_i2l hx hb dX1_digest_162 rfl ?_
    refine lv_ladd hx hb dX1_digest_163 ?_
    refine lv_lstore_n (lv' := [(1, .long (((((((((gxDg S G N n) * 31) + (Int32.toInt64 (S 5 (nI n).toNatClampNeg))) * 31) + (Int32.toInt64 (gxFree S (nI n).toNatClampNeg N))) * 31) + (Int32.toInt64 (gxWat S (nI n) N))) * 31) + (Int32.toInt64 (gxFiR S (nI n).toNatClampNeg N)))), (3, .int (nI n)), (0, .ref t)]) hx hb dX1_digest_164 rfl hl (by decide) rfl (fun ls hl => ?_)
    refine lv_lload_n hx hb dX1_digest_165 rfl (lv_at hl 0 rfl) ?_
    refine lv_ldc2 (v := 31) hx hb hC.2.2.2.1 (hC.2.2.2.2 _ (List.mem_of_getElem? (i := 2) rfl)) dX1_digest_166 ?_
    refine lv_lmul hx hb dX1_digest_169 ?_
    refine lv_aload_n hx hb dX1_digest_170 rfl (lv_at hl 2 rfl) ?_
    refine lv_iload_n hx hb dX1_digest_171 rfl (lv_at hl 1 rfl) ?_
    refine gx_callV hC 0 1 1 (ct_X1_permitsWanted l hl0 D cI t o r S o1 r1 (gxT1 S T G N n) (nI n) N hN hN12 G hG hG4) gX1_digest_X1_permitsWanted dX1_digest_172 hTh hlk htab hK hP hD hS hA hl.1 rfl hd_X1_permitsWanted ⟨Nat.le_of_ble_eq_true rfl, Nat.le_of_ble_eq_true rfl⟩ (by show _ ≤ 120 ∧ _ ≤ 720; omega) rfl rfl rfl rfl (Nat.le_of_ble_eq_true rfl) (by omega) (fun E hE => by rw [(xGate_ok hG hG4 hi_n)] at hE; cases hE) (fun hn172 H locs hP hD hS => ?_)
    refine lv_i2l hx hb dX1_digest_175 rfl ?_
    refine lv_ladd hx hb dX1_digest_176 ?_
    refine lv_lstore_n (lv' := [(1, .long (((((((((((gxDg S G N n) * 31) + (Int32.toInt64 (S 5 (nI n).toNatClampNeg))) * 31) + (Int32.toInt64 (gxFree S (nI n).toNatClampNeg N))) * 31) + (Int32.toInt64 (gxWat S (nI n) N))) * 31) + (Int32.toInt64 (gxFiR S (nI n).toNatClampNeg N))) * 31) + (Int32.toInt64 (gxPw S G N (nI n).toNatClampNeg)))), (3, .int (nI n)), (0, .ref t)]) hx hb dX1_digest_177 rfl hl (by decide) rfl (fun ls hl => ?_)
    refine lv_lload_n hx hb dX1_digest_178 rfl (lv_at hl 0 rfl) ?_
    refine lv_ldc2 (v := 31) hx hb hC.2.2.2.1 (hC.2.2.2.2 _ (List.mem_of_getElem? (i := 2) rfl)) dX1_digest_179 ?_
    refine lv_lmul hx hb dX1_digest_182 ?_
    refine lv_aload_n hx hb dX1_digest_183 rfl (lv_at hl 2 rfl) ?_
    refine lv_iload_n hx hb dX1_digest_184 rfl (lv_at hl 1 rfl) ?_
    refine gx_callV hC 0 1 1 (ct_X1_bestOrder l hl0 D cI t o r S o1 r1 (gxPwF S (gxT1 S T G N n) G N (nI n).toNatClampNeg) (nI n) N hN hN12 G hG hG4) gX1_digest_X1_bestOrder dX1_digest_185 hTh hlk htab hK hP hD hS hA hl.1 rfl hd_X1_bestOrder ⟨Nat.le_of_ble_eq_true rfl, Nat.le_of_ble_eq_true rfl⟩ (by show _ ≤ 120 ∧ _ ≤ 720; omega) rfl rfl rfl rfl (Nat.le_of_ble_eq_true rfl) (by omega) (fun E hE => by rw [(xGate_ok hG hG4 hi_n)] at hE; cases hE) (fun hn185 H locs hP hD hS => ?_)
    refine lv_i2l hx hb dX1_digest_188 rfl ?_
    refine lv_ladd hx hb dX1_digest_189 ?_
    refine lv_lstore_n (lv' := [(1, .long (((((((((((((gxDg S G N n) * 31) + (Int32.toInt64 (S 5 (nI n).toNatClampNeg))) * 31) + (Int32.toInt64 (gxFree S (nI n).toNatClampNeg N))) * 31) + (Int32.toInt64 (gxWat S (nI n) N))) * 31) + (Int32.toInt64 (gxFiR S (nI n).toNatClampNeg N))) * 31) + (Int32.toInt64 (gxPw S G N (nI n).toNatClampNeg))) * 31) + (Int32.toInt64 (gxBo S G N (nI n).toNatClampNeg)))), (3, .int (nI n)), (0, .ref t)]) hx hb dX1_digest_190 rfl hl (by decide) rfl (fun ls hl => ?_)
    refine gt_inc (lv' := [(3, .int (nI (n + 1))), (1, .long (((((((((((((gxDg S G N n) * 31) + (Int32.toInt64 (S 5 (nI n).toNatClampNeg))) * 31) + (Int32.toInt64 (gxFree S (nI n).toNatClampNeg N))) * 31) + (Int32.toInt64 (gxWat S (nI n) N))) * 31) + (Int32.toInt64 (gxFiR S (nI n).toNatClampNeg N))) * 31) + (Int32.toInt64 (gxPw S G N (nI n).toNatClampNeg))) * 31) + (Int32.toInt64 (gxBo S G N (nI n).toNatClampNeg)))), (0, .ref t)]) hC 1 n dX1_digest_191 hl rfl rfl (by decide) rfl (fun ls hl => ?_)
    refine lv_goto (tgt := 102) hx hb dX1_digest_194 (by decide) ?_
    have hl9 : lv_has ls 4 [(3, .int (nI (n + 1))), (1, .long (((((((((((((gxDg S G N n) * 31) + (Int32.toInt64 (S 5 (nI n).toNatClampNeg))) * 31) + (Int32.toInt64 (gxFree S (nI n).toNatClampNeg N))) * 31) + (Int32.toInt64 (gxWat S (nI n) N))) * 31) + (Int32.toInt64 (gxFiR S (nI n).toNatClampNeg N))) * 31) + (Int32.toInt64 (gxPw S G N (nI n).toNatClampNeg))) * 31) + (Int32.toInt64 (gxBo S G N (nI n).toNatClampNeg)))), (0, .ref t)] := lv_sub hl [0, 1, 2] rfl
    rw [show .long (((((((((((((gxDg S G N n) * 31) + (Int32.toInt64 (S 5 (nI n).toNatClampNeg))) * 31) + (Int32.toInt64 (gxFree S (nI n).toNatClampNeg N))) * 31) + (Int32.toInt64 (gxWat S (nI n) N))) * 31) + (Int32.toInt64 (gxFiR S (nI n).toNatClampNeg N))) * 31) + (Int32.toInt64 (gxPw S G N (nI n).toNatClampNeg))) * 31) + (Int32.toInt64 (gxBo S G N (nI n).toNatClampNeg))) = (Value.long (gxDg S G N (n + 1))) from congrArg _ (by show _ = dk (dk (dk (dk (dk (dk (gxDg S G N n) (S 5 n)) (gxFree S n N)) (gxWat S (nI n) N)) (gxFiR S n N)) (gxPw S G N n)) (gxBo S G N n); rw [hcn]; rfl)] at hl9
    have e9 : gxGuT S G N (nI n).toNatClampNeg (S 5 (nI n).toNatClampNeg) 1 = (gxT1 S T G N (n + 1)) := by rw [hcn]; rfl
    rw [e9] at hP hD
    refine W.widen (k := 0 + (n + 1) * 6) (n := 0 + (n + 1) * 36) (by omega) (by omega) ?_
    exact K1 H locs ls hP hD hS hl9
  · skip
    refine lv_iload_n hx hb dX1_digest_102 rfl (lv_at hl 0 rfl) ?_
    refine lv_aload_n hx hb dX1_digest_103 rfl (lv_at hl 2 rfl) ?_
    refine gt_get hC 0 1 0 3 hinX1 hK hP dX1_digest_104 rfl rfl rfl (by decide) rfl rfl ?_
    refine gt_get hC 1 0 1 4 hinX0 hK hP dX1_digest_107 rfl rfl rfl (by decide) rfl rfl ?_
    refine gt_ge_t (tgt := 197) hC G G dX1_digest_110 (by decide) rfl hG (Nat.le_refl _) (by omega) ?_
    refine lv_iconst (v := 0) hx hb dX1_digest_197 (by decide) ?_
    refine lv_istore_n (lv' := [(3, .int 0), (1, .long (gxDg S G N G)), (0, .ref t)]) hx hb dX1_digest_198 rfl hl (by decide) rfl (fun ls hl => ?_)
    refine gt_loopC D A s.heap 4 N 24 144 8 48 (fun n => [(3, .int (nI n)), (1, .long (gxDk S G N n)), (0, .ref t)]) (fun n => (tw cI t o r S o1 r1 (gxT2 S T G N n))) (lv_sub hl [0, 1, 2] rfl) hP hD hS (by omega) (by omega) (fun n hi_n H locs ls hP hD hS hl K2 => ?_) (fun H locs ls hP hD hS hl => ?_)
    · skip
      have hcn : (nI n).toNatClampNeg = n := nI_clamp (by omega)
      refine lv_iload_n hx hb dX1_digest_199 rfl (lv_at hl 0 rfl) ?_
      refine lv_aload_n hx hb dX1_digest_200 rfl (lv_at hl 2 rfl) ?_
      refine gt_get hC 0 1 0 3 hinX1 hK hP dX1_digest_201 rfl rfl rfl (by decide) rfl rfl ?_
      refine gt_get hC 1 0 2 5 hinX0 hK hP dX1_digest_204 rfl rfl rfl (by decide) rfl rfl ?_
      refine gt_ge_f (tgt := 320) hC n N dX1_digest_207 (by decide) rfl hN hi_n (by omega) ?_
      refine lv_lload_n hx hb dX1_digest_210 rfl (lv_at hl 1 rfl) ?_
      refine lv_ldc2 (v := 31) hx hb hC.2.2.2.1 (hC.2.2.2.2 _ (List.mem_of_getElem? (i := 2) rfl)) dX1_digest_211 ?_
      refine lv_lmul hx hb dX1_digest_214 ?_
      refine lv_aload_n hx hb dX1_digest_215 rfl (lv_at hl 2 rfl) ?_
      refine lv_iload_n hx hb dX1_digest_216 rfl (lv_at hl 0 rfl) ?_
      refine gx_callV hC 0 1 1 (ct_X1_stateOf l hl0 D cI t o r S o1 r1 (gxT2 S T G N n) (nI n) N hN hN12) gX1_digest_X1_stateOf dX1_digest_217 hTh hlk htab hK hP hD hS hA hl.1 rfl hd_X1_stateOf ⟨Nat.le_of_ble_eq_true rfl, Nat.le_of_ble_eq_true rfl⟩ (by show _ ≤ 120 ∧ _ ≤ 720; omega) rfl rfl rfl rfl (Nat.le_of_ble_eq_true rfl) (by omega) (fun E hE => by rw [(xGoat_ok hN hN12 hi_n)] at hE; cases hE) (fun hn217 H locs hP hD hS => ?_)
      refine lv_i2l hx hb dX1_digest_220 rfl ?_
      refine lv_ladd hx hb dX1_digest_221 ?_
      refine lv_lstore_n (lv' := [(1, .long (((gxDk S G N n) * 31) + (Int32.toInt64 (S 9 (nI n).toNatClampNeg)))), (3, .int (nI n)), (0, .ref t)]) hx hb dX1_digest_222 rfl hl (by decide) rfl (fun ls hl => ?_)
      refine lv_lload_n hx hb dX1_digest_223 rfl (lv_at hl 0 rfl) ?_
      refine lv_ldc2 (v := 31) hx hb hC.2.2.2.1 (hC.2.2.2.2 _ (List.mem_of_getElem? (i := 2) rfl)) dX1_digest_224 ?_
      refine lv_lmul hx hb dX1_digest_227 ?_
      refine lv_aload_n hx hb dX1_digest_228 rfl (lv_at hl 2 rfl) ?_
      refine lv_iload_n hx hb dX1_digest_229 rfl (lv_at hl 1 rfl) ?_
      refine gx_callV hC 0 1 1 (ct_X1_gateOf l hl0 D cI t o r S o1 r1 (gxT2 S T G N n) (nI n) N hN hN12) gX1_digest_X1_gateOf dX1_digest_230 hTh hlk htab hK hP hD hS hA hl.1 rfl hd_X1_gateOf ⟨Nat.le_of_ble_eq_true rfl, Nat.le_of_ble_eq_true rfl⟩ (by show _ ≤ 120 ∧ _ ≤ 720; omega) rfl rfl rfl rfl (Nat.le_of_ble_eq_true rfl) (by omega) (fun E hE => by rw [(xGoat_ok hN hN12 hi_n)] at hE; cases hE) (fun hn230 H locs hP hD hS => ?_)
      refine lv_i2l hx hb dX1_digest_233 rfl ?_
      refine lv_ladd hx hb dX1_digest_234 ?_
      refine lv_lstore_n (lv' := [(1, .long (((((gxDk S G N n) * 31) + (Int32.toInt64 (S 9 (nI n).toNatClampNeg))) * 31) + (Int32.toInt64 (S 10 (nI n).toNatClampNeg)))), (3, .int (nI n)), (0, .ref t)]) hx hb dX1_digest_235 rfl hl (by decide) rfl (fun ls hl => ?_)
      refine lv_lload_n hx hb dX1_digest_236 rfl (lv_at hl 0 rfl) ?_
      refine lv_ldc2 (v := 31) hx hb hC.2.2.2.1 (hC.2.2.2.2 _ (List.mem_of_getElem? (i := 2) rfl)) dX1_digest_237 ?_
      refine lv_lmul hx hb dX1_digest_240 ?_
      refine lv_aload_n hx hb dX1_digest_241 rfl (lv_at hl 2 rfl) ?_
      refine lv_iload_n hx hb dX1_digest_242 rfl (lv_at hl 1 rfl) ?_
      refine gx_callV hC 0 1 1 (ct_X1_holds l hl0 D cI t o r S o1 r1 (gxT2 S T G N n) (nI n) N hN hN12) gX1_digest_X1_holds dX1_digest_243 hTh hlk htab hK hP hD hS hA hl.1 rfl hd_X1_holds ⟨Nat.le_of_ble_eq_true rfl, Nat.le_of_ble_eq_true rfl⟩ (by show _ ≤ 120 ∧ _ ≤ 720; omega) rfl rfl rfl rfl (Nat.le_of_ble_eq_true rfl) (by omega) (fun E hE => by rw [(xGoat_ok hN hN12 hi_n)] at hE; cases hE) (fun hn243 H locs hP hD hS => ?_)
      refine lv_i2l hx hb dX1_digest_246 rfl ?_
      refine lv_ladd hx hb dX1_digest_247 ?_
      refine lv_lstore_n (lv' := [(1, .long (((((((gxDk S G N n) * 31) + (Int32.toInt64 (S 9 (nI n).toNatClampNeg))) * 31) + (Int32.toInt64 (S 10 (nI n).toNatClampNeg))) * 31) + (Int32.toInt64 (gxHeld S (nI n).toNatClampNeg)))), (3, .int (nI n)), (0, .ref t)]) hx hb dX1_digest_248 rfl hl (by decide) rfl (fun ls hl => ?_)
      refine lv_lload_n hx hb dX1_digest_249 rfl (lv_at hl 0 rfl) ?_
      refine lv_ldc2 (v := 31) hx hb hC.2.2.2.1 (hC.2.2.2.2 _ (List.mem_of_getElem? (i := 2) rfl)) dX1_digest_250 ?_
      refine lv_lmul hx hb dX1_digest_253 ?_
      refine lv_aload_n hx hb dX1_digest_254 rfl (lv_at hl 2 rfl) ?_
      refine lv_iload_n hx hb dX1_digest_255 rfl (lv_at hl 1 rfl) ?_
      refine gx_callV hC 0 1 1 (ct_X1_seemingHorns l hl0 D cI t o r S o1 r1 (gxT2 S T G N n) (nI n) N hN hN12) gX1_digest_X1_seemingHorns dX1_digest_256 hTh hlk htab hK hP hD hS hA hl.1 rfl hd_X1_seemingHorns ⟨Nat.le_of_ble_eq_true rfl, Nat.le_of_ble_eq_true rfl⟩ (by show _ ≤ 120 ∧ _ ≤ 720; omega) rfl rfl rfl rfl (Nat.le_of_ble_eq_true rfl) (by omega) (fun E hE => by rw [(xGoat_ok hN hN12 hi_n)] at hE; cases hE) (fun hn256 H locs hP hD hS => ?_)
      refine lv_i2l hx hb dX1_digest_259 rfl ?_
      refine lv_ladd hx hb dX1_digest_260 ?_
      refine lv_lstore_n (lv' := [(1, .long (((((((((gxDk S G N n) * 31) + (Int32.toInt64 (S 9 (nI n).toNatClampNeg))) * 31) + (Int32.toInt64 (S 10 (nI n).toNatClampNeg))) * 31) + (Int32.toInt64 (gxHeld S (nI n).toNatClampNeg))) * 31) + (Int32.toInt64 (gxSeem S (nI n).toNatClampNeg)))), (3, .int (nI n)), (0, .ref t)]) hx hb dX1_digest_261 rfl hl (by decide) rfl (fun ls hl => ?_)
      refine lv_lload_n hx hb dX1_digest_262 rfl (lv_at hl 0 rfl) ?_
      refine lv_ldc2 (v := 31) hx hb hC.2.2.2.1 (hC.2.2.2.2 _ (List.mem_of_getElem? (i := 2) rfl)) dX1_digest_263 ?_
      refine lv_lmul hx hb dX1_digest_266 ?_
      refine lv_aload_n hx hb dX1_digest_267 rfl (lv_at hl 2 rfl) ?_
      refine lv_iload_n hx hb dX1_digest_268 rfl (lv_at hl 1 rfl) ?_
      refine gx_callV hC 0 1 1 (ct_X1_minutesLeft l hl0 D cI t o r S o1 r1 (gxT2 S T G N n) (nI n) N hN hN12) gX1_digest_X1_minutesLeft dX1_digest_269 hTh hlk htab hK hP hD hS hA hl.1 rfl hd_X1_minutesLeft ⟨Nat.le_of_ble_eq_true rfl, Nat.le_of_ble_eq_true rfl⟩ (by show _ ≤ 120 ∧ _ ≤ 720; omega) rfl rfl rfl rfl (Nat.le_of_ble_eq_true rfl) (by omega) (fun E hE => by rw [(xGoat_ok hN hN12 hi_n)] at hE; cases hE) (fun hn269 H locs hP hD hS => ?_)
      refine lv_i2l hx hb dX1_digest_272 rfl ?_
      refine lv_ladd hx hb dX1_digest_273 ?_
      refine lv_lstore_n (lv' := [(1, .long (((((((((((gxDk S G N n) * 31) + (Int32.toInt64 (S 9 (nI n).toNatClampNeg))) * 31) + (Int32.toInt64 (S 10 (nI n).toNatClampNeg))) * 31) + (Int32.toInt64 (gxHeld S (nI n).toNatClampNeg))) * 31) + (Int32.toInt64 (gxSeem S (nI n).toNatClampNeg))) * 31) + (Int32.toInt64 (S 13 (nI n).toNatClampNeg)))), (3, .int (nI n)), (0, .ref t)]) hx hb dX1_digest_274 rfl hl (by decide) rfl (fun ls hl => ?_)
      refine lv_lload_n hx hb dX1_digest_275 rfl (lv_at hl 0 rfl) ?_
      refine lv_ldc2 (v := 31) hx hb hC.2.2.2.1 (hC.2.2.2.2 _ (List.mem_of_getElem? (i := 2) rfl)) dX1_digest_276 ?_
      refine lv_lmul hx hb dX1_digest_279 ?_
      refine lv_aload_n hx hb dX1_digest_280 rfl (lv_at hl 2 rfl) ?_
      refine lv_iload_n hx hb dX1_digest_281 rfl (lv_at hl 1 rfl) ?_
      refine gx_callV hC 0 1 1 (ct_X1_waitedOf l hl0 D cI t o r S o1 r1 (gxT2 S T G N n) (nI n) N hN hN12) gX1_digest_X1_waitedOf dX1_digest_282 hTh hlk htab hK hP hD hS hA hl.1 rfl hd_X1_waitedOf ⟨Nat.le_of_ble_eq_true rfl, Nat.le_of_ble_eq_true rfl⟩ (by show _ ≤ 120 ∧ _ ≤ 720; omega) rfl rfl rfl rfl (Nat.le_of_ble_eq_true rfl) (by omega) (fun E hE => by rw [(xGoat_ok hN hN12 hi_n)] at hE; cases hE) (fun hn282 H locs hP hD hS => ?_)
      refine lv_i2l hx hb dX1_digest_285 rfl ?_
      refine lv_ladd hx hb dX1_digest_286 ?_
      refine lv_lstore_n (lv' := [(1, .long (((((((((((((gxDk S G N n) * 31) + (Int32.toInt64 (S 9 (nI n).toNatClampNeg))) * 31) + (Int32.toInt64 (S 10 (nI n).toNatClampNeg))) * 31) + (Int32.toInt64 (gxHeld S (nI n).toNatClampNeg))) * 31) + (Int32.toInt64 (gxSeem S (nI n).toNatClampNeg))) * 31) + (Int32.toInt64 (S 13 (nI n).toNatClampNeg))) * 31) + (Int32.toInt64 (S 16 (nI n).toNatClampNeg)))), (3, .int (nI n)), (0, .ref t)]) hx hb dX1_digest_287 rfl hl (by decide) rfl (fun ls hl => ?_)
      refine lv_lload_n hx hb dX1_digest_288 rfl (lv_at hl 0 rfl) ?_
      refine lv_ldc2 (v := 31) hx hb hC.2.2.2.1 (hC.2.2.2.2 _ (List.mem_of_getElem? (i := 2) rfl)) dX1_digest_289 ?_
      refine lv_lmul hx hb dX1_digest_292 ?_
      refine lv_aload_n hx hb dX1_digest_293 rfl (lv_at hl 2 rfl) ?_
      refine lv_iload_n hx hb dX1_digest_294 rfl (lv_at hl 1 rfl) ?_
      refine gx_callV hC 0 1 1 (ct_X1_placeInLine l hl0 D cI t o r S o1 r1 (gxT2 S T G N n) (nI n) N hN hN12) gX1_digest_X1_placeInLine dX1_digest_295 hTh hlk htab hK hP hD hS hA hl.1 rfl hd_X1_placeInLine ⟨Nat.le_of_ble_eq_true rfl, Nat.le_of_ble_eq_true rfl⟩ (by show _ ≤ 120 ∧ _ ≤ 720; omega) rfl rfl rfl rfl (Nat.le_of_ble_eq_true rfl) (by omega) (fun E hE => by rw [(xGoat_ok hN hN12 hi_n)] at hE; cases hE) (fun hn295 H locs hP hD hS => ?_)
      refine lv_i2l hx hb dX1_digest_298 rfl ?_
      refine lv_ladd hx hb dX1_digest_299 ?_
      refine lv_lstore_n (lv' := [(1, .long (((((((((((((((gxDk S G N n) * 31) + (Int32.toInt64 (S 9 (nI n).toNatClampNeg))) * 31) + (Int32.toInt64 (S 10 (nI n).toNatClampNeg))) * 31) + (Int32.toInt64 (gxHeld S (nI n).toNatClampNeg))) * 31) + (Int32.toInt64 (gxSeem S (nI n).toNatClampNeg))) * 31) + (Int32.toInt64 (S 13 (nI n).toNatClampNeg))) * 31) + (Int32.toInt64 (S 16 (nI n).toNatClampNeg))) * 31) + (Int32.toInt64 (gxPl S N (nI n).toNatClampNeg)))), (3, .int (nI n)), (0, .ref t)]) hx hb dX1_digest_300 rfl hl (by decide) rfl (fun ls hl => ?_)
      refine lv_lload_n hx hb dX1_digest_301 rfl (lv_at hl 0 rfl) ?_
      refine lv_ldc2 (v := 31) hx hb hC.2.2.2.1 (hC.2.2.2.2 _ (List.mem_of_getElem? (i := 2) rfl)) dX1_digest_302 ?_
      refine lv_lmul hx hb dX1_digest_305 ?_
      refine lv_aload_n hx hb dX1_digest_306 rfl (lv_at hl 2 rfl) ?_
      refine lv_iload_n hx hb dX1_digest_307 rfl (lv_at hl 1 rfl) ?_
      refine gx_callV hC 0 1 1 (ct_X1_minutesUntilIn l hl0 D cI t o r S o1 r1 (gxT2 S T G N n) (nI n) N hN hN12 G hG hG4) gX1_digest_X1_minutesUntilIn dX1_digest_308 hTh hlk htab hK hP hD hS hA hl.1 rfl hd_X1_minutesUntilIn ⟨Nat.le_of_ble_eq_true rfl, Nat.le_of_ble_eq_true rfl⟩ (by show _ ≤ 120 ∧ _ ≤ 720; omega) rfl rfl rfl rfl (Nat.le_of_ble_eq_true rfl) (by omega) (fun E hE => by rw [(xGoat_ok hN hN12 hi_n)] at hE; cases hE) (fun hn308 H locs hP hD hS => ?_)
      refine lv_i2l hx hb dX1_digest_311 rfl ?_
      refine lv_ladd hx hb dX1_digest_312 ?_
      refine lv_lstore_n (lv' := [(1, .long (((((((((((((((((gxDk S G N n) * 31) + (Int32.toInt64 (S 9 (nI n).toNatClampNeg))) * 31) + (Int32.toInt64 (S 10 (nI n).toNatClampNeg))) * 31) + (Int32.toInt64 (gxHeld S (nI n).toNatClampNeg))) * 31) + (Int32.toInt64 (gxSeem S (nI n).toNatClampNeg))) * 31) + (Int32.toInt64 (S 13 (nI n).toNatClampNeg))) * 31) + (Int32.toInt64 (S 16 (nI n).toNatClampNeg))) * 31) + (Int32.toInt64 (gxPl S N (nI n).toNatClampNeg))) * 31) + (Int32.toInt64 (gxUn S G N (nI n).toNatClampNeg)))), (3, .int (nI n)), (0, .ref t)]) hx hb dX1_digest_313 rfl hl (by decide) rfl (fun ls hl => ?_)
      refine gt_inc (lv' := [(3, .int (nI (n + 1))), (1, .long (((((((((((((((((gxDk S G N n) * 31) + (Int32.toInt64 (S 9 (nI n).toNatClampNeg))) * 31) + (Int32.toInt64 (S 10 (nI n).toNatClampNeg))) * 31) + (Int32.toInt64 (gxHeld S (nI n).toNatClampNeg))) * 31) + (Int32.toInt64 (gxSeem S (nI n).toNatClampNeg))) * 31) + (Int32.toInt64 (S 13 (nI n).toNatClampNeg))) * 31) + (Int32.toInt64 (S 16 (nI n).toNatClampNeg))) * 31) + (Int32.toInt64 (gxPl S N (nI n).toNatClampNeg))) * 31) + (Int32.toInt64 (gxUn S G N (nI n).toNatClampNeg)))), (0, .ref t)]) hC 1 n dX1_digest_314 hl rfl rfl (by decide) rfl (fun ls hl => ?_)
      refine lv_goto (tgt := 199) hx hb dX1_digest_317 (by decide) ?_
      have hl9 : lv_has ls 4 [(3, .int (nI (n + 1))), (1, .long (((((((((((((((((gxDk S G N n) * 31) + (Int32.toInt64 (S 9 (nI n).toNatClampNeg))) * 31) + (Int32.toInt64 (S 10 (nI n).toNatClampNeg))) * 31) + (Int32.toInt64 (gxHeld S (nI n).toNatClampNeg))) * 31) + (Int32.toInt64 (gxSeem S (nI n).toNatClampNeg))) * 31) + (Int32.toInt64 (S 13 (nI n).toNatClampNeg))) * 31) + (Int32.toInt64 (S 16 (nI n).toNatClampNeg))) * 31) + (Int32.toInt64 (gxPl S N (nI n).toNatClampNeg))) * 31) + (Int32.toInt64 (gxUn S G N (nI n).toNatClampNeg)))), (0, .ref t)] := lv_sub hl [0, 1, 2] rfl
      rw [show .long (((((((((((((((((gxDk S G N n) * 31) + (Int32.toInt64 (S 9 (nI n).toNatClampNeg))) * 31) + (Int32.toInt64 (S 10 (nI n).toNatClampNeg))) * 31) + (Int32.toInt64 (gxHeld S (nI n).toNatClampNeg))) * 31) + (Int32.toInt64 (gxSeem S (nI n).toNatClampNeg))) * 31) + (Int32.toInt64 (S 13 (nI n).toNatClampNeg))) * 31) + (Int32.toInt64 (S 16 (nI n).toNatClampNeg))) * 31) + (Int32.toInt64 (gxPl S N (nI n).toNatClampNeg))) * 31) + (Int32.toInt64 (gxUn S G N (nI n).toNatClampNeg))) = (Value.long (gxDk S G N (n + 1))) from congrArg _ (by show _ = dk (dk (dk (dk (dk (dk (dk (dk (gxDk S G N n) (S 9 n)) (S 10 n)) (gxHeld S n)) (gxSeem S n)) (S 13 n)) (S 16 n)) (gxPl S N n)) (gxUn S G N n); rw [hcn]; rfl)] at hl9
      have e9 : gxIt S G N (gxUnN S G N (nI n).toNatClampNeg) = (gxT2 S T G N (n + 1)) := by rw [hcn]; rfl
      rw [e9] at hP hD
      refine W.widen (k := 24 + (n + 1) * 8) (n := 144 + (n + 1) * 48) (by omega) (by omega) ?_
      exact K2 H locs ls hP hD hS hl9
    · skip
      refine lv_iload_n hx hb dX1_digest_199 rfl (lv_at hl 0 rfl) ?_
      refine lv_aload_n hx hb dX1_digest_200 rfl (lv_at hl 2 rfl) ?_
      refine gt_get hC 0 1 0 3 hinX1 hK hP dX1_digest_201 rfl rfl rfl (by decide) rfl rfl ?_
      refine gt_get hC 1 0 2 5 hinX0 hK hP dX1_digest_204 rfl rfl rfl (by decide) rfl rfl ?_
      refine gt_ge_t (tgt := 320) hC N N dX1_digest_207 (by decide) rfl hN (Nat.le_refl _) (by omega) ?_
      refine lv_lload_n hx hb dX1_digest_320 rfl (lv_at hl 1 rfl) ?_
      exact gx_lret hC hr hlk hK (ws := (tw cI t o r S o1 r1 (gxT2 S T G N N))) hP hD hS rfl (show some (Value.long (gxDk S G N N)) = _ from rfl) rfl dX1_digest_321 (by omega) (by omega)
