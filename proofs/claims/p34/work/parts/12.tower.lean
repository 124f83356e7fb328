/-! The contracts of the tower's methods (laid by wip/whole/gen/tower2.py). -/
theorem hd_X0_become : yX0_become.cls = RX0 ∧ yX0_become.cls ≠ "java/lang/invoke/MethodHandle" ∧ yX0_become.cls ≠ "java/lang/invoke/VarHandle" ∧ (parseMethodDescriptor yX0_become.desc).map (fun d => d.parameters.length) = some 1 := by decide +kernel
set_option maxHeartbeats 400000 in
set_option maxRecDepth 100000 in
theorem ct_X0_become (l : Launch) (D : va_G) (cI : ClassId) (o : Nat) (r : Nat → Nat) (S : SS) (o1 : Nat) (r1 : Nat → Nat) (T : SS)  : Ct l D [(cI, .int)] yX0_become wsX0_become 0 0 0 0 [.ref o, .ref o1] (sw cI o1 r1 T ++ sw cI o r S) none (sw cI o1 r1 T ++ sw cI o r T) := by
  refine Ct.ofW (cc := cX0_become) (maxL := 3) (ret := none) (by decide) rfl (Nat.le_of_ble_eq_true rfl) ?_
  intro p e s m below meth c A ls hC hr hlk _ hP hD hS hK hA hl
  have hx := hC.1
  have hb := hC.2.1
  have hinX0 : ∀ w ∈ wsX00, w ∈ wsX0_become := fun _ _h => List.mem_cons_of_mem _ (List.mem_append_right _ _h)
  have hl : lv_has ls 3 [(0, .ref o), (1, .ref o1)] := hl
  refine lv_aload_n hx hb dX0_become_0 rfl (lv_at hl 0 rfl) ?_
  refine lv_aload_n hx hb dX0_become_1 rfl (lv_at hl 1 rfl) ?_
  refine gt_get hC 0 0 0 1 hinX0 hK hP dX0_become_2 rfl rfl rfl (by decide) rfl rfl ?_
  refine gt_puti (ws' := (sw cI o1 r1 T ++ sw cI o r (up2 S 0 0 (T 0 0)))) hC 13 0 0 1 hinX0 tyX0_ok nmX0 hK hP hD hS dX0_become_5 rfl rfl (by decide) rfl rfl rfl rfl (Nat.le_of_ble_eq_true rfl) rfl (fun H locs hP hD hS => ?_)
  refine lv_aload_n hx hb dX0_become_8 rfl (lv_at hl 0 rfl) ?_
  refine lv_aload_n hx hb dX0_become_9 rfl (lv_at hl 1 rfl) ?_
  refine gt_get hC 0 0 1 2 hinX0 hK hP dX0_become_10 rfl rfl rfl (by decide) rfl rfl ?_
  refine gt_puti (ws' := (sw cI o1 r1 T ++ sw cI o r (up2 (up2 S 0 0 (T 0 0)) 0 1 (T 0 1)))) hC 13 0 1 2 hinX0 tyX0_ok nmX0 hK hP hD hS dX0_become_13 rfl rfl (by decide) rfl rfl rfl rfl (Nat.le_of_ble_eq_true rfl) rfl (fun H locs hP hD hS => ?_)
  refine lv_aload_n hx hb dX0_become_16 rfl (lv_at hl 0 rfl) ?_
  refine lv_aload_n hx hb dX0_become_17 rfl (lv_at hl 1 rfl) ?_
  refine gt_get hC 0 0 2 3 hinX0 hK hP dX0_become_18 rfl rfl rfl (by decide) rfl rfl ?_
  refine gt_puti (ws' := (sw cI o1 r1 T ++ sw cI o r (up2 (up2 (up2 S 0 0 (T 0 0)) 0 1 (T 0 1)) 0 2 (T 0 2)))) hC 13 0 2 3 hinX0 tyX0_ok nmX0 hK hP hD hS dX0_become_21 rfl rfl (by decide) rfl rfl rfl rfl (Nat.le_of_ble_eq_true rfl) rfl (fun H locs hP hD hS => ?_)
  refine lv_aload_n hx hb dX0_become_24 rfl (lv_at hl 0 rfl) ?_
  refine lv_aload_n hx hb dX0_become_25 rfl (lv_at hl 1 rfl) ?_
  refine gt_get hC 0 0 3 4 hinX0 hK hP dX0_become_26 rfl rfl rfl (by decide) rfl rfl ?_
  refine gt_puti (ws' := (sw cI o1 r1 T ++ sw cI o r (up2 (up2 (up2 (up2 S 0 0 (T 0 0)) 0 1 (T 0 1)) 0 2 (T 0 2)) 0 3 (T 0 3)))) hC 13 0 3 4 hinX0 tyX0_ok nmX0 hK hP hD hS dX0_become_29 rfl rfl (by decide) rfl rfl rfl rfl (Nat.le_of_ble_eq_true rfl) rfl (fun H locs hP hD hS => ?_)
  refine lv_aload_n hx hb dX0_become_32 rfl (lv_at hl 0 rfl) ?_
  refine lv_aload_n hx hb dX0_become_33 rfl (lv_at hl 1 rfl) ?_
  refine gt_get hC 0 0 4 5 hinX0 hK hP dX0_become_34 rfl rfl rfl (by decide) rfl rfl ?_
  refine gt_puti (ws' := (sw cI o1 r1 T ++ sw cI o r (up2 (up2 (up2 (up2 (up2 S 0 0 (T 0 0)) 0 1 (T 0 1)) 0 2 (T 0 2)) 0 3 (T 0 3)) 0 4 (T 0 4)))) hC 13 0 4 5 hinX0 tyX0_ok nmX0 hK hP hD hS dX0_become_37 rfl rfl (by decide) rfl rfl rfl rfl (Nat.le_of_ble_eq_true rfl) rfl (fun H locs hP hD hS => ?_)
  refine lv_iconst (v := 0) hx hb dX0_become_40 (by decide) ?_
  refine lv_istore_n (lv' := [(2, .int 0), (0, .ref o), (1, .ref o1)]) hx hb dX0_become_41 rfl hl (by decide) rfl (fun ls hl => ?_)
  refine gt_loop D A s.heap 3 4 (fun n => [(2, .int (nI n)), (0, .ref o), (1, .ref o1)]) (fun n => (sw cI o1 r1 T ++ sw cI o r (gxCa (gxHd S T) T n))) (lv_sub hl [0, 1, 2] rfl) hP hD hS (fun n hi_n H locs ls hP hD hS hl K1 => ?_) (fun H locs ls hP hD hS hl => ?_)
  · skip
    refine lv_iload_n hx hb dX0_become_42 rfl (lv_at hl 0 rfl) ?_
    refine lv_iconst (v := 4) hx hb dX0_become_43 (by decide) ?_
    refine gt_ge_f (tgt := 89) hC n 4 dX0_become_44 (by decide) rfl (by decide) hi_n (by decide) ?_
    refine lv_aload_n hx hb dX0_become_47 rfl (lv_at hl 1 rfl) ?_
    refine gt_get hC 13 0 5 6 hinX0 hK hP dX0_become_48 rfl rfl rfl (by decide) rfl rfl ?_
    refine lv_iload_n hx hb dX0_become_51 rfl (lv_at hl 0 rfl) ?_
    refine lv_aload_n hx hb dX0_become_52 rfl (lv_at hl 2 rfl) ?_
    refine gt_get hC 0 0 5 6 hinX0 hK hP dX0_become_53 rfl rfl rfl (by decide) rfl rfl ?_
    refine lv_iload_n hx hb dX0_become_56 rfl (lv_at hl 0 rfl) ?_
    refine gt_ald hC 1 0 n hK hP dX0_become_57 rfl rfl rfl (by omega) (Nat.le_of_ble_eq_true rfl) ?_
    refine gt_ast (ws' := (sw cI o1 r1 T ++ sw cI o r (up2 (gxCa (gxHd S T) T n) 5 n (T 5 n)))) hC 14 0 n hK hP hD hS dX0_become_58 rfl rfl rfl (by omega) (Nat.le_of_ble_eq_true rfl) rfl (fun H locs hP hD hS => ?_)
    refine lv_aload_n hx hb dX0_become_59 rfl (lv_at hl 1 rfl) ?_
    refine gt_get hC 13 0 6 7 hinX0 hK hP dX0_become_60 rfl rfl rfl (by decide) rfl rfl ?_
    refine lv_iload_n hx hb dX0_become_63 rfl (lv_at hl 0 rfl) ?_
    refine lv_aload_n hx hb dX0_become_64 rfl (lv_at hl 2 rfl) ?_
    refine gt_get hC 0 0 6 7 hinX0 hK hP dX0_become_65 rfl rfl rfl (by decide) rfl rfl ?_
    refine lv_iload_n hx hb dX0_become_68 rfl (lv_at hl 0 rfl) ?_
    refine gt_ald hC 2 0 n hK hP dX0_become_69 rfl rfl rfl (by omega) (Nat.le_of_ble_eq_true rfl) ?_
    refine gt_ast (ws' := (sw cI o1 r1 T ++ sw cI o r (up2 (up2 (gxCa (gxHd S T) T n) 5 n (T 5 n)) 6 n (T 6 n)))) hC 15 0 n hK hP hD hS dX0_become_70 rfl rfl rfl (by omega) (Nat.le_of_ble_eq_true rfl) rfl (fun H locs hP hD hS => ?_)
    refine lv_aload_n hx hb dX0_become_71 rfl (lv_at hl 1 rfl) ?_
    refine gt_get hC 13 0 7 8 hinX0 hK hP dX0_become_72 rfl rfl rfl (by decide) rfl rfl ?_
    refine lv_iload_n hx hb dX0_become_75 rfl (lv_at hl 0 rfl) ?_
    refine lv_aload_n hx hb dX0_become_76 rfl (lv_at hl 2 rfl) ?_
    refine gt_get hC 0 0 7 8 hinX0 hK hP dX0_become_77 rfl rfl rfl (by decide) rfl rfl ?_
    refine lv_iload_n hx hb dX0_become_80 rfl (lv_at hl 0 rfl) ?_
    refine gt_ald hC 3 0 n hK hP dX0_become_81 rfl rfl rfl (by omega) (Nat.le_of_ble_eq_true rfl) ?_
    refine gt_ast (ws' := (sw cI o1 r1 T ++ sw cI o r (up2 (up2 (up2 (gxCa (gxHd S T) T n) 5 n (T 5 n)) 6 n (T 6 n)) 7 n (T 7 n)))) hC 16 0 n hK hP hD hS dX0_become_82 rfl rfl rfl (by omega) (Nat.le_of_ble_eq_true rfl) rfl (fun H locs hP hD hS => ?_)
    refine gt_inc (lv' := [(2, .int (nI (n + 1))), (0, .ref o), (1, .ref o1)]) hC 0 n dX0_become_83 hl rfl rfl (by decide) rfl (fun ls hl => ?_)
    refine lv_goto (tgt := 42) hx hb dX0_become_86 (by decide) ?_
    have hl9 : lv_has ls 3 [(2, .int (nI (n + 1))), (0, .ref o), (1, .ref o1)] := lv_sub hl [0, 1, 2] rfl
    have e9 : (up2 (up2 (up2 (gxCa (gxHd S T) T n) 5 n (T 5 n)) 6 n (T 6 n)) 7 n (T 7 n)) = (gxCa (gxHd S T) T (n + 1)) := rfl
    rw [e9] at hP hD
    exact K1 H locs ls hP hD hS hl9
  · skip
    refine lv_iload_n hx hb dX0_become_42 rfl (lv_at hl 0 rfl) ?_
    refine lv_iconst (v := 4) hx hb dX0_become_43 (by decide) ?_
    refine gt_ge_t (tgt := 89) hC 4 4 dX0_become_44 (by decide) rfl (by decide) (Nat.le_refl _) (by decide) ?_
    refine lv_iconst (v := 0) hx hb dX0_become_89 (by decide) ?_
    refine lv_istore_n (lv' := [(2, .int 0), (0, .ref o), (1, .ref o1)]) hx hb dX0_become_90 rfl hl (by decide) rfl (fun ls hl => ?_)
    refine gt_loop D A s.heap 3 12 (fun n => [(2, .int (nI n)), (0, .ref o), (1, .ref o1)]) (fun n => (sw cI o1 r1 T ++ sw cI o r (gxCb (gxCa (gxHd S T) T 4) T n))) (lv_sub hl [0, 1, 2] rfl) hP hD hS (fun n hi_n H locs ls hP hD hS hl K2 => ?_) (fun H locs ls hP hD hS hl => ?_)
    · skip
      refine lv_iload_n hx hb dX0_become_91 rfl (lv_at hl 0 rfl) ?_
      refine lv_bipush (v := 12) hx hb dX0_become_92 (by decide) ?_
      refine gt_ge_f (tgt := 211) hC n 12 dX0_become_94 (by decide) rfl (by decide) hi_n (by decide) ?_
      refine lv_aload_n hx hb dX0_become_97 rfl (lv_at hl 1 rfl) ?_
      refine gt_get hC 13 0 8 9 hinX0 hK hP dX0_become_98 rfl rfl rfl (by decide) rfl rfl ?_
      refine lv_iload_n hx hb dX0_become_101 rfl (lv_at hl 0 rfl) ?_
      refine lv_aload_n hx hb dX0_become_102 rfl (lv_at hl 2 rfl) ?_
      refine gt_get hC 0 0 8 9 hinX0 hK hP dX0_become_103 rfl rfl rfl (by decide) rfl rfl ?_
      refine lv_iload_n hx hb dX0_become_106 rfl (lv_at hl 0 rfl) ?_
      refine gt_ald hC 4 0 n hK hP dX0_become_107 rfl rfl rfl (by omega) (Nat.le_of_ble_eq_true rfl) ?_
      refine gt_ast (ws' := (sw cI o1 r1 T ++ sw cI o r (up2 (gxCb (gxCa (gxHd S T) T 4) T n) 8 n (T 8 n)))) hC 17 0 n hK hP hD hS dX0_become_108 rfl rfl rfl (by omega) (Nat.le_of_ble_eq_true rfl) rfl (fun H locs hP hD hS => ?_)
      refine lv_aload_n hx hb dX0_become_109 rfl (lv_at hl 1 rfl) ?_
      refine gt_get hC 13 0 9 10 hinX0 hK hP dX0_become_110 rfl rfl rfl (by decide) rfl rfl ?_
      refine lv_iload_n hx hb dX0_become_113 rfl (lv_at hl 0 rfl) ?_
      refine lv_aload_n hx hb dX0_become_114 rfl (lv_at hl 2 rfl) ?_
      refine gt_get hC 0 0 9 10 hinX0 hK hP dX0_become_115 rfl rfl rfl (by decide) rfl rfl ?_
      refine lv_iload_n hx hb dX0_become_118 rfl (lv_at hl 0 rfl) ?_
      refine gt_ald hC 5 0 n hK hP dX0_become_119 rfl rfl rfl (by omega) (Nat.le_of_ble_eq_true rfl) ?_
      refine gt_ast (ws' := (sw cI o1 r1 T ++ sw cI o r (up2 (up2 (gxCb (gxCa (gxHd S T) T 4) T n) 8 n (T 8 n)) 9 n (T 9 n)))) hC 18 0 n hK hP hD hS dX0_become_120 rfl rfl rfl (by omega) (Nat.le_of_ble_eq_true rfl) rfl (fun H locs hP hD hS => ?_)
      refine lv_aload_n hx hb dX0_become_121 rfl (lv_at hl 1 rfl) ?_
      refine gt_get hC 13 0 10 11 hinX0 hK hP dX0_become_122 rfl rfl rfl (by decide) rfl rfl ?_
      refine lv_iload_n hx hb dX0_become_125 rfl (lv_at hl 0 rfl) ?_
      refine lv_aload_n hx hb dX0_become_126 rfl (lv_at hl 2 rfl) ?_
      refine gt_get hC 0 0 10 11 hinX0 hK hP dX0_become_127 rfl rfl rfl (by decide) rfl rfl ?_
      refine lv_iload_n hx hb dX0_become_130 rfl (lv_at hl 0 rfl) ?_
      refine gt_ald hC 6 0 n hK hP dX0_become_131 rfl rfl rfl (by omega) (Nat.le_of_ble_eq_true rfl) ?_
      refine gt_ast (ws' := (sw cI o1 r1 T ++ sw cI o r (up2 (up2 (up2 (gxCb (gxCa (gxHd S T) T 4) T n) 8 n (T 8 n)) 9 n (T 9 n)) 10 n (T 10 n)))) hC 19 0 n hK hP hD hS dX0_become_132 rfl rfl rfl (by omega) (Nat.le_of_ble_eq_true rfl) rfl (fun H locs hP hD hS => ?_)
      refine lv_aload_n hx hb dX0_become_133 rfl (lv_at hl 1 rfl) ?_
      refine gt_get hC 13 0 11 12 hinX0 hK hP dX0_become_134 rfl rfl rfl (by decide) rfl rfl ?_
      refine lv_iload_n hx hb dX0_become_137 rfl (lv_at hl 0 rfl) ?_
      refine lv_aload_n hx hb dX0_become_138 rfl (lv_at hl 2 rfl) ?_
      refine gt_get hC 0 0 11 12 hinX0 hK hP dX0_become_139 rfl rfl rfl (by decide) rfl rfl ?_
      refine lv_iload_n hx hb dX0_become_142 rfl (lv_at hl 0 rfl) ?_
      refine gt_ald hC 7 0 n hK hP dX0_become_143 rfl rfl rfl (by omega) (Nat.le_of_ble_eq_true rfl) ?_
      refine gt_ast (ws' := (sw cI o1 r1 T ++ sw cI o r (up2 (up2 (up2 (up2 (gxCb (gxCa (gxHd S T) T 4) T n) 8 n (T 8 n)) 9 n (T 9 n)) 10 n (T 10 n)) 11 n (T 11 n)))) hC 20 0 n hK hP hD hS dX0_become_144 rfl rfl rfl (by omega) (Nat.le_of_ble_eq_true rfl) rfl (fun H locs hP hD hS => ?_)
      refine lv_aload_n hx hb dX0_become_145 rfl (lv_at hl 1 rfl) ?_
      refine gt_get hC 13 0 12 13 hinX0 hK hP dX0_become_146 rfl rfl rfl (by decide) rfl rfl ?_
      refine lv_iload_n hx hb dX0_become_149 rfl (lv_at hl 0 rfl) ?_
      refine lv_aload_n hx hb dX0_become_150 rfl (lv_at hl 2 rfl) ?_
      refine gt_get hC 0 0 12 13 hinX0 hK hP dX0_become_151 rfl rfl rfl (by decide) rfl rfl ?_
      refine lv_iload_n hx hb dX0_become_154 rfl (lv_at hl 0 rfl) ?_
      refine gt_ald hC 8 0 n hK hP dX0_become_155 rfl rfl rfl (by omega) (Nat.le_of_ble_eq_true rfl) ?_
      refine gt_ast (ws' := (sw cI o1 r1 T ++ sw cI o r (up2 (up2 (up2 (up2 (up2 (gxCb (gxCa (gxHd S T) T 4) T n) 8 n (T 8 n)) 9 n (T 9 n)) 10 n (T 10 n)) 11 n (T 11 n)) 12 n (T 12 n)))) hC 21 0 n hK hP hD hS dX0_become_156 rfl rfl rfl (by omega) (Nat.le_of_ble_eq_true rfl) rfl (fun H locs hP hD hS => ?_)
      refine lv_aload_n hx hb dX0_become_157 rfl (lv_at hl 1 rfl) ?_
      refine gt_get hC 13 0 13 14 hinX0 hK hP dX0_become_158 rfl rfl rfl (by decide) rfl rfl ?_
      refine lv_iload_n hx hb dX0_become_161 rfl (lv_at hl 0 rfl) ?_
      refine lv_aload_n hx hb dX0_become_162 rfl (lv_at hl 2 rfl) ?_
      refine gt_get hC 0 0 13 14 hinX0 hK hP dX0_become_163 rfl rfl rfl (by decide) rfl rfl ?_
      refine lv_iload_n hx hb dX0_become_166 rfl (lv_at hl 0 rfl) ?_
      refine gt_ald hC 9 0 n hK hP dX0_become_167 rfl rfl rfl (by omega) (Nat.le_of_ble_eq_true rfl) ?_
      refine gt_ast (ws' := (sw cI o1 r1 T ++ sw cI o r (up2 (up2 (up2 (up2 (up2 (up2 (gxCb (gxCa (gxHd S T) T 4) T n) 8 n (T 8 n)) 9 n (T 9 n)) 10 n (T 10 n)) 11 n (T 11 n)) 12 n (T 12 n)) 13 n (T 13 n)))) hC 22 0 n hK hP hD hS dX0_become_168 rfl rfl rfl (by omega) (Nat.le_of_ble_eq_true rfl) rfl (fun H locs hP hD hS => ?_)
      refine lv_aload_n hx hb dX0_become_169 rfl (lv_at hl 1 rfl) ?_
      refine gt_get hC 13 0 14 15 hinX0 hK hP dX0_become_170 rfl rfl rfl (by decide) rfl rfl ?_
      refine lv_iload_n hx hb dX0_become_173 rfl (lv_at hl 0 rfl) ?_
      refine lv_aload_n hx hb dX0_become_174 rfl (lv_at hl 2 rfl) ?_
      refine gt_get hC 0 0 14 15 hinX0 hK hP dX0_become_175 rfl rfl rfl (by decide) rfl rfl ?_
      refine lv_iload_n hx hb dX0_become_178 rfl (lv_at hl 0 rfl) ?_
      refine gt_ald hC 10 0 n hK hP dX0_become_179 rfl rfl rfl (by omega) (Nat.le_of_ble_eq_true rfl) ?_
      refine gt_ast (ws' := (sw cI o1 r1 T ++ sw cI o r (up2 (up2 (up2 (up2 (up2 (up2 (up2 (gxCb (gxCa (gxHd S T) T 4) T n) 8 n (T 8 n)) 9 n (T 9 n)) 10 n (T 10 n)) 11 n (T 11 n)) 12 n (T 12 n)) 13 n (T 13 n)) 14 n (T 14 n)))) hC 23 0 n hK hP hD hS dX0_become_180 rfl rfl rfl (by omega) (Nat.le_of_ble_eq_true rfl) rfl (fun H locs hP hD hS => ?_)
      refine lv_aload_n hx hb dX0_become_181 rfl (lv_at hl 1 rfl) ?_
      refine gt_get hC 13 0 15 16 hinX0 hK hP dX0_become_182 rfl rfl rfl (by decide) rfl rfl ?_
      refine lv_iload_n hx hb dX0_become_185 rfl (lv_at hl 0 rfl) ?_
      refine lv_aload_n hx hb dX0_become_186 rfl (lv_at hl 2 rfl) ?_
      refine gt_get hC 0 0 15 16 hinX0 hK hP dX0_become_187 rfl rfl rfl (by decide) rfl rfl ?_
      refine lv_iload_n hx hb dX0_become_190 rfl (lv_at hl 0 rfl) ?_
      refine gt_ald hC 11 0 n hK hP dX0_become_191 rfl rfl rfl (by omega) (Nat.le_of_ble_eq_true rfl) ?_
      refine gt_ast (ws' := (sw cI o1 r1 T ++ sw cI o r (up2 (up2 (up2 (up2 (up2 (up2 (up2 (up2 (gxCb (gxCa (gxHd S T) T 4) T n) 8 n (T 8 n)) 9 n (T 9 n)) 10 n (T 10 n)) 11 n (T 11 n)) 12 n (T 12 n)) 13 n (T 13 n)) 14 n (T 14 n)) 15 n (T 15 n)))) hC 24 0 n hK hP hD hS dX0_become_192 rfl rfl rfl (by omega) (Nat.le_of_ble_eq_true rfl) rfl (fun H locs hP hD hS => ?_)
      refine lv_aload_n hx hb dX0_become_193 rfl (lv_at hl 1 rfl) ?_
      refine gt_get hC 13 0 16 17 hinX0 hK hP dX0_become_194 rfl rfl rfl (by decide) rfl rfl ?_
      refine lv_iload_n hx hb dX0_become_197 rfl (lv_at hl 0 rfl) ?_
      refine lv_aload_n hx hb dX0_become_198 rfl (lv_at hl 2 rfl) ?_
      refine gt_get hC 0 0 16 17 hinX0 hK hP dX0_become_199 rfl rfl rfl (by decide) rfl rfl ?_
      refine lv_iload_n hx hb dX0_become_202 rfl (lv_at hl 0 rfl) ?_
      refine gt_ald hC 12 0 n hK hP dX0_become_203 rfl rfl rfl (by omega) (Nat.le_of_ble_eq_true rfl) ?_
      refine gt_ast (ws' := (sw cI o1 r1 T ++ sw cI o r (up2 (up2 (up2 (up2 (up2 (up2 (up2 (up2 (up2 (gxCb (gxCa (gxHd S T) T 4) T n) 8 n (T 8 n)) 9 n (T 9 n)) 10 n (T 10 n)) 11 n (T 11 n)) 12 n (T 12 n)) 13 n (T 13 n)) 14 n (T 14 n)) 15 n (T 15 n)) 16 n (T 16 n)))) hC 25 0 n hK hP hD hS dX0_become_204 rfl rfl rfl (by omega) (Nat.le_of_ble_eq_true rfl) rfl (fun H locs hP hD hS => ?_)
      refine gt_inc (lv' := [(2, .int (nI (n + 1))), (0, .ref o), (1, .ref o1)]) hC 0 n dX0_become_205 hl rfl rfl (by decide) rfl (fun ls hl => ?_)
      refine lv_goto (tgt := 91) hx hb dX0_become_208 (by decide) ?_
      have hl9 : lv_has ls 3 [(2, .int (nI (n + 1))), (0, .ref o), (1, .ref o1)] := lv_sub hl [0, 1, 2] rfl
      have e9 : (up2 (up2 (up2 (up2 (up2 (up2 (up2 (up2 (up2 (gxCb (gxCa (gxHd S T) T 4) T n) 8 n (T 8 n)) 9 n (T 9 n)) 10 n (T 10 n)) 11 n (T 11 n)) 12 n (T 12 n)) 13 n (T 13 n)) 14 n (T 14 n)) 15 n (T 15 n)) 16 n (T 16 n)) = (gxCb (gxCa (gxHd S T) T 4) T (n + 1)) := rfl
      rw [e9] at hP hD
      exact K2 H locs ls hP hD hS hl9
    · skip
      refine lv_iload_n hx hb dX0_become_91 rfl (lv_at hl 0 rfl) ?_
      refine lv_bipush (v := 12) hx hb dX0_become_92 (by decide) ?_
      refine gt_ge_t (tgt := 211) hC 12 12 dX0_become_94 (by decide) rfl (by decide) (Nat.le_refl _) (by decide) ?_
      have hP := sw_same (gxCopy_eq S T) _ hP
      have hD : va_D A (sw cI o1 r1 T ++ sw cI o r T) := gt_Dsame (by rw [List.map_append, List.map_append]; exact congrArg _ (sw_fst cI o r _ T)) hD
      exact gt_vret hC hr hlk hK (ws := (sw cI o1 r1 T ++ sw cI o r T)) hP hD hS rfl rfl dX0_become_211 (Nat.le_of_ble_eq_true rfl) (Nat.le_of_ble_eq_true rfl)

theorem hd_X1_minute : yX1_minute.cls = RX1 ∧ yX1_minute.cls ≠ "java/lang/invoke/MethodHandle" ∧ yX1_minute.cls ≠ "java/lang/invoke/VarHandle" ∧ (parseMethodDescriptor yX1_minute.desc).map (fun d => d.parameters.length) = some 0 := by decide +kernel
set_option maxHeartbeats 400000 in
set_option maxRecDepth 100000 in
theorem ct_X1_minute (l : Launch) (D : va_G) (cI : ClassId) (t o : Nat) (r : Nat → Nat) (S : SS) (o1 : Nat) (r1 : Nat → Nat) (T : SS)  : Ct l D [(cI, .int)] yX1_minute wsX1_minute 0 0 0 0 [.ref t] (tw cI t o r S o1 r1 T) (some (.int (S 0 0))) (tw cI t o r S o1 r1 T) := by
  refine Ct.ofW (cc := cX1_minute) (maxL := 1) (ret := (some .int)) (by decide) rfl (Nat.le_of_ble_eq_true rfl) ?_
  intro p e s m below meth c A ls hC hr hlk _ hP hD hS hK hA hl
  have hx := hC.1
  have hb := hC.2.1
  have hinX0 : ∀ w ∈ wsX00, w ∈ wsX1_minute := fun _ _h => List.mem_cons_of_mem _ (List.mem_append_right _ _h)
  have hinX1 : ∀ w ∈ wsX10, w ∈ wsX1_minute := fun _ _h => List.mem_cons_of_mem _ (List.mem_append_left _ (List.mem_append_right _ _h))
  have hl : lv_has ls 1 [(0, .ref t)] := hl
  refine lv_aload_n hx hb dX1_minute_0 rfl (lv_at hl 0 rfl) ?_
  refine gt_get hC 0 1 0 1 hinX1 hK hP dX1_minute_1 rfl rfl rfl (by decide) rfl rfl ?_
  refine gt_get hC 1 0 0 2 hinX0 hK hP dX1_minute_4 rfl rfl rfl (by decide) rfl rfl ?_
  exact gt_iret hC hr hlk hK (ws := (tw cI t o r S o1 r1 T)) hP hD hS (show some (Value.int (S 0 0)) = _ from rfl) rfl dX1_minute_7 (Nat.le_of_ble_eq_true rfl) (Nat.le_of_ble_eq_true rfl)

theorem hd_X1_gates : yX1_gates.cls = RX1 ∧ yX1_gates.cls ≠ "java/lang/invoke/MethodHandle" ∧ yX1_gates.cls ≠ "java/lang/invoke/VarHandle" ∧ (parseMethodDescriptor yX1_gates.desc).map (fun d => d.parameters.length) = some 0 := by decide +kernel
set_option maxHeartbeats 400000 in
set_option maxRecDepth 100000 in
theorem ct_X1_gates (l : Launch) (D : va_G) (cI : ClassId) (t o : Nat) (r : Nat → Nat) (S : SS) (o1 : Nat) (r1 : Nat → Nat) (T : SS)  : Ct l D [(cI, .int)] yX1_gates wsX1_gates 0 0 0 0 [.ref t] (tw cI t o r S o1 r1 T) (some (.int (S 0 1))) (tw cI t o r S o1 r1 T) := by
  refine Ct.ofW (cc := cX1_gates) (maxL := 1) (ret := (some .int)) (by decide) rfl (Nat.le_of_ble_eq_true rfl) ?_
  intro p e s m below meth c A ls hC hr hlk _ hP hD hS hK hA hl
  have hx := hC.1
  have hb := hC.2.1
  have hinX0 : ∀ w ∈ wsX00, w ∈ wsX1_gates := fun _ _h => List.mem_cons_of_mem _ (List.mem_append_right _ _h)
  have hinX1 : ∀ w ∈ wsX10, w ∈ wsX1_gates := fun _ _h => List.mem_cons_of_mem _ (List.mem_append_left _ (List.mem_append_right _ _h))
  have hl : lv_has ls 1 [(0, .ref t)] := hl
  refine lv_aload_n hx hb dX1_gates_0 rfl (lv_at hl 0 rfl) ?_
  refine gt_get hC 0 1 0 1 hinX1 hK hP dX1_gates_1 rfl rfl rfl (by decide) rfl rfl ?_
  refine gt_get hC 1 0 1 2 hinX0 hK hP dX1_gates_4 rfl rfl rfl (by decide) rfl rfl ?_
  exact gt_iret hC hr hlk hK (ws := (tw cI t o r S o1 r1 T)) hP hD hS (show some (Value.int (S 0 1)) = _ from rfl) rfl dX1_gates_7 (Nat.le_of_ble_eq_true rfl) (Nat.le_of_ble_eq_true rfl)

theorem hd_X1_goats : yX1_goats.cls = RX1 ∧ yX1_goats.cls ≠ "java/lang/invoke/MethodHandle" ∧ yX1_goats.cls ≠ "java/lang/invoke/VarHandle" ∧ (parseMethodDescriptor yX1_goats.desc).map (fun d => d.parameters.length) = some 0 := by decide +kernel
set_option maxHeartbeats 400000 in
set_option maxRecDepth 100000 in
theorem ct_X1_goats (l : Launch) (D : va_G) (cI : ClassId) (t o : Nat) (r : Nat → Nat) (S : SS) (o1 : Nat) (r1 : Nat → Nat) (T : SS)  : Ct l D [(cI, .int)] yX1_goats wsX1_goats 0 0 0 0 [.ref t] (tw cI t o r S o1 r1 T) (some (.int (S 0 2))) (tw cI t o r S o1 r1 T) := by
  refine Ct.ofW (cc := cX1_goats) (maxL := 1) (ret := (some .int)) (by decide) rfl (Nat.le_of_ble_eq_true rfl) ?_
  intro p e s m below meth c A ls hC hr hlk _ hP hD hS hK hA hl
  have hx := hC.1
  have hb := hC.2.1
  have hinX0 : ∀ w ∈ wsX00, w ∈ wsX1_goats := fun _ _h => List.mem_cons_of_mem _ (List.mem_append_right _ _h)
  have hinX1 : ∀ w ∈ wsX10, w ∈ wsX1_goats := fun _ _h => List.mem_cons_of_mem _ (List.mem_append_left _ (List.mem_append_right _ _h))
  have hl : lv_has ls 1 [(0, .ref t)] := hl
  refine lv_aload_n hx hb dX1_goats_0 rfl (lv_at hl 0 rfl) ?_
  refine gt_get hC 0 1 0 1 hinX1 hK hP dX1_goats_1 rfl rfl rfl (by decide) rfl rfl ?_
  refine gt_get hC 1 0 2 2 hinX0 hK hP dX1_goats_4 rfl rfl rfl (by decide) rfl rfl ?_
  exact gt_iret hC hr hlk hK (ws := (tw cI t o r S o1 r1 T)) hP hD hS (show some (Value.int (S 0 2)) = _ from rfl) rfl dX1_goats_7 (Nat.le_of_ble_eq_true rfl) (Nat.le_of_ble_eq_true rfl)

theorem hd_X1_letIn : yX1_letIn.cls = RX1 ∧ yX1_letIn.cls ≠ "java/lang/invoke/MethodHandle" ∧ yX1_letIn.cls ≠ "java/lang/invoke/VarHandle" ∧ (parseMethodDescriptor yX1_letIn.desc).map (fun d => d.parameters.length) = some 0 := by decide +kernel
set_option maxHeartbeats 400000 in
set_option maxRecDepth 100000 in
theorem ct_X1_letIn (l : Launch) (D : va_G) (cI : ClassId) (t o : Nat) (r : Nat → Nat) (S : SS) (o1 : Nat) (r1 : Nat → Nat) (T : SS)  : Ct l D [(cI, .int)] yX1_letIn wsX1_letIn 0 0 0 0 [.ref t] (tw cI t o r S o1 r1 T) (some (.int (S 0 4))) (tw cI t o r S o1 r1 T) := by
  refine Ct.ofW (cc := cX1_letIn) (maxL := 1) (ret := (some .int)) (by decide) rfl (Nat.le_of_ble_eq_true rfl) ?_
  intro p e s m below meth c A ls hC hr hlk _ hP hD hS hK hA hl
  have hx := hC.1
  have hb := hC.2.1
  have hinX0 : ∀ w ∈ wsX00, w ∈ wsX1_letIn := fun _ _h => List.mem_cons_of_mem _ (List.mem_append_right _ _h)
  have hinX1 : ∀ w ∈ wsX10, w ∈ wsX1_letIn := fun _ _h => List.mem_cons_of_mem _ (List.mem_append_left _ (List.mem_append_right _ _h))
  have hl : lv_has ls 1 [(0, .ref t)] := hl
  refine lv_aload_n hx hb dX1_letIn_0 rfl (lv_at hl 0 rfl) ?_
  refine gt_get hC 0 1 0 1 hinX1 hK hP dX1_letIn_1 rfl rfl rfl (by decide) rfl rfl ?_
  refine gt_get hC 1 0 4 2 hinX0 hK hP dX1_letIn_4 rfl rfl rfl (by decide) rfl rfl ?_
  exact gt_iret hC hr hlk hK (ws := (tw cI t o r S o1 r1 T)) hP hD hS (show some (Value.int (S 0 4)) = _ from rfl) rfl dX1_letIn_7 (Nat.le_of_ble_eq_true rfl) (Nat.le_of_ble_eq_true rfl)

theorem hd_X1_waiting : yX1_waiting.cls = RX1 ∧ yX1_waiting.cls ≠ "java/lang/invoke/MethodHandle" ∧ yX1_waiting.cls ≠ "java/lang/invoke/VarHandle" ∧ (parseMethodDescriptor yX1_waiting.desc).map (fun d => d.parameters.length) = some 0 := by decide +kernel
set_option maxHeartbeats 400000 in
set_option maxRecDepth 100000 in
theorem ct_X1_waiting (l : Launch) (D : va_G) (cI : ClassId) (t o : Nat) (r : Nat → Nat) (S : SS) (o1 : Nat) (r1 : Nat → Nat) (T : SS) (N : Nat) (hN : S 0 2 = nI N) (hN12 : N ≤ 12) : Ct l D [(cI, .int)] yX1_waiting wsX1_waiting 1 23 0 0 [.ref t] (tw cI t o r S o1 r1 T) (some (.int (gxCnt S 1 N))) (tw cI t o r S o1 r1 T) := by
  refine Ct.ofW (cc := cX1_waiting) (maxL := 1) (ret := (some .int)) (by decide) rfl (Nat.le_of_ble_eq_true rfl) ?_
  intro p e s m below meth c A ls hC hr hlk _ hP hD hS hK hA hl
  have hx := hC.1
  have hb := hC.2.1
  have hinX0 : ∀ w ∈ wsX00, w ∈ wsX1_waiting := fun _ _h => List.mem_cons_of_mem _ (List.mem_append_right _ _h)
  have hinX1 : ∀ w ∈ wsX10, w ∈ wsX1_waiting := fun _ _h => List.mem_cons_of_mem _ (List.mem_append_left _ (List.mem_append_right _ _h))
  have hl : lv_has ls 1 [(0, .ref t)] := hl
  refine lv_aload_n hx hb dX1_waiting_0 rfl (lv_at hl 0 rfl) ?_
  refine gt_get hC 0 1 0 1 hinX1 hK hP dX1_waiting_1 rfl rfl rfl (by decide) rfl rfl ?_
  refine lv_iconst (v := 1) hx hb dX1_waiting_4 (by decide) ?_
  refine gt_callV (ws' := (tw cI t o r S o1 r1 T)) hC [(t, .inr (1, [.ref o, .ref o1]))] (sw cI o1 r1 T) 0 0 1 (ct_X0_countInState l D cI o r S 1 N hN hN12) gX1_waiting_X0_countInState dX1_waiting_5 hK hP hD hS hA hl.1 rfl hd_X0_countInState ⟨Nat.le_of_ble_eq_true rfl, Nat.le_of_ble_eq_true rfl⟩ ⟨Nat.le_of_ble_eq_true rfl, Nat.le_of_ble_eq_true rfl⟩ rfl rfl rfl rfl rfl rfl (Nat.le_of_ble_eq_true rfl) (fun H locs hP hD hS => ?_)
  exact gt_iret hC hr hlk hK (ws := (tw cI t o r S o1 r1 T)) hP hD hS (show some (Value.int (gxCnt S 1 N)) = _ from rfl) rfl dX1_waiting_8 (Nat.le_of_ble_eq_true rfl) (Nat.le_of_ble_eq_true rfl)

theorem hd_X1_inside : yX1_inside.cls = RX1 ∧ yX1_inside.cls ≠ "java/lang/invoke/MethodHandle" ∧ yX1_inside.cls ≠ "java/lang/invoke/VarHandle" ∧ (parseMethodDescriptor yX1_inside.desc).map (fun d => d.parameters.length) = some 0 := by decide +kernel
set_option maxHeartbeats 400000 in
set_option maxRecDepth 100000 in
theorem ct_X1_inside (l : Launch) (D : va_G) (cI : ClassId) (t o : Nat) (r : Nat → Nat) (S : SS) (o1 : Nat) (r1 : Nat → Nat) (T : SS) (N : Nat) (hN : S 0 2 = nI N) (hN12 : N ≤ 12) : Ct l D [(cI, .int)] yX1_inside wsX1_inside 1 23 0 0 [.ref t] (tw cI t o r S o1 r1 T) (some (.int (gxCnt S 2 N))) (tw cI t o r S o1 r1 T) := by
  refine Ct.ofW (cc := cX1_inside) (maxL := 1) (ret := (some .int)) (by decide) rfl (Nat.le_of_ble_eq_true rfl) ?_
  intro p e s m below meth c A ls hC hr hlk _ hP hD hS hK hA hl
  have hx := hC.1
  have hb := hC.2.1
  have hinX0 : ∀ w ∈ wsX00, w ∈ wsX1_inside := fun _ _h => List.mem_cons_of_mem _ (List.mem_append_right _ _h)
  have hinX1 : ∀ w ∈ wsX10, w ∈ wsX1_inside := fun _ _h => List.mem_cons_of_mem _ (List.mem_append_left _ (List.mem_append_right _ _h))
  have hl : lv_has ls 1 [(0, .ref t)] := hl
  refine lv_aload_n hx hb dX1_inside_0 rfl (lv_at hl 0 rfl) ?_
  refine gt_get hC 0 1 0 1 hinX1 hK hP dX1_inside_1 rfl rfl rfl (by decide) rfl rfl ?_
  refine lv_iconst (v := 2) hx hb dX1_inside_4 (by decide) ?_
  refine gt_callV (ws' := (tw cI t o r S o1 r1 T)) hC [(t, .inr (1, [.ref o, .ref o1]))] (sw cI o1 r1 T) 0 0 1 (ct_X0_countInState l D cI o r S 2 N hN hN12) gX1_inside_X0_countInState dX1_inside_5 hK hP hD hS hA hl.1 rfl hd_X0_countInState ⟨Nat.le_of_ble_eq_true rfl, Nat.le_of_ble_eq_true rfl⟩ ⟨Nat.le_of_ble_eq_true rfl, Nat.le_of_ble_eq_true rfl⟩ rfl rfl rfl rfl rfl rfl (Nat.le_of_ble_eq_true rfl) (fun H locs hP hD hS => ?_)
  exact gt_iret hC hr hlk hK (ws := (tw cI t o r S o1 r1 T)) hP hD hS (show some (Value.int (gxCnt S 2 N)) = _ from rfl) rfl dX1_inside_8 (Nat.le_of_ble_eq_true rfl) (Nat.le_of_ble_eq_true rfl)

theorem hd_X1_starving : yX1_starving.cls = RX1 ∧ yX1_starving.cls ≠ "java/lang/invoke/MethodHandle" ∧ yX1_starving.cls ≠ "java/lang/invoke/VarHandle" ∧ (parseMethodDescriptor yX1_starving.desc).map (fun d => d.parameters.length) = some 0 := by decide +kernel
set_option maxHeartbeats 400000 in
set_option maxRecDepth 100000 in
theorem ct_X1_starving (l : Launch) (D : va_G) (cI : ClassId) (t o : Nat) (r : Nat → Nat) (S : SS) (o1 : Nat) (r1 : Nat → Nat) (T : SS) (N : Nat) (hN : S 0 2 = nI N) (hN12 : N ≤ 12) : Ct l D [(cI, .int)] yX1_starving wsX1_starving 1 22 0 0 [.ref t] (tw cI t o r S o1 r1 T) (some (.int (gxStv S N))) (tw cI t o r S o1 r1 T) := by
  refine Ct.ofW (cc := cX1_starving) (maxL := 1) (ret := (some .int)) (by decide) rfl (Nat.le_of_ble_eq_true rfl) ?_
  intro p e s m below meth c A ls hC hr hlk _ hP hD hS hK hA hl
  have hx := hC.1
  have hb := hC.2.1
  have hinX0 : ∀ w ∈ wsX00, w ∈ wsX1_starving := fun _ _h => List.mem_cons_of_mem _ (List.mem_append_right _ _h)
  have hinX1 : ∀ w ∈ wsX10, w ∈ wsX1_starving := fun _ _h => List.mem_cons_of_mem _ (List.mem_append_left _ (List.mem_append_right _ _h))
  have hl : lv_has ls 1 [(0, .ref t)] := hl
  refine lv_aload_n hx hb dX1_starving_0 rfl (lv_at hl 0 rfl) ?_
  refine gt_get hC 0 1 0 1 hinX1 hK hP dX1_starving_1 rfl rfl rfl (by decide) rfl rfl ?_
  refine gt_callV (ws' := (tw cI t o r S o1 r1 T)) hC [(t, .inr (1, [.ref o, .ref o1]))] (sw cI o1 r1 T) 0 0 0 (ct_X0_countStarving l D cI o r S N hN hN12) gX1_starving_X0_countStarving dX1_starving_4 hK hP hD hS hA hl.1 rfl hd_X0_countStarving ⟨Nat.le_of_ble_eq_true rfl, Nat.le_of_ble_eq_true rfl⟩ ⟨Nat.le_of_ble_eq_true rfl, Nat.le_of_ble_eq_true rfl⟩ rfl rfl rfl rfl rfl rfl (Nat.le_of_ble_eq_true rfl) (fun H locs hP hD hS => ?_)
  exact gt_iret hC hr hlk hK (ws := (tw cI t o r S o1 r1 T)) hP hD hS (show some (Value.int (gxStv S N)) = _ from rfl) rfl dX1_starving_7 (Nat.le_of_ble_eq_true rfl) (Nat.le_of_ble_eq_true rfl)

theorem hd_X1_givenUp : yX1_givenUp.cls = RX1 ∧ yX1_givenUp.cls ≠ "java/lang/invoke/MethodHandle" ∧ yX1_givenUp.cls ≠ "java/lang/invoke/VarHandle" ∧ (parseMethodDescriptor yX1_givenUp.desc).map (fun d => d.parameters.length) = some 0 := by decide +kernel
set_option maxHeartbeats 400000 in
set_option maxRecDepth 100000 in
theorem ct_X1_givenUp (l : Launch) (D : va_G) (cI : ClassId) (t o : Nat) (r : Nat → Nat) (S : SS) (o1 : Nat) (r1 : Nat → Nat) (T : SS) (G : Nat) (hG : S 0 1 = nI G) (hG4 : G ≤ 4) : Ct l D [(cI, .int)] yX1_givenUp wsX1_givenUp 1 22 0 0 [.ref t] (tw cI t o r S o1 r1 T) (some (.int (gxGiv S G))) (tw cI t o r S o1 r1 T) := by
  refine Ct.ofW (cc := cX1_givenUp) (maxL := 1) (ret := (some .int)) (by decide) rfl (Nat.le_of_ble_eq_true rfl) ?_
  intro p e s m below meth c A ls hC hr hlk _ hP hD hS hK hA hl
  have hx := hC.1
  have hb := hC.2.1
  have hinX0 : ∀ w ∈ wsX00, w ∈ wsX1_givenUp := fun _ _h => List.mem_cons_of_mem _ (List.mem_append_right _ _h)
  have hinX1 : ∀ w ∈ wsX10, w ∈ wsX1_givenUp := fun _ _h => List.mem_cons_of_mem _ (List.mem_append_left _ (List.mem_append_right _ _h))
  have hl : lv_has ls 1 [(0, .ref t)] := hl
  refine lv_aload_n hx hb dX1_givenUp_0 rfl (lv_at hl 0 rfl) ?_
  refine gt_get hC 0 1 0 1 hinX1 hK hP dX1_givenUp_1 rfl rfl rfl (by decide) rfl rfl ?_
  refine gt_callV (ws' := (tw cI t o r S o1 r1 T)) hC [(t, .inr (1, [.ref o, .ref o1]))] (sw cI o1 r1 T) 0 0 0 (ct_X0_givenUpInAll l D cI o r S G hG hG4) gX1_givenUp_X0_givenUpInAll dX1_givenUp_4 hK hP hD hS hA hl.1 rfl hd_X0_givenUpInAll ⟨Nat.le_of_ble_eq_true rfl, Nat.le_of_ble_eq_true rfl⟩ ⟨Nat.le_of_ble_eq_true rfl, Nat.le_of_ble_eq_true rfl⟩ rfl rfl rfl rfl rfl rfl (Nat.le_of_ble_eq_true rfl) (fun H locs hP hD hS => ?_)
  exact gt_iret hC hr hlk hK (ws := (tw cI t o r S o1 r1 T)) hP hD hS (show some (Value.int (gxGiv S G)) = _ from rfl) rfl dX1_givenUp_7 (Nat.le_of_ble_eq_true rfl) (Nat.le_of_ble_eq_true rfl)

theorem hd_X1_checkNumber : yX1_checkNumber.cls ≠ "java/lang/invoke/MethodHandle" ∧ yX1_checkNumber.cls ≠ "java/lang/invoke/VarHandle" ∧ (parseMethodDescriptor yX1_checkNumber.desc).map (fun d => d.parameters.length) = some 2 := by decide +kernel
set_option maxHeartbeats 400000 in
set_option maxRecDepth 100000 in
theorem ct_X1_checkNumber (l : Launch) (hl0 : l.stackTraces = false) (D : va_G) (n : Int32) (mo : Int32) : Cx l D [] yX1_checkNumber wsX1_checkNumber 6 82 1 6 [.int n, .int mo] [] (xNum n mo) none [] := by
  refine Cx.ofW (cc := cX1_checkNumber) (maxL := 2) (ret := none) (by decide) rfl (Nat.le_of_ble_eq_true rfl) ?_
  intro p e s m below meth c A ls hC hr hlk htab hTh hP hD hS hK hA hl
  have hx := hC.1
  have hb := hC.2.1
  have hl : lv_has ls 2 [(0, .int n), (1, .int mo)] := hl
  refine lv_iload_n hx hb dX1_checkNumber_0 rfl (lv_at hl 0 rfl) ?_
  refine lv_iconst (v := 1) hx hb dX1_checkNumber_1 (by decide) ?_
  refine lv_icmp_lt (tgt := 10) hx hb dX1_checkNumber_2 (by decide) (fun c2_1 : n < 1 => ?_) (fun c2_1 : ¬ (n < 1) => ?_)
  · skip
    have hE : xNum n mo = some gxIA := ((if_pos c2_1).trans rfl)
    exact gx_throw (cls := gxIA) (text := "the number is too small or too great") hC hl0 hTh hlk htab hK (ws := []) hP hD hS hl.1 1 2 rfl rfl (hTh.2.2.1.2.2.2.2.2.2.2.2) (by decide +kernel) (fun _ _h => List.mem_cons_of_mem _ (List.mem_append_right _ _h)) (hTh.2.2.2.2.1) gxb_IA gxg_IA dX1_checkNumber_10 dX1_checkNumber_13 dX1_checkNumber_14 dX1_checkNumber_16 dX1_checkNumber_19 ⟨Nat.le_of_ble_eq_true rfl, Nat.le_of_ble_eq_true rfl, Nat.le_of_ble_eq_true rfl, Nat.le_of_ble_eq_true rfl⟩ hE rfl ⟨Nat.le_of_ble_eq_true rfl, Nat.le_of_ble_eq_true rfl⟩
  · skip
    refine lv_iload_n hx hb dX1_checkNumber_5 rfl (lv_at hl 0 rfl) ?_
    refine lv_iload_n hx hb dX1_checkNumber_6 rfl (lv_at hl 1 rfl) ?_
    refine lv_icmp_le (tgt := 20) hx hb dX1_checkNumber_7 (by decide) (fun c7_2 : n ≤ mo => ?_) (fun c7_2 : ¬ (n ≤ mo) => ?_)
    · skip
      have hn20 : xNum n mo = none := ((if_neg c2_1).trans ((if_pos c7_2).trans rfl))
      exact gx_vret hC hr hlk hK (ws := []) hP hD hS (by first | exact hn20 | simp only [hn20, Option.none_or]) rfl rfl dX1_checkNumber_20 (Nat.le_of_ble_eq_true rfl) (Nat.le_of_ble_eq_true rfl)
    · skip
      have hE : xNum n mo = some gxIA := ((if_neg c2_1).trans ((if_neg c7_2).trans rfl))
      exact gx_throw (cls := gxIA) (text := "the number is too small or too great") hC hl0 hTh hlk htab hK (ws := []) hP hD hS hl.1 1 2 rfl rfl (hTh.2.2.1.2.2.2.2.2.2.2.2) (by decide +kernel) (fun _ _h => List.mem_cons_of_mem _ (List.mem_append_right _ _h)) (hTh.2.2.2.2.1) gxb_IA gxg_IA dX1_checkNumber_10 dX1_checkNumber_13 dX1_checkNumber_14 dX1_checkNumber_16 dX1_checkNumber_19 ⟨Nat.le_of_ble_eq_true rfl, Nat.le_of_ble_eq_true rfl, Nat.le_of_ble_eq_true rfl, Nat.le_of_ble_eq_true rfl⟩ hE rfl ⟨Nat.le_of_ble_eq_true rfl, Nat.le_of_ble_eq_true rfl⟩

theorem hd_X1_checkGate : yX1_checkGate.cls = RX1 ∧ yX1_checkGate.cls ≠ "java/lang/invoke/MethodHandle" ∧ yX1_checkGate.cls ≠ "java/lang/invoke/VarHandle" ∧ (parseMethodDescriptor yX1_checkGate.desc).map (fun d => d.parameters.length) = some 1 := by decide +kernel
set_option maxHeartbeats 400000 in
set_option maxRecDepth 100000 in
theorem ct_X1_checkGate (l : Launch) (hl0 : l.stackTraces = false) (D : va_G) (cI : ClassId) (t o : Nat) (r : Nat → Nat) (S : SS) (o1 : Nat) (r1 : Nat → Nat) (T : SS) (g : Int32) : Cx l D [(cI, .int)] yX1_checkGate wsX1_checkGate 6 82 1 6 [.ref t, .int g] (tw cI t o r S o1 r1 T) (xGate S g) none (tw cI t o r S o1 r1 T) := by
  refine Cx.ofW (cc := cX1_checkGate) (maxL := 2) (ret := none) (by decide) rfl (Nat.le_of_ble_eq_true rfl) ?_
  intro p e s m below meth c A ls hC hr hlk htab hTh hP hD hS hK hA hl
  have hx := hC.1
  have hb := hC.2.1
  have hinX0 : ∀ w ∈ wsX00, w ∈ wsX1_checkGate := fun _ _h => List.mem_cons_of_mem _ (List.mem_append_left _ (List.mem_append_right _ _h))
  have hinX1 : ∀ w ∈ wsX10, w ∈ wsX1_checkGate := fun _ _h => List.mem_cons_of_mem _ (List.mem_append_left _ (List.mem_append_left _ (List.mem_append_right _ _h)))
  have hl : lv_has ls 2 [(0, .ref t), (1, .int g)] := hl
  refine lv_iload_n hx hb dX1_checkGate_0 rfl (lv_at hl 1 rfl) ?_
  refine lv_if_lt (tgt := 15) hx hb dX1_checkGate_1 (by decide) (fun c1_1 : g < 0 => ?_) (fun c1_1 : ¬ (g < 0) => ?_)
  · skip
    have hE : xGate S g = some gxIO := ((if_pos c1_1).trans rfl)
    exact gx_throw (cls := gxIO) (text := "no such gate") hC hl0 hTh hlk htab hK (ws := (tw cI t o r S o1 r1 T)) hP hD hS hl.1 1 2 rfl rfl (hTh.2.2.1.2.2.2.2.2.1) (by decide +kernel) (fun _ _h => List.mem_cons_of_mem _ (List.mem_append_right _ _h)) (hTh.2.2.2.2.2.2) gxb_IO gxg_IO dX1_checkGate_15 dX1_checkGate_18 dX1_checkGate_19 dX1_checkGate_21 dX1_checkGate_24 ⟨Nat.le_of_ble_eq_true rfl, Nat.le_of_ble_eq_true rfl, Nat.le_of_ble_eq_true rfl, Nat.le_of_ble_eq_true rfl⟩ hE rfl ⟨Nat.le_of_ble_eq_true rfl, Nat.le_of_ble_eq_true rfl⟩
  · skip
    refine lv_iload_n hx hb dX1_checkGate_4 rfl (lv_at hl 1 rfl) ?_
    refine lv_aload_n hx hb dX1_checkGate_5 rfl (lv_at hl 0 rfl) ?_
    refine gt_get hC 0 1 0 3 hinX1 hK hP dX1_checkGate_6 rfl rfl rfl (by decide) rfl rfl ?_
    refine gt_get hC 1 0 1 4 hinX0 hK hP dX1_checkGate_9 rfl rfl rfl (by decide) rfl rfl ?_
    refine lv_icmp_lt (tgt := 25) hx hb dX1_checkGate_12 (by decide) (fun c12_2 : g < (S 0 1) => ?_) (fun c12_2 : ¬ (g < (S 0 1)) => ?_)
    · skip
      have hn25 : xGate S g = none := ((if_neg c1_1).trans ((if_pos c12_2).trans rfl))
      exact gx_vret hC hr hlk hK (ws := (tw cI t o r S o1 r1 T)) hP hD hS (by first | exact hn25 | simp only [hn25, Option.none_or]) rfl rfl dX1_checkGate_25 (Nat.le_of_ble_eq_true rfl) (Nat.le_of_ble_eq_true rfl)
    · skip
      have hE : xGate S g = some gxIO := ((if_neg c1_1).trans ((if_neg c12_2).trans rfl))
      exact gx_throw (cls := gxIO) (text := "no such gate") hC hl0 hTh hlk htab hK (ws := (tw cI t o r S o1 r1 T)) hP hD hS hl.1 1 2 rfl rfl (hTh.2.2.1.2.2.2.2.2.1) (by decide +kernel) (fun _ _h => List.mem_cons_of_mem _ (List.mem_append_right _ _h)) (hTh.2.2.2.2.2.2) gxb_IO gxg_IO dX1_checkGate_15 dX1_checkGate_18 dX1_checkGate_19 dX1_checkGate_21 dX1_checkGate_24 ⟨Nat.le_of_ble_eq_true rfl, Nat.le_of_ble_eq_true rfl, Nat.le_of_ble_eq_true rfl, Nat.le_of_ble_eq_true rfl⟩ hE rfl ⟨Nat.le_of_ble_eq_true rfl, Nat.le_of_ble_eq_true rfl⟩

theorem hd_X1_checkGoat : yX1_checkGoat.cls = RX1 ∧ yX1_checkGoat.cls ≠ "java/lang/invoke/MethodHandle" ∧ yX1_checkGoat.cls ≠ "java/lang/invoke/VarHandle" ∧ (parseMethodDescriptor yX1_checkGoat.desc).map (fun d => d.parameters.length) = some 1 := by decide +kernel
set_option maxHeartbeats 400000 in
set_option maxRecDepth 100000 in
theorem ct_X1_checkGoat (l : Launch) (hl0 : l.stackTraces = false) (D : va_G) (cI : ClassId) (t o : Nat) (r : Nat → Nat) (S : SS) (o1 : Nat) (r1 : Nat → Nat) (T : SS) (k : Int32) : Cx l D [(cI, .int)] yX1_checkGoat wsX1_checkGoat 6 82 1 6 [.ref t, .int k] (tw cI t o r S o1 r1 T) (xGoat S k) none (tw cI t o r S o1 r1 T) := by
  refine Cx.ofW (cc := cX1_checkGoat) (maxL := 2) (ret := none) (by decide) rfl (Nat.le_of_ble_eq_true rfl) ?_
  intro p e s m below meth c A ls hC hr hlk htab hTh hP hD hS hK hA hl
  have hx := hC.1
  have hb := hC.2.1
  have hinX0 : ∀ w ∈ wsX00, w ∈ wsX1_checkGoat := fun _ _h => List.mem_cons_of_mem _ (List.mem_append_left _ (List.mem_append_right _ _h))
  have hinX1 : ∀ w ∈ wsX10, w ∈ wsX1_checkGoat := fun _ _h => List.mem_cons_of_mem _ (List.mem_append_left _ (List.mem_append_left _ (List.mem_append_right _ _h)))
  have hl : lv_has ls 2 [(0, .ref t), (1, .int k)] := hl
  refine lv_iload_n hx hb dX1_checkGoat_0 rfl (lv_at hl 1 rfl) ?_
  refine lv_if_lt (tgt := 15) hx hb dX1_checkGoat_1 (by decide) (fun c1_1 : k < 0 => ?_) (fun c1_1 : ¬ (k < 0) => ?_)
  · skip
    have hE : xGoat S k = some gxIO := ((if_pos c1_1).trans rfl)
    exact gx_throw (cls := gxIO) (text := "no such goat") hC hl0 hTh hlk htab hK (ws := (tw cI t o r S o1 r1 T)) hP hD hS hl.1 1 2 rfl rfl (hTh.2.2.1.2.2.2.2.2.2.1) (by decide +kernel) (fun _ _h => List.mem_cons_of_mem _ (List.mem_append_right _ _h)) (hTh.2.2.2.2.2.2) gxb_IO gxg_IO dX1_checkGoat_15 dX1_checkGoat_18 dX1_checkGoat_19 dX1_checkGoat_21 dX1_checkGoat_24 ⟨Nat.le_of_ble_eq_true rfl, Nat.le_of_ble_eq_true rfl, Nat.le_of_ble_eq_true rfl, Nat.le_of_ble_eq_true rfl⟩ hE rfl ⟨Nat.le_of_ble_eq_true rfl, Nat.le_of_ble_eq_true rfl⟩
  · skip
    refine lv_iload_n hx hb dX1_checkGoat_4 rfl (lv_at hl 1 rfl) ?_
    refine lv_aload_n hx hb dX1_checkGoat_5 rfl (lv_at hl 0 rfl) ?_
    refine gt_get hC 0 1 0 3 hinX1 hK hP dX1_checkGoat_6 rfl rfl rfl (by decide) rfl rfl ?_
    refine gt_get hC 1 0 2 4 hinX0 hK hP dX1_checkGoat_9 rfl rfl rfl (by decide) rfl rfl ?_
    refine lv_icmp_lt (tgt := 25) hx hb dX1_checkGoat_12 (by decide) (fun c12_2 : k < (S 0 2) => ?_) (fun c12_2 : ¬ (k < (S 0 2)) => ?_)
    · skip
      have hn25 : xGoat S k = none := ((if_neg c1_1).trans ((if_pos c12_2).trans rfl))
      exact gx_vret hC hr hlk hK (ws := (tw cI t o r S o1 r1 T)) hP hD hS (by first | exact hn25 | simp only [hn25, Option.none_or]) rfl rfl dX1_checkGoat_25 (Nat.le_of_ble_eq_true rfl) (Nat.le_of_ble_eq_true rfl)
    · skip
      have hE : xGoat S k = some gxIO := ((if_neg c1_1).trans ((if_neg c12_2).trans rfl))
      exact gx_throw (cls := gxIO) (text := "no such goat") hC hl0 hTh hlk htab hK (ws := (tw cI t o r S o1 r1 T)) hP hD hS hl.1 1 2 rfl rfl (hTh.2.2.1.2.2.2.2.2.2.1) (by decide +kernel) (fun _ _h => List.mem_cons_of_mem _ (List.mem_append_right _ _h)) (hTh.2.2.2.2.2.2) gxb_IO gxg_IO dX1_checkGoat_15 dX1_checkGoat_18 dX1_checkGoat_19 dX1_checkGoat_21 dX1_checkGoat_24 ⟨Nat.le_of_ble_eq_true rfl, Nat.le_of_ble_eq_true rfl, Nat.le_of_ble_eq_true rfl, Nat.le_of_ble_eq_true rfl⟩ hE rfl ⟨Nat.le_of_ble_eq_true rfl, Nat.le_of_ble_eq_true rfl⟩

theorem hd_X1_checkIdle : yX1_checkIdle.cls = RX1 ∧ yX1_checkIdle.cls ≠ "java/lang/invoke/MethodHandle" ∧ yX1_checkIdle.cls ≠ "java/lang/invoke/VarHandle" ∧ (parseMethodDescriptor yX1_checkIdle.desc).map (fun d => d.parameters.length) = some 1 := by decide +kernel
set_option maxHeartbeats 400000 in
set_option maxRecDepth 100000 in
theorem ct_X1_checkIdle (l : Launch) (hl0 : l.stackTraces = false) (D : va_G) (cI : ClassId) (t o : Nat) (r : Nat → Nat) (S : SS) (o1 : Nat) (r1 : Nat → Nat) (T : SS) (i : Nat) (hi : i < 12) : Cx l D [(cI, .int)] yX1_checkIdle wsX1_checkIdle 6 82 1 6 [.ref t, .int (nI i)] (tw cI t o r S o1 r1 T) (xIdle S i) none (tw cI t o r S o1 r1 T) := by
  refine Cx.ofW (cc := cX1_checkIdle) (maxL := 2) (ret := none) (by decide) rfl (Nat.le_of_ble_eq_true rfl) ?_
  intro p e s m below meth c A ls hC hr hlk htab hTh hP hD hS hK hA hl
  have hx := hC.1
  have hb := hC.2.1
  have hinX0 : ∀ w ∈ wsX00, w ∈ wsX1_checkIdle := fun _ _h => List.mem_cons_of_mem _ (List.mem_append_left _ (List.mem_append_right _ _h))
  have hinX1 : ∀ w ∈ wsX10, w ∈ wsX1_checkIdle := fun _ _h => List.mem_cons_of_mem _ (List.mem_append_left _ (List.mem_append_left _ (List.mem_append_right _ _h)))
  have hl : lv_has ls 2 [(0, .ref t), (1, .int (nI i))] := hl
  refine lv_aload_n hx hb dX1_checkIdle_0 rfl (lv_at hl 0 rfl) ?_
  refine gt_get hC 0 1 0 3 hinX1 hK hP dX1_checkIdle_1 rfl rfl rfl (by decide) rfl rfl ?_
  refine gt_get hC 1 0 9 4 hinX0 hK hP dX1_checkIdle_4 rfl rfl rfl (by decide) rfl rfl ?_
  refine lv_iload_n hx hb dX1_checkIdle_7 rfl (lv_at hl 1 rfl) ?_
  refine gt_ald hC 6 0 i hK hP dX1_checkIdle_8 rfl rfl rfl (by omega) (Nat.le_of_ble_eq_true rfl) ?_
  refine lv_if_eq (tgt := 22) hx hb dX1_checkIdle_9 (by decide) (fun c9_1 : (S 9 i) = 0 => ?_) (fun c9_1 : ¬ ((S 9 i) = 0) => ?_)
  · skip
    have hn22 : xIdle S i = none := ((if_pos c9_1).trans rfl)
    exact gx_vret hC hr hlk hK (ws := (tw cI t o r S o1 r1 T)) hP hD hS (by first | exact hn22 | simp only [hn22, Option.none_or]) rfl rfl dX1_checkIdle_22 (Nat.le_of_ble_eq_true rfl) (Nat.le_of_ble_eq_true rfl)
  · skip
    have hE : xIdle S i = some gxIS := ((if_neg c9_1).trans rfl)
    exact gx_throw (cls := gxIS) (text := "the goat is not idle") hC hl0 hTh hlk htab hK (ws := (tw cI t o r S o1 r1 T)) hP hD hS hl.1 1 2 rfl rfl (hTh.2.2.1.2.2.2.2.2.2.2.1) (by decide +kernel) (fun _ _h => List.mem_cons_of_mem _ (List.mem_append_right _ _h)) (hTh.2.2.2.2.2.1) gxb_IS gxg_IS dX1_checkIdle_12 dX1_checkIdle_15 dX1_checkIdle_16 dX1_checkIdle_18 dX1_checkIdle_21 ⟨Nat.le_of_ble_eq_true rfl, Nat.le_of_ble_eq_true rfl, Nat.le_of_ble_eq_true rfl, Nat.le_of_ble_eq_true rfl⟩ hE rfl ⟨Nat.le_of_ble_eq_true rfl, Nat.le_of_ble_eq_true rfl⟩

theorem hd_X1_addGate : yX1_addGate.cls = RX1 ∧ yX1_addGate.cls ≠ "java/lang/invoke/MethodHandle" ∧ yX1_addGate.cls ≠ "java/lang/invoke/VarHandle" ∧ (parseMethodDescriptor yX1_addGate.desc).map (fun d => d.parameters.length) = some 2 := by decide +kernel
set_option maxHeartbeats 400000 in
set_option maxRecDepth 100000 in
theorem ct_X1_addGate (l : Launch) (hl0 : l.stackTraces = false) (D : va_G) (cI : ClassId) (t o : Nat) (r : Nat → Nat) (S : SS) (o1 : Nat) (r1 : Nat → Nat) (T : SS) (a : Int32) (b : Int32) (G : Nat) (hG : S 0 1 = nI G) (hG4 : G ≤ 4) : Cx l D [(cI, .int)] yX1_addGate wsX1_addGate 7 103 2 12 [.ref t, .int a, .int b] (tw cI t o r S o1 r1 T) ((xNum a 9).or ((xOrd b).or (xRg S))) (some (.int (S 0 1))) (tw cI t o r (gxOpn S G a b) o1 r1 T) := by
  refine Cx.ofW (cc := cX1_addGate) (maxL := 3) (ret := (some .int)) (by decide) rfl (Nat.le_of_ble_eq_true rfl) ?_
  intro p e s m below meth c A ls hC hr hlk htab hTh hP hD hS hK hA hl
  have hx := hC.1
  have hb := hC.2.1
  have hinX0 : ∀ w ∈ wsX00, w ∈ wsX1_addGate := fun _ _h => List.mem_cons_of_mem _ (List.mem_append_left _ (List.mem_append_left _ (List.mem_append_right _ _h)))
  have hinX1 : ∀ w ∈ wsX10, w ∈ wsX1_addGate := fun _ _h => List.mem_cons_of_mem _ (List.mem_append_left _ (List.mem_append_left _ (List.mem_append_left _ (List.mem_append_right _ _h))))
  have hl : lv_has ls 3 [(0, .ref t), (1, .int a), (2, .int b)] := hl
  refine lv_iload_n hx hb dX1_addGate_0 rfl (lv_at hl 1 rfl) ?_
  refine lv_bipush (v := 9) hx hb dX1_addGate_1 (by decide) ?_
  refine gx_callS hC 2 (ct_X1_checkNumber l hl0 D a 9) gX1_addGate_X1_checkNumber dX1_addGate_3 hTh hlk htab hK hP hD hS hA hl.1 rfl hd_X1_checkNumber ⟨Nat.le_of_ble_eq_true rfl, Nat.le_of_ble_eq_true rfl⟩ ⟨Nat.le_of_ble_eq_true rfl, Nat.le_of_ble_eq_true rfl⟩ rfl rfl (Nat.le_of_ble_eq_true rfl) ⟨Nat.le_of_ble_eq_true rfl, Nat.le_of_ble_eq_true rfl⟩ (fun E hE => ⟨by first | exact hE | simp only [hE, Option.none_or, Option.some_or], rfl⟩) (fun hn3 H locs hP hD hS => ?_)
  refine lv_iload_n hx hb dX1_addGate_6 rfl (lv_at hl 2 rfl) ?_
  refine lv_if_eq (tgt := 25) hx hb dX1_addGate_7 (by decide) (fun c7_1 : b = 0 => ?_) (fun c7_1 : ¬ (b = 0) => ?_)
  · skip
    have hn25 : xOrd b = none := ((if_pos c7_1).trans rfl)
    refine lv_aload_n hx hb dX1_addGate_25 rfl (lv_at hl 0 rfl) ?_
    refine gt_get hC 0 1 0 5 hinX1 hK hP dX1_addGate_26 rfl rfl rfl (by decide) rfl rfl ?_
    refine gt_get hC 1 0 1 6 hinX0 hK hP dX1_addGate_29 rfl rfl rfl (by decide) rfl rfl ?_
    refine lv_iconst (v := 4) hx hb dX1_addGate_32 (by decide) ?_
    refine lv_icmp_lt (tgt := 46) hx hb dX1_addGate_33 (by decide) (fun c33_2 : (S 0 1) < 4 => ?_) (fun c33_2 : ¬ ((S 0 1) < 4) => ?_)
    · skip
      have hn46 : xRg S = none := ((if_pos c33_2).trans rfl)
      refine lv_aload_n hx hb dX1_addGate_46 rfl (lv_at hl 0 rfl) ?_
      refine gt_get hC 0 1 0 5 hinX1 hK hP dX1_addGate_47 rfl rfl rfl (by decide) rfl rfl ?_
      refine lv_iload_n hx hb dX1_addGate_50 rfl (lv_at hl 1 rfl) ?_
      refine lv_iload_n hx hb dX1_addGate_51 rfl (lv_at hl 2 rfl) ?_
      refine gt_callV (ws' := (tw cI t o r (gxOpn S G a b) o1 r1 T)) hC [(t, .inr (1, [.ref o, .ref o1]))] (sw cI o1 r1 T) 0 0 2 (ct_X0_openGate l D cI o r S G hG (xRg_n hG hG4 hn46) a b) gX1_addGate_X0_openGate dX1_addGate_52 hK hP hD hS hA hl.1 rfl hd_X0_openGate ⟨Nat.le_of_ble_eq_true rfl, Nat.le_of_ble_eq_true rfl⟩ ⟨Nat.le_of_ble_eq_true rfl, Nat.le_of_ble_eq_true rfl⟩ rfl rfl rfl rfl rfl rfl (Nat.le_of_ble_eq_true rfl) (fun H locs hP hD hS => ?_)
      exact gx_iret hC hr hlk hK (ws := (tw cI t o r (gxOpn S G a b) o1 r1 T)) hP hD hS (by first | exact hn46 | simp only [hn3, hn25, hn46, Option.none_or]) (show some (Value.int (S 0 1)) = _ from rfl) rfl dX1_addGate_55 (Nat.le_of_ble_eq_true rfl) (Nat.le_of_ble_eq_true rfl)
    · skip
      have hE : xRg S = some gxIS := ((if_neg c33_2).trans rfl)
      exact gx_throw (cls := gxIS) (text := "no room for a gate") hC hl0 hTh hlk htab hK (ws := (tw cI t o r S o1 r1 T)) hP hD hS hl.1 3 4 rfl rfl (hTh.2.2.1.2.1) (by decide +kernel) (fun _ _h => List.mem_cons_of_mem _ (List.mem_append_right _ _h)) (hTh.2.2.2.2.2.1) gxb_IS gxg_IS dX1_addGate_36 dX1_addGate_39 dX1_addGate_40 dX1_addGate_42 dX1_addGate_45 ⟨Nat.le_of_ble_eq_true rfl, Nat.le_of_ble_eq_true rfl, Nat.le_of_ble_eq_true rfl, Nat.le_of_ble_eq_true rfl⟩ (by first | exact hE | (simp only [hn3, hn25, hE, Option.none_or, Option.some_or])) rfl ⟨Nat.le_of_ble_eq_true rfl, Nat.le_of_ble_eq_true rfl⟩
  · skip
    refine lv_iload_n hx hb dX1_addGate_10 rfl (lv_at hl 2 rfl) ?_
    refine lv_iconst (v := 1) hx hb dX1_addGate_11 (by decide) ?_
    refine lv_icmp_eq (tgt := 25) hx hb dX1_addGate_12 (by decide) (fun c12_3 : b = 1 => ?_) (fun c12_3 : ¬ (b = 1) => ?_)
    · skip
      have hn25 : xOrd b = none := ((if_neg c7_1).trans ((if_pos c12_3).trans rfl))
      refine lv_aload_n hx hb dX1_addGate_25 rfl (lv_at hl 0 rfl) ?_
      refine gt_get hC 0 1 0 5 hinX1 hK hP dX1_addGate_26 rfl rfl rfl (by decide) rfl rfl ?_
      refine gt_get hC 1 0 1 6 hinX0 hK hP dX1_addGate_29 rfl rfl rfl (by decide) rfl rfl ?_
      refine lv_iconst (v := 4) hx hb dX1_addGate_32 (by decide) ?_
      refine lv_icmp_lt (tgt := 46) hx hb dX1_addGate_33 (by decide) (fun c33_4 : (S 0 1) < 4 => ?_) (fun c33_4 : ¬ ((S 0 1) < 4) => ?_)
      · skip
        have hn46 : xRg S = none := ((if_pos c33_4).trans rfl)
        refine lv_aload_n hx hb dX1_addGate_46 rfl (lv_at hl 0 rfl) ?_
        refine gt_get hC 0 1 0 5 hinX1 hK hP dX1_addGate_47 rfl rfl rfl (by decide) rfl rfl ?_
        refine lv_iload_n hx hb dX1_addGate_50 rfl (lv_at hl 1 rfl) ?_
        refine lv_iload_n hx hb dX1_addGate_51 rfl (lv_at hl 2 rfl) ?_
        refine gt_callV (ws' := (tw cI t o r (gxOpn S G a b) o1 r1 T)) hC [(t, .inr (1, [.ref o, .ref o1]))] (sw cI o1 r1 T) 0 0 2 (ct_X0_openGate l D cI o r S G hG (xRg_n hG hG4 hn46) a b) gX1_addGate_X0_openGate dX1_addGate_52 hK hP hD hS hA hl.1 rfl hd_X0_openGate ⟨Nat.le_of_ble_eq_true rfl, Nat.le_of_ble_eq_true rfl⟩ ⟨Nat.le_of_ble_eq_true rfl, Nat.le_of_ble_eq_true rfl⟩ rfl rfl rfl rfl rfl rfl (Nat.le_of_ble_eq_true rfl) (fun H locs hP hD hS => ?_)
        exact gx_iret hC hr hlk hK (ws := (tw cI t o r (gxOpn S G a b) o1 r1 T)) hP hD hS (by first | exact hn46 | simp only [hn3, hn25, hn46, Option.none_or]) (show some (Value.int (S 0 1)) = _ from rfl) rfl dX1_addGate_55 (Nat.le_of_ble_eq_true rfl) (Nat.le_of_ble_eq_true rfl)
      · skip
        have hE : xRg S = some gxIS := ((if_neg c33_4).trans rfl)
        exact gx_throw (cls := gxIS) (text := "no room for a gate") hC hl0 hTh hlk htab hK (ws := (tw cI t o r S o1 r1 T)) hP hD hS hl.1 3 4 rfl rfl (hTh.2.2.1.2.1) (by decide +kernel) (fun _ _h => List.mem_cons_of_mem _ (List.mem_append_right _ _h)) (hTh.2.2.2.2.2.1) gxb_IS gxg_IS dX1_addGate_36 dX1_addGate_39 dX1_addGate_40 dX1_addGate_42 dX1_addGate_45 ⟨Nat.le_of_ble_eq_true rfl, Nat.le_of_ble_eq_true rfl, Nat.le_of_ble_eq_true rfl, Nat.le_of_ble_eq_true rfl⟩ (by first | exact hE | (simp only [hn3, hn25, hE, Option.none_or, Option.some_or])) rfl ⟨Nat.le_of_ble_eq_true rfl, Nat.le_of_ble_eq_true rfl⟩
    · skip
      have hE : xOrd b = some gxIA := ((if_neg c7_1).trans ((if_neg c12_3).trans rfl))
      exact gx_throw (cls := gxIA) (text := "no such order") hC hl0 hTh hlk htab hK (ws := (tw cI t o r S o1 r1 T)) hP hD hS hl.1 1 2 rfl rfl (hTh.2.2.1.1) (by decide +kernel) (fun _ _h => List.mem_cons_of_mem _ (List.mem_append_left _ (List.mem_append_right _ _h))) (hTh.2.2.2.2.1) gxb_IA gxg_IA dX1_addGate_15 dX1_addGate_18 dX1_addGate_19 dX1_addGate_21 dX1_addGate_24 ⟨Nat.le_of_ble_eq_true rfl, Nat.le_of_ble_eq_true rfl, Nat.le_of_ble_eq_true rfl, Nat.le_of_ble_eq_true rfl⟩ (by first | exact hE | (simp only [hn3, hE, Option.none_or, Option.some_or])) rfl ⟨Nat.le_of_ble_eq_true rfl, Nat.le_of_ble_eq_true rfl⟩

theorem hd_X1_addGoat : yX1_addGoat.cls = RX1 ∧ yX1_addGoat.cls ≠ "java/lang/invoke/MethodHandle" ∧ yX1_addGoat.cls ≠ "java/lang/invoke/VarHandle" ∧ (parseMethodDescriptor yX1_addGoat.desc).map (fun d => d.parameters.length) = some 1 := by decide +kernel
set_option maxHeartbeats 400000 in
set_option maxRecDepth 100000 in
theorem ct_X1_addGoat (l : Launch) (hl0 : l.stackTraces = false) (D : va_G) (cI : ClassId) (t o : Nat) (r : Nat → Nat) (S : SS) (o1 : Nat) (r1 : Nat → Nat) (T : SS) (h : Int32) (N : Nat) (hN : S 0 2 = nI N) (hN12 : N ≤ 12) : Cx l D [(cI, .int)] yX1_addGoat wsX1_addGoat 7 103 2 12 [.ref t, .int h] (tw cI t o r S o1 r1 T) ((xNum h 9).or (xRk S)) (some (.int (S 0 2))) (tw cI t o r (gxBrg S N h) o1 r1 T) := by
  refine Cx.ofW (cc := cX1_addGoat) (maxL := 2) (ret := (some .int)) (by decide) rfl (Nat.le_of_ble_eq_true rfl) ?_
  intro p e s m below meth c A ls hC hr hlk htab hTh hP hD hS hK hA hl
  have hx := hC.1
  have hb := hC.2.1
  have hinX0 : ∀ w ∈ wsX00, w ∈ wsX1_addGoat := fun _ _h => List.mem_cons_of_mem _ (List.mem_append_left _ (List.mem_append_left _ (List.mem_append_right _ _h)))
  have hinX1 : ∀ w ∈ wsX10, w ∈ wsX1_addGoat := fun _ _h => List.mem_cons_of_mem _ (List.mem_append_left _ (List.mem_append_left _ (List.mem_append_left _ (List.mem_append_right _ _h))))
  have hl : lv_has ls 2 [(0, .ref t), (1, .int h)] := hl
  refine lv_iload_n hx hb dX1_addGoat_0 rfl (lv_at hl 1 rfl) ?_
  refine lv_bipush (v := 9) hx hb dX1_addGoat_1 (by decide) ?_
  refine gx_callS hC 2 (ct_X1_checkNumber l hl0 D h 9) gX1_addGoat_X1_checkNumber dX1_addGoat_3 hTh hlk htab hK hP hD hS hA hl.1 rfl hd_X1_checkNumber ⟨Nat.le_of_ble_eq_true rfl, Nat.le_of_ble_eq_true rfl⟩ ⟨Nat.le_of_ble_eq_true rfl, Nat.le_of_ble_eq_true rfl⟩ rfl rfl (Nat.le_of_ble_eq_true rfl) ⟨Nat.le_of_ble_eq_true rfl, Nat.le_of_ble_eq_true rfl⟩ (fun E hE => ⟨by first | exact hE | simp only [hE, Option.none_or, Option.some_or], rfl⟩) (fun hn3 H locs hP hD hS => ?_)
  refine lv_aload_n hx hb dX1_addGoat_6 rfl (lv_at hl 0 rfl) ?_
  refine gt_get hC 0 1 0 3 hinX1 hK hP dX1_addGoat_7 rfl rfl rfl (by decide) rfl rfl ?_
  refine gt_get hC 1 0 2 4 hinX0 hK hP dX1_addGoat_10 rfl rfl rfl (by decide) rfl rfl ?_
  refine lv_bipush (v := 12) hx hb dX1_addGoat_13 (by decide) ?_
  refine lv_icmp_lt (tgt := 28) hx hb dX1_addGoat_15 (by decide) (fun c15_1 : (S 0 2) < 12 => ?_) (fun c15_1 : ¬ ((S 0 2) < 12) => ?_)
  · skip
    have hn28 : xRk S = none := ((if_pos c15_1).trans rfl)
    refine lv_aload_n hx hb dX1_addGoat_28 rfl (lv_at hl 0 rfl) ?_
    refine gt_get hC 0 1 0 3 hinX1 hK hP dX1_addGoat_29 rfl rfl rfl (by decide) rfl rfl ?_
    refine lv_iload_n hx hb dX1_addGoat_32 rfl (lv_at hl 1 rfl) ?_
    refine gt_callV (ws' := (tw cI t o r (gxBrg S N h) o1 r1 T)) hC [(t, .inr (1, [.ref o, .ref o1]))] (sw cI o1 r1 T) 0 0 1 (ct_X0_bringGoat l D cI o r S N hN (xRk_n hN hN12 hn28) h) gX1_addGoat_X0_bringGoat dX1_addGoat_33 hK hP hD hS hA hl.1 rfl hd_X0_bringGoat ⟨Nat.le_of_ble_eq_true rfl, Nat.le_of_ble_eq_true rfl⟩ ⟨Nat.le_of_ble_eq_true rfl, Nat.le_of_ble_eq_true rfl⟩ rfl rfl rfl rfl rfl rfl (Nat.le_of_ble_eq_true rfl) (fun H locs hP hD hS => ?_)
    exact gx_iret hC hr hlk hK (ws := (tw cI t o r (gxBrg S N h) o1 r1 T)) hP hD hS (by first | exact hn28 | simp only [hn3, hn28, Option.none_or]) (show some (Value.int (S 0 2)) = _ from rfl) rfl dX1_addGoat_36 (Nat.le_of_ble_eq_true rfl) (Nat.le_of_ble_eq_true rfl)
  · skip
    have hE : xRk S = some gxIS := ((if_neg c15_1).trans rfl)
    exact gx_throw (cls := gxIS) (text := "no room for a goat") hC hl0 hTh hlk htab hK (ws := (tw cI t o r S o1 r1 T)) hP hD hS hl.1 1 2 rfl rfl (hTh.2.2.1.2.2.1) (by decide +kernel) (fun _ _h => List.mem_cons_of_mem _ (List.mem_append_left _ (List.mem_append_right _ _h))) (hTh.2.2.2.2.2.1) gxb_IS gxg_IS dX1_addGoat_18 dX1_addGoat_21 dX1_addGoat_22 dX1_addGoat_24 dX1_addGoat_27 ⟨Nat.le_of_ble_eq_true rfl, Nat.le_of_ble_eq_true rfl, Nat.le_of_ble_eq_true rfl, Nat.le_of_ble_eq_true rfl⟩ (by first | exact hE | (simp only [hn3, hE, Option.none_or, Option.some_or])) rfl ⟨Nat.le_of_ble_eq_true rfl, Nat.le_of_ble_eq_true rfl⟩

theorem hd_X1_ask : yX1_ask.cls = RX1 ∧ yX1_ask.cls ≠ "java/lang/invoke/MethodHandle" ∧ yX1_ask.cls ≠ "java/lang/invoke/VarHandle" ∧ (parseMethodDescriptor yX1_ask.desc).map (fun d => d.parameters.length) = some 5 := by decide +kernel
set_option maxHeartbeats 400000 in
set_option maxRecDepth 100000 in
theorem ct_X1_ask (l : Launch) (hl0 : l.stackTraces = false) (D : va_G) (cI : ClassId) (t o : Nat) (r : Nat → Nat) (S : SS) (o1 : Nat) (r1 : Nat → Nat) (T : SS) (k : Int32) (g : Int32) (w : Int32) (mi : Int32) (wt : Int32) (N : Nat) (hN : S 0 2 = nI N) (hN12 : N ≤ 12) (G : Nat) (hG : S 0 1 = nI G) (hG4 : G ≤ 4) : Cx l D [(cI, .int)] yX1_ask wsX1_ask 7 103 6 36 [.ref t, .int k, .int g, .int w, .int mi, .int wt] (tw cI t o r S o1 r1 T) ((xGoat S k).or ((xGate S g).or ((xNum w (S 5 g.toNatClampNeg)).or ((xNum mi 30).or ((xNum wt 60).or (xIdle S k.toNatClampNeg)))))) (some (.int (gxWat (gxLine S k.toNatClampNeg g w mi wt) g N))) (tw cI t o r (gxLine S k.toNatClampNeg g w mi wt) o1 r1 T) := by
  refine Cx.ofW (cc := cX1_ask) (maxL := 6) (ret := (some .int)) (by decide) rfl (Nat.le_of_ble_eq_true rfl) ?_
  intro p e s m below meth c A ls hC hr hlk htab hTh hP hD hS hK hA hl
  have hx := hC.1
  have hb := hC.2.1
  have hinX0 : ∀ w ∈ wsX00, w ∈ wsX1_ask := fun _ _h => List.mem_cons_of_mem _ (List.mem_append_left _ (List.mem_append_left _ (List.mem_append_left _ (List.mem_append_right _ _h))))
  have hinX1 : ∀ w ∈ wsX10, w ∈ wsX1_ask := fun _ _h => List.mem_cons_of_mem _ (List.mem_append_left _ (List.mem_append_left _ (List.mem_append_left _ (List.mem_append_left _ (List.mem_append_right _ _h)))))
  have hl : lv_has ls 6 [(0, .ref t), (1, .int k), (2, .int g), (3, .int w), (4, .int mi), (5, .int wt)] := hl
  refine lv_aload_n hx hb dX1_ask_0 rfl (lv_at hl 0 rfl) ?_
  refine lv_iload_n hx hb dX1_ask_1 rfl (lv_at hl 1 rfl) ?_
  refine gx_callV hC 0 1 1 (ct_X1_checkGoat l hl0 D cI t o r S o1 r1 T k) gX1_ask_X1_checkGoat dX1_ask_2 hTh hlk htab hK hP hD hS hA hl.1 rfl hd_X1_checkGoat ⟨Nat.le_of_ble_eq_true rfl, Nat.le_of_ble_eq_true rfl⟩ ⟨Nat.le_of_ble_eq_true rfl, Nat.le_of_ble_eq_true rfl⟩ rfl rfl rfl rfl (Nat.le_of_ble_eq_true rfl) ⟨Nat.le_of_ble_eq_true rfl, Nat.le_of_ble_eq_true rfl⟩ (fun E hE => ⟨by first | exact hE | simp only [hE, Option.none_or, Option.some_or], rfl⟩) (fun hn2 H locs hP hD hS => ?_)
  obtain ⟨i, hi, rfl⟩ := xGoat_n hN hN12 hn2
  have hci : (nI i).toNatClampNeg = i := nI_clamp (by omega)
  refine lv_aload_n hx hb dX1_ask_5 rfl (lv_at hl 0 rfl) ?_
  refine lv_iload_n hx hb dX1_ask_6 rfl (lv_at hl 2 rfl) ?_
  refine gx_callV hC 0 1 1 (ct_X1_checkGate l hl0 D cI t o r S o1 r1 T g) gX1_ask_X1_checkGate dX1_ask_7 hTh hlk htab hK hP hD hS hA hl.1 rfl hd_X1_checkGate ⟨Nat.le_of_ble_eq_true rfl, Nat.le_of_ble_eq_true rfl⟩ ⟨Nat.le_of_ble_eq_true rfl, Nat.le_of_ble_eq_true rfl⟩ rfl rfl rfl rfl (Nat.le_of_ble_eq_true rfl) ⟨Nat.le_of_ble_eq_true rfl, Nat.le_of_ble_eq_true rfl⟩ (fun E hE => ⟨by first | exact hE | simp only [hn2, hci, hE, Option.none_or, Option.some_or], rfl⟩) (fun hn7 H locs hP hD hS => ?_)
  obtain ⟨j, hj, rfl⟩ := xGate_n hG hG4 hn7
  have hcj : (nI j).toNatClampNeg = j := nI_clamp (by omega)
  refine lv_iload_n hx hb dX1_ask_10 rfl (lv_at hl 3 rfl) ?_
  refine lv_aload_n hx hb dX1_ask_11 rfl (lv_at hl 0 rfl) ?_
  refine gt_get hC 0 1 0 1 hinX1 hK hP dX1_ask_12 rfl rfl rfl (by decide) rfl rfl ?_
  refine gt_get hC 1 0 5 2 hinX0 hK hP dX1_ask_15 rfl rfl rfl (by decide) rfl rfl ?_
  refine lv_iload_n hx hb dX1_ask_18 rfl (lv_at hl 2 rfl) ?_
  refine gt_ald hC 2 0 j hK hP dX1_ask_19 rfl rfl rfl (by omega) (Nat.le_of_ble_eq_true rfl) ?_
  refine gx_callS hC 2 (ct_X1_checkNumber l hl0 D w (S 5 j)) gX1_ask_X1_checkNumber dX1_ask_20 hTh hlk htab hK hP hD hS hA hl.1 rfl hd_X1_checkNumber ⟨Nat.le_of_ble_eq_true rfl, Nat.le_of_ble_eq_true rfl⟩ ⟨Nat.le_of_ble_eq_true rfl, Nat.le_of_ble_eq_true rfl⟩ rfl rfl (Nat.le_of_ble_eq_true rfl) ⟨Nat.le_of_ble_eq_true rfl, Nat.le_of_ble_eq_true rfl⟩ (fun E hE => ⟨by first | exact hE | simp only [hn2, hci, hn7, hcj, hE, Option.none_or, Option.some_or], rfl⟩) (fun hn20 H locs hP hD hS => ?_)
  refine lv_iload hx hb dX1_ask_23 (lv_at hl 4 rfl) ?_
  refine lv_bipush (v := 30) hx hb dX1_ask_25 (by decide) ?_
  refine gx_callS hC 2 (ct_X1_checkNumber l hl0 D mi 30) gX1_ask_X1_checkNumber dX1_ask_27 hTh hlk htab hK hP hD hS hA hl.1 rfl hd_X1_checkNumber ⟨Nat.le_of_ble_eq_true rfl, Nat.le_of_ble_eq_true rfl⟩ ⟨Nat.le_of_ble_eq_true rfl, Nat.le_of_ble_eq_true rfl⟩ rfl rfl (Nat.le_of_ble_eq_true rfl) ⟨Nat.le_of_ble_eq_true rfl, Nat.le_of_ble_eq_true rfl⟩ (fun E hE => ⟨by first | exact hE | simp only [hn2, hci, hn7, hcj, hn20, hE, Option.none_or, Option.some_or], rfl⟩) (fun hn27 H locs hP hD hS => ?_)
  refine lv_iload hx hb dX1_ask_30 (lv_at hl 5 rfl) ?_
  refine lv_bipush (v := 60) hx hb dX1_ask_32 (by decide) ?_
  refine gx_callS hC 2 (ct_X1_checkNumber l hl0 D wt 60) gX1_ask_X1_checkNumber dX1_ask_34 hTh hlk htab hK hP hD hS hA hl.1 rfl hd_X1_checkNumber ⟨Nat.le_of_ble_eq_true rfl, Nat.le_of_ble_eq_true rfl⟩ ⟨Nat.le_of_ble_eq_true rfl, Nat.le_of_ble_eq_true rfl⟩ rfl rfl (Nat.le_of_ble_eq_true rfl) ⟨Nat.le_of_ble_eq_true rfl, Nat.le_of_ble_eq_true rfl⟩ (fun E hE => ⟨by first | exact hE | simp only [hn2, hci, hn7, hcj, hn20, hn27, hE, Option.none_or, Option.some_or], rfl⟩) (fun hn34 H locs hP hD hS => ?_)
  refine lv_aload_n hx hb dX1_ask_37 rfl (lv_at hl 0 rfl) ?_
  refine lv_iload_n hx hb dX1_ask_38 rfl (lv_at hl 1 rfl) ?_
  refine gx_callV hC 0 1 1 (ct_X1_checkIdle l hl0 D cI t o r S o1 r1 T i (by omega)) gX1_ask_X1_checkIdle dX1_ask_39 hTh hlk htab hK hP hD hS hA hl.1 rfl hd_X1_checkIdle ⟨Nat.le_of_ble_eq_true rfl, Nat.le_of_ble_eq_true rfl⟩ ⟨Nat.le_of_ble_eq_true rfl, Nat.le_of_ble_eq_true rfl⟩ rfl rfl rfl rfl (Nat.le_of_ble_eq_true rfl) ⟨Nat.le_of_ble_eq_true rfl, Nat.le_of_ble_eq_true rfl⟩ (fun E hE => ⟨by first | exact hE | simp only [hn2, hci, hn7, hcj, hn20, hn27, hn34, hE, Option.none_or, Option.some_or], rfl⟩) (fun hn39 H locs hP hD hS => ?_)
  refine lv_aload_n hx hb dX1_ask_42 rfl (lv_at hl 0 rfl) ?_
  refine gt_get hC 0 1 0 1 hinX1 hK hP dX1_ask_43 rfl rfl rfl (by decide) rfl rfl ?_
  refine lv_iload_n hx hb dX1_ask_46 rfl (lv_at hl 1 rfl) ?_
  refine lv_iload_n hx hb dX1_ask_47 rfl (lv_at hl 2 rfl) ?_
  refine lv_iload_n hx hb dX1_ask_48 rfl (lv_at hl 3 rfl) ?_
  refine lv_iload hx hb dX1_ask_49 (lv_at hl 4 rfl) ?_
  refine lv_iload hx hb dX1_ask_51 (lv_at hl 5 rfl) ?_
  refine gt_callV (ws' := (tw cI t o r (gxLine S i (nI j) w mi wt) o1 r1 T)) hC [(t, .inr (1, [.ref o, .ref o1]))] (sw cI o1 r1 T) 0 0 5 (ct_X0_lineUp l D cI o r S i (nI j) w mi wt (by omega)) gX1_ask_X0_lineUp dX1_ask_53 hK hP hD hS hA hl.1 rfl hd_X0_lineUp ⟨Nat.le_of_ble_eq_true rfl, Nat.le_of_ble_eq_true rfl⟩ ⟨Nat.le_of_ble_eq_true rfl, Nat.le_of_ble_eq_true rfl⟩ rfl rfl rfl rfl rfl rfl (Nat.le_of_ble_eq_true rfl) (fun H locs hP hD hS => ?_)
  refine lv_aload_n hx hb dX1_ask_56 rfl (lv_at hl 0 rfl) ?_
  refine gt_get hC 0 1 0 1 hinX1 hK hP dX1_ask_57 rfl rfl rfl (by decide) rfl rfl ?_
  refine lv_iload_n hx hb dX1_ask_60 rfl (lv_at hl 2 rfl) ?_
  refine gt_callV (ws' := (tw cI t o r (gxLine S i (nI j) w mi wt) o1 r1 T)) hC [(t, .inr (1, [.ref o, .ref o1]))] (sw cI o1 r1 T) 0 0 1 (ct_X0_countWaitingAt l D cI o r (gxLine S i (nI j) w mi wt) (nI j) N hN hN12) gX1_ask_X0_countWaitingAt dX1_ask_61 hK hP hD hS hA hl.1 rfl hd_X0_countWaitingAt ⟨Nat.le_of_ble_eq_true rfl, Nat.le_of_ble_eq_true rfl⟩ ⟨Nat.le_of_ble_eq_true rfl, Nat.le_of_ble_eq_true rfl⟩ rfl rfl rfl rfl rfl rfl (Nat.le_of_ble_eq_true rfl) (fun H locs hP hD hS => ?_)
  exact gx_iret hC hr hlk hK (ws := (tw cI t o r (gxLine S i (nI j) w mi wt) o1 r1 T)) hP hD hS (by first | exact hn39 | simp only [hn2, hci, hn7, hcj, hn20, hn27, hn34, hn39, Option.none_or]) (show some (Value.int (gxWat (gxLine S i (nI j) w mi wt) (nI j) N)) = _ from (by first | (rw [hci]) | (rw [hci]; rfl) | rfl)) (by first | (rw [hci]) | (rw [hci]; rfl) | rfl) dX1_ask_64 (Nat.le_of_ble_eq_true rfl) (Nat.le_of_ble_eq_true rfl)

theorem hd_X1_barge : yX1_barge.cls = RX1 ∧ yX1_barge.cls ≠ "java/lang/invoke/MethodHandle" ∧ yX1_barge.cls ≠ "java/lang/invoke/VarHandle" ∧ (parseMethodDescriptor yX1_barge.desc).map (fun d => d.parameters.length) = some 4 := by decide +kernel
set_option maxHeartbeats 400000 in
set_option maxRecDepth 100000 in
theorem ct_X1_barge (l : Launch) (hl0 : l.stackTraces = false) (D : va_G) (cI : ClassId) (t o : Nat) (r : Nat → Nat) (S : SS) (o1 : Nat) (r1 : Nat → Nat) (T : SS) (k : Int32) (g : Int32) (w : Int32) (mi : Int32) (N : Nat) (hN : S 0 2 = nI N) (hN12 : N ≤ 12) (G : Nat) (hG : S 0 1 = nI G) (hG4 : G ≤ 4) : Cx l D [(cI, .int)] yX1_barge wsX1_barge 7 103 6 36 [.ref t, .int k, .int g, .int w, .int mi] (tw cI t o r S o1 r1 T) ((xGoat S k).or ((xGate S g).or ((xNum w (S 5 g.toNatClampNeg)).or ((xNum mi 30).or ((xIdle S k.toNatClampNeg).or (xFr S g.toNatClampNeg N w)))))) (some (.int (gxFree (gxEnt S k.toNatClampNeg g w mi) g.toNatClampNeg N))) (tw cI t o r (gxEnt S k.toNatClampNeg g w mi) o1 r1 T) := by
  refine Cx.ofW (cc := cX1_barge) (maxL := 5) (ret := (some .int)) (by decide) rfl (Nat.le_of_ble_eq_true rfl) ?_
  intro p e s m below meth c A ls hC hr hlk htab hTh hP hD hS hK hA hl
  have hx := hC.1
  have hb := hC.2.1
  have hinX0 : ∀ w ∈ wsX00, w ∈ wsX1_barge := fun _ _h => List.mem_cons_of_mem _ (List.mem_append_left _ (List.mem_append_left _ (List.mem_append_left _ (List.mem_append_right _ _h))))
  have hinX1 : ∀ w ∈ wsX10, w ∈ wsX1_barge := fun _ _h => List.mem_cons_of_mem _ (List.mem_append_left _ (List.mem_append_left _ (List.mem_append_left _ (List.mem_append_left _ (List.mem_append_right _ _h)))))
  have hl : lv_has ls 5 [(0, .ref t), (1, .int k), (2, .int g), (3, .int w), (4, .int mi)] := hl
  refine lv_aload_n hx hb dX1_barge_0 rfl (lv_at hl 0 rfl) ?_
  refine lv_iload_n hx hb dX1_barge_1 rfl (lv_at hl 1 rfl) ?_
  refine gx_callV hC 0 1 1 (ct_X1_checkGoat l hl0 D cI t o r S o1 r1 T k) gX1_barge_X1_checkGoat dX1_barge_2 hTh hlk htab hK hP hD hS hA hl.1 rfl hd_X1_checkGoat ⟨Nat.le_of_ble_eq_true rfl, Nat.le_of_ble_eq_true rfl⟩ ⟨Nat.le_of_ble_eq_true rfl, Nat.le_of_ble_eq_true rfl⟩ rfl rfl rfl rfl (Nat.le_of_ble_eq_true rfl) ⟨Nat.le_of_ble_eq_true rfl, Nat.le_of_ble_eq_true rfl⟩ (fun E hE => ⟨by first | exact hE | simp only [hE, Option.none_or, Option.some_or], rfl⟩) (fun hn2 H locs hP hD hS => ?_)
  obtain ⟨i, hi, rfl⟩ := xGoat_n hN hN12 hn2
  have hci : (nI i).toNatClampNeg = i := nI_clamp (by omega)
  refine lv_aload_n hx hb dX1_barge_5 rfl (lv_at hl 0 rfl) ?_
  refine lv_iload_n hx hb dX1_barge_6 rfl (lv_at hl 2 rfl) ?_
  refine gx_callV hC 0 1 1 (ct_X1_checkGate l hl0 D cI t o r S o1 r1 T g) gX1_barge_X1_checkGate dX1_barge_7 hTh hlk htab hK hP hD hS hA hl.1 rfl hd_X1_checkGate ⟨Nat.le_of_ble_eq_true rfl, Nat.le_of_ble_eq_true rfl⟩ ⟨Nat.le_of_ble_eq_true rfl, Nat.le_of_ble_eq_true rfl⟩ rfl rfl rfl rfl (Nat.le_of_ble_eq_true rfl) ⟨Nat.le_of_ble_eq_true rfl, Nat.le_of_ble_eq_true rfl⟩ (fun E hE => ⟨by first | exact hE | simp only [hn2, hci, hE, Option.none_or, Option.some_or], rfl⟩) (fun hn7 H locs hP hD hS => ?_)
  obtain ⟨j, hj, rfl⟩ := xGate_n hG hG4 hn7
  have hcj : (nI j).toNatClampNeg = j := nI_clamp (by omega)
  refine lv_iload_n hx hb dX1_barge_10 rfl (lv_at hl 3 rfl) ?_
  refine lv_aload_n hx hb dX1_barge_11 rfl (lv_at hl 0 rfl) ?_
  refine gt_get hC 0 1 0 3 hinX1 hK hP dX1_barge_12 rfl rfl rfl (by decide) rfl rfl ?_
  refine gt_get hC 1 0 5 4 hinX0 hK hP dX1_barge_15 rfl rfl rfl (by decide) rfl rfl ?_
  refine lv_iload_n hx hb dX1_barge_18 rfl (lv_at hl 2 rfl) ?_
  refine gt_ald hC 2 0 j hK hP dX1_barge_19 rfl rfl rfl (by omega) (Nat.le_of_ble_eq_true rfl) ?_
  refine gx_callS hC 2 (ct_X1_checkNumber l hl0 D w (S 5 j)) gX1_barge_X1_checkNumber dX1_barge_20 hTh hlk htab hK hP hD hS hA hl.1 rfl hd_X1_checkNumber ⟨Nat.le_of_ble_eq_true rfl, Nat.le_of_ble_eq_true rfl⟩ ⟨Nat.le_of_ble_eq_true rfl, Nat.le_of_ble_eq_true rfl⟩ rfl rfl (Nat.le_of_ble_eq_true rfl) ⟨Nat.le_of_ble_eq_true rfl, Nat.le_of_ble_eq_true rfl⟩ (fun E hE => ⟨by first | exact hE | simp only [hn2, hci, hn7, hcj, hE, Option.none_or, Option.some_or], rfl⟩) (fun hn20 H locs hP hD hS => ?_)
  refine lv_iload hx hb dX1_barge_23 (lv_at hl 4 rfl) ?_
  refine lv_bipush (v := 30) hx hb dX1_barge_25 (by decide) ?_
  refine gx_callS hC 2 (ct_X1_checkNumber l hl0 D mi 30) gX1_barge_X1_checkNumber dX1_barge_27 hTh hlk htab hK hP hD hS hA hl.1 rfl hd_X1_checkNumber ⟨Nat.le_of_ble_eq_true rfl, Nat.le_of_ble_eq_true rfl⟩ ⟨Nat.le_of_ble_eq_true rfl, Nat.le_of_ble_eq_true rfl⟩ rfl rfl (Nat.le_of_ble_eq_true rfl) ⟨Nat.le_of_ble_eq_true rfl, Nat.le_of_ble_eq_true rfl⟩ (fun E hE => ⟨by first | exact hE | simp only [hn2, hci, hn7, hcj, hn20, hE, Option.none_or, Option.some_or], rfl⟩) (fun hn27 H locs hP hD hS => ?_)
  refine lv_aload_n hx hb dX1_barge_30 rfl (lv_at hl 0 rfl) ?_
  refine lv_iload_n hx hb dX1_barge_31 rfl (lv_at hl 1 rfl) ?_
  refine gx_callV hC 0 1 1 (ct_X1_checkIdle l hl0 D cI t o r S o1 r1 T i (by omega)) gX1_barge_X1_checkIdle dX1_barge_32 hTh hlk htab hK hP hD hS hA hl.1 rfl hd_X1_checkIdle ⟨Nat.le_of_ble_eq_true rfl, Nat.le_of_ble_eq_true rfl⟩ ⟨Nat.le_of_ble_eq_true rfl, Nat.le_of_ble_eq_true rfl⟩ rfl rfl rfl rfl (Nat.le_of_ble_eq_true rfl) ⟨Nat.le_of_ble_eq_true rfl, Nat.le_of_ble_eq_true rfl⟩ (fun E hE => ⟨by first | exact hE | simp only [hn2, hci, hn7, hcj, hn20, hn27, hE, Option.none_or, Option.some_or], rfl⟩) (fun hn32 H locs hP hD hS => ?_)
  refine lv_aload_n hx hb dX1_barge_35 rfl (lv_at hl 0 rfl) ?_
  refine gt_get hC 0 1 0 3 hinX1 hK hP dX1_barge_36 rfl rfl rfl (by decide) rfl rfl ?_
  refine lv_iload_n hx hb dX1_barge_39 rfl (lv_at hl 2 rfl) ?_
  refine gt_callV (ws' := (tw cI t o r S o1 r1 T)) hC [(t, .inr (1, [.ref o, .ref o1]))] (sw cI o1 r1 T) 0 0 1 (ct_X0_freePermits l D cI o r S j (by omega) N hN hN12) gX1_barge_X0_freePermits dX1_barge_40 hK hP hD hS hA hl.1 rfl hd_X0_freePermits ⟨Nat.le_of_ble_eq_true rfl, Nat.le_of_ble_eq_true rfl⟩ ⟨Nat.le_of_ble_eq_true rfl, Nat.le_of_ble_eq_true rfl⟩ rfl rfl rfl rfl rfl rfl (Nat.le_of_ble_eq_true rfl) (fun H locs hP hD hS => ?_)
  refine lv_iload_n hx hb dX1_barge_43 rfl (lv_at hl 3 rfl) ?_
  refine lv_icmp_ge (tgt := 57) hx hb dX1_barge_44 (by decide) (fun c44_1 : w ≤ (gxFree S j N) => ?_) (fun c44_1 : ¬ (w ≤ (gxFree S j N)) => ?_)
  · skip
    have hn57 : xFr S j N w = none := ((if_pos c44_1).trans rfl)
    refine lv_aload_n hx hb dX1_barge_57 rfl (lv_at hl 0 rfl) ?_
    refine gt_get hC 0 1 0 3 hinX1 hK hP dX1_barge_58 rfl rfl rfl (by decide) rfl rfl ?_
    refine lv_iload_n hx hb dX1_barge_61 rfl (lv_at hl 1 rfl) ?_
    refine lv_iload_n hx hb dX1_barge_62 rfl (lv_at hl 2 rfl) ?_
    refine lv_iload_n hx hb dX1_barge_63 rfl (lv_at hl 3 rfl) ?_
    refine lv_iload hx hb dX1_barge_64 (lv_at hl 4 rfl) ?_
    refine gt_callV (ws' := (tw cI t o r (gxEnt S i (nI j) w mi) o1 r1 T)) hC [(t, .inr (1, [.ref o, .ref o1]))] (sw cI o1 r1 T) 0 0 4 (ct_X0_enter l D cI o r S i (nI j) w mi (by omega)) gX1_barge_X0_enter dX1_barge_66 hK hP hD hS hA hl.1 rfl hd_X0_enter ⟨Nat.le_of_ble_eq_true rfl, Nat.le_of_ble_eq_true rfl⟩ ⟨Nat.le_of_ble_eq_true rfl, Nat.le_of_ble_eq_true rfl⟩ rfl rfl rfl rfl rfl rfl (Nat.le_of_ble_eq_true rfl) (fun H locs hP hD hS => ?_)
    refine lv_aload_n hx hb dX1_barge_69 rfl (lv_at hl 0 rfl) ?_
    refine gt_get hC 0 1 0 3 hinX1 hK hP dX1_barge_70 rfl rfl rfl (by decide) rfl rfl ?_
    refine lv_iload_n hx hb dX1_barge_73 rfl (lv_at hl 2 rfl) ?_
    refine gt_callV (ws' := (tw cI t o r (gxEnt S i (nI j) w mi) o1 r1 T)) hC [(t, .inr (1, [.ref o, .ref o1]))] (sw cI o1 r1 T) 0 0 1 (ct_X0_freePermits l D cI o r (gxEnt S i (nI j) w mi) j (by omega) N hN hN12) gX1_barge_X0_freePermits dX1_barge_74 hK hP hD hS hA hl.1 rfl hd_X0_freePermits ⟨Nat.le_of_ble_eq_true rfl, Nat.le_of_ble_eq_true rfl⟩ ⟨Nat.le_of_ble_eq_true rfl, Nat.le_of_ble_eq_true rfl⟩ rfl rfl rfl rfl rfl rfl (Nat.le_of_ble_eq_true rfl) (fun H locs hP hD hS => ?_)
    exact gx_iret hC hr hlk hK (ws := (tw cI t o r (gxEnt S i (nI j) w mi) o1 r1 T)) hP hD hS (by first | exact hn57 | simp only [hn2, hci, hn7, hcj, hn20, hn27, hn32, hn57, Option.none_or]) (show some (Value.int (gxFree (gxEnt S i (nI j) w mi) j N)) = _ from (by first | (rw [hci, hcj]) | (rw [hci, hcj]; rfl) | rfl)) (by first | (rw [hci]) | (rw [hci]; rfl) | rfl) dX1_barge_77 (Nat.le_of_ble_eq_true rfl) (Nat.le_of_ble_eq_true rfl)
  · skip
    have hE : xFr S j N w = some gxIS := ((if_neg c44_1).trans rfl)
    exact gx_throw (cls := gxIS) (text := "fewer permits are free") hC hl0 hTh hlk htab hK (ws := (tw cI t o r S o1 r1 T)) hP hD hS hl.1 1 2 rfl rfl (hTh.2.2.1.2.2.2.1) (by decide +kernel) (fun _ _h => List.mem_cons_of_mem _ (List.mem_append_left _ (List.mem_append_left _ (List.mem_append_right _ _h)))) (hTh.2.2.2.2.2.1) gxb_IS gxg_IS dX1_barge_47 dX1_barge_50 dX1_barge_51 dX1_barge_53 dX1_barge_56 ⟨Nat.le_of_ble_eq_true rfl, Nat.le_of_ble_eq_true rfl, Nat.le_of_ble_eq_true rfl, Nat.le_of_ble_eq_true rfl⟩ (by first | exact hE | (simp only [hn2, hci, hn7, hcj, hn20, hn27, hn32, hE, Option.none_or, Option.some_or])) rfl ⟨Nat.le_of_ble_eq_true rfl, Nat.le_of_ble_eq_true rfl⟩

theorem hd_X1_callBack : yX1_callBack.cls = RX1 ∧ yX1_callBack.cls ≠ "java/lang/invoke/MethodHandle" ∧ yX1_callBack.cls ≠ "java/lang/invoke/VarHandle" ∧ (parseMethodDescriptor yX1_callBack.desc).map (fun d => d.parameters.length) = some 1 := by decide +kernel
set_option maxHeartbeats 400000 in
set_option maxRecDepth 100000 in
theorem ct_X1_callBack (l : Launch) (hl0 : l.stackTraces = false) (D : va_G) (cI : ClassId) (t o : Nat) (r : Nat → Nat) (S : SS) (o1 : Nat) (r1 : Nat → Nat) (T : SS) (k : Int32) (N : Nat) (hN : S 0 2 = nI N) (hN12 : N ≤ 12) : Cx l D [(cI, .int)] yX1_callBack wsX1_callBack 7 103 2 12 [.ref t, .int k] (tw cI t o r S o1 r1 T) ((xGoat S k).or (xCb S k.toNatClampNeg)) (some (.int (gxHeld S k.toNatClampNeg))) (tw cI t o r (gxRest S k.toNatClampNeg) o1 r1 T) := by
  refine Cx.ofW (cc := cX1_callBack) (maxL := 3) (ret := (some .int)) (by decide) rfl (Nat.le_of_ble_eq_true rfl) ?_
  intro p e s m below meth c A ls hC hr hlk htab hTh hP hD hS hK hA hl
  have hx := hC.1
  have hb := hC.2.1
  have hinX0 : ∀ w ∈ wsX00, w ∈ wsX1_callBack := fun _ _h => List.mem_cons_of_mem _ (List.mem_append_left _ (List.mem_append_left _ (List.mem_append_right _ _h)))
  have hinX1 : ∀ w ∈ wsX10, w ∈ wsX1_callBack := fun _ _h => List.mem_cons_of_mem _ (List.mem_append_left _ (List.mem_append_left _ (List.mem_append_left _ (List.mem_append_right _ _h))))
  have hl : lv_has ls 3 [(0, .ref t), (1, .int k)] := hl
  refine lv_aload_n hx hb dX1_callBack_0 rfl (lv_at hl 0 rfl) ?_
  refine lv_iload_n hx hb dX1_callBack_1 rfl (lv_at hl 1 rfl) ?_
  refine gx_callV hC 0 1 1 (ct_X1_checkGoat l hl0 D cI t o r S o1 r1 T k) gX1_callBack_X1_checkGoat dX1_callBack_2 hTh hlk htab hK hP hD hS hA hl.1 rfl hd_X1_checkGoat ⟨Nat.le_of_ble_eq_true rfl, Nat.le_of_ble_eq_true rfl⟩ ⟨Nat.le_of_ble_eq_true rfl, Nat.le_of_ble_eq_true rfl⟩ rfl rfl rfl rfl (Nat.le_of_ble_eq_true rfl) ⟨Nat.le_of_ble_eq_true rfl, Nat.le_of_ble_eq_true rfl⟩ (fun E hE => ⟨by first | exact hE | simp only [hE, Option.none_or, Option.some_or], rfl⟩) (fun hn2 H locs hP hD hS => ?_)
  obtain ⟨i, hi, rfl⟩ := xGoat_n hN hN12 hn2
  have hci : (nI i).toNatClampNeg = i := nI_clamp (by omega)
  refine lv_aload_n hx hb dX1_callBack_5 rfl (lv_at hl 0 rfl) ?_
  refine gt_get hC 0 1 0 3 hinX1 hK hP dX1_callBack_6 rfl rfl rfl (by decide) rfl rfl ?_
  refine gt_get hC 1 0 9 4 hinX0 hK hP dX1_callBack_9 rfl rfl rfl (by decide) rfl rfl ?_
  refine lv_iload_n hx hb dX1_callBack_12 rfl (lv_at hl 1 rfl) ?_
  refine gt_ald hC 6 0 i hK hP dX1_callBack_13 rfl rfl rfl (by omega) (Nat.le_of_ble_eq_true rfl) ?_
  refine lv_if_ne (tgt := 27) hx hb dX1_callBack_14 (by decide) (fun c14_1 : ¬ ((S 9 i) = 0) => ?_) (fun c14_1 : (S 9 i) = 0 => ?_)
  · skip
    have hn27 : xCb S i = none := ((if_neg c14_1).trans rfl)
    refine lv_aload_n hx hb dX1_callBack_27 rfl (lv_at hl 0 rfl) ?_
    refine gt_get hC 0 1 0 3 hinX1 hK hP dX1_callBack_28 rfl rfl rfl (by decide) rfl rfl ?_
    refine lv_iload_n hx hb dX1_callBack_31 rfl (lv_at hl 1 rfl) ?_
    refine gt_callV (ws' := (tw cI t o r S o1 r1 T)) hC [(t, .inr (1, [.ref o, .ref o1]))] (sw cI o1 r1 T) 0 0 1 (ct_X0_held l D cI o r S i (by omega)) gX1_callBack_X0_held dX1_callBack_32 hK hP hD hS hA hl.1 rfl hd_X0_held ⟨Nat.le_of_ble_eq_true rfl, Nat.le_of_ble_eq_true rfl⟩ ⟨Nat.le_of_ble_eq_true rfl, Nat.le_of_ble_eq_true rfl⟩ rfl rfl rfl rfl rfl rfl (Nat.le_of_ble_eq_true rfl) (fun H locs hP hD hS => ?_)
    refine lv_istore_n (lv' := [(2, .int (gxHeld S i)), (0, .ref t), (1, .int (nI i))]) hx hb dX1_callBack_35 rfl hl (by decide) rfl (fun ls hl => ?_)
    refine lv_aload_n hx hb dX1_callBack_36 rfl (lv_at hl 1 rfl) ?_
    refine gt_get hC 0 1 0 3 hinX1 hK hP dX1_callBack_37 rfl rfl rfl (by decide) rfl rfl ?_
    refine lv_iload_n hx hb dX1_callBack_40 rfl (lv_at hl 2 rfl) ?_
    refine gt_callV (ws' := (tw cI t o r (gxRest S i) o1 r1 T)) hC [(t, .inr (1, [.ref o, .ref o1]))] (sw cI o1 r1 T) 0 0 1 (ct_X0_rest l D cI o r S i (by omega)) gX1_callBack_X0_rest dX1_callBack_41 hK hP hD hS hA hl.1 rfl hd_X0_rest ⟨Nat.le_of_ble_eq_true rfl, Nat.le_of_ble_eq_true rfl⟩ ⟨Nat.le_of_ble_eq_true rfl, Nat.le_of_ble_eq_true rfl⟩ rfl rfl rfl rfl rfl rfl (Nat.le_of_ble_eq_true rfl) (fun H locs hP hD hS => ?_)
    refine lv_iload_n hx hb dX1_callBack_44 rfl (lv_at hl 0 rfl) ?_
    exact gx_iret hC hr hlk hK (ws := (tw cI t o r (gxRest S i) o1 r1 T)) hP hD hS (by first | exact hn27 | simp only [hn2, hci, hn27, Option.none_or]) (show some (Value.int (gxHeld S i)) = _ from (by first | (rw [hci]) | (rw [hci]; rfl) | rfl)) (by first | (rw [hci]) | (rw [hci]; rfl) | rfl) dX1_callBack_45 (Nat.le_of_ble_eq_true rfl) (Nat.le_of_ble_eq_true rfl)
  · skip
    have hE : xCb S i = some gxIS := ((if_pos c14_1).trans rfl)
    exact gx_throw (cls := gxIS) (text := "the goat is idle") hC hl0 hTh hlk htab hK (ws := (tw cI t o r S o1 r1 T)) hP hD hS hl.1 1 2 rfl rfl (hTh.2.2.1.2.2.2.2.1) (by decide +kernel) (fun _ _h => List.mem_cons_of_mem _ (List.mem_append_left _ (List.mem_append_right _ _h))) (hTh.2.2.2.2.2.1) gxb_IS gxg_IS dX1_callBack_17 dX1_callBack_20 dX1_callBack_21 dX1_callBack_23 dX1_callBack_26 ⟨Nat.le_of_ble_eq_true rfl, Nat.le_of_ble_eq_true rfl, Nat.le_of_ble_eq_true rfl, Nat.le_of_ble_eq_true rfl⟩ (by first | exact hE | (simp only [hn2, hci, hE, Option.none_or, Option.some_or])) rfl ⟨Nat.le_of_ble_eq_true rfl, Nat.le_of_ble_eq_true rfl⟩

theorem hd_X1_pass : yX1_pass.cls = RX1 ∧ yX1_pass.cls ≠ "java/lang/invoke/MethodHandle" ∧ yX1_pass.cls ≠ "java/lang/invoke/VarHandle" ∧ (parseMethodDescriptor yX1_pass.desc).map (fun d => d.parameters.length) = some 1 := by decide +kernel
set_option maxHeartbeats 400000 in
set_option maxRecDepth 100000 in
theorem ct_X1_pass (l : Launch) (hl0 : l.stackTraces = false) (D : va_G) (cI : ClassId) (t o : Nat) (r : Nat → Nat) (S : SS) (o1 : Nat) (r1 : Nat → Nat) (T : SS) (mm : Int32) (N : Nat) (hN : S 0 2 = nI N) (hN12 : N ≤ 12) (G : Nat) (hG : S 0 1 = nI G) (hG4 : G ≤ 4) : Cx l D [(cI, .int)] yX1_pass wsX1_pass 7 103 1 6 [.ref t, .int mm] (tw cI t o r S o1 r1 T) (xNum mm 60) (some (.int (gxIt S G N mm.toNatClampNeg 0 4 - S 0 4))) (tw cI t o r (gxIt S G N mm.toNatClampNeg) o1 r1 T) := by
  refine Cx.ofW (cc := cX1_pass) (maxL := 4) (ret := (some .int)) (by decide) rfl (Nat.le_of_ble_eq_true rfl) ?_
  intro p e s m below meth c A ls hC hr hlk htab hTh hP hD hS hK hA hl
  have hx := hC.1
  have hb := hC.2.1
  have hinX0 : ∀ w ∈ wsX00, w ∈ wsX1_pass := fun _ _h => List.mem_cons_of_mem _ (List.mem_append_left _ (List.mem_append_right _ _h))
  have hinX1 : ∀ w ∈ wsX10, w ∈ wsX1_pass := fun _ _h => List.mem_cons_of_mem _ (List.mem_append_left _ (List.mem_append_left _ (List.mem_append_right _ _h)))
  have hl : lv_has ls 4 [(0, .ref t), (1, .int mm)] := hl
  refine lv_iload_n hx hb dX1_pass_0 rfl (lv_at hl 1 rfl) ?_
  refine lv_bipush (v := 60) hx hb dX1_pass_1 (by decide) ?_
  refine gx_callS hC 2 (ct_X1_checkNumber l hl0 D mm 60) gX1_pass_X1_checkNumber dX1_pass_3 hTh hlk htab hK hP hD hS hA hl.1 rfl hd_X1_checkNumber ⟨Nat.le_of_ble_eq_true rfl, Nat.le_of_ble_eq_true rfl⟩ ⟨Nat.le_of_ble_eq_true rfl, Nat.le_of_ble_eq_true rfl⟩ rfl rfl (Nat.le_of_ble_eq_true rfl) ⟨Nat.le_of_ble_eq_true rfl, Nat.le_of_ble_eq_true rfl⟩ (fun E hE => ⟨by first | exact hE | simp only [hE, Option.none_or, Option.some_or], rfl⟩) (fun hn3 H locs hP hD hS => ?_)
  obtain ⟨mn, hmn1, hmn, rfl⟩ := xNum_n (M := 60) (by decide) hn3
  have hcmn : (nI mn).toNatClampNeg = mn := nI_clamp (by omega)
  refine lv_aload_n hx hb dX1_pass_6 rfl (lv_at hl 0 rfl) ?_
  refine gt_get hC 0 1 0 1 hinX1 hK hP dX1_pass_7 rfl rfl rfl (by decide) rfl rfl ?_
  refine gt_get hC 1 0 4 2 hinX0 hK hP dX1_pass_10 rfl rfl rfl (by decide) rfl rfl ?_
  refine lv_istore_n (lv' := [(2, .int (S 0 4)), (0, .ref t), (1, .int (nI mn))]) hx hb dX1_pass_13 rfl hl (by decide) rfl (fun ls hl => ?_)
  refine lv_iconst (v := 0) hx hb dX1_pass_14 (by decide) ?_
  refine lv_istore_n (lv' := [(3, .int 0), (2, .int (S 0 4)), (0, .ref t), (1, .int (nI mn))]) hx hb dX1_pass_15 rfl hl (by decide) rfl (fun ls hl => ?_)
  refine gt_loop D A s.heap 4 mn (fun n => [(3, .int (nI n)), (2, .int (S 0 4)), (0, .ref t), (1, .int (nI mn))]) (fun n => (tw cI t o r (gxIt S G N n) o1 r1 T)) (lv_sub hl [0, 1, 2, 3] rfl) hP hD hS (fun n hi_n H locs ls hP hD hS hl K1 => ?_) (fun H locs ls hP hD hS hl => ?_)
  · skip
    refine lv_iload_n hx hb dX1_pass_16 rfl (lv_at hl 0 rfl) ?_
    refine lv_iload_n hx hb dX1_pass_17 rfl (lv_at hl 3 rfl) ?_
    refine gt_ge_f (tgt := 34) hC n mn dX1_pass_18 (by decide) rfl rfl hi_n (by omega) ?_
    refine lv_aload_n hx hb dX1_pass_21 rfl (lv_at hl 2 rfl) ?_
    refine gt_get hC 0 1 0 1 hinX1 hK hP dX1_pass_22 rfl rfl rfl (by decide) rfl rfl ?_
    refine gt_callV (ws' := (tw cI t o r (gxMin (gxIt S G N n) G N) o1 r1 T)) hC [(t, .inr (1, [.ref o, .ref o1]))] (sw cI o1 r1 T) 0 0 0 (ct_X0_liveAMinute l D cI o r (gxIt S G N n) N ((gxIt_0 S G N (by decide) (by decide) n).trans hN) hN12 G ((gxIt_0 S G N (by decide) (by decide) n).trans hG) hG4) gX1_pass_X0_liveAMinute dX1_pass_25 hK hP hD hS hA hl.1 rfl hd_X0_liveAMinute ⟨Nat.le_of_ble_eq_true rfl, Nat.le_of_ble_eq_true rfl⟩ ⟨Nat.le_of_ble_eq_true rfl, Nat.le_of_ble_eq_true rfl⟩ rfl rfl rfl rfl rfl rfl (Nat.le_of_ble_eq_true rfl) (fun H locs hP hD hS => ?_)
    refine gt_inc (lv' := [(3, .int (nI (n + 1))), (2, .int (S 0 4)), (0, .ref t), (1, .int (nI mn))]) hC 0 n dX1_pass_28 hl rfl rfl (by decide) rfl (fun ls hl => ?_)
    refine lv_goto (tgt := 16) hx hb dX1_pass_31 (by decide) ?_
    have hl9 : lv_has ls 4 [(3, .int (nI (n + 1))), (2, .int (S 0 4)), (0, .ref t), (1, .int (nI mn))] := lv_sub hl [0, 1, 2, 3] rfl
    have e9 : gxMin (gxIt S G N n) G N = (gxIt S G N (n + 1)) := rfl
    rw [e9] at hP hD
    exact K1 H locs ls hP hD hS hl9
  · skip
    refine lv_iload_n hx hb dX1_pass_16 rfl (lv_at hl 0 rfl) ?_
    refine lv_iload_n hx hb dX1_pass_17 rfl (lv_at hl 3 rfl) ?_
    refine gt_ge_t (tgt := 34) hC mn mn dX1_pass_18 (by decide) rfl rfl (Nat.le_refl _) (by omega) ?_
    refine lv_aload_n hx hb dX1_pass_34 rfl (lv_at hl 2 rfl) ?_
    refine gt_get hC 0 1 0 1 hinX1 hK hP dX1_pass_35 rfl rfl rfl (by decide) rfl rfl ?_
    refine gt_get hC 1 0 4 2 hinX0 hK hP dX1_pass_38 rfl rfl rfl (by decide) rfl rfl ?_
    refine lv_iload_n hx hb dX1_pass_41 rfl (lv_at hl 1 rfl) ?_
    refine lv_isub hx hb dX1_pass_42 ?_
    exact gx_iret hC hr hlk hK (ws := (tw cI t o r (gxIt S G N mn) o1 r1 T)) hP hD hS hn3 (show some (Value.int (((gxIt S G N mn) 0 4) - (S 0 4))) = _ from (by first | (rw [hcmn]) | (rw [hcmn]; rfl) | rfl)) (by first | (rw [hcmn]) | (rw [hcmn]; rfl) | rfl) dX1_pass_43 (Nat.le_of_ble_eq_true rfl) (Nat.le_of_ble_eq_true rfl)

theorem hd_X1_permitsOf : yX1_permitsOf.cls = RX1 ∧ yX1_permitsOf.cls ≠ "java/lang/invoke/MethodHandle" ∧ yX1_permitsOf.cls ≠ "java/lang/invoke/VarHandle" ∧ (parseMethodDescriptor yX1_permitsOf.desc).map (fun d => d.parameters.length) = some 1 := by decide +kernel
set_option maxHeartbeats 400000 in
set_option maxRecDepth 100000 in
theorem ct_X1_permitsOf (l : Launch) (hl0 : l.stackTraces = false) (D : va_G) (cI : ClassId) (t o : Nat) (r : Nat → Nat) (S : SS) (o1 : Nat) (r1 : Nat → Nat) (T : SS) (g : Int32) (G : Nat) (hG : S 0 1 = nI G) (hG4 : G ≤ 4) : Cx l D [(cI, .int)] yX1_permitsOf wsX1_permitsOf 7 103 1 6 [.ref t, .int g] (tw cI t o r S o1 r1 T) (xGate S g) (some (.int (S 5 g.toNatClampNeg))) (tw cI t o r S o1 r1 T) := by
  refine Cx.ofW (cc := cX1_permitsOf) (maxL := 2) (ret := (some .int)) (by decide) rfl (Nat.le_of_ble_eq_true rfl) ?_
  intro p e s m below meth c A ls hC hr hlk htab hTh hP hD hS hK hA hl
  have hx := hC.1
  have hb := hC.2.1
  have hinX0 : ∀ w ∈ wsX00, w ∈ wsX1_permitsOf := fun _ _h => List.mem_cons_of_mem _ (List.mem_append_left _ (List.mem_append_right _ _h))
  have hinX1 : ∀ w ∈ wsX10, w ∈ wsX1_permitsOf := fun _ _h => List.mem_cons_of_mem _ (List.mem_append_left _ (List.mem_append_left _ (List.mem_append_right _ _h)))
  have hl : lv_has ls 2 [(0, .ref t), (1, .int g)] := hl
  refine lv_aload_n hx hb dX1_permitsOf_0 rfl (lv_at hl 0 rfl) ?_
  refine lv_iload_n hx hb dX1_permitsOf_1 rfl (lv_at hl 1 rfl) ?_
  refine gx_callV hC 0 1 1 (ct_X1_checkGate l hl0 D cI t o r S o1 r1 T g) gX1_permitsOf_X1_checkGate dX1_permitsOf_2 hTh hlk htab hK hP hD hS hA hl.1 rfl hd_X1_checkGate ⟨Nat.le_of_ble_eq_true rfl, Nat.le_of_ble_eq_true rfl⟩ ⟨Nat.le_of_ble_eq_true rfl, Nat.le_of_ble_eq_true rfl⟩ rfl rfl rfl rfl (Nat.le_of_ble_eq_true rfl) ⟨Nat.le_of_ble_eq_true rfl, Nat.le_of_ble_eq_true rfl⟩ (fun E hE => ⟨by first | exact hE | simp only [hE, Option.none_or, Option.some_or], rfl⟩) (fun hn2 H locs hP hD hS => ?_)
  obtain ⟨j, hj, rfl⟩ := xGate_n hG hG4 hn2
  have hcj : (nI j).toNatClampNeg = j := nI_clamp (by omega)
  refine lv_aload_n hx hb dX1_permitsOf_5 rfl (lv_at hl 0 rfl) ?_
  refine gt_get hC 0 1 0 1 hinX1 hK hP dX1_permitsOf_6 rfl rfl rfl (by decide) rfl rfl ?_
  refine gt_get hC 1 0 5 2 hinX0 hK hP dX1_permitsOf_9 rfl rfl rfl (by decide) rfl rfl ?_
  refine lv_iload_n hx hb dX1_permitsOf_12 rfl (lv_at hl 1 rfl) ?_
  refine gt_ald hC 2 0 j hK hP dX1_permitsOf_13 rfl rfl rfl (by omega) (Nat.le_of_ble_eq_true rfl) ?_
  exact gx_iret hC hr hlk hK (ws := (tw cI t o r S o1 r1 T)) hP hD hS hn2 (show some (Value.int (S 5 j)) = _ from (by first | (rw [hcj]) | (rw [hcj]; rfl) | rfl)) rfl dX1_permitsOf_14 (Nat.le_of_ble_eq_true rfl) (Nat.le_of_ble_eq_true rfl)

theorem hd_X1_freeOf : yX1_freeOf.cls = RX1 ∧ yX1_freeOf.cls ≠ "java/lang/invoke/MethodHandle" ∧ yX1_freeOf.cls ≠ "java/lang/invoke/VarHandle" ∧ (parseMethodDescriptor yX1_freeOf.desc).map (fun d => d.parameters.length) = some 1 := by decide +kernel
set_option maxHeartbeats 400000 in
set_option maxRecDepth 100000 in
theorem ct_X1_freeOf (l : Launch) (hl0 : l.stackTraces = false) (D : va_G) (cI : ClassId) (t o : Nat) (r : Nat → Nat) (S : SS) (o1 : Nat) (r1 : Nat → Nat) (T : SS) (g : Int32) (N : Nat) (hN : S 0 2 = nI N) (hN12 : N ≤ 12) (G : Nat) (hG : S 0 1 = nI G) (hG4 : G ≤ 4) : Cx l D [(cI, .int)] yX1_freeOf wsX1_freeOf 7 103 1 6 [.ref t, .int g] (tw cI t o r S o1 r1 T) (xGate S g) (some (.int (gxFree S g.toNatClampNeg N))) (tw cI t o r S o1 r1 T) := by
  refine Cx.ofW (cc := cX1_freeOf) (maxL := 2) (ret := (some .int)) (by decide) rfl (Nat.le_of_ble_eq_true rfl) ?_
  intro p e s m below meth c A ls hC hr hlk htab hTh hP hD hS hK hA hl
  have hx := hC.1
  have hb := hC.2.1
  have hinX0 : ∀ w ∈ wsX00, w ∈ wsX1_freeOf := fun _ _h => List.mem_cons_of_mem _ (List.mem_append_left _ (List.mem_append_right _ _h))
  have hinX1 : ∀ w ∈ wsX10, w ∈ wsX1_freeOf := fun _ _h => List.mem_cons_of_mem _ (List.mem_append_left _ (List.mem_append_left _ (List.mem_append_right _ _h)))
  have hl : lv_has ls 2 [(0, .ref t), (1, .int g)] := hl
  refine lv_aload_n hx hb dX1_freeOf_0 rfl (lv_at hl 0 rfl) ?_
  refine lv_iload_n hx hb dX1_freeOf_1 rfl (lv_at hl 1 rfl) ?_
  refine gx_callV hC 0 1 1 (ct_X1_checkGate l hl0 D cI t o r S o1 r1 T g) gX1_freeOf_X1_checkGate dX1_freeOf_2 hTh hlk htab hK hP hD hS hA hl.1 rfl hd_X1_checkGate ⟨Nat.le_of_ble_eq_true rfl, Nat.le_of_ble_eq_true rfl⟩ ⟨Nat.le_of_ble_eq_true rfl, Nat.le_of_ble_eq_true rfl⟩ rfl rfl rfl rfl (Nat.le_of_ble_eq_true rfl) ⟨Nat.le_of_ble_eq_true rfl, Nat.le_of_ble_eq_true rfl⟩ (fun E hE => ⟨by first | exact hE | simp only [hE, Option.none_or, Option.some_or], rfl⟩) (fun hn2 H locs hP hD hS => ?_)
  obtain ⟨j, hj, rfl⟩ := xGate_n hG hG4 hn2
  have hcj : (nI j).toNatClampNeg = j := nI_clamp (by omega)
  refine lv_aload_n hx hb dX1_freeOf_5 rfl (lv_at hl 0 rfl) ?_
  refine gt_get hC 0 1 0 1 hinX1 hK hP dX1_freeOf_6 rfl rfl rfl (by decide) rfl rfl ?_
  refine lv_iload_n hx hb dX1_freeOf_9 rfl (lv_at hl 1 rfl) ?_
  refine gt_callV (ws' := (tw cI t o r S o1 r1 T)) hC [(t, .inr (1, [.ref o, .ref o1]))] (sw cI o1 r1 T) 0 0 1 (ct_X0_freePermits l D cI o r S j (by omega) N hN hN12) gX1_freeOf_X0_freePermits dX1_freeOf_10 hK hP hD hS hA hl.1 rfl hd_X0_freePermits ⟨Nat.le_of_ble_eq_true rfl, Nat.le_of_ble_eq_true rfl⟩ ⟨Nat.le_of_ble_eq_true rfl, Nat.le_of_ble_eq_true rfl⟩ rfl rfl rfl rfl rfl rfl (Nat.le_of_ble_eq_true rfl) (fun H locs hP hD hS => ?_)
  exact gx_iret hC hr hlk hK (ws := (tw cI t o r S o1 r1 T)) hP hD hS hn2 (show some (Value.int (gxFree S j N)) = _ from (by first | (rw [hcj]) | (rw [hcj]; rfl) | rfl)) rfl dX1_freeOf_13 (Nat.le_of_ble_eq_true rfl) (Nat.le_of_ble_eq_true rfl)

theorem hd_X1_waitingAt : yX1_waitingAt.cls = RX1 ∧ yX1_waitingAt.cls ≠ "java/lang/invoke/MethodHandle" ∧ yX1_waitingAt.cls ≠ "java/lang/invoke/VarHandle" ∧ (parseMethodDescriptor yX1_waitingAt.desc).map (fun d => d.parameters.length) = some 1 := by decide +kernel
set_option maxHeartbeats 400000 in
set_option maxRecDepth 100000 in
theorem ct_X1_waitingAt (l : Launch) (hl0 : l.stackTraces = false) (D : va_G) (cI : ClassId) (t o : Nat) (r : Nat → Nat) (S : SS) (o1 : Nat) (r1 : Nat → Nat) (T : SS) (g : Int32) (N : Nat) (hN : S 0 2 = nI N) (hN12 : N ≤ 12) (G : Nat) (hG : S 0 1 = nI G) (hG4 : G ≤ 4) : Cx l D [(cI, .int)] yX1_waitingAt wsX1_waitingAt 7 103 1 6 [.ref t, .int g] (tw cI t o r S o1 r1 T) (xGate S g) (some (.int (gxWat S g N))) (tw cI t o r S o1 r1 T) := by
  refine Cx.ofW (cc := cX1_waitingAt) (maxL := 2) (ret := (some .int)) (by decide) rfl (Nat.le_of_ble_eq_true rfl) ?_
  intro p e s m below meth c A ls hC hr hlk htab hTh hP hD hS hK hA hl
  have hx := hC.1
  have hb := hC.2.1
  have hinX0 : ∀ w ∈ wsX00, w ∈ wsX1_waitingAt := fun _ _h => List.mem_cons_of_mem _ (List.mem_append_left _ (List.mem_append_right _ _h))
  have hinX1 : ∀ w ∈ wsX10, w ∈ wsX1_waitingAt := fun _ _h => List.mem_cons_of_mem _ (List.mem_append_left _ (List.mem_append_left _ (List.mem_append_right _ _h)))
  have hl : lv_has ls 2 [(0, .ref t), (1, .int g)] := hl
  refine lv_aload_n hx hb dX1_waitingAt_0 rfl (lv_at hl 0 rfl) ?_
  refine lv_iload_n hx hb dX1_waitingAt_1 rfl (lv_at hl 1 rfl) ?_
  refine gx_callV hC 0 1 1 (ct_X1_checkGate l hl0 D cI t o r S o1 r1 T g) gX1_waitingAt_X1_checkGate dX1_waitingAt_2 hTh hlk htab hK hP hD hS hA hl.1 rfl hd_X1_checkGate ⟨Nat.le_of_ble_eq_true rfl, Nat.le_of_ble_eq_true rfl⟩ ⟨Nat.le_of_ble_eq_true rfl, Nat.le_of_ble_eq_true rfl⟩ rfl rfl rfl rfl (Nat.le_of_ble_eq_true rfl) ⟨Nat.le_of_ble_eq_true rfl, Nat.le_of_ble_eq_true rfl⟩ (fun E hE => ⟨by first | exact hE | simp only [hE, Option.none_or, Option.some_or], rfl⟩) (fun hn2 H locs hP hD hS => ?_)
  obtain ⟨j, hj, rfl⟩ := xGate_n hG hG4 hn2
  have hcj : (nI j).toNatClampNeg = j := nI_clamp (by omega)
  refine lv_aload_n hx hb dX1_waitingAt_5 rfl (lv_at hl 0 rfl) ?_
  refine gt_get hC 0 1 0 1 hinX1 hK hP dX1_waitingAt_6 rfl rfl rfl (by decide) rfl rfl ?_
  refine lv_iload_n hx hb dX1_waitingAt_9 rfl (lv_at hl 1 rfl) ?_
  refine gt_callV (ws' := (tw cI t o r S o1 r1 T)) hC [(t, .inr (1, [.ref o, .ref o1]))] (sw cI o1 r1 T) 0 0 1 (ct_X0_countWaitingAt l D cI o r S (nI j) N hN hN12) gX1_waitingAt_X0_countWaitingAt dX1_waitingAt_10 hK hP hD hS hA hl.1 rfl hd_X0_countWaitingAt ⟨Nat.le_of_ble_eq_true rfl, Nat.le_of_ble_eq_true rfl⟩ ⟨Nat.le_of_ble_eq_true rfl, Nat.le_of_ble_eq_true rfl⟩ rfl rfl rfl rfl rfl rfl (Nat.le_of_ble_eq_true rfl) (fun H locs hP hD hS => ?_)
  exact gx_iret hC hr hlk hK (ws := (tw cI t o r S o1 r1 T)) hP hD hS hn2 (show some (Value.int (gxWat S (nI j) N)) = _ from rfl) rfl dX1_waitingAt_13 (Nat.le_of_ble_eq_true rfl) (Nat.le_of_ble_eq_true rfl)

theorem hd_X1_nextAt : yX1_nextAt.cls = RX1 ∧ yX1_nextAt.cls ≠ "java/lang/invoke/MethodHandle" ∧ yX1_nextAt.cls ≠ "java/lang/invoke/VarHandle" ∧ (parseMethodDescriptor yX1_nextAt.desc).map (fun d => d.parameters.length) = some 1 := by decide +kernel
set_option maxHeartbeats 400000 in
set_option maxRecDepth 100000 in
theorem ct_X1_nextAt (l : Launch) (hl0 : l.stackTraces = false) (D : va_G) (cI : ClassId) (t o : Nat) (r : Nat → Nat) (S : SS) (o1 : Nat) (r1 : Nat → Nat) (T : SS) (g : Int32) (N : Nat) (hN : S 0 2 = nI N) (hN12 : N ≤ 12) (G : Nat) (hG : S 0 1 = nI G) (hG4 : G ≤ 4) : Cx l D [(cI, .int)] yX1_nextAt wsX1_nextAt 7 103 1 6 [.ref t, .int g] (tw cI t o r S o1 r1 T) (xGate S g) (some (.int (gxFiR S g.toNatClampNeg N))) (tw cI t o r S o1 r1 T) := by
  refine Cx.ofW (cc := cX1_nextAt) (maxL := 2) (ret := (some .int)) (by decide) rfl (Nat.le_of_ble_eq_true rfl) ?_
  intro p e s m below meth c A ls hC hr hlk htab hTh hP hD hS hK hA hl
  have hx := hC.1
  have hb := hC.2.1
  have hinX0 : ∀ w ∈ wsX00, w ∈ wsX1_nextAt := fun _ _h => List.mem_cons_of_mem _ (List.mem_append_left _ (List.mem_append_right _ _h))
  have hinX1 : ∀ w ∈ wsX10, w ∈ wsX1_nextAt := fun _ _h => List.mem_cons_of_mem _ (List.mem_append_left _ (List.mem_append_left _ (List.mem_append_right _ _h)))
  have hl : lv_has ls 2 [(0, .ref t), (1, .int g)] := hl
  refine lv_aload_n hx hb dX1_nextAt_0 rfl (lv_at hl 0 rfl) ?_
  refine lv_iload_n hx hb dX1_nextAt_1 rfl (lv_at hl 1 rfl) ?_
  refine gx_callV hC 0 1 1 (ct_X1_checkGate l hl0 D cI t o r S o1 r1 T g) gX1_nextAt_X1_checkGate dX1_nextAt_2 hTh hlk htab hK hP hD hS hA hl.1 rfl hd_X1_checkGate ⟨Nat.le_of_ble_eq_true rfl, Nat.le_of_ble_eq_true rfl⟩ ⟨Nat.le_of_ble_eq_true rfl, Nat.le_of_ble_eq_true rfl⟩ rfl rfl rfl rfl (Nat.le_of_ble_eq_true rfl) ⟨Nat.le_of_ble_eq_true rfl, Nat.le_of_ble_eq_true rfl⟩ (fun E hE => ⟨by first | exact hE | simp only [hE, Option.none_or, Option.some_or], rfl⟩) (fun hn2 H locs hP hD hS => ?_)
  obtain ⟨j, hj, rfl⟩ := xGate_n hG hG4 hn2
  have hcj : (nI j).toNatClampNeg = j := nI_clamp (by omega)
  refine lv_aload_n hx hb dX1_nextAt_5 rfl (lv_at hl 0 rfl) ?_
  refine gt_get hC 0 1 0 1 hinX1 hK hP dX1_nextAt_6 rfl rfl rfl (by decide) rfl rfl ?_
  refine lv_iload_n hx hb dX1_nextAt_9 rfl (lv_at hl 1 rfl) ?_
  refine gt_callV (ws' := (tw cI t o r S o1 r1 T)) hC [(t, .inr (1, [.ref o, .ref o1]))] (sw cI o1 r1 T) 0 0 1 (ct_X0_firstIn l D cI o r S j (by omega) N hN hN12) gX1_nextAt_X0_firstIn dX1_nextAt_10 hK hP hD hS hA hl.1 rfl hd_X0_firstIn ⟨Nat.le_of_ble_eq_true rfl, Nat.le_of_ble_eq_true rfl⟩ ⟨Nat.le_of_ble_eq_true rfl, Nat.le_of_ble_eq_true rfl⟩ rfl rfl rfl rfl rfl rfl (Nat.le_of_ble_eq_true rfl) (fun H locs hP hD hS => ?_)
  exact gx_iret hC hr hlk hK (ws := (tw cI t o r S o1 r1 T)) hP hD hS hn2 (show some (Value.int (gxFiR S j N)) = _ from (by first | (rw [hcj]) | (rw [hcj]; rfl) | rfl)) rfl dX1_nextAt_13 (Nat.le_of_ble_eq_true rfl) (Nat.le_of_ble_eq_true rfl)

theorem hd_X1_stateOf : yX1_stateOf.cls = RX1 ∧ yX1_stateOf.cls ≠ "java/lang/invoke/MethodHandle" ∧ yX1_stateOf.cls ≠ "java/lang/invoke/VarHandle" ∧ (parseMethodDescriptor yX1_stateOf.desc).map (fun d => d.parameters.length) = some 1 := by decide +kernel
set_option maxHeartbeats 400000 in
set_option maxRecDepth 100000 in
theorem ct_X1_stateOf (l : Launch) (hl0 : l.stackTraces = false) (D : va_G) (cI : ClassId) (t o : Nat) (r : Nat → Nat) (S : SS) (o1 : Nat) (r1 : Nat → Nat) (T : SS) (k : Int32) (N : Nat) (hN : S 0 2 = nI N) (hN12 : N ≤ 12) : Cx l D [(cI, .int)] yX1_stateOf wsX1_stateOf 7 103 1 6 [.ref t, .int k] (tw cI t o r S o1 r1 T) (xGoat S k) (some (.int (S 9 k.toNatClampNeg))) (tw cI t o r S o1 r1 T) := by
  refine Cx.ofW (cc := cX1_stateOf) (maxL := 2) (ret := (some .int)) (by decide) rfl (Nat.le_of_ble_eq_true rfl) ?_
  intro p e s m below meth c A ls hC hr hlk htab hTh hP hD hS hK hA hl
  have hx := hC.1
  have hb := hC.2.1
  have hinX0 : ∀ w ∈ wsX00, w ∈ wsX1_stateOf := fun _ _h => List.mem_cons_of_mem _ (List.mem_append_left _ (List.mem_append_right _ _h))
  have hinX1 : ∀ w ∈ wsX10, w ∈ wsX1_stateOf := fun _ _h => List.mem_cons_of_mem _ (List.mem_append_left _ (List.mem_append_left _ (List.mem_append_right _ _h)))
  have hl : lv_has ls 2 [(0, .ref t), (1, .int k)] := hl
  refine lv_aload_n hx hb dX1_stateOf_0 rfl (lv_at hl 0 rfl) ?_
  refine lv_iload_n hx hb dX1_stateOf_1 rfl (lv_at hl 1 rfl) ?_
  refine gx_callV hC 0 1 1 (ct_X1_checkGoat l hl0 D cI t o r S o1 r1 T k) gX1_stateOf_X1_checkGoat dX1_stateOf_2 hTh hlk htab hK hP hD hS hA hl.1 rfl hd_X1_checkGoat ⟨Nat.le_of_ble_eq_true rfl, Nat.le_of_ble_eq_true rfl⟩ ⟨Nat.le_of_ble_eq_true rfl, Nat.le_of_ble_eq_true rfl⟩ rfl rfl rfl rfl (Nat.le_of_ble_eq_true rfl) ⟨Nat.le_of_ble_eq_true rfl, Nat.le_of_ble_eq_true rfl⟩ (fun E hE => ⟨by first | exact hE | simp only [hE, Option.none_or, Option.some_or], rfl⟩) (fun hn2 H locs hP hD hS => ?_)
  obtain ⟨i, hi, rfl⟩ := xGoat_n hN hN12 hn2
  have hci : (nI i).toNatClampNeg = i := nI_clamp (by omega)
  refine lv_aload_n hx hb dX1_stateOf_5 rfl (lv_at hl 0 rfl) ?_
  refine gt_get hC 0 1 0 1 hinX1 hK hP dX1_stateOf_6 rfl rfl rfl (by decide) rfl rfl ?_
  refine gt_get hC 1 0 9 2 hinX0 hK hP dX1_stateOf_9 rfl rfl rfl (by decide) rfl rfl ?_
  refine lv_iload_n hx hb dX1_stateOf_12 rfl (lv_at hl 1 rfl) ?_
  refine gt_ald hC 6 0 i hK hP dX1_stateOf_13 rfl rfl rfl (by omega) (Nat.le_of_ble_eq_true rfl) ?_
  exact gx_iret hC hr hlk hK (ws := (tw cI t o r S o1 r1 T)) hP hD hS hn2 (show some (Value.int (S 9 i)) = _ from (by first | (rw [hci]) | (rw [hci]; rfl) | rfl)) rfl dX1_stateOf_14 (Nat.le_of_ble_eq_true rfl) (Nat.le_of_ble_eq_true rfl)

theorem hd_X1_gateOf : yX1_gateOf.cls = RX1 ∧ yX1_gateOf.cls ≠ "java/lang/invoke/MethodHandle" ∧ yX1_gateOf.cls ≠ "java/lang/invoke/VarHandle" ∧ (parseMethodDescriptor yX1_gateOf.desc).map (fun d => d.parameters.length) = some 1 := by decide +kernel
set_option maxHeartbeats 400000 in
set_option maxRecDepth 100000 in
theorem ct_X1_gateOf (l : Launch) (hl0 : l.stackTraces = false) (D : va_G) (cI : ClassId) (t o : Nat) (r : Nat → Nat) (S : SS) (o1 : Nat) (r1 : Nat → Nat) (T : SS) (k : Int32) (N : Nat) (hN : S 0 2 = nI N) (hN12 : N ≤ 12) : Cx l D [(cI, .int)] yX1_gateOf wsX1_gateOf 7 103 1 6 [.ref t, .int k] (tw cI t o r S o1 r1 T) (xGoat S k) (some (.int (S 10 k.toNatClampNeg))) (tw cI t o r S o1 r1 T) := by
  refine Cx.ofW (cc := cX1_gateOf) (maxL := 2) (ret := (some .int)) (by decide) rfl (Nat.le_of_ble_eq_true rfl) ?_
  intro p e s m below meth c A ls hC hr hlk htab hTh hP hD hS hK hA hl
  have hx := hC.1
  have hb := hC.2.1
  have hinX0 : ∀ w ∈ wsX00, w ∈ wsX1_gateOf := fun _ _h => List.mem_cons_of_mem _ (List.mem_append_left _ (List.mem_append_right _ _h))
  have hinX1 : ∀ w ∈ wsX10, w ∈ wsX1_gateOf := fun _ _h => List.mem_cons_of_mem _ (List.mem_append_left _ (List.mem_append_left _ (List.mem_append_right _ _h)))
  have hl : lv_has ls 2 [(0, .ref t), (1, .int k)] := hl
  refine lv_aload_n hx hb dX1_gateOf_0 rfl (lv_at hl 0 rfl) ?_
  refine lv_iload_n hx hb dX1_gateOf_1 rfl (lv_at hl 1 rfl) ?_
  refine gx_callV hC 0 1 1 (ct_X1_checkGoat l hl0 D cI t o r S o1 r1 T k) gX1_gateOf_X1_checkGoat dX1_gateOf_2 hTh hlk htab hK hP hD hS hA hl.1 rfl hd_X1_checkGoat ⟨Nat.le_of_ble_eq_true rfl, Nat.le_of_ble_eq_true rfl⟩ ⟨Nat.le_of_ble_eq_true rfl, Nat.le_of_ble_eq_true rfl⟩ rfl rfl rfl rfl (Nat.le_of_ble_eq_true rfl) ⟨Nat.le_of_ble_eq_true rfl, Nat.le_of_ble_eq_true rfl⟩ (fun E hE => ⟨by first | exact hE | simp only [hE, Option.none_or, Option.some_or], rfl⟩) (fun hn2 H locs hP hD hS => ?_)
  obtain ⟨i, hi, rfl⟩ := xGoat_n hN hN12 hn2
  have hci : (nI i).toNatClampNeg = i := nI_clamp (by omega)
  refine lv_aload_n hx hb dX1_gateOf_5 rfl (lv_at hl 0 rfl) ?_
  refine gt_get hC 0 1 0 1 hinX1 hK hP dX1_gateOf_6 rfl rfl rfl (by decide) rfl rfl ?_
  refine gt_get hC 1 0 10 2 hinX0 hK hP dX1_gateOf_9 rfl rfl rfl (by decide) rfl rfl ?_
  refine lv_iload_n hx hb dX1_gateOf_12 rfl (lv_at hl 1 rfl) ?_
  refine gt_ald hC 7 0 i hK hP dX1_gateOf_13 rfl rfl rfl (by omega) (Nat.le_of_ble_eq_true rfl) ?_
  exact gx_iret hC hr hlk hK (ws := (tw cI t o r S o1 r1 T)) hP hD hS hn2 (show some (Value.int (S 10 i)) = _ from (by first | (rw [hci]) | (rw [hci]; rfl) | rfl)) rfl dX1_gateOf_14 (Nat.le_of_ble_eq_true rfl) (Nat.le_of_ble_eq_true rfl)

theorem hd_X1_minutesLeft : yX1_minutesLeft.cls = RX1 ∧ yX1_minutesLeft.cls ≠ "java/lang/invoke/MethodHandle" ∧ yX1_minutesLeft.cls ≠ "java/lang/invoke/VarHandle" ∧ (parseMethodDescriptor yX1_minutesLeft.desc).map (fun d => d.parameters.length) = some 1 := by decide +kernel
set_option maxHeartbeats 400000 in
set_option maxRecDepth 100000 in
theorem ct_X1_minutesLeft (l : Launch) (hl0 : l.stackTraces = false) (D : va_G) (cI : ClassId) (t o : Nat) (r : Nat → Nat) (S : SS) (o1 : Nat) (r1 : Nat → Nat) (T : SS) (k : Int32) (N : Nat) (hN : S 0 2 = nI N) (hN12 : N ≤ 12) : Cx l D [(cI, .int)] yX1_minutesLeft wsX1_minutesLeft 7 103 1 6 [.ref t, .int k] (tw cI t o r S o1 r1 T) (xGoat S k) (some (.int (S 13 k.toNatClampNeg))) (tw cI t o r S o1 r1 T) := by
  refine Cx.ofW (cc := cX1_minutesLeft) (maxL := 2) (ret := (some .int)) (by decide) rfl (Nat.le_of_ble_eq_true rfl) ?_
  intro p e s m below meth c A ls hC hr hlk htab hTh hP hD hS hK hA hl
  have hx := hC.1
  have hb := hC.2.1
  have hinX0 : ∀ w ∈ wsX00, w ∈ wsX1_minutesLeft := fun _ _h => List.mem_cons_of_mem _ (List.mem_append_left _ (List.mem_append_right _ _h))
  have hinX1 : ∀ w ∈ wsX10, w ∈ wsX1_minutesLeft := fun _ _h => List.mem_cons_of_mem _ (List.mem_append_left _ (List.mem_append_left _ (List.mem_append_right _ _h)))
  have hl : lv_has ls 2 [(0, .ref t), (1, .int k)] := hl
  refine lv_aload_n hx hb dX1_minutesLeft_0 rfl (lv_at hl 0 rfl) ?_
  refine lv_iload_n hx hb dX1_minutesLeft_1 rfl (lv_at hl 1 rfl) ?_
  refine gx_callV hC 0 1 1 (ct_X1_checkGoat l hl0 D cI t o r S o1 r1 T k) gX1_minutesLeft_X1_checkGoat dX1_minutesLeft_2 hTh hlk htab hK hP hD hS hA hl.1 rfl hd_X1_checkGoat ⟨Nat.le_of_ble_eq_true rfl, Nat.le_of_ble_eq_true rfl⟩ ⟨Nat.le_of_ble_eq_true rfl, Nat.le_of_ble_eq_true rfl⟩ rfl rfl rfl rfl (Nat.le_of_ble_eq_true rfl) ⟨Nat.le_of_ble_eq_true rfl, Nat.le_of_ble_eq_true rfl⟩ (fun E hE => ⟨by first | exact hE | simp only [hE, Option.none_or, Option.some_or], rfl⟩) (fun hn2 H locs hP hD hS => ?_)
  obtain ⟨i, hi, rfl⟩ := xGoat_n hN hN12 hn2
  have hci : (nI i).toNatClampNeg = i := nI_clamp (by omega)
  refine lv_aload_n hx hb dX1_minutesLeft_5 rfl (lv_at hl 0 rfl) ?_
  refine gt_get hC 0 1 0 1 hinX1 hK hP dX1_minutesLeft_6 rfl rfl rfl (by decide) rfl rfl ?_
  refine gt_get hC 1 0 13 2 hinX0 hK hP dX1_minutesLeft_9 rfl rfl rfl (by decide) rfl rfl ?_
  refine lv_iload_n hx hb dX1_minutesLeft_12 rfl (lv_at hl 1 rfl) ?_
  refine gt_ald hC 10 0 i hK hP dX1_minutesLeft_13 rfl rfl rfl (by omega) (Nat.le_of_ble_eq_true rfl) ?_
  exact gx_iret hC hr hlk hK (ws := (tw cI t o r S o1 r1 T)) hP hD hS hn2 (show some (Value.int (S 13 i)) = _ from (by first | (rw [hci]) | (rw [hci]; rfl) | rfl)) rfl dX1_minutesLeft_14 (Nat.le_of_ble_eq_true rfl) (Nat.le_of_ble_eq_true rfl)

theorem hd_X1_waitedOf : yX1_waitedOf.cls = RX1 ∧ yX1_waitedOf.cls ≠ "java/lang/invoke/MethodHandle" ∧ yX1_waitedOf.cls ≠ "java/lang/invoke/VarHandle" ∧ (parseMethodDescriptor yX1_waitedOf.desc).map (fun d => d.parameters.length) = some 1 := by decide +kernel
set_option maxHeartbeats 400000 in
set_option maxRecDepth 100000 in
theorem ct_X1_waitedOf (l : Launch) (hl0 : l.stackTraces = false) (D : va_G) (cI : ClassId) (t o : Nat) (r : Nat → Nat) (S : SS) (o1 : Nat) (r1 : Nat → Nat) (T : SS) (k : Int32) (N : Nat) (hN : S 0 2 = nI N) (hN12 : N ≤ 12) : Cx l D [(cI, .int)] yX1_waitedOf wsX1_waitedOf 7 103 1 6 [.ref t, .int k] (tw cI t o r S o1 r1 T) (xGoat S k) (some (.int (S 16 k.toNatClampNeg))) (tw cI t o r S o1 r1 T) := by
  refine Cx.ofW (cc := cX1_waitedOf) (maxL := 2) (ret := (some .int)) (by decide) rfl (Nat.le_of_ble_eq_true rfl) ?_
  intro p e s m below meth c A ls hC hr hlk htab hTh hP hD hS hK hA hl
  have hx := hC.1
  have hb := hC.2.1
  have hinX0 : ∀ w ∈ wsX00, w ∈ wsX1_waitedOf := fun _ _h => List.mem_cons_of_mem _ (List.mem_append_left _ (List.mem_append_right _ _h))
  have hinX1 : ∀ w ∈ wsX10, w ∈ wsX1_waitedOf := fun _ _h => List.mem_cons_of_mem _ (List.mem_append_left _ (List.mem_append_left _ (List.mem_append_right _ _h)))
  have hl : lv_has ls 2 [(0, .ref t), (1, .int k)] := hl
  refine lv_aload_n hx hb dX1_waitedOf_0 rfl (lv_at hl 0 rfl) ?_
  refine lv_iload_n hx hb dX1_waitedOf_1 rfl (lv_at hl 1 rfl) ?_
  refine gx_callV hC 0 1 1 (ct_X1_checkGoat l hl0 D cI t o r S o1 r1 T k) gX1_waitedOf_X1_checkGoat dX1_waitedOf_2 hTh hlk htab hK hP hD hS hA hl.1 rfl hd_X1_checkGoat ⟨Nat.le_of_ble_eq_true rfl, Nat.le_of_ble_eq_true rfl⟩ ⟨Nat.le_of_ble_eq_true rfl, Nat.le_of_ble_eq_true rfl⟩ rfl rfl rfl rfl (Nat.le_of_ble_eq_true rfl) ⟨Nat.le_of_ble_eq_true rfl, Nat.le_of_ble_eq_true rfl⟩ (fun E hE => ⟨by first | exact hE | simp only [hE, Option.none_or, Option.some_or], rfl⟩) (fun hn2 H locs hP hD hS => ?_)
  obtain ⟨i, hi, rfl⟩ := xGoat_n hN hN12 hn2
  have hci : (nI i).toNatClampNeg = i := nI_clamp (by omega)
  refine lv_aload_n hx hb dX1_waitedOf_5 rfl (lv_at hl 0 rfl) ?_
  refine gt_get hC 0 1 0 1 hinX1 hK hP dX1_waitedOf_6 rfl rfl rfl (by decide) rfl rfl ?_
  refine gt_get hC 1 0 16 2 hinX0 hK hP dX1_waitedOf_9 rfl rfl rfl (by decide) rfl rfl ?_
  refine lv_iload_n hx hb dX1_waitedOf_12 rfl (lv_at hl 1 rfl) ?_
  refine gt_ald hC 13 0 i hK hP dX1_waitedOf_13 rfl rfl rfl (by omega) (Nat.le_of_ble_eq_true rfl) ?_
  exact gx_iret hC hr hlk hK (ws := (tw cI t o r S o1 r1 T)) hP hD hS hn2 (show some (Value.int (S 16 i)) = _ from (by first | (rw [hci]) | (rw [hci]; rfl) | rfl)) rfl dX1_waitedOf_14 (Nat.le_of_ble_eq_true rfl) (Nat.le_of_ble_eq_true rfl)

theorem hd_X1_holds : yX1_holds.cls = RX1 ∧ yX1_holds.cls ≠ "java/lang/invoke/MethodHandle" ∧ yX1_holds.cls ≠ "java/lang/invoke/VarHandle" ∧ (parseMethodDescriptor yX1_holds.desc).map (fun d => d.parameters.length) = some 1 := by decide +kernel
set_option maxHeartbeats 400000 in
set_option maxRecDepth 100000 in
theorem ct_X1_holds (l : Launch) (hl0 : l.stackTraces = false) (D : va_G) (cI : ClassId) (t o : Nat) (r : Nat → Nat) (S : SS) (o1 : Nat) (r1 : Nat → Nat) (T : SS) (k : Int32) (N : Nat) (hN : S 0 2 = nI N) (hN12 : N ≤ 12) : Cx l D [(cI, .int)] yX1_holds wsX1_holds 7 103 1 6 [.ref t, .int k] (tw cI t o r S o1 r1 T) (xGoat S k) (some (.int (gxHeld S k.toNatClampNeg))) (tw cI t o r S o1 r1 T) := by
  refine Cx.ofW (cc := cX1_holds) (maxL := 2) (ret := (some .int)) (by decide) rfl (Nat.le_of_ble_eq_true rfl) ?_
  intro p e s m below meth c A ls hC hr hlk htab hTh hP hD hS hK hA hl
  have hx := hC.1
  have hb := hC.2.1
  have hinX0 : ∀ w ∈ wsX00, w ∈ wsX1_holds := fun _ _h => List.mem_cons_of_mem _ (List.mem_append_left _ (List.mem_append_right _ _h))
  have hinX1 : ∀ w ∈ wsX10, w ∈ wsX1_holds := fun _ _h => List.mem_cons_of_mem _ (List.mem_append_left _ (List.mem_append_left _ (List.mem_append_right _ _h)))
  have hl : lv_has ls 2 [(0, .ref t), (1, .int k)] := hl
  refine lv_aload_n hx hb dX1_holds_0 rfl (lv_at hl 0 rfl) ?_
  refine lv_iload_n hx hb dX1_holds_1 rfl (lv_at hl 1 rfl) ?_
  refine gx_callV hC 0 1 1 (ct_X1_checkGoat l hl0 D cI t o r S o1 r1 T k) gX1_holds_X1_checkGoat dX1_holds_2 hTh hlk htab hK hP hD hS hA hl.1 rfl hd_X1_checkGoat ⟨Nat.le_of_ble_eq_true rfl, Nat.le_of_ble_eq_true rfl⟩ ⟨Nat.le_of_ble_eq_true rfl, Nat.le_of_ble_eq_true rfl⟩ rfl rfl rfl rfl (Nat.le_of_ble_eq_true rfl) ⟨Nat.le_of_ble_eq_true rfl, Nat.le_of_ble_eq_true rfl⟩ (fun E hE => ⟨by first | exact hE | simp only [hE, Option.none_or, Option.some_or], rfl⟩) (fun hn2 H locs hP hD hS => ?_)
  obtain ⟨i, hi, rfl⟩ := xGoat_n hN hN12 hn2
  have hci : (nI i).toNatClampNeg = i := nI_clamp (by omega)
  refine lv_aload_n hx hb dX1_holds_5 rfl (lv_at hl 0 rfl) ?_
  refine gt_get hC 0 1 0 1 hinX1 hK hP dX1_holds_6 rfl rfl rfl (by decide) rfl rfl ?_
  refine lv_iload_n hx hb dX1_holds_9 rfl (lv_at hl 1 rfl) ?_
  refine gt_callV (ws' := (tw cI t o r S o1 r1 T)) hC [(t, .inr (1, [.ref o, .ref o1]))] (sw cI o1 r1 T) 0 0 1 (ct_X0_held l D cI o r S i (by omega)) gX1_holds_X0_held dX1_holds_10 hK hP hD hS hA hl.1 rfl hd_X0_held ⟨Nat.le_of_ble_eq_true rfl, Nat.le_of_ble_eq_true rfl⟩ ⟨Nat.le_of_ble_eq_true rfl, Nat.le_of_ble_eq_true rfl⟩ rfl rfl rfl rfl rfl rfl (Nat.le_of_ble_eq_true rfl) (fun H locs hP hD hS => ?_)
  exact gx_iret hC hr hlk hK (ws := (tw cI t o r S o1 r1 T)) hP hD hS hn2 (show some (Value.int (gxHeld S i)) = _ from (by first | (rw [hci]) | (rw [hci]; rfl) | rfl)) rfl dX1_holds_13 (Nat.le_of_ble_eq_true rfl) (Nat.le_of_ble_eq_true rfl)

theorem hd_X1_seemingHorns : yX1_seemingHorns.cls = RX1 ∧ yX1_seemingHorns.cls ≠ "java/lang/invoke/MethodHandle" ∧ yX1_seemingHorns.cls ≠ "java/lang/invoke/VarHandle" ∧ (parseMethodDescriptor yX1_seemingHorns.desc).map (fun d => d.parameters.length) = some 1 := by decide +kernel
set_option maxHeartbeats 400000 in
set_option maxRecDepth 100000 in
theorem ct_X1_seemingHorns (l : Launch) (hl0 : l.stackTraces = false) (D : va_G) (cI : ClassId) (t o : Nat) (r : Nat → Nat) (S : SS) (o1 : Nat) (r1 : Nat → Nat) (T : SS) (k : Int32) (N : Nat) (hN : S 0 2 = nI N) (hN12 : N ≤ 12) : Cx l D [(cI, .int)] yX1_seemingHorns wsX1_seemingHorns 7 103 1 6 [.ref t, .int k] (tw cI t o r S o1 r1 T) (xGoat S k) (some (.int (gxSeem S k.toNatClampNeg))) (tw cI t o r S o1 r1 T) := by
  refine Cx.ofW (cc := cX1_seemingHorns) (maxL := 2) (ret := (some .int)) (by decide) rfl (Nat.le_of_ble_eq_true rfl) ?_
  intro p e s m below meth c A ls hC hr hlk htab hTh hP hD hS hK hA hl
  have hx := hC.1
  have hb := hC.2.1
  have hinX0 : ∀ w ∈ wsX00, w ∈ wsX1_seemingHorns := fun _ _h => List.mem_cons_of_mem _ (List.mem_append_left _ (List.mem_append_right _ _h))
  have hinX1 : ∀ w ∈ wsX10, w ∈ wsX1_seemingHorns := fun _ _h => List.mem_cons_of_mem _ (List.mem_append_left _ (List.mem_append_left _ (List.mem_append_right _ _h)))
  have hl : lv_has ls 2 [(0, .ref t), (1, .int k)] := hl
  refine lv_aload_n hx hb dX1_seemingHorns_0 rfl (lv_at hl 0 rfl) ?_
  refine lv_iload_n hx hb dX1_seemingHorns_1 rfl (lv_at hl 1 rfl) ?_
  refine gx_callV hC 0 1 1 (ct_X1_checkGoat l hl0 D cI t o r S o1 r1 T k) gX1_seemingHorns_X1_checkGoat dX1_seemingHorns_2 hTh hlk htab hK hP hD hS hA hl.1 rfl hd_X1_checkGoat ⟨Nat.le_of_ble_eq_true rfl, Nat.le_of_ble_eq_true rfl⟩ ⟨Nat.le_of_ble_eq_true rfl, Nat.le_of_ble_eq_true rfl⟩ rfl rfl rfl rfl (Nat.le_of_ble_eq_true rfl) ⟨Nat.le_of_ble_eq_true rfl, Nat.le_of_ble_eq_true rfl⟩ (fun E hE => ⟨by first | exact hE | simp only [hE, Option.none_or, Option.some_or], rfl⟩) (fun hn2 H locs hP hD hS => ?_)
  obtain ⟨i, hi, rfl⟩ := xGoat_n hN hN12 hn2
  have hci : (nI i).toNatClampNeg = i := nI_clamp (by omega)
  refine lv_aload_n hx hb dX1_seemingHorns_5 rfl (lv_at hl 0 rfl) ?_
  refine gt_get hC 0 1 0 1 hinX1 hK hP dX1_seemingHorns_6 rfl rfl rfl (by decide) rfl rfl ?_
  refine lv_iload_n hx hb dX1_seemingHorns_9 rfl (lv_at hl 1 rfl) ?_
  refine gt_callV (ws' := (tw cI t o r S o1 r1 T)) hC [(t, .inr (1, [.ref o, .ref o1]))] (sw cI o1 r1 T) 0 0 1 (ct_X0_seeming l D cI o r S i (by omega)) gX1_seemingHorns_X0_seeming dX1_seemingHorns_10 hK hP hD hS hA hl.1 rfl hd_X0_seeming ⟨Nat.le_of_ble_eq_true rfl, Nat.le_of_ble_eq_true rfl⟩ ⟨Nat.le_of_ble_eq_true rfl, Nat.le_of_ble_eq_true rfl⟩ rfl rfl rfl rfl rfl rfl (Nat.le_of_ble_eq_true rfl) (fun H locs hP hD hS => ?_)
  exact gx_iret hC hr hlk hK (ws := (tw cI t o r S o1 r1 T)) hP hD hS hn2 (show some (Value.int (gxSeem S i)) = _ from (by first | (rw [hci]) | (rw [hci]; rfl) | rfl)) rfl dX1_seemingHorns_13 (Nat.le_of_ble_eq_true rfl) (Nat.le_of_ble_eq_true rfl)

theorem hd_X1_placeInLine : yX1_placeInLine.cls = RX1 ∧ yX1_placeInLine.cls ≠ "java/lang/invoke/MethodHandle" ∧ yX1_placeInLine.cls ≠ "java/lang/invoke/VarHandle" ∧ (parseMethodDescriptor yX1_placeInLine.desc).map (fun d => d.parameters.length) = some 1 := by decide +kernel
set_option maxHeartbeats 400000 in
set_option maxRecDepth 100000 in
theorem ct_X1_placeInLine (l : Launch) (hl0 : l.stackTraces = false) (D : va_G) (cI : ClassId) (t o : Nat) (r : Nat → Nat) (S : SS) (o1 : Nat) (r1 : Nat → Nat) (T : SS) (k : Int32) (N : Nat) (hN : S 0 2 = nI N) (hN12 : N ≤ 12) : Cx l D [(cI, .int)] yX1_placeInLine wsX1_placeInLine 7 103 1 6 [.ref t, .int k] (tw cI t o r S o1 r1 T) (xGoat S k) (some (.int (gxPl S N k.toNatClampNeg))) (tw cI t o r S o1 r1 T) := by
  refine Cx.ofW (cc := cX1_placeInLine) (maxL := 2) (ret := (some .int)) (by decide) rfl (Nat.le_of_ble_eq_true rfl) ?_
  intro p e s m below meth c A ls hC hr hlk htab hTh hP hD hS hK hA hl
  have hx := hC.1
  have hb := hC.2.1
  have hinX0 : ∀ w ∈ wsX00, w ∈ wsX1_placeInLine := fun _ _h => List.mem_cons_of_mem _ (List.mem_append_left _ (List.mem_append_right _ _h))
  have hinX1 : ∀ w ∈ wsX10, w ∈ wsX1_placeInLine := fun _ _h => List.mem_cons_of_mem _ (List.mem_append_left _ (List.mem_append_left _ (List.mem_append_right _ _h)))
  have hl : lv_has ls 2 [(0, .ref t), (1, .int k)] := hl
  refine lv_aload_n hx hb dX1_placeInLine_0 rfl (lv_at hl 0 rfl) ?_
  refine lv_iload_n hx hb dX1_placeInLine_1 rfl (lv_at hl 1 rfl) ?_
  refine gx_callV hC 0 1 1 (ct_X1_checkGoat l hl0 D cI t o r S o1 r1 T k) gX1_placeInLine_X1_checkGoat dX1_placeInLine_2 hTh hlk htab hK hP hD hS hA hl.1 rfl hd_X1_checkGoat ⟨Nat.le_of_ble_eq_true rfl, Nat.le_of_ble_eq_true rfl⟩ ⟨Nat.le_of_ble_eq_true rfl, Nat.le_of_ble_eq_true rfl⟩ rfl rfl rfl rfl (Nat.le_of_ble_eq_true rfl) ⟨Nat.le_of_ble_eq_true rfl, Nat.le_of_ble_eq_true rfl⟩ (fun E hE => ⟨by first | exact hE | simp only [hE, Option.none_or, Option.some_or], rfl⟩) (fun hn2 H locs hP hD hS => ?_)
  obtain ⟨i, hi, rfl⟩ := xGoat_n hN hN12 hn2
  have hci : (nI i).toNatClampNeg = i := nI_clamp (by omega)
  refine lv_aload_n hx hb dX1_placeInLine_5 rfl (lv_at hl 0 rfl) ?_
  refine gt_get hC 0 1 0 1 hinX1 hK hP dX1_placeInLine_6 rfl rfl rfl (by decide) rfl rfl ?_
  refine gt_get hC 1 0 9 2 hinX0 hK hP dX1_placeInLine_9 rfl rfl rfl (by decide) rfl rfl ?_
  refine lv_iload_n hx hb dX1_placeInLine_12 rfl (lv_at hl 1 rfl) ?_
  refine gt_ald hC 6 0 i hK hP dX1_placeInLine_13 rfl rfl rfl (by omega) (Nat.le_of_ble_eq_true rfl) ?_
  refine lv_iconst (v := 1) hx hb dX1_placeInLine_14 (by decide) ?_
  refine gt_meetH D A s.heap (tw cI t o r S o1 r1 T) hP hD hS (rest := []) 30 (gxPl S N i) (fun K1 => ?_) (fun H locs hP hD hS => ?_)
  · skip
    refine lv_icmp_ne (tgt := 29) hx hb dX1_placeInLine_15 (by decide) (fun c15_2 : ¬ ((S 9 i) = 1) => ?_) (fun c15_2 : (S 9 i) = 1 => ?_)
    · skip
      refine lv_iconst (v := (-1)) hx hb dX1_placeInLine_29 (by decide) ?_
      exact K1 _ H locs hP hD hS (show (-1) = (if (S 9 i) = 1 then (gxAhd S i N) else (-1)) from by rw [if_neg c15_2])
    · skip
      refine lv_aload_n hx hb dX1_placeInLine_18 rfl (lv_at hl 0 rfl) ?_
      refine gt_get hC 0 1 0 1 hinX1 hK hP dX1_placeInLine_19 rfl rfl rfl (by decide) rfl rfl ?_
      refine lv_iload_n hx hb dX1_placeInLine_22 rfl (lv_at hl 1 rfl) ?_
      refine gt_callV (ws' := (tw cI t o r S o1 r1 T)) hC [(t, .inr (1, [.ref o, .ref o1]))] (sw cI o1 r1 T) 0 0 1 (ct_X0_countAheadOf l D cI o r S i (by omega) N hN hN12) gX1_placeInLine_X0_countAheadOf dX1_placeInLine_23 hK hP hD hS hA hl.1 rfl hd_X0_countAheadOf ⟨Nat.le_of_ble_eq_true rfl, Nat.le_of_ble_eq_true rfl⟩ ⟨Nat.le_of_ble_eq_true rfl, Nat.le_of_ble_eq_true rfl⟩ rfl rfl rfl rfl rfl rfl (Nat.le_of_ble_eq_true rfl) (fun H locs hP hD hS => ?_)
      refine lv_goto (tgt := 30) hx hb dX1_placeInLine_26 (by decide) ?_
      exact K1 _ H locs hP hD hS (show (gxAhd S i N) = (if (S 9 i) = 1 then (gxAhd S i N) else (-1)) from by rw [if_pos c15_2])
  · skip
    exact gx_iret hC hr hlk hK (ws := (tw cI t o r S o1 r1 T)) hP hD hS hn2 (show some (Value.int (gxPl S N i)) = _ from (by first | (rw [hci]) | (rw [hci]; rfl) | rfl)) rfl dX1_placeInLine_30 (Nat.le_of_ble_eq_true rfl) (Nat.le_of_ble_eq_true rfl)

theorem hd_X1_minutesUntilIn : yX1_minutesUntilIn.cls = RX1 ∧ yX1_minutesUntilIn.cls ≠ "java/lang/invoke/MethodHandle" ∧ yX1_minutesUntilIn.cls ≠ "java/lang/invoke/VarHandle" ∧ (parseMethodDescriptor yX1_minutesUntilIn.desc).map (fun d => d.parameters.length) = some 1 := by decide +kernel
set_option maxHeartbeats 400000 in
set_option maxRecDepth 100000 in
theorem ct_X1_minutesUntilIn (l : Launch) (hl0 : l.stackTraces = false) (D : va_G) (cI : ClassId) (t o : Nat) (r : Nat → Nat) (S : SS) (o1 : Nat) (r1 : Nat → Nat) (T : SS) (k : Int32) (N : Nat) (hN : S 0 2 = nI N) (hN12 : N ≤ 12) (G : Nat) (hG : S 0 1 = nI G) (hG4 : G ≤ 4) : Cx l D [(cI, .int)] yX1_minutesUntilIn wsX1_minutesUntilIn 7 103 1 6 [.ref t, .int k] (tw cI t o r S o1 r1 T) (xGoat S k) (some (.int (gxUn S G N k.toNatClampNeg))) (tw cI t o r S o1 r1 (gxIt S G N (gxUnN S G N k.toNatClampNeg))) := by
  refine Cx.ofW (cc := cX1_minutesUntilIn) (maxL := 3) (ret := (some .int)) (by decide) rfl (Nat.le_of_ble_eq_true rfl) ?_
  intro p e s m below meth c A ls hC hr hlk htab hTh hP hD hS hK hA hl
  have hx := hC.1
  have hb := hC.2.1
  have hinX0 : ∀ w ∈ wsX00, w ∈ wsX1_minutesUntilIn := fun _ _h => List.mem_cons_of_mem _ (List.mem_append_left _ (List.mem_append_right _ _h))
  have hinX1 : ∀ w ∈ wsX10, w ∈ wsX1_minutesUntilIn := fun _ _h => List.mem_cons_of_mem _ (List.mem_append_left _ (List.mem_append_left _ (List.mem_append_right _ _h)))
  have hl : lv_has ls 3 [(0, .ref t), (1, .int k)] := hl
  refine lv_aload_n hx hb dX1_minutesUntilIn_0 rfl (lv_at hl 0 rfl) ?_
  refine lv_iload_n hx hb dX1_minutesUntilIn_1 rfl (lv_at hl 1 rfl) ?_
  refine gx_callV hC 0 1 1 (ct_X1_checkGoat l hl0 D cI t o r S o1 r1 T k) gX1_minutesUntilIn_X1_checkGoat dX1_minutesUntilIn_2 hTh hlk htab hK hP hD hS hA hl.1 rfl hd_X1_checkGoat ⟨Nat.le_of_ble_eq_true rfl, Nat.le_of_ble_eq_true rfl⟩ ⟨Nat.le_of_ble_eq_true rfl, Nat.le_of_ble_eq_true rfl⟩ rfl rfl rfl rfl (Nat.le_of_ble_eq_true rfl) ⟨Nat.le_of_ble_eq_true rfl, Nat.le_of_ble_eq_true rfl⟩ (fun E hE => ⟨by first | exact hE | simp only [hE, Option.none_or, Option.some_or], rfl⟩) (fun hn2 H locs hP hD hS => ?_)
  obtain ⟨i, hi, rfl⟩ := xGoat_n hN hN12 hn2
  have hci : (nI i).toNatClampNeg = i := nI_clamp (by omega)
  refine lv_aload_n hx hb dX1_minutesUntilIn_5 rfl (lv_at hl 0 rfl) ?_
  refine gt_get hC 0 1 1 1 hinX1 hK hP dX1_minutesUntilIn_6 rfl rfl rfl (by decide) rfl rfl ?_
  refine lv_aload_n hx hb dX1_minutesUntilIn_9 rfl (lv_at hl 0 rfl) ?_
  refine gt_get hC 0 1 0 2 hinX1 hK hP dX1_minutesUntilIn_10 rfl rfl rfl (by decide) rfl rfl ?_
  refine gt_callV (ws' := (tw cI t o r S o1 r1 S)) hC [(t, .inr (1, [.ref o, .ref o1]))] [] 13 0 1 (ct_X0_become l D cI o1 r1 T o r S) gX1_minutesUntilIn_X0_become dX1_minutesUntilIn_13 hK hP hD hS hA hl.1 rfl hd_X0_become ⟨Nat.le_of_ble_eq_true rfl, Nat.le_of_ble_eq_true rfl⟩ ⟨Nat.le_of_ble_eq_true rfl, Nat.le_of_ble_eq_true rfl⟩ rfl rfl rfl rfl rfl rfl (Nat.le_of_ble_eq_true rfl) (fun H locs hP hD hS => ?_)
  refine lv_iconst (v := 0) hx hb dX1_minutesUntilIn_16 (by decide) ?_
  refine lv_istore_n (lv' := [(2, .int 0), (0, .ref t), (1, .int (nI i))]) hx hb dX1_minutesUntilIn_17 rfl hl (by decide) rfl (fun ls hl => ?_)
  refine gt_loop D A s.heap 3 (gxUnN S G N i) (fun n => [(2, .int (nI n)), (0, .ref t), (1, .int (nI i))]) (fun n => (tw cI t o r S o1 r1 (gxIt S G N n))) (lv_sub hl [0, 1, 2] rfl) hP hD hS (fun n hi_n H locs ls hP hD hS hl K1 => ?_) (fun H locs ls hP hD hS hl => ?_)
  · skip
    have hle : n < 60 := Nat.lt_of_lt_of_le hi_n (gxF_le _ 60)
    have hst : gxIt S G N n 9 i = 1 := Decidable.not_not.mp (of_decide_eq_false (gxF_no (fun z => decide (gxIt S G N z 9 i ≠ 1)) 60 n hi_n))
    refine lv_iload_n hx hb dX1_minutesUntilIn_18 rfl (lv_at hl 0 rfl) ?_
    refine lv_bipush (v := 60) hx hb dX1_minutesUntilIn_19 (by decide) ?_
    refine gt_ge_f (tgt := 50) hC n 60 dX1_minutesUntilIn_21 (by decide) rfl (by decide) hle (by decide) ?_
    refine lv_aload_n hx hb dX1_minutesUntilIn_24 rfl (lv_at hl 1 rfl) ?_
    refine gt_get hC 0 1 1 1 hinX1 hK hP dX1_minutesUntilIn_25 rfl rfl rfl (by decide) rfl rfl ?_
    refine gt_get hC 14 0 9 3 hinX0 hK hP dX1_minutesUntilIn_28 rfl rfl rfl (by decide) rfl rfl ?_
    refine lv_iload_n hx hb dX1_minutesUntilIn_31 rfl (lv_at hl 2 rfl) ?_
    refine gt_ald hC 19 0 i hK hP dX1_minutesUntilIn_32 rfl rfl rfl (by omega) (Nat.le_of_ble_eq_true rfl) ?_
    refine lv_iconst (v := 1) hx hb dX1_minutesUntilIn_33 (by decide) ?_
    refine lv_icmp_ne (tgt := 50) hx hb dX1_minutesUntilIn_34 (by decide) (fun c34_2 : ¬ (((gxIt S G N n) 9 i) = 1) => absurd c34_2 (not_not_intro hst)) (fun c34_2 : ((gxIt S G N n) 9 i) = 1 => ?_)
    refine lv_aload_n hx hb dX1_minutesUntilIn_37 rfl (lv_at hl 1 rfl) ?_
    refine gt_get hC 0 1 1 1 hinX1 hK hP dX1_minutesUntilIn_38 rfl rfl rfl (by decide) rfl rfl ?_
    refine gt_callV (ws' := (tw cI t o r S o1 r1 (gxMin (gxIt S G N n) G N))) hC ([(t, .inr (1, [.ref o, .ref o1]))] ++ sw cI o r S) [] 0 0 0 (ct_X0_liveAMinute l D cI o1 r1 (gxIt S G N n) N ((gxIt_0 S G N (by decide) (by decide) n).trans hN) hN12 G ((gxIt_0 S G N (by decide) (by decide) n).trans hG) hG4) gX1_minutesUntilIn_X0_liveAMinute dX1_minutesUntilIn_41 hK hP hD hS hA hl.1 rfl hd_X0_liveAMinute ⟨Nat.le_of_ble_eq_true rfl, Nat.le_of_ble_eq_true rfl⟩ ⟨Nat.le_of_ble_eq_true rfl, Nat.le_of_ble_eq_true rfl⟩ rfl rfl rfl rfl rfl rfl (Nat.le_of_ble_eq_true rfl) (fun H locs hP hD hS => ?_)
    refine gt_inc (lv' := [(2, .int (nI (n + 1))), (0, .ref t), (1, .int (nI i))]) hC 0 n dX1_minutesUntilIn_44 hl rfl rfl (by decide) rfl (fun ls hl => ?_)
    refine lv_goto (tgt := 18) hx hb dX1_minutesUntilIn_47 (by decide) ?_
    have hl9 : lv_has ls 3 [(2, .int (nI (n + 1))), (0, .ref t), (1, .int (nI i))] := lv_sub hl [0, 1, 2] rfl
    have e9 : gxMin (gxIt S G N n) G N = (gxIt S G N (n + 1)) := rfl
    rw [e9] at hP hD
    exact K1 H locs ls hP hD hS hl9
  · skip
    have hle : gxUnN S G N i ≤ 60 := gxF_le _ 60
    refine lv_iload_n hx hb dX1_minutesUntilIn_18 rfl (lv_at hl 0 rfl) ?_
    refine lv_bipush (v := 60) hx hb dX1_minutesUntilIn_19 (by decide) ?_
    refine lv_icmp_ge (tgt := 50) hx hb dX1_minutesUntilIn_21 (by decide) (fun c21_3 : 60 ≤ (nI (gxUnN S G N i)) => ?_) (fun c21_3 : ¬ (60 ≤ (nI (gxUnN S G N i))) => ?_)
    · skip
      refine lv_iload_n hx hb dX1_minutesUntilIn_50 rfl (lv_at hl 0 rfl) ?_
      refine gt_meet (rest := []) 72 (gxUn S G N i) (fun K4 => ?_) ?_
      · skip
        refine lv_if_le (tgt := 71) hx hb dX1_minutesUntilIn_51 (by decide) (fun c51_5 : (nI (gxUnN S G N i)) ≤ 0 => ?_) (fun c51_5 : ¬ ((nI (gxUnN S G N i)) ≤ 0) => ?_)
        · skip
          refine lv_iconst (v := (-1)) hx hb dX1_minutesUntilIn_71 (by decide) ?_
          exact K4 _ (show (-1) = (if (nI (gxUnN S G N i)) ≤ 0 then (-1) else (if ((gxIt S G N (gxUnN S G N i)) 9 i) = 2 then (nI (gxUnN S G N i)) else (-1))) from by rw [if_pos c51_5])
        · skip
          refine lv_aload_n hx hb dX1_minutesUntilIn_54 rfl (lv_at hl 1 rfl) ?_
          refine gt_get hC 0 1 1 1 hinX1 hK hP dX1_minutesUntilIn_55 rfl rfl rfl (by decide) rfl rfl ?_
          refine gt_get hC 14 0 9 3 hinX0 hK hP dX1_minutesUntilIn_58 rfl rfl rfl (by decide) rfl rfl ?_
          refine lv_iload_n hx hb dX1_minutesUntilIn_61 rfl (lv_at hl 2 rfl) ?_
          refine gt_ald hC 19 0 i hK hP dX1_minutesUntilIn_62 rfl rfl rfl (by omega) (Nat.le_of_ble_eq_true rfl) ?_
          refine lv_iconst (v := 2) hx hb dX1_minutesUntilIn_63 (by decide) ?_
          refine lv_icmp_ne (tgt := 71) hx hb dX1_minutesUntilIn_64 (by decide) (fun c64_6 : ¬ (((gxIt S G N (gxUnN S G N i)) 9 i) = 2) => ?_) (fun c64_6 : ((gxIt S G N (gxUnN S G N i)) 9 i) = 2 => ?_)
          · skip
            refine lv_iconst (v := (-1)) hx hb dX1_minutesUntilIn_71 (by decide) ?_
            exact K4 _ (show (-1) = (if (nI (gxUnN S G N i)) ≤ 0 then (-1) else (if ((gxIt S G N (gxUnN S G N i)) 9 i) = 2 then (nI (gxUnN S G N i)) else (-1))) from by rw [if_neg c51_5, if_neg c64_6])
          · skip
            refine lv_iload_n hx hb dX1_minutesUntilIn_67 rfl (lv_at hl 0 rfl) ?_
            refine lv_goto (tgt := 72) hx hb dX1_minutesUntilIn_68 (by decide) ?_
            exact K4 _ (show (nI (gxUnN S G N i)) = (if (nI (gxUnN S G N i)) ≤ 0 then (-1) else (if ((gxIt S G N (gxUnN S G N i)) 9 i) = 2 then (nI (gxUnN S G N i)) else (-1))) from by rw [if_neg c51_5, if_pos c64_6])
      · skip
        exact gx_iret hC hr hlk hK (ws := (tw cI t o r S o1 r1 (gxIt S G N (gxUnN S G N i)))) hP hD hS hn2 (show some (Value.int (gxUn S G N i)) = _ from (by first | (rw [hci]) | (rw [hci]; rfl) | rfl)) (by first | (rw [hci]) | (rw [hci]; rfl) | rfl) dX1_minutesUntilIn_72 (Nat.le_of_ble_eq_true rfl) (Nat.le_of_ble_eq_true rfl)
    · skip
      have hlt : gxUnN S G N i < 60 := Nat.lt_of_not_le (fun q => c21_3 (nI_le (a := 60) q (by omega)))
      have hst : ¬ gxIt S G N (gxUnN S G N i) 9 i = 1 := of_decide_eq_true (gxF_yes (fun z => decide (gxIt S G N z 9 i ≠ 1)) 60 hlt)
      refine lv_aload_n hx hb dX1_minutesUntilIn_24 rfl (lv_at hl 1 rfl) ?_
      refine gt_get hC 0 1 1 1 hinX1 hK hP dX1_minutesUntilIn_25 rfl rfl rfl (by decide) rfl rfl ?_
      refine gt_get hC 14 0 9 3 hinX0 hK hP dX1_minutesUntilIn_28 rfl rfl rfl (by decide) rfl rfl ?_
      refine lv_iload_n hx hb dX1_minutesUntilIn_31 rfl (lv_at hl 2 rfl) ?_
      refine gt_ald hC 19 0 i hK hP dX1_minutesUntilIn_32 rfl rfl rfl (by omega) (Nat.le_of_ble_eq_true rfl) ?_
      refine lv_iconst (v := 1) hx hb dX1_minutesUntilIn_33 (by decide) ?_
      refine lv_icmp_ne (tgt := 50) hx hb dX1_minutesUntilIn_34 (by decide) (fun c34_7 : ¬ (((gxIt S G N (gxUnN S G N i)) 9 i) = 1) => ?_) (fun c34_7 : ((gxIt S G N (gxUnN S G N i)) 9 i) = 1 => absurd c34_7 hst)
      refine lv_iload_n hx hb dX1_minutesUntilIn_50 rfl (lv_at hl 0 rfl) ?_
      refine gt_meet (rest := []) 72 (gxUn S G N i) (fun K8 => ?_) ?_
      · skip
        refine lv_if_le (tgt := 71) hx hb dX1_minutesUntilIn_51 (by decide) (fun c51_9 : (nI (gxUnN S G N i)) ≤ 0 => ?_) (fun c51_9 : ¬ ((nI (gxUnN S G N i)) ≤ 0) => ?_)
        · skip
          refine lv_iconst (v := (-1)) hx hb dX1_minutesUntilIn_71 (by decide) ?_
          exact K8 _ (show (-1) = (if (nI (gxUnN S G N i)) ≤ 0 then (-1) else (if ((gxIt S G N (gxUnN S G N i)) 9 i) = 2 then (nI (gxUnN S G N i)) else (-1))) from by rw [if_pos c51_9])
        · skip
          refine lv_aload_n hx hb dX1_minutesUntilIn_54 rfl (lv_at hl 1 rfl) ?_
          refine gt_get hC 0 1 1 1 hinX1 hK hP dX1_minutesUntilIn_55 rfl rfl rfl (by decide) rfl rfl ?_
          refine gt_get hC 14 0 9 3 hinX0 hK hP dX1_minutesUntilIn_58 rfl rfl rfl (by decide) rfl rfl ?_
          refine lv_iload_n hx hb dX1_minutesUntilIn_61 rfl (lv_at hl 2 rfl) ?_
          refine gt_ald hC 19 0 i hK hP dX1_minutesUntilIn_62 rfl rfl rfl (by omega) (Nat.le_of_ble_eq_true rfl) ?_
          refine lv_iconst (v := 2) hx hb dX1_minutesUntilIn_63 (by decide) ?_
          refine lv_icmp_ne (tgt := 71) hx hb dX1_minutesUntilIn_64 (by decide) (fun c64_10 : ¬ (((gxIt S G N (gxUnN S G N i)) 9 i) = 2) => ?_) (fun c64_10 : ((gxIt S G N (gxUnN S G N i)) 9 i) = 2 => ?_)
          · skip
            refine lv_iconst (v := (-1)) hx hb dX1_minutesUntilIn_71 (by decide) ?_
            exact K8 _ (show (-1) = (if (nI (gxUnN S G N i)) ≤ 0 then (-1) else (if ((gxIt S G N (gxUnN S G N i)) 9 i) = 2 then (nI (gxUnN S G N i)) else (-1))) from by rw [if_neg c51_9, if_neg c64_10])
          · skip
            refine lv_iload_n hx hb dX1_minutesUntilIn_67 rfl (lv_at hl 0 rfl) ?_
            refine lv_goto (tgt := 72) hx hb dX1_minutesUntilIn_68 (by decide) ?_
            exact K8 _ (show (nI (gxUnN S G N i)) = (if (nI (gxUnN S G N i)) ≤ 0 then (-1) else (if ((gxIt S G N (gxUnN S G N i)) 9 i) = 2 then (nI (gxUnN S G N i)) else (-1))) from by rw [if_neg c51_9, if_pos c64_10])
      · skip
        exact gx_iret hC hr hlk hK (ws := (tw cI t o r S o1 r1 (gxIt S G N (gxUnN S G N i)))) hP hD hS hn2 (show some (Value.int (gxUn S G N i)) = _ from (by first | (rw [hci]) | (rw [hci]; rfl) | rfl)) (by first | (rw [hci]) | (rw [hci]; rfl) | rfl) dX1_minutesUntilIn_72 (Nat.le_of_ble_eq_true rfl) (Nat.le_of_ble_eq_true rfl)

theorem hd_X1_givingUpIn : yX1_givingUpIn.cls = RX1 ∧ yX1_givingUpIn.cls ≠ "java/lang/invoke/MethodHandle" ∧ yX1_givingUpIn.cls ≠ "java/lang/invoke/VarHandle" ∧ (parseMethodDescriptor yX1_givingUpIn.desc).map (fun d => d.parameters.length) = some 1 := by decide +kernel
set_option maxHeartbeats 400000 in
set_option maxRecDepth 100000 in
theorem ct_X1_givingUpIn (l : Launch) (hl0 : l.stackTraces = false) (D : va_G) (cI : ClassId) (t o : Nat) (r : Nat → Nat) (S : SS) (o1 : Nat) (r1 : Nat → Nat) (T : SS) (mm : Int32) (N : Nat) (hN : S 0 2 = nI N) (hN12 : N ≤ 12) (G : Nat) (hG : S 0 1 = nI G) (hG4 : G ≤ 4) : Cx l D [(cI, .int)] yX1_givingUpIn wsX1_givingUpIn 7 103 1 6 [.ref t, .int mm] (tw cI t o r S o1 r1 T) (xNum mm 60) (some (.int (gxGiv (gxIt S G N mm.toNatClampNeg) G - gxGiv S G))) (tw cI t o r S o1 r1 (gxIt S G N mm.toNatClampNeg)) := by
  refine Cx.ofW (cc := cX1_givingUpIn) (maxL := 3) (ret := (some .int)) (by decide) rfl (Nat.le_of_ble_eq_true rfl) ?_
  intro p e s m below meth c A ls hC hr hlk htab hTh hP hD hS hK hA hl
  have hx := hC.1
  have hb := hC.2.1
  have hinX0 : ∀ w ∈ wsX00, w ∈ wsX1_givingUpIn := fun _ _h => List.mem_cons_of_mem _ (List.mem_append_left _ (List.mem_append_right _ _h))
  have hinX1 : ∀ w ∈ wsX10, w ∈ wsX1_givingUpIn := fun _ _h => List.mem_cons_of_mem _ (List.mem_append_left _ (List.mem_append_left _ (List.mem_append_right _ _h)))
  have hl : lv_has ls 3 [(0, .ref t), (1, .int mm)] := hl
  refine lv_iload_n hx hb dX1_givingUpIn_0 rfl (lv_at hl 1 rfl) ?_
  refine lv_bipush (v := 60) hx hb dX1_givingUpIn_1 (by decide) ?_
  refine gx_callS hC 2 (ct_X1_checkNumber l hl0 D mm 60) gX1_givingUpIn_X1_checkNumber dX1_givingUpIn_3 hTh hlk htab hK hP hD hS hA hl.1 rfl hd_X1_checkNumber ⟨Nat.le_of_ble_eq_true rfl, Nat.le_of_ble_eq_true rfl⟩ ⟨Nat.le_of_ble_eq_true rfl, Nat.le_of_ble_eq_true rfl⟩ rfl rfl (Nat.le_of_ble_eq_true rfl) ⟨Nat.le_of_ble_eq_true rfl, Nat.le_of_ble_eq_true rfl⟩ (fun E hE => ⟨by first | exact hE | simp only [hE, Option.none_or, Option.some_or], rfl⟩) (fun hn3 H locs hP hD hS => ?_)
  obtain ⟨mn, hmn1, hmn, rfl⟩ := xNum_n (M := 60) (by decide) hn3
  have hcmn : (nI mn).toNatClampNeg = mn := nI_clamp (by omega)
  refine lv_aload_n hx hb dX1_givingUpIn_6 rfl (lv_at hl 0 rfl) ?_
  refine gt_get hC 0 1 1 1 hinX1 hK hP dX1_givingUpIn_7 rfl rfl rfl (by decide) rfl rfl ?_
  refine lv_aload_n hx hb dX1_givingUpIn_10 rfl (lv_at hl 0 rfl) ?_
  refine gt_get hC 0 1 0 2 hinX1 hK hP dX1_givingUpIn_11 rfl rfl rfl (by decide) rfl rfl ?_
  refine gt_callV (ws' := (tw cI t o r S o1 r1 S)) hC [(t, .inr (1, [.ref o, .ref o1]))] [] 13 0 1 (ct_X0_become l D cI o1 r1 T o r S) gX1_givingUpIn_X0_become dX1_givingUpIn_14 hK hP hD hS hA hl.1 rfl hd_X0_become ⟨Nat.le_of_ble_eq_true rfl, Nat.le_of_ble_eq_true rfl⟩ ⟨Nat.le_of_ble_eq_true rfl, Nat.le_of_ble_eq_true rfl⟩ rfl rfl rfl rfl rfl rfl (Nat.le_of_ble_eq_true rfl) (fun H locs hP hD hS => ?_)
  refine lv_iconst (v := 0) hx hb dX1_givingUpIn_17 (by decide) ?_
  refine lv_istore_n (lv' := [(2, .int 0), (0, .ref t), (1, .int (nI mn))]) hx hb dX1_givingUpIn_18 rfl hl (by decide) rfl (fun ls hl => ?_)
  refine gt_loop D A s.heap 3 mn (fun n => [(2, .int (nI n)), (0, .ref t), (1, .int (nI mn))]) (fun n => (tw cI t o r S o1 r1 (gxIt S G N n))) (lv_sub hl [0, 1, 2] rfl) hP hD hS (fun n hi_n H locs ls hP hD hS hl K1 => ?_) (fun H locs ls hP hD hS hl => ?_)
  · skip
    refine lv_iload_n hx hb dX1_givingUpIn_19 rfl (lv_at hl 0 rfl) ?_
    refine lv_iload_n hx hb dX1_givingUpIn_20 rfl (lv_at hl 2 rfl) ?_
    refine gt_ge_f (tgt := 37) hC n mn dX1_givingUpIn_21 (by decide) rfl rfl hi_n (by omega) ?_
    refine lv_aload_n hx hb dX1_givingUpIn_24 rfl (lv_at hl 1 rfl) ?_
    refine gt_get hC 0 1 1 1 hinX1 hK hP dX1_givingUpIn_25 rfl rfl rfl (by decide) rfl rfl ?_
    refine gt_callV (ws' := (tw cI t o r S o1 r1 (gxMin (gxIt S G N n) G N))) hC ([(t, .inr (1, [.ref o, .ref o1]))] ++ sw cI o r S) [] 0 0 0 (ct_X0_liveAMinute l D cI o1 r1 (gxIt S G N n) N ((gxIt_0 S G N (by decide) (by decide) n).trans hN) hN12 G ((gxIt_0 S G N (by decide) (by decide) n).trans hG) hG4) gX1_givingUpIn_X0_liveAMinute dX1_givingUpIn_28 hK hP hD hS hA hl.1 rfl hd_X0_liveAMinute ⟨Nat.le_of_ble_eq_true rfl, Nat.le_of_ble_eq_true rfl⟩ ⟨Nat.le_of_ble_eq_true rfl, Nat.le_of_ble_eq_true rfl⟩ rfl rfl rfl rfl rfl rfl (Nat.le_of_ble_eq_true rfl) (fun H locs hP hD hS => ?_)
    refine gt_inc (lv' := [(2, .int (nI (n + 1))), (0, .ref t), (1, .int (nI mn))]) hC 0 n dX1_givingUpIn_31 hl rfl rfl (by decide) rfl (fun ls hl => ?_)
    refine lv_goto (tgt := 19) hx hb dX1_givingUpIn_34 (by decide) ?_
    have hl9 : lv_has ls 3 [(2, .int (nI (n + 1))), (0, .ref t), (1, .int (nI mn))] := lv_sub hl [0, 1, 2] rfl
    have e9 : gxMin (gxIt S G N n) G N = (gxIt S G N (n + 1)) := rfl
    rw [e9] at hP hD
    exact K1 H locs ls hP hD hS hl9
  · skip
    refine lv_iload_n hx hb dX1_givingUpIn_19 rfl (lv_at hl 0 rfl) ?_
    refine lv_iload_n hx hb dX1_givingUpIn_20 rfl (lv_at hl 2 rfl) ?_
    refine gt_ge_t (tgt := 37) hC mn mn dX1_givingUpIn_21 (by decide) rfl rfl (Nat.le_refl _) (by omega) ?_
    refine lv_aload_n hx hb dX1_givingUpIn_37 rfl (lv_at hl 1 rfl) ?_
    refine gt_get hC 0 1 1 1 hinX1 hK hP dX1_givingUpIn_38 rfl rfl rfl (by decide) rfl rfl ?_
    refine gt_callV (ws' := (tw cI t o r S o1 r1 (gxIt S G N mn))) hC ([(t, .inr (1, [.ref o, .ref o1]))] ++ sw cI o r S) [] 0 0 0 (ct_X0_givenUpInAll l D cI o1 r1 (gxIt S G N mn) G ((gxIt_0 S G N (by decide) (by decide) mn).trans hG) hG4) gX1_givingUpIn_X0_givenUpInAll dX1_givingUpIn_41 hK hP hD hS hA hl.1 rfl hd_X0_givenUpInAll ⟨Nat.le_of_ble_eq_true rfl, Nat.le_of_ble_eq_true rfl⟩ ⟨Nat.le_of_ble_eq_true rfl, Nat.le_of_ble_eq_true rfl⟩ rfl rfl rfl rfl rfl rfl (Nat.le_of_ble_eq_true rfl) (fun H locs hP hD hS => ?_)
    refine lv_aload_n hx hb dX1_givingUpIn_44 rfl (lv_at hl 1 rfl) ?_
    refine gt_get hC 0 1 0 2 hinX1 hK hP dX1_givingUpIn_45 rfl rfl rfl (by decide) rfl rfl ?_
    refine gt_callV (ws' := (tw cI t o r S o1 r1 (gxIt S G N mn))) hC [(t, .inr (1, [.ref o, .ref o1]))] (sw cI o1 r1 (gxIt S G N mn)) 0 0 0 (ct_X0_givenUpInAll l D cI o r S G hG hG4) gX1_givingUpIn_X0_givenUpInAll dX1_givingUpIn_48 hK hP hD hS hA hl.1 rfl hd_X0_givenUpInAll ⟨Nat.le_of_ble_eq_true rfl, Nat.le_of_ble_eq_true rfl⟩ ⟨Nat.le_of_ble_eq_true rfl, Nat.le_of_ble_eq_true rfl⟩ rfl rfl rfl rfl rfl rfl (Nat.le_of_ble_eq_true rfl) (fun H locs hP hD hS => ?_)
    refine lv_isub hx hb dX1_givingUpIn_51 ?_
    exact gx_iret hC hr hlk hK (ws := (tw cI t o r S o1 r1 (gxIt S G N mn))) hP hD hS hn3 (show some (Value.int ((gxGiv (gxIt S G N mn) G) - (gxGiv S G))) = _ from (by first | (rw [hcmn]) | (rw [hcmn]; rfl) | rfl)) (by first | (rw [hcmn]) | (rw [hcmn]; rfl) | rfl) dX1_givingUpIn_52 (Nat.le_of_ble_eq_true rfl) (Nat.le_of_ble_eq_true rfl)

theorem hd_X1_givingUpWith : yX1_givingUpWith.cls = RX1 ∧ yX1_givingUpWith.cls ≠ "java/lang/invoke/MethodHandle" ∧ yX1_givingUpWith.cls ≠ "java/lang/invoke/VarHandle" ∧ (parseMethodDescriptor yX1_givingUpWith.desc).map (fun d => d.parameters.length) = some 3 := by decide +kernel
set_option maxHeartbeats 400000 in
set_option maxRecDepth 100000 in
theorem ct_X1_givingUpWith (l : Launch) (D : va_G) (cI : ClassId) (t o : Nat) (r : Nat → Nat) (S : SS) (o1 : Nat) (r1 : Nat → Nat) (T : SS) (j : Nat) (a : Int32) (q : Int32) (hj : j < 4) (N : Nat) (hN : S 0 2 = nI N) (hN12 : N ≤ 12) (G : Nat) (hG : S 0 1 = nI G) (hG4 : G ≤ 4) : Ct l D [(cI, .int)] yX1_givingUpWith wsX1_givingUpWith 4 96 0 0 [.ref t, .int (nI j), .int a, .int q] (tw cI t o r S o1 r1 T) (some (.int (gxGu S G N j a q))) (tw cI t o r S o1 r1 (gxGuT S G N j a q)) := by
  refine Ct.ofW (cc := cX1_givingUpWith) (maxL := 5) (ret := (some .int)) (by decide) rfl (Nat.le_of_ble_eq_true rfl) ?_
  intro p e s m below meth c A ls hC hr hlk _ hP hD hS hK hA hl
  have hx := hC.1
  have hb := hC.2.1
  have hinX0 : ∀ w ∈ wsX00, w ∈ wsX1_givingUpWith := fun _ _h => List.mem_cons_of_mem _ (List.mem_append_right _ _h)
  have hinX1 : ∀ w ∈ wsX10, w ∈ wsX1_givingUpWith := fun _ _h => List.mem_cons_of_mem _ (List.mem_append_left _ (List.mem_append_right _ _h))
  have hl : lv_has ls 5 [(0, .ref t), (1, .int (nI j)), (2, .int a), (3, .int q)] := hl
  refine lv_aload_n hx hb dX1_givingUpWith_0 rfl (lv_at hl 0 rfl) ?_
  refine gt_get hC 0 1 1 1 hinX1 hK hP dX1_givingUpWith_1 rfl rfl rfl (by decide) rfl rfl ?_
  refine lv_aload_n hx hb dX1_givingUpWith_4 rfl (lv_at hl 0 rfl) ?_
  refine gt_get hC 0 1 0 2 hinX1 hK hP dX1_givingUpWith_5 rfl rfl rfl (by decide) rfl rfl ?_
  refine gt_callV (ws' := (tw cI t o r S o1 r1 S)) hC [(t, .inr (1, [.ref o, .ref o1]))] [] 13 0 1 (ct_X0_become l D cI o1 r1 T o r S) gX1_givingUpWith_X0_become dX1_givingUpWith_8 hK hP hD hS hA hl.1 rfl hd_X0_become ⟨Nat.le_of_ble_eq_true rfl, Nat.le_of_ble_eq_true rfl⟩ ⟨Nat.le_of_ble_eq_true rfl, Nat.le_of_ble_eq_true rfl⟩ rfl rfl rfl rfl rfl rfl (Nat.le_of_ble_eq_true rfl) (fun H locs hP hD hS => ?_)
  refine lv_aload_n hx hb dX1_givingUpWith_11 rfl (lv_at hl 0 rfl) ?_
  refine gt_get hC 0 1 1 1 hinX1 hK hP dX1_givingUpWith_12 rfl rfl rfl (by decide) rfl rfl ?_
  refine gt_get hC 14 0 5 3 hinX0 hK hP dX1_givingUpWith_15 rfl rfl rfl (by decide) rfl rfl ?_
  refine lv_iload_n hx hb dX1_givingUpWith_18 rfl (lv_at hl 1 rfl) ?_
  refine lv_iload_n hx hb dX1_givingUpWith_19 rfl (lv_at hl 2 rfl) ?_
  refine gt_ast (ws' := (tw cI t o r S o1 r1 (up2 S 5 j a))) hC 15 0 j hK hP hD hS dX1_givingUpWith_20 rfl rfl rfl (by omega) (Nat.le_of_ble_eq_true rfl) rfl (fun H locs hP hD hS => ?_)
  refine lv_aload_n hx hb dX1_givingUpWith_21 rfl (lv_at hl 0 rfl) ?_
  refine gt_get hC 0 1 1 1 hinX1 hK hP dX1_givingUpWith_22 rfl rfl rfl (by decide) rfl rfl ?_
  refine gt_get hC 14 0 6 4 hinX0 hK hP dX1_givingUpWith_25 rfl rfl rfl (by decide) rfl rfl ?_
  refine lv_iload_n hx hb dX1_givingUpWith_28 rfl (lv_at hl 1 rfl) ?_
  refine lv_iload_n hx hb dX1_givingUpWith_29 rfl (lv_at hl 3 rfl) ?_
  refine gt_ast (ws' := (tw cI t o r S o1 r1 (up2 (up2 S 5 j a) 6 j q))) hC 16 0 j hK hP hD hS dX1_givingUpWith_30 rfl rfl rfl (by omega) (Nat.le_of_ble_eq_true rfl) rfl (fun H locs hP hD hS => ?_)
  refine lv_iconst (v := 0) hx hb dX1_givingUpWith_31 (by decide) ?_
  refine lv_istore (lv' := [(4, .int 0), (0, .ref t), (1, .int (nI j)), (2, .int a), (3, .int q)]) hx hb dX1_givingUpWith_32 hl (by decide) rfl (fun ls hl => ?_)
  refine gt_loop D A s.heap 5 (gxGuN S G N j a q) (fun n => [(4, .int (nI n)), (0, .ref t), (1, .int (nI j)), (2, .int a), (3, .int q)]) (fun n => (tw cI t o r S o1 r1 (gxIt (gxGuS S j a q) G N n))) (lv_sub hl [0, 1, 2, 3, 4] rfl) hP hD hS (fun n hi_n H locs ls hP hD hS hl K1 => ?_) (fun H locs ls hP hD hS hl => ?_)
  · skip
    have hle : n < 60 := Nat.lt_of_lt_of_le hi_n (gxF_le _ 60)
    have hst : ¬ gxWat (gxIt (gxGuS S j a q) G N n) (nI j) N ≤ 0 := of_decide_eq_false (gxF_no (fun z => decide (gxWat (gxIt (gxGuS S j a q) G N z) (nI j) N ≤ 0)) 60 n hi_n)
    refine lv_iload hx hb dX1_givingUpWith_34 (lv_at hl 0 rfl) ?_
    refine lv_bipush (v := 60) hx hb dX1_givingUpWith_36 (by decide) ?_
    refine gt_ge_f (tgt := 65) hC n 60 dX1_givingUpWith_38 (by decide) rfl (by decide) hle (by decide) ?_
    refine lv_aload_n hx hb dX1_givingUpWith_41 rfl (lv_at hl 1 rfl) ?_
    refine gt_get hC 0 1 1 1 hinX1 hK hP dX1_givingUpWith_42 rfl rfl rfl (by decide) rfl rfl ?_
    refine lv_iload_n hx hb dX1_givingUpWith_45 rfl (lv_at hl 2 rfl) ?_
    refine gt_callV (ws' := (tw cI t o r S o1 r1 (gxIt (gxGuS S j a q) G N n))) hC ([(t, .inr (1, [.ref o, .ref o1]))] ++ sw cI o r S) [] 0 0 1 (ct_X0_countWaitingAt l D cI o1 r1 (gxIt (gxGuS S j a q) G N n) (nI j) N ((gxIt_0 (gxGuS S j a q) G N (by decide) (by decide) n).trans hN) hN12) gX1_givingUpWith_X0_countWaitingAt dX1_givingUpWith_46 hK hP hD hS hA hl.1 rfl hd_X0_countWaitingAt ⟨Nat.le_of_ble_eq_true rfl, Nat.le_of_ble_eq_true rfl⟩ ⟨Nat.le_of_ble_eq_true rfl, Nat.le_of_ble_eq_true rfl⟩ rfl rfl rfl rfl rfl rfl (Nat.le_of_ble_eq_true rfl) (fun H locs hP hD hS => ?_)
    refine lv_if_le (tgt := 65) hx hb dX1_givingUpWith_49 (by decide) (fun c49_2 : (gxWat (gxIt (gxGuS S j a q) G N n) (nI j) N) ≤ 0 => absurd c49_2 hst) (fun c49_2 : ¬ ((gxWat (gxIt (gxGuS S j a q) G N n) (nI j) N) ≤ 0) => ?_)
    refine lv_aload_n hx hb dX1_givingUpWith_52 rfl (lv_at hl 1 rfl) ?_
    refine gt_get hC 0 1 1 1 hinX1 hK hP dX1_givingUpWith_53 rfl rfl rfl (by decide) rfl rfl ?_
    refine gt_callV (ws' := (tw cI t o r S o1 r1 (gxMin (gxIt (gxGuS S j a q) G N n) G N))) hC ([(t, .inr (1, [.ref o, .ref o1]))] ++ sw cI o r S) [] 0 0 0 (ct_X0_liveAMinute l D cI o1 r1 (gxIt (gxGuS S j a q) G N n) N ((gxIt_0 (gxGuS S j a q) G N (by decide) (by decide) n).trans hN) hN12 G ((gxIt_0 (gxGuS S j a q) G N (by decide) (by decide) n).trans hG) hG4) gX1_givingUpWith_X0_liveAMinute dX1_givingUpWith_56 hK hP hD hS hA hl.1 rfl hd_X0_liveAMinute ⟨Nat.le_of_ble_eq_true rfl, Nat.le_of_ble_eq_true rfl⟩ ⟨Nat.le_of_ble_eq_true rfl, Nat.le_of_ble_eq_true rfl⟩ rfl rfl rfl rfl rfl rfl (Nat.le_of_ble_eq_true rfl) (fun H locs hP hD hS => ?_)
    refine gt_inc (lv' := [(4, .int (nI (n + 1))), (0, .ref t), (1, .int (nI j)), (2, .int a), (3, .int q)]) hC 0 n dX1_givingUpWith_59 hl rfl rfl (by decide) rfl (fun ls hl => ?_)
    refine lv_goto (tgt := 34) hx hb dX1_givingUpWith_62 (by decide) ?_
    have hl9 : lv_has ls 5 [(4, .int (nI (n + 1))), (0, .ref t), (1, .int (nI j)), (2, .int a), (3, .int q)] := lv_sub hl [0, 1, 2, 3, 4] rfl
    have e9 : gxMin (gxIt (gxGuS S j a q) G N n) G N = (gxIt (gxGuS S j a q) G N (n + 1)) := rfl
    rw [e9] at hP hD
    exact K1 H locs ls hP hD hS hl9
  · skip
    have hle : gxGuN S G N j a q ≤ 60 := gxF_le _ 60
    refine lv_iload hx hb dX1_givingUpWith_34 (lv_at hl 0 rfl) ?_
    refine lv_bipush (v := 60) hx hb dX1_givingUpWith_36 (by decide) ?_
    refine lv_icmp_ge (tgt := 65) hx hb dX1_givingUpWith_38 (by decide) (fun c38_3 : 60 ≤ (nI (gxGuN S G N j a q)) => ?_) (fun c38_3 : ¬ (60 ≤ (nI (gxGuN S G N j a q))) => ?_)
    · skip
      refine lv_aload_n hx hb dX1_givingUpWith_65 rfl (lv_at hl 1 rfl) ?_
      refine gt_get hC 0 1 1 1 hinX1 hK hP dX1_givingUpWith_66 rfl rfl rfl (by decide) rfl rfl ?_
      refine gt_get hC 14 0 7 5 hinX0 hK hP dX1_givingUpWith_69 rfl rfl rfl (by decide) rfl rfl ?_
      refine lv_iload_n hx hb dX1_givingUpWith_72 rfl (lv_at hl 2 rfl) ?_
      refine gt_ald hC 17 0 j hK hP dX1_givingUpWith_73 rfl rfl rfl (by omega) (Nat.le_of_ble_eq_true rfl) ?_
      refine lv_aload_n hx hb dX1_givingUpWith_74 rfl (lv_at hl 1 rfl) ?_
      refine gt_get hC 0 1 0 2 hinX1 hK hP dX1_givingUpWith_75 rfl rfl rfl (by decide) rfl rfl ?_
      refine gt_get hC 1 0 7 5 hinX0 hK hP dX1_givingUpWith_78 rfl rfl rfl (by decide) rfl rfl ?_
      refine lv_iload_n hx hb dX1_givingUpWith_81 rfl (lv_at hl 2 rfl) ?_
      refine gt_ald hC 4 0 j hK hP dX1_givingUpWith_82 rfl rfl rfl (by omega) (Nat.le_of_ble_eq_true rfl) ?_
      refine lv_isub hx hb dX1_givingUpWith_83 ?_
      exact gt_iret hC hr hlk hK (ws := (tw cI t o r S o1 r1 (gxIt (gxGuS S j a q) G N (gxGuN S G N j a q)))) hP hD hS (show some (Value.int (((gxIt (gxGuS S j a q) G N (gxGuN S G N j a q)) 7 j) - (S 7 j))) = _ from rfl) rfl dX1_givingUpWith_84 (Nat.le_of_ble_eq_true rfl) (Nat.le_of_ble_eq_true rfl)
    · skip
      have hlt : gxGuN S G N j a q < 60 := Nat.lt_of_not_le (fun z => c38_3 (nI_le (a := 60) z (by omega)))
      have hst : gxWat (gxIt (gxGuS S j a q) G N (gxGuN S G N j a q)) (nI j) N ≤ 0 := of_decide_eq_true (gxF_yes (fun z => decide (gxWat (gxIt (gxGuS S j a q) G N z) (nI j) N ≤ 0)) 60 hlt)
      refine lv_aload_n hx hb dX1_givingUpWith_41 rfl (lv_at hl 1 rfl) ?_
      refine gt_get hC 0 1 1 1 hinX1 hK hP dX1_givingUpWith_42 rfl rfl rfl (by decide) rfl rfl ?_
      refine lv_iload_n hx hb dX1_givingUpWith_45 rfl (lv_at hl 2 rfl) ?_
      refine gt_callV (ws' := (tw cI t o r S o1 r1 (gxIt (gxGuS S j a q) G N (gxGuN S G N j a q)))) hC ([(t, .inr (1, [.ref o, .ref o1]))] ++ sw cI o r S) [] 0 0 1 (ct_X0_countWaitingAt l D cI o1 r1 (gxIt (gxGuS S j a q) G N (gxGuN S G N j a q)) (nI j) N ((gxIt_0 (gxGuS S j a q) G N (by decide) (by decide) (gxGuN S G N j a q)).trans hN) hN12) gX1_givingUpWith_X0_countWaitingAt dX1_givingUpWith_46 hK hP hD hS hA hl.1 rfl hd_X0_countWaitingAt ⟨Nat.le_of_ble_eq_true rfl, Nat.le_of_ble_eq_true rfl⟩ ⟨Nat.le_of_ble_eq_true rfl, Nat.le_of_ble_eq_true rfl⟩ rfl rfl rfl rfl rfl rfl (Nat.le_of_ble_eq_true rfl) (fun H locs hP hD hS => ?_)
      refine lv_if_le (tgt := 65) hx hb dX1_givingUpWith_49 (by decide) (fun c49_4 : (gxWat (gxIt (gxGuS S j a q) G N (gxGuN S G N j a q)) (nI j) N) ≤ 0 => ?_) (fun c49_4 : ¬ ((gxWat (gxIt (gxGuS S j a q) G N (gxGuN S G N j a q)) (nI j) N) ≤ 0) => absurd c49_4 (not_not_intro hst))
      refine lv_aload_n hx hb dX1_givingUpWith_65 rfl (lv_at hl 1 rfl) ?_
      refine gt_get hC 0 1 1 1 hinX1 hK hP dX1_givingUpWith_66 rfl rfl rfl (by decide) rfl rfl ?_
      refine gt_get hC 14 0 7 5 hinX0 hK hP dX1_givingUpWith_69 rfl rfl rfl (by decide) rfl rfl ?_
      refine lv_iload_n hx hb dX1_givingUpWith_72 rfl (lv_at hl 2 rfl) ?_
      refine gt_ald hC 17 0 j hK hP dX1_givingUpWith_73 rfl rfl rfl (by omega) (Nat.le_of_ble_eq_true rfl) ?_
      refine lv_aload_n hx hb dX1_givingUpWith_74 rfl (lv_at hl 1 rfl) ?_
      refine gt_get hC 0 1 0 2 hinX1 hK hP dX1_givingUpWith_75 rfl rfl rfl (by decide) rfl rfl ?_
      refine gt_get hC 1 0 7 5 hinX0 hK hP dX1_givingUpWith_78 rfl rfl rfl (by decide) rfl rfl ?_
      refine lv_iload_n hx hb dX1_givingUpWith_81 rfl (lv_at hl 2 rfl) ?_
      refine gt_ald hC 4 0 j hK hP dX1_givingUpWith_82 rfl rfl rfl (by omega) (Nat.le_of_ble_eq_true rfl) ?_
      refine lv_isub hx hb dX1_givingUpWith_83 ?_
      exact gt_iret hC hr hlk hK (ws := (tw cI t o r S o1 r1 (gxIt (gxGuS S j a q) G N (gxGuN S G N j a q)))) hP hD hS (show some (Value.int (((gxIt (gxGuS S j a q) G N (gxGuN S G N j a q)) 7 j) - (S 7 j))) = _ from rfl) rfl dX1_givingUpWith_84 (Nat.le_of_ble_eq_true rfl) (Nat.le_of_ble_eq_true rfl)

theorem hd_X1_permitsWanted : yX1_permitsWanted.cls = RX1 ∧ yX1_permitsWanted.cls ≠ "java/lang/invoke/MethodHandle" ∧ yX1_permitsWanted.cls ≠ "java/lang/invoke/VarHandle" ∧ (parseMethodDescriptor yX1_permitsWanted.desc).map (fun d => d.parameters.length) = some 1 := by decide +kernel
set_option maxHeartbeats 400000 in
set_option maxRecDepth 100000 in
theorem ct_X1_permitsWanted (l : Launch) (hl0 : l.stackTraces = false) (D : va_G) (cI : ClassId) (t o : Nat) (r : Nat → Nat) (S : SS) (o1 : Nat) (r1 : Nat → Nat) (T : SS) (g : Int32) (N : Nat) (hN : S 0 2 = nI N) (hN12 : N ≤ 12) (G : Nat) (hG : S 0 1 = nI G) (hG4 : G ≤ 4) : Cx l D [(cI, .int)] yX1_permitsWanted wsX1_permitsWanted 7 120 1 6 [.ref t, .int g] (tw cI t o r S o1 r1 T) (xGate S g) (some (.int (gxPw S G N g.toNatClampNeg))) (tw cI t o r S o1 r1 (gxPwF S T G N g.toNatClampNeg)) := by
  refine Cx.ofW (cc := cX1_permitsWanted) (maxL := 3) (ret := (some .int)) (by decide) rfl (Nat.le_of_ble_eq_true rfl) ?_
  intro p e s m below meth c A ls hC hr hlk htab hTh hP hD hS hK hA hl
  have hx := hC.1
  have hb := hC.2.1
  have hinX0 : ∀ w ∈ wsX00, w ∈ wsX1_permitsWanted := fun _ _h => List.mem_cons_of_mem _ (List.mem_append_left _ (List.mem_append_right _ _h))
  have hinX1 : ∀ w ∈ wsX10, w ∈ wsX1_permitsWanted := fun _ _h => List.mem_cons_of_mem _ (List.mem_append_left _ (List.mem_append_left _ (List.mem_append_right _ _h)))
  have hl : lv_has ls 3 [(0, .ref t), (1, .int g)] := hl
  refine lv_aload_n hx hb dX1_permitsWanted_0 rfl (lv_at hl 0 rfl) ?_
  refine lv_iload_n hx hb dX1_permitsWanted_1 rfl (lv_at hl 1 rfl) ?_
  refine gx_callV hC 0 1 1 (ct_X1_checkGate l hl0 D cI t o r S o1 r1 T g) gX1_permitsWanted_X1_checkGate dX1_permitsWanted_2 hTh hlk htab hK hP hD hS hA hl.1 rfl hd_X1_checkGate ⟨Nat.le_of_ble_eq_true rfl, Nat.le_of_ble_eq_true rfl⟩ ⟨Nat.le_of_ble_eq_true rfl, Nat.le_of_ble_eq_true rfl⟩ rfl rfl rfl rfl (Nat.le_of_ble_eq_true rfl) ⟨Nat.le_of_ble_eq_true rfl, Nat.le_of_ble_eq_true rfl⟩ (fun E hE => ⟨by first | exact hE | simp only [hE, Option.none_or, Option.some_or], rfl⟩) (fun hn2 H locs hP hD hS => ?_)
  obtain ⟨j, hj, rfl⟩ := xGate_n hG hG4 hn2
  have hcj : (nI j).toNatClampNeg = j := nI_clamp (by omega)
  refine lv_iconst (v := 0) hx hb dX1_permitsWanted_5 (by decide) ?_
  refine lv_istore_n (lv' := [(2, .int 0), (0, .ref t), (1, .int (nI j))]) hx hb dX1_permitsWanted_6 rfl hl (by decide) rfl (fun ls hl => ?_)
  refine gt_loop D A s.heap 3 (gxPwN S G N j) (fun n => [(2, .int (nI n)), (0, .ref t), (1, .int (nI j))]) (fun n => (tw cI t o r S o1 r1 (gxPwT S T G N j n))) (lv_sub hl [0, 1, 2] rfl) hP hD hS (fun n hi_n H locs ls hP hD hS hl K1 => ?_) (fun H locs ls hP hD hS hl => ?_)
  · skip
    have hle : n < 10 := Nat.lt_of_lt_of_le hi_n (gxF_le _ 10)
    have hst : ¬ gxGu S G N j (S 5 j + nI n) (S 6 j) = 0 := of_decide_eq_false (gxF_no (fun z => decide (gxGu S G N j (S 5 j + nI z) (S 6 j) = 0)) 10 n hi_n)
    refine lv_iload_n hx hb dX1_permitsWanted_7 rfl (lv_at hl 0 rfl) ?_
    refine lv_bipush (v := 9) hx hb dX1_permitsWanted_8 (by decide) ?_
    refine gt_gt_f (tgt := 49) hC n 9 dX1_permitsWanted_10 (by decide) rfl (by decide) (by omega) (by decide) ?_
    refine lv_aload_n hx hb dX1_permitsWanted_13 rfl (lv_at hl 1 rfl) ?_
    refine lv_iload_n hx hb dX1_permitsWanted_14 rfl (lv_at hl 2 rfl) ?_
    refine lv_aload_n hx hb dX1_permitsWanted_15 rfl (lv_at hl 1 rfl) ?_
    refine gt_get hC 0 1 0 1 hinX1 hK hP dX1_permitsWanted_16 rfl rfl rfl (by decide) rfl rfl ?_
    refine gt_get hC 1 0 5 2 hinX0 hK hP dX1_permitsWanted_19 rfl rfl rfl (by decide) rfl rfl ?_
    refine lv_iload_n hx hb dX1_permitsWanted_22 rfl (lv_at hl 2 rfl) ?_
    refine gt_ald hC 2 0 j hK hP dX1_permitsWanted_23 rfl rfl rfl (by omega) (Nat.le_of_ble_eq_true rfl) ?_
    refine lv_iload_n hx hb dX1_permitsWanted_24 rfl (lv_at hl 0 rfl) ?_
    refine lv_iadd hx hb dX1_permitsWanted_25 ?_
    refine lv_aload_n hx hb dX1_permitsWanted_26 rfl (lv_at hl 1 rfl) ?_
    refine gt_get hC 0 1 0 1 hinX1 hK hP dX1_permitsWanted_27 rfl rfl rfl (by decide) rfl rfl ?_
    refine gt_get hC 1 0 6 3 hinX0 hK hP dX1_permitsWanted_30 rfl rfl rfl (by decide) rfl rfl ?_
    refine lv_iload_n hx hb dX1_permitsWanted_33 rfl (lv_at hl 2 rfl) ?_
    refine gt_ald hC 3 0 j hK hP dX1_permitsWanted_34 rfl rfl rfl (by omega) (Nat.le_of_ble_eq_true rfl) ?_
    refine gt_call0 hC 0 1 3 (ct_X1_givingUpWith l D cI t o r S o1 r1 (gxPwT S T G N j n) j ((S 5 j) + (nI n)) (S 6 j) (by omega) N hN hN12 G hG hG4) gX1_permitsWanted_X1_givingUpWith dX1_permitsWanted_35 hK hP hD hS hA hl.1 rfl hd_X1_givingUpWith ⟨Nat.le_of_ble_eq_true rfl, Nat.le_of_ble_eq_true rfl⟩ ⟨Nat.le_of_ble_eq_true rfl, Nat.le_of_ble_eq_true rfl⟩ rfl rfl rfl rfl (Nat.le_of_ble_eq_true rfl) (fun H locs hP hD hS => ?_)
    refine lv_if_ne (tgt := 43) hx hb dX1_permitsWanted_38 (by decide) (fun c38_2 : ¬ ((gxGu S G N j ((S 5 j) + (nI n)) (S 6 j)) = 0) => ?_) (fun c38_2 : (gxGu S G N j ((S 5 j) + (nI n)) (S 6 j)) = 0 => absurd c38_2 hst)
    refine gt_inc (lv' := [(2, .int (nI (n + 1))), (0, .ref t), (1, .int (nI j))]) hC 0 n dX1_permitsWanted_43 hl rfl rfl (by decide) rfl (fun ls hl => ?_)
    refine lv_goto (tgt := 7) hx hb dX1_permitsWanted_46 (by decide) ?_
    have hl9 : lv_has ls 3 [(2, .int (nI (n + 1))), (0, .ref t), (1, .int (nI j))] := lv_sub hl [0, 1, 2] rfl
    have e9 : gxGuT S G N j ((S 5 j) + (nI n)) (S 6 j) = (gxPwT S T G N j (n + 1)) := rfl
    rw [e9] at hP hD
    exact K1 H locs ls hP hD hS hl9
  · skip
    have hle : gxPwN S G N j ≤ 10 := gxF_le _ 10
    refine lv_iload_n hx hb dX1_permitsWanted_7 rfl (lv_at hl 0 rfl) ?_
    refine lv_bipush (v := 9) hx hb dX1_permitsWanted_8 (by decide) ?_
    refine lv_icmp_gt (tgt := 49) hx hb dX1_permitsWanted_10 (by decide) (fun c10_3 : 9 < (nI (gxPwN S G N j)) => ?_) (fun c10_3 : ¬ (9 < (nI (gxPwN S G N j))) => ?_)
    · skip
      have hnl : ¬ gxPwN S G N j < 10 := fun z => nI_nlt (a := 9) (b := gxPwN S G N j) (by omega) (by decide) c10_3
      refine lv_iconst (v := (-1)) hx hb dX1_permitsWanted_49 (by decide) ?_
      exact gx_iret hC hr hlk hK (ws := (tw cI t o r S o1 r1 (gxPwT S T G N j (gxPwN S G N j)))) hP hD hS hn2 (show some (Value.int (-1)) = _ from (by rw [hcj]; unfold gxPw; rw [if_neg hnl])) (by rw [hcj]; unfold gxPwF; rw [if_neg hnl]) dX1_permitsWanted_50 (Nat.le_of_ble_eq_true rfl) (Nat.le_of_ble_eq_true rfl)
    · skip
      have hlt : gxPwN S G N j < 10 := Nat.lt_of_not_le (fun z => c10_3 (nI_lt (a := 9) (by omega) (by omega)))
      have hst : gxGu S G N j (S 5 j + nI (gxPwN S G N j)) (S 6 j) = 0 := of_decide_eq_true (gxF_yes (fun z => decide (gxGu S G N j (S 5 j + nI z) (S 6 j) = 0)) 10 hlt)
      refine lv_aload_n hx hb dX1_permitsWanted_13 rfl (lv_at hl 1 rfl) ?_
      refine lv_iload_n hx hb dX1_permitsWanted_14 rfl (lv_at hl 2 rfl) ?_
      refine lv_aload_n hx hb dX1_permitsWanted_15 rfl (lv_at hl 1 rfl) ?_
      refine gt_get hC 0 1 0 1 hinX1 hK hP dX1_permitsWanted_16 rfl rfl rfl (by decide) rfl rfl ?_
      refine gt_get hC 1 0 5 2 hinX0 hK hP dX1_permitsWanted_19 rfl rfl rfl (by decide) rfl rfl ?_
      refine lv_iload_n hx hb dX1_permitsWanted_22 rfl (lv_at hl 2 rfl) ?_
      refine gt_ald hC 2 0 j hK hP dX1_permitsWanted_23 rfl rfl rfl (by omega) (Nat.le_of_ble_eq_true rfl) ?_
      refine lv_iload_n hx hb dX1_permitsWanted_24 rfl (lv_at hl 0 rfl) ?_
      refine lv_iadd hx hb dX1_permitsWanted_25 ?_
      refine lv_aload_n hx hb dX1_permitsWanted_26 rfl (lv_at hl 1 rfl) ?_
      refine gt_get hC 0 1 0 1 hinX1 hK hP dX1_permitsWanted_27 rfl rfl rfl (by decide) rfl rfl ?_
      refine gt_get hC 1 0 6 3 hinX0 hK hP dX1_permitsWanted_30 rfl rfl rfl (by decide) rfl rfl ?_
      refine lv_iload_n hx hb dX1_permitsWanted_33 rfl (lv_at hl 2 rfl) ?_
      refine gt_ald hC 3 0 j hK hP dX1_permitsWanted_34 rfl rfl rfl (by omega) (Nat.le_of_ble_eq_true rfl) ?_
      refine gt_call0 hC 0 1 3 (ct_X1_givingUpWith l D cI t o r S o1 r1 (gxPwT S T G N j (gxPwN S G N j)) j ((S 5 j) + (nI (gxPwN S G N j))) (S 6 j) (by omega) N hN hN12 G hG hG4) gX1_permitsWanted_X1_givingUpWith dX1_permitsWanted_35 hK hP hD hS hA hl.1 rfl hd_X1_givingUpWith ⟨Nat.le_of_ble_eq_true rfl, Nat.le_of_ble_eq_true rfl⟩ ⟨Nat.le_of_ble_eq_true rfl, Nat.le_of_ble_eq_true rfl⟩ rfl rfl rfl rfl (Nat.le_of_ble_eq_true rfl) (fun H locs hP hD hS => ?_)
      refine lv_if_ne (tgt := 43) hx hb dX1_permitsWanted_38 (by decide) (fun c38_4 : ¬ ((gxGu S G N j ((S 5 j) + (nI (gxPwN S G N j))) (S 6 j)) = 0) => absurd c38_4 (not_not_intro hst)) (fun c38_4 : (gxGu S G N j ((S 5 j) + (nI (gxPwN S G N j))) (S 6 j)) = 0 => ?_)
      refine lv_iload_n hx hb dX1_permitsWanted_41 rfl (lv_at hl 0 rfl) ?_
      exact gx_iret hC hr hlk hK (ws := (tw cI t o r S o1 r1 (gxGuT S G N j ((S 5 j) + (nI (gxPwN S G N j))) (S 6 j)))) hP hD hS hn2 (show some (Value.int (nI (gxPwN S G N j))) = _ from (by rw [hcj]; unfold gxPw; rw [if_pos hlt])) (by rw [hcj]; unfold gxPwF; rw [if_pos hlt]; rfl) dX1_permitsWanted_42 (Nat.le_of_ble_eq_true rfl) (Nat.le_of_ble_eq_true rfl)

theorem hd_X1_bestOrder : yX1_bestOrder.cls = RX1 ∧ yX1_bestOrder.cls ≠ "java/lang/invoke/MethodHandle" ∧ yX1_bestOrder.cls ≠ "java/lang/invoke/VarHandle" ∧ (parseMethodDescriptor yX1_bestOrder.desc).map (fun d => d.parameters.length) = some 1 := by decide +kernel
set_option maxHeartbeats 400000 in
set_option maxRecDepth 100000 in
theorem ct_X1_bestOrder (l : Launch) (hl0 : l.stackTraces = false) (D : va_G) (cI : ClassId) (t o : Nat) (r : Nat → Nat) (S : SS) (o1 : Nat) (r1 : Nat → Nat) (T : SS) (g : Int32) (N : Nat) (hN : S 0 2 = nI N) (hN12 : N ≤ 12) (G : Nat) (hG : S 0 1 = nI G) (hG4 : G ≤ 4) : Cx l D [(cI, .int)] yX1_bestOrder wsX1_bestOrder 7 120 1 6 [.ref t, .int g] (tw cI t o r S o1 r1 T) (xGate S g) (some (.int (gxBo S G N g.toNatClampNeg))) (tw cI t o r S o1 r1 (gxGuT S G N g.toNatClampNeg (S 5 g.toNatClampNeg) 1)) := by
  refine Cx.ofW (cc := cX1_bestOrder) (maxL := 4) (ret := (some .int)) (by decide) rfl (Nat.le_of_ble_eq_true rfl) ?_
  intro p e s m below meth c A ls hC hr hlk htab hTh hP hD hS hK hA hl
  have hx := hC.1
  have hb := hC.2.1
  have hinX0 : ∀ w ∈ wsX00, w ∈ wsX1_bestOrder := fun _ _h => List.mem_cons_of_mem _ (List.mem_append_left _ (List.mem_append_right _ _h))
  have hinX1 : ∀ w ∈ wsX10, w ∈ wsX1_bestOrder := fun _ _h => List.mem_cons_of_mem _ (List.mem_append_left _ (List.mem_append_left _ (List.mem_append_right _ _h)))
  have hl : lv_has ls 4 [(0, .ref t), (1, .int g)] := hl
  refine lv_aload_n hx hb dX1_bestOrder_0 rfl (lv_at hl 0 rfl) ?_
  refine lv_iload_n hx hb dX1_bestOrder_1 rfl (lv_at hl 1 rfl) ?_
  refine gx_callV hC 0 1 1 (ct_X1_checkGate l hl0 D cI t o r S o1 r1 T g) gX1_bestOrder_X1_checkGate dX1_bestOrder_2 hTh hlk htab hK hP hD hS hA hl.1 rfl hd_X1_checkGate ⟨Nat.le_of_ble_eq_true rfl, Nat.le_of_ble_eq_true rfl⟩ ⟨Nat.le_of_ble_eq_true rfl, Nat.le_of_ble_eq_true rfl⟩ rfl rfl rfl rfl (Nat.le_of_ble_eq_true rfl) ⟨Nat.le_of_ble_eq_true rfl, Nat.le_of_ble_eq_true rfl⟩ (fun E hE => ⟨by first | exact hE | simp only [hE, Option.none_or, Option.some_or], rfl⟩) (fun hn2 H locs hP hD hS => ?_)
  obtain ⟨j, hj, rfl⟩ := xGate_n hG hG4 hn2
  have hcj : (nI j).toNatClampNeg = j := nI_clamp (by omega)
  refine lv_aload_n hx hb dX1_bestOrder_5 rfl (lv_at hl 0 rfl) ?_
  refine lv_iload_n hx hb dX1_bestOrder_6 rfl (lv_at hl 1 rfl) ?_
  refine lv_aload_n hx hb dX1_bestOrder_7 rfl (lv_at hl 0 rfl) ?_
  refine gt_get hC 0 1 0 1 hinX1 hK hP dX1_bestOrder_8 rfl rfl rfl (by decide) rfl rfl ?_
  refine gt_get hC 1 0 5 2 hinX0 hK hP dX1_bestOrder_11 rfl rfl rfl (by decide) rfl rfl ?_
  refine lv_iload_n hx hb dX1_bestOrder_14 rfl (lv_at hl 1 rfl) ?_
  refine gt_ald hC 2 0 j hK hP dX1_bestOrder_15 rfl rfl rfl (by omega) (Nat.le_of_ble_eq_true rfl) ?_
  refine lv_iconst (v := 0) hx hb dX1_bestOrder_16 (by decide) ?_
  refine gt_call0 hC 0 1 3 (ct_X1_givingUpWith l D cI t o r S o1 r1 T j (S 5 j) 0 (by omega) N hN hN12 G hG hG4) gX1_bestOrder_X1_givingUpWith dX1_bestOrder_17 hK hP hD hS hA hl.1 rfl hd_X1_givingUpWith ⟨Nat.le_of_ble_eq_true rfl, Nat.le_of_ble_eq_true rfl⟩ ⟨Nat.le_of_ble_eq_true rfl, Nat.le_of_ble_eq_true rfl⟩ rfl rfl rfl rfl (Nat.le_of_ble_eq_true rfl) (fun H locs hP hD hS => ?_)
  refine lv_istore_n (lv' := [(2, .int (gxGu S G N j (S 5 j) 0)), (0, .ref t), (1, .int (nI j))]) hx hb dX1_bestOrder_20 rfl hl (by decide) rfl (fun ls hl => ?_)
  refine lv_aload_n hx hb dX1_bestOrder_21 rfl (lv_at hl 1 rfl) ?_
  refine lv_iload_n hx hb dX1_bestOrder_22 rfl (lv_at hl 2 rfl) ?_
  refine lv_aload_n hx hb dX1_bestOrder_23 rfl (lv_at hl 1 rfl) ?_
  refine gt_get hC 0 1 0 1 hinX1 hK hP dX1_bestOrder_24 rfl rfl rfl (by decide) rfl rfl ?_
  refine gt_get hC 1 0 5 2 hinX0 hK hP dX1_bestOrder_27 rfl rfl rfl (by decide) rfl rfl ?_
  refine lv_iload_n hx hb dX1_bestOrder_30 rfl (lv_at hl 2 rfl) ?_
  refine gt_ald hC 2 0 j hK hP dX1_bestOrder_31 rfl rfl rfl (by omega) (Nat.le_of_ble_eq_true rfl) ?_
  refine lv_iconst (v := 1) hx hb dX1_bestOrder_32 (by decide) ?_
  refine gt_call0 hC 0 1 3 (ct_X1_givingUpWith l D cI t o r S o1 r1 (gxGuT S G N j (S 5 j) 0) j (S 5 j) 1 (by omega) N hN hN12 G hG hG4) gX1_bestOrder_X1_givingUpWith dX1_bestOrder_33 hK hP hD hS hA hl.1 rfl hd_X1_givingUpWith ⟨Nat.le_of_ble_eq_true rfl, Nat.le_of_ble_eq_true rfl⟩ ⟨Nat.le_of_ble_eq_true rfl, Nat.le_of_ble_eq_true rfl⟩ rfl rfl rfl rfl (Nat.le_of_ble_eq_true rfl) (fun H locs hP hD hS => ?_)
  refine lv_istore_n (lv' := [(3, .int (gxGu S G N j (S 5 j) 1)), (2, .int (gxGu S G N j (S 5 j) 0)), (0, .ref t), (1, .int (nI j))]) hx hb dX1_bestOrder_36 rfl hl (by decide) rfl (fun ls hl => ?_)
  refine lv_iload_n hx hb dX1_bestOrder_37 rfl (lv_at hl 0 rfl) ?_
  refine lv_iload_n hx hb dX1_bestOrder_38 rfl (lv_at hl 1 rfl) ?_
  refine gt_meet (rest := []) 47 (gxBo S G N j) (fun K1 => ?_) ?_
  · skip
    refine lv_icmp_ge (tgt := 46) hx hb dX1_bestOrder_39 (by decide) (fun c39_2 : (gxGu S G N j (S 5 j) 0) ≤ (gxGu S G N j (S 5 j) 1) => ?_) (fun c39_2 : ¬ ((gxGu S G N j (S 5 j) 0) ≤ (gxGu S G N j (S 5 j) 1)) => ?_)
    · skip
      refine lv_iconst (v := 0) hx hb dX1_bestOrder_46 (by decide) ?_
      exact K1 _ (show 0 = (if (gxGu S G N j (S 5 j) 0) ≤ (gxGu S G N j (S 5 j) 1) then 0 else 1) from by rw [if_pos c39_2])
    · skip
      refine lv_iconst (v := 1) hx hb dX1_bestOrder_42 (by decide) ?_
      refine lv_goto (tgt := 47) hx hb dX1_bestOrder_43 (by decide) ?_
      exact K1 _ (show 1 = (if (gxGu S G N j (S 5 j) 0) ≤ (gxGu S G N j (S 5 j) 1) then 0 else 1) from by rw [if_neg c39_2])
  · skip
    exact gx_iret hC hr hlk hK (ws := (tw cI t o r S o1 r1 (gxGuT S G N j (S 5 j) 1))) hP hD hS hn2 (show some (Value.int (gxBo S G N j)) = _ from (by first | (rw [hcj]) | (rw [hcj]; rfl) | rfl)) (by first | (rw [hcj]) | (rw [hcj]; rfl) | rfl) dX1_bestOrder_47 (Nat.le_of_ble_eq_true rfl) (Nat.le_of_ble_eq_true rfl)
