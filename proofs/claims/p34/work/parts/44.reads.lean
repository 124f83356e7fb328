/-! The Sim reads (laid by wip/p34/gen/sim2.py): free, seem, many, next, place. -/
theorem hd_X2_free : yX2_free.cls = RX2 ∧ yX2_free.cls ≠ "java/lang/invoke/MethodHandle" ∧ yX2_free.cls ≠ "java/lang/invoke/VarHandle" ∧ (parseMethodDescriptor yX2_free.desc).map (fun d => d.parameters.length) = some 1 := by decide +kernel
set_option maxHeartbeats 4000000 in
set_option maxRecDepth 100000 in
theorem ct_X2_free (l : Launch) (D : va_G) (cI cR : ClassId) (L : List Nat) (f : Nat → va_E) (ad : Nat → Nat → Nat) (P N K : Nat) (M : SS) (Ls : Nat → List Nat) (hI : SimI cI cR L f ad P N K M Ls) (hN : N ≤ 12) (g : Nat) (hg : g < P) (hP : P ≤ 4) : CtX l D cI cR yX2_free wsX2_free 0 0 0 0 [.ref (ad 0 0), .int (nI g)] L f (pxR L f (mFree M g N)) := by
  refine CtX.ofW (cc := cX2_free) (maxL := 7) (ret := (some .int)) (by decide) rfl (Nat.le_of_ble_eq_true rfl) ?_
  intro p e s m below meth c A ls hC hr hlk hE hw hK hA hl
  have hx := hC.1
  have hb := hC.2.1
  have hinX2 : ∀ w ∈ wsX20, w ∈ wsX2_free := fun _ _h => List.mem_cons_of_mem _ (List.mem_append_right _ _h)
  have hl : lv_has ls 7 [(0, .ref (ad 0 0)), (1, .int (nI g))] := hl
  refine lv_aload_n hx hb dX2_free_0 rfl (lv_at hl 0 rfl) ?_
  refine sm_fld hC 3 1 hinX2 hK hw hI dX2_free_1 rfl (by decide) rfl rfl ?_
  refine lv_iload_n hx hb dX2_free_4 rfl (lv_at hl 1 rfl) ?_
  refine sm_ga hC g hK hw hI dX2_free_5 rfl hg (by omega) ?_
  refine lv_iconst (v := 0) hx hb dX2_free_6 (by decide) ?_
  refine sm_g hC 0 hK hw hI hg dX2_free_7 rfl (by decide) ?_
  refine lv_istore_n (lv' := [(2, .int (M 9 g)), (0, .ref (ad 0 0)), (1, .int (nI g))]) hx hb dX2_free_8 rfl hl (by decide) rfl (fun ls hl => ?_)
  refine lv_aload_n hx hb dX2_free_9 rfl (lv_at hl 1 rfl) ?_
  refine sm_fld hC 4 2 hinX2 hK hw hI dX2_free_10 rfl (by decide) rfl rfl ?_
  refine lv_astore_n (lv' := [(3, .ref (ad 0 2)), (2, .int (M 9 g)), (0, .ref (ad 0 0)), (1, .int (nI g))]) hx hb dX2_free_13 rfl hl (by decide) rfl (fun ls hl => ?_)
  refine lv_aload_n hx hb dX2_free_14 rfl (lv_at hl 0 rfl) ?_
  refine sm_kn hC hK hw hI dX2_free_15 ?_
  refine lv_istore (lv' := [(4, .int (nI N)), (3, .ref (ad 0 2)), (2, .int (M 9 g)), (0, .ref (ad 0 0)), (1, .int (nI g))]) hx hb dX2_free_16 hl (by decide) rfl (fun ls hl => ?_)
  refine lv_iconst (v := 0) hx hb dX2_free_18 (by decide) ?_
  refine lv_istore (lv' := [(5, .int 0), (4, .int (nI N)), (3, .ref (ad 0 2)), (2, .int (M 9 g)), (0, .ref (ad 0 0)), (1, .int (nI g))]) hx hb dX2_free_19 hl (by decide) rfl (fun ls hl => ?_)
  refine px_loop (σ := Unit) N (fun _ => 0) (fun _ => 0) (fun i _ H locs ls => SW D A s.heap [] L f H locs ∧ lv_has ls 7 [(5, .int (nI i)), (4, .int (nI N)), (3, .ref (ad 0 2)), (2, .int (mFree M g i)), (0, .ref (ad 0 0)), (1, .int (nI g))]) () ⟨hw, lv_sub hl [0, 1, 2, 3, 4, 5] rfl⟩ (Nat.le_refl _) (Nat.le_refl _) (fun i hi _ H locs ls hJ K1 => ?_) (fun _ H locs ls hJ => ?_)
  · obtain ⟨hw, hl⟩ := hJ
    refine lv_iload hx hb dX2_free_21 (lv_at hl 0 rfl) ?_
    refine lv_iload hx hb dX2_free_23 (lv_at hl 1 rfl) ?_
    refine gt_ge_f (tgt := 67) hC i N dX2_free_25 (by decide) rfl rfl hi (by omega) ?_
    refine lv_aload_n hx hb dX2_free_28 rfl (lv_at hl 2 rfl) ?_
    refine lv_iload hx hb dX2_free_29 (lv_at hl 0 rfl) ?_
    refine sm_ka hC i hK hw hI dX2_free_31 rfl hi (by omega) ?_
    refine lv_astore (lv' := [(6, .ref (ad 2 i)), (5, .int (nI i)), (4, .int (nI N)), (3, .ref (ad 0 2)), (2, .int (mFree M g i)), (0, .ref (ad 0 0)), (1, .int (nI g))]) hx hb dX2_free_32 hl (by decide) rfl (fun ls hl => ?_)
    refine lv_iload_n hx hb dX2_free_34 rfl (lv_at hl 4 rfl) ?_
    refine lv_aload hx hb dX2_free_35 (lv_at hl 0 rfl) ?_
    refine lv_iconst (v := 1) hx hb dX2_free_37 (by decide) ?_
    refine sm_k hC 1 0 hK hw hI hi dX2_free_38 rfl (by decide) rfl ?_
    refine lv_iconst (v := 2) hx hb dX2_free_39 (by decide) ?_
    refine lv_icmp_ne (tgt := 58) hx hb dX2_free_40 (by decide) (fun h40 : ¬ ((M 0 i) = 2) => ?_) (fun h40 : (M 0 i) = 2 => ?_)
    · skip
      refine lv_iconst (v := 0) hx hb dX2_free_58 (by decide) ?_
      refine lv_isub hx hb dX2_free_59 ?_
      refine lv_istore_n (lv' := [(2, .int ((mFree M g i) - 0)), (6, .ref (ad 2 i)), (5, .int (nI i)), (4, .int (nI N)), (3, .ref (ad 0 2)), (0, .ref (ad 0 0)), (1, .int (nI g))]) hx hb dX2_free_60 rfl hl (by decide) rfl (fun ls hl => ?_)
      refine gt_inc (lv' := [(5, .int (nI (i + 1))), (2, .int ((mFree M g i) - 0)), (6, .ref (ad 2 i)), (4, .int (nI N)), (3, .ref (ad 0 2)), (0, .ref (ad 0 0)), (1, .int (nI g))]) hC 2 i dX2_free_61 hl rfl rfl (by decide) rfl (fun ls hl => ?_)
      refine lv_goto (tgt := 21) hx hb dX2_free_64 (by decide) ?_
      have e9 : mFree M g i - 0 = mFree M g (i + 1) := by
        show mFree M g i - 0 = (if mIs M i 2 = 0 then mFree M g i else (if M 1 i = nI g then mFree M g i - M 2 i else mFree M g i))
        rw [if_pos ((mIs0 M i 2).mpr h40), Int32.sub_zero]
      rw [e9] at hl
      exact K1 () H locs ls _ _ ⟨hw, lv_sub hl [0, 3, 4, 1, 5, 6] rfl⟩ (Nat.le_refl _) (Nat.le_refl _)
    · skip
      refine lv_aload hx hb dX2_free_43 (lv_at hl 0 rfl) ?_
      refine lv_iconst (v := 2) hx hb dX2_free_45 (by decide) ?_
      refine sm_k hC 2 1 hK hw hI hi dX2_free_46 rfl (by decide) rfl ?_
      refine lv_iload_n hx hb dX2_free_47 rfl (lv_at hl 6 rfl) ?_
      refine lv_icmp_ne (tgt := 58) hx hb dX2_free_48 (by decide) (fun h48 : ¬ ((M 1 i) = (nI g)) => ?_) (fun h48 : (M 1 i) = (nI g) => ?_)
      · skip
        refine lv_iconst (v := 0) hx hb dX2_free_58 (by decide) ?_
        refine lv_isub hx hb dX2_free_59 ?_
        refine lv_istore_n (lv' := [(2, .int ((mFree M g i) - 0)), (6, .ref (ad 2 i)), (5, .int (nI i)), (4, .int (nI N)), (3, .ref (ad 0 2)), (0, .ref (ad 0 0)), (1, .int (nI g))]) hx hb dX2_free_60 rfl hl (by decide) rfl (fun ls hl => ?_)
        refine gt_inc (lv' := [(5, .int (nI (i + 1))), (2, .int ((mFree M g i) - 0)), (6, .ref (ad 2 i)), (4, .int (nI N)), (3, .ref (ad 0 2)), (0, .ref (ad 0 0)), (1, .int (nI g))]) hC 2 i dX2_free_61 hl rfl rfl (by decide) rfl (fun ls hl => ?_)
        refine lv_goto (tgt := 21) hx hb dX2_free_64 (by decide) ?_
        have e9 : mFree M g i - 0 = mFree M g (i + 1) := by
          show mFree M g i - 0 = (if mIs M i 2 = 0 then mFree M g i else (if M 1 i = nI g then mFree M g i - M 2 i else mFree M g i))
          rw [if_neg (fun z => (mIs0 M i 2).mp z h40), if_neg h48, Int32.sub_zero]
        rw [e9] at hl
        exact K1 () H locs ls _ _ ⟨hw, lv_sub hl [0, 3, 4, 1, 5, 6] rfl⟩ (Nat.le_refl _) (Nat.le_refl _)
      · skip
        refine lv_aload hx hb dX2_free_51 (lv_at hl 0 rfl) ?_
        refine lv_iconst (v := 3) hx hb dX2_free_53 (by decide) ?_
        refine sm_k hC 3 2 hK hw hI hi dX2_free_54 rfl (by decide) rfl ?_
        refine lv_goto (tgt := 59) hx hb dX2_free_55 (by decide) ?_
        refine lv_isub hx hb dX2_free_59 ?_
        refine lv_istore_n (lv' := [(2, .int ((mFree M g i) - (M 2 i))), (6, .ref (ad 2 i)), (5, .int (nI i)), (4, .int (nI N)), (3, .ref (ad 0 2)), (0, .ref (ad 0 0)), (1, .int (nI g))]) hx hb dX2_free_60 rfl hl (by decide) rfl (fun ls hl => ?_)
        refine gt_inc (lv' := [(5, .int (nI (i + 1))), (2, .int ((mFree M g i) - (M 2 i))), (6, .ref (ad 2 i)), (4, .int (nI N)), (3, .ref (ad 0 2)), (0, .ref (ad 0 0)), (1, .int (nI g))]) hC 2 i dX2_free_61 hl rfl rfl (by decide) rfl (fun ls hl => ?_)
        refine lv_goto (tgt := 21) hx hb dX2_free_64 (by decide) ?_
        have e9 : mFree M g i - M 2 i = mFree M g (i + 1) := by
          show mFree M g i - M 2 i = (if mIs M i 2 = 0 then mFree M g i else (if M 1 i = nI g then mFree M g i - M 2 i else mFree M g i))
          rw [if_neg (fun z => (mIs0 M i 2).mp z h40), if_pos h48]
        rw [e9] at hl
        exact K1 () H locs ls _ _ ⟨hw, lv_sub hl [0, 3, 4, 1, 5, 6] rfl⟩ (Nat.le_refl _) (Nat.le_refl _)
  · obtain ⟨hw, hl⟩ := hJ
    refine lv_iload hx hb dX2_free_21 (lv_at hl 0 rfl) ?_
    refine lv_iload hx hb dX2_free_23 (lv_at hl 1 rfl) ?_
    refine gt_ge_t (tgt := 67) hC N N dX2_free_25 (by decide) rfl rfl (Nat.le_refl _) (by omega) ?_
    refine lv_iload_n hx hb dX2_free_67 rfl (lv_at hl 3 rfl) ?_
    exact px_iret hC hr hlk hw ⟨rfl, rfl, rfl⟩ dX2_free_68 (Nat.le_refl _) (Nat.le_refl _)
theorem hd_X2_seem : yX2_seem.cls = RX2 ∧ yX2_seem.cls ≠ "java/lang/invoke/MethodHandle" ∧ yX2_seem.cls ≠ "java/lang/invoke/VarHandle" ∧ (parseMethodDescriptor yX2_seem.desc).map (fun d => d.parameters.length) = some 1 := by decide +kernel
set_option maxHeartbeats 4000000 in
set_option maxRecDepth 100000 in
theorem ct_X2_seem (l : Launch) (D : va_G) (cI cR : ClassId) (L : List Nat) (f : Nat → va_E) (ad : Nat → Nat → Nat) (P N K : Nat) (M : SS) (Ls : Nat → List Nat) (hI : SimI cI cR L f ad P N K M Ls) (hN : N ≤ 12) (k : Nat) (hk : k < N) : CtX l D cI cR yX2_seem wsX2_seem 0 0 0 0 [.ref (ad 0 0), .int (nI k)] L f (pxR L f (mSeem M k)) := by
  refine CtX.ofW (cc := cX2_seem) (maxL := 2) (ret := (some .int)) (by decide) rfl (Nat.le_of_ble_eq_true rfl) ?_
  intro p e s m below meth c A ls hC hr hlk hE hw hK hA hl
  have hx := hC.1
  have hb := hC.2.1
  have hinX2 : ∀ w ∈ wsX20, w ∈ wsX2_seem := fun _ _h => List.mem_cons_of_mem _ (List.mem_append_right _ _h)
  have hl : lv_has ls 2 [(0, .ref (ad 0 0)), (1, .int (nI k))] := hl
  refine lv_aload_n hx hb dX2_seem_0 rfl (lv_at hl 0 rfl) ?_
  refine sm_fld hC 4 1 hinX2 hK hw hI dX2_seem_1 rfl (by decide) rfl rfl ?_
  refine lv_iload_n hx hb dX2_seem_4 rfl (lv_at hl 1 rfl) ?_
  refine sm_ka hC k hK hw hI dX2_seem_5 rfl hk (by omega) ?_
  refine lv_iconst (v := 0) hx hb dX2_seem_6 (by decide) ?_
  refine sm_k hC 0 11 hK hw hI hk dX2_seem_7 rfl (by decide) rfl ?_
  refine lv_aload_n hx hb dX2_seem_8 rfl (lv_at hl 0 rfl) ?_
  refine sm_fld hC 4 1 hinX2 hK hw hI dX2_seem_9 rfl (by decide) rfl rfl ?_
  refine lv_iload_n hx hb dX2_seem_12 rfl (lv_at hl 1 rfl) ?_
  refine sm_ka hC k hK hw hI dX2_seem_13 rfl hk (by omega) ?_
  refine lv_iconst (v := 1) hx hb dX2_seem_14 (by decide) ?_
  refine sm_k hC 1 0 hK hw hI hk dX2_seem_15 rfl (by decide) rfl ?_
  refine lv_iconst (v := 1) hx hb dX2_seem_16 (by decide) ?_
  refine lv_icmp_ne (tgt := 34) hx hb dX2_seem_17 (by decide) (fun h17 : ¬ ((M 0 k) = 1) => ?_) (fun h17 : (M 0 k) = 1 => ?_)
  · skip
    refine lv_iconst (v := 0) hx hb dX2_seem_34 (by decide) ?_
    refine lv_iadd hx hb dX2_seem_35 ?_
    exact px_iret hC hr hlk hw ⟨congrArg (fun z => some (Value.int (M 11 k + z))) (if_pos ((mIs0 M k 1).mpr h17)).symm, rfl, rfl⟩ dX2_seem_36 (Nat.le_refl _) (Nat.le_refl _)
  · skip
    refine lv_aload_n hx hb dX2_seem_20 rfl (lv_at hl 0 rfl) ?_
    refine sm_fld hC 4 1 hinX2 hK hw hI dX2_seem_21 rfl (by decide) rfl rfl ?_
    refine lv_iload_n hx hb dX2_seem_24 rfl (lv_at hl 1 rfl) ?_
    refine sm_ka hC k hK hw hI dX2_seem_25 rfl hk (by omega) ?_
    refine lv_bipush (v := 6) hx hb dX2_seem_26 (by decide) ?_
    refine sm_k hC 6 5 hK hw hI hk dX2_seem_28 rfl (by decide) rfl ?_
    refine lv_iconst (v := 3) hx hb dX2_seem_29 (by decide) ?_
    refine lv_idiv hx hb dX2_seem_30 (by decide) ?_
    refine lv_goto (tgt := 35) hx hb dX2_seem_31 (by decide) ?_
    refine lv_iadd hx hb dX2_seem_35 ?_
    exact px_iret hC hr hlk hw ⟨congrArg (fun z => some (Value.int (M 11 k + z))) (if_neg (fun z => (mIs0 M k 1).mp z h17)).symm, rfl, rfl⟩ dX2_seem_36 (Nat.le_refl _) (Nat.le_refl _)
theorem hd_X2_many : yX2_many.cls = RX2 ∧ yX2_many.cls ≠ "java/lang/invoke/MethodHandle" ∧ yX2_many.cls ≠ "java/lang/invoke/VarHandle" ∧ (parseMethodDescriptor yX2_many.desc).map (fun d => d.parameters.length) = some 1 := by decide +kernel
set_option maxHeartbeats 4000000 in
set_option maxRecDepth 100000 in
theorem ct_X2_many (l : Launch) (D : va_G) (cI cR : ClassId) (L : List Nat) (f : Nat → va_E) (ad : Nat → Nat → Nat) (P N K : Nat) (M : SS) (Ls : Nat → List Nat) (hI : SimI cI cR L f ad P N K M Ls) (hN : N ≤ 12) (w : Int32) : CtX l D cI cR yX2_many wsX2_many 0 0 0 0 [.ref (ad 0 0), .int w] L f (pxR L f (mMany M w N)) := by
  refine CtX.ofW (cc := cX2_many) (maxL := 7) (ret := (some .int)) (by decide) rfl (Nat.le_of_ble_eq_true rfl) ?_
  intro p e s m below meth c A ls hC hr hlk hE hw hK hA hl
  have hx := hC.1
  have hb := hC.2.1
  have hinX2 : ∀ w ∈ wsX20, w ∈ wsX2_many := fun _ _h => List.mem_cons_of_mem _ (List.mem_append_right _ _h)
  have hl : lv_has ls 7 [(0, .ref (ad 0 0)), (1, .int w)] := hl
  refine lv_iconst (v := 0) hx hb dX2_many_0 (by decide) ?_
  refine lv_istore_n (lv' := [(2, .int 0), (0, .ref (ad 0 0)), (1, .int w)]) hx hb dX2_many_1 rfl hl (by decide) rfl (fun ls hl => ?_)
  refine lv_aload_n hx hb dX2_many_2 rfl (lv_at hl 1 rfl) ?_
  refine sm_fld hC 4 1 hinX2 hK hw hI dX2_many_3 rfl (by decide) rfl rfl ?_
  refine lv_astore_n (lv' := [(3, .ref (ad 0 2)), (2, .int 0), (0, .ref (ad 0 0)), (1, .int w)]) hx hb dX2_many_6 rfl hl (by decide) rfl (fun ls hl => ?_)
  refine lv_aload_n hx hb dX2_many_7 rfl (lv_at hl 0 rfl) ?_
  refine sm_kn hC hK hw hI dX2_many_8 ?_
  refine lv_istore (lv' := [(4, .int (nI N)), (3, .ref (ad 0 2)), (2, .int 0), (0, .ref (ad 0 0)), (1, .int w)]) hx hb dX2_many_9 hl (by decide) rfl (fun ls hl => ?_)
  refine lv_iconst (v := 0) hx hb dX2_many_11 (by decide) ?_
  refine lv_istore (lv' := [(5, .int 0), (4, .int (nI N)), (3, .ref (ad 0 2)), (2, .int 0), (0, .ref (ad 0 0)), (1, .int w)]) hx hb dX2_many_12 hl (by decide) rfl (fun ls hl => ?_)
  refine px_loop (σ := Unit) N (fun _ => 0) (fun _ => 0) (fun i _ H locs ls => SW D A s.heap [] L f H locs ∧ lv_has ls 7 [(5, .int (nI i)), (4, .int (nI N)), (3, .ref (ad 0 2)), (2, .int (mMany M w i)), (0, .ref (ad 0 0)), (1, .int w)]) () ⟨hw, lv_sub hl [0, 1, 2, 3, 4, 5] rfl⟩ (Nat.le_refl _) (Nat.le_refl _) (fun i hi _ H locs ls hJ K1 => ?_) (fun _ H locs ls hJ => ?_)
  · obtain ⟨hw, hl⟩ := hJ
    refine lv_iload hx hb dX2_many_14 (lv_at hl 0 rfl) ?_
    refine lv_iload hx hb dX2_many_16 (lv_at hl 1 rfl) ?_
    refine gt_ge_f (tgt := 49) hC i N dX2_many_18 (by decide) rfl rfl hi (by omega) ?_
    refine lv_aload_n hx hb dX2_many_21 rfl (lv_at hl 2 rfl) ?_
    refine lv_iload hx hb dX2_many_22 (lv_at hl 0 rfl) ?_
    refine sm_ka hC i hK hw hI dX2_many_24 rfl hi (by omega) ?_
    refine lv_astore (lv' := [(6, .ref (ad 2 i)), (5, .int (nI i)), (4, .int (nI N)), (3, .ref (ad 0 2)), (2, .int (mMany M w i)), (0, .ref (ad 0 0)), (1, .int w)]) hx hb dX2_many_25 hl (by decide) rfl (fun ls hl => ?_)
    refine lv_iload_n hx hb dX2_many_27 rfl (lv_at hl 4 rfl) ?_
    refine lv_aload hx hb dX2_many_28 (lv_at hl 0 rfl) ?_
    refine lv_iconst (v := 1) hx hb dX2_many_30 (by decide) ?_
    refine sm_k hC 1 0 hK hw hI hi dX2_many_31 rfl (by decide) rfl ?_
    refine lv_iload_n hx hb dX2_many_32 rfl (lv_at hl 6 rfl) ?_
    refine lv_icmp_ne (tgt := 40) hx hb dX2_many_33 (by decide) (fun h9 : ¬ ((M 0 i) = w) => ?_) (fun h9 : (M 0 i) = w => ?_)
    · skip
      refine lv_iconst (v := 0) hx hb dX2_many_40 (by decide) ?_
      refine lv_iadd hx hb dX2_many_41 ?_
      refine lv_istore_n (lv' := [(2, .int ((mMany M w i) + 0)), (6, .ref (ad 2 i)), (5, .int (nI i)), (4, .int (nI N)), (3, .ref (ad 0 2)), (0, .ref (ad 0 0)), (1, .int w)]) hx hb dX2_many_42 rfl hl (by decide) rfl (fun ls hl => ?_)
      refine gt_inc (lv' := [(5, .int (nI (i + 1))), (2, .int ((mMany M w i) + 0)), (6, .ref (ad 2 i)), (4, .int (nI N)), (3, .ref (ad 0 2)), (0, .ref (ad 0 0)), (1, .int w)]) hC 2 i dX2_many_43 hl rfl rfl (by decide) rfl (fun ls hl => ?_)
      refine lv_goto (tgt := 14) hx hb dX2_many_46 (by decide) ?_
      have e9 : mMany M w i + 0 = mMany M w (i + 1) := by
        show mMany M w i + 0 = mMany M w i + (if mIs M i w = 0 then 0 else 1)
        rw [if_pos ((mIs0 M i w).mpr h9)]
      rw [e9] at hl
      exact K1 () H locs ls _ _ ⟨hw, lv_sub hl [0, 3, 4, 1, 5, 6] rfl⟩ (Nat.le_refl _) (Nat.le_refl _)
    · skip
      refine lv_iconst (v := 1) hx hb dX2_many_36 (by decide) ?_
      refine lv_goto (tgt := 41) hx hb dX2_many_37 (by decide) ?_
      refine lv_iadd hx hb dX2_many_41 ?_
      refine lv_istore_n (lv' := [(2, .int ((mMany M w i) + 1)), (6, .ref (ad 2 i)), (5, .int (nI i)), (4, .int (nI N)), (3, .ref (ad 0 2)), (0, .ref (ad 0 0)), (1, .int w)]) hx hb dX2_many_42 rfl hl (by decide) rfl (fun ls hl => ?_)
      refine gt_inc (lv' := [(5, .int (nI (i + 1))), (2, .int ((mMany M w i) + 1)), (6, .ref (ad 2 i)), (4, .int (nI N)), (3, .ref (ad 0 2)), (0, .ref (ad 0 0)), (1, .int w)]) hC 2 i dX2_many_43 hl rfl rfl (by decide) rfl (fun ls hl => ?_)
      refine lv_goto (tgt := 14) hx hb dX2_many_46 (by decide) ?_
      have e9 : mMany M w i + 1 = mMany M w (i + 1) := by
        show mMany M w i + 1 = mMany M w i + (if mIs M i w = 0 then 0 else 1)
        rw [if_neg (fun z => (mIs0 M i w).mp z h9)]
      rw [e9] at hl
      exact K1 () H locs ls _ _ ⟨hw, lv_sub hl [0, 3, 4, 1, 5, 6] rfl⟩ (Nat.le_refl _) (Nat.le_refl _)
  · obtain ⟨hw, hl⟩ := hJ
    refine lv_iload hx hb dX2_many_14 (lv_at hl 0 rfl) ?_
    refine lv_iload hx hb dX2_many_16 (lv_at hl 1 rfl) ?_
    refine gt_ge_t (tgt := 49) hC N N dX2_many_18 (by decide) rfl rfl (Nat.le_refl _) (by omega) ?_
    refine lv_iload_n hx hb dX2_many_49 rfl (lv_at hl 3 rfl) ?_
    exact px_iret hC hr hlk hw ⟨rfl, rfl, rfl⟩ dX2_many_50 (Nat.le_refl _) (Nat.le_refl _)
/-- who would be let in, along the line -/
def sHoS (M : SS) (fr : Int32) (b : Int32) (k : Nat) : Int32 := if M 2 k ≤ fr then (if b < 0 then nI k else (if mSeem M b.toNatClampNeg < mSeem M k then nI k else b)) else b
def sHo (M : SS) (fr : Int32) (l : List Nat) : Int32 := l.foldl (sHoS M fr) (-1)
def sFi (M : SS) (fr : Int32) (l : List Nat) : Int32 := match l[0]? with | none => -1 | some k => if M 2 k ≤ fr then nI k else -1
def sNx (M : SS) (N g : Nat) (l : List Nat) : Int32 := if M 10 g = 0 then sFi M (mFree M g N) l else sHo M (mFree M g N) l
theorem sHo_snoc (M : SS) (fr : Int32) (l : List Nat) (k : Nat) : sHo M fr (l ++ [k]) = sHoS M fr (sHo M fr l) k := by
  unfold sHo
  rw [List.foldl_append]
  rfl
theorem list_snoc_cases {α : Type} (l : List α) : l = [] ∨ ∃ l1 a, l = l1 ++ [a] := by
  rcases List.eq_nil_or_concat l with h | ⟨l1, a, h⟩
  · exact Or.inl h
  · exact Or.inr ⟨l1, a, by rw [h]; exact List.concat_eq_append⟩
theorem sHo_ix (M : SS) (fr : Int32) : ∀ (n : Nat) (l : List Nat), l.length = n → sHo M fr l = -1 ∨ ∃ j, j ∈ l ∧ sHo M fr l = nI j := by
  intro n
  induction n with
  | zero => intro l h; rw [List.length_eq_zero_iff.mp h]; exact Or.inl rfl
  | succ n ih =>
    intro l h
    rcases list_snoc_cases l with rfl | ⟨l1, a, rfl⟩
    · exact Or.inl rfl
    · rw [List.length_append] at h
      have ih1 := ih l1 (by simpa using h)
      rw [sHo_snoc]
      unfold sHoS
      split
      · split
        · exact Or.inr ⟨a, List.mem_append_right _ List.mem_cons_self, rfl⟩
        · split
          · exact Or.inr ⟨a, List.mem_append_right _ List.mem_cons_self, rfl⟩
          · rcases ih1 with e | ⟨j, h1, e⟩
            · exact Or.inl e
            · exact Or.inr ⟨j, List.mem_append_left _ h1, e⟩
      · rcases ih1 with e | ⟨j, h1, e⟩
        · exact Or.inl e
        · exact Or.inr ⟨j, List.mem_append_left _ h1, e⟩
theorem hd_X2_next : yX2_next.cls = RX2 ∧ yX2_next.cls ≠ "java/lang/invoke/MethodHandle" ∧ yX2_next.cls ≠ "java/lang/invoke/VarHandle" ∧ (parseMethodDescriptor yX2_next.desc).map (fun d => d.parameters.length) = some 1 := by decide +kernel
set_option maxHeartbeats 4000000 in
set_option maxRecDepth 100000 in
theorem ct_X2_next (l : Launch) (D : va_G) (cI cR : ClassId) (L : List Nat) (f : Nat → va_E) (ad : Nat → Nat → Nat) (P N K : Nat) (M : SS) (Ls : Nat → List Nat) (hI : SimI cI cR L f ad P N K M Ls) (hN : N ≤ 12) (g : Nat) (hg : g < P) (hP : P ≤ 4) (hgK : g < K) (hK4 : K ≤ 4) (hln : (Ls g).length ≤ 12) (hlt : ∀ c ∈ Ls g, c < N) : CtX l D cI cR yX2_next wsX2_next 1 26 0 0 [.ref (ad 0 0), .int (nI g)] L f (pxR L f (sNx M N g (Ls g))) := by
  refine CtX.ofW (cc := cX2_next) (maxL := 8) (ret := (some .int)) (by decide) rfl (Nat.le_of_ble_eq_true rfl) ?_
  intro p e s m below meth c A ls hC hr hlk hE hw hK hA hl
  have hx := hC.1
  have hb := hC.2.1
  have hinX2 : ∀ w ∈ wsX20, w ∈ wsX2_next := fun _ _h => List.mem_cons_of_mem _ (List.mem_append_right _ _h)
  have hl : lv_has ls 8 [(0, .ref (ad 0 0)), (1, .int (nI g))] := hl
  refine lv_iconst (v := (-1)) hx hb dX2_next_0 (by decide) ?_
  refine lv_istore_n (lv' := [(2, .int (-1)), (0, .ref (ad 0 0)), (1, .int (nI g))]) hx hb dX2_next_1 rfl hl (by decide) rfl (fun ls hl => ?_)
  refine lv_aload_n hx hb dX2_next_2 rfl (lv_at hl 1 rfl) ?_
  refine sm_fld hC 5 1 hinX2 hK hw hI dX2_next_3 rfl (by decide) rfl rfl ?_
  refine lv_iload_n hx hb dX2_next_6 rfl (lv_at hl 2 rfl) ?_
  refine sm_la hC g hK hw hI dX2_next_7 rfl hgK (by omega) ?_
  refine lv_astore_n (lv' := [(3, .ref (ad 3 g)), (2, .int (-1)), (0, .ref (ad 0 0)), (1, .int (nI g))]) hx hb dX2_next_8 rfl hl (by decide) rfl (fun ls hl => ?_)
  refine lv_aload_n hx hb dX2_next_9 rfl (lv_at hl 0 rfl) ?_
  refine sm_lln hC hK hw hI hgK dX2_next_10 ?_
  refine lv_istore (lv' := [(4, .int (nI ((Ls g).length))), (3, .ref (ad 3 g)), (2, .int (-1)), (0, .ref (ad 0 0)), (1, .int (nI g))]) hx hb dX2_next_11 hl (by decide) rfl (fun ls hl => ?_)
  refine lv_iconst (v := 0) hx hb dX2_next_13 (by decide) ?_
  refine lv_istore (lv' := [(5, .int 0), (4, .int (nI ((Ls g).length))), (3, .ref (ad 3 g)), (2, .int (-1)), (0, .ref (ad 0 0)), (1, .int (nI g))]) hx hb dX2_next_14 hl (by decide) rfl (fun ls hl => ?_)
  refine px_loop (σ := Unit) (Ls g).length (fun _ => 0) (fun _ => 0) (fun i _ H locs ls => SW D A s.heap [] L f H locs ∧ lv_has ls 8 [(5, .int (nI i)), (4, .int (nI (Ls g).length)), (3, .ref (ad 3 g)), (2, .int (sHo M (mFree M g N) ((Ls g).take i))), (0, .ref (ad 0 0)), (1, .int (nI g))] ∧ (M 10 g = 0 → i = 0)) () ⟨hw, lv_sub hl [0, 1, 2, 3, 4, 5] rfl, fun _ => rfl⟩ (Nat.le_refl _) (Nat.le_refl _) (fun i hi _ H locs ls hJ K1 => ?_) (fun _ H locs ls hJ => ?_)
  · obtain ⟨hw, hl, hz⟩ := hJ
    refine lv_iload hx hb dX2_next_16 (lv_at hl 0 rfl) ?_
    refine lv_iload hx hb dX2_next_18 (lv_at hl 1 rfl) ?_
    refine gt_ge_f (tgt := 108) hC i ((Ls g).length) dX2_next_20 (by decide) rfl rfl hi (by omega) ?_
    obtain ⟨c0, hc0⟩ : ∃ c0, (Ls g)[i]? = some c0 := ⟨_, List.getElem?_eq_getElem hi⟩
    have hc1 : c0 < N := hlt c0 (List.mem_of_getElem? hc0)
    refine lv_aload_n hx hb dX2_next_23 rfl (lv_at hl 2 rfl) ?_
    refine lv_iload hx hb dX2_next_24 (lv_at hl 0 rfl) ?_
    refine sm_l hC i hK hw hI hgK dX2_next_26 rfl hc0 (by omega) ?_
    refine lv_istore (lv' := [(6, .int (nI c0)), (5, .int (nI i)), (4, .int (nI ((Ls g).length))), (3, .ref (ad 3 g)), (2, .int (sHo M (mFree M g N) ((Ls g).take i))), (0, .ref (ad 0 0)), (1, .int (nI g))]) hx hb dX2_next_27 hl (by decide) rfl (fun ls hl => ?_)
    refine lv_aload_n hx hb dX2_next_29 rfl (lv_at hl 5 rfl) ?_
    refine sm_fld hC 4 2 hinX2 hK hw hI dX2_next_30 rfl (by decide) rfl rfl ?_
    refine lv_iload hx hb dX2_next_33 (lv_at hl 0 rfl) ?_
    refine sm_ka hC c0 hK hw hI dX2_next_35 rfl hc1 (by omega) ?_
    refine lv_iconst (v := 3) hx hb dX2_next_36 (by decide) ?_
    refine sm_k hC 3 2 hK hw hI hc1 dX2_next_37 rfl (by decide) rfl ?_
    refine lv_aload_n hx hb dX2_next_38 rfl (lv_at hl 5 rfl) ?_
    refine lv_iload_n hx hb dX2_next_39 rfl (lv_at hl 6 rfl) ?_
    refine px_callV hC 2 1 (ct_X2_free l D cI cR L f ad P N K M Ls hI hN g hg hP) gX2_next_X2_free dX2_next_40 hE hK hw hA hl.1 rfl hd_X2_free ⟨Nat.le_of_ble_eq_true rfl, Nat.le_of_ble_eq_true rfl⟩ ⟨Nat.le_refl _, Nat.le_refl _⟩ hI.1.1 hI.1.2 rfl rfl rfl (Nat.le_of_ble_eq_true rfl) (fun rv L1 f1 H locs hp hw => ?_)
    obtain ⟨rfl, e8, e9⟩ := hp
    rw [e8, e9] at hw
    refine gt_stk [.int (mFree M g N), .int (M 2 c0)] rfl ?_
    refine lv_icmp_gt (tgt := 50) hx hb dX2_next_43 (by decide) (fun h43 : (mFree M g N) < (M 2 c0) => ?_) (fun h43 : ¬ ((mFree M g N) < (M 2 c0)) => ?_)
    · skip
      refine lv_iconst (v := 0) hx hb dX2_next_50 (by decide) ?_
      refine lv_istore (lv' := [(7, .int 0), (6, .int (nI c0)), (5, .int (nI i)), (4, .int (nI ((Ls g).length))), (3, .ref (ad 3 g)), (2, .int (sHo M (mFree M g N) ((Ls g).take i))), (0, .ref (ad 0 0)), (1, .int (nI g))]) hx hb dX2_next_51 hl (by decide) rfl (fun ls hl => ?_)
      refine lv_aload_n hx hb dX2_next_53 rfl (lv_at hl 6 rfl) ?_
      refine sm_fld hC 3 3 hinX2 hK hw hI dX2_next_54 rfl (by decide) rfl rfl ?_
      refine lv_iload_n hx hb dX2_next_57 rfl (lv_at hl 7 rfl) ?_
      refine sm_ga hC g hK hw hI dX2_next_58 rfl hg (by omega) ?_
      refine lv_iconst (v := 1) hx hb dX2_next_59 (by decide) ?_
      refine sm_g hC 1 hK hw hI hg dX2_next_60 rfl (by decide) ?_
      refine lv_if_ne (tgt := 76) hx hb dX2_next_61 (by decide) (fun h61 : ¬ ((M 10 g) = 0) => ?_) (fun h61 : (M 10 g) = 0 => ?_)
      · skip
        refine lv_iload hx hb dX2_next_76 (lv_at hl 0 rfl) ?_
        refine lv_if_eq (tgt := 102) hx hb dX2_next_78 (by decide) (fun _ => ?_) (fun z => absurd rfl z)
        refine gt_inc (lv' := [(5, .int (nI (i + 1))), (7, .int 0), (6, .int (nI c0)), (4, .int (nI ((Ls g).length))), (3, .ref (ad 3 g)), (2, .int (sHo M (mFree M g N) ((Ls g).take i))), (0, .ref (ad 0 0)), (1, .int (nI g))]) hC 2 i dX2_next_102 hl rfl rfl (by decide) rfl (fun ls hl => ?_)
        refine lv_goto (tgt := 16) hx hb dX2_next_105 (by decide) ?_
        have e9 : sHo M (mFree M g N) ((Ls g).take i) = sHo M (mFree M g N) ((Ls g).take (i + 1)) := by
          rw [take_snoc hc0, sHo_snoc]
          unfold sHoS; rw [if_neg (Int32.not_le.mpr h43)]
        have hl9 : lv_has ls 8 [(5, .int (nI (i + 1))), (4, .int (nI ((Ls g).length))), (3, .ref (ad 3 g)), (2, .int (sHo M (mFree M g N) ((Ls g).take i))), (0, .ref (ad 0 0)), (1, .int (nI g))] := lv_sub hl [0, 3, 4, 5, 6, 7] rfl
        rw [e9] at hl9
        exact K1 () H locs ls _ _ ⟨hw, hl9, fun z => absurd z h61⟩ (Nat.le_refl _) (Nat.le_refl _)
      · skip
        have hi0 := hz h61
        subst hi0
        refine lv_iload hx hb dX2_next_64 (lv_at hl 0 rfl) ?_
        refine lv_if_eq (tgt := 74) hx hb dX2_next_66 (by decide) (fun _ => ?_) (fun z => absurd rfl z)
        refine lv_iconst (v := (-1)) hx hb dX2_next_74 (by decide) ?_
        exact px_iret hC hr hlk hw ⟨by unfold sNx sFi; rw [if_pos h61, hc0]; simp only [if_neg (Int32.not_le.mpr h43)], rfl, rfl⟩ dX2_next_75 (Nat.le_refl _) (Nat.le_refl _)
    · skip
      refine lv_iconst (v := 1) hx hb dX2_next_46 (by decide) ?_
      refine lv_goto (tgt := 51) hx hb dX2_next_47 (by decide) ?_
      refine lv_istore (lv' := [(7, .int 1), (6, .int (nI c0)), (5, .int (nI i)), (4, .int (nI ((Ls g).length))), (3, .ref (ad 3 g)), (2, .int (sHo M (mFree M g N) ((Ls g).take i))), (0, .ref (ad 0 0)), (1, .int (nI g))]) hx hb dX2_next_51 hl (by decide) rfl (fun ls hl => ?_)
      refine lv_aload_n hx hb dX2_next_53 rfl (lv_at hl 6 rfl) ?_
      refine sm_fld hC 3 3 hinX2 hK hw hI dX2_next_54 rfl (by decide) rfl rfl ?_
      refine lv_iload_n hx hb dX2_next_57 rfl (lv_at hl 7 rfl) ?_
      refine sm_ga hC g hK hw hI dX2_next_58 rfl hg (by omega) ?_
      refine lv_iconst (v := 1) hx hb dX2_next_59 (by decide) ?_
      refine sm_g hC 1 hK hw hI hg dX2_next_60 rfl (by decide) ?_
      refine lv_if_ne (tgt := 76) hx hb dX2_next_61 (by decide) (fun h61 : ¬ ((M 10 g) = 0) => ?_) (fun h61 : (M 10 g) = 0 => ?_)
      · skip
        refine lv_iload hx hb dX2_next_76 (lv_at hl 0 rfl) ?_
        refine lv_if_eq (tgt := 102) hx hb dX2_next_78 (by decide) (fun z => absurd z (by decide)) (fun _ => ?_)
        refine lv_iload_n hx hb dX2_next_81 rfl (lv_at hl 5 rfl) ?_
        refine lv_if_lt (tgt := 99) hx hb dX2_next_82 (by decide) (fun h82 : (sHo M (mFree M g N) ((Ls g).take i)) < 0 => ?_) (fun h82 : ¬ ((sHo M (mFree M g N) ((Ls g).take i)) < 0) => ?_)
        · skip
          refine lv_iload hx hb dX2_next_99 (lv_at hl 1 rfl) ?_
          refine lv_istore_n (lv' := [(2, .int (nI c0)), (7, .int 1), (6, .int (nI c0)), (5, .int (nI i)), (4, .int (nI ((Ls g).length))), (3, .ref (ad 3 g)), (0, .ref (ad 0 0)), (1, .int (nI g))]) hx hb dX2_next_101 rfl hl (by decide) rfl (fun ls hl => ?_)
          refine gt_inc (lv' := [(5, .int (nI (i + 1))), (2, .int (nI c0)), (7, .int 1), (6, .int (nI c0)), (4, .int (nI ((Ls g).length))), (3, .ref (ad 3 g)), (0, .ref (ad 0 0)), (1, .int (nI g))]) hC 3 i dX2_next_102 hl rfl rfl (by decide) rfl (fun ls hl => ?_)
          refine lv_goto (tgt := 16) hx hb dX2_next_105 (by decide) ?_
          have e9 : nI c0 = sHo M (mFree M g N) ((Ls g).take (i + 1)) := by
            rw [take_snoc hc0, sHo_snoc]
            unfold sHoS; rw [if_pos (Int32.not_lt.mp h43), if_pos h82]
          have hl9 : lv_has ls 8 [(5, .int (nI (i + 1))), (4, .int (nI ((Ls g).length))), (3, .ref (ad 3 g)), (2, .int (nI c0)), (0, .ref (ad 0 0)), (1, .int (nI g))] := lv_sub hl [0, 4, 5, 1, 6, 7] rfl
          rw [e9] at hl9
          exact K1 () H locs ls _ _ ⟨hw, hl9, fun z => absurd z h61⟩ (Nat.le_refl _) (Nat.le_refl _)
        · skip
          refine lv_aload_n hx hb dX2_next_85 rfl (lv_at hl 6 rfl) ?_
          refine lv_iload hx hb dX2_next_86 (lv_at hl 1 rfl) ?_
          refine px_callV hC 2 1 (ct_X2_seem l D cI cR L f ad P N K M Ls hI hN c0 hc1) gX2_next_X2_seem dX2_next_88 hE hK hw hA hl.1 rfl hd_X2_seem ⟨Nat.le_of_ble_eq_true rfl, Nat.le_of_ble_eq_true rfl⟩ ⟨Nat.le_refl _, Nat.le_refl _⟩ hI.1.1 hI.1.2 rfl rfl rfl (Nat.le_of_ble_eq_true rfl) (fun rv L1 f1 H locs hp hw => ?_)
          obtain ⟨rfl, e8, e9⟩ := hp
          rw [e8, e9] at hw
          refine gt_stk [.int (mSeem M c0)] rfl ?_
          obtain ⟨j, hj1, hj2⟩ : ∃ j, j ∈ (Ls g).take i ∧ sHo M (mFree M g N) ((Ls g).take i) = nI j := (sHo_ix M (mFree M g N) _ _ rfl).resolve_left (fun z => h82 (by rw [z]; decide))
          have hj3 : j < N := hlt j (List.mem_of_mem_take hj1)
          refine lv_aload_n hx hb dX2_next_91 rfl (lv_at hl 6 rfl) ?_
          refine lv_iload_n hx hb dX2_next_92 rfl (lv_at hl 5 rfl) ?_
          rw [hj2]
          refine px_callV hC 2 1 (ct_X2_seem l D cI cR L f ad P N K M Ls hI hN j hj3) gX2_next_X2_seem dX2_next_93 hE hK hw hA hl.1 rfl hd_X2_seem ⟨Nat.le_of_ble_eq_true rfl, Nat.le_of_ble_eq_true rfl⟩ ⟨Nat.le_refl _, Nat.le_refl _⟩ hI.1.1 hI.1.2 rfl rfl rfl (Nat.le_of_ble_eq_true rfl) (fun rv L1 f1 H locs hp hw => ?_)
          obtain ⟨rfl, e8, e9⟩ := hp
          rw [e8, e9] at hw
          refine gt_stk [.int (mSeem M j), .int (mSeem M c0)] rfl ?_
          refine lv_icmp_le (tgt := 102) hx hb dX2_next_96 (by decide) (fun h96 : (mSeem M c0) ≤ (mSeem M j) => ?_) (fun h96 : ¬ ((mSeem M c0) ≤ (mSeem M j)) => ?_)
          · skip
            refine gt_inc (lv' := [(5, .int (nI (i + 1))), (7, .int 1), (6, .int (nI c0)), (4, .int (nI ((Ls g).length))), (3, .ref (ad 3 g)), (2, .int (sHo M (mFree M g N) ((Ls g).take i))), (0, .ref (ad 0 0)), (1, .int (nI g))]) hC 2 i dX2_next_102 hl rfl rfl (by decide) rfl (fun ls hl => ?_)
            refine lv_goto (tgt := 16) hx hb dX2_next_105 (by decide) ?_
            have e9 : sHo M (mFree M g N) ((Ls g).take i) = sHo M (mFree M g N) ((Ls g).take (i + 1)) := by
              rw [take_snoc hc0, sHo_snoc]
              unfold sHoS; rw [if_pos (Int32.not_lt.mp h43), if_neg h82, hj2, nI_clamp (n := j) (by omega), if_neg (Int32.not_lt.mpr h96)]
            have hl9 : lv_has ls 8 [(5, .int (nI (i + 1))), (4, .int (nI ((Ls g).length))), (3, .ref (ad 3 g)), (2, .int (sHo M (mFree M g N) ((Ls g).take i))), (0, .ref (ad 0 0)), (1, .int (nI g))] := lv_sub hl [0, 3, 4, 5, 6, 7] rfl
            rw [e9] at hl9
            exact K1 () H locs ls _ _ ⟨hw, hl9, fun z => absurd z h61⟩ (Nat.le_refl _) (Nat.le_refl _)
          · skip
            refine lv_iload hx hb dX2_next_99 (lv_at hl 1 rfl) ?_
            refine lv_istore_n (lv' := [(2, .int (nI c0)), (7, .int 1), (6, .int (nI c0)), (5, .int (nI i)), (4, .int (nI ((Ls g).length))), (3, .ref (ad 3 g)), (0, .ref (ad 0 0)), (1, .int (nI g))]) hx hb dX2_next_101 rfl hl (by decide) rfl (fun ls hl => ?_)
            refine gt_inc (lv' := [(5, .int (nI (i + 1))), (2, .int (nI c0)), (7, .int 1), (6, .int (nI c0)), (4, .int (nI ((Ls g).length))), (3, .ref (ad 3 g)), (0, .ref (ad 0 0)), (1, .int (nI g))]) hC 3 i dX2_next_102 hl rfl rfl (by decide) rfl (fun ls hl => ?_)
            refine lv_goto (tgt := 16) hx hb dX2_next_105 (by decide) ?_
            have e9 : nI c0 = sHo M (mFree M g N) ((Ls g).take (i + 1)) := by
              rw [take_snoc hc0, sHo_snoc]
              unfold sHoS; rw [if_pos (Int32.not_lt.mp h43), if_neg h82, hj2, nI_clamp (n := j) (by omega), if_pos (Int32.not_le.mp h96)]
            have hl9 : lv_has ls 8 [(5, .int (nI (i + 1))), (4, .int (nI ((Ls g).length))), (3, .ref (ad 3 g)), (2, .int (nI c0)), (0, .ref (ad 0 0)), (1, .int (nI g))] := lv_sub hl [0, 4, 5, 1, 6, 7] rfl
            rw [e9] at hl9
            exact K1 () H locs ls _ _ ⟨hw, hl9, fun z => absurd z h61⟩ (Nat.le_refl _) (Nat.le_refl _)
      · skip
        have hi0 := hz h61
        subst hi0
        refine lv_iload hx hb dX2_next_64 (lv_at hl 0 rfl) ?_
        refine lv_if_eq (tgt := 74) hx hb dX2_next_66 (by decide) (fun z => absurd z (by decide)) (fun _ => ?_)
        refine lv_iload hx hb dX2_next_69 (lv_at hl 1 rfl) ?_
        refine lv_goto (tgt := 75) hx hb dX2_next_71 (by decide) ?_
        exact px_iret hC hr hlk hw ⟨by unfold sNx sFi; rw [if_pos h61, hc0]; simp only [if_pos (Int32.not_lt.mp h43)], rfl, rfl⟩ dX2_next_75 (Nat.le_refl _) (Nat.le_refl _)
  · obtain ⟨hw, hl, hz⟩ := hJ
    refine lv_iload hx hb dX2_next_16 (lv_at hl 0 rfl) ?_
    refine lv_iload hx hb dX2_next_18 (lv_at hl 1 rfl) ?_
    refine gt_ge_t (tgt := 108) hC ((Ls g).length) ((Ls g).length) dX2_next_20 (by decide) rfl rfl (Nat.le_refl _) (by omega) ?_
    refine lv_iload_n hx hb dX2_next_108 rfl (lv_at hl 3 rfl) ?_
    refine px_iret hC hr hlk hw ⟨?_, rfl, rfl⟩ dX2_next_109 (Nat.le_refl _) (Nat.le_refl _)
    rw [List.take_length]
    unfold sNx
    by_cases h0 : M 10 g = 0
    · have e0 : Ls g = [] := List.length_eq_zero_iff.mp (hz h0)
      rw [if_pos h0, e0]
      rfl
    · rw [if_neg h0]
/-- the place of k in a line -/
def ixo (k : Nat) : List Nat → Nat
  | [] => 0
  | c :: l => if c = k then 0 else ixo k l + 1
theorem ixo_at {k : Nat} : ∀ {l : List Nat}, k ∈ l → l[ixo k l]? = some k
  | [], h => absurd h List.not_mem_nil
  | c :: l, h => by
    unfold ixo
    split
    · rename_i e; rw [e]; rfl
    · rename_i e
      have h1 : k ∈ l := (List.mem_cons.mp h).resolve_left (fun z => e z.symm)
      exact ixo_at h1
theorem ixo_no {k c : Nat} : ∀ {l : List Nat} {i : Nat}, i < ixo k l → l[i]? = some c → c ≠ k
  | [], i, h, _ => absurd h (Nat.not_lt_zero i)
  | b :: l, i, h, hc => by
    unfold ixo at h
    split at h
    · exact absurd h (Nat.not_lt_zero i)
    · rename_i e
      cases i with
      | zero => cases hc; exact e
      | succ i => exact ixo_no (l := l) (i := i) (by omega) hc
def sPl (M : SS) (k : Nat) (l : List Nat) : Int32 := if M 0 k = 1 then nI (ixo k l) else -1
theorem hd_X2_place : yX2_place.cls = RX2 ∧ yX2_place.cls ≠ "java/lang/invoke/MethodHandle" ∧ yX2_place.cls ≠ "java/lang/invoke/VarHandle" ∧ (parseMethodDescriptor yX2_place.desc).map (fun d => d.parameters.length) = some 1 := by decide +kernel
set_option maxHeartbeats 4000000 in
set_option maxRecDepth 100000 in
theorem ct_X2_place (l : Launch) (D : va_G) (cI cR : ClassId) (L : List Nat) (f : Nat → va_E) (ad : Nat → Nat → Nat) (P N K : Nat) (M : SS) (Ls : Nat → List Nat) (hI : SimI cI cR L f ad P N K M Ls) (hN : N ≤ 12) (k g : Nat) (hk : k < N) (hK4 : K ≤ 4) (hpl : M 0 k = 1 → M 1 k = nI g ∧ g < K ∧ k ∈ Ls g) (hln : (Ls g).length ≤ 12) (hlt : ∀ c ∈ Ls g, c < 12) : CtX l D cI cR yX2_place wsX2_place 0 0 0 0 [.ref (ad 0 0), .int (nI k)] L f (pxR L f (sPl M k (Ls g))) := by
  refine CtX.ofW (cc := cX2_place) (maxL := 4) (ret := (some .int)) (by decide) rfl (Nat.le_of_ble_eq_true rfl) ?_
  intro p e s m below meth c A ls hC hr hlk hE hw hK hA hl
  have hx := hC.1
  have hb := hC.2.1
  have hinX2 : ∀ w ∈ wsX20, w ∈ wsX2_place := fun _ _h => List.mem_cons_of_mem _ (List.mem_append_right _ _h)
  have hl : lv_has ls 4 [(0, .ref (ad 0 0)), (1, .int (nI k))] := hl
  refine lv_aload_n hx hb dX2_place_0 rfl (lv_at hl 0 rfl) ?_
  refine sm_fld hC 4 1 hinX2 hK hw hI dX2_place_1 rfl (by decide) rfl rfl ?_
  refine lv_iload_n hx hb dX2_place_4 rfl (lv_at hl 1 rfl) ?_
  refine sm_ka hC k hK hw hI dX2_place_5 rfl hk (by omega) ?_
  refine lv_iconst (v := 1) hx hb dX2_place_6 (by decide) ?_
  refine sm_k hC 1 0 hK hw hI hk dX2_place_7 rfl (by decide) rfl ?_
  refine lv_iconst (v := 1) hx hb dX2_place_8 (by decide) ?_
  refine lv_icmp_eq (tgt := 14) hx hb dX2_place_9 (by decide) (fun h9 : (M 0 k) = 1 => ?_) (fun h9 : ¬ ((M 0 k) = 1) => ?_)
  · skip
    refine lv_aload_n hx hb dX2_place_14 rfl (lv_at hl 0 rfl) ?_
    refine sm_fld hC 5 2 hinX2 hK hw hI dX2_place_15 rfl (by decide) rfl rfl ?_
    refine lv_aload_n hx hb dX2_place_18 rfl (lv_at hl 0 rfl) ?_
    refine sm_fld hC 4 1 hinX2 hK hw hI dX2_place_19 rfl (by decide) rfl rfl ?_
    refine lv_iload_n hx hb dX2_place_22 rfl (lv_at hl 1 rfl) ?_
    refine sm_ka hC k hK hw hI dX2_place_23 rfl hk (by omega) ?_
    refine lv_iconst (v := 2) hx hb dX2_place_24 (by decide) ?_
    refine sm_k hC 2 1 hK hw hI hk dX2_place_25 rfl (by decide) rfl ?_
    refine sm_la hC g hK hw hI dX2_place_26 (hpl h9).1 (hpl h9).2.1 (by omega) ?_
    refine lv_astore_n (lv' := [(2, .ref (ad 3 g)), (0, .ref (ad 0 0)), (1, .int (nI k))]) hx hb dX2_place_27 rfl hl (by decide) rfl (fun ls hl => ?_)
    refine lv_iconst (v := 0) hx hb dX2_place_28 (by decide) ?_
    refine lv_istore_n (lv' := [(3, .int 0), (2, .ref (ad 3 g)), (0, .ref (ad 0 0)), (1, .int (nI k))]) hx hb dX2_place_29 rfl hl (by decide) rfl (fun ls hl => ?_)
    have hin := (hpl h9).2.2
    have hgK := (hpl h9).2.1
    have hlen : ixo k (Ls g) < (Ls g).length := (List.getElem?_eq_some_iff.mp (ixo_at hin)).1
    refine px_loop (σ := Unit) (ixo k (Ls g)) (fun _ => 0) (fun _ => 0) (fun i _ H locs ls => SW D A s.heap [] L f H locs ∧ lv_has ls 4 [(3, .int (nI i)), (2, .ref (ad 3 g)), (0, .ref (ad 0 0)), (1, .int (nI k))]) () ⟨hw, lv_sub hl [0, 1, 2, 3] rfl⟩ (Nat.le_refl _) (Nat.le_refl _) (fun i hi _ H locs ls hJ K1 => ?_) (fun _ H locs ls hJ => ?_)
    · obtain ⟨hw, hl⟩ := hJ
      obtain ⟨c0, hc0⟩ : ∃ c0, (Ls g)[i]? = some c0 := ⟨_, List.getElem?_eq_getElem (by omega)⟩
      have hc1 : c0 < 12 := hlt c0 (List.mem_of_getElem? hc0)
      refine lv_aload_n hx hb dX2_place_30 rfl (lv_at hl 1 rfl) ?_
      refine lv_iload_n hx hb dX2_place_31 rfl (lv_at hl 0 rfl) ?_
      refine sm_l hC i hK hw hI hgK dX2_place_32 rfl hc0 (by omega) ?_
      refine lv_iload_n hx hb dX2_place_33 rfl (lv_at hl 3 rfl) ?_
      refine lv_icmp_eq (tgt := 43) hx hb dX2_place_34 (by decide) (fun z => absurd (nI_inj12 hc1 (by omega) z) (ixo_no hi hc0)) (fun _ => ?_)
      refine gt_inc (lv' := [(3, .int (nI (i + 1))), (2, .ref (ad 3 g)), (0, .ref (ad 0 0)), (1, .int (nI k))]) hC 0 i dX2_place_37 hl rfl rfl (by decide) rfl (fun ls hl => ?_)
      refine lv_goto (tgt := 30) hx hb dX2_place_40 (by decide) ?_
      exact K1 () H locs ls _ _ ⟨hw, lv_sub hl [0, 1, 2, 3] rfl⟩ (Nat.le_refl _) (Nat.le_refl _)
    · obtain ⟨hw, hl⟩ := hJ
      refine lv_aload_n hx hb dX2_place_30 rfl (lv_at hl 1 rfl) ?_
      refine lv_iload_n hx hb dX2_place_31 rfl (lv_at hl 0 rfl) ?_
      refine sm_l hC (ixo k (Ls g)) hK hw hI hgK dX2_place_32 rfl (ixo_at hin) (by omega) ?_
      refine lv_iload_n hx hb dX2_place_33 rfl (lv_at hl 3 rfl) ?_
      refine lv_icmp_eq (tgt := 43) hx hb dX2_place_34 (by decide) (fun _ => ?_) (fun z => absurd rfl z)
      refine lv_iload_n hx hb dX2_place_43 rfl (lv_at hl 0 rfl) ?_
      exact px_iret hC hr hlk hw ⟨congrArg (fun z => some (Value.int z)) (if_pos h9).symm, rfl, rfl⟩ dX2_place_44 (Nat.le_refl _) (Nat.le_refl _)
  · skip
    refine lv_iconst (v := (-1)) hx hb dX2_place_12 (by decide) ?_
    exact px_iret hC hr hlk hw ⟨congrArg (fun z => some (Value.int z)) (if_neg h9).symm, rfl, rfl⟩ dX2_place_13 (Nat.le_refl _) (Nat.le_refl _)
