/-! The law's look after the minute (laid by wip/p34/gen/sim13.py). -/
set_option maxHeartbeats 1000000 in
set_option maxRecDepth 100000 in
theorem law_F {p : Program} {e : Env} {s : State} {m : MethodId} {below : List Frame} {meth : Method} {c : Code} {H : Heap} {locs : List Loc} {cells slots : Nat} {Q : State → Prop} {ls : Array Slot} {A : Nat → Prop} (l : Launch) (hl0 : l.stackTraces = false) (D : va_G) (cI cR : ClassId) (bb nn : Nat) (xs : Nat → Int32) (t o : Nat) (r : Nat → Nat) (S S2 : SS) (o1 : Nat) (r1 : Nat → Nat) (Tt : SS) (L : List Nat) (f : Nat → va_E) (sm G N : Nat) (hN : N ≤ 12) (hG4 : G ≤ 4) (hSN : S2 0 2 = nI N) (hSG : S2 0 1 = nI G) (hxk : ∀ k, k < N → xGoat S2 (nI k) = none)
  (hnx : ∀ k, k < N → S 9 k = 1 → (S2 9 k = 2 ∧ gxUn S G N k = 1) ∨ (S2 9 k = 0 ∧ ¬ gxUn S G N k = 1) ∨ (S2 9 k = 1 ∧ ¬ gxUn S G N k = 1 ∧ ((gxUn S G N k = -1 ∧ gxUn S2 G N k = -1) ∨ ∃ a, a ≤ 60 ∧ gxUn S G N k = nI (a + 1) ∧ gxUn S2 G N k = nI a)))
  (a b c9 d tm : Nat) (v5 : Int64) (k15 k18 k19 : Int32)
  (hC : CallFix p m c cL_law 23 s #[.ref bb] wsL_law RL) (hE : LE bb nn xs A s) (hK : va_K D vwCl (tyS cI cR) s) (hA : ∀ q, s.heap.size ≤ q → A q) (haL : a ∈ L) (hbL : b ∈ L) {xa xb : Nat → Int32} (hfa : f a = .inl (cI, N, .inl xa)) (hfb : f b = .inl (cI, N, .inl xb)) (ha9 : ∀ j, j < N → xa j = S 9 j) (hb9 : ∀ j, j < N → xb j = gxUn S G N j)
  (hcc : cells ≤ 758000) (hss : slots ≤ 6800000)
  (hw : SW D A s.heap (tw cI t o r S2 o1 r1 Tt) L f H locs) (hl : lv_has ls 23 [(20, .int (nI 0)), (17, .int 0), (16, .int 0), (19, .int k19), (18, .int k18), (15, .int k15), (12, .ref d), (11, .ref c9), (10, .ref b), (9, .ref a), (8, .int (nI G)), (7, .int (nI N)), (5, .long v5), (3, .int (nI tm)), (2, .ref sm), (1, .ref t), (0, .ref bb)])
  (kk : ∀ (Tz : SS) (H : Heap) (locs : List Loc) (ls : Array Slot), SW D A s.heap (tw cI t o r S2 o1 r1 Tz) L f H locs → lv_has ls 23 [(17, .int (loC S S2 N)), (16, .int (inC S S2 N)), (19, .int k19), (18, .int k18), (15, .int k15), (12, .ref d), (11, .ref c9), (10, .ref b), (9, .ref a), (8, .int (nI G)), (7, .int (nI N)), (5, .long v5), (3, .int (nI tm)), (2, .ref sm), (1, .ref t), (0, .ref bb)] → W p l e room_1 s m #[.ref bb] below meth c H locs (cells + 5 * N) (slots + 30 * N) Q (F0 m 1107 ls [])) : W p l e room_1 s m #[.ref bb] below meth c H locs cells slots Q (F0 m 971 ls []) := by
  have hx := hC.1
  have hb := hC.2.1
  refine px_loop (σ := SS) N (fun i => cells + 5 * i) (fun i => slots + 30 * i) (fun i Tz H locs ls => SW D A s.heap (tw cI t o r S2 o1 r1 Tz) L f H locs ∧ lv_has ls 23 [(20, .int (nI i)), (17, .int (loC S S2 i)), (16, .int (inC S S2 i)), (19, .int k19), (18, .int k18), (15, .int k15), (12, .ref d), (11, .ref c9), (10, .ref b), (9, .ref a), (8, .int (nI G)), (7, .int (nI N)), (5, .long v5), (3, .int (nI tm)), (2, .ref sm), (1, .ref t), (0, .ref bb)]) Tt ⟨hw, hl⟩ (Nat.le_refl _) (Nat.le_refl _) (fun i hi Tz H locs ls hX K1 => ?_) (fun Tz H locs ls hX => ?_)
  · obtain ⟨hw, hl⟩ := hX
    have eI : inC S S2 (i + 1) = inC S S2 i + (if S 9 i = 1 then (if S2 9 i = 2 then 1 else 0) else 0) := rfl
    have eL : loC S S2 (i + 1) = loC S S2 i + (if S 9 i = 1 then (if S2 9 i = 0 then 1 else 0) else 0) := rfl
    refine lv_iload hx hb dL_law_971 (lv_at hl 0 rfl) ?_
    refine lv_iload hx hb dL_law_973 (lv_at hl 11 rfl) ?_
    refine gt_ge_f (tgt := 1107) hC i N dL_law_975 (by decide) rfl rfl (by omega) (by omega) ?_
    refine lv_aload hx hb dL_law_978 (lv_at hl 9 rfl) ?_
    refine lv_iload hx hb dL_law_980 (lv_at hl 0 rfl) ?_
    refine px_ild hC i (v := S 9 i) hK hw haL hfa dL_law_982 rfl hi (by omega) (ha9 i hi) ?_
    refine gt_stk [.int (S 9 i)] rfl ?_
    refine lv_iconst (v := 1) hx hb dL_law_983 (by decide) ?_
    by_cases h9 : S 9 i = 1
    rotate_left
    · skip
      refine lv_icmp_eq (tgt := 990) hx hb dL_law_984 (by decide) (fun z => absurd z h9) (fun _ => ?_)
      rw [if_neg h9, Int32.add_zero] at eI eL
      rw [← eI, ← eL] at hl
      refine lv_goto (tgt := 1101) hx hb dL_law_987 (by decide) ?_
      refine gt_inc (lv' := [(20, .int (nI (i + 1))), (17, .int (loC S S2 (i + 1))), (16, .int (inC S S2 (i + 1))), (19, .int k19), (18, .int k18), (15, .int k15), (12, .ref d), (11, .ref c9), (10, .ref b), (9, .ref a), (8, .int (nI G)), (7, .int (nI N)), (5, .long v5), (3, .int (nI tm)), (2, .ref sm), (1, .ref t), (0, .ref bb)]) hC 0 i dL_law_1101 hl rfl rfl (by decide) rfl (fun ls hl => ?_)
      refine lv_goto (tgt := 971) hx hb dL_law_1104 (by decide) ?_
      exact K1 Tz H locs ls _ _ ⟨hw, lv_sub hl [0, 1, 2, 3, 4, 5, 6, 7, 8, 9, 10, 11, 12, 13, 14, 15, 16] rfl⟩ (by show _ ≤ cells + 5 * (i + 1); omega) (by show _ ≤ slots + 30 * (i + 1); omega)
    · skip
      refine lv_icmp_eq (tgt := 990) hx hb dL_law_984 (by decide) (fun _ => ?_) (fun z => absurd h9 z)
      rw [if_pos h9] at eI eL
      rcases hnx i hi h9 with ⟨h2, hu⟩ | ⟨h2, hu⟩ | ⟨h2, hu, hv⟩
      · rw [h2] at eI eL
        refine lv_iload hx hb dL_law_990 (lv_at hl 2 rfl) ?_
        refine lv_aload_n hx hb dL_law_992 rfl (lv_at hl 15 rfl) ?_
        refine lv_iload hx hb dL_law_993 (lv_at hl 0 rfl) ?_
        have hM := ct_X1_stateOf l hl0 D cI t o r S2 o1 r1 Tz (nI i) N hSN hN
        rw [cl_nI (show i < 12 by omega)] at hM
        refine tx_call hC 0 1 1 hM (hxk i hi) gL_law_X1_stateOf dL_law_995 hE hK hw hA hl.1 rfl hd_X1_stateOf ⟨Nat.le_of_ble_eq_true rfl, Nat.le_of_ble_eq_true rfl⟩ ⟨by show _ ≤ 760756; omega, by show _ ≤ 6819431; omega⟩ rfl rfl rfl rfl (Nat.le_of_ble_eq_true rfl) (fun H locs hw => ?_)
        refine gt_stk [.int (S2 9 i), .int (inC S S2 i)] rfl ?_
        refine gt_stk [.int 2, .int (inC S S2 i)] (by rw [h2]; try rfl) ?_
        refine lv_iconst (v := 2) hx hb dL_law_998 (by decide) ?_
        refine lv_icmp_ne (tgt := 1006) hx hb dL_law_999 (by decide) (fun z => absurd (by decide) z) (fun _ => ?_)
        refine lv_iconst (v := 1) hx hb dL_law_1002 (by decide) ?_
        refine lv_goto (tgt := 1007) hx hb dL_law_1003 (by decide) ?_
        refine lv_iadd hx hb dL_law_1007 ?_
        refine gt_stk [.int (inC S S2 (i + 1))] (by rw [eI]; try rfl) ?_
        refine lv_istore (lv' := [(16, .int (inC S S2 (i + 1))), (20, .int (nI i)), (17, .int (loC S S2 i)), (19, .int k19), (18, .int k18), (15, .int k15), (12, .ref d), (11, .ref c9), (10, .ref b), (9, .ref a), (8, .int (nI G)), (7, .int (nI N)), (5, .long v5), (3, .int (nI tm)), (2, .ref sm), (1, .ref t), (0, .ref bb)]) hx hb dL_law_1008 hl (by decide) rfl (fun ls hl => ?_)
        refine lv_iload hx hb dL_law_1010 (lv_at hl 2 rfl) ?_
        refine lv_aload_n hx hb dL_law_1012 rfl (lv_at hl 15 rfl) ?_
        refine lv_iload hx hb dL_law_1013 (lv_at hl 1 rfl) ?_
        have hM := ct_X1_stateOf l hl0 D cI t o r S2 o1 r1 Tz (nI i) N hSN hN
        rw [cl_nI (show i < 12 by omega)] at hM
        refine tx_call hC 0 1 1 hM (hxk i hi) gL_law_X1_stateOf dL_law_1015 hE hK hw hA hl.1 rfl hd_X1_stateOf ⟨Nat.le_of_ble_eq_true rfl, Nat.le_of_ble_eq_true rfl⟩ ⟨by show _ ≤ 760756; omega, by show _ ≤ 6819431; omega⟩ rfl rfl rfl rfl (Nat.le_of_ble_eq_true rfl) (fun H locs hw => ?_)
        refine gt_stk [.int (S2 9 i), .int (loC S S2 i)] rfl ?_
        refine gt_stk [.int 2, .int (loC S S2 i)] (by rw [h2]; try rfl) ?_
        refine lv_if_ne (tgt := 1025) hx hb dL_law_1018 (by decide) (fun _ => ?_) (fun z => absurd z (by decide))
        refine lv_iconst (v := 0) hx hb dL_law_1025 (by decide) ?_
        refine lv_iadd hx hb dL_law_1026 ?_
        refine gt_stk [.int (loC S S2 (i + 1))] (by rw [eL]; try rfl) ?_
        refine lv_istore (lv' := [(17, .int (loC S S2 (i + 1))), (16, .int (inC S S2 (i + 1))), (20, .int (nI i)), (19, .int k19), (18, .int k18), (15, .int k15), (12, .ref d), (11, .ref c9), (10, .ref b), (9, .ref a), (8, .int (nI G)), (7, .int (nI N)), (5, .long v5), (3, .int (nI tm)), (2, .ref sm), (1, .ref t), (0, .ref bb)]) hx hb dL_law_1027 hl (by decide) rfl (fun ls hl => ?_)
        refine lv_aload_n hx hb dL_law_1029 rfl (lv_at hl 15 rfl) ?_
        refine lv_iload hx hb dL_law_1030 (lv_at hl 2 rfl) ?_
        have hM := ct_X1_stateOf l hl0 D cI t o r S2 o1 r1 Tz (nI i) N hSN hN
        rw [cl_nI (show i < 12 by omega)] at hM
        refine tx_call hC 0 1 1 hM (hxk i hi) gL_law_X1_stateOf dL_law_1032 hE hK hw hA hl.1 rfl hd_X1_stateOf ⟨Nat.le_of_ble_eq_true rfl, Nat.le_of_ble_eq_true rfl⟩ ⟨by show _ ≤ 760756; omega, by show _ ≤ 6819431; omega⟩ rfl rfl rfl rfl (Nat.le_of_ble_eq_true rfl) (fun H locs hw => ?_)
        refine gt_stk [.int (S2 9 i)] rfl ?_
        refine gt_stk [.int 2] (by rw [h2]; try rfl) ?_
        refine lv_iconst (v := 2) hx hb dL_law_1035 (by decide) ?_
        refine lv_icmp_ne (tgt := 1043) hx hb dL_law_1036 (by decide) (fun z => absurd (by decide) z) (fun _ => ?_)
        refine lv_iconst (v := 1) hx hb dL_law_1039 (by decide) ?_
        refine lv_goto (tgt := 1044) hx hb dL_law_1040 (by decide) ?_
        refine lv_aload hx hb dL_law_1044 (lv_at hl 8 rfl) ?_
        refine lv_iload hx hb dL_law_1046 (lv_at hl 2 rfl) ?_
        refine px_ild hC i (v := gxUn S G N i) hK hw hbL hfb dL_law_1048 rfl hi (by omega) (hb9 i hi) ?_
        refine gt_stk [.int (gxUn S G N i), .int 1] rfl ?_
        refine lv_iconst (v := 1) hx hb dL_law_1049 (by decide) ?_
        refine lv_icmp_ne (tgt := 1057) hx hb dL_law_1050 (by decide) (fun z => absurd hu z) (fun _ => ?_)
        refine lv_iconst (v := 1) hx hb dL_law_1053 (by decide) ?_
        refine lv_goto (tgt := 1058) hx hb dL_law_1054 (by decide) ?_
        refine lv_icmp_ne (tgt := 1099) hx hb dL_law_1058 (by decide) (fun z => absurd (by decide) z) (fun _ => ?_)
        refine lv_aload_n hx hb dL_law_1061 rfl (lv_at hl 15 rfl) ?_
        refine lv_iload hx hb dL_law_1062 (lv_at hl 2 rfl) ?_
        have hM := ct_X1_stateOf l hl0 D cI t o r S2 o1 r1 Tz (nI i) N hSN hN
        rw [cl_nI (show i < 12 by omega)] at hM
        refine tx_call hC 0 1 1 hM (hxk i hi) gL_law_X1_stateOf dL_law_1064 hE hK hw hA hl.1 rfl hd_X1_stateOf ⟨Nat.le_of_ble_eq_true rfl, Nat.le_of_ble_eq_true rfl⟩ ⟨by show _ ≤ 760756; omega, by show _ ≤ 6819431; omega⟩ rfl rfl rfl rfl (Nat.le_of_ble_eq_true rfl) (fun H locs hw => ?_)
        refine gt_stk [.int (S2 9 i)] rfl ?_
        refine gt_stk [.int 2] (by rw [h2]; try rfl) ?_
        refine lv_iconst (v := 1) hx hb dL_law_1067 (by decide) ?_
        refine lv_icmp_ne (tgt := 1101) hx hb dL_law_1068 (by decide) (fun _ => ?_) (fun z => absurd z (by decide))
        refine gt_inc (lv' := [(20, .int (nI (i + 1))), (17, .int (loC S S2 (i + 1))), (16, .int (inC S S2 (i + 1))), (19, .int k19), (18, .int k18), (15, .int k15), (12, .ref d), (11, .ref c9), (10, .ref b), (9, .ref a), (8, .int (nI G)), (7, .int (nI N)), (5, .long v5), (3, .int (nI tm)), (2, .ref sm), (1, .ref t), (0, .ref bb)]) hC 2 i dL_law_1101 hl rfl rfl (by decide) rfl (fun ls hl => ?_)
        refine lv_goto (tgt := 971) hx hb dL_law_1104 (by decide) ?_
        exact K1 Tz H locs ls _ _ ⟨hw, lv_sub hl [0, 1, 2, 3, 4, 5, 6, 7, 8, 9, 10, 11, 12, 13, 14, 15, 16] rfl⟩ (by show _ ≤ cells + 5 * (i + 1); omega) (by show _ ≤ slots + 30 * (i + 1); omega)
      · rw [h2] at eI eL
        refine lv_iload hx hb dL_law_990 (lv_at hl 2 rfl) ?_
        refine lv_aload_n hx hb dL_law_992 rfl (lv_at hl 15 rfl) ?_
        refine lv_iload hx hb dL_law_993 (lv_at hl 0 rfl) ?_
        have hM := ct_X1_stateOf l hl0 D cI t o r S2 o1 r1 Tz (nI i) N hSN hN
        rw [cl_nI (show i < 12 by omega)] at hM
        refine tx_call hC 0 1 1 hM (hxk i hi) gL_law_X1_stateOf dL_law_995 hE hK hw hA hl.1 rfl hd_X1_stateOf ⟨Nat.le_of_ble_eq_true rfl, Nat.le_of_ble_eq_true rfl⟩ ⟨by show _ ≤ 760756; omega, by show _ ≤ 6819431; omega⟩ rfl rfl rfl rfl (Nat.le_of_ble_eq_true rfl) (fun H locs hw => ?_)
        refine gt_stk [.int (S2 9 i), .int (inC S S2 i)] rfl ?_
        refine gt_stk [.int 0, .int (inC S S2 i)] (by rw [h2]; try rfl) ?_
        refine lv_iconst (v := 2) hx hb dL_law_998 (by decide) ?_
        refine lv_icmp_ne (tgt := 1006) hx hb dL_law_999 (by decide) (fun _ => ?_) (fun z => absurd z (by decide))
        refine lv_iconst (v := 0) hx hb dL_law_1006 (by decide) ?_
        refine lv_iadd hx hb dL_law_1007 ?_
        refine gt_stk [.int (inC S S2 (i + 1))] (by rw [eI]; try rfl) ?_
        refine lv_istore (lv' := [(16, .int (inC S S2 (i + 1))), (20, .int (nI i)), (17, .int (loC S S2 i)), (19, .int k19), (18, .int k18), (15, .int k15), (12, .ref d), (11, .ref c9), (10, .ref b), (9, .ref a), (8, .int (nI G)), (7, .int (nI N)), (5, .long v5), (3, .int (nI tm)), (2, .ref sm), (1, .ref t), (0, .ref bb)]) hx hb dL_law_1008 hl (by decide) rfl (fun ls hl => ?_)
        refine lv_iload hx hb dL_law_1010 (lv_at hl 2 rfl) ?_
        refine lv_aload_n hx hb dL_law_1012 rfl (lv_at hl 15 rfl) ?_
        refine lv_iload hx hb dL_law_1013 (lv_at hl 1 rfl) ?_
        have hM := ct_X1_stateOf l hl0 D cI t o r S2 o1 r1 Tz (nI i) N hSN hN
        rw [cl_nI (show i < 12 by omega)] at hM
        refine tx_call hC 0 1 1 hM (hxk i hi) gL_law_X1_stateOf dL_law_1015 hE hK hw hA hl.1 rfl hd_X1_stateOf ⟨Nat.le_of_ble_eq_true rfl, Nat.le_of_ble_eq_true rfl⟩ ⟨by show _ ≤ 760756; omega, by show _ ≤ 6819431; omega⟩ rfl rfl rfl rfl (Nat.le_of_ble_eq_true rfl) (fun H locs hw => ?_)
        refine gt_stk [.int (S2 9 i), .int (loC S S2 i)] rfl ?_
        refine gt_stk [.int 0, .int (loC S S2 i)] (by rw [h2]; try rfl) ?_
        refine lv_if_ne (tgt := 1025) hx hb dL_law_1018 (by decide) (fun z => absurd (by decide) z) (fun _ => ?_)
        refine lv_iconst (v := 1) hx hb dL_law_1021 (by decide) ?_
        refine lv_goto (tgt := 1026) hx hb dL_law_1022 (by decide) ?_
        refine lv_iadd hx hb dL_law_1026 ?_
        refine gt_stk [.int (loC S S2 (i + 1))] (by rw [eL]; try rfl) ?_
        refine lv_istore (lv' := [(17, .int (loC S S2 (i + 1))), (16, .int (inC S S2 (i + 1))), (20, .int (nI i)), (19, .int k19), (18, .int k18), (15, .int k15), (12, .ref d), (11, .ref c9), (10, .ref b), (9, .ref a), (8, .int (nI G)), (7, .int (nI N)), (5, .long v5), (3, .int (nI tm)), (2, .ref sm), (1, .ref t), (0, .ref bb)]) hx hb dL_law_1027 hl (by decide) rfl (fun ls hl => ?_)
        refine lv_aload_n hx hb dL_law_1029 rfl (lv_at hl 15 rfl) ?_
        refine lv_iload hx hb dL_law_1030 (lv_at hl 2 rfl) ?_
        have hM := ct_X1_stateOf l hl0 D cI t o r S2 o1 r1 Tz (nI i) N hSN hN
        rw [cl_nI (show i < 12 by omega)] at hM
        refine tx_call hC 0 1 1 hM (hxk i hi) gL_law_X1_stateOf dL_law_1032 hE hK hw hA hl.1 rfl hd_X1_stateOf ⟨Nat.le_of_ble_eq_true rfl, Nat.le_of_ble_eq_true rfl⟩ ⟨by show _ ≤ 760756; omega, by show _ ≤ 6819431; omega⟩ rfl rfl rfl rfl (Nat.le_of_ble_eq_true rfl) (fun H locs hw => ?_)
        refine gt_stk [.int (S2 9 i)] rfl ?_
        refine gt_stk [.int 0] (by rw [h2]; try rfl) ?_
        refine lv_iconst (v := 2) hx hb dL_law_1035 (by decide) ?_
        refine lv_icmp_ne (tgt := 1043) hx hb dL_law_1036 (by decide) (fun _ => ?_) (fun z => absurd z (by decide))
        refine lv_iconst (v := 0) hx hb dL_law_1043 (by decide) ?_
        refine lv_aload hx hb dL_law_1044 (lv_at hl 8 rfl) ?_
        refine lv_iload hx hb dL_law_1046 (lv_at hl 2 rfl) ?_
        refine px_ild hC i (v := gxUn S G N i) hK hw hbL hfb dL_law_1048 rfl hi (by omega) (hb9 i hi) ?_
        refine gt_stk [.int (gxUn S G N i), .int 0] rfl ?_
        refine lv_iconst (v := 1) hx hb dL_law_1049 (by decide) ?_
        refine lv_icmp_ne (tgt := 1057) hx hb dL_law_1050 (by decide) (fun _ => ?_) (fun z => absurd z hu)
        refine lv_iconst (v := 0) hx hb dL_law_1057 (by decide) ?_
        refine lv_icmp_ne (tgt := 1099) hx hb dL_law_1058 (by decide) (fun z => absurd (by decide) z) (fun _ => ?_)
        refine lv_aload_n hx hb dL_law_1061 rfl (lv_at hl 15 rfl) ?_
        refine lv_iload hx hb dL_law_1062 (lv_at hl 2 rfl) ?_
        have hM := ct_X1_stateOf l hl0 D cI t o r S2 o1 r1 Tz (nI i) N hSN hN
        rw [cl_nI (show i < 12 by omega)] at hM
        refine tx_call hC 0 1 1 hM (hxk i hi) gL_law_X1_stateOf dL_law_1064 hE hK hw hA hl.1 rfl hd_X1_stateOf ⟨Nat.le_of_ble_eq_true rfl, Nat.le_of_ble_eq_true rfl⟩ ⟨by show _ ≤ 760756; omega, by show _ ≤ 6819431; omega⟩ rfl rfl rfl rfl (Nat.le_of_ble_eq_true rfl) (fun H locs hw => ?_)
        refine gt_stk [.int (S2 9 i)] rfl ?_
        refine gt_stk [.int 0] (by rw [h2]; try rfl) ?_
        refine lv_iconst (v := 1) hx hb dL_law_1067 (by decide) ?_
        refine lv_icmp_ne (tgt := 1101) hx hb dL_law_1068 (by decide) (fun _ => ?_) (fun z => absurd z (by decide))
        refine gt_inc (lv' := [(20, .int (nI (i + 1))), (17, .int (loC S S2 (i + 1))), (16, .int (inC S S2 (i + 1))), (19, .int k19), (18, .int k18), (15, .int k15), (12, .ref d), (11, .ref c9), (10, .ref b), (9, .ref a), (8, .int (nI G)), (7, .int (nI N)), (5, .long v5), (3, .int (nI tm)), (2, .ref sm), (1, .ref t), (0, .ref bb)]) hC 2 i dL_law_1101 hl rfl rfl (by decide) rfl (fun ls hl => ?_)
        refine lv_goto (tgt := 971) hx hb dL_law_1104 (by decide) ?_
        exact K1 Tz H locs ls _ _ ⟨hw, lv_sub hl [0, 1, 2, 3, 4, 5, 6, 7, 8, 9, 10, 11, 12, 13, 14, 15, 16] rfl⟩ (by show _ ≤ cells + 5 * (i + 1); omega) (by show _ ≤ slots + 30 * (i + 1); omega)
      · rw [h2] at eI eL
        refine lv_iload hx hb dL_law_990 (lv_at hl 2 rfl) ?_
        refine lv_aload_n hx hb dL_law_992 rfl (lv_at hl 15 rfl) ?_
        refine lv_iload hx hb dL_law_993 (lv_at hl 0 rfl) ?_
        have hM := ct_X1_stateOf l hl0 D cI t o r S2 o1 r1 Tz (nI i) N hSN hN
        rw [cl_nI (show i < 12 by omega)] at hM
        refine tx_call hC 0 1 1 hM (hxk i hi) gL_law_X1_stateOf dL_law_995 hE hK hw hA hl.1 rfl hd_X1_stateOf ⟨Nat.le_of_ble_eq_true rfl, Nat.le_of_ble_eq_true rfl⟩ ⟨by show _ ≤ 760756; omega, by show _ ≤ 6819431; omega⟩ rfl rfl rfl rfl (Nat.le_of_ble_eq_true rfl) (fun H locs hw => ?_)
        refine gt_stk [.int (S2 9 i), .int (inC S S2 i)] rfl ?_
        refine gt_stk [.int 1, .int (inC S S2 i)] (by rw [h2]; try rfl) ?_
        refine lv_iconst (v := 2) hx hb dL_law_998 (by decide) ?_
        refine lv_icmp_ne (tgt := 1006) hx hb dL_law_999 (by decide) (fun _ => ?_) (fun z => absurd z (by decide))
        refine lv_iconst (v := 0) hx hb dL_law_1006 (by decide) ?_
        refine lv_iadd hx hb dL_law_1007 ?_
        refine gt_stk [.int (inC S S2 (i + 1))] (by rw [eI]; try rfl) ?_
        refine lv_istore (lv' := [(16, .int (inC S S2 (i + 1))), (20, .int (nI i)), (17, .int (loC S S2 i)), (19, .int k19), (18, .int k18), (15, .int k15), (12, .ref d), (11, .ref c9), (10, .ref b), (9, .ref a), (8, .int (nI G)), (7, .int (nI N)), (5, .long v5), (3, .int (nI tm)), (2, .ref sm), (1, .ref t), (0, .ref bb)]) hx hb dL_law_1008 hl (by decide) rfl (fun ls hl => ?_)
        refine lv_iload hx hb dL_law_1010 (lv_at hl 2 rfl) ?_
        refine lv_aload_n hx hb dL_law_1012 rfl (lv_at hl 15 rfl) ?_
        refine lv_iload hx hb dL_law_1013 (lv_at hl 1 rfl) ?_
        have hM := ct_X1_stateOf l hl0 D cI t o r S2 o1 r1 Tz (nI i) N hSN hN
        rw [cl_nI (show i < 12 by omega)] at hM
        refine tx_call hC 0 1 1 hM (hxk i hi) gL_law_X1_stateOf dL_law_1015 hE hK hw hA hl.1 rfl hd_X1_stateOf ⟨Nat.le_of_ble_eq_true rfl, Nat.le_of_ble_eq_true rfl⟩ ⟨by show _ ≤ 760756; omega, by show _ ≤ 6819431; omega⟩ rfl rfl rfl rfl (Nat.le_of_ble_eq_true rfl) (fun H locs hw => ?_)
        refine gt_stk [.int (S2 9 i), .int (loC S S2 i)] rfl ?_
        refine gt_stk [.int 1, .int (loC S S2 i)] (by rw [h2]; try rfl) ?_
        refine lv_if_ne (tgt := 1025) hx hb dL_law_1018 (by decide) (fun _ => ?_) (fun z => absurd z (by decide))
        refine lv_iconst (v := 0) hx hb dL_law_1025 (by decide) ?_
        refine lv_iadd hx hb dL_law_1026 ?_
        refine gt_stk [.int (loC S S2 (i + 1))] (by rw [eL]; try rfl) ?_
        refine lv_istore (lv' := [(17, .int (loC S S2 (i + 1))), (16, .int (inC S S2 (i + 1))), (20, .int (nI i)), (19, .int k19), (18, .int k18), (15, .int k15), (12, .ref d), (11, .ref c9), (10, .ref b), (9, .ref a), (8, .int (nI G)), (7, .int (nI N)), (5, .long v5), (3, .int (nI tm)), (2, .ref sm), (1, .ref t), (0, .ref bb)]) hx hb dL_law_1027 hl (by decide) rfl (fun ls hl => ?_)
        refine lv_aload_n hx hb dL_law_1029 rfl (lv_at hl 15 rfl) ?_
        refine lv_iload hx hb dL_law_1030 (lv_at hl 2 rfl) ?_
        have hM := ct_X1_stateOf l hl0 D cI t o r S2 o1 r1 Tz (nI i) N hSN hN
        rw [cl_nI (show i < 12 by omega)] at hM
        refine tx_call hC 0 1 1 hM (hxk i hi) gL_law_X1_stateOf dL_law_1032 hE hK hw hA hl.1 rfl hd_X1_stateOf ⟨Nat.le_of_ble_eq_true rfl, Nat.le_of_ble_eq_true rfl⟩ ⟨by show _ ≤ 760756; omega, by show _ ≤ 6819431; omega⟩ rfl rfl rfl rfl (Nat.le_of_ble_eq_true rfl) (fun H locs hw => ?_)
        refine gt_stk [.int (S2 9 i)] rfl ?_
        refine gt_stk [.int 1] (by rw [h2]; try rfl) ?_
        refine lv_iconst (v := 2) hx hb dL_law_1035 (by decide) ?_
        refine lv_icmp_ne (tgt := 1043) hx hb dL_law_1036 (by decide) (fun _ => ?_) (fun z => absurd z (by decide))
        refine lv_iconst (v := 0) hx hb dL_law_1043 (by decide) ?_
        refine lv_aload hx hb dL_law_1044 (lv_at hl 8 rfl) ?_
        refine lv_iload hx hb dL_law_1046 (lv_at hl 2 rfl) ?_
        refine px_ild hC i (v := gxUn S G N i) hK hw hbL hfb dL_law_1048 rfl hi (by omega) (hb9 i hi) ?_
        refine gt_stk [.int (gxUn S G N i), .int 0] rfl ?_
        refine lv_iconst (v := 1) hx hb dL_law_1049 (by decide) ?_
        refine lv_icmp_ne (tgt := 1057) hx hb dL_law_1050 (by decide) (fun _ => ?_) (fun z => absurd z hu)
        refine lv_iconst (v := 0) hx hb dL_law_1057 (by decide) ?_
        refine lv_icmp_ne (tgt := 1099) hx hb dL_law_1058 (by decide) (fun z => absurd (by decide) z) (fun _ => ?_)
        refine lv_aload_n hx hb dL_law_1061 rfl (lv_at hl 15 rfl) ?_
        refine lv_iload hx hb dL_law_1062 (lv_at hl 2 rfl) ?_
        have hM := ct_X1_stateOf l hl0 D cI t o r S2 o1 r1 Tz (nI i) N hSN hN
        rw [cl_nI (show i < 12 by omega)] at hM
        refine tx_call hC 0 1 1 hM (hxk i hi) gL_law_X1_stateOf dL_law_1064 hE hK hw hA hl.1 rfl hd_X1_stateOf ⟨Nat.le_of_ble_eq_true rfl, Nat.le_of_ble_eq_true rfl⟩ ⟨by show _ ≤ 760756; omega, by show _ ≤ 6819431; omega⟩ rfl rfl rfl rfl (Nat.le_of_ble_eq_true rfl) (fun H locs hw => ?_)
        refine gt_stk [.int (S2 9 i)] rfl ?_
        refine gt_stk [.int 1] (by rw [h2]; try rfl) ?_
        refine lv_iconst (v := 1) hx hb dL_law_1067 (by decide) ?_
        refine lv_icmp_ne (tgt := 1101) hx hb dL_law_1068 (by decide) (fun z => absurd (by decide) z) (fun _ => ?_)
        refine lv_aload_n hx hb dL_law_1071 rfl (lv_at hl 15 rfl) ?_
        refine lv_iload hx hb dL_law_1072 (lv_at hl 2 rfl) ?_
        have hM := ct_X1_minutesUntilIn l hl0 D cI t o r S2 o1 r1 Tz (nI i) N hSN hN G hSG hG4
        rw [cl_nI (show i < 12 by omega)] at hM
        refine tx_call hC 0 1 1 hM (hxk i hi) gL_law_X1_minutesUntilIn dL_law_1074 hE hK hw hA hl.1 rfl hd_X1_minutesUntilIn ⟨Nat.le_of_ble_eq_true rfl, Nat.le_of_ble_eq_true rfl⟩ ⟨by show _ ≤ 760756; omega, by show _ ≤ 6819431; omega⟩ rfl rfl rfl rfl (Nat.le_of_ble_eq_true rfl) (fun H locs hw => ?_)
        refine tw_any hw (fun Tq1 hw => ?_)
        refine gt_stk [.int (gxUn S2 G N i)] rfl ?_
        refine lv_aload hx hb dL_law_1077 (lv_at hl 8 rfl) ?_
        refine lv_iload hx hb dL_law_1079 (lv_at hl 2 rfl) ?_
        refine px_ild hC i (v := gxUn S G N i) hK hw hbL hfb dL_law_1081 rfl hi (by omega) (hb9 i hi) ?_
        refine gt_stk [.int (gxUn S G N i), .int (gxUn S2 G N i)] rfl ?_
        rcases hv with ⟨hv1, hv2⟩ | ⟨a9, q9, hv1, hv2⟩
        · skip
          refine lv_if_ge (tgt := 1089) hx hb dL_law_1082 (by decide) (fun z => absurd z (by rw [hv1]; decide)) (fun _ => ?_)
          refine lv_iconst (v := (-1)) hx hb dL_law_1085 (by decide) ?_
          refine lv_goto (tgt := 1096) hx hb dL_law_1086 (by decide) ?_
          refine lv_icmp_eq (tgt := 1101) hx hb dL_law_1096 (by decide) (fun _ => ?_) (fun z => absurd hv2 z)
          refine gt_inc (lv' := [(20, .int (nI (i + 1))), (17, .int (loC S S2 (i + 1))), (16, .int (inC S S2 (i + 1))), (19, .int k19), (18, .int k18), (15, .int k15), (12, .ref d), (11, .ref c9), (10, .ref b), (9, .ref a), (8, .int (nI G)), (7, .int (nI N)), (5, .long v5), (3, .int (nI tm)), (2, .ref sm), (1, .ref t), (0, .ref bb)]) hC 2 i dL_law_1101 hl rfl rfl (by decide) rfl (fun ls hl => ?_)
          refine lv_goto (tgt := 971) hx hb dL_law_1104 (by decide) ?_
          exact K1 Tq1 H locs ls _ _ ⟨hw, lv_sub hl [0, 1, 2, 3, 4, 5, 6, 7, 8, 9, 10, 11, 12, 13, 14, 15, 16] rfl⟩ (by show _ ≤ cells + 5 * (i + 1); omega) (by show _ ≤ slots + 30 * (i + 1); omega)
        · skip
          refine lv_if_ge (tgt := 1089) hx hb dL_law_1082 (by decide) (fun _ => ?_) (fun z => absurd (by rw [hv1]; exact nI_ge0 (by omega)) z)
          refine lv_aload hx hb dL_law_1089 (lv_at hl 8 rfl) ?_
          refine lv_iload hx hb dL_law_1091 (lv_at hl 2 rfl) ?_
          refine px_ild hC i (v := gxUn S G N i) hK hw hbL hfb dL_law_1093 rfl hi (by omega) (hb9 i hi) ?_
          refine gt_stk [.int (gxUn S G N i), .int (gxUn S2 G N i)] rfl ?_
          refine lv_iconst (v := 1) hx hb dL_law_1094 (by decide) ?_
          refine lv_isub hx hb dL_law_1095 ?_
          refine lv_icmp_eq (tgt := 1101) hx hb dL_law_1096 (by decide) (fun _ => ?_) (fun z => absurd (by rw [hv1, hv2, ← nI_1, Int32.add_sub_cancel]) z)
          refine gt_inc (lv' := [(20, .int (nI (i + 1))), (17, .int (loC S S2 (i + 1))), (16, .int (inC S S2 (i + 1))), (19, .int k19), (18, .int k18), (15, .int k15), (12, .ref d), (11, .ref c9), (10, .ref b), (9, .ref a), (8, .int (nI G)), (7, .int (nI N)), (5, .long v5), (3, .int (nI tm)), (2, .ref sm), (1, .ref t), (0, .ref bb)]) hC 2 i dL_law_1101 hl rfl rfl (by decide) rfl (fun ls hl => ?_)
          refine lv_goto (tgt := 971) hx hb dL_law_1104 (by decide) ?_
          exact K1 Tq1 H locs ls _ _ ⟨hw, lv_sub hl [0, 1, 2, 3, 4, 5, 6, 7, 8, 9, 10, 11, 12, 13, 14, 15, 16] rfl⟩ (by show _ ≤ cells + 5 * (i + 1); omega) (by show _ ≤ slots + 30 * (i + 1); omega)
  · obtain ⟨hw, hl⟩ := hX
    refine lv_iload hx hb dL_law_971 (lv_at hl 0 rfl) ?_
    refine lv_iload hx hb dL_law_973 (lv_at hl 11 rfl) ?_
    refine gt_ge_t (tgt := 1107) hC N N dL_law_975 (by decide) rfl rfl (Nat.le_refl _) (by omega) ?_
    exact kk Tz H locs ls hw (lv_sub hl [1, 2, 3, 4, 5, 6, 7, 8, 9, 10, 11, 12, 13, 14, 15, 16] rfl)
