/-! isSame (laid by wip/p34/gen/sim9.py). -/
theorem hd_X2_isSame : yX2_isSame.cls = RX2 ∧ yX2_isSame.cls ≠ "java/lang/invoke/MethodHandle" ∧ yX2_isSame.cls ≠ "java/lang/invoke/VarHandle" ∧ (parseMethodDescriptor yX2_isSame.desc).map (fun d => d.parameters.length) = some 1 := by decide +kernel
set_option maxHeartbeats 16000000 in
set_option maxRecDepth 100000 in
theorem ct_X2_isSame (l : Launch) (hl0 : l.stackTraces = false) (D : va_G) (cI cR : ClassId) (bb nn : Nat) (xs : Nat → Int32) (t o : Nat) (r : Nat → Nat) (S : SS) (o1 : Nat) (r1 : Nat → Nat) (Tt : SS) (L : List Nat) (f : Nat → va_E) (ad : Nat → Nat → Nat) (T G N : Nat) (M : SS) (Ls : Nat → List Nat) (hI : SimI cI cR L f ad G N G M Ls) (hLI : LI T G N S M Ls) (hG1 : 0 < G) : CtL l D cI cR bb nn xs yX2_isSame wsX2_isSame 8 130 110 660 [.ref (ad 0 0), .ref t] (tw cI t o r S o1 r1 Tt) L f (fun rv X1 L1 f1 => rv = some (.int 1) ∧ X1 = tw cI t o r S o1 r1 Tt ∧ L1 = L ∧ f1 = f) := by
  refine CtL.ofW (cc := cX2_isSame) (maxL := 7) (ret := some .boolean) (by decide) rfl (Nat.le_of_ble_eq_true rfl) ?_
  intro p e s m below meth c A ls hC hr hlk hE hw hK hA hl
  have hx := hC.1
  have hb := hC.2.1
  have hinX2 : ∀ w ∈ wsX20, w ∈ wsX2_isSame := fun _ _h => List.mem_cons_of_mem _ (List.mem_append_left _ (List.mem_append_left _ (List.mem_append_left _ (List.mem_append_right _ _h))))
  have hl : lv_has ls 7 [(0, .ref (ad 0 0)), (1, .ref t)] := hl
  have hN := hLI.1.1
  have hG4 := hLI.1.2.1
  have hSG := hLI.1.2.2.1
  have hSN := hLI.1.2.2.2.1
  refine lv_iconst (v := 0) hx hb dX2_isSame_0 (by decide) ?_
  refine lv_istore_n (lv' := [(2, .int 0), (0, .ref (ad 0 0)), (1, .ref t)]) hx hb dX2_isSame_1 rfl hl (by decide) rfl (fun ls hl => ?_)
  refine lv_iconst (v := 0) hx hb dX2_isSame_2 (by decide) ?_
  refine lv_istore_n (lv' := [(3, .int 0), (2, .int 0), (0, .ref (ad 0 0)), (1, .ref t)]) hx hb dX2_isSame_3 rfl hl (by decide) rfl (fun ls hl => ?_)
  refine lv_iconst (v := 0) hx hb dX2_isSame_4 (by decide) ?_
  refine lv_istore (lv' := [(4, .int 0), (3, .int 0), (2, .int 0), (0, .ref (ad 0 0)), (1, .ref t)]) hx hb dX2_isSame_5 hl (by decide) rfl (fun ls hl => ?_)
  refine px_loop (σ := Unit) N (fun i => 7 * i) (fun i => 42 * i) (fun i _ H locs ls => SW D A s.heap (tw cI t o r S o1 r1 Tt) L f H locs ∧ lv_has ls 7 [(4, .int (nI i)), (3, .int (mSum M i)), (2, .int (mStv M i)), (0, .ref (ad 0 0)), (1, .ref t)]) () ⟨hw, lv_sub hl [0, 1, 2, 3, 4] rfl⟩ (Nat.le_refl _) (Nat.le_refl _) (fun i hi _ H locs ls hX K2 => ?_) (fun _ H locs ls hX => ?_)
  · obtain ⟨hw, hl⟩ := hX
    have hst := hLI.st hi
    have hgr := hLI.gr hi
    have hz := hLI.z hi
    obtain ⟨g0, hg0, hpl⟩ : ∃ g0, (M 0 i = 1 → M 1 i = nI g0 ∧ g0 < G ∧ i ∈ Ls g0) ∧ ((Ls g0).length ≤ 12 ∧ ∀ c ∈ Ls g0, c < 12) ∧ (M 0 i = 1 → M 1 i = nI g0 ∧ g0 < G) := by
      by_cases h1 : M 0 i = 1
      · obtain ⟨g0, q1, q2⟩ := hLI.2.1.1 i hi h1
        obtain ⟨b1, b2, b3⟩ := hLI.2.1.lb hN q1
        exact ⟨g0, fun _ => ⟨q2, q1, ((hLI.2.1.2 g0 q1).1 i).mpr ⟨hi, h1, q2⟩⟩, ⟨b1, b3⟩, fun _ => ⟨q2, q1⟩⟩
      · obtain ⟨b1, b2, b3⟩ := hLI.2.1.lb hN hG1
        exact ⟨0, fun z => absurd z h1, ⟨b1, b3⟩, fun z => absurd z h1⟩
    refine lv_iload hx hb dX2_isSame_7 (lv_at hl 0 rfl) ?_
    refine lv_aload_n hx hb dX2_isSame_9 rfl (lv_at hl 3 rfl) ?_
    refine sm_fld hC 4 1 hinX2 hK hw hI dX2_isSame_10 rfl (by decide) rfl rfl ?_
    refine sm_kn hC hK hw hI dX2_isSame_13 ?_
    refine gt_ge_f (tgt := 223) hC i N dX2_isSame_14 (by decide) rfl rfl (by omega) (by omega) ?_
    refine lv_aload_n hx hb dX2_isSame_17 rfl (lv_at hl 3 rfl) ?_
    refine sm_fld hC 4 1 hinX2 hK hw hI dX2_isSame_18 rfl (by decide) rfl rfl ?_
    refine lv_iload hx hb dX2_isSame_21 (lv_at hl 0 rfl) ?_
    refine sm_ka hC i hK hw hI dX2_isSame_23 rfl hi (by omega) ?_
    refine lv_astore (lv' := [(5, .ref (ad 2 i)), (4, .int (nI i)), (3, .int (mSum M i)), (2, .int (mStv M i)), (0, .ref (ad 0 0)), (1, .ref t)]) hx hb dX2_isSame_24 hl (by decide) rfl (fun ls hl => ?_)
    refine lv_iload_n hx hb dX2_isSame_26 rfl (lv_at hl 3 rfl) ?_
    refine lx_meet (σ := Unit) (fun _ => True) (fun _ => [.int (if mIs M i 1 = 0 then 0 else (if M 5 i ≤ 7 then 0 else 1)), .int (mStv M i)]) 50 hw (fun K1 => ?_) (fun _ H locs _ hw => ?_)
    · skip
      refine lv_aload hx hb dX2_isSame_27 (lv_at hl 0 rfl) ?_
      refine lv_iconst (v := 1) hx hb dX2_isSame_29 (by decide) ?_
      refine sm_k hC 1 0 hK hw hI hi dX2_isSame_30 rfl (by decide) rfl ?_
      refine lv_iconst (v := 1) hx hb dX2_isSame_31 (by decide) ?_
      refine lv_icmp_ne (tgt := 49) hx hb dX2_isSame_32 (by decide) (fun h32 : ¬ (M 0 i = 1) => ?_) (fun h32 : M 0 i = 1 => ?_)
      · skip
        refine lv_iconst (v := 0) hx hb dX2_isSame_49 (by decide) ?_
        refine gt_stk [.int (if mIs M i 1 = 0 then 0 else (if M 5 i ≤ 7 then 0 else 1)), .int (mStv M i)] (by rw [show mIs M i 1 = 0 from if_neg h32]; try rfl) ?_
        exact K1 () H locs trivial hw
      · skip
        refine lv_aload hx hb dX2_isSame_35 (lv_at hl 0 rfl) ?_
        refine lv_bipush (v := 6) hx hb dX2_isSame_37 (by decide) ?_
        refine sm_k hC 6 5 hK hw hI hi dX2_isSame_39 rfl (by decide) rfl ?_
        refine lv_bipush (v := 8) hx hb dX2_isSame_40 (by decide) ?_
        refine lv_icmp_lt (tgt := 49) hx hb dX2_isSame_42 (by decide) (fun h42 : M 5 i < 8 => ?_) (fun h42 : ¬ (M 5 i < 8) => ?_)
        · skip
          refine lv_iconst (v := 0) hx hb dX2_isSame_49 (by decide) ?_
          refine gt_stk [.int (if mIs M i 1 = 0 then 0 else (if M 5 i ≤ 7 then 0 else 1)), .int (mStv M i)] (by rw [show mIs M i 1 = 1 from if_pos h32, if_neg (by decide), if_pos ((lt8_le7 _).mp h42)]; try rfl) ?_
          exact K1 () H locs trivial hw
        · skip
          refine lv_iconst (v := 1) hx hb dX2_isSame_45 (by decide) ?_
          refine lv_goto (tgt := 50) hx hb dX2_isSame_46 (by decide) ?_
          refine gt_stk [.int (if mIs M i 1 = 0 then 0 else (if M 5 i ≤ 7 then 0 else 1)), .int (mStv M i)] (by rw [show mIs M i 1 = 1 from if_pos h32, if_neg (by decide), if_neg (fun z => h42 ((lt8_le7 _).mpr z))]; try rfl) ?_
          exact K1 () H locs trivial hw
    refine lv_iadd hx hb dX2_isSame_50 ?_
    refine gt_stk [.int (mStv M (i + 1))] rfl ?_
    refine lv_istore_n (lv' := [(2, .int (mStv M (i + 1))), (5, .ref (ad 2 i)), (4, .int (nI i)), (3, .int (mSum M i)), (0, .ref (ad 0 0)), (1, .ref t)]) hx hb dX2_isSame_51 rfl hl (by decide) rfl (fun ls hl => ?_)
    refine lv_iload_n hx hb dX2_isSame_52 rfl (lv_at hl 3 rfl) ?_
    refine lv_aload hx hb dX2_isSame_53 (lv_at hl 1 rfl) ?_
    refine lv_bipush (v := 7) hx hb dX2_isSame_55 (by decide) ?_
    refine sm_k hC 7 6 hK hw hI hi dX2_isSame_57 rfl (by decide) rfl ?_
    refine lv_iadd hx hb dX2_isSame_58 ?_
    refine gt_stk [.int (mSum M (i + 1))] rfl ?_
    refine lv_istore_n (lv' := [(3, .int (mSum M (i + 1))), (2, .int (mStv M (i + 1))), (5, .ref (ad 2 i)), (4, .int (nI i)), (0, .ref (ad 0 0)), (1, .ref t)]) hx hb dX2_isSame_59 rfl hl (by decide) rfl (fun ls hl => ?_)
    refine lx_meet (σ := Unit) (fun _ => True) (fun _ => [.int (mLeft M i)]) 96 hw (fun K1 => ?_) (fun _ H locs _ hw => ?_)
    · skip
      refine lv_aload hx hb dX2_isSame_60 (lv_at hl 2 rfl) ?_
      refine lv_iconst (v := 1) hx hb dX2_isSame_62 (by decide) ?_
      refine sm_k hC 1 0 hK hw hI hi dX2_isSame_63 rfl (by decide) rfl ?_
      refine lv_if_ne (tgt := 71) hx hb dX2_isSame_64 (by decide) (fun h64 : ¬ (M 0 i = 0) => ?_) (fun h64 : M 0 i = 0 => ?_)
      · skip
        refine lv_aload hx hb dX2_isSame_71 (lv_at hl 2 rfl) ?_
        refine lv_iconst (v := 1) hx hb dX2_isSame_73 (by decide) ?_
        refine sm_k hC 1 0 hK hw hI hi dX2_isSame_74 rfl (by decide) rfl ?_
        refine lv_iconst (v := 1) hx hb dX2_isSame_75 (by decide) ?_
        refine lv_icmp_ne (tgt := 92) hx hb dX2_isSame_76 (by decide) (fun h76 : ¬ (M 0 i = 1) => ?_) (fun h76 : M 0 i = 1 => ?_)
        · skip
          refine lv_aload hx hb dX2_isSame_92 (lv_at hl 2 rfl) ?_
          refine lv_iconst (v := 4) hx hb dX2_isSame_94 (by decide) ?_
          refine sm_k hC 4 3 hK hw hI hi dX2_isSame_95 rfl (by decide) rfl ?_
          refine gt_stk [.int (mLeft M i)] (by rw [show mLeft M i = M 3 i from (if_pos (show mIs M i 1 = 0 from if_neg h76)).trans (if_neg (by rw [show mIs M i 2 = 1 from if_pos ((hz.resolve_left h64).resolve_left h76)]; decide))]) ?_
          exact K1 () H locs trivial hw
        · skip
          refine lv_aload hx hb dX2_isSame_79 (lv_at hl 2 rfl) ?_
          refine lv_iconst (v := 5) hx hb dX2_isSame_81 (by decide) ?_
          refine sm_k hC 5 4 hK hw hI hi dX2_isSame_82 rfl (by decide) rfl ?_
          refine lv_aload hx hb dX2_isSame_83 (lv_at hl 2 rfl) ?_
          refine lv_bipush (v := 6) hx hb dX2_isSame_85 (by decide) ?_
          refine sm_k hC 6 5 hK hw hI hi dX2_isSame_87 rfl (by decide) rfl ?_
          refine lv_isub hx hb dX2_isSame_88 ?_
          refine lv_goto (tgt := 96) hx hb dX2_isSame_89 (by decide) ?_
          refine gt_stk [.int (mLeft M i)] (by rw [show mLeft M i = M 4 i - M 5 i from if_neg (by rw [show mIs M i 1 = 1 from if_pos h76]; decide)]) ?_
          exact K1 () H locs trivial hw
      · skip
        refine lv_iconst (v := 0) hx hb dX2_isSame_67 (by decide) ?_
        refine lv_goto (tgt := 96) hx hb dX2_isSame_68 (by decide) ?_
        refine gt_stk [.int (mLeft M i)] (by rw [show mLeft M i = 0 from (if_pos (show mIs M i 1 = 0 from if_neg (by rw [h64]; decide))).trans (if_pos (show mIs M i 2 = 0 from if_neg (by rw [h64]; decide)))]; try rfl) ?_
        exact K1 () H locs trivial hw
    refine lv_istore (lv' := [(6, .int (mLeft M i)), (3, .int (mSum M (i + 1))), (2, .int (mStv M (i + 1))), (5, .ref (ad 2 i)), (4, .int (nI i)), (0, .ref (ad 0 0)), (1, .ref t)]) hx hb dX2_isSame_96 hl (by decide) rfl (fun ls hl => ?_)
    refine lv_aload_n hx hb dX2_isSame_98 rfl (lv_at hl 6 rfl) ?_
    refine lv_iload hx hb dX2_isSame_99 (lv_at hl 4 rfl) ?_
    have hM := ct_X1_stateOf l hl0 D cI t o r S o1 r1 Tt (nI i) N hSN hN
    rw [cl_nI (show i < 12 by omega)] at hM
    refine tx_call hC 0 1 1 hM (xGoat_in hLI.1 hi) gX2_isSame_X1_stateOf dX2_isSame_101 hE hK hw hA hl.1 rfl hd_X1_stateOf ⟨Nat.le_of_ble_eq_true rfl, Nat.le_of_ble_eq_true rfl⟩ ⟨by show _ ≤ 110; omega, by show _ ≤ 660; omega⟩ rfl rfl rfl rfl (Nat.le_of_ble_eq_true rfl) (fun H locs hw => ?_)
    refine gt_stk [.int (S 9 i)] rfl ?_
    refine lv_aload hx hb dX2_isSame_104 (lv_at hl 3 rfl) ?_
    refine lv_iconst (v := 1) hx hb dX2_isSame_106 (by decide) ?_
    refine sm_k hC 1 0 hK hw hI hi dX2_isSame_107 rfl (by decide) rfl ?_
    refine lv_icmp_ne (tgt := 215) hx hb dX2_isSame_108 (by decide) (fun z => absurd hst.symm z) (fun _ => ?_)
    refine lv_aload_n hx hb dX2_isSame_111 rfl (lv_at hl 6 rfl) ?_
    refine lv_iload hx hb dX2_isSame_112 (lv_at hl 4 rfl) ?_
    have hM := ct_X1_gateOf l hl0 D cI t o r S o1 r1 Tt (nI i) N hSN hN
    rw [cl_nI (show i < 12 by omega)] at hM
    refine tx_call hC 0 1 1 hM (xGoat_in hLI.1 hi) gX2_isSame_X1_gateOf dX2_isSame_114 hE hK hw hA hl.1 rfl hd_X1_gateOf ⟨Nat.le_of_ble_eq_true rfl, Nat.le_of_ble_eq_true rfl⟩ ⟨by show _ ≤ 110; omega, by show _ ≤ 660; omega⟩ rfl rfl rfl rfl (Nat.le_of_ble_eq_true rfl) (fun H locs hw => ?_)
    refine gt_stk [.int (S 10 i)] rfl ?_
    refine lx_meet (σ := Unit) (fun _ => True) (fun _ => [.int (mWhere M i), .int (S 10 i)]) 132 hw (fun K1 => ?_) (fun _ H locs _ hw => ?_)
    · skip
      refine lv_aload hx hb dX2_isSame_117 (lv_at hl 3 rfl) ?_
      refine lv_iconst (v := 1) hx hb dX2_isSame_119 (by decide) ?_
      refine sm_k hC 1 0 hK hw hI hi dX2_isSame_120 rfl (by decide) rfl ?_
      refine lv_if_ne (tgt := 128) hx hb dX2_isSame_121 (by decide) (fun h64 : ¬ (M 0 i = 0) => ?_) (fun h64 : M 0 i = 0 => ?_)
      · skip
        refine lv_aload hx hb dX2_isSame_128 (lv_at hl 3 rfl) ?_
        refine lv_iconst (v := 2) hx hb dX2_isSame_130 (by decide) ?_
        refine sm_k hC 2 1 hK hw hI hi dX2_isSame_131 rfl (by decide) rfl ?_
        refine gt_stk [.int (mWhere M i), .int (S 10 i)] (by rw [show mWhere M i = M 1 i from if_pos (show mIs M i 0 = 0 from if_neg h64)]) ?_
        exact K1 () H locs trivial hw
      · skip
        refine lv_iconst (v := (-1)) hx hb dX2_isSame_124 (by decide) ?_
        refine lv_goto (tgt := 132) hx hb dX2_isSame_125 (by decide) ?_
        refine gt_stk [.int (mWhere M i), .int (S 10 i)] (by rw [show mWhere M i = -1 from if_neg (by rw [show mIs M i 0 = 1 from if_pos h64]; decide)]; try rfl) ?_
        exact K1 () H locs trivial hw
    refine lv_icmp_ne (tgt := 215) hx hb dX2_isSame_132 (by decide) (fun z => absurd (r_where hgr).symm z) (fun _ => ?_)
    refine lv_aload_n hx hb dX2_isSame_135 rfl (lv_at hl 6 rfl) ?_
    refine lv_iload hx hb dX2_isSame_136 (lv_at hl 4 rfl) ?_
    have hM := ct_X1_holds l hl0 D cI t o r S o1 r1 Tt (nI i) N hSN hN
    rw [cl_nI (show i < 12 by omega)] at hM
    refine tx_call hC 0 1 1 hM (xGoat_in hLI.1 hi) gX2_isSame_X1_holds dX2_isSame_138 hE hK hw hA hl.1 rfl hd_X1_holds ⟨Nat.le_of_ble_eq_true rfl, Nat.le_of_ble_eq_true rfl⟩ ⟨by show _ ≤ 110; omega, by show _ ≤ 660; omega⟩ rfl rfl rfl rfl (Nat.le_of_ble_eq_true rfl) (fun H locs hw => ?_)
    refine gt_stk [.int (gxHeld S i)] rfl ?_
    refine lx_meet (σ := Unit) (fun _ => True) (fun _ => [.int (mHeld M i), .int (gxHeld S i)]) 157 hw (fun K1 => ?_) (fun _ H locs _ hw => ?_)
    · skip
      refine lv_aload hx hb dX2_isSame_141 (lv_at hl 3 rfl) ?_
      refine lv_iconst (v := 1) hx hb dX2_isSame_143 (by decide) ?_
      refine sm_k hC 1 0 hK hw hI hi dX2_isSame_144 rfl (by decide) rfl ?_
      refine lv_iconst (v := 2) hx hb dX2_isSame_145 (by decide) ?_
      refine lv_icmp_ne (tgt := 156) hx hb dX2_isSame_146 (by decide) (fun h76 : ¬ (M 0 i = 2) => ?_) (fun h76 : M 0 i = 2 => ?_)
      · skip
        refine lv_iconst (v := 0) hx hb dX2_isSame_156 (by decide) ?_
        refine gt_stk [.int (mHeld M i), .int (gxHeld S i)] (by rw [show mHeld M i = 0 from if_pos (show mIs M i 2 = 0 from if_neg h76)]; try rfl) ?_
        exact K1 () H locs trivial hw
      · skip
        refine lv_aload hx hb dX2_isSame_149 (lv_at hl 3 rfl) ?_
        refine lv_iconst (v := 3) hx hb dX2_isSame_151 (by decide) ?_
        refine sm_k hC 3 2 hK hw hI hi dX2_isSame_152 rfl (by decide) rfl ?_
        refine lv_goto (tgt := 157) hx hb dX2_isSame_153 (by decide) ?_
        refine gt_stk [.int (mHeld M i), .int (gxHeld S i)] (by rw [show mHeld M i = M 2 i from if_neg (by rw [show mIs M i 2 = 1 from if_pos h76]; decide)]) ?_
        exact K1 () H locs trivial hw
    refine lv_icmp_ne (tgt := 215) hx hb dX2_isSame_157 (by decide) (fun z => absurd (r_held hgr).symm z) (fun _ => ?_)
    refine lv_aload_n hx hb dX2_isSame_160 rfl (lv_at hl 6 rfl) ?_
    refine lv_iload hx hb dX2_isSame_161 (lv_at hl 4 rfl) ?_
    have hM := ct_X1_seemingHorns l hl0 D cI t o r S o1 r1 Tt (nI i) N hSN hN
    rw [cl_nI (show i < 12 by omega)] at hM
    refine tx_call hC 0 1 1 hM (xGoat_in hLI.1 hi) gX2_isSame_X1_seemingHorns dX2_isSame_163 hE hK hw hA hl.1 rfl hd_X1_seemingHorns ⟨Nat.le_of_ble_eq_true rfl, Nat.le_of_ble_eq_true rfl⟩ ⟨by show _ ≤ 110; omega, by show _ ≤ 660; omega⟩ rfl rfl rfl rfl (Nat.le_of_ble_eq_true rfl) (fun H locs hw => ?_)
    refine gt_stk [.int (gxSeem S i)] rfl ?_
    refine lv_aload_n hx hb dX2_isSame_166 rfl (lv_at hl 5 rfl) ?_
    refine lv_iload hx hb dX2_isSame_167 (lv_at hl 4 rfl) ?_
    refine px_callV hC 2 1 (ct_X2_seem l D cI cR L f ad G N G M Ls hI hN i hi) gX2_isSame_X2_seem dX2_isSame_169 hE.1 hK hw hA hl.1 rfl hd_X2_seem ⟨Nat.le_of_ble_eq_true rfl, Nat.le_of_ble_eq_true rfl⟩ ⟨by show _ ≤ 110; omega, by show _ ≤ 660; omega⟩ hI.1.1 hI.1.2 rfl rfl rfl (Nat.le_of_ble_eq_true rfl) (fun rv L9 f9 H locs hp hw => ?_)
    obtain ⟨rfl, e8, e9⟩ := hp
    rw [e8, e9] at hw
    refine gt_stk [.int (mSeem M i), .int (gxSeem S i)] rfl ?_
    refine lv_icmp_ne (tgt := 215) hx hb dX2_isSame_172 (by decide) (fun z => absurd (rj_se hgr).symm z) (fun _ => ?_)
    refine lv_aload_n hx hb dX2_isSame_175 rfl (lv_at hl 6 rfl) ?_
    refine lv_iload hx hb dX2_isSame_176 (lv_at hl 4 rfl) ?_
    have hM := ct_X1_minutesLeft l hl0 D cI t o r S o1 r1 Tt (nI i) N hSN hN
    rw [cl_nI (show i < 12 by omega)] at hM
    refine tx_call hC 0 1 1 hM (xGoat_in hLI.1 hi) gX2_isSame_X1_minutesLeft dX2_isSame_178 hE hK hw hA hl.1 rfl hd_X1_minutesLeft ⟨Nat.le_of_ble_eq_true rfl, Nat.le_of_ble_eq_true rfl⟩ ⟨by show _ ≤ 110; omega, by show _ ≤ 660; omega⟩ rfl rfl rfl rfl (Nat.le_of_ble_eq_true rfl) (fun H locs hw => ?_)
    refine gt_stk [.int (S 13 i)] rfl ?_
    refine lv_iload hx hb dX2_isSame_181 (lv_at hl 0 rfl) ?_
    refine lv_icmp_ne (tgt := 215) hx hb dX2_isSame_183 (by decide) (fun z => absurd (r_left hgr).symm z) (fun _ => ?_)
    refine lv_aload_n hx hb dX2_isSame_186 rfl (lv_at hl 6 rfl) ?_
    refine lv_iload hx hb dX2_isSame_187 (lv_at hl 4 rfl) ?_
    have hM := ct_X1_waitedOf l hl0 D cI t o r S o1 r1 Tt (nI i) N hSN hN
    rw [cl_nI (show i < 12 by omega)] at hM
    refine tx_call hC 0 1 1 hM (xGoat_in hLI.1 hi) gX2_isSame_X1_waitedOf dX2_isSame_189 hE hK hw hA hl.1 rfl hd_X1_waitedOf ⟨Nat.le_of_ble_eq_true rfl, Nat.le_of_ble_eq_true rfl⟩ ⟨by show _ ≤ 110; omega, by show _ ≤ 660; omega⟩ rfl rfl rfl rfl (Nat.le_of_ble_eq_true rfl) (fun H locs hw => ?_)
    refine gt_stk [.int (S 16 i)] rfl ?_
    refine lv_aload hx hb dX2_isSame_192 (lv_at hl 3 rfl) ?_
    refine lv_bipush (v := 7) hx hb dX2_isSame_194 (by decide) ?_
    refine sm_k hC 7 6 hK hw hI hi dX2_isSame_196 rfl (by decide) rfl ?_
    refine lv_icmp_ne (tgt := 215) hx hb dX2_isSame_197 (by decide) (fun z => absurd (rj_to hgr).symm z) (fun _ => ?_)
    refine lv_aload_n hx hb dX2_isSame_200 rfl (lv_at hl 6 rfl) ?_
    refine lv_iload hx hb dX2_isSame_201 (lv_at hl 4 rfl) ?_
    have hM := ct_X1_placeInLine l hl0 D cI t o r S o1 r1 Tt (nI i) N hSN hN
    rw [cl_nI (show i < 12 by omega)] at hM
    refine tx_call hC 0 1 1 hM (xGoat_in hLI.1 hi) gX2_isSame_X1_placeInLine dX2_isSame_203 hE hK hw hA hl.1 rfl hd_X1_placeInLine ⟨Nat.le_of_ble_eq_true rfl, Nat.le_of_ble_eq_true rfl⟩ ⟨by show _ ≤ 110; omega, by show _ ≤ 660; omega⟩ rfl rfl rfl rfl (Nat.le_of_ble_eq_true rfl) (fun H locs hw => ?_)
    refine gt_stk [.int (gxPl S N i)] rfl ?_
    refine lv_aload_n hx hb dX2_isSame_206 rfl (lv_at hl 5 rfl) ?_
    refine lv_iload hx hb dX2_isSame_207 (lv_at hl 4 rfl) ?_
    refine px_callV hC 2 1 (ct_X2_place l D cI cR L f ad G N G M Ls hI hN i g0 hi hG4 hg0 hpl.1.1 hpl.1.2) gX2_isSame_X2_place dX2_isSame_209 hE.1 hK hw hA hl.1 rfl hd_X2_place ⟨Nat.le_of_ble_eq_true rfl, Nat.le_of_ble_eq_true rfl⟩ ⟨by show _ ≤ 110; omega, by show _ ≤ 660; omega⟩ hI.1.1 hI.1.2 rfl rfl rfl (Nat.le_of_ble_eq_true rfl) (fun rv L9 f9 H locs hp hw => ?_)
    obtain ⟨rfl, e8, e9⟩ := hp
    rw [e8, e9] at hw
    refine gt_stk [.int (sPl M i (Ls g0)), .int (gxPl S N i)] rfl ?_
    refine lv_icmp_eq (tgt := 217) hx hb dX2_isSame_212 (by decide) (fun _ => ?_) (fun z => absurd (hLI.pl hi hpl.2).symm z)
    refine gt_inc (lv' := [(4, .int (nI (i + 1))), (6, .int (mLeft M i)), (3, .int (mSum M (i + 1))), (2, .int (mStv M (i + 1))), (5, .ref (ad 2 i)), (0, .ref (ad 0 0)), (1, .ref t)]) hC 4 i dX2_isSame_217 hl rfl rfl (by decide) rfl (fun ls hl => ?_)
    refine lv_goto (tgt := 7) hx hb dX2_isSame_220 (by decide) ?_
    exact K2 () H locs ls _ _ ⟨hw, lv_sub hl [0, 2, 3, 5, 6] rfl⟩ (by show _ ≤ 7 * (i + 1); omega) (by show _ ≤ 42 * (i + 1); omega)
  · obtain ⟨hw, hl⟩ := hX
    refine lv_iload hx hb dX2_isSame_7 (lv_at hl 0 rfl) ?_
    refine lv_aload_n hx hb dX2_isSame_9 rfl (lv_at hl 3 rfl) ?_
    refine sm_fld hC 4 1 hinX2 hK hw hI dX2_isSame_10 rfl (by decide) rfl rfl ?_
    refine sm_kn hC hK hw hI dX2_isSame_13 ?_
    refine gt_ge_t (tgt := 223) hC N N dX2_isSame_14 (by decide) rfl rfl (Nat.le_refl _) (by omega) ?_
    refine lv_iconst (v := 0) hx hb dX2_isSame_223 (by decide) ?_
    refine lv_istore (lv' := [(4, .int 0), (3, .int (mSum M N)), (2, .int (mStv M N)), (0, .ref (ad 0 0)), (1, .ref t)]) hx hb dX2_isSame_224 hl (by decide) rfl (fun ls hl => ?_)
    refine px_loop (σ := Unit) G (fun i => 7 * N + 4 * i) (fun i => 42 * N + 24 * i) (fun i _ H locs ls => SW D A s.heap (tw cI t o r S o1 r1 Tt) L f H locs ∧ lv_has ls 7 [(4, .int (nI i)), (3, .int (mSum M N)), (2, .int (mStv M N)), (0, .ref (ad 0 0)), (1, .ref t)]) () ⟨hw, lv_sub hl [0, 1, 2, 3, 4] rfl⟩ (Nat.le_refl _) (Nat.le_refl _) (fun i hi _ H locs ls hX K2 => ?_) (fun _ H locs ls hX => ?_)
    · obtain ⟨hw, hl⟩ := hX
      obtain ⟨b1, b2, b3⟩ := hLI.2.1.lb hN hi
      refine lv_iload hx hb dX2_isSame_226 (lv_at hl 0 rfl) ?_
      refine lv_aload_n hx hb dX2_isSame_228 rfl (lv_at hl 3 rfl) ?_
      refine sm_fld hC 3 2 hinX2 hK hw hI dX2_isSame_229 rfl (by decide) rfl rfl ?_
      refine sm_gn hC hK hw hI dX2_isSame_232 ?_
      refine gt_ge_f (tgt := 309) hC i G dX2_isSame_233 (by decide) rfl rfl (by omega) (by omega) ?_
      refine lv_aload_n hx hb dX2_isSame_236 rfl (lv_at hl 4 rfl) ?_
      refine lv_iload hx hb dX2_isSame_237 (lv_at hl 0 rfl) ?_
      have hM := ct_X1_permitsOf l hl0 D cI t o r S o1 r1 Tt (nI i) G hSG hG4
      rw [cl_nI (show i < 12 by omega)] at hM
      refine tx_call hC 0 1 1 hM (xGate_in hLI.1 hi) gX2_isSame_X1_permitsOf dX2_isSame_239 hE hK hw hA hl.1 rfl hd_X1_permitsOf ⟨Nat.le_of_ble_eq_true rfl, Nat.le_of_ble_eq_true rfl⟩ ⟨by show _ ≤ 110; omega, by show _ ≤ 660; omega⟩ rfl rfl rfl rfl (Nat.le_of_ble_eq_true rfl) (fun H locs hw => ?_)
      refine gt_stk [.int (S 5 i)] rfl ?_
      refine lv_aload_n hx hb dX2_isSame_242 rfl (lv_at hl 3 rfl) ?_
      refine sm_fld hC 3 2 hinX2 hK hw hI dX2_isSame_243 rfl (by decide) rfl rfl ?_
      refine lv_iload hx hb dX2_isSame_246 (lv_at hl 0 rfl) ?_
      refine sm_ga hC i hK hw hI dX2_isSame_248 rfl hi (by omega) ?_
      refine lv_iconst (v := 0) hx hb dX2_isSame_249 (by decide) ?_
      refine sm_g hC 0 hK hw hI hi dX2_isSame_250 rfl (by decide) ?_
      refine lv_icmp_ne (tgt := 301) hx hb dX2_isSame_251 (by decide) (fun z => absurd (hLI.pm hi).1.symm z) (fun _ => ?_)
      refine lv_aload_n hx hb dX2_isSame_254 rfl (lv_at hl 4 rfl) ?_
      refine lv_iload hx hb dX2_isSame_255 (lv_at hl 0 rfl) ?_
      have hM := ct_X1_freeOf l hl0 D cI t o r S o1 r1 Tt (nI i) N hSN hN G hSG hG4
      rw [cl_nI (show i < 12 by omega)] at hM
      refine tx_call hC 0 1 1 hM (xGate_in hLI.1 hi) gX2_isSame_X1_freeOf dX2_isSame_257 hE hK hw hA hl.1 rfl hd_X1_freeOf ⟨Nat.le_of_ble_eq_true rfl, Nat.le_of_ble_eq_true rfl⟩ ⟨by show _ ≤ 110; omega, by show _ ≤ 660; omega⟩ rfl rfl rfl rfl (Nat.le_of_ble_eq_true rfl) (fun H locs hw => ?_)
      refine gt_stk [.int (gxFree S i N)] rfl ?_
      refine lv_aload_n hx hb dX2_isSame_260 rfl (lv_at hl 3 rfl) ?_
      refine lv_iload hx hb dX2_isSame_261 (lv_at hl 0 rfl) ?_
      refine px_callV hC 2 1 (ct_X2_free l D cI cR L f ad G N G M Ls hI hN i hi hG4) gX2_isSame_X2_free dX2_isSame_263 hE.1 hK hw hA hl.1 rfl hd_X2_free ⟨Nat.le_of_ble_eq_true rfl, Nat.le_of_ble_eq_true rfl⟩ ⟨by show _ ≤ 110; omega, by show _ ≤ 660; omega⟩ hI.1.1 hI.1.2 rfl rfl rfl (Nat.le_of_ble_eq_true rfl) (fun rv L9 f9 H locs hp hw => ?_)
      obtain ⟨rfl, e8, e9⟩ := hp
      rw [e8, e9] at hw
      refine gt_stk [.int (mFree M i N), .int (gxFree S i N)] rfl ?_
      refine lv_icmp_ne (tgt := 301) hx hb dX2_isSame_266 (by decide) (fun z => absurd (hLI.fr hi).symm z) (fun _ => ?_)
      refine lv_aload_n hx hb dX2_isSame_269 rfl (lv_at hl 4 rfl) ?_
      refine lv_iload hx hb dX2_isSame_270 (lv_at hl 0 rfl) ?_
      refine tx_call hC 0 1 1 (ct_X1_waitingAt l hl0 D cI t o r S o1 r1 Tt (nI i) N hSN hN G hSG hG4) (xGate_in hLI.1 hi) gX2_isSame_X1_waitingAt dX2_isSame_272 hE hK hw hA hl.1 rfl hd_X1_waitingAt ⟨Nat.le_of_ble_eq_true rfl, Nat.le_of_ble_eq_true rfl⟩ ⟨by show _ ≤ 110; omega, by show _ ≤ 660; omega⟩ rfl rfl rfl rfl (Nat.le_of_ble_eq_true rfl) (fun H locs hw => ?_)
      refine gt_stk [.int (gxWat S (nI i) N)] rfl ?_
      refine lv_aload_n hx hb dX2_isSame_275 rfl (lv_at hl 3 rfl) ?_
      refine sm_fld hC 5 3 hinX2 hK hw hI dX2_isSame_276 rfl (by decide) rfl rfl ?_
      refine lv_iload hx hb dX2_isSame_279 (lv_at hl 0 rfl) ?_
      refine sm_la hC i hK hw hI dX2_isSame_281 rfl hi (by omega) ?_
      refine sm_lln hC hK hw hI hi dX2_isSame_282 ?_
      refine lv_icmp_ne (tgt := 301) hx hb dX2_isSame_283 (by decide) (fun z => absurd (hLI.len hi) z) (fun _ => ?_)
      refine lv_aload_n hx hb dX2_isSame_286 rfl (lv_at hl 4 rfl) ?_
      refine lv_iload hx hb dX2_isSame_287 (lv_at hl 0 rfl) ?_
      have hM := ct_X1_nextAt l hl0 D cI t o r S o1 r1 Tt (nI i) N hSN hN G hSG hG4
      rw [cl_nI (show i < 12 by omega)] at hM
      refine tx_call hC 0 1 1 hM (xGate_in hLI.1 hi) gX2_isSame_X1_nextAt dX2_isSame_289 hE hK hw hA hl.1 rfl hd_X1_nextAt ⟨Nat.le_of_ble_eq_true rfl, Nat.le_of_ble_eq_true rfl⟩ ⟨by show _ ≤ 110; omega, by show _ ≤ 660; omega⟩ rfl rfl rfl rfl (Nat.le_of_ble_eq_true rfl) (fun H locs hw => ?_)
      refine gt_stk [.int (gxFiR S i N)] rfl ?_
      refine lv_aload_n hx hb dX2_isSame_292 rfl (lv_at hl 3 rfl) ?_
      refine lv_iload hx hb dX2_isSame_293 (lv_at hl 0 rfl) ?_
      refine px_callV hC 2 1 (ct_X2_next l D cI cR L f ad G N G M Ls hI hN i hi hG4 hi hG4 b1 b2) gX2_isSame_X2_next dX2_isSame_295 hE.1 hK hw hA hl.1 rfl hd_X2_next ⟨Nat.le_of_ble_eq_true rfl, Nat.le_of_ble_eq_true rfl⟩ ⟨by show _ ≤ 110; omega, by show _ ≤ 660; omega⟩ hI.1.1 hI.1.2 rfl rfl rfl (Nat.le_of_ble_eq_true rfl) (fun rv L9 f9 H locs hp hw => ?_)
      obtain ⟨rfl, e8, e9⟩ := hp
      rw [e8, e9] at hw
      refine gt_stk [.int (sNx M N i (Ls i)), .int (gxFiR S i N)] rfl ?_
      refine lv_icmp_eq (tgt := 303) hx hb dX2_isSame_298 (by decide) (fun _ => ?_) (fun z => absurd (hLI.nx hi).symm z)
      refine gt_inc (lv' := [(4, .int (nI (i + 1))), (3, .int (mSum M N)), (2, .int (mStv M N)), (0, .ref (ad 0 0)), (1, .ref t)]) hC 0 i dX2_isSame_303 hl rfl rfl (by decide) rfl (fun ls hl => ?_)
      refine lv_goto (tgt := 226) hx hb dX2_isSame_306 (by decide) ?_
      exact K2 () H locs ls _ _ ⟨hw, lv_sub hl [0, 1, 2, 3, 4] rfl⟩ (by show _ ≤ 7 * N + 4 * (i + 1); omega) (by show _ ≤ 42 * N + 24 * (i + 1); omega)
    · obtain ⟨hw, hl⟩ := hX
      refine lv_iload hx hb dX2_isSame_226 (lv_at hl 0 rfl) ?_
      refine lv_aload_n hx hb dX2_isSame_228 rfl (lv_at hl 3 rfl) ?_
      refine sm_fld hC 3 2 hinX2 hK hw hI dX2_isSame_229 rfl (by decide) rfl rfl ?_
      refine sm_gn hC hK hw hI dX2_isSame_232 ?_
      refine gt_ge_t (tgt := 309) hC G G dX2_isSame_233 (by decide) rfl rfl (Nat.le_refl _) (by omega) ?_
      refine lv_aload_n hx hb dX2_isSame_309 rfl (lv_at hl 4 rfl) ?_
      refine tx_callC hC 0 1 0 (ct_X1_minute l D cI t o r S o1 r1 Tt ) gX2_isSame_X1_minute dX2_isSame_310 hK hw hA hl.1 rfl hd_X1_minute ⟨Nat.le_of_ble_eq_true rfl, Nat.le_of_ble_eq_true rfl⟩ ⟨by show _ ≤ 110; omega, by show _ ≤ 660; omega⟩ rfl rfl rfl rfl (Nat.le_of_ble_eq_true rfl) (fun H locs hw => ?_)
      refine gt_stk [.int (S 0 0)] rfl ?_
      refine lv_aload_n hx hb dX2_isSame_313 rfl (lv_at hl 3 rfl) ?_
      refine sm_fld hC 0 4 hinX2 hK hw hI dX2_isSame_314 rfl (by decide) rfl rfl ?_
      refine lv_icmp_ne (tgt := 431) hx hb dX2_isSame_317 (by decide) (fun z => absurd hLI.1.2.2.2.2.2.2.1.2.2.1.1.symm z) (fun _ => ?_)
      refine lv_aload_n hx hb dX2_isSame_320 rfl (lv_at hl 4 rfl) ?_
      refine tx_callC hC 0 1 0 (ct_X1_gates l D cI t o r S o1 r1 Tt ) gX2_isSame_X1_gates dX2_isSame_321 hK hw hA hl.1 rfl hd_X1_gates ⟨Nat.le_of_ble_eq_true rfl, Nat.le_of_ble_eq_true rfl⟩ ⟨by show _ ≤ 110; omega, by show _ ≤ 660; omega⟩ rfl rfl rfl rfl (Nat.le_of_ble_eq_true rfl) (fun H locs hw => ?_)
      refine gt_stk [.int (S 0 1)] rfl ?_
      refine lv_aload_n hx hb dX2_isSame_324 rfl (lv_at hl 3 rfl) ?_
      refine sm_fld hC 3 2 hinX2 hK hw hI dX2_isSame_325 rfl (by decide) rfl rfl ?_
      refine sm_gn hC hK hw hI dX2_isSame_328 ?_
      refine lv_icmp_ne (tgt := 431) hx hb dX2_isSame_329 (by decide) (fun z => absurd hSG z) (fun _ => ?_)
      refine lv_aload_n hx hb dX2_isSame_332 rfl (lv_at hl 4 rfl) ?_
      refine tx_callC hC 0 1 0 (ct_X1_goats l D cI t o r S o1 r1 Tt ) gX2_isSame_X1_goats dX2_isSame_333 hK hw hA hl.1 rfl hd_X1_goats ⟨Nat.le_of_ble_eq_true rfl, Nat.le_of_ble_eq_true rfl⟩ ⟨by show _ ≤ 110; omega, by show _ ≤ 660; omega⟩ rfl rfl rfl rfl (Nat.le_of_ble_eq_true rfl) (fun H locs hw => ?_)
      refine gt_stk [.int (S 0 2)] rfl ?_
      refine lv_aload_n hx hb dX2_isSame_336 rfl (lv_at hl 3 rfl) ?_
      refine sm_fld hC 4 1 hinX2 hK hw hI dX2_isSame_337 rfl (by decide) rfl rfl ?_
      refine sm_kn hC hK hw hI dX2_isSame_340 ?_
      refine lv_icmp_ne (tgt := 431) hx hb dX2_isSame_341 (by decide) (fun z => absurd hSN z) (fun _ => ?_)
      refine lv_aload_n hx hb dX2_isSame_344 rfl (lv_at hl 4 rfl) ?_
      refine tx_callC hC 0 1 0 (ct_X1_waiting l D cI t o r S o1 r1 Tt N hSN hN) gX2_isSame_X1_waiting dX2_isSame_345 hK hw hA hl.1 rfl hd_X1_waiting ⟨Nat.le_of_ble_eq_true rfl, Nat.le_of_ble_eq_true rfl⟩ ⟨by show _ ≤ 110; omega, by show _ ≤ 660; omega⟩ rfl rfl rfl rfl (Nat.le_of_ble_eq_true rfl) (fun H locs hw => ?_)
      refine gt_stk [.int (gxCnt S 1 N)] rfl ?_
      refine lv_aload_n hx hb dX2_isSame_348 rfl (lv_at hl 3 rfl) ?_
      refine lv_iconst (v := 1) hx hb dX2_isSame_349 (by decide) ?_
      refine px_callV hC 2 1 (ct_X2_many l D cI cR L f ad G N G M Ls hI hN 1) gX2_isSame_X2_many dX2_isSame_350 hE.1 hK hw hA hl.1 rfl hd_X2_many ⟨Nat.le_of_ble_eq_true rfl, Nat.le_of_ble_eq_true rfl⟩ ⟨by show _ ≤ 110; omega, by show _ ≤ 660; omega⟩ hI.1.1 hI.1.2 rfl rfl rfl (Nat.le_of_ble_eq_true rfl) (fun rv L9 f9 H locs hp hw => ?_)
      obtain ⟨rfl, e8, e9⟩ := hp
      rw [e8, e9] at hw
      refine gt_stk [.int (mMany M 1 N), .int (gxCnt S 1 N)] rfl ?_
      refine lv_icmp_ne (tgt := 431) hx hb dX2_isSame_353 (by decide) (fun z => absurd (r_cnt hLI.1.2.2.2.2.2.2.1.1 1 N (Nat.le_refl N)).symm z) (fun _ => ?_)
      refine lv_aload_n hx hb dX2_isSame_356 rfl (lv_at hl 4 rfl) ?_
      refine tx_callC hC 0 1 0 (ct_X1_inside l D cI t o r S o1 r1 Tt N hSN hN) gX2_isSame_X1_inside dX2_isSame_357 hK hw hA hl.1 rfl hd_X1_inside ⟨Nat.le_of_ble_eq_true rfl, Nat.le_of_ble_eq_true rfl⟩ ⟨by show _ ≤ 110; omega, by show _ ≤ 660; omega⟩ rfl rfl rfl rfl (Nat.le_of_ble_eq_true rfl) (fun H locs hw => ?_)
      refine gt_stk [.int (gxCnt S 2 N)] rfl ?_
      refine lv_aload_n hx hb dX2_isSame_360 rfl (lv_at hl 3 rfl) ?_
      refine lv_iconst (v := 2) hx hb dX2_isSame_361 (by decide) ?_
      refine px_callV hC 2 1 (ct_X2_many l D cI cR L f ad G N G M Ls hI hN 2) gX2_isSame_X2_many dX2_isSame_362 hE.1 hK hw hA hl.1 rfl hd_X2_many ⟨Nat.le_of_ble_eq_true rfl, Nat.le_of_ble_eq_true rfl⟩ ⟨by show _ ≤ 110; omega, by show _ ≤ 660; omega⟩ hI.1.1 hI.1.2 rfl rfl rfl (Nat.le_of_ble_eq_true rfl) (fun rv L9 f9 H locs hp hw => ?_)
      obtain ⟨rfl, e8, e9⟩ := hp
      rw [e8, e9] at hw
      refine gt_stk [.int (mMany M 2 N), .int (gxCnt S 2 N)] rfl ?_
      refine lv_icmp_ne (tgt := 431) hx hb dX2_isSame_365 (by decide) (fun z => absurd (r_cnt hLI.1.2.2.2.2.2.2.1.1 2 N (Nat.le_refl N)).symm z) (fun _ => ?_)
      refine lv_aload_n hx hb dX2_isSame_368 rfl (lv_at hl 4 rfl) ?_
      refine tx_callC hC 0 1 0 (ct_X1_starving l D cI t o r S o1 r1 Tt N hSN hN) gX2_isSame_X1_starving dX2_isSame_369 hK hw hA hl.1 rfl hd_X1_starving ⟨Nat.le_of_ble_eq_true rfl, Nat.le_of_ble_eq_true rfl⟩ ⟨by show _ ≤ 110; omega, by show _ ≤ 660; omega⟩ rfl rfl rfl rfl (Nat.le_of_ble_eq_true rfl) (fun H locs hw => ?_)
      refine gt_stk [.int (gxStv S N)] rfl ?_
      refine lv_iload_n hx hb dX2_isSame_372 rfl (lv_at hl 2 rfl) ?_
      refine lv_icmp_ne (tgt := 431) hx hb dX2_isSame_373 (by decide) (fun z => absurd (r_stv hLI.1.2.2.2.2.2.2.1.1 N (Nat.le_refl N)).symm z) (fun _ => ?_)
      refine lv_aload_n hx hb dX2_isSame_376 rfl (lv_at hl 4 rfl) ?_
      refine tx_callC hC 0 1 0 (ct_X1_letIn l D cI t o r S o1 r1 Tt ) gX2_isSame_X1_letIn dX2_isSame_377 hK hw hA hl.1 rfl hd_X1_letIn ⟨Nat.le_of_ble_eq_true rfl, Nat.le_of_ble_eq_true rfl⟩ ⟨by show _ ≤ 110; omega, by show _ ≤ 660; omega⟩ rfl rfl rfl rfl (Nat.le_of_ble_eq_true rfl) (fun H locs hw => ?_)
      refine gt_stk [.int (S 0 4)] rfl ?_
      refine lv_aload_n hx hb dX2_isSame_380 rfl (lv_at hl 3 rfl) ?_
      refine sm_fld hC 1 5 hinX2 hK hw hI dX2_isSame_381 rfl (by decide) rfl rfl ?_
      refine lv_icmp_ne (tgt := 431) hx hb dX2_isSame_384 (by decide) (fun z => absurd hLI.1.2.2.2.2.2.2.1.2.2.1.2.1.symm z) (fun _ => ?_)
      refine lv_aload_n hx hb dX2_isSame_387 rfl (lv_at hl 4 rfl) ?_
      refine tx_callC hC 0 1 0 (ct_X1_givenUp l D cI t o r S o1 r1 Tt G hSG hG4) gX2_isSame_X1_givenUp dX2_isSame_388 hK hw hA hl.1 rfl hd_X1_givenUp ⟨Nat.le_of_ble_eq_true rfl, Nat.le_of_ble_eq_true rfl⟩ ⟨by show _ ≤ 110; omega, by show _ ≤ 660; omega⟩ rfl rfl rfl rfl (Nat.le_of_ble_eq_true rfl) (fun H locs hw => ?_)
      refine gt_stk [.int (gxGiv S G)] rfl ?_
      refine lv_aload_n hx hb dX2_isSame_391 rfl (lv_at hl 3 rfl) ?_
      refine sm_fld hC 2 6 hinX2 hK hw hI dX2_isSame_392 rfl (by decide) rfl rfl ?_
      refine lv_icmp_ne (tgt := 431) hx hb dX2_isSame_395 (by decide) (fun z => absurd hLI.1.2.2.2.2.2.2.1.2.2.2.symm z) (fun _ => ?_)
      refine lv_aload_n hx hb dX2_isSame_398 rfl (lv_at hl 4 rfl) ?_
      refine tx_callC hC 0 1 0 (ct_X1_meanWaited l D cI t o r S o1 r1 Tt N hSN hN) gX2_isSame_X1_meanWaited dX2_isSame_399 hK hw hA hl.1 rfl hd_X1_meanWaited ⟨Nat.le_of_ble_eq_true rfl, Nat.le_of_ble_eq_true rfl⟩ ⟨by show _ ≤ 110; omega, by show _ ≤ 660; omega⟩ rfl rfl rfl rfl (Nat.le_of_ble_eq_true rfl) (fun H locs hw => ?_)
      refine gt_stk [.double (gxMean S N)] rfl ?_
      refine lx_meet (σ := Unit) (fun _ => True) (fun _ => [.double (gxMean S N), .double (gxMean S N)]) 423 hw (fun K1 => ?_) (fun _ H locs _ hw => ?_)
      · skip
        refine lv_aload_n hx hb dX2_isSame_402 rfl (lv_at hl 3 rfl) ?_
        refine sm_fld hC 4 1 hinX2 hK hw hI dX2_isSame_403 rfl (by decide) rfl rfl ?_
        refine sm_kn hC hK hw hI dX2_isSame_406 ?_
        refine lv_if_ne (tgt := 414) hx hb dX2_isSame_407 (by decide) (fun h407 : ¬ (nI N = 0) => ?_) (fun h407 : nI N = 0 => ?_)
        · skip
          refine lv_iload_n hx hb dX2_isSame_414 rfl (lv_at hl 1 rfl) ?_
          refine lv_i2d hx hb dX2_isSame_415 ?_
          refine lv_aload_n hx hb dX2_isSame_416 rfl (lv_at hl 3 rfl) ?_
          refine sm_fld hC 4 1 hinX2 hK hw hI dX2_isSame_417 rfl (by decide) rfl rfl ?_
          refine sm_kn hC hK hw hI dX2_isSame_420 ?_
          refine lv_i2d hx hb dX2_isSame_421 ?_
          refine lv_ddiv hx hb dX2_isSame_422 (gx_div _ _ h407) ?_
          refine gt_stk [.double (gxMean S N), .double (gxMean S N)] (by rw [show gxMean S N = FP.ddiv (FP.i2d (mSum M N)) (FP.i2d (nI N)) from by unfold gxMean; rw [hSN, if_neg h407, r_sum hLI.1.2.2.2.2.2.2.1.1 N (Nat.le_refl N)]]) ?_
          exact K1 () H locs trivial hw
        · skip
          refine lv_dconst0 hx hb dX2_isSame_410 ?_
          refine lv_goto (tgt := 423) hx hb dX2_isSame_411 (by decide) ?_
          refine gt_stk [.double (gxMean S N), .double (gxMean S N)] (by rw [show gxMean S N = FP.dconst0 from by unfold gxMean; rw [hSN, if_pos h407]]) ?_
          exact K1 () H locs trivial hw
      refine lv_dcmp hx hb dX2_isSame_423 ?_
      refine gt_stk [.int 0] (by rw [gxMean_self S N]) ?_
      refine lv_if_ne (tgt := 431) hx hb dX2_isSame_424 (by decide) (fun z => absurd rfl z) (fun _ => ?_)
      refine lv_iconst (v := 1) hx hb dX2_isSame_427 (by decide) ?_
      refine lv_goto (tgt := 432) hx hb dX2_isSame_428 (by decide) ?_
      exact lx_zret hC hr hlk hw (Or.inr rfl) ⟨rfl, rfl, rfl, rfl⟩ dX2_isSame_432 (by show _ ≤ 110; omega) (by show _ ≤ 660; omega)
