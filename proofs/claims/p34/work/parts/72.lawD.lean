/-! The law's look at each gate (laid by wip/p34/gen/sim12.py). -/
theorem pw_lo (S : SS) (G N g : Nat) : ¬ gxPw S G N g < -1 := by
  rcases gxPw_c S G N g with e | ⟨n, n9, e, -, -⟩
  · rw [e]; decide
  · rw [e]; exact Int32.not_lt.mpr (Int32.le_trans (by decide) (nI_ge0 (by omega)))
theorem pw_hi (S : SS) (G N g : Nat) : ¬ 9 < gxPw S G N g := by
  rcases gxPw_c S G N g with e | ⟨n, n9, e, -, -⟩
  · rw [e]; decide
  · rw [e]; exact Int32.not_lt.mpr (nI_le (b := 9) n9 (by omega))
set_option maxHeartbeats 1000000 in
set_option maxRecDepth 100000 in
theorem law_D {p : Program} {e : Env} {s : State} {m : MethodId} {below : List Frame} {meth : Method} {c : Code} {H : Heap} {locs : List Loc} {cells slots : Nat} {Q : State → Prop} {ls : Array Slot} {A : Nat → Prop} (l : Launch) (hl0 : l.stackTraces = false) (D : va_G) (cI cR : ClassId) (bb nn : Nat) (xs : Nat → Int32) (t o : Nat) (r : Nat → Nat) (S : SS) (o1 : Nat) (r1 : Nat → Nat) (Tt : SS) (L : List Nat) (f : Nat → va_E) (ad : Nat → Nat → Nat) (T G N : Nat) (M : SS) (Ls : Nat → List Nat) (hLI : LI T G N S M Ls) (hLJ : LJ G N M) (a b c9 d tm : Nat) (v5 : Int64) (hAR : AR a b c9 d)
  (hC : CallFix p m c cL_law 23 s #[.ref bb] wsL_law RL) (hE : LE bb nn xs A s) (hK : va_K D vwCl (tyS cI cR) s) (hA : ∀ q, s.heap.size ≤ q → A q) (haL : a ∈ L) (hbL : b ∈ L) (hcL : c9 ∈ L) (hdL : d ∈ L)
  (hI4 : ∀ xa xb xc xd, SimI cI cR L (f4 cI f a b c9 d N G xa xb xc xd) ad G N G M Ls) (hcc : cells ≤ 700000) (hss : slots ≤ 6300000) (xa xb xc xd : Nat → Int32)
  (hw : SW D A s.heap (tw cI t o r S o1 r1 Tt) L (f4 cI f a b c9 d N G xa xb xc xd) H locs) (ha9 : ∀ j, j < N → xa j = S 9 j) (hc9 : ∀ g, g < G → xc g = hel S N g) (hd9 : ∀ g, g < G → xd g = lnm S N N g) (hl : lv_has ls 23 [(15, .int (nI 0)), (12, .ref d), (11, .ref c9), (10, .ref b), (9, .ref a), (8, .int (nI G)), (7, .int (nI N)), (5, .long v5), (3, .int (nI tm)), (2, .ref (ad 0 0)), (1, .ref t), (0, .ref bb)])
  (kk : ∀ (Tz : SS) (H : Heap) (locs : List Loc) (ls : Array Slot), SW D A s.heap (tw cI t o r S o1 r1 Tz) L (f4 cI f a b c9 d N G xa xb xc xd) H locs → lv_has ls 23 [(12, .ref d), (11, .ref c9), (10, .ref b), (9, .ref a), (8, .int (nI G)), (7, .int (nI N)), (5, .long v5), (3, .int (nI tm)), (2, .ref (ad 0 0)), (1, .ref t), (0, .ref bb)] → W p l e room_1 s m #[.ref bb] below meth c H locs (cells + 12040 * G) (slots + 122700 * G) Q (F0 m 925 ls [])) : W p l e room_1 s m #[.ref bb] below meth c H locs cells slots Q (F0 m 477 ls []) := by
  have hx := hC.1
  have hb := hC.2.1
  have hN := hLI.1.1
  have hG4 := hLI.1.2.1
  have hSG := hLI.1.2.2.1
  have hSN := hLI.1.2.2.2.1
  have hinX2 : ∀ w ∈ wsX20, w ∈ wsL_law := inlX2
  have hI := hI4 xa xb xc xd
  refine px_loop (σ := SS) G (fun g => cells + 12040 * g) (fun g => slots + 122700 * g) (fun g Tz H locs ls => SW D A s.heap (tw cI t o r S o1 r1 Tz) L (f4 cI f a b c9 d N G xa xb xc xd) H locs ∧ lv_has ls 23 [(15, .int (nI g)), (12, .ref d), (11, .ref c9), (10, .ref b), (9, .ref a), (8, .int (nI G)), (7, .int (nI N)), (5, .long v5), (3, .int (nI tm)), (2, .ref (ad 0 0)), (1, .ref t), (0, .ref bb)]) Tt ⟨hw, hl⟩ (Nat.le_refl _) (Nat.le_refl _) (fun g hg Tz H locs ls hX K1 => ?_) (fun Tz H locs ls hX => ?_)
  · obtain ⟨hw, hl⟩ := hX
    have hpm := hLI.pm hg
    have ho6 := hpm.2.2
    obtain ⟨fa, fa9, hfa⟩ := hLI.fp hLJ hg
    have K713 : ∀ (Tz : SS) (H : Heap) (locs : List Loc) (ls : Array Slot) (c1 s1 : Nat), SW D A s.heap (tw cI t o r S o1 r1 Tz) L (f4 cI f a b c9 d N G xa xb xc xd) H locs → lv_has ls 23 [(16, .int (gxFiR S g N)), (15, .int (nI g)), (12, .ref d), (11, .ref c9), (10, .ref b), (9, .ref a), (8, .int (nI G)), (7, .int (nI N)), (5, .long v5), (3, .int (nI tm)), (2, .ref (ad 0 0)), (1, .ref t), (0, .ref bb)] → c1 ≤ cells + 12040 * g + 11980 → s1 ≤ slots + 122700 * g + 122360 → W p l e room_1 s m #[.ref bb] below meth c H locs c1 s1 Q (F0 m 713 ls []) := by
      intro Tz H locs ls c1 s1 hw hl hc1 hs1
      refine lv_iload hx hb dL_law_713 (lv_at hl 0 rfl) ?_
      rcases hLI.nf hg with hn | ⟨j, hj, hn, j9, j10, jf⟩
      · skip
        refine lv_if_lt (tgt := 759) hx hb dL_law_715 (by decide) (fun _ => ?_) (fun z => absurd (by rw [hn]; decide) z)
        refine lv_iconst (v := 0) hx hb dL_law_759 (by decide) ?_
        refine lv_istore (lv' := [(20, .int 0), (16, .int (gxFiR S g N)), (15, .int (nI g)), (12, .ref d), (11, .ref c9), (10, .ref b), (9, .ref a), (8, .int (nI G)), (7, .int (nI N)), (5, .long v5), (3, .int (nI tm)), (2, .ref (ad 0 0)), (1, .ref t), (0, .ref bb)]) hx hb dL_law_760 hl (by decide) rfl (fun ls hl => ?_)
        refine law_E l hl0 D cI cR bb nn xs t o r S o1 r1 Tz L f ad T G N M Ls hLI hLJ a b c9 d tm v5 hAR hC hE hK hA haL hbL hcL hdL hI4 (by omega) (by omega) xa xb xc xd hw ha9 g hg (lv_sub hl [0, 1, 2, 3, 4, 5, 6, 7, 8, 9, 10, 11, 12, 13] rfl) (fun H locs ls hw hl => ?_)
        refine gt_inc (lv' := [(15, .int (nI (g + 1))), (12, .ref d), (11, .ref c9), (10, .ref b), (9, .ref a), (8, .int (nI G)), (7, .int (nI N)), (5, .long v5), (3, .int (nI tm)), (2, .ref (ad 0 0)), (1, .ref t), (0, .ref bb)]) hC 0 g dL_law_919 hl rfl rfl (by decide) rfl (fun ls hl => ?_)
        refine lv_goto (tgt := 477) hx hb dL_law_922 (by decide) ?_
        exact K1 Tz H locs ls _ _ ⟨hw, lv_sub hl [0, 1, 2, 3, 4, 5, 6, 7, 8, 9, 10, 11] rfl⟩ (by show _ ≤ cells + 12040 * (g + 1); omega) (by show _ ≤ slots + 122700 * (g + 1); omega)
      · skip
        refine lv_if_lt (tgt := 759) hx hb dL_law_715 (by decide) (fun z => absurd z (by rw [hn]; exact nI_pos (by omega))) (fun _ => ?_)
        rw [hn] at hl
        refine lv_aload_n hx hb dL_law_718 rfl (lv_at hl 11 rfl) ?_
        refine lv_iload hx hb dL_law_719 (lv_at hl 0 rfl) ?_
        have hM := ct_X1_stateOf l hl0 D cI t o r S o1 r1 Tz (nI j) N hSN hN
        rw [cl_nI (show j < 12 by omega)] at hM
        refine tx_call hC 0 1 1 hM (xGoat_in hLI.1 hj) gL_law_X1_stateOf dL_law_721 hE hK hw hA hl.1 rfl hd_X1_stateOf ⟨Nat.le_of_ble_eq_true rfl, Nat.le_of_ble_eq_true rfl⟩ ⟨by show _ ≤ 760756; omega, by show _ ≤ 6819431; omega⟩ rfl rfl rfl rfl (Nat.le_of_ble_eq_true rfl) (fun H locs hw => ?_)
        refine gt_stk [.int (S 9 j)] rfl ?_
        refine lv_iconst (v := 1) hx hb dL_law_724 (by decide) ?_
        refine lv_icmp_ne (tgt := 757) hx hb dL_law_725 (by decide) (fun z => absurd j9 z) (fun _ => ?_)
        refine lv_aload_n hx hb dL_law_728 rfl (lv_at hl 11 rfl) ?_
        refine lv_iload hx hb dL_law_729 (lv_at hl 0 rfl) ?_
        have hM := ct_X1_gateOf l hl0 D cI t o r S o1 r1 Tz (nI j) N hSN hN
        rw [cl_nI (show j < 12 by omega)] at hM
        refine tx_call hC 0 1 1 hM (xGoat_in hLI.1 hj) gL_law_X1_gateOf dL_law_731 hE hK hw hA hl.1 rfl hd_X1_gateOf ⟨Nat.le_of_ble_eq_true rfl, Nat.le_of_ble_eq_true rfl⟩ ⟨by show _ ≤ 760756; omega, by show _ ≤ 6819431; omega⟩ rfl rfl rfl rfl (Nat.le_of_ble_eq_true rfl) (fun H locs hw => ?_)
        refine gt_stk [.int (S 10 j)] rfl ?_
        refine lv_iload hx hb dL_law_734 (lv_at hl 1 rfl) ?_
        refine lv_icmp_ne (tgt := 757) hx hb dL_law_736 (by decide) (fun z => absurd j10 z) (fun _ => ?_)
        refine lv_aload_n hx hb dL_law_739 rfl (lv_at hl 10 rfl) ?_
        refine sm_fld hC 4 5 hinX2 hK hw hI dL_law_740 rfl (by decide) rfl rfl ?_
        refine lv_iload hx hb dL_law_743 (lv_at hl 0 rfl) ?_
        refine sm_ka hC j hK hw hI dL_law_745 rfl hj (by omega) ?_
        refine lv_iconst (v := 3) hx hb dL_law_746 (by decide) ?_
        refine sm_k hC 3 2 hK hw hI hj dL_law_747 rfl (by decide) rfl ?_
        refine lv_aload_n hx hb dL_law_748 rfl (lv_at hl 11 rfl) ?_
        refine lv_iload hx hb dL_law_749 (lv_at hl 1 rfl) ?_
        have hM := ct_X1_freeOf l hl0 D cI t o r S o1 r1 Tz (nI g) N hSN hN G hSG hG4
        rw [cl_nI (show g < 12 by omega)] at hM
        refine tx_call hC 0 1 1 hM (xGate_in hLI.1 hg) gL_law_X1_freeOf dL_law_751 hE hK hw hA hl.1 rfl hd_X1_freeOf ⟨Nat.le_of_ble_eq_true rfl, Nat.le_of_ble_eq_true rfl⟩ ⟨by show _ ≤ 760756; omega, by show _ ≤ 6819431; omega⟩ rfl rfl rfl rfl (Nat.le_of_ble_eq_true rfl) (fun H locs hw => ?_)
        refine gt_stk [.int (gxFree S g N), .int (M 2 j)] rfl ?_
        refine lv_icmp_le (tgt := 759) hx hb dL_law_754 (by decide) (fun _ => ?_) (fun z => absurd jf z)
        refine lv_iconst (v := 0) hx hb dL_law_759 (by decide) ?_
        refine lv_istore (lv' := [(20, .int 0), (16, .int (nI j)), (15, .int (nI g)), (12, .ref d), (11, .ref c9), (10, .ref b), (9, .ref a), (8, .int (nI G)), (7, .int (nI N)), (5, .long v5), (3, .int (nI tm)), (2, .ref (ad 0 0)), (1, .ref t), (0, .ref bb)]) hx hb dL_law_760 hl (by decide) rfl (fun ls hl => ?_)
        refine law_E l hl0 D cI cR bb nn xs t o r S o1 r1 Tz L f ad T G N M Ls hLI hLJ a b c9 d tm v5 hAR hC hE hK hA haL hbL hcL hdL hI4 (by omega) (by omega) xa xb xc xd hw ha9 g hg (by rw [hn]; exact lv_sub hl [0, 1, 2, 3, 4, 5, 6, 7, 8, 9, 10, 11, 12, 13] rfl) (fun H locs ls hw hl => ?_)
        refine gt_inc (lv' := [(15, .int (nI (g + 1))), (12, .ref d), (11, .ref c9), (10, .ref b), (9, .ref a), (8, .int (nI G)), (7, .int (nI N)), (5, .long v5), (3, .int (nI tm)), (2, .ref (ad 0 0)), (1, .ref t), (0, .ref bb)]) hC 0 g dL_law_919 hl rfl rfl (by decide) rfl (fun ls hl => ?_)
        refine lv_goto (tgt := 477) hx hb dL_law_922 (by decide) ?_
        exact K1 Tz H locs ls _ _ ⟨hw, lv_sub hl [0, 1, 2, 3, 4, 5, 6, 7, 8, 9, 10, 11] rfl⟩ (by show _ ≤ cells + 12040 * (g + 1); omega) (by show _ ≤ slots + 122700 * (g + 1); omega)
    have K645 : ∀ (Tz : SS) (H : Heap) (locs : List Loc) (ls : Array Slot) (c1 s1 : Nat), SW D A s.heap (tw cI t o r S o1 r1 Tz) L (f4 cI f a b c9 d N G xa xb xc xd) H locs → lv_has ls 23 [(17, .int (gxPw S G N g)), (16, .int (gxFiR S g N)), (15, .int (nI g)), (12, .ref d), (11, .ref c9), (10, .ref b), (9, .ref a), (8, .int (nI G)), (7, .int (nI N)), (5, .long v5), (3, .int (nI tm)), (2, .ref (ad 0 0)), (1, .ref t), (0, .ref bb)] → c1 ≤ cells + 12040 * g + 7190 → s1 ≤ slots + 122700 * g + 73440 → W p l e room_1 s m #[.ref bb] below meth c H locs c1 s1 Q (F0 m 645 ls []) := by
      intro Tz H locs ls c1 s1 hw hl hc1 hs1
      refine lv_iload hx hb dL_law_645 (lv_at hl 0 rfl) ?_
      rcases gxPw_c S G N g with hn | ⟨n, n9, hn, nz, nn0⟩
      · skip
        refine lv_if_lt (tgt := 677) hx hb dL_law_647 (by decide) (fun _ => ?_) (fun z => absurd (by rw [hn]; decide) z)
        refine lv_iload hx hb dL_law_677 (lv_at hl 0 rfl) ?_
        refine lv_if_le (tgt := 713) hx hb dL_law_679 (by decide) (fun _ => ?_) (fun z => absurd (by rw [hn]; decide) z)
        exact K713 Tz H locs ls _ _ hw (lv_sub hl [1, 2, 3, 4, 5, 6, 7, 8, 9, 10, 11, 12, 13] rfl) (by omega) (by omega)
      · skip
        refine lv_if_lt (tgt := 677) hx hb dL_law_647 (by decide) (fun z => absurd z (by rw [hn]; exact nI_pos (by omega))) (fun _ => ?_)
        rw [hn] at hl
        refine lv_aload_n hx hb dL_law_650 rfl (lv_at hl 11 rfl) ?_
        refine lv_iload hx hb dL_law_651 (lv_at hl 2 rfl) ?_
        refine lv_aload_n hx hb dL_law_653 rfl (lv_at hl 12 rfl) ?_
        refine lv_iload hx hb dL_law_654 (lv_at hl 2 rfl) ?_
        have hM := ct_X1_permitsOf l hl0 D cI t o r S o1 r1 Tz (nI g) G hSG hG4
        rw [cl_nI (show g < 12 by omega)] at hM
        refine tx_call hC 0 1 1 hM (xGate_in hLI.1 hg) gL_law_X1_permitsOf dL_law_656 hE hK hw hA hl.1 rfl hd_X1_permitsOf ⟨Nat.le_of_ble_eq_true rfl, Nat.le_of_ble_eq_true rfl⟩ ⟨by show _ ≤ 760756; omega, by show _ ≤ 6819431; omega⟩ rfl rfl rfl rfl (Nat.le_of_ble_eq_true rfl) (fun H locs hw => ?_)
        refine gt_stk [.int (S 5 g), .int (nI g), .ref (ad 0 0)] rfl ?_
        refine lv_iload hx hb dL_law_659 (lv_at hl 0 rfl) ?_
        refine lv_iadd hx hb dL_law_661 ?_
        refine lv_aload_n hx hb dL_law_662 rfl (lv_at hl 11 rfl) ?_
        refine sm_fld hC 3 4 hinX2 hK hw hI dL_law_663 rfl (by decide) rfl rfl ?_
        refine lv_iload hx hb dL_law_666 (lv_at hl 2 rfl) ?_
        refine sm_ga hC g hK hw hI dL_law_668 rfl hg (by omega) ?_
        refine lv_iconst (v := 1) hx hb dL_law_669 (by decide) ?_
        refine sm_g hC 1 hK hw hI hg dL_law_670 rfl (by decide) ?_
        refine gt_stk [.int (S 6 g), .int ((S 5 g) + (nI n)), .int (nI g), .ref (ad 0 0)] (by rw [← hpm.2.1]; try rfl) ?_
        refine px_callV hC 2 3 (ct_X2_lost l D cI cR L (f4 cI f a b c9 d N G xa xb xc xd) ad G N M Ls hI hN hG4 hLI.2.1 g (S 5 g + nI n) (S 6 g) hg (hLI.lost hg (S 5 g + nI n) (S 6 g) ho6).2) gL_law_X2_lost dL_law_671 hE.1 hK hw hA hl.1 rfl hd_X2_lost ⟨Nat.le_of_ble_eq_true rfl, Nat.le_of_ble_eq_true rfl⟩ ⟨by show _ ≤ 760756; omega, by show _ ≤ 6819431; omega⟩ hI.1.1 hI.1.2 rfl rfl rfl (Nat.le_of_ble_eq_true rfl) (fun rv L9 f9 H locs hp hw => ?_)
        obtain ⟨rfl, e8, e9⟩ := hp
        rw [e8, e9] at hw
        refine gt_stk [.int (gxGu S G N g (S 5 g + nI n) (S 6 g))] (by rw [← (hLI.lost hg (S 5 g + nI n) (S 6 g) ho6).1]; try rfl) ?_
        refine lv_if_gt (tgt := 711) hx hb dL_law_674 (by decide) (fun z => absurd z (by rw [nz]; decide)) (fun _ => ?_)
        refine lv_iload hx hb dL_law_677 (lv_at hl 0 rfl) ?_
        rcases Nat.eq_zero_or_pos n with n0 | n1
        · skip
          refine lv_if_le (tgt := 713) hx hb dL_law_679 (by decide) (fun _ => ?_) (fun z => absurd (by rw [n0]; decide) z)
          exact K713 Tz H locs ls _ _ hw (lv_sub hl [1, 2, 3, 4, 5, 6, 7, 8, 9, 10, 11, 12, 13] rfl) (by omega) (by omega)
        · skip
          refine lv_if_le (tgt := 713) hx hb dL_law_679 (by decide) (fun z => absurd z (nI_nle (by omega) (by omega))) (fun _ => ?_)
          refine lv_aload_n hx hb dL_law_682 rfl (lv_at hl 11 rfl) ?_
          refine lv_iload hx hb dL_law_683 (lv_at hl 2 rfl) ?_
          refine lv_aload_n hx hb dL_law_685 rfl (lv_at hl 12 rfl) ?_
          refine lv_iload hx hb dL_law_686 (lv_at hl 2 rfl) ?_
          have hM := ct_X1_permitsOf l hl0 D cI t o r S o1 r1 Tz (nI g) G hSG hG4
          rw [cl_nI (show g < 12 by omega)] at hM
          refine tx_call hC 0 1 1 hM (xGate_in hLI.1 hg) gL_law_X1_permitsOf dL_law_688 hE hK hw hA hl.1 rfl hd_X1_permitsOf ⟨Nat.le_of_ble_eq_true rfl, Nat.le_of_ble_eq_true rfl⟩ ⟨by show _ ≤ 760756; omega, by show _ ≤ 6819431; omega⟩ rfl rfl rfl rfl (Nat.le_of_ble_eq_true rfl) (fun H locs hw => ?_)
          refine gt_stk [.int (S 5 g), .int (nI g), .ref (ad 0 0)] rfl ?_
          refine lv_iload hx hb dL_law_691 (lv_at hl 0 rfl) ?_
          refine lv_iadd hx hb dL_law_693 ?_
          refine lv_iconst (v := 1) hx hb dL_law_694 (by decide) ?_
          refine lv_isub hx hb dL_law_695 ?_
          refine lv_aload_n hx hb dL_law_696 rfl (lv_at hl 11 rfl) ?_
          refine sm_fld hC 3 4 hinX2 hK hw hI dL_law_697 rfl (by decide) rfl rfl ?_
          refine lv_iload hx hb dL_law_700 (lv_at hl 2 rfl) ?_
          refine sm_ga hC g hK hw hI dL_law_702 rfl hg (by omega) ?_
          refine lv_iconst (v := 1) hx hb dL_law_703 (by decide) ?_
          refine sm_g hC 1 hK hw hI hg dL_law_704 rfl (by decide) ?_
          have en : S 5 g + nI n - 1 = S 5 g + nI (n - 1) := by
            have : nI n = nI (n - 1) + 1 := by rw [nI_1]; exact congrArg nI (by omega)
            rw [this, ← Int32.add_assoc, Int32.add_sub_cancel]
          refine gt_stk [.int (S 6 g), .int (S 5 g + nI (n - 1)), .int (nI g), .ref (ad 0 0)] (by rw [← hpm.2.1, ← en]; try rfl) ?_
          refine px_callV hC 2 3 (ct_X2_lost l D cI cR L (f4 cI f a b c9 d N G xa xb xc xd) ad G N M Ls hI hN hG4 hLI.2.1 g (S 5 g + nI (n - 1)) (S 6 g) hg (hLI.lost hg (S 5 g + nI (n - 1)) (S 6 g) ho6).2) gL_law_X2_lost dL_law_705 hE.1 hK hw hA hl.1 rfl hd_X2_lost ⟨Nat.le_of_ble_eq_true rfl, Nat.le_of_ble_eq_true rfl⟩ ⟨by show _ ≤ 760756; omega, by show _ ≤ 6819431; omega⟩ hI.1.1 hI.1.2 rfl rfl rfl (Nat.le_of_ble_eq_true rfl) (fun rv L9 f9 H locs hp hw => ?_)
          obtain ⟨rfl, e8, e9⟩ := hp
          rw [e8, e9] at hw
          refine gt_stk [.int (gxGu S G N g (S 5 g + nI (n - 1)) (S 6 g))] (by rw [← (hLI.lost hg (S 5 g + nI (n - 1)) (S 6 g) ho6).1]; try rfl) ?_
          refine lv_if_ne (tgt := 713) hx hb dL_law_708 (by decide) (fun _ => ?_) (fun z => absurd z (nn0 (n - 1) (by omega)))
          exact K713 Tz H locs ls _ _ hw (lv_sub hl [1, 2, 3, 4, 5, 6, 7, 8, 9, 10, 11, 12, 13] rfl) (by omega) (by omega)
    refine lv_iload hx hb dL_law_477 (lv_at hl 0 rfl) ?_
    refine lv_iload hx hb dL_law_479 (lv_at hl 5 rfl) ?_
    refine gt_ge_f (tgt := 925) hC g G dL_law_481 (by decide) rfl rfl (by omega) (by omega) ?_
    refine lv_aload_n hx hb dL_law_484 rfl (lv_at hl 10 rfl) ?_
    refine lv_iload hx hb dL_law_485 (lv_at hl 0 rfl) ?_
    have hM := ct_X1_nextAt l hl0 D cI t o r S o1 r1 Tz (nI g) N hSN hN G hSG hG4
    rw [cl_nI (show g < 12 by omega)] at hM
    refine tx_call hC 0 1 1 hM (xGate_in hLI.1 hg) gL_law_X1_nextAt dL_law_487 hE hK hw hA hl.1 rfl hd_X1_nextAt ⟨Nat.le_of_ble_eq_true rfl, Nat.le_of_ble_eq_true rfl⟩ ⟨by show _ ≤ 760756; omega, by show _ ≤ 6819431; omega⟩ rfl rfl rfl rfl (Nat.le_of_ble_eq_true rfl) (fun H locs hw => ?_)
    refine gt_stk [.int (gxFiR S g N)] rfl ?_
    refine lv_istore (lv' := [(16, .int (gxFiR S g N)), (15, .int (nI g)), (12, .ref d), (11, .ref c9), (10, .ref b), (9, .ref a), (8, .int (nI G)), (7, .int (nI N)), (5, .long v5), (3, .int (nI tm)), (2, .ref (ad 0 0)), (1, .ref t), (0, .ref bb)]) hx hb dL_law_490 hl (by decide) rfl (fun ls hl => ?_)
    refine lv_aload_n hx hb dL_law_492 rfl (lv_at hl 11 rfl) ?_
    refine lv_iload hx hb dL_law_493 (lv_at hl 1 rfl) ?_
    have hM := ct_X1_permitsWanted l hl0 D cI t o r S o1 r1 Tz (nI g) N hSN hN G hSG hG4
    rw [cl_nI (show g < 12 by omega)] at hM
    refine tx_call hC 0 1 1 hM (xGate_in hLI.1 hg) gL_law_X1_permitsWanted dL_law_495 hE hK hw hA hl.1 rfl hd_X1_permitsWanted ⟨Nat.le_of_ble_eq_true rfl, Nat.le_of_ble_eq_true rfl⟩ ⟨by show _ ≤ 760756; omega, by show _ ≤ 6819431; omega⟩ rfl rfl rfl rfl (Nat.le_of_ble_eq_true rfl) (fun H locs hw => ?_)
    refine tw_any hw (fun Tq1 hw => ?_)
    refine gt_stk [.int (gxPw S G N g)] rfl ?_
    refine lv_istore (lv' := [(17, .int (gxPw S G N g)), (16, .int (gxFiR S g N)), (15, .int (nI g)), (12, .ref d), (11, .ref c9), (10, .ref b), (9, .ref a), (8, .int (nI G)), (7, .int (nI N)), (5, .long v5), (3, .int (nI tm)), (2, .ref (ad 0 0)), (1, .ref t), (0, .ref bb)]) hx hb dL_law_498 hl (by decide) rfl (fun ls hl => ?_)
    refine lv_aload_n hx hb dL_law_500 rfl (lv_at hl 12 rfl) ?_
    refine lv_iload hx hb dL_law_501 (lv_at hl 2 rfl) ?_
    have hM := ct_X1_bestOrder l hl0 D cI t o r S o1 r1 Tq1 (nI g) N hSN hN G hSG hG4
    rw [cl_nI (show g < 12 by omega)] at hM
    refine tx_call hC 0 1 1 hM (xGate_in hLI.1 hg) gL_law_X1_bestOrder dL_law_503 hE hK hw hA hl.1 rfl hd_X1_bestOrder ⟨Nat.le_of_ble_eq_true rfl, Nat.le_of_ble_eq_true rfl⟩ ⟨by show _ ≤ 760756; omega, by show _ ≤ 6819431; omega⟩ rfl rfl rfl rfl (Nat.le_of_ble_eq_true rfl) (fun H locs hw => ?_)
    refine tw_any hw (fun Tq2 hw => ?_)
    refine gt_stk [.int (gxBo S G N g)] rfl ?_
    by_cases hbo : gxGu S G N g (S 5 g) 0 ≤ gxGu S G N g (S 5 g) 1
    · skip
      refine gt_stk [.int 0] (by rw [show gxBo S G N g = 0 from if_pos hbo]; try rfl) ?_
      refine lv_istore (lv' := [(18, .int 0), (17, .int (gxPw S G N g)), (16, .int (gxFiR S g N)), (15, .int (nI g)), (12, .ref d), (11, .ref c9), (10, .ref b), (9, .ref a), (8, .int (nI G)), (7, .int (nI N)), (5, .long v5), (3, .int (nI tm)), (2, .ref (ad 0 0)), (1, .ref t), (0, .ref bb)]) hx hb dL_law_506 hl (by decide) rfl (fun ls hl => ?_)
      refine lv_aload_n hx hb dL_law_508 rfl (lv_at hl 12 rfl) ?_
      refine lv_iload hx hb dL_law_509 (lv_at hl 3 rfl) ?_
      refine lv_aload_n hx hb dL_law_511 rfl (lv_at hl 13 rfl) ?_
      refine lv_iload hx hb dL_law_512 (lv_at hl 3 rfl) ?_
      have hM := ct_X1_permitsOf l hl0 D cI t o r S o1 r1 Tq2 (nI g) G hSG hG4
      rw [cl_nI (show g < 12 by omega)] at hM
      refine tx_call hC 0 1 1 hM (xGate_in hLI.1 hg) gL_law_X1_permitsOf dL_law_514 hE hK hw hA hl.1 rfl hd_X1_permitsOf ⟨Nat.le_of_ble_eq_true rfl, Nat.le_of_ble_eq_true rfl⟩ ⟨by show _ ≤ 760756; omega, by show _ ≤ 6819431; omega⟩ rfl rfl rfl rfl (Nat.le_of_ble_eq_true rfl) (fun H locs hw => ?_)
      refine gt_stk [.int (S 5 g), .int (nI g), .ref (ad 0 0)] rfl ?_
      refine lv_iload hx hb dL_law_517 (lv_at hl 0 rfl) ?_
      refine px_callV hC 2 3 (ct_X2_lost l D cI cR L (f4 cI f a b c9 d N G xa xb xc xd) ad G N M Ls hI hN hG4 hLI.2.1 g (S 5 g) (0) hg (hLI.lost hg (S 5 g) (0) (Or.inl rfl)).2) gL_law_X2_lost dL_law_519 hE.1 hK hw hA hl.1 rfl hd_X2_lost ⟨Nat.le_of_ble_eq_true rfl, Nat.le_of_ble_eq_true rfl⟩ ⟨by show _ ≤ 760756; omega, by show _ ≤ 6819431; omega⟩ hI.1.1 hI.1.2 rfl rfl rfl (Nat.le_of_ble_eq_true rfl) (fun rv L9 f9 H locs hp hw => ?_)
      obtain ⟨rfl, e8, e9⟩ := hp
      rw [e8, e9] at hw
      refine gt_stk [.int (gxGu S G N g (S 5 g) (0))] (by rw [← (hLI.lost hg (S 5 g) (0) (Or.inl rfl)).1]; try rfl) ?_
      refine lv_istore (lv' := [(19, .int (gxGu S G N g (S 5 g) (0))), (18, .int 0), (17, .int (gxPw S G N g)), (16, .int (gxFiR S g N)), (15, .int (nI g)), (12, .ref d), (11, .ref c9), (10, .ref b), (9, .ref a), (8, .int (nI G)), (7, .int (nI N)), (5, .long v5), (3, .int (nI tm)), (2, .ref (ad 0 0)), (1, .ref t), (0, .ref bb)]) hx hb dL_law_522 hl (by decide) rfl (fun ls hl => ?_)
      refine lv_aload_n hx hb dL_law_524 rfl (lv_at hl 14 rfl) ?_
      refine lv_iload hx hb dL_law_525 (lv_at hl 4 rfl) ?_
      have hM := ct_X1_freeOf l hl0 D cI t o r S o1 r1 Tq2 (nI g) N hSN hN G hSG hG4
      rw [cl_nI (show g < 12 by omega)] at hM
      refine tx_call hC 0 1 1 hM (xGate_in hLI.1 hg) gL_law_X1_freeOf dL_law_527 hE hK hw hA hl.1 rfl hd_X1_freeOf ⟨Nat.le_of_ble_eq_true rfl, Nat.le_of_ble_eq_true rfl⟩ ⟨by show _ ≤ 760756; omega, by show _ ≤ 6819431; omega⟩ rfl rfl rfl rfl (Nat.le_of_ble_eq_true rfl) (fun H locs hw => ?_)
      refine gt_stk [.int (gxFree S g N)] rfl ?_
      refine lv_aload_n hx hb dL_law_530 rfl (lv_at hl 14 rfl) ?_
      refine lv_iload hx hb dL_law_531 (lv_at hl 4 rfl) ?_
      have hM := ct_X1_permitsOf l hl0 D cI t o r S o1 r1 Tq2 (nI g) G hSG hG4
      rw [cl_nI (show g < 12 by omega)] at hM
      refine tx_call hC 0 1 1 hM (xGate_in hLI.1 hg) gL_law_X1_permitsOf dL_law_533 hE hK hw hA hl.1 rfl hd_X1_permitsOf ⟨Nat.le_of_ble_eq_true rfl, Nat.le_of_ble_eq_true rfl⟩ ⟨by show _ ≤ 760756; omega, by show _ ≤ 6819431; omega⟩ rfl rfl rfl rfl (Nat.le_of_ble_eq_true rfl) (fun H locs hw => ?_)
      refine gt_stk [.int (S 5 g), .int (gxFree S g N)] rfl ?_
      refine lv_aload hx hb dL_law_536 (lv_at hl 6 rfl) ?_
      refine lv_iload hx hb dL_law_538 (lv_at hl 4 rfl) ?_
      refine px_ild hC g (v := hel S N g) hK hw hcL (f4_gc hAR) dL_law_540 rfl hg (by omega) (hc9 g hg) ?_
      refine gt_stk [.int (hel S N g), .int (S 5 g), .int (gxFree S g N)] rfl ?_
      refine lv_isub hx hb dL_law_541 ?_
      refine lv_icmp_ne (tgt := 596) hx hb dL_law_542 (by decide) (fun z => absurd (hel_eq S g N) z) (fun _ => ?_)
      refine lv_aload_n hx hb dL_law_545 rfl (lv_at hl 14 rfl) ?_
      refine lv_iload hx hb dL_law_546 (lv_at hl 4 rfl) ?_
      have hM := ct_X1_freeOf l hl0 D cI t o r S o1 r1 Tq2 (nI g) N hSN hN G hSG hG4
      rw [cl_nI (show g < 12 by omega)] at hM
      refine tx_call hC 0 1 1 hM (xGate_in hLI.1 hg) gL_law_X1_freeOf dL_law_548 hE hK hw hA hl.1 rfl hd_X1_freeOf ⟨Nat.le_of_ble_eq_true rfl, Nat.le_of_ble_eq_true rfl⟩ ⟨by show _ ≤ 760756; omega, by show _ ≤ 6819431; omega⟩ rfl rfl rfl rfl (Nat.le_of_ble_eq_true rfl) (fun H locs hw => ?_)
      refine gt_stk [.int (gxFree S g N)] rfl ?_
      refine lv_if_lt (tgt := 596) hx hb dL_law_551 (by decide) (fun z => absurd z (by rw [hfa]; exact nI_pos (by omega))) (fun _ => ?_)
      refine lv_aload hx hb dL_law_554 (lv_at hl 5 rfl) ?_
      refine lv_iload hx hb dL_law_556 (lv_at hl 4 rfl) ?_
      refine px_ild hC g (v := lnm S N N g) hK hw hdL (f4_gd hAR) dL_law_558 rfl hg (by omega) (hd9 g hg) ?_
      refine gt_stk [.int (lnm S N N g)] rfl ?_
      refine lv_iconst (v := 1) hx hb dL_law_559 (by decide) ?_
      refine lv_aload_n hx hb dL_law_560 rfl (lv_at hl 14 rfl) ?_
      refine lv_iload hx hb dL_law_561 (lv_at hl 4 rfl) ?_
      refine tx_call hC 0 1 1 (ct_X1_waitingAt l hl0 D cI t o r S o1 r1 Tq2 (nI g) N hSN hN G hSG hG4) (xGate_in hLI.1 hg) gL_law_X1_waitingAt dL_law_563 hE hK hw hA hl.1 rfl hd_X1_waitingAt ⟨Nat.le_of_ble_eq_true rfl, Nat.le_of_ble_eq_true rfl⟩ ⟨by show _ ≤ 760756; omega, by show _ ≤ 6819431; omega⟩ rfl rfl rfl rfl (Nat.le_of_ble_eq_true rfl) (fun H locs hw => ?_)
      refine gt_stk [.int (gxWat S (nI g) N), .int 1, .int (lnm S N N g)] rfl ?_
      refine lv_ishl hx hb dL_law_566 ?_
      refine lv_iconst (v := 1) hx hb dL_law_567 (by decide) ?_
      refine lv_isub hx hb dL_law_568 ?_
      refine lv_icmp_ne (tgt := 596) hx hb dL_law_569 (by decide) (fun z => absurd (hLI.ln hg) z) (fun _ => ?_)
      refine lv_iload hx hb dL_law_572 (lv_at hl 2 rfl) ?_
      refine lv_iconst (v := (-1)) hx hb dL_law_574 (by decide) ?_
      refine lv_icmp_lt (tgt := 596) hx hb dL_law_575 (by decide) (fun z => absurd z (pw_lo S G N g)) (fun _ => ?_)
      refine lv_iload hx hb dL_law_578 (lv_at hl 2 rfl) ?_
      refine lv_bipush (v := 9) hx hb dL_law_580 (by decide) ?_
      refine lv_icmp_gt (tgt := 596) hx hb dL_law_582 (by decide) (fun z => absurd z (pw_hi S G N g)) (fun _ => ?_)
      refine lv_iload hx hb dL_law_585 (lv_at hl 1 rfl) ?_
      refine lv_if_lt (tgt := 596) hx hb dL_law_587 (by decide) (fun z => absurd z (by decide)) (fun _ => ?_)
      refine lv_iload hx hb dL_law_590 (lv_at hl 1 rfl) ?_
      refine lv_iconst (v := 1) hx hb dL_law_592 (by decide) ?_
      refine lv_icmp_le (tgt := 598) hx hb dL_law_593 (by decide) (fun _ => ?_) (fun z => absurd (by decide) z)
      refine lv_iload hx hb dL_law_598 (lv_at hl 0 rfl) ?_
      refine lv_aload_n hx hb dL_law_600 rfl (lv_at hl 13 rfl) ?_
      refine lv_iload hx hb dL_law_601 (lv_at hl 4 rfl) ?_
      refine lv_aload_n hx hb dL_law_603 rfl (lv_at hl 14 rfl) ?_
      refine lv_iload hx hb dL_law_604 (lv_at hl 4 rfl) ?_
      have hM := ct_X1_permitsOf l hl0 D cI t o r S o1 r1 Tq2 (nI g) G hSG hG4
      rw [cl_nI (show g < 12 by omega)] at hM
      refine tx_call hC 0 1 1 hM (xGate_in hLI.1 hg) gL_law_X1_permitsOf dL_law_606 hE hK hw hA hl.1 rfl hd_X1_permitsOf ⟨Nat.le_of_ble_eq_true rfl, Nat.le_of_ble_eq_true rfl⟩ ⟨by show _ ≤ 760756; omega, by show _ ≤ 6819431; omega⟩ rfl rfl rfl rfl (Nat.le_of_ble_eq_true rfl) (fun H locs hw => ?_)
      refine gt_stk [.int (S 5 g), .int (nI g), .ref (ad 0 0), .int (gxGu S G N g (S 5 g) (0))] rfl ?_
      refine lv_iconst (v := 1) hx hb dL_law_609 (by decide) ?_
      refine lv_iload hx hb dL_law_610 (lv_at hl 1 rfl) ?_
      refine lv_isub hx hb dL_law_612 ?_
      refine gt_stk [.int 1, .int (S 5 g), .int (nI g), .ref (ad 0 0), .int (gxGu S G N g (S 5 g) (0))] (by rfl) ?_
      refine px_callV hC 2 3 (ct_X2_lost l D cI cR L (f4 cI f a b c9 d N G xa xb xc xd) ad G N M Ls hI hN hG4 hLI.2.1 g (S 5 g) (1) hg (hLI.lost hg (S 5 g) (1) (Or.inr rfl)).2) gL_law_X2_lost dL_law_613 hE.1 hK hw hA hl.1 rfl hd_X2_lost ⟨Nat.le_of_ble_eq_true rfl, Nat.le_of_ble_eq_true rfl⟩ ⟨by show _ ≤ 760756; omega, by show _ ≤ 6819431; omega⟩ hI.1.1 hI.1.2 rfl rfl rfl (Nat.le_of_ble_eq_true rfl) (fun rv L9 f9 H locs hp hw => ?_)
      obtain ⟨rfl, e8, e9⟩ := hp
      rw [e8, e9] at hw
      refine gt_stk [.int (gxGu S G N g (S 5 g) (1)), .int (gxGu S G N g (S 5 g) (0))] (by rw [← (hLI.lost hg (S 5 g) (1) (Or.inr rfl)).1]; try rfl) ?_
      refine lv_icmp_gt (tgt := 643) hx hb dL_law_616 (by decide) (fun z => absurd z (Int32.not_lt.mpr hbo)) (fun _ => ?_)
      refine lv_iload hx hb dL_law_619 (lv_at hl 1 rfl) ?_
      refine lv_iconst (v := 1) hx hb dL_law_621 (by decide) ?_
      refine lv_icmp_ne (tgt := 645) hx hb dL_law_622 (by decide) (fun _ => ?_) (fun z => absurd z (by decide))
      exact K645 Tq2 H locs ls _ _ hw (lv_sub hl [2, 3, 4, 5, 6, 7, 8, 9, 10, 11, 12, 13, 14, 15] rfl) (by omega) (by omega)
    · skip
      refine gt_stk [.int 1] (by rw [show gxBo S G N g = 1 from if_neg hbo]; try rfl) ?_
      refine lv_istore (lv' := [(18, .int 1), (17, .int (gxPw S G N g)), (16, .int (gxFiR S g N)), (15, .int (nI g)), (12, .ref d), (11, .ref c9), (10, .ref b), (9, .ref a), (8, .int (nI G)), (7, .int (nI N)), (5, .long v5), (3, .int (nI tm)), (2, .ref (ad 0 0)), (1, .ref t), (0, .ref bb)]) hx hb dL_law_506 hl (by decide) rfl (fun ls hl => ?_)
      refine lv_aload_n hx hb dL_law_508 rfl (lv_at hl 12 rfl) ?_
      refine lv_iload hx hb dL_law_509 (lv_at hl 3 rfl) ?_
      refine lv_aload_n hx hb dL_law_511 rfl (lv_at hl 13 rfl) ?_
      refine lv_iload hx hb dL_law_512 (lv_at hl 3 rfl) ?_
      have hM := ct_X1_permitsOf l hl0 D cI t o r S o1 r1 Tq2 (nI g) G hSG hG4
      rw [cl_nI (show g < 12 by omega)] at hM
      refine tx_call hC 0 1 1 hM (xGate_in hLI.1 hg) gL_law_X1_permitsOf dL_law_514 hE hK hw hA hl.1 rfl hd_X1_permitsOf ⟨Nat.le_of_ble_eq_true rfl, Nat.le_of_ble_eq_true rfl⟩ ⟨by show _ ≤ 760756; omega, by show _ ≤ 6819431; omega⟩ rfl rfl rfl rfl (Nat.le_of_ble_eq_true rfl) (fun H locs hw => ?_)
      refine gt_stk [.int (S 5 g), .int (nI g), .ref (ad 0 0)] rfl ?_
      refine lv_iload hx hb dL_law_517 (lv_at hl 0 rfl) ?_
      refine px_callV hC 2 3 (ct_X2_lost l D cI cR L (f4 cI f a b c9 d N G xa xb xc xd) ad G N M Ls hI hN hG4 hLI.2.1 g (S 5 g) (1) hg (hLI.lost hg (S 5 g) (1) (Or.inr rfl)).2) gL_law_X2_lost dL_law_519 hE.1 hK hw hA hl.1 rfl hd_X2_lost ⟨Nat.le_of_ble_eq_true rfl, Nat.le_of_ble_eq_true rfl⟩ ⟨by show _ ≤ 760756; omega, by show _ ≤ 6819431; omega⟩ hI.1.1 hI.1.2 rfl rfl rfl (Nat.le_of_ble_eq_true rfl) (fun rv L9 f9 H locs hp hw => ?_)
      obtain ⟨rfl, e8, e9⟩ := hp
      rw [e8, e9] at hw
      refine gt_stk [.int (gxGu S G N g (S 5 g) (1))] (by rw [← (hLI.lost hg (S 5 g) (1) (Or.inr rfl)).1]; try rfl) ?_
      refine lv_istore (lv' := [(19, .int (gxGu S G N g (S 5 g) (1))), (18, .int 1), (17, .int (gxPw S G N g)), (16, .int (gxFiR S g N)), (15, .int (nI g)), (12, .ref d), (11, .ref c9), (10, .ref b), (9, .ref a), (8, .int (nI G)), (7, .int (nI N)), (5, .long v5), (3, .int (nI tm)), (2, .ref (ad 0 0)), (1, .ref t), (0, .ref bb)]) hx hb dL_law_522 hl (by decide) rfl (fun ls hl => ?_)
      refine lv_aload_n hx hb dL_law_524 rfl (lv_at hl 14 rfl) ?_
      refine lv_iload hx hb dL_law_525 (lv_at hl 4 rfl) ?_
      have hM := ct_X1_freeOf l hl0 D cI t o r S o1 r1 Tq2 (nI g) N hSN hN G hSG hG4
      rw [cl_nI (show g < 12 by omega)] at hM
      refine tx_call hC 0 1 1 hM (xGate_in hLI.1 hg) gL_law_X1_freeOf dL_law_527 hE hK hw hA hl.1 rfl hd_X1_freeOf ⟨Nat.le_of_ble_eq_true rfl, Nat.le_of_ble_eq_true rfl⟩ ⟨by show _ ≤ 760756; omega, by show _ ≤ 6819431; omega⟩ rfl rfl rfl rfl (Nat.le_of_ble_eq_true rfl) (fun H locs hw => ?_)
      refine gt_stk [.int (gxFree S g N)] rfl ?_
      refine lv_aload_n hx hb dL_law_530 rfl (lv_at hl 14 rfl) ?_
      refine lv_iload hx hb dL_law_531 (lv_at hl 4 rfl) ?_
      have hM := ct_X1_permitsOf l hl0 D cI t o r S o1 r1 Tq2 (nI g) G hSG hG4
      rw [cl_nI (show g < 12 by omega)] at hM
      refine tx_call hC 0 1 1 hM (xGate_in hLI.1 hg) gL_law_X1_permitsOf dL_law_533 hE hK hw hA hl.1 rfl hd_X1_permitsOf ⟨Nat.le_of_ble_eq_true rfl, Nat.le_of_ble_eq_true rfl⟩ ⟨by show _ ≤ 760756; omega, by show _ ≤ 6819431; omega⟩ rfl rfl rfl rfl (Nat.le_of_ble_eq_true rfl) (fun H locs hw => ?_)
      refine gt_stk [.int (S 5 g), .int (gxFree S g N)] rfl ?_
      refine lv_aload hx hb dL_law_536 (lv_at hl 6 rfl) ?_
      refine lv_iload hx hb dL_law_538 (lv_at hl 4 rfl) ?_
      refine px_ild hC g (v := hel S N g) hK hw hcL (f4_gc hAR) dL_law_540 rfl hg (by omega) (hc9 g hg) ?_
      refine gt_stk [.int (hel S N g), .int (S 5 g), .int (gxFree S g N)] rfl ?_
      refine lv_isub hx hb dL_law_541 ?_
      refine lv_icmp_ne (tgt := 596) hx hb dL_law_542 (by decide) (fun z => absurd (hel_eq S g N) z) (fun _ => ?_)
      refine lv_aload_n hx hb dL_law_545 rfl (lv_at hl 14 rfl) ?_
      refine lv_iload hx hb dL_law_546 (lv_at hl 4 rfl) ?_
      have hM := ct_X1_freeOf l hl0 D cI t o r S o1 r1 Tq2 (nI g) N hSN hN G hSG hG4
      rw [cl_nI (show g < 12 by omega)] at hM
      refine tx_call hC 0 1 1 hM (xGate_in hLI.1 hg) gL_law_X1_freeOf dL_law_548 hE hK hw hA hl.1 rfl hd_X1_freeOf ⟨Nat.le_of_ble_eq_true rfl, Nat.le_of_ble_eq_true rfl⟩ ⟨by show _ ≤ 760756; omega, by show _ ≤ 6819431; omega⟩ rfl rfl rfl rfl (Nat.le_of_ble_eq_true rfl) (fun H locs hw => ?_)
      refine gt_stk [.int (gxFree S g N)] rfl ?_
      refine lv_if_lt (tgt := 596) hx hb dL_law_551 (by decide) (fun z => absurd z (by rw [hfa]; exact nI_pos (by omega))) (fun _ => ?_)
      refine lv_aload hx hb dL_law_554 (lv_at hl 5 rfl) ?_
      refine lv_iload hx hb dL_law_556 (lv_at hl 4 rfl) ?_
      refine px_ild hC g (v := lnm S N N g) hK hw hdL (f4_gd hAR) dL_law_558 rfl hg (by omega) (hd9 g hg) ?_
      refine gt_stk [.int (lnm S N N g)] rfl ?_
      refine lv_iconst (v := 1) hx hb dL_law_559 (by decide) ?_
      refine lv_aload_n hx hb dL_law_560 rfl (lv_at hl 14 rfl) ?_
      refine lv_iload hx hb dL_law_561 (lv_at hl 4 rfl) ?_
      refine tx_call hC 0 1 1 (ct_X1_waitingAt l hl0 D cI t o r S o1 r1 Tq2 (nI g) N hSN hN G hSG hG4) (xGate_in hLI.1 hg) gL_law_X1_waitingAt dL_law_563 hE hK hw hA hl.1 rfl hd_X1_waitingAt ⟨Nat.le_of_ble_eq_true rfl, Nat.le_of_ble_eq_true rfl⟩ ⟨by show _ ≤ 760756; omega, by show _ ≤ 6819431; omega⟩ rfl rfl rfl rfl (Nat.le_of_ble_eq_true rfl) (fun H locs hw => ?_)
      refine gt_stk [.int (gxWat S (nI g) N), .int 1, .int (lnm S N N g)] rfl ?_
      refine lv_ishl hx hb dL_law_566 ?_
      refine lv_iconst (v := 1) hx hb dL_law_567 (by decide) ?_
      refine lv_isub hx hb dL_law_568 ?_
      refine lv_icmp_ne (tgt := 596) hx hb dL_law_569 (by decide) (fun z => absurd (hLI.ln hg) z) (fun _ => ?_)
      refine lv_iload hx hb dL_law_572 (lv_at hl 2 rfl) ?_
      refine lv_iconst (v := (-1)) hx hb dL_law_574 (by decide) ?_
      refine lv_icmp_lt (tgt := 596) hx hb dL_law_575 (by decide) (fun z => absurd z (pw_lo S G N g)) (fun _ => ?_)
      refine lv_iload hx hb dL_law_578 (lv_at hl 2 rfl) ?_
      refine lv_bipush (v := 9) hx hb dL_law_580 (by decide) ?_
      refine lv_icmp_gt (tgt := 596) hx hb dL_law_582 (by decide) (fun z => absurd z (pw_hi S G N g)) (fun _ => ?_)
      refine lv_iload hx hb dL_law_585 (lv_at hl 1 rfl) ?_
      refine lv_if_lt (tgt := 596) hx hb dL_law_587 (by decide) (fun z => absurd z (by decide)) (fun _ => ?_)
      refine lv_iload hx hb dL_law_590 (lv_at hl 1 rfl) ?_
      refine lv_iconst (v := 1) hx hb dL_law_592 (by decide) ?_
      refine lv_icmp_le (tgt := 598) hx hb dL_law_593 (by decide) (fun _ => ?_) (fun z => absurd (by decide) z)
      refine lv_iload hx hb dL_law_598 (lv_at hl 0 rfl) ?_
      refine lv_aload_n hx hb dL_law_600 rfl (lv_at hl 13 rfl) ?_
      refine lv_iload hx hb dL_law_601 (lv_at hl 4 rfl) ?_
      refine lv_aload_n hx hb dL_law_603 rfl (lv_at hl 14 rfl) ?_
      refine lv_iload hx hb dL_law_604 (lv_at hl 4 rfl) ?_
      have hM := ct_X1_permitsOf l hl0 D cI t o r S o1 r1 Tq2 (nI g) G hSG hG4
      rw [cl_nI (show g < 12 by omega)] at hM
      refine tx_call hC 0 1 1 hM (xGate_in hLI.1 hg) gL_law_X1_permitsOf dL_law_606 hE hK hw hA hl.1 rfl hd_X1_permitsOf ⟨Nat.le_of_ble_eq_true rfl, Nat.le_of_ble_eq_true rfl⟩ ⟨by show _ ≤ 760756; omega, by show _ ≤ 6819431; omega⟩ rfl rfl rfl rfl (Nat.le_of_ble_eq_true rfl) (fun H locs hw => ?_)
      refine gt_stk [.int (S 5 g), .int (nI g), .ref (ad 0 0), .int (gxGu S G N g (S 5 g) (1))] rfl ?_
      refine lv_iconst (v := 1) hx hb dL_law_609 (by decide) ?_
      refine lv_iload hx hb dL_law_610 (lv_at hl 1 rfl) ?_
      refine lv_isub hx hb dL_law_612 ?_
      refine gt_stk [.int 0, .int (S 5 g), .int (nI g), .ref (ad 0 0), .int (gxGu S G N g (S 5 g) (1))] (by rfl) ?_
      refine px_callV hC 2 3 (ct_X2_lost l D cI cR L (f4 cI f a b c9 d N G xa xb xc xd) ad G N M Ls hI hN hG4 hLI.2.1 g (S 5 g) (0) hg (hLI.lost hg (S 5 g) (0) (Or.inl rfl)).2) gL_law_X2_lost dL_law_613 hE.1 hK hw hA hl.1 rfl hd_X2_lost ⟨Nat.le_of_ble_eq_true rfl, Nat.le_of_ble_eq_true rfl⟩ ⟨by show _ ≤ 760756; omega, by show _ ≤ 6819431; omega⟩ hI.1.1 hI.1.2 rfl rfl rfl (Nat.le_of_ble_eq_true rfl) (fun rv L9 f9 H locs hp hw => ?_)
      obtain ⟨rfl, e8, e9⟩ := hp
      rw [e8, e9] at hw
      refine gt_stk [.int (gxGu S G N g (S 5 g) (0)), .int (gxGu S G N g (S 5 g) (1))] (by rw [← (hLI.lost hg (S 5 g) (0) (Or.inl rfl)).1]; try rfl) ?_
      refine lv_icmp_gt (tgt := 643) hx hb dL_law_616 (by decide) (fun z => absurd z (fun z => hbo (Int32.le_of_lt z))) (fun _ => ?_)
      refine lv_iload hx hb dL_law_619 (lv_at hl 1 rfl) ?_
      refine lv_iconst (v := 1) hx hb dL_law_621 (by decide) ?_
      refine lv_icmp_ne (tgt := 645) hx hb dL_law_622 (by decide) (fun z => absurd (by decide) z) (fun _ => ?_)
      refine lv_iload hx hb dL_law_625 (lv_at hl 0 rfl) ?_
      refine lv_aload_n hx hb dL_law_627 rfl (lv_at hl 13 rfl) ?_
      refine lv_iload hx hb dL_law_628 (lv_at hl 4 rfl) ?_
      refine lv_aload_n hx hb dL_law_630 rfl (lv_at hl 14 rfl) ?_
      refine lv_iload hx hb dL_law_631 (lv_at hl 4 rfl) ?_
      have hM := ct_X1_permitsOf l hl0 D cI t o r S o1 r1 Tq2 (nI g) G hSG hG4
      rw [cl_nI (show g < 12 by omega)] at hM
      refine tx_call hC 0 1 1 hM (xGate_in hLI.1 hg) gL_law_X1_permitsOf dL_law_633 hE hK hw hA hl.1 rfl hd_X1_permitsOf ⟨Nat.le_of_ble_eq_true rfl, Nat.le_of_ble_eq_true rfl⟩ ⟨by show _ ≤ 760756; omega, by show _ ≤ 6819431; omega⟩ rfl rfl rfl rfl (Nat.le_of_ble_eq_true rfl) (fun H locs hw => ?_)
      refine gt_stk [.int (S 5 g), .int (nI g), .ref (ad 0 0), .int (gxGu S G N g (S 5 g) (1))] rfl ?_
      refine lv_iconst (v := 0) hx hb dL_law_636 (by decide) ?_
      refine px_callV hC 2 3 (ct_X2_lost l D cI cR L (f4 cI f a b c9 d N G xa xb xc xd) ad G N M Ls hI hN hG4 hLI.2.1 g (S 5 g) (0) hg (hLI.lost hg (S 5 g) (0) (Or.inl rfl)).2) gL_law_X2_lost dL_law_637 hE.1 hK hw hA hl.1 rfl hd_X2_lost ⟨Nat.le_of_ble_eq_true rfl, Nat.le_of_ble_eq_true rfl⟩ ⟨by show _ ≤ 760756; omega, by show _ ≤ 6819431; omega⟩ hI.1.1 hI.1.2 rfl rfl rfl (Nat.le_of_ble_eq_true rfl) (fun rv L9 f9 H locs hp hw => ?_)
      obtain ⟨rfl, e8, e9⟩ := hp
      rw [e8, e9] at hw
      refine gt_stk [.int (gxGu S G N g (S 5 g) (0)), .int (gxGu S G N g (S 5 g) (1))] (by rw [← (hLI.lost hg (S 5 g) (0) (Or.inl rfl)).1]; try rfl) ?_
      refine lv_icmp_ne (tgt := 645) hx hb dL_law_640 (by decide) (fun _ => ?_) (fun z => absurd z (fun z => hbo (by rw [z]; exact Int32.le_refl _)))
      exact K645 Tq2 H locs ls _ _ hw (lv_sub hl [2, 3, 4, 5, 6, 7, 8, 9, 10, 11, 12, 13, 14, 15] rfl) (by omega) (by omega)
  · obtain ⟨hw, hl⟩ := hX
    refine lv_iload hx hb dL_law_477 (lv_at hl 0 rfl) ?_
    refine lv_iload hx hb dL_law_479 (lv_at hl 5 rfl) ?_
    refine gt_ge_t (tgt := 925) hC G G dL_law_481 (by decide) rfl rfl (Nat.le_refl _) (by omega) ?_
    exact kk Tz H locs ls hw (lv_sub hl [1, 2, 3, 4, 5, 6, 7, 8, 9, 10, 11] rfl)
