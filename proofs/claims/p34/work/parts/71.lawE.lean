/-! The law's look at each goat at a gate (laid by wip/p34/gen/sim11.py). -/
set_option maxHeartbeats 1000000 in
set_option maxRecDepth 100000 in
theorem law_E {p : Program} {e : Env} {s : State} {m : MethodId} {below : List Frame} {meth : Method} {c : Code} {H : Heap} {locs : List Loc} {cells slots : Nat} {Q : State → Prop} {ls : Array Slot} {A : Nat → Prop} (l : Launch) (hl0 : l.stackTraces = false) (D : va_G) (cI cR : ClassId) (bb nn : Nat) (xs : Nat → Int32) (t o : Nat) (r : Nat → Nat) (S : SS) (o1 : Nat) (r1 : Nat → Nat) (Tt : SS) (L : List Nat) (f : Nat → va_E) (ad : Nat → Nat → Nat) (T G N : Nat) (M : SS) (Ls : Nat → List Nat) (hLI : LI T G N S M Ls) (hLJ : LJ G N M) (a b c9 d tm : Nat) (v5 : Int64) (hAR : AR a b c9 d)
  (hC : CallFix p m c cL_law 23 s #[.ref bb] wsL_law RL) (hE : LE bb nn xs A s) (hK : va_K D vwCl (tyS cI cR) s) (hA : ∀ q, s.heap.size ≤ q → A q) (haL : a ∈ L) (hbL : b ∈ L) (hcL : c9 ∈ L) (hdL : d ∈ L)
  (hI4 : ∀ xa xb xc xd, SimI cI cR L (f4 cI f a b c9 d N G xa xb xc xd) ad G N G M Ls) (hcc : cells ≤ 758000) (hss : slots ≤ 6800000) (xa xb xc xd : Nat → Int32)
  (hw : SW D A s.heap (tw cI t o r S o1 r1 Tt) L (f4 cI f a b c9 d N G xa xb xc xd) H locs) (ha9 : ∀ j, j < N → xa j = S 9 j) (g : Nat) (hg : g < G) (hl : lv_has ls 23 [(20, .int (nI 0)), (16, .int (gxFiR S g N)), (15, .int (nI g)), (12, .ref d), (11, .ref c9), (10, .ref b), (9, .ref a), (8, .int (nI G)), (7, .int (nI N)), (5, .long v5), (3, .int (nI tm)), (2, .ref (ad 0 0)), (1, .ref t), (0, .ref bb)])
  (kk : ∀ (H : Heap) (locs : List Loc) (ls : Array Slot), SW D A s.heap (tw cI t o r S o1 r1 Tt) L (f4 cI f a b c9 d N G xa xb xc xd) H locs → lv_has ls 23 [(15, .int (nI g)), (12, .ref d), (11, .ref c9), (10, .ref b), (9, .ref a), (8, .int (nI G)), (7, .int (nI N)), (5, .long v5), (3, .int (nI tm)), (2, .ref (ad 0 0)), (1, .ref t), (0, .ref bb)] → W p l e room_1 s m #[.ref bb] below meth c H locs (cells + 4 * N) (slots + 24 * N) Q (F0 m 919 ls [])) : W p l e room_1 s m #[.ref bb] below meth c H locs cells slots Q (F0 m 762 ls []) := by
  have hx := hC.1
  have hb := hC.2.1
  have hN := hLI.1.1
  have hG4 := hLI.1.2.1
  have hSG := hLI.1.2.2.1
  have hSN := hLI.1.2.2.2.1
  have hinX2 : ∀ w ∈ wsX20, w ∈ wsL_law := inlX2
  have hI := hI4 xa xb xc xd
  refine px_loop (σ := Unit) N (fun i => cells + 4 * i) (fun i => slots + 24 * i) (fun i _ H locs ls => SW D A s.heap (tw cI t o r S o1 r1 Tt) L (f4 cI f a b c9 d N G xa xb xc xd) H locs ∧ lv_has ls 23 [(20, .int (nI i)), (16, .int (gxFiR S g N)), (15, .int (nI g)), (12, .ref d), (11, .ref c9), (10, .ref b), (9, .ref a), (8, .int (nI G)), (7, .int (nI N)), (5, .long v5), (3, .int (nI tm)), (2, .ref (ad 0 0)), (1, .ref t), (0, .ref bb)]) () ⟨hw, hl⟩ (Nat.le_refl _) (Nat.le_refl _) (fun i hi _ H locs ls hX K1 => ?_) (fun _ H locs ls hX => ?_)
  · obtain ⟨hw, hl⟩ := hX
    refine lv_iload hx hb dL_law_762 (lv_at hl 0 rfl) ?_
    refine lv_iload hx hb dL_law_764 (lv_at hl 8 rfl) ?_
    refine gt_ge_f (tgt := 919) hC i N dL_law_766 (by decide) rfl rfl (by omega) (by omega) ?_
    refine lv_aload hx hb dL_law_769 (lv_at hl 6 rfl) ?_
    refine lv_iload hx hb dL_law_771 (lv_at hl 0 rfl) ?_
    refine px_ild hC i (v := S 9 i) hK hw haL (f4_ga hAR) dL_law_773 rfl hi (by omega) (ha9 i hi) ?_
    refine gt_stk [.int (S 9 i)] rfl ?_
    refine lv_iconst (v := 1) hx hb dL_law_774 (by decide) ?_
    by_cases h9 : S 9 i = 1
    rotate_left
    · skip
      refine lv_icmp_ne (tgt := 913) hx hb dL_law_775 (by decide) (fun _ => ?_) (fun z => absurd z h9)
      refine gt_inc (lv' := [(20, .int (nI (i + 1))), (16, .int (gxFiR S g N)), (15, .int (nI g)), (12, .ref d), (11, .ref c9), (10, .ref b), (9, .ref a), (8, .int (nI G)), (7, .int (nI N)), (5, .long v5), (3, .int (nI tm)), (2, .ref (ad 0 0)), (1, .ref t), (0, .ref bb)]) hC 0 i dL_law_913 hl rfl rfl (by decide) rfl (fun ls hl => ?_)
      refine lv_goto (tgt := 762) hx hb dL_law_916 (by decide) ?_
      exact K1 () H locs ls _ _ ⟨hw, lv_sub hl [0, 1, 2, 3, 4, 5, 6, 7, 8, 9, 10, 11, 12, 13] rfl⟩ (by show _ ≤ cells + 4 * (i + 1); omega) (by show _ ≤ slots + 24 * (i + 1); omega)
    · skip
      refine lv_icmp_ne (tgt := 913) hx hb dL_law_775 (by decide) (fun z => absurd h9 z) (fun _ => ?_)
      refine lv_aload_n hx hb dL_law_778 rfl (lv_at hl 12 rfl) ?_
      refine lv_iload hx hb dL_law_779 (lv_at hl 0 rfl) ?_
      have hM := ct_X1_gateOf l hl0 D cI t o r S o1 r1 Tt (nI i) N hSN hN
      rw [cl_nI (show i < 12 by omega)] at hM
      refine tx_call hC 0 1 1 hM (xGoat_in hLI.1 hi) gL_law_X1_gateOf dL_law_781 hE hK hw hA hl.1 rfl hd_X1_gateOf ⟨Nat.le_of_ble_eq_true rfl, Nat.le_of_ble_eq_true rfl⟩ ⟨by show _ ≤ 760756; omega, by show _ ≤ 6819431; omega⟩ rfl rfl rfl rfl (Nat.le_of_ble_eq_true rfl) (fun H locs hw => ?_)
      refine gt_stk [.int (S 10 i)] rfl ?_
      refine lv_iload hx hb dL_law_784 (lv_at hl 2 rfl) ?_
      by_cases h10 : S 10 i = nI g
      rotate_left
      · skip
        refine lv_icmp_eq (tgt := 792) hx hb dL_law_786 (by decide) (fun z => absurd z h10) (fun _ => ?_)
        refine lv_goto (tgt := 913) hx hb dL_law_789 (by decide) ?_
        refine gt_inc (lv' := [(20, .int (nI (i + 1))), (16, .int (gxFiR S g N)), (15, .int (nI g)), (12, .ref d), (11, .ref c9), (10, .ref b), (9, .ref a), (8, .int (nI G)), (7, .int (nI N)), (5, .long v5), (3, .int (nI tm)), (2, .ref (ad 0 0)), (1, .ref t), (0, .ref bb)]) hC 0 i dL_law_913 hl rfl rfl (by decide) rfl (fun ls hl => ?_)
        refine lv_goto (tgt := 762) hx hb dL_law_916 (by decide) ?_
        exact K1 () H locs ls _ _ ⟨hw, lv_sub hl [0, 1, 2, 3, 4, 5, 6, 7, 8, 9, 10, 11, 12, 13] rfl⟩ (by show _ ≤ cells + 4 * (i + 1); omega) (by show _ ≤ slots + 24 * (i + 1); omega)
      · skip
        refine lv_icmp_eq (tgt := 792) hx hb dL_law_786 (by decide) (fun _ => ?_) (fun z => absurd h10 z)
        refine lv_aload_n hx hb dL_law_792 rfl (lv_at hl 11 rfl) ?_
        refine sm_fld hC 4 5 hinX2 hK hw hI dL_law_793 rfl (by decide) rfl rfl ?_
        refine lv_iload hx hb dL_law_796 (lv_at hl 0 rfl) ?_
        refine sm_ka hC i hK hw hI dL_law_798 rfl hi (by omega) ?_
        refine lv_iconst (v := 3) hx hb dL_law_799 (by decide) ?_
        refine sm_k hC 3 2 hK hw hI hi dL_law_800 rfl (by decide) rfl ?_
        refine lv_aload_n hx hb dL_law_801 rfl (lv_at hl 12 rfl) ?_
        refine lv_iload hx hb dL_law_802 (lv_at hl 2 rfl) ?_
        have hM := ct_X1_freeOf l hl0 D cI t o r S o1 r1 Tt (nI g) N hSN hN G hSG hG4
        rw [cl_nI (show g < 12 by omega)] at hM
        refine tx_call hC 0 1 1 hM (xGate_in hLI.1 hg) gL_law_X1_freeOf dL_law_804 hE hK hw hA hl.1 rfl hd_X1_freeOf ⟨Nat.le_of_ble_eq_true rfl, Nat.le_of_ble_eq_true rfl⟩ ⟨by show _ ≤ 760756; omega, by show _ ≤ 6819431; omega⟩ rfl rfl rfl rfl (Nat.le_of_ble_eq_true rfl) (fun H locs hw => ?_)
        refine gt_stk [.int (gxFree S g N), .int (M 2 i)] rfl ?_
        rcases hLI.nf hg with hn | ⟨j, hj, hn, j9, j10, jf⟩
        · rw [hn] at hl
          by_cases hf : M 2 i ≤ gxFree S g N
          · skip
            refine lv_icmp_gt (tgt := 814) hx hb dL_law_807 (by decide) (fun z => absurd z (Int32.not_lt.mpr hf)) (fun _ => ?_)
            refine lv_iconst (v := 1) hx hb dL_law_810 (by decide) ?_
            refine lv_goto (tgt := 815) hx hb dL_law_811 (by decide) ?_
            refine lv_istore (lv' := [(21, .int 1), (20, .int (nI i)), (16, .int (-1)), (15, .int (nI g)), (12, .ref d), (11, .ref c9), (10, .ref b), (9, .ref a), (8, .int (nI G)), (7, .int (nI N)), (5, .long v5), (3, .int (nI tm)), (2, .ref (ad 0 0)), (1, .ref t), (0, .ref bb)]) hx hb dL_law_815 hl (by decide) rfl (fun ls hl => ?_)
            refine lv_aload_n hx hb dL_law_817 rfl (lv_at hl 12 rfl) ?_
            refine sm_fld hC 3 4 hinX2 hK hw hI dL_law_818 rfl (by decide) rfl rfl ?_
            refine lv_iload hx hb dL_law_821 (lv_at hl 3 rfl) ?_
            refine sm_ga hC g hK hw hI dL_law_823 rfl hg (by omega) ?_
            refine lv_iconst (v := 1) hx hb dL_law_824 (by decide) ?_
            refine sm_g hC 1 hK hw hI hg dL_law_825 rfl (by decide) ?_
            refine lv_iconst (v := 1) hx hb dL_law_826 (by decide) ?_
            by_cases hbh : M 10 g = 1
            · skip
              exact absurd hbh (hLI.in0 hg hi hn h9 h10 hf).1
            · skip
              refine lv_icmp_ne (tgt := 834) hx hb dL_law_827 (by decide) (fun _ => ?_) (fun z => absurd z hbh)
              refine lv_iconst (v := 0) hx hb dL_law_834 (by decide) ?_
              refine lv_istore (lv' := [(22, .int 0), (21, .int 1), (20, .int (nI i)), (16, .int (-1)), (15, .int (nI g)), (12, .ref d), (11, .ref c9), (10, .ref b), (9, .ref a), (8, .int (nI G)), (7, .int (nI N)), (5, .long v5), (3, .int (nI tm)), (2, .ref (ad 0 0)), (1, .ref t), (0, .ref bb)]) hx hb dL_law_835 hl (by decide) rfl (fun ls hl => ?_)
              refine lv_iload hx hb dL_law_837 (lv_at hl 3 rfl) ?_
              refine lv_if_ge (tgt := 863) hx hb dL_law_839 (by decide) (fun z => absurd z (by decide)) (fun _ => ?_)
              refine lv_iload hx hb dL_law_842 (lv_at hl 1 rfl) ?_
              refine lv_if_eq (tgt := 863) hx hb dL_law_844 (by decide) (fun z => absurd z (by decide)) (fun _ => ?_)
              refine lv_iload hx hb dL_law_847 (lv_at hl 0 rfl) ?_
              refine lv_if_ne (tgt := 861) hx hb dL_law_849 (by decide) (fun z => absurd (by decide) z) (fun _ => ?_)
              refine lv_aload_n hx hb dL_law_852 rfl (lv_at hl 14 rfl) ?_
              refine lv_iload hx hb dL_law_853 (lv_at hl 2 rfl) ?_
              have hM := ct_X1_placeInLine l hl0 D cI t o r S o1 r1 Tt (nI i) N hSN hN
              rw [cl_nI (show i < 12 by omega)] at hM
              refine tx_call hC 0 1 1 hM (xGoat_in hLI.1 hi) gL_law_X1_placeInLine dL_law_855 hE hK hw hA hl.1 rfl hd_X1_placeInLine ⟨Nat.le_of_ble_eq_true rfl, Nat.le_of_ble_eq_true rfl⟩ ⟨by show _ ≤ 760756; omega, by show _ ≤ 6819431; omega⟩ rfl rfl rfl rfl (Nat.le_of_ble_eq_true rfl) (fun H locs hw => ?_)
              refine gt_stk [.int (gxPl S N i)] rfl ?_
              refine lv_if_ne (tgt := 863) hx hb dL_law_858 (by decide) (fun _ => ?_) (fun z => absurd z (hLI.in0 hg hi hn h9 h10 hf).2)
              refine lv_iload hx hb dL_law_863 (lv_at hl 3 rfl) ?_
              refine lv_if_lt (tgt := 913) hx hb dL_law_865 (by decide) (fun _ => ?_) (fun z => absurd (by decide) z)
              refine gt_inc (lv' := [(20, .int (nI (i + 1))), (22, .int 0), (21, .int 1), (16, .int (-1)), (15, .int (nI g)), (12, .ref d), (11, .ref c9), (10, .ref b), (9, .ref a), (8, .int (nI G)), (7, .int (nI N)), (5, .long v5), (3, .int (nI tm)), (2, .ref (ad 0 0)), (1, .ref t), (0, .ref bb)]) hC 2 i dL_law_913 hl rfl rfl (by decide) rfl (fun ls hl => ?_)
              refine lv_goto (tgt := 762) hx hb dL_law_916 (by decide) ?_
              exact K1 () H locs ls _ _ ⟨hw, (by rw [hn]; exact lv_sub hl [0, 3, 4, 5, 6, 7, 8, 9, 10, 11, 12, 13, 14, 15] rfl)⟩ (by show _ ≤ cells + 4 * (i + 1); omega) (by show _ ≤ slots + 24 * (i + 1); omega)
          · skip
            refine lv_icmp_gt (tgt := 814) hx hb dL_law_807 (by decide) (fun _ => ?_) (fun z => absurd (Int32.not_le.mp hf) z)
            refine lv_iconst (v := 0) hx hb dL_law_814 (by decide) ?_
            refine lv_istore (lv' := [(21, .int 0), (20, .int (nI i)), (16, .int (-1)), (15, .int (nI g)), (12, .ref d), (11, .ref c9), (10, .ref b), (9, .ref a), (8, .int (nI G)), (7, .int (nI N)), (5, .long v5), (3, .int (nI tm)), (2, .ref (ad 0 0)), (1, .ref t), (0, .ref bb)]) hx hb dL_law_815 hl (by decide) rfl (fun ls hl => ?_)
            refine lv_aload_n hx hb dL_law_817 rfl (lv_at hl 12 rfl) ?_
            refine sm_fld hC 3 4 hinX2 hK hw hI dL_law_818 rfl (by decide) rfl rfl ?_
            refine lv_iload hx hb dL_law_821 (lv_at hl 3 rfl) ?_
            refine sm_ga hC g hK hw hI dL_law_823 rfl hg (by omega) ?_
            refine lv_iconst (v := 1) hx hb dL_law_824 (by decide) ?_
            refine sm_g hC 1 hK hw hI hg dL_law_825 rfl (by decide) ?_
            refine lv_iconst (v := 1) hx hb dL_law_826 (by decide) ?_
            by_cases hbh : M 10 g = 1
            · skip
              refine lv_icmp_ne (tgt := 834) hx hb dL_law_827 (by decide) (fun z => absurd hbh z) (fun _ => ?_)
              refine lv_iconst (v := 1) hx hb dL_law_830 (by decide) ?_
              refine lv_goto (tgt := 835) hx hb dL_law_831 (by decide) ?_
              refine lv_istore (lv' := [(22, .int 1), (21, .int 0), (20, .int (nI i)), (16, .int (-1)), (15, .int (nI g)), (12, .ref d), (11, .ref c9), (10, .ref b), (9, .ref a), (8, .int (nI G)), (7, .int (nI N)), (5, .long v5), (3, .int (nI tm)), (2, .ref (ad 0 0)), (1, .ref t), (0, .ref bb)]) hx hb dL_law_835 hl (by decide) rfl (fun ls hl => ?_)
              refine lv_iload hx hb dL_law_837 (lv_at hl 3 rfl) ?_
              refine lv_if_ge (tgt := 863) hx hb dL_law_839 (by decide) (fun z => absurd z (by decide)) (fun _ => ?_)
              refine lv_iload hx hb dL_law_842 (lv_at hl 1 rfl) ?_
              refine lv_if_eq (tgt := 863) hx hb dL_law_844 (by decide) (fun _ => ?_) (fun z => absurd (by decide) z)
              refine lv_iload hx hb dL_law_863 (lv_at hl 3 rfl) ?_
              refine lv_if_lt (tgt := 913) hx hb dL_law_865 (by decide) (fun _ => ?_) (fun z => absurd (by decide) z)
              refine gt_inc (lv' := [(20, .int (nI (i + 1))), (22, .int 1), (21, .int 0), (16, .int (-1)), (15, .int (nI g)), (12, .ref d), (11, .ref c9), (10, .ref b), (9, .ref a), (8, .int (nI G)), (7, .int (nI N)), (5, .long v5), (3, .int (nI tm)), (2, .ref (ad 0 0)), (1, .ref t), (0, .ref bb)]) hC 2 i dL_law_913 hl rfl rfl (by decide) rfl (fun ls hl => ?_)
              refine lv_goto (tgt := 762) hx hb dL_law_916 (by decide) ?_
              exact K1 () H locs ls _ _ ⟨hw, (by rw [hn]; exact lv_sub hl [0, 3, 4, 5, 6, 7, 8, 9, 10, 11, 12, 13, 14, 15] rfl)⟩ (by show _ ≤ cells + 4 * (i + 1); omega) (by show _ ≤ slots + 24 * (i + 1); omega)
            · skip
              refine lv_icmp_ne (tgt := 834) hx hb dL_law_827 (by decide) (fun _ => ?_) (fun z => absurd z hbh)
              refine lv_iconst (v := 0) hx hb dL_law_834 (by decide) ?_
              refine lv_istore (lv' := [(22, .int 0), (21, .int 0), (20, .int (nI i)), (16, .int (-1)), (15, .int (nI g)), (12, .ref d), (11, .ref c9), (10, .ref b), (9, .ref a), (8, .int (nI G)), (7, .int (nI N)), (5, .long v5), (3, .int (nI tm)), (2, .ref (ad 0 0)), (1, .ref t), (0, .ref bb)]) hx hb dL_law_835 hl (by decide) rfl (fun ls hl => ?_)
              refine lv_iload hx hb dL_law_837 (lv_at hl 3 rfl) ?_
              refine lv_if_ge (tgt := 863) hx hb dL_law_839 (by decide) (fun z => absurd z (by decide)) (fun _ => ?_)
              refine lv_iload hx hb dL_law_842 (lv_at hl 1 rfl) ?_
              refine lv_if_eq (tgt := 863) hx hb dL_law_844 (by decide) (fun _ => ?_) (fun z => absurd (by decide) z)
              refine lv_iload hx hb dL_law_863 (lv_at hl 3 rfl) ?_
              refine lv_if_lt (tgt := 913) hx hb dL_law_865 (by decide) (fun _ => ?_) (fun z => absurd (by decide) z)
              refine gt_inc (lv' := [(20, .int (nI (i + 1))), (22, .int 0), (21, .int 0), (16, .int (-1)), (15, .int (nI g)), (12, .ref d), (11, .ref c9), (10, .ref b), (9, .ref a), (8, .int (nI G)), (7, .int (nI N)), (5, .long v5), (3, .int (nI tm)), (2, .ref (ad 0 0)), (1, .ref t), (0, .ref bb)]) hC 2 i dL_law_913 hl rfl rfl (by decide) rfl (fun ls hl => ?_)
              refine lv_goto (tgt := 762) hx hb dL_law_916 (by decide) ?_
              exact K1 () H locs ls _ _ ⟨hw, (by rw [hn]; exact lv_sub hl [0, 3, 4, 5, 6, 7, 8, 9, 10, 11, 12, 13, 14, 15] rfl)⟩ (by show _ ≤ cells + 4 * (i + 1); omega) (by show _ ≤ slots + 24 * (i + 1); omega)
        · rw [hn] at hl
          by_cases hf : M 2 i ≤ gxFree S g N
          · skip
            refine lv_icmp_gt (tgt := 814) hx hb dL_law_807 (by decide) (fun z => absurd z (Int32.not_lt.mpr hf)) (fun _ => ?_)
            refine lv_iconst (v := 1) hx hb dL_law_810 (by decide) ?_
            refine lv_goto (tgt := 815) hx hb dL_law_811 (by decide) ?_
            refine lv_istore (lv' := [(21, .int 1), (20, .int (nI i)), (16, .int (nI j)), (15, .int (nI g)), (12, .ref d), (11, .ref c9), (10, .ref b), (9, .ref a), (8, .int (nI G)), (7, .int (nI N)), (5, .long v5), (3, .int (nI tm)), (2, .ref (ad 0 0)), (1, .ref t), (0, .ref bb)]) hx hb dL_law_815 hl (by decide) rfl (fun ls hl => ?_)
            refine lv_aload_n hx hb dL_law_817 rfl (lv_at hl 12 rfl) ?_
            refine sm_fld hC 3 4 hinX2 hK hw hI dL_law_818 rfl (by decide) rfl rfl ?_
            refine lv_iload hx hb dL_law_821 (lv_at hl 3 rfl) ?_
            refine sm_ga hC g hK hw hI dL_law_823 rfl hg (by omega) ?_
            refine lv_iconst (v := 1) hx hb dL_law_824 (by decide) ?_
            refine sm_g hC 1 hK hw hI hg dL_law_825 rfl (by decide) ?_
            refine lv_iconst (v := 1) hx hb dL_law_826 (by decide) ?_
            by_cases hbh : M 10 g = 1
            · skip
              refine lv_icmp_ne (tgt := 834) hx hb dL_law_827 (by decide) (fun z => absurd hbh z) (fun _ => ?_)
              refine lv_iconst (v := 1) hx hb dL_law_830 (by decide) ?_
              refine lv_goto (tgt := 835) hx hb dL_law_831 (by decide) ?_
              refine lv_istore (lv' := [(22, .int 1), (21, .int 1), (20, .int (nI i)), (16, .int (nI j)), (15, .int (nI g)), (12, .ref d), (11, .ref c9), (10, .ref b), (9, .ref a), (8, .int (nI G)), (7, .int (nI N)), (5, .long v5), (3, .int (nI tm)), (2, .ref (ad 0 0)), (1, .ref t), (0, .ref bb)]) hx hb dL_law_835 hl (by decide) rfl (fun ls hl => ?_)
              refine lv_iload hx hb dL_law_837 (lv_at hl 3 rfl) ?_
              refine lv_if_ge (tgt := 863) hx hb dL_law_839 (by decide) (fun _ => ?_) (fun z => absurd (nI_ge0 (by omega)) z)
              refine lv_iload hx hb dL_law_863 (lv_at hl 3 rfl) ?_
              refine lv_if_lt (tgt := 913) hx hb dL_law_865 (by decide) (fun z => absurd z (nI_pos (by omega))) (fun _ => ?_)
              refine lv_iload hx hb dL_law_868 (lv_at hl 0 rfl) ?_
              refine lv_if_eq (tgt := 896) hx hb dL_law_870 (by decide) (fun z => absurd z (by decide)) (fun _ => ?_)
              refine lv_iload hx hb dL_law_873 (lv_at hl 1 rfl) ?_
              refine lv_if_eq (tgt := 913) hx hb dL_law_875 (by decide) (fun z => absurd z (by decide)) (fun _ => ?_)
              refine lv_aload_n hx hb dL_law_878 rfl (lv_at hl 14 rfl) ?_
              refine lv_iload hx hb dL_law_879 (lv_at hl 2 rfl) ?_
              have hM := ct_X1_seemingHorns l hl0 D cI t o r S o1 r1 Tt (nI i) N hSN hN
              rw [cl_nI (show i < 12 by omega)] at hM
              refine tx_call hC 0 1 1 hM (xGoat_in hLI.1 hi) gL_law_X1_seemingHorns dL_law_881 hE hK hw hA hl.1 rfl hd_X1_seemingHorns ⟨Nat.le_of_ble_eq_true rfl, Nat.le_of_ble_eq_true rfl⟩ ⟨by show _ ≤ 760756; omega, by show _ ≤ 6819431; omega⟩ rfl rfl rfl rfl (Nat.le_of_ble_eq_true rfl) (fun H locs hw => ?_)
              refine gt_stk [.int (gxSeem S i)] rfl ?_
              refine lv_aload_n hx hb dL_law_884 rfl (lv_at hl 14 rfl) ?_
              refine lv_iload hx hb dL_law_885 (lv_at hl 3 rfl) ?_
              have hM := ct_X1_seemingHorns l hl0 D cI t o r S o1 r1 Tt (nI j) N hSN hN
              rw [cl_nI (show j < 12 by omega)] at hM
              refine tx_call hC 0 1 1 hM (xGoat_in hLI.1 hj) gL_law_X1_seemingHorns dL_law_887 hE hK hw hA hl.1 rfl hd_X1_seemingHorns ⟨Nat.le_of_ble_eq_true rfl, Nat.le_of_ble_eq_true rfl⟩ ⟨by show _ ≤ 760756; omega, by show _ ≤ 6819431; omega⟩ rfl rfl rfl rfl (Nat.le_of_ble_eq_true rfl) (fun H locs hw => ?_)
              refine gt_stk [.int (gxSeem S j), .int (gxSeem S i)] rfl ?_
              refine lv_icmp_le (tgt := 913) hx hb dL_law_890 (by decide) (fun _ => ?_) (fun z => absurd (Int32.not_lt.mp ((hLI.in1 hg hi hj hn h9 h10).1 hbh hf)) z)
              refine gt_inc (lv' := [(20, .int (nI (i + 1))), (22, .int 1), (21, .int 1), (16, .int (nI j)), (15, .int (nI g)), (12, .ref d), (11, .ref c9), (10, .ref b), (9, .ref a), (8, .int (nI G)), (7, .int (nI N)), (5, .long v5), (3, .int (nI tm)), (2, .ref (ad 0 0)), (1, .ref t), (0, .ref bb)]) hC 2 i dL_law_913 hl rfl rfl (by decide) rfl (fun ls hl => ?_)
              refine lv_goto (tgt := 762) hx hb dL_law_916 (by decide) ?_
              exact K1 () H locs ls _ _ ⟨hw, (by rw [hn]; exact lv_sub hl [0, 3, 4, 5, 6, 7, 8, 9, 10, 11, 12, 13, 14, 15] rfl)⟩ (by show _ ≤ cells + 4 * (i + 1); omega) (by show _ ≤ slots + 24 * (i + 1); omega)
            · skip
              refine lv_icmp_ne (tgt := 834) hx hb dL_law_827 (by decide) (fun _ => ?_) (fun z => absurd z hbh)
              refine lv_iconst (v := 0) hx hb dL_law_834 (by decide) ?_
              refine lv_istore (lv' := [(22, .int 0), (21, .int 1), (20, .int (nI i)), (16, .int (nI j)), (15, .int (nI g)), (12, .ref d), (11, .ref c9), (10, .ref b), (9, .ref a), (8, .int (nI G)), (7, .int (nI N)), (5, .long v5), (3, .int (nI tm)), (2, .ref (ad 0 0)), (1, .ref t), (0, .ref bb)]) hx hb dL_law_835 hl (by decide) rfl (fun ls hl => ?_)
              refine lv_iload hx hb dL_law_837 (lv_at hl 3 rfl) ?_
              refine lv_if_ge (tgt := 863) hx hb dL_law_839 (by decide) (fun _ => ?_) (fun z => absurd (nI_ge0 (by omega)) z)
              refine lv_iload hx hb dL_law_863 (lv_at hl 3 rfl) ?_
              refine lv_if_lt (tgt := 913) hx hb dL_law_865 (by decide) (fun z => absurd z (nI_pos (by omega))) (fun _ => ?_)
              refine lv_iload hx hb dL_law_868 (lv_at hl 0 rfl) ?_
              refine lv_if_eq (tgt := 896) hx hb dL_law_870 (by decide) (fun _ => ?_) (fun z => absurd (by decide) z)
              refine lv_aload_n hx hb dL_law_896 rfl (lv_at hl 14 rfl) ?_
              refine lv_iload hx hb dL_law_897 (lv_at hl 2 rfl) ?_
              have hM := ct_X1_placeInLine l hl0 D cI t o r S o1 r1 Tt (nI i) N hSN hN
              rw [cl_nI (show i < 12 by omega)] at hM
              refine tx_call hC 0 1 1 hM (xGoat_in hLI.1 hi) gL_law_X1_placeInLine dL_law_899 hE hK hw hA hl.1 rfl hd_X1_placeInLine ⟨Nat.le_of_ble_eq_true rfl, Nat.le_of_ble_eq_true rfl⟩ ⟨by show _ ≤ 760756; omega, by show _ ≤ 6819431; omega⟩ rfl rfl rfl rfl (Nat.le_of_ble_eq_true rfl) (fun H locs hw => ?_)
              refine gt_stk [.int (gxPl S N i)] rfl ?_
              refine lv_aload_n hx hb dL_law_902 rfl (lv_at hl 14 rfl) ?_
              refine lv_iload hx hb dL_law_903 (lv_at hl 3 rfl) ?_
              have hM := ct_X1_placeInLine l hl0 D cI t o r S o1 r1 Tt (nI j) N hSN hN
              rw [cl_nI (show j < 12 by omega)] at hM
              refine tx_call hC 0 1 1 hM (xGoat_in hLI.1 hj) gL_law_X1_placeInLine dL_law_905 hE hK hw hA hl.1 rfl hd_X1_placeInLine ⟨Nat.le_of_ble_eq_true rfl, Nat.le_of_ble_eq_true rfl⟩ ⟨by show _ ≤ 760756; omega, by show _ ≤ 6819431; omega⟩ rfl rfl rfl rfl (Nat.le_of_ble_eq_true rfl) (fun H locs hw => ?_)
              refine gt_stk [.int (gxPl S N j), .int (gxPl S N i)] rfl ?_
              refine lv_icmp_ge (tgt := 913) hx hb dL_law_908 (by decide) (fun _ => ?_) (fun z => absurd (Int32.not_lt.mp ((hLI.in1 hg hi hj hn h9 h10).2 hbh)) z)
              refine gt_inc (lv' := [(20, .int (nI (i + 1))), (22, .int 0), (21, .int 1), (16, .int (nI j)), (15, .int (nI g)), (12, .ref d), (11, .ref c9), (10, .ref b), (9, .ref a), (8, .int (nI G)), (7, .int (nI N)), (5, .long v5), (3, .int (nI tm)), (2, .ref (ad 0 0)), (1, .ref t), (0, .ref bb)]) hC 2 i dL_law_913 hl rfl rfl (by decide) rfl (fun ls hl => ?_)
              refine lv_goto (tgt := 762) hx hb dL_law_916 (by decide) ?_
              exact K1 () H locs ls _ _ ⟨hw, (by rw [hn]; exact lv_sub hl [0, 3, 4, 5, 6, 7, 8, 9, 10, 11, 12, 13, 14, 15] rfl)⟩ (by show _ ≤ cells + 4 * (i + 1); omega) (by show _ ≤ slots + 24 * (i + 1); omega)
          · skip
            refine lv_icmp_gt (tgt := 814) hx hb dL_law_807 (by decide) (fun _ => ?_) (fun z => absurd (Int32.not_le.mp hf) z)
            refine lv_iconst (v := 0) hx hb dL_law_814 (by decide) ?_
            refine lv_istore (lv' := [(21, .int 0), (20, .int (nI i)), (16, .int (nI j)), (15, .int (nI g)), (12, .ref d), (11, .ref c9), (10, .ref b), (9, .ref a), (8, .int (nI G)), (7, .int (nI N)), (5, .long v5), (3, .int (nI tm)), (2, .ref (ad 0 0)), (1, .ref t), (0, .ref bb)]) hx hb dL_law_815 hl (by decide) rfl (fun ls hl => ?_)
            refine lv_aload_n hx hb dL_law_817 rfl (lv_at hl 12 rfl) ?_
            refine sm_fld hC 3 4 hinX2 hK hw hI dL_law_818 rfl (by decide) rfl rfl ?_
            refine lv_iload hx hb dL_law_821 (lv_at hl 3 rfl) ?_
            refine sm_ga hC g hK hw hI dL_law_823 rfl hg (by omega) ?_
            refine lv_iconst (v := 1) hx hb dL_law_824 (by decide) ?_
            refine sm_g hC 1 hK hw hI hg dL_law_825 rfl (by decide) ?_
            refine lv_iconst (v := 1) hx hb dL_law_826 (by decide) ?_
            by_cases hbh : M 10 g = 1
            · skip
              refine lv_icmp_ne (tgt := 834) hx hb dL_law_827 (by decide) (fun z => absurd hbh z) (fun _ => ?_)
              refine lv_iconst (v := 1) hx hb dL_law_830 (by decide) ?_
              refine lv_goto (tgt := 835) hx hb dL_law_831 (by decide) ?_
              refine lv_istore (lv' := [(22, .int 1), (21, .int 0), (20, .int (nI i)), (16, .int (nI j)), (15, .int (nI g)), (12, .ref d), (11, .ref c9), (10, .ref b), (9, .ref a), (8, .int (nI G)), (7, .int (nI N)), (5, .long v5), (3, .int (nI tm)), (2, .ref (ad 0 0)), (1, .ref t), (0, .ref bb)]) hx hb dL_law_835 hl (by decide) rfl (fun ls hl => ?_)
              refine lv_iload hx hb dL_law_837 (lv_at hl 3 rfl) ?_
              refine lv_if_ge (tgt := 863) hx hb dL_law_839 (by decide) (fun _ => ?_) (fun z => absurd (nI_ge0 (by omega)) z)
              refine lv_iload hx hb dL_law_863 (lv_at hl 3 rfl) ?_
              refine lv_if_lt (tgt := 913) hx hb dL_law_865 (by decide) (fun z => absurd z (nI_pos (by omega))) (fun _ => ?_)
              refine lv_iload hx hb dL_law_868 (lv_at hl 0 rfl) ?_
              refine lv_if_eq (tgt := 896) hx hb dL_law_870 (by decide) (fun z => absurd z (by decide)) (fun _ => ?_)
              refine lv_iload hx hb dL_law_873 (lv_at hl 1 rfl) ?_
              refine lv_if_eq (tgt := 913) hx hb dL_law_875 (by decide) (fun _ => ?_) (fun z => absurd (by decide) z)
              refine gt_inc (lv' := [(20, .int (nI (i + 1))), (22, .int 1), (21, .int 0), (16, .int (nI j)), (15, .int (nI g)), (12, .ref d), (11, .ref c9), (10, .ref b), (9, .ref a), (8, .int (nI G)), (7, .int (nI N)), (5, .long v5), (3, .int (nI tm)), (2, .ref (ad 0 0)), (1, .ref t), (0, .ref bb)]) hC 2 i dL_law_913 hl rfl rfl (by decide) rfl (fun ls hl => ?_)
              refine lv_goto (tgt := 762) hx hb dL_law_916 (by decide) ?_
              exact K1 () H locs ls _ _ ⟨hw, (by rw [hn]; exact lv_sub hl [0, 3, 4, 5, 6, 7, 8, 9, 10, 11, 12, 13, 14, 15] rfl)⟩ (by show _ ≤ cells + 4 * (i + 1); omega) (by show _ ≤ slots + 24 * (i + 1); omega)
            · skip
              refine lv_icmp_ne (tgt := 834) hx hb dL_law_827 (by decide) (fun _ => ?_) (fun z => absurd z hbh)
              refine lv_iconst (v := 0) hx hb dL_law_834 (by decide) ?_
              refine lv_istore (lv' := [(22, .int 0), (21, .int 0), (20, .int (nI i)), (16, .int (nI j)), (15, .int (nI g)), (12, .ref d), (11, .ref c9), (10, .ref b), (9, .ref a), (8, .int (nI G)), (7, .int (nI N)), (5, .long v5), (3, .int (nI tm)), (2, .ref (ad 0 0)), (1, .ref t), (0, .ref bb)]) hx hb dL_law_835 hl (by decide) rfl (fun ls hl => ?_)
              refine lv_iload hx hb dL_law_837 (lv_at hl 3 rfl) ?_
              refine lv_if_ge (tgt := 863) hx hb dL_law_839 (by decide) (fun _ => ?_) (fun z => absurd (nI_ge0 (by omega)) z)
              refine lv_iload hx hb dL_law_863 (lv_at hl 3 rfl) ?_
              refine lv_if_lt (tgt := 913) hx hb dL_law_865 (by decide) (fun z => absurd z (nI_pos (by omega))) (fun _ => ?_)
              refine lv_iload hx hb dL_law_868 (lv_at hl 0 rfl) ?_
              refine lv_if_eq (tgt := 896) hx hb dL_law_870 (by decide) (fun _ => ?_) (fun z => absurd (by decide) z)
              refine lv_aload_n hx hb dL_law_896 rfl (lv_at hl 14 rfl) ?_
              refine lv_iload hx hb dL_law_897 (lv_at hl 2 rfl) ?_
              have hM := ct_X1_placeInLine l hl0 D cI t o r S o1 r1 Tt (nI i) N hSN hN
              rw [cl_nI (show i < 12 by omega)] at hM
              refine tx_call hC 0 1 1 hM (xGoat_in hLI.1 hi) gL_law_X1_placeInLine dL_law_899 hE hK hw hA hl.1 rfl hd_X1_placeInLine ⟨Nat.le_of_ble_eq_true rfl, Nat.le_of_ble_eq_true rfl⟩ ⟨by show _ ≤ 760756; omega, by show _ ≤ 6819431; omega⟩ rfl rfl rfl rfl (Nat.le_of_ble_eq_true rfl) (fun H locs hw => ?_)
              refine gt_stk [.int (gxPl S N i)] rfl ?_
              refine lv_aload_n hx hb dL_law_902 rfl (lv_at hl 14 rfl) ?_
              refine lv_iload hx hb dL_law_903 (lv_at hl 3 rfl) ?_
              have hM := ct_X1_placeInLine l hl0 D cI t o r S o1 r1 Tt (nI j) N hSN hN
              rw [cl_nI (show j < 12 by omega)] at hM
              refine tx_call hC 0 1 1 hM (xGoat_in hLI.1 hj) gL_law_X1_placeInLine dL_law_905 hE hK hw hA hl.1 rfl hd_X1_placeInLine ⟨Nat.le_of_ble_eq_true rfl, Nat.le_of_ble_eq_true rfl⟩ ⟨by show _ ≤ 760756; omega, by show _ ≤ 6819431; omega⟩ rfl rfl rfl rfl (Nat.le_of_ble_eq_true rfl) (fun H locs hw => ?_)
              refine gt_stk [.int (gxPl S N j), .int (gxPl S N i)] rfl ?_
              refine lv_icmp_ge (tgt := 913) hx hb dL_law_908 (by decide) (fun _ => ?_) (fun z => absurd (Int32.not_lt.mp ((hLI.in1 hg hi hj hn h9 h10).2 hbh)) z)
              refine gt_inc (lv' := [(20, .int (nI (i + 1))), (22, .int 0), (21, .int 0), (16, .int (nI j)), (15, .int (nI g)), (12, .ref d), (11, .ref c9), (10, .ref b), (9, .ref a), (8, .int (nI G)), (7, .int (nI N)), (5, .long v5), (3, .int (nI tm)), (2, .ref (ad 0 0)), (1, .ref t), (0, .ref bb)]) hC 2 i dL_law_913 hl rfl rfl (by decide) rfl (fun ls hl => ?_)
              refine lv_goto (tgt := 762) hx hb dL_law_916 (by decide) ?_
              exact K1 () H locs ls _ _ ⟨hw, (by rw [hn]; exact lv_sub hl [0, 3, 4, 5, 6, 7, 8, 9, 10, 11, 12, 13, 14, 15] rfl)⟩ (by show _ ≤ cells + 4 * (i + 1); omega) (by show _ ≤ slots + 24 * (i + 1); omega)
  · obtain ⟨hw, hl⟩ := hX
    refine lv_iload hx hb dL_law_762 (lv_at hl 0 rfl) ?_
    refine lv_iload hx hb dL_law_764 (lv_at hl 8 rfl) ?_
    refine gt_ge_t (tgt := 919) hC N N dL_law_766 (by decide) rfl rfl (Nat.le_refl _) (by omega) ?_
    exact kk H locs ls hw (lv_sub hl [2, 3, 4, 5, 6, 7, 8, 9, 10, 11, 12, 13] rfl)
