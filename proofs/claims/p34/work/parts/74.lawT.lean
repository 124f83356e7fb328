/-! One turn of the law (laid by wip/p34/gen/sim14.py). -/
theorem stv_le (S : SS) {N : Nat} (hN : N ≤ 12) : gxStv S N ≤ gxCnt S 1 N := by
  have key : ∀ n, ∃ a b, a ≤ b ∧ b ≤ n ∧ gxStv S n = nI a ∧ gxCnt S 1 n = nI b := by
    intro n
    induction n with
    | zero => exact ⟨0, 0, Nat.le_refl _, Nat.le_refl _, rfl, rfl⟩
    | succ n ih =>
      obtain ⟨a, b, h1, h2, h3, h4⟩ := ih
      have e1 : gxStv S (n + 1) = if S 9 n = 1 then (if S 15 n < 8 then gxStv S n else gxStv S n + 1) else gxStv S n := rfl
      have e2 : gxCnt S 1 (n + 1) = if S 9 n = 1 then gxCnt S 1 n + 1 else gxCnt S 1 n := rfl
      rw [e1, e2, h3, h4]
      by_cases c : S 9 n = 1
      · rw [if_pos c, if_pos c, nI_1, nI_1]
        by_cases c2 : S 15 n < 8
        · rw [if_pos c2]; exact ⟨a, b + 1, by omega, by omega, rfl, rfl⟩
        · rw [if_neg c2]; exact ⟨a + 1, b + 1, by omega, by omega, rfl, rfl⟩
      · rw [if_neg c, if_neg c]
        exact ⟨a, b, h1, by omega, rfl, rfl⟩
  obtain ⟨a, b, h1, h2, h3, h4⟩ := key N
  rw [h3, h4]
  exact nI_le h1 (by omega)
set_option maxHeartbeats 2000000 in
set_option maxRecDepth 100000 in
theorem law_T {p : Program} {e : Env} {s : State} {m : MethodId} {below : List Frame} {meth : Method} {c : Code} {H : Heap} {locs : List Loc} {cells slots : Nat} {Q : State → Prop} {ls : Array Slot} {A : Nat → Prop} (l : Launch) (hl0 : l.stackTraces = false) (D : va_G) (cI cR : ClassId) (bb nn : Nat) (xs : Nat → Int32) (hnn : nn ≤ 260) (t o : Nat) (r : Nat → Nat) (o1 : Nat) (r1 : Nat → Nat) (sm tm : Nat) (htm : tm < 12) (X : va_W) (L : List Nat) (f : Nat → va_E)
  (hC : CallFix p m c cL_law 23 s #[.ref bb] wsL_law RL) (hE : LE bb nn xs A s) (hK : va_K D vwCl (tyS cI cR) s) (hA : ∀ q, s.heap.size ≤ q → A q) (hcc : cells ≤ 650000) (hss : slots ≤ 6200000)
  (hw : SW D A s.heap X L f H locs) (hSt : St cI cR t o r o1 r1 sm (32 + 2 * tm) X L f) (hl : lv_has ls 23 [(3, .int (nI tm)), (2, .ref sm), (1, .ref t), (0, .ref bb)])
  (kk : ∀ (X1 : va_W) (L1 : List Nat) (f1 : Nat → va_E) (H : Heap) (locs : List Loc) (ls : Array Slot), SW D A s.heap X1 L1 f1 H locs → St cI cR t o r o1 r1 sm (32 + 2 * (tm + 1)) X1 L1 f1 → lv_has ls 23 [(3, .int (nI (tm + 1))), (2, .ref sm), (1, .ref t), (0, .ref bb)] → W p l e room_1 s m #[.ref bb] below meth c H locs (cells + 49400) (slots + 500800) Q (F0 m 22 ls [])) : W p l e room_1 s m #[.ref bb] below meth c H locs cells slots Q (F0 m 28 ls []) := by
  have hx := hC.1
  have hb := hC.2.1
  refine lv_aload_n hx hb dL_law_28 rfl (lv_at hl 3 rfl) ?_
  refine lv_iload_n hx hb dL_law_29 rfl (lv_at hl 0 rfl) ?_
  refine lv_iconst (v := 1) hx hb dL_law_30 (by decide) ?_
  refine lv_iadd hx hb dL_law_31 ?_
  refine gt_stk [.int (nI (tm + 1)), .ref bb] (by rw [← nI_1]; try rfl) ?_
  refine lx_callS hC 2 (ct_L_cell l D cI cR bb nn xs hnn _ _ _ (tm + 1) (by omega)) gL_law_L_cell dL_law_32 hE hK hw hA hl.1 rfl hd_L_cell ⟨Nat.le_of_ble_eq_true rfl, Nat.le_of_ble_eq_true rfl⟩ ⟨by show _ ≤ 760756; omega, by show _ ≤ 6819431; omega⟩ rfl rfl (Nat.le_of_ble_eq_true rfl) (fun rv X2 L2 f2 H locs hp hw => ?_)
  obtain ⟨⟨v1, rfl⟩, e7, e8, e9⟩ := hp
  rw [e7, e8, e9] at hw
  refine gt_stk [.int v1] rfl ?_
  refine lv_iconst (v := 2) hx hb dL_law_35 (by decide) ?_
  refine lv_ishr hx hb dL_law_36 ?_
  refine lv_bipush (v := 53) hx hb dL_law_37 (by decide) ?_
  refine lv_iload_n hx hb dL_law_39 rfl (lv_at hl 0 rfl) ?_
  refine lv_imul hx hb dL_law_40 ?_
  refine lv_iadd hx hb dL_law_41 ?_
  obtain ⟨x4, hx4⟩ : ∃ x4 : Int32, x4 = (v1 >>> (2 &&& 31)) + ((53 : Int32) * (nI tm)) := ⟨_, rfl⟩
  refine gt_stk [.int x4] (by rw [hx4]; try rfl) ?_
  refine lv_istore (lv' := [(4, .int x4), (3, .int (nI tm)), (2, .ref sm), (1, .ref t), (0, .ref bb)]) hx hb dL_law_42 hl (by decide) rfl (fun ls hl => ?_)
  refine lv_iconst (v := 0) hx hb dL_law_44 (by decide) ?_
  refine lv_istore (lv' := [(5, .int 0), (4, .int x4), (3, .int (nI tm)), (2, .ref sm), (1, .ref t), (0, .ref bb)]) hx hb dL_law_45 hl (by decide) rfl (fun ls hl => ?_)
  refine px_loop (σ := va_W × List Nat × (Nat → va_E)) 2 (fun i => cells + i * 250) (fun i => slots + i * 2500) (fun i z H locs ls => SW D A s.heap z.1 z.2.1 z.2.2 H locs ∧ St cI cR t o r o1 r1 sm (32 + 2 * tm + i) z.1 z.2.1 z.2.2 ∧ lv_has ls 23 [(5, .int (nI i)), (4, .int x4), (3, .int (nI tm)), (2, .ref sm), (1, .ref t), (0, .ref bb)]) (X, L, f) ⟨hw, hSt, lv_sub hl [0, 1, 2, 3, 4, 5] rfl⟩ (by show _ ≤ cells + 0 * 250; omega) (by show _ ≤ slots + 0 * 2500; omega) (fun i hi z H locs ls hX K1 => ?_) (fun z H locs ls hX => ?_)
  · obtain ⟨hw, hSt, hl⟩ := hX
    try dsimp only at hw hSt
    refine lv_iload hx hb dL_law_47 (lv_at hl 0 rfl) ?_
    refine lv_iconst (v := 2) hx hb dL_law_49 (by decide) ?_
    refine gt_ge_f (tgt := 82) hC i 2 dL_law_50 (by decide) rfl rfl (by omega) (by omega) ?_
    refine lv_aload_n hx hb dL_law_53 rfl (lv_at hl 4 rfl) ?_
    refine lv_aload_n hx hb dL_law_54 rfl (lv_at hl 3 rfl) ?_
    refine lv_iload hx hb dL_law_55 (lv_at hl 1 rfl) ?_
    refine lv_iconst (v := 3) hx hb dL_law_57 (by decide) ?_
    refine lv_iload hx hb dL_law_58 (lv_at hl 0 rfl) ?_
    refine lv_imul hx hb dL_law_60 ?_
    refine lv_ishr hx hb dL_law_61 ?_
    refine lv_bipush (v := 29) hx hb dL_law_62 (by decide) ?_
    refine lv_iload hx hb dL_law_64 (lv_at hl 0 rfl) ?_
    refine lv_imul hx hb dL_law_66 ?_
    refine lv_iadd hx hb dL_law_67 ?_
    refine lx_callW hC 3 (ct_act l hl0 D cI cR bb nn xs t o r o1 r1 sm _ _ _ _ hSt (by omega) _) gL_law_L_act dL_law_68 hE hK hw hA hl.1 rfl hd_L_act ⟨Nat.le_of_ble_eq_true rfl, Nat.le_of_ble_eq_true rfl⟩ ⟨by show _ ≤ 760756; omega, by show _ ≤ 6819431; omega⟩ rfl rfl (Nat.le_of_ble_eq_true rfl) (fun rv X2 L2 f2 H locs hp hw => ?_)
    obtain ⟨rfl, hSt2⟩ := hp
    refine gt_stk [.int 1] rfl ?_
    refine lv_if_ne (tgt := 76) hx hb dL_law_71 (by decide) (fun _ => ?_) (fun z => absurd z (by decide))
    refine gt_inc (lv' := [(5, .int (nI (i + 1))), (4, .int x4), (3, .int (nI tm)), (2, .ref sm), (1, .ref t), (0, .ref bb)]) hC 0 i dL_law_76 hl rfl rfl (by decide) rfl (fun ls hl => ?_)
    refine lv_goto (tgt := 47) hx hb dL_law_79 (by decide) ?_
    exact K1 (X2, L2, f2) H locs ls _ _ ⟨hw, hSt2, lv_sub hl [0, 1, 2, 3, 4, 5] rfl⟩ (by show _ ≤ cells + (i + 1) * 250; omega) (by show _ ≤ slots + (i + 1) * 2500; omega)
  · obtain ⟨X, L, f⟩ := z
    obtain ⟨hw, hSt, hl⟩ := hX
    dsimp only at hw hSt
    obtain ⟨G, N, S, M, Ls, ad, Tt, rfl, hI, hLI, hLJ, hG1, rfl⟩ := hSt
    have hN := hLI.1.1
    have hG4 := hLI.1.2.1
    have hSG := hLI.1.2.2.1
    have hSN := hLI.1.2.2.2.1
    have hinX2 : ∀ w ∈ wsX20, w ∈ wsL_law := inlX2
    have hc12 := mCt_le M N
    refine lv_iload hx hb dL_law_47 (lv_at hl 0 rfl) ?_
    refine lv_iconst (v := 2) hx hb dL_law_49 (by decide) ?_
    refine gt_ge_t (tgt := 82) hC 2 2 dL_law_50 (by decide) rfl rfl (Nat.le_refl _) (by omega) ?_
    refine lv_aload_n hx hb dL_law_82 rfl (lv_at hl 4 rfl) ?_
    refine tx_call hC 0 1 0 (ct_X1_digest l hl0 D cI t o r S o1 r1 Tt N hSN hN G hSG hG4) rfl gL_law_X1_digest dL_law_83 hE hK hw hA hl.1 rfl hd_X1_digest ⟨Nat.le_of_ble_eq_true rfl, Nat.le_of_ble_eq_true rfl⟩ ⟨by show _ ≤ 760756; omega, by show _ ≤ 6819431; omega⟩ rfl rfl rfl rfl (Nat.le_of_ble_eq_true rfl) (fun H locs hw => ?_)
    refine tw_any hw (fun Tq1 hw => ?_)
    refine gt_stk [.long (gxDk S G N N)] rfl ?_
    refine lv_lstore (lv' := [(5, .long (gxDk S G N N)), (4, .int x4), (3, .int (nI tm)), (2, .ref (ad 0 0)), (1, .ref t), (0, .ref bb)]) hx hb dL_law_86 hl (by decide) rfl (fun ls hl => ?_)
    refine lv_aload_n hx hb dL_law_88 rfl (lv_at hl 4 rfl) ?_
    refine tx_callC hC 0 1 0 (ct_X1_goats l D cI t o r S o1 r1 Tq1 ) gL_law_X1_goats dL_law_89 hK hw hA hl.1 rfl hd_X1_goats ⟨Nat.le_of_ble_eq_true rfl, Nat.le_of_ble_eq_true rfl⟩ ⟨by show _ ≤ 760756; omega, by show _ ≤ 6819431; omega⟩ rfl rfl rfl rfl (Nat.le_of_ble_eq_true rfl) (fun H locs hw => ?_)
    refine gt_stk [.int (S 0 2)] rfl ?_
    refine gt_stk [.int (nI N)] (by rw [← hSN]; try rfl) ?_
    refine lv_istore (lv' := [(7, .int (nI N)), (5, .long (gxDk S G N N)), (4, .int x4), (3, .int (nI tm)), (2, .ref (ad 0 0)), (1, .ref t), (0, .ref bb)]) hx hb dL_law_92 hl (by decide) rfl (fun ls hl => ?_)
    refine lv_aload_n hx hb dL_law_94 rfl (lv_at hl 5 rfl) ?_
    refine tx_callC hC 0 1 0 (ct_X1_gates l D cI t o r S o1 r1 Tq1 ) gL_law_X1_gates dL_law_95 hK hw hA hl.1 rfl hd_X1_gates ⟨Nat.le_of_ble_eq_true rfl, Nat.le_of_ble_eq_true rfl⟩ ⟨by show _ ≤ 760756; omega, by show _ ≤ 6819431; omega⟩ rfl rfl rfl rfl (Nat.le_of_ble_eq_true rfl) (fun H locs hw => ?_)
    refine gt_stk [.int (S 0 1)] rfl ?_
    refine gt_stk [.int (nI G)] (by rw [← hSG]; try rfl) ?_
    refine lv_istore (lv' := [(8, .int (nI G)), (7, .int (nI N)), (5, .long (gxDk S G N N)), (4, .int x4), (3, .int (nI tm)), (2, .ref (ad 0 0)), (1, .ref t), (0, .ref bb)]) hx hb dL_law_98 hl (by decide) rfl (fun ls hl => ?_)
    refine lv_iload hx hb dL_law_100 (lv_at hl 1 rfl) ?_
    refine px_newi hC 3 rfl hK hw hA N rfl (by omega) ⟨by show _ ≤ 760756; omega, by show _ ≤ 6819431; omega⟩ dL_law_102 (fun a H ha hw => ?_)
    refine lv_astore (lv' := [(9, .ref a), (8, .int (nI G)), (7, .int (nI N)), (5, .long (gxDk S G N N)), (4, .int x4), (3, .int (nI tm)), (2, .ref (ad 0 0)), (1, .ref t), (0, .ref bb)]) hx hb dL_law_104 hl (by decide) rfl (fun ls hl => ?_)
    refine lv_iload hx hb dL_law_106 (lv_at hl 2 rfl) ?_
    refine px_newi hC 3 rfl hK hw hA N rfl (by omega) ⟨by show _ ≤ 760756; omega, by show _ ≤ 6819431; omega⟩ dL_law_108 (fun b H hbq hw => ?_)
    refine lv_astore (lv' := [(10, .ref b), (9, .ref a), (8, .int (nI G)), (7, .int (nI N)), (5, .long (gxDk S G N N)), (4, .int x4), (3, .int (nI tm)), (2, .ref (ad 0 0)), (1, .ref t), (0, .ref bb)]) hx hb dL_law_110 hl (by decide) rfl (fun ls hl => ?_)
    refine lv_iload hx hb dL_law_112 (lv_at hl 2 rfl) ?_
    refine px_newi hC 3 rfl hK hw hA G rfl (by omega) ⟨by show _ ≤ 760756; omega, by show _ ≤ 6819431; omega⟩ dL_law_114 (fun c9 H hc9 hw => ?_)
    refine lv_astore (lv' := [(11, .ref c9), (10, .ref b), (9, .ref a), (8, .int (nI G)), (7, .int (nI N)), (5, .long (gxDk S G N N)), (4, .int x4), (3, .int (nI tm)), (2, .ref (ad 0 0)), (1, .ref t), (0, .ref bb)]) hx hb dL_law_116 hl (by decide) rfl (fun ls hl => ?_)
    refine lv_iload hx hb dL_law_118 (lv_at hl 3 rfl) ?_
    refine px_newi hC 3 rfl hK hw hA G rfl (by omega) ⟨by show _ ≤ 760756; omega, by show _ ≤ 6819431; omega⟩ dL_law_120 (fun d H hd hw => ?_)
    have hI4 : ∀ xa xb xc xd, SimI cI cR (L ++ [a] ++ [b] ++ [c9] ++ [d]) (f4 cI f a b c9 d N G xa xb xc xd) ad G N G M Ls := fun xa xb xc xd => ((((hI.new ha).new hbq).new hc9).new hd)
    have haL : a ∈ L ++ [a] := List.mem_append_right _ List.mem_cons_self
    have hbL : b ∈ L ++ [a] ++ [b] := List.mem_append_right _ List.mem_cons_self
    have hcL : c9 ∈ L ++ [a] ++ [b] ++ [c9] := List.mem_append_right _ List.mem_cons_self
    have hdL : d ∈ (L ++ [a] ++ [b] ++ [c9] ++ [d]) := List.mem_append_right _ List.mem_cons_self
    have hAR : AR a b c9 d := ⟨px_ne haL hbq, px_ne (List.mem_append_left _ haL) hc9, px_ne (List.mem_append_left _ (List.mem_append_left _ haL)) hd, px_ne hbL hc9, px_ne (List.mem_append_left _ hbL) hd, px_ne hcL hd⟩
    have haL4 : a ∈ (L ++ [a] ++ [b] ++ [c9] ++ [d]) := List.mem_append_left _ (List.mem_append_left _ (List.mem_append_left _ haL))
    have hbL4 : b ∈ (L ++ [a] ++ [b] ++ [c9] ++ [d]) := List.mem_append_left _ (List.mem_append_left _ hbL)
    have hcL4 : c9 ∈ (L ++ [a] ++ [b] ++ [c9] ++ [d]) := List.mem_append_left _ hcL
    have hw : SW D A s.heap (tw cI t o r S o1 r1 Tq1) (L ++ [a] ++ [b] ++ [c9] ++ [d]) (f4 cI f a b c9 d N G (fun _ => 0) (fun _ => 0) (fun _ => 0) (fun _ => 0)) H locs := hw
    refine lv_astore (lv' := [(12, .ref d), (11, .ref c9), (10, .ref b), (9, .ref a), (8, .int (nI G)), (7, .int (nI N)), (5, .long (gxDk S G N N)), (4, .int x4), (3, .int (nI tm)), (2, .ref (ad 0 0)), (1, .ref t), (0, .ref bb)]) hx hb dL_law_122 hl (by decide) rfl (fun ls hl => ?_)
    refine lv_iconst (v := 0) hx hb dL_law_124 (by decide) ?_
    refine lv_istore (lv' := [(13, .int 0), (12, .ref d), (11, .ref c9), (10, .ref b), (9, .ref a), (8, .int (nI G)), (7, .int (nI N)), (5, .long (gxDk S G N N)), (4, .int x4), (3, .int (nI tm)), (2, .ref (ad 0 0)), (1, .ref t), (0, .ref bb)]) hx hb dL_law_125 hl (by decide) rfl (fun ls hl => ?_)
    refine lv_iconst (v := 0) hx hb dL_law_127 (by decide) ?_
    refine lv_istore (lv' := [(14, .int 0), (13, .int 0), (12, .ref d), (11, .ref c9), (10, .ref b), (9, .ref a), (8, .int (nI G)), (7, .int (nI N)), (5, .long (gxDk S G N N)), (4, .int x4), (3, .int (nI tm)), (2, .ref (ad 0 0)), (1, .ref t), (0, .ref bb)]) hx hb dL_law_128 hl (by decide) rfl (fun ls hl => ?_)
    refine lv_iconst (v := 0) hx hb dL_law_130 (by decide) ?_
    refine lv_istore (lv' := [(15, .int 0), (14, .int 0), (13, .int 0), (12, .ref d), (11, .ref c9), (10, .ref b), (9, .ref a), (8, .int (nI G)), (7, .int (nI N)), (5, .long (gxDk S G N N)), (4, .int x4), (3, .int (nI tm)), (2, .ref (ad 0 0)), (1, .ref t), (0, .ref bb)]) hx hb dL_law_131 hl (by decide) rfl (fun ls hl => ?_)
    refine law_C l hl0 D cI cR bb nn xs t o r S o1 r1 Tq1 (L ++ [a] ++ [b] ++ [c9] ++ [d]) f ad _ G N M Ls hLI hLJ a b c9 d tm (gxDk S G N N) hAR hC hE hK hA haL4 hbL4 hcL4 hdL hI4 (by omega) (by omega) hw (lv_sub hl [0, 1, 2, 3, 4, 5, 6, 7, 8, 9, 11, 12, 13, 14] rfl) (fun xa xb xc xd Tz H locs ls hw hl ha9 hb9 hq9 hd9 => ?_)
    refine lv_iload hx hb dL_law_445 (lv_at hl 1 rfl) ?_
    refine lv_aload_n hx hb dL_law_447 rfl (lv_at hl 11 rfl) ?_
    refine tx_callC hC 0 1 0 (ct_X1_waiting l D cI t o r S o1 r1 Tz N hSN hN) gL_law_X1_waiting dL_law_448 hK hw hA hl.1 rfl hd_X1_waiting ⟨Nat.le_of_ble_eq_true rfl, Nat.le_of_ble_eq_true rfl⟩ ⟨by show _ ≤ 760756; omega, by show _ ≤ 6819431; omega⟩ rfl rfl rfl rfl (Nat.le_of_ble_eq_true rfl) (fun H locs hw => ?_)
    refine gt_stk [.int (gxCnt S 1 N), .int (gxCnt S 1 N)] rfl ?_
    refine lv_icmp_ne (tgt := 472) hx hb dL_law_451 (by decide) (fun z => absurd rfl z) (fun _ => ?_)
    refine lv_iload hx hb dL_law_454 (lv_at hl 0 rfl) ?_
    refine lv_aload_n hx hb dL_law_456 rfl (lv_at hl 11 rfl) ?_
    refine tx_callC hC 0 1 0 (ct_X1_inside l D cI t o r S o1 r1 Tz N hSN hN) gL_law_X1_inside dL_law_457 hK hw hA hl.1 rfl hd_X1_inside ⟨Nat.le_of_ble_eq_true rfl, Nat.le_of_ble_eq_true rfl⟩ ⟨by show _ ≤ 760756; omega, by show _ ≤ 6819431; omega⟩ rfl rfl rfl rfl (Nat.le_of_ble_eq_true rfl) (fun H locs hw => ?_)
    refine gt_stk [.int (gxCnt S 2 N), .int (gxCnt S 2 N)] rfl ?_
    refine lv_icmp_ne (tgt := 472) hx hb dL_law_460 (by decide) (fun z => absurd rfl z) (fun _ => ?_)
    refine lv_aload_n hx hb dL_law_463 rfl (lv_at hl 11 rfl) ?_
    refine tx_callC hC 0 1 0 (ct_X1_starving l D cI t o r S o1 r1 Tz N hSN hN) gL_law_X1_starving dL_law_464 hK hw hA hl.1 rfl hd_X1_starving ⟨Nat.le_of_ble_eq_true rfl, Nat.le_of_ble_eq_true rfl⟩ ⟨by show _ ≤ 760756; omega, by show _ ≤ 6819431; omega⟩ rfl rfl rfl rfl (Nat.le_of_ble_eq_true rfl) (fun H locs hw => ?_)
    refine gt_stk [.int (gxStv S N)] rfl ?_
    refine lv_iload hx hb dL_law_467 (lv_at hl 1 rfl) ?_
    refine lv_icmp_le (tgt := 474) hx hb dL_law_469 (by decide) (fun _ => ?_) (fun z => absurd (stv_le S hN) z)
    refine lv_iconst (v := 0) hx hb dL_law_474 (by decide) ?_
    refine lv_istore (lv' := [(15, .int 0), (14, .int (gxCnt S 2 N)), (13, .int (gxCnt S 1 N)), (12, .ref d), (11, .ref c9), (10, .ref b), (9, .ref a), (8, .int (nI G)), (7, .int (nI N)), (5, .long (gxDk S G N N)), (3, .int (nI tm)), (2, .ref (ad 0 0)), (1, .ref t), (0, .ref bb)]) hx hb dL_law_475 hl (by decide) rfl (fun ls hl => ?_)
    refine law_D l hl0 D cI cR bb nn xs t o r S o1 r1 Tz (L ++ [a] ++ [b] ++ [c9] ++ [d]) f ad _ G N M Ls hLI hLJ a b c9 d tm (gxDk S G N N) hAR hC hE hK hA haL4 hbL4 hcL4 hdL hI4 (by omega) (by omega) xa xb xc xd hw ha9 hq9 (fun g hg => hd9 g hg) (lv_sub hl [0, 3, 4, 5, 6, 7, 8, 9, 10, 11, 12, 13] rfl) (fun Tz H locs ls hw hl => ?_)
    refine lv_aload_n hx hb dL_law_925 rfl (lv_at hl 9 rfl) ?_
    refine lv_iconst (v := 1) hx hb dL_law_926 (by decide) ?_
    refine gt_stk [.int (nI 1), .ref t] rfl ?_
    have hM := ct_X1_givingUpIn l hl0 D cI t o r S o1 r1 Tz (nI 1) N hSN hN G hSG hG4
    rw [nI_clamp (n := 1) (by omega)] at hM
    refine tx_call hC 0 1 1 hM (xNum_ok (a := 1) (m := 60) (by omega) (by omega) (by omega)) gL_law_X1_givingUpIn dL_law_927 hE hK hw hA hl.1 rfl hd_X1_givingUpIn ⟨Nat.le_of_ble_eq_true rfl, Nat.le_of_ble_eq_true rfl⟩ ⟨by show _ ≤ 760756; omega, by show _ ≤ 6819431; omega⟩ rfl rfl rfl rfl (Nat.le_of_ble_eq_true rfl) (fun H locs hw => ?_)
    refine tw_any hw (fun Tq2 hw => ?_)
    have hgone := hLI.gone
    refine gt_stk [.int (loC S (gxMin S G N) N)] (by rw [show gxGiv (gxIt S G N 1) G - gxGiv S G = loC S (gxMin S G N) N from by show gxGiv (gxMin S G N) G - gxGiv S G = _; rw [hgone, Int32.add_comm, Int32.add_sub_cancel]]; try rfl) ?_
    refine lv_istore (lv' := [(15, .int (loC S (gxMin S G N) N)), (12, .ref d), (11, .ref c9), (10, .ref b), (9, .ref a), (8, .int (nI G)), (7, .int (nI N)), (5, .long (gxDk S G N N)), (3, .int (nI tm)), (2, .ref (ad 0 0)), (1, .ref t), (0, .ref bb)]) hx hb dL_law_930 hl (by decide) rfl (fun ls hl => ?_)
    refine lv_aload_n hx hb dL_law_932 rfl (lv_at hl 10 rfl) ?_
    refine tx_call hC 0 1 0 (ct_X1_digest l hl0 D cI t o r S o1 r1 Tq2 N hSN hN G hSG hG4) rfl gL_law_X1_digest dL_law_933 hE hK hw hA hl.1 rfl hd_X1_digest ⟨Nat.le_of_ble_eq_true rfl, Nat.le_of_ble_eq_true rfl⟩ ⟨by show _ ≤ 760756; omega, by show _ ≤ 6819431; omega⟩ rfl rfl rfl rfl (Nat.le_of_ble_eq_true rfl) (fun H locs hw => ?_)
    refine tw_any hw (fun Tq3 hw => ?_)
    refine gt_stk [.long (gxDk S G N N)] rfl ?_
    refine lv_lload hx hb dL_law_936 (lv_at hl 7 rfl) ?_
    refine W.lcmp hx hb dL_law_938 ?_
    refine gt_stk [.int 0] (by rw [lg_cmp_self]; try rfl) ?_
    refine lv_if_eq (tgt := 944) hx hb dL_law_939 (by decide) (fun _ => ?_) (fun z => absurd (by decide) z)
    refine lv_iconst (v := 0) hx hb dL_law_944 (by decide) ?_
    refine lv_istore (lv' := [(16, .int 0), (15, .int (loC S (gxMin S G N) N)), (12, .ref d), (11, .ref c9), (10, .ref b), (9, .ref a), (8, .int (nI G)), (7, .int (nI N)), (5, .long (gxDk S G N N)), (3, .int (nI tm)), (2, .ref (ad 0 0)), (1, .ref t), (0, .ref bb)]) hx hb dL_law_945 hl (by decide) rfl (fun ls hl => ?_)
    refine lv_iconst (v := 0) hx hb dL_law_947 (by decide) ?_
    refine lv_istore (lv' := [(17, .int 0), (16, .int 0), (15, .int (loC S (gxMin S G N) N)), (12, .ref d), (11, .ref c9), (10, .ref b), (9, .ref a), (8, .int (nI G)), (7, .int (nI N)), (5, .long (gxDk S G N N)), (3, .int (nI tm)), (2, .ref (ad 0 0)), (1, .ref t), (0, .ref bb)]) hx hb dL_law_948 hl (by decide) rfl (fun ls hl => ?_)
    refine lv_aload_n hx hb dL_law_950 rfl (lv_at hl 12 rfl) ?_
    refine tx_callC hC 0 1 0 (ct_X1_givenUp l D cI t o r S o1 r1 Tq3 G hSG hG4) gL_law_X1_givenUp dL_law_951 hK hw hA hl.1 rfl hd_X1_givenUp ⟨Nat.le_of_ble_eq_true rfl, Nat.le_of_ble_eq_true rfl⟩ ⟨by show _ ≤ 760756; omega, by show _ ≤ 6819431; omega⟩ rfl rfl rfl rfl (Nat.le_of_ble_eq_true rfl) (fun H locs hw => ?_)
    refine gt_stk [.int (gxGiv S G)] rfl ?_
    refine lv_istore (lv' := [(18, .int (gxGiv S G)), (17, .int 0), (16, .int 0), (15, .int (loC S (gxMin S G N) N)), (12, .ref d), (11, .ref c9), (10, .ref b), (9, .ref a), (8, .int (nI G)), (7, .int (nI N)), (5, .long (gxDk S G N N)), (3, .int (nI tm)), (2, .ref (ad 0 0)), (1, .ref t), (0, .ref bb)]) hx hb dL_law_954 hl (by decide) rfl (fun ls hl => ?_)
    refine lv_aload_n hx hb dL_law_956 rfl (lv_at hl 13 rfl) ?_
    refine lv_iconst (v := 1) hx hb dL_law_957 (by decide) ?_
    refine gt_stk [.int (nI 1), .ref t] rfl ?_
    have hM := ct_X1_pass l hl0 D cI t o r S o1 r1 Tq3 (nI 1) N hSN hN G hSG hG4
    rw [nI_clamp (n := 1) (by omega)] at hM
    refine tx_call hC 0 1 1 hM (xNum_ok (a := 1) (m := 60) (by omega) (by omega) (by omega)) gL_law_X1_pass dL_law_958 hE hK hw hA hl.1 rfl hd_X1_pass ⟨Nat.le_of_ble_eq_true rfl, Nat.le_of_ble_eq_true rfl⟩ ⟨by show _ ≤ 760756; omega, by show _ ≤ 6819431; omega⟩ rfl rfl rfl rfl (Nat.le_of_ble_eq_true rfl) (fun H locs hw => ?_)
    have hw : SW D A s.heap (tw cI t o r (gxMin S G N) o1 r1 Tq3) (L ++ [a] ++ [b] ++ [c9] ++ [d]) (f4 cI f a b c9 d N G xa xb xc xd) H locs := hw
    refine gt_stk [.int (inC S (gxMin S G N) N)] (by rw [← hLI.told]; try rfl) ?_
    refine lv_istore (lv' := [(19, .int (inC S (gxMin S G N) N)), (18, .int (gxGiv S G)), (17, .int 0), (16, .int 0), (15, .int (loC S (gxMin S G N) N)), (12, .ref d), (11, .ref c9), (10, .ref b), (9, .ref a), (8, .int (nI G)), (7, .int (nI N)), (5, .long (gxDk S G N N)), (3, .int (nI tm)), (2, .ref (ad 0 0)), (1, .ref t), (0, .ref bb)]) hx hb dL_law_961 hl (by decide) rfl (fun ls hl => ?_)
    refine lv_aload_n hx hb dL_law_963 rfl (lv_at hl 13 rfl) ?_
    refine px_callV hC 2 0 (ct_X2_pass l D cI cR (L ++ [a] ++ [b] ++ [c9] ++ [d]) (f4 cI f a b c9 d N G xa xb xc xd) ad G N M Ls (hI4 xa xb xc xd) hN hG4 hLI.2.1) gL_law_X2_pass dL_law_964 hE.1 hK hw hA hl.1 rfl hd_X2_pass ⟨Nat.le_of_ble_eq_true rfl, Nat.le_of_ble_eq_true rfl⟩ ⟨by show _ ≤ 760756; omega, by show _ ≤ 6819431; omega⟩ (hI4 xa xb xc xd).1.1 (hI4 xa xb xc xd).1.2 rfl rfl rfl (Nat.le_of_ble_eq_true rfl) (fun rv L1 f1 H locs hp hw => ?_)
    obtain ⟨rfl, ad1, Ls1, hI1, hLn1, hF⟩ := hp
    refine gt_stk [.int (mMin M G N 8 1 - M 8 1)] rfl ?_
    have h00 : ad1 0 0 = ad 0 0 := hF.2.2 0 0 (by decide)
    have hLI2 := do_pass hLI 1 hLn1
    have hof : ∀ q, q ∉ L → q ∈ (L ++ [a] ++ [b] ++ [c9] ++ [d]) → f1 q = (f4 cI f a b c9 d N G xa xb xc xd) q := fun q hq hq4 => hF.2.1 q hq4 (Ne.symm (px_ne hI.1.1 hq)) (Ne.symm (px_ne hI.2.2.2.1.1 hq)) (fun k hk => Ne.symm (px_ne (hI.2.2.2.2.2.1 k hk).1 hq))
    have hbn : b ∉ L := fun z => hbq (List.mem_append_left _ z)
    refine lv_pop hx hb dL_law_967 rfl ?_
    refine lv_iconst (v := 0) hx hb dL_law_968 (by decide) ?_
    refine lv_istore (lv' := [(20, .int 0), (19, .int (inC S (gxMin S G N) N)), (18, .int (gxGiv S G)), (17, .int 0), (16, .int 0), (15, .int (loC S (gxMin S G N) N)), (12, .ref d), (11, .ref c9), (10, .ref b), (9, .ref a), (8, .int (nI G)), (7, .int (nI N)), (5, .long (gxDk S G N N)), (3, .int (nI tm)), (2, .ref (ad 0 0)), (1, .ref t), (0, .ref bb)]) hx hb dL_law_969 hl (by decide) rfl (fun ls hl => ?_)
    refine law_F l hl0 D cI cR bb nn xs t o r S (gxMin S G N) o1 r1 Tq3 L1 f1 (ad 0 0) G N hN hG4 hLI2.1.2.2.2.1 hLI2.1.2.2.1 (fun k hk => xGoat_in hLI2.1 hk) (fun k hk h9 => hLI.next hk h9) a b c9 d tm (gxDk S G N N) (loC S (gxMin S G N) N) (gxGiv S G) (inC S (gxMin S G N) N) hC hE hK hA (hF.1 a haL4) (hF.1 b hbL4) ((hof a ha haL4).trans (f4_ga hAR)) ((hof b hbn hbL4).trans (f4_gb hAR)) ha9 hb9 (by omega) (by omega) hw (lv_sub hl [0, 3, 4, 1, 2, 5, 6, 7, 8, 9, 10, 11, 12, 13, 14, 15, 16] rfl) (fun Tz H locs ls hw hl => ?_)
    refine lv_iload hx hb dL_law_1107 (lv_at hl 2 rfl) ?_
    refine lv_iload hx hb dL_law_1109 (lv_at hl 1 rfl) ?_
    refine lv_icmp_ne (tgt := 1133) hx hb dL_law_1111 (by decide) (fun z => absurd rfl z) (fun _ => ?_)
    refine lv_iload hx hb dL_law_1114 (lv_at hl 0 rfl) ?_
    refine lv_iload hx hb dL_law_1116 (lv_at hl 4 rfl) ?_
    refine lv_icmp_ne (tgt := 1133) hx hb dL_law_1118 (by decide) (fun z => absurd rfl z) (fun _ => ?_)
    refine lv_aload_n hx hb dL_law_1121 rfl (lv_at hl 14 rfl) ?_
    refine tx_callC hC 0 1 0 (ct_X1_givenUp l D cI t o r (gxMin S G N) o1 r1 Tz G hLI2.1.2.2.1 hG4) gL_law_X1_givenUp dL_law_1122 hK hw hA hl.1 rfl hd_X1_givenUp ⟨Nat.le_of_ble_eq_true rfl, Nat.le_of_ble_eq_true rfl⟩ ⟨by show _ ≤ 760756; omega, by show _ ≤ 6819431; omega⟩ rfl rfl rfl rfl (Nat.le_of_ble_eq_true rfl) (fun H locs hw => ?_)
    refine gt_stk [.int (gxGiv (gxMin S G N) G)] rfl ?_
    refine lv_iload hx hb dL_law_1125 (lv_at hl 3 rfl) ?_
    refine lv_iload hx hb dL_law_1127 (lv_at hl 0 rfl) ?_
    refine lv_iadd hx hb dL_law_1129 ?_
    refine lv_icmp_eq (tgt := 1135) hx hb dL_law_1130 (by decide) (fun _ => ?_) (fun z => absurd hgone z)
    refine gt_inc (lv' := [(3, .int (nI (tm + 1))), (17, .int (loC S (gxMin S G N) N)), (16, .int (inC S (gxMin S G N) N)), (19, .int (inC S (gxMin S G N) N)), (18, .int (gxGiv S G)), (15, .int (loC S (gxMin S G N) N)), (12, .ref d), (11, .ref c9), (10, .ref b), (9, .ref a), (8, .int (nI G)), (7, .int (nI N)), (5, .long (gxDk S G N N)), (2, .ref (ad 0 0)), (1, .ref t), (0, .ref bb)]) hC 12 tm dL_law_1135 hl rfl rfl (by decide) rfl (fun ls hl => ?_)
    refine lv_goto (tgt := 22) hx hb dL_law_1138 (by decide) ?_
    refine W.widen (k := cells + 49400) (n := slots + 500800) (by omega) (by omega) ?_
    exact kk _ L1 f1 H locs ls hw ⟨G, N, (gxMin S G N), mMin M G N, Ls1, ad1, Tz, rfl, hI1, hLI2.mono (by omega), hLJ.min hN hG4, Or.inr (by omega), h00⟩ (lv_sub hl [0, 13, 14, 15] rfl)
