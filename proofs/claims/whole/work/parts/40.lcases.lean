/-! The law's turns, one for each number. -/
set_option maxRecDepth 20000 in
theorem lc_waitingAt {p : Program} {l : Launch} {e : Env} {s : State} {m : MethodId} {args : Array Value} {below : List Frame} {meth : Method} {c : Code} {Q : State → Prop} {D : va_G} {cI cL : ClassId} {A : Nat → Prop} {b L : Nat} {xs : Nat → Int32}
    (hl0 : l.stackTraces = false) (hC : CallFix p m c cL_law 9 s args wsL_law RL) (hTh : gTh A s s.heap) (hNc : gNc s) (hK : va_K D vwCl [(cI, .int), (cL, .long)] s) (hA : ∀ q, s.heap.size ≤ q → A q) (hX : va_X b L xs s s.heap) (hbl : b < s.heap.size) (hbA : ¬ A b)
    {t o : Nat} {r : Nat → Nat} {S : SS} {o1 : Nat} {r1 : Nat → Nat} {T : SS} {t2 : Nat} {q : Nat → Nat} {M K : SS} {ob : Nat} {f : Nat → Int64} {G N i cells slots : Nat} {H : Heap} {locs : List Loc} {ls : Array Slot}
    (hI : Inv G N S M) (hi : i + 6 ≤ L) (hL : L ≤ 3072) (hcs : cells + 137 ≤ 601024 ∧ slots + 848 ≤ 7293034) (hP : va_P D vwCl (mw cI t2 q M K ++ (tw cI t o r S o1 r1 T ++ oc cL ob f)) H) (hD : va_D A (mw cI t2 q M K ++ (tw cI t o r S o1 r1 T ++ oc cL ob f))) (hS : va_S A s.heap H locs) (hl : lv_has ls 9 [(0, .ref b), (1, .ref t), (2, .ref t2), (3, .ref ob), (4, .int (nI i))])
    (kk : ∀ (G N : Nat) (S T M K : SS) (f : Nat → Int64) (H : Heap) (locs : List Loc) (ls : Array Slot), Inv G N S M → va_P D vwCl (mw cI t2 q M K ++ (tw cI t o r S o1 r1 T ++ oc cL ob f)) H → va_D A (mw cI t2 q M K ++ (tw cI t o r S o1 r1 T ++ oc cL ob f)) → va_S A s.heap H locs → lv_has ls 9 [(0, .ref b), (1, .ref t), (2, .ref t2), (3, .ref ob), (4, .int (nI i))] → W p l e room_1 s m args below meth c H locs (cells + 137) (slots + 848) Q (F0 m 1611 ls [])) : W p l e room_1 s m args below meth c H locs cells slots Q (F0 m 828 ls []) := by
  have hxe := hC.1
  have hb := hC.2.1
  have hI' := hI
  obtain ⟨hN12, hG4, hSG, hSN, hMG, hMN, rel, -, -⟩ := hI'
  have hKi : va_K D vwCl [(cI, .int)] s := ⟨hK.1, fun k z hz => by
    cases k with
    | zero => exact hK.2 0 z hz
    | succ k => cases hz⟩
  have h1 : vp_in (nI i + 1) L := by
    rw [show nI i + 1 = nI (i + 1) from nI_add i 1]
    exact vp_in_nI (by omega) (by omega)
  refine lv_aload_n hxe hb dL_law_828 rfl (lv_at hl 1 rfl) ?_
  refine lv_aload_n hxe hb dL_law_829 rfl (lv_at hl 0 rfl) ?_
  refine lv_iload hxe hb dL_law_830 (lv_at hl 4 rfl) ?_
  refine lv_iconst (v := 1) hxe hb dL_law_832 (by decide) ?_
  refine lv_iadd hxe hb dL_law_833 ?_
  refine va_sld hxe hb hX hbl hbA hS h1 dL_law_834 ?_
  refine lv_aload_n hxe hb dL_law_835 rfl (lv_at hl 3 rfl) ?_
  obtain ⟨x, hx⟩ : ∃ x : Option String, x = (xGate S (xs (nI i + 1).toNatClampNeg)) := ⟨_, rfl⟩
  refine gl_callS hC 3 (wa := mw cI t2 q M K) (cw_waitingAt l hl0 D cI t o r S o1 r1 T cL ob f (xs (nI i + 1).toNatClampNeg) N hSN hN12 G hSG hG4 x hx) gL_law_L_waitingAt dL_law_836 hTh hNc hK hP hD hS hA hl.1 rfl hd_L_waitingAt ⟨Nat.le_of_ble_eq_true rfl, Nat.le_of_ble_eq_true rfl⟩ ⟨by show cells + 1 ≤ 601024; omega, by show slots + 6 ≤ 7293034; omega⟩ rfl rfl (Nat.le_of_ble_eq_true rfl) (fun H locs hP hD hS => ?_)
  refine lv_istore (lv' := (5, .int (xc gxIO gxIO x)) :: [(0, .ref b), (1, .ref t), (2, .ref t2), (3, .ref ob), (4, .int (nI i))]) hxe hb dL_law_839 hl (by decide) rfl (fun ls hl => ?_)
  refine lv_aload_n hxe hb dL_law_841 rfl (lv_at hl 3 rfl) ?_
  refine lv_aload_n hxe hb dL_law_842 rfl (lv_at hl 1 rfl) ?_
  refine lv_iload hxe hb dL_law_843 (lv_at hl 5 rfl) ?_
  refine lv_iconst (v := 1) hxe hb dL_law_845 (by decide) ?_
  refine lv_iadd hxe hb dL_law_846 ?_
  refine va_sld hxe hb hX hbl hbA hS h1 dL_law_847 ?_
  refine gt_callV hC [] (tw cI t o r S o1 r1 T ++ oc cL ob (osel x f ((gxWat S (xs (nI i + 1).toNatClampNeg) N)))) 0 2 1 (ws' := mw cI t2 q (mM_waitingAt M N G (xs (nI i + 1).toNatClampNeg)) K ++ (tw cI t o r S o1 r1 T ++ oc cL ob (osel x f ((gxWat S (xs (nI i + 1).toNatClampNeg) N))))) (ct_X2_waitingAt l D cI t2 q M K (xs (nI i + 1).toNatClampNeg) N hMN hN12 G hMG hG4 (fun X g => mOpN_lt hN12 X g)) gL_law_X2_waitingAt dL_law_848 hKi hP hD hS hA hl.1 rfl hd_X2_waitingAt ⟨Nat.le_of_ble_eq_true rfl, Nat.le_of_ble_eq_true rfl⟩ ⟨by show cells + 1 + 0 ≤ 601024; omega, by show slots + 6 + 0 ≤ 7293034; omega⟩ rfl rfl rfl rfl rfl rfl (Nat.le_of_ble_eq_true rfl) (fun H locs hP hD hS => ?_)
  refine gt_stk [.int (mR_waitingAt M N G (xs (nI i + 1).toNatClampNeg))] rfl ?_
  refine lv_istore (lv' := (6, .int (mR_waitingAt M N G (xs (nI i + 1).toNatClampNeg))) :: (5, .int (xc gxIO gxIO x)) :: [(0, .ref b), (1, .ref t), (2, .ref t2), (3, .ref ob), (4, .int (nI i))]) hxe hb dL_law_851 hl (by decide) rfl (fun ls hl => ?_)
  refine lv_aload_n hxe hb dL_law_853 rfl (lv_at hl 4 rfl) ?_
  refine gt_callV hC [] (tw cI t o r S o1 r1 T ++ oc cL ob (osel x f ((gxWat S (xs (nI i + 1).toNatClampNeg) N)))) 0 2 0 (ws' := mw cI t2 q (mM_waitingAt M N G (xs (nI i + 1).toNatClampNeg)) K ++ (tw cI t o r S o1 r1 T ++ oc cL ob (osel x f ((gxWat S (xs (nI i + 1).toNatClampNeg) N))))) (ct_X2_thrown l D cI t2 q (mM_waitingAt M N G (xs (nI i + 1).toNatClampNeg)) K) gL_law_X2_thrown dL_law_854 hKi hP hD hS hA hl.1 rfl hd_X2_thrown ⟨Nat.le_of_ble_eq_true rfl, Nat.le_of_ble_eq_true rfl⟩ ⟨by show cells + 1 + 0 + 0 ≤ 601024; omega, by show slots + 6 + 0 + 0 ≤ 7293034; omega⟩ rfl rfl rfl rfl rfl rfl (Nat.le_of_ble_eq_true rfl) (fun H locs hP hD hS => ?_)
  have hop := op_waitingAt hI (xs (nI i + 1).toNatClampNeg)
  rw [← hx] at hop
  obtain ⟨u1, u2, u3⟩ := hop
  refine gt_stk [.int ((mM_waitingAt M N G (xs (nI i + 1).toNatClampNeg)) 12 0)] rfl ?_
  refine lv_iload hxe hb dL_law_857 (lv_at hl 1 rfl) ?_
  refine lv_icmp_eq (tgt := 864) hxe hb dL_law_859 (by decide) (fun _ => ?_) (fun z => absurd u1 z)
  refine lv_iload hxe hb dL_law_864 (lv_at hl 1 rfl) ?_
  refine lv_if_ne (tgt := 881) hxe hb dL_law_866 (by decide) (fun _ => ?_) (fun hz => ?_)
  · refine lv_goto (tgt := 1611) hxe hb dL_law_881 (by decide) ?_
    exact W.widen (k := cells + 137) (n := slots + 848) (by omega) (by omega) (kk G N S T (mM_waitingAt M N G (xs (nI i + 1).toNatClampNeg)) K (osel x f ((gxWat S (xs (nI i + 1).toNatClampNeg) N))) H locs ls u3 hP hD hS (lv_sub hl [2, 3, 4, 5, 6] rfl))
  · have hx0 := xc_0 hz
    refine lv_aload_n hxe hb dL_law_869 rfl (lv_at hl 5 rfl) ?_
    refine lv_iconst (v := 0) hxe hb dL_law_870 (by decide) ?_
    refine va_lald (f := (osel x f ((gxWat S (xs (nI i + 1).toNatClampNeg) N)))) (i := 0) (n := 1) (cA := cL) hxe hb hK hP (6 + 27) 1 rfl rfl (by unfold vp_in; decide) dL_law_871 ?_
    refine lv_iload hxe hb dL_law_872 (lv_at hl 0 rfl) ?_
    refine lv_i2l hxe hb dL_law_874 rfl ?_
    refine W.lcmp hxe hb dL_law_875 ?_
    have hv : (osel x f ((gxWat S (xs (nI i + 1).toNatClampNeg) N))) (0 : Int32).toNatClampNeg = Int32.toInt64 (mR_waitingAt M N G (xs (nI i + 1).toNatClampNeg)) := by
      rw [u2 hx0, hx0, osel_n]
      rfl
    refine gt_stk [.int 0] (by rw [hv, lg_cmp_self]) ?_
    refine lv_if_eq (tgt := 881) hxe hb dL_law_876 (by decide) (fun _ => ?_) (fun z => absurd rfl z)
    refine lv_goto (tgt := 1611) hxe hb dL_law_881 (by decide) ?_
    exact W.widen (k := cells + 137) (n := slots + 848) (by omega) (by omega) (kk G N S T (mM_waitingAt M N G (xs (nI i + 1).toNatClampNeg)) K (osel x f ((gxWat S (xs (nI i + 1).toNatClampNeg) N))) H locs ls u3 hP hD hS (lv_sub hl [2, 3, 4, 5, 6] rfl))

set_option maxRecDepth 20000 in
theorem lc_nextAt {p : Program} {l : Launch} {e : Env} {s : State} {m : MethodId} {args : Array Value} {below : List Frame} {meth : Method} {c : Code} {Q : State → Prop} {D : va_G} {cI cL : ClassId} {A : Nat → Prop} {b L : Nat} {xs : Nat → Int32}
    (hl0 : l.stackTraces = false) (hC : CallFix p m c cL_law 9 s args wsL_law RL) (hTh : gTh A s s.heap) (hNc : gNc s) (hK : va_K D vwCl [(cI, .int), (cL, .long)] s) (hA : ∀ q, s.heap.size ≤ q → A q) (hX : va_X b L xs s s.heap) (hbl : b < s.heap.size) (hbA : ¬ A b)
    {t o : Nat} {r : Nat → Nat} {S : SS} {o1 : Nat} {r1 : Nat → Nat} {T : SS} {t2 : Nat} {q : Nat → Nat} {M K : SS} {ob : Nat} {f : Nat → Int64} {G N i cells slots : Nat} {H : Heap} {locs : List Loc} {ls : Array Slot}
    (hI : Inv G N S M) (hi : i + 6 ≤ L) (hL : L ≤ 3072) (hcs : cells + 137 ≤ 601024 ∧ slots + 848 ≤ 7293034) (hP : va_P D vwCl (mw cI t2 q M K ++ (tw cI t o r S o1 r1 T ++ oc cL ob f)) H) (hD : va_D A (mw cI t2 q M K ++ (tw cI t o r S o1 r1 T ++ oc cL ob f))) (hS : va_S A s.heap H locs) (hl : lv_has ls 9 [(0, .ref b), (1, .ref t), (2, .ref t2), (3, .ref ob), (4, .int (nI i))])
    (kk : ∀ (G N : Nat) (S T M K : SS) (f : Nat → Int64) (H : Heap) (locs : List Loc) (ls : Array Slot), Inv G N S M → va_P D vwCl (mw cI t2 q M K ++ (tw cI t o r S o1 r1 T ++ oc cL ob f)) H → va_D A (mw cI t2 q M K ++ (tw cI t o r S o1 r1 T ++ oc cL ob f)) → va_S A s.heap H locs → lv_has ls 9 [(0, .ref b), (1, .ref t), (2, .ref t2), (3, .ref ob), (4, .int (nI i))] → W p l e room_1 s m args below meth c H locs (cells + 137) (slots + 848) Q (F0 m 1611 ls [])) : W p l e room_1 s m args below meth c H locs cells slots Q (F0 m 884 ls []) := by
  have hxe := hC.1
  have hb := hC.2.1
  have hI' := hI
  obtain ⟨hN12, hG4, hSG, hSN, hMG, hMN, rel, -, -⟩ := hI'
  have hKi : va_K D vwCl [(cI, .int)] s := ⟨hK.1, fun k z hz => by
    cases k with
    | zero => exact hK.2 0 z hz
    | succ k => cases hz⟩
  have h1 : vp_in (nI i + 1) L := by
    rw [show nI i + 1 = nI (i + 1) from nI_add i 1]
    exact vp_in_nI (by omega) (by omega)
  refine lv_aload_n hxe hb dL_law_884 rfl (lv_at hl 1 rfl) ?_
  refine lv_aload_n hxe hb dL_law_885 rfl (lv_at hl 0 rfl) ?_
  refine lv_iload hxe hb dL_law_886 (lv_at hl 4 rfl) ?_
  refine lv_iconst (v := 1) hxe hb dL_law_888 (by decide) ?_
  refine lv_iadd hxe hb dL_law_889 ?_
  refine va_sld hxe hb hX hbl hbA hS h1 dL_law_890 ?_
  refine lv_aload_n hxe hb dL_law_891 rfl (lv_at hl 3 rfl) ?_
  obtain ⟨x, hx⟩ : ∃ x : Option String, x = (xGate S (xs (nI i + 1).toNatClampNeg)) := ⟨_, rfl⟩
  refine gl_callS hC 3 (wa := mw cI t2 q M K) (cw_nextAt l hl0 D cI t o r S o1 r1 T cL ob f (xs (nI i + 1).toNatClampNeg) N hSN hN12 G hSG hG4 x hx) gL_law_L_nextAt dL_law_892 hTh hNc hK hP hD hS hA hl.1 rfl hd_L_nextAt ⟨Nat.le_of_ble_eq_true rfl, Nat.le_of_ble_eq_true rfl⟩ ⟨by show cells + 1 ≤ 601024; omega, by show slots + 6 ≤ 7293034; omega⟩ rfl rfl (Nat.le_of_ble_eq_true rfl) (fun H locs hP hD hS => ?_)
  refine lv_istore (lv' := (5, .int (xc gxIO gxIO x)) :: [(0, .ref b), (1, .ref t), (2, .ref t2), (3, .ref ob), (4, .int (nI i))]) hxe hb dL_law_895 hl (by decide) rfl (fun ls hl => ?_)
  refine lv_aload_n hxe hb dL_law_897 rfl (lv_at hl 3 rfl) ?_
  refine lv_aload_n hxe hb dL_law_898 rfl (lv_at hl 1 rfl) ?_
  refine lv_iload hxe hb dL_law_899 (lv_at hl 5 rfl) ?_
  refine lv_iconst (v := 1) hxe hb dL_law_901 (by decide) ?_
  refine lv_iadd hxe hb dL_law_902 ?_
  refine va_sld hxe hb hX hbl hbA hS h1 dL_law_903 ?_
  refine gt_callV hC [] (tw cI t o r S o1 r1 T ++ oc cL ob (osel x f ((gxFiR S (xs (nI i + 1).toNatClampNeg).toNatClampNeg N)))) 0 2 1 (ws' := mw cI t2 q (mM_nextAt M N G (xs (nI i + 1).toNatClampNeg)) K ++ (tw cI t o r S o1 r1 T ++ oc cL ob (osel x f ((gxFiR S (xs (nI i + 1).toNatClampNeg).toNatClampNeg N))))) (ct_X2_nextAt l D cI t2 q M K (xs (nI i + 1).toNatClampNeg) N hMN hN12 G hMG hG4 (fun X g => mOpN_lt hN12 X g)) gL_law_X2_nextAt dL_law_904 hKi hP hD hS hA hl.1 rfl hd_X2_nextAt ⟨Nat.le_of_ble_eq_true rfl, Nat.le_of_ble_eq_true rfl⟩ ⟨by show cells + 1 + 0 ≤ 601024; omega, by show slots + 6 + 0 ≤ 7293034; omega⟩ rfl rfl rfl rfl rfl rfl (Nat.le_of_ble_eq_true rfl) (fun H locs hP hD hS => ?_)
  refine gt_stk [.int (mR_nextAt M N G (xs (nI i + 1).toNatClampNeg))] rfl ?_
  refine lv_istore (lv' := (6, .int (mR_nextAt M N G (xs (nI i + 1).toNatClampNeg))) :: (5, .int (xc gxIO gxIO x)) :: [(0, .ref b), (1, .ref t), (2, .ref t2), (3, .ref ob), (4, .int (nI i))]) hxe hb dL_law_907 hl (by decide) rfl (fun ls hl => ?_)
  refine lv_aload_n hxe hb dL_law_909 rfl (lv_at hl 4 rfl) ?_
  refine gt_callV hC [] (tw cI t o r S o1 r1 T ++ oc cL ob (osel x f ((gxFiR S (xs (nI i + 1).toNatClampNeg).toNatClampNeg N)))) 0 2 0 (ws' := mw cI t2 q (mM_nextAt M N G (xs (nI i + 1).toNatClampNeg)) K ++ (tw cI t o r S o1 r1 T ++ oc cL ob (osel x f ((gxFiR S (xs (nI i + 1).toNatClampNeg).toNatClampNeg N))))) (ct_X2_thrown l D cI t2 q (mM_nextAt M N G (xs (nI i + 1).toNatClampNeg)) K) gL_law_X2_thrown dL_law_910 hKi hP hD hS hA hl.1 rfl hd_X2_thrown ⟨Nat.le_of_ble_eq_true rfl, Nat.le_of_ble_eq_true rfl⟩ ⟨by show cells + 1 + 0 + 0 ≤ 601024; omega, by show slots + 6 + 0 + 0 ≤ 7293034; omega⟩ rfl rfl rfl rfl rfl rfl (Nat.le_of_ble_eq_true rfl) (fun H locs hP hD hS => ?_)
  have hop := op_nextAt hI (xs (nI i + 1).toNatClampNeg)
  rw [← hx] at hop
  obtain ⟨u1, u2, u3⟩ := hop
  refine gt_stk [.int ((mM_nextAt M N G (xs (nI i + 1).toNatClampNeg)) 12 0)] rfl ?_
  refine lv_iload hxe hb dL_law_913 (lv_at hl 1 rfl) ?_
  refine lv_icmp_eq (tgt := 920) hxe hb dL_law_915 (by decide) (fun _ => ?_) (fun z => absurd u1 z)
  refine lv_iload hxe hb dL_law_920 (lv_at hl 1 rfl) ?_
  refine lv_if_ne (tgt := 937) hxe hb dL_law_922 (by decide) (fun _ => ?_) (fun hz => ?_)
  · refine lv_goto (tgt := 1611) hxe hb dL_law_937 (by decide) ?_
    exact W.widen (k := cells + 137) (n := slots + 848) (by omega) (by omega) (kk G N S T (mM_nextAt M N G (xs (nI i + 1).toNatClampNeg)) K (osel x f ((gxFiR S (xs (nI i + 1).toNatClampNeg).toNatClampNeg N))) H locs ls u3 hP hD hS (lv_sub hl [2, 3, 4, 5, 6] rfl))
  · have hx0 := xc_0 hz
    refine lv_aload_n hxe hb dL_law_925 rfl (lv_at hl 5 rfl) ?_
    refine lv_iconst (v := 0) hxe hb dL_law_926 (by decide) ?_
    refine va_lald (f := (osel x f ((gxFiR S (xs (nI i + 1).toNatClampNeg).toNatClampNeg N)))) (i := 0) (n := 1) (cA := cL) hxe hb hK hP (6 + 27) 1 rfl rfl (by unfold vp_in; decide) dL_law_927 ?_
    refine lv_iload hxe hb dL_law_928 (lv_at hl 0 rfl) ?_
    refine lv_i2l hxe hb dL_law_930 rfl ?_
    refine W.lcmp hxe hb dL_law_931 ?_
    have hv : (osel x f ((gxFiR S (xs (nI i + 1).toNatClampNeg).toNatClampNeg N))) (0 : Int32).toNatClampNeg = Int32.toInt64 (mR_nextAt M N G (xs (nI i + 1).toNatClampNeg)) := by
      rw [u2 hx0, hx0, osel_n]
      rfl
    refine gt_stk [.int 0] (by rw [hv, lg_cmp_self]) ?_
    refine lv_if_eq (tgt := 937) hxe hb dL_law_932 (by decide) (fun _ => ?_) (fun z => absurd rfl z)
    refine lv_goto (tgt := 1611) hxe hb dL_law_937 (by decide) ?_
    exact W.widen (k := cells + 137) (n := slots + 848) (by omega) (by omega) (kk G N S T (mM_nextAt M N G (xs (nI i + 1).toNatClampNeg)) K (osel x f ((gxFiR S (xs (nI i + 1).toNatClampNeg).toNatClampNeg N))) H locs ls u3 hP hD hS (lv_sub hl [2, 3, 4, 5, 6] rfl))

set_option maxRecDepth 20000 in
theorem lc_stateOf {p : Program} {l : Launch} {e : Env} {s : State} {m : MethodId} {args : Array Value} {below : List Frame} {meth : Method} {c : Code} {Q : State → Prop} {D : va_G} {cI cL : ClassId} {A : Nat → Prop} {b L : Nat} {xs : Nat → Int32}
    (hl0 : l.stackTraces = false) (hC : CallFix p m c cL_law 9 s args wsL_law RL) (hTh : gTh A s s.heap) (hNc : gNc s) (hK : va_K D vwCl [(cI, .int), (cL, .long)] s) (hA : ∀ q, s.heap.size ≤ q → A q) (hX : va_X b L xs s s.heap) (hbl : b < s.heap.size) (hbA : ¬ A b)
    {t o : Nat} {r : Nat → Nat} {S : SS} {o1 : Nat} {r1 : Nat → Nat} {T : SS} {t2 : Nat} {q : Nat → Nat} {M K : SS} {ob : Nat} {f : Nat → Int64} {G N i cells slots : Nat} {H : Heap} {locs : List Loc} {ls : Array Slot}
    (hI : Inv G N S M) (hi : i + 6 ≤ L) (hL : L ≤ 3072) (hcs : cells + 137 ≤ 601024 ∧ slots + 848 ≤ 7293034) (hP : va_P D vwCl (mw cI t2 q M K ++ (tw cI t o r S o1 r1 T ++ oc cL ob f)) H) (hD : va_D A (mw cI t2 q M K ++ (tw cI t o r S o1 r1 T ++ oc cL ob f))) (hS : va_S A s.heap H locs) (hl : lv_has ls 9 [(0, .ref b), (1, .ref t), (2, .ref t2), (3, .ref ob), (4, .int (nI i))])
    (kk : ∀ (G N : Nat) (S T M K : SS) (f : Nat → Int64) (H : Heap) (locs : List Loc) (ls : Array Slot), Inv G N S M → va_P D vwCl (mw cI t2 q M K ++ (tw cI t o r S o1 r1 T ++ oc cL ob f)) H → va_D A (mw cI t2 q M K ++ (tw cI t o r S o1 r1 T ++ oc cL ob f)) → va_S A s.heap H locs → lv_has ls 9 [(0, .ref b), (1, .ref t), (2, .ref t2), (3, .ref ob), (4, .int (nI i))] → W p l e room_1 s m args below meth c H locs (cells + 137) (slots + 848) Q (F0 m 1611 ls [])) : W p l e room_1 s m args below meth c H locs cells slots Q (F0 m 940 ls []) := by
  have hxe := hC.1
  have hb := hC.2.1
  have hI' := hI
  obtain ⟨hN12, hG4, hSG, hSN, hMG, hMN, rel, -, -⟩ := hI'
  have hKi : va_K D vwCl [(cI, .int)] s := ⟨hK.1, fun k z hz => by
    cases k with
    | zero => exact hK.2 0 z hz
    | succ k => cases hz⟩
  have h1 : vp_in (nI i + 1) L := by
    rw [show nI i + 1 = nI (i + 1) from nI_add i 1]
    exact vp_in_nI (by omega) (by omega)
  refine lv_aload_n hxe hb dL_law_940 rfl (lv_at hl 1 rfl) ?_
  refine lv_aload_n hxe hb dL_law_941 rfl (lv_at hl 0 rfl) ?_
  refine lv_iload hxe hb dL_law_942 (lv_at hl 4 rfl) ?_
  refine lv_iconst (v := 1) hxe hb dL_law_944 (by decide) ?_
  refine lv_iadd hxe hb dL_law_945 ?_
  refine va_sld hxe hb hX hbl hbA hS h1 dL_law_946 ?_
  refine lv_aload_n hxe hb dL_law_947 rfl (lv_at hl 3 rfl) ?_
  obtain ⟨x, hx⟩ : ∃ x : Option String, x = (xGoat S (xs (nI i + 1).toNatClampNeg)) := ⟨_, rfl⟩
  refine gl_callS hC 3 (wa := mw cI t2 q M K) (cw_stateOf l hl0 D cI t o r S o1 r1 T cL ob f (xs (nI i + 1).toNatClampNeg) N hSN hN12 x hx) gL_law_L_stateOf dL_law_948 hTh hNc hK hP hD hS hA hl.1 rfl hd_L_stateOf ⟨Nat.le_of_ble_eq_true rfl, Nat.le_of_ble_eq_true rfl⟩ ⟨by show cells + 1 ≤ 601024; omega, by show slots + 6 ≤ 7293034; omega⟩ rfl rfl (Nat.le_of_ble_eq_true rfl) (fun H locs hP hD hS => ?_)
  refine lv_istore (lv' := (5, .int (xc gxIO gxIO x)) :: [(0, .ref b), (1, .ref t), (2, .ref t2), (3, .ref ob), (4, .int (nI i))]) hxe hb dL_law_951 hl (by decide) rfl (fun ls hl => ?_)
  refine lv_aload_n hxe hb dL_law_953 rfl (lv_at hl 3 rfl) ?_
  refine lv_aload_n hxe hb dL_law_954 rfl (lv_at hl 1 rfl) ?_
  refine lv_iload hxe hb dL_law_955 (lv_at hl 5 rfl) ?_
  refine lv_iconst (v := 1) hxe hb dL_law_957 (by decide) ?_
  refine lv_iadd hxe hb dL_law_958 ?_
  refine va_sld hxe hb hX hbl hbA hS h1 dL_law_959 ?_
  refine gt_callV hC [] (tw cI t o r S o1 r1 T ++ oc cL ob (osel x f ((S 9 (xs (nI i + 1).toNatClampNeg).toNatClampNeg)))) 0 2 1 (ws' := mw cI t2 q (mM_stateOf M N G (xs (nI i + 1).toNatClampNeg)) K ++ (tw cI t o r S o1 r1 T ++ oc cL ob (osel x f ((S 9 (xs (nI i + 1).toNatClampNeg).toNatClampNeg))))) (ct_X2_stateOf l D cI t2 q M K (xs (nI i + 1).toNatClampNeg) N hMN hN12 G hMG hG4 (fun X g => mOpN_lt hN12 X g)) gL_law_X2_stateOf dL_law_960 hKi hP hD hS hA hl.1 rfl hd_X2_stateOf ⟨Nat.le_of_ble_eq_true rfl, Nat.le_of_ble_eq_true rfl⟩ ⟨by show cells + 1 + 0 ≤ 601024; omega, by show slots + 6 + 0 ≤ 7293034; omega⟩ rfl rfl rfl rfl rfl rfl (Nat.le_of_ble_eq_true rfl) (fun H locs hP hD hS => ?_)
  refine gt_stk [.int (mR_stateOf M N G (xs (nI i + 1).toNatClampNeg))] rfl ?_
  refine lv_istore (lv' := (6, .int (mR_stateOf M N G (xs (nI i + 1).toNatClampNeg))) :: (5, .int (xc gxIO gxIO x)) :: [(0, .ref b), (1, .ref t), (2, .ref t2), (3, .ref ob), (4, .int (nI i))]) hxe hb dL_law_963 hl (by decide) rfl (fun ls hl => ?_)
  refine lv_aload_n hxe hb dL_law_965 rfl (lv_at hl 4 rfl) ?_
  refine gt_callV hC [] (tw cI t o r S o1 r1 T ++ oc cL ob (osel x f ((S 9 (xs (nI i + 1).toNatClampNeg).toNatClampNeg)))) 0 2 0 (ws' := mw cI t2 q (mM_stateOf M N G (xs (nI i + 1).toNatClampNeg)) K ++ (tw cI t o r S o1 r1 T ++ oc cL ob (osel x f ((S 9 (xs (nI i + 1).toNatClampNeg).toNatClampNeg))))) (ct_X2_thrown l D cI t2 q (mM_stateOf M N G (xs (nI i + 1).toNatClampNeg)) K) gL_law_X2_thrown dL_law_966 hKi hP hD hS hA hl.1 rfl hd_X2_thrown ⟨Nat.le_of_ble_eq_true rfl, Nat.le_of_ble_eq_true rfl⟩ ⟨by show cells + 1 + 0 + 0 ≤ 601024; omega, by show slots + 6 + 0 + 0 ≤ 7293034; omega⟩ rfl rfl rfl rfl rfl rfl (Nat.le_of_ble_eq_true rfl) (fun H locs hP hD hS => ?_)
  have hop := op_stateOf hI (xs (nI i + 1).toNatClampNeg)
  rw [← hx] at hop
  obtain ⟨u1, u2, u3⟩ := hop
  refine gt_stk [.int ((mM_stateOf M N G (xs (nI i + 1).toNatClampNeg)) 12 0)] rfl ?_
  refine lv_iload hxe hb dL_law_969 (lv_at hl 1 rfl) ?_
  refine lv_icmp_eq (tgt := 976) hxe hb dL_law_971 (by decide) (fun _ => ?_) (fun z => absurd u1 z)
  refine lv_iload hxe hb dL_law_976 (lv_at hl 1 rfl) ?_
  refine lv_if_ne (tgt := 993) hxe hb dL_law_978 (by decide) (fun _ => ?_) (fun hz => ?_)
  · refine lv_goto (tgt := 1611) hxe hb dL_law_993 (by decide) ?_
    exact W.widen (k := cells + 137) (n := slots + 848) (by omega) (by omega) (kk G N S T (mM_stateOf M N G (xs (nI i + 1).toNatClampNeg)) K (osel x f ((S 9 (xs (nI i + 1).toNatClampNeg).toNatClampNeg))) H locs ls u3 hP hD hS (lv_sub hl [2, 3, 4, 5, 6] rfl))
  · have hx0 := xc_0 hz
    refine lv_aload_n hxe hb dL_law_981 rfl (lv_at hl 5 rfl) ?_
    refine lv_iconst (v := 0) hxe hb dL_law_982 (by decide) ?_
    refine va_lald (f := (osel x f ((S 9 (xs (nI i + 1).toNatClampNeg).toNatClampNeg)))) (i := 0) (n := 1) (cA := cL) hxe hb hK hP (6 + 27) 1 rfl rfl (by unfold vp_in; decide) dL_law_983 ?_
    refine lv_iload hxe hb dL_law_984 (lv_at hl 0 rfl) ?_
    refine lv_i2l hxe hb dL_law_986 rfl ?_
    refine W.lcmp hxe hb dL_law_987 ?_
    have hv : (osel x f ((S 9 (xs (nI i + 1).toNatClampNeg).toNatClampNeg))) (0 : Int32).toNatClampNeg = Int32.toInt64 (mR_stateOf M N G (xs (nI i + 1).toNatClampNeg)) := by
      rw [u2 hx0, hx0, osel_n]
      rfl
    refine gt_stk [.int 0] (by rw [hv, lg_cmp_self]) ?_
    refine lv_if_eq (tgt := 993) hxe hb dL_law_988 (by decide) (fun _ => ?_) (fun z => absurd rfl z)
    refine lv_goto (tgt := 1611) hxe hb dL_law_993 (by decide) ?_
    exact W.widen (k := cells + 137) (n := slots + 848) (by omega) (by omega) (kk G N S T (mM_stateOf M N G (xs (nI i + 1).toNatClampNeg)) K (osel x f ((S 9 (xs (nI i + 1).toNatClampNeg).toNatClampNeg))) H locs ls u3 hP hD hS (lv_sub hl [2, 3, 4, 5, 6] rfl))

set_option maxRecDepth 20000 in
theorem lc_gateOf {p : Program} {l : Launch} {e : Env} {s : State} {m : MethodId} {args : Array Value} {below : List Frame} {meth : Method} {c : Code} {Q : State → Prop} {D : va_G} {cI cL : ClassId} {A : Nat → Prop} {b L : Nat} {xs : Nat → Int32}
    (hl0 : l.stackTraces = false) (hC : CallFix p m c cL_law 9 s args wsL_law RL) (hTh : gTh A s s.heap) (hNc : gNc s) (hK : va_K D vwCl [(cI, .int), (cL, .long)] s) (hA : ∀ q, s.heap.size ≤ q → A q) (hX : va_X b L xs s s.heap) (hbl : b < s.heap.size) (hbA : ¬ A b)
    {t o : Nat} {r : Nat → Nat} {S : SS} {o1 : Nat} {r1 : Nat → Nat} {T : SS} {t2 : Nat} {q : Nat → Nat} {M K : SS} {ob : Nat} {f : Nat → Int64} {G N i cells slots : Nat} {H : Heap} {locs : List Loc} {ls : Array Slot}
    (hI : Inv G N S M) (hi : i + 6 ≤ L) (hL : L ≤ 3072) (hcs : cells + 137 ≤ 601024 ∧ slots + 848 ≤ 7293034) (hP : va_P D vwCl (mw cI t2 q M K ++ (tw cI t o r S o1 r1 T ++ oc cL ob f)) H) (hD : va_D A (mw cI t2 q M K ++ (tw cI t o r S o1 r1 T ++ oc cL ob f))) (hS : va_S A s.heap H locs) (hl : lv_has ls 9 [(0, .ref b), (1, .ref t), (2, .ref t2), (3, .ref ob), (4, .int (nI i))])
    (kk : ∀ (G N : Nat) (S T M K : SS) (f : Nat → Int64) (H : Heap) (locs : List Loc) (ls : Array Slot), Inv G N S M → va_P D vwCl (mw cI t2 q M K ++ (tw cI t o r S o1 r1 T ++ oc cL ob f)) H → va_D A (mw cI t2 q M K ++ (tw cI t o r S o1 r1 T ++ oc cL ob f)) → va_S A s.heap H locs → lv_has ls 9 [(0, .ref b), (1, .ref t), (2, .ref t2), (3, .ref ob), (4, .int (nI i))] → W p l e room_1 s m args below meth c H locs (cells + 137) (slots + 848) Q (F0 m 1611 ls [])) : W p l e room_1 s m args below meth c H locs cells slots Q (F0 m 996 ls []) := by
  have hxe := hC.1
  have hb := hC.2.1
  have hI' := hI
  obtain ⟨hN12, hG4, hSG, hSN, hMG, hMN, rel, -, -⟩ := hI'
  have hKi : va_K D vwCl [(cI, .int)] s := ⟨hK.1, fun k z hz => by
    cases k with
    | zero => exact hK.2 0 z hz
    | succ k => cases hz⟩
  have h1 : vp_in (nI i + 1) L := by
    rw [show nI i + 1 = nI (i + 1) from nI_add i 1]
    exact vp_in_nI (by omega) (by omega)
  refine lv_aload_n hxe hb dL_law_996 rfl (lv_at hl 1 rfl) ?_
  refine lv_aload_n hxe hb dL_law_997 rfl (lv_at hl 0 rfl) ?_
  refine lv_iload hxe hb dL_law_998 (lv_at hl 4 rfl) ?_
  refine lv_iconst (v := 1) hxe hb dL_law_1000 (by decide) ?_
  refine lv_iadd hxe hb dL_law_1001 ?_
  refine va_sld hxe hb hX hbl hbA hS h1 dL_law_1002 ?_
  refine lv_aload_n hxe hb dL_law_1003 rfl (lv_at hl 3 rfl) ?_
  obtain ⟨x, hx⟩ : ∃ x : Option String, x = (xGoat S (xs (nI i + 1).toNatClampNeg)) := ⟨_, rfl⟩
  refine gl_callS hC 3 (wa := mw cI t2 q M K) (cw_gateOf l hl0 D cI t o r S o1 r1 T cL ob f (xs (nI i + 1).toNatClampNeg) N hSN hN12 x hx) gL_law_L_gateOf dL_law_1004 hTh hNc hK hP hD hS hA hl.1 rfl hd_L_gateOf ⟨Nat.le_of_ble_eq_true rfl, Nat.le_of_ble_eq_true rfl⟩ ⟨by show cells + 1 ≤ 601024; omega, by show slots + 6 ≤ 7293034; omega⟩ rfl rfl (Nat.le_of_ble_eq_true rfl) (fun H locs hP hD hS => ?_)
  refine lv_istore (lv' := (5, .int (xc gxIO gxIO x)) :: [(0, .ref b), (1, .ref t), (2, .ref t2), (3, .ref ob), (4, .int (nI i))]) hxe hb dL_law_1007 hl (by decide) rfl (fun ls hl => ?_)
  refine lv_aload_n hxe hb dL_law_1009 rfl (lv_at hl 3 rfl) ?_
  refine lv_aload_n hxe hb dL_law_1010 rfl (lv_at hl 1 rfl) ?_
  refine lv_iload hxe hb dL_law_1011 (lv_at hl 5 rfl) ?_
  refine lv_iconst (v := 1) hxe hb dL_law_1013 (by decide) ?_
  refine lv_iadd hxe hb dL_law_1014 ?_
  refine va_sld hxe hb hX hbl hbA hS h1 dL_law_1015 ?_
  refine gt_callV hC [] (tw cI t o r S o1 r1 T ++ oc cL ob (osel x f ((S 10 (xs (nI i + 1).toNatClampNeg).toNatClampNeg)))) 0 2 1 (ws' := mw cI t2 q (mM_gateOf M N G (xs (nI i + 1).toNatClampNeg)) K ++ (tw cI t o r S o1 r1 T ++ oc cL ob (osel x f ((S 10 (xs (nI i + 1).toNatClampNeg).toNatClampNeg))))) (ct_X2_gateOf l D cI t2 q M K (xs (nI i + 1).toNatClampNeg) N hMN hN12 G hMG hG4 (fun X g => mOpN_lt hN12 X g)) gL_law_X2_gateOf dL_law_1016 hKi hP hD hS hA hl.1 rfl hd_X2_gateOf ⟨Nat.le_of_ble_eq_true rfl, Nat.le_of_ble_eq_true rfl⟩ ⟨by show cells + 1 + 0 ≤ 601024; omega, by show slots + 6 + 0 ≤ 7293034; omega⟩ rfl rfl rfl rfl rfl rfl (Nat.le_of_ble_eq_true rfl) (fun H locs hP hD hS => ?_)
  refine gt_stk [.int (mR_gateOf M N G (xs (nI i + 1).toNatClampNeg))] rfl ?_
  refine lv_istore (lv' := (6, .int (mR_gateOf M N G (xs (nI i + 1).toNatClampNeg))) :: (5, .int (xc gxIO gxIO x)) :: [(0, .ref b), (1, .ref t), (2, .ref t2), (3, .ref ob), (4, .int (nI i))]) hxe hb dL_law_1019 hl (by decide) rfl (fun ls hl => ?_)
  refine lv_aload_n hxe hb dL_law_1021 rfl (lv_at hl 4 rfl) ?_
  refine gt_callV hC [] (tw cI t o r S o1 r1 T ++ oc cL ob (osel x f ((S 10 (xs (nI i + 1).toNatClampNeg).toNatClampNeg)))) 0 2 0 (ws' := mw cI t2 q (mM_gateOf M N G (xs (nI i + 1).toNatClampNeg)) K ++ (tw cI t o r S o1 r1 T ++ oc cL ob (osel x f ((S 10 (xs (nI i + 1).toNatClampNeg).toNatClampNeg))))) (ct_X2_thrown l D cI t2 q (mM_gateOf M N G (xs (nI i + 1).toNatClampNeg)) K) gL_law_X2_thrown dL_law_1022 hKi hP hD hS hA hl.1 rfl hd_X2_thrown ⟨Nat.le_of_ble_eq_true rfl, Nat.le_of_ble_eq_true rfl⟩ ⟨by show cells + 1 + 0 + 0 ≤ 601024; omega, by show slots + 6 + 0 + 0 ≤ 7293034; omega⟩ rfl rfl rfl rfl rfl rfl (Nat.le_of_ble_eq_true rfl) (fun H locs hP hD hS => ?_)
  have hop := op_gateOf hI (xs (nI i + 1).toNatClampNeg)
  rw [← hx] at hop
  obtain ⟨u1, u2, u3⟩ := hop
  refine gt_stk [.int ((mM_gateOf M N G (xs (nI i + 1).toNatClampNeg)) 12 0)] rfl ?_
  refine lv_iload hxe hb dL_law_1025 (lv_at hl 1 rfl) ?_
  refine lv_icmp_eq (tgt := 1032) hxe hb dL_law_1027 (by decide) (fun _ => ?_) (fun z => absurd u1 z)
  refine lv_iload hxe hb dL_law_1032 (lv_at hl 1 rfl) ?_
  refine lv_if_ne (tgt := 1049) hxe hb dL_law_1034 (by decide) (fun _ => ?_) (fun hz => ?_)
  · refine lv_goto (tgt := 1611) hxe hb dL_law_1049 (by decide) ?_
    exact W.widen (k := cells + 137) (n := slots + 848) (by omega) (by omega) (kk G N S T (mM_gateOf M N G (xs (nI i + 1).toNatClampNeg)) K (osel x f ((S 10 (xs (nI i + 1).toNatClampNeg).toNatClampNeg))) H locs ls u3 hP hD hS (lv_sub hl [2, 3, 4, 5, 6] rfl))
  · have hx0 := xc_0 hz
    refine lv_aload_n hxe hb dL_law_1037 rfl (lv_at hl 5 rfl) ?_
    refine lv_iconst (v := 0) hxe hb dL_law_1038 (by decide) ?_
    refine va_lald (f := (osel x f ((S 10 (xs (nI i + 1).toNatClampNeg).toNatClampNeg)))) (i := 0) (n := 1) (cA := cL) hxe hb hK hP (6 + 27) 1 rfl rfl (by unfold vp_in; decide) dL_law_1039 ?_
    refine lv_iload hxe hb dL_law_1040 (lv_at hl 0 rfl) ?_
    refine lv_i2l hxe hb dL_law_1042 rfl ?_
    refine W.lcmp hxe hb dL_law_1043 ?_
    have hv : (osel x f ((S 10 (xs (nI i + 1).toNatClampNeg).toNatClampNeg))) (0 : Int32).toNatClampNeg = Int32.toInt64 (mR_gateOf M N G (xs (nI i + 1).toNatClampNeg)) := by
      rw [u2 hx0, hx0, osel_n]
      rfl
    refine gt_stk [.int 0] (by rw [hv, lg_cmp_self]) ?_
    refine lv_if_eq (tgt := 1049) hxe hb dL_law_1044 (by decide) (fun _ => ?_) (fun z => absurd rfl z)
    refine lv_goto (tgt := 1611) hxe hb dL_law_1049 (by decide) ?_
    exact W.widen (k := cells + 137) (n := slots + 848) (by omega) (by omega) (kk G N S T (mM_gateOf M N G (xs (nI i + 1).toNatClampNeg)) K (osel x f ((S 10 (xs (nI i + 1).toNatClampNeg).toNatClampNeg))) H locs ls u3 hP hD hS (lv_sub hl [2, 3, 4, 5, 6] rfl))

set_option maxRecDepth 20000 in
theorem lc_holds {p : Program} {l : Launch} {e : Env} {s : State} {m : MethodId} {args : Array Value} {below : List Frame} {meth : Method} {c : Code} {Q : State → Prop} {D : va_G} {cI cL : ClassId} {A : Nat → Prop} {b L : Nat} {xs : Nat → Int32}
    (hl0 : l.stackTraces = false) (hC : CallFix p m c cL_law 9 s args wsL_law RL) (hTh : gTh A s s.heap) (hNc : gNc s) (hK : va_K D vwCl [(cI, .int), (cL, .long)] s) (hA : ∀ q, s.heap.size ≤ q → A q) (hX : va_X b L xs s s.heap) (hbl : b < s.heap.size) (hbA : ¬ A b)
    {t o : Nat} {r : Nat → Nat} {S : SS} {o1 : Nat} {r1 : Nat → Nat} {T : SS} {t2 : Nat} {q : Nat → Nat} {M K : SS} {ob : Nat} {f : Nat → Int64} {G N i cells slots : Nat} {H : Heap} {locs : List Loc} {ls : Array Slot}
    (hI : Inv G N S M) (hi : i + 6 ≤ L) (hL : L ≤ 3072) (hcs : cells + 137 ≤ 601024 ∧ slots + 848 ≤ 7293034) (hP : va_P D vwCl (mw cI t2 q M K ++ (tw cI t o r S o1 r1 T ++ oc cL ob f)) H) (hD : va_D A (mw cI t2 q M K ++ (tw cI t o r S o1 r1 T ++ oc cL ob f))) (hS : va_S A s.heap H locs) (hl : lv_has ls 9 [(0, .ref b), (1, .ref t), (2, .ref t2), (3, .ref ob), (4, .int (nI i))])
    (kk : ∀ (G N : Nat) (S T M K : SS) (f : Nat → Int64) (H : Heap) (locs : List Loc) (ls : Array Slot), Inv G N S M → va_P D vwCl (mw cI t2 q M K ++ (tw cI t o r S o1 r1 T ++ oc cL ob f)) H → va_D A (mw cI t2 q M K ++ (tw cI t o r S o1 r1 T ++ oc cL ob f)) → va_S A s.heap H locs → lv_has ls 9 [(0, .ref b), (1, .ref t), (2, .ref t2), (3, .ref ob), (4, .int (nI i))] → W p l e room_1 s m args below meth c H locs (cells + 137) (slots + 848) Q (F0 m 1611 ls [])) : W p l e room_1 s m args below meth c H locs cells slots Q (F0 m 1052 ls []) := by
  have hxe := hC.1
  have hb := hC.2.1
  have hI' := hI
  obtain ⟨hN12, hG4, hSG, hSN, hMG, hMN, rel, -, -⟩ := hI'
  have hKi : va_K D vwCl [(cI, .int)] s := ⟨hK.1, fun k z hz => by
    cases k with
    | zero => exact hK.2 0 z hz
    | succ k => cases hz⟩
  have h1 : vp_in (nI i + 1) L := by
    rw [show nI i + 1 = nI (i + 1) from nI_add i 1]
    exact vp_in_nI (by omega) (by omega)
  refine lv_aload_n hxe hb dL_law_1052 rfl (lv_at hl 1 rfl) ?_
  refine lv_aload_n hxe hb dL_law_1053 rfl (lv_at hl 0 rfl) ?_
  refine lv_iload hxe hb dL_law_1054 (lv_at hl 4 rfl) ?_
  refine lv_iconst (v := 1) hxe hb dL_law_1056 (by decide) ?_
  refine lv_iadd hxe hb dL_law_1057 ?_
  refine va_sld hxe hb hX hbl hbA hS h1 dL_law_1058 ?_
  refine lv_aload_n hxe hb dL_law_1059 rfl (lv_at hl 3 rfl) ?_
  obtain ⟨x, hx⟩ : ∃ x : Option String, x = (xGoat S (xs (nI i + 1).toNatClampNeg)) := ⟨_, rfl⟩
  refine gl_callS hC 3 (wa := mw cI t2 q M K) (cw_holds l hl0 D cI t o r S o1 r1 T cL ob f (xs (nI i + 1).toNatClampNeg) N hSN hN12 x hx) gL_law_L_holds dL_law_1060 hTh hNc hK hP hD hS hA hl.1 rfl hd_L_holds ⟨Nat.le_of_ble_eq_true rfl, Nat.le_of_ble_eq_true rfl⟩ ⟨by show cells + 1 ≤ 601024; omega, by show slots + 6 ≤ 7293034; omega⟩ rfl rfl (Nat.le_of_ble_eq_true rfl) (fun H locs hP hD hS => ?_)
  refine lv_istore (lv' := (5, .int (xc gxIO gxIO x)) :: [(0, .ref b), (1, .ref t), (2, .ref t2), (3, .ref ob), (4, .int (nI i))]) hxe hb dL_law_1063 hl (by decide) rfl (fun ls hl => ?_)
  refine lv_aload_n hxe hb dL_law_1065 rfl (lv_at hl 3 rfl) ?_
  refine lv_aload_n hxe hb dL_law_1066 rfl (lv_at hl 1 rfl) ?_
  refine lv_iload hxe hb dL_law_1067 (lv_at hl 5 rfl) ?_
  refine lv_iconst (v := 1) hxe hb dL_law_1069 (by decide) ?_
  refine lv_iadd hxe hb dL_law_1070 ?_
  refine va_sld hxe hb hX hbl hbA hS h1 dL_law_1071 ?_
  refine gt_callV hC [] (tw cI t o r S o1 r1 T ++ oc cL ob (osel x f ((gxHeld S (xs (nI i + 1).toNatClampNeg).toNatClampNeg)))) 0 2 1 (ws' := mw cI t2 q (mM_holds M N G (xs (nI i + 1).toNatClampNeg)) K ++ (tw cI t o r S o1 r1 T ++ oc cL ob (osel x f ((gxHeld S (xs (nI i + 1).toNatClampNeg).toNatClampNeg))))) (ct_X2_holds l D cI t2 q M K (xs (nI i + 1).toNatClampNeg) N hMN hN12 G hMG hG4 (fun X g => mOpN_lt hN12 X g)) gL_law_X2_holds dL_law_1072 hKi hP hD hS hA hl.1 rfl hd_X2_holds ⟨Nat.le_of_ble_eq_true rfl, Nat.le_of_ble_eq_true rfl⟩ ⟨by show cells + 1 + 0 ≤ 601024; omega, by show slots + 6 + 0 ≤ 7293034; omega⟩ rfl rfl rfl rfl rfl rfl (Nat.le_of_ble_eq_true rfl) (fun H locs hP hD hS => ?_)
  refine gt_stk [.int (mR_holds M N G (xs (nI i + 1).toNatClampNeg))] rfl ?_
  refine lv_istore (lv' := (6, .int (mR_holds M N G (xs (nI i + 1).toNatClampNeg))) :: (5, .int (xc gxIO gxIO x)) :: [(0, .ref b), (1, .ref t), (2, .ref t2), (3, .ref ob), (4, .int (nI i))]) hxe hb dL_law_1075 hl (by decide) rfl (fun ls hl => ?_)
  refine lv_aload_n hxe hb dL_law_1077 rfl (lv_at hl 4 rfl) ?_
  refine gt_callV hC [] (tw cI t o r S o1 r1 T ++ oc cL ob (osel x f ((gxHeld S (xs (nI i + 1).toNatClampNeg).toNatClampNeg)))) 0 2 0 (ws' := mw cI t2 q (mM_holds M N G (xs (nI i + 1).toNatClampNeg)) K ++ (tw cI t o r S o1 r1 T ++ oc cL ob (osel x f ((gxHeld S (xs (nI i + 1).toNatClampNeg).toNatClampNeg))))) (ct_X2_thrown l D cI t2 q (mM_holds M N G (xs (nI i + 1).toNatClampNeg)) K) gL_law_X2_thrown dL_law_1078 hKi hP hD hS hA hl.1 rfl hd_X2_thrown ⟨Nat.le_of_ble_eq_true rfl, Nat.le_of_ble_eq_true rfl⟩ ⟨by show cells + 1 + 0 + 0 ≤ 601024; omega, by show slots + 6 + 0 + 0 ≤ 7293034; omega⟩ rfl rfl rfl rfl rfl rfl (Nat.le_of_ble_eq_true rfl) (fun H locs hP hD hS => ?_)
  have hop := op_holds hI (xs (nI i + 1).toNatClampNeg)
  rw [← hx] at hop
  obtain ⟨u1, u2, u3⟩ := hop
  refine gt_stk [.int ((mM_holds M N G (xs (nI i + 1).toNatClampNeg)) 12 0)] rfl ?_
  refine lv_iload hxe hb dL_law_1081 (lv_at hl 1 rfl) ?_
  refine lv_icmp_eq (tgt := 1088) hxe hb dL_law_1083 (by decide) (fun _ => ?_) (fun z => absurd u1 z)
  refine lv_iload hxe hb dL_law_1088 (lv_at hl 1 rfl) ?_
  refine lv_if_ne (tgt := 1105) hxe hb dL_law_1090 (by decide) (fun _ => ?_) (fun hz => ?_)
  · refine lv_goto (tgt := 1611) hxe hb dL_law_1105 (by decide) ?_
    exact W.widen (k := cells + 137) (n := slots + 848) (by omega) (by omega) (kk G N S T (mM_holds M N G (xs (nI i + 1).toNatClampNeg)) K (osel x f ((gxHeld S (xs (nI i + 1).toNatClampNeg).toNatClampNeg))) H locs ls u3 hP hD hS (lv_sub hl [2, 3, 4, 5, 6] rfl))
  · have hx0 := xc_0 hz
    refine lv_aload_n hxe hb dL_law_1093 rfl (lv_at hl 5 rfl) ?_
    refine lv_iconst (v := 0) hxe hb dL_law_1094 (by decide) ?_
    refine va_lald (f := (osel x f ((gxHeld S (xs (nI i + 1).toNatClampNeg).toNatClampNeg)))) (i := 0) (n := 1) (cA := cL) hxe hb hK hP (6 + 27) 1 rfl rfl (by unfold vp_in; decide) dL_law_1095 ?_
    refine lv_iload hxe hb dL_law_1096 (lv_at hl 0 rfl) ?_
    refine lv_i2l hxe hb dL_law_1098 rfl ?_
    refine W.lcmp hxe hb dL_law_1099 ?_
    have hv : (osel x f ((gxHeld S (xs (nI i + 1).toNatClampNeg).toNatClampNeg))) (0 : Int32).toNatClampNeg = Int32.toInt64 (mR_holds M N G (xs (nI i + 1).toNatClampNeg)) := by
      rw [u2 hx0, hx0, osel_n]
      rfl
    refine gt_stk [.int 0] (by rw [hv, lg_cmp_self]) ?_
    refine lv_if_eq (tgt := 1105) hxe hb dL_law_1100 (by decide) (fun _ => ?_) (fun z => absurd rfl z)
    refine lv_goto (tgt := 1611) hxe hb dL_law_1105 (by decide) ?_
    exact W.widen (k := cells + 137) (n := slots + 848) (by omega) (by omega) (kk G N S T (mM_holds M N G (xs (nI i + 1).toNatClampNeg)) K (osel x f ((gxHeld S (xs (nI i + 1).toNatClampNeg).toNatClampNeg))) H locs ls u3 hP hD hS (lv_sub hl [2, 3, 4, 5, 6] rfl))

set_option maxRecDepth 20000 in
theorem lc_seemingHorns {p : Program} {l : Launch} {e : Env} {s : State} {m : MethodId} {args : Array Value} {below : List Frame} {meth : Method} {c : Code} {Q : State → Prop} {D : va_G} {cI cL : ClassId} {A : Nat → Prop} {b L : Nat} {xs : Nat → Int32}
    (hl0 : l.stackTraces = false) (hC : CallFix p m c cL_law 9 s args wsL_law RL) (hTh : gTh A s s.heap) (hNc : gNc s) (hK : va_K D vwCl [(cI, .int), (cL, .long)] s) (hA : ∀ q, s.heap.size ≤ q → A q) (hX : va_X b L xs s s.heap) (hbl : b < s.heap.size) (hbA : ¬ A b)
    {t o : Nat} {r : Nat → Nat} {S : SS} {o1 : Nat} {r1 : Nat → Nat} {T : SS} {t2 : Nat} {q : Nat → Nat} {M K : SS} {ob : Nat} {f : Nat → Int64} {G N i cells slots : Nat} {H : Heap} {locs : List Loc} {ls : Array Slot}
    (hI : Inv G N S M) (hi : i + 6 ≤ L) (hL : L ≤ 3072) (hcs : cells + 137 ≤ 601024 ∧ slots + 848 ≤ 7293034) (hP : va_P D vwCl (mw cI t2 q M K ++ (tw cI t o r S o1 r1 T ++ oc cL ob f)) H) (hD : va_D A (mw cI t2 q M K ++ (tw cI t o r S o1 r1 T ++ oc cL ob f))) (hS : va_S A s.heap H locs) (hl : lv_has ls 9 [(0, .ref b), (1, .ref t), (2, .ref t2), (3, .ref ob), (4, .int (nI i))])
    (kk : ∀ (G N : Nat) (S T M K : SS) (f : Nat → Int64) (H : Heap) (locs : List Loc) (ls : Array Slot), Inv G N S M → va_P D vwCl (mw cI t2 q M K ++ (tw cI t o r S o1 r1 T ++ oc cL ob f)) H → va_D A (mw cI t2 q M K ++ (tw cI t o r S o1 r1 T ++ oc cL ob f)) → va_S A s.heap H locs → lv_has ls 9 [(0, .ref b), (1, .ref t), (2, .ref t2), (3, .ref ob), (4, .int (nI i))] → W p l e room_1 s m args below meth c H locs (cells + 137) (slots + 848) Q (F0 m 1611 ls [])) : W p l e room_1 s m args below meth c H locs cells slots Q (F0 m 1108 ls []) := by
  have hxe := hC.1
  have hb := hC.2.1
  have hI' := hI
  obtain ⟨hN12, hG4, hSG, hSN, hMG, hMN, rel, -, -⟩ := hI'
  have hKi : va_K D vwCl [(cI, .int)] s := ⟨hK.1, fun k z hz => by
    cases k with
    | zero => exact hK.2 0 z hz
    | succ k => cases hz⟩
  have h1 : vp_in (nI i + 1) L := by
    rw [show nI i + 1 = nI (i + 1) from nI_add i 1]
    exact vp_in_nI (by omega) (by omega)
  refine lv_aload_n hxe hb dL_law_1108 rfl (lv_at hl 1 rfl) ?_
  refine lv_aload_n hxe hb dL_law_1109 rfl (lv_at hl 0 rfl) ?_
  refine lv_iload hxe hb dL_law_1110 (lv_at hl 4 rfl) ?_
  refine lv_iconst (v := 1) hxe hb dL_law_1112 (by decide) ?_
  refine lv_iadd hxe hb dL_law_1113 ?_
  refine va_sld hxe hb hX hbl hbA hS h1 dL_law_1114 ?_
  refine lv_aload_n hxe hb dL_law_1115 rfl (lv_at hl 3 rfl) ?_
  obtain ⟨x, hx⟩ : ∃ x : Option String, x = (xGoat S (xs (nI i + 1).toNatClampNeg)) := ⟨_, rfl⟩
  refine gl_callS hC 3 (wa := mw cI t2 q M K) (cw_seemingHorns l hl0 D cI t o r S o1 r1 T cL ob f (xs (nI i + 1).toNatClampNeg) N hSN hN12 x hx) gL_law_L_seemingHorns dL_law_1116 hTh hNc hK hP hD hS hA hl.1 rfl hd_L_seemingHorns ⟨Nat.le_of_ble_eq_true rfl, Nat.le_of_ble_eq_true rfl⟩ ⟨by show cells + 1 ≤ 601024; omega, by show slots + 6 ≤ 7293034; omega⟩ rfl rfl (Nat.le_of_ble_eq_true rfl) (fun H locs hP hD hS => ?_)
  refine lv_istore (lv' := (5, .int (xc gxIO gxIO x)) :: [(0, .ref b), (1, .ref t), (2, .ref t2), (3, .ref ob), (4, .int (nI i))]) hxe hb dL_law_1119 hl (by decide) rfl (fun ls hl => ?_)
  refine lv_aload_n hxe hb dL_law_1121 rfl (lv_at hl 3 rfl) ?_
  refine lv_aload_n hxe hb dL_law_1122 rfl (lv_at hl 1 rfl) ?_
  refine lv_iload hxe hb dL_law_1123 (lv_at hl 5 rfl) ?_
  refine lv_iconst (v := 1) hxe hb dL_law_1125 (by decide) ?_
  refine lv_iadd hxe hb dL_law_1126 ?_
  refine va_sld hxe hb hX hbl hbA hS h1 dL_law_1127 ?_
  refine gt_callV hC [] (tw cI t o r S o1 r1 T ++ oc cL ob (osel x f ((gxSeem S (xs (nI i + 1).toNatClampNeg).toNatClampNeg)))) 0 2 1 (ws' := mw cI t2 q (mM_seemingHorns M N G (xs (nI i + 1).toNatClampNeg)) K ++ (tw cI t o r S o1 r1 T ++ oc cL ob (osel x f ((gxSeem S (xs (nI i + 1).toNatClampNeg).toNatClampNeg))))) (ct_X2_seemingHorns l D cI t2 q M K (xs (nI i + 1).toNatClampNeg) N hMN hN12 G hMG hG4 (fun X g => mOpN_lt hN12 X g)) gL_law_X2_seemingHorns dL_law_1128 hKi hP hD hS hA hl.1 rfl hd_X2_seemingHorns ⟨Nat.le_of_ble_eq_true rfl, Nat.le_of_ble_eq_true rfl⟩ ⟨by show cells + 1 + 0 ≤ 601024; omega, by show slots + 6 + 0 ≤ 7293034; omega⟩ rfl rfl rfl rfl rfl rfl (Nat.le_of_ble_eq_true rfl) (fun H locs hP hD hS => ?_)
  refine gt_stk [.int (mR_seemingHorns M N G (xs (nI i + 1).toNatClampNeg))] rfl ?_
  refine lv_istore (lv' := (6, .int (mR_seemingHorns M N G (xs (nI i + 1).toNatClampNeg))) :: (5, .int (xc gxIO gxIO x)) :: [(0, .ref b), (1, .ref t), (2, .ref t2), (3, .ref ob), (4, .int (nI i))]) hxe hb dL_law_1131 hl (by decide) rfl (fun ls hl => ?_)
  refine lv_aload_n hxe hb dL_law_1133 rfl (lv_at hl 4 rfl) ?_
  refine gt_callV hC [] (tw cI t o r S o1 r1 T ++ oc cL ob (osel x f ((gxSeem S (xs (nI i + 1).toNatClampNeg).toNatClampNeg)))) 0 2 0 (ws' := mw cI t2 q (mM_seemingHorns M N G (xs (nI i + 1).toNatClampNeg)) K ++ (tw cI t o r S o1 r1 T ++ oc cL ob (osel x f ((gxSeem S (xs (nI i + 1).toNatClampNeg).toNatClampNeg))))) (ct_X2_thrown l D cI t2 q (mM_seemingHorns M N G (xs (nI i + 1).toNatClampNeg)) K) gL_law_X2_thrown dL_law_1134 hKi hP hD hS hA hl.1 rfl hd_X2_thrown ⟨Nat.le_of_ble_eq_true rfl, Nat.le_of_ble_eq_true rfl⟩ ⟨by show cells + 1 + 0 + 0 ≤ 601024; omega, by show slots + 6 + 0 + 0 ≤ 7293034; omega⟩ rfl rfl rfl rfl rfl rfl (Nat.le_of_ble_eq_true rfl) (fun H locs hP hD hS => ?_)
  have hop := op_seemingHorns hI (xs (nI i + 1).toNatClampNeg)
  rw [← hx] at hop
  obtain ⟨u1, u2, u3⟩ := hop
  refine gt_stk [.int ((mM_seemingHorns M N G (xs (nI i + 1).toNatClampNeg)) 12 0)] rfl ?_
  refine lv_iload hxe hb dL_law_1137 (lv_at hl 1 rfl) ?_
  refine lv_icmp_eq (tgt := 1144) hxe hb dL_law_1139 (by decide) (fun _ => ?_) (fun z => absurd u1 z)
  refine lv_iload hxe hb dL_law_1144 (lv_at hl 1 rfl) ?_
  refine lv_if_ne (tgt := 1161) hxe hb dL_law_1146 (by decide) (fun _ => ?_) (fun hz => ?_)
  · refine lv_goto (tgt := 1611) hxe hb dL_law_1161 (by decide) ?_
    exact W.widen (k := cells + 137) (n := slots + 848) (by omega) (by omega) (kk G N S T (mM_seemingHorns M N G (xs (nI i + 1).toNatClampNeg)) K (osel x f ((gxSeem S (xs (nI i + 1).toNatClampNeg).toNatClampNeg))) H locs ls u3 hP hD hS (lv_sub hl [2, 3, 4, 5, 6] rfl))
  · have hx0 := xc_0 hz
    refine lv_aload_n hxe hb dL_law_1149 rfl (lv_at hl 5 rfl) ?_
    refine lv_iconst (v := 0) hxe hb dL_law_1150 (by decide) ?_
    refine va_lald (f := (osel x f ((gxSeem S (xs (nI i + 1).toNatClampNeg).toNatClampNeg)))) (i := 0) (n := 1) (cA := cL) hxe hb hK hP (6 + 27) 1 rfl rfl (by unfold vp_in; decide) dL_law_1151 ?_
    refine lv_iload hxe hb dL_law_1152 (lv_at hl 0 rfl) ?_
    refine lv_i2l hxe hb dL_law_1154 rfl ?_
    refine W.lcmp hxe hb dL_law_1155 ?_
    have hv : (osel x f ((gxSeem S (xs (nI i + 1).toNatClampNeg).toNatClampNeg))) (0 : Int32).toNatClampNeg = Int32.toInt64 (mR_seemingHorns M N G (xs (nI i + 1).toNatClampNeg)) := by
      rw [u2 hx0, hx0, osel_n]
      rfl
    refine gt_stk [.int 0] (by rw [hv, lg_cmp_self]) ?_
    refine lv_if_eq (tgt := 1161) hxe hb dL_law_1156 (by decide) (fun _ => ?_) (fun z => absurd rfl z)
    refine lv_goto (tgt := 1611) hxe hb dL_law_1161 (by decide) ?_
    exact W.widen (k := cells + 137) (n := slots + 848) (by omega) (by omega) (kk G N S T (mM_seemingHorns M N G (xs (nI i + 1).toNatClampNeg)) K (osel x f ((gxSeem S (xs (nI i + 1).toNatClampNeg).toNatClampNeg))) H locs ls u3 hP hD hS (lv_sub hl [2, 3, 4, 5, 6] rfl))

set_option maxRecDepth 20000 in
theorem lc_minutesLeft {p : Program} {l : Launch} {e : Env} {s : State} {m : MethodId} {args : Array Value} {below : List Frame} {meth : Method} {c : Code} {Q : State → Prop} {D : va_G} {cI cL : ClassId} {A : Nat → Prop} {b L : Nat} {xs : Nat → Int32}
    (hl0 : l.stackTraces = false) (hC : CallFix p m c cL_law 9 s args wsL_law RL) (hTh : gTh A s s.heap) (hNc : gNc s) (hK : va_K D vwCl [(cI, .int), (cL, .long)] s) (hA : ∀ q, s.heap.size ≤ q → A q) (hX : va_X b L xs s s.heap) (hbl : b < s.heap.size) (hbA : ¬ A b)
    {t o : Nat} {r : Nat → Nat} {S : SS} {o1 : Nat} {r1 : Nat → Nat} {T : SS} {t2 : Nat} {q : Nat → Nat} {M K : SS} {ob : Nat} {f : Nat → Int64} {G N i cells slots : Nat} {H : Heap} {locs : List Loc} {ls : Array Slot}
    (hI : Inv G N S M) (hi : i + 6 ≤ L) (hL : L ≤ 3072) (hcs : cells + 137 ≤ 601024 ∧ slots + 848 ≤ 7293034) (hP : va_P D vwCl (mw cI t2 q M K ++ (tw cI t o r S o1 r1 T ++ oc cL ob f)) H) (hD : va_D A (mw cI t2 q M K ++ (tw cI t o r S o1 r1 T ++ oc cL ob f))) (hS : va_S A s.heap H locs) (hl : lv_has ls 9 [(0, .ref b), (1, .ref t), (2, .ref t2), (3, .ref ob), (4, .int (nI i))])
    (kk : ∀ (G N : Nat) (S T M K : SS) (f : Nat → Int64) (H : Heap) (locs : List Loc) (ls : Array Slot), Inv G N S M → va_P D vwCl (mw cI t2 q M K ++ (tw cI t o r S o1 r1 T ++ oc cL ob f)) H → va_D A (mw cI t2 q M K ++ (tw cI t o r S o1 r1 T ++ oc cL ob f)) → va_S A s.heap H locs → lv_has ls 9 [(0, .ref b), (1, .ref t), (2, .ref t2), (3, .ref ob), (4, .int (nI i))] → W p l e room_1 s m args below meth c H locs (cells + 137) (slots + 848) Q (F0 m 1611 ls [])) : W p l e room_1 s m args below meth c H locs cells slots Q (F0 m 1164 ls []) := by
  have hxe := hC.1
  have hb := hC.2.1
  have hI' := hI
  obtain ⟨hN12, hG4, hSG, hSN, hMG, hMN, rel, -, -⟩ := hI'
  have hKi : va_K D vwCl [(cI, .int)] s := ⟨hK.1, fun k z hz => by
    cases k with
    | zero => exact hK.2 0 z hz
    | succ k => cases hz⟩
  have h1 : vp_in (nI i + 1) L := by
    rw [show nI i + 1 = nI (i + 1) from nI_add i 1]
    exact vp_in_nI (by omega) (by omega)
  refine lv_aload_n hxe hb dL_law_1164 rfl (lv_at hl 1 rfl) ?_
  refine lv_aload_n hxe hb dL_law_1165 rfl (lv_at hl 0 rfl) ?_
  refine lv_iload hxe hb dL_law_1166 (lv_at hl 4 rfl) ?_
  refine lv_iconst (v := 1) hxe hb dL_law_1168 (by decide) ?_
  refine lv_iadd hxe hb dL_law_1169 ?_
  refine va_sld hxe hb hX hbl hbA hS h1 dL_law_1170 ?_
  refine lv_aload_n hxe hb dL_law_1171 rfl (lv_at hl 3 rfl) ?_
  obtain ⟨x, hx⟩ : ∃ x : Option String, x = (xGoat S (xs (nI i + 1).toNatClampNeg)) := ⟨_, rfl⟩
  refine gl_callS hC 3 (wa := mw cI t2 q M K) (cw_minutesLeft l hl0 D cI t o r S o1 r1 T cL ob f (xs (nI i + 1).toNatClampNeg) N hSN hN12 x hx) gL_law_L_minutesLeft dL_law_1172 hTh hNc hK hP hD hS hA hl.1 rfl hd_L_minutesLeft ⟨Nat.le_of_ble_eq_true rfl, Nat.le_of_ble_eq_true rfl⟩ ⟨by show cells + 1 ≤ 601024; omega, by show slots + 6 ≤ 7293034; omega⟩ rfl rfl (Nat.le_of_ble_eq_true rfl) (fun H locs hP hD hS => ?_)
  refine lv_istore (lv' := (5, .int (xc gxIO gxIO x)) :: [(0, .ref b), (1, .ref t), (2, .ref t2), (3, .ref ob), (4, .int (nI i))]) hxe hb dL_law_1175 hl (by decide) rfl (fun ls hl => ?_)
  refine lv_aload_n hxe hb dL_law_1177 rfl (lv_at hl 3 rfl) ?_
  refine lv_aload_n hxe hb dL_law_1178 rfl (lv_at hl 1 rfl) ?_
  refine lv_iload hxe hb dL_law_1179 (lv_at hl 5 rfl) ?_
  refine lv_iconst (v := 1) hxe hb dL_law_1181 (by decide) ?_
  refine lv_iadd hxe hb dL_law_1182 ?_
  refine va_sld hxe hb hX hbl hbA hS h1 dL_law_1183 ?_
  refine gt_callV hC [] (tw cI t o r S o1 r1 T ++ oc cL ob (osel x f ((S 13 (xs (nI i + 1).toNatClampNeg).toNatClampNeg)))) 0 2 1 (ws' := mw cI t2 q (mM_minutesLeft M N G (xs (nI i + 1).toNatClampNeg)) K ++ (tw cI t o r S o1 r1 T ++ oc cL ob (osel x f ((S 13 (xs (nI i + 1).toNatClampNeg).toNatClampNeg))))) (ct_X2_minutesLeft l D cI t2 q M K (xs (nI i + 1).toNatClampNeg) N hMN hN12 G hMG hG4 (fun X g => mOpN_lt hN12 X g)) gL_law_X2_minutesLeft dL_law_1184 hKi hP hD hS hA hl.1 rfl hd_X2_minutesLeft ⟨Nat.le_of_ble_eq_true rfl, Nat.le_of_ble_eq_true rfl⟩ ⟨by show cells + 1 + 0 ≤ 601024; omega, by show slots + 6 + 0 ≤ 7293034; omega⟩ rfl rfl rfl rfl rfl rfl (Nat.le_of_ble_eq_true rfl) (fun H locs hP hD hS => ?_)
  refine gt_stk [.int (mR_minutesLeft M N G (xs (nI i + 1).toNatClampNeg))] rfl ?_
  refine lv_istore (lv' := (6, .int (mR_minutesLeft M N G (xs (nI i + 1).toNatClampNeg))) :: (5, .int (xc gxIO gxIO x)) :: [(0, .ref b), (1, .ref t), (2, .ref t2), (3, .ref ob), (4, .int (nI i))]) hxe hb dL_law_1187 hl (by decide) rfl (fun ls hl => ?_)
  refine lv_aload_n hxe hb dL_law_1189 rfl (lv_at hl 4 rfl) ?_
  refine gt_callV hC [] (tw cI t o r S o1 r1 T ++ oc cL ob (osel x f ((S 13 (xs (nI i + 1).toNatClampNeg).toNatClampNeg)))) 0 2 0 (ws' := mw cI t2 q (mM_minutesLeft M N G (xs (nI i + 1).toNatClampNeg)) K ++ (tw cI t o r S o1 r1 T ++ oc cL ob (osel x f ((S 13 (xs (nI i + 1).toNatClampNeg).toNatClampNeg))))) (ct_X2_thrown l D cI t2 q (mM_minutesLeft M N G (xs (nI i + 1).toNatClampNeg)) K) gL_law_X2_thrown dL_law_1190 hKi hP hD hS hA hl.1 rfl hd_X2_thrown ⟨Nat.le_of_ble_eq_true rfl, Nat.le_of_ble_eq_true rfl⟩ ⟨by show cells + 1 + 0 + 0 ≤ 601024; omega, by show slots + 6 + 0 + 0 ≤ 7293034; omega⟩ rfl rfl rfl rfl rfl rfl (Nat.le_of_ble_eq_true rfl) (fun H locs hP hD hS => ?_)
  have hop := op_minutesLeft hI (xs (nI i + 1).toNatClampNeg)
  rw [← hx] at hop
  obtain ⟨u1, u2, u3⟩ := hop
  refine gt_stk [.int ((mM_minutesLeft M N G (xs (nI i + 1).toNatClampNeg)) 12 0)] rfl ?_
  refine lv_iload hxe hb dL_law_1193 (lv_at hl 1 rfl) ?_
  refine lv_icmp_eq (tgt := 1200) hxe hb dL_law_1195 (by decide) (fun _ => ?_) (fun z => absurd u1 z)
  refine lv_iload hxe hb dL_law_1200 (lv_at hl 1 rfl) ?_
  refine lv_if_ne (tgt := 1217) hxe hb dL_law_1202 (by decide) (fun _ => ?_) (fun hz => ?_)
  · refine lv_goto (tgt := 1611) hxe hb dL_law_1217 (by decide) ?_
    exact W.widen (k := cells + 137) (n := slots + 848) (by omega) (by omega) (kk G N S T (mM_minutesLeft M N G (xs (nI i + 1).toNatClampNeg)) K (osel x f ((S 13 (xs (nI i + 1).toNatClampNeg).toNatClampNeg))) H locs ls u3 hP hD hS (lv_sub hl [2, 3, 4, 5, 6] rfl))
  · have hx0 := xc_0 hz
    refine lv_aload_n hxe hb dL_law_1205 rfl (lv_at hl 5 rfl) ?_
    refine lv_iconst (v := 0) hxe hb dL_law_1206 (by decide) ?_
    refine va_lald (f := (osel x f ((S 13 (xs (nI i + 1).toNatClampNeg).toNatClampNeg)))) (i := 0) (n := 1) (cA := cL) hxe hb hK hP (6 + 27) 1 rfl rfl (by unfold vp_in; decide) dL_law_1207 ?_
    refine lv_iload hxe hb dL_law_1208 (lv_at hl 0 rfl) ?_
    refine lv_i2l hxe hb dL_law_1210 rfl ?_
    refine W.lcmp hxe hb dL_law_1211 ?_
    have hv : (osel x f ((S 13 (xs (nI i + 1).toNatClampNeg).toNatClampNeg))) (0 : Int32).toNatClampNeg = Int32.toInt64 (mR_minutesLeft M N G (xs (nI i + 1).toNatClampNeg)) := by
      rw [u2 hx0, hx0, osel_n]
      rfl
    refine gt_stk [.int 0] (by rw [hv, lg_cmp_self]) ?_
    refine lv_if_eq (tgt := 1217) hxe hb dL_law_1212 (by decide) (fun _ => ?_) (fun z => absurd rfl z)
    refine lv_goto (tgt := 1611) hxe hb dL_law_1217 (by decide) ?_
    exact W.widen (k := cells + 137) (n := slots + 848) (by omega) (by omega) (kk G N S T (mM_minutesLeft M N G (xs (nI i + 1).toNatClampNeg)) K (osel x f ((S 13 (xs (nI i + 1).toNatClampNeg).toNatClampNeg))) H locs ls u3 hP hD hS (lv_sub hl [2, 3, 4, 5, 6] rfl))

set_option maxRecDepth 20000 in
theorem lc_waitedOf {p : Program} {l : Launch} {e : Env} {s : State} {m : MethodId} {args : Array Value} {below : List Frame} {meth : Method} {c : Code} {Q : State → Prop} {D : va_G} {cI cL : ClassId} {A : Nat → Prop} {b L : Nat} {xs : Nat → Int32}
    (hl0 : l.stackTraces = false) (hC : CallFix p m c cL_law 9 s args wsL_law RL) (hTh : gTh A s s.heap) (hNc : gNc s) (hK : va_K D vwCl [(cI, .int), (cL, .long)] s) (hA : ∀ q, s.heap.size ≤ q → A q) (hX : va_X b L xs s s.heap) (hbl : b < s.heap.size) (hbA : ¬ A b)
    {t o : Nat} {r : Nat → Nat} {S : SS} {o1 : Nat} {r1 : Nat → Nat} {T : SS} {t2 : Nat} {q : Nat → Nat} {M K : SS} {ob : Nat} {f : Nat → Int64} {G N i cells slots : Nat} {H : Heap} {locs : List Loc} {ls : Array Slot}
    (hI : Inv G N S M) (hi : i + 6 ≤ L) (hL : L ≤ 3072) (hcs : cells + 137 ≤ 601024 ∧ slots + 848 ≤ 7293034) (hP : va_P D vwCl (mw cI t2 q M K ++ (tw cI t o r S o1 r1 T ++ oc cL ob f)) H) (hD : va_D A (mw cI t2 q M K ++ (tw cI t o r S o1 r1 T ++ oc cL ob f))) (hS : va_S A s.heap H locs) (hl : lv_has ls 9 [(0, .ref b), (1, .ref t), (2, .ref t2), (3, .ref ob), (4, .int (nI i))])
    (kk : ∀ (G N : Nat) (S T M K : SS) (f : Nat → Int64) (H : Heap) (locs : List Loc) (ls : Array Slot), Inv G N S M → va_P D vwCl (mw cI t2 q M K ++ (tw cI t o r S o1 r1 T ++ oc cL ob f)) H → va_D A (mw cI t2 q M K ++ (tw cI t o r S o1 r1 T ++ oc cL ob f)) → va_S A s.heap H locs → lv_has ls 9 [(0, .ref b), (1, .ref t), (2, .ref t2), (3, .ref ob), (4, .int (nI i))] → W p l e room_1 s m args below meth c H locs (cells + 137) (slots + 848) Q (F0 m 1611 ls [])) : W p l e room_1 s m args below meth c H locs cells slots Q (F0 m 1220 ls []) := by
  have hxe := hC.1
  have hb := hC.2.1
  have hI' := hI
  obtain ⟨hN12, hG4, hSG, hSN, hMG, hMN, rel, -, -⟩ := hI'
  have hKi : va_K D vwCl [(cI, .int)] s := ⟨hK.1, fun k z hz => by
    cases k with
    | zero => exact hK.2 0 z hz
    | succ k => cases hz⟩
  have h1 : vp_in (nI i + 1) L := by
    rw [show nI i + 1 = nI (i + 1) from nI_add i 1]
    exact vp_in_nI (by omega) (by omega)
  refine lv_aload_n hxe hb dL_law_1220 rfl (lv_at hl 1 rfl) ?_
  refine lv_aload_n hxe hb dL_law_1221 rfl (lv_at hl 0 rfl) ?_
  refine lv_iload hxe hb dL_law_1222 (lv_at hl 4 rfl) ?_
  refine lv_iconst (v := 1) hxe hb dL_law_1224 (by decide) ?_
  refine lv_iadd hxe hb dL_law_1225 ?_
  refine va_sld hxe hb hX hbl hbA hS h1 dL_law_1226 ?_
  refine lv_aload_n hxe hb dL_law_1227 rfl (lv_at hl 3 rfl) ?_
  obtain ⟨x, hx⟩ : ∃ x : Option String, x = (xGoat S (xs (nI i + 1).toNatClampNeg)) := ⟨_, rfl⟩
  refine gl_callS hC 3 (wa := mw cI t2 q M K) (cw_waitedOf l hl0 D cI t o r S o1 r1 T cL ob f (xs (nI i + 1).toNatClampNeg) N hSN hN12 x hx) gL_law_L_waitedOf dL_law_1228 hTh hNc hK hP hD hS hA hl.1 rfl hd_L_waitedOf ⟨Nat.le_of_ble_eq_true rfl, Nat.le_of_ble_eq_true rfl⟩ ⟨by show cells + 1 ≤ 601024; omega, by show slots + 6 ≤ 7293034; omega⟩ rfl rfl (Nat.le_of_ble_eq_true rfl) (fun H locs hP hD hS => ?_)
  refine lv_istore (lv' := (5, .int (xc gxIO gxIO x)) :: [(0, .ref b), (1, .ref t), (2, .ref t2), (3, .ref ob), (4, .int (nI i))]) hxe hb dL_law_1231 hl (by decide) rfl (fun ls hl => ?_)
  refine lv_aload_n hxe hb dL_law_1233 rfl (lv_at hl 3 rfl) ?_
  refine lv_aload_n hxe hb dL_law_1234 rfl (lv_at hl 1 rfl) ?_
  refine lv_iload hxe hb dL_law_1235 (lv_at hl 5 rfl) ?_
  refine lv_iconst (v := 1) hxe hb dL_law_1237 (by decide) ?_
  refine lv_iadd hxe hb dL_law_1238 ?_
  refine va_sld hxe hb hX hbl hbA hS h1 dL_law_1239 ?_
  refine gt_callV hC [] (tw cI t o r S o1 r1 T ++ oc cL ob (osel x f ((S 16 (xs (nI i + 1).toNatClampNeg).toNatClampNeg)))) 0 2 1 (ws' := mw cI t2 q (mM_waitedOf M N G (xs (nI i + 1).toNatClampNeg)) K ++ (tw cI t o r S o1 r1 T ++ oc cL ob (osel x f ((S 16 (xs (nI i + 1).toNatClampNeg).toNatClampNeg))))) (ct_X2_waitedOf l D cI t2 q M K (xs (nI i + 1).toNatClampNeg) N hMN hN12 G hMG hG4 (fun X g => mOpN_lt hN12 X g)) gL_law_X2_waitedOf dL_law_1240 hKi hP hD hS hA hl.1 rfl hd_X2_waitedOf ⟨Nat.le_of_ble_eq_true rfl, Nat.le_of_ble_eq_true rfl⟩ ⟨by show cells + 1 + 0 ≤ 601024; omega, by show slots + 6 + 0 ≤ 7293034; omega⟩ rfl rfl rfl rfl rfl rfl (Nat.le_of_ble_eq_true rfl) (fun H locs hP hD hS => ?_)
  refine gt_stk [.int (mR_waitedOf M N G (xs (nI i + 1).toNatClampNeg))] rfl ?_
  refine lv_istore (lv' := (6, .int (mR_waitedOf M N G (xs (nI i + 1).toNatClampNeg))) :: (5, .int (xc gxIO gxIO x)) :: [(0, .ref b), (1, .ref t), (2, .ref t2), (3, .ref ob), (4, .int (nI i))]) hxe hb dL_law_1243 hl (by decide) rfl (fun ls hl => ?_)
  refine lv_aload_n hxe hb dL_law_1245 rfl (lv_at hl 4 rfl) ?_
  refine gt_callV hC [] (tw cI t o r S o1 r1 T ++ oc cL ob (osel x f ((S 16 (xs (nI i + 1).toNatClampNeg).toNatClampNeg)))) 0 2 0 (ws' := mw cI t2 q (mM_waitedOf M N G (xs (nI i + 1).toNatClampNeg)) K ++ (tw cI t o r S o1 r1 T ++ oc cL ob (osel x f ((S 16 (xs (nI i + 1).toNatClampNeg).toNatClampNeg))))) (ct_X2_thrown l D cI t2 q (mM_waitedOf M N G (xs (nI i + 1).toNatClampNeg)) K) gL_law_X2_thrown dL_law_1246 hKi hP hD hS hA hl.1 rfl hd_X2_thrown ⟨Nat.le_of_ble_eq_true rfl, Nat.le_of_ble_eq_true rfl⟩ ⟨by show cells + 1 + 0 + 0 ≤ 601024; omega, by show slots + 6 + 0 + 0 ≤ 7293034; omega⟩ rfl rfl rfl rfl rfl rfl (Nat.le_of_ble_eq_true rfl) (fun H locs hP hD hS => ?_)
  have hop := op_waitedOf hI (xs (nI i + 1).toNatClampNeg)
  rw [← hx] at hop
  obtain ⟨u1, u2, u3⟩ := hop
  refine gt_stk [.int ((mM_waitedOf M N G (xs (nI i + 1).toNatClampNeg)) 12 0)] rfl ?_
  refine lv_iload hxe hb dL_law_1249 (lv_at hl 1 rfl) ?_
  refine lv_icmp_eq (tgt := 1256) hxe hb dL_law_1251 (by decide) (fun _ => ?_) (fun z => absurd u1 z)
  refine lv_iload hxe hb dL_law_1256 (lv_at hl 1 rfl) ?_
  refine lv_if_ne (tgt := 1273) hxe hb dL_law_1258 (by decide) (fun _ => ?_) (fun hz => ?_)
  · refine lv_goto (tgt := 1611) hxe hb dL_law_1273 (by decide) ?_
    exact W.widen (k := cells + 137) (n := slots + 848) (by omega) (by omega) (kk G N S T (mM_waitedOf M N G (xs (nI i + 1).toNatClampNeg)) K (osel x f ((S 16 (xs (nI i + 1).toNatClampNeg).toNatClampNeg))) H locs ls u3 hP hD hS (lv_sub hl [2, 3, 4, 5, 6] rfl))
  · have hx0 := xc_0 hz
    refine lv_aload_n hxe hb dL_law_1261 rfl (lv_at hl 5 rfl) ?_
    refine lv_iconst (v := 0) hxe hb dL_law_1262 (by decide) ?_
    refine va_lald (f := (osel x f ((S 16 (xs (nI i + 1).toNatClampNeg).toNatClampNeg)))) (i := 0) (n := 1) (cA := cL) hxe hb hK hP (6 + 27) 1 rfl rfl (by unfold vp_in; decide) dL_law_1263 ?_
    refine lv_iload hxe hb dL_law_1264 (lv_at hl 0 rfl) ?_
    refine lv_i2l hxe hb dL_law_1266 rfl ?_
    refine W.lcmp hxe hb dL_law_1267 ?_
    have hv : (osel x f ((S 16 (xs (nI i + 1).toNatClampNeg).toNatClampNeg))) (0 : Int32).toNatClampNeg = Int32.toInt64 (mR_waitedOf M N G (xs (nI i + 1).toNatClampNeg)) := by
      rw [u2 hx0, hx0, osel_n]
      rfl
    refine gt_stk [.int 0] (by rw [hv, lg_cmp_self]) ?_
    refine lv_if_eq (tgt := 1273) hxe hb dL_law_1268 (by decide) (fun _ => ?_) (fun z => absurd rfl z)
    refine lv_goto (tgt := 1611) hxe hb dL_law_1273 (by decide) ?_
    exact W.widen (k := cells + 137) (n := slots + 848) (by omega) (by omega) (kk G N S T (mM_waitedOf M N G (xs (nI i + 1).toNatClampNeg)) K (osel x f ((S 16 (xs (nI i + 1).toNatClampNeg).toNatClampNeg))) H locs ls u3 hP hD hS (lv_sub hl [2, 3, 4, 5, 6] rfl))

set_option maxRecDepth 20000 in
theorem lc_placeInLine {p : Program} {l : Launch} {e : Env} {s : State} {m : MethodId} {args : Array Value} {below : List Frame} {meth : Method} {c : Code} {Q : State → Prop} {D : va_G} {cI cL : ClassId} {A : Nat → Prop} {b L : Nat} {xs : Nat → Int32}
    (hl0 : l.stackTraces = false) (hC : CallFix p m c cL_law 9 s args wsL_law RL) (hTh : gTh A s s.heap) (hNc : gNc s) (hK : va_K D vwCl [(cI, .int), (cL, .long)] s) (hA : ∀ q, s.heap.size ≤ q → A q) (hX : va_X b L xs s s.heap) (hbl : b < s.heap.size) (hbA : ¬ A b)
    {t o : Nat} {r : Nat → Nat} {S : SS} {o1 : Nat} {r1 : Nat → Nat} {T : SS} {t2 : Nat} {q : Nat → Nat} {M K : SS} {ob : Nat} {f : Nat → Int64} {G N i cells slots : Nat} {H : Heap} {locs : List Loc} {ls : Array Slot}
    (hI : Inv G N S M) (hi : i + 6 ≤ L) (hL : L ≤ 3072) (hcs : cells + 137 ≤ 601024 ∧ slots + 848 ≤ 7293034) (hP : va_P D vwCl (mw cI t2 q M K ++ (tw cI t o r S o1 r1 T ++ oc cL ob f)) H) (hD : va_D A (mw cI t2 q M K ++ (tw cI t o r S o1 r1 T ++ oc cL ob f))) (hS : va_S A s.heap H locs) (hl : lv_has ls 9 [(0, .ref b), (1, .ref t), (2, .ref t2), (3, .ref ob), (4, .int (nI i))])
    (kk : ∀ (G N : Nat) (S T M K : SS) (f : Nat → Int64) (H : Heap) (locs : List Loc) (ls : Array Slot), Inv G N S M → va_P D vwCl (mw cI t2 q M K ++ (tw cI t o r S o1 r1 T ++ oc cL ob f)) H → va_D A (mw cI t2 q M K ++ (tw cI t o r S o1 r1 T ++ oc cL ob f)) → va_S A s.heap H locs → lv_has ls 9 [(0, .ref b), (1, .ref t), (2, .ref t2), (3, .ref ob), (4, .int (nI i))] → W p l e room_1 s m args below meth c H locs (cells + 137) (slots + 848) Q (F0 m 1611 ls [])) : W p l e room_1 s m args below meth c H locs cells slots Q (F0 m 1276 ls []) := by
  have hxe := hC.1
  have hb := hC.2.1
  have hI' := hI
  obtain ⟨hN12, hG4, hSG, hSN, hMG, hMN, rel, -, -⟩ := hI'
  have hKi : va_K D vwCl [(cI, .int)] s := ⟨hK.1, fun k z hz => by
    cases k with
    | zero => exact hK.2 0 z hz
    | succ k => cases hz⟩
  have h1 : vp_in (nI i + 1) L := by
    rw [show nI i + 1 = nI (i + 1) from nI_add i 1]
    exact vp_in_nI (by omega) (by omega)
  refine lv_aload_n hxe hb dL_law_1276 rfl (lv_at hl 1 rfl) ?_
  refine lv_aload_n hxe hb dL_law_1277 rfl (lv_at hl 0 rfl) ?_
  refine lv_iload hxe hb dL_law_1278 (lv_at hl 4 rfl) ?_
  refine lv_iconst (v := 1) hxe hb dL_law_1280 (by decide) ?_
  refine lv_iadd hxe hb dL_law_1281 ?_
  refine va_sld hxe hb hX hbl hbA hS h1 dL_law_1282 ?_
  refine lv_aload_n hxe hb dL_law_1283 rfl (lv_at hl 3 rfl) ?_
  obtain ⟨x, hx⟩ : ∃ x : Option String, x = (xGoat S (xs (nI i + 1).toNatClampNeg)) := ⟨_, rfl⟩
  refine gl_callS hC 3 (wa := mw cI t2 q M K) (cw_placeInLine l hl0 D cI t o r S o1 r1 T cL ob f (xs (nI i + 1).toNatClampNeg) N hSN hN12 x hx) gL_law_L_placeInLine dL_law_1284 hTh hNc hK hP hD hS hA hl.1 rfl hd_L_placeInLine ⟨Nat.le_of_ble_eq_true rfl, Nat.le_of_ble_eq_true rfl⟩ ⟨by show cells + 1 ≤ 601024; omega, by show slots + 6 ≤ 7293034; omega⟩ rfl rfl (Nat.le_of_ble_eq_true rfl) (fun H locs hP hD hS => ?_)
  refine lv_istore (lv' := (5, .int (xc gxIO gxIO x)) :: [(0, .ref b), (1, .ref t), (2, .ref t2), (3, .ref ob), (4, .int (nI i))]) hxe hb dL_law_1287 hl (by decide) rfl (fun ls hl => ?_)
  refine lv_aload_n hxe hb dL_law_1289 rfl (lv_at hl 3 rfl) ?_
  refine lv_aload_n hxe hb dL_law_1290 rfl (lv_at hl 1 rfl) ?_
  refine lv_iload hxe hb dL_law_1291 (lv_at hl 5 rfl) ?_
  refine lv_iconst (v := 1) hxe hb dL_law_1293 (by decide) ?_
  refine lv_iadd hxe hb dL_law_1294 ?_
  refine va_sld hxe hb hX hbl hbA hS h1 dL_law_1295 ?_
  refine gt_callV hC [] (tw cI t o r S o1 r1 T ++ oc cL ob (osel x f ((gxPl S N (xs (nI i + 1).toNatClampNeg).toNatClampNeg)))) 0 2 1 (ws' := mw cI t2 q (mM_placeInLine M N G (xs (nI i + 1).toNatClampNeg)) K ++ (tw cI t o r S o1 r1 T ++ oc cL ob (osel x f ((gxPl S N (xs (nI i + 1).toNatClampNeg).toNatClampNeg))))) (ct_X2_placeInLine l D cI t2 q M K (xs (nI i + 1).toNatClampNeg) N hMN hN12 G hMG hG4 (fun X g => mOpN_lt hN12 X g)) gL_law_X2_placeInLine dL_law_1296 hKi hP hD hS hA hl.1 rfl hd_X2_placeInLine ⟨Nat.le_of_ble_eq_true rfl, Nat.le_of_ble_eq_true rfl⟩ ⟨by show cells + 1 + 0 ≤ 601024; omega, by show slots + 6 + 0 ≤ 7293034; omega⟩ rfl rfl rfl rfl rfl rfl (Nat.le_of_ble_eq_true rfl) (fun H locs hP hD hS => ?_)
  refine gt_stk [.int (mR_placeInLine M N G (xs (nI i + 1).toNatClampNeg))] rfl ?_
  refine lv_istore (lv' := (6, .int (mR_placeInLine M N G (xs (nI i + 1).toNatClampNeg))) :: (5, .int (xc gxIO gxIO x)) :: [(0, .ref b), (1, .ref t), (2, .ref t2), (3, .ref ob), (4, .int (nI i))]) hxe hb dL_law_1299 hl (by decide) rfl (fun ls hl => ?_)
  refine lv_aload_n hxe hb dL_law_1301 rfl (lv_at hl 4 rfl) ?_
  refine gt_callV hC [] (tw cI t o r S o1 r1 T ++ oc cL ob (osel x f ((gxPl S N (xs (nI i + 1).toNatClampNeg).toNatClampNeg)))) 0 2 0 (ws' := mw cI t2 q (mM_placeInLine M N G (xs (nI i + 1).toNatClampNeg)) K ++ (tw cI t o r S o1 r1 T ++ oc cL ob (osel x f ((gxPl S N (xs (nI i + 1).toNatClampNeg).toNatClampNeg))))) (ct_X2_thrown l D cI t2 q (mM_placeInLine M N G (xs (nI i + 1).toNatClampNeg)) K) gL_law_X2_thrown dL_law_1302 hKi hP hD hS hA hl.1 rfl hd_X2_thrown ⟨Nat.le_of_ble_eq_true rfl, Nat.le_of_ble_eq_true rfl⟩ ⟨by show cells + 1 + 0 + 0 ≤ 601024; omega, by show slots + 6 + 0 + 0 ≤ 7293034; omega⟩ rfl rfl rfl rfl rfl rfl (Nat.le_of_ble_eq_true rfl) (fun H locs hP hD hS => ?_)
  have hop := op_placeInLine hI (xs (nI i + 1).toNatClampNeg)
  rw [← hx] at hop
  obtain ⟨u1, u2, u3⟩ := hop
  refine gt_stk [.int ((mM_placeInLine M N G (xs (nI i + 1).toNatClampNeg)) 12 0)] rfl ?_
  refine lv_iload hxe hb dL_law_1305 (lv_at hl 1 rfl) ?_
  refine lv_icmp_eq (tgt := 1312) hxe hb dL_law_1307 (by decide) (fun _ => ?_) (fun z => absurd u1 z)
  refine lv_iload hxe hb dL_law_1312 (lv_at hl 1 rfl) ?_
  refine lv_if_ne (tgt := 1329) hxe hb dL_law_1314 (by decide) (fun _ => ?_) (fun hz => ?_)
  · refine lv_goto (tgt := 1611) hxe hb dL_law_1329 (by decide) ?_
    exact W.widen (k := cells + 137) (n := slots + 848) (by omega) (by omega) (kk G N S T (mM_placeInLine M N G (xs (nI i + 1).toNatClampNeg)) K (osel x f ((gxPl S N (xs (nI i + 1).toNatClampNeg).toNatClampNeg))) H locs ls u3 hP hD hS (lv_sub hl [2, 3, 4, 5, 6] rfl))
  · have hx0 := xc_0 hz
    refine lv_aload_n hxe hb dL_law_1317 rfl (lv_at hl 5 rfl) ?_
    refine lv_iconst (v := 0) hxe hb dL_law_1318 (by decide) ?_
    refine va_lald (f := (osel x f ((gxPl S N (xs (nI i + 1).toNatClampNeg).toNatClampNeg)))) (i := 0) (n := 1) (cA := cL) hxe hb hK hP (6 + 27) 1 rfl rfl (by unfold vp_in; decide) dL_law_1319 ?_
    refine lv_iload hxe hb dL_law_1320 (lv_at hl 0 rfl) ?_
    refine lv_i2l hxe hb dL_law_1322 rfl ?_
    refine W.lcmp hxe hb dL_law_1323 ?_
    have hv : (osel x f ((gxPl S N (xs (nI i + 1).toNatClampNeg).toNatClampNeg))) (0 : Int32).toNatClampNeg = Int32.toInt64 (mR_placeInLine M N G (xs (nI i + 1).toNatClampNeg)) := by
      rw [u2 hx0, hx0, osel_n]
      rfl
    refine gt_stk [.int 0] (by rw [hv, lg_cmp_self]) ?_
    refine lv_if_eq (tgt := 1329) hxe hb dL_law_1324 (by decide) (fun _ => ?_) (fun z => absurd rfl z)
    refine lv_goto (tgt := 1611) hxe hb dL_law_1329 (by decide) ?_
    exact W.widen (k := cells + 137) (n := slots + 848) (by omega) (by omega) (kk G N S T (mM_placeInLine M N G (xs (nI i + 1).toNatClampNeg)) K (osel x f ((gxPl S N (xs (nI i + 1).toNatClampNeg).toNatClampNeg))) H locs ls u3 hP hD hS (lv_sub hl [2, 3, 4, 5, 6] rfl))

set_option maxRecDepth 20000 in
theorem lc_minutesUntilIn {p : Program} {l : Launch} {e : Env} {s : State} {m : MethodId} {args : Array Value} {below : List Frame} {meth : Method} {c : Code} {Q : State → Prop} {D : va_G} {cI cL : ClassId} {A : Nat → Prop} {b L : Nat} {xs : Nat → Int32}
    (hl0 : l.stackTraces = false) (hC : CallFix p m c cL_law 9 s args wsL_law RL) (hTh : gTh A s s.heap) (hNc : gNc s) (hK : va_K D vwCl [(cI, .int), (cL, .long)] s) (hA : ∀ q, s.heap.size ≤ q → A q) (hX : va_X b L xs s s.heap) (hbl : b < s.heap.size) (hbA : ¬ A b)
    {t o : Nat} {r : Nat → Nat} {S : SS} {o1 : Nat} {r1 : Nat → Nat} {T : SS} {t2 : Nat} {q : Nat → Nat} {M K : SS} {ob : Nat} {f : Nat → Int64} {G N i cells slots : Nat} {H : Heap} {locs : List Loc} {ls : Array Slot}
    (hI : Inv G N S M) (hi : i + 6 ≤ L) (hL : L ≤ 3072) (hcs : cells + 137 ≤ 601024 ∧ slots + 848 ≤ 7293034) (hP : va_P D vwCl (mw cI t2 q M K ++ (tw cI t o r S o1 r1 T ++ oc cL ob f)) H) (hD : va_D A (mw cI t2 q M K ++ (tw cI t o r S o1 r1 T ++ oc cL ob f))) (hS : va_S A s.heap H locs) (hl : lv_has ls 9 [(0, .ref b), (1, .ref t), (2, .ref t2), (3, .ref ob), (4, .int (nI i))])
    (kk : ∀ (G N : Nat) (S T M K : SS) (f : Nat → Int64) (H : Heap) (locs : List Loc) (ls : Array Slot), Inv G N S M → va_P D vwCl (mw cI t2 q M K ++ (tw cI t o r S o1 r1 T ++ oc cL ob f)) H → va_D A (mw cI t2 q M K ++ (tw cI t o r S o1 r1 T ++ oc cL ob f)) → va_S A s.heap H locs → lv_has ls 9 [(0, .ref b), (1, .ref t), (2, .ref t2), (3, .ref ob), (4, .int (nI i))] → W p l e room_1 s m args below meth c H locs (cells + 137) (slots + 848) Q (F0 m 1611 ls [])) : W p l e room_1 s m args below meth c H locs cells slots Q (F0 m 1332 ls []) := by
  have hxe := hC.1
  have hb := hC.2.1
  have hI' := hI
  obtain ⟨hN12, hG4, hSG, hSN, hMG, hMN, rel, -, -⟩ := hI'
  have hKi : va_K D vwCl [(cI, .int)] s := ⟨hK.1, fun k z hz => by
    cases k with
    | zero => exact hK.2 0 z hz
    | succ k => cases hz⟩
  have h1 : vp_in (nI i + 1) L := by
    rw [show nI i + 1 = nI (i + 1) from nI_add i 1]
    exact vp_in_nI (by omega) (by omega)
  refine lv_aload_n hxe hb dL_law_1332 rfl (lv_at hl 1 rfl) ?_
  refine lv_aload_n hxe hb dL_law_1333 rfl (lv_at hl 0 rfl) ?_
  refine lv_iload hxe hb dL_law_1334 (lv_at hl 4 rfl) ?_
  refine lv_iconst (v := 1) hxe hb dL_law_1336 (by decide) ?_
  refine lv_iadd hxe hb dL_law_1337 ?_
  refine va_sld hxe hb hX hbl hbA hS h1 dL_law_1338 ?_
  refine lv_aload_n hxe hb dL_law_1339 rfl (lv_at hl 3 rfl) ?_
  obtain ⟨x, hx⟩ : ∃ x : Option String, x = (xGoat S (xs (nI i + 1).toNatClampNeg)) := ⟨_, rfl⟩
  refine gl_callS hC 3 (wa := mw cI t2 q M K) (cw_minutesUntilIn l hl0 D cI t o r S o1 r1 T cL ob f (xs (nI i + 1).toNatClampNeg) N hSN hN12 G hSG hG4 x hx) gL_law_L_minutesUntilIn dL_law_1340 hTh hNc hK hP hD hS hA hl.1 rfl hd_L_minutesUntilIn ⟨Nat.le_of_ble_eq_true rfl, Nat.le_of_ble_eq_true rfl⟩ ⟨by show cells + 1 ≤ 601024; omega, by show slots + 6 ≤ 7293034; omega⟩ rfl rfl (Nat.le_of_ble_eq_true rfl) (fun H locs hP hD hS => ?_)
  refine lv_istore (lv' := (5, .int (xc gxIO gxIO x)) :: [(0, .ref b), (1, .ref t), (2, .ref t2), (3, .ref ob), (4, .int (nI i))]) hxe hb dL_law_1343 hl (by decide) rfl (fun ls hl => ?_)
  refine lv_aload_n hxe hb dL_law_1345 rfl (lv_at hl 3 rfl) ?_
  refine lv_aload_n hxe hb dL_law_1346 rfl (lv_at hl 1 rfl) ?_
  refine lv_iload hxe hb dL_law_1347 (lv_at hl 5 rfl) ?_
  refine lv_iconst (v := 1) hxe hb dL_law_1349 (by decide) ?_
  refine lv_iadd hxe hb dL_law_1350 ?_
  refine va_sld hxe hb hX hbl hbA hS h1 dL_law_1351 ?_
  refine gt_callV hC [] (tw cI t o r S o1 r1 (xsel x (gxIt S G N (gxUnN S G N (xs (nI i + 1).toNatClampNeg).toNatClampNeg)) T) ++ oc cL ob (osel x f ((gxUn S G N (xs (nI i + 1).toNatClampNeg).toNatClampNeg)))) 0 2 1 (ws' := mw cI t2 q (mM_minutesUntilIn M N G (xs (nI i + 1).toNatClampNeg)) (mK_minutesUntilIn M K N G (xs (nI i + 1).toNatClampNeg)) ++ (tw cI t o r S o1 r1 (xsel x (gxIt S G N (gxUnN S G N (xs (nI i + 1).toNatClampNeg).toNatClampNeg)) T) ++ oc cL ob (osel x f ((gxUn S G N (xs (nI i + 1).toNatClampNeg).toNatClampNeg))))) (ct_X2_minutesUntilIn l D cI t2 q M K (xs (nI i + 1).toNatClampNeg) N hMN hN12 G hMG hG4 (fun X g => mOpN_lt hN12 X g) (fun k hk => r_hu (inv_t hI 0).2.2.2.2.2.2.1 hN12 hG4 hk)) gL_law_X2_minutesUntilIn dL_law_1352 hKi hP hD hS hA hl.1 rfl hd_X2_minutesUntilIn ⟨Nat.le_of_ble_eq_true rfl, Nat.le_of_ble_eq_true rfl⟩ ⟨by show cells + 1 + 0 ≤ 601024; omega, by show slots + 6 + 0 ≤ 7293034; omega⟩ rfl rfl rfl rfl rfl rfl (Nat.le_of_ble_eq_true rfl) (fun H locs hP hD hS => ?_)
  refine gt_stk [.int (mR_minutesUntilIn M N G (xs (nI i + 1).toNatClampNeg))] rfl ?_
  refine lv_istore (lv' := (6, .int (mR_minutesUntilIn M N G (xs (nI i + 1).toNatClampNeg))) :: (5, .int (xc gxIO gxIO x)) :: [(0, .ref b), (1, .ref t), (2, .ref t2), (3, .ref ob), (4, .int (nI i))]) hxe hb dL_law_1355 hl (by decide) rfl (fun ls hl => ?_)
  refine lv_aload_n hxe hb dL_law_1357 rfl (lv_at hl 4 rfl) ?_
  refine gt_callV hC [] (tw cI t o r S o1 r1 (xsel x (gxIt S G N (gxUnN S G N (xs (nI i + 1).toNatClampNeg).toNatClampNeg)) T) ++ oc cL ob (osel x f ((gxUn S G N (xs (nI i + 1).toNatClampNeg).toNatClampNeg)))) 0 2 0 (ws' := mw cI t2 q (mM_minutesUntilIn M N G (xs (nI i + 1).toNatClampNeg)) (mK_minutesUntilIn M K N G (xs (nI i + 1).toNatClampNeg)) ++ (tw cI t o r S o1 r1 (xsel x (gxIt S G N (gxUnN S G N (xs (nI i + 1).toNatClampNeg).toNatClampNeg)) T) ++ oc cL ob (osel x f ((gxUn S G N (xs (nI i + 1).toNatClampNeg).toNatClampNeg))))) (ct_X2_thrown l D cI t2 q (mM_minutesUntilIn M N G (xs (nI i + 1).toNatClampNeg)) (mK_minutesUntilIn M K N G (xs (nI i + 1).toNatClampNeg))) gL_law_X2_thrown dL_law_1358 hKi hP hD hS hA hl.1 rfl hd_X2_thrown ⟨Nat.le_of_ble_eq_true rfl, Nat.le_of_ble_eq_true rfl⟩ ⟨by show cells + 1 + 0 + 0 ≤ 601024; omega, by show slots + 6 + 0 + 0 ≤ 7293034; omega⟩ rfl rfl rfl rfl rfl rfl (Nat.le_of_ble_eq_true rfl) (fun H locs hP hD hS => ?_)
  have hop := op_minutesUntilIn hI (xs (nI i + 1).toNatClampNeg)
  rw [← hx] at hop
  obtain ⟨u1, u2, u3⟩ := hop
  refine gt_stk [.int ((mM_minutesUntilIn M N G (xs (nI i + 1).toNatClampNeg)) 12 0)] rfl ?_
  refine lv_iload hxe hb dL_law_1361 (lv_at hl 1 rfl) ?_
  refine lv_icmp_eq (tgt := 1368) hxe hb dL_law_1363 (by decide) (fun _ => ?_) (fun z => absurd u1 z)
  refine lv_iload hxe hb dL_law_1368 (lv_at hl 1 rfl) ?_
  refine lv_if_ne (tgt := 1385) hxe hb dL_law_1370 (by decide) (fun _ => ?_) (fun hz => ?_)
  · refine lv_goto (tgt := 1611) hxe hb dL_law_1385 (by decide) ?_
    exact W.widen (k := cells + 137) (n := slots + 848) (by omega) (by omega) (kk G N S (xsel x (gxIt S G N (gxUnN S G N (xs (nI i + 1).toNatClampNeg).toNatClampNeg)) T) (mM_minutesUntilIn M N G (xs (nI i + 1).toNatClampNeg)) (mK_minutesUntilIn M K N G (xs (nI i + 1).toNatClampNeg)) (osel x f ((gxUn S G N (xs (nI i + 1).toNatClampNeg).toNatClampNeg))) H locs ls u3 hP hD hS (lv_sub hl [2, 3, 4, 5, 6] rfl))
  · have hx0 := xc_0 hz
    refine lv_aload_n hxe hb dL_law_1373 rfl (lv_at hl 5 rfl) ?_
    refine lv_iconst (v := 0) hxe hb dL_law_1374 (by decide) ?_
    refine va_lald (f := (osel x f ((gxUn S G N (xs (nI i + 1).toNatClampNeg).toNatClampNeg)))) (i := 0) (n := 1) (cA := cL) hxe hb hK hP (6 + 27) 1 rfl rfl (by unfold vp_in; decide) dL_law_1375 ?_
    refine lv_iload hxe hb dL_law_1376 (lv_at hl 0 rfl) ?_
    refine lv_i2l hxe hb dL_law_1378 rfl ?_
    refine W.lcmp hxe hb dL_law_1379 ?_
    have hv : (osel x f ((gxUn S G N (xs (nI i + 1).toNatClampNeg).toNatClampNeg))) (0 : Int32).toNatClampNeg = Int32.toInt64 (mR_minutesUntilIn M N G (xs (nI i + 1).toNatClampNeg)) := by
      rw [u2 hx0, hx0, osel_n]
      rfl
    refine gt_stk [.int 0] (by rw [hv, lg_cmp_self]) ?_
    refine lv_if_eq (tgt := 1385) hxe hb dL_law_1380 (by decide) (fun _ => ?_) (fun z => absurd rfl z)
    refine lv_goto (tgt := 1611) hxe hb dL_law_1385 (by decide) ?_
    exact W.widen (k := cells + 137) (n := slots + 848) (by omega) (by omega) (kk G N S (xsel x (gxIt S G N (gxUnN S G N (xs (nI i + 1).toNatClampNeg).toNatClampNeg)) T) (mM_minutesUntilIn M N G (xs (nI i + 1).toNatClampNeg)) (mK_minutesUntilIn M K N G (xs (nI i + 1).toNatClampNeg)) (osel x f ((gxUn S G N (xs (nI i + 1).toNatClampNeg).toNatClampNeg))) H locs ls u3 hP hD hS (lv_sub hl [2, 3, 4, 5, 6] rfl))

set_option maxRecDepth 20000 in
theorem lc_givingUpIn {p : Program} {l : Launch} {e : Env} {s : State} {m : MethodId} {args : Array Value} {below : List Frame} {meth : Method} {c : Code} {Q : State → Prop} {D : va_G} {cI cL : ClassId} {A : Nat → Prop} {b L : Nat} {xs : Nat → Int32}
    (hl0 : l.stackTraces = false) (hC : CallFix p m c cL_law 9 s args wsL_law RL) (hTh : gTh A s s.heap) (hNc : gNc s) (hK : va_K D vwCl [(cI, .int), (cL, .long)] s) (hA : ∀ q, s.heap.size ≤ q → A q) (hX : va_X b L xs s s.heap) (hbl : b < s.heap.size) (hbA : ¬ A b)
    {t o : Nat} {r : Nat → Nat} {S : SS} {o1 : Nat} {r1 : Nat → Nat} {T : SS} {t2 : Nat} {q : Nat → Nat} {M K : SS} {ob : Nat} {f : Nat → Int64} {G N i cells slots : Nat} {H : Heap} {locs : List Loc} {ls : Array Slot}
    (hI : Inv G N S M) (hi : i + 6 ≤ L) (hL : L ≤ 3072) (hcs : cells + 137 ≤ 601024 ∧ slots + 848 ≤ 7293034) (hP : va_P D vwCl (mw cI t2 q M K ++ (tw cI t o r S o1 r1 T ++ oc cL ob f)) H) (hD : va_D A (mw cI t2 q M K ++ (tw cI t o r S o1 r1 T ++ oc cL ob f))) (hS : va_S A s.heap H locs) (hl : lv_has ls 9 [(0, .ref b), (1, .ref t), (2, .ref t2), (3, .ref ob), (4, .int (nI i))])
    (kk : ∀ (G N : Nat) (S T M K : SS) (f : Nat → Int64) (H : Heap) (locs : List Loc) (ls : Array Slot), Inv G N S M → va_P D vwCl (mw cI t2 q M K ++ (tw cI t o r S o1 r1 T ++ oc cL ob f)) H → va_D A (mw cI t2 q M K ++ (tw cI t o r S o1 r1 T ++ oc cL ob f)) → va_S A s.heap H locs → lv_has ls 9 [(0, .ref b), (1, .ref t), (2, .ref t2), (3, .ref ob), (4, .int (nI i))] → W p l e room_1 s m args below meth c H locs (cells + 137) (slots + 848) Q (F0 m 1611 ls [])) : W p l e room_1 s m args below meth c H locs cells slots Q (F0 m 1388 ls []) := by
  have hxe := hC.1
  have hb := hC.2.1
  have hI' := hI
  obtain ⟨hN12, hG4, hSG, hSN, hMG, hMN, rel, -, -⟩ := hI'
  have hKi : va_K D vwCl [(cI, .int)] s := ⟨hK.1, fun k z hz => by
    cases k with
    | zero => exact hK.2 0 z hz
    | succ k => cases hz⟩
  have h1 : vp_in (nI i + 1) L := by
    rw [show nI i + 1 = nI (i + 1) from nI_add i 1]
    exact vp_in_nI (by omega) (by omega)
  refine lv_aload_n hxe hb dL_law_1388 rfl (lv_at hl 1 rfl) ?_
  refine lv_aload_n hxe hb dL_law_1389 rfl (lv_at hl 0 rfl) ?_
  refine lv_iload hxe hb dL_law_1390 (lv_at hl 4 rfl) ?_
  refine lv_iconst (v := 1) hxe hb dL_law_1392 (by decide) ?_
  refine lv_iadd hxe hb dL_law_1393 ?_
  refine va_sld hxe hb hX hbl hbA hS h1 dL_law_1394 ?_
  refine lv_aload_n hxe hb dL_law_1395 rfl (lv_at hl 3 rfl) ?_
  obtain ⟨x, hx⟩ : ∃ x : Option String, x = (xNum (xs (nI i + 1).toNatClampNeg) 60) := ⟨_, rfl⟩
  refine gl_callS hC 3 (wa := mw cI t2 q M K) (cw_givingUpIn l hl0 D cI t o r S o1 r1 T cL ob f (xs (nI i + 1).toNatClampNeg) N hSN hN12 G hSG hG4 x hx) gL_law_L_givingUpIn dL_law_1396 hTh hNc hK hP hD hS hA hl.1 rfl hd_L_givingUpIn ⟨Nat.le_of_ble_eq_true rfl, Nat.le_of_ble_eq_true rfl⟩ ⟨by show cells + 1 ≤ 601024; omega, by show slots + 6 ≤ 7293034; omega⟩ rfl rfl (Nat.le_of_ble_eq_true rfl) (fun H locs hP hD hS => ?_)
  refine lv_istore (lv' := (5, .int (xc gxIA gxIA x)) :: [(0, .ref b), (1, .ref t), (2, .ref t2), (3, .ref ob), (4, .int (nI i))]) hxe hb dL_law_1399 hl (by decide) rfl (fun ls hl => ?_)
  refine lv_aload_n hxe hb dL_law_1401 rfl (lv_at hl 3 rfl) ?_
  refine lv_aload_n hxe hb dL_law_1402 rfl (lv_at hl 1 rfl) ?_
  refine lv_iload hxe hb dL_law_1403 (lv_at hl 5 rfl) ?_
  refine lv_iconst (v := 1) hxe hb dL_law_1405 (by decide) ?_
  refine lv_iadd hxe hb dL_law_1406 ?_
  refine va_sld hxe hb hX hbl hbA hS h1 dL_law_1407 ?_
  refine gt_callV hC [] (tw cI t o r S o1 r1 (xsel x (gxIt S G N (xs (nI i + 1).toNatClampNeg).toNatClampNeg) T) ++ oc cL ob (osel x f ((gxGiv (gxIt S G N (xs (nI i + 1).toNatClampNeg).toNatClampNeg) G - gxGiv S G)))) 0 2 1 (ws' := mw cI t2 q (mM_givingUpIn M N G (xs (nI i + 1).toNatClampNeg)) (mK_givingUpIn M K N G (xs (nI i + 1).toNatClampNeg)) ++ (tw cI t o r S o1 r1 (xsel x (gxIt S G N (xs (nI i + 1).toNatClampNeg).toNatClampNeg) T) ++ oc cL ob (osel x f ((gxGiv (gxIt S G N (xs (nI i + 1).toNatClampNeg).toNatClampNeg) G - gxGiv S G))))) (ct_X2_givingUpIn l D cI t2 q M K (xs (nI i + 1).toNatClampNeg) N hMN hN12 G hMG hG4 (fun X g => mOpN_lt hN12 X g)) gL_law_X2_givingUpIn dL_law_1408 hKi hP hD hS hA hl.1 rfl hd_X2_givingUpIn ⟨Nat.le_of_ble_eq_true rfl, Nat.le_of_ble_eq_true rfl⟩ ⟨by show cells + 1 + 0 ≤ 601024; omega, by show slots + 6 + 0 ≤ 7293034; omega⟩ rfl rfl rfl rfl rfl rfl (Nat.le_of_ble_eq_true rfl) (fun H locs hP hD hS => ?_)
  refine gt_stk [.int (mR_givingUpIn M N G (xs (nI i + 1).toNatClampNeg))] rfl ?_
  refine lv_istore (lv' := (6, .int (mR_givingUpIn M N G (xs (nI i + 1).toNatClampNeg))) :: (5, .int (xc gxIA gxIA x)) :: [(0, .ref b), (1, .ref t), (2, .ref t2), (3, .ref ob), (4, .int (nI i))]) hxe hb dL_law_1411 hl (by decide) rfl (fun ls hl => ?_)
  refine lv_aload_n hxe hb dL_law_1413 rfl (lv_at hl 4 rfl) ?_
  refine gt_callV hC [] (tw cI t o r S o1 r1 (xsel x (gxIt S G N (xs (nI i + 1).toNatClampNeg).toNatClampNeg) T) ++ oc cL ob (osel x f ((gxGiv (gxIt S G N (xs (nI i + 1).toNatClampNeg).toNatClampNeg) G - gxGiv S G)))) 0 2 0 (ws' := mw cI t2 q (mM_givingUpIn M N G (xs (nI i + 1).toNatClampNeg)) (mK_givingUpIn M K N G (xs (nI i + 1).toNatClampNeg)) ++ (tw cI t o r S o1 r1 (xsel x (gxIt S G N (xs (nI i + 1).toNatClampNeg).toNatClampNeg) T) ++ oc cL ob (osel x f ((gxGiv (gxIt S G N (xs (nI i + 1).toNatClampNeg).toNatClampNeg) G - gxGiv S G))))) (ct_X2_thrown l D cI t2 q (mM_givingUpIn M N G (xs (nI i + 1).toNatClampNeg)) (mK_givingUpIn M K N G (xs (nI i + 1).toNatClampNeg))) gL_law_X2_thrown dL_law_1414 hKi hP hD hS hA hl.1 rfl hd_X2_thrown ⟨Nat.le_of_ble_eq_true rfl, Nat.le_of_ble_eq_true rfl⟩ ⟨by show cells + 1 + 0 + 0 ≤ 601024; omega, by show slots + 6 + 0 + 0 ≤ 7293034; omega⟩ rfl rfl rfl rfl rfl rfl (Nat.le_of_ble_eq_true rfl) (fun H locs hP hD hS => ?_)
  have hop := op_givingUpIn hI (xs (nI i + 1).toNatClampNeg)
  rw [← hx] at hop
  obtain ⟨u1, u2, u3⟩ := hop
  refine gt_stk [.int ((mM_givingUpIn M N G (xs (nI i + 1).toNatClampNeg)) 12 0)] rfl ?_
  refine lv_iload hxe hb dL_law_1417 (lv_at hl 1 rfl) ?_
  refine lv_icmp_eq (tgt := 1424) hxe hb dL_law_1419 (by decide) (fun _ => ?_) (fun z => absurd u1 z)
  refine lv_iload hxe hb dL_law_1424 (lv_at hl 1 rfl) ?_
  refine lv_if_ne (tgt := 1441) hxe hb dL_law_1426 (by decide) (fun _ => ?_) (fun hz => ?_)
  · refine lv_goto (tgt := 1611) hxe hb dL_law_1441 (by decide) ?_
    exact W.widen (k := cells + 137) (n := slots + 848) (by omega) (by omega) (kk G N S (xsel x (gxIt S G N (xs (nI i + 1).toNatClampNeg).toNatClampNeg) T) (mM_givingUpIn M N G (xs (nI i + 1).toNatClampNeg)) (mK_givingUpIn M K N G (xs (nI i + 1).toNatClampNeg)) (osel x f ((gxGiv (gxIt S G N (xs (nI i + 1).toNatClampNeg).toNatClampNeg) G - gxGiv S G))) H locs ls u3 hP hD hS (lv_sub hl [2, 3, 4, 5, 6] rfl))
  · have hx0 := xc_0 hz
    refine lv_aload_n hxe hb dL_law_1429 rfl (lv_at hl 5 rfl) ?_
    refine lv_iconst (v := 0) hxe hb dL_law_1430 (by decide) ?_
    refine va_lald (f := (osel x f ((gxGiv (gxIt S G N (xs (nI i + 1).toNatClampNeg).toNatClampNeg) G - gxGiv S G)))) (i := 0) (n := 1) (cA := cL) hxe hb hK hP (6 + 27) 1 rfl rfl (by unfold vp_in; decide) dL_law_1431 ?_
    refine lv_iload hxe hb dL_law_1432 (lv_at hl 0 rfl) ?_
    refine lv_i2l hxe hb dL_law_1434 rfl ?_
    refine W.lcmp hxe hb dL_law_1435 ?_
    have hv : (osel x f ((gxGiv (gxIt S G N (xs (nI i + 1).toNatClampNeg).toNatClampNeg) G - gxGiv S G))) (0 : Int32).toNatClampNeg = Int32.toInt64 (mR_givingUpIn M N G (xs (nI i + 1).toNatClampNeg)) := by
      rw [u2 hx0, hx0, osel_n]
      rfl
    refine gt_stk [.int 0] (by rw [hv, lg_cmp_self]) ?_
    refine lv_if_eq (tgt := 1441) hxe hb dL_law_1436 (by decide) (fun _ => ?_) (fun z => absurd rfl z)
    refine lv_goto (tgt := 1611) hxe hb dL_law_1441 (by decide) ?_
    exact W.widen (k := cells + 137) (n := slots + 848) (by omega) (by omega) (kk G N S (xsel x (gxIt S G N (xs (nI i + 1).toNatClampNeg).toNatClampNeg) T) (mM_givingUpIn M N G (xs (nI i + 1).toNatClampNeg)) (mK_givingUpIn M K N G (xs (nI i + 1).toNatClampNeg)) (osel x f ((gxGiv (gxIt S G N (xs (nI i + 1).toNatClampNeg).toNatClampNeg) G - gxGiv S G))) H locs ls u3 hP hD hS (lv_sub hl [2, 3, 4, 5, 6] rfl))

set_option maxRecDepth 20000 in
theorem lc_permitsWanted {p : Program} {l : Launch} {e : Env} {s : State} {m : MethodId} {args : Array Value} {below : List Frame} {meth : Method} {c : Code} {Q : State → Prop} {D : va_G} {cI cL : ClassId} {A : Nat → Prop} {b L : Nat} {xs : Nat → Int32}
    (hl0 : l.stackTraces = false) (hC : CallFix p m c cL_law 9 s args wsL_law RL) (hTh : gTh A s s.heap) (hNc : gNc s) (hK : va_K D vwCl [(cI, .int), (cL, .long)] s) (hA : ∀ q, s.heap.size ≤ q → A q) (hX : va_X b L xs s s.heap) (hbl : b < s.heap.size) (hbA : ¬ A b)
    {t o : Nat} {r : Nat → Nat} {S : SS} {o1 : Nat} {r1 : Nat → Nat} {T : SS} {t2 : Nat} {q : Nat → Nat} {M K : SS} {ob : Nat} {f : Nat → Int64} {G N i cells slots : Nat} {H : Heap} {locs : List Loc} {ls : Array Slot}
    (hI : Inv G N S M) (hi : i + 6 ≤ L) (hL : L ≤ 3072) (hcs : cells + 137 ≤ 601024 ∧ slots + 848 ≤ 7293034) (hP : va_P D vwCl (mw cI t2 q M K ++ (tw cI t o r S o1 r1 T ++ oc cL ob f)) H) (hD : va_D A (mw cI t2 q M K ++ (tw cI t o r S o1 r1 T ++ oc cL ob f))) (hS : va_S A s.heap H locs) (hl : lv_has ls 9 [(0, .ref b), (1, .ref t), (2, .ref t2), (3, .ref ob), (4, .int (nI i))])
    (kk : ∀ (G N : Nat) (S T M K : SS) (f : Nat → Int64) (H : Heap) (locs : List Loc) (ls : Array Slot), Inv G N S M → va_P D vwCl (mw cI t2 q M K ++ (tw cI t o r S o1 r1 T ++ oc cL ob f)) H → va_D A (mw cI t2 q M K ++ (tw cI t o r S o1 r1 T ++ oc cL ob f)) → va_S A s.heap H locs → lv_has ls 9 [(0, .ref b), (1, .ref t), (2, .ref t2), (3, .ref ob), (4, .int (nI i))] → W p l e room_1 s m args below meth c H locs (cells + 137) (slots + 848) Q (F0 m 1611 ls [])) : W p l e room_1 s m args below meth c H locs cells slots Q (F0 m 1444 ls []) := by
  have hxe := hC.1
  have hb := hC.2.1
  have hI' := hI
  obtain ⟨hN12, hG4, hSG, hSN, hMG, hMN, rel, -, -⟩ := hI'
  have hKi : va_K D vwCl [(cI, .int)] s := ⟨hK.1, fun k z hz => by
    cases k with
    | zero => exact hK.2 0 z hz
    | succ k => cases hz⟩
  have h1 : vp_in (nI i + 1) L := by
    rw [show nI i + 1 = nI (i + 1) from nI_add i 1]
    exact vp_in_nI (by omega) (by omega)
  refine lv_aload_n hxe hb dL_law_1444 rfl (lv_at hl 1 rfl) ?_
  refine lv_aload_n hxe hb dL_law_1445 rfl (lv_at hl 0 rfl) ?_
  refine lv_iload hxe hb dL_law_1446 (lv_at hl 4 rfl) ?_
  refine lv_iconst (v := 1) hxe hb dL_law_1448 (by decide) ?_
  refine lv_iadd hxe hb dL_law_1449 ?_
  refine va_sld hxe hb hX hbl hbA hS h1 dL_law_1450 ?_
  refine lv_aload_n hxe hb dL_law_1451 rfl (lv_at hl 3 rfl) ?_
  obtain ⟨x, hx⟩ : ∃ x : Option String, x = (xGate S (xs (nI i + 1).toNatClampNeg)) := ⟨_, rfl⟩
  refine gl_callS hC 3 (wa := mw cI t2 q M K) (cw_permitsWanted l hl0 D cI t o r S o1 r1 T cL ob f (xs (nI i + 1).toNatClampNeg) N hSN hN12 G hSG hG4 x hx) gL_law_L_permitsWanted dL_law_1452 hTh hNc hK hP hD hS hA hl.1 rfl hd_L_permitsWanted ⟨Nat.le_of_ble_eq_true rfl, Nat.le_of_ble_eq_true rfl⟩ ⟨by show cells + 1 ≤ 601024; omega, by show slots + 6 ≤ 7293034; omega⟩ rfl rfl (Nat.le_of_ble_eq_true rfl) (fun H locs hP hD hS => ?_)
  refine lv_istore (lv' := (5, .int (xc gxIO gxIO x)) :: [(0, .ref b), (1, .ref t), (2, .ref t2), (3, .ref ob), (4, .int (nI i))]) hxe hb dL_law_1455 hl (by decide) rfl (fun ls hl => ?_)
  refine lv_aload_n hxe hb dL_law_1457 rfl (lv_at hl 3 rfl) ?_
  refine lv_aload_n hxe hb dL_law_1458 rfl (lv_at hl 1 rfl) ?_
  refine lv_iload hxe hb dL_law_1459 (lv_at hl 5 rfl) ?_
  refine lv_iconst (v := 1) hxe hb dL_law_1461 (by decide) ?_
  refine lv_iadd hxe hb dL_law_1462 ?_
  refine va_sld hxe hb hX hbl hbA hS h1 dL_law_1463 ?_
  refine gt_callV hC [] (tw cI t o r S o1 r1 (xsel x (gxPwF S T G N (xs (nI i + 1).toNatClampNeg).toNatClampNeg) T) ++ oc cL ob (osel x f ((gxPw S G N (xs (nI i + 1).toNatClampNeg).toNatClampNeg)))) 0 2 1 (ws' := mw cI t2 q (mM_permitsWanted M N G (xs (nI i + 1).toNatClampNeg)) (mK_permitsWanted M K N G (xs (nI i + 1).toNatClampNeg)) ++ (tw cI t o r S o1 r1 (xsel x (gxPwF S T G N (xs (nI i + 1).toNatClampNeg).toNatClampNeg) T) ++ oc cL ob (osel x f ((gxPw S G N (xs (nI i + 1).toNatClampNeg).toNatClampNeg))))) (ct_X2_permitsWanted l D cI t2 q M K (xs (nI i + 1).toNatClampNeg) N hMN hN12 G hMG hG4 (fun X g => mOpN_lt hN12 X g)) gL_law_X2_permitsWanted dL_law_1464 hKi hP hD hS hA hl.1 rfl hd_X2_permitsWanted ⟨Nat.le_of_ble_eq_true rfl, Nat.le_of_ble_eq_true rfl⟩ ⟨by show cells + 1 + 0 ≤ 601024; omega, by show slots + 6 + 0 ≤ 7293034; omega⟩ rfl rfl rfl rfl rfl rfl (Nat.le_of_ble_eq_true rfl) (fun H locs hP hD hS => ?_)
  refine gt_stk [.int (mR_permitsWanted M N G (xs (nI i + 1).toNatClampNeg))] rfl ?_
  refine lv_istore (lv' := (6, .int (mR_permitsWanted M N G (xs (nI i + 1).toNatClampNeg))) :: (5, .int (xc gxIO gxIO x)) :: [(0, .ref b), (1, .ref t), (2, .ref t2), (3, .ref ob), (4, .int (nI i))]) hxe hb dL_law_1467 hl (by decide) rfl (fun ls hl => ?_)
  refine lv_aload_n hxe hb dL_law_1469 rfl (lv_at hl 4 rfl) ?_
  refine gt_callV hC [] (tw cI t o r S o1 r1 (xsel x (gxPwF S T G N (xs (nI i + 1).toNatClampNeg).toNatClampNeg) T) ++ oc cL ob (osel x f ((gxPw S G N (xs (nI i + 1).toNatClampNeg).toNatClampNeg)))) 0 2 0 (ws' := mw cI t2 q (mM_permitsWanted M N G (xs (nI i + 1).toNatClampNeg)) (mK_permitsWanted M K N G (xs (nI i + 1).toNatClampNeg)) ++ (tw cI t o r S o1 r1 (xsel x (gxPwF S T G N (xs (nI i + 1).toNatClampNeg).toNatClampNeg) T) ++ oc cL ob (osel x f ((gxPw S G N (xs (nI i + 1).toNatClampNeg).toNatClampNeg))))) (ct_X2_thrown l D cI t2 q (mM_permitsWanted M N G (xs (nI i + 1).toNatClampNeg)) (mK_permitsWanted M K N G (xs (nI i + 1).toNatClampNeg))) gL_law_X2_thrown dL_law_1470 hKi hP hD hS hA hl.1 rfl hd_X2_thrown ⟨Nat.le_of_ble_eq_true rfl, Nat.le_of_ble_eq_true rfl⟩ ⟨by show cells + 1 + 0 + 0 ≤ 601024; omega, by show slots + 6 + 0 + 0 ≤ 7293034; omega⟩ rfl rfl rfl rfl rfl rfl (Nat.le_of_ble_eq_true rfl) (fun H locs hP hD hS => ?_)
  have hop := op_permitsWanted hI (xs (nI i + 1).toNatClampNeg)
  rw [← hx] at hop
  obtain ⟨u1, u2, u3⟩ := hop
  refine gt_stk [.int ((mM_permitsWanted M N G (xs (nI i + 1).toNatClampNeg)) 12 0)] rfl ?_
  refine lv_iload hxe hb dL_law_1473 (lv_at hl 1 rfl) ?_
  refine lv_icmp_eq (tgt := 1480) hxe hb dL_law_1475 (by decide) (fun _ => ?_) (fun z => absurd u1 z)
  refine lv_iload hxe hb dL_law_1480 (lv_at hl 1 rfl) ?_
  refine lv_if_ne (tgt := 1497) hxe hb dL_law_1482 (by decide) (fun _ => ?_) (fun hz => ?_)
  · refine lv_goto (tgt := 1611) hxe hb dL_law_1497 (by decide) ?_
    exact W.widen (k := cells + 137) (n := slots + 848) (by omega) (by omega) (kk G N S (xsel x (gxPwF S T G N (xs (nI i + 1).toNatClampNeg).toNatClampNeg) T) (mM_permitsWanted M N G (xs (nI i + 1).toNatClampNeg)) (mK_permitsWanted M K N G (xs (nI i + 1).toNatClampNeg)) (osel x f ((gxPw S G N (xs (nI i + 1).toNatClampNeg).toNatClampNeg))) H locs ls u3 hP hD hS (lv_sub hl [2, 3, 4, 5, 6] rfl))
  · have hx0 := xc_0 hz
    refine lv_aload_n hxe hb dL_law_1485 rfl (lv_at hl 5 rfl) ?_
    refine lv_iconst (v := 0) hxe hb dL_law_1486 (by decide) ?_
    refine va_lald (f := (osel x f ((gxPw S G N (xs (nI i + 1).toNatClampNeg).toNatClampNeg)))) (i := 0) (n := 1) (cA := cL) hxe hb hK hP (6 + 27) 1 rfl rfl (by unfold vp_in; decide) dL_law_1487 ?_
    refine lv_iload hxe hb dL_law_1488 (lv_at hl 0 rfl) ?_
    refine lv_i2l hxe hb dL_law_1490 rfl ?_
    refine W.lcmp hxe hb dL_law_1491 ?_
    have hv : (osel x f ((gxPw S G N (xs (nI i + 1).toNatClampNeg).toNatClampNeg))) (0 : Int32).toNatClampNeg = Int32.toInt64 (mR_permitsWanted M N G (xs (nI i + 1).toNatClampNeg)) := by
      rw [u2 hx0, hx0, osel_n]
      rfl
    refine gt_stk [.int 0] (by rw [hv, lg_cmp_self]) ?_
    refine lv_if_eq (tgt := 1497) hxe hb dL_law_1492 (by decide) (fun _ => ?_) (fun z => absurd rfl z)
    refine lv_goto (tgt := 1611) hxe hb dL_law_1497 (by decide) ?_
    exact W.widen (k := cells + 137) (n := slots + 848) (by omega) (by omega) (kk G N S (xsel x (gxPwF S T G N (xs (nI i + 1).toNatClampNeg).toNatClampNeg) T) (mM_permitsWanted M N G (xs (nI i + 1).toNatClampNeg)) (mK_permitsWanted M K N G (xs (nI i + 1).toNatClampNeg)) (osel x f ((gxPw S G N (xs (nI i + 1).toNatClampNeg).toNatClampNeg))) H locs ls u3 hP hD hS (lv_sub hl [2, 3, 4, 5, 6] rfl))

set_option maxRecDepth 20000 in
theorem lc_bestOrder {p : Program} {l : Launch} {e : Env} {s : State} {m : MethodId} {args : Array Value} {below : List Frame} {meth : Method} {c : Code} {Q : State → Prop} {D : va_G} {cI cL : ClassId} {A : Nat → Prop} {b L : Nat} {xs : Nat → Int32}
    (hl0 : l.stackTraces = false) (hC : CallFix p m c cL_law 9 s args wsL_law RL) (hTh : gTh A s s.heap) (hNc : gNc s) (hK : va_K D vwCl [(cI, .int), (cL, .long)] s) (hA : ∀ q, s.heap.size ≤ q → A q) (hX : va_X b L xs s s.heap) (hbl : b < s.heap.size) (hbA : ¬ A b)
    {t o : Nat} {r : Nat → Nat} {S : SS} {o1 : Nat} {r1 : Nat → Nat} {T : SS} {t2 : Nat} {q : Nat → Nat} {M K : SS} {ob : Nat} {f : Nat → Int64} {G N i cells slots : Nat} {H : Heap} {locs : List Loc} {ls : Array Slot}
    (hI : Inv G N S M) (hi : i + 6 ≤ L) (hL : L ≤ 3072) (hcs : cells + 137 ≤ 601024 ∧ slots + 848 ≤ 7293034) (hP : va_P D vwCl (mw cI t2 q M K ++ (tw cI t o r S o1 r1 T ++ oc cL ob f)) H) (hD : va_D A (mw cI t2 q M K ++ (tw cI t o r S o1 r1 T ++ oc cL ob f))) (hS : va_S A s.heap H locs) (hl : lv_has ls 9 [(0, .ref b), (1, .ref t), (2, .ref t2), (3, .ref ob), (4, .int (nI i))])
    (kk : ∀ (G N : Nat) (S T M K : SS) (f : Nat → Int64) (H : Heap) (locs : List Loc) (ls : Array Slot), Inv G N S M → va_P D vwCl (mw cI t2 q M K ++ (tw cI t o r S o1 r1 T ++ oc cL ob f)) H → va_D A (mw cI t2 q M K ++ (tw cI t o r S o1 r1 T ++ oc cL ob f)) → va_S A s.heap H locs → lv_has ls 9 [(0, .ref b), (1, .ref t), (2, .ref t2), (3, .ref ob), (4, .int (nI i))] → W p l e room_1 s m args below meth c H locs (cells + 137) (slots + 848) Q (F0 m 1611 ls [])) : W p l e room_1 s m args below meth c H locs cells slots Q (F0 m 1500 ls []) := by
  have hxe := hC.1
  have hb := hC.2.1
  have hI' := hI
  obtain ⟨hN12, hG4, hSG, hSN, hMG, hMN, rel, -, -⟩ := hI'
  have hKi : va_K D vwCl [(cI, .int)] s := ⟨hK.1, fun k z hz => by
    cases k with
    | zero => exact hK.2 0 z hz
    | succ k => cases hz⟩
  have h1 : vp_in (nI i + 1) L := by
    rw [show nI i + 1 = nI (i + 1) from nI_add i 1]
    exact vp_in_nI (by omega) (by omega)
  refine lv_aload_n hxe hb dL_law_1500 rfl (lv_at hl 1 rfl) ?_
  refine lv_aload_n hxe hb dL_law_1501 rfl (lv_at hl 0 rfl) ?_
  refine lv_iload hxe hb dL_law_1502 (lv_at hl 4 rfl) ?_
  refine lv_iconst (v := 1) hxe hb dL_law_1504 (by decide) ?_
  refine lv_iadd hxe hb dL_law_1505 ?_
  refine va_sld hxe hb hX hbl hbA hS h1 dL_law_1506 ?_
  refine lv_aload_n hxe hb dL_law_1507 rfl (lv_at hl 3 rfl) ?_
  obtain ⟨x, hx⟩ : ∃ x : Option String, x = (xGate S (xs (nI i + 1).toNatClampNeg)) := ⟨_, rfl⟩
  refine gl_callS hC 3 (wa := mw cI t2 q M K) (cw_bestOrder l hl0 D cI t o r S o1 r1 T cL ob f (xs (nI i + 1).toNatClampNeg) N hSN hN12 G hSG hG4 x hx) gL_law_L_bestOrder dL_law_1508 hTh hNc hK hP hD hS hA hl.1 rfl hd_L_bestOrder ⟨Nat.le_of_ble_eq_true rfl, Nat.le_of_ble_eq_true rfl⟩ ⟨by show cells + 1 ≤ 601024; omega, by show slots + 6 ≤ 7293034; omega⟩ rfl rfl (Nat.le_of_ble_eq_true rfl) (fun H locs hP hD hS => ?_)
  refine lv_istore (lv' := (5, .int (xc gxIO gxIO x)) :: [(0, .ref b), (1, .ref t), (2, .ref t2), (3, .ref ob), (4, .int (nI i))]) hxe hb dL_law_1511 hl (by decide) rfl (fun ls hl => ?_)
  refine lv_aload_n hxe hb dL_law_1513 rfl (lv_at hl 3 rfl) ?_
  refine lv_aload_n hxe hb dL_law_1514 rfl (lv_at hl 1 rfl) ?_
  refine lv_iload hxe hb dL_law_1515 (lv_at hl 5 rfl) ?_
  refine lv_iconst (v := 1) hxe hb dL_law_1517 (by decide) ?_
  refine lv_iadd hxe hb dL_law_1518 ?_
  refine va_sld hxe hb hX hbl hbA hS h1 dL_law_1519 ?_
  refine gt_callV hC [] (tw cI t o r S o1 r1 (xsel x (gxGuT S G N (xs (nI i + 1).toNatClampNeg).toNatClampNeg (S 5 (xs (nI i + 1).toNatClampNeg).toNatClampNeg) 1) T) ++ oc cL ob (osel x f ((gxBo S G N (xs (nI i + 1).toNatClampNeg).toNatClampNeg)))) 0 2 1 (ws' := mw cI t2 q (mM_bestOrder M N G (xs (nI i + 1).toNatClampNeg)) (mK_bestOrder M K N G (xs (nI i + 1).toNatClampNeg)) ++ (tw cI t o r S o1 r1 (xsel x (gxGuT S G N (xs (nI i + 1).toNatClampNeg).toNatClampNeg (S 5 (xs (nI i + 1).toNatClampNeg).toNatClampNeg) 1) T) ++ oc cL ob (osel x f ((gxBo S G N (xs (nI i + 1).toNatClampNeg).toNatClampNeg))))) (ct_X2_bestOrder l D cI t2 q M K (xs (nI i + 1).toNatClampNeg) N hMN hN12 G hMG hG4 (fun X g => mOpN_lt hN12 X g)) gL_law_X2_bestOrder dL_law_1520 hKi hP hD hS hA hl.1 rfl hd_X2_bestOrder ⟨Nat.le_of_ble_eq_true rfl, Nat.le_of_ble_eq_true rfl⟩ ⟨by show cells + 1 + 0 ≤ 601024; omega, by show slots + 6 + 0 ≤ 7293034; omega⟩ rfl rfl rfl rfl rfl rfl (Nat.le_of_ble_eq_true rfl) (fun H locs hP hD hS => ?_)
  refine gt_stk [.int (mR_bestOrder M N G (xs (nI i + 1).toNatClampNeg))] rfl ?_
  refine lv_istore (lv' := (6, .int (mR_bestOrder M N G (xs (nI i + 1).toNatClampNeg))) :: (5, .int (xc gxIO gxIO x)) :: [(0, .ref b), (1, .ref t), (2, .ref t2), (3, .ref ob), (4, .int (nI i))]) hxe hb dL_law_1523 hl (by decide) rfl (fun ls hl => ?_)
  refine lv_aload_n hxe hb dL_law_1525 rfl (lv_at hl 4 rfl) ?_
  refine gt_callV hC [] (tw cI t o r S o1 r1 (xsel x (gxGuT S G N (xs (nI i + 1).toNatClampNeg).toNatClampNeg (S 5 (xs (nI i + 1).toNatClampNeg).toNatClampNeg) 1) T) ++ oc cL ob (osel x f ((gxBo S G N (xs (nI i + 1).toNatClampNeg).toNatClampNeg)))) 0 2 0 (ws' := mw cI t2 q (mM_bestOrder M N G (xs (nI i + 1).toNatClampNeg)) (mK_bestOrder M K N G (xs (nI i + 1).toNatClampNeg)) ++ (tw cI t o r S o1 r1 (xsel x (gxGuT S G N (xs (nI i + 1).toNatClampNeg).toNatClampNeg (S 5 (xs (nI i + 1).toNatClampNeg).toNatClampNeg) 1) T) ++ oc cL ob (osel x f ((gxBo S G N (xs (nI i + 1).toNatClampNeg).toNatClampNeg))))) (ct_X2_thrown l D cI t2 q (mM_bestOrder M N G (xs (nI i + 1).toNatClampNeg)) (mK_bestOrder M K N G (xs (nI i + 1).toNatClampNeg))) gL_law_X2_thrown dL_law_1526 hKi hP hD hS hA hl.1 rfl hd_X2_thrown ⟨Nat.le_of_ble_eq_true rfl, Nat.le_of_ble_eq_true rfl⟩ ⟨by show cells + 1 + 0 + 0 ≤ 601024; omega, by show slots + 6 + 0 + 0 ≤ 7293034; omega⟩ rfl rfl rfl rfl rfl rfl (Nat.le_of_ble_eq_true rfl) (fun H locs hP hD hS => ?_)
  have hop := op_bestOrder hI (xs (nI i + 1).toNatClampNeg)
  rw [← hx] at hop
  obtain ⟨u1, u2, u3⟩ := hop
  refine gt_stk [.int ((mM_bestOrder M N G (xs (nI i + 1).toNatClampNeg)) 12 0)] rfl ?_
  refine lv_iload hxe hb dL_law_1529 (lv_at hl 1 rfl) ?_
  refine lv_icmp_eq (tgt := 1536) hxe hb dL_law_1531 (by decide) (fun _ => ?_) (fun z => absurd u1 z)
  refine lv_iload hxe hb dL_law_1536 (lv_at hl 1 rfl) ?_
  refine lv_if_ne (tgt := 1553) hxe hb dL_law_1538 (by decide) (fun _ => ?_) (fun hz => ?_)
  · refine lv_goto (tgt := 1611) hxe hb dL_law_1553 (by decide) ?_
    exact W.widen (k := cells + 137) (n := slots + 848) (by omega) (by omega) (kk G N S (xsel x (gxGuT S G N (xs (nI i + 1).toNatClampNeg).toNatClampNeg (S 5 (xs (nI i + 1).toNatClampNeg).toNatClampNeg) 1) T) (mM_bestOrder M N G (xs (nI i + 1).toNatClampNeg)) (mK_bestOrder M K N G (xs (nI i + 1).toNatClampNeg)) (osel x f ((gxBo S G N (xs (nI i + 1).toNatClampNeg).toNatClampNeg))) H locs ls u3 hP hD hS (lv_sub hl [2, 3, 4, 5, 6] rfl))
  · have hx0 := xc_0 hz
    refine lv_aload_n hxe hb dL_law_1541 rfl (lv_at hl 5 rfl) ?_
    refine lv_iconst (v := 0) hxe hb dL_law_1542 (by decide) ?_
    refine va_lald (f := (osel x f ((gxBo S G N (xs (nI i + 1).toNatClampNeg).toNatClampNeg)))) (i := 0) (n := 1) (cA := cL) hxe hb hK hP (6 + 27) 1 rfl rfl (by unfold vp_in; decide) dL_law_1543 ?_
    refine lv_iload hxe hb dL_law_1544 (lv_at hl 0 rfl) ?_
    refine lv_i2l hxe hb dL_law_1546 rfl ?_
    refine W.lcmp hxe hb dL_law_1547 ?_
    have hv : (osel x f ((gxBo S G N (xs (nI i + 1).toNatClampNeg).toNatClampNeg))) (0 : Int32).toNatClampNeg = Int32.toInt64 (mR_bestOrder M N G (xs (nI i + 1).toNatClampNeg)) := by
      rw [u2 hx0, hx0, osel_n]
      rfl
    refine gt_stk [.int 0] (by rw [hv, lg_cmp_self]) ?_
    refine lv_if_eq (tgt := 1553) hxe hb dL_law_1548 (by decide) (fun _ => ?_) (fun z => absurd rfl z)
    refine lv_goto (tgt := 1611) hxe hb dL_law_1553 (by decide) ?_
    exact W.widen (k := cells + 137) (n := slots + 848) (by omega) (by omega) (kk G N S (xsel x (gxGuT S G N (xs (nI i + 1).toNatClampNeg).toNatClampNeg (S 5 (xs (nI i + 1).toNatClampNeg).toNatClampNeg) 1) T) (mM_bestOrder M N G (xs (nI i + 1).toNatClampNeg)) (mK_bestOrder M K N G (xs (nI i + 1).toNatClampNeg)) (osel x f ((gxBo S G N (xs (nI i + 1).toNatClampNeg).toNatClampNeg))) H locs ls u3 hP hD hS (lv_sub hl [2, 3, 4, 5, 6] rfl))

set_option maxRecDepth 20000 in
theorem lc_meanWaited {p : Program} {l : Launch} {e : Env} {s : State} {m : MethodId} {args : Array Value} {below : List Frame} {meth : Method} {c : Code} {Q : State → Prop} {D : va_G} {cI cL : ClassId} {A : Nat → Prop} {b L : Nat} {xs : Nat → Int32}
    (hl0 : l.stackTraces = false) (hC : CallFix p m c cL_law 9 s args wsL_law RL) (hTh : gTh A s s.heap) (hNc : gNc s) (hK : va_K D vwCl [(cI, .int), (cL, .long)] s) (hA : ∀ q, s.heap.size ≤ q → A q) (hX : va_X b L xs s s.heap) (hbl : b < s.heap.size) (hbA : ¬ A b)
    {t o : Nat} {r : Nat → Nat} {S : SS} {o1 : Nat} {r1 : Nat → Nat} {T : SS} {t2 : Nat} {q : Nat → Nat} {M K : SS} {ob : Nat} {f : Nat → Int64} {G N i cells slots : Nat} {H : Heap} {locs : List Loc} {ls : Array Slot}
    (hI : Inv G N S M) (hi : i + 6 ≤ L) (hL : L ≤ 3072) (hcs : cells + 137 ≤ 601024 ∧ slots + 848 ≤ 7293034) (hP : va_P D vwCl (mw cI t2 q M K ++ (tw cI t o r S o1 r1 T ++ oc cL ob f)) H) (hD : va_D A (mw cI t2 q M K ++ (tw cI t o r S o1 r1 T ++ oc cL ob f))) (hS : va_S A s.heap H locs) (hl : lv_has ls 9 [(0, .ref b), (1, .ref t), (2, .ref t2), (3, .ref ob), (4, .int (nI i))])
    (kk : ∀ (G N : Nat) (S T M K : SS) (f : Nat → Int64) (H : Heap) (locs : List Loc) (ls : Array Slot), Inv G N S M → va_P D vwCl (mw cI t2 q M K ++ (tw cI t o r S o1 r1 T ++ oc cL ob f)) H → va_D A (mw cI t2 q M K ++ (tw cI t o r S o1 r1 T ++ oc cL ob f)) → va_S A s.heap H locs → lv_has ls 9 [(0, .ref b), (1, .ref t), (2, .ref t2), (3, .ref ob), (4, .int (nI i))] → W p l e room_1 s m args below meth c H locs (cells + 137) (slots + 848) Q (F0 m 1611 ls [])) : W p l e room_1 s m args below meth c H locs cells slots Q (F0 m 1556 ls []) := by
  have hxe := hC.1
  have hb := hC.2.1
  have hI' := hI
  obtain ⟨hN12, hG4, hSG, hSN, hMG, hMN, rel, -, -⟩ := hI'
  have hKi : va_K D vwCl [(cI, .int)] s := ⟨hK.1, fun k z hz => by
    cases k with
    | zero => exact hK.2 0 z hz
    | succ k => cases hz⟩
  refine lv_aload_n hxe hb dL_law_1556 rfl (lv_at hl 1 rfl) ?_
  refine gt_callV hC (mw cI t2 q M K) (oc cL ob f) 0 1 0 (ws' := mw cI t2 q M K ++ (tw cI t o r S o1 r1 T ++ oc cL ob f)) (ct_X1_meanWaited l D cI t o r S o1 r1 T N hSN hN12) gL_law_X1_meanWaited dL_law_1557 hKi hP hD hS hA hl.1 rfl hd_X1_meanWaited ⟨Nat.le_of_ble_eq_true rfl, Nat.le_of_ble_eq_true rfl⟩ ⟨by show cells + 0 ≤ 601024; omega, by show slots + 0 ≤ 7293034; omega⟩ rfl rfl rfl rfl rfl rfl (Nat.le_of_ble_eq_true rfl) (fun H locs hP hD hS => ?_)
  refine gt_stk [.double (gxMean S N)] rfl ?_
  refine lv_dstore (lv' := (5, .double (gxMean S N)) :: [(0, .ref b), (1, .ref t), (2, .ref t2), (3, .ref ob), (4, .int (nI i))]) hxe hb dL_law_1560 hl (by decide) rfl (fun ls hl => ?_)
  refine lv_aload_n hxe hb dL_law_1562 rfl (lv_at hl 3 rfl) ?_
  refine gt_callV hC [] (tw cI t o r S o1 r1 T ++ oc cL ob f) 0 2 0 (ws' := mw cI t2 q (up2 M 12 0 0) K ++ (tw cI t o r S o1 r1 T ++ oc cL ob f)) (ct_X2_meanWaited l D cI t2 q M K N hMN hN12) gL_law_X2_meanWaited dL_law_1563 hKi hP hD hS hA hl.1 rfl hd_X2_meanWaited ⟨Nat.le_of_ble_eq_true rfl, Nat.le_of_ble_eq_true rfl⟩ ⟨by show cells + 0 + 0 ≤ 601024; omega, by show slots + 0 + 0 ≤ 7293034; omega⟩ rfl rfl rfl rfl rfl rfl (Nat.le_of_ble_eq_true rfl) (fun H locs hP hD hS => ?_)
  have hv : mMean M N = gxMean S N := r_mean rel.1 (hMN.trans hSN.symm)
  refine gt_stk [.double (gxMean S N)] (by rw [← hv]; rfl) ?_
  refine lv_dstore (lv' := (7, .double (gxMean S N)) :: (5, .double (gxMean S N)) :: [(0, .ref b), (1, .ref t), (2, .ref t2), (3, .ref ob), (4, .int (nI i))]) hxe hb dL_law_1566 hl (by decide) rfl (fun ls hl => ?_)
  refine lv_dload hxe hb dL_law_1568 (lv_at hl 1 rfl) ?_
  refine lv_dload hxe hb dL_law_1570 (lv_at hl 0 rfl) ?_
  refine lv_dcmp hxe hb dL_law_1572 ?_
  refine gt_stk [.int 0] (by rw [gxMean_self S N]) ?_
  refine lv_if_eq (tgt := 1594) hxe hb dL_law_1573 (by decide) (fun _ => ?_) (fun z => absurd rfl z)
  refine lv_goto (tgt := 1611) hxe hb dL_law_1594 (by decide) ?_
  exact W.widen (k := cells + 137) (n := slots + 848) (by omega) (by omega) (kk G N S T (up2 M 12 0 0) K f H locs ls (inv_t hI 0) hP hD hS (lv_sub hl [2, 3, 4, 5, 6] rfl))

set_option maxRecDepth 20000 in
theorem lc_digest {p : Program} {l : Launch} {e : Env} {s : State} {m : MethodId} {args : Array Value} {below : List Frame} {meth : Method} {c : Code} {Q : State → Prop} {D : va_G} {cI cL : ClassId} {A : Nat → Prop} {b L : Nat} {xs : Nat → Int32}
    (hl0 : l.stackTraces = false) (hC : CallFix p m c cL_law 9 s args wsL_law RL) (hTh : gTh A s s.heap) (hNc : gNc s) (hK : va_K D vwCl [(cI, .int), (cL, .long)] s) (hA : ∀ q, s.heap.size ≤ q → A q) (hX : va_X b L xs s s.heap) (hbl : b < s.heap.size) (hbA : ¬ A b)
    {t o : Nat} {r : Nat → Nat} {S : SS} {o1 : Nat} {r1 : Nat → Nat} {T : SS} {t2 : Nat} {q : Nat → Nat} {M K : SS} {ob : Nat} {f : Nat → Int64} {G N i cells slots : Nat} {H : Heap} {locs : List Loc} {ls : Array Slot}
    (hI : Inv G N S M) (hi : i + 6 ≤ L) (hL : L ≤ 3072) (hcs : cells + 137 ≤ 601024 ∧ slots + 848 ≤ 7293034) (hP : va_P D vwCl (mw cI t2 q M K ++ (tw cI t o r S o1 r1 T ++ oc cL ob f)) H) (hD : va_D A (mw cI t2 q M K ++ (tw cI t o r S o1 r1 T ++ oc cL ob f))) (hS : va_S A s.heap H locs) (hl : lv_has ls 9 [(0, .ref b), (1, .ref t), (2, .ref t2), (3, .ref ob), (4, .int (nI i))])
    (kk : ∀ (G N : Nat) (S T M K : SS) (f : Nat → Int64) (H : Heap) (locs : List Loc) (ls : Array Slot), Inv G N S M → va_P D vwCl (mw cI t2 q M K ++ (tw cI t o r S o1 r1 T ++ oc cL ob f)) H → va_D A (mw cI t2 q M K ++ (tw cI t o r S o1 r1 T ++ oc cL ob f)) → va_S A s.heap H locs → lv_has ls 9 [(0, .ref b), (1, .ref t), (2, .ref t2), (3, .ref ob), (4, .int (nI i))] → W p l e room_1 s m args below meth c H locs (cells + 137) (slots + 848) Q (F0 m 1611 ls [])) : W p l e room_1 s m args below meth c H locs cells slots Q (F0 m 1597 ls []) := by
  have hxe := hC.1
  have hb := hC.2.1
  have hI' := hI
  obtain ⟨hN12, hG4, hSG, hSN, hMG, hMN, rel, -, -⟩ := hI'
  have hKi : va_K D vwCl [(cI, .int)] s := ⟨hK.1, fun k z hz => by
    cases k with
    | zero => exact hK.2 0 z hz
    | succ k => cases hz⟩
  refine lv_aload_n hxe hb dL_law_1597 rfl (lv_at hl 1 rfl) ?_
  refine gl_callX hC 0 1 0 (wa := mw cI t2 q M K) (wb := oc cL ob f) (ct_X1_digest l hl0 D cI t o r S o1 r1 T N hSN hN12 G hSG hG4) gL_law_X1_digest dL_law_1598 hTh hKi hP hD hS hA hl.1 rfl hd_X1_digest ⟨Nat.le_of_ble_eq_true rfl, Nat.le_of_ble_eq_true rfl⟩ ⟨by show cells + 120 ≤ 601024; omega, by show slots + 720 ≤ 7293034; omega⟩ rfl rfl rfl rfl (Nat.le_of_ble_eq_true rfl) (fun H locs hP hD hS => ?_)
  refine gt_stk [.long (gxDk S G N N)] rfl ?_
  refine lv_aload_n hxe hb dL_law_1601 rfl (lv_at hl 2 rfl) ?_
  refine gt_callV hC [] (tw cI t o r S o1 r1 (gxT2 S T G N N) ++ oc cL ob f) 0 2 0 (ws' := mw cI t2 q (up2 M 12 0 0) (mKk (up2 M 12 0 0) K G N) ++ (tw cI t o r S o1 r1 (gxT2 S T G N N) ++ oc cL ob f)) (ct_X2_digest l D cI t2 q M K N hMN hN12 G hMG hG4 (fun X g => mOpN_lt hN12 X g) (fun k hk => r_hu (inv_t hI 0).2.2.2.2.2.2.1 hN12 hG4 hk)) gL_law_X2_digest dL_law_1602 hKi hP hD hS hA hl.1 rfl hd_X2_digest ⟨Nat.le_of_ble_eq_true rfl, Nat.le_of_ble_eq_true rfl⟩ ⟨by show cells + 120 + 17 ≤ 601024; omega, by show slots + 720 + 128 ≤ 7293034; omega⟩ rfl rfl rfl rfl rfl rfl (Nat.le_of_ble_eq_true rfl) (fun H locs hP hD hS => ?_)
  refine gt_stk [.long (mDk (up2 M 12 0 0) G N N), .long (gxDk S G N N)] rfl ?_
  refine W.lcmp hxe hb dL_law_1605 ?_
  have hv : mDk (up2 M 12 0 0) G N N = gxDk S G N N := r_dg (inv_t hI 0).2.2.2.2.2.2.1 hN12 hG4 (hMG.trans hSG.symm) (hMN.trans hSN.symm)
  refine gt_stk [.int 0] (by rw [hv, lg_cmp_self]) ?_
  refine lv_if_eq (tgt := 1611) hxe hb dL_law_1606 (by decide) (fun _ => ?_) (fun z => absurd rfl z)
  exact W.widen (k := cells + 137) (n := slots + 848) (by omega) (by omega) (kk G N S (gxT2 S T G N N) (up2 M 12 0 0) (mKk (up2 M 12 0 0) K G N) f H locs ls (inv_t hI 0) hP hD hS hl)
