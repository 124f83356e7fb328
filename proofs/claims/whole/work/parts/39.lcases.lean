/-! The law's turns, one for each number. -/
set_option maxRecDepth 20000 in
theorem lc_addGate {p : Program} {l : Launch} {e : Env} {s : State} {m : MethodId} {args : Array Value} {below : List Frame} {meth : Method} {c : Code} {Q : State → Prop} {D : va_G} {cI cL : ClassId} {A : Nat → Prop} {b L : Nat} {xs : Nat → Int32}
    (hl0 : l.stackTraces = false) (hC : CallFix p m c cL_law 9 s args wsL_law RL) (hTh : gTh A s s.heap) (hNc : gNc s) (hK : va_K D vwCl [(cI, .int), (cL, .long)] s) (hA : ∀ q, s.heap.size ≤ q → A q) (hX : va_X b L xs s s.heap) (hbl : b < s.heap.size) (hbA : ¬ A b)
    {t o : Nat} {r : Nat → Nat} {S : SS} {o1 : Nat} {r1 : Nat → Nat} {T : SS} {t2 : Nat} {q : Nat → Nat} {M K : SS} {ob : Nat} {f : Nat → Int64} {G N i cells slots : Nat} {H : Heap} {locs : List Loc} {ls : Array Slot}
    (hI : Inv G N S M) (hi : i + 6 ≤ L) (hL : L ≤ 3072) (hcs : cells + 137 ≤ 601024 ∧ slots + 848 ≤ 7293034) (hP : va_P D vwCl (mw cI t2 q M K ++ (tw cI t o r S o1 r1 T ++ oc cL ob f)) H) (hD : va_D A (mw cI t2 q M K ++ (tw cI t o r S o1 r1 T ++ oc cL ob f))) (hS : va_S A s.heap H locs) (hl : lv_has ls 9 [(0, .ref b), (1, .ref t), (2, .ref t2), (3, .ref ob), (4, .int (nI i))])
    (kk : ∀ (G N : Nat) (S T M K : SS) (f : Nat → Int64) (H : Heap) (locs : List Loc) (ls : Array Slot), Inv G N S M → va_P D vwCl (mw cI t2 q M K ++ (tw cI t o r S o1 r1 T ++ oc cL ob f)) H → va_D A (mw cI t2 q M K ++ (tw cI t o r S o1 r1 T ++ oc cL ob f)) → va_S A s.heap H locs → lv_has ls 9 [(0, .ref b), (1, .ref t), (2, .ref t2), (3, .ref ob), (4, .int (nI i))] → W p l e room_1 s m args below meth c H locs (cells + 137) (slots + 848) Q (F0 m 1611 ls [])) : W p l e room_1 s m args below meth c H locs cells slots Q (F0 m 180 ls []) := by
  have hxe := hC.1
  have hb := hC.2.1
  have hI' := hI
  obtain ⟨hN12, hG4, hSG, hSN, hMG, hMN, rel, -, -⟩ := hI'
  have hKi : va_K D vwCl [(cI, .int)] s := ⟨hK.1, fun k z hz => by
    cases k with
    | zero => exact hK.2 0 z hz
    | succ k => cases hz⟩
  have h1 : vp_in (nI i + 1) L := by
    rw [show nI i + 1 = nI (i + 1) from nI_add i 1]
    exact vp_in_nI (by omega) (by omega)
  have h2 : vp_in (nI i + 2) L := by
    rw [show nI i + 2 = nI (i + 2) from nI_add i 2]
    exact vp_in_nI (by omega) (by omega)
  refine lv_aload_n hxe hb dL_law_180 rfl (lv_at hl 1 rfl) ?_
  refine lv_aload_n hxe hb dL_law_181 rfl (lv_at hl 0 rfl) ?_
  refine lv_iload hxe hb dL_law_182 (lv_at hl 4 rfl) ?_
  refine lv_iconst (v := 1) hxe hb dL_law_184 (by decide) ?_
  refine lv_iadd hxe hb dL_law_185 ?_
  refine va_sld hxe hb hX hbl hbA hS h1 dL_law_186 ?_
  refine lv_aload_n hxe hb dL_law_187 rfl (lv_at hl 0 rfl) ?_
  refine lv_iload hxe hb dL_law_188 (lv_at hl 4 rfl) ?_
  refine lv_iconst (v := 2) hxe hb dL_law_190 (by decide) ?_
  refine lv_iadd hxe hb dL_law_191 ?_
  refine va_sld hxe hb hX hbl hbA hS h2 dL_law_192 ?_
  refine lv_aload_n hxe hb dL_law_193 rfl (lv_at hl 3 rfl) ?_
  obtain ⟨x, hx⟩ : ∃ x : Option String, x = ((xNum (xs (nI i + 1).toNatClampNeg) 9).or ((xOrd (xs (nI i + 2).toNatClampNeg)).or (xRg S))) := ⟨_, rfl⟩
  refine gl_callS hC 4 (wa := mw cI t2 q M K) (cw_addGate l hl0 D cI t o r S o1 r1 T cL ob f (xs (nI i + 1).toNatClampNeg) (xs (nI i + 2).toNatClampNeg) G hSG hG4 x hx) gL_law_L_addGate dL_law_194 hTh hNc hK hP hD hS hA hl.1 rfl hd_L_addGate ⟨Nat.le_of_ble_eq_true rfl, Nat.le_of_ble_eq_true rfl⟩ ⟨by show cells + 2 ≤ 601024; omega, by show slots + 12 ≤ 7293034; omega⟩ rfl rfl (Nat.le_of_ble_eq_true rfl) (fun H locs hP hD hS => ?_)
  refine lv_istore (lv' := (5, .int (xc gxIA gxIS x)) :: [(0, .ref b), (1, .ref t), (2, .ref t2), (3, .ref ob), (4, .int (nI i))]) hxe hb dL_law_197 hl (by decide) rfl (fun ls hl => ?_)
  refine lv_aload_n hxe hb dL_law_199 rfl (lv_at hl 3 rfl) ?_
  refine lv_aload_n hxe hb dL_law_200 rfl (lv_at hl 1 rfl) ?_
  refine lv_iload hxe hb dL_law_201 (lv_at hl 5 rfl) ?_
  refine lv_iconst (v := 1) hxe hb dL_law_203 (by decide) ?_
  refine lv_iadd hxe hb dL_law_204 ?_
  refine va_sld hxe hb hX hbl hbA hS h1 dL_law_205 ?_
  refine lv_aload_n hxe hb dL_law_206 rfl (lv_at hl 1 rfl) ?_
  refine lv_iload hxe hb dL_law_207 (lv_at hl 5 rfl) ?_
  refine lv_iconst (v := 2) hxe hb dL_law_209 (by decide) ?_
  refine lv_iadd hxe hb dL_law_210 ?_
  refine va_sld hxe hb hX hbl hbA hS h2 dL_law_211 ?_
  refine gt_callV hC [] (tw cI t o r (xsel x (gxOpn S G (xs (nI i + 1).toNatClampNeg) (xs (nI i + 2).toNatClampNeg)) S) o1 r1 T ++ oc cL ob (osel x f ((S 0 1)))) 0 2 2 (ws' := mw cI t2 q (mM_addGate M N G (xs (nI i + 1).toNatClampNeg) (xs (nI i + 2).toNatClampNeg)) K ++ (tw cI t o r (xsel x (gxOpn S G (xs (nI i + 1).toNatClampNeg) (xs (nI i + 2).toNatClampNeg)) S) o1 r1 T ++ oc cL ob (osel x f ((S 0 1))))) (ct_X2_addGate l D cI t2 q M K (xs (nI i + 1).toNatClampNeg) (xs (nI i + 2).toNatClampNeg) N hMN hN12 G hMG hG4 (fun X g => mOpN_lt hN12 X g)) gL_law_X2_addGate dL_law_212 hKi hP hD hS hA hl.1 rfl hd_X2_addGate ⟨Nat.le_of_ble_eq_true rfl, Nat.le_of_ble_eq_true rfl⟩ ⟨by show cells + 2 + 0 ≤ 601024; omega, by show slots + 12 + 0 ≤ 7293034; omega⟩ rfl rfl rfl rfl rfl rfl (Nat.le_of_ble_eq_true rfl) (fun H locs hP hD hS => ?_)
  refine gt_stk [.int (mR_addGate M N G (xs (nI i + 1).toNatClampNeg) (xs (nI i + 2).toNatClampNeg))] rfl ?_
  refine lv_istore (lv' := (6, .int (mR_addGate M N G (xs (nI i + 1).toNatClampNeg) (xs (nI i + 2).toNatClampNeg))) :: (5, .int (xc gxIA gxIS x)) :: [(0, .ref b), (1, .ref t), (2, .ref t2), (3, .ref ob), (4, .int (nI i))]) hxe hb dL_law_215 hl (by decide) rfl (fun ls hl => ?_)
  refine lv_aload_n hxe hb dL_law_217 rfl (lv_at hl 4 rfl) ?_
  refine gt_callV hC [] (tw cI t o r (xsel x (gxOpn S G (xs (nI i + 1).toNatClampNeg) (xs (nI i + 2).toNatClampNeg)) S) o1 r1 T ++ oc cL ob (osel x f ((S 0 1)))) 0 2 0 (ws' := mw cI t2 q (mM_addGate M N G (xs (nI i + 1).toNatClampNeg) (xs (nI i + 2).toNatClampNeg)) K ++ (tw cI t o r (xsel x (gxOpn S G (xs (nI i + 1).toNatClampNeg) (xs (nI i + 2).toNatClampNeg)) S) o1 r1 T ++ oc cL ob (osel x f ((S 0 1))))) (ct_X2_thrown l D cI t2 q (mM_addGate M N G (xs (nI i + 1).toNatClampNeg) (xs (nI i + 2).toNatClampNeg)) K) gL_law_X2_thrown dL_law_218 hKi hP hD hS hA hl.1 rfl hd_X2_thrown ⟨Nat.le_of_ble_eq_true rfl, Nat.le_of_ble_eq_true rfl⟩ ⟨by show cells + 2 + 0 + 0 ≤ 601024; omega, by show slots + 12 + 0 + 0 ≤ 7293034; omega⟩ rfl rfl rfl rfl rfl rfl (Nat.le_of_ble_eq_true rfl) (fun H locs hP hD hS => ?_)
  have hop := op_addGate hI (xs (nI i + 1).toNatClampNeg) (xs (nI i + 2).toNatClampNeg)
  rw [← hx] at hop
  obtain ⟨u1, u2, u3⟩ := hop
  obtain ⟨G2, u3⟩ := u3
  refine gt_stk [.int ((mM_addGate M N G (xs (nI i + 1).toNatClampNeg) (xs (nI i + 2).toNatClampNeg)) 12 0)] rfl ?_
  refine lv_iload hxe hb dL_law_221 (lv_at hl 1 rfl) ?_
  refine lv_icmp_eq (tgt := 228) hxe hb dL_law_223 (by decide) (fun _ => ?_) (fun z => absurd u1 z)
  refine lv_iload hxe hb dL_law_228 (lv_at hl 1 rfl) ?_
  refine lv_if_ne (tgt := 245) hxe hb dL_law_230 (by decide) (fun _ => ?_) (fun hz => ?_)
  · refine lv_goto (tgt := 1611) hxe hb dL_law_245 (by decide) ?_
    exact W.widen (k := cells + 137) (n := slots + 848) (by omega) (by omega) (kk G2 N (xsel x (gxOpn S G (xs (nI i + 1).toNatClampNeg) (xs (nI i + 2).toNatClampNeg)) S) T (mM_addGate M N G (xs (nI i + 1).toNatClampNeg) (xs (nI i + 2).toNatClampNeg)) K (osel x f ((S 0 1))) H locs ls u3 hP hD hS (lv_sub hl [2, 3, 4, 5, 6] rfl))
  · have hx0 := xc_0 hz
    refine lv_aload_n hxe hb dL_law_233 rfl (lv_at hl 5 rfl) ?_
    refine lv_iconst (v := 0) hxe hb dL_law_234 (by decide) ?_
    refine va_lald (f := (osel x f ((S 0 1)))) (i := 0) (n := 1) (cA := cL) hxe hb hK hP (6 + 27) 1 rfl rfl (by unfold vp_in; decide) dL_law_235 ?_
    refine lv_iload hxe hb dL_law_236 (lv_at hl 0 rfl) ?_
    refine lv_i2l hxe hb dL_law_238 rfl ?_
    refine W.lcmp hxe hb dL_law_239 ?_
    have hv : (osel x f ((S 0 1))) (0 : Int32).toNatClampNeg = Int32.toInt64 (mR_addGate M N G (xs (nI i + 1).toNatClampNeg) (xs (nI i + 2).toNatClampNeg)) := by
      rw [u2 hx0, hx0, osel_n]
      rfl
    refine gt_stk [.int 0] (by rw [hv, lg_cmp_self]) ?_
    refine lv_if_eq (tgt := 245) hxe hb dL_law_240 (by decide) (fun _ => ?_) (fun z => absurd rfl z)
    refine lv_goto (tgt := 1611) hxe hb dL_law_245 (by decide) ?_
    exact W.widen (k := cells + 137) (n := slots + 848) (by omega) (by omega) (kk G2 N (xsel x (gxOpn S G (xs (nI i + 1).toNatClampNeg) (xs (nI i + 2).toNatClampNeg)) S) T (mM_addGate M N G (xs (nI i + 1).toNatClampNeg) (xs (nI i + 2).toNatClampNeg)) K (osel x f ((S 0 1))) H locs ls u3 hP hD hS (lv_sub hl [2, 3, 4, 5, 6] rfl))

set_option maxRecDepth 20000 in
theorem lc_minute {p : Program} {l : Launch} {e : Env} {s : State} {m : MethodId} {args : Array Value} {below : List Frame} {meth : Method} {c : Code} {Q : State → Prop} {D : va_G} {cI cL : ClassId} {A : Nat → Prop} {b L : Nat} {xs : Nat → Int32}
    (hl0 : l.stackTraces = false) (hC : CallFix p m c cL_law 9 s args wsL_law RL) (hTh : gTh A s s.heap) (hNc : gNc s) (hK : va_K D vwCl [(cI, .int), (cL, .long)] s) (hA : ∀ q, s.heap.size ≤ q → A q) (hX : va_X b L xs s s.heap) (hbl : b < s.heap.size) (hbA : ¬ A b)
    {t o : Nat} {r : Nat → Nat} {S : SS} {o1 : Nat} {r1 : Nat → Nat} {T : SS} {t2 : Nat} {q : Nat → Nat} {M K : SS} {ob : Nat} {f : Nat → Int64} {G N i cells slots : Nat} {H : Heap} {locs : List Loc} {ls : Array Slot}
    (hI : Inv G N S M) (hi : i + 6 ≤ L) (hL : L ≤ 3072) (hcs : cells + 137 ≤ 601024 ∧ slots + 848 ≤ 7293034) (hP : va_P D vwCl (mw cI t2 q M K ++ (tw cI t o r S o1 r1 T ++ oc cL ob f)) H) (hD : va_D A (mw cI t2 q M K ++ (tw cI t o r S o1 r1 T ++ oc cL ob f))) (hS : va_S A s.heap H locs) (hl : lv_has ls 9 [(0, .ref b), (1, .ref t), (2, .ref t2), (3, .ref ob), (4, .int (nI i))])
    (kk : ∀ (G N : Nat) (S T M K : SS) (f : Nat → Int64) (H : Heap) (locs : List Loc) (ls : Array Slot), Inv G N S M → va_P D vwCl (mw cI t2 q M K ++ (tw cI t o r S o1 r1 T ++ oc cL ob f)) H → va_D A (mw cI t2 q M K ++ (tw cI t o r S o1 r1 T ++ oc cL ob f)) → va_S A s.heap H locs → lv_has ls 9 [(0, .ref b), (1, .ref t), (2, .ref t2), (3, .ref ob), (4, .int (nI i))] → W p l e room_1 s m args below meth c H locs (cells + 137) (slots + 848) Q (F0 m 1611 ls [])) : W p l e room_1 s m args below meth c H locs cells slots Q (F0 m 612 ls []) := by
  have hxe := hC.1
  have hb := hC.2.1
  have hI' := hI
  obtain ⟨hN12, hG4, hSG, hSN, hMG, hMN, rel, -, -⟩ := hI'
  have hKi : va_K D vwCl [(cI, .int)] s := ⟨hK.1, fun k z hz => by
    cases k with
    | zero => exact hK.2 0 z hz
    | succ k => cases hz⟩
  refine lv_aload_n hxe hb dL_law_612 rfl (lv_at hl 1 rfl) ?_
  refine gt_callV hC (mw cI t2 q M K) (oc cL ob f) 0 1 0 (ws' := mw cI t2 q M K ++ (tw cI t o r S o1 r1 T ++ oc cL ob f)) (ct_X1_minute l D cI t o r S o1 r1 T ) gL_law_X1_minute dL_law_613 hKi hP hD hS hA hl.1 rfl hd_X1_minute ⟨Nat.le_of_ble_eq_true rfl, Nat.le_of_ble_eq_true rfl⟩ ⟨by show cells + 0 ≤ 601024; omega, by show slots + 0 ≤ 7293034; omega⟩ rfl rfl rfl rfl rfl rfl (Nat.le_of_ble_eq_true rfl) (fun H locs hP hD hS => ?_)
  refine gt_stk [.int (S 0 0)] rfl ?_
  refine lv_aload_n hxe hb dL_law_616 rfl (lv_at hl 2 rfl) ?_
  refine gt_callV hC [] (tw cI t o r S o1 r1 T ++ oc cL ob f) 0 2 0 (ws' := mw cI t2 q (mM_minute M N G) K ++ (tw cI t o r S o1 r1 T ++ oc cL ob f)) (ct_X2_minute l D cI t2 q M K N hMN hN12 G hMG hG4 (fun X g => mOpN_lt hN12 X g)) gL_law_X2_minute dL_law_617 hKi hP hD hS hA hl.1 rfl hd_X2_minute ⟨Nat.le_of_ble_eq_true rfl, Nat.le_of_ble_eq_true rfl⟩ ⟨by show cells + 0 + 0 ≤ 601024; omega, by show slots + 0 + 0 ≤ 7293034; omega⟩ rfl rfl rfl rfl rfl rfl (Nat.le_of_ble_eq_true rfl) (fun H locs hP hD hS => ?_)
  refine gt_stk [.int (mR_minute M N G), .int (S 0 0)] rfl ?_
  have hv : S 0 0 = (mR_minute M N G) := rel.2.2.1.1.symm
  refine lv_icmp_eq (tgt := 1611) hxe hb dL_law_620 (by decide) (fun _ => ?_) (fun z => absurd hv z)
  exact W.widen (k := cells + 137) (n := slots + 848) (by omega) (by omega) (kk G N S T (mM_minute M N G) K f H locs ls (inv_t hI 0) hP hD hS hl)
