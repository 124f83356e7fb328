/-! The law's turns, one for each number. -/
set_option maxRecDepth 20000 in
theorem lc_addGate {p : Program} {l : Launch} {e : Env} {s : State} {m : MethodId} {args : Array Value} {below : List Frame} {meth : Method} {c : Code} {Q : State → Prop} {D : va_G} {cI cL : ClassId} {A : Nat → Prop} {b L : Nat} {xs : Nat → Int32}
    (hl0 : l.stackTraces = false) (hC : CallFix p m c cL_law 9 s args wsL_law RL) (hTh : gTh A s s.heap) (hNc : gNc s) (hK : va_K D vwCl [(cI, .int), (cL, .long)] s) (hA : ∀ q, s.heap.size ≤ q → A q) (hX : va_X b L xs s s.heap) (hbl : b < s.heap.size) (hbA : ¬ A b)
    {t o : Nat} {r : Nat → Nat} {S : SS} {o1 : Nat} {r1 : Nat → Nat} {T : SS} {t2 : Nat} {q : Nat → Nat} {M K : SS} {ob : Nat} {f : Nat → Int64} {G N i cells slots : Nat} {H : Heap} {locs : List Loc} {ls : Array Slot}
    (hI : Inv G N S M) (hi : i + 6 ≤ L) (hL : L ≤ 3072) (hcs : cells + 137 ≤ 601024 ∧ slots + 848 ≤ 7293034) (hP : va_P D vwCl (mw cI t2 q M K ++ (tw cI t o r S o1 r1 T ++ oc cL ob f)) H) (hD : va_D A (mw cI t2 q M K ++ (tw cI t o r S o1 r1 T ++ oc cL ob f))) (hS : va_S A s.heap H locs) (hl : lv_has ls 9 [(0, .ref b), (1, .ref t), (2, .ref t2), (3, .ref ob), (4, .int (nI i))])
    (kk : ∀ (G N : Nat) (S T M K : SS) (f : Nat → Int64) (H : Heap) (locs : List Loc) (ls : Array Slot), Inv G N S M → va_P D vwCl (mw cI t2 q M K ++ (tw cI t o r S o1 r1 T ++ oc cL ob f)) H → va_D A (mw cI t2 q M K ++ (tw cI t o r S o1 r1 T ++ oc cL ob f)) → va_S A s.heap H locs → lv_has ls 9 [(0, .ref b), (1, .ref t), (2, .ref t2), (3, .ref ob), (4, .int (nI i))] → W p l e room_1 s m args below meth c H locs (cells + 137) (slots + 848) Q (F0 m 1611 ls [])) : W p l e room_1 s m args below meth c H locs cells slots Q (F0 m 180 ls []) := by
  have hxe := hC.1
  have hb := hC.2.1
  have hI' := hI
  obtain ⟨hN12, hG4, hSG, hSN, hMG, hMN, rel, -, -⟩ := hI'
  have hKi : va_K D vwCl [(cI, .int)] s := ⟨hK.1, fun k z hz => by
    cases k with
    | zero => exact hK.2 0 z hz
    | succ k => cases hz⟩
  have h1 : vp_in (nI i + 1) L := by
    rw [show nI i + 1 = nI (i + 1) from nI_add i 1]
    exact vp_in_nI (by omega) (by omega)
  have h2 : vp_in (nI i + 2) L := by
    rw [show nI i + 2 = nI (i + 2) from nI_add i 2]
    exact vp_in_nI (by omega) (by omega)
  refine lv_aload_n hxe hb dL_law_180 rfl (lv_at hl 1 rfl) ?_
  refine lv_aload_n hxe hb dL_law_181 rfl (lv_at hl 0 rfl) ?_
  refine lv_iload hxe hb dL_law_182 (lv_at hl 4 rfl) ?_
  refine lv_iconst (v := 1) hxe hb dL_law_184 (by decide) ?_
  refine lv_iadd hxe hb dL_law_185 ?_
  refine va_sld hxe hb hX hbl hbA hS h1 dL_law_186 ?_
  refine lv_aload_n hxe hb dL_law_187 rfl (lv_at hl 0 rfl) ?_
  refine lv_iload hxe hb dL_law_188 (lv_at hl 4 rfl) ?_
  refine lv_iconst (v := 2) hxe hb dL_law_190 (by decide) ?_
  refine lv_iadd hxe hb dL_law_191 ?_
  refine va_sld hxe hb hX hbl hbA hS h2 dL_law_192 ?_
  refine lv_aload_n hxe hb dL_law_193 rfl (lv_at hl 3 rfl) ?_
  obtain ⟨x, hx⟩ : ∃ x : Option String, x = ((xNum (xs (nI i + 1).toNatClampNeg) 9).or ((xOrd (xs (nI i + 2).toNatClampNeg)).or (xRg S))) := ⟨_, rfl⟩
  refine gl_callS hC 4 (wa := mw cI t2 q M K) (cw_addGate l hl0 D cI t o r S o1 r1 T cL ob f (xs (nI i + 1).toNatClampNeg) (xs (nI i + 2).toNatClampNeg) G hSG hG4 x hx) gL_law_L_addGate dL_law_194 hTh hNc hK hP hD hS hA hl.1 rfl hd_L_addGate ⟨Nat.le_of_ble_eq_true rfl, Nat.le_of_ble_eq_true rfl⟩ ⟨by show cells + 2 ≤ 601024; omega, by show slots + 12 ≤ 7293034; omega⟩ rfl rfl (Nat.le_of_ble_eq_true rfl) (fun H locs hP hD hS => ?_)
  refine lv_istore (lv' := (5, .int (xc gxIA gxIS x)) :: [(0, .ref b), (1, .ref t), (2, .ref t2), (3, .ref ob), (4, .int (nI i))]) hxe hb dL_law_197 hl (by decide) rfl (fun ls hl => ?_)
  refine lv_aload_n hxe hb dL_law_199 rfl (lv_at hl 3 rfl) ?_
  refine lv_aload_n hxe hb dL_law_200 rfl (lv_at hl 1 rfl) ?_
  refine lv_iload hxe hb dL_law_201 (lv_at hl 5 rfl) ?_
  refine lv_iconst (v := 1) hxe hb dL_law_203 (by decide) ?_
  refine lv_iadd hxe hb dL_law_204 ?_
  refine va_sld hxe hb hX hbl hbA hS h1 dL_law_205 ?_
  refine lv_aload_n hxe hb dL_law_206 rfl (lv_at hl 1 rfl) ?_
  refine lv_iload hxe hb dL_law_207 (lv_at hl 5 rfl) ?_
  refine lv_iconst (v := 2) hxe hb dL_law_209 (by decide) ?_
  refine lv_iadd hxe hb dL_law_210 ?_
  refine va_sld hxe hb hX hbl hbA hS h2 dL_law_211 ?_
  refine gt_callV hC [] (tw cI t o r (xsel x (gxOpn S G (xs (nI i + 1).toNatClampNeg) (xs (nI i + 2).toNatClampNeg)) S) o1 r1 T ++ oc cL ob (osel x f ((S 0 1)))) 0 2 2 (ws' := mw cI t2 q (mM_addGate M N G (xs (nI i + 1).toNatClampNeg) (xs (nI i + 2).toNatClampNeg)) K ++ (tw cI t o r (xsel x (gxOpn S G (xs (nI i + 1).toNatClampNeg) (xs (nI i + 2).toNatClampNeg)) S) o1 r1 T ++ oc cL ob (osel x f ((S 0 1))))) (ct_X2_addGate l D cI t2 q M K (xs (nI i + 1).toNatClampNeg) (xs (nI i + 2).toNatClampNeg) N hMN hN12 G hMG hG4 (fun X g => mOpN_lt hN12 X g)) gL_law_X2_addGate dL_law_212 hKi hP hD hS hA hl.1 rfl hd_X2_addGate ⟨Nat.le_of_ble_eq_true rfl, Nat.le_of_ble_eq_true rfl⟩ ⟨by show cells + 2 + 0 ≤ 601024; omega, by show slots + 12 + 0 ≤ 7293034; omega⟩ rfl rfl rfl rfl rfl rfl (Nat.le_of_ble_eq_true rfl) (fun H locs hP hD hS => ?_)
  refine gt_stk [.int (mR_addGate M N G (xs (nI i + 1).toNatClampNeg) (xs (nI i + 2).toNatClampNeg))] rfl ?_
  refine lv_istore (lv' := (6, .int (mR_addGate M N G (xs (nI i + 1).toNatClampNeg) (xs (nI i + 2).toNatClampNeg))) :: (5, .int (xc gxIA gxIS x)) :: [(0, .ref b), (1, .ref t), (2, .ref t2), (3, .ref ob), (4, .int (nI i))]) hxe hb dL_law_215 hl (by decide) rfl (fun ls hl => ?_)
  refine lv_aload_n hxe hb dL_law_217 rfl (lv_at hl 4 rfl) ?_
  refine gt_callV hC [] (tw cI t o r (xsel x (gxOpn S G (xs (nI i + 1).toNatClampNeg) (xs (nI i + 2).toNatClampNeg)) S) o1 r1 T ++ oc cL ob (osel x f ((S 0 1)))) 0 2 0 (ws' := mw cI t2 q (mM_addGate M N G (xs (nI i + 1).toNatClampNeg) (xs (nI i + 2).toNatClampNeg)) K ++ (tw cI t o r (xsel x (gxOpn S G (xs (nI i + 1).toNatClampNeg) (xs (nI i + 2).toNatClampNeg)) S) o1 r1 T ++ oc cL ob (osel x f ((S 0 1))))) (ct_X2_thrown l D cI t2 q (mM_addGate M N G (xs (nI i + 1).toNatClampNeg) (xs (nI i + 2).toNatClampNeg)) K) gL_law_X2_thrown dL_law_218 hKi hP hD hS hA hl.1 rfl hd_X2_thrown ⟨Nat.le_of_ble_eq_true rfl, Nat.le_of_ble_eq_true rfl⟩ ⟨by show cells + 2 + 0 + 0 ≤ 601024; omega, by show slots + 12 + 0 + 0 ≤ 7293034; omega⟩ rfl rfl rfl rfl rfl rfl (Nat.le_of_ble_eq_true rfl) (fun H locs hP hD hS => ?_)
  have hop := op_addGate hI (xs (nI i + 1).toNatClampNeg) (xs (nI i + 2).toNatClampNeg)
  rw [← hx] at hop
  obtain ⟨u1, u2, u3⟩ := hop
  obtain ⟨G2, u3⟩ := u3
  refine gt_stk [.int ((mM_addGate M N G (xs (nI i + 1).toNatClampNeg) (xs (nI i + 2).toNatClampNeg)) 12 0)] rfl ?_
  refine lv_iload hxe hb dL_law_221 (lv_at hl 1 rfl) ?_
  refine lv_icmp_eq (tgt := 228) hxe hb dL_law_223 (by decide) (fun _ => ?_) (fun z => absurd u1 z)
  refine lv_iload hxe hb dL_law_228 (lv_at hl 1 rfl) ?_
  refine lv_if_ne (tgt := 245) hxe hb dL_law_230 (by decide) (fun _ => ?_) (fun hz => ?_)
  · refine lv_goto (tgt := 1611) hxe hb dL_law_245 (by decide) ?_
    exact W.widen (k := cells + 137) (n := slots + 848) (by omega) (by omega) (kk G2 N (xsel x (gxOpn S G (xs (nI i + 1).toNatClampNeg) (xs (nI i + 2).toNatClampNeg)) S) T (mM_addGate M N G (xs (nI i + 1).toNatClampNeg) (xs (nI i + 2).toNatClampNeg)) K (osel x f ((S 0 1))) H locs ls u3 hP hD hS (lv_sub hl [2, 3, 4, 5, 6] rfl))
  · have hx0 := xc_0 hz
    refine lv_aload_n hxe hb dL_law_233 rfl (lv_at hl 5 rfl) ?_
    refine lv_iconst (v := 0) hxe hb dL_law_234 (by decide) ?_
    refine va_lald (f := (osel x f ((S 0 1)))) (i := 0) (n := 1) (cA := cL) hxe hb hK hP (6 + 27) 1 rfl rfl (by unfold vp_in; decide) dL_law_235 ?_
    refine lv_iload hxe hb dL_law_236 (lv_at hl 0 rfl) ?_
    refine lv_i2l hxe hb dL_law_238 rfl ?_
    refine W.lcmp hxe hb dL_law_239 ?_
    have hv : (osel x f ((S 0 1))) (0 : Int32).toNatClampNeg = Int32.toInt64 (mR_addGate M N G (xs (nI i + 1).toNatClampNeg) (xs (nI i + 2).toNatClampNeg)) := by
      rw [u2 hx0, hx0, osel_n]
      rfl
    refine gt_stk [.int 0] (by rw [hv, lg_cmp_self]) ?_
    refine lv_if_eq (tgt := 245) hxe hb dL_law_240 (by decide) (fun _ => ?_) (fun z => absurd rfl z)
    refine lv_goto (tgt := 1611) hxe hb dL_law_245 (by decide) ?_
    exact W.widen (k := cells + 137) (n := slots + 848) (by omega) (by omega) (kk G2 N (xsel x (gxOpn S G (xs (nI i + 1).toNatClampNeg) (xs (nI i + 2).toNatClampNeg)) S) T (mM_addGate M N G (xs (nI i + 1).toNatClampNeg) (xs (nI i + 2).toNatClampNeg)) K (osel x f ((S 0 1))) H locs ls u3 hP hD hS (lv_sub hl [2, 3, 4, 5, 6] rfl))

set_option maxRecDepth 20000 in
theorem lc_addGoat {p : Program} {l : Launch} {e : Env} {s : State} {m : MethodId} {args : Array Value} {below : List Frame} {meth : Method} {c : Code} {Q : State → Prop} {D : va_G} {cI cL : ClassId} {A : Nat → Prop} {b L : Nat} {xs : Nat → Int32}
    (hl0 : l.stackTraces = false) (hC : CallFix p m c cL_law 9 s args wsL_law RL) (hTh : gTh A s s.heap) (hNc : gNc s) (hK : va_K D vwCl [(cI, .int), (cL, .long)] s) (hA : ∀ q, s.heap.size ≤ q → A q) (hX : va_X b L xs s s.heap) (hbl : b < s.heap.size) (hbA : ¬ A b)
    {t o : Nat} {r : Nat → Nat} {S : SS} {o1 : Nat} {r1 : Nat → Nat} {T : SS} {t2 : Nat} {q : Nat → Nat} {M K : SS} {ob : Nat} {f : Nat → Int64} {G N i cells slots : Nat} {H : Heap} {locs : List Loc} {ls : Array Slot}
    (hI : Inv G N S M) (hi : i + 6 ≤ L) (hL : L ≤ 3072) (hcs : cells + 137 ≤ 601024 ∧ slots + 848 ≤ 7293034) (hP : va_P D vwCl (mw cI t2 q M K ++ (tw cI t o r S o1 r1 T ++ oc cL ob f)) H) (hD : va_D A (mw cI t2 q M K ++ (tw cI t o r S o1 r1 T ++ oc cL ob f))) (hS : va_S A s.heap H locs) (hl : lv_has ls 9 [(0, .ref b), (1, .ref t), (2, .ref t2), (3, .ref ob), (4, .int (nI i))])
    (kk : ∀ (G N : Nat) (S T M K : SS) (f : Nat → Int64) (H : Heap) (locs : List Loc) (ls : Array Slot), Inv G N S M → va_P D vwCl (mw cI t2 q M K ++ (tw cI t o r S o1 r1 T ++ oc cL ob f)) H → va_D A (mw cI t2 q M K ++ (tw cI t o r S o1 r1 T ++ oc cL ob f)) → va_S A s.heap H locs → lv_has ls 9 [(0, .ref b), (1, .ref t), (2, .ref t2), (3, .ref ob), (4, .int (nI i))] → W p l e room_1 s m args below meth c H locs (cells + 137) (slots + 848) Q (F0 m 1611 ls [])) : W p l e room_1 s m args below meth c H locs cells slots Q (F0 m 248 ls []) := by
  have hxe := hC.1
  have hb := hC.2.1
  have hI' := hI
  obtain ⟨hN12, hG4, hSG, hSN, hMG, hMN, rel, -, -⟩ := hI'
  have hKi : va_K D vwCl [(cI, .int)] s := ⟨hK.1, fun k z hz => by
    cases k with
    | zero => exact hK.2 0 z hz
    | succ k => cases hz⟩
  have h1 : vp_in (nI i + 1) L := by
    rw [show nI i + 1 = nI (i + 1) from nI_add i 1]
    exact vp_in_nI (by omega) (by omega)
  refine lv_aload_n hxe hb dL_law_248 rfl (lv_at hl 1 rfl) ?_
  refine lv_aload_n hxe hb dL_law_249 rfl (lv_at hl 0 rfl) ?_
  refine lv_iload hxe hb dL_law_250 (lv_at hl 4 rfl) ?_
  refine lv_iconst (v := 1) hxe hb dL_law_252 (by decide) ?_
  refine lv_iadd hxe hb dL_law_253 ?_
  refine va_sld hxe hb hX hbl hbA hS h1 dL_law_254 ?_
  refine lv_aload_n hxe hb dL_law_255 rfl (lv_at hl 3 rfl) ?_
  obtain ⟨x, hx⟩ : ∃ x : Option String, x = ((xNum (xs (nI i + 1).toNatClampNeg) 9).or (xRk S)) := ⟨_, rfl⟩
  refine gl_callS hC 3 (wa := mw cI t2 q M K) (cw_addGoat l hl0 D cI t o r S o1 r1 T cL ob f (xs (nI i + 1).toNatClampNeg) N hSN hN12 x hx) gL_law_L_addGoat dL_law_256 hTh hNc hK hP hD hS hA hl.1 rfl hd_L_addGoat ⟨Nat.le_of_ble_eq_true rfl, Nat.le_of_ble_eq_true rfl⟩ ⟨by show cells + 2 ≤ 601024; omega, by show slots + 12 ≤ 7293034; omega⟩ rfl rfl (Nat.le_of_ble_eq_true rfl) (fun H locs hP hD hS => ?_)
  refine lv_istore (lv' := (5, .int (xc gxIA gxIS x)) :: [(0, .ref b), (1, .ref t), (2, .ref t2), (3, .ref ob), (4, .int (nI i))]) hxe hb dL_law_259 hl (by decide) rfl (fun ls hl => ?_)
  refine lv_aload_n hxe hb dL_law_261 rfl (lv_at hl 3 rfl) ?_
  refine lv_aload_n hxe hb dL_law_262 rfl (lv_at hl 1 rfl) ?_
  refine lv_iload hxe hb dL_law_263 (lv_at hl 5 rfl) ?_
  refine lv_iconst (v := 1) hxe hb dL_law_265 (by decide) ?_
  refine lv_iadd hxe hb dL_law_266 ?_
  refine va_sld hxe hb hX hbl hbA hS h1 dL_law_267 ?_
  refine gt_callV hC [] (tw cI t o r (xsel x (gxBrg S N (xs (nI i + 1).toNatClampNeg)) S) o1 r1 T ++ oc cL ob (osel x f ((S 0 2)))) 0 2 1 (ws' := mw cI t2 q (mM_addGoat M N G (xs (nI i + 1).toNatClampNeg)) K ++ (tw cI t o r (xsel x (gxBrg S N (xs (nI i + 1).toNatClampNeg)) S) o1 r1 T ++ oc cL ob (osel x f ((S 0 2))))) (ct_X2_addGoat l D cI t2 q M K (xs (nI i + 1).toNatClampNeg) N hMN hN12 G hMG hG4 (fun X g => mOpN_lt hN12 X g)) gL_law_X2_addGoat dL_law_268 hKi hP hD hS hA hl.1 rfl hd_X2_addGoat ⟨Nat.le_of_ble_eq_true rfl, Nat.le_of_ble_eq_true rfl⟩ ⟨by show cells + 2 + 0 ≤ 601024; omega, by show slots + 12 + 0 ≤ 7293034; omega⟩ rfl rfl rfl rfl rfl rfl (Nat.le_of_ble_eq_true rfl) (fun H locs hP hD hS => ?_)
  refine gt_stk [.int (mR_addGoat M N G (xs (nI i + 1).toNatClampNeg))] rfl ?_
  refine lv_istore (lv' := (6, .int (mR_addGoat M N G (xs (nI i + 1).toNatClampNeg))) :: (5, .int (xc gxIA gxIS x)) :: [(0, .ref b), (1, .ref t), (2, .ref t2), (3, .ref ob), (4, .int (nI i))]) hxe hb dL_law_271 hl (by decide) rfl (fun ls hl => ?_)
  refine lv_aload_n hxe hb dL_law_273 rfl (lv_at hl 4 rfl) ?_
  refine gt_callV hC [] (tw cI t o r (xsel x (gxBrg S N (xs (nI i + 1).toNatClampNeg)) S) o1 r1 T ++ oc cL ob (osel x f ((S 0 2)))) 0 2 0 (ws' := mw cI t2 q (mM_addGoat M N G (xs (nI i + 1).toNatClampNeg)) K ++ (tw cI t o r (xsel x (gxBrg S N (xs (nI i + 1).toNatClampNeg)) S) o1 r1 T ++ oc cL ob (osel x f ((S 0 2))))) (ct_X2_thrown l D cI t2 q (mM_addGoat M N G (xs (nI i + 1).toNatClampNeg)) K) gL_law_X2_thrown dL_law_274 hKi hP hD hS hA hl.1 rfl hd_X2_thrown ⟨Nat.le_of_ble_eq_true rfl, Nat.le_of_ble_eq_true rfl⟩ ⟨by show cells + 2 + 0 + 0 ≤ 601024; omega, by show slots + 12 + 0 + 0 ≤ 7293034; omega⟩ rfl rfl rfl rfl rfl rfl (Nat.le_of_ble_eq_true rfl) (fun H locs hP hD hS => ?_)
  have hop := op_addGoat hI (xs (nI i + 1).toNatClampNeg)
  rw [← hx] at hop
  obtain ⟨u1, u2, u3⟩ := hop
  obtain ⟨N2, u3⟩ := u3
  refine gt_stk [.int ((mM_addGoat M N G (xs (nI i + 1).toNatClampNeg)) 12 0)] rfl ?_
  refine lv_iload hxe hb dL_law_277 (lv_at hl 1 rfl) ?_
  refine lv_icmp_eq (tgt := 284) hxe hb dL_law_279 (by decide) (fun _ => ?_) (fun z => absurd u1 z)
  refine lv_iload hxe hb dL_law_284 (lv_at hl 1 rfl) ?_
  refine lv_if_ne (tgt := 301) hxe hb dL_law_286 (by decide) (fun _ => ?_) (fun hz => ?_)
  · refine lv_goto (tgt := 1611) hxe hb dL_law_301 (by decide) ?_
    exact W.widen (k := cells + 137) (n := slots + 848) (by omega) (by omega) (kk G N2 (xsel x (gxBrg S N (xs (nI i + 1).toNatClampNeg)) S) T (mM_addGoat M N G (xs (nI i + 1).toNatClampNeg)) K (osel x f ((S 0 2))) H locs ls u3 hP hD hS (lv_sub hl [2, 3, 4, 5, 6] rfl))
  · have hx0 := xc_0 hz
    refine lv_aload_n hxe hb dL_law_289 rfl (lv_at hl 5 rfl) ?_
    refine lv_iconst (v := 0) hxe hb dL_law_290 (by decide) ?_
    refine va_lald (f := (osel x f ((S 0 2)))) (i := 0) (n := 1) (cA := cL) hxe hb hK hP (6 + 27) 1 rfl rfl (by unfold vp_in; decide) dL_law_291 ?_
    refine lv_iload hxe hb dL_law_292 (lv_at hl 0 rfl) ?_
    refine lv_i2l hxe hb dL_law_294 rfl ?_
    refine W.lcmp hxe hb dL_law_295 ?_
    have hv : (osel x f ((S 0 2))) (0 : Int32).toNatClampNeg = Int32.toInt64 (mR_addGoat M N G (xs (nI i + 1).toNatClampNeg)) := by
      rw [u2 hx0, hx0, osel_n]
      rfl
    refine gt_stk [.int 0] (by rw [hv, lg_cmp_self]) ?_
    refine lv_if_eq (tgt := 301) hxe hb dL_law_296 (by decide) (fun _ => ?_) (fun z => absurd rfl z)
    refine lv_goto (tgt := 1611) hxe hb dL_law_301 (by decide) ?_
    exact W.widen (k := cells + 137) (n := slots + 848) (by omega) (by omega) (kk G N2 (xsel x (gxBrg S N (xs (nI i + 1).toNatClampNeg)) S) T (mM_addGoat M N G (xs (nI i + 1).toNatClampNeg)) K (osel x f ((S 0 2))) H locs ls u3 hP hD hS (lv_sub hl [2, 3, 4, 5, 6] rfl))

set_option maxRecDepth 20000 in
theorem lc_ask {p : Program} {l : Launch} {e : Env} {s : State} {m : MethodId} {args : Array Value} {below : List Frame} {meth : Method} {c : Code} {Q : State → Prop} {D : va_G} {cI cL : ClassId} {A : Nat → Prop} {b L : Nat} {xs : Nat → Int32}
    (hl0 : l.stackTraces = false) (hC : CallFix p m c cL_law 9 s args wsL_law RL) (hTh : gTh A s s.heap) (hNc : gNc s) (hK : va_K D vwCl [(cI, .int), (cL, .long)] s) (hA : ∀ q, s.heap.size ≤ q → A q) (hX : va_X b L xs s s.heap) (hbl : b < s.heap.size) (hbA : ¬ A b)
    {t o : Nat} {r : Nat → Nat} {S : SS} {o1 : Nat} {r1 : Nat → Nat} {T : SS} {t2 : Nat} {q : Nat → Nat} {M K : SS} {ob : Nat} {f : Nat → Int64} {G N i cells slots : Nat} {H : Heap} {locs : List Loc} {ls : Array Slot}
    (hI : Inv G N S M) (hi : i + 6 ≤ L) (hL : L ≤ 3072) (hcs : cells + 137 ≤ 601024 ∧ slots + 848 ≤ 7293034) (hP : va_P D vwCl (mw cI t2 q M K ++ (tw cI t o r S o1 r1 T ++ oc cL ob f)) H) (hD : va_D A (mw cI t2 q M K ++ (tw cI t o r S o1 r1 T ++ oc cL ob f))) (hS : va_S A s.heap H locs) (hl : lv_has ls 9 [(0, .ref b), (1, .ref t), (2, .ref t2), (3, .ref ob), (4, .int (nI i))])
    (kk : ∀ (G N : Nat) (S T M K : SS) (f : Nat → Int64) (H : Heap) (locs : List Loc) (ls : Array Slot), Inv G N S M → va_P D vwCl (mw cI t2 q M K ++ (tw cI t o r S o1 r1 T ++ oc cL ob f)) H → va_D A (mw cI t2 q M K ++ (tw cI t o r S o1 r1 T ++ oc cL ob f)) → va_S A s.heap H locs → lv_has ls 9 [(0, .ref b), (1, .ref t), (2, .ref t2), (3, .ref ob), (4, .int (nI i))] → W p l e room_1 s m args below meth c H locs (cells + 137) (slots + 848) Q (F0 m 1611 ls [])) : W p l e room_1 s m args below meth c H locs cells slots Q (F0 m 304 ls []) := by
  have hxe := hC.1
  have hb := hC.2.1
  have hI' := hI
  obtain ⟨hN12, hG4, hSG, hSN, hMG, hMN, rel, -, -⟩ := hI'
  have hKi : va_K D vwCl [(cI, .int)] s := ⟨hK.1, fun k z hz => by
    cases k with
    | zero => exact hK.2 0 z hz
    | succ k => cases hz⟩
  have h1 : vp_in (nI i + 1) L := by
    rw [show nI i + 1 = nI (i + 1) from nI_add i 1]
    exact vp_in_nI (by omega) (by omega)
  have h2 : vp_in (nI i + 2) L := by
    rw [show nI i + 2 = nI (i + 2) from nI_add i 2]
    exact vp_in_nI (by omega) (by omega)
  have h3 : vp_in (nI i + 3) L := by
    rw [show nI i + 3 = nI (i + 3) from nI_add i 3]
    exact vp_in_nI (by omega) (by omega)
  have h4 : vp_in (nI i + 4) L := by
    rw [show nI i + 4 = nI (i + 4) from nI_add i 4]
    exact vp_in_nI (by omega) (by omega)
  have h5 : vp_in (nI i + 5) L := by
    rw [show nI i + 5 = nI (i + 5) from nI_add i 5]
    exact vp_in_nI (by omega) (by omega)
  refine lv_aload_n hxe hb dL_law_304 rfl (lv_at hl 1 rfl) ?_
  refine lv_aload_n hxe hb dL_law_305 rfl (lv_at hl 0 rfl) ?_
  refine lv_iload hxe hb dL_law_306 (lv_at hl 4 rfl) ?_
  refine lv_iconst (v := 1) hxe hb dL_law_308 (by decide) ?_
  refine lv_iadd hxe hb dL_law_309 ?_
  refine va_sld hxe hb hX hbl hbA hS h1 dL_law_310 ?_
  refine lv_aload_n hxe hb dL_law_311 rfl (lv_at hl 0 rfl) ?_
  refine lv_iload hxe hb dL_law_312 (lv_at hl 4 rfl) ?_
  refine lv_iconst (v := 2) hxe hb dL_law_314 (by decide) ?_
  refine lv_iadd hxe hb dL_law_315 ?_
  refine va_sld hxe hb hX hbl hbA hS h2 dL_law_316 ?_
  refine lv_aload_n hxe hb dL_law_317 rfl (lv_at hl 0 rfl) ?_
  refine lv_iload hxe hb dL_law_318 (lv_at hl 4 rfl) ?_
  refine lv_iconst (v := 3) hxe hb dL_law_320 (by decide) ?_
  refine lv_iadd hxe hb dL_law_321 ?_
  refine va_sld hxe hb hX hbl hbA hS h3 dL_law_322 ?_
  refine lv_aload_n hxe hb dL_law_323 rfl (lv_at hl 0 rfl) ?_
  refine lv_iload hxe hb dL_law_324 (lv_at hl 4 rfl) ?_
  refine lv_iconst (v := 4) hxe hb dL_law_326 (by decide) ?_
  refine lv_iadd hxe hb dL_law_327 ?_
  refine va_sld hxe hb hX hbl hbA hS h4 dL_law_328 ?_
  refine lv_aload_n hxe hb dL_law_329 rfl (lv_at hl 0 rfl) ?_
  refine lv_iload hxe hb dL_law_330 (lv_at hl 4 rfl) ?_
  refine lv_iconst (v := 5) hxe hb dL_law_332 (by decide) ?_
  refine lv_iadd hxe hb dL_law_333 ?_
  refine va_sld hxe hb hX hbl hbA hS h5 dL_law_334 ?_
  refine lv_aload_n hxe hb dL_law_335 rfl (lv_at hl 3 rfl) ?_
  obtain ⟨x, hx⟩ : ∃ x : Option String, x = ((xGoat S (xs (nI i + 1).toNatClampNeg)).or ((xGate S (xs (nI i + 2).toNatClampNeg)).or ((xNum (xs (nI i + 3).toNatClampNeg) (S 5 (xs (nI i + 2).toNatClampNeg).toNatClampNeg)).or ((xNum (xs (nI i + 4).toNatClampNeg) 30).or ((xNum (xs (nI i + 5).toNatClampNeg) 60).or (xIdle S (xs (nI i + 1).toNatClampNeg).toNatClampNeg)))))) := ⟨_, rfl⟩
  refine gl_callS hC 7 (wa := mw cI t2 q M K) (cw_ask l hl0 D cI t o r S o1 r1 T cL ob f (xs (nI i + 1).toNatClampNeg) (xs (nI i + 2).toNatClampNeg) (xs (nI i + 3).toNatClampNeg) (xs (nI i + 4).toNatClampNeg) (xs (nI i + 5).toNatClampNeg) N hSN hN12 G hSG hG4 x hx) gL_law_L_ask dL_law_336 hTh hNc hK hP hD hS hA hl.1 rfl hd_L_ask ⟨Nat.le_of_ble_eq_true rfl, Nat.le_of_ble_eq_true rfl⟩ ⟨by show cells + 6 ≤ 601024; omega, by show slots + 36 ≤ 7293034; omega⟩ rfl rfl (Nat.le_of_ble_eq_true rfl) (fun H locs hP hD hS => ?_)
  refine lv_istore (lv' := (5, .int (xc gxIO gxIA x)) :: [(0, .ref b), (1, .ref t), (2, .ref t2), (3, .ref ob), (4, .int (nI i))]) hxe hb dL_law_339 hl (by decide) rfl (fun ls hl => ?_)
  refine lv_aload_n hxe hb dL_law_341 rfl (lv_at hl 3 rfl) ?_
  refine lv_aload_n hxe hb dL_law_342 rfl (lv_at hl 1 rfl) ?_
  refine lv_iload hxe hb dL_law_343 (lv_at hl 5 rfl) ?_
  refine lv_iconst (v := 1) hxe hb dL_law_345 (by decide) ?_
  refine lv_iadd hxe hb dL_law_346 ?_
  refine va_sld hxe hb hX hbl hbA hS h1 dL_law_347 ?_
  refine lv_aload_n hxe hb dL_law_348 rfl (lv_at hl 1 rfl) ?_
  refine lv_iload hxe hb dL_law_349 (lv_at hl 5 rfl) ?_
  refine lv_iconst (v := 2) hxe hb dL_law_351 (by decide) ?_
  refine lv_iadd hxe hb dL_law_352 ?_
  refine va_sld hxe hb hX hbl hbA hS h2 dL_law_353 ?_
  refine lv_aload_n hxe hb dL_law_354 rfl (lv_at hl 1 rfl) ?_
  refine lv_iload hxe hb dL_law_355 (lv_at hl 5 rfl) ?_
  refine lv_iconst (v := 3) hxe hb dL_law_357 (by decide) ?_
  refine lv_iadd hxe hb dL_law_358 ?_
  refine va_sld hxe hb hX hbl hbA hS h3 dL_law_359 ?_
  refine lv_aload_n hxe hb dL_law_360 rfl (lv_at hl 1 rfl) ?_
  refine lv_iload hxe hb dL_law_361 (lv_at hl 5 rfl) ?_
  refine lv_iconst (v := 4) hxe hb dL_law_363 (by decide) ?_
  refine lv_iadd hxe hb dL_law_364 ?_
  refine va_sld hxe hb hX hbl hbA hS h4 dL_law_365 ?_
  refine lv_aload_n hxe hb dL_law_366 rfl (lv_at hl 1 rfl) ?_
  refine lv_iload hxe hb dL_law_367 (lv_at hl 5 rfl) ?_
  refine lv_iconst (v := 5) hxe hb dL_law_369 (by decide) ?_
  refine lv_iadd hxe hb dL_law_370 ?_
  refine va_sld hxe hb hX hbl hbA hS h5 dL_law_371 ?_
  refine gt_callV hC [] (tw cI t o r (xsel x (gxLine S (xs (nI i + 1).toNatClampNeg).toNatClampNeg (xs (nI i + 2).toNatClampNeg) (xs (nI i + 3).toNatClampNeg) (xs (nI i + 4).toNatClampNeg) (xs (nI i + 5).toNatClampNeg)) S) o1 r1 T ++ oc cL ob (osel x f ((gxWat (gxLine S (xs (nI i + 1).toNatClampNeg).toNatClampNeg (xs (nI i + 2).toNatClampNeg) (xs (nI i + 3).toNatClampNeg) (xs (nI i + 4).toNatClampNeg) (xs (nI i + 5).toNatClampNeg)) (xs (nI i + 2).toNatClampNeg) N)))) 0 2 5 (ws' := mw cI t2 q (mM_ask M N G (xs (nI i + 1).toNatClampNeg) (xs (nI i + 2).toNatClampNeg) (xs (nI i + 3).toNatClampNeg) (xs (nI i + 4).toNatClampNeg) (xs (nI i + 5).toNatClampNeg)) K ++ (tw cI t o r (xsel x (gxLine S (xs (nI i + 1).toNatClampNeg).toNatClampNeg (xs (nI i + 2).toNatClampNeg) (xs (nI i + 3).toNatClampNeg) (xs (nI i + 4).toNatClampNeg) (xs (nI i + 5).toNatClampNeg)) S) o1 r1 T ++ oc cL ob (osel x f ((gxWat (gxLine S (xs (nI i + 1).toNatClampNeg).toNatClampNeg (xs (nI i + 2).toNatClampNeg) (xs (nI i + 3).toNatClampNeg) (xs (nI i + 4).toNatClampNeg) (xs (nI i + 5).toNatClampNeg)) (xs (nI i + 2).toNatClampNeg) N))))) (ct_X2_ask l D cI t2 q M K (xs (nI i + 1).toNatClampNeg) (xs (nI i + 2).toNatClampNeg) (xs (nI i + 3).toNatClampNeg) (xs (nI i + 4).toNatClampNeg) (xs (nI i + 5).toNatClampNeg) N hMN hN12 G hMG hG4 (fun X g => mOpN_lt hN12 X g)) gL_law_X2_ask dL_law_372 hKi hP hD hS hA hl.1 rfl hd_X2_ask ⟨Nat.le_of_ble_eq_true rfl, Nat.le_of_ble_eq_true rfl⟩ ⟨by show cells + 6 + 0 ≤ 601024; omega, by show slots + 36 + 0 ≤ 7293034; omega⟩ rfl rfl rfl rfl rfl rfl (Nat.le_of_ble_eq_true rfl) (fun H locs hP hD hS => ?_)
  refine gt_stk [.int (mR_ask M N G (xs (nI i + 1).toNatClampNeg) (xs (nI i + 2).toNatClampNeg) (xs (nI i + 3).toNatClampNeg) (xs (nI i + 4).toNatClampNeg) (xs (nI i + 5).toNatClampNeg))] rfl ?_
  refine lv_istore (lv' := (6, .int (mR_ask M N G (xs (nI i + 1).toNatClampNeg) (xs (nI i + 2).toNatClampNeg) (xs (nI i + 3).toNatClampNeg) (xs (nI i + 4).toNatClampNeg) (xs (nI i + 5).toNatClampNeg))) :: (5, .int (xc gxIO gxIA x)) :: [(0, .ref b), (1, .ref t), (2, .ref t2), (3, .ref ob), (4, .int (nI i))]) hxe hb dL_law_375 hl (by decide) rfl (fun ls hl => ?_)
  refine lv_aload_n hxe hb dL_law_377 rfl (lv_at hl 4 rfl) ?_
  refine gt_callV hC [] (tw cI t o r (xsel x (gxLine S (xs (nI i + 1).toNatClampNeg).toNatClampNeg (xs (nI i + 2).toNatClampNeg) (xs (nI i + 3).toNatClampNeg) (xs (nI i + 4).toNatClampNeg) (xs (nI i + 5).toNatClampNeg)) S) o1 r1 T ++ oc cL ob (osel x f ((gxWat (gxLine S (xs (nI i + 1).toNatClampNeg).toNatClampNeg (xs (nI i + 2).toNatClampNeg) (xs (nI i + 3).toNatClampNeg) (xs (nI i + 4).toNatClampNeg) (xs (nI i + 5).toNatClampNeg)) (xs (nI i + 2).toNatClampNeg) N)))) 0 2 0 (ws' := mw cI t2 q (mM_ask M N G (xs (nI i + 1).toNatClampNeg) (xs (nI i + 2).toNatClampNeg) (xs (nI i + 3).toNatClampNeg) (xs (nI i + 4).toNatClampNeg) (xs (nI i + 5).toNatClampNeg)) K ++ (tw cI t o r (xsel x (gxLine S (xs (nI i + 1).toNatClampNeg).toNatClampNeg (xs (nI i + 2).toNatClampNeg) (xs (nI i + 3).toNatClampNeg) (xs (nI i + 4).toNatClampNeg) (xs (nI i + 5).toNatClampNeg)) S) o1 r1 T ++ oc cL ob (osel x f ((gxWat (gxLine S (xs (nI i + 1).toNatClampNeg).toNatClampNeg (xs (nI i + 2).toNatClampNeg) (xs (nI i + 3).toNatClampNeg) (xs (nI i + 4).toNatClampNeg) (xs (nI i + 5).toNatClampNeg)) (xs (nI i + 2).toNatClampNeg) N))))) (ct_X2_thrown l D cI t2 q (mM_ask M N G (xs (nI i + 1).toNatClampNeg) (xs (nI i + 2).toNatClampNeg) (xs (nI i + 3).toNatClampNeg) (xs (nI i + 4).toNatClampNeg) (xs (nI i + 5).toNatClampNeg)) K) gL_law_X2_thrown dL_law_378 hKi hP hD hS hA hl.1 rfl hd_X2_thrown ⟨Nat.le_of_ble_eq_true rfl, Nat.le_of_ble_eq_true rfl⟩ ⟨by show cells + 6 + 0 + 0 ≤ 601024; omega, by show slots + 36 + 0 + 0 ≤ 7293034; omega⟩ rfl rfl rfl rfl rfl rfl (Nat.le_of_ble_eq_true rfl) (fun H locs hP hD hS => ?_)
  have hop := op_ask hI (xs (nI i + 1).toNatClampNeg) (xs (nI i + 2).toNatClampNeg) (xs (nI i + 3).toNatClampNeg) (xs (nI i + 4).toNatClampNeg) (xs (nI i + 5).toNatClampNeg) x hx
  obtain ⟨u1, u2, u3⟩ := hop
  refine gt_stk [.int ((mM_ask M N G (xs (nI i + 1).toNatClampNeg) (xs (nI i + 2).toNatClampNeg) (xs (nI i + 3).toNatClampNeg) (xs (nI i + 4).toNatClampNeg) (xs (nI i + 5).toNatClampNeg)) 12 0)] rfl ?_
  refine lv_iload hxe hb dL_law_381 (lv_at hl 1 rfl) ?_
  refine lv_icmp_eq (tgt := 388) hxe hb dL_law_383 (by decide) (fun _ => ?_) (fun z => absurd u1 z)
  refine lv_iload hxe hb dL_law_388 (lv_at hl 1 rfl) ?_
  refine lv_if_ne (tgt := 405) hxe hb dL_law_390 (by decide) (fun _ => ?_) (fun hz => ?_)
  · refine lv_goto (tgt := 1611) hxe hb dL_law_405 (by decide) ?_
    exact W.widen (k := cells + 137) (n := slots + 848) (by omega) (by omega) (kk G N (xsel x (gxLine S (xs (nI i + 1).toNatClampNeg).toNatClampNeg (xs (nI i + 2).toNatClampNeg) (xs (nI i + 3).toNatClampNeg) (xs (nI i + 4).toNatClampNeg) (xs (nI i + 5).toNatClampNeg)) S) T (mM_ask M N G (xs (nI i + 1).toNatClampNeg) (xs (nI i + 2).toNatClampNeg) (xs (nI i + 3).toNatClampNeg) (xs (nI i + 4).toNatClampNeg) (xs (nI i + 5).toNatClampNeg)) K (osel x f ((gxWat (gxLine S (xs (nI i + 1).toNatClampNeg).toNatClampNeg (xs (nI i + 2).toNatClampNeg) (xs (nI i + 3).toNatClampNeg) (xs (nI i + 4).toNatClampNeg) (xs (nI i + 5).toNatClampNeg)) (xs (nI i + 2).toNatClampNeg) N))) H locs ls u3 hP hD hS (lv_sub hl [2, 3, 4, 5, 6] rfl))
  · have hx0 := xc_0 hz
    refine lv_aload_n hxe hb dL_law_393 rfl (lv_at hl 5 rfl) ?_
    refine lv_iconst (v := 0) hxe hb dL_law_394 (by decide) ?_
    refine va_lald (f := (osel x f ((gxWat (gxLine S (xs (nI i + 1).toNatClampNeg).toNatClampNeg (xs (nI i + 2).toNatClampNeg) (xs (nI i + 3).toNatClampNeg) (xs (nI i + 4).toNatClampNeg) (xs (nI i + 5).toNatClampNeg)) (xs (nI i + 2).toNatClampNeg) N)))) (i := 0) (n := 1) (cA := cL) hxe hb hK hP (6 + 27) 1 rfl rfl (by unfold vp_in; decide) dL_law_395 ?_
    refine lv_iload hxe hb dL_law_396 (lv_at hl 0 rfl) ?_
    refine lv_i2l hxe hb dL_law_398 rfl ?_
    refine W.lcmp hxe hb dL_law_399 ?_
    have hv : (osel x f ((gxWat (gxLine S (xs (nI i + 1).toNatClampNeg).toNatClampNeg (xs (nI i + 2).toNatClampNeg) (xs (nI i + 3).toNatClampNeg) (xs (nI i + 4).toNatClampNeg) (xs (nI i + 5).toNatClampNeg)) (xs (nI i + 2).toNatClampNeg) N))) (0 : Int32).toNatClampNeg = Int32.toInt64 (mR_ask M N G (xs (nI i + 1).toNatClampNeg) (xs (nI i + 2).toNatClampNeg) (xs (nI i + 3).toNatClampNeg) (xs (nI i + 4).toNatClampNeg) (xs (nI i + 5).toNatClampNeg)) := by
      rw [u2 hx0, hx0, osel_n]
      rfl
    refine gt_stk [.int 0] (by rw [hv, lg_cmp_self]) ?_
    refine lv_if_eq (tgt := 405) hxe hb dL_law_400 (by decide) (fun _ => ?_) (fun z => absurd rfl z)
    refine lv_goto (tgt := 1611) hxe hb dL_law_405 (by decide) ?_
    exact W.widen (k := cells + 137) (n := slots + 848) (by omega) (by omega) (kk G N (xsel x (gxLine S (xs (nI i + 1).toNatClampNeg).toNatClampNeg (xs (nI i + 2).toNatClampNeg) (xs (nI i + 3).toNatClampNeg) (xs (nI i + 4).toNatClampNeg) (xs (nI i + 5).toNatClampNeg)) S) T (mM_ask M N G (xs (nI i + 1).toNatClampNeg) (xs (nI i + 2).toNatClampNeg) (xs (nI i + 3).toNatClampNeg) (xs (nI i + 4).toNatClampNeg) (xs (nI i + 5).toNatClampNeg)) K (osel x f ((gxWat (gxLine S (xs (nI i + 1).toNatClampNeg).toNatClampNeg (xs (nI i + 2).toNatClampNeg) (xs (nI i + 3).toNatClampNeg) (xs (nI i + 4).toNatClampNeg) (xs (nI i + 5).toNatClampNeg)) (xs (nI i + 2).toNatClampNeg) N))) H locs ls u3 hP hD hS (lv_sub hl [2, 3, 4, 5, 6] rfl))

set_option maxRecDepth 20000 in
theorem lc_barge {p : Program} {l : Launch} {e : Env} {s : State} {m : MethodId} {args : Array Value} {below : List Frame} {meth : Method} {c : Code} {Q : State → Prop} {D : va_G} {cI cL : ClassId} {A : Nat → Prop} {b L : Nat} {xs : Nat → Int32}
    (hl0 : l.stackTraces = false) (hC : CallFix p m c cL_law 9 s args wsL_law RL) (hTh : gTh A s s.heap) (hNc : gNc s) (hK : va_K D vwCl [(cI, .int), (cL, .long)] s) (hA : ∀ q, s.heap.size ≤ q → A q) (hX : va_X b L xs s s.heap) (hbl : b < s.heap.size) (hbA : ¬ A b)
    {t o : Nat} {r : Nat → Nat} {S : SS} {o1 : Nat} {r1 : Nat → Nat} {T : SS} {t2 : Nat} {q : Nat → Nat} {M K : SS} {ob : Nat} {f : Nat → Int64} {G N i cells slots : Nat} {H : Heap} {locs : List Loc} {ls : Array Slot}
    (hI : Inv G N S M) (hi : i + 6 ≤ L) (hL : L ≤ 3072) (hcs : cells + 137 ≤ 601024 ∧ slots + 848 ≤ 7293034) (hP : va_P D vwCl (mw cI t2 q M K ++ (tw cI t o r S o1 r1 T ++ oc cL ob f)) H) (hD : va_D A (mw cI t2 q M K ++ (tw cI t o r S o1 r1 T ++ oc cL ob f))) (hS : va_S A s.heap H locs) (hl : lv_has ls 9 [(0, .ref b), (1, .ref t), (2, .ref t2), (3, .ref ob), (4, .int (nI i))])
    (kk : ∀ (G N : Nat) (S T M K : SS) (f : Nat → Int64) (H : Heap) (locs : List Loc) (ls : Array Slot), Inv G N S M → va_P D vwCl (mw cI t2 q M K ++ (tw cI t o r S o1 r1 T ++ oc cL ob f)) H → va_D A (mw cI t2 q M K ++ (tw cI t o r S o1 r1 T ++ oc cL ob f)) → va_S A s.heap H locs → lv_has ls 9 [(0, .ref b), (1, .ref t), (2, .ref t2), (3, .ref ob), (4, .int (nI i))] → W p l e room_1 s m args below meth c H locs (cells + 137) (slots + 848) Q (F0 m 1611 ls [])) : W p l e room_1 s m args below meth c H locs cells slots Q (F0 m 408 ls []) := by
  have hxe := hC.1
  have hb := hC.2.1
  have hI' := hI
  obtain ⟨hN12, hG4, hSG, hSN, hMG, hMN, rel, -, -⟩ := hI'
  have hKi : va_K D vwCl [(cI, .int)] s := ⟨hK.1, fun k z hz => by
    cases k with
    | zero => exact hK.2 0 z hz
    | succ k => cases hz⟩
  have h1 : vp_in (nI i + 1) L := by
    rw [show nI i + 1 = nI (i + 1) from nI_add i 1]
    exact vp_in_nI (by omega) (by omega)
  have h2 : vp_in (nI i + 2) L := by
    rw [show nI i + 2 = nI (i + 2) from nI_add i 2]
    exact vp_in_nI (by omega) (by omega)
  have h3 : vp_in (nI i + 3) L := by
    rw [show nI i + 3 = nI (i + 3) from nI_add i 3]
    exact vp_in_nI (by omega) (by omega)
  have h4 : vp_in (nI i + 4) L := by
    rw [show nI i + 4 = nI (i + 4) from nI_add i 4]
    exact vp_in_nI (by omega) (by omega)
  refine lv_aload_n hxe hb dL_law_408 rfl (lv_at hl 1 rfl) ?_
  refine lv_aload_n hxe hb dL_law_409 rfl (lv_at hl 0 rfl) ?_
  refine lv_iload hxe hb dL_law_410 (lv_at hl 4 rfl) ?_
  refine lv_iconst (v := 1) hxe hb dL_law_412 (by decide) ?_
  refine lv_iadd hxe hb dL_law_413 ?_
  refine va_sld hxe hb hX hbl hbA hS h1 dL_law_414 ?_
  refine lv_aload_n hxe hb dL_law_415 rfl (lv_at hl 0 rfl) ?_
  refine lv_iload hxe hb dL_law_416 (lv_at hl 4 rfl) ?_
  refine lv_iconst (v := 2) hxe hb dL_law_418 (by decide) ?_
  refine lv_iadd hxe hb dL_law_419 ?_
  refine va_sld hxe hb hX hbl hbA hS h2 dL_law_420 ?_
  refine lv_aload_n hxe hb dL_law_421 rfl (lv_at hl 0 rfl) ?_
  refine lv_iload hxe hb dL_law_422 (lv_at hl 4 rfl) ?_
  refine lv_iconst (v := 3) hxe hb dL_law_424 (by decide) ?_
  refine lv_iadd hxe hb dL_law_425 ?_
  refine va_sld hxe hb hX hbl hbA hS h3 dL_law_426 ?_
  refine lv_aload_n hxe hb dL_law_427 rfl (lv_at hl 0 rfl) ?_
  refine lv_iload hxe hb dL_law_428 (lv_at hl 4 rfl) ?_
  refine lv_iconst (v := 4) hxe hb dL_law_430 (by decide) ?_
  refine lv_iadd hxe hb dL_law_431 ?_
  refine va_sld hxe hb hX hbl hbA hS h4 dL_law_432 ?_
  refine lv_aload_n hxe hb dL_law_433 rfl (lv_at hl 3 rfl) ?_
  obtain ⟨x, hx⟩ : ∃ x : Option String, x = ((xGoat S (xs (nI i + 1).toNatClampNeg)).or ((xGate S (xs (nI i + 2).toNatClampNeg)).or ((xNum (xs (nI i + 3).toNatClampNeg) (S 5 (xs (nI i + 2).toNatClampNeg).toNatClampNeg)).or ((xNum (xs (nI i + 4).toNatClampNeg) 30).or ((xIdle S (xs (nI i + 1).toNatClampNeg).toNatClampNeg).or (xFr S (xs (nI i + 2).toNatClampNeg).toNatClampNeg N (xs (nI i + 3).toNatClampNeg))))))) := ⟨_, rfl⟩
  refine gl_callS hC 6 (wa := mw cI t2 q M K) (cw_barge l hl0 D cI t o r S o1 r1 T cL ob f (xs (nI i + 1).toNatClampNeg) (xs (nI i + 2).toNatClampNeg) (xs (nI i + 3).toNatClampNeg) (xs (nI i + 4).toNatClampNeg) N hSN hN12 G hSG hG4 x hx) gL_law_L_barge dL_law_434 hTh hNc hK hP hD hS hA hl.1 rfl hd_L_barge ⟨Nat.le_of_ble_eq_true rfl, Nat.le_of_ble_eq_true rfl⟩ ⟨by show cells + 6 ≤ 601024; omega, by show slots + 36 ≤ 7293034; omega⟩ rfl rfl (Nat.le_of_ble_eq_true rfl) (fun H locs hP hD hS => ?_)
  refine lv_istore (lv' := (5, .int (xc gxIO gxIA x)) :: [(0, .ref b), (1, .ref t), (2, .ref t2), (3, .ref ob), (4, .int (nI i))]) hxe hb dL_law_437 hl (by decide) rfl (fun ls hl => ?_)
  refine lv_aload_n hxe hb dL_law_439 rfl (lv_at hl 3 rfl) ?_
  refine lv_aload_n hxe hb dL_law_440 rfl (lv_at hl 1 rfl) ?_
  refine lv_iload hxe hb dL_law_441 (lv_at hl 5 rfl) ?_
  refine lv_iconst (v := 1) hxe hb dL_law_443 (by decide) ?_
  refine lv_iadd hxe hb dL_law_444 ?_
  refine va_sld hxe hb hX hbl hbA hS h1 dL_law_445 ?_
  refine lv_aload_n hxe hb dL_law_446 rfl (lv_at hl 1 rfl) ?_
  refine lv_iload hxe hb dL_law_447 (lv_at hl 5 rfl) ?_
  refine lv_iconst (v := 2) hxe hb dL_law_449 (by decide) ?_
  refine lv_iadd hxe hb dL_law_450 ?_
  refine va_sld hxe hb hX hbl hbA hS h2 dL_law_451 ?_
  refine lv_aload_n hxe hb dL_law_452 rfl (lv_at hl 1 rfl) ?_
  refine lv_iload hxe hb dL_law_453 (lv_at hl 5 rfl) ?_
  refine lv_iconst (v := 3) hxe hb dL_law_455 (by decide) ?_
  refine lv_iadd hxe hb dL_law_456 ?_
  refine va_sld hxe hb hX hbl hbA hS h3 dL_law_457 ?_
  refine lv_aload_n hxe hb dL_law_458 rfl (lv_at hl 1 rfl) ?_
  refine lv_iload hxe hb dL_law_459 (lv_at hl 5 rfl) ?_
  refine lv_iconst (v := 4) hxe hb dL_law_461 (by decide) ?_
  refine lv_iadd hxe hb dL_law_462 ?_
  refine va_sld hxe hb hX hbl hbA hS h4 dL_law_463 ?_
  refine gt_callV hC [] (tw cI t o r (xsel x (gxEnt S (xs (nI i + 1).toNatClampNeg).toNatClampNeg (xs (nI i + 2).toNatClampNeg) (xs (nI i + 3).toNatClampNeg) (xs (nI i + 4).toNatClampNeg)) S) o1 r1 T ++ oc cL ob (osel x f ((gxFree (gxEnt S (xs (nI i + 1).toNatClampNeg).toNatClampNeg (xs (nI i + 2).toNatClampNeg) (xs (nI i + 3).toNatClampNeg) (xs (nI i + 4).toNatClampNeg)) (xs (nI i + 2).toNatClampNeg).toNatClampNeg N)))) 0 2 4 (ws' := mw cI t2 q (mM_barge M N G (xs (nI i + 1).toNatClampNeg) (xs (nI i + 2).toNatClampNeg) (xs (nI i + 3).toNatClampNeg) (xs (nI i + 4).toNatClampNeg)) K ++ (tw cI t o r (xsel x (gxEnt S (xs (nI i + 1).toNatClampNeg).toNatClampNeg (xs (nI i + 2).toNatClampNeg) (xs (nI i + 3).toNatClampNeg) (xs (nI i + 4).toNatClampNeg)) S) o1 r1 T ++ oc cL ob (osel x f ((gxFree (gxEnt S (xs (nI i + 1).toNatClampNeg).toNatClampNeg (xs (nI i + 2).toNatClampNeg) (xs (nI i + 3).toNatClampNeg) (xs (nI i + 4).toNatClampNeg)) (xs (nI i + 2).toNatClampNeg).toNatClampNeg N))))) (ct_X2_barge l D cI t2 q M K (xs (nI i + 1).toNatClampNeg) (xs (nI i + 2).toNatClampNeg) (xs (nI i + 3).toNatClampNeg) (xs (nI i + 4).toNatClampNeg) N hMN hN12 G hMG hG4 (fun X g => mOpN_lt hN12 X g)) gL_law_X2_barge dL_law_464 hKi hP hD hS hA hl.1 rfl hd_X2_barge ⟨Nat.le_of_ble_eq_true rfl, Nat.le_of_ble_eq_true rfl⟩ ⟨by show cells + 6 + 0 ≤ 601024; omega, by show slots + 36 + 0 ≤ 7293034; omega⟩ rfl rfl rfl rfl rfl rfl (Nat.le_of_ble_eq_true rfl) (fun H locs hP hD hS => ?_)
  refine gt_stk [.int (mR_barge M N G (xs (nI i + 1).toNatClampNeg) (xs (nI i + 2).toNatClampNeg) (xs (nI i + 3).toNatClampNeg) (xs (nI i + 4).toNatClampNeg))] rfl ?_
  refine lv_istore (lv' := (6, .int (mR_barge M N G (xs (nI i + 1).toNatClampNeg) (xs (nI i + 2).toNatClampNeg) (xs (nI i + 3).toNatClampNeg) (xs (nI i + 4).toNatClampNeg))) :: (5, .int (xc gxIO gxIA x)) :: [(0, .ref b), (1, .ref t), (2, .ref t2), (3, .ref ob), (4, .int (nI i))]) hxe hb dL_law_467 hl (by decide) rfl (fun ls hl => ?_)
  refine lv_aload_n hxe hb dL_law_469 rfl (lv_at hl 4 rfl) ?_
  refine gt_callV hC [] (tw cI t o r (xsel x (gxEnt S (xs (nI i + 1).toNatClampNeg).toNatClampNeg (xs (nI i + 2).toNatClampNeg) (xs (nI i + 3).toNatClampNeg) (xs (nI i + 4).toNatClampNeg)) S) o1 r1 T ++ oc cL ob (osel x f ((gxFree (gxEnt S (xs (nI i + 1).toNatClampNeg).toNatClampNeg (xs (nI i + 2).toNatClampNeg) (xs (nI i + 3).toNatClampNeg) (xs (nI i + 4).toNatClampNeg)) (xs (nI i + 2).toNatClampNeg).toNatClampNeg N)))) 0 2 0 (ws' := mw cI t2 q (mM_barge M N G (xs (nI i + 1).toNatClampNeg) (xs (nI i + 2).toNatClampNeg) (xs (nI i + 3).toNatClampNeg) (xs (nI i + 4).toNatClampNeg)) K ++ (tw cI t o r (xsel x (gxEnt S (xs (nI i + 1).toNatClampNeg).toNatClampNeg (xs (nI i + 2).toNatClampNeg) (xs (nI i + 3).toNatClampNeg) (xs (nI i + 4).toNatClampNeg)) S) o1 r1 T ++ oc cL ob (osel x f ((gxFree (gxEnt S (xs (nI i + 1).toNatClampNeg).toNatClampNeg (xs (nI i + 2).toNatClampNeg) (xs (nI i + 3).toNatClampNeg) (xs (nI i + 4).toNatClampNeg)) (xs (nI i + 2).toNatClampNeg).toNatClampNeg N))))) (ct_X2_thrown l D cI t2 q (mM_barge M N G (xs (nI i + 1).toNatClampNeg) (xs (nI i + 2).toNatClampNeg) (xs (nI i + 3).toNatClampNeg) (xs (nI i + 4).toNatClampNeg)) K) gL_law_X2_thrown dL_law_470 hKi hP hD hS hA hl.1 rfl hd_X2_thrown ⟨Nat.le_of_ble_eq_true rfl, Nat.le_of_ble_eq_true rfl⟩ ⟨by show cells + 6 + 0 + 0 ≤ 601024; omega, by show slots + 36 + 0 + 0 ≤ 7293034; omega⟩ rfl rfl rfl rfl rfl rfl (Nat.le_of_ble_eq_true rfl) (fun H locs hP hD hS => ?_)
  have hop := op_barge hI (xs (nI i + 1).toNatClampNeg) (xs (nI i + 2).toNatClampNeg) (xs (nI i + 3).toNatClampNeg) (xs (nI i + 4).toNatClampNeg) x hx
  obtain ⟨u1, u2, u3⟩ := hop
  refine gt_stk [.int ((mM_barge M N G (xs (nI i + 1).toNatClampNeg) (xs (nI i + 2).toNatClampNeg) (xs (nI i + 3).toNatClampNeg) (xs (nI i + 4).toNatClampNeg)) 12 0)] rfl ?_
  refine lv_iload hxe hb dL_law_473 (lv_at hl 1 rfl) ?_
  refine lv_icmp_eq (tgt := 480) hxe hb dL_law_475 (by decide) (fun _ => ?_) (fun z => absurd u1 z)
  refine lv_iload hxe hb dL_law_480 (lv_at hl 1 rfl) ?_
  refine lv_if_ne (tgt := 497) hxe hb dL_law_482 (by decide) (fun _ => ?_) (fun hz => ?_)
  · refine lv_goto (tgt := 1611) hxe hb dL_law_497 (by decide) ?_
    exact W.widen (k := cells + 137) (n := slots + 848) (by omega) (by omega) (kk G N (xsel x (gxEnt S (xs (nI i + 1).toNatClampNeg).toNatClampNeg (xs (nI i + 2).toNatClampNeg) (xs (nI i + 3).toNatClampNeg) (xs (nI i + 4).toNatClampNeg)) S) T (mM_barge M N G (xs (nI i + 1).toNatClampNeg) (xs (nI i + 2).toNatClampNeg) (xs (nI i + 3).toNatClampNeg) (xs (nI i + 4).toNatClampNeg)) K (osel x f ((gxFree (gxEnt S (xs (nI i + 1).toNatClampNeg).toNatClampNeg (xs (nI i + 2).toNatClampNeg) (xs (nI i + 3).toNatClampNeg) (xs (nI i + 4).toNatClampNeg)) (xs (nI i + 2).toNatClampNeg).toNatClampNeg N))) H locs ls u3 hP hD hS (lv_sub hl [2, 3, 4, 5, 6] rfl))
  · have hx0 := xc_0 hz
    refine lv_aload_n hxe hb dL_law_485 rfl (lv_at hl 5 rfl) ?_
    refine lv_iconst (v := 0) hxe hb dL_law_486 (by decide) ?_
    refine va_lald (f := (osel x f ((gxFree (gxEnt S (xs (nI i + 1).toNatClampNeg).toNatClampNeg (xs (nI i + 2).toNatClampNeg) (xs (nI i + 3).toNatClampNeg) (xs (nI i + 4).toNatClampNeg)) (xs (nI i + 2).toNatClampNeg).toNatClampNeg N)))) (i := 0) (n := 1) (cA := cL) hxe hb hK hP (6 + 27) 1 rfl rfl (by unfold vp_in; decide) dL_law_487 ?_
    refine lv_iload hxe hb dL_law_488 (lv_at hl 0 rfl) ?_
    refine lv_i2l hxe hb dL_law_490 rfl ?_
    refine W.lcmp hxe hb dL_law_491 ?_
    have hv : (osel x f ((gxFree (gxEnt S (xs (nI i + 1).toNatClampNeg).toNatClampNeg (xs (nI i + 2).toNatClampNeg) (xs (nI i + 3).toNatClampNeg) (xs (nI i + 4).toNatClampNeg)) (xs (nI i + 2).toNatClampNeg).toNatClampNeg N))) (0 : Int32).toNatClampNeg = Int32.toInt64 (mR_barge M N G (xs (nI i + 1).toNatClampNeg) (xs (nI i + 2).toNatClampNeg) (xs (nI i + 3).toNatClampNeg) (xs (nI i + 4).toNatClampNeg)) := by
      rw [u2 hx0, hx0, osel_n]
      rfl
    refine gt_stk [.int 0] (by rw [hv, lg_cmp_self]) ?_
    refine lv_if_eq (tgt := 497) hxe hb dL_law_492 (by decide) (fun _ => ?_) (fun z => absurd rfl z)
    refine lv_goto (tgt := 1611) hxe hb dL_law_497 (by decide) ?_
    exact W.widen (k := cells + 137) (n := slots + 848) (by omega) (by omega) (kk G N (xsel x (gxEnt S (xs (nI i + 1).toNatClampNeg).toNatClampNeg (xs (nI i + 2).toNatClampNeg) (xs (nI i + 3).toNatClampNeg) (xs (nI i + 4).toNatClampNeg)) S) T (mM_barge M N G (xs (nI i + 1).toNatClampNeg) (xs (nI i + 2).toNatClampNeg) (xs (nI i + 3).toNatClampNeg) (xs (nI i + 4).toNatClampNeg)) K (osel x f ((gxFree (gxEnt S (xs (nI i + 1).toNatClampNeg).toNatClampNeg (xs (nI i + 2).toNatClampNeg) (xs (nI i + 3).toNatClampNeg) (xs (nI i + 4).toNatClampNeg)) (xs (nI i + 2).toNatClampNeg).toNatClampNeg N))) H locs ls u3 hP hD hS (lv_sub hl [2, 3, 4, 5, 6] rfl))

set_option maxRecDepth 20000 in
theorem lc_callBack {p : Program} {l : Launch} {e : Env} {s : State} {m : MethodId} {args : Array Value} {below : List Frame} {meth : Method} {c : Code} {Q : State → Prop} {D : va_G} {cI cL : ClassId} {A : Nat → Prop} {b L : Nat} {xs : Nat → Int32}
    (hl0 : l.stackTraces = false) (hC : CallFix p m c cL_law 9 s args wsL_law RL) (hTh : gTh A s s.heap) (hNc : gNc s) (hK : va_K D vwCl [(cI, .int), (cL, .long)] s) (hA : ∀ q, s.heap.size ≤ q → A q) (hX : va_X b L xs s s.heap) (hbl : b < s.heap.size) (hbA : ¬ A b)
    {t o : Nat} {r : Nat → Nat} {S : SS} {o1 : Nat} {r1 : Nat → Nat} {T : SS} {t2 : Nat} {q : Nat → Nat} {M K : SS} {ob : Nat} {f : Nat → Int64} {G N i cells slots : Nat} {H : Heap} {locs : List Loc} {ls : Array Slot}
    (hI : Inv G N S M) (hi : i + 6 ≤ L) (hL : L ≤ 3072) (hcs : cells + 137 ≤ 601024 ∧ slots + 848 ≤ 7293034) (hP : va_P D vwCl (mw cI t2 q M K ++ (tw cI t o r S o1 r1 T ++ oc cL ob f)) H) (hD : va_D A (mw cI t2 q M K ++ (tw cI t o r S o1 r1 T ++ oc cL ob f))) (hS : va_S A s.heap H locs) (hl : lv_has ls 9 [(0, .ref b), (1, .ref t), (2, .ref t2), (3, .ref ob), (4, .int (nI i))])
    (kk : ∀ (G N : Nat) (S T M K : SS) (f : Nat → Int64) (H : Heap) (locs : List Loc) (ls : Array Slot), Inv G N S M → va_P D vwCl (mw cI t2 q M K ++ (tw cI t o r S o1 r1 T ++ oc cL ob f)) H → va_D A (mw cI t2 q M K ++ (tw cI t o r S o1 r1 T ++ oc cL ob f)) → va_S A s.heap H locs → lv_has ls 9 [(0, .ref b), (1, .ref t), (2, .ref t2), (3, .ref ob), (4, .int (nI i))] → W p l e room_1 s m args below meth c H locs (cells + 137) (slots + 848) Q (F0 m 1611 ls [])) : W p l e room_1 s m args below meth c H locs cells slots Q (F0 m 500 ls []) := by
  have hxe := hC.1
  have hb := hC.2.1
  have hI' := hI
  obtain ⟨hN12, hG4, hSG, hSN, hMG, hMN, rel, -, -⟩ := hI'
  have hKi : va_K D vwCl [(cI, .int)] s := ⟨hK.1, fun k z hz => by
    cases k with
    | zero => exact hK.2 0 z hz
    | succ k => cases hz⟩
  have h1 : vp_in (nI i + 1) L := by
    rw [show nI i + 1 = nI (i + 1) from nI_add i 1]
    exact vp_in_nI (by omega) (by omega)
  refine lv_aload_n hxe hb dL_law_500 rfl (lv_at hl 1 rfl) ?_
  refine lv_aload_n hxe hb dL_law_501 rfl (lv_at hl 0 rfl) ?_
  refine lv_iload hxe hb dL_law_502 (lv_at hl 4 rfl) ?_
  refine lv_iconst (v := 1) hxe hb dL_law_504 (by decide) ?_
  refine lv_iadd hxe hb dL_law_505 ?_
  refine va_sld hxe hb hX hbl hbA hS h1 dL_law_506 ?_
  refine lv_aload_n hxe hb dL_law_507 rfl (lv_at hl 3 rfl) ?_
  obtain ⟨x, hx⟩ : ∃ x : Option String, x = ((xGoat S (xs (nI i + 1).toNatClampNeg)).or (xCb S (xs (nI i + 1).toNatClampNeg).toNatClampNeg)) := ⟨_, rfl⟩
  refine gl_callS hC 3 (wa := mw cI t2 q M K) (cw_callBack l hl0 D cI t o r S o1 r1 T cL ob f (xs (nI i + 1).toNatClampNeg) N hSN hN12 x hx) gL_law_L_callBack dL_law_508 hTh hNc hK hP hD hS hA hl.1 rfl hd_L_callBack ⟨Nat.le_of_ble_eq_true rfl, Nat.le_of_ble_eq_true rfl⟩ ⟨by show cells + 2 ≤ 601024; omega, by show slots + 12 ≤ 7293034; omega⟩ rfl rfl (Nat.le_of_ble_eq_true rfl) (fun H locs hP hD hS => ?_)
  refine lv_istore (lv' := (5, .int (xc gxIO gxIS x)) :: [(0, .ref b), (1, .ref t), (2, .ref t2), (3, .ref ob), (4, .int (nI i))]) hxe hb dL_law_511 hl (by decide) rfl (fun ls hl => ?_)
  refine lv_aload_n hxe hb dL_law_513 rfl (lv_at hl 3 rfl) ?_
  refine lv_aload_n hxe hb dL_law_514 rfl (lv_at hl 1 rfl) ?_
  refine lv_iload hxe hb dL_law_515 (lv_at hl 5 rfl) ?_
  refine lv_iconst (v := 1) hxe hb dL_law_517 (by decide) ?_
  refine lv_iadd hxe hb dL_law_518 ?_
  refine va_sld hxe hb hX hbl hbA hS h1 dL_law_519 ?_
  refine gt_callV hC [] (tw cI t o r (xsel x (gxRest S (xs (nI i + 1).toNatClampNeg).toNatClampNeg) S) o1 r1 T ++ oc cL ob (osel x f ((gxHeld S (xs (nI i + 1).toNatClampNeg).toNatClampNeg)))) 0 2 1 (ws' := mw cI t2 q (mM_callBack M N G (xs (nI i + 1).toNatClampNeg)) K ++ (tw cI t o r (xsel x (gxRest S (xs (nI i + 1).toNatClampNeg).toNatClampNeg) S) o1 r1 T ++ oc cL ob (osel x f ((gxHeld S (xs (nI i + 1).toNatClampNeg).toNatClampNeg))))) (ct_X2_callBack l D cI t2 q M K (xs (nI i + 1).toNatClampNeg) N hMN hN12 G hMG hG4 (fun X g => mOpN_lt hN12 X g)) gL_law_X2_callBack dL_law_520 hKi hP hD hS hA hl.1 rfl hd_X2_callBack ⟨Nat.le_of_ble_eq_true rfl, Nat.le_of_ble_eq_true rfl⟩ ⟨by show cells + 2 + 0 ≤ 601024; omega, by show slots + 12 + 0 ≤ 7293034; omega⟩ rfl rfl rfl rfl rfl rfl (Nat.le_of_ble_eq_true rfl) (fun H locs hP hD hS => ?_)
  refine gt_stk [.int (mR_callBack M N G (xs (nI i + 1).toNatClampNeg))] rfl ?_
  refine lv_istore (lv' := (6, .int (mR_callBack M N G (xs (nI i + 1).toNatClampNeg))) :: (5, .int (xc gxIO gxIS x)) :: [(0, .ref b), (1, .ref t), (2, .ref t2), (3, .ref ob), (4, .int (nI i))]) hxe hb dL_law_523 hl (by decide) rfl (fun ls hl => ?_)
  refine lv_aload_n hxe hb dL_law_525 rfl (lv_at hl 4 rfl) ?_
  refine gt_callV hC [] (tw cI t o r (xsel x (gxRest S (xs (nI i + 1).toNatClampNeg).toNatClampNeg) S) o1 r1 T ++ oc cL ob (osel x f ((gxHeld S (xs (nI i + 1).toNatClampNeg).toNatClampNeg)))) 0 2 0 (ws' := mw cI t2 q (mM_callBack M N G (xs (nI i + 1).toNatClampNeg)) K ++ (tw cI t o r (xsel x (gxRest S (xs (nI i + 1).toNatClampNeg).toNatClampNeg) S) o1 r1 T ++ oc cL ob (osel x f ((gxHeld S (xs (nI i + 1).toNatClampNeg).toNatClampNeg))))) (ct_X2_thrown l D cI t2 q (mM_callBack M N G (xs (nI i + 1).toNatClampNeg)) K) gL_law_X2_thrown dL_law_526 hKi hP hD hS hA hl.1 rfl hd_X2_thrown ⟨Nat.le_of_ble_eq_true rfl, Nat.le_of_ble_eq_true rfl⟩ ⟨by show cells + 2 + 0 + 0 ≤ 601024; omega, by show slots + 12 + 0 + 0 ≤ 7293034; omega⟩ rfl rfl rfl rfl rfl rfl (Nat.le_of_ble_eq_true rfl) (fun H locs hP hD hS => ?_)
  have hop := op_callBack hI (xs (nI i + 1).toNatClampNeg) x hx
  obtain ⟨u1, u2, u3⟩ := hop
  refine gt_stk [.int ((mM_callBack M N G (xs (nI i + 1).toNatClampNeg)) 12 0)] rfl ?_
  refine lv_iload hxe hb dL_law_529 (lv_at hl 1 rfl) ?_
  refine lv_icmp_eq (tgt := 536) hxe hb dL_law_531 (by decide) (fun _ => ?_) (fun z => absurd u1 z)
  refine lv_iload hxe hb dL_law_536 (lv_at hl 1 rfl) ?_
  refine lv_if_ne (tgt := 553) hxe hb dL_law_538 (by decide) (fun _ => ?_) (fun hz => ?_)
  · refine lv_goto (tgt := 1611) hxe hb dL_law_553 (by decide) ?_
    exact W.widen (k := cells + 137) (n := slots + 848) (by omega) (by omega) (kk G N (xsel x (gxRest S (xs (nI i + 1).toNatClampNeg).toNatClampNeg) S) T (mM_callBack M N G (xs (nI i + 1).toNatClampNeg)) K (osel x f ((gxHeld S (xs (nI i + 1).toNatClampNeg).toNatClampNeg))) H locs ls u3 hP hD hS (lv_sub hl [2, 3, 4, 5, 6] rfl))
  · have hx0 := xc_0 hz
    refine lv_aload_n hxe hb dL_law_541 rfl (lv_at hl 5 rfl) ?_
    refine lv_iconst (v := 0) hxe hb dL_law_542 (by decide) ?_
    refine va_lald (f := (osel x f ((gxHeld S (xs (nI i + 1).toNatClampNeg).toNatClampNeg)))) (i := 0) (n := 1) (cA := cL) hxe hb hK hP (6 + 27) 1 rfl rfl (by unfold vp_in; decide) dL_law_543 ?_
    refine lv_iload hxe hb dL_law_544 (lv_at hl 0 rfl) ?_
    refine lv_i2l hxe hb dL_law_546 rfl ?_
    refine W.lcmp hxe hb dL_law_547 ?_
    have hv : (osel x f ((gxHeld S (xs (nI i + 1).toNatClampNeg).toNatClampNeg))) (0 : Int32).toNatClampNeg = Int32.toInt64 (mR_callBack M N G (xs (nI i + 1).toNatClampNeg)) := by
      rw [u2 hx0, hx0, osel_n]
      rfl
    refine gt_stk [.int 0] (by rw [hv, lg_cmp_self]) ?_
    refine lv_if_eq (tgt := 553) hxe hb dL_law_548 (by decide) (fun _ => ?_) (fun z => absurd rfl z)
    refine lv_goto (tgt := 1611) hxe hb dL_law_553 (by decide) ?_
    exact W.widen (k := cells + 137) (n := slots + 848) (by omega) (by omega) (kk G N (xsel x (gxRest S (xs (nI i + 1).toNatClampNeg).toNatClampNeg) S) T (mM_callBack M N G (xs (nI i + 1).toNatClampNeg)) K (osel x f ((gxHeld S (xs (nI i + 1).toNatClampNeg).toNatClampNeg))) H locs ls u3 hP hD hS (lv_sub hl [2, 3, 4, 5, 6] rfl))

set_option maxRecDepth 20000 in
theorem lc_pass {p : Program} {l : Launch} {e : Env} {s : State} {m : MethodId} {args : Array Value} {below : List Frame} {meth : Method} {c : Code} {Q : State → Prop} {D : va_G} {cI cL : ClassId} {A : Nat → Prop} {b L : Nat} {xs : Nat → Int32}
    (hl0 : l.stackTraces = false) (hC : CallFix p m c cL_law 9 s args wsL_law RL) (hTh : gTh A s s.heap) (hNc : gNc s) (hK : va_K D vwCl [(cI, .int), (cL, .long)] s) (hA : ∀ q, s.heap.size ≤ q → A q) (hX : va_X b L xs s s.heap) (hbl : b < s.heap.size) (hbA : ¬ A b)
    {t o : Nat} {r : Nat → Nat} {S : SS} {o1 : Nat} {r1 : Nat → Nat} {T : SS} {t2 : Nat} {q : Nat → Nat} {M K : SS} {ob : Nat} {f : Nat → Int64} {G N i cells slots : Nat} {H : Heap} {locs : List Loc} {ls : Array Slot}
    (hI : Inv G N S M) (hi : i + 6 ≤ L) (hL : L ≤ 3072) (hcs : cells + 137 ≤ 601024 ∧ slots + 848 ≤ 7293034) (hP : va_P D vwCl (mw cI t2 q M K ++ (tw cI t o r S o1 r1 T ++ oc cL ob f)) H) (hD : va_D A (mw cI t2 q M K ++ (tw cI t o r S o1 r1 T ++ oc cL ob f))) (hS : va_S A s.heap H locs) (hl : lv_has ls 9 [(0, .ref b), (1, .ref t), (2, .ref t2), (3, .ref ob), (4, .int (nI i))])
    (kk : ∀ (G N : Nat) (S T M K : SS) (f : Nat → Int64) (H : Heap) (locs : List Loc) (ls : Array Slot), Inv G N S M → va_P D vwCl (mw cI t2 q M K ++ (tw cI t o r S o1 r1 T ++ oc cL ob f)) H → va_D A (mw cI t2 q M K ++ (tw cI t o r S o1 r1 T ++ oc cL ob f)) → va_S A s.heap H locs → lv_has ls 9 [(0, .ref b), (1, .ref t), (2, .ref t2), (3, .ref ob), (4, .int (nI i))] → W p l e room_1 s m args below meth c H locs (cells + 137) (slots + 848) Q (F0 m 1611 ls [])) : W p l e room_1 s m args below meth c H locs cells slots Q (F0 m 556 ls []) := by
  have hxe := hC.1
  have hb := hC.2.1
  have hI' := hI
  obtain ⟨hN12, hG4, hSG, hSN, hMG, hMN, rel, -, -⟩ := hI'
  have hKi : va_K D vwCl [(cI, .int)] s := ⟨hK.1, fun k z hz => by
    cases k with
    | zero => exact hK.2 0 z hz
    | succ k => cases hz⟩
  have h1 : vp_in (nI i + 1) L := by
    rw [show nI i + 1 = nI (i + 1) from nI_add i 1]
    exact vp_in_nI (by omega) (by omega)
  refine lv_aload_n hxe hb dL_law_556 rfl (lv_at hl 1 rfl) ?_
  refine lv_aload_n hxe hb dL_law_557 rfl (lv_at hl 0 rfl) ?_
  refine lv_iload hxe hb dL_law_558 (lv_at hl 4 rfl) ?_
  refine lv_iconst (v := 1) hxe hb dL_law_560 (by decide) ?_
  refine lv_iadd hxe hb dL_law_561 ?_
  refine va_sld hxe hb hX hbl hbA hS h1 dL_law_562 ?_
  refine lv_aload_n hxe hb dL_law_563 rfl (lv_at hl 3 rfl) ?_
  obtain ⟨x, hx⟩ : ∃ x : Option String, x = (xNum (xs (nI i + 1).toNatClampNeg) 60) := ⟨_, rfl⟩
  refine gl_callS hC 3 (wa := mw cI t2 q M K) (cw_pass l hl0 D cI t o r S o1 r1 T cL ob f (xs (nI i + 1).toNatClampNeg) N hSN hN12 G hSG hG4 x hx) gL_law_L_pass dL_law_564 hTh hNc hK hP hD hS hA hl.1 rfl hd_L_pass ⟨Nat.le_of_ble_eq_true rfl, Nat.le_of_ble_eq_true rfl⟩ ⟨by show cells + 1 ≤ 601024; omega, by show slots + 6 ≤ 7293034; omega⟩ rfl rfl (Nat.le_of_ble_eq_true rfl) (fun H locs hP hD hS => ?_)
  refine lv_istore (lv' := (5, .int (xc gxIA gxIA x)) :: [(0, .ref b), (1, .ref t), (2, .ref t2), (3, .ref ob), (4, .int (nI i))]) hxe hb dL_law_567 hl (by decide) rfl (fun ls hl => ?_)
  refine lv_aload_n hxe hb dL_law_569 rfl (lv_at hl 3 rfl) ?_
  refine lv_aload_n hxe hb dL_law_570 rfl (lv_at hl 1 rfl) ?_
  refine lv_iload hxe hb dL_law_571 (lv_at hl 5 rfl) ?_
  refine lv_iconst (v := 1) hxe hb dL_law_573 (by decide) ?_
  refine lv_iadd hxe hb dL_law_574 ?_
  refine va_sld hxe hb hX hbl hbA hS h1 dL_law_575 ?_
  refine gt_callV hC [] (tw cI t o r (xsel x (gxIt S G N (xs (nI i + 1).toNatClampNeg).toNatClampNeg) S) o1 r1 T ++ oc cL ob (osel x f ((gxIt S G N (xs (nI i + 1).toNatClampNeg).toNatClampNeg 0 4 - S 0 4)))) 0 2 1 (ws' := mw cI t2 q (mM_pass M N G (xs (nI i + 1).toNatClampNeg)) K ++ (tw cI t o r (xsel x (gxIt S G N (xs (nI i + 1).toNatClampNeg).toNatClampNeg) S) o1 r1 T ++ oc cL ob (osel x f ((gxIt S G N (xs (nI i + 1).toNatClampNeg).toNatClampNeg 0 4 - S 0 4))))) (ct_X2_pass l D cI t2 q M K (xs (nI i + 1).toNatClampNeg) N hMN hN12 G hMG hG4 (fun X g => mOpN_lt hN12 X g)) gL_law_X2_pass dL_law_576 hKi hP hD hS hA hl.1 rfl hd_X2_pass ⟨Nat.le_of_ble_eq_true rfl, Nat.le_of_ble_eq_true rfl⟩ ⟨by show cells + 1 + 0 ≤ 601024; omega, by show slots + 6 + 0 ≤ 7293034; omega⟩ rfl rfl rfl rfl rfl rfl (Nat.le_of_ble_eq_true rfl) (fun H locs hP hD hS => ?_)
  refine gt_stk [.int (mR_pass M N G (xs (nI i + 1).toNatClampNeg))] rfl ?_
  refine lv_istore (lv' := (6, .int (mR_pass M N G (xs (nI i + 1).toNatClampNeg))) :: (5, .int (xc gxIA gxIA x)) :: [(0, .ref b), (1, .ref t), (2, .ref t2), (3, .ref ob), (4, .int (nI i))]) hxe hb dL_law_579 hl (by decide) rfl (fun ls hl => ?_)
  refine lv_aload_n hxe hb dL_law_581 rfl (lv_at hl 4 rfl) ?_
  refine gt_callV hC [] (tw cI t o r (xsel x (gxIt S G N (xs (nI i + 1).toNatClampNeg).toNatClampNeg) S) o1 r1 T ++ oc cL ob (osel x f ((gxIt S G N (xs (nI i + 1).toNatClampNeg).toNatClampNeg 0 4 - S 0 4)))) 0 2 0 (ws' := mw cI t2 q (mM_pass M N G (xs (nI i + 1).toNatClampNeg)) K ++ (tw cI t o r (xsel x (gxIt S G N (xs (nI i + 1).toNatClampNeg).toNatClampNeg) S) o1 r1 T ++ oc cL ob (osel x f ((gxIt S G N (xs (nI i + 1).toNatClampNeg).toNatClampNeg 0 4 - S 0 4))))) (ct_X2_thrown l D cI t2 q (mM_pass M N G (xs (nI i + 1).toNatClampNeg)) K) gL_law_X2_thrown dL_law_582 hKi hP hD hS hA hl.1 rfl hd_X2_thrown ⟨Nat.le_of_ble_eq_true rfl, Nat.le_of_ble_eq_true rfl⟩ ⟨by show cells + 1 + 0 + 0 ≤ 601024; omega, by show slots + 6 + 0 + 0 ≤ 7293034; omega⟩ rfl rfl rfl rfl rfl rfl (Nat.le_of_ble_eq_true rfl) (fun H locs hP hD hS => ?_)
  have hop := op_pass hI (xs (nI i + 1).toNatClampNeg)
  rw [← hx] at hop
  obtain ⟨u1, u2, u3⟩ := hop
  refine gt_stk [.int ((mM_pass M N G (xs (nI i + 1).toNatClampNeg)) 12 0)] rfl ?_
  refine lv_iload hxe hb dL_law_585 (lv_at hl 1 rfl) ?_
  refine lv_icmp_eq (tgt := 592) hxe hb dL_law_587 (by decide) (fun _ => ?_) (fun z => absurd u1 z)
  refine lv_iload hxe hb dL_law_592 (lv_at hl 1 rfl) ?_
  refine lv_if_ne (tgt := 609) hxe hb dL_law_594 (by decide) (fun _ => ?_) (fun hz => ?_)
  · refine lv_goto (tgt := 1611) hxe hb dL_law_609 (by decide) ?_
    exact W.widen (k := cells + 137) (n := slots + 848) (by omega) (by omega) (kk G N (xsel x (gxIt S G N (xs (nI i + 1).toNatClampNeg).toNatClampNeg) S) T (mM_pass M N G (xs (nI i + 1).toNatClampNeg)) K (osel x f ((gxIt S G N (xs (nI i + 1).toNatClampNeg).toNatClampNeg 0 4 - S 0 4))) H locs ls u3 hP hD hS (lv_sub hl [2, 3, 4, 5, 6] rfl))
  · have hx0 := xc_0 hz
    refine lv_aload_n hxe hb dL_law_597 rfl (lv_at hl 5 rfl) ?_
    refine lv_iconst (v := 0) hxe hb dL_law_598 (by decide) ?_
    refine va_lald (f := (osel x f ((gxIt S G N (xs (nI i + 1).toNatClampNeg).toNatClampNeg 0 4 - S 0 4)))) (i := 0) (n := 1) (cA := cL) hxe hb hK hP (6 + 27) 1 rfl rfl (by unfold vp_in; decide) dL_law_599 ?_
    refine lv_iload hxe hb dL_law_600 (lv_at hl 0 rfl) ?_
    refine lv_i2l hxe hb dL_law_602 rfl ?_
    refine W.lcmp hxe hb dL_law_603 ?_
    have hv : (osel x f ((gxIt S G N (xs (nI i + 1).toNatClampNeg).toNatClampNeg 0 4 - S 0 4))) (0 : Int32).toNatClampNeg = Int32.toInt64 (mR_pass M N G (xs (nI i + 1).toNatClampNeg)) := by
      rw [u2 hx0, hx0, osel_n]
      rfl
    refine gt_stk [.int 0] (by rw [hv, lg_cmp_self]) ?_
    refine lv_if_eq (tgt := 609) hxe hb dL_law_604 (by decide) (fun _ => ?_) (fun z => absurd rfl z)
    refine lv_goto (tgt := 1611) hxe hb dL_law_609 (by decide) ?_
    exact W.widen (k := cells + 137) (n := slots + 848) (by omega) (by omega) (kk G N (xsel x (gxIt S G N (xs (nI i + 1).toNatClampNeg).toNatClampNeg) S) T (mM_pass M N G (xs (nI i + 1).toNatClampNeg)) K (osel x f ((gxIt S G N (xs (nI i + 1).toNatClampNeg).toNatClampNeg 0 4 - S 0 4))) H locs ls u3 hP hD hS (lv_sub hl [2, 3, 4, 5, 6] rfl))

set_option maxRecDepth 20000 in
theorem lc_minute {p : Program} {l : Launch} {e : Env} {s : State} {m : MethodId} {args : Array Value} {below : List Frame} {meth : Method} {c : Code} {Q : State → Prop} {D : va_G} {cI cL : ClassId} {A : Nat → Prop} {b L : Nat} {xs : Nat → Int32}
    (hl0 : l.stackTraces = false) (hC : CallFix p m c cL_law 9 s args wsL_law RL) (hTh : gTh A s s.heap) (hNc : gNc s) (hK : va_K D vwCl [(cI, .int), (cL, .long)] s) (hA : ∀ q, s.heap.size ≤ q → A q) (hX : va_X b L xs s s.heap) (hbl : b < s.heap.size) (hbA : ¬ A b)
    {t o : Nat} {r : Nat → Nat} {S : SS} {o1 : Nat} {r1 : Nat → Nat} {T : SS} {t2 : Nat} {q : Nat → Nat} {M K : SS} {ob : Nat} {f : Nat → Int64} {G N i cells slots : Nat} {H : Heap} {locs : List Loc} {ls : Array Slot}
    (hI : Inv G N S M) (hi : i + 6 ≤ L) (hL : L ≤ 3072) (hcs : cells + 137 ≤ 601024 ∧ slots + 848 ≤ 7293034) (hP : va_P D vwCl (mw cI t2 q M K ++ (tw cI t o r S o1 r1 T ++ oc cL ob f)) H) (hD : va_D A (mw cI t2 q M K ++ (tw cI t o r S o1 r1 T ++ oc cL ob f))) (hS : va_S A s.heap H locs) (hl : lv_has ls 9 [(0, .ref b), (1, .ref t), (2, .ref t2), (3, .ref ob), (4, .int (nI i))])
    (kk : ∀ (G N : Nat) (S T M K : SS) (f : Nat → Int64) (H : Heap) (locs : List Loc) (ls : Array Slot), Inv G N S M → va_P D vwCl (mw cI t2 q M K ++ (tw cI t o r S o1 r1 T ++ oc cL ob f)) H → va_D A (mw cI t2 q M K ++ (tw cI t o r S o1 r1 T ++ oc cL ob f)) → va_S A s.heap H locs → lv_has ls 9 [(0, .ref b), (1, .ref t), (2, .ref t2), (3, .ref ob), (4, .int (nI i))] → W p l e room_1 s m args below meth c H locs (cells + 137) (slots + 848) Q (F0 m 1611 ls [])) : W p l e room_1 s m args below meth c H locs cells slots Q (F0 m 612 ls []) := by
  have hxe := hC.1
  have hb := hC.2.1
  have hI' := hI
  obtain ⟨hN12, hG4, hSG, hSN, hMG, hMN, rel, -, -⟩ := hI'
  have hKi : va_K D vwCl [(cI, .int)] s := ⟨hK.1, fun k z hz => by
    cases k with
    | zero => exact hK.2 0 z hz
    | succ k => cases hz⟩
  refine lv_aload_n hxe hb dL_law_612 rfl (lv_at hl 1 rfl) ?_
  refine gt_callV hC (mw cI t2 q M K) (oc cL ob f) 0 1 0 (ws' := mw cI t2 q M K ++ (tw cI t o r S o1 r1 T ++ oc cL ob f)) (ct_X1_minute l D cI t o r S o1 r1 T ) gL_law_X1_minute dL_law_613 hKi hP hD hS hA hl.1 rfl hd_X1_minute ⟨Nat.le_of_ble_eq_true rfl, Nat.le_of_ble_eq_true rfl⟩ ⟨by show cells + 0 ≤ 601024; omega, by show slots + 0 ≤ 7293034; omega⟩ rfl rfl rfl rfl rfl rfl (Nat.le_of_ble_eq_true rfl) (fun H locs hP hD hS => ?_)
  refine gt_stk [.int (S 0 0)] rfl ?_
  refine lv_aload_n hxe hb dL_law_616 rfl (lv_at hl 2 rfl) ?_
  refine gt_callV hC [] (tw cI t o r S o1 r1 T ++ oc cL ob f) 0 2 0 (ws' := mw cI t2 q (mM_minute M N G) K ++ (tw cI t o r S o1 r1 T ++ oc cL ob f)) (ct_X2_minute l D cI t2 q M K N hMN hN12 G hMG hG4 (fun X g => mOpN_lt hN12 X g)) gL_law_X2_minute dL_law_617 hKi hP hD hS hA hl.1 rfl hd_X2_minute ⟨Nat.le_of_ble_eq_true rfl, Nat.le_of_ble_eq_true rfl⟩ ⟨by show cells + 0 + 0 ≤ 601024; omega, by show slots + 0 + 0 ≤ 7293034; omega⟩ rfl rfl rfl rfl rfl rfl (Nat.le_of_ble_eq_true rfl) (fun H locs hP hD hS => ?_)
  refine gt_stk [.int (mR_minute M N G), .int (S 0 0)] rfl ?_
  have hv : S 0 0 = (mR_minute M N G) := rel.2.2.1.1.symm
  refine lv_icmp_eq (tgt := 1611) hxe hb dL_law_620 (by decide) (fun _ => ?_) (fun z => absurd hv z)
  exact W.widen (k := cells + 137) (n := slots + 848) (by omega) (by omega) (kk G N S T (mM_minute M N G) K f H locs ls (inv_t hI 0) hP hD hS hl)

set_option maxRecDepth 20000 in
theorem lc_gates {p : Program} {l : Launch} {e : Env} {s : State} {m : MethodId} {args : Array Value} {below : List Frame} {meth : Method} {c : Code} {Q : State → Prop} {D : va_G} {cI cL : ClassId} {A : Nat → Prop} {b L : Nat} {xs : Nat → Int32}
    (hl0 : l.stackTraces = false) (hC : CallFix p m c cL_law 9 s args wsL_law RL) (hTh : gTh A s s.heap) (hNc : gNc s) (hK : va_K D vwCl [(cI, .int), (cL, .long)] s) (hA : ∀ q, s.heap.size ≤ q → A q) (hX : va_X b L xs s s.heap) (hbl : b < s.heap.size) (hbA : ¬ A b)
    {t o : Nat} {r : Nat → Nat} {S : SS} {o1 : Nat} {r1 : Nat → Nat} {T : SS} {t2 : Nat} {q : Nat → Nat} {M K : SS} {ob : Nat} {f : Nat → Int64} {G N i cells slots : Nat} {H : Heap} {locs : List Loc} {ls : Array Slot}
    (hI : Inv G N S M) (hi : i + 6 ≤ L) (hL : L ≤ 3072) (hcs : cells + 137 ≤ 601024 ∧ slots + 848 ≤ 7293034) (hP : va_P D vwCl (mw cI t2 q M K ++ (tw cI t o r S o1 r1 T ++ oc cL ob f)) H) (hD : va_D A (mw cI t2 q M K ++ (tw cI t o r S o1 r1 T ++ oc cL ob f))) (hS : va_S A s.heap H locs) (hl : lv_has ls 9 [(0, .ref b), (1, .ref t), (2, .ref t2), (3, .ref ob), (4, .int (nI i))])
    (kk : ∀ (G N : Nat) (S T M K : SS) (f : Nat → Int64) (H : Heap) (locs : List Loc) (ls : Array Slot), Inv G N S M → va_P D vwCl (mw cI t2 q M K ++ (tw cI t o r S o1 r1 T ++ oc cL ob f)) H → va_D A (mw cI t2 q M K ++ (tw cI t o r S o1 r1 T ++ oc cL ob f)) → va_S A s.heap H locs → lv_has ls 9 [(0, .ref b), (1, .ref t), (2, .ref t2), (3, .ref ob), (4, .int (nI i))] → W p l e room_1 s m args below meth c H locs (cells + 137) (slots + 848) Q (F0 m 1611 ls [])) : W p l e room_1 s m args below meth c H locs cells slots Q (F0 m 625 ls []) := by
  have hxe := hC.1
  have hb := hC.2.1
  have hI' := hI
  obtain ⟨hN12, hG4, hSG, hSN, hMG, hMN, rel, -, -⟩ := hI'
  have hKi : va_K D vwCl [(cI, .int)] s := ⟨hK.1, fun k z hz => by
    cases k with
    | zero => exact hK.2 0 z hz
    | succ k => cases hz⟩
  refine lv_aload_n hxe hb dL_law_625 rfl (lv_at hl 1 rfl) ?_
  refine gt_callV hC (mw cI t2 q M K) (oc cL ob f) 0 1 0 (ws' := mw cI t2 q M K ++ (tw cI t o r S o1 r1 T ++ oc cL ob f)) (ct_X1_gates l D cI t o r S o1 r1 T ) gL_law_X1_gates dL_law_626 hKi hP hD hS hA hl.1 rfl hd_X1_gates ⟨Nat.le_of_ble_eq_true rfl, Nat.le_of_ble_eq_true rfl⟩ ⟨by show cells + 0 ≤ 601024; omega, by show slots + 0 ≤ 7293034; omega⟩ rfl rfl rfl rfl rfl rfl (Nat.le_of_ble_eq_true rfl) (fun H locs hP hD hS => ?_)
  refine gt_stk [.int (S 0 1)] rfl ?_
  refine lv_aload_n hxe hb dL_law_629 rfl (lv_at hl 2 rfl) ?_
  refine gt_callV hC [] (tw cI t o r S o1 r1 T ++ oc cL ob f) 0 2 0 (ws' := mw cI t2 q (mM_gates M N G) K ++ (tw cI t o r S o1 r1 T ++ oc cL ob f)) (ct_X2_gates l D cI t2 q M K N hMN hN12 G hMG hG4 (fun X g => mOpN_lt hN12 X g)) gL_law_X2_gates dL_law_630 hKi hP hD hS hA hl.1 rfl hd_X2_gates ⟨Nat.le_of_ble_eq_true rfl, Nat.le_of_ble_eq_true rfl⟩ ⟨by show cells + 0 + 0 ≤ 601024; omega, by show slots + 0 + 0 ≤ 7293034; omega⟩ rfl rfl rfl rfl rfl rfl (Nat.le_of_ble_eq_true rfl) (fun H locs hP hD hS => ?_)
  refine gt_stk [.int (mR_gates M N G), .int (S 0 1)] rfl ?_
  have hv : S 0 1 = (mR_gates M N G) := hSG.trans hMG.symm
  refine lv_icmp_eq (tgt := 1611) hxe hb dL_law_633 (by decide) (fun _ => ?_) (fun z => absurd hv z)
  exact W.widen (k := cells + 137) (n := slots + 848) (by omega) (by omega) (kk G N S T (mM_gates M N G) K f H locs ls (inv_t hI 0) hP hD hS hl)

set_option maxRecDepth 20000 in
theorem lc_goats {p : Program} {l : Launch} {e : Env} {s : State} {m : MethodId} {args : Array Value} {below : List Frame} {meth : Method} {c : Code} {Q : State → Prop} {D : va_G} {cI cL : ClassId} {A : Nat → Prop} {b L : Nat} {xs : Nat → Int32}
    (hl0 : l.stackTraces = false) (hC : CallFix p m c cL_law 9 s args wsL_law RL) (hTh : gTh A s s.heap) (hNc : gNc s) (hK : va_K D vwCl [(cI, .int), (cL, .long)] s) (hA : ∀ q, s.heap.size ≤ q → A q) (hX : va_X b L xs s s.heap) (hbl : b < s.heap.size) (hbA : ¬ A b)
    {t o : Nat} {r : Nat → Nat} {S : SS} {o1 : Nat} {r1 : Nat → Nat} {T : SS} {t2 : Nat} {q : Nat → Nat} {M K : SS} {ob : Nat} {f : Nat → Int64} {G N i cells slots : Nat} {H : Heap} {locs : List Loc} {ls : Array Slot}
    (hI : Inv G N S M) (hi : i + 6 ≤ L) (hL : L ≤ 3072) (hcs : cells + 137 ≤ 601024 ∧ slots + 848 ≤ 7293034) (hP : va_P D vwCl (mw cI t2 q M K ++ (tw cI t o r S o1 r1 T ++ oc cL ob f)) H) (hD : va_D A (mw cI t2 q M K ++ (tw cI t o r S o1 r1 T ++ oc cL ob f))) (hS : va_S A s.heap H locs) (hl : lv_has ls 9 [(0, .ref b), (1, .ref t), (2, .ref t2), (3, .ref ob), (4, .int (nI i))])
    (kk : ∀ (G N : Nat) (S T M K : SS) (f : Nat → Int64) (H : Heap) (locs : List Loc) (ls : Array Slot), Inv G N S M → va_P D vwCl (mw cI t2 q M K ++ (tw cI t o r S o1 r1 T ++ oc cL ob f)) H → va_D A (mw cI t2 q M K ++ (tw cI t o r S o1 r1 T ++ oc cL ob f)) → va_S A s.heap H locs → lv_has ls 9 [(0, .ref b), (1, .ref t), (2, .ref t2), (3, .ref ob), (4, .int (nI i))] → W p l e room_1 s m args below meth c H locs (cells + 137) (slots + 848) Q (F0 m 1611 ls [])) : W p l e room_1 s m args below meth c H locs cells slots Q (F0 m 638 ls []) := by
  have hxe := hC.1
  have hb := hC.2.1
  have hI' := hI
  obtain ⟨hN12, hG4, hSG, hSN, hMG, hMN, rel, -, -⟩ := hI'
  have hKi : va_K D vwCl [(cI, .int)] s := ⟨hK.1, fun k z hz => by
    cases k with
    | zero => exact hK.2 0 z hz
    | succ k => cases hz⟩
  refine lv_aload_n hxe hb dL_law_638 rfl (lv_at hl 1 rfl) ?_
  refine gt_callV hC (mw cI t2 q M K) (oc cL ob f) 0 1 0 (ws' := mw cI t2 q M K ++ (tw cI t o r S o1 r1 T ++ oc cL ob f)) (ct_X1_goats l D cI t o r S o1 r1 T ) gL_law_X1_goats dL_law_639 hKi hP hD hS hA hl.1 rfl hd_X1_goats ⟨Nat.le_of_ble_eq_true rfl, Nat.le_of_ble_eq_true rfl⟩ ⟨by show cells + 0 ≤ 601024; omega, by show slots + 0 ≤ 7293034; omega⟩ rfl rfl rfl rfl rfl rfl (Nat.le_of_ble_eq_true rfl) (fun H locs hP hD hS => ?_)
  refine gt_stk [.int (S 0 2)] rfl ?_
  refine lv_aload_n hxe hb dL_law_642 rfl (lv_at hl 2 rfl) ?_
  refine gt_callV hC [] (tw cI t o r S o1 r1 T ++ oc cL ob f) 0 2 0 (ws' := mw cI t2 q (mM_goats M N G) K ++ (tw cI t o r S o1 r1 T ++ oc cL ob f)) (ct_X2_goats l D cI t2 q M K N hMN hN12 G hMG hG4 (fun X g => mOpN_lt hN12 X g)) gL_law_X2_goats dL_law_643 hKi hP hD hS hA hl.1 rfl hd_X2_goats ⟨Nat.le_of_ble_eq_true rfl, Nat.le_of_ble_eq_true rfl⟩ ⟨by show cells + 0 + 0 ≤ 601024; omega, by show slots + 0 + 0 ≤ 7293034; omega⟩ rfl rfl rfl rfl rfl rfl (Nat.le_of_ble_eq_true rfl) (fun H locs hP hD hS => ?_)
  refine gt_stk [.int (mR_goats M N G), .int (S 0 2)] rfl ?_
  have hv : S 0 2 = (mR_goats M N G) := hSN.trans hMN.symm
  refine lv_icmp_eq (tgt := 1611) hxe hb dL_law_646 (by decide) (fun _ => ?_) (fun z => absurd hv z)
  exact W.widen (k := cells + 137) (n := slots + 848) (by omega) (by omega) (kk G N S T (mM_goats M N G) K f H locs ls (inv_t hI 0) hP hD hS hl)

set_option maxRecDepth 20000 in
theorem lc_waiting {p : Program} {l : Launch} {e : Env} {s : State} {m : MethodId} {args : Array Value} {below : List Frame} {meth : Method} {c : Code} {Q : State → Prop} {D : va_G} {cI cL : ClassId} {A : Nat → Prop} {b L : Nat} {xs : Nat → Int32}
    (hl0 : l.stackTraces = false) (hC : CallFix p m c cL_law 9 s args wsL_law RL) (hTh : gTh A s s.heap) (hNc : gNc s) (hK : va_K D vwCl [(cI, .int), (cL, .long)] s) (hA : ∀ q, s.heap.size ≤ q → A q) (hX : va_X b L xs s s.heap) (hbl : b < s.heap.size) (hbA : ¬ A b)
    {t o : Nat} {r : Nat → Nat} {S : SS} {o1 : Nat} {r1 : Nat → Nat} {T : SS} {t2 : Nat} {q : Nat → Nat} {M K : SS} {ob : Nat} {f : Nat → Int64} {G N i cells slots : Nat} {H : Heap} {locs : List Loc} {ls : Array Slot}
    (hI : Inv G N S M) (hi : i + 6 ≤ L) (hL : L ≤ 3072) (hcs : cells + 137 ≤ 601024 ∧ slots + 848 ≤ 7293034) (hP : va_P D vwCl (mw cI t2 q M K ++ (tw cI t o r S o1 r1 T ++ oc cL ob f)) H) (hD : va_D A (mw cI t2 q M K ++ (tw cI t o r S o1 r1 T ++ oc cL ob f))) (hS : va_S A s.heap H locs) (hl : lv_has ls 9 [(0, .ref b), (1, .ref t), (2, .ref t2), (3, .ref ob), (4, .int (nI i))])
    (kk : ∀ (G N : Nat) (S T M K : SS) (f : Nat → Int64) (H : Heap) (locs : List Loc) (ls : Array Slot), Inv G N S M → va_P D vwCl (mw cI t2 q M K ++ (tw cI t o r S o1 r1 T ++ oc cL ob f)) H → va_D A (mw cI t2 q M K ++ (tw cI t o r S o1 r1 T ++ oc cL ob f)) → va_S A s.heap H locs → lv_has ls 9 [(0, .ref b), (1, .ref t), (2, .ref t2), (3, .ref ob), (4, .int (nI i))] → W p l e room_1 s m args below meth c H locs (cells + 137) (slots + 848) Q (F0 m 1611 ls [])) : W p l e room_1 s m args below meth c H locs cells slots Q (F0 m 651 ls []) := by
  have hxe := hC.1
  have hb := hC.2.1
  have hI' := hI
  obtain ⟨hN12, hG4, hSG, hSN, hMG, hMN, rel, -, -⟩ := hI'
  have hKi : va_K D vwCl [(cI, .int)] s := ⟨hK.1, fun k z hz => by
    cases k with
    | zero => exact hK.2 0 z hz
    | succ k => cases hz⟩
  refine lv_aload_n hxe hb dL_law_651 rfl (lv_at hl 1 rfl) ?_
  refine gt_callV hC (mw cI t2 q M K) (oc cL ob f) 0 1 0 (ws' := mw cI t2 q M K ++ (tw cI t o r S o1 r1 T ++ oc cL ob f)) (ct_X1_waiting l D cI t o r S o1 r1 T N hSN hN12) gL_law_X1_waiting dL_law_652 hKi hP hD hS hA hl.1 rfl hd_X1_waiting ⟨Nat.le_of_ble_eq_true rfl, Nat.le_of_ble_eq_true rfl⟩ ⟨by show cells + 0 ≤ 601024; omega, by show slots + 0 ≤ 7293034; omega⟩ rfl rfl rfl rfl rfl rfl (Nat.le_of_ble_eq_true rfl) (fun H locs hP hD hS => ?_)
  refine gt_stk [.int (gxCnt S 1 N)] rfl ?_
  refine lv_aload_n hxe hb dL_law_655 rfl (lv_at hl 2 rfl) ?_
  refine gt_callV hC [] (tw cI t o r S o1 r1 T ++ oc cL ob f) 0 2 0 (ws' := mw cI t2 q (mM_waiting M N G) K ++ (tw cI t o r S o1 r1 T ++ oc cL ob f)) (ct_X2_waiting l D cI t2 q M K N hMN hN12 G hMG hG4 (fun X g => mOpN_lt hN12 X g)) gL_law_X2_waiting dL_law_656 hKi hP hD hS hA hl.1 rfl hd_X2_waiting ⟨Nat.le_of_ble_eq_true rfl, Nat.le_of_ble_eq_true rfl⟩ ⟨by show cells + 0 + 0 ≤ 601024; omega, by show slots + 0 + 0 ≤ 7293034; omega⟩ rfl rfl rfl rfl rfl rfl (Nat.le_of_ble_eq_true rfl) (fun H locs hP hD hS => ?_)
  refine gt_stk [.int (mR_waiting M N G), .int (gxCnt S 1 N)] rfl ?_
  have hv : gxCnt S 1 N = (mR_waiting M N G) := (r_cnt rel.1 1 N (Nat.le_refl N)).symm
  refine lv_icmp_eq (tgt := 1611) hxe hb dL_law_659 (by decide) (fun _ => ?_) (fun z => absurd hv z)
  exact W.widen (k := cells + 137) (n := slots + 848) (by omega) (by omega) (kk G N S T (mM_waiting M N G) K f H locs ls (inv_t hI 0) hP hD hS hl)

set_option maxRecDepth 20000 in
theorem lc_inside {p : Program} {l : Launch} {e : Env} {s : State} {m : MethodId} {args : Array Value} {below : List Frame} {meth : Method} {c : Code} {Q : State → Prop} {D : va_G} {cI cL : ClassId} {A : Nat → Prop} {b L : Nat} {xs : Nat → Int32}
    (hl0 : l.stackTraces = false) (hC : CallFix p m c cL_law 9 s args wsL_law RL) (hTh : gTh A s s.heap) (hNc : gNc s) (hK : va_K D vwCl [(cI, .int), (cL, .long)] s) (hA : ∀ q, s.heap.size ≤ q → A q) (hX : va_X b L xs s s.heap) (hbl : b < s.heap.size) (hbA : ¬ A b)
    {t o : Nat} {r : Nat → Nat} {S : SS} {o1 : Nat} {r1 : Nat → Nat} {T : SS} {t2 : Nat} {q : Nat → Nat} {M K : SS} {ob : Nat} {f : Nat → Int64} {G N i cells slots : Nat} {H : Heap} {locs : List Loc} {ls : Array Slot}
    (hI : Inv G N S M) (hi : i + 6 ≤ L) (hL : L ≤ 3072) (hcs : cells + 137 ≤ 601024 ∧ slots + 848 ≤ 7293034) (hP : va_P D vwCl (mw cI t2 q M K ++ (tw cI t o r S o1 r1 T ++ oc cL ob f)) H) (hD : va_D A (mw cI t2 q M K ++ (tw cI t o r S o1 r1 T ++ oc cL ob f))) (hS : va_S A s.heap H locs) (hl : lv_has ls 9 [(0, .ref b), (1, .ref t), (2, .ref t2), (3, .ref ob), (4, .int (nI i))])
    (kk : ∀ (G N : Nat) (S T M K : SS) (f : Nat → Int64) (H : Heap) (locs : List Loc) (ls : Array Slot), Inv G N S M → va_P D vwCl (mw cI t2 q M K ++ (tw cI t o r S o1 r1 T ++ oc cL ob f)) H → va_D A (mw cI t2 q M K ++ (tw cI t o r S o1 r1 T ++ oc cL ob f)) → va_S A s.heap H locs → lv_has ls 9 [(0, .ref b), (1, .ref t), (2, .ref t2), (3, .ref ob), (4, .int (nI i))] → W p l e room_1 s m args below meth c H locs (cells + 137) (slots + 848) Q (F0 m 1611 ls [])) : W p l e room_1 s m args below meth c H locs cells slots Q (F0 m 664 ls []) := by
  have hxe := hC.1
  have hb := hC.2.1
  have hI' := hI
  obtain ⟨hN12, hG4, hSG, hSN, hMG, hMN, rel, -, -⟩ := hI'
  have hKi : va_K D vwCl [(cI, .int)] s := ⟨hK.1, fun k z hz => by
    cases k with
    | zero => exact hK.2 0 z hz
    | succ k => cases hz⟩
  refine lv_aload_n hxe hb dL_law_664 rfl (lv_at hl 1 rfl) ?_
  refine gt_callV hC (mw cI t2 q M K) (oc cL ob f) 0 1 0 (ws' := mw cI t2 q M K ++ (tw cI t o r S o1 r1 T ++ oc cL ob f)) (ct_X1_inside l D cI t o r S o1 r1 T N hSN hN12) gL_law_X1_inside dL_law_665 hKi hP hD hS hA hl.1 rfl hd_X1_inside ⟨Nat.le_of_ble_eq_true rfl, Nat.le_of_ble_eq_true rfl⟩ ⟨by show cells + 0 ≤ 601024; omega, by show slots + 0 ≤ 7293034; omega⟩ rfl rfl rfl rfl rfl rfl (Nat.le_of_ble_eq_true rfl) (fun H locs hP hD hS => ?_)
  refine gt_stk [.int (gxCnt S 2 N)] rfl ?_
  refine lv_aload_n hxe hb dL_law_668 rfl (lv_at hl 2 rfl) ?_
  refine gt_callV hC [] (tw cI t o r S o1 r1 T ++ oc cL ob f) 0 2 0 (ws' := mw cI t2 q (mM_inside M N G) K ++ (tw cI t o r S o1 r1 T ++ oc cL ob f)) (ct_X2_inside l D cI t2 q M K N hMN hN12 G hMG hG4 (fun X g => mOpN_lt hN12 X g)) gL_law_X2_inside dL_law_669 hKi hP hD hS hA hl.1 rfl hd_X2_inside ⟨Nat.le_of_ble_eq_true rfl, Nat.le_of_ble_eq_true rfl⟩ ⟨by show cells + 0 + 0 ≤ 601024; omega, by show slots + 0 + 0 ≤ 7293034; omega⟩ rfl rfl rfl rfl rfl rfl (Nat.le_of_ble_eq_true rfl) (fun H locs hP hD hS => ?_)
  refine gt_stk [.int (mR_inside M N G), .int (gxCnt S 2 N)] rfl ?_
  have hv : gxCnt S 2 N = (mR_inside M N G) := (r_cnt rel.1 2 N (Nat.le_refl N)).symm
  refine lv_icmp_eq (tgt := 1611) hxe hb dL_law_672 (by decide) (fun _ => ?_) (fun z => absurd hv z)
  exact W.widen (k := cells + 137) (n := slots + 848) (by omega) (by omega) (kk G N S T (mM_inside M N G) K f H locs ls (inv_t hI 0) hP hD hS hl)

set_option maxRecDepth 20000 in
theorem lc_starving {p : Program} {l : Launch} {e : Env} {s : State} {m : MethodId} {args : Array Value} {below : List Frame} {meth : Method} {c : Code} {Q : State → Prop} {D : va_G} {cI cL : ClassId} {A : Nat → Prop} {b L : Nat} {xs : Nat → Int32}
    (hl0 : l.stackTraces = false) (hC : CallFix p m c cL_law 9 s args wsL_law RL) (hTh : gTh A s s.heap) (hNc : gNc s) (hK : va_K D vwCl [(cI, .int), (cL, .long)] s) (hA : ∀ q, s.heap.size ≤ q → A q) (hX : va_X b L xs s s.heap) (hbl : b < s.heap.size) (hbA : ¬ A b)
    {t o : Nat} {r : Nat → Nat} {S : SS} {o1 : Nat} {r1 : Nat → Nat} {T : SS} {t2 : Nat} {q : Nat → Nat} {M K : SS} {ob : Nat} {f : Nat → Int64} {G N i cells slots : Nat} {H : Heap} {locs : List Loc} {ls : Array Slot}
    (hI : Inv G N S M) (hi : i + 6 ≤ L) (hL : L ≤ 3072) (hcs : cells + 137 ≤ 601024 ∧ slots + 848 ≤ 7293034) (hP : va_P D vwCl (mw cI t2 q M K ++ (tw cI t o r S o1 r1 T ++ oc cL ob f)) H) (hD : va_D A (mw cI t2 q M K ++ (tw cI t o r S o1 r1 T ++ oc cL ob f))) (hS : va_S A s.heap H locs) (hl : lv_has ls 9 [(0, .ref b), (1, .ref t), (2, .ref t2), (3, .ref ob), (4, .int (nI i))])
    (kk : ∀ (G N : Nat) (S T M K : SS) (f : Nat → Int64) (H : Heap) (locs : List Loc) (ls : Array Slot), Inv G N S M → va_P D vwCl (mw cI t2 q M K ++ (tw cI t o r S o1 r1 T ++ oc cL ob f)) H → va_D A (mw cI t2 q M K ++ (tw cI t o r S o1 r1 T ++ oc cL ob f)) → va_S A s.heap H locs → lv_has ls 9 [(0, .ref b), (1, .ref t), (2, .ref t2), (3, .ref ob), (4, .int (nI i))] → W p l e room_1 s m args below meth c H locs (cells + 137) (slots + 848) Q (F0 m 1611 ls [])) : W p l e room_1 s m args below meth c H locs cells slots Q (F0 m 677 ls []) := by
  have hxe := hC.1
  have hb := hC.2.1
  have hI' := hI
  obtain ⟨hN12, hG4, hSG, hSN, hMG, hMN, rel, -, -⟩ := hI'
  have hKi : va_K D vwCl [(cI, .int)] s := ⟨hK.1, fun k z hz => by
    cases k with
    | zero => exact hK.2 0 z hz
    | succ k => cases hz⟩
  refine lv_aload_n hxe hb dL_law_677 rfl (lv_at hl 1 rfl) ?_
  refine gt_callV hC (mw cI t2 q M K) (oc cL ob f) 0 1 0 (ws' := mw cI t2 q M K ++ (tw cI t o r S o1 r1 T ++ oc cL ob f)) (ct_X1_starving l D cI t o r S o1 r1 T N hSN hN12) gL_law_X1_starving dL_law_678 hKi hP hD hS hA hl.1 rfl hd_X1_starving ⟨Nat.le_of_ble_eq_true rfl, Nat.le_of_ble_eq_true rfl⟩ ⟨by show cells + 0 ≤ 601024; omega, by show slots + 0 ≤ 7293034; omega⟩ rfl rfl rfl rfl rfl rfl (Nat.le_of_ble_eq_true rfl) (fun H locs hP hD hS => ?_)
  refine gt_stk [.int (gxStv S N)] rfl ?_
  refine lv_aload_n hxe hb dL_law_681 rfl (lv_at hl 2 rfl) ?_
  refine gt_callV hC [] (tw cI t o r S o1 r1 T ++ oc cL ob f) 0 2 0 (ws' := mw cI t2 q (mM_starving M N G) K ++ (tw cI t o r S o1 r1 T ++ oc cL ob f)) (ct_X2_starving l D cI t2 q M K N hMN hN12 G hMG hG4 (fun X g => mOpN_lt hN12 X g)) gL_law_X2_starving dL_law_682 hKi hP hD hS hA hl.1 rfl hd_X2_starving ⟨Nat.le_of_ble_eq_true rfl, Nat.le_of_ble_eq_true rfl⟩ ⟨by show cells + 0 + 0 ≤ 601024; omega, by show slots + 0 + 0 ≤ 7293034; omega⟩ rfl rfl rfl rfl rfl rfl (Nat.le_of_ble_eq_true rfl) (fun H locs hP hD hS => ?_)
  refine gt_stk [.int (mR_starving M N G), .int (gxStv S N)] rfl ?_
  have hv : gxStv S N = (mR_starving M N G) := (r_stv rel.1 N (Nat.le_refl N)).symm
  refine lv_icmp_eq (tgt := 1611) hxe hb dL_law_685 (by decide) (fun _ => ?_) (fun z => absurd hv z)
  exact W.widen (k := cells + 137) (n := slots + 848) (by omega) (by omega) (kk G N S T (mM_starving M N G) K f H locs ls (inv_t hI 0) hP hD hS hl)

set_option maxRecDepth 20000 in
theorem lc_letIn {p : Program} {l : Launch} {e : Env} {s : State} {m : MethodId} {args : Array Value} {below : List Frame} {meth : Method} {c : Code} {Q : State → Prop} {D : va_G} {cI cL : ClassId} {A : Nat → Prop} {b L : Nat} {xs : Nat → Int32}
    (hl0 : l.stackTraces = false) (hC : CallFix p m c cL_law 9 s args wsL_law RL) (hTh : gTh A s s.heap) (hNc : gNc s) (hK : va_K D vwCl [(cI, .int), (cL, .long)] s) (hA : ∀ q, s.heap.size ≤ q → A q) (hX : va_X b L xs s s.heap) (hbl : b < s.heap.size) (hbA : ¬ A b)
    {t o : Nat} {r : Nat → Nat} {S : SS} {o1 : Nat} {r1 : Nat → Nat} {T : SS} {t2 : Nat} {q : Nat → Nat} {M K : SS} {ob : Nat} {f : Nat → Int64} {G N i cells slots : Nat} {H : Heap} {locs : List Loc} {ls : Array Slot}
    (hI : Inv G N S M) (hi : i + 6 ≤ L) (hL : L ≤ 3072) (hcs : cells + 137 ≤ 601024 ∧ slots + 848 ≤ 7293034) (hP : va_P D vwCl (mw cI t2 q M K ++ (tw cI t o r S o1 r1 T ++ oc cL ob f)) H) (hD : va_D A (mw cI t2 q M K ++ (tw cI t o r S o1 r1 T ++ oc cL ob f))) (hS : va_S A s.heap H locs) (hl : lv_has ls 9 [(0, .ref b), (1, .ref t), (2, .ref t2), (3, .ref ob), (4, .int (nI i))])
    (kk : ∀ (G N : Nat) (S T M K : SS) (f : Nat → Int64) (H : Heap) (locs : List Loc) (ls : Array Slot), Inv G N S M → va_P D vwCl (mw cI t2 q M K ++ (tw cI t o r S o1 r1 T ++ oc cL ob f)) H → va_D A (mw cI t2 q M K ++ (tw cI t o r S o1 r1 T ++ oc cL ob f)) → va_S A s.heap H locs → lv_has ls 9 [(0, .ref b), (1, .ref t), (2, .ref t2), (3, .ref ob), (4, .int (nI i))] → W p l e room_1 s m args below meth c H locs (cells + 137) (slots + 848) Q (F0 m 1611 ls [])) : W p l e room_1 s m args below meth c H locs cells slots Q (F0 m 690 ls []) := by
  have hxe := hC.1
  have hb := hC.2.1
  have hI' := hI
  obtain ⟨hN12, hG4, hSG, hSN, hMG, hMN, rel, -, -⟩ := hI'
  have hKi : va_K D vwCl [(cI, .int)] s := ⟨hK.1, fun k z hz => by
    cases k with
    | zero => exact hK.2 0 z hz
    | succ k => cases hz⟩
  refine lv_aload_n hxe hb dL_law_690 rfl (lv_at hl 1 rfl) ?_
  refine gt_callV hC (mw cI t2 q M K) (oc cL ob f) 0 1 0 (ws' := mw cI t2 q M K ++ (tw cI t o r S o1 r1 T ++ oc cL ob f)) (ct_X1_letIn l D cI t o r S o1 r1 T ) gL_law_X1_letIn dL_law_691 hKi hP hD hS hA hl.1 rfl hd_X1_letIn ⟨Nat.le_of_ble_eq_true rfl, Nat.le_of_ble_eq_true rfl⟩ ⟨by show cells + 0 ≤ 601024; omega, by show slots + 0 ≤ 7293034; omega⟩ rfl rfl rfl rfl rfl rfl (Nat.le_of_ble_eq_true rfl) (fun H locs hP hD hS => ?_)
  refine gt_stk [.int (S 0 4)] rfl ?_
  refine lv_aload_n hxe hb dL_law_694 rfl (lv_at hl 2 rfl) ?_
  refine gt_callV hC [] (tw cI t o r S o1 r1 T ++ oc cL ob f) 0 2 0 (ws' := mw cI t2 q (mM_letIn M N G) K ++ (tw cI t o r S o1 r1 T ++ oc cL ob f)) (ct_X2_letIn l D cI t2 q M K N hMN hN12 G hMG hG4 (fun X g => mOpN_lt hN12 X g)) gL_law_X2_letIn dL_law_695 hKi hP hD hS hA hl.1 rfl hd_X2_letIn ⟨Nat.le_of_ble_eq_true rfl, Nat.le_of_ble_eq_true rfl⟩ ⟨by show cells + 0 + 0 ≤ 601024; omega, by show slots + 0 + 0 ≤ 7293034; omega⟩ rfl rfl rfl rfl rfl rfl (Nat.le_of_ble_eq_true rfl) (fun H locs hP hD hS => ?_)
  refine gt_stk [.int (mR_letIn M N G), .int (S 0 4)] rfl ?_
  have hv : S 0 4 = (mR_letIn M N G) := rel.2.2.1.2.1.symm
  refine lv_icmp_eq (tgt := 1611) hxe hb dL_law_698 (by decide) (fun _ => ?_) (fun z => absurd hv z)
  exact W.widen (k := cells + 137) (n := slots + 848) (by omega) (by omega) (kk G N S T (mM_letIn M N G) K f H locs ls (inv_t hI 0) hP hD hS hl)

set_option maxRecDepth 20000 in
theorem lc_givenUp {p : Program} {l : Launch} {e : Env} {s : State} {m : MethodId} {args : Array Value} {below : List Frame} {meth : Method} {c : Code} {Q : State → Prop} {D : va_G} {cI cL : ClassId} {A : Nat → Prop} {b L : Nat} {xs : Nat → Int32}
    (hl0 : l.stackTraces = false) (hC : CallFix p m c cL_law 9 s args wsL_law RL) (hTh : gTh A s s.heap) (hNc : gNc s) (hK : va_K D vwCl [(cI, .int), (cL, .long)] s) (hA : ∀ q, s.heap.size ≤ q → A q) (hX : va_X b L xs s s.heap) (hbl : b < s.heap.size) (hbA : ¬ A b)
    {t o : Nat} {r : Nat → Nat} {S : SS} {o1 : Nat} {r1 : Nat → Nat} {T : SS} {t2 : Nat} {q : Nat → Nat} {M K : SS} {ob : Nat} {f : Nat → Int64} {G N i cells slots : Nat} {H : Heap} {locs : List Loc} {ls : Array Slot}
    (hI : Inv G N S M) (hi : i + 6 ≤ L) (hL : L ≤ 3072) (hcs : cells + 137 ≤ 601024 ∧ slots + 848 ≤ 7293034) (hP : va_P D vwCl (mw cI t2 q M K ++ (tw cI t o r S o1 r1 T ++ oc cL ob f)) H) (hD : va_D A (mw cI t2 q M K ++ (tw cI t o r S o1 r1 T ++ oc cL ob f))) (hS : va_S A s.heap H locs) (hl : lv_has ls 9 [(0, .ref b), (1, .ref t), (2, .ref t2), (3, .ref ob), (4, .int (nI i))])
    (kk : ∀ (G N : Nat) (S T M K : SS) (f : Nat → Int64) (H : Heap) (locs : List Loc) (ls : Array Slot), Inv G N S M → va_P D vwCl (mw cI t2 q M K ++ (tw cI t o r S o1 r1 T ++ oc cL ob f)) H → va_D A (mw cI t2 q M K ++ (tw cI t o r S o1 r1 T ++ oc cL ob f)) → va_S A s.heap H locs → lv_has ls 9 [(0, .ref b), (1, .ref t), (2, .ref t2), (3, .ref ob), (4, .int (nI i))] → W p l e room_1 s m args below meth c H locs (cells + 137) (slots + 848) Q (F0 m 1611 ls [])) : W p l e room_1 s m args below meth c H locs cells slots Q (F0 m 703 ls []) := by
  have hxe := hC.1
  have hb := hC.2.1
  have hI' := hI
  obtain ⟨hN12, hG4, hSG, hSN, hMG, hMN, rel, -, -⟩ := hI'
  have hKi : va_K D vwCl [(cI, .int)] s := ⟨hK.1, fun k z hz => by
    cases k with
    | zero => exact hK.2 0 z hz
    | succ k => cases hz⟩
  refine lv_aload_n hxe hb dL_law_703 rfl (lv_at hl 1 rfl) ?_
  refine gt_callV hC (mw cI t2 q M K) (oc cL ob f) 0 1 0 (ws' := mw cI t2 q M K ++ (tw cI t o r S o1 r1 T ++ oc cL ob f)) (ct_X1_givenUp l D cI t o r S o1 r1 T G hSG hG4) gL_law_X1_givenUp dL_law_704 hKi hP hD hS hA hl.1 rfl hd_X1_givenUp ⟨Nat.le_of_ble_eq_true rfl, Nat.le_of_ble_eq_true rfl⟩ ⟨by show cells + 0 ≤ 601024; omega, by show slots + 0 ≤ 7293034; omega⟩ rfl rfl rfl rfl rfl rfl (Nat.le_of_ble_eq_true rfl) (fun H locs hP hD hS => ?_)
  refine gt_stk [.int (gxGiv S G)] rfl ?_
  refine lv_aload_n hxe hb dL_law_707 rfl (lv_at hl 2 rfl) ?_
  refine gt_callV hC [] (tw cI t o r S o1 r1 T ++ oc cL ob f) 0 2 0 (ws' := mw cI t2 q (mM_givenUp M N G) K ++ (tw cI t o r S o1 r1 T ++ oc cL ob f)) (ct_X2_givenUp l D cI t2 q M K N hMN hN12 G hMG hG4 (fun X g => mOpN_lt hN12 X g)) gL_law_X2_givenUp dL_law_708 hKi hP hD hS hA hl.1 rfl hd_X2_givenUp ⟨Nat.le_of_ble_eq_true rfl, Nat.le_of_ble_eq_true rfl⟩ ⟨by show cells + 0 + 0 ≤ 601024; omega, by show slots + 0 + 0 ≤ 7293034; omega⟩ rfl rfl rfl rfl rfl rfl (Nat.le_of_ble_eq_true rfl) (fun H locs hP hD hS => ?_)
  refine gt_stk [.int (mR_givenUp M N G), .int (gxGiv S G)] rfl ?_
  have hv : gxGiv S G = (mR_givenUp M N G) := rel.2.2.2.symm
  refine lv_icmp_eq (tgt := 1611) hxe hb dL_law_711 (by decide) (fun _ => ?_) (fun z => absurd hv z)
  exact W.widen (k := cells + 137) (n := slots + 848) (by omega) (by omega) (kk G N S T (mM_givenUp M N G) K f H locs ls (inv_t hI 0) hP hD hS hl)

set_option maxRecDepth 20000 in
theorem lc_permitsOf {p : Program} {l : Launch} {e : Env} {s : State} {m : MethodId} {args : Array Value} {below : List Frame} {meth : Method} {c : Code} {Q : State → Prop} {D : va_G} {cI cL : ClassId} {A : Nat → Prop} {b L : Nat} {xs : Nat → Int32}
    (hl0 : l.stackTraces = false) (hC : CallFix p m c cL_law 9 s args wsL_law RL) (hTh : gTh A s s.heap) (hNc : gNc s) (hK : va_K D vwCl [(cI, .int), (cL, .long)] s) (hA : ∀ q, s.heap.size ≤ q → A q) (hX : va_X b L xs s s.heap) (hbl : b < s.heap.size) (hbA : ¬ A b)
    {t o : Nat} {r : Nat → Nat} {S : SS} {o1 : Nat} {r1 : Nat → Nat} {T : SS} {t2 : Nat} {q : Nat → Nat} {M K : SS} {ob : Nat} {f : Nat → Int64} {G N i cells slots : Nat} {H : Heap} {locs : List Loc} {ls : Array Slot}
    (hI : Inv G N S M) (hi : i + 6 ≤ L) (hL : L ≤ 3072) (hcs : cells + 137 ≤ 601024 ∧ slots + 848 ≤ 7293034) (hP : va_P D vwCl (mw cI t2 q M K ++ (tw cI t o r S o1 r1 T ++ oc cL ob f)) H) (hD : va_D A (mw cI t2 q M K ++ (tw cI t o r S o1 r1 T ++ oc cL ob f))) (hS : va_S A s.heap H locs) (hl : lv_has ls 9 [(0, .ref b), (1, .ref t), (2, .ref t2), (3, .ref ob), (4, .int (nI i))])
    (kk : ∀ (G N : Nat) (S T M K : SS) (f : Nat → Int64) (H : Heap) (locs : List Loc) (ls : Array Slot), Inv G N S M → va_P D vwCl (mw cI t2 q M K ++ (tw cI t o r S o1 r1 T ++ oc cL ob f)) H → va_D A (mw cI t2 q M K ++ (tw cI t o r S o1 r1 T ++ oc cL ob f)) → va_S A s.heap H locs → lv_has ls 9 [(0, .ref b), (1, .ref t), (2, .ref t2), (3, .ref ob), (4, .int (nI i))] → W p l e room_1 s m args below meth c H locs (cells + 137) (slots + 848) Q (F0 m 1611 ls [])) : W p l e room_1 s m args below meth c H locs cells slots Q (F0 m 716 ls []) := by
  have hxe := hC.1
  have hb := hC.2.1
  have hI' := hI
  obtain ⟨hN12, hG4, hSG, hSN, hMG, hMN, rel, -, -⟩ := hI'
  have hKi : va_K D vwCl [(cI, .int)] s := ⟨hK.1, fun k z hz => by
    cases k with
    | zero => exact hK.2 0 z hz
    | succ k => cases hz⟩
  have h1 : vp_in (nI i + 1) L := by
    rw [show nI i + 1 = nI (i + 1) from nI_add i 1]
    exact vp_in_nI (by omega) (by omega)
  refine lv_aload_n hxe hb dL_law_716 rfl (lv_at hl 1 rfl) ?_
  refine lv_aload_n hxe hb dL_law_717 rfl (lv_at hl 0 rfl) ?_
  refine lv_iload hxe hb dL_law_718 (lv_at hl 4 rfl) ?_
  refine lv_iconst (v := 1) hxe hb dL_law_720 (by decide) ?_
  refine lv_iadd hxe hb dL_law_721 ?_
  refine va_sld hxe hb hX hbl hbA hS h1 dL_law_722 ?_
  refine lv_aload_n hxe hb dL_law_723 rfl (lv_at hl 3 rfl) ?_
  obtain ⟨x, hx⟩ : ∃ x : Option String, x = (xGate S (xs (nI i + 1).toNatClampNeg)) := ⟨_, rfl⟩
  refine gl_callS hC 3 (wa := mw cI t2 q M K) (cw_permitsOf l hl0 D cI t o r S o1 r1 T cL ob f (xs (nI i + 1).toNatClampNeg) G hSG hG4 x hx) gL_law_L_permitsOf dL_law_724 hTh hNc hK hP hD hS hA hl.1 rfl hd_L_permitsOf ⟨Nat.le_of_ble_eq_true rfl, Nat.le_of_ble_eq_true rfl⟩ ⟨by show cells + 1 ≤ 601024; omega, by show slots + 6 ≤ 7293034; omega⟩ rfl rfl (Nat.le_of_ble_eq_true rfl) (fun H locs hP hD hS => ?_)
  refine lv_istore (lv' := (5, .int (xc gxIO gxIO x)) :: [(0, .ref b), (1, .ref t), (2, .ref t2), (3, .ref ob), (4, .int (nI i))]) hxe hb dL_law_727 hl (by decide) rfl (fun ls hl => ?_)
  refine lv_aload_n hxe hb dL_law_729 rfl (lv_at hl 3 rfl) ?_
  refine lv_aload_n hxe hb dL_law_730 rfl (lv_at hl 1 rfl) ?_
  refine lv_iload hxe hb dL_law_731 (lv_at hl 5 rfl) ?_
  refine lv_iconst (v := 1) hxe hb dL_law_733 (by decide) ?_
  refine lv_iadd hxe hb dL_law_734 ?_
  refine va_sld hxe hb hX hbl hbA hS h1 dL_law_735 ?_
  refine gt_callV hC [] (tw cI t o r S o1 r1 T ++ oc cL ob (osel x f ((S 5 (xs (nI i + 1).toNatClampNeg).toNatClampNeg)))) 0 2 1 (ws' := mw cI t2 q (mM_permitsOf M N G (xs (nI i + 1).toNatClampNeg)) K ++ (tw cI t o r S o1 r1 T ++ oc cL ob (osel x f ((S 5 (xs (nI i + 1).toNatClampNeg).toNatClampNeg))))) (ct_X2_permitsOf l D cI t2 q M K (xs (nI i + 1).toNatClampNeg) N hMN hN12 G hMG hG4 (fun X g => mOpN_lt hN12 X g)) gL_law_X2_permitsOf dL_law_736 hKi hP hD hS hA hl.1 rfl hd_X2_permitsOf ⟨Nat.le_of_ble_eq_true rfl, Nat.le_of_ble_eq_true rfl⟩ ⟨by show cells + 1 + 0 ≤ 601024; omega, by show slots + 6 + 0 ≤ 7293034; omega⟩ rfl rfl rfl rfl rfl rfl (Nat.le_of_ble_eq_true rfl) (fun H locs hP hD hS => ?_)
  refine gt_stk [.int (mR_permitsOf M N G (xs (nI i + 1).toNatClampNeg))] rfl ?_
  refine lv_istore (lv' := (6, .int (mR_permitsOf M N G (xs (nI i + 1).toNatClampNeg))) :: (5, .int (xc gxIO gxIO x)) :: [(0, .ref b), (1, .ref t), (2, .ref t2), (3, .ref ob), (4, .int (nI i))]) hxe hb dL_law_739 hl (by decide) rfl (fun ls hl => ?_)
  refine lv_aload_n hxe hb dL_law_741 rfl (lv_at hl 4 rfl) ?_
  refine gt_callV hC [] (tw cI t o r S o1 r1 T ++ oc cL ob (osel x f ((S 5 (xs (nI i + 1).toNatClampNeg).toNatClampNeg)))) 0 2 0 (ws' := mw cI t2 q (mM_permitsOf M N G (xs (nI i + 1).toNatClampNeg)) K ++ (tw cI t o r S o1 r1 T ++ oc cL ob (osel x f ((S 5 (xs (nI i + 1).toNatClampNeg).toNatClampNeg))))) (ct_X2_thrown l D cI t2 q (mM_permitsOf M N G (xs (nI i + 1).toNatClampNeg)) K) gL_law_X2_thrown dL_law_742 hKi hP hD hS hA hl.1 rfl hd_X2_thrown ⟨Nat.le_of_ble_eq_true rfl, Nat.le_of_ble_eq_true rfl⟩ ⟨by show cells + 1 + 0 + 0 ≤ 601024; omega, by show slots + 6 + 0 + 0 ≤ 7293034; omega⟩ rfl rfl rfl rfl rfl rfl (Nat.le_of_ble_eq_true rfl) (fun H locs hP hD hS => ?_)
  have hop := op_permitsOf hI (xs (nI i + 1).toNatClampNeg)
  rw [← hx] at hop
  obtain ⟨u1, u2, u3⟩ := hop
  refine gt_stk [.int ((mM_permitsOf M N G (xs (nI i + 1).toNatClampNeg)) 12 0)] rfl ?_
  refine lv_iload hxe hb dL_law_745 (lv_at hl 1 rfl) ?_
  refine lv_icmp_eq (tgt := 752) hxe hb dL_law_747 (by decide) (fun _ => ?_) (fun z => absurd u1 z)
  refine lv_iload hxe hb dL_law_752 (lv_at hl 1 rfl) ?_
  refine lv_if_ne (tgt := 769) hxe hb dL_law_754 (by decide) (fun _ => ?_) (fun hz => ?_)
  · refine lv_goto (tgt := 1611) hxe hb dL_law_769 (by decide) ?_
    exact W.widen (k := cells + 137) (n := slots + 848) (by omega) (by omega) (kk G N S T (mM_permitsOf M N G (xs (nI i + 1).toNatClampNeg)) K (osel x f ((S 5 (xs (nI i + 1).toNatClampNeg).toNatClampNeg))) H locs ls u3 hP hD hS (lv_sub hl [2, 3, 4, 5, 6] rfl))
  · have hx0 := xc_0 hz
    refine lv_aload_n hxe hb dL_law_757 rfl (lv_at hl 5 rfl) ?_
    refine lv_iconst (v := 0) hxe hb dL_law_758 (by decide) ?_
    refine va_lald (f := (osel x f ((S 5 (xs (nI i + 1).toNatClampNeg).toNatClampNeg)))) (i := 0) (n := 1) (cA := cL) hxe hb hK hP (6 + 27) 1 rfl rfl (by unfold vp_in; decide) dL_law_759 ?_
    refine lv_iload hxe hb dL_law_760 (lv_at hl 0 rfl) ?_
    refine lv_i2l hxe hb dL_law_762 rfl ?_
    refine W.lcmp hxe hb dL_law_763 ?_
    have hv : (osel x f ((S 5 (xs (nI i + 1).toNatClampNeg).toNatClampNeg))) (0 : Int32).toNatClampNeg = Int32.toInt64 (mR_permitsOf M N G (xs (nI i + 1).toNatClampNeg)) := by
      rw [u2 hx0, hx0, osel_n]
      rfl
    refine gt_stk [.int 0] (by rw [hv, lg_cmp_self]) ?_
    refine lv_if_eq (tgt := 769) hxe hb dL_law_764 (by decide) (fun _ => ?_) (fun z => absurd rfl z)
    refine lv_goto (tgt := 1611) hxe hb dL_law_769 (by decide) ?_
    exact W.widen (k := cells + 137) (n := slots + 848) (by omega) (by omega) (kk G N S T (mM_permitsOf M N G (xs (nI i + 1).toNatClampNeg)) K (osel x f ((S 5 (xs (nI i + 1).toNatClampNeg).toNatClampNeg))) H locs ls u3 hP hD hS (lv_sub hl [2, 3, 4, 5, 6] rfl))

set_option maxRecDepth 20000 in
theorem lc_freeOf {p : Program} {l : Launch} {e : Env} {s : State} {m : MethodId} {args : Array Value} {below : List Frame} {meth : Method} {c : Code} {Q : State → Prop} {D : va_G} {cI cL : ClassId} {A : Nat → Prop} {b L : Nat} {xs : Nat → Int32}
    (hl0 : l.stackTraces = false) (hC : CallFix p m c cL_law 9 s args wsL_law RL) (hTh : gTh A s s.heap) (hNc : gNc s) (hK : va_K D vwCl [(cI, .int), (cL, .long)] s) (hA : ∀ q, s.heap.size ≤ q → A q) (hX : va_X b L xs s s.heap) (hbl : b < s.heap.size) (hbA : ¬ A b)
    {t o : Nat} {r : Nat → Nat} {S : SS} {o1 : Nat} {r1 : Nat → Nat} {T : SS} {t2 : Nat} {q : Nat → Nat} {M K : SS} {ob : Nat} {f : Nat → Int64} {G N i cells slots : Nat} {H : Heap} {locs : List Loc} {ls : Array Slot}
    (hI : Inv G N S M) (hi : i + 6 ≤ L) (hL : L ≤ 3072) (hcs : cells + 137 ≤ 601024 ∧ slots + 848 ≤ 7293034) (hP : va_P D vwCl (mw cI t2 q M K ++ (tw cI t o r S o1 r1 T ++ oc cL ob f)) H) (hD : va_D A (mw cI t2 q M K ++ (tw cI t o r S o1 r1 T ++ oc cL ob f))) (hS : va_S A s.heap H locs) (hl : lv_has ls 9 [(0, .ref b), (1, .ref t), (2, .ref t2), (3, .ref ob), (4, .int (nI i))])
    (kk : ∀ (G N : Nat) (S T M K : SS) (f : Nat → Int64) (H : Heap) (locs : List Loc) (ls : Array Slot), Inv G N S M → va_P D vwCl (mw cI t2 q M K ++ (tw cI t o r S o1 r1 T ++ oc cL ob f)) H → va_D A (mw cI t2 q M K ++ (tw cI t o r S o1 r1 T ++ oc cL ob f)) → va_S A s.heap H locs → lv_has ls 9 [(0, .ref b), (1, .ref t), (2, .ref t2), (3, .ref ob), (4, .int (nI i))] → W p l e room_1 s m args below meth c H locs (cells + 137) (slots + 848) Q (F0 m 1611 ls [])) : W p l e room_1 s m args below meth c H locs cells slots Q (F0 m 772 ls []) := by
  have hxe := hC.1
  have hb := hC.2.1
  have hI' := hI
  obtain ⟨hN12, hG4, hSG, hSN, hMG, hMN, rel, -, -⟩ := hI'
  have hKi : va_K D vwCl [(cI, .int)] s := ⟨hK.1, fun k z hz => by
    cases k with
    | zero => exact hK.2 0 z hz
    | succ k => cases hz⟩
  have h1 : vp_in (nI i + 1) L := by
    rw [show nI i + 1 = nI (i + 1) from nI_add i 1]
    exact vp_in_nI (by omega) (by omega)
  refine lv_aload_n hxe hb dL_law_772 rfl (lv_at hl 1 rfl) ?_
  refine lv_aload_n hxe hb dL_law_773 rfl (lv_at hl 0 rfl) ?_
  refine lv_iload hxe hb dL_law_774 (lv_at hl 4 rfl) ?_
  refine lv_iconst (v := 1) hxe hb dL_law_776 (by decide) ?_
  refine lv_iadd hxe hb dL_law_777 ?_
  refine va_sld hxe hb hX hbl hbA hS h1 dL_law_778 ?_
  refine lv_aload_n hxe hb dL_law_779 rfl (lv_at hl 3 rfl) ?_
  obtain ⟨x, hx⟩ : ∃ x : Option String, x = (xGate S (xs (nI i + 1).toNatClampNeg)) := ⟨_, rfl⟩
  refine gl_callS hC 3 (wa := mw cI t2 q M K) (cw_freeOf l hl0 D cI t o r S o1 r1 T cL ob f (xs (nI i + 1).toNatClampNeg) N hSN hN12 G hSG hG4 x hx) gL_law_L_freeOf dL_law_780 hTh hNc hK hP hD hS hA hl.1 rfl hd_L_freeOf ⟨Nat.le_of_ble_eq_true rfl, Nat.le_of_ble_eq_true rfl⟩ ⟨by show cells + 1 ≤ 601024; omega, by show slots + 6 ≤ 7293034; omega⟩ rfl rfl (Nat.le_of_ble_eq_true rfl) (fun H locs hP hD hS => ?_)
  refine lv_istore (lv' := (5, .int (xc gxIO gxIO x)) :: [(0, .ref b), (1, .ref t), (2, .ref t2), (3, .ref ob), (4, .int (nI i))]) hxe hb dL_law_783 hl (by decide) rfl (fun ls hl => ?_)
  refine lv_aload_n hxe hb dL_law_785 rfl (lv_at hl 3 rfl) ?_
  refine lv_aload_n hxe hb dL_law_786 rfl (lv_at hl 1 rfl) ?_
  refine lv_iload hxe hb dL_law_787 (lv_at hl 5 rfl) ?_
  refine lv_iconst (v := 1) hxe hb dL_law_789 (by decide) ?_
  refine lv_iadd hxe hb dL_law_790 ?_
  refine va_sld hxe hb hX hbl hbA hS h1 dL_law_791 ?_
  refine gt_callV hC [] (tw cI t o r S o1 r1 T ++ oc cL ob (osel x f ((gxFree S (xs (nI i + 1).toNatClampNeg).toNatClampNeg N)))) 0 2 1 (ws' := mw cI t2 q (mM_freeOf M N G (xs (nI i + 1).toNatClampNeg)) K ++ (tw cI t o r S o1 r1 T ++ oc cL ob (osel x f ((gxFree S (xs (nI i + 1).toNatClampNeg).toNatClampNeg N))))) (ct_X2_freeOf l D cI t2 q M K (xs (nI i + 1).toNatClampNeg) N hMN hN12 G hMG hG4 (fun X g => mOpN_lt hN12 X g)) gL_law_X2_freeOf dL_law_792 hKi hP hD hS hA hl.1 rfl hd_X2_freeOf ⟨Nat.le_of_ble_eq_true rfl, Nat.le_of_ble_eq_true rfl⟩ ⟨by show cells + 1 + 0 ≤ 601024; omega, by show slots + 6 + 0 ≤ 7293034; omega⟩ rfl rfl rfl rfl rfl rfl (Nat.le_of_ble_eq_true rfl) (fun H locs hP hD hS => ?_)
  refine gt_stk [.int (mR_freeOf M N G (xs (nI i + 1).toNatClampNeg))] rfl ?_
  refine lv_istore (lv' := (6, .int (mR_freeOf M N G (xs (nI i + 1).toNatClampNeg))) :: (5, .int (xc gxIO gxIO x)) :: [(0, .ref b), (1, .ref t), (2, .ref t2), (3, .ref ob), (4, .int (nI i))]) hxe hb dL_law_795 hl (by decide) rfl (fun ls hl => ?_)
  refine lv_aload_n hxe hb dL_law_797 rfl (lv_at hl 4 rfl) ?_
  refine gt_callV hC [] (tw cI t o r S o1 r1 T ++ oc cL ob (osel x f ((gxFree S (xs (nI i + 1).toNatClampNeg).toNatClampNeg N)))) 0 2 0 (ws' := mw cI t2 q (mM_freeOf M N G (xs (nI i + 1).toNatClampNeg)) K ++ (tw cI t o r S o1 r1 T ++ oc cL ob (osel x f ((gxFree S (xs (nI i + 1).toNatClampNeg).toNatClampNeg N))))) (ct_X2_thrown l D cI t2 q (mM_freeOf M N G (xs (nI i + 1).toNatClampNeg)) K) gL_law_X2_thrown dL_law_798 hKi hP hD hS hA hl.1 rfl hd_X2_thrown ⟨Nat.le_of_ble_eq_true rfl, Nat.le_of_ble_eq_true rfl⟩ ⟨by show cells + 1 + 0 + 0 ≤ 601024; omega, by show slots + 6 + 0 + 0 ≤ 7293034; omega⟩ rfl rfl rfl rfl rfl rfl (Nat.le_of_ble_eq_true rfl) (fun H locs hP hD hS => ?_)
  have hop := op_freeOf hI (xs (nI i + 1).toNatClampNeg)
  rw [← hx] at hop
  obtain ⟨u1, u2, u3⟩ := hop
  refine gt_stk [.int ((mM_freeOf M N G (xs (nI i + 1).toNatClampNeg)) 12 0)] rfl ?_
  refine lv_iload hxe hb dL_law_801 (lv_at hl 1 rfl) ?_
  refine lv_icmp_eq (tgt := 808) hxe hb dL_law_803 (by decide) (fun _ => ?_) (fun z => absurd u1 z)
  refine lv_iload hxe hb dL_law_808 (lv_at hl 1 rfl) ?_
  refine lv_if_ne (tgt := 825) hxe hb dL_law_810 (by decide) (fun _ => ?_) (fun hz => ?_)
  · refine lv_goto (tgt := 1611) hxe hb dL_law_825 (by decide) ?_
    exact W.widen (k := cells + 137) (n := slots + 848) (by omega) (by omega) (kk G N S T (mM_freeOf M N G (xs (nI i + 1).toNatClampNeg)) K (osel x f ((gxFree S (xs (nI i + 1).toNatClampNeg).toNatClampNeg N))) H locs ls u3 hP hD hS (lv_sub hl [2, 3, 4, 5, 6] rfl))
  · have hx0 := xc_0 hz
    refine lv_aload_n hxe hb dL_law_813 rfl (lv_at hl 5 rfl) ?_
    refine lv_iconst (v := 0) hxe hb dL_law_814 (by decide) ?_
    refine va_lald (f := (osel x f ((gxFree S (xs (nI i + 1).toNatClampNeg).toNatClampNeg N)))) (i := 0) (n := 1) (cA := cL) hxe hb hK hP (6 + 27) 1 rfl rfl (by unfold vp_in; decide) dL_law_815 ?_
    refine lv_iload hxe hb dL_law_816 (lv_at hl 0 rfl) ?_
    refine lv_i2l hxe hb dL_law_818 rfl ?_
    refine W.lcmp hxe hb dL_law_819 ?_
    have hv : (osel x f ((gxFree S (xs (nI i + 1).toNatClampNeg).toNatClampNeg N))) (0 : Int32).toNatClampNeg = Int32.toInt64 (mR_freeOf M N G (xs (nI i + 1).toNatClampNeg)) := by
      rw [u2 hx0, hx0, osel_n]
      rfl
    refine gt_stk [.int 0] (by rw [hv, lg_cmp_self]) ?_
    refine lv_if_eq (tgt := 825) hxe hb dL_law_820 (by decide) (fun _ => ?_) (fun z => absurd rfl z)
    refine lv_goto (tgt := 1611) hxe hb dL_law_825 (by decide) ?_
    exact W.widen (k := cells + 137) (n := slots + 848) (by omega) (by omega) (kk G N S T (mM_freeOf M N G (xs (nI i + 1).toNatClampNeg)) K (osel x f ((gxFree S (xs (nI i + 1).toNatClampNeg).toNatClampNeg N))) H locs ls u3 hP hD hS (lv_sub hl [2, 3, 4, 5, 6] rfl))
