/-! The law's own methods: they catch what the class throws. -/
theorem hd_L_addGate : yL_addGate.cls ≠ "java/lang/invoke/MethodHandle" ∧ yL_addGate.cls ≠ "java/lang/invoke/VarHandle" ∧ (parseMethodDescriptor yL_addGate.desc).map (fun d => d.parameters.length) = some 4 := by decide +kernel
set_option maxRecDepth 20000 in
theorem cw_addGate (l : Launch) (hl0 : l.stackTraces = false) (D : va_G) (cI : ClassId) (t o : Nat) (r : Nat → Nat) (S : SS) (o1 : Nat) (r1 : Nat → Nat) (T : SS) (cL : ClassId) (ob : Nat) (f : Nat → Int64) (a : Int32) (b : Int32) (G : Nat) (hG : S 0 1 = nI G) (hG4 : G ≤ 4) (x : Option String) (hx : x = ((xNum a 9).or ((xOrd b).or (xRg S)))) : Cw l D [(cI, .int), (cL, .long)] yL_addGate wsL_addGate 8 125 2 12 [.ref t, .int a, .int b, .ref ob] (tw cI t o r S o1 r1 T ++ oc cL ob f) (some (.int (xc gxIA gxIS x))) (tw cI t o r (xsel x (gxOpn S G a b) S) o1 r1 T ++ oc cL ob (osel x f ((S 0 1)))) := by
  refine Cw.ofW (cc := cL_addGate) (maxL := 5) (ret := some .int) (hh := [(0, 10, 13, 13), (0, 10, 17, 15)]) (by decide) rfl (Nat.le_of_ble_eq_true rfl) ?_
  intro p e s m below meth c A ls hC hr hlk htab hTh hNc hP hD hS hK hA hl
  have hxe := hC.1
  have hb := hC.2.1
  have hl : lv_has ls 5 [(0, .ref t), (1, .int a), (2, .int b), (3, .ref ob)] := hl
  have hKi : va_K D vwCl [(cI, .int)] s := ⟨hK.1, fun k z hz => by
    cases k with
    | zero => exact hK.2 0 z hz
    | succ k => cases hz⟩
  refine lv_aload_n hxe hb dL_addGate_0 rfl (lv_at hl 3 rfl) ?_
  refine lv_iconst (v := 0) hxe hb dL_addGate_1 (by decide) ?_
  refine lv_aload_n hxe hb dL_addGate_2 rfl (lv_at hl 0 rfl) ?_
  refine lv_iload_n hxe hb dL_addGate_3 rfl (lv_at hl 1 rfl) ?_
  refine lv_iload_n hxe hb dL_addGate_4 rfl (lv_at hl 2 rfl) ?_
  refine gw_callV hC 0 1 2 (wb := oc cL ob f) (ct_X1_addGate l hl0 D cI t o r S o1 r1 T a b G hG hG4) gL_addGate_X1_addGate dL_addGate_5 hTh hKi hP hD hS hA hl.1 rfl hd_X1_addGate ⟨Nat.le_of_ble_eq_true rfl, Nat.le_of_ble_eq_true rfl⟩ ⟨Nat.le_of_ble_eq_true rfl, Nat.le_of_ble_eq_true rfl⟩ rfl rfl rfl rfl (Nat.le_of_ble_eq_true rfl) (fun E ce q9 H locs hE hP hD hS h1 h2 h3 => ?_) (fun hn H locs hP hD hS => ?_)
  · have hxE := hx.trans hE
    clear hx
    have hc : E = gxIA ∨ E = gxIS := by
      rcases or_E hE with h | h
      · exact (Or.inl (xNum_E h))
      · skip
        rcases or_E h with h | h
        · exact (Or.inl (xOrd_E h))
        · skip
          exact (Or.inr (xRg_E h))
    rcases hc with rfl | rfl
    · subst hxE
      refine vx_catch (own := RL) (name := gxIA) hC.2.2.2.1 [] ⟨0, 10, 13, 13⟩ [⟨0, 10, 17, 15⟩] htab (fun z hz => nomatch hz) rfl (by decide) (hC.2.2.2.2 _ (List.mem_of_getElem? (i := 1) rfl)) (va_Nw.use rfl hTh.2.2.2.2.1) h1 h2 h3 ?_
      refine lv_astore hxe hb dL_addGate_13 hl (by decide) rfl fun ls hl => ?_
      refine lv_iconst (v := 1) hxe hb dL_addGate_15 (by decide) ?_
      exact gx_iret hC hr hlk hK hP hD hS rfl (show some (Value.int 1) = some (Value.int (xc gxIA gxIS (some gxIA))) from by rw [show xc gxIA gxIS (some gxIA) = 1 from by decide]) (by rw [xsel_s, osel_s]) dL_addGate_16 (Nat.le_of_ble_eq_true rfl) (Nat.le_of_ble_eq_true rfl)
    · subst hxE
      refine vx_catch (own := RL) (name := gxIS) hC.2.2.2.1 [⟨0, 10, 13, 13⟩] ⟨0, 10, 17, 15⟩ [] htab (fun z hz => by
          cases List.mem_singleton.mp hz
          exact Or.inr ⟨by decide, gxIA, (hC.2.2.2.2 _ (List.mem_of_getElem? (i := 1) rfl)), hNc.1⟩) rfl (by decide) (hC.2.2.2.2 _ (List.mem_of_getElem? (i := 2) rfl)) (va_Nw.use rfl hTh.2.2.2.2.2.1) h1 h2 h3 ?_
      refine lv_astore hxe hb dL_addGate_17 hl (by decide) rfl fun ls hl => ?_
      refine lv_iconst (v := 2) hxe hb dL_addGate_19 (by decide) ?_
      exact gx_iret hC hr hlk hK hP hD hS rfl (show some (Value.int 2) = some (Value.int (xc gxIA gxIS (some gxIS))) from by rw [show xc gxIA gxIS (some gxIS) = 2 from by decide]) (by rw [xsel_s, osel_s]) dL_addGate_20 (Nat.le_of_ble_eq_true rfl) (Nat.le_of_ble_eq_true rfl)
  · have hxN := hx.trans hn
    clear hx
    subst hxN
    refine gt_stk [.int ((S 0 1)), .int 0, .ref ob] rfl ?_
    refine lv_i2l hxe hb dL_addGate_8 rfl ?_
    refine gw_put hC 27 hK hP hD hS rfl dL_addGate_9 rfl fun H locs hP hD hS => ?_
    refine lv_goto (tgt := 21) hxe hb dL_addGate_10 (by decide) ?_
    refine lv_iconst (v := 0) hxe hb dL_addGate_21 (by decide) ?_
    exact gx_iret hC hr hlk hK hP hD hS rfl rfl (by rw [xsel_n, osel_n]) dL_addGate_22 (Nat.le_of_ble_eq_true rfl) (Nat.le_of_ble_eq_true rfl)

theorem hd_L_addGoat : yL_addGoat.cls ≠ "java/lang/invoke/MethodHandle" ∧ yL_addGoat.cls ≠ "java/lang/invoke/VarHandle" ∧ (parseMethodDescriptor yL_addGoat.desc).map (fun d => d.parameters.length) = some 3 := by decide +kernel
set_option maxRecDepth 20000 in
theorem cw_addGoat (l : Launch) (hl0 : l.stackTraces = false) (D : va_G) (cI : ClassId) (t o : Nat) (r : Nat → Nat) (S : SS) (o1 : Nat) (r1 : Nat → Nat) (T : SS) (cL : ClassId) (ob : Nat) (f : Nat → Int64) (h : Int32) (N : Nat) (hN : S 0 2 = nI N) (hN12 : N ≤ 12) (x : Option String) (hx : x = ((xNum h 9).or (xRk S))) : Cw l D [(cI, .int), (cL, .long)] yL_addGoat wsL_addGoat 8 124 2 12 [.ref t, .int h, .ref ob] (tw cI t o r S o1 r1 T ++ oc cL ob f) (some (.int (xc gxIA gxIS x))) (tw cI t o r (xsel x (gxBrg S N h) S) o1 r1 T ++ oc cL ob (osel x f ((S 0 2)))) := by
  refine Cw.ofW (cc := cL_addGoat) (maxL := 4) (ret := some .int) (hh := [(0, 9, 12, 13), (0, 9, 15, 15)]) (by decide) rfl (Nat.le_of_ble_eq_true rfl) ?_
  intro p e s m below meth c A ls hC hr hlk htab hTh hNc hP hD hS hK hA hl
  have hxe := hC.1
  have hb := hC.2.1
  have hl : lv_has ls 4 [(0, .ref t), (1, .int h), (2, .ref ob)] := hl
  have hKi : va_K D vwCl [(cI, .int)] s := ⟨hK.1, fun k z hz => by
    cases k with
    | zero => exact hK.2 0 z hz
    | succ k => cases hz⟩
  refine lv_aload_n hxe hb dL_addGoat_0 rfl (lv_at hl 2 rfl) ?_
  refine lv_iconst (v := 0) hxe hb dL_addGoat_1 (by decide) ?_
  refine lv_aload_n hxe hb dL_addGoat_2 rfl (lv_at hl 0 rfl) ?_
  refine lv_iload_n hxe hb dL_addGoat_3 rfl (lv_at hl 1 rfl) ?_
  refine gw_callV hC 0 1 1 (wb := oc cL ob f) (ct_X1_addGoat l hl0 D cI t o r S o1 r1 T h N hN hN12) gL_addGoat_X1_addGoat dL_addGoat_4 hTh hKi hP hD hS hA hl.1 rfl hd_X1_addGoat ⟨Nat.le_of_ble_eq_true rfl, Nat.le_of_ble_eq_true rfl⟩ ⟨Nat.le_of_ble_eq_true rfl, Nat.le_of_ble_eq_true rfl⟩ rfl rfl rfl rfl (Nat.le_of_ble_eq_true rfl) (fun E ce q9 H locs hE hP hD hS h1 h2 h3 => ?_) (fun hn H locs hP hD hS => ?_)
  · have hxE := hx.trans hE
    clear hx
    have hc : E = gxIA ∨ E = gxIS := by
      rcases or_E hE with h | h
      · exact (Or.inl (xNum_E h))
      · skip
        exact (Or.inr (xRk_E h))
    rcases hc with rfl | rfl
    · subst hxE
      refine vx_catch (own := RL) (name := gxIA) hC.2.2.2.1 [] ⟨0, 9, 12, 13⟩ [⟨0, 9, 15, 15⟩] htab (fun z hz => nomatch hz) rfl (by decide) (hC.2.2.2.2 _ (List.mem_of_getElem? (i := 1) rfl)) (va_Nw.use rfl hTh.2.2.2.2.1) h1 h2 h3 ?_
      refine lv_astore_n hxe hb dL_addGoat_12 rfl hl (by decide) rfl fun ls hl => ?_
      refine lv_iconst (v := 1) hxe hb dL_addGoat_13 (by decide) ?_
      exact gx_iret hC hr hlk hK hP hD hS rfl (show some (Value.int 1) = some (Value.int (xc gxIA gxIS (some gxIA))) from by rw [show xc gxIA gxIS (some gxIA) = 1 from by decide]) (by rw [xsel_s, osel_s]) dL_addGoat_14 (Nat.le_of_ble_eq_true rfl) (Nat.le_of_ble_eq_true rfl)
    · subst hxE
      refine vx_catch (own := RL) (name := gxIS) hC.2.2.2.1 [⟨0, 9, 12, 13⟩] ⟨0, 9, 15, 15⟩ [] htab (fun z hz => by
          cases List.mem_singleton.mp hz
          exact Or.inr ⟨by decide, gxIA, (hC.2.2.2.2 _ (List.mem_of_getElem? (i := 1) rfl)), hNc.1⟩) rfl (by decide) (hC.2.2.2.2 _ (List.mem_of_getElem? (i := 2) rfl)) (va_Nw.use rfl hTh.2.2.2.2.2.1) h1 h2 h3 ?_
      refine lv_astore_n hxe hb dL_addGoat_15 rfl hl (by decide) rfl fun ls hl => ?_
      refine lv_iconst (v := 2) hxe hb dL_addGoat_16 (by decide) ?_
      exact gx_iret hC hr hlk hK hP hD hS rfl (show some (Value.int 2) = some (Value.int (xc gxIA gxIS (some gxIS))) from by rw [show xc gxIA gxIS (some gxIS) = 2 from by decide]) (by rw [xsel_s, osel_s]) dL_addGoat_17 (Nat.le_of_ble_eq_true rfl) (Nat.le_of_ble_eq_true rfl)
  · have hxN := hx.trans hn
    clear hx
    subst hxN
    refine gt_stk [.int ((S 0 2)), .int 0, .ref ob] rfl ?_
    refine lv_i2l hxe hb dL_addGoat_7 rfl ?_
    refine gw_put hC 27 hK hP hD hS rfl dL_addGoat_8 rfl fun H locs hP hD hS => ?_
    refine lv_goto (tgt := 18) hxe hb dL_addGoat_9 (by decide) ?_
    refine lv_iconst (v := 0) hxe hb dL_addGoat_18 (by decide) ?_
    exact gx_iret hC hr hlk hK hP hD hS rfl rfl (by rw [xsel_n, osel_n]) dL_addGoat_19 (Nat.le_of_ble_eq_true rfl) (Nat.le_of_ble_eq_true rfl)

theorem hd_L_ask : yL_ask.cls ≠ "java/lang/invoke/MethodHandle" ∧ yL_ask.cls ≠ "java/lang/invoke/VarHandle" ∧ (parseMethodDescriptor yL_ask.desc).map (fun d => d.parameters.length) = some 7 := by decide +kernel
set_option maxRecDepth 20000 in
theorem cw_ask (l : Launch) (hl0 : l.stackTraces = false) (D : va_G) (cI : ClassId) (t o : Nat) (r : Nat → Nat) (S : SS) (o1 : Nat) (r1 : Nat → Nat) (T : SS) (cL : ClassId) (ob : Nat) (f : Nat → Int64) (k : Int32) (g : Int32) (w : Int32) (mi : Int32) (wt : Int32) (N : Nat) (hN : S 0 2 = nI N) (hN12 : N ≤ 12) (G : Nat) (hG : S 0 1 = nI G) (hG4 : G ≤ 4) (x : Option String) (hx : x = ((xGoat S k).or ((xGate S g).or ((xNum w (S 5 g.toNatClampNeg)).or ((xNum mi 30).or ((xNum wt 60).or (xIdle S k.toNatClampNeg))))))) : Cw l D [(cI, .int), (cL, .long)] yL_ask wsL_ask 8 128 6 36 [.ref t, .int k, .int g, .int w, .int mi, .int wt, .ref ob] (tw cI t o r S o1 r1 T ++ oc cL ob f) (some (.int (xc gxIO gxIA x))) (tw cI t o r (xsel x (gxLine S k.toNatClampNeg g w mi wt) S) o1 r1 T ++ oc cL ob (osel x f ((gxWat (gxLine S k.toNatClampNeg g w mi wt) g N)))) := by
  refine Cw.ofW (cc := cL_ask) (maxL := 8) (ret := some .int) (hh := [(0, 16, 19, 25), (0, 16, 23, 13), (0, 16, 27, 15)]) (by decide) rfl (Nat.le_of_ble_eq_true rfl) ?_
  intro p e s m below meth c A ls hC hr hlk htab hTh hNc hP hD hS hK hA hl
  have hxe := hC.1
  have hb := hC.2.1
  have hl : lv_has ls 8 [(0, .ref t), (1, .int k), (2, .int g), (3, .int w), (4, .int mi), (5, .int wt), (6, .ref ob)] := hl
  have hKi : va_K D vwCl [(cI, .int)] s := ⟨hK.1, fun k z hz => by
    cases k with
    | zero => exact hK.2 0 z hz
    | succ k => cases hz⟩
  refine lv_aload hxe hb dL_ask_0 (lv_at hl 6 rfl) ?_
  refine lv_iconst (v := 0) hxe hb dL_ask_2 (by decide) ?_
  refine lv_aload_n hxe hb dL_ask_3 rfl (lv_at hl 0 rfl) ?_
  refine lv_iload_n hxe hb dL_ask_4 rfl (lv_at hl 1 rfl) ?_
  refine lv_iload_n hxe hb dL_ask_5 rfl (lv_at hl 2 rfl) ?_
  refine lv_iload_n hxe hb dL_ask_6 rfl (lv_at hl 3 rfl) ?_
  refine lv_iload hxe hb dL_ask_7 (lv_at hl 4 rfl) ?_
  refine lv_iload hxe hb dL_ask_9 (lv_at hl 5 rfl) ?_
  refine gw_callV hC 0 1 5 (wb := oc cL ob f) (ct_X1_ask l hl0 D cI t o r S o1 r1 T k g w mi wt N hN hN12 G hG hG4) gL_ask_X1_ask dL_ask_11 hTh hKi hP hD hS hA hl.1 rfl hd_X1_ask ⟨Nat.le_of_ble_eq_true rfl, Nat.le_of_ble_eq_true rfl⟩ ⟨Nat.le_of_ble_eq_true rfl, Nat.le_of_ble_eq_true rfl⟩ rfl rfl rfl rfl (Nat.le_of_ble_eq_true rfl) (fun E ce q9 H locs hE hP hD hS h1 h2 h3 => ?_) (fun hn H locs hP hD hS => ?_)
  · have hxE := hx.trans hE
    clear hx
    have hc : E = gxIO ∨ E = gxIA ∨ E = gxIS := by
      rcases or_E hE with h | h
      · exact (Or.inl (xGoat_E h))
      · skip
        rcases or_E h with h | h
        · exact (Or.inl (xGate_E h))
        · skip
          rcases or_E h with h | h
          · exact (Or.inr (Or.inl (xNum_E h)))
          · skip
            rcases or_E h with h | h
            · exact (Or.inr (Or.inl (xNum_E h)))
            · skip
              rcases or_E h with h | h
              · exact (Or.inr (Or.inl (xNum_E h)))
              · skip
                exact (Or.inr (Or.inr (xIdle_E h)))
    rcases hc with rfl | rfl | rfl
    · subst hxE
      refine vx_catch (own := RL) (name := gxIO) hC.2.2.2.1 [] ⟨0, 16, 19, 25⟩ [⟨0, 16, 23, 13⟩, ⟨0, 16, 27, 15⟩] htab (fun z hz => nomatch hz) rfl (by decide) (hC.2.2.2.2 _ (List.mem_of_getElem? (i := 1) rfl)) (va_Nw.use rfl hTh.2.2.2.2.2.2) h1 h2 h3 ?_
      refine lv_astore hxe hb dL_ask_19 hl (by decide) rfl fun ls hl => ?_
      refine lv_iconst (v := 1) hxe hb dL_ask_21 (by decide) ?_
      exact gx_iret hC hr hlk hK hP hD hS rfl (show some (Value.int 1) = some (Value.int (xc gxIO gxIA (some gxIO))) from by rw [show xc gxIO gxIA (some gxIO) = 1 from by decide]) (by rw [xsel_s, osel_s]) dL_ask_22 (Nat.le_of_ble_eq_true rfl) (Nat.le_of_ble_eq_true rfl)
    · subst hxE
      refine vx_catch (own := RL) (name := gxIA) hC.2.2.2.1 [⟨0, 16, 19, 25⟩] ⟨0, 16, 23, 13⟩ [⟨0, 16, 27, 15⟩] htab (fun z hz => by
          cases List.mem_singleton.mp hz
          exact Or.inr ⟨by decide, gxIO, (hC.2.2.2.2 _ (List.mem_of_getElem? (i := 1) rfl)), hNc.2.1⟩) rfl (by decide) (hC.2.2.2.2 _ (List.mem_of_getElem? (i := 2) rfl)) (va_Nw.use rfl hTh.2.2.2.2.1) h1 h2 h3 ?_
      refine lv_astore hxe hb dL_ask_23 hl (by decide) rfl fun ls hl => ?_
      refine lv_iconst (v := 2) hxe hb dL_ask_25 (by decide) ?_
      exact gx_iret hC hr hlk hK hP hD hS rfl (show some (Value.int 2) = some (Value.int (xc gxIO gxIA (some gxIA))) from by rw [show xc gxIO gxIA (some gxIA) = 2 from by decide]) (by rw [xsel_s, osel_s]) dL_ask_26 (Nat.le_of_ble_eq_true rfl) (Nat.le_of_ble_eq_true rfl)
    · subst hxE
      refine vx_catch (own := RL) (name := gxIS) hC.2.2.2.1 [⟨0, 16, 19, 25⟩, ⟨0, 16, 23, 13⟩] ⟨0, 16, 27, 15⟩ [] htab (fun z hz => by
          rcases List.mem_cons.mp hz with rfl | hz
          · exact Or.inr ⟨by decide, gxIO, (hC.2.2.2.2 _ (List.mem_of_getElem? (i := 1) rfl)), hNc.2.2⟩
          · cases List.mem_singleton.mp hz
            exact Or.inr ⟨by decide, gxIA, (hC.2.2.2.2 _ (List.mem_of_getElem? (i := 2) rfl)), hNc.1⟩) rfl (by decide) (hC.2.2.2.2 _ (List.mem_of_getElem? (i := 3) rfl)) (va_Nw.use rfl hTh.2.2.2.2.2.1) h1 h2 h3 ?_
      refine lv_astore hxe hb dL_ask_27 hl (by decide) rfl fun ls hl => ?_
      refine lv_iconst (v := 3) hxe hb dL_ask_29 (by decide) ?_
      exact gx_iret hC hr hlk hK hP hD hS rfl (show some (Value.int 3) = some (Value.int (xc gxIO gxIA (some gxIS))) from by rw [show xc gxIO gxIA (some gxIS) = 3 from by decide]) (by rw [xsel_s, osel_s]) dL_ask_30 (Nat.le_of_ble_eq_true rfl) (Nat.le_of_ble_eq_true rfl)
  · have hxN := hx.trans hn
    clear hx
    subst hxN
    refine gt_stk [.int ((gxWat (gxLine S k.toNatClampNeg g w mi wt) g N)), .int 0, .ref ob] rfl ?_
    refine lv_i2l hxe hb dL_ask_14 rfl ?_
    refine gw_put hC 27 hK hP hD hS rfl dL_ask_15 rfl fun H locs hP hD hS => ?_
    refine lv_goto (tgt := 31) hxe hb dL_ask_16 (by decide) ?_
    refine lv_iconst (v := 0) hxe hb dL_ask_31 (by decide) ?_
    exact gx_iret hC hr hlk hK hP hD hS rfl rfl (by rw [xsel_n, osel_n]) dL_ask_32 (Nat.le_of_ble_eq_true rfl) (Nat.le_of_ble_eq_true rfl)

theorem hd_L_barge : yL_barge.cls ≠ "java/lang/invoke/MethodHandle" ∧ yL_barge.cls ≠ "java/lang/invoke/VarHandle" ∧ (parseMethodDescriptor yL_barge.desc).map (fun d => d.parameters.length) = some 6 := by decide +kernel
set_option maxRecDepth 20000 in
theorem cw_barge (l : Launch) (hl0 : l.stackTraces = false) (D : va_G) (cI : ClassId) (t o : Nat) (r : Nat → Nat) (S : SS) (o1 : Nat) (r1 : Nat → Nat) (T : SS) (cL : ClassId) (ob : Nat) (f : Nat → Int64) (k : Int32) (g : Int32) (w : Int32) (mi : Int32) (N : Nat) (hN : S 0 2 = nI N) (hN12 : N ≤ 12) (G : Nat) (hG : S 0 1 = nI G) (hG4 : G ≤ 4) (x : Option String) (hx : x = ((xGoat S k).or ((xGate S g).or ((xNum w (S 5 g.toNatClampNeg)).or ((xNum mi 30).or ((xIdle S k.toNatClampNeg).or (xFr S g.toNatClampNeg N w))))))) : Cw l D [(cI, .int), (cL, .long)] yL_barge wsL_barge 8 127 6 36 [.ref t, .int k, .int g, .int w, .int mi, .ref ob] (tw cI t o r S o1 r1 T ++ oc cL ob f) (some (.int (xc gxIO gxIA x))) (tw cI t o r (xsel x (gxEnt S k.toNatClampNeg g w mi) S) o1 r1 T ++ oc cL ob (osel x f ((gxFree (gxEnt S k.toNatClampNeg g w mi) g.toNatClampNeg N)))) := by
  refine Cw.ofW (cc := cL_barge) (maxL := 7) (ret := some .int) (hh := [(0, 14, 17, 25), (0, 14, 21, 13), (0, 14, 25, 15)]) (by decide) rfl (Nat.le_of_ble_eq_true rfl) ?_
  intro p e s m below meth c A ls hC hr hlk htab hTh hNc hP hD hS hK hA hl
  have hxe := hC.1
  have hb := hC.2.1
  have hl : lv_has ls 7 [(0, .ref t), (1, .int k), (2, .int g), (3, .int w), (4, .int mi), (5, .ref ob)] := hl
  have hKi : va_K D vwCl [(cI, .int)] s := ⟨hK.1, fun k z hz => by
    cases k with
    | zero => exact hK.2 0 z hz
    | succ k => cases hz⟩
  refine lv_aload hxe hb dL_barge_0 (lv_at hl 5 rfl) ?_
  refine lv_iconst (v := 0) hxe hb dL_barge_2 (by decide) ?_
  refine lv_aload_n hxe hb dL_barge_3 rfl (lv_at hl 0 rfl) ?_
  refine lv_iload_n hxe hb dL_barge_4 rfl (lv_at hl 1 rfl) ?_
  refine lv_iload_n hxe hb dL_barge_5 rfl (lv_at hl 2 rfl) ?_
  refine lv_iload_n hxe hb dL_barge_6 rfl (lv_at hl 3 rfl) ?_
  refine lv_iload hxe hb dL_barge_7 (lv_at hl 4 rfl) ?_
  refine gw_callV hC 0 1 4 (wb := oc cL ob f) (ct_X1_barge l hl0 D cI t o r S o1 r1 T k g w mi N hN hN12 G hG hG4) gL_barge_X1_barge dL_barge_9 hTh hKi hP hD hS hA hl.1 rfl hd_X1_barge ⟨Nat.le_of_ble_eq_true rfl, Nat.le_of_ble_eq_true rfl⟩ ⟨Nat.le_of_ble_eq_true rfl, Nat.le_of_ble_eq_true rfl⟩ rfl rfl rfl rfl (Nat.le_of_ble_eq_true rfl) (fun E ce q9 H locs hE hP hD hS h1 h2 h3 => ?_) (fun hn H locs hP hD hS => ?_)
  · have hxE := hx.trans hE
    clear hx
    have hc : E = gxIO ∨ E = gxIA ∨ E = gxIS := by
      rcases or_E hE with h | h
      · exact (Or.inl (xGoat_E h))
      · skip
        rcases or_E h with h | h
        · exact (Or.inl (xGate_E h))
        · skip
          rcases or_E h with h | h
          · exact (Or.inr (Or.inl (xNum_E h)))
          · skip
            rcases or_E h with h | h
            · exact (Or.inr (Or.inl (xNum_E h)))
            · skip
              rcases or_E h with h | h
              · exact (Or.inr (Or.inr (xIdle_E h)))
              · skip
                exact (Or.inr (Or.inr (xFr_E h)))
    rcases hc with rfl | rfl | rfl
    · subst hxE
      refine vx_catch (own := RL) (name := gxIO) hC.2.2.2.1 [] ⟨0, 14, 17, 25⟩ [⟨0, 14, 21, 13⟩, ⟨0, 14, 25, 15⟩] htab (fun z hz => nomatch hz) rfl (by decide) (hC.2.2.2.2 _ (List.mem_of_getElem? (i := 1) rfl)) (va_Nw.use rfl hTh.2.2.2.2.2.2) h1 h2 h3 ?_
      refine lv_astore hxe hb dL_barge_17 hl (by decide) rfl fun ls hl => ?_
      refine lv_iconst (v := 1) hxe hb dL_barge_19 (by decide) ?_
      exact gx_iret hC hr hlk hK hP hD hS rfl (show some (Value.int 1) = some (Value.int (xc gxIO gxIA (some gxIO))) from by rw [show xc gxIO gxIA (some gxIO) = 1 from by decide]) (by rw [xsel_s, osel_s]) dL_barge_20 (Nat.le_of_ble_eq_true rfl) (Nat.le_of_ble_eq_true rfl)
    · subst hxE
      refine vx_catch (own := RL) (name := gxIA) hC.2.2.2.1 [⟨0, 14, 17, 25⟩] ⟨0, 14, 21, 13⟩ [⟨0, 14, 25, 15⟩] htab (fun z hz => by
          cases List.mem_singleton.mp hz
          exact Or.inr ⟨by decide, gxIO, (hC.2.2.2.2 _ (List.mem_of_getElem? (i := 1) rfl)), hNc.2.1⟩) rfl (by decide) (hC.2.2.2.2 _ (List.mem_of_getElem? (i := 2) rfl)) (va_Nw.use rfl hTh.2.2.2.2.1) h1 h2 h3 ?_
      refine lv_astore hxe hb dL_barge_21 hl (by decide) rfl fun ls hl => ?_
      refine lv_iconst (v := 2) hxe hb dL_barge_23 (by decide) ?_
      exact gx_iret hC hr hlk hK hP hD hS rfl (show some (Value.int 2) = some (Value.int (xc gxIO gxIA (some gxIA))) from by rw [show xc gxIO gxIA (some gxIA) = 2 from by decide]) (by rw [xsel_s, osel_s]) dL_barge_24 (Nat.le_of_ble_eq_true rfl) (Nat.le_of_ble_eq_true rfl)
    · subst hxE
      refine vx_catch (own := RL) (name := gxIS) hC.2.2.2.1 [⟨0, 14, 17, 25⟩, ⟨0, 14, 21, 13⟩] ⟨0, 14, 25, 15⟩ [] htab (fun z hz => by
          rcases List.mem_cons.mp hz with rfl | hz
          · exact Or.inr ⟨by decide, gxIO, (hC.2.2.2.2 _ (List.mem_of_getElem? (i := 1) rfl)), hNc.2.2⟩
          · cases List.mem_singleton.mp hz
            exact Or.inr ⟨by decide, gxIA, (hC.2.2.2.2 _ (List.mem_of_getElem? (i := 2) rfl)), hNc.1⟩) rfl (by decide) (hC.2.2.2.2 _ (List.mem_of_getElem? (i := 3) rfl)) (va_Nw.use rfl hTh.2.2.2.2.2.1) h1 h2 h3 ?_
      refine lv_astore hxe hb dL_barge_25 hl (by decide) rfl fun ls hl => ?_
      refine lv_iconst (v := 3) hxe hb dL_barge_27 (by decide) ?_
      exact gx_iret hC hr hlk hK hP hD hS rfl (show some (Value.int 3) = some (Value.int (xc gxIO gxIA (some gxIS))) from by rw [show xc gxIO gxIA (some gxIS) = 3 from by decide]) (by rw [xsel_s, osel_s]) dL_barge_28 (Nat.le_of_ble_eq_true rfl) (Nat.le_of_ble_eq_true rfl)
  · have hxN := hx.trans hn
    clear hx
    subst hxN
    refine gt_stk [.int ((gxFree (gxEnt S k.toNatClampNeg g w mi) g.toNatClampNeg N)), .int 0, .ref ob] rfl ?_
    refine lv_i2l hxe hb dL_barge_12 rfl ?_
    refine gw_put hC 27 hK hP hD hS rfl dL_barge_13 rfl fun H locs hP hD hS => ?_
    refine lv_goto (tgt := 29) hxe hb dL_barge_14 (by decide) ?_
    refine lv_iconst (v := 0) hxe hb dL_barge_29 (by decide) ?_
    exact gx_iret hC hr hlk hK hP hD hS rfl rfl (by rw [xsel_n, osel_n]) dL_barge_30 (Nat.le_of_ble_eq_true rfl) (Nat.le_of_ble_eq_true rfl)

theorem hd_L_callBack : yL_callBack.cls ≠ "java/lang/invoke/MethodHandle" ∧ yL_callBack.cls ≠ "java/lang/invoke/VarHandle" ∧ (parseMethodDescriptor yL_callBack.desc).map (fun d => d.parameters.length) = some 3 := by decide +kernel
set_option maxRecDepth 20000 in
theorem cw_callBack (l : Launch) (hl0 : l.stackTraces = false) (D : va_G) (cI : ClassId) (t o : Nat) (r : Nat → Nat) (S : SS) (o1 : Nat) (r1 : Nat → Nat) (T : SS) (cL : ClassId) (ob : Nat) (f : Nat → Int64) (k : Int32) (N : Nat) (hN : S 0 2 = nI N) (hN12 : N ≤ 12) (x : Option String) (hx : x = ((xGoat S k).or (xCb S k.toNatClampNeg))) : Cw l D [(cI, .int), (cL, .long)] yL_callBack wsL_callBack 8 125 2 12 [.ref t, .int k, .ref ob] (tw cI t o r S o1 r1 T ++ oc cL ob f) (some (.int (xc gxIO gxIS x))) (tw cI t o r (xsel x (gxRest S k.toNatClampNeg) S) o1 r1 T ++ oc cL ob (osel x f ((gxHeld S k.toNatClampNeg)))) := by
  refine Cw.ofW (cc := cL_callBack) (maxL := 4) (ret := some .int) (hh := [(0, 9, 12, 25), (0, 9, 15, 15)]) (by decide) rfl (Nat.le_of_ble_eq_true rfl) ?_
  intro p e s m below meth c A ls hC hr hlk htab hTh hNc hP hD hS hK hA hl
  have hxe := hC.1
  have hb := hC.2.1
  have hl : lv_has ls 4 [(0, .ref t), (1, .int k), (2, .ref ob)] := hl
  have hKi : va_K D vwCl [(cI, .int)] s := ⟨hK.1, fun k z hz => by
    cases k with
    | zero => exact hK.2 0 z hz
    | succ k => cases hz⟩
  refine lv_aload_n hxe hb dL_callBack_0 rfl (lv_at hl 2 rfl) ?_
  refine lv_iconst (v := 0) hxe hb dL_callBack_1 (by decide) ?_
  refine lv_aload_n hxe hb dL_callBack_2 rfl (lv_at hl 0 rfl) ?_
  refine lv_iload_n hxe hb dL_callBack_3 rfl (lv_at hl 1 rfl) ?_
  refine gw_callV hC 0 1 1 (wb := oc cL ob f) (ct_X1_callBack l hl0 D cI t o r S o1 r1 T k N hN hN12) gL_callBack_X1_callBack dL_callBack_4 hTh hKi hP hD hS hA hl.1 rfl hd_X1_callBack ⟨Nat.le_of_ble_eq_true rfl, Nat.le_of_ble_eq_true rfl⟩ ⟨Nat.le_of_ble_eq_true rfl, Nat.le_of_ble_eq_true rfl⟩ rfl rfl rfl rfl (Nat.le_of_ble_eq_true rfl) (fun E ce q9 H locs hE hP hD hS h1 h2 h3 => ?_) (fun hn H locs hP hD hS => ?_)
  · have hxE := hx.trans hE
    clear hx
    have hc : E = gxIO ∨ E = gxIS := by
      rcases or_E hE with h | h
      · exact (Or.inl (xGoat_E h))
      · skip
        exact (Or.inr (xCb_E h))
    rcases hc with rfl | rfl
    · subst hxE
      refine vx_catch (own := RL) (name := gxIO) hC.2.2.2.1 [] ⟨0, 9, 12, 25⟩ [⟨0, 9, 15, 15⟩] htab (fun z hz => nomatch hz) rfl (by decide) (hC.2.2.2.2 _ (List.mem_of_getElem? (i := 1) rfl)) (va_Nw.use rfl hTh.2.2.2.2.2.2) h1 h2 h3 ?_
      refine lv_astore_n hxe hb dL_callBack_12 rfl hl (by decide) rfl fun ls hl => ?_
      refine lv_iconst (v := 1) hxe hb dL_callBack_13 (by decide) ?_
      exact gx_iret hC hr hlk hK hP hD hS rfl (show some (Value.int 1) = some (Value.int (xc gxIO gxIS (some gxIO))) from by rw [show xc gxIO gxIS (some gxIO) = 1 from by decide]) (by rw [xsel_s, osel_s]) dL_callBack_14 (Nat.le_of_ble_eq_true rfl) (Nat.le_of_ble_eq_true rfl)
    · subst hxE
      refine vx_catch (own := RL) (name := gxIS) hC.2.2.2.1 [⟨0, 9, 12, 25⟩] ⟨0, 9, 15, 15⟩ [] htab (fun z hz => by
          cases List.mem_singleton.mp hz
          exact Or.inr ⟨by decide, gxIO, (hC.2.2.2.2 _ (List.mem_of_getElem? (i := 1) rfl)), hNc.2.2⟩) rfl (by decide) (hC.2.2.2.2 _ (List.mem_of_getElem? (i := 2) rfl)) (va_Nw.use rfl hTh.2.2.2.2.2.1) h1 h2 h3 ?_
      refine lv_astore_n hxe hb dL_callBack_15 rfl hl (by decide) rfl fun ls hl => ?_
      refine lv_iconst (v := 2) hxe hb dL_callBack_16 (by decide) ?_
      exact gx_iret hC hr hlk hK hP hD hS rfl (show some (Value.int 2) = some (Value.int (xc gxIO gxIS (some gxIS))) from by rw [show xc gxIO gxIS (some gxIS) = 2 from by decide]) (by rw [xsel_s, osel_s]) dL_callBack_17 (Nat.le_of_ble_eq_true rfl) (Nat.le_of_ble_eq_true rfl)
  · have hxN := hx.trans hn
    clear hx
    subst hxN
    refine gt_stk [.int ((gxHeld S k.toNatClampNeg)), .int 0, .ref ob] rfl ?_
    refine lv_i2l hxe hb dL_callBack_7 rfl ?_
    refine gw_put hC 27 hK hP hD hS rfl dL_callBack_8 rfl fun H locs hP hD hS => ?_
    refine lv_goto (tgt := 18) hxe hb dL_callBack_9 (by decide) ?_
    refine lv_iconst (v := 0) hxe hb dL_callBack_18 (by decide) ?_
    exact gx_iret hC hr hlk hK hP hD hS rfl rfl (by rw [xsel_n, osel_n]) dL_callBack_19 (Nat.le_of_ble_eq_true rfl) (Nat.le_of_ble_eq_true rfl)

theorem hd_L_pass : yL_pass.cls ≠ "java/lang/invoke/MethodHandle" ∧ yL_pass.cls ≠ "java/lang/invoke/VarHandle" ∧ (parseMethodDescriptor yL_pass.desc).map (fun d => d.parameters.length) = some 3 := by decide +kernel
set_option maxRecDepth 20000 in
theorem cw_pass (l : Launch) (hl0 : l.stackTraces = false) (D : va_G) (cI : ClassId) (t o : Nat) (r : Nat → Nat) (S : SS) (o1 : Nat) (r1 : Nat → Nat) (T : SS) (cL : ClassId) (ob : Nat) (f : Nat → Int64) (mm : Int32) (N : Nat) (hN : S 0 2 = nI N) (hN12 : N ≤ 12) (G : Nat) (hG : S 0 1 = nI G) (hG4 : G ≤ 4) (x : Option String) (hx : x = (xNum mm 60)) : Cw l D [(cI, .int), (cL, .long)] yL_pass wsL_pass 8 126 1 6 [.ref t, .int mm, .ref ob] (tw cI t o r S o1 r1 T ++ oc cL ob f) (some (.int (xc gxIA gxIA x))) (tw cI t o r (xsel x (gxIt S G N mm.toNatClampNeg) S) o1 r1 T ++ oc cL ob (osel x f ((gxIt S G N mm.toNatClampNeg 0 4 - S 0 4)))) := by
  refine Cw.ofW (cc := cL_pass) (maxL := 4) (ret := some .int) (hh := [(0, 9, 12, 13)]) (by decide) rfl (Nat.le_of_ble_eq_true rfl) ?_
  intro p e s m below meth c A ls hC hr hlk htab hTh hNc hP hD hS hK hA hl
  have hxe := hC.1
  have hb := hC.2.1
  have hl : lv_has ls 4 [(0, .ref t), (1, .int mm), (2, .ref ob)] := hl
  have hKi : va_K D vwCl [(cI, .int)] s := ⟨hK.1, fun k z hz => by
    cases k with
    | zero => exact hK.2 0 z hz
    | succ k => cases hz⟩
  refine lv_aload_n hxe hb dL_pass_0 rfl (lv_at hl 2 rfl) ?_
  refine lv_iconst (v := 0) hxe hb dL_pass_1 (by decide) ?_
  refine lv_aload_n hxe hb dL_pass_2 rfl (lv_at hl 0 rfl) ?_
  refine lv_iload_n hxe hb dL_pass_3 rfl (lv_at hl 1 rfl) ?_
  refine gw_callV hC 0 1 1 (wb := oc cL ob f) (ct_X1_pass l hl0 D cI t o r S o1 r1 T mm N hN hN12 G hG hG4) gL_pass_X1_pass dL_pass_4 hTh hKi hP hD hS hA hl.1 rfl hd_X1_pass ⟨Nat.le_of_ble_eq_true rfl, Nat.le_of_ble_eq_true rfl⟩ ⟨Nat.le_of_ble_eq_true rfl, Nat.le_of_ble_eq_true rfl⟩ rfl rfl rfl rfl (Nat.le_of_ble_eq_true rfl) (fun E ce q9 H locs hE hP hD hS h1 h2 h3 => ?_) (fun hn H locs hP hD hS => ?_)
  · have hxE := hx.trans hE
    clear hx
    have hc : E = gxIA := by
      exact ((xNum_E hE))
    subst hc
    subst hxE
    refine vx_catch (own := RL) (name := gxIA) hC.2.2.2.1 [] ⟨0, 9, 12, 13⟩ [] htab (fun z hz => nomatch hz) rfl (by decide) (hC.2.2.2.2 _ (List.mem_of_getElem? (i := 1) rfl)) (va_Nw.use rfl hTh.2.2.2.2.1) h1 h2 h3 ?_
    refine lv_astore_n hxe hb dL_pass_12 rfl hl (by decide) rfl fun ls hl => ?_
    refine lv_iconst (v := 1) hxe hb dL_pass_13 (by decide) ?_
    exact gx_iret hC hr hlk hK hP hD hS rfl (show some (Value.int 1) = some (Value.int (xc gxIA gxIA (some gxIA))) from by rw [show xc gxIA gxIA (some gxIA) = 1 from by decide]) (by rw [xsel_s, osel_s]) dL_pass_14 (Nat.le_of_ble_eq_true rfl) (Nat.le_of_ble_eq_true rfl)
  · have hxN := hx.trans hn
    clear hx
    subst hxN
    refine gt_stk [.int ((gxIt S G N mm.toNatClampNeg 0 4 - S 0 4)), .int 0, .ref ob] rfl ?_
    refine lv_i2l hxe hb dL_pass_7 rfl ?_
    refine gw_put hC 27 hK hP hD hS rfl dL_pass_8 rfl fun H locs hP hD hS => ?_
    refine lv_goto (tgt := 15) hxe hb dL_pass_9 (by decide) ?_
    refine lv_iconst (v := 0) hxe hb dL_pass_15 (by decide) ?_
    exact gx_iret hC hr hlk hK hP hD hS rfl rfl (by rw [xsel_n, osel_n]) dL_pass_16 (Nat.le_of_ble_eq_true rfl) (Nat.le_of_ble_eq_true rfl)

theorem hd_L_permitsOf : yL_permitsOf.cls ≠ "java/lang/invoke/MethodHandle" ∧ yL_permitsOf.cls ≠ "java/lang/invoke/VarHandle" ∧ (parseMethodDescriptor yL_permitsOf.desc).map (fun d => d.parameters.length) = some 3 := by decide +kernel
set_option maxRecDepth 20000 in
theorem cw_permitsOf (l : Launch) (hl0 : l.stackTraces = false) (D : va_G) (cI : ClassId) (t o : Nat) (r : Nat → Nat) (S : SS) (o1 : Nat) (r1 : Nat → Nat) (T : SS) (cL : ClassId) (ob : Nat) (f : Nat → Int64) (g : Int32) (G : Nat) (hG : S 0 1 = nI G) (hG4 : G ≤ 4) (x : Option String) (hx : x = (xGate S g)) : Cw l D [(cI, .int), (cL, .long)] yL_permitsOf wsL_permitsOf 8 124 1 6 [.ref t, .int g, .ref ob] (tw cI t o r S o1 r1 T ++ oc cL ob f) (some (.int (xc gxIO gxIO x))) (tw cI t o r S o1 r1 T ++ oc cL ob (osel x f ((S 5 g.toNatClampNeg)))) := by
  refine Cw.ofW (cc := cL_permitsOf) (maxL := 4) (ret := some .int) (hh := [(0, 9, 12, 25)]) (by decide) rfl (Nat.le_of_ble_eq_true rfl) ?_
  intro p e s m below meth c A ls hC hr hlk htab hTh hNc hP hD hS hK hA hl
  have hxe := hC.1
  have hb := hC.2.1
  have hl : lv_has ls 4 [(0, .ref t), (1, .int g), (2, .ref ob)] := hl
  have hKi : va_K D vwCl [(cI, .int)] s := ⟨hK.1, fun k z hz => by
    cases k with
    | zero => exact hK.2 0 z hz
    | succ k => cases hz⟩
  refine lv_aload_n hxe hb dL_permitsOf_0 rfl (lv_at hl 2 rfl) ?_
  refine lv_iconst (v := 0) hxe hb dL_permitsOf_1 (by decide) ?_
  refine lv_aload_n hxe hb dL_permitsOf_2 rfl (lv_at hl 0 rfl) ?_
  refine lv_iload_n hxe hb dL_permitsOf_3 rfl (lv_at hl 1 rfl) ?_
  refine gw_callV hC 0 1 1 (wb := oc cL ob f) (ct_X1_permitsOf l hl0 D cI t o r S o1 r1 T g G hG hG4) gL_permitsOf_X1_permitsOf dL_permitsOf_4 hTh hKi hP hD hS hA hl.1 rfl hd_X1_permitsOf ⟨Nat.le_of_ble_eq_true rfl, Nat.le_of_ble_eq_true rfl⟩ ⟨Nat.le_of_ble_eq_true rfl, Nat.le_of_ble_eq_true rfl⟩ rfl rfl rfl rfl (Nat.le_of_ble_eq_true rfl) (fun E ce q9 H locs hE hP hD hS h1 h2 h3 => ?_) (fun hn H locs hP hD hS => ?_)
  · have hxE := hx.trans hE
    clear hx
    have hc : E = gxIO := by
      exact ((xGate_E hE))
    subst hc
    subst hxE
    refine vx_catch (own := RL) (name := gxIO) hC.2.2.2.1 [] ⟨0, 9, 12, 25⟩ [] htab (fun z hz => nomatch hz) rfl (by decide) (hC.2.2.2.2 _ (List.mem_of_getElem? (i := 1) rfl)) (va_Nw.use rfl hTh.2.2.2.2.2.2) h1 h2 h3 ?_
    refine lv_astore_n hxe hb dL_permitsOf_12 rfl hl (by decide) rfl fun ls hl => ?_
    refine lv_iconst (v := 1) hxe hb dL_permitsOf_13 (by decide) ?_
    exact gx_iret hC hr hlk hK hP hD hS rfl (show some (Value.int 1) = some (Value.int (xc gxIO gxIO (some gxIO))) from by rw [show xc gxIO gxIO (some gxIO) = 1 from by decide]) (by rw [osel_s]) dL_permitsOf_14 (Nat.le_of_ble_eq_true rfl) (Nat.le_of_ble_eq_true rfl)
  · have hxN := hx.trans hn
    clear hx
    subst hxN
    refine gt_stk [.int ((S 5 g.toNatClampNeg)), .int 0, .ref ob] rfl ?_
    refine lv_i2l hxe hb dL_permitsOf_7 rfl ?_
    refine gw_put hC 27 hK hP hD hS rfl dL_permitsOf_8 rfl fun H locs hP hD hS => ?_
    refine lv_goto (tgt := 15) hxe hb dL_permitsOf_9 (by decide) ?_
    refine lv_iconst (v := 0) hxe hb dL_permitsOf_15 (by decide) ?_
    exact gx_iret hC hr hlk hK hP hD hS rfl rfl (by rw [osel_n]) dL_permitsOf_16 (Nat.le_of_ble_eq_true rfl) (Nat.le_of_ble_eq_true rfl)

theorem hd_L_freeOf : yL_freeOf.cls ≠ "java/lang/invoke/MethodHandle" ∧ yL_freeOf.cls ≠ "java/lang/invoke/VarHandle" ∧ (parseMethodDescriptor yL_freeOf.desc).map (fun d => d.parameters.length) = some 3 := by decide +kernel
set_option maxRecDepth 20000 in
theorem cw_freeOf (l : Launch) (hl0 : l.stackTraces = false) (D : va_G) (cI : ClassId) (t o : Nat) (r : Nat → Nat) (S : SS) (o1 : Nat) (r1 : Nat → Nat) (T : SS) (cL : ClassId) (ob : Nat) (f : Nat → Int64) (g : Int32) (N : Nat) (hN : S 0 2 = nI N) (hN12 : N ≤ 12) (G : Nat) (hG : S 0 1 = nI G) (hG4 : G ≤ 4) (x : Option String) (hx : x = (xGate S g)) : Cw l D [(cI, .int), (cL, .long)] yL_freeOf wsL_freeOf 8 124 1 6 [.ref t, .int g, .ref ob] (tw cI t o r S o1 r1 T ++ oc cL ob f) (some (.int (xc gxIO gxIO x))) (tw cI t o r S o1 r1 T ++ oc cL ob (osel x f ((gxFree S g.toNatClampNeg N)))) := by
  refine Cw.ofW (cc := cL_freeOf) (maxL := 4) (ret := some .int) (hh := [(0, 9, 12, 25)]) (by decide) rfl (Nat.le_of_ble_eq_true rfl) ?_
  intro p e s m below meth c A ls hC hr hlk htab hTh hNc hP hD hS hK hA hl
  have hxe := hC.1
  have hb := hC.2.1
  have hl : lv_has ls 4 [(0, .ref t), (1, .int g), (2, .ref ob)] := hl
  have hKi : va_K D vwCl [(cI, .int)] s := ⟨hK.1, fun k z hz => by
    cases k with
    | zero => exact hK.2 0 z hz
    | succ k => cases hz⟩
  refine lv_aload_n hxe hb dL_freeOf_0 rfl (lv_at hl 2 rfl) ?_
  refine lv_iconst (v := 0) hxe hb dL_freeOf_1 (by decide) ?_
  refine lv_aload_n hxe hb dL_freeOf_2 rfl (lv_at hl 0 rfl) ?_
  refine lv_iload_n hxe hb dL_freeOf_3 rfl (lv_at hl 1 rfl) ?_
  refine gw_callV hC 0 1 1 (wb := oc cL ob f) (ct_X1_freeOf l hl0 D cI t o r S o1 r1 T g N hN hN12 G hG hG4) gL_freeOf_X1_freeOf dL_freeOf_4 hTh hKi hP hD hS hA hl.1 rfl hd_X1_freeOf ⟨Nat.le_of_ble_eq_true rfl, Nat.le_of_ble_eq_true rfl⟩ ⟨Nat.le_of_ble_eq_true rfl, Nat.le_of_ble_eq_true rfl⟩ rfl rfl rfl rfl (Nat.le_of_ble_eq_true rfl) (fun E ce q9 H locs hE hP hD hS h1 h2 h3 => ?_) (fun hn H locs hP hD hS => ?_)
  · have hxE := hx.trans hE
    clear hx
    have hc : E = gxIO := by
      exact ((xGate_E hE))
    subst hc
    subst hxE
    refine vx_catch (own := RL) (name := gxIO) hC.2.2.2.1 [] ⟨0, 9, 12, 25⟩ [] htab (fun z hz => nomatch hz) rfl (by decide) (hC.2.2.2.2 _ (List.mem_of_getElem? (i := 1) rfl)) (va_Nw.use rfl hTh.2.2.2.2.2.2) h1 h2 h3 ?_
    refine lv_astore_n hxe hb dL_freeOf_12 rfl hl (by decide) rfl fun ls hl => ?_
    refine lv_iconst (v := 1) hxe hb dL_freeOf_13 (by decide) ?_
    exact gx_iret hC hr hlk hK hP hD hS rfl (show some (Value.int 1) = some (Value.int (xc gxIO gxIO (some gxIO))) from by rw [show xc gxIO gxIO (some gxIO) = 1 from by decide]) (by rw [osel_s]) dL_freeOf_14 (Nat.le_of_ble_eq_true rfl) (Nat.le_of_ble_eq_true rfl)
  · have hxN := hx.trans hn
    clear hx
    subst hxN
    refine gt_stk [.int ((gxFree S g.toNatClampNeg N)), .int 0, .ref ob] rfl ?_
    refine lv_i2l hxe hb dL_freeOf_7 rfl ?_
    refine gw_put hC 27 hK hP hD hS rfl dL_freeOf_8 rfl fun H locs hP hD hS => ?_
    refine lv_goto (tgt := 15) hxe hb dL_freeOf_9 (by decide) ?_
    refine lv_iconst (v := 0) hxe hb dL_freeOf_15 (by decide) ?_
    exact gx_iret hC hr hlk hK hP hD hS rfl rfl (by rw [osel_n]) dL_freeOf_16 (Nat.le_of_ble_eq_true rfl) (Nat.le_of_ble_eq_true rfl)

theorem hd_L_waitingAt : yL_waitingAt.cls ≠ "java/lang/invoke/MethodHandle" ∧ yL_waitingAt.cls ≠ "java/lang/invoke/VarHandle" ∧ (parseMethodDescriptor yL_waitingAt.desc).map (fun d => d.parameters.length) = some 3 := by decide +kernel
set_option maxRecDepth 20000 in
theorem cw_waitingAt (l : Launch) (hl0 : l.stackTraces = false) (D : va_G) (cI : ClassId) (t o : Nat) (r : Nat → Nat) (S : SS) (o1 : Nat) (r1 : Nat → Nat) (T : SS) (cL : ClassId) (ob : Nat) (f : Nat → Int64) (g : Int32) (N : Nat) (hN : S 0 2 = nI N) (hN12 : N ≤ 12) (G : Nat) (hG : S 0 1 = nI G) (hG4 : G ≤ 4) (x : Option String) (hx : x = (xGate S g)) : Cw l D [(cI, .int), (cL, .long)] yL_waitingAt wsL_waitingAt 8 124 1 6 [.ref t, .int g, .ref ob] (tw cI t o r S o1 r1 T ++ oc cL ob f) (some (.int (xc gxIO gxIO x))) (tw cI t o r S o1 r1 T ++ oc cL ob (osel x f ((gxWat S g N)))) := by
  refine Cw.ofW (cc := cL_waitingAt) (maxL := 4) (ret := some .int) (hh := [(0, 9, 12, 25)]) (by decide) rfl (Nat.le_of_ble_eq_true rfl) ?_
  intro p e s m below meth c A ls hC hr hlk htab hTh hNc hP hD hS hK hA hl
  have hxe := hC.1
  have hb := hC.2.1
  have hl : lv_has ls 4 [(0, .ref t), (1, .int g), (2, .ref ob)] := hl
  have hKi : va_K D vwCl [(cI, .int)] s := ⟨hK.1, fun k z hz => by
    cases k with
    | zero => exact hK.2 0 z hz
    | succ k => cases hz⟩
  refine lv_aload_n hxe hb dL_waitingAt_0 rfl (lv_at hl 2 rfl) ?_
  refine lv_iconst (v := 0) hxe hb dL_waitingAt_1 (by decide) ?_
  refine lv_aload_n hxe hb dL_waitingAt_2 rfl (lv_at hl 0 rfl) ?_
  refine lv_iload_n hxe hb dL_waitingAt_3 rfl (lv_at hl 1 rfl) ?_
  refine gw_callV hC 0 1 1 (wb := oc cL ob f) (ct_X1_waitingAt l hl0 D cI t o r S o1 r1 T g N hN hN12 G hG hG4) gL_waitingAt_X1_waitingAt dL_waitingAt_4 hTh hKi hP hD hS hA hl.1 rfl hd_X1_waitingAt ⟨Nat.le_of_ble_eq_true rfl, Nat.le_of_ble_eq_true rfl⟩ ⟨Nat.le_of_ble_eq_true rfl, Nat.le_of_ble_eq_true rfl⟩ rfl rfl rfl rfl (Nat.le_of_ble_eq_true rfl) (fun E ce q9 H locs hE hP hD hS h1 h2 h3 => ?_) (fun hn H locs hP hD hS => ?_)
  · have hxE := hx.trans hE
    clear hx
    have hc : E = gxIO := by
      exact ((xGate_E hE))
    subst hc
    subst hxE
    refine vx_catch (own := RL) (name := gxIO) hC.2.2.2.1 [] ⟨0, 9, 12, 25⟩ [] htab (fun z hz => nomatch hz) rfl (by decide) (hC.2.2.2.2 _ (List.mem_of_getElem? (i := 1) rfl)) (va_Nw.use rfl hTh.2.2.2.2.2.2) h1 h2 h3 ?_
    refine lv_astore_n hxe hb dL_waitingAt_12 rfl hl (by decide) rfl fun ls hl => ?_
    refine lv_iconst (v := 1) hxe hb dL_waitingAt_13 (by decide) ?_
    exact gx_iret hC hr hlk hK hP hD hS rfl (show some (Value.int 1) = some (Value.int (xc gxIO gxIO (some gxIO))) from by rw [show xc gxIO gxIO (some gxIO) = 1 from by decide]) (by rw [osel_s]) dL_waitingAt_14 (Nat.le_of_ble_eq_true rfl) (Nat.le_of_ble_eq_true rfl)
  · have hxN := hx.trans hn
    clear hx
    subst hxN
    refine gt_stk [.int ((gxWat S g N)), .int 0, .ref ob] rfl ?_
    refine lv_i2l hxe hb dL_waitingAt_7 rfl ?_
    refine gw_put hC 27 hK hP hD hS rfl dL_waitingAt_8 rfl fun H locs hP hD hS => ?_
    refine lv_goto (tgt := 15) hxe hb dL_waitingAt_9 (by decide) ?_
    refine lv_iconst (v := 0) hxe hb dL_waitingAt_15 (by decide) ?_
    exact gx_iret hC hr hlk hK hP hD hS rfl rfl (by rw [osel_n]) dL_waitingAt_16 (Nat.le_of_ble_eq_true rfl) (Nat.le_of_ble_eq_true rfl)

theorem hd_L_nextAt : yL_nextAt.cls ≠ "java/lang/invoke/MethodHandle" ∧ yL_nextAt.cls ≠ "java/lang/invoke/VarHandle" ∧ (parseMethodDescriptor yL_nextAt.desc).map (fun d => d.parameters.length) = some 3 := by decide +kernel
set_option maxRecDepth 20000 in
theorem cw_nextAt (l : Launch) (hl0 : l.stackTraces = false) (D : va_G) (cI : ClassId) (t o : Nat) (r : Nat → Nat) (S : SS) (o1 : Nat) (r1 : Nat → Nat) (T : SS) (cL : ClassId) (ob : Nat) (f : Nat → Int64) (g : Int32) (N : Nat) (hN : S 0 2 = nI N) (hN12 : N ≤ 12) (G : Nat) (hG : S 0 1 = nI G) (hG4 : G ≤ 4) (x : Option String) (hx : x = (xGate S g)) : Cw l D [(cI, .int), (cL, .long)] yL_nextAt wsL_nextAt 8 124 1 6 [.ref t, .int g, .ref ob] (tw cI t o r S o1 r1 T ++ oc cL ob f) (some (.int (xc gxIO gxIO x))) (tw cI t o r S o1 r1 T ++ oc cL ob (osel x f ((gxFiR S g.toNatClampNeg N)))) := by
  refine Cw.ofW (cc := cL_nextAt) (maxL := 4) (ret := some .int) (hh := [(0, 9, 12, 25)]) (by decide) rfl (Nat.le_of_ble_eq_true rfl) ?_
  intro p e s m below meth c A ls hC hr hlk htab hTh hNc hP hD hS hK hA hl
  have hxe := hC.1
  have hb := hC.2.1
  have hl : lv_has ls 4 [(0, .ref t), (1, .int g), (2, .ref ob)] := hl
  have hKi : va_K D vwCl [(cI, .int)] s := ⟨hK.1, fun k z hz => by
    cases k with
    | zero => exact hK.2 0 z hz
    | succ k => cases hz⟩
  refine lv_aload_n hxe hb dL_nextAt_0 rfl (lv_at hl 2 rfl) ?_
  refine lv_iconst (v := 0) hxe hb dL_nextAt_1 (by decide) ?_
  refine lv_aload_n hxe hb dL_nextAt_2 rfl (lv_at hl 0 rfl) ?_
  refine lv_iload_n hxe hb dL_nextAt_3 rfl (lv_at hl 1 rfl) ?_
  refine gw_callV hC 0 1 1 (wb := oc cL ob f) (ct_X1_nextAt l hl0 D cI t o r S o1 r1 T g N hN hN12 G hG hG4) gL_nextAt_X1_nextAt dL_nextAt_4 hTh hKi hP hD hS hA hl.1 rfl hd_X1_nextAt ⟨Nat.le_of_ble_eq_true rfl, Nat.le_of_ble_eq_true rfl⟩ ⟨Nat.le_of_ble_eq_true rfl, Nat.le_of_ble_eq_true rfl⟩ rfl rfl rfl rfl (Nat.le_of_ble_eq_true rfl) (fun E ce q9 H locs hE hP hD hS h1 h2 h3 => ?_) (fun hn H locs hP hD hS => ?_)
  · have hxE := hx.trans hE
    clear hx
    have hc : E = gxIO := by
      exact ((xGate_E hE))
    subst hc
    subst hxE
    refine vx_catch (own := RL) (name := gxIO) hC.2.2.2.1 [] ⟨0, 9, 12, 25⟩ [] htab (fun z hz => nomatch hz) rfl (by decide) (hC.2.2.2.2 _ (List.mem_of_getElem? (i := 1) rfl)) (va_Nw.use rfl hTh.2.2.2.2.2.2) h1 h2 h3 ?_
    refine lv_astore_n hxe hb dL_nextAt_12 rfl hl (by decide) rfl fun ls hl => ?_
    refine lv_iconst (v := 1) hxe hb dL_nextAt_13 (by decide) ?_
    exact gx_iret hC hr hlk hK hP hD hS rfl (show some (Value.int 1) = some (Value.int (xc gxIO gxIO (some gxIO))) from by rw [show xc gxIO gxIO (some gxIO) = 1 from by decide]) (by rw [osel_s]) dL_nextAt_14 (Nat.le_of_ble_eq_true rfl) (Nat.le_of_ble_eq_true rfl)
  · have hxN := hx.trans hn
    clear hx
    subst hxN
    refine gt_stk [.int ((gxFiR S g.toNatClampNeg N)), .int 0, .ref ob] rfl ?_
    refine lv_i2l hxe hb dL_nextAt_7 rfl ?_
    refine gw_put hC 27 hK hP hD hS rfl dL_nextAt_8 rfl fun H locs hP hD hS => ?_
    refine lv_goto (tgt := 15) hxe hb dL_nextAt_9 (by decide) ?_
    refine lv_iconst (v := 0) hxe hb dL_nextAt_15 (by decide) ?_
    exact gx_iret hC hr hlk hK hP hD hS rfl rfl (by rw [osel_n]) dL_nextAt_16 (Nat.le_of_ble_eq_true rfl) (Nat.le_of_ble_eq_true rfl)

theorem hd_L_stateOf : yL_stateOf.cls ≠ "java/lang/invoke/MethodHandle" ∧ yL_stateOf.cls ≠ "java/lang/invoke/VarHandle" ∧ (parseMethodDescriptor yL_stateOf.desc).map (fun d => d.parameters.length) = some 3 := by decide +kernel
set_option maxRecDepth 20000 in
theorem cw_stateOf (l : Launch) (hl0 : l.stackTraces = false) (D : va_G) (cI : ClassId) (t o : Nat) (r : Nat → Nat) (S : SS) (o1 : Nat) (r1 : Nat → Nat) (T : SS) (cL : ClassId) (ob : Nat) (f : Nat → Int64) (k : Int32) (N : Nat) (hN : S 0 2 = nI N) (hN12 : N ≤ 12) (x : Option String) (hx : x = (xGoat S k)) : Cw l D [(cI, .int), (cL, .long)] yL_stateOf wsL_stateOf 8 124 1 6 [.ref t, .int k, .ref ob] (tw cI t o r S o1 r1 T ++ oc cL ob f) (some (.int (xc gxIO gxIO x))) (tw cI t o r S o1 r1 T ++ oc cL ob (osel x f ((S 9 k.toNatClampNeg)))) := by
  refine Cw.ofW (cc := cL_stateOf) (maxL := 4) (ret := some .int) (hh := [(0, 9, 12, 25)]) (by decide) rfl (Nat.le_of_ble_eq_true rfl) ?_
  intro p e s m below meth c A ls hC hr hlk htab hTh hNc hP hD hS hK hA hl
  have hxe := hC.1
  have hb := hC.2.1
  have hl : lv_has ls 4 [(0, .ref t), (1, .int k), (2, .ref ob)] := hl
  have hKi : va_K D vwCl [(cI, .int)] s := ⟨hK.1, fun k z hz => by
    cases k with
    | zero => exact hK.2 0 z hz
    | succ k => cases hz⟩
  refine lv_aload_n hxe hb dL_stateOf_0 rfl (lv_at hl 2 rfl) ?_
  refine lv_iconst (v := 0) hxe hb dL_stateOf_1 (by decide) ?_
  refine lv_aload_n hxe hb dL_stateOf_2 rfl (lv_at hl 0 rfl) ?_
  refine lv_iload_n hxe hb dL_stateOf_3 rfl (lv_at hl 1 rfl) ?_
  refine gw_callV hC 0 1 1 (wb := oc cL ob f) (ct_X1_stateOf l hl0 D cI t o r S o1 r1 T k N hN hN12) gL_stateOf_X1_stateOf dL_stateOf_4 hTh hKi hP hD hS hA hl.1 rfl hd_X1_stateOf ⟨Nat.le_of_ble_eq_true rfl, Nat.le_of_ble_eq_true rfl⟩ ⟨Nat.le_of_ble_eq_true rfl, Nat.le_of_ble_eq_true rfl⟩ rfl rfl rfl rfl (Nat.le_of_ble_eq_true rfl) (fun E ce q9 H locs hE hP hD hS h1 h2 h3 => ?_) (fun hn H locs hP hD hS => ?_)
  · have hxE := hx.trans hE
    clear hx
    have hc : E = gxIO := by
      exact ((xGoat_E hE))
    subst hc
    subst hxE
    refine vx_catch (own := RL) (name := gxIO) hC.2.2.2.1 [] ⟨0, 9, 12, 25⟩ [] htab (fun z hz => nomatch hz) rfl (by decide) (hC.2.2.2.2 _ (List.mem_of_getElem? (i := 1) rfl)) (va_Nw.use rfl hTh.2.2.2.2.2.2) h1 h2 h3 ?_
    refine lv_astore_n hxe hb dL_stateOf_12 rfl hl (by decide) rfl fun ls hl => ?_
    refine lv_iconst (v := 1) hxe hb dL_stateOf_13 (by decide) ?_
    exact gx_iret hC hr hlk hK hP hD hS rfl (show some (Value.int 1) = some (Value.int (xc gxIO gxIO (some gxIO))) from by rw [show xc gxIO gxIO (some gxIO) = 1 from by decide]) (by rw [osel_s]) dL_stateOf_14 (Nat.le_of_ble_eq_true rfl) (Nat.le_of_ble_eq_true rfl)
  · have hxN := hx.trans hn
    clear hx
    subst hxN
    refine gt_stk [.int ((S 9 k.toNatClampNeg)), .int 0, .ref ob] rfl ?_
    refine lv_i2l hxe hb dL_stateOf_7 rfl ?_
    refine gw_put hC 27 hK hP hD hS rfl dL_stateOf_8 rfl fun H locs hP hD hS => ?_
    refine lv_goto (tgt := 15) hxe hb dL_stateOf_9 (by decide) ?_
    refine lv_iconst (v := 0) hxe hb dL_stateOf_15 (by decide) ?_
    exact gx_iret hC hr hlk hK hP hD hS rfl rfl (by rw [osel_n]) dL_stateOf_16 (Nat.le_of_ble_eq_true rfl) (Nat.le_of_ble_eq_true rfl)

theorem hd_L_gateOf : yL_gateOf.cls ≠ "java/lang/invoke/MethodHandle" ∧ yL_gateOf.cls ≠ "java/lang/invoke/VarHandle" ∧ (parseMethodDescriptor yL_gateOf.desc).map (fun d => d.parameters.length) = some 3 := by decide +kernel
set_option maxRecDepth 20000 in
theorem cw_gateOf (l : Launch) (hl0 : l.stackTraces = false) (D : va_G) (cI : ClassId) (t o : Nat) (r : Nat → Nat) (S : SS) (o1 : Nat) (r1 : Nat → Nat) (T : SS) (cL : ClassId) (ob : Nat) (f : Nat → Int64) (k : Int32) (N : Nat) (hN : S 0 2 = nI N) (hN12 : N ≤ 12) (x : Option String) (hx : x = (xGoat S k)) : Cw l D [(cI, .int), (cL, .long)] yL_gateOf wsL_gateOf 8 124 1 6 [.ref t, .int k, .ref ob] (tw cI t o r S o1 r1 T ++ oc cL ob f) (some (.int (xc gxIO gxIO x))) (tw cI t o r S o1 r1 T ++ oc cL ob (osel x f ((S 10 k.toNatClampNeg)))) := by
  refine Cw.ofW (cc := cL_gateOf) (maxL := 4) (ret := some .int) (hh := [(0, 9, 12, 25)]) (by decide) rfl (Nat.le_of_ble_eq_true rfl) ?_
  intro p e s m below meth c A ls hC hr hlk htab hTh hNc hP hD hS hK hA hl
  have hxe := hC.1
  have hb := hC.2.1
  have hl : lv_has ls 4 [(0, .ref t), (1, .int k), (2, .ref ob)] := hl
  have hKi : va_K D vwCl [(cI, .int)] s := ⟨hK.1, fun k z hz => by
    cases k with
    | zero => exact hK.2 0 z hz
    | succ k => cases hz⟩
  refine lv_aload_n hxe hb dL_gateOf_0 rfl (lv_at hl 2 rfl) ?_
  refine lv_iconst (v := 0) hxe hb dL_gateOf_1 (by decide) ?_
  refine lv_aload_n hxe hb dL_gateOf_2 rfl (lv_at hl 0 rfl) ?_
  refine lv_iload_n hxe hb dL_gateOf_3 rfl (lv_at hl 1 rfl) ?_
  refine gw_callV hC 0 1 1 (wb := oc cL ob f) (ct_X1_gateOf l hl0 D cI t o r S o1 r1 T k N hN hN12) gL_gateOf_X1_gateOf dL_gateOf_4 hTh hKi hP hD hS hA hl.1 rfl hd_X1_gateOf ⟨Nat.le_of_ble_eq_true rfl, Nat.le_of_ble_eq_true rfl⟩ ⟨Nat.le_of_ble_eq_true rfl, Nat.le_of_ble_eq_true rfl⟩ rfl rfl rfl rfl (Nat.le_of_ble_eq_true rfl) (fun E ce q9 H locs hE hP hD hS h1 h2 h3 => ?_) (fun hn H locs hP hD hS => ?_)
  · have hxE := hx.trans hE
    clear hx
    have hc : E = gxIO := by
      exact ((xGoat_E hE))
    subst hc
    subst hxE
    refine vx_catch (own := RL) (name := gxIO) hC.2.2.2.1 [] ⟨0, 9, 12, 25⟩ [] htab (fun z hz => nomatch hz) rfl (by decide) (hC.2.2.2.2 _ (List.mem_of_getElem? (i := 1) rfl)) (va_Nw.use rfl hTh.2.2.2.2.2.2) h1 h2 h3 ?_
    refine lv_astore_n hxe hb dL_gateOf_12 rfl hl (by decide) rfl fun ls hl => ?_
    refine lv_iconst (v := 1) hxe hb dL_gateOf_13 (by decide) ?_
    exact gx_iret hC hr hlk hK hP hD hS rfl (show some (Value.int 1) = some (Value.int (xc gxIO gxIO (some gxIO))) from by rw [show xc gxIO gxIO (some gxIO) = 1 from by decide]) (by rw [osel_s]) dL_gateOf_14 (Nat.le_of_ble_eq_true rfl) (Nat.le_of_ble_eq_true rfl)
  · have hxN := hx.trans hn
    clear hx
    subst hxN
    refine gt_stk [.int ((S 10 k.toNatClampNeg)), .int 0, .ref ob] rfl ?_
    refine lv_i2l hxe hb dL_gateOf_7 rfl ?_
    refine gw_put hC 27 hK hP hD hS rfl dL_gateOf_8 rfl fun H locs hP hD hS => ?_
    refine lv_goto (tgt := 15) hxe hb dL_gateOf_9 (by decide) ?_
    refine lv_iconst (v := 0) hxe hb dL_gateOf_15 (by decide) ?_
    exact gx_iret hC hr hlk hK hP hD hS rfl rfl (by rw [osel_n]) dL_gateOf_16 (Nat.le_of_ble_eq_true rfl) (Nat.le_of_ble_eq_true rfl)

theorem hd_L_holds : yL_holds.cls ≠ "java/lang/invoke/MethodHandle" ∧ yL_holds.cls ≠ "java/lang/invoke/VarHandle" ∧ (parseMethodDescriptor yL_holds.desc).map (fun d => d.parameters.length) = some 3 := by decide +kernel
set_option maxRecDepth 20000 in
theorem cw_holds (l : Launch) (hl0 : l.stackTraces = false) (D : va_G) (cI : ClassId) (t o : Nat) (r : Nat → Nat) (S : SS) (o1 : Nat) (r1 : Nat → Nat) (T : SS) (cL : ClassId) (ob : Nat) (f : Nat → Int64) (k : Int32) (N : Nat) (hN : S 0 2 = nI N) (hN12 : N ≤ 12) (x : Option String) (hx : x = (xGoat S k)) : Cw l D [(cI, .int), (cL, .long)] yL_holds wsL_holds 8 124 1 6 [.ref t, .int k, .ref ob] (tw cI t o r S o1 r1 T ++ oc cL ob f) (some (.int (xc gxIO gxIO x))) (tw cI t o r S o1 r1 T ++ oc cL ob (osel x f ((gxHeld S k.toNatClampNeg)))) := by
  refine Cw.ofW (cc := cL_holds) (maxL := 4) (ret := some .int) (hh := [(0, 9, 12, 25)]) (by decide) rfl (Nat.le_of_ble_eq_true rfl) ?_
  intro p e s m below meth c A ls hC hr hlk htab hTh hNc hP hD hS hK hA hl
  have hxe := hC.1
  have hb := hC.2.1
  have hl : lv_has ls 4 [(0, .ref t), (1, .int k), (2, .ref ob)] := hl
  have hKi : va_K D vwCl [(cI, .int)] s := ⟨hK.1, fun k z hz => by
    cases k with
    | zero => exact hK.2 0 z hz
    | succ k => cases hz⟩
  refine lv_aload_n hxe hb dL_holds_0 rfl (lv_at hl 2 rfl) ?_
  refine lv_iconst (v := 0) hxe hb dL_holds_1 (by decide) ?_
  refine lv_aload_n hxe hb dL_holds_2 rfl (lv_at hl 0 rfl) ?_
  refine lv_iload_n hxe hb dL_holds_3 rfl (lv_at hl 1 rfl) ?_
  refine gw_callV hC 0 1 1 (wb := oc cL ob f) (ct_X1_holds l hl0 D cI t o r S o1 r1 T k N hN hN12) gL_holds_X1_holds dL_holds_4 hTh hKi hP hD hS hA hl.1 rfl hd_X1_holds ⟨Nat.le_of_ble_eq_true rfl, Nat.le_of_ble_eq_true rfl⟩ ⟨Nat.le_of_ble_eq_true rfl, Nat.le_of_ble_eq_true rfl⟩ rfl rfl rfl rfl (Nat.le_of_ble_eq_true rfl) (fun E ce q9 H locs hE hP hD hS h1 h2 h3 => ?_) (fun hn H locs hP hD hS => ?_)
  · have hxE := hx.trans hE
    clear hx
    have hc : E = gxIO := by
      exact ((xGoat_E hE))
    subst hc
    subst hxE
    refine vx_catch (own := RL) (name := gxIO) hC.2.2.2.1 [] ⟨0, 9, 12, 25⟩ [] htab (fun z hz => nomatch hz) rfl (by decide) (hC.2.2.2.2 _ (List.mem_of_getElem? (i := 1) rfl)) (va_Nw.use rfl hTh.2.2.2.2.2.2) h1 h2 h3 ?_
    refine lv_astore_n hxe hb dL_holds_12 rfl hl (by decide) rfl fun ls hl => ?_
    refine lv_iconst (v := 1) hxe hb dL_holds_13 (by decide) ?_
    exact gx_iret hC hr hlk hK hP hD hS rfl (show some (Value.int 1) = some (Value.int (xc gxIO gxIO (some gxIO))) from by rw [show xc gxIO gxIO (some gxIO) = 1 from by decide]) (by rw [osel_s]) dL_holds_14 (Nat.le_of_ble_eq_true rfl) (Nat.le_of_ble_eq_true rfl)
  · have hxN := hx.trans hn
    clear hx
    subst hxN
    refine gt_stk [.int ((gxHeld S k.toNatClampNeg)), .int 0, .ref ob] rfl ?_
    refine lv_i2l hxe hb dL_holds_7 rfl ?_
    refine gw_put hC 27 hK hP hD hS rfl dL_holds_8 rfl fun H locs hP hD hS => ?_
    refine lv_goto (tgt := 15) hxe hb dL_holds_9 (by decide) ?_
    refine lv_iconst (v := 0) hxe hb dL_holds_15 (by decide) ?_
    exact gx_iret hC hr hlk hK hP hD hS rfl rfl (by rw [osel_n]) dL_holds_16 (Nat.le_of_ble_eq_true rfl) (Nat.le_of_ble_eq_true rfl)

theorem hd_L_seemingHorns : yL_seemingHorns.cls ≠ "java/lang/invoke/MethodHandle" ∧ yL_seemingHorns.cls ≠ "java/lang/invoke/VarHandle" ∧ (parseMethodDescriptor yL_seemingHorns.desc).map (fun d => d.parameters.length) = some 3 := by decide +kernel
set_option maxRecDepth 20000 in
theorem cw_seemingHorns (l : Launch) (hl0 : l.stackTraces = false) (D : va_G) (cI : ClassId) (t o : Nat) (r : Nat → Nat) (S : SS) (o1 : Nat) (r1 : Nat → Nat) (T : SS) (cL : ClassId) (ob : Nat) (f : Nat → Int64) (k : Int32) (N : Nat) (hN : S 0 2 = nI N) (hN12 : N ≤ 12) (x : Option String) (hx : x = (xGoat S k)) : Cw l D [(cI, .int), (cL, .long)] yL_seemingHorns wsL_seemingHorns 8 124 1 6 [.ref t, .int k, .ref ob] (tw cI t o r S o1 r1 T ++ oc cL ob f) (some (.int (xc gxIO gxIO x))) (tw cI t o r S o1 r1 T ++ oc cL ob (osel x f ((gxSeem S k.toNatClampNeg)))) := by
  refine Cw.ofW (cc := cL_seemingHorns) (maxL := 4) (ret := some .int) (hh := [(0, 9, 12, 25)]) (by decide) rfl (Nat.le_of_ble_eq_true rfl) ?_
  intro p e s m below meth c A ls hC hr hlk htab hTh hNc hP hD hS hK hA hl
  have hxe := hC.1
  have hb := hC.2.1
  have hl : lv_has ls 4 [(0, .ref t), (1, .int k), (2, .ref ob)] := hl
  have hKi : va_K D vwCl [(cI, .int)] s := ⟨hK.1, fun k z hz => by
    cases k with
    | zero => exact hK.2 0 z hz
    | succ k => cases hz⟩
  refine lv_aload_n hxe hb dL_seemingHorns_0 rfl (lv_at hl 2 rfl) ?_
  refine lv_iconst (v := 0) hxe hb dL_seemingHorns_1 (by decide) ?_
  refine lv_aload_n hxe hb dL_seemingHorns_2 rfl (lv_at hl 0 rfl) ?_
  refine lv_iload_n hxe hb dL_seemingHorns_3 rfl (lv_at hl 1 rfl) ?_
  refine gw_callV hC 0 1 1 (wb := oc cL ob f) (ct_X1_seemingHorns l hl0 D cI t o r S o1 r1 T k N hN hN12) gL_seemingHorns_X1_seemingHorns dL_seemingHorns_4 hTh hKi hP hD hS hA hl.1 rfl hd_X1_seemingHorns ⟨Nat.le_of_ble_eq_true rfl, Nat.le_of_ble_eq_true rfl⟩ ⟨Nat.le_of_ble_eq_true rfl, Nat.le_of_ble_eq_true rfl⟩ rfl rfl rfl rfl (Nat.le_of_ble_eq_true rfl) (fun E ce q9 H locs hE hP hD hS h1 h2 h3 => ?_) (fun hn H locs hP hD hS => ?_)
  · have hxE := hx.trans hE
    clear hx
    have hc : E = gxIO := by
      exact ((xGoat_E hE))
    subst hc
    subst hxE
    refine vx_catch (own := RL) (name := gxIO) hC.2.2.2.1 [] ⟨0, 9, 12, 25⟩ [] htab (fun z hz => nomatch hz) rfl (by decide) (hC.2.2.2.2 _ (List.mem_of_getElem? (i := 1) rfl)) (va_Nw.use rfl hTh.2.2.2.2.2.2) h1 h2 h3 ?_
    refine lv_astore_n hxe hb dL_seemingHorns_12 rfl hl (by decide) rfl fun ls hl => ?_
    refine lv_iconst (v := 1) hxe hb dL_seemingHorns_13 (by decide) ?_
    exact gx_iret hC hr hlk hK hP hD hS rfl (show some (Value.int 1) = some (Value.int (xc gxIO gxIO (some gxIO))) from by rw [show xc gxIO gxIO (some gxIO) = 1 from by decide]) (by rw [osel_s]) dL_seemingHorns_14 (Nat.le_of_ble_eq_true rfl) (Nat.le_of_ble_eq_true rfl)
  · have hxN := hx.trans hn
    clear hx
    subst hxN
    refine gt_stk [.int ((gxSeem S k.toNatClampNeg)), .int 0, .ref ob] rfl ?_
    refine lv_i2l hxe hb dL_seemingHorns_7 rfl ?_
    refine gw_put hC 27 hK hP hD hS rfl dL_seemingHorns_8 rfl fun H locs hP hD hS => ?_
    refine lv_goto (tgt := 15) hxe hb dL_seemingHorns_9 (by decide) ?_
    refine lv_iconst (v := 0) hxe hb dL_seemingHorns_15 (by decide) ?_
    exact gx_iret hC hr hlk hK hP hD hS rfl rfl (by rw [osel_n]) dL_seemingHorns_16 (Nat.le_of_ble_eq_true rfl) (Nat.le_of_ble_eq_true rfl)

theorem hd_L_minutesLeft : yL_minutesLeft.cls ≠ "java/lang/invoke/MethodHandle" ∧ yL_minutesLeft.cls ≠ "java/lang/invoke/VarHandle" ∧ (parseMethodDescriptor yL_minutesLeft.desc).map (fun d => d.parameters.length) = some 3 := by decide +kernel
set_option maxRecDepth 20000 in
theorem cw_minutesLeft (l : Launch) (hl0 : l.stackTraces = false) (D : va_G) (cI : ClassId) (t o : Nat) (r : Nat → Nat) (S : SS) (o1 : Nat) (r1 : Nat → Nat) (T : SS) (cL : ClassId) (ob : Nat) (f : Nat → Int64) (k : Int32) (N : Nat) (hN : S 0 2 = nI N) (hN12 : N ≤ 12) (x : Option String) (hx : x = (xGoat S k)) : Cw l D [(cI, .int), (cL, .long)] yL_minutesLeft wsL_minutesLeft 8 124 1 6 [.ref t, .int k, .ref ob] (tw cI t o r S o1 r1 T ++ oc cL ob f) (some (.int (xc gxIO gxIO x))) (tw cI t o r S o1 r1 T ++ oc cL ob (osel x f ((S 13 k.toNatClampNeg)))) := by
  refine Cw.ofW (cc := cL_minutesLeft) (maxL := 4) (ret := some .int) (hh := [(0, 9, 12, 25)]) (by decide) rfl (Nat.le_of_ble_eq_true rfl) ?_
  intro p e s m below meth c A ls hC hr hlk htab hTh hNc hP hD hS hK hA hl
  have hxe := hC.1
  have hb := hC.2.1
  have hl : lv_has ls 4 [(0, .ref t), (1, .int k), (2, .ref ob)] := hl
  have hKi : va_K D vwCl [(cI, .int)] s := ⟨hK.1, fun k z hz => by
    cases k with
    | zero => exact hK.2 0 z hz
    | succ k => cases hz⟩
  refine lv_aload_n hxe hb dL_minutesLeft_0 rfl (lv_at hl 2 rfl) ?_
  refine lv_iconst (v := 0) hxe hb dL_minutesLeft_1 (by decide) ?_
  refine lv_aload_n hxe hb dL_minutesLeft_2 rfl (lv_at hl 0 rfl) ?_
  refine lv_iload_n hxe hb dL_minutesLeft_3 rfl (lv_at hl 1 rfl) ?_
  refine gw_callV hC 0 1 1 (wb := oc cL ob f) (ct_X1_minutesLeft l hl0 D cI t o r S o1 r1 T k N hN hN12) gL_minutesLeft_X1_minutesLeft dL_minutesLeft_4 hTh hKi hP hD hS hA hl.1 rfl hd_X1_minutesLeft ⟨Nat.le_of_ble_eq_true rfl, Nat.le_of_ble_eq_true rfl⟩ ⟨Nat.le_of_ble_eq_true rfl, Nat.le_of_ble_eq_true rfl⟩ rfl rfl rfl rfl (Nat.le_of_ble_eq_true rfl) (fun E ce q9 H locs hE hP hD hS h1 h2 h3 => ?_) (fun hn H locs hP hD hS => ?_)
  · have hxE := hx.trans hE
    clear hx
    have hc : E = gxIO := by
      exact ((xGoat_E hE))
    subst hc
    subst hxE
    refine vx_catch (own := RL) (name := gxIO) hC.2.2.2.1 [] ⟨0, 9, 12, 25⟩ [] htab (fun z hz => nomatch hz) rfl (by decide) (hC.2.2.2.2 _ (List.mem_of_getElem? (i := 1) rfl)) (va_Nw.use rfl hTh.2.2.2.2.2.2) h1 h2 h3 ?_
    refine lv_astore_n hxe hb dL_minutesLeft_12 rfl hl (by decide) rfl fun ls hl => ?_
    refine lv_iconst (v := 1) hxe hb dL_minutesLeft_13 (by decide) ?_
    exact gx_iret hC hr hlk hK hP hD hS rfl (show some (Value.int 1) = some (Value.int (xc gxIO gxIO (some gxIO))) from by rw [show xc gxIO gxIO (some gxIO) = 1 from by decide]) (by rw [osel_s]) dL_minutesLeft_14 (Nat.le_of_ble_eq_true rfl) (Nat.le_of_ble_eq_true rfl)
  · have hxN := hx.trans hn
    clear hx
    subst hxN
    refine gt_stk [.int ((S 13 k.toNatClampNeg)), .int 0, .ref ob] rfl ?_
    refine lv_i2l hxe hb dL_minutesLeft_7 rfl ?_
    refine gw_put hC 27 hK hP hD hS rfl dL_minutesLeft_8 rfl fun H locs hP hD hS => ?_
    refine lv_goto (tgt := 15) hxe hb dL_minutesLeft_9 (by decide) ?_
    refine lv_iconst (v := 0) hxe hb dL_minutesLeft_15 (by decide) ?_
    exact gx_iret hC hr hlk hK hP hD hS rfl rfl (by rw [osel_n]) dL_minutesLeft_16 (Nat.le_of_ble_eq_true rfl) (Nat.le_of_ble_eq_true rfl)

theorem hd_L_waitedOf : yL_waitedOf.cls ≠ "java/lang/invoke/MethodHandle" ∧ yL_waitedOf.cls ≠ "java/lang/invoke/VarHandle" ∧ (parseMethodDescriptor yL_waitedOf.desc).map (fun d => d.parameters.length) = some 3 := by decide +kernel
set_option maxRecDepth 20000 in
theorem cw_waitedOf (l : Launch) (hl0 : l.stackTraces = false) (D : va_G) (cI : ClassId) (t o : Nat) (r : Nat → Nat) (S : SS) (o1 : Nat) (r1 : Nat → Nat) (T : SS) (cL : ClassId) (ob : Nat) (f : Nat → Int64) (k : Int32) (N : Nat) (hN : S 0 2 = nI N) (hN12 : N ≤ 12) (x : Option String) (hx : x = (xGoat S k)) : Cw l D [(cI, .int), (cL, .long)] yL_waitedOf wsL_waitedOf 8 124 1 6 [.ref t, .int k, .ref ob] (tw cI t o r S o1 r1 T ++ oc cL ob f) (some (.int (xc gxIO gxIO x))) (tw cI t o r S o1 r1 T ++ oc cL ob (osel x f ((S 16 k.toNatClampNeg)))) := by
  refine Cw.ofW (cc := cL_waitedOf) (maxL := 4) (ret := some .int) (hh := [(0, 9, 12, 25)]) (by decide) rfl (Nat.le_of_ble_eq_true rfl) ?_
  intro p e s m below meth c A ls hC hr hlk htab hTh hNc hP hD hS hK hA hl
  have hxe := hC.1
  have hb := hC.2.1
  have hl : lv_has ls 4 [(0, .ref t), (1, .int k), (2, .ref ob)] := hl
  have hKi : va_K D vwCl [(cI, .int)] s := ⟨hK.1, fun k z hz => by
    cases k with
    | zero => exact hK.2 0 z hz
    | succ k => cases hz⟩
  refine lv_aload_n hxe hb dL_waitedOf_0 rfl (lv_at hl 2 rfl) ?_
  refine lv_iconst (v := 0) hxe hb dL_waitedOf_1 (by decide) ?_
  refine lv_aload_n hxe hb dL_waitedOf_2 rfl (lv_at hl 0 rfl) ?_
  refine lv_iload_n hxe hb dL_waitedOf_3 rfl (lv_at hl 1 rfl) ?_
  refine gw_callV hC 0 1 1 (wb := oc cL ob f) (ct_X1_waitedOf l hl0 D cI t o r S o1 r1 T k N hN hN12) gL_waitedOf_X1_waitedOf dL_waitedOf_4 hTh hKi hP hD hS hA hl.1 rfl hd_X1_waitedOf ⟨Nat.le_of_ble_eq_true rfl, Nat.le_of_ble_eq_true rfl⟩ ⟨Nat.le_of_ble_eq_true rfl, Nat.le_of_ble_eq_true rfl⟩ rfl rfl rfl rfl (Nat.le_of_ble_eq_true rfl) (fun E ce q9 H locs hE hP hD hS h1 h2 h3 => ?_) (fun hn H locs hP hD hS => ?_)
  · have hxE := hx.trans hE
    clear hx
    have hc : E = gxIO := by
      exact ((xGoat_E hE))
    subst hc
    subst hxE
    refine vx_catch (own := RL) (name := gxIO) hC.2.2.2.1 [] ⟨0, 9, 12, 25⟩ [] htab (fun z hz => nomatch hz) rfl (by decide) (hC.2.2.2.2 _ (List.mem_of_getElem? (i := 1) rfl)) (va_Nw.use rfl hTh.2.2.2.2.2.2) h1 h2 h3 ?_
    refine lv_astore_n hxe hb dL_waitedOf_12 rfl hl (by decide) rfl fun ls hl => ?_
    refine lv_iconst (v := 1) hxe hb dL_waitedOf_13 (by decide) ?_
    exact gx_iret hC hr hlk hK hP hD hS rfl (show some (Value.int 1) = some (Value.int (xc gxIO gxIO (some gxIO))) from by rw [show xc gxIO gxIO (some gxIO) = 1 from by decide]) (by rw [osel_s]) dL_waitedOf_14 (Nat.le_of_ble_eq_true rfl) (Nat.le_of_ble_eq_true rfl)
  · have hxN := hx.trans hn
    clear hx
    subst hxN
    refine gt_stk [.int ((S 16 k.toNatClampNeg)), .int 0, .ref ob] rfl ?_
    refine lv_i2l hxe hb dL_waitedOf_7 rfl ?_
    refine gw_put hC 27 hK hP hD hS rfl dL_waitedOf_8 rfl fun H locs hP hD hS => ?_
    refine lv_goto (tgt := 15) hxe hb dL_waitedOf_9 (by decide) ?_
    refine lv_iconst (v := 0) hxe hb dL_waitedOf_15 (by decide) ?_
    exact gx_iret hC hr hlk hK hP hD hS rfl rfl (by rw [osel_n]) dL_waitedOf_16 (Nat.le_of_ble_eq_true rfl) (Nat.le_of_ble_eq_true rfl)

theorem hd_L_placeInLine : yL_placeInLine.cls ≠ "java/lang/invoke/MethodHandle" ∧ yL_placeInLine.cls ≠ "java/lang/invoke/VarHandle" ∧ (parseMethodDescriptor yL_placeInLine.desc).map (fun d => d.parameters.length) = some 3 := by decide +kernel
set_option maxRecDepth 20000 in
theorem cw_placeInLine (l : Launch) (hl0 : l.stackTraces = false) (D : va_G) (cI : ClassId) (t o : Nat) (r : Nat → Nat) (S : SS) (o1 : Nat) (r1 : Nat → Nat) (T : SS) (cL : ClassId) (ob : Nat) (f : Nat → Int64) (k : Int32) (N : Nat) (hN : S 0 2 = nI N) (hN12 : N ≤ 12) (x : Option String) (hx : x = (xGoat S k)) : Cw l D [(cI, .int), (cL, .long)] yL_placeInLine wsL_placeInLine 8 124 1 6 [.ref t, .int k, .ref ob] (tw cI t o r S o1 r1 T ++ oc cL ob f) (some (.int (xc gxIO gxIO x))) (tw cI t o r S o1 r1 T ++ oc cL ob (osel x f ((gxPl S N k.toNatClampNeg)))) := by
  refine Cw.ofW (cc := cL_placeInLine) (maxL := 4) (ret := some .int) (hh := [(0, 9, 12, 25)]) (by decide) rfl (Nat.le_of_ble_eq_true rfl) ?_
  intro p e s m below meth c A ls hC hr hlk htab hTh hNc hP hD hS hK hA hl
  have hxe := hC.1
  have hb := hC.2.1
  have hl : lv_has ls 4 [(0, .ref t), (1, .int k), (2, .ref ob)] := hl
  have hKi : va_K D vwCl [(cI, .int)] s := ⟨hK.1, fun k z hz => by
    cases k with
    | zero => exact hK.2 0 z hz
    | succ k => cases hz⟩
  refine lv_aload_n hxe hb dL_placeInLine_0 rfl (lv_at hl 2 rfl) ?_
  refine lv_iconst (v := 0) hxe hb dL_placeInLine_1 (by decide) ?_
  refine lv_aload_n hxe hb dL_placeInLine_2 rfl (lv_at hl 0 rfl) ?_
  refine lv_iload_n hxe hb dL_placeInLine_3 rfl (lv_at hl 1 rfl) ?_
  refine gw_callV hC 0 1 1 (wb := oc cL ob f) (ct_X1_placeInLine l hl0 D cI t o r S o1 r1 T k N hN hN12) gL_placeInLine_X1_placeInLine dL_placeInLine_4 hTh hKi hP hD hS hA hl.1 rfl hd_X1_placeInLine ⟨Nat.le_of_ble_eq_true rfl, Nat.le_of_ble_eq_true rfl⟩ ⟨Nat.le_of_ble_eq_true rfl, Nat.le_of_ble_eq_true rfl⟩ rfl rfl rfl rfl (Nat.le_of_ble_eq_true rfl) (fun E ce q9 H locs hE hP hD hS h1 h2 h3 => ?_) (fun hn H locs hP hD hS => ?_)
  · have hxE := hx.trans hE
    clear hx
    have hc : E = gxIO := by
      exact ((xGoat_E hE))
    subst hc
    subst hxE
    refine vx_catch (own := RL) (name := gxIO) hC.2.2.2.1 [] ⟨0, 9, 12, 25⟩ [] htab (fun z hz => nomatch hz) rfl (by decide) (hC.2.2.2.2 _ (List.mem_of_getElem? (i := 1) rfl)) (va_Nw.use rfl hTh.2.2.2.2.2.2) h1 h2 h3 ?_
    refine lv_astore_n hxe hb dL_placeInLine_12 rfl hl (by decide) rfl fun ls hl => ?_
    refine lv_iconst (v := 1) hxe hb dL_placeInLine_13 (by decide) ?_
    exact gx_iret hC hr hlk hK hP hD hS rfl (show some (Value.int 1) = some (Value.int (xc gxIO gxIO (some gxIO))) from by rw [show xc gxIO gxIO (some gxIO) = 1 from by decide]) (by rw [osel_s]) dL_placeInLine_14 (Nat.le_of_ble_eq_true rfl) (Nat.le_of_ble_eq_true rfl)
  · have hxN := hx.trans hn
    clear hx
    subst hxN
    refine gt_stk [.int ((gxPl S N k.toNatClampNeg)), .int 0, .ref ob] rfl ?_
    refine lv_i2l hxe hb dL_placeInLine_7 rfl ?_
    refine gw_put hC 27 hK hP hD hS rfl dL_placeInLine_8 rfl fun H locs hP hD hS => ?_
    refine lv_goto (tgt := 15) hxe hb dL_placeInLine_9 (by decide) ?_
    refine lv_iconst (v := 0) hxe hb dL_placeInLine_15 (by decide) ?_
    exact gx_iret hC hr hlk hK hP hD hS rfl rfl (by rw [osel_n]) dL_placeInLine_16 (Nat.le_of_ble_eq_true rfl) (Nat.le_of_ble_eq_true rfl)

theorem hd_L_minutesUntilIn : yL_minutesUntilIn.cls ≠ "java/lang/invoke/MethodHandle" ∧ yL_minutesUntilIn.cls ≠ "java/lang/invoke/VarHandle" ∧ (parseMethodDescriptor yL_minutesUntilIn.desc).map (fun d => d.parameters.length) = some 3 := by decide +kernel
set_option maxRecDepth 20000 in
theorem cw_minutesUntilIn (l : Launch) (hl0 : l.stackTraces = false) (D : va_G) (cI : ClassId) (t o : Nat) (r : Nat → Nat) (S : SS) (o1 : Nat) (r1 : Nat → Nat) (T : SS) (cL : ClassId) (ob : Nat) (f : Nat → Int64) (k : Int32) (N : Nat) (hN : S 0 2 = nI N) (hN12 : N ≤ 12) (G : Nat) (hG : S 0 1 = nI G) (hG4 : G ≤ 4) (x : Option String) (hx : x = (xGoat S k)) : Cw l D [(cI, .int), (cL, .long)] yL_minutesUntilIn wsL_minutesUntilIn 8 125 1 6 [.ref t, .int k, .ref ob] (tw cI t o r S o1 r1 T ++ oc cL ob f) (some (.int (xc gxIO gxIO x))) (tw cI t o r S o1 r1 (xsel x (gxIt S G N (gxUnN S G N k.toNatClampNeg)) T) ++ oc cL ob (osel x f ((gxUn S G N k.toNatClampNeg)))) := by
  refine Cw.ofW (cc := cL_minutesUntilIn) (maxL := 4) (ret := some .int) (hh := [(0, 9, 12, 25)]) (by decide) rfl (Nat.le_of_ble_eq_true rfl) ?_
  intro p e s m below meth c A ls hC hr hlk htab hTh hNc hP hD hS hK hA hl
  have hxe := hC.1
  have hb := hC.2.1
  have hl : lv_has ls 4 [(0, .ref t), (1, .int k), (2, .ref ob)] := hl
  have hKi : va_K D vwCl [(cI, .int)] s := ⟨hK.1, fun k z hz => by
    cases k with
    | zero => exact hK.2 0 z hz
    | succ k => cases hz⟩
  refine lv_aload_n hxe hb dL_minutesUntilIn_0 rfl (lv_at hl 2 rfl) ?_
  refine lv_iconst (v := 0) hxe hb dL_minutesUntilIn_1 (by decide) ?_
  refine lv_aload_n hxe hb dL_minutesUntilIn_2 rfl (lv_at hl 0 rfl) ?_
  refine lv_iload_n hxe hb dL_minutesUntilIn_3 rfl (lv_at hl 1 rfl) ?_
  refine gw_callV hC 0 1 1 (wb := oc cL ob f) (ct_X1_minutesUntilIn l hl0 D cI t o r S o1 r1 T k N hN hN12 G hG hG4) gL_minutesUntilIn_X1_minutesUntilIn dL_minutesUntilIn_4 hTh hKi hP hD hS hA hl.1 rfl hd_X1_minutesUntilIn ⟨Nat.le_of_ble_eq_true rfl, Nat.le_of_ble_eq_true rfl⟩ ⟨Nat.le_of_ble_eq_true rfl, Nat.le_of_ble_eq_true rfl⟩ rfl rfl rfl rfl (Nat.le_of_ble_eq_true rfl) (fun E ce q9 H locs hE hP hD hS h1 h2 h3 => ?_) (fun hn H locs hP hD hS => ?_)
  · have hxE := hx.trans hE
    clear hx
    have hc : E = gxIO := by
      exact ((xGoat_E hE))
    subst hc
    subst hxE
    refine vx_catch (own := RL) (name := gxIO) hC.2.2.2.1 [] ⟨0, 9, 12, 25⟩ [] htab (fun z hz => nomatch hz) rfl (by decide) (hC.2.2.2.2 _ (List.mem_of_getElem? (i := 1) rfl)) (va_Nw.use rfl hTh.2.2.2.2.2.2) h1 h2 h3 ?_
    refine lv_astore_n hxe hb dL_minutesUntilIn_12 rfl hl (by decide) rfl fun ls hl => ?_
    refine lv_iconst (v := 1) hxe hb dL_minutesUntilIn_13 (by decide) ?_
    exact gx_iret hC hr hlk hK hP hD hS rfl (show some (Value.int 1) = some (Value.int (xc gxIO gxIO (some gxIO))) from by rw [show xc gxIO gxIO (some gxIO) = 1 from by decide]) (by rw [xsel_s, osel_s]) dL_minutesUntilIn_14 (Nat.le_of_ble_eq_true rfl) (Nat.le_of_ble_eq_true rfl)
  · have hxN := hx.trans hn
    clear hx
    subst hxN
    refine gt_stk [.int ((gxUn S G N k.toNatClampNeg)), .int 0, .ref ob] rfl ?_
    refine lv_i2l hxe hb dL_minutesUntilIn_7 rfl ?_
    refine gw_put hC 27 hK hP hD hS rfl dL_minutesUntilIn_8 rfl fun H locs hP hD hS => ?_
    refine lv_goto (tgt := 15) hxe hb dL_minutesUntilIn_9 (by decide) ?_
    refine lv_iconst (v := 0) hxe hb dL_minutesUntilIn_15 (by decide) ?_
    exact gx_iret hC hr hlk hK hP hD hS rfl rfl (by rw [xsel_n, osel_n]) dL_minutesUntilIn_16 (Nat.le_of_ble_eq_true rfl) (Nat.le_of_ble_eq_true rfl)

theorem hd_L_givingUpIn : yL_givingUpIn.cls ≠ "java/lang/invoke/MethodHandle" ∧ yL_givingUpIn.cls ≠ "java/lang/invoke/VarHandle" ∧ (parseMethodDescriptor yL_givingUpIn.desc).map (fun d => d.parameters.length) = some 3 := by decide +kernel
set_option maxRecDepth 20000 in
theorem cw_givingUpIn (l : Launch) (hl0 : l.stackTraces = false) (D : va_G) (cI : ClassId) (t o : Nat) (r : Nat → Nat) (S : SS) (o1 : Nat) (r1 : Nat → Nat) (T : SS) (cL : ClassId) (ob : Nat) (f : Nat → Int64) (mm : Int32) (N : Nat) (hN : S 0 2 = nI N) (hN12 : N ≤ 12) (G : Nat) (hG : S 0 1 = nI G) (hG4 : G ≤ 4) (x : Option String) (hx : x = (xNum mm 60)) : Cw l D [(cI, .int), (cL, .long)] yL_givingUpIn wsL_givingUpIn 8 125 1 6 [.ref t, .int mm, .ref ob] (tw cI t o r S o1 r1 T ++ oc cL ob f) (some (.int (xc gxIA gxIA x))) (tw cI t o r S o1 r1 (xsel x (gxIt S G N mm.toNatClampNeg) T) ++ oc cL ob (osel x f ((gxGiv (gxIt S G N mm.toNatClampNeg) G - gxGiv S G)))) := by
  refine Cw.ofW (cc := cL_givingUpIn) (maxL := 4) (ret := some .int) (hh := [(0, 9, 12, 13)]) (by decide) rfl (Nat.le_of_ble_eq_true rfl) ?_
  intro p e s m below meth c A ls hC hr hlk htab hTh hNc hP hD hS hK hA hl
  have hxe := hC.1
  have hb := hC.2.1
  have hl : lv_has ls 4 [(0, .ref t), (1, .int mm), (2, .ref ob)] := hl
  have hKi : va_K D vwCl [(cI, .int)] s := ⟨hK.1, fun k z hz => by
    cases k with
    | zero => exact hK.2 0 z hz
    | succ k => cases hz⟩
  refine lv_aload_n hxe hb dL_givingUpIn_0 rfl (lv_at hl 2 rfl) ?_
  refine lv_iconst (v := 0) hxe hb dL_givingUpIn_1 (by decide) ?_
  refine lv_aload_n hxe hb dL_givingUpIn_2 rfl (lv_at hl 0 rfl) ?_
  refine lv_iload_n hxe hb dL_givingUpIn_3 rfl (lv_at hl 1 rfl) ?_
  refine gw_callV hC 0 1 1 (wb := oc cL ob f) (ct_X1_givingUpIn l hl0 D cI t o r S o1 r1 T mm N hN hN12 G hG hG4) gL_givingUpIn_X1_givingUpIn dL_givingUpIn_4 hTh hKi hP hD hS hA hl.1 rfl hd_X1_givingUpIn ⟨Nat.le_of_ble_eq_true rfl, Nat.le_of_ble_eq_true rfl⟩ ⟨Nat.le_of_ble_eq_true rfl, Nat.le_of_ble_eq_true rfl⟩ rfl rfl rfl rfl (Nat.le_of_ble_eq_true rfl) (fun E ce q9 H locs hE hP hD hS h1 h2 h3 => ?_) (fun hn H locs hP hD hS => ?_)
  · have hxE := hx.trans hE
    clear hx
    have hc : E = gxIA := by
      exact ((xNum_E hE))
    subst hc
    subst hxE
    refine vx_catch (own := RL) (name := gxIA) hC.2.2.2.1 [] ⟨0, 9, 12, 13⟩ [] htab (fun z hz => nomatch hz) rfl (by decide) (hC.2.2.2.2 _ (List.mem_of_getElem? (i := 1) rfl)) (va_Nw.use rfl hTh.2.2.2.2.1) h1 h2 h3 ?_
    refine lv_astore_n hxe hb dL_givingUpIn_12 rfl hl (by decide) rfl fun ls hl => ?_
    refine lv_iconst (v := 1) hxe hb dL_givingUpIn_13 (by decide) ?_
    exact gx_iret hC hr hlk hK hP hD hS rfl (show some (Value.int 1) = some (Value.int (xc gxIA gxIA (some gxIA))) from by rw [show xc gxIA gxIA (some gxIA) = 1 from by decide]) (by rw [xsel_s, osel_s]) dL_givingUpIn_14 (Nat.le_of_ble_eq_true rfl) (Nat.le_of_ble_eq_true rfl)
  · have hxN := hx.trans hn
    clear hx
    subst hxN
    refine gt_stk [.int ((gxGiv (gxIt S G N mm.toNatClampNeg) G - gxGiv S G)), .int 0, .ref ob] rfl ?_
    refine lv_i2l hxe hb dL_givingUpIn_7 rfl ?_
    refine gw_put hC 27 hK hP hD hS rfl dL_givingUpIn_8 rfl fun H locs hP hD hS => ?_
    refine lv_goto (tgt := 15) hxe hb dL_givingUpIn_9 (by decide) ?_
    refine lv_iconst (v := 0) hxe hb dL_givingUpIn_15 (by decide) ?_
    exact gx_iret hC hr hlk hK hP hD hS rfl rfl (by rw [xsel_n, osel_n]) dL_givingUpIn_16 (Nat.le_of_ble_eq_true rfl) (Nat.le_of_ble_eq_true rfl)

theorem hd_L_permitsWanted : yL_permitsWanted.cls ≠ "java/lang/invoke/MethodHandle" ∧ yL_permitsWanted.cls ≠ "java/lang/invoke/VarHandle" ∧ (parseMethodDescriptor yL_permitsWanted.desc).map (fun d => d.parameters.length) = some 3 := by decide +kernel
set_option maxRecDepth 20000 in
theorem cw_permitsWanted (l : Launch) (hl0 : l.stackTraces = false) (D : va_G) (cI : ClassId) (t o : Nat) (r : Nat → Nat) (S : SS) (o1 : Nat) (r1 : Nat → Nat) (T : SS) (cL : ClassId) (ob : Nat) (f : Nat → Int64) (g : Int32) (N : Nat) (hN : S 0 2 = nI N) (hN12 : N ≤ 12) (G : Nat) (hG : S 0 1 = nI G) (hG4 : G ≤ 4) (x : Option String) (hx : x = (xGate S g)) : Cw l D [(cI, .int), (cL, .long)] yL_permitsWanted wsL_permitsWanted 8 142 1 6 [.ref t, .int g, .ref ob] (tw cI t o r S o1 r1 T ++ oc cL ob f) (some (.int (xc gxIO gxIO x))) (tw cI t o r S o1 r1 (xsel x (gxPwF S T G N g.toNatClampNeg) T) ++ oc cL ob (osel x f ((gxPw S G N g.toNatClampNeg)))) := by
  refine Cw.ofW (cc := cL_permitsWanted) (maxL := 4) (ret := some .int) (hh := [(0, 9, 12, 25)]) (by decide) rfl (Nat.le_of_ble_eq_true rfl) ?_
  intro p e s m below meth c A ls hC hr hlk htab hTh hNc hP hD hS hK hA hl
  have hxe := hC.1
  have hb := hC.2.1
  have hl : lv_has ls 4 [(0, .ref t), (1, .int g), (2, .ref ob)] := hl
  have hKi : va_K D vwCl [(cI, .int)] s := ⟨hK.1, fun k z hz => by
    cases k with
    | zero => exact hK.2 0 z hz
    | succ k => cases hz⟩
  refine lv_aload_n hxe hb dL_permitsWanted_0 rfl (lv_at hl 2 rfl) ?_
  refine lv_iconst (v := 0) hxe hb dL_permitsWanted_1 (by decide) ?_
  refine lv_aload_n hxe hb dL_permitsWanted_2 rfl (lv_at hl 0 rfl) ?_
  refine lv_iload_n hxe hb dL_permitsWanted_3 rfl (lv_at hl 1 rfl) ?_
  refine gw_callV hC 0 1 1 (wb := oc cL ob f) (ct_X1_permitsWanted l hl0 D cI t o r S o1 r1 T g N hN hN12 G hG hG4) gL_permitsWanted_X1_permitsWanted dL_permitsWanted_4 hTh hKi hP hD hS hA hl.1 rfl hd_X1_permitsWanted ⟨Nat.le_of_ble_eq_true rfl, Nat.le_of_ble_eq_true rfl⟩ ⟨Nat.le_of_ble_eq_true rfl, Nat.le_of_ble_eq_true rfl⟩ rfl rfl rfl rfl (Nat.le_of_ble_eq_true rfl) (fun E ce q9 H locs hE hP hD hS h1 h2 h3 => ?_) (fun hn H locs hP hD hS => ?_)
  · have hxE := hx.trans hE
    clear hx
    have hc : E = gxIO := by
      exact ((xGate_E hE))
    subst hc
    subst hxE
    refine vx_catch (own := RL) (name := gxIO) hC.2.2.2.1 [] ⟨0, 9, 12, 25⟩ [] htab (fun z hz => nomatch hz) rfl (by decide) (hC.2.2.2.2 _ (List.mem_of_getElem? (i := 1) rfl)) (va_Nw.use rfl hTh.2.2.2.2.2.2) h1 h2 h3 ?_
    refine lv_astore_n hxe hb dL_permitsWanted_12 rfl hl (by decide) rfl fun ls hl => ?_
    refine lv_iconst (v := 1) hxe hb dL_permitsWanted_13 (by decide) ?_
    exact gx_iret hC hr hlk hK hP hD hS rfl (show some (Value.int 1) = some (Value.int (xc gxIO gxIO (some gxIO))) from by rw [show xc gxIO gxIO (some gxIO) = 1 from by decide]) (by rw [xsel_s, osel_s]) dL_permitsWanted_14 (Nat.le_of_ble_eq_true rfl) (Nat.le_of_ble_eq_true rfl)
  · have hxN := hx.trans hn
    clear hx
    subst hxN
    refine gt_stk [.int ((gxPw S G N g.toNatClampNeg)), .int 0, .ref ob] rfl ?_
    refine lv_i2l hxe hb dL_permitsWanted_7 rfl ?_
    refine gw_put hC 27 hK hP hD hS rfl dL_permitsWanted_8 rfl fun H locs hP hD hS => ?_
    refine lv_goto (tgt := 15) hxe hb dL_permitsWanted_9 (by decide) ?_
    refine lv_iconst (v := 0) hxe hb dL_permitsWanted_15 (by decide) ?_
    exact gx_iret hC hr hlk hK hP hD hS rfl rfl (by rw [xsel_n, osel_n]) dL_permitsWanted_16 (Nat.le_of_ble_eq_true rfl) (Nat.le_of_ble_eq_true rfl)

theorem hd_L_bestOrder : yL_bestOrder.cls ≠ "java/lang/invoke/MethodHandle" ∧ yL_bestOrder.cls ≠ "java/lang/invoke/VarHandle" ∧ (parseMethodDescriptor yL_bestOrder.desc).map (fun d => d.parameters.length) = some 3 := by decide +kernel
set_option maxRecDepth 20000 in
theorem cw_bestOrder (l : Launch) (hl0 : l.stackTraces = false) (D : va_G) (cI : ClassId) (t o : Nat) (r : Nat → Nat) (S : SS) (o1 : Nat) (r1 : Nat → Nat) (T : SS) (cL : ClassId) (ob : Nat) (f : Nat → Int64) (g : Int32) (N : Nat) (hN : S 0 2 = nI N) (hN12 : N ≤ 12) (G : Nat) (hG : S 0 1 = nI G) (hG4 : G ≤ 4) (x : Option String) (hx : x = (xGate S g)) : Cw l D [(cI, .int), (cL, .long)] yL_bestOrder wsL_bestOrder 8 143 1 6 [.ref t, .int g, .ref ob] (tw cI t o r S o1 r1 T ++ oc cL ob f) (some (.int (xc gxIO gxIO x))) (tw cI t o r S o1 r1 (xsel x (gxGuT S G N g.toNatClampNeg (S 5 g.toNatClampNeg) 1) T) ++ oc cL ob (osel x f ((gxBo S G N g.toNatClampNeg)))) := by
  refine Cw.ofW (cc := cL_bestOrder) (maxL := 4) (ret := some .int) (hh := [(0, 9, 12, 25)]) (by decide) rfl (Nat.le_of_ble_eq_true rfl) ?_
  intro p e s m below meth c A ls hC hr hlk htab hTh hNc hP hD hS hK hA hl
  have hxe := hC.1
  have hb := hC.2.1
  have hl : lv_has ls 4 [(0, .ref t), (1, .int g), (2, .ref ob)] := hl
  have hKi : va_K D vwCl [(cI, .int)] s := ⟨hK.1, fun k z hz => by
    cases k with
    | zero => exact hK.2 0 z hz
    | succ k => cases hz⟩
  refine lv_aload_n hxe hb dL_bestOrder_0 rfl (lv_at hl 2 rfl) ?_
  refine lv_iconst (v := 0) hxe hb dL_bestOrder_1 (by decide) ?_
  refine lv_aload_n hxe hb dL_bestOrder_2 rfl (lv_at hl 0 rfl) ?_
  refine lv_iload_n hxe hb dL_bestOrder_3 rfl (lv_at hl 1 rfl) ?_
  refine gw_callV hC 0 1 1 (wb := oc cL ob f) (ct_X1_bestOrder l hl0 D cI t o r S o1 r1 T g N hN hN12 G hG hG4) gL_bestOrder_X1_bestOrder dL_bestOrder_4 hTh hKi hP hD hS hA hl.1 rfl hd_X1_bestOrder ⟨Nat.le_of_ble_eq_true rfl, Nat.le_of_ble_eq_true rfl⟩ ⟨Nat.le_of_ble_eq_true rfl, Nat.le_of_ble_eq_true rfl⟩ rfl rfl rfl rfl (Nat.le_of_ble_eq_true rfl) (fun E ce q9 H locs hE hP hD hS h1 h2 h3 => ?_) (fun hn H locs hP hD hS => ?_)
  · have hxE := hx.trans hE
    clear hx
    have hc : E = gxIO := by
      exact ((xGate_E hE))
    subst hc
    subst hxE
    refine vx_catch (own := RL) (name := gxIO) hC.2.2.2.1 [] ⟨0, 9, 12, 25⟩ [] htab (fun z hz => nomatch hz) rfl (by decide) (hC.2.2.2.2 _ (List.mem_of_getElem? (i := 1) rfl)) (va_Nw.use rfl hTh.2.2.2.2.2.2) h1 h2 h3 ?_
    refine lv_astore_n hxe hb dL_bestOrder_12 rfl hl (by decide) rfl fun ls hl => ?_
    refine lv_iconst (v := 1) hxe hb dL_bestOrder_13 (by decide) ?_
    exact gx_iret hC hr hlk hK hP hD hS rfl (show some (Value.int 1) = some (Value.int (xc gxIO gxIO (some gxIO))) from by rw [show xc gxIO gxIO (some gxIO) = 1 from by decide]) (by rw [xsel_s, osel_s]) dL_bestOrder_14 (Nat.le_of_ble_eq_true rfl) (Nat.le_of_ble_eq_true rfl)
  · have hxN := hx.trans hn
    clear hx
    subst hxN
    refine gt_stk [.int ((gxBo S G N g.toNatClampNeg)), .int 0, .ref ob] rfl ?_
    refine lv_i2l hxe hb dL_bestOrder_7 rfl ?_
    refine gw_put hC 27 hK hP hD hS rfl dL_bestOrder_8 rfl fun H locs hP hD hS => ?_
    refine lv_goto (tgt := 15) hxe hb dL_bestOrder_9 (by decide) ?_
    refine lv_iconst (v := 0) hxe hb dL_bestOrder_15 (by decide) ?_
    exact gx_iret hC hr hlk hK hP hD hS rfl rfl (by rw [xsel_n, osel_n]) dL_bestOrder_16 (Nat.le_of_ble_eq_true rfl) (Nat.le_of_ble_eq_true rfl)

