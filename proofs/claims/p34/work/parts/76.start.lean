set_option maxRecDepth 20000 in
theorem start_hs {s : State} {b : Nat} (hts : ∀ w ∈ lw_tbl, w.before #[Value.ref b] s = true) (hgv : (Jvm.Cond.and given_1 narrow_1).before #[Value.ref b] s = true) : gTh (fun q : Nat => s.heap.size ≤ q) s s.heap := by
  have hfl := flat_of_before _ hgv
  have hA : ∀ a : Nat, a < s.heap.size → ¬ s.heap.size ≤ a := fun a h => Nat.not_le.mpr h
  have st : ∀ (k : Nat) (tx : String), Cond.stringRef RX1 k tx ∈ lw_tbl → (Cond.exactly (.string RX1 k) "java/lang/String").before #[Value.ref b] s = true → ∃ a, vk_R RX1 k tx a s := by
    intro k tx h1 h2
    obtain ⟨a, c, cell, kk, q1, -⟩ := Cond.exactly_spec h2
    exact ⟨a, vk_R.of (hts _ h1) q1⟩
  refine ⟨?_, ?_, ⟨?_, ?_, ?_, ?_, ?_, ?_, ?_, ?_, ?_⟩, ⟨?_, ?_, ?_⟩, ?_, ?_, ?_⟩
  · exact vx_Zqof (hts _ (by decide +kernel)) (hts _ (by decide +kernel)) (hfl _ (by decide +kernel)) hA
  · exact vx_Zqof (hts _ (by decide +kernel)) (hts _ (by decide +kernel)) (hfl _ (by decide +kernel)) hA
  · exact st _ _ (by decide +kernel) (hfl _ (by decide +kernel))
  · exact st _ _ (by decide +kernel) (hfl _ (by decide +kernel))
  · exact st _ _ (by decide +kernel) (hfl _ (by decide +kernel))
  · exact st _ _ (by decide +kernel) (hfl _ (by decide +kernel))
  · exact st _ _ (by decide +kernel) (hfl _ (by decide +kernel))
  · exact st _ _ (by decide +kernel) (hfl _ (by decide +kernel))
  · exact st _ _ (by decide +kernel) (hfl _ (by decide +kernel))
  · exact st _ _ (by decide +kernel) (hfl _ (by decide +kernel))
  · exact st _ _ (by decide +kernel) (hfl _ (by decide +kernel))
  · exact va_Nw.of rfl (hts _ (by decide +kernel))
  · exact va_Nw.of rfl (hts _ (by decide +kernel))
  · exact va_Nw.of rfl (hts _ (by decide +kernel))
  · exact va_Nw.of rfl (hts _ (by decide +kernel))
  · exact va_Nw.of rfl (hts _ (by decide +kernel))
  · exact va_Nw.of rfl (hts _ (by decide +kernel))
theorem start_D {s : State} {b : Nat} (hts : ∀ w ∈ lw_tbl, w.before #[Value.ref b] s = true) : ∃ (D : va_G) (cI cR : ClassId), va_K D vwCl (tyS cI cR) s := by
  obtain ⟨c0, iS0, hKn0⟩ := u_known (C := RX0) (T := TX0) (N := 17) (n := 17) hts inX0 (hts (.instantiable RX0 17) (by decide +kernel))
  obtain ⟨c1, iS1, hKn1⟩ := u_known (C := RX1) (T := TX1) (N := 2) (n := 2) hts inX1 (hts (.instantiable RX1 2) (by decide +kernel))
  obtain ⟨c2, iS2, hKn2⟩ := u_known (C := RX2) (T := TX2) (N := 6) (n := 6) hts inX2 (hts (.instantiable RX2 6) (by decide +kernel))
  obtain ⟨cI, kA, comp, h1, h2, h3⟩ := Cond.arrayClass_spec (hts (.arrayClass .int) (by decide +kernel))
  obtain ⟨comp2, cR, kR, g1, g2, g3, g4, g5⟩ := arrayOverA_spec (hts (.arrayOver (.array .int)) (by decide +kernel))
  refine ⟨(fun k => if k = 0 then c0 else if k = 1 then c1 else c2, fun k => if k = 0 then iS0 else if k = 1 then iS1 else iS2), cI, cR, ?_, ?_⟩
  · intro k q hq
    match k, hq with
    | 0, hq => cases hq; exact hKn0
    | 1, hq => cases hq; exact hKn1
    | 2, hq => cases hq; exact hKn2
    | k + 3, hq => simp [vwCl] at hq
  · intro k q hq
    match k, hq with
    | 0, hq =>
      cases hq
      exact ⟨fun n z => ⟨fun k h => (by cases h), kA, h2, comp, h3⟩, h1⟩
    | 1, hq =>
      cases hq
      exact ⟨fun n z => ⟨fun k h => (by cases h), kR, g3, comp2, g4⟩, g5⟩
    | k + 2, hq => simp at hq
/-! The law from its entry. -/
theorem hl0_of {l : Launch} (hflags : l.flags = flags0) : l.stackTraces = false := by
  unfold Launch.stackTraces
  rw [hflags]
  decide +kernel
theorem start_AO {s : State} {b : Nat} (h : (Cond.arrayOver (.array .int)).before #[Value.ref b] s = true) : (Cond.arrayOver (.array .int)).before #[] s = true := by
  unfold Cond.before Cond.holds at h ⊢
  simp only [Cond.value] at h ⊢
  exact h
set_option maxHeartbeats 4000000 in
set_option maxRecDepth 100000 in
/-- from the entry, for every script of at most 260 ints, the law comes to its end with true -/
theorem whole_start {p : Program} {e : Env} {s : State} {m : MethodId} {below : List Frame} {meth : Method} {c : Code} (l : Launch) (hflags : l.flags = flags0) {b L : Nat} {xs : Nat → Int32} (hL : L ≤ 260) (C0 : lw_At p s m meth c b L xs) : W p l e room_1 s m #[Value.ref b] below meth c s.heap [] 0 0 (lw_Z below #[Value.ref b] s) (entryFrame m ([Value.ref b] : List Value).toArray 23) := by
  obtain ⟨hx, hb, hr, hml, hown, hts, hX, hbl, hlocks, hgv⟩ := id C0
  have hl0 := hl0_of hflags
  have hA : ∀ q : Nat, s.heap.size ≤ q → (fun q : Nat => s.heap.size ≤ q) q := fun _ h => h
  have hTh := start_hs hts hgv
  obtain ⟨D, cI, cR, hK⟩ := start_D hts
  have hKi := lx_Ki hK
  have hC : CallFix p m c cL_law 23 s #[Value.ref b] wsL_law RL := ⟨hx, hb, hml, hown, fun w hw => hts w (wsL_law_in w hw)⟩
  have hSE : SE s := ⟨start_AO (hts (.arrayOver (.array .int)) (by decide +kernel)), va_Nw.of rfl (hts (.castable "[I" "java/lang/Cloneable") (by decide +kernel))⟩
  have hE : LE b L xs (fun q : Nat => s.heap.size ≤ q) s := ⟨hSE, hTh, hX, hbl, Nat.not_le.mpr hbl, va_Nw.of rfl (hts (.methodLinkNest RL 64 yX2_init RL) (by decide +kernel))⟩
  have hS : va_S (fun q : Nat => s.heap.size ≤ q) s.heap s.heap [] := va_S.rf
  have hP : va_P D vwCl [] s.heap := fun k q h => by simp at h
  have hD : va_D (fun q : Nat => s.heap.size ≤ q) [] := ⟨fun i j p q h => by simp at h, fun k q h => by simp at h⟩
  have hE0 : va_Nw (.methodLinkNest RX1 9 yX0_init RX1) s := va_Nw.of rfl (hts (.methodLinkNest RX1 9 yX0_init RX1) (by decide +kernel))
  have hl := lv_entry ([.ref b]) (n := 23) (Nat.le_of_ble_eq_true rfl)
  rw [lg_entry_eq]
  generalize (lg_sl ([.ref b]) ++ List.replicate (23 - (lg_sl ([.ref b])).length) Slot.unset).toArray = ls at hl ⊢
  have hl : lv_has ls 23 [(0, .ref b)] := hl
  refine va_new (ci := 1) (fs := [.null, .null]) (C := RX1) (T := TX1) (N := 2) hx hb hC.2.2.2.2 inlX1 tyX1 tyX1_ok hown (hts (.classLink RL 32 RX1) (by decide +kernel)) (hts (.instantiable RX1 2) (by decide +kernel)) (hts (.initialized RX1) (by decide +kernel)) hK hP hD hS hA rfl (by decide) (Nat.le_of_ble_eq_true rfl) (Nat.le_of_ble_eq_true rfl) dL_law_0 (fun t H hP hD hS => ?_)
  refine lv_dup hx hb dL_law_3 rfl ?_
  refine gn_run0 (wa := []) (w := [(t, .inr (1, [.null, .null]))]) (wb := []) (va_runI (As := []) (rest := [.ref t]) hC (ct_X1_init l D cI t H.size) (cwI 0 hC.2.2.2.2 gL_law_X1_init rfl rfl rfl (hts (.initialized RX1) (by decide +kernel)) (hts (.methodLink RL 74 yX1_init) (by decide +kernel)) (hts (.instanceMethod yX1_init) (by decide +kernel)) rfl (by decide +kernel) ⟨Nat.le_of_ble_eq_true rfl, Nat.le_of_ble_eq_true rfl⟩) ⟨gPn_blind (fun U g mk a h => va_Nw.warmM (U := U.calling g mk a) (State.WarmedH.refl U) h), fun U hU hW => ⟨rfl, by rw [hU], by rw [hU]; exact hP, va_K.moved hW.alike hKi, gt_Dm.mpr ⟨List.nodup_cons.mpr ⟨List.not_mem_nil, List.nodup_nil⟩, fun _ _ => trivial⟩, va_Nw.warmM hW hE0⟩⟩ rfl rfl hl.1 rfl (lv_room (Nat.le_of_ble_eq_true rfl)) dL_law_4 ⟨Nat.le_of_ble_eq_true rfl, Nat.le_of_ble_eq_true rfl⟩) hP hD hD hS hA (fun z H locs hP hD hS => ?_)
  obtain ⟨⟨o, r⟩, ⟨o1, r1⟩⟩ := z
  simp only [List.nil_append, List.append_nil] at hP hD
  have hP : va_P D vwCl (tw cI t o r Z0 o1 r1 Z0) H := hP
  have hD : va_D (fun q : Nat => s.heap.size ≤ q) (tw cI t o r Z0 o1 r1 Z0) := hD
  have hw : SW D (fun q : Nat => s.heap.size ≤ q) s.heap (tw cI t o r Z0 o1 r1 Z0) [] (fun _ => .inl (cI, 0, .inl (fun _ => 0))) H locs := ⟨by show va_P D vwCl (_ ++ []) H; rw [List.append_nil]; exact hP, by show va_D _ (_ ++ []); rw [List.append_nil]; exact hD, hS⟩
  refine lv_astore_n (lv' := [(1, .ref t), (0, .ref b)]) hx hb dL_law_7 rfl hl (by decide) rfl (fun ls hl => ?_)
  refine lv_aload_n hx hb dL_law_8 rfl (lv_at hl 0 rfl) ?_
  refine lv_aload_n hx hb dL_law_9 rfl (lv_at hl 1 rfl) ?_
  refine lx_callS hC 2 (ct_L_build l hl0 D cI cR b L xs hL t o r o1 r1 Z0 [] _) gL_law_L_build dL_law_10 hE hK hw hA hl.1 rfl hd_L_build ⟨Nat.le_of_ble_eq_true rfl, Nat.le_of_ble_eq_true rfl⟩ ⟨by show _ ≤ 760756; omega, by show _ ≤ 6819431; omega⟩ rfl rfl (Nat.le_of_ble_eq_true rfl) (fun rv X1 L1 f1 H locs hp hw => ?_)
  obtain ⟨sm, rfl, hSt⟩ := hp
  refine gt_stk [.ref sm] rfl ?_
  refine lv_astore_n (lv' := [(2, .ref sm), (1, .ref t), (0, .ref b)]) hx hb dL_law_13 rfl hl (by decide) rfl (fun ls hl => ?_)
  refine lv_aload_n hx hb dL_law_14 rfl (lv_at hl 0 rfl) ?_
  refine lv_ifnonnull (tgt := 20) hx hb dL_law_15 (by decide) ?_
  refine lv_iconst (v := 0) hx hb dL_law_20 (by decide) ?_
  refine lv_istore_n (lv' := [(3, .int 0), (2, .ref sm), (1, .ref t), (0, .ref b)]) hx hb dL_law_21 rfl hl (by decide) rfl (fun ls hl => ?_)
  refine W.widen (k := 8100) (n := 80500) (Nat.le_of_ble_eq_true rfl) (Nat.le_of_ble_eq_true rfl) ?_
  refine px_loop (σ := va_W × List Nat × (Nat → va_E)) 12 (fun i => 8100 + i * 49400) (fun i => 80500 + i * 500800) (fun i z H locs ls => SW D (fun q : Nat => s.heap.size ≤ q) s.heap z.1 z.2.1 z.2.2 H locs ∧ St cI cR t o r o1 r1 sm (32 + 2 * i) z.1 z.2.1 z.2.2 ∧ lv_has ls 23 [(3, .int (nI i)), (2, .ref sm), (1, .ref t), (0, .ref b)]) (X1, L1, f1) ⟨hw, hSt, lv_sub hl [0, 1, 2, 3] rfl⟩ (Nat.le_refl _) (Nat.le_refl _) (fun i hi z H locs ls hX K1 => ?_) (fun z H locs ls hX => ?_)
  · obtain ⟨X, L9, f⟩ := z
    obtain ⟨hw, hSt, hl⟩ := hX
    dsimp only at hw hSt
    refine lv_iload_n hx hb dL_law_22 rfl (lv_at hl 0 rfl) ?_
    refine lv_bipush (v := 12) hx hb dL_law_23 (by decide) ?_
    refine gt_ge_f (tgt := 1141) hC i 12 dL_law_25 (by decide) rfl rfl (by omega) (by omega) ?_
    refine law_T l hl0 D cI cR b L xs hL t o r o1 r1 sm i hi X L9 f hC hE hK hA (by omega) (by omega) hw hSt hl (fun X1 L1 f1 H locs ls hw hSt hl => ?_)
    exact K1 (X1, L1, f1) H locs ls _ _ ⟨hw, hSt, hl⟩ (by show _ ≤ 8100 + (i + 1) * 49400; omega) (by show _ ≤ 80500 + (i + 1) * 500800; omega)
  · obtain ⟨X, L9, f⟩ := z
    obtain ⟨hw, hSt, hl⟩ := hX
    dsimp only at hw hSt ⊢
    refine lv_iload_n hx hb dL_law_22 rfl (lv_at hl 0 rfl) ?_
    refine lv_bipush (v := 12) hx hb dL_law_23 (by decide) ?_
    refine gt_ge_t (tgt := 1141) hC 12 12 dL_law_25 (by decide) rfl rfl (Nat.le_refl _) (by omega) ?_
    refine lv_aload_n hx hb dL_law_1141 rfl (lv_at hl 1 rfl) ?_
    refine lv_aload_n hx hb dL_law_1142 rfl (lv_at hl 2 rfl) ?_
    obtain ⟨G, N, S, M, Ls, ad, Tt, rfl, hI, hLI, hLJ, hG1, rfl⟩ := hSt
    refine lx_callV hC 2 1 (ct_X2_isSame l hl0 D cI cR b L xs t o r S o1 r1 Tt L9 f ad _ G N M Ls hI hLI (by omega)) gL_law_X2_isSame dL_law_1143 hE hK hw hA hl.1 rfl hd_X2_isSame ⟨Nat.le_of_ble_eq_true rfl, Nat.le_of_ble_eq_true rfl⟩ ⟨by show _ ≤ 760756; omega, by show _ ≤ 6819431; omega⟩ hI.1.1 hI.1.2 rfl rfl rfl (Nat.le_of_ble_eq_true rfl) (fun rv X2 L2 f2 H locs hp hw => ?_)
    obtain ⟨rfl, e7, e8, e9⟩ := hp
    refine gt_stk [.int 1] rfl ?_
    refine va_forget (fun q hq => hw.2.2.2.2 q hq) ?_
    refine W.widen (k := 760756) (n := 6819431) (Nat.le_of_ble_eq_true rfl) (Nat.le_of_ble_eq_true rfl) ?_
    refine W.base ?_
    exact lw_ret (Drawn.sameBut.refl s.drawn lw_cs) hx hb hr hlocks dL_law_1146
