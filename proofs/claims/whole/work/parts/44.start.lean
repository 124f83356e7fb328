/-! The law from its entry. -/
theorem hl0_of {l : Launch} (hflags : l.flags = flags0) : l.stackTraces = false := by
  unfold Launch.stackTraces
  rw [hflags]
  decide +kernel
set_option maxHeartbeats 4000000 in
set_option maxRecDepth 100000 in
/-- from the entry, for every script of at most 3072 ints, the law comes to its end with true -/
theorem whole_start {p : Program} {e : Env} {s : State} {m : MethodId} {below : List Frame} {meth : Method} {c : Code} (l : Launch) (hflags : l.flags = flags0) {b L : Nat} {xs : Nat → Int32} (hL : L ≤ 3072) (C0 : lw_At p s m meth c b L xs) : W p l e room_1 s m #[Value.ref b] below meth c s.heap [] 0 0 (lw_Z below #[Value.ref b] s) (entryFrame m ([Value.ref b] : List Value).toArray 9) := by
  obtain ⟨hx, hb, hr, hml, hown, hts, hX, hbl, hlocks, hgv⟩ := id C0
  have hl0 := hl0_of hflags
  have hA : ∀ q : Nat, s.heap.size ≤ q → (fun q : Nat => s.heap.size ≤ q) q := fun _ h => h
  obtain ⟨hTh, hNc⟩ := start_hs hts hgv
  obtain ⟨D, cI, hK⟩ := start_D hts
  have hC : CallFix p m c cL_law 9 s #[Value.ref b] wsL_law RL := ⟨hx, hb, hml, hown, fun w hw => hts w (wsL_law_in w hw)⟩
  have hS : va_S (fun q : Nat => s.heap.size ≤ q) s.heap s.heap [] := va_S.rf
  have hP : va_P D vwCl [] s.heap := fun k q h => by simp at h
  have hD : va_D (fun q : Nat => s.heap.size ≤ q) [] := ⟨fun i j p q h => by simp at h, fun k q h => by simp at h⟩
  have hE : va_Nw (.methodLinkNest RX1 9 yX0_init RX1) s := va_Nw.of rfl (hts (.methodLinkNest RX1 9 yX0_init RX1) (by decide +kernel))
  have hl := lv_entry ([.ref b]) (n := 9) (Nat.le_of_ble_eq_true rfl)
  rw [lg_entry_eq]
  generalize (lg_sl ([.ref b]) ++ List.replicate (9 - (lg_sl ([.ref b])).length) Slot.unset).toArray = ls at hl ⊢
  have hl : lv_has ls 9 [(0, .ref b)] := hl
  -- the class
  refine va_new (ci := 1) (fs := [.null, .null]) (C := RX1) (T := TX1) (N := 2) hx hb hC.2.2.2.2 inlX1 tyX1 tyX1_ok hown (hts (.classLink RL 8 RX1) (by decide +kernel)) (hts (.instantiable RX1 2) (by decide +kernel)) (hts (.initialized RX1) (by decide +kernel)) hK hP hD hS hA rfl (by decide) (Nat.le_of_ble_eq_true rfl) (Nat.le_of_ble_eq_true rfl) dL_law_0 (fun t H hP hD hS => ?_)
  refine lv_dup hx hb dL_law_3 rfl ?_
  refine gn_run0 (wa := []) (w := [(t, .inr (1, [.null, .null]))]) (wb := []) (va_runI (As := []) (rest := [.ref t]) hC (ct_X1_init l D cI t H.size) (cwI 0 hC.2.2.2.2 gL_law_X1_init rfl rfl rfl (hts (.initialized RX1) (by decide +kernel)) (hts (.methodLink RL 82 yX1_init) (by decide +kernel)) (hts (.instanceMethod yX1_init) (by decide +kernel)) rfl (by decide +kernel) ⟨Nat.le_of_ble_eq_true rfl, Nat.le_of_ble_eq_true rfl⟩) ⟨gPn_blind (fun U g mk a h => va_Nw.warmM (U := U.calling g mk a) (State.WarmedH.refl U) h), fun U hU hW => ⟨rfl, by rw [hU], by rw [hU]; exact hP, va_K.moved hW.alike hK, gt_Dm.mpr ⟨List.nodup_cons.mpr ⟨List.not_mem_nil, List.nodup_nil⟩, fun _ _ => trivial⟩, va_Nw.warmM hW hE⟩⟩ rfl rfl hl.1 rfl (lv_room (Nat.le_of_ble_eq_true rfl)) dL_law_4 ⟨Nat.le_of_ble_eq_true rfl, Nat.le_of_ble_eq_true rfl⟩) hP hD hD hS hA (fun z H locs hP hD hS => ?_)
  obtain ⟨⟨o, r⟩, ⟨o1, r1⟩⟩ := z
  simp only [List.nil_append, List.append_nil] at hP hD
  have hP : va_P D vwCl (tw cI t o r Z0 o1 r1 Z0) H := hP
  have hD : va_D (fun q : Nat => s.heap.size ≤ q) (tw cI t o r Z0 o1 r1 Z0) := hD
  refine lv_astore_n (lv' := [(1, .ref t), (0, .ref b)]) hx hb dL_law_7 rfl hl (by decide) rfl (fun ls hl => ?_)
  -- the reference
  refine va_new (ci := 2) (fs := [.int 0, .int 0, .int 0, .null, .null, .null, .null, .null]) (C := RX2) (T := TX2) (N := 8) hx hb hC.2.2.2.2 inlX2 tyX2 tyX2_ok hown (hts (.classLink RL 83 RX2) (by decide +kernel)) (hts (.instantiable RX2 8) (by decide +kernel)) (hts (.initialized RX2) (by decide +kernel)) hK hP hD hS hA rfl (by decide) (Nat.le_of_ble_eq_true rfl) (Nat.le_of_ble_eq_true rfl) dL_law_8 (fun t2 H hP hD hS => ?_)
  refine lv_dup hx hb dL_law_11 rfl ?_
  have hPm : va_P D vwCl [(t2, .inr (2, [.int 0, .int 0, .int 0, .null, .null, .null, .null, .null]))] H := gt_Pm.mpr (fun z hz => gt_Pm.mp hP z (List.mem_append_right _ hz))
  have hDm : va_D (fun q : Nat => s.heap.size ≤ q) [(t2, .inr (2, [.int 0, .int 0, .int 0, .null, .null, .null, .null, .null]))] := gt_Dm.mpr ⟨List.nodup_cons.mpr ⟨List.not_mem_nil, List.nodup_nil⟩, fun z hz => (gt_Dm.mp hD).2 z (List.mem_append_right _ hz)⟩
  refine gn_run0 (wa := tw cI t o r Z0 o1 r1 Z0) (w := [(t2, .inr (2, [.int 0, .int 0, .int 0, .null, .null, .null, .null, .null]))]) (wb := []) (va_runI (As := []) (rest := [.ref t2]) hC (ct_X2_init l D cI t2 H.size) (cwI 0 hC.2.2.2.2 gL_law_X2_init rfl rfl rfl (hts (.initialized RX2) (by decide +kernel)) (hts (.methodLink RL 85 yX2_init) (by decide +kernel)) (hts (.instanceMethod yX2_init) (by decide +kernel)) rfl (by decide +kernel) ⟨Nat.le_of_ble_eq_true rfl, Nat.le_of_ble_eq_true rfl⟩) ⟨gPn_blind (fun _ _ _ _ _ => trivial), fun U hU hW => ⟨rfl, by rw [hU], by rw [hU]; exact hPm, va_K.moved hW.alike hK, gt_Dm.mpr ⟨List.nodup_cons.mpr ⟨List.not_mem_nil, List.nodup_nil⟩, fun _ _ => trivial⟩, trivial⟩⟩ rfl rfl hl.1 rfl (lv_room (Nat.le_of_ble_eq_true rfl)) dL_law_12 ⟨Nat.le_of_ble_eq_true rfl, Nat.le_of_ble_eq_true rfl⟩) hP hD hDm hS hA (fun q H locs hP hD hS => ?_)
  simp only [List.append_nil] at hP hD
  refine lv_astore_n (lv' := [(2, .ref t2), (1, .ref t), (0, .ref b)]) hx hb dL_law_15 rfl hl (by decide) rfl (fun ls hl => ?_)
  -- the place of the answers
  refine lv_iconst (v := 1) hx hb dL_law_16 (by decide) ?_
  refine va_newa (atype := .long) (ty := .long) (a0 := (1, .inr (.inl (fun _ => 0)))) (N' := 1) hx hb (hts (.arrayClass .long) (by decide +kernel)) rfl hK hP hD hS hA (fun _ => rfl) (by decide) (by decide) (by decide) (Nat.le_of_ble_eq_true rfl) (Nat.le_of_ble_eq_true rfl) dL_law_17 (fun ob cL H hK2 hP hD hS => ?_)
  have hK2 : va_K D vwCl [(cI, .int), (cL, .long)] s := hK2
  refine lv_astore_n (lv' := [(3, .ref ob), (2, .ref t2), (1, .ref t), (0, .ref b)]) hx hb dL_law_19 rfl hl (by decide) rfl (fun ls hl => ?_)
  refine lv_iconst (v := 0) hx hb dL_law_20 (by decide) ?_
  refine gt_stk [.int (nI 0)] rfl ?_
  refine lv_istore (lv' := [(4, .int (nI 0)), (3, .ref ob), (2, .ref t2), (1, .ref t), (0, .ref b)]) hx hb dL_law_21 hl (by decide) rfl (fun ls hl => ?_)
  have mem : ∀ z, z ∈ mw cI t2 q Z0 Z0 ++ (tw cI t o r Z0 o1 r1 Z0 ++ oc cL ob (fun _ => 0)) → z ∈ (tw cI t o r Z0 o1 r1 Z0 ++ mw cI t2 q Z0 Z0) ++ oc cL ob (fun _ => 0) := by
    intro z hz
    rcases List.mem_append.mp hz with h | h
    · exact List.mem_append_left _ (List.mem_append_right _ h)
    · rcases List.mem_append.mp h with h | h
      · exact List.mem_append_left _ (List.mem_append_left _ h)
      · exact List.mem_append_right _ h
  have hP2 : va_P D vwCl (mw cI t2 q Z0 Z0 ++ (tw cI t o r Z0 o1 r1 Z0 ++ oc cL ob (fun _ => 0))) H := gt_Pm.mpr (fun z hz => gt_Pm.mp hP z (mem z hz))
  have hD2 : va_D (fun q : Nat => s.heap.size ≤ q) (mw cI t2 q Z0 Z0 ++ (tw cI t o r Z0 o1 r1 Z0 ++ oc cL ob (fun _ => 0))) := by
    refine gt_Dm.mpr ⟨?_, fun z hz => (gt_Dm.mp hD).2 z (mem z hz)⟩
    have h1 := (gt_Dm.mp hD).1
    have h2 : ((tw cI t o r Z0 o1 r1 Z0 ++ mw cI t2 q Z0 Z0) ++ oc cL ob (fun _ => 0)).Perm (mw cI t2 q Z0 Z0 ++ (tw cI t o r Z0 o1 r1 Z0 ++ oc cL ob (fun _ => 0))) := by
      rw [← List.append_assoc]
      exact List.Perm.append_right _ List.perm_append_comm
    exact (h2.map Prod.fst).nodup_iff.mp h1
  refine W.widen (k := 100 + 0 * 137) (n := 1000 + 0 * 848) (Nat.le_of_ble_eq_true rfl) (Nat.le_of_ble_eq_true rfl) ?_
  exact law_loop hl0 hC hr hlocks hTh hNc hK2 hX hbl hL (L + 1) 0 (Nat.zero_le L) (by omega) 0 0 Z0 Z0 Z0 Z0 (fun _ => 0) H _ ls 0 rfl inv_Z0 hP2 hD2 hS (lv_sub hl [4, 3, 2, 1, 0] rfl)
