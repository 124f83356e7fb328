/-! The law's build (laid by wip/p34/gen/sim8.py). -/
theorem inv_Z0 : Inv 0 0 Z0 Z0 := by
  refine ⟨by decide, by decide, rfl, rfl, rfl, rfl, ⟨fun k hk => by omega, fun g hg => by omega, ⟨rfl, rfl, rfl⟩, rfl⟩, fun k _ => ⟨rfl, rfl⟩, fun g _ => rfl⟩
theorem li_Z0 : LI 0 0 0 Z0 Z0 (fun _ => []) := ⟨inv_Z0, ⟨fun k hk => by omega, fun g hg => by omega⟩, fun _ _ _ _ => rfl, fun g hg => by omega, 0, Nat.le_refl 0, rfl, fun k hk => by omega⟩
/-- the tower beside its Sim, after T acts -/
def St (cI cR : ClassId) (t o : Nat) (r : Nat → Nat) (o1 : Nat) (r1 : Nat → Nat) (sm T : Nat) (X1 : va_W) (L1 : List Nat) (f1 : Nat → va_E) : Prop := ∃ (G1 N1 : Nat) (S1 M1 : SS) (Ls1 : Nat → List Nat) (ad1 : Nat → Nat → Nat) (T1 : SS), X1 = tw cI t o r S1 o1 r1 T1 ∧ SimI cI cR L1 f1 ad1 G1 N1 G1 M1 Ls1 ∧ LI T G1 N1 S1 M1 Ls1 ∧ LJ G1 N1 M1 ∧ (T = 0 ∨ 1 ≤ G1) ∧ ad1 0 0 = sm
theorem St.mono {cI cR : ClassId} {t o : Nat} {r : Nat → Nat} {o1 : Nat} {r1 : Nat → Nat} {sm T T' : Nat} {X1 : va_W} {L1 : List Nat} {f1 : Nat → va_E} (h : St cI cR t o r o1 r1 sm T X1 L1 f1) (hT : T ≤ T') (h0 : T = 0 → T' = 0) : St cI cR t o r o1 r1 sm T' X1 L1 f1 := by
  obtain ⟨G1, N1, S1, M1, Ls1, ad1, T1, h1, h2, h3, h4, h5, h6⟩ := h
  exact ⟨G1, N1, S1, M1, Ls1, ad1, T1, h1, h2, h3.mono hT, h4, h5.imp h0 id, h6⟩
theorem ct_act (l : Launch) (hl0 : l.stackTraces = false) (D : va_G) (cI cR : ClassId) (bb nn : Nat) (xs : Nat → Int32) (t o : Nat) (r : Nat → Nat) (o1 : Nat) (r1 : Nat → Nat) (sm T : Nat) (X : va_W) (L : List Nat) (f : Nat → va_E) (hS : St cI cR t o r o1 r1 sm T X L f) (hT : T < 100000) (x : Int32) : CwL l D cI cR bb nn xs yL_act wsL_act 8 130 250 2500 [.ref t, .ref sm, .int x] X L f (fun rv X1 L1 f1 => rv = some (.int 1) ∧ St cI cR t o r o1 r1 sm (T + 1) X1 L1 f1) := by
  obtain ⟨G1, N1, S1, M1, Ls1, ad1, T1, rfl, h2, h3, h4, -, rfl⟩ := hS
  exact ct_L_act l hl0 D cI cR bb nn xs t o r S1 o1 r1 T1 L f ad1 T G1 N1 M1 Ls1 h2 h3 h4 hT x
theorem hd_L_build : yL_build.cls ≠ "java/lang/invoke/MethodHandle" ∧ yL_build.cls ≠ "java/lang/invoke/VarHandle" ∧ (parseMethodDescriptor yL_build.desc).map (fun d => d.parameters.length) = some 2 := by decide +kernel
set_option maxHeartbeats 16000000 in
set_option maxRecDepth 100000 in
theorem ct_L_build (l : Launch) (hl0 : l.stackTraces = false) (D : va_G) (cI cR : ClassId) (bb nn : Nat) (xs : Nat → Int32) (hnn : nn ≤ 260) (t o : Nat) (r : Nat → Nat) (o1 : Nat) (r1 : Nat → Nat) (Tt : SS) (L : List Nat) (f : Nat → va_E) : CtL l D cI cR bb nn xs yL_build wsL_build 9 161 8010 80010 [.ref t, .ref bb] (tw cI t o r Z0 o1 r1 Tt) L f (fun rv X1 L1 f1 => ∃ sm, rv = some (.ref sm) ∧ St cI cR t o r o1 r1 sm 32 X1 L1 f1) := by
  refine CtL.ofW (cc := cL_build) (maxL := 6) (ret := some (.object "GoatTowerLaw$Sim")) (by decide) rfl (Nat.le_of_ble_eq_true rfl) ?_
  intro p e s m below meth c A ls hC hr hlk hE hw hK hA hl
  have hx := hC.1
  have hb := hC.2.1
  have hinX2 : ∀ w ∈ wsX20, w ∈ wsL_build := fun _ _h => List.mem_cons_of_mem _ (List.mem_append_left _ (List.mem_append_left _ (List.mem_append_left _ (List.mem_append_left _ (List.mem_append_left _ (List.mem_append_right _ _h))))))
  have hl : lv_has ls 6 [(0, .ref t), (1, .ref bb)] := hl
  refine px_new hC 2 1 2 3 hinX2 tyX2_ok rfl rfl rfl hK hw hA rfl (fs := [.int 0, .int 0, .int 0, .null, .null, .null]) (by decide) ⟨by show 0 + 1 ≤ 8010; decide, by show 0 + 6 ≤ 80010; decide⟩ dL_build_0 (fun q H hq hw => ?_)
  refine lv_dup hx hb dL_build_3 rfl ?_
  have hqL : q ∈ L ++ [q] := List.mem_append_right _ List.mem_cons_self
  refine px_run0 (va_runIN (As := []) (rest := [.ref q]) hC (ct_X2_init l D cI cR (L ++ [q]) _ q hqL (va_up_self _ _ _) H.size) ⟨va_cnB 0 hC.2.2.2.2 gL_build_X2_init_n64 rfl rfl rfl hE.2.2.2.2.2 (hC.2.2.2.2 _ (List.mem_of_getElem? (i := 3) rfl)) hd_X2_init ⟨Nat.le_of_ble_eq_true rfl, Nat.le_of_ble_eq_true rfl⟩, rfl, (hC.2.2.2.2 _ (List.mem_of_getElem? (i := 5) rfl))⟩ ⟨gPX_blind, px_pre hE.1 hK hw⟩ rfl rfl hl.1 rfl (lv_room (Nat.le_of_ble_eq_true rfl)) dL_build_4 ⟨by show 0 + 1 + 3 ≤ 8010; decide, by show 0 + 6 + 0 ≤ 80010; decide⟩) hw hA (fun rv L1 f1 H locs hp hw => ?_)
  obtain ⟨rfl, ad1, hI1, hN1⟩ := hp
  refine gt_stk [.ref q] rfl ?_
  have hSt : St cI cR t o r o1 r1 q 0 (tw cI t o r Z0 o1 r1 Tt) L1 f1 := ⟨0, 0, Z0, Z0, _, ad1, Tt, rfl, hI1, li_Z0, lj_Z0, Or.inl rfl, hN1.1⟩
  generalize tw cI t o r Z0 o1 r1 Tt = X at hw hSt
  refine lv_astore_n (lv' := [(2, .ref q), (0, .ref t), (1, .ref bb)]) hx hb dL_build_7 rfl hl (by decide) rfl (fun ls hl => ?_)
  refine lv_iconst (v := 1) hx hb dL_build_8 (by decide) ?_
  refine lv_aload_n hx hb dL_build_9 rfl (lv_at hl 2 rfl) ?_
  refine lv_iconst (v := 0) hx hb dL_build_10 (by decide) ?_
  refine lx_callS hC 2 (ct_L_cell l D cI cR bb nn xs hnn _ _ _ 0 (by omega)) gL_build_L_cell dL_build_11 hE hK hw hA hl.1 rfl hd_L_cell ⟨Nat.le_of_ble_eq_true rfl, Nat.le_of_ble_eq_true rfl⟩ ⟨by show _ ≤ 8010; omega, by show _ ≤ 80010; omega⟩ rfl rfl (Nat.le_of_ble_eq_true rfl) (fun rv X2 L2 f2 H locs hp hw => ?_)
  obtain ⟨⟨v1, rfl⟩, e7, e8, e9⟩ := hp
  rw [e7, e8, e9] at hw
  refine gt_stk [.int v1, .int 1] rfl ?_
  refine lv_iconst (v := 4) hx hb dL_build_14 (by decide) ?_
  refine lx_callB hC 2 (ct_L_below l D v1 4 (nI_ne9 (m := 4) (by omega) (by omega))) gL_build_L_below dL_build_15 hK hw hA hl.1 rfl hd_L_below ⟨Nat.le_of_ble_eq_true rfl, Nat.le_of_ble_eq_true rfl⟩ ⟨by show _ ≤ 8010; omega, by show _ ≤ 80010; omega⟩ rfl rfl (Nat.le_of_ble_eq_true rfl) (fun H locs hw => ?_)
  obtain ⟨j2, hj2, ej2⟩ : ∃ j, j < 4 ∧ bel v1 4 = nI j := bel_nI v1 (m := 4) (by omega) (by omega)
  rw [ej2]
  refine gt_stk [.int (nI j2), .int 1] rfl ?_
  refine lv_iadd hx hb dL_build_18 ?_
  refine gt_stk [.int (nI (1 + j2))] (by rw [← nI_add]; rfl) ?_
  obtain ⟨g0, hg0, hgg⟩ : ∃ g, g ≤ 4 ∧ 1 + j2 = g := ⟨_, by omega, rfl⟩
  rw [hgg]
  refine lv_istore_n (lv' := [(3, .int (nI g0)), (2, .ref q), (0, .ref t), (1, .ref bb)]) hx hb dL_build_19 rfl hl (by decide) rfl (fun ls hl => ?_)
  refine lv_iconst (v := 2) hx hb dL_build_20 (by decide) ?_
  refine lv_aload_n hx hb dL_build_21 rfl (lv_at hl 3 rfl) ?_
  refine lv_iconst (v := 1) hx hb dL_build_22 (by decide) ?_
  refine lx_callS hC 2 (ct_L_cell l D cI cR bb nn xs hnn _ _ _ 1 (by omega)) gL_build_L_cell dL_build_23 hE hK hw hA hl.1 rfl hd_L_cell ⟨Nat.le_of_ble_eq_true rfl, Nat.le_of_ble_eq_true rfl⟩ ⟨by show _ ≤ 8010; omega, by show _ ≤ 80010; omega⟩ rfl rfl (Nat.le_of_ble_eq_true rfl) (fun rv X2 L2 f2 H locs hp hw => ?_)
  obtain ⟨⟨v3, rfl⟩, e7, e8, e9⟩ := hp
  rw [e7, e8, e9] at hw
  refine gt_stk [.int v3, .int 2] rfl ?_
  refine lv_bipush (v := 11) hx hb dL_build_26 (by decide) ?_
  refine lx_callB hC 2 (ct_L_below l D v3 11 (nI_ne9 (m := 11) (by omega) (by omega))) gL_build_L_below dL_build_28 hK hw hA hl.1 rfl hd_L_below ⟨Nat.le_of_ble_eq_true rfl, Nat.le_of_ble_eq_true rfl⟩ ⟨by show _ ≤ 8010; omega, by show _ ≤ 80010; omega⟩ rfl rfl (Nat.le_of_ble_eq_true rfl) (fun H locs hw => ?_)
  obtain ⟨j4, hj4, ej4⟩ : ∃ j, j < 11 ∧ bel v3 11 = nI j := bel_nI v3 (m := 11) (by omega) (by omega)
  rw [ej4]
  refine gt_stk [.int (nI j4), .int 2] rfl ?_
  refine lv_iadd hx hb dL_build_31 ?_
  refine gt_stk [.int (nI (2 + j4))] (by rw [← nI_add]; rfl) ?_
  obtain ⟨k0, hk0, hkk⟩ : ∃ g, g ≤ 12 ∧ 2 + j4 = g := ⟨_, by omega, rfl⟩
  rw [hkk]
  refine lv_istore (lv' := [(4, .int (nI k0)), (3, .int (nI g0)), (2, .ref q), (0, .ref t), (1, .ref bb)]) hx hb dL_build_32 hl (by decide) rfl (fun ls hl => ?_)
  refine lv_iconst (v := 0) hx hb dL_build_34 (by decide) ?_
  refine lv_istore (lv' := [(5, .int 0), (4, .int (nI k0)), (3, .int (nI g0)), (2, .ref q), (0, .ref t), (1, .ref bb)]) hx hb dL_build_35 hl (by decide) rfl (fun ls hl => ?_)
  refine W.widen (k := 4 + 0 * 250) (n := 6 + 0 * 2500) (by omega) (by omega) ?_
  replace hSt := hSt.mono (T' := 0 + 0) (by omega) (by omega)
  refine px_loop (σ := va_W × List Nat × (Nat → va_E)) g0 (fun i => 4 + (0 + i) * 250) (fun i => 6 + (0 + i) * 2500) (fun i z H locs ls => SW D A s.heap z.1 z.2.1 z.2.2 H locs ∧ St cI cR t o r o1 r1 q (0 + i) z.1 z.2.1 z.2.2 ∧ lv_has ls 6 [(5, .int (nI i)), (4, .int (nI k0)), (3, .int (nI g0)), (2, .ref q), (0, .ref t), (1, .ref bb)]) (X, L1, f1) ⟨hw, hSt, lv_sub hl [0, 1, 2, 3, 4, 5] rfl⟩ (Nat.le_refl _) (Nat.le_refl _) (fun i hi z H locs ls hI K1 => ?_) (fun z H locs ls hI => ?_)
  · obtain ⟨hw, hSt, hl⟩ := hI
    try dsimp only at hw hSt
    refine lv_iload hx hb dL_build_37 (lv_at hl 0 rfl) ?_
    refine lv_iload_n hx hb dL_build_39 rfl (lv_at hl 2 rfl) ?_
    refine gt_ge_f (tgt := 75) hC i g0 dL_build_40 (by decide) rfl rfl (by omega) (by omega) ?_
    refine lv_aload_n hx hb dL_build_43 rfl (lv_at hl 4 rfl) ?_
    refine lv_aload_n hx hb dL_build_44 rfl (lv_at hl 3 rfl) ?_
    refine lv_bipush (v := 18) hx hb dL_build_45 (by decide) ?_
    refine lv_aload_n hx hb dL_build_47 rfl (lv_at hl 5 rfl) ?_
    refine lv_iconst (v := 2) hx hb dL_build_48 (by decide) ?_
    refine lv_iload hx hb dL_build_49 (lv_at hl 0 rfl) ?_
    refine lv_iadd hx hb dL_build_51 ?_
    refine gt_stk [.int (nI (2 + i)), .ref bb, .int 18, .ref q, .ref t] (by rw [← nI_add]; rfl) ?_
    refine lx_callS hC 2 (ct_L_cell l D cI cR bb nn xs hnn _ _ _ (2 + i) (by omega)) gL_build_L_cell dL_build_52 hE hK hw hA hl.1 rfl hd_L_cell ⟨Nat.le_of_ble_eq_true rfl, Nat.le_of_ble_eq_true rfl⟩ ⟨by show 4 + (0 + i) * 250 + 0 ≤ 8010; omega, by show 6 + (0 + i) * 2500 + 0 ≤ 80010; omega⟩ rfl rfl (Nat.le_of_ble_eq_true rfl) (fun rv X2 L2 f2 H locs hp hw => ?_)
    obtain ⟨⟨v5, rfl⟩, e7, e8, e9⟩ := hp
    rw [e7, e8, e9] at hw
    refine gt_stk [.int v5, .int 18, .ref q, .ref t] rfl ?_
    refine lv_iconst (v := 5) hx hb dL_build_55 (by decide) ?_
    refine lv_ishr hx hb dL_build_56 ?_
    refine lv_ldc (v := 16777215) hx hb hC.2.2.2.1 (hC.2.2.2.2 _ (List.mem_of_getElem? (i := 4) rfl)) dL_build_57 ?_
    refine lv_iand hx hb dL_build_59 ?_
    refine lv_imul hx hb dL_build_60 ?_
    refine lx_callW hC 3 (ct_act l hl0 D cI cR bb nn xs t o r o1 r1 q _ _ _ _ hSt (by omega) _) gL_build_L_act dL_build_61 hE hK hw hA hl.1 rfl hd_L_act ⟨Nat.le_of_ble_eq_true rfl, Nat.le_of_ble_eq_true rfl⟩ ⟨by show 4 + (0 + i) * 250 + 0 + 250 ≤ 8010; omega, by show 6 + (0 + i) * 2500 + 0 + 2500 ≤ 80010; omega⟩ rfl rfl (Nat.le_of_ble_eq_true rfl) (fun rv X2 L2 f2 H locs hp hw => ?_)
    obtain ⟨rfl, hSt2⟩ := hp
    refine gt_stk [.int 1] rfl ?_
    refine lv_if_ne (tgt := 69) hx hb dL_build_64 (by decide) (fun _ => ?_) (fun z => absurd z (by decide))
    refine gt_inc (lv' := [(5, .int (nI (i + 1))), (4, .int (nI k0)), (3, .int (nI g0)), (2, .ref q), (0, .ref t), (1, .ref bb)]) hC 0 i dL_build_69 hl rfl rfl (by decide) rfl (fun ls hl => ?_)
    refine lv_goto (tgt := 37) hx hb dL_build_72 (by decide) ?_
    exact K1 (X2, L2, f2) H locs ls _ _ ⟨hw, hSt2, lv_sub hl [0, 1, 2, 3, 4, 5] rfl⟩ (by show 4 + (0 + i) * 250 + 0 + 250 ≤ 4 + (0 + (i + 1)) * 250; omega) (by show 6 + (0 + i) * 2500 + 0 + 2500 ≤ 6 + (0 + (i + 1)) * 2500; omega)
  · obtain ⟨hw, hSt, hl⟩ := hI
    try dsimp only at hw hSt ⊢
    refine lv_iload hx hb dL_build_37 (lv_at hl 0 rfl) ?_
    refine lv_iload_n hx hb dL_build_39 rfl (lv_at hl 2 rfl) ?_
    refine gt_ge_t (tgt := 75) hC g0 g0 dL_build_40 (by decide) rfl rfl (Nat.le_refl _) (by omega) ?_
    refine lv_iconst (v := 0) hx hb dL_build_75 (by decide) ?_
    refine lv_istore (lv' := [(5, .int 0), (4, .int (nI k0)), (3, .int (nI g0)), (2, .ref q), (0, .ref t), (1, .ref bb)]) hx hb dL_build_76 hl (by decide) rfl (fun ls hl => ?_)
    refine W.widen (k := 4 + g0 * 250) (n := 6 + g0 * 2500) (by omega) (by omega) ?_
    replace hSt := hSt.mono (T' := g0 + 0) (by omega) (by omega)
    refine px_loop (σ := va_W × List Nat × (Nat → va_E)) k0 (fun i => 4 + (g0 + i) * 250) (fun i => 6 + (g0 + i) * 2500) (fun i z H locs ls => SW D A s.heap z.1 z.2.1 z.2.2 H locs ∧ St cI cR t o r o1 r1 q (g0 + i) z.1 z.2.1 z.2.2 ∧ lv_has ls 6 [(5, .int (nI i)), (4, .int (nI k0)), (3, .int (nI g0)), (2, .ref q), (0, .ref t), (1, .ref bb)]) (z.1, z.2.1, z.2.2) ⟨hw, hSt, lv_sub hl [0, 1, 2, 3, 4, 5] rfl⟩ (Nat.le_refl _) (Nat.le_refl _) (fun i hi z H locs ls hI K1 => ?_) (fun z H locs ls hI => ?_)
    · obtain ⟨hw, hSt, hl⟩ := hI
      try dsimp only at hw hSt
      refine lv_iload hx hb dL_build_78 (lv_at hl 0 rfl) ?_
      refine lv_iload hx hb dL_build_80 (lv_at hl 1 rfl) ?_
      refine gt_ge_f (tgt := 119) hC i k0 dL_build_82 (by decide) rfl rfl (by omega) (by omega) ?_
      refine lv_aload_n hx hb dL_build_85 rfl (lv_at hl 4 rfl) ?_
      refine lv_aload_n hx hb dL_build_86 rfl (lv_at hl 3 rfl) ?_
      refine lv_bipush (v := 18) hx hb dL_build_87 (by decide) ?_
      refine lv_aload_n hx hb dL_build_89 rfl (lv_at hl 5 rfl) ?_
      refine lv_iconst (v := 3) hx hb dL_build_90 (by decide) ?_
      refine lv_iload hx hb dL_build_91 (lv_at hl 0 rfl) ?_
      refine lv_iadd hx hb dL_build_93 ?_
      refine gt_stk [.int (nI (3 + i)), .ref bb, .int 18, .ref q, .ref t] (by rw [← nI_add]; rfl) ?_
      refine lx_callS hC 2 (ct_L_cell l D cI cR bb nn xs hnn _ _ _ (3 + i) (by omega)) gL_build_L_cell dL_build_94 hE hK hw hA hl.1 rfl hd_L_cell ⟨Nat.le_of_ble_eq_true rfl, Nat.le_of_ble_eq_true rfl⟩ ⟨by show 4 + (g0 + i) * 250 + 0 ≤ 8010; omega, by show 6 + (g0 + i) * 2500 + 0 ≤ 80010; omega⟩ rfl rfl (Nat.le_of_ble_eq_true rfl) (fun rv X2 L2 f2 H locs hp hw => ?_)
      obtain ⟨⟨v6, rfl⟩, e7, e8, e9⟩ := hp
      rw [e7, e8, e9] at hw
      refine gt_stk [.int v6, .int 18, .ref q, .ref t] rfl ?_
      refine lv_iconst (v := 5) hx hb dL_build_97 (by decide) ?_
      refine lv_ishr hx hb dL_build_98 ?_
      refine lv_ldc (v := 16777215) hx hb hC.2.2.2.1 (hC.2.2.2.2 _ (List.mem_of_getElem? (i := 4) rfl)) dL_build_99 ?_
      refine lv_iand hx hb dL_build_101 ?_
      refine lv_imul hx hb dL_build_102 ?_
      refine lv_iconst (v := 1) hx hb dL_build_103 (by decide) ?_
      refine lv_iadd hx hb dL_build_104 ?_
      refine lx_callW hC 3 (ct_act l hl0 D cI cR bb nn xs t o r o1 r1 q _ _ _ _ hSt (by omega) _) gL_build_L_act dL_build_105 hE hK hw hA hl.1 rfl hd_L_act ⟨Nat.le_of_ble_eq_true rfl, Nat.le_of_ble_eq_true rfl⟩ ⟨by show 4 + (g0 + i) * 250 + 0 + 250 ≤ 8010; omega, by show 6 + (g0 + i) * 2500 + 0 + 2500 ≤ 80010; omega⟩ rfl rfl (Nat.le_of_ble_eq_true rfl) (fun rv X2 L2 f2 H locs hp hw => ?_)
      obtain ⟨rfl, hSt2⟩ := hp
      refine gt_stk [.int 1] rfl ?_
      refine lv_if_ne (tgt := 113) hx hb dL_build_108 (by decide) (fun _ => ?_) (fun z => absurd z (by decide))
      refine gt_inc (lv' := [(5, .int (nI (i + 1))), (4, .int (nI k0)), (3, .int (nI g0)), (2, .ref q), (0, .ref t), (1, .ref bb)]) hC 0 i dL_build_113 hl rfl rfl (by decide) rfl (fun ls hl => ?_)
      refine lv_goto (tgt := 78) hx hb dL_build_116 (by decide) ?_
      exact K1 (X2, L2, f2) H locs ls _ _ ⟨hw, hSt2, lv_sub hl [0, 1, 2, 3, 4, 5] rfl⟩ (by show 4 + (g0 + i) * 250 + 0 + 250 ≤ 4 + (g0 + (i + 1)) * 250; omega) (by show 6 + (g0 + i) * 2500 + 0 + 2500 ≤ 6 + (g0 + (i + 1)) * 2500; omega)
    · obtain ⟨hw, hSt, hl⟩ := hI
      try dsimp only at hw hSt ⊢
      refine lv_iload hx hb dL_build_78 (lv_at hl 0 rfl) ?_
      refine lv_iload hx hb dL_build_80 (lv_at hl 1 rfl) ?_
      refine gt_ge_t (tgt := 119) hC k0 k0 dL_build_82 (by decide) rfl rfl (Nat.le_refl _) (by omega) ?_
      refine lv_iconst (v := 0) hx hb dL_build_119 (by decide) ?_
      refine lv_istore (lv' := [(5, .int 0), (4, .int (nI k0)), (3, .int (nI g0)), (2, .ref q), (0, .ref t), (1, .ref bb)]) hx hb dL_build_120 hl (by decide) rfl (fun ls hl => ?_)
      refine W.widen (k := 4 + (g0 + k0) * 250) (n := 6 + (g0 + k0) * 2500) (by omega) (by omega) ?_
      replace hSt := hSt.mono (T' := g0 + k0 + 0) (by omega) (by omega)
      refine px_loop (σ := va_W × List Nat × (Nat → va_E)) 16 (fun i => 4 + (g0 + k0 + i) * 250) (fun i => 6 + (g0 + k0 + i) * 2500) (fun i z H locs ls => SW D A s.heap z.1 z.2.1 z.2.2 H locs ∧ St cI cR t o r o1 r1 q (g0 + k0 + i) z.1 z.2.1 z.2.2 ∧ lv_has ls 6 [(5, .int (nI i)), (4, .int (nI k0)), (3, .int (nI g0)), (2, .ref q), (0, .ref t), (1, .ref bb)]) (z.1, z.2.1, z.2.2) ⟨hw, hSt, lv_sub hl [0, 1, 2, 3, 4, 5] rfl⟩ (Nat.le_refl _) (Nat.le_refl _) (fun i hi z H locs ls hI K1 => ?_) (fun z H locs ls hI => ?_)
      · obtain ⟨hw, hSt, hl⟩ := hI
        try dsimp only at hw hSt
        refine lv_iload hx hb dL_build_122 (lv_at hl 0 rfl) ?_
        refine lv_bipush (v := 16) hx hb dL_build_124 (by decide) ?_
        refine gt_ge_f (tgt := 159) hC i 16 dL_build_126 (by decide) rfl rfl (by omega) (by omega) ?_
        refine lv_aload_n hx hb dL_build_129 rfl (lv_at hl 4 rfl) ?_
        refine lv_aload_n hx hb dL_build_130 rfl (lv_at hl 3 rfl) ?_
        refine lv_aload_n hx hb dL_build_131 rfl (lv_at hl 5 rfl) ?_
        refine lv_iload hx hb dL_build_132 (lv_at hl 0 rfl) ?_
        refine lx_callS hC 2 (ct_L_cell l D cI cR bb nn xs hnn _ _ _ i (by omega)) gL_build_L_cell dL_build_134 hE hK hw hA hl.1 rfl hd_L_cell ⟨Nat.le_of_ble_eq_true rfl, Nat.le_of_ble_eq_true rfl⟩ ⟨by show 4 + (g0 + k0 + i) * 250 + 0 ≤ 8010; omega, by show 6 + (g0 + k0 + i) * 2500 + 0 ≤ 80010; omega⟩ rfl rfl (Nat.le_of_ble_eq_true rfl) (fun rv X2 L2 f2 H locs hp hw => ?_)
        obtain ⟨⟨v7, rfl⟩, e7, e8, e9⟩ := hp
        rw [e7, e8, e9] at hw
        refine gt_stk [.int v7, .ref q, .ref t] rfl ?_
        refine lv_iconst (v := 2) hx hb dL_build_137 (by decide) ?_
        refine lv_ishr hx hb dL_build_138 ?_
        refine lv_bipush (v := 41) hx hb dL_build_139 (by decide) ?_
        refine lv_iload hx hb dL_build_141 (lv_at hl 0 rfl) ?_
        refine lv_imul hx hb dL_build_143 ?_
        refine lv_iadd hx hb dL_build_144 ?_
        refine lx_callW hC 3 (ct_act l hl0 D cI cR bb nn xs t o r o1 r1 q _ _ _ _ hSt (by omega) _) gL_build_L_act dL_build_145 hE hK hw hA hl.1 rfl hd_L_act ⟨Nat.le_of_ble_eq_true rfl, Nat.le_of_ble_eq_true rfl⟩ ⟨by show 4 + (g0 + k0 + i) * 250 + 0 + 250 ≤ 8010; omega, by show 6 + (g0 + k0 + i) * 2500 + 0 + 2500 ≤ 80010; omega⟩ rfl rfl (Nat.le_of_ble_eq_true rfl) (fun rv X2 L2 f2 H locs hp hw => ?_)
        obtain ⟨rfl, hSt2⟩ := hp
        refine gt_stk [.int 1] rfl ?_
        refine lv_if_ne (tgt := 153) hx hb dL_build_148 (by decide) (fun _ => ?_) (fun z => absurd z (by decide))
        refine gt_inc (lv' := [(5, .int (nI (i + 1))), (4, .int (nI k0)), (3, .int (nI g0)), (2, .ref q), (0, .ref t), (1, .ref bb)]) hC 0 i dL_build_153 hl rfl rfl (by decide) rfl (fun ls hl => ?_)
        refine lv_goto (tgt := 122) hx hb dL_build_156 (by decide) ?_
        exact K1 (X2, L2, f2) H locs ls _ _ ⟨hw, hSt2, lv_sub hl [0, 1, 2, 3, 4, 5] rfl⟩ (by show 4 + (g0 + k0 + i) * 250 + 0 + 250 ≤ 4 + (g0 + k0 + (i + 1)) * 250; omega) (by show 6 + (g0 + k0 + i) * 2500 + 0 + 2500 ≤ 6 + (g0 + k0 + (i + 1)) * 2500; omega)
      · obtain ⟨hw, hSt, hl⟩ := hI
        try dsimp only at hw hSt ⊢
        refine lv_iload hx hb dL_build_122 (lv_at hl 0 rfl) ?_
        refine lv_bipush (v := 16) hx hb dL_build_124 (by decide) ?_
        refine gt_ge_t (tgt := 159) hC 16 16 dL_build_126 (by decide) rfl rfl (Nat.le_refl _) (by omega) ?_
        refine lv_aload_n hx hb dL_build_159 rfl (lv_at hl 3 rfl) ?_
        exact lx_aret hC hr (Or.inl ⟨_, rfl⟩) hlk hw ⟨q, rfl, hSt.mono (by omega) (by omega)⟩ dL_build_160 (by show 4 + (g0 + k0 + 16) * 250 ≤ 8010; omega) (by show 6 + (g0 + k0 + 16) * 2500 ≤ 80010; omega)
