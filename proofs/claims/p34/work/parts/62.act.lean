/-! The law's below, cell and act (laid by wip/p34/gen/sim7.py). -/
def bel (v n : Int32) : Int32 := (v &&& 2147483647) - (v &&& 2147483647) / n * n
theorem bel_nI (v : Int32) {m : Nat} (h1 : 1 ≤ m) (h2 : m < 1000) : ∃ j, j < m ∧ bel v (nI m) = nI j := by
  have h3 : (v &&& 2147483647).toBitVec.toNat < 2 ^ 31 := by
    rw [Int32.toBitVec_and, BitVec.toNat_and, show (2147483647 : Int32).toBitVec.toNat = 2 ^ 31 - 1 from by decide, Nat.and_two_pow_sub_one_eq_mod]
    exact Nat.mod_lt _ (by decide)
  have h4 : (v &&& 2147483647).toInt = ((v &&& 2147483647).toBitVec.toNat : Int) := by
    show (v &&& 2147483647).toBitVec.toInt = _
    exact BitVec.toInt_eq_toNat_of_lt (by omega)
  have h5 : ¬ (v &&& 2147483647) < 0 := by
    rw [Int32.lt_iff_toInt_lt, h4]
    simp
  obtain ⟨a, ha, ea⟩ := nI_of h5
  refine ⟨a % m, Nat.mod_lt _ (by omega), ?_⟩
  have h6 : a / m ≤ a := Nat.div_le_self a m
  have h7 : nI a / nI m = nI (a / m) := by
    rw [← Int32.toInt_inj, Int32.toInt_div, nI_toInt ha, nI_toInt (by omega), nI_toInt (by omega), ← Int.ofNat_tdiv]
    have q1 : ((a / m : Nat) : Int) ≤ a := Int.ofNat_le.mpr h6
    have q0 : (0 : Int) ≤ ((a / m : Nat) : Int) := Int.natCast_nonneg _
    generalize ((a / m : Nat) : Int) = q at q1 q0 ⊢
    exact Int.bmod_eq_of_le (by omega) (by omega)
  have h8 : a / m * m ≤ a := Nat.div_mul_le_self a m
  have h9 : m * (a / m) + a % m = a := Nat.div_add_mod a m
  rw [Nat.mul_comm] at h9
  unfold bel
  rw [ea, h7, show nI (a / m) * nI m = nI (a / m * m) from (Int32.ofNat_mul ..).symm, nI_sub h8]
  exact congrArg nI (by omega)
theorem nI_ne9 {m : Nat} (h1 : 1 ≤ m) (h2 : m < 1000) : ¬ nI m = 0 := fun z => by
  have := (nI_eq (a := m) (b := 0) (by omega) (by omega)).mp z
  omega
theorem hd_L_below : yL_below.cls ≠ "java/lang/invoke/MethodHandle" ∧ yL_below.cls ≠ "java/lang/invoke/VarHandle" ∧ (parseMethodDescriptor yL_below.desc).map (fun d => d.parameters.length) = some 2 := by decide +kernel
theorem ct_L_below (l : Launch) (D : va_G) (v n : Int32) (hn : ¬ n = 0) : Ct l D [] yL_below wsL_below 0 0 0 0 [.int v, .int n] [] (some (.int (bel v n))) [] := by
  refine Ct.ofW (cc := cL_below) (maxL := 2) (ret := some .int) (by decide) rfl (Nat.le_of_ble_eq_true rfl) ?_
  intro p e s m below meth c A ls hC hr hlk _ hP hD hS hK hA hl
  have hx := hC.1
  have hb := hC.2.1
  have hl : lv_has ls 2 [(0, .int v), (1, .int n)] := hl
  refine lv_iload_n hx hb dL_below_0 rfl (lv_at hl 0 rfl) ?_
  refine lv_ldc (v := 2147483647) hx hb hC.2.2.2.1 (hC.2.2.2.2 _ (List.mem_of_getElem? (i := 1) rfl)) dL_below_1 ?_
  refine lv_iand hx hb dL_below_3 ?_
  refine lv_iload_n hx hb dL_below_4 rfl (lv_at hl 1 rfl) ?_
  refine lv_irem hx hb dL_below_5 hn ?_
  exact gt_iret hC hr hlk hK hP hD hS rfl rfl dL_below_6 (Nat.le_refl _) (Nat.le_refl _)
theorem hd_L_cell : yL_cell.cls ≠ "java/lang/invoke/MethodHandle" ∧ yL_cell.cls ≠ "java/lang/invoke/VarHandle" ∧ (parseMethodDescriptor yL_cell.desc).map (fun d => d.parameters.length) = some 2 := by decide +kernel
theorem ct_L_cell (l : Launch) (D : va_G) (cI cR : ClassId) (b n : Nat) (xs : Nat → Int32) (hn : n ≤ 260) (X : va_W) (L : List Nat) (f : Nat → va_E) (k : Nat) (hk : k < 1000) : CtL l D cI cR b n xs yL_cell wsL_cell 0 0 0 0 [.ref b, .int (nI k)] X L f (fun rv X1 L1 f1 => (∃ v, rv = some (.int v)) ∧ X1 = X ∧ L1 = L ∧ f1 = f) := by
  refine CtL.ofW (cc := cL_cell) (maxL := 2) (ret := some .int) (by decide) rfl (Nat.le_of_ble_eq_true rfl) ?_
  intro p e s m below meth c A ls hC hr hlk hE hw hK hA hl
  have hx := hC.1
  have hb := hC.2.1
  have hl : lv_has ls 2 [(0, .ref b), (1, .int (nI k))] := hl
  refine lv_iload_n hx hb dL_cell_0 rfl (lv_at hl 1 rfl) ?_
  refine lv_aload_n hx hb dL_cell_1 rfl (lv_at hl 0 rfl) ?_
  refine va_slen hx hb hE.2.2.1 hE.2.2.2.1 hE.2.2.2.2.1 hw.2.2 dL_cell_2 ?_
  refine gt_stk [.int (nI n), .int (nI k)] rfl ?_
  refine lv_icmp_ge (tgt := 12) hx hb dL_cell_3 (by decide) (fun h3 : nI n ≤ nI k => ?_) (fun h3 : ¬ nI n ≤ nI k => ?_)
  · refine lv_ldc (v := 790386105) hx hb hC.2.2.2.1 (hC.2.2.2.2 _ (List.mem_of_getElem? (i := 1) rfl)) dL_cell_12 ?_
    refine lv_iload_n hx hb dL_cell_14 rfl (lv_at hl 1 rfl) ?_
    refine lv_iconst (v := 3) hx hb dL_cell_15 (by decide) ?_
    refine lv_iadd hx hb dL_cell_16 ?_
    refine lv_imul hx hb dL_cell_17 ?_
    exact lx_iret hC hr hlk hw ⟨⟨_, rfl⟩, rfl, rfl, rfl⟩ dL_cell_18 (Nat.le_refl _) (Nat.le_refl _)
  · have hkn : k < n := by
      rcases Nat.lt_or_ge k n with z | z
      · exact z
      · exact absurd (nI_le z (by omega)) h3
    refine lv_aload_n hx hb dL_cell_6 rfl (lv_at hl 0 rfl) ?_
    refine lv_iload_n hx hb dL_cell_7 rfl (lv_at hl 1 rfl) ?_
    refine va_sld hx hb hE.2.2.1 hE.2.2.2.1 hE.2.2.2.2.1 hw.2.2 (vp_in_nI hkn (by omega)) dL_cell_8 ?_
    refine lv_goto (tgt := 18) hx hb dL_cell_9 (by decide) ?_
    exact lx_iret hC hr hlk hw ⟨⟨_, rfl⟩, rfl, rfl, rfl⟩ dL_cell_18 (Nat.le_refl _) (Nat.le_refl _)
theorem rw8_rng : ∀ j, j < 8 → rw8 j < 7 ∨ rw8 j = 11 := by decide
theorem x_addGate (S : SS) {a : Nat} {b : Int32} (a1 : 1 ≤ a) (a2 : a ≤ 9) (hb : b = 0 ∨ b = 1) : ((xNum (nI a) 9).or ((xOrd b).or (xRg S))) = xRg S := by
  rw [show xNum (nI a) 9 = none from xNum_ok (m := 9) a1 a2 (by omega)]
  rcases hb with e | e
  · rw [e]; rfl
  · rw [e]; rfl
theorem x_addGoat (S : SS) {a : Nat} (a1 : 1 ≤ a) (a2 : a ≤ 9) : ((xNum (nI a) 9).or (xRk S)) = xRk S := by
  rw [show xNum (nI a) 9 = none from xNum_ok (m := 9) a1 a2 (by omega)]
  rfl
theorem nI_01 {j : Nat} (h : j < 2) : nI j = 0 ∨ nI j = 1 := by
  rcases (show j = 0 ∨ j = 1 by omega) with e | e
  · exact Or.inl (by rw [e]; rfl)
  · exact Or.inr (by rw [e]; rfl)
section LM
variable {p : Program} {l : Launch} {e : Env} {R : Room} {s : State} {m : MethodId} {args : Array Value} {below : List Frame} {meth : Method} {c : Code} {H : Heap} {locs : List Loc} {cells slots : Nat} {Q : State → Prop}
variable {pc : Nat} {ls : Array Slot} {st0 : List Value} {D : va_G} {A : Nat → Prop} {H0 : Heap} {X : va_W} {L : List Nat} {f : Nat → va_E}
/-- ways meet again -/
theorem lx_meet {σ : Type} (Pr : σ → Prop) (st : σ → List Value) (t : Nat) (hw : SW D A H0 X L f H locs) (k1 : (∀ (z : σ) (H : Heap) (locs : List Loc), Pr z → SW D A H0 X L f H locs → W p l e R s m args below meth c H locs cells slots Q (F0 m t ls (st z))) → W p l e R s m args below meth c H locs cells slots Q (F0 m pc ls st0)) (k2 : ∀ (z : σ) (H : Heap) (locs : List Loc), Pr z → SW D A H0 X L f H locs → W p l e R s m args below meth c H locs cells slots Q (F0 m t ls (st z))) : W p l e R s m args below meth c H locs cells slots Q (F0 m pc ls st0) := k1 k2
end LM
theorem hd_L_act : yL_act.cls ≠ "java/lang/invoke/MethodHandle" ∧ yL_act.cls ≠ "java/lang/invoke/VarHandle" ∧ (parseMethodDescriptor yL_act.desc).map (fun d => d.parameters.length) = some 3 := by decide +kernel
set_option maxHeartbeats 16000000 in
set_option maxRecDepth 100000 in
theorem ct_L_act (l : Launch) (hl0 : l.stackTraces = false) (D : va_G) (cI cR : ClassId) (bb nn : Nat) (xs : Nat → Int32) (t o : Nat) (r : Nat → Nat) (S : SS) (o1 : Nat) (r1 : Nat → Nat) (Tt : SS) (L : List Nat) (f : Nat → va_E) (ad : Nat → Nat → Nat) (T G N : Nat) (M : SS) (Ls : Nat → List Nat) (hI : SimI cI cR L f ad G N G M Ls) (hLI : LI T G N S M Ls) (hLJ : LJ G N M) (hT : T < 100000) (x : Int32) : CwL l D cI cR bb nn xs yL_act wsL_act 8 130 250 2500 [.ref t, .ref (ad 0 0), .int x] (tw cI t o r S o1 r1 Tt) L f (fun rv X1 L1 f1 => rv = some (.int 1) ∧ ∃ (G1 N1 : Nat) (S1 M1 : SS) (Ls1 : Nat → List Nat) (ad1 : Nat → Nat → Nat) (T1 : SS), X1 = tw cI t o r S1 o1 r1 T1 ∧ SimI cI cR L1 f1 ad1 G1 N1 G1 M1 Ls1 ∧ LI (T + 1) G1 N1 S1 M1 Ls1 ∧ LJ G1 N1 M1 ∧ (T + 1 = 0 ∨ 1 ≤ G1) ∧ ad1 0 0 = ad 0 0) := by
  refine CwL.ofW (cc := cL_act) (maxL := 12) (ret := some .boolean) (hh := [(16, 131, 665, 62), (132, 246, 665, 62), (247, 477, 665, 62), (478, 562, 665, 62), (563, 615, 665, 62), (616, 664, 665, 62)]) (by decide) rfl (Nat.le_of_ble_eq_true rfl) ?_
  intro p e s m below meth c A ls hC hr hlk htab hE hw hK hA hl
  have hx := hC.1
  have hb := hC.2.1
  have hinX2 : ∀ w ∈ wsX20, w ∈ wsL_act := fun _ _h => List.mem_cons_of_mem _ (List.mem_append_left _ (List.mem_append_left _ (List.mem_append_left _ (List.mem_append_left _ (List.mem_append_left _ (List.mem_append_right _ _h))))))
  have hl : lv_has ls 12 [(0, .ref t), (1, .ref (ad 0 0)), (2, .int x)] := hl
  have hN := hLI.1.1
  have hG4 := hLI.1.2.1
  have hSG := hLI.1.2.2.1
  have hSN := hLI.1.2.2.2.1
  refine lv_aload_n hx hb dL_act_0 rfl (lv_at hl 1 rfl) ?_
  refine sm_fld hC 4 2 hinX2 hK hw hI dL_act_1 rfl (by decide) rfl rfl ?_
  refine sm_kn hC hK hw hI dL_act_4 ?_
  refine lv_istore_n (lv' := [(3, .int (nI N)), (0, .ref t), (1, .ref (ad 0 0)), (2, .int x)]) hx hb dL_act_5 rfl hl (by decide) rfl (fun ls hl => ?_)
  refine lv_aload_n hx hb dL_act_6 rfl (lv_at hl 2 rfl) ?_
  refine sm_fld hC 3 3 hinX2 hK hw hI dL_act_7 rfl (by decide) rfl rfl ?_
  refine sm_gn hC hK hw hI dL_act_10 ?_
  refine lv_istore (lv' := [(4, .int (nI G)), (3, .int (nI N)), (0, .ref t), (1, .ref (ad 0 0)), (2, .int x)]) hx hb dL_act_11 hl (by decide) rfl (fun ls hl => ?_)
  refine lv_iconst (v := 1) hx hb dL_act_13 (by decide) ?_
  refine lv_istore (lv' := [(5, .int 1), (4, .int (nI G)), (3, .int (nI N)), (0, .ref t), (1, .ref (ad 0 0)), (2, .int x)]) hx hb dL_act_14 hl (by decide) rfl (fun ls hl => ?_)
  refine lv_iload hx hb dL_act_16 (lv_at hl 1 rfl) ?_
  refine lv_if_eq (tgt := 30) hx hb dL_act_18 (by decide) (fun h18 : nI G = 0 => ?_) (fun h18 : ¬ (nI G = 0) => ?_)
  · skip
    refine lv_iconst (v := 2) hx hb dL_act_30 (by decide) ?_
    refine px_newi hC 4 rfl hK hw hA 2 rfl (by decide) ⟨by show _ ≤ 250; omega, by show _ ≤ 2500; omega⟩ dL_act_31 (fun q H hq hw => ?_)
    have hqL : q ∈ L ++ [q] := List.mem_append_right _ List.mem_cons_self
    refine lv_dup hx hb dL_act_33 rfl ?_
    refine lv_iconst (v := 0) hx hb dL_act_34 (by decide) ?_
    refine lv_iconst (v := 1) hx hb dL_act_35 (by decide) ?_
    refine lv_iload_n hx hb dL_act_36 rfl (lv_at hl 5 rfl) ?_
    refine lv_iconst (v := 4) hx hb dL_act_37 (by decide) ?_
    refine lv_ishr hx hb dL_act_38 ?_
    refine lv_bipush (v := 9) hx hb dL_act_39 (by decide) ?_
    refine lx_callB hC 2 (ct_L_below l D (x >>> (4 &&& 31)) 9 (nI_ne9 (m := 9) (by omega) (by omega))) gL_act_L_below dL_act_41 hK hw hA hl.1 rfl hd_L_below ⟨Nat.le_of_ble_eq_true rfl, Nat.le_of_ble_eq_true rfl⟩ ⟨by show _ ≤ 250; omega, by show _ ≤ 2500; omega⟩ rfl rfl (Nat.le_of_ble_eq_true rfl) (fun H locs hw => ?_)
    obtain ⟨j1, hj1, ej1⟩ : ∃ j, j < 9 ∧ bel (x >>> (4 &&& 31)) 9 = nI j := bel_nI (x >>> (4 &&& 31)) (m := 9) (by omega) (by omega)
    rw [ej1]
    refine gt_stk [.int (nI j1), .int 1, .int 0, .ref q, .ref q] rfl ?_
    refine lv_iadd hx hb dL_act_44 ?_
    refine gt_stk [.int (nI (1 + j1)), .int 0, .ref q, .ref q] (by rw [← nI_add]; rfl) ?_
    refine px_ist hC 0 hK hw hqL (va_up_self _ _ _) dL_act_45 rfl (by decide) (by decide) (fun H locs hw => ?_)
    rw [va_up_up] at hw
    refine lv_dup hx hb dL_act_46 rfl ?_
    refine lv_iconst (v := 1) hx hb dL_act_47 (by decide) ?_
    refine lv_iload_n hx hb dL_act_48 rfl (lv_at hl 5 rfl) ?_
    refine lv_bipush (v := 6) hx hb dL_act_49 (by decide) ?_
    refine lv_ishr hx hb dL_act_51 ?_
    refine lv_iconst (v := 2) hx hb dL_act_52 (by decide) ?_
    refine lx_callB hC 2 (ct_L_below l D (x >>> (6 &&& 31)) 2 (nI_ne9 (m := 2) (by omega) (by omega))) gL_act_L_below dL_act_53 hK hw hA hl.1 rfl hd_L_below ⟨Nat.le_of_ble_eq_true rfl, Nat.le_of_ble_eq_true rfl⟩ ⟨by show _ ≤ 250; omega, by show _ ≤ 2500; omega⟩ rfl rfl (Nat.le_of_ble_eq_true rfl) (fun H locs hw => ?_)
    obtain ⟨j2, hj2, ej2⟩ : ∃ j, j < 2 ∧ bel (x >>> (6 &&& 31)) 2 = nI j := bel_nI (x >>> (6 &&& 31)) (m := 2) (by omega) (by omega)
    rw [ej2]
    refine gt_stk [.int (nI j2), .int 1, .ref q, .ref q] rfl ?_
    refine px_ist hC 1 hK hw hqL (va_up_self _ _ _) dL_act_56 rfl (by decide) (by decide) (fun H locs hw => ?_)
    rw [va_up_up] at hw
    have hb01 := nI_01 hj2
    obtain ⟨xq, hx0, hx1, hxq⟩ : ∃ xq : Nat → Int32, xq 0 = nI (1 + j1) ∧ xq 1 = nI j2 ∧ upd (upd (fun _ => 0) 0 (nI (1 + j1))) 1 (nI j2) = xq := ⟨_, by simp [upd], by simp [upd], rfl⟩
    rw [hxq] at hw
    have hI1 := hI.new (e := .inl (cI, 2, .inl xq)) hq
    refine lv_astore (lv' := [(6, .ref q), (5, .int 1), (4, .int (nI G)), (3, .int (nI N)), (0, .ref t), (1, .ref (ad 0 0)), (2, .int x)]) hx hb dL_act_57 hl (by decide) rfl (fun ls hl => ?_)
    refine lv_iload hx hb dL_act_59 (lv_at hl 2 rfl) ?_
    refine lv_iconst (v := 4) hx hb dL_act_61 (by decide) ?_
    refine lv_icmp_ge (tgt := 69) hx hb dL_act_62 (by decide) (fun h62 : 4 ≤ (nI G) => ?_) (fun h62 : ¬ (4 ≤ (nI G)) => ?_)
    · skip
      have hG44 : ¬ G < 4 := fun z => by
        have := (nI_leI (a := 4) (b := G) (by omega) (by omega)).mp h62
        omega
      refine lv_iconst (v := 0) hx hb dL_act_69 (by decide) ?_
      refine lv_istore (lv' := [(5, .int 0), (6, .ref q), (4, .int (nI G)), (3, .int (nI N)), (0, .ref t), (1, .ref (ad 0 0)), (2, .int x)]) hx hb dL_act_70 hl (by decide) rfl (fun ls hl => ?_)
      refine lv_iload hx hb dL_act_72 (lv_at hl 0 rfl) ?_
      refine lv_if_eq (tgt := 104) hx hb dL_act_74 (by decide) (fun _ => ?_) (fun z => absurd rfl z)
      have hxs : xRg S = some gxIS := by unfold xRg; rw [hSG]; exact if_neg (fun z => hG44 ((nI_ltI (a := G) (b := 4) (by omega) (by omega)).mp z))
      refine lv_aload_n hx hb dL_act_104 rfl (lv_at hl 4 rfl) ?_
      refine lv_aload hx hb dL_act_105 (lv_at hl 1 rfl) ?_
      refine lv_iconst (v := 0) hx hb dL_act_107 (by decide) ?_
      refine px_ild hC 0 hK hw hqL (va_up_self _ _ _) dL_act_108 rfl (by decide) (by decide) hx0 ?_
      refine lv_aload hx hb dL_act_109 (lv_at hl 1 rfl) ?_
      refine lv_iconst (v := 1) hx hb dL_act_111 (by decide) ?_
      refine px_ild hC 1 hK hw hqL (va_up_self _ _ _) dL_act_112 rfl (by decide) (by decide) hx1 ?_
      have hM := ct_X1_addGate l hl0 D cI t o r S o1 r1 Tt (nI (1 + j1)) (nI j2) G hSG hG4
      rw [x_addGate S (by omega) (by omega) hb01] at hM
      refine tx_callX hC 0 1 2 hM gL_act_X1_addGate dL_act_113 hE hK hw hA hl.1 rfl hd_X1_addGate ⟨Nat.le_of_ble_eq_true rfl, Nat.le_of_ble_eq_true rfl⟩ ⟨by show _ ≤ 250; omega, by show _ ≤ 2500; omega⟩ rfl rfl rfl rfl (Nat.le_of_ble_eq_true rfl) (fun E ce q9 H locs hEx hw h1 h2 h3 => ?_) (fun hn => nomatch (hxs.symm.trans hn))
      have hEE : E = gxIS := Option.some.inj (hEx.symm.trans hxs)
      subst hEE
      refine vx_catch (own := RL) (name := gxIS) hC.2.2.2.1 [] ⟨16, 131, 665, 62⟩ [⟨132, 246, 665, 62⟩, ⟨247, 477, 665, 62⟩, ⟨478, 562, 665, 62⟩, ⟨563, 615, 665, 62⟩, ⟨616, 664, 665, 62⟩] htab (fun z hz => nomatch hz) rfl (by decide) (hC.2.2.2.2 _ (List.mem_of_getElem? (i := 1) rfl)) (va_Nw.use rfl hE.2.1.2.2.2.2.2.1) h1 h2 h3 ?_
      refine lv_astore (lv' := [(6, .ref q9), (5, .int 0), (4, .int (nI G)), (3, .int (nI N)), (0, .ref t), (1, .ref (ad 0 0)), (2, .int x)]) hx hb dL_act_665 hl (by decide) rfl (fun ls hl => ?_)
      refine lv_iload hx hb dL_act_667 (lv_at hl 1 rfl) ?_
      refine lv_if_ne (tgt := 676) hx hb dL_act_669 (by decide) (fun z => absurd rfl z) (fun _ => ?_)
      refine lv_iconst (v := 1) hx hb dL_act_672 (by decide) ?_
      refine lv_goto (tgt := 677) hx hb dL_act_673 (by decide) ?_
      exact lx_zretW hC hr hlk hw (Or.inr rfl) ⟨rfl, G, N, S, M, Ls, ad, Tt, rfl, hI1, hLI.mono (by omega), hLJ, Or.inr (by omega), rfl⟩ dL_act_677 (by show _ ≤ 250; omega) (by show _ ≤ 2500; omega)
    · skip
      have hG44 : G < 4 := by
        rcases Nat.lt_or_ge G 4 with z | z
        · exact z
        · exact absurd (nI_le (a := 4) z (by omega)) h62
      refine lv_iconst (v := 1) hx hb dL_act_65 (by decide) ?_
      refine lv_goto (tgt := 70) hx hb dL_act_66 (by decide) ?_
      refine lv_istore (lv' := [(5, .int 1), (6, .ref q), (4, .int (nI G)), (3, .int (nI N)), (0, .ref t), (1, .ref (ad 0 0)), (2, .int x)]) hx hb dL_act_70 hl (by decide) rfl (fun ls hl => ?_)
      refine lv_iload hx hb dL_act_72 (lv_at hl 0 rfl) ?_
      refine lv_if_eq (tgt := 104) hx hb dL_act_74 (by decide) (fun z => absurd z (by decide)) (fun _ => ?_)
      have hxn : xRg S = none := by unfold xRg; rw [hSG]; exact if_pos (nI_lt (b := 4) hG44 (by omega))
      obtain ⟨M', hLI', hlow, hgt, h9, h10⟩ := do_addGate hLI hG44 (a := 1 + j1) (b := nI j2) (by omega) (by omega) hb01
      have hI2 : SimI cI cR (L ++ [q]) _ ad G N G M' (lsU Ls G []) := (hI1.congr (M1 := M') (fun i hi => hlow 8 i (by omega)) (fun g hg => hgt g hg) (fun k hk j hj => hlow (rw8 j) k (by have := rw8_rng j hj; omega))).lines (fun g hg => lsU_ne _ _ (by omega))
      refine lv_aload_n hx hb dL_act_77 rfl (lv_at hl 5 rfl) ?_
      refine lv_aload_n hx hb dL_act_78 rfl (lv_at hl 5 rfl) ?_
      refine sm_fld hC 3 3 hinX2 hK hw hI2 dL_act_79 rfl (by decide) rfl rfl ?_
      refine lv_aload hx hb dL_act_82 (lv_at hl 1 rfl) ?_
      refine sm_addG hC 3 gL_act_X2_with hinX2 hE.1 hK hw hA hl.1 hI2 hqL (va_up_self _ _ _) (hx0.trans h9.symm) (hx1.trans h10.symm) (fun j hj => px_ne (hI.2.2.2.2.1 j hj).1 hq) (fun g hg => Ne.symm (px_ne (hI.2.2.2.2.2.2.1 g hg).1 hq)) (by omega) dL_act_84 dL_act_87 rfl ⟨Nat.le_of_ble_eq_true rfl, Nat.le_of_ble_eq_true rfl⟩ ⟨by show _ ≤ 250; omega, by show _ ≤ 2500; omega⟩ (Nat.le_of_ble_eq_true rfl) (fun q2 f2 H locs hq2 hw hI3 hf2 => ?_)
      have hqn : q ≠ ad 0 0 := hI1.o_ne (va_up_self _ _ _)
      have e1 : f2 q = .inl (cI, 2, .inl xq) := (hf2 q hqL hqn).trans (va_up_self _ _ _)
      have hqL2 : q ∈ L ++ [q] ++ [q2] := List.mem_append_left _ hqL
      generalize ha3 : adB ad 1 1 G q q2 = a3 at hI3
      have h00 : a3 0 0 = ad 0 0 := by rw [← ha3]; rfl
      rw [← h00] at hl
      refine lv_aload_n hx hb dL_act_90 rfl (lv_at hl 5 rfl) ?_
      refine lv_aload_n hx hb dL_act_91 rfl (lv_at hl 5 rfl) ?_
      refine sm_fld hC 5 5 hinX2 hK hw hI3 dL_act_92 rfl (by decide) rfl rfl ?_
      refine lv_iconst (v := 0) hx hb dL_act_95 (by decide) ?_
      refine px_newi hC 4 rfl hK hw hA 0 rfl (by decide) ⟨by show _ ≤ 250; omega, by show _ ≤ 2500; omega⟩ dL_act_96 (fun q3 H hq3 hw => ?_)
      have hI4 := hI3.new (e := .inl (cI, 0, .inl (fun _ => 0))) hq3
      refine sm_addL hC 5 gL_act_X2_with hinX2 hE.1 hK hw hA hl.1 hI4 (List.mem_append_right _ List.mem_cons_self) ⟨fun _ => 0, by rw [lsU_self]; exact va_up_self _ _ _, fun i k h => by rw [lsU_self] at h; cases h⟩ (fun j hj => px_ne (hI3.2.2.2.2.1 j hj).1 hq3) (fun j hj => px_ne (hI3.2.2.2.2.2.1 j hj).1 hq3) (by omega) dL_act_98 dL_act_101 rfl ⟨Nat.le_of_ble_eq_true rfl, Nat.le_of_ble_eq_true rfl⟩ ⟨by show _ ≤ 250; omega, by show _ ≤ 2500; omega⟩ (Nat.le_of_ble_eq_true rfl) (fun q4 f5 H locs hq4 hw hI5 hf5 => ?_)
      have hqL3 : q ∈ L ++ [q] ++ [q2] ++ [q3] := List.mem_append_left _ hqL2
      have e3 : f5 q = .inl (cI, 2, .inl xq) := (hf5 q hqL3 (by rw [h00]; exact hqn)).trans ((va_up_ne _ _ (px_ne hqL2 hq3)).trans e1)
      have hqL4 : q ∈ L ++ [q] ++ [q2] ++ [q3] ++ [q4] := List.mem_append_left _ hqL3
      refine lv_aload_n hx hb dL_act_104 rfl (lv_at hl 4 rfl) ?_
      refine lv_aload hx hb dL_act_105 (lv_at hl 1 rfl) ?_
      refine lv_iconst (v := 0) hx hb dL_act_107 (by decide) ?_
      refine px_ild hC 0 hK hw hqL4 e3 dL_act_108 rfl (by decide) (by decide) hx0 ?_
      refine lv_aload hx hb dL_act_109 (lv_at hl 1 rfl) ?_
      refine lv_iconst (v := 1) hx hb dL_act_111 (by decide) ?_
      refine px_ild hC 1 hK hw hqL4 e3 dL_act_112 rfl (by decide) (by decide) hx1 ?_
      have hM := ct_X1_addGate l hl0 D cI t o r S o1 r1 Tt (nI (1 + j1)) (nI j2) G hSG hG4
      rw [x_addGate S (by omega) (by omega) hb01] at hM
      refine tx_callX hC 0 1 2 hM gL_act_X1_addGate dL_act_113 hE hK hw hA hl.1 rfl hd_X1_addGate ⟨Nat.le_of_ble_eq_true rfl, Nat.le_of_ble_eq_true rfl⟩ ⟨by show _ ≤ 250; omega, by show _ ≤ 2500; omega⟩ rfl rfl rfl rfl (Nat.le_of_ble_eq_true rfl) (fun E ce q9 H locs hEx hw h1 h2 h3 => nomatch (hxn.symm.trans hEx)) (fun _ H locs hw => ?_)
      refine gt_stk [.int (nI G)] (by rw [← hSG]; rfl) ?_
      refine lv_iload hx hb dL_act_116 (lv_at hl 2 rfl) ?_
      refine lv_icmp_ne (tgt := 130) hx hb dL_act_118 (by decide) (fun z => absurd rfl z) (fun _ => ?_)
      refine lv_iload hx hb dL_act_121 (lv_at hl 0 rfl) ?_
      refine lv_if_eq (tgt := 130) hx hb dL_act_123 (by decide) (fun z => absurd z (by decide)) (fun _ => ?_)
      refine lv_iconst (v := 1) hx hb dL_act_126 (by decide) ?_
      refine lv_goto (tgt := 131) hx hb dL_act_127 (by decide) ?_
      exact lx_zretW hC hr hlk hw (Or.inr rfl) ⟨rfl, G + 1, N, _, M', _, _, Tt, rfl, hI5, (hLI'.mono (by omega)), lj_addGate hLI hLJ hG44 hlow hgt, Or.inr (by omega), h00⟩ dL_act_131 (by show _ ≤ 250; omega) (by show _ ≤ 2500; omega)
  · skip
    have hG1 : 1 ≤ G := by
      rcases Nat.eq_zero_or_pos G with z | z
      · exact absurd (by rw [z]; rfl) h18
      · exact z
    refine lv_iload_n hx hb dL_act_21 rfl (lv_at hl 5 rfl) ?_
    refine lv_bipush (v := 18) hx hb dL_act_22 (by decide) ?_
    refine lx_callB hC 2 (ct_L_below l D x 18 (nI_ne9 (m := 18) (by omega) (by omega))) gL_act_L_below dL_act_24 hK hw hA hl.1 rfl hd_L_below ⟨Nat.le_of_ble_eq_true rfl, Nat.le_of_ble_eq_true rfl⟩ ⟨by show _ ≤ 250; omega, by show _ ≤ 2500; omega⟩ rfl rfl (Nat.le_of_ble_eq_true rfl) (fun H locs hw => ?_)
    obtain ⟨j3, hj3, ej3⟩ : ∃ j, j < 18 ∧ bel x 18 = nI j := bel_nI x (m := 18) (by omega) (by omega)
    rw [ej3]
    refine gt_stk [.int (nI j3)] rfl ?_
    refine lv_if_ne (tgt := 132) hx hb dL_act_27 (by decide) (fun _ => ?_) (fun _ => ?_)
    rotate_left
    · skip
      refine lv_iconst (v := 2) hx hb dL_act_30 (by decide) ?_
      refine px_newi hC 4 rfl hK hw hA 2 rfl (by decide) ⟨by show _ ≤ 250; omega, by show _ ≤ 2500; omega⟩ dL_act_31 (fun q H hq hw => ?_)
      have hqL : q ∈ L ++ [q] := List.mem_append_right _ List.mem_cons_self
      refine lv_dup hx hb dL_act_33 rfl ?_
      refine lv_iconst (v := 0) hx hb dL_act_34 (by decide) ?_
      refine lv_iconst (v := 1) hx hb dL_act_35 (by decide) ?_
      refine lv_iload_n hx hb dL_act_36 rfl (lv_at hl 5 rfl) ?_
      refine lv_iconst (v := 4) hx hb dL_act_37 (by decide) ?_
      refine lv_ishr hx hb dL_act_38 ?_
      refine lv_bipush (v := 9) hx hb dL_act_39 (by decide) ?_
      refine lx_callB hC 2 (ct_L_below l D (x >>> (4 &&& 31)) 9 (nI_ne9 (m := 9) (by omega) (by omega))) gL_act_L_below dL_act_41 hK hw hA hl.1 rfl hd_L_below ⟨Nat.le_of_ble_eq_true rfl, Nat.le_of_ble_eq_true rfl⟩ ⟨by show _ ≤ 250; omega, by show _ ≤ 2500; omega⟩ rfl rfl (Nat.le_of_ble_eq_true rfl) (fun H locs hw => ?_)
      obtain ⟨j4, hj4, ej4⟩ : ∃ j, j < 9 ∧ bel (x >>> (4 &&& 31)) 9 = nI j := bel_nI (x >>> (4 &&& 31)) (m := 9) (by omega) (by omega)
      rw [ej4]
      refine gt_stk [.int (nI j4), .int 1, .int 0, .ref q, .ref q] rfl ?_
      refine lv_iadd hx hb dL_act_44 ?_
      refine gt_stk [.int (nI (1 + j4)), .int 0, .ref q, .ref q] (by rw [← nI_add]; rfl) ?_
      refine px_ist hC 0 hK hw hqL (va_up_self _ _ _) dL_act_45 rfl (by decide) (by decide) (fun H locs hw => ?_)
      rw [va_up_up] at hw
      refine lv_dup hx hb dL_act_46 rfl ?_
      refine lv_iconst (v := 1) hx hb dL_act_47 (by decide) ?_
      refine lv_iload_n hx hb dL_act_48 rfl (lv_at hl 5 rfl) ?_
      refine lv_bipush (v := 6) hx hb dL_act_49 (by decide) ?_
      refine lv_ishr hx hb dL_act_51 ?_
      refine lv_iconst (v := 2) hx hb dL_act_52 (by decide) ?_
      refine lx_callB hC 2 (ct_L_below l D (x >>> (6 &&& 31)) 2 (nI_ne9 (m := 2) (by omega) (by omega))) gL_act_L_below dL_act_53 hK hw hA hl.1 rfl hd_L_below ⟨Nat.le_of_ble_eq_true rfl, Nat.le_of_ble_eq_true rfl⟩ ⟨by show _ ≤ 250; omega, by show _ ≤ 2500; omega⟩ rfl rfl (Nat.le_of_ble_eq_true rfl) (fun H locs hw => ?_)
      obtain ⟨j5, hj5, ej5⟩ : ∃ j, j < 2 ∧ bel (x >>> (6 &&& 31)) 2 = nI j := bel_nI (x >>> (6 &&& 31)) (m := 2) (by omega) (by omega)
      rw [ej5]
      refine gt_stk [.int (nI j5), .int 1, .ref q, .ref q] rfl ?_
      refine px_ist hC 1 hK hw hqL (va_up_self _ _ _) dL_act_56 rfl (by decide) (by decide) (fun H locs hw => ?_)
      rw [va_up_up] at hw
      have hb01 := nI_01 hj5
      obtain ⟨xq, hx0, hx1, hxq⟩ : ∃ xq : Nat → Int32, xq 0 = nI (1 + j4) ∧ xq 1 = nI j5 ∧ upd (upd (fun _ => 0) 0 (nI (1 + j4))) 1 (nI j5) = xq := ⟨_, by simp [upd], by simp [upd], rfl⟩
      rw [hxq] at hw
      have hI1 := hI.new (e := .inl (cI, 2, .inl xq)) hq
      refine lv_astore (lv' := [(6, .ref q), (5, .int 1), (4, .int (nI G)), (3, .int (nI N)), (0, .ref t), (1, .ref (ad 0 0)), (2, .int x)]) hx hb dL_act_57 hl (by decide) rfl (fun ls hl => ?_)
      refine lv_iload hx hb dL_act_59 (lv_at hl 2 rfl) ?_
      refine lv_iconst (v := 4) hx hb dL_act_61 (by decide) ?_
      refine lv_icmp_ge (tgt := 69) hx hb dL_act_62 (by decide) (fun h62 : 4 ≤ (nI G) => ?_) (fun h62 : ¬ (4 ≤ (nI G)) => ?_)
      · skip
        have hG44 : ¬ G < 4 := fun z => by
          have := (nI_leI (a := 4) (b := G) (by omega) (by omega)).mp h62
          omega
        refine lv_iconst (v := 0) hx hb dL_act_69 (by decide) ?_
        refine lv_istore (lv' := [(5, .int 0), (6, .ref q), (4, .int (nI G)), (3, .int (nI N)), (0, .ref t), (1, .ref (ad 0 0)), (2, .int x)]) hx hb dL_act_70 hl (by decide) rfl (fun ls hl => ?_)
        refine lv_iload hx hb dL_act_72 (lv_at hl 0 rfl) ?_
        refine lv_if_eq (tgt := 104) hx hb dL_act_74 (by decide) (fun _ => ?_) (fun z => absurd rfl z)
        have hxs : xRg S = some gxIS := by unfold xRg; rw [hSG]; exact if_neg (fun z => hG44 ((nI_ltI (a := G) (b := 4) (by omega) (by omega)).mp z))
        refine lv_aload_n hx hb dL_act_104 rfl (lv_at hl 4 rfl) ?_
        refine lv_aload hx hb dL_act_105 (lv_at hl 1 rfl) ?_
        refine lv_iconst (v := 0) hx hb dL_act_107 (by decide) ?_
        refine px_ild hC 0 hK hw hqL (va_up_self _ _ _) dL_act_108 rfl (by decide) (by decide) hx0 ?_
        refine lv_aload hx hb dL_act_109 (lv_at hl 1 rfl) ?_
        refine lv_iconst (v := 1) hx hb dL_act_111 (by decide) ?_
        refine px_ild hC 1 hK hw hqL (va_up_self _ _ _) dL_act_112 rfl (by decide) (by decide) hx1 ?_
        have hM := ct_X1_addGate l hl0 D cI t o r S o1 r1 Tt (nI (1 + j4)) (nI j5) G hSG hG4
        rw [x_addGate S (by omega) (by omega) hb01] at hM
        refine tx_callX hC 0 1 2 hM gL_act_X1_addGate dL_act_113 hE hK hw hA hl.1 rfl hd_X1_addGate ⟨Nat.le_of_ble_eq_true rfl, Nat.le_of_ble_eq_true rfl⟩ ⟨by show _ ≤ 250; omega, by show _ ≤ 2500; omega⟩ rfl rfl rfl rfl (Nat.le_of_ble_eq_true rfl) (fun E ce q9 H locs hEx hw h1 h2 h3 => ?_) (fun hn => nomatch (hxs.symm.trans hn))
        have hEE : E = gxIS := Option.some.inj (hEx.symm.trans hxs)
        subst hEE
        refine vx_catch (own := RL) (name := gxIS) hC.2.2.2.1 [] ⟨16, 131, 665, 62⟩ [⟨132, 246, 665, 62⟩, ⟨247, 477, 665, 62⟩, ⟨478, 562, 665, 62⟩, ⟨563, 615, 665, 62⟩, ⟨616, 664, 665, 62⟩] htab (fun z hz => nomatch hz) rfl (by decide) (hC.2.2.2.2 _ (List.mem_of_getElem? (i := 1) rfl)) (va_Nw.use rfl hE.2.1.2.2.2.2.2.1) h1 h2 h3 ?_
        refine lv_astore (lv' := [(6, .ref q9), (5, .int 0), (4, .int (nI G)), (3, .int (nI N)), (0, .ref t), (1, .ref (ad 0 0)), (2, .int x)]) hx hb dL_act_665 hl (by decide) rfl (fun ls hl => ?_)
        refine lv_iload hx hb dL_act_667 (lv_at hl 1 rfl) ?_
        refine lv_if_ne (tgt := 676) hx hb dL_act_669 (by decide) (fun z => absurd rfl z) (fun _ => ?_)
        refine lv_iconst (v := 1) hx hb dL_act_672 (by decide) ?_
        refine lv_goto (tgt := 677) hx hb dL_act_673 (by decide) ?_
        exact lx_zretW hC hr hlk hw (Or.inr rfl) ⟨rfl, G, N, S, M, Ls, ad, Tt, rfl, hI1, hLI.mono (by omega), hLJ, Or.inr (by omega), rfl⟩ dL_act_677 (by show _ ≤ 250; omega) (by show _ ≤ 2500; omega)
      · skip
        have hG44 : G < 4 := by
          rcases Nat.lt_or_ge G 4 with z | z
          · exact z
          · exact absurd (nI_le (a := 4) z (by omega)) h62
        refine lv_iconst (v := 1) hx hb dL_act_65 (by decide) ?_
        refine lv_goto (tgt := 70) hx hb dL_act_66 (by decide) ?_
        refine lv_istore (lv' := [(5, .int 1), (6, .ref q), (4, .int (nI G)), (3, .int (nI N)), (0, .ref t), (1, .ref (ad 0 0)), (2, .int x)]) hx hb dL_act_70 hl (by decide) rfl (fun ls hl => ?_)
        refine lv_iload hx hb dL_act_72 (lv_at hl 0 rfl) ?_
        refine lv_if_eq (tgt := 104) hx hb dL_act_74 (by decide) (fun z => absurd z (by decide)) (fun _ => ?_)
        have hxn : xRg S = none := by unfold xRg; rw [hSG]; exact if_pos (nI_lt (b := 4) hG44 (by omega))
        obtain ⟨M', hLI', hlow, hgt, h9, h10⟩ := do_addGate hLI hG44 (a := 1 + j4) (b := nI j5) (by omega) (by omega) hb01
        have hI2 : SimI cI cR (L ++ [q]) _ ad G N G M' (lsU Ls G []) := (hI1.congr (M1 := M') (fun i hi => hlow 8 i (by omega)) (fun g hg => hgt g hg) (fun k hk j hj => hlow (rw8 j) k (by have := rw8_rng j hj; omega))).lines (fun g hg => lsU_ne _ _ (by omega))
        refine lv_aload_n hx hb dL_act_77 rfl (lv_at hl 5 rfl) ?_
        refine lv_aload_n hx hb dL_act_78 rfl (lv_at hl 5 rfl) ?_
        refine sm_fld hC 3 3 hinX2 hK hw hI2 dL_act_79 rfl (by decide) rfl rfl ?_
        refine lv_aload hx hb dL_act_82 (lv_at hl 1 rfl) ?_
        refine sm_addG hC 3 gL_act_X2_with hinX2 hE.1 hK hw hA hl.1 hI2 hqL (va_up_self _ _ _) (hx0.trans h9.symm) (hx1.trans h10.symm) (fun j hj => px_ne (hI.2.2.2.2.1 j hj).1 hq) (fun g hg => Ne.symm (px_ne (hI.2.2.2.2.2.2.1 g hg).1 hq)) (by omega) dL_act_84 dL_act_87 rfl ⟨Nat.le_of_ble_eq_true rfl, Nat.le_of_ble_eq_true rfl⟩ ⟨by show _ ≤ 250; omega, by show _ ≤ 2500; omega⟩ (Nat.le_of_ble_eq_true rfl) (fun q2 f2 H locs hq2 hw hI3 hf2 => ?_)
        have hqn : q ≠ ad 0 0 := hI1.o_ne (va_up_self _ _ _)
        have e1 : f2 q = .inl (cI, 2, .inl xq) := (hf2 q hqL hqn).trans (va_up_self _ _ _)
        have hqL2 : q ∈ L ++ [q] ++ [q2] := List.mem_append_left _ hqL
        generalize ha3 : adB ad 1 1 G q q2 = a3 at hI3
        have h00 : a3 0 0 = ad 0 0 := by rw [← ha3]; rfl
        rw [← h00] at hl
        refine lv_aload_n hx hb dL_act_90 rfl (lv_at hl 5 rfl) ?_
        refine lv_aload_n hx hb dL_act_91 rfl (lv_at hl 5 rfl) ?_
        refine sm_fld hC 5 5 hinX2 hK hw hI3 dL_act_92 rfl (by decide) rfl rfl ?_
        refine lv_iconst (v := 0) hx hb dL_act_95 (by decide) ?_
        refine px_newi hC 4 rfl hK hw hA 0 rfl (by decide) ⟨by show _ ≤ 250; omega, by show _ ≤ 2500; omega⟩ dL_act_96 (fun q3 H hq3 hw => ?_)
        have hI4 := hI3.new (e := .inl (cI, 0, .inl (fun _ => 0))) hq3
        refine sm_addL hC 5 gL_act_X2_with hinX2 hE.1 hK hw hA hl.1 hI4 (List.mem_append_right _ List.mem_cons_self) ⟨fun _ => 0, by rw [lsU_self]; exact va_up_self _ _ _, fun i k h => by rw [lsU_self] at h; cases h⟩ (fun j hj => px_ne (hI3.2.2.2.2.1 j hj).1 hq3) (fun j hj => px_ne (hI3.2.2.2.2.2.1 j hj).1 hq3) (by omega) dL_act_98 dL_act_101 rfl ⟨Nat.le_of_ble_eq_true rfl, Nat.le_of_ble_eq_true rfl⟩ ⟨by show _ ≤ 250; omega, by show _ ≤ 2500; omega⟩ (Nat.le_of_ble_eq_true rfl) (fun q4 f5 H locs hq4 hw hI5 hf5 => ?_)
        have hqL3 : q ∈ L ++ [q] ++ [q2] ++ [q3] := List.mem_append_left _ hqL2
        have e3 : f5 q = .inl (cI, 2, .inl xq) := (hf5 q hqL3 (by rw [h00]; exact hqn)).trans ((va_up_ne _ _ (px_ne hqL2 hq3)).trans e1)
        have hqL4 : q ∈ L ++ [q] ++ [q2] ++ [q3] ++ [q4] := List.mem_append_left _ hqL3
        refine lv_aload_n hx hb dL_act_104 rfl (lv_at hl 4 rfl) ?_
        refine lv_aload hx hb dL_act_105 (lv_at hl 1 rfl) ?_
        refine lv_iconst (v := 0) hx hb dL_act_107 (by decide) ?_
        refine px_ild hC 0 hK hw hqL4 e3 dL_act_108 rfl (by decide) (by decide) hx0 ?_
        refine lv_aload hx hb dL_act_109 (lv_at hl 1 rfl) ?_
        refine lv_iconst (v := 1) hx hb dL_act_111 (by decide) ?_
        refine px_ild hC 1 hK hw hqL4 e3 dL_act_112 rfl (by decide) (by decide) hx1 ?_
        have hM := ct_X1_addGate l hl0 D cI t o r S o1 r1 Tt (nI (1 + j4)) (nI j5) G hSG hG4
        rw [x_addGate S (by omega) (by omega) hb01] at hM
        refine tx_callX hC 0 1 2 hM gL_act_X1_addGate dL_act_113 hE hK hw hA hl.1 rfl hd_X1_addGate ⟨Nat.le_of_ble_eq_true rfl, Nat.le_of_ble_eq_true rfl⟩ ⟨by show _ ≤ 250; omega, by show _ ≤ 2500; omega⟩ rfl rfl rfl rfl (Nat.le_of_ble_eq_true rfl) (fun E ce q9 H locs hEx hw h1 h2 h3 => nomatch (hxn.symm.trans hEx)) (fun _ H locs hw => ?_)
        refine gt_stk [.int (nI G)] (by rw [← hSG]; rfl) ?_
        refine lv_iload hx hb dL_act_116 (lv_at hl 2 rfl) ?_
        refine lv_icmp_ne (tgt := 130) hx hb dL_act_118 (by decide) (fun z => absurd rfl z) (fun _ => ?_)
        refine lv_iload hx hb dL_act_121 (lv_at hl 0 rfl) ?_
        refine lv_if_eq (tgt := 130) hx hb dL_act_123 (by decide) (fun z => absurd z (by decide)) (fun _ => ?_)
        refine lv_iconst (v := 1) hx hb dL_act_126 (by decide) ?_
        refine lv_goto (tgt := 131) hx hb dL_act_127 (by decide) ?_
        exact lx_zretW hC hr hlk hw (Or.inr rfl) ⟨rfl, G + 1, N, _, M', _, _, Tt, rfl, hI5, (hLI'.mono (by omega)), lj_addGate hLI hLJ hG44 hlow hgt, Or.inr (by omega), h00⟩ dL_act_131 (by show _ ≤ 250; omega) (by show _ ≤ 2500; omega)
    · skip
      refine lv_iload_n hx hb dL_act_132 rfl (lv_at hl 2 rfl) ?_
      refine lv_if_eq (tgt := 146) hx hb dL_act_133 (by decide) (fun h133 : nI N = 0 => ?_) (fun h133 : ¬ (nI N = 0) => ?_)
      · skip
        refine lv_iconst (v := 1) hx hb dL_act_146 (by decide) ?_
        refine lv_iload_n hx hb dL_act_147 rfl (lv_at hl 5 rfl) ?_
        refine lv_iconst (v := 4) hx hb dL_act_148 (by decide) ?_
        refine lv_ishr hx hb dL_act_149 ?_
        refine lv_bipush (v := 9) hx hb dL_act_150 (by decide) ?_
        refine lx_callB hC 2 (ct_L_below l D (x >>> (4 &&& 31)) 9 (nI_ne9 (m := 9) (by omega) (by omega))) gL_act_L_below dL_act_152 hK hw hA hl.1 rfl hd_L_below ⟨Nat.le_of_ble_eq_true rfl, Nat.le_of_ble_eq_true rfl⟩ ⟨by show _ ≤ 250; omega, by show _ ≤ 2500; omega⟩ rfl rfl (Nat.le_of_ble_eq_true rfl) (fun H locs hw => ?_)
        obtain ⟨j6, hj6, ej6⟩ : ∃ j, j < 9 ∧ bel (x >>> (4 &&& 31)) 9 = nI j := bel_nI (x >>> (4 &&& 31)) (m := 9) (by omega) (by omega)
        rw [ej6]
        refine gt_stk [.int (nI j6), .int 1] rfl ?_
        refine lv_iadd hx hb dL_act_155 ?_
        refine gt_stk [.int (nI (1 + j6))] (by rw [← nI_add]; rfl) ?_
        refine lv_istore (lv' := [(6, .int (nI (1 + j6))), (5, .int 1), (4, .int (nI G)), (3, .int (nI N)), (0, .ref t), (1, .ref (ad 0 0)), (2, .int x)]) hx hb dL_act_156 hl (by decide) rfl (fun ls hl => ?_)
        refine lv_iload_n hx hb dL_act_158 rfl (lv_at hl 3 rfl) ?_
        refine lv_bipush (v := 12) hx hb dL_act_159 (by decide) ?_
        refine lv_icmp_ge (tgt := 168) hx hb dL_act_161 (by decide) (fun h161 : 12 ≤ (nI N) => ?_) (fun h161 : ¬ (12 ≤ (nI N)) => ?_)
        · skip
          have hN44 : ¬ N < 12 := fun z => by
            have := (nI_leI (a := 12) (b := N) (by omega) (by omega)).mp h161
            omega
          refine lv_iconst (v := 0) hx hb dL_act_168 (by decide) ?_
          refine lv_istore (lv' := [(5, .int 0), (6, .int (nI (1 + j6))), (4, .int (nI G)), (3, .int (nI N)), (0, .ref t), (1, .ref (ad 0 0)), (2, .int x)]) hx hb dL_act_169 hl (by decide) rfl (fun ls hl => ?_)
          refine lv_iload hx hb dL_act_171 (lv_at hl 0 rfl) ?_
          refine lv_if_eq (tgt := 226) hx hb dL_act_173 (by decide) (fun _ => ?_) (fun z => absurd rfl z)
          have hxs : xRk S = some gxIS := by unfold xRk; rw [hSN]; exact if_neg (fun z => hN44 ((nI_ltI (a := N) (b := 12) (by omega) (by omega)).mp z))
          refine lv_aload_n hx hb dL_act_226 rfl (lv_at hl 4 rfl) ?_
          refine lv_iload hx hb dL_act_227 (lv_at hl 1 rfl) ?_
          have hM := ct_X1_addGoat l hl0 D cI t o r S o1 r1 Tt (nI (1 + j6)) N hSN hN
          rw [x_addGoat S (by omega) (by omega)] at hM
          refine tx_callX hC 0 1 1 hM gL_act_X1_addGoat dL_act_229 hE hK hw hA hl.1 rfl hd_X1_addGoat ⟨Nat.le_of_ble_eq_true rfl, Nat.le_of_ble_eq_true rfl⟩ ⟨by show _ ≤ 250; omega, by show _ ≤ 2500; omega⟩ rfl rfl rfl rfl (Nat.le_of_ble_eq_true rfl) (fun E ce q9 H locs hEx hw h1 h2 h3 => ?_) (fun hn => nomatch (hxs.symm.trans hn))
          have hEE : E = gxIS := Option.some.inj (hEx.symm.trans hxs)
          subst hEE
          refine vx_catch (own := RL) (name := gxIS) hC.2.2.2.1 [⟨16, 131, 665, 62⟩] ⟨132, 246, 665, 62⟩ [⟨247, 477, 665, 62⟩, ⟨478, 562, 665, 62⟩, ⟨563, 615, 665, 62⟩, ⟨616, 664, 665, 62⟩] htab (lx_cov (by decide)) rfl (by decide) (hC.2.2.2.2 _ (List.mem_of_getElem? (i := 1) rfl)) (va_Nw.use rfl hE.2.1.2.2.2.2.2.1) h1 h2 h3 ?_
          refine lv_astore (lv' := [(6, .ref q9), (5, .int 0), (4, .int (nI G)), (3, .int (nI N)), (0, .ref t), (1, .ref (ad 0 0)), (2, .int x)]) hx hb dL_act_665 hl (by decide) rfl (fun ls hl => ?_)
          refine lv_iload hx hb dL_act_667 (lv_at hl 1 rfl) ?_
          refine lv_if_ne (tgt := 676) hx hb dL_act_669 (by decide) (fun z => absurd rfl z) (fun _ => ?_)
          refine lv_iconst (v := 1) hx hb dL_act_672 (by decide) ?_
          refine lv_goto (tgt := 677) hx hb dL_act_673 (by decide) ?_
          exact lx_zretW hC hr hlk hw (Or.inr rfl) ⟨rfl, G, N, S, M, Ls, ad, Tt, rfl, hI, hLI.mono (by omega), hLJ, Or.inr (by omega), rfl⟩ dL_act_677 (by show _ ≤ 250; omega) (by show _ ≤ 2500; omega)
        · skip
          have hN44 : N < 12 := by
            rcases Nat.lt_or_ge N 12 with z | z
            · exact z
            · exact absurd (nI_le (a := 12) z (by omega)) h161
          refine lv_iconst (v := 1) hx hb dL_act_164 (by decide) ?_
          refine lv_goto (tgt := 169) hx hb dL_act_165 (by decide) ?_
          refine lv_istore (lv' := [(5, .int 1), (6, .int (nI (1 + j6))), (4, .int (nI G)), (3, .int (nI N)), (0, .ref t), (1, .ref (ad 0 0)), (2, .int x)]) hx hb dL_act_169 hl (by decide) rfl (fun ls hl => ?_)
          refine lv_iload hx hb dL_act_171 (lv_at hl 0 rfl) ?_
          refine lv_if_eq (tgt := 226) hx hb dL_act_173 (by decide) (fun z => absurd z (by decide)) (fun _ => ?_)
          have hxn : xRk S = none := by unfold xRk; rw [hSN]; exact if_pos (nI_lt (b := 12) hN44 (by omega))
          obtain ⟨M', hLI', hlow, h11, hN11, hN0⟩ := do_addGoat hLI hN44 (a := 1 + j6) (by omega) (by omega)
          refine lv_aload_n hx hb dL_act_176 rfl (lv_at hl 5 rfl) ?_
          refine lv_aload_n hx hb dL_act_177 rfl (lv_at hl 5 rfl) ?_
          refine sm_fld hC 4 2 hinX2 hK hw hI dL_act_178 rfl (by decide) rfl rfl ?_
          refine lv_bipush (v := 8) hx hb dL_act_181 (by decide) ?_
          refine px_newi hC 4 rfl hK hw hA 8 rfl (by decide) ⟨by show _ ≤ 250; omega, by show _ ≤ 2500; omega⟩ dL_act_183 (fun q H hq hw => ?_)
          have hqL : q ∈ L ++ [q] := List.mem_append_right _ List.mem_cons_self
          refine lv_dup hx hb dL_act_185 rfl ?_
          refine lv_iconst (v := 0) hx hb dL_act_186 (by decide) ?_
          refine lv_iload hx hb dL_act_187 (lv_at hl 1 rfl) ?_
          refine px_ist hC 0 hK hw hqL (va_up_self _ _ _) dL_act_189 rfl (by decide) (by decide) (fun H locs hw => ?_)
          rw [va_up_up] at hw
          refine lv_dup hx hb dL_act_190 rfl ?_
          refine lv_iconst (v := 1) hx hb dL_act_191 (by decide) ?_
          refine lv_iconst (v := 0) hx hb dL_act_192 (by decide) ?_
          refine px_ist hC 1 hK hw hqL (va_up_self _ _ _) dL_act_193 rfl (by decide) (by decide) (fun H locs hw => ?_)
          rw [va_up_up] at hw
          refine lv_dup hx hb dL_act_194 rfl ?_
          refine lv_iconst (v := 2) hx hb dL_act_195 (by decide) ?_
          refine lv_iconst (v := 0) hx hb dL_act_196 (by decide) ?_
          refine px_ist hC 2 hK hw hqL (va_up_self _ _ _) dL_act_197 rfl (by decide) (by decide) (fun H locs hw => ?_)
          rw [va_up_up] at hw
          refine lv_dup hx hb dL_act_198 rfl ?_
          refine lv_iconst (v := 3) hx hb dL_act_199 (by decide) ?_
          refine lv_iconst (v := 0) hx hb dL_act_200 (by decide) ?_
          refine px_ist hC 3 hK hw hqL (va_up_self _ _ _) dL_act_201 rfl (by decide) (by decide) (fun H locs hw => ?_)
          rw [va_up_up] at hw
          refine lv_dup hx hb dL_act_202 rfl ?_
          refine lv_iconst (v := 4) hx hb dL_act_203 (by decide) ?_
          refine lv_iconst (v := 0) hx hb dL_act_204 (by decide) ?_
          refine px_ist hC 4 hK hw hqL (va_up_self _ _ _) dL_act_205 rfl (by decide) (by decide) (fun H locs hw => ?_)
          rw [va_up_up] at hw
          refine lv_dup hx hb dL_act_206 rfl ?_
          refine lv_iconst (v := 5) hx hb dL_act_207 (by decide) ?_
          refine lv_iconst (v := 0) hx hb dL_act_208 (by decide) ?_
          refine px_ist hC 5 hK hw hqL (va_up_self _ _ _) dL_act_209 rfl (by decide) (by decide) (fun H locs hw => ?_)
          rw [va_up_up] at hw
          refine lv_dup hx hb dL_act_210 rfl ?_
          refine lv_bipush (v := 6) hx hb dL_act_211 (by decide) ?_
          refine lv_iconst (v := 0) hx hb dL_act_213 (by decide) ?_
          refine px_ist hC 6 hK hw hqL (va_up_self _ _ _) dL_act_214 rfl (by decide) (by decide) (fun H locs hw => ?_)
          rw [va_up_up] at hw
          refine lv_dup hx hb dL_act_215 rfl ?_
          refine lv_bipush (v := 7) hx hb dL_act_216 (by decide) ?_
          refine lv_iconst (v := 0) hx hb dL_act_218 (by decide) ?_
          refine px_ist hC 7 hK hw hqL (va_up_self _ _ _) dL_act_219 rfl (by decide) (by decide) (fun H locs hw => ?_)
          rw [va_up_up] at hw
          obtain ⟨xq, hx8, hxq⟩ : ∃ xq : Nat → Int32, (∀ j, j < 8 → xq j = M' (rw8 j) N) ∧ upd (upd (upd (upd (upd (upd (upd (upd (fun _ => 0) 0 (nI (1 + j6))) 1 0) 2 0) 3 0) 4 0) 5 0) 6 0) 7 0 = xq := ⟨_, fun j hj => by
              match j, hj with
              | 0, _ => rw [show rw8 0 = 11 from rfl, hN11]; simp [upd]
              | 1, _ => rw [hN0 (rw8 1) (by decide)]; simp [upd]
              | 2, _ => rw [hN0 (rw8 2) (by decide)]; simp [upd]
              | 3, _ => rw [hN0 (rw8 3) (by decide)]; simp [upd]
              | 4, _ => rw [hN0 (rw8 4) (by decide)]; simp [upd]
              | 5, _ => rw [hN0 (rw8 5) (by decide)]; simp [upd]
              | 6, _ => rw [hN0 (rw8 6) (by decide)]; simp [upd]
              | 7, _ => rw [hN0 (rw8 7) (by decide)]; simp [upd], rfl⟩
          rw [hxq] at hw
          have hI2 : SimI cI cR (L ++ [q]) (va_up f q (.inl (cI, 8, .inl xq))) ad G N G M' Ls := (hI.new (e := .inl (cI, 8, .inl xq)) hq).congr (M1 := M') (fun i hi => hlow 8 i (by omega)) (fun g hg => ⟨hlow 9 g (by omega), hlow 10 g (by omega)⟩) (fun k hk j hj => by
    rcases rw8_rng j hj with z | z
    · exact hlow (rw8 j) k (by omega)
    · rw [z]; exact h11 k hk)
          refine sm_addK hC 2 gL_act_X2_with hinX2 hE.1 hK hw hA hl.1 hI2 hqL (va_up_self _ _ _) hx8 (fun j hj => px_ne (hI.2.2.2.2.2.1 j hj).1 hq) (fun g hg => Ne.symm (px_ne (hI.2.2.2.2.2.2.1 g hg).1 hq)) (by omega) dL_act_220 dL_act_223 rfl ⟨Nat.le_of_ble_eq_true rfl, Nat.le_of_ble_eq_true rfl⟩ ⟨by show _ ≤ 250; omega, by show _ ≤ 2500; omega⟩ (Nat.le_of_ble_eq_true rfl) (fun q2 f2 H locs hq2 hw hI3 hf2 => ?_)
          refine lv_aload_n hx hb dL_act_226 rfl (lv_at hl 4 rfl) ?_
          refine lv_iload hx hb dL_act_227 (lv_at hl 1 rfl) ?_
          have hM := ct_X1_addGoat l hl0 D cI t o r S o1 r1 Tt (nI (1 + j6)) N hSN hN
          rw [x_addGoat S (by omega) (by omega)] at hM
          refine tx_callX hC 0 1 1 hM gL_act_X1_addGoat dL_act_229 hE hK hw hA hl.1 rfl hd_X1_addGoat ⟨Nat.le_of_ble_eq_true rfl, Nat.le_of_ble_eq_true rfl⟩ ⟨by show _ ≤ 250; omega, by show _ ≤ 2500; omega⟩ rfl rfl rfl rfl (Nat.le_of_ble_eq_true rfl) (fun E ce q9 H locs hEx hw h1 h2 h3 => nomatch (hxn.symm.trans hEx)) (fun _ H locs hw => ?_)
          refine gt_stk [.int (nI N)] (by rw [← hSN]; rfl) ?_
          refine lv_iload_n hx hb dL_act_232 rfl (lv_at hl 3 rfl) ?_
          refine lv_icmp_ne (tgt := 245) hx hb dL_act_233 (by decide) (fun z => absurd rfl z) (fun _ => ?_)
          refine lv_iload hx hb dL_act_236 (lv_at hl 0 rfl) ?_
          refine lv_if_eq (tgt := 245) hx hb dL_act_238 (by decide) (fun z => absurd z (by decide)) (fun _ => ?_)
          refine lv_iconst (v := 1) hx hb dL_act_241 (by decide) ?_
          refine lv_goto (tgt := 246) hx hb dL_act_242 (by decide) ?_
          exact lx_zretW hC hr hlk hw (Or.inr rfl) ⟨rfl, G, N + 1, _, M', Ls, _, Tt, rfl, hI3, (hLI'.mono (by omega)), lj_addGoat hLJ hlow hN0, Or.inr (by omega), rfl⟩ dL_act_246 (by show _ ≤ 250; omega) (by show _ ≤ 2500; omega)
      · skip
        have hN1 : 1 ≤ N := by
          rcases Nat.eq_zero_or_pos N with z | z
          · exact absurd (by rw [z]; rfl) h133
          · exact z
        refine lv_iload_n hx hb dL_act_136 rfl (lv_at hl 5 rfl) ?_
        refine lv_bipush (v := 18) hx hb dL_act_137 (by decide) ?_
        refine lx_callB hC 2 (ct_L_below l D x 18 (nI_ne9 (m := 18) (by omega) (by omega))) gL_act_L_below dL_act_139 hK hw hA hl.1 rfl hd_L_below ⟨Nat.le_of_ble_eq_true rfl, Nat.le_of_ble_eq_true rfl⟩ ⟨by show _ ≤ 250; omega, by show _ ≤ 2500; omega⟩ rfl rfl (Nat.le_of_ble_eq_true rfl) (fun H locs hw => ?_)
        obtain ⟨j7, hj7, ej7⟩ : ∃ j, j < 18 ∧ bel x 18 = nI j := bel_nI x (m := 18) (by omega) (by omega)
        rw [ej7]
        refine gt_stk [.int (nI j7)] rfl ?_
        refine lv_iconst (v := 1) hx hb dL_act_142 (by decide) ?_
        refine lv_icmp_ne (tgt := 247) hx hb dL_act_143 (by decide) (fun _ => ?_) (fun _ => ?_)
        rotate_left
        · skip
          refine lv_iconst (v := 1) hx hb dL_act_146 (by decide) ?_
          refine lv_iload_n hx hb dL_act_147 rfl (lv_at hl 5 rfl) ?_
          refine lv_iconst (v := 4) hx hb dL_act_148 (by decide) ?_
          refine lv_ishr hx hb dL_act_149 ?_
          refine lv_bipush (v := 9) hx hb dL_act_150 (by decide) ?_
          refine lx_callB hC 2 (ct_L_below l D (x >>> (4 &&& 31)) 9 (nI_ne9 (m := 9) (by omega) (by omega))) gL_act_L_below dL_act_152 hK hw hA hl.1 rfl hd_L_below ⟨Nat.le_of_ble_eq_true rfl, Nat.le_of_ble_eq_true rfl⟩ ⟨by show _ ≤ 250; omega, by show _ ≤ 2500; omega⟩ rfl rfl (Nat.le_of_ble_eq_true rfl) (fun H locs hw => ?_)
          obtain ⟨j8, hj8, ej8⟩ : ∃ j, j < 9 ∧ bel (x >>> (4 &&& 31)) 9 = nI j := bel_nI (x >>> (4 &&& 31)) (m := 9) (by omega) (by omega)
          rw [ej8]
          refine gt_stk [.int (nI j8), .int 1] rfl ?_
          refine lv_iadd hx hb dL_act_155 ?_
          refine gt_stk [.int (nI (1 + j8))] (by rw [← nI_add]; rfl) ?_
          refine lv_istore (lv' := [(6, .int (nI (1 + j8))), (5, .int 1), (4, .int (nI G)), (3, .int (nI N)), (0, .ref t), (1, .ref (ad 0 0)), (2, .int x)]) hx hb dL_act_156 hl (by decide) rfl (fun ls hl => ?_)
          refine lv_iload_n hx hb dL_act_158 rfl (lv_at hl 3 rfl) ?_
          refine lv_bipush (v := 12) hx hb dL_act_159 (by decide) ?_
          refine lv_icmp_ge (tgt := 168) hx hb dL_act_161 (by decide) (fun h161 : 12 ≤ (nI N) => ?_) (fun h161 : ¬ (12 ≤ (nI N)) => ?_)
          · skip
            have hN44 : ¬ N < 12 := fun z => by
              have := (nI_leI (a := 12) (b := N) (by omega) (by omega)).mp h161
              omega
            refine lv_iconst (v := 0) hx hb dL_act_168 (by decide) ?_
            refine lv_istore (lv' := [(5, .int 0), (6, .int (nI (1 + j8))), (4, .int (nI G)), (3, .int (nI N)), (0, .ref t), (1, .ref (ad 0 0)), (2, .int x)]) hx hb dL_act_169 hl (by decide) rfl (fun ls hl => ?_)
            refine lv_iload hx hb dL_act_171 (lv_at hl 0 rfl) ?_
            refine lv_if_eq (tgt := 226) hx hb dL_act_173 (by decide) (fun _ => ?_) (fun z => absurd rfl z)
            have hxs : xRk S = some gxIS := by unfold xRk; rw [hSN]; exact if_neg (fun z => hN44 ((nI_ltI (a := N) (b := 12) (by omega) (by omega)).mp z))
            refine lv_aload_n hx hb dL_act_226 rfl (lv_at hl 4 rfl) ?_
            refine lv_iload hx hb dL_act_227 (lv_at hl 1 rfl) ?_
            have hM := ct_X1_addGoat l hl0 D cI t o r S o1 r1 Tt (nI (1 + j8)) N hSN hN
            rw [x_addGoat S (by omega) (by omega)] at hM
            refine tx_callX hC 0 1 1 hM gL_act_X1_addGoat dL_act_229 hE hK hw hA hl.1 rfl hd_X1_addGoat ⟨Nat.le_of_ble_eq_true rfl, Nat.le_of_ble_eq_true rfl⟩ ⟨by show _ ≤ 250; omega, by show _ ≤ 2500; omega⟩ rfl rfl rfl rfl (Nat.le_of_ble_eq_true rfl) (fun E ce q9 H locs hEx hw h1 h2 h3 => ?_) (fun hn => nomatch (hxs.symm.trans hn))
            have hEE : E = gxIS := Option.some.inj (hEx.symm.trans hxs)
            subst hEE
            refine vx_catch (own := RL) (name := gxIS) hC.2.2.2.1 [⟨16, 131, 665, 62⟩] ⟨132, 246, 665, 62⟩ [⟨247, 477, 665, 62⟩, ⟨478, 562, 665, 62⟩, ⟨563, 615, 665, 62⟩, ⟨616, 664, 665, 62⟩] htab (lx_cov (by decide)) rfl (by decide) (hC.2.2.2.2 _ (List.mem_of_getElem? (i := 1) rfl)) (va_Nw.use rfl hE.2.1.2.2.2.2.2.1) h1 h2 h3 ?_
            refine lv_astore (lv' := [(6, .ref q9), (5, .int 0), (4, .int (nI G)), (3, .int (nI N)), (0, .ref t), (1, .ref (ad 0 0)), (2, .int x)]) hx hb dL_act_665 hl (by decide) rfl (fun ls hl => ?_)
            refine lv_iload hx hb dL_act_667 (lv_at hl 1 rfl) ?_
            refine lv_if_ne (tgt := 676) hx hb dL_act_669 (by decide) (fun z => absurd rfl z) (fun _ => ?_)
            refine lv_iconst (v := 1) hx hb dL_act_672 (by decide) ?_
            refine lv_goto (tgt := 677) hx hb dL_act_673 (by decide) ?_
            exact lx_zretW hC hr hlk hw (Or.inr rfl) ⟨rfl, G, N, S, M, Ls, ad, Tt, rfl, hI, hLI.mono (by omega), hLJ, Or.inr (by omega), rfl⟩ dL_act_677 (by show _ ≤ 250; omega) (by show _ ≤ 2500; omega)
          · skip
            have hN44 : N < 12 := by
              rcases Nat.lt_or_ge N 12 with z | z
              · exact z
              · exact absurd (nI_le (a := 12) z (by omega)) h161
            refine lv_iconst (v := 1) hx hb dL_act_164 (by decide) ?_
            refine lv_goto (tgt := 169) hx hb dL_act_165 (by decide) ?_
            refine lv_istore (lv' := [(5, .int 1), (6, .int (nI (1 + j8))), (4, .int (nI G)), (3, .int (nI N)), (0, .ref t), (1, .ref (ad 0 0)), (2, .int x)]) hx hb dL_act_169 hl (by decide) rfl (fun ls hl => ?_)
            refine lv_iload hx hb dL_act_171 (lv_at hl 0 rfl) ?_
            refine lv_if_eq (tgt := 226) hx hb dL_act_173 (by decide) (fun z => absurd z (by decide)) (fun _ => ?_)
            have hxn : xRk S = none := by unfold xRk; rw [hSN]; exact if_pos (nI_lt (b := 12) hN44 (by omega))
            obtain ⟨M', hLI', hlow, h11, hN11, hN0⟩ := do_addGoat hLI hN44 (a := 1 + j8) (by omega) (by omega)
            refine lv_aload_n hx hb dL_act_176 rfl (lv_at hl 5 rfl) ?_
            refine lv_aload_n hx hb dL_act_177 rfl (lv_at hl 5 rfl) ?_
            refine sm_fld hC 4 2 hinX2 hK hw hI dL_act_178 rfl (by decide) rfl rfl ?_
            refine lv_bipush (v := 8) hx hb dL_act_181 (by decide) ?_
            refine px_newi hC 4 rfl hK hw hA 8 rfl (by decide) ⟨by show _ ≤ 250; omega, by show _ ≤ 2500; omega⟩ dL_act_183 (fun q H hq hw => ?_)
            have hqL : q ∈ L ++ [q] := List.mem_append_right _ List.mem_cons_self
            refine lv_dup hx hb dL_act_185 rfl ?_
            refine lv_iconst (v := 0) hx hb dL_act_186 (by decide) ?_
            refine lv_iload hx hb dL_act_187 (lv_at hl 1 rfl) ?_
            refine px_ist hC 0 hK hw hqL (va_up_self _ _ _) dL_act_189 rfl (by decide) (by decide) (fun H locs hw => ?_)
            rw [va_up_up] at hw
            refine lv_dup hx hb dL_act_190 rfl ?_
            refine lv_iconst (v := 1) hx hb dL_act_191 (by decide) ?_
            refine lv_iconst (v := 0) hx hb dL_act_192 (by decide) ?_
            refine px_ist hC 1 hK hw hqL (va_up_self _ _ _) dL_act_193 rfl (by decide) (by decide) (fun H locs hw => ?_)
            rw [va_up_up] at hw
            refine lv_dup hx hb dL_act_194 rfl ?_
            refine lv_iconst (v := 2) hx hb dL_act_195 (by decide) ?_
            refine lv_iconst (v := 0) hx hb dL_act_196 (by decide) ?_
            refine px_ist hC 2 hK hw hqL (va_up_self _ _ _) dL_act_197 rfl (by decide) (by decide) (fun H locs hw => ?_)
            rw [va_up_up] at hw
            refine lv_dup hx hb dL_act_198 rfl ?_
            refine lv_iconst (v := 3) hx hb dL_act_199 (by decide) ?_
            refine lv_iconst (v := 0) hx hb dL_act_200 (by decide) ?_
            refine px_ist hC 3 hK hw hqL (va_up_self _ _ _) dL_act_201 rfl (by decide) (by decide) (fun H locs hw => ?_)
            rw [va_up_up] at hw
            refine lv_dup hx hb dL_act_202 rfl ?_
            refine lv_iconst (v := 4) hx hb dL_act_203 (by decide) ?_
            refine lv_iconst (v := 0) hx hb dL_act_204 (by decide) ?_
            refine px_ist hC 4 hK hw hqL (va_up_self _ _ _) dL_act_205 rfl (by decide) (by decide) (fun H locs hw => ?_)
            rw [va_up_up] at hw
            refine lv_dup hx hb dL_act_206 rfl ?_
            refine lv_iconst (v := 5) hx hb dL_act_207 (by decide) ?_
            refine lv_iconst (v := 0) hx hb dL_act_208 (by decide) ?_
            refine px_ist hC 5 hK hw hqL (va_up_self _ _ _) dL_act_209 rfl (by decide) (by decide) (fun H locs hw => ?_)
            rw [va_up_up] at hw
            refine lv_dup hx hb dL_act_210 rfl ?_
            refine lv_bipush (v := 6) hx hb dL_act_211 (by decide) ?_
            refine lv_iconst (v := 0) hx hb dL_act_213 (by decide) ?_
            refine px_ist hC 6 hK hw hqL (va_up_self _ _ _) dL_act_214 rfl (by decide) (by decide) (fun H locs hw => ?_)
            rw [va_up_up] at hw
            refine lv_dup hx hb dL_act_215 rfl ?_
            refine lv_bipush (v := 7) hx hb dL_act_216 (by decide) ?_
            refine lv_iconst (v := 0) hx hb dL_act_218 (by decide) ?_
            refine px_ist hC 7 hK hw hqL (va_up_self _ _ _) dL_act_219 rfl (by decide) (by decide) (fun H locs hw => ?_)
            rw [va_up_up] at hw
            obtain ⟨xq, hx8, hxq⟩ : ∃ xq : Nat → Int32, (∀ j, j < 8 → xq j = M' (rw8 j) N) ∧ upd (upd (upd (upd (upd (upd (upd (upd (fun _ => 0) 0 (nI (1 + j8))) 1 0) 2 0) 3 0) 4 0) 5 0) 6 0) 7 0 = xq := ⟨_, fun j hj => by
                match j, hj with
                | 0, _ => rw [show rw8 0 = 11 from rfl, hN11]; simp [upd]
                | 1, _ => rw [hN0 (rw8 1) (by decide)]; simp [upd]
                | 2, _ => rw [hN0 (rw8 2) (by decide)]; simp [upd]
                | 3, _ => rw [hN0 (rw8 3) (by decide)]; simp [upd]
                | 4, _ => rw [hN0 (rw8 4) (by decide)]; simp [upd]
                | 5, _ => rw [hN0 (rw8 5) (by decide)]; simp [upd]
                | 6, _ => rw [hN0 (rw8 6) (by decide)]; simp [upd]
                | 7, _ => rw [hN0 (rw8 7) (by decide)]; simp [upd], rfl⟩
            rw [hxq] at hw
            have hI2 : SimI cI cR (L ++ [q]) (va_up f q (.inl (cI, 8, .inl xq))) ad G N G M' Ls := (hI.new (e := .inl (cI, 8, .inl xq)) hq).congr (M1 := M') (fun i hi => hlow 8 i (by omega)) (fun g hg => ⟨hlow 9 g (by omega), hlow 10 g (by omega)⟩) (fun k hk j hj => by
    rcases rw8_rng j hj with z | z
    · exact hlow (rw8 j) k (by omega)
    · rw [z]; exact h11 k hk)
            refine sm_addK hC 2 gL_act_X2_with hinX2 hE.1 hK hw hA hl.1 hI2 hqL (va_up_self _ _ _) hx8 (fun j hj => px_ne (hI.2.2.2.2.2.1 j hj).1 hq) (fun g hg => Ne.symm (px_ne (hI.2.2.2.2.2.2.1 g hg).1 hq)) (by omega) dL_act_220 dL_act_223 rfl ⟨Nat.le_of_ble_eq_true rfl, Nat.le_of_ble_eq_true rfl⟩ ⟨by show _ ≤ 250; omega, by show _ ≤ 2500; omega⟩ (Nat.le_of_ble_eq_true rfl) (fun q2 f2 H locs hq2 hw hI3 hf2 => ?_)
            refine lv_aload_n hx hb dL_act_226 rfl (lv_at hl 4 rfl) ?_
            refine lv_iload hx hb dL_act_227 (lv_at hl 1 rfl) ?_
            have hM := ct_X1_addGoat l hl0 D cI t o r S o1 r1 Tt (nI (1 + j8)) N hSN hN
            rw [x_addGoat S (by omega) (by omega)] at hM
            refine tx_callX hC 0 1 1 hM gL_act_X1_addGoat dL_act_229 hE hK hw hA hl.1 rfl hd_X1_addGoat ⟨Nat.le_of_ble_eq_true rfl, Nat.le_of_ble_eq_true rfl⟩ ⟨by show _ ≤ 250; omega, by show _ ≤ 2500; omega⟩ rfl rfl rfl rfl (Nat.le_of_ble_eq_true rfl) (fun E ce q9 H locs hEx hw h1 h2 h3 => nomatch (hxn.symm.trans hEx)) (fun _ H locs hw => ?_)
            refine gt_stk [.int (nI N)] (by rw [← hSN]; rfl) ?_
            refine lv_iload_n hx hb dL_act_232 rfl (lv_at hl 3 rfl) ?_
            refine lv_icmp_ne (tgt := 245) hx hb dL_act_233 (by decide) (fun z => absurd rfl z) (fun _ => ?_)
            refine lv_iload hx hb dL_act_236 (lv_at hl 0 rfl) ?_
            refine lv_if_eq (tgt := 245) hx hb dL_act_238 (by decide) (fun z => absurd z (by decide)) (fun _ => ?_)
            refine lv_iconst (v := 1) hx hb dL_act_241 (by decide) ?_
            refine lv_goto (tgt := 246) hx hb dL_act_242 (by decide) ?_
            exact lx_zretW hC hr hlk hw (Or.inr rfl) ⟨rfl, G, N + 1, _, M', Ls, _, Tt, rfl, hI3, (hLI'.mono (by omega)), lj_addGoat hLJ hlow hN0, Or.inr (by omega), rfl⟩ dL_act_246 (by show _ ≤ 250; omega) (by show _ ≤ 2500; omega)
        · skip
          refine lv_iload_n hx hb dL_act_247 rfl (lv_at hl 5 rfl) ?_
          refine lv_iconst (v := 3) hx hb dL_act_248 (by decide) ?_
          refine lv_ishr hx hb dL_act_249 ?_
          refine lv_iload_n hx hb dL_act_250 rfl (lv_at hl 2 rfl) ?_
          refine lx_callB hC 2 (ct_L_below l D (x >>> (3 &&& 31)) (nI N) (nI_ne9 (m := N) hN1 (by omega))) gL_act_L_below dL_act_251 hK hw hA hl.1 rfl hd_L_below ⟨Nat.le_of_ble_eq_true rfl, Nat.le_of_ble_eq_true rfl⟩ ⟨by show _ ≤ 250; omega, by show _ ≤ 2500; omega⟩ rfl rfl (Nat.le_of_ble_eq_true rfl) (fun H locs hw => ?_)
          obtain ⟨j9, hj9, ej9⟩ : ∃ j, j < N ∧ bel (x >>> (3 &&& 31)) (nI N) = nI j := bel_nI (x >>> (3 &&& 31)) (m := N) hN1 (by omega)
          rw [ej9]
          refine gt_stk [.int (nI j9)] rfl ?_
          obtain ⟨k, hk, hkk⟩ : ∃ k, k < N ∧ j9 = k := ⟨_, hj9, rfl⟩
          rw [hkk]
          refine lv_istore (lv' := [(6, .int (nI k)), (5, .int 1), (4, .int (nI G)), (3, .int (nI N)), (0, .ref t), (1, .ref (ad 0 0)), (2, .int x)]) hx hb dL_act_254 hl (by decide) rfl (fun ls hl => ?_)
          refine lv_iload_n hx hb dL_act_256 rfl (lv_at hl 6 rfl) ?_
          refine lv_iconst (v := 5) hx hb dL_act_257 (by decide) ?_
          refine lv_ishr hx hb dL_act_258 ?_
          refine lv_iload hx hb dL_act_259 (lv_at hl 2 rfl) ?_
          refine lx_callB hC 2 (ct_L_below l D (x >>> (5 &&& 31)) (nI G) (nI_ne9 (m := G) hG1 (by omega))) gL_act_L_below dL_act_261 hK hw hA hl.1 rfl hd_L_below ⟨Nat.le_of_ble_eq_true rfl, Nat.le_of_ble_eq_true rfl⟩ ⟨by show _ ≤ 250; omega, by show _ ≤ 2500; omega⟩ rfl rfl (Nat.le_of_ble_eq_true rfl) (fun H locs hw => ?_)
          obtain ⟨j10, hj10, ej10⟩ : ∃ j, j < G ∧ bel (x >>> (5 &&& 31)) (nI G) = nI j := bel_nI (x >>> (5 &&& 31)) (m := G) hG1 (by omega)
          rw [ej10]
          refine gt_stk [.int (nI j10)] rfl ?_
          obtain ⟨g, hg, hgg⟩ : ∃ g, g < G ∧ j10 = g := ⟨_, hj10, rfl⟩
          rw [hgg]
          obtain ⟨p9, p1, p2, p3⟩ := hLI.2.2.2.1 g hg
          obtain ⟨hln, hltN, hlt⟩ := hLI.2.1.lb hN hg
          refine lv_istore (lv' := [(7, .int (nI g)), (6, .int (nI k)), (5, .int 1), (4, .int (nI G)), (3, .int (nI N)), (0, .ref t), (1, .ref (ad 0 0)), (2, .int x)]) hx hb dL_act_264 hl (by decide) rfl (fun ls hl => ?_)
          refine lv_aload_n hx hb dL_act_266 rfl (lv_at hl 6 rfl) ?_
          refine sm_fld hC 4 2 hinX2 hK hw hI dL_act_267 rfl (by decide) rfl rfl ?_
          refine lv_iload hx hb dL_act_270 (lv_at hl 1 rfl) ?_
          refine sm_ka hC k hK hw hI dL_act_272 rfl hk (by omega) ?_
          refine lv_astore (lv' := [(8, .ref (ad 2 k)), (7, .int (nI g)), (6, .int (nI k)), (5, .int 1), (4, .int (nI G)), (3, .int (nI N)), (0, .ref t), (1, .ref (ad 0 0)), (2, .int x)]) hx hb dL_act_273 hl (by decide) rfl (fun ls hl => ?_)
          refine lv_iconst (v := 1) hx hb dL_act_275 (by decide) ?_
          refine lv_iload_n hx hb dL_act_276 rfl (lv_at hl 8 rfl) ?_
          refine lv_bipush (v := 6) hx hb dL_act_277 (by decide) ?_
          refine lv_ishr hx hb dL_act_279 ?_
          refine lv_aload_n hx hb dL_act_280 rfl (lv_at hl 7 rfl) ?_
          refine sm_fld hC 3 3 hinX2 hK hw hI dL_act_281 rfl (by decide) rfl rfl ?_
          refine lv_iload hx hb dL_act_284 (lv_at hl 1 rfl) ?_
          refine sm_ga hC g hK hw hI dL_act_286 rfl hg (by omega) ?_
          refine lv_iconst (v := 0) hx hb dL_act_287 (by decide) ?_
          refine sm_g hC 0 hK hw hI hg dL_act_288 rfl (by decide) ?_
          refine gt_stk [.int (nI p9), .int (x >>> (6 &&& 31)), .int 1] (by rw [← p3]) ?_
          refine lx_callB hC 2 (ct_L_below l D (x >>> (6 &&& 31)) (nI p9) (nI_ne9 (m := p9) (by omega) (by omega))) gL_act_L_below dL_act_289 hK hw hA hl.1 rfl hd_L_below ⟨Nat.le_of_ble_eq_true rfl, Nat.le_of_ble_eq_true rfl⟩ ⟨by show _ ≤ 250; omega, by show _ ≤ 2500; omega⟩ rfl rfl (Nat.le_of_ble_eq_true rfl) (fun H locs hw => ?_)
          obtain ⟨j11, hj11, ej11⟩ : ∃ j, j < p9 ∧ bel (x >>> (6 &&& 31)) (nI p9) = nI j := bel_nI (x >>> (6 &&& 31)) (m := p9) (by omega) (by omega)
          rw [ej11]
          refine gt_stk [.int (nI j11), .int 1] rfl ?_
          refine lv_iadd hx hb dL_act_292 ?_
          refine gt_stk [.int (nI (1 + j11))] (by rw [← nI_add]; rfl) ?_
          obtain ⟨w, w1, w2, hww⟩ : ∃ w, 1 ≤ w ∧ (∃ p, p ≤ 9 ∧ M 9 g = nI p ∧ w ≤ p) ∧ 1 + j11 = w := ⟨_, by omega, ⟨p9, p2, p3, by omega⟩, rfl⟩
          rw [hww]
          refine lv_istore (lv' := [(9, .int (nI w)), (8, .ref (ad 2 k)), (7, .int (nI g)), (6, .int (nI k)), (5, .int 1), (4, .int (nI G)), (3, .int (nI N)), (0, .ref t), (1, .ref (ad 0 0)), (2, .int x)]) hx hb dL_act_293 hl (by decide) rfl (fun ls hl => ?_)
          refine lv_iconst (v := 1) hx hb dL_act_295 (by decide) ?_
          refine lv_iload_n hx hb dL_act_296 rfl (lv_at hl 9 rfl) ?_
          refine lv_iconst (v := 4) hx hb dL_act_297 (by decide) ?_
          refine lv_ishr hx hb dL_act_298 ?_
          refine lv_iload_n hx hb dL_act_299 rfl (lv_at hl 9 rfl) ?_
          refine lv_bipush (v := 8) hx hb dL_act_300 (by decide) ?_
          refine lv_ishr hx hb dL_act_302 ?_
          refine lv_iconst (v := 2) hx hb dL_act_303 (by decide) ?_
          refine lx_callB hC 2 (ct_L_below l D (x >>> (8 &&& 31)) 2 (nI_ne9 (m := 2) (by omega) (by omega))) gL_act_L_below dL_act_304 hK hw hA hl.1 rfl hd_L_below ⟨Nat.le_of_ble_eq_true rfl, Nat.le_of_ble_eq_true rfl⟩ ⟨by show _ ≤ 250; omega, by show _ ≤ 2500; omega⟩ rfl rfl (Nat.le_of_ble_eq_true rfl) (fun H locs hw => ?_)
          obtain ⟨j12, hj12, ej12⟩ : ∃ j, j < 2 ∧ bel (x >>> (8 &&& 31)) 2 = nI j := bel_nI (x >>> (8 &&& 31)) (m := 2) (by omega) (by omega)
          rw [ej12]
          refine gt_stk [.int (nI j12), .int (x >>> (4 &&& 31)), .int 1] rfl ?_
          refine lx_meet (σ := Nat) (fun j => j < 30) (fun j => [.int (nI j), .int 1]) 320 hw (fun Kc => ?_) (fun jc H locs hjc hw => ?_)
          · skip
            refine lv_if_ne (tgt := 315) hx hb dL_act_307 (by decide) (fun _ => ?_) (fun _ => ?_)
            · skip
              refine lv_bipush (v := 6) hx hb dL_act_315 (by decide) ?_
              refine lx_callB hC 2 (ct_L_below l D (x >>> (4 &&& 31)) 6 (nI_ne9 (m := 6) (by omega) (by omega))) gL_act_L_below dL_act_317 hK hw hA hl.1 rfl hd_L_below ⟨Nat.le_of_ble_eq_true rfl, Nat.le_of_ble_eq_true rfl⟩ ⟨by show _ ≤ 250; omega, by show _ ≤ 2500; omega⟩ rfl rfl (Nat.le_of_ble_eq_true rfl) (fun H locs hw => ?_)
              obtain ⟨j13, hj13, ej13⟩ : ∃ j, j < 6 ∧ bel (x >>> (4 &&& 31)) 6 = nI j := bel_nI (x >>> (4 &&& 31)) (m := 6) (by omega) (by omega)
              rw [ej13]
              refine gt_stk [.int (nI j13), .int 1] rfl ?_
              exact Kc j13 H locs (by omega) hw
            · skip
              refine lv_bipush (v := 30) hx hb dL_act_310 (by decide) ?_
              refine lv_goto (tgt := 317) hx hb dL_act_312 (by decide) ?_
              refine lx_callB hC 2 (ct_L_below l D (x >>> (4 &&& 31)) 30 (nI_ne9 (m := 30) (by omega) (by omega))) gL_act_L_below dL_act_317 hK hw hA hl.1 rfl hd_L_below ⟨Nat.le_of_ble_eq_true rfl, Nat.le_of_ble_eq_true rfl⟩ ⟨by show _ ≤ 250; omega, by show _ ≤ 2500; omega⟩ rfl rfl (Nat.le_of_ble_eq_true rfl) (fun H locs hw => ?_)
              obtain ⟨j14, hj14, ej14⟩ : ∃ j, j < 30 ∧ bel (x >>> (4 &&& 31)) 30 = nI j := bel_nI (x >>> (4 &&& 31)) (m := 30) (by omega) (by omega)
              rw [ej14]
              refine gt_stk [.int (nI j14), .int 1] rfl ?_
              exact Kc j14 H locs (by omega) hw
          · skip
            refine lv_iadd hx hb dL_act_320 ?_
            refine gt_stk [.int (nI (1 + jc))] (by rw [← nI_add]; rfl) ?_
            obtain ⟨cc9, c1, c2, hcc⟩ : ∃ c, 1 ≤ c ∧ c ≤ 30 ∧ 1 + jc = c := ⟨_, by omega, by omega, rfl⟩
            rw [hcc]
            refine lv_istore (lv' := [(10, .int (nI cc9)), (9, .int (nI w)), (8, .ref (ad 2 k)), (7, .int (nI g)), (6, .int (nI k)), (5, .int 1), (4, .int (nI G)), (3, .int (nI N)), (0, .ref t), (1, .ref (ad 0 0)), (2, .int x)]) hx hb dL_act_321 hl (by decide) rfl (fun ls hl => ?_)
            refine lv_iload_n hx hb dL_act_323 rfl (lv_at hl 10 rfl) ?_
            refine lv_bipush (v := 18) hx hb dL_act_324 (by decide) ?_
            refine lx_callB hC 2 (ct_L_below l D x 18 (nI_ne9 (m := 18) (by omega) (by omega))) gL_act_L_below dL_act_326 hK hw hA hl.1 rfl hd_L_below ⟨Nat.le_of_ble_eq_true rfl, Nat.le_of_ble_eq_true rfl⟩ ⟨by show _ ≤ 250; omega, by show _ ≤ 2500; omega⟩ rfl rfl (Nat.le_of_ble_eq_true rfl) (fun H locs hw => ?_)
            obtain ⟨j15, hj15, ej15⟩ : ∃ j, j < 18 ∧ bel x 18 = nI j := bel_nI x (m := 18) (by omega) (by omega)
            rw [ej15]
            refine gt_stk [.int (nI j15)] rfl ?_
            refine lx_meet (σ := Unit) (fun _ => True) (fun _ => []) 380 hw (fun Kk => ?_) (fun _ H locs _ hw => ?_)
            rotate_left
            · skip
              refine lv_iconst (v := 1) hx hb dL_act_380 (by decide) ?_
              refine lv_iload_n hx hb dL_act_381 rfl (lv_at hl 10 rfl) ?_
              refine lv_bipush (v := 7) hx hb dL_act_382 (by decide) ?_
              refine lv_ishr hx hb dL_act_384 ?_
              refine lv_iload_n hx hb dL_act_385 rfl (lv_at hl 10 rfl) ?_
              refine lv_bipush (v := 9) hx hb dL_act_386 (by decide) ?_
              refine lv_ishr hx hb dL_act_388 ?_
              refine lv_iconst (v := 2) hx hb dL_act_389 (by decide) ?_
              refine lx_callB hC 2 (ct_L_below l D (x >>> (9 &&& 31)) 2 (nI_ne9 (m := 2) (by omega) (by omega))) gL_act_L_below dL_act_390 hK hw hA hl.1 rfl hd_L_below ⟨Nat.le_of_ble_eq_true rfl, Nat.le_of_ble_eq_true rfl⟩ ⟨by show _ ≤ 250; omega, by show _ ≤ 2500; omega⟩ rfl rfl (Nat.le_of_ble_eq_true rfl) (fun H locs hw => ?_)
              obtain ⟨j16, hj16, ej16⟩ : ∃ j, j < 2 ∧ bel (x >>> (9 &&& 31)) 2 = nI j := bel_nI (x >>> (9 &&& 31)) (m := 2) (by omega) (by omega)
              rw [ej16]
              refine gt_stk [.int (nI j16), .int (x >>> (7 &&& 31)), .int 1] rfl ?_
              refine lx_meet (σ := Nat) (fun j => j < 60) (fun j => [.int (nI j), .int 1]) 406 hw (fun Kd => ?_) (fun jd H locs hjd hw => ?_)
              · skip
                refine lv_if_ne (tgt := 401) hx hb dL_act_393 (by decide) (fun _ => ?_) (fun _ => ?_)
                · skip
                  refine lv_bipush (v := 12) hx hb dL_act_401 (by decide) ?_
                  refine lx_callB hC 2 (ct_L_below l D (x >>> (7 &&& 31)) 12 (nI_ne9 (m := 12) (by omega) (by omega))) gL_act_L_below dL_act_403 hK hw hA hl.1 rfl hd_L_below ⟨Nat.le_of_ble_eq_true rfl, Nat.le_of_ble_eq_true rfl⟩ ⟨by show _ ≤ 250; omega, by show _ ≤ 2500; omega⟩ rfl rfl (Nat.le_of_ble_eq_true rfl) (fun H locs hw => ?_)
                  obtain ⟨j17, hj17, ej17⟩ : ∃ j, j < 12 ∧ bel (x >>> (7 &&& 31)) 12 = nI j := bel_nI (x >>> (7 &&& 31)) (m := 12) (by omega) (by omega)
                  rw [ej17]
                  refine gt_stk [.int (nI j17), .int 1] rfl ?_
                  exact Kd j17 H locs (by omega) hw
                · skip
                  refine lv_bipush (v := 60) hx hb dL_act_396 (by decide) ?_
                  refine lv_goto (tgt := 403) hx hb dL_act_398 (by decide) ?_
                  refine lx_callB hC 2 (ct_L_below l D (x >>> (7 &&& 31)) 60 (nI_ne9 (m := 60) (by omega) (by omega))) gL_act_L_below dL_act_403 hK hw hA hl.1 rfl hd_L_below ⟨Nat.le_of_ble_eq_true rfl, Nat.le_of_ble_eq_true rfl⟩ ⟨by show _ ≤ 250; omega, by show _ ≤ 2500; omega⟩ rfl rfl (Nat.le_of_ble_eq_true rfl) (fun H locs hw => ?_)
                  obtain ⟨j18, hj18, ej18⟩ : ∃ j, j < 60 ∧ bel (x >>> (7 &&& 31)) 60 = nI j := bel_nI (x >>> (7 &&& 31)) (m := 60) (by omega) (by omega)
                  rw [ej18]
                  refine gt_stk [.int (nI j18), .int 1] rfl ?_
                  exact Kd j18 H locs (by omega) hw
              · skip
                refine lv_iadd hx hb dL_act_406 ?_
                refine gt_stk [.int (nI (1 + jd))] (by rw [← nI_add]; rfl) ?_
                obtain ⟨d9, d1, d2, hdd⟩ : ∃ d, 1 ≤ d ∧ d ≤ 60 ∧ 1 + jd = d := ⟨_, by omega, by omega, rfl⟩
                rw [hdd]
                refine lv_istore (lv' := [(11, .int (nI d9)), (10, .int (nI cc9)), (9, .int (nI w)), (8, .ref (ad 2 k)), (7, .int (nI g)), (6, .int (nI k)), (5, .int 1), (4, .int (nI G)), (3, .int (nI N)), (0, .ref t), (1, .ref (ad 0 0)), (2, .int x)]) hx hb dL_act_407 hl (by decide) rfl (fun ls hl => ?_)
                refine lv_aload hx hb dL_act_409 (lv_at hl 3 rfl) ?_
                refine lv_iconst (v := 1) hx hb dL_act_411 (by decide) ?_
                refine sm_k hC 1 0 hK hw hI hk dL_act_412 rfl (by decide) rfl ?_
                have hM := ct_X1_ask l hl0 D cI t o r S o1 r1 Tt (nI k) (nI g) (nI w) (nI cc9) (nI d9) N hSN hN G hSG hG4
                rw [x_ask hLI hk hg w1 w2 c1 c2 d1 d2, cl_nI (show k < 12 by omega)] at hM
                refine lv_if_ne (tgt := 420) hx hb dL_act_413 (by decide) (fun h413 : ¬ (M 0 k = 0) => ?_) (fun h413 : M 0 k = 0 => ?_)
                · skip
                  refine lv_iconst (v := 0) hx hb dL_act_420 (by decide) ?_
                  refine lv_istore (lv' := [(5, .int 0), (11, .int (nI d9)), (10, .int (nI cc9)), (9, .int (nI w)), (8, .ref (ad 2 k)), (7, .int (nI g)), (6, .int (nI k)), (4, .int (nI G)), (3, .int (nI N)), (0, .ref t), (1, .ref (ad 0 0)), (2, .int x)]) hx hb dL_act_421 hl (by decide) rfl (fun ls hl => ?_)
                  refine lv_iload hx hb dL_act_423 (lv_at hl 0 rfl) ?_
                  refine lv_if_eq (tgt := 442) hx hb dL_act_425 (by decide) (fun _ => ?_) (fun z => absurd rfl z)
                  have hxs : xIdle S k = some gxIS := if_neg (fun z => h413 ((hLI.st hk).trans z))
                  refine lv_aload_n hx hb dL_act_442 rfl (lv_at hl 9 rfl) ?_
                  refine lv_iload hx hb dL_act_443 (lv_at hl 6 rfl) ?_
                  refine lv_iload hx hb dL_act_445 (lv_at hl 5 rfl) ?_
                  refine lv_iload hx hb dL_act_447 (lv_at hl 3 rfl) ?_
                  refine lv_iload hx hb dL_act_449 (lv_at hl 2 rfl) ?_
                  refine lv_iload hx hb dL_act_451 (lv_at hl 1 rfl) ?_
                  refine tx_callX hC 0 1 5 hM gL_act_X1_ask dL_act_453 hE hK hw hA hl.1 rfl hd_X1_ask ⟨Nat.le_of_ble_eq_true rfl, Nat.le_of_ble_eq_true rfl⟩ ⟨by show _ ≤ 250; omega, by show _ ≤ 2500; omega⟩ rfl rfl rfl rfl (Nat.le_of_ble_eq_true rfl) (fun E ce q9 H locs hEx hw h1 h2 h3 => ?_) (fun hn => nomatch (hxs.symm.trans hn))
                  have hEE : E = gxIS := Option.some.inj (hEx.symm.trans hxs)
                  subst hEE
                  refine vx_catch (own := RL) (name := gxIS) hC.2.2.2.1 [⟨16, 131, 665, 62⟩, ⟨132, 246, 665, 62⟩] ⟨247, 477, 665, 62⟩ [⟨478, 562, 665, 62⟩, ⟨563, 615, 665, 62⟩, ⟨616, 664, 665, 62⟩] htab (lx_cov (by decide)) rfl (by decide) (hC.2.2.2.2 _ (List.mem_of_getElem? (i := 1) rfl)) (va_Nw.use rfl hE.2.1.2.2.2.2.2.1) h1 h2 h3 ?_
                  refine lv_astore (lv' := [(6, .ref q9), (5, .int 0), (11, .int (nI d9)), (10, .int (nI cc9)), (9, .int (nI w)), (8, .ref (ad 2 k)), (7, .int (nI g)), (4, .int (nI G)), (3, .int (nI N)), (0, .ref t), (1, .ref (ad 0 0)), (2, .int x)]) hx hb dL_act_665 hl (by decide) rfl (fun ls hl => ?_)
                  refine lv_iload hx hb dL_act_667 (lv_at hl 1 rfl) ?_
                  refine lv_if_ne (tgt := 676) hx hb dL_act_669 (by decide) (fun z => absurd rfl z) (fun _ => ?_)
                  refine lv_iconst (v := 1) hx hb dL_act_672 (by decide) ?_
                  refine lv_goto (tgt := 677) hx hb dL_act_673 (by decide) ?_
                  exact lx_zretW hC hr hlk hw (Or.inr rfl) ⟨rfl, G, N, S, M, Ls, ad, Tt, rfl, hI, hLI.mono (by omega), hLJ, Or.inr (by omega), rfl⟩ dL_act_677 (by show _ ≤ 250; omega) (by show _ ≤ 2500; omega)
                · skip
                  refine lv_iconst (v := 1) hx hb dL_act_416 (by decide) ?_
                  refine lv_goto (tgt := 421) hx hb dL_act_417 (by decide) ?_
                  refine lv_istore (lv' := [(5, .int 1), (11, .int (nI d9)), (10, .int (nI cc9)), (9, .int (nI w)), (8, .ref (ad 2 k)), (7, .int (nI g)), (6, .int (nI k)), (4, .int (nI G)), (3, .int (nI N)), (0, .ref t), (1, .ref (ad 0 0)), (2, .int x)]) hx hb dL_act_421 hl (by decide) rfl (fun ls hl => ?_)
                  refine lv_iload hx hb dL_act_423 (lv_at hl 0 rfl) ?_
                  refine lv_if_eq (tgt := 442) hx hb dL_act_425 (by decide) (fun z => absurd z (by decide)) (fun _ => ?_)
                  have hxn : xIdle S k = none := if_pos ((hLI.st hk).symm.trans h413)
                  obtain ⟨M', hLI', hrow⟩ := do_ask hLI (by omega) hk hg w1 w2 c1 c2 d1 d2 h413
                  refine lv_aload_n hx hb dL_act_428 rfl (lv_at hl 10 rfl) ?_
                  refine lv_iload hx hb dL_act_429 (lv_at hl 6 rfl) ?_
                  refine lv_iload hx hb dL_act_431 (lv_at hl 5 rfl) ?_
                  refine lv_iload hx hb dL_act_433 (lv_at hl 3 rfl) ?_
                  refine lv_iload hx hb dL_act_435 (lv_at hl 2 rfl) ?_
                  refine lv_iload hx hb dL_act_437 (lv_at hl 1 rfl) ?_
                  refine px_callV hC 2 5 (ct_X2_ask l D cI cR L f ad G N G M Ls hI hN k g (nI w) (nI cc9) (nI d9) hk hg hG4 hln) gL_act_X2_ask dL_act_439 hE.1 hK hw hA hl.1 rfl hd_X2_ask ⟨Nat.le_of_ble_eq_true rfl, Nat.le_of_ble_eq_true rfl⟩ ⟨by show _ ≤ 250; omega, by show _ ≤ 2500; omega⟩ hI.1.1 hI.1.2 rfl rfl rfl (Nat.le_of_ble_eq_true rfl) (fun rv L1 f1 H locs hp hw => ?_)
                  obtain ⟨rfl, a1, hI1, hF1⟩ := hp
                  have h00 : a1 0 0 = ad 0 0 := hF1.2.2 0 0 (by decide)
                  have hI2 : SimI cI cR L1 f1 a1 G N G M' (lsU Ls g (Ls g ++ [k])) := hI1.congr (fun i hi => hrow 8 i (by omega) (by omega) (by omega)) (fun g1 _ => ⟨hrow 9 g1 (by omega) (by omega) (by omega), hrow 10 g1 (by omega) (by omega) (by omega)⟩) (fun k1 _ j hj => hrow (rw8 j) k1 (rw8_no).1 (by have := rw8_rng j hj; omega) (by have := rw8_no (j := j); omega))
                  refine gt_stk [] rfl ?_
                  refine lv_aload_n hx hb dL_act_442 rfl (lv_at hl 9 rfl) ?_
                  refine lv_iload hx hb dL_act_443 (lv_at hl 6 rfl) ?_
                  refine lv_iload hx hb dL_act_445 (lv_at hl 5 rfl) ?_
                  refine lv_iload hx hb dL_act_447 (lv_at hl 3 rfl) ?_
                  refine lv_iload hx hb dL_act_449 (lv_at hl 2 rfl) ?_
                  refine lv_iload hx hb dL_act_451 (lv_at hl 1 rfl) ?_
                  refine tx_callX hC 0 1 5 hM gL_act_X1_ask dL_act_453 hE hK hw hA hl.1 rfl hd_X1_ask ⟨Nat.le_of_ble_eq_true rfl, Nat.le_of_ble_eq_true rfl⟩ ⟨by show _ ≤ 250; omega, by show _ ≤ 2500; omega⟩ rfl rfl rfl rfl (Nat.le_of_ble_eq_true rfl) (fun E ce q9 H locs hEx hw h1 h2 h3 => nomatch (hxn.symm.trans hEx)) (fun _ H locs hw => ?_)
                  refine gt_stk [.int (gxWat (gxLine S k (nI g) (nI w) (nI cc9) (nI d9)) (nI g) N)] rfl ?_
                  rw [← h00] at hl
                  refine lv_aload_n hx hb dL_act_456 rfl (lv_at hl 10 rfl) ?_
                  refine sm_fld hC 5 5 hinX2 hK hw hI2 dL_act_457 rfl (by decide) rfl rfl ?_
                  refine lv_iload hx hb dL_act_460 (lv_at hl 5 rfl) ?_
                  refine sm_la hC g hK hw hI2 dL_act_462 rfl hg (by omega) ?_
                  refine sm_lln hC hK hw hI2 hg dL_act_463 ?_
                  refine lv_icmp_ne (tgt := 476) hx hb dL_act_464 (by decide) (fun z => absurd (hLI'.len hg) z) (fun _ => ?_)
                  refine lv_iload hx hb dL_act_467 (lv_at hl 0 rfl) ?_
                  refine lv_if_eq (tgt := 476) hx hb dL_act_469 (by decide) (fun z => absurd z (by decide)) (fun _ => ?_)
                  refine lv_iconst (v := 1) hx hb dL_act_472 (by decide) ?_
                  refine lv_goto (tgt := 477) hx hb dL_act_473 (by decide) ?_
                  exact lx_zretW hC hr hlk hw (Or.inr rfl) ⟨rfl, G, N, _, M', _, a1, Tt, rfl, hI2, (hLI'.mono (by omega)), lj_ask hLJ w1 (by obtain ⟨p, q1, -, q2⟩ := w2; omega) hrow, Or.inr (by omega), h00⟩ dL_act_477 (by show _ ≤ 250; omega) (by show _ ≤ 2500; omega)
            refine lx_meet (σ := Unit) (fun _ => True) (fun _ => []) 478 hw (fun Kb => ?_) (fun _ H locs _ hw => ?_)
            rotate_left
            · skip
              refine lv_aload hx hb dL_act_478 (lv_at hl 2 rfl) ?_
              refine lv_iconst (v := 1) hx hb dL_act_480 (by decide) ?_
              refine sm_k hC 1 0 hK hw hI hk dL_act_481 rfl (by decide) rfl ?_
              have hM := ct_X1_barge l hl0 D cI t o r S o1 r1 Tt (nI k) (nI g) (nI w) (nI cc9) N hSN hN G hSG hG4
              rw [x_barge hLI hk hg w1 w2 c1 c2, cl_nI (show k < 12 by omega), cl_nI (show g < 12 by omega)] at hM
              refine lv_if_ne (tgt := 500) hx hb dL_act_482 (by decide) (fun h482 : ¬ (M 0 k = 0) => ?_) (fun h482 : M 0 k = 0 => ?_)
              · skip
                refine lv_iconst (v := 0) hx hb dL_act_500 (by decide) ?_
                refine lv_istore (lv' := [(5, .int 0), (10, .int (nI cc9)), (9, .int (nI w)), (8, .ref (ad 2 k)), (7, .int (nI g)), (6, .int (nI k)), (4, .int (nI G)), (3, .int (nI N)), (0, .ref t), (1, .ref (ad 0 0)), (2, .int x)]) hx hb dL_act_501 hl (by decide) rfl (fun ls hl => ?_)
                refine lv_iload hx hb dL_act_503 (lv_at hl 0 rfl) ?_
                refine lv_if_eq (tgt := 531) hx hb dL_act_505 (by decide) (fun _ => ?_) (fun z => absurd rfl z)
                have hxs : (xIdle S k).or (xFr S g N (nI w)) = some gxIS := by rw [show xIdle S k = some gxIS from if_neg (fun z => h482 ((hLI.st hk).trans z))]; rfl
                refine lv_aload_n hx hb dL_act_531 rfl (lv_at hl 8 rfl) ?_
                refine lv_iload hx hb dL_act_532 (lv_at hl 5 rfl) ?_
                refine lv_iload hx hb dL_act_534 (lv_at hl 4 rfl) ?_
                refine lv_iload hx hb dL_act_536 (lv_at hl 2 rfl) ?_
                refine lv_iload hx hb dL_act_538 (lv_at hl 1 rfl) ?_
                refine tx_callX hC 0 1 4 hM gL_act_X1_barge dL_act_540 hE hK hw hA hl.1 rfl hd_X1_barge ⟨Nat.le_of_ble_eq_true rfl, Nat.le_of_ble_eq_true rfl⟩ ⟨by show _ ≤ 250; omega, by show _ ≤ 2500; omega⟩ rfl rfl rfl rfl (Nat.le_of_ble_eq_true rfl) (fun E ce q9 H locs hEx hw h1 h2 h3 => ?_) (fun hn => nomatch (hxs.symm.trans hn))
                have hEE : E = gxIS := Option.some.inj (hEx.symm.trans hxs)
                subst hEE
                refine vx_catch (own := RL) (name := gxIS) hC.2.2.2.1 [⟨16, 131, 665, 62⟩, ⟨132, 246, 665, 62⟩, ⟨247, 477, 665, 62⟩] ⟨478, 562, 665, 62⟩ [⟨563, 615, 665, 62⟩, ⟨616, 664, 665, 62⟩] htab (lx_cov (by decide)) rfl (by decide) (hC.2.2.2.2 _ (List.mem_of_getElem? (i := 1) rfl)) (va_Nw.use rfl hE.2.1.2.2.2.2.2.1) h1 h2 h3 ?_
                refine lv_astore (lv' := [(6, .ref q9), (5, .int 0), (10, .int (nI cc9)), (9, .int (nI w)), (8, .ref (ad 2 k)), (7, .int (nI g)), (4, .int (nI G)), (3, .int (nI N)), (0, .ref t), (1, .ref (ad 0 0)), (2, .int x)]) hx hb dL_act_665 hl (by decide) rfl (fun ls hl => ?_)
                refine lv_iload hx hb dL_act_667 (lv_at hl 1 rfl) ?_
                refine lv_if_ne (tgt := 676) hx hb dL_act_669 (by decide) (fun z => absurd rfl z) (fun _ => ?_)
                refine lv_iconst (v := 1) hx hb dL_act_672 (by decide) ?_
                refine lv_goto (tgt := 677) hx hb dL_act_673 (by decide) ?_
                exact lx_zretW hC hr hlk hw (Or.inr rfl) ⟨rfl, G, N, S, M, Ls, ad, Tt, rfl, hI, hLI.mono (by omega), hLJ, Or.inr (by omega), rfl⟩ dL_act_677 (by show _ ≤ 250; omega) (by show _ ≤ 2500; omega)
              · skip
                refine lv_aload_n hx hb dL_act_485 rfl (lv_at hl 9 rfl) ?_
                refine lv_iload hx hb dL_act_486 (lv_at hl 3 rfl) ?_
                refine px_callV hC 2 1 (ct_X2_free l D cI cR L f ad G N G M Ls hI hN g hg hG4) gL_act_X2_free dL_act_488 hE.1 hK hw hA hl.1 rfl hd_X2_free ⟨Nat.le_of_ble_eq_true rfl, Nat.le_of_ble_eq_true rfl⟩ ⟨by show _ ≤ 250; omega, by show _ ≤ 2500; omega⟩ hI.1.1 hI.1.2 rfl rfl rfl (Nat.le_of_ble_eq_true rfl) (fun rv L9 f9 H locs hp hw => ?_)
                obtain ⟨rfl, e8, e9⟩ := hp
                rw [e8, e9] at hw
                refine gt_stk [.int (mFree M g N)] rfl ?_
                refine lv_iload hx hb dL_act_491 (lv_at hl 1 rfl) ?_
                refine lv_icmp_lt (tgt := 500) hx hb dL_act_493 (by decide) (fun h493 : (mFree M g N) < (nI w) => ?_) (fun h493 : ¬ ((mFree M g N) < (nI w)) => ?_)
                · skip
                  refine lv_iconst (v := 0) hx hb dL_act_500 (by decide) ?_
                  refine lv_istore (lv' := [(5, .int 0), (10, .int (nI cc9)), (9, .int (nI w)), (8, .ref (ad 2 k)), (7, .int (nI g)), (6, .int (nI k)), (4, .int (nI G)), (3, .int (nI N)), (0, .ref t), (1, .ref (ad 0 0)), (2, .int x)]) hx hb dL_act_501 hl (by decide) rfl (fun ls hl => ?_)
                  refine lv_iload hx hb dL_act_503 (lv_at hl 0 rfl) ?_
                  refine lv_if_eq (tgt := 531) hx hb dL_act_505 (by decide) (fun _ => ?_) (fun z => absurd rfl z)
                  have hxs : (xIdle S k).or (xFr S g N (nI w)) = some gxIS := by rw [show xIdle S k = none from if_pos ((hLI.st hk).symm.trans h482), show xFr S g N (nI w) = some gxIS from if_neg (by rw [← hLI.fr hg]; exact Int32.not_le.mpr h493)]; rfl
                  refine lv_aload_n hx hb dL_act_531 rfl (lv_at hl 8 rfl) ?_
                  refine lv_iload hx hb dL_act_532 (lv_at hl 5 rfl) ?_
                  refine lv_iload hx hb dL_act_534 (lv_at hl 4 rfl) ?_
                  refine lv_iload hx hb dL_act_536 (lv_at hl 2 rfl) ?_
                  refine lv_iload hx hb dL_act_538 (lv_at hl 1 rfl) ?_
                  refine tx_callX hC 0 1 4 hM gL_act_X1_barge dL_act_540 hE hK hw hA hl.1 rfl hd_X1_barge ⟨Nat.le_of_ble_eq_true rfl, Nat.le_of_ble_eq_true rfl⟩ ⟨by show _ ≤ 250; omega, by show _ ≤ 2500; omega⟩ rfl rfl rfl rfl (Nat.le_of_ble_eq_true rfl) (fun E ce q9 H locs hEx hw h1 h2 h3 => ?_) (fun hn => nomatch (hxs.symm.trans hn))
                  have hEE : E = gxIS := Option.some.inj (hEx.symm.trans hxs)
                  subst hEE
                  refine vx_catch (own := RL) (name := gxIS) hC.2.2.2.1 [⟨16, 131, 665, 62⟩, ⟨132, 246, 665, 62⟩, ⟨247, 477, 665, 62⟩] ⟨478, 562, 665, 62⟩ [⟨563, 615, 665, 62⟩, ⟨616, 664, 665, 62⟩] htab (lx_cov (by decide)) rfl (by decide) (hC.2.2.2.2 _ (List.mem_of_getElem? (i := 1) rfl)) (va_Nw.use rfl hE.2.1.2.2.2.2.2.1) h1 h2 h3 ?_
                  refine lv_astore (lv' := [(6, .ref q9), (5, .int 0), (10, .int (nI cc9)), (9, .int (nI w)), (8, .ref (ad 2 k)), (7, .int (nI g)), (4, .int (nI G)), (3, .int (nI N)), (0, .ref t), (1, .ref (ad 0 0)), (2, .int x)]) hx hb dL_act_665 hl (by decide) rfl (fun ls hl => ?_)
                  refine lv_iload hx hb dL_act_667 (lv_at hl 1 rfl) ?_
                  refine lv_if_ne (tgt := 676) hx hb dL_act_669 (by decide) (fun z => absurd rfl z) (fun _ => ?_)
                  refine lv_iconst (v := 1) hx hb dL_act_672 (by decide) ?_
                  refine lv_goto (tgt := 677) hx hb dL_act_673 (by decide) ?_
                  exact lx_zretW hC hr hlk hw (Or.inr rfl) ⟨rfl, G, N, S, M, Ls, ad, Tt, rfl, hI, hLI.mono (by omega), hLJ, Or.inr (by omega), rfl⟩ dL_act_677 (by show _ ≤ 250; omega) (by show _ ≤ 2500; omega)
                · skip
                  refine lv_iconst (v := 1) hx hb dL_act_496 (by decide) ?_
                  refine lv_goto (tgt := 501) hx hb dL_act_497 (by decide) ?_
                  refine lv_istore (lv' := [(5, .int 1), (10, .int (nI cc9)), (9, .int (nI w)), (8, .ref (ad 2 k)), (7, .int (nI g)), (6, .int (nI k)), (4, .int (nI G)), (3, .int (nI N)), (0, .ref t), (1, .ref (ad 0 0)), (2, .int x)]) hx hb dL_act_501 hl (by decide) rfl (fun ls hl => ?_)
                  refine lv_iload hx hb dL_act_503 (lv_at hl 0 rfl) ?_
                  refine lv_if_eq (tgt := 531) hx hb dL_act_505 (by decide) (fun z => absurd z (by decide)) (fun _ => ?_)
                  have hxn : (xIdle S k).or (xFr S g N (nI w)) = none := by rw [show xIdle S k = none from if_pos ((hLI.st hk).symm.trans h482), show xFr S g N (nI w) = none from if_pos (by rw [← hLI.fr hg]; exact Int32.not_lt.mp h493)]; rfl
                  obtain ⟨M', hLI', hrow⟩ := do_barge hLI hk hg w1 w2 c1 c2 h482 (Int32.not_lt.mp h493)
                  have hF : pxF N L f ad L f ad := pxF.refl
                  refine lv_aload hx hb dL_act_508 (lv_at hl 3 rfl) ?_
                  refine lv_iconst (v := 1) hx hb dL_act_510 (by decide) ?_
                  refine lv_iconst (v := 2) hx hb dL_act_511 (by decide) ?_
                  refine sm_kst hC 1 0 hK hw hI hk dL_act_512 rfl (by decide) rfl (fun f H locs hw hI hF1 => ?_)
                  replace hF := hF.trans hF1
                  refine lv_aload hx hb dL_act_513 (lv_at hl 3 rfl) ?_
                  refine lv_iconst (v := 2) hx hb dL_act_515 (by decide) ?_
                  refine lv_iload hx hb dL_act_516 (lv_at hl 4 rfl) ?_
                  refine sm_kst hC 2 1 hK hw hI hk dL_act_518 rfl (by decide) rfl (fun f H locs hw hI hF1 => ?_)
                  replace hF := hF.trans hF1
                  refine lv_aload hx hb dL_act_519 (lv_at hl 3 rfl) ?_
                  refine lv_iconst (v := 3) hx hb dL_act_521 (by decide) ?_
                  refine lv_iload hx hb dL_act_522 (lv_at hl 2 rfl) ?_
                  refine sm_kst hC 3 2 hK hw hI hk dL_act_524 rfl (by decide) rfl (fun f H locs hw hI hF1 => ?_)
                  replace hF := hF.trans hF1
                  refine lv_aload hx hb dL_act_525 (lv_at hl 3 rfl) ?_
                  refine lv_iconst (v := 4) hx hb dL_act_527 (by decide) ?_
                  refine lv_iload hx hb dL_act_528 (lv_at hl 1 rfl) ?_
                  refine sm_kst hC 4 3 hK hw hI hk dL_act_530 rfl (by decide) rfl (fun f H locs hw hI hF1 => ?_)
                  replace hF := hF.trans hF1
                  have hI2 : SimI cI cR L f ad G N G M' Ls := hI.congr (fun i hi => hrow 8 i (by omega)) (fun g1 _ => ⟨hrow 9 g1 (by omega), hrow 10 g1 (by omega)⟩) (fun k1 _ j hj => hrow (rw8 j) k1 (by have := rw8_rng j hj; omega))
                  refine lv_aload_n hx hb dL_act_531 rfl (lv_at hl 8 rfl) ?_
                  refine lv_iload hx hb dL_act_532 (lv_at hl 5 rfl) ?_
                  refine lv_iload hx hb dL_act_534 (lv_at hl 4 rfl) ?_
                  refine lv_iload hx hb dL_act_536 (lv_at hl 2 rfl) ?_
                  refine lv_iload hx hb dL_act_538 (lv_at hl 1 rfl) ?_
                  refine tx_callX hC 0 1 4 hM gL_act_X1_barge dL_act_540 hE hK hw hA hl.1 rfl hd_X1_barge ⟨Nat.le_of_ble_eq_true rfl, Nat.le_of_ble_eq_true rfl⟩ ⟨by show _ ≤ 250; omega, by show _ ≤ 2500; omega⟩ rfl rfl rfl rfl (Nat.le_of_ble_eq_true rfl) (fun E ce q9 H locs hEx hw h1 h2 h3 => nomatch (hxn.symm.trans hEx)) (fun _ H locs hw => ?_)
                  refine gt_stk [.int (gxFree (gxEnt S k (nI g) (nI w) (nI cc9)) g N)] rfl ?_
                  refine lv_aload_n hx hb dL_act_543 rfl (lv_at hl 9 rfl) ?_
                  refine lv_iload hx hb dL_act_544 (lv_at hl 4 rfl) ?_
                  refine px_callV hC 2 1 (ct_X2_free l D cI cR L f ad G N G M' Ls hI2 hN g hg hG4) gL_act_X2_free dL_act_546 hE.1 hK hw hA hl.1 rfl hd_X2_free ⟨Nat.le_of_ble_eq_true rfl, Nat.le_of_ble_eq_true rfl⟩ ⟨by show _ ≤ 250; omega, by show _ ≤ 2500; omega⟩ hI2.1.1 hI2.1.2 rfl rfl rfl (Nat.le_of_ble_eq_true rfl) (fun rv L9 f9 H locs hp hw => ?_)
                  obtain ⟨rfl, e8, e9⟩ := hp
                  rw [e8, e9] at hw
                  refine gt_stk [.int (mFree M' g N), .int (gxFree (gxEnt S k (nI g) (nI w) (nI cc9)) g N)] rfl ?_
                  refine lv_icmp_ne (tgt := 561) hx hb dL_act_549 (by decide) (fun z => absurd (hLI'.fr hg).symm z) (fun _ => ?_)
                  refine lv_iload hx hb dL_act_552 (lv_at hl 0 rfl) ?_
                  refine lv_if_eq (tgt := 561) hx hb dL_act_554 (by decide) (fun z => absurd z (by decide)) (fun _ => ?_)
                  refine lv_iconst (v := 1) hx hb dL_act_557 (by decide) ?_
                  refine lv_goto (tgt := 562) hx hb dL_act_558 (by decide) ?_
                  exact lx_zretW hC hr hlk hw (Or.inr rfl) ⟨rfl, G, N, _, M', Ls, ad, Tt, rfl, hI2, (hLI'.mono (by omega)), lj_barge hLJ hG4 hg w1 (by obtain ⟨p, q1, -, q2⟩ := w2; omega) (Int32.not_lt.mp h493) hrow, Or.inr (by omega), rfl⟩ dL_act_562 (by show _ ≤ 250; omega) (by show _ ≤ 2500; omega)
            refine lx_meet (σ := Unit) (fun _ => True) (fun _ => []) 563 hw (fun Kl => ?_) (fun _ H locs _ hw => ?_)
            rotate_left
            · skip
              refine lv_aload hx hb dL_act_563 (lv_at hl 2 rfl) ?_
              refine lv_iconst (v := 1) hx hb dL_act_565 (by decide) ?_
              refine sm_k hC 1 0 hK hw hI hk dL_act_566 rfl (by decide) rfl ?_
              have hM := ct_X1_callBack l hl0 D cI t o r S o1 r1 Tt (nI k) N hSN hN
              rw [x_callBack hLI hk, cl_nI (show k < 12 by omega)] at hM
              have hst : M 0 k = 0 ∨ M 0 k = 1 ∨ M 0 k = 2 := by rw [hLI.st hk]; exact rj_z (hLI.1.2.2.2.2.2.2.1.1 k hk)
              refine lv_if_le (tgt := 574) hx hb dL_act_567 (by decide) (fun h567 : (M 0 k) ≤ 0 => ?_) (fun h567 : ¬ ((M 0 k) ≤ 0) => ?_)
              · skip
                have h0 : M 0 k = 0 := by
                  rcases hst with z | z | z
                  · exact z
                  · rw [z] at h567; exact absurd h567 (by decide)
                  · rw [z] at h567; exact absurd h567 (by decide)
                refine lv_iconst (v := 0) hx hb dL_act_574 (by decide) ?_
                refine lv_istore (lv' := [(5, .int 0), (10, .int (nI cc9)), (9, .int (nI w)), (8, .ref (ad 2 k)), (7, .int (nI g)), (6, .int (nI k)), (4, .int (nI G)), (3, .int (nI N)), (0, .ref t), (1, .ref (ad 0 0)), (2, .int x)]) hx hb dL_act_575 hl (by decide) rfl (fun ls hl => ?_)
                refine lv_iload hx hb dL_act_577 (lv_at hl 0 rfl) ?_
                refine lv_if_eq (tgt := 591) hx hb dL_act_579 (by decide) (fun _ => ?_) (fun z => absurd rfl z)
                have hxs : xCb S k = some gxIS := if_pos ((hLI.st hk).symm.trans h0)
                refine lv_iconst (v := 0) hx hb dL_act_591 (by decide) ?_
                refine lv_istore (lv' := [(11, .int 0), (5, .int 0), (10, .int (nI cc9)), (9, .int (nI w)), (8, .ref (ad 2 k)), (7, .int (nI g)), (6, .int (nI k)), (4, .int (nI G)), (3, .int (nI N)), (0, .ref t), (1, .ref (ad 0 0)), (2, .int x)]) hx hb dL_act_592 hl (by decide) rfl (fun ls hl => ?_)
                refine lv_aload_n hx hb dL_act_594 rfl (lv_at hl 9 rfl) ?_
                refine lv_iload hx hb dL_act_595 (lv_at hl 6 rfl) ?_
                refine tx_callX hC 0 1 1 hM gL_act_X1_callBack dL_act_597 hE hK hw hA hl.1 rfl hd_X1_callBack ⟨Nat.le_of_ble_eq_true rfl, Nat.le_of_ble_eq_true rfl⟩ ⟨by show _ ≤ 250; omega, by show _ ≤ 2500; omega⟩ rfl rfl rfl rfl (Nat.le_of_ble_eq_true rfl) (fun E ce q9 H locs hEx hw h1 h2 h3 => ?_) (fun hn => nomatch (hxs.symm.trans hn))
                have hEE : E = gxIS := Option.some.inj (hEx.symm.trans hxs)
                subst hEE
                refine vx_catch (own := RL) (name := gxIS) hC.2.2.2.1 [⟨16, 131, 665, 62⟩, ⟨132, 246, 665, 62⟩, ⟨247, 477, 665, 62⟩, ⟨478, 562, 665, 62⟩] ⟨563, 615, 665, 62⟩ [⟨616, 664, 665, 62⟩] htab (lx_cov (by decide)) rfl (by decide) (hC.2.2.2.2 _ (List.mem_of_getElem? (i := 1) rfl)) (va_Nw.use rfl hE.2.1.2.2.2.2.2.1) h1 h2 h3 ?_
                refine lv_astore (lv' := [(6, .ref q9), (11, .int 0), (5, .int 0), (10, .int (nI cc9)), (9, .int (nI w)), (8, .ref (ad 2 k)), (7, .int (nI g)), (4, .int (nI G)), (3, .int (nI N)), (0, .ref t), (1, .ref (ad 0 0)), (2, .int x)]) hx hb dL_act_665 hl (by decide) rfl (fun ls hl => ?_)
                refine lv_iload hx hb dL_act_667 (lv_at hl 2 rfl) ?_
                refine lv_if_ne (tgt := 676) hx hb dL_act_669 (by decide) (fun z => absurd rfl z) (fun _ => ?_)
                refine lv_iconst (v := 1) hx hb dL_act_672 (by decide) ?_
                refine lv_goto (tgt := 677) hx hb dL_act_673 (by decide) ?_
                exact lx_zretW hC hr hlk hw (Or.inr rfl) ⟨rfl, G, N, S, M, Ls, ad, Tt, rfl, hI, hLI.mono (by omega), hLJ, Or.inr (by omega), rfl⟩ dL_act_677 (by show _ ≤ 250; omega) (by show _ ≤ 2500; omega)
              · skip
                have h0 : ¬ M 0 k = 0 := fun z => h567 (by rw [z]; exact Int32.le_refl _)
                refine lv_iconst (v := 1) hx hb dL_act_570 (by decide) ?_
                refine lv_goto (tgt := 575) hx hb dL_act_571 (by decide) ?_
                refine lv_istore (lv' := [(5, .int 1), (10, .int (nI cc9)), (9, .int (nI w)), (8, .ref (ad 2 k)), (7, .int (nI g)), (6, .int (nI k)), (4, .int (nI G)), (3, .int (nI N)), (0, .ref t), (1, .ref (ad 0 0)), (2, .int x)]) hx hb dL_act_575 hl (by decide) rfl (fun ls hl => ?_)
                refine lv_iload hx hb dL_act_577 (lv_at hl 0 rfl) ?_
                refine lv_if_eq (tgt := 591) hx hb dL_act_579 (by decide) (fun z => absurd z (by decide)) (fun _ => ?_)
                have hxn : xCb S k = none := if_neg (fun z => h0 ((hLI.st hk).trans z))
                obtain ⟨g0, hg0, hpl⟩ : ∃ g0, g0 < G ∧ (M 0 k = 1 → M 1 k = nI g0 ∧ g0 < G) := by
                  by_cases h1 : M 0 k = 1
                  · obtain ⟨g0, q1, q2⟩ := hLI.2.1.1 k hk h1
                    exact ⟨g0, q1, fun _ => ⟨q2, q1⟩⟩
                  · exact ⟨g, hg, fun z => absurd z h1⟩
                obtain ⟨hln0, hltN0, hlt0⟩ := hLI.2.1.lb hN hg0
                obtain ⟨M', hLI', hrow⟩ := do_callBack (T := T) hLI hk hpl h0
                refine lv_aload_n hx hb dL_act_582 rfl (lv_at hl 9 rfl) ?_
                refine lv_iload hx hb dL_act_583 (lv_at hl 5 rfl) ?_
                refine px_callV hC 2 1 (ct_X2_callBack l D cI cR L f ad G N G M Ls hI hN k g0 hk hG4 hpl hln0 hlt0) gL_act_X2_callBack dL_act_585 hE.1 hK hw hA hl.1 rfl hd_X2_callBack ⟨Nat.le_of_ble_eq_true rfl, Nat.le_of_ble_eq_true rfl⟩ ⟨by show _ ≤ 250; omega, by show _ ≤ 2500; omega⟩ hI.1.1 hI.1.2 rfl rfl rfl (Nat.le_of_ble_eq_true rfl) (fun rv L1 f1 H locs hp hw => ?_)
                obtain ⟨rfl, a1, hI1, hF1⟩ := hp
                have h00 : a1 0 0 = ad 0 0 := hF1.2.2 0 0 (by decide)
                refine gt_stk [.int (mHeld M k)] rfl ?_
                have hI2 : SimI cI cR L1 f1 a1 G N G M' (if M 0 k = 1 then lsU Ls g0 (wo (Ls g0) k) else Ls) := hI1.congr (fun i hi => hrow 8 i (by omega)) (fun g1 _ => ⟨hrow 9 g1 (by omega), hrow 10 g1 (by omega)⟩) (fun k1 _ j hj => hrow (rw8 j) k1 (by have := rw8_rng j hj; omega))
                refine lv_goto (tgt := 592) hx hb dL_act_588 (by decide) ?_
                refine lv_istore (lv' := [(11, .int (mHeld M k)), (5, .int 1), (10, .int (nI cc9)), (9, .int (nI w)), (8, .ref (ad 2 k)), (7, .int (nI g)), (6, .int (nI k)), (4, .int (nI G)), (3, .int (nI N)), (0, .ref t), (1, .ref (ad 0 0)), (2, .int x)]) hx hb dL_act_592 hl (by decide) rfl (fun ls hl => ?_)
                refine lv_aload_n hx hb dL_act_594 rfl (lv_at hl 9 rfl) ?_
                refine lv_iload hx hb dL_act_595 (lv_at hl 6 rfl) ?_
                refine tx_callX hC 0 1 1 hM gL_act_X1_callBack dL_act_597 hE hK hw hA hl.1 rfl hd_X1_callBack ⟨Nat.le_of_ble_eq_true rfl, Nat.le_of_ble_eq_true rfl⟩ ⟨by show _ ≤ 250; omega, by show _ ≤ 2500; omega⟩ rfl rfl rfl rfl (Nat.le_of_ble_eq_true rfl) (fun E ce q9 H locs hEx hw h1 h2 h3 => nomatch (hxn.symm.trans hEx)) (fun _ H locs hw => ?_)
                refine gt_stk [.int (gxHeld S k)] rfl ?_
                refine lv_iload hx hb dL_act_600 (lv_at hl 0 rfl) ?_
                refine lv_icmp_ne (tgt := 614) hx hb dL_act_602 (by decide) (fun z => absurd (r_held (hLI.1.2.2.2.2.2.2.1.1 k hk)).symm z) (fun _ => ?_)
                refine lv_iload hx hb dL_act_605 (lv_at hl 1 rfl) ?_
                refine lv_if_eq (tgt := 614) hx hb dL_act_607 (by decide) (fun z => absurd z (by decide)) (fun _ => ?_)
                refine lv_iconst (v := 1) hx hb dL_act_610 (by decide) ?_
                refine lv_goto (tgt := 615) hx hb dL_act_611 (by decide) ?_
                exact lx_zretW hC hr hlk hw (Or.inr rfl) ⟨rfl, G, N, _, M', _, a1, Tt, rfl, hI2, (hLI'.mono (by omega)), lj_callBack hLJ hrow, Or.inr (by omega), h00⟩ dL_act_615 (by show _ ≤ 250; omega) (by show _ ≤ 2500; omega)
            refine lx_meet (σ := Unit) (fun _ => True) (fun _ => []) 616 hw (fun Kp => ?_) (fun _ H locs _ hw => ?_)
            rotate_left
            · skip
              refine lv_iconst (v := 1) hx hb dL_act_616 (by decide) ?_
              refine lv_iload_n hx hb dL_act_617 rfl (lv_at hl 10 rfl) ?_
              refine lv_iconst (v := 4) hx hb dL_act_618 (by decide) ?_
              refine lv_ishr hx hb dL_act_619 ?_
              refine lv_iload_n hx hb dL_act_620 rfl (lv_at hl 10 rfl) ?_
              refine lv_bipush (v := 7) hx hb dL_act_621 (by decide) ?_
              refine lv_ishr hx hb dL_act_623 ?_
              refine lv_bipush (v := 6) hx hb dL_act_624 (by decide) ?_
              refine lx_callB hC 2 (ct_L_below l D (x >>> (7 &&& 31)) 6 (nI_ne9 (m := 6) (by omega) (by omega))) gL_act_L_below dL_act_626 hK hw hA hl.1 rfl hd_L_below ⟨Nat.le_of_ble_eq_true rfl, Nat.le_of_ble_eq_true rfl⟩ ⟨by show _ ≤ 250; omega, by show _ ≤ 2500; omega⟩ rfl rfl (Nat.le_of_ble_eq_true rfl) (fun H locs hw => ?_)
              obtain ⟨j19, hj19, ej19⟩ : ∃ j, j < 6 ∧ bel (x >>> (7 &&& 31)) 6 = nI j := bel_nI (x >>> (7 &&& 31)) (m := 6) (by omega) (by omega)
              rw [ej19]
              refine gt_stk [.int (nI j19), .int (x >>> (4 &&& 31)), .int 1] rfl ?_
              refine lx_meet (σ := Nat) (fun j => j < 60) (fun j => [.int (nI j), .int 1]) 641 hw (fun Km => ?_) (fun jm H locs hjm hw => ?_)
              · skip
                refine lv_if_ne (tgt := 637) hx hb dL_act_629 (by decide) (fun _ => ?_) (fun _ => ?_)
                · skip
                  refine lv_iconst (v := 3) hx hb dL_act_637 (by decide) ?_
                  refine lx_callB hC 2 (ct_L_below l D (x >>> (4 &&& 31)) 3 (nI_ne9 (m := 3) (by omega) (by omega))) gL_act_L_below dL_act_638 hK hw hA hl.1 rfl hd_L_below ⟨Nat.le_of_ble_eq_true rfl, Nat.le_of_ble_eq_true rfl⟩ ⟨by show _ ≤ 250; omega, by show _ ≤ 2500; omega⟩ rfl rfl (Nat.le_of_ble_eq_true rfl) (fun H locs hw => ?_)
                  obtain ⟨j20, hj20, ej20⟩ : ∃ j, j < 3 ∧ bel (x >>> (4 &&& 31)) 3 = nI j := bel_nI (x >>> (4 &&& 31)) (m := 3) (by omega) (by omega)
                  rw [ej20]
                  refine gt_stk [.int (nI j20), .int 1] rfl ?_
                  exact Km j20 H locs (by omega) hw
                · skip
                  refine lv_bipush (v := 60) hx hb dL_act_632 (by decide) ?_
                  refine lv_goto (tgt := 638) hx hb dL_act_634 (by decide) ?_
                  refine lx_callB hC 2 (ct_L_below l D (x >>> (4 &&& 31)) 60 (nI_ne9 (m := 60) (by omega) (by omega))) gL_act_L_below dL_act_638 hK hw hA hl.1 rfl hd_L_below ⟨Nat.le_of_ble_eq_true rfl, Nat.le_of_ble_eq_true rfl⟩ ⟨by show _ ≤ 250; omega, by show _ ≤ 2500; omega⟩ rfl rfl (Nat.le_of_ble_eq_true rfl) (fun H locs hw => ?_)
                  obtain ⟨j21, hj21, ej21⟩ : ∃ j, j < 60 ∧ bel (x >>> (4 &&& 31)) 60 = nI j := bel_nI (x >>> (4 &&& 31)) (m := 60) (by omega) (by omega)
                  rw [ej21]
                  refine gt_stk [.int (nI j21), .int 1] rfl ?_
                  exact Km j21 H locs (by omega) hw
              · skip
                refine lv_iadd hx hb dL_act_641 ?_
                refine gt_stk [.int (nI (1 + jm))] (by rw [← nI_add]; rfl) ?_
                obtain ⟨n9, n1, n2, hnn⟩ : ∃ d, 1 ≤ d ∧ d ≤ 60 ∧ 1 + jm = d := ⟨_, by omega, by omega, rfl⟩
                rw [hnn]
                have hM := ct_X1_pass l hl0 D cI t o r S o1 r1 Tt (nI n9) N hSN hN G hSG hG4
                rw [nI_clamp (n := n9) (by omega)] at hM
                have hxn : xNum (nI n9) 60 = none := xNum_ok (m := 60) n1 n2 (by omega)
                refine lv_istore (lv' := [(11, .int (nI n9)), (10, .int (nI cc9)), (9, .int (nI w)), (8, .ref (ad 2 k)), (7, .int (nI g)), (6, .int (nI k)), (5, .int 1), (4, .int (nI G)), (3, .int (nI N)), (0, .ref t), (1, .ref (ad 0 0)), (2, .int x)]) hx hb dL_act_642 hl (by decide) rfl (fun ls hl => ?_)
                refine lv_aload_n hx hb dL_act_644 rfl (lv_at hl 9 rfl) ?_
                refine lv_iload hx hb dL_act_645 (lv_at hl 0 rfl) ?_
                refine tx_callX hC 0 1 1 hM gL_act_X1_pass dL_act_647 hE hK hw hA hl.1 rfl hd_X1_pass ⟨Nat.le_of_ble_eq_true rfl, Nat.le_of_ble_eq_true rfl⟩ ⟨by show _ ≤ 250; omega, by show _ ≤ 2500; omega⟩ rfl rfl rfl rfl (Nat.le_of_ble_eq_true rfl) (fun E ce q9 H locs hEx hw h1 h2 h3 => nomatch (hxn.symm.trans hEx)) (fun _ H locs hw => ?_)
                refine gt_stk [.int (gxIt S G N n9 0 4 - S 0 4)] rfl ?_
                refine lv_aload_n hx hb dL_act_650 rfl (lv_at hl 10 rfl) ?_
                refine lv_iload hx hb dL_act_651 (lv_at hl 0 rfl) ?_
                refine px_callV hC 2 1 (ct_X2_pass_ l D cI cR L f ad G N M Ls hI hN hG4 hLI.2.1 n9 n2) gL_act_X2_pass_ dL_act_653 hE.1 hK hw hA hl.1 rfl hd_X2_pass_ ⟨Nat.le_of_ble_eq_true rfl, Nat.le_of_ble_eq_true rfl⟩ ⟨by show _ ≤ 250; omega, by show _ ≤ 2500; omega⟩ hI.1.1 hI.1.2 rfl rfl rfl (Nat.le_of_ble_eq_true rfl) (fun rv L1 f1 H locs hp hw => ?_)
                obtain ⟨rfl, a1, Ls1, hI1, hLn1, hF1⟩ := hp
                have h00 : a1 0 0 = ad 0 0 := hF1.2.2 0 0 (by decide)
                have hLI1 := do_pass hLI n9 hLn1
                refine gt_stk [.int (mIt M G N n9 8 1 - M 8 1), .int (gxIt S G N n9 0 4 - S 0 4)] rfl ?_
                have e1 : mIt M G N n9 8 1 = gxIt S G N n9 0 4 := hLI1.1.2.2.2.2.2.2.1.2.2.1.2.1
                have e2 : M 8 1 = S 0 4 := hLI.1.2.2.2.2.2.2.1.2.2.1.2.1
                refine lv_icmp_ne (tgt := 663) hx hb dL_act_656 (by decide) (fun z => absurd (by rw [e1, e2]) z) (fun _ => ?_)
                refine lv_iconst (v := 1) hx hb dL_act_659 (by decide) ?_
                refine lv_goto (tgt := 664) hx hb dL_act_660 (by decide) ?_
                exact lx_zretW hC hr hlk hw (Or.inr rfl) ⟨rfl, G, N, _, _, Ls1, a1, Tt, rfl, hI1, hLI1.mono (by omega), hLJ.it hN hG4 n9, Or.inr (by omega), h00⟩ dL_act_664 (by show _ ≤ 250; omega) (by show _ ≤ 2500; omega)
            rcases (show j15 = 0 ∨ j15 = 1 ∨ j15 = 2 ∨ j15 = 3 ∨ j15 = 4 ∨ j15 = 5 ∨ j15 = 6 ∨ j15 = 7 ∨ j15 = 8 ∨ j15 = 9 ∨ j15 = 10 ∨ j15 = 11 ∨ j15 = 12 ∨ j15 = 13 ∨ j15 = 14 ∨ j15 = 15 ∨ j15 = 16 ∨ j15 = 17 by omega) with e18 | e18 | e18 | e18 | e18 | e18 | e18 | e18 | e18 | e18 | e18 | e18 | e18 | e18 | e18 | e18 | e18 | e18
            · rw [e18]
              refine lv_tableOut (tgt := 616) hx hb dL_act_329 (by decide) (by decide) ?_
              exact Kp () H locs trivial hw
            · rw [e18]
              refine lv_tableOut (tgt := 616) hx hb dL_act_329 (by decide) (by decide) ?_
              exact Kp () H locs trivial hw
            · rw [e18]
              refine lv_tableIn (off := 51) (tgt := 380) hx hb dL_act_329 (by decide) (by decide) (by decide) (by decide) ?_
              exact Kk () H locs trivial hw
            · rw [e18]
              refine lv_tableIn (off := 51) (tgt := 380) hx hb dL_act_329 (by decide) (by decide) (by decide) (by decide) ?_
              exact Kk () H locs trivial hw
            · rw [e18]
              refine lv_tableIn (off := 51) (tgt := 380) hx hb dL_act_329 (by decide) (by decide) (by decide) (by decide) ?_
              exact Kk () H locs trivial hw
            · rw [e18]
              refine lv_tableIn (off := 51) (tgt := 380) hx hb dL_act_329 (by decide) (by decide) (by decide) (by decide) ?_
              exact Kk () H locs trivial hw
            · rw [e18]
              refine lv_tableIn (off := 51) (tgt := 380) hx hb dL_act_329 (by decide) (by decide) (by decide) (by decide) ?_
              exact Kk () H locs trivial hw
            · rw [e18]
              refine lv_tableIn (off := 51) (tgt := 380) hx hb dL_act_329 (by decide) (by decide) (by decide) (by decide) ?_
              exact Kk () H locs trivial hw
            · rw [e18]
              refine lv_tableIn (off := 51) (tgt := 380) hx hb dL_act_329 (by decide) (by decide) (by decide) (by decide) ?_
              exact Kk () H locs trivial hw
            · rw [e18]
              refine lv_tableIn (off := 149) (tgt := 478) hx hb dL_act_329 (by decide) (by decide) (by decide) (by decide) ?_
              exact Kb () H locs trivial hw
            · rw [e18]
              refine lv_tableIn (off := 234) (tgt := 563) hx hb dL_act_329 (by decide) (by decide) (by decide) (by decide) ?_
              exact Kl () H locs trivial hw
            · rw [e18]
              refine lv_tableOut (tgt := 616) hx hb dL_act_329 (by decide) (by decide) ?_
              exact Kp () H locs trivial hw
            · rw [e18]
              refine lv_tableOut (tgt := 616) hx hb dL_act_329 (by decide) (by decide) ?_
              exact Kp () H locs trivial hw
            · rw [e18]
              refine lv_tableOut (tgt := 616) hx hb dL_act_329 (by decide) (by decide) ?_
              exact Kp () H locs trivial hw
            · rw [e18]
              refine lv_tableOut (tgt := 616) hx hb dL_act_329 (by decide) (by decide) ?_
              exact Kp () H locs trivial hw
            · rw [e18]
              refine lv_tableOut (tgt := 616) hx hb dL_act_329 (by decide) (by decide) ?_
              exact Kp () H locs trivial hw
            · rw [e18]
              refine lv_tableOut (tgt := 616) hx hb dL_act_329 (by decide) (by decide) ?_
              exact Kp () H locs trivial hw
            · rw [e18]
              refine lv_tableOut (tgt := 616) hx hb dL_act_329 (by decide) (by decide) ?_
              exact Kp () H locs trivial hw
