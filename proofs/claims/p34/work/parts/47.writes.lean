/-! The Sim's writes (laid by wip/p34/gen/sim3.py): ask, callBack, pass. -/
theorem pxF.more {N : Nat} {L L1 : List Nat} {f f1 : Nat → va_E} {ad : Nat → Nat → Nat} (h1 : ∀ a ∈ L, a ∈ L1) (h2 : ∀ a ∈ L, f1 a = f a) : pxF N L f ad L1 f1 ad := ⟨h1, fun a ha _ _ _ => h2 a ha, fun _ _ _ => rfl⟩
theorem pxF.new {N : Nat} {L : List Nat} {f : Nat → va_E} {ad : Nat → Nat → Nat} {q : Nat} {e : va_E} (hq : q ∉ L) : pxF N L f ad (L ++ [q]) (va_up f q e) ad := pxF.more (fun _ h => List.mem_append_left _ h) (fun _ h => va_up_ne _ _ (px_ne h hq))
theorem hd_X2_ask : yX2_ask.cls = RX2 ∧ yX2_ask.cls ≠ "java/lang/invoke/MethodHandle" ∧ yX2_ask.cls ≠ "java/lang/invoke/VarHandle" ∧ (parseMethodDescriptor yX2_ask.desc).map (fun d => d.parameters.length) = some 5 := by decide +kernel
set_option maxHeartbeats 4000000 in
set_option maxRecDepth 100000 in
theorem ct_X2_ask (l : Launch) (D : va_G) (cI cR : ClassId) (L : List Nat) (f : Nat → va_E) (ad : Nat → Nat → Nat) (P N K : Nat) (M : SS) (Ls : Nat → List Nat) (hI : SimI cI cR L f ad P N K M Ls) (hN : N ≤ 12) (k g : Nat) (w mi wt : Int32) (hk : k < N) (hg : g < K) (hK4 : K ≤ 4) (hln : (Ls g).length ≤ 12) : CtX l D cI cR yX2_ask wsX2_ask 1 23 1 13 [.ref (ad 0 0), .int (nI k), .int (nI g), .int w, .int mi, .int wt] L f (fun rv L1 f1 => rv = none ∧ ∃ ad1, SimI cI cR L1 f1 ad1 P N K (up2 (up2 (up2 (up2 (up2 (up2 M 0 k 1) 1 k (nI g)) 2 k w) 3 k mi) 4 k wt) 5 k 0) (lsU Ls g (Ls g ++ [k])) ∧ pxF N L f ad L1 f1 ad1) := by
  refine CtX.ofW (cc := cX2_ask) (maxL := 7) (ret := none) (by decide) rfl (Nat.le_of_ble_eq_true rfl) ?_
  intro p e s m below meth c A ls hC hr hlk hE hw hK hA hl
  have hx := hC.1
  have hb := hC.2.1
  have hinX2 : ∀ w ∈ wsX20, w ∈ wsX2_ask := fun _ _h => List.mem_cons_of_mem _ (List.mem_append_right _ _h)
  have hl : lv_has ls 7 [(0, .ref (ad 0 0)), (1, .int (nI k)), (2, .int (nI g)), (3, .int w), (4, .int mi), (5, .int wt)] := hl
  have hF : pxF N L f ad L f ad := pxF.refl
  have hF0 := hF
  refine lv_aload_n hx hb dX2_ask_0 rfl (lv_at hl 0 rfl) ?_
  refine sm_fld hC 4 1 hinX2 hK hw hI dX2_ask_1 rfl (by decide) rfl rfl ?_
  refine lv_iload_n hx hb dX2_ask_4 rfl (lv_at hl 1 rfl) ?_
  refine sm_ka hC k hK hw hI dX2_ask_5 rfl hk (by omega) ?_
  refine lv_astore (lv' := [(6, .ref (ad 2 k)), (0, .ref (ad 0 0)), (1, .int (nI k)), (2, .int (nI g)), (3, .int w), (4, .int mi), (5, .int wt)]) hx hb dX2_ask_6 hl (by decide) rfl (fun ls hl => ?_)
  refine lv_aload hx hb dX2_ask_8 (lv_at hl 0 rfl) ?_
  refine lv_iconst (v := 1) hx hb dX2_ask_10 (by decide) ?_
  refine lv_iconst (v := 1) hx hb dX2_ask_11 (by decide) ?_
  refine sm_kst hC 1 0 hK hw hI hk dX2_ask_12 rfl (by decide) rfl (fun f H locs hw hI hF1 => ?_)
  replace hF := hF.trans hF1
  refine lv_aload hx hb dX2_ask_13 (lv_at hl 0 rfl) ?_
  refine lv_iconst (v := 2) hx hb dX2_ask_15 (by decide) ?_
  refine lv_iload_n hx hb dX2_ask_16 rfl (lv_at hl 3 rfl) ?_
  refine sm_kst hC 2 1 hK hw hI hk dX2_ask_17 rfl (by decide) rfl (fun f H locs hw hI hF1 => ?_)
  replace hF := hF.trans hF1
  refine lv_aload hx hb dX2_ask_18 (lv_at hl 0 rfl) ?_
  refine lv_iconst (v := 3) hx hb dX2_ask_20 (by decide) ?_
  refine lv_iload_n hx hb dX2_ask_21 rfl (lv_at hl 4 rfl) ?_
  refine sm_kst hC 3 2 hK hw hI hk dX2_ask_22 rfl (by decide) rfl (fun f H locs hw hI hF1 => ?_)
  replace hF := hF.trans hF1
  refine lv_aload hx hb dX2_ask_23 (lv_at hl 0 rfl) ?_
  refine lv_iconst (v := 4) hx hb dX2_ask_25 (by decide) ?_
  refine lv_iload hx hb dX2_ask_26 (lv_at hl 5 rfl) ?_
  refine sm_kst hC 4 3 hK hw hI hk dX2_ask_28 rfl (by decide) rfl (fun f H locs hw hI hF1 => ?_)
  replace hF := hF.trans hF1
  refine lv_aload hx hb dX2_ask_29 (lv_at hl 0 rfl) ?_
  refine lv_iconst (v := 5) hx hb dX2_ask_31 (by decide) ?_
  refine lv_iload hx hb dX2_ask_32 (lv_at hl 6 rfl) ?_
  refine sm_kst hC 5 4 hK hw hI hk dX2_ask_34 rfl (by decide) rfl (fun f H locs hw hI hF1 => ?_)
  replace hF := hF.trans hF1
  refine lv_aload hx hb dX2_ask_35 (lv_at hl 0 rfl) ?_
  refine lv_bipush (v := 6) hx hb dX2_ask_37 (by decide) ?_
  refine lv_iconst (v := 0) hx hb dX2_ask_39 (by decide) ?_
  refine sm_kst hC 6 5 hK hw hI hk dX2_ask_40 rfl (by decide) rfl (fun f H locs hw hI hF1 => ?_)
  replace hF := hF.trans hF1
  refine lv_aload_n hx hb dX2_ask_41 rfl (lv_at hl 1 rfl) ?_
  refine sm_fld hC 5 2 hinX2 hK hw hI dX2_ask_42 rfl (by decide) rfl rfl ?_
  refine lv_iload_n hx hb dX2_ask_45 rfl (lv_at hl 3 rfl) ?_
  refine lv_aload_n hx hb dX2_ask_46 rfl (lv_at hl 1 rfl) ?_
  refine sm_fld hC 5 2 hinX2 hK hw hI dX2_ask_47 rfl (by decide) rfl rfl ?_
  refine lv_iload_n hx hb dX2_ask_50 rfl (lv_at hl 3 rfl) ?_
  refine sm_la hC g hK hw hI dX2_ask_51 rfl hg (by omega) ?_
  refine lv_iload_n hx hb dX2_ask_52 rfl (lv_at hl 2 rfl) ?_
  obtain ⟨r1, r2⟩ := hI.2.2.2.2.2.2.1 g hg
  refine px_callS hC 2 (ct_X2_with_ l D cI cR L f (ad 3 g) k (Ls g) r1 r2 (by omega)) gX2_ask_X2_with_ dX2_ask_53 hE hK hw hA hl.1 rfl hd_X2_with_ ⟨Nat.le_of_ble_eq_true rfl, Nat.le_of_ble_eq_true rfl⟩ ⟨Nat.le_refl _, by show 0 + ((Ls g).length + 1) ≤ 13; omega⟩ rfl rfl (Nat.le_of_ble_eq_true rfl) (fun rv L1 f1 H locs hp hw => ?_)
  obtain ⟨q, e2, rfl, hq, e8, e9, hrow⟩ := hp
  rw [e8, e9] at hw
  refine gt_stk [.ref q, .int (nI g), .ref (ad 0 3)] rfl ?_
  refine sm_lst hC g hE hK hw (hI.new hq) dX2_ask_56 rfl hg (by omega) (List.mem_append_right _ List.mem_cons_self) (by rw [va_up_self]; exact hrow) (fun j hj => px_ne (hI.2.2.2.2.1 j hj).1 hq) (fun j hj => px_ne (hI.2.2.2.2.2.1 j hj).1 hq) (fun f2 H locs hw hI2 hF1 => ?_)
  exact px_vret hC hr hlk hw ⟨rfl, _, hI2, (hF.trans (pxF.new hq)).trans hF1⟩ dX2_ask_57 (Nat.le_refl _) (by show 0 + ((Ls g).length + 1) ≤ 13; omega)
theorem hd_X2_callBack : yX2_callBack.cls = RX2 ∧ yX2_callBack.cls ≠ "java/lang/invoke/MethodHandle" ∧ yX2_callBack.cls ≠ "java/lang/invoke/VarHandle" ∧ (parseMethodDescriptor yX2_callBack.desc).map (fun d => d.parameters.length) = some 1 := by decide +kernel
set_option maxHeartbeats 4000000 in
set_option maxRecDepth 100000 in
theorem ct_X2_callBack (l : Launch) (D : va_G) (cI cR : ClassId) (L : List Nat) (f : Nat → va_E) (ad : Nat → Nat → Nat) (P N K : Nat) (M : SS) (Ls : Nat → List Nat) (hI : SimI cI cR L f ad P N K M Ls) (hN : N ≤ 12) (k g : Nat) (hk : k < N) (hK4 : K ≤ 4) (hpl : M 0 k = 1 → M 1 k = nI g ∧ g < K) (hln : (Ls g).length ≤ 12) (hlt : ∀ c ∈ Ls g, c < 12) : CtX l D cI cR yX2_callBack wsX2_callBack 2 49 13 144 [.ref (ad 0 0), .int (nI k)] L f (fun rv L1 f1 => rv = some (.int (mHeld M k)) ∧ ∃ ad1, SimI cI cR L1 f1 ad1 P N K (up2 M 0 k 0) (if M 0 k = 1 then lsU Ls g (wo (Ls g) k) else Ls) ∧ pxF N L f ad L1 f1 ad1) := by
  refine CtX.ofW (cc := cX2_callBack) (maxL := 4) (ret := (some .int)) (by decide) rfl (Nat.le_of_ble_eq_true rfl) ?_
  intro p e s m below meth c A ls hC hr hlk hE hw hK hA hl
  have hx := hC.1
  have hb := hC.2.1
  have hinX2 : ∀ w ∈ wsX20, w ∈ wsX2_callBack := fun _ _h => List.mem_cons_of_mem _ (List.mem_append_right _ _h)
  have hl : lv_has ls 4 [(0, .ref (ad 0 0)), (1, .int (nI k))] := hl
  have hF : pxF N L f ad L f ad := pxF.refl
  refine lv_aload_n hx hb dX2_callBack_0 rfl (lv_at hl 0 rfl) ?_
  refine sm_fld hC 4 1 hinX2 hK hw hI dX2_callBack_1 rfl (by decide) rfl rfl ?_
  refine lv_iload_n hx hb dX2_callBack_4 rfl (lv_at hl 1 rfl) ?_
  refine sm_ka hC k hK hw hI dX2_callBack_5 rfl hk (by omega) ?_
  refine lv_astore_n (lv' := [(2, .ref (ad 2 k)), (0, .ref (ad 0 0)), (1, .int (nI k))]) hx hb dX2_callBack_6 rfl hl (by decide) rfl (fun ls hl => ?_)
  refine lv_aload_n hx hb dX2_callBack_7 rfl (lv_at hl 0 rfl) ?_
  refine lv_iconst (v := 1) hx hb dX2_callBack_8 (by decide) ?_
  refine sm_k hC 1 0 hK hw hI hk dX2_callBack_9 rfl (by decide) rfl ?_
  refine lv_iconst (v := 2) hx hb dX2_callBack_10 (by decide) ?_
  refine lv_icmp_ne (tgt := 20) hx hb dX2_callBack_11 (by decide) (fun h11 : ¬ ((M 0 k) = 2) => ?_) (fun h11 : (M 0 k) = 2 => ?_)
  · skip
    refine lv_iconst (v := 0) hx hb dX2_callBack_20 (by decide) ?_
    refine lv_istore_n (lv' := [(3, .int 0), (2, .ref (ad 2 k)), (0, .ref (ad 0 0)), (1, .int (nI k))]) hx hb dX2_callBack_21 rfl hl (by decide) rfl (fun ls hl => ?_)
    refine lv_aload_n hx hb dX2_callBack_22 rfl (lv_at hl 1 rfl) ?_
    refine lv_iconst (v := 1) hx hb dX2_callBack_23 (by decide) ?_
    refine sm_k hC 1 0 hK hw hI hk dX2_callBack_24 rfl (by decide) rfl ?_
    refine lv_iconst (v := 1) hx hb dX2_callBack_25 (by decide) ?_
    refine lv_icmp_ne (tgt := 49) hx hb dX2_callBack_26 (by decide) (fun h26 : ¬ ((M 0 k) = 1) => ?_) (fun h26 : (M 0 k) = 1 => ?_)
    · skip
      have hF0 := hF
      refine lv_aload_n hx hb dX2_callBack_49 rfl (lv_at hl 1 rfl) ?_
      refine lv_iconst (v := 1) hx hb dX2_callBack_50 (by decide) ?_
      refine lv_iconst (v := 0) hx hb dX2_callBack_51 (by decide) ?_
      refine sm_kst hC 1 0 hK hw hI hk dX2_callBack_52 rfl (by decide) rfl (fun f H locs hw hI hF1 => ?_)
      replace hF := hF.trans hF1
      refine lv_iload_n hx hb dX2_callBack_53 rfl (lv_at hl 0 rfl) ?_
      exact px_iret hC hr hlk hw ⟨congrArg (fun z => some (Value.int z)) (if_pos ((mIs0 M k 2).mpr h11)).symm, ad, by rw [if_neg h26]; exact hI, hF⟩ dX2_callBack_54 (by decide) (by decide)
    · skip
      refine lv_aload_n hx hb dX2_callBack_29 rfl (lv_at hl 2 rfl) ?_
      refine sm_fld hC 5 2 hinX2 hK hw hI dX2_callBack_30 rfl (by decide) rfl rfl ?_
      refine lv_aload_n hx hb dX2_callBack_33 rfl (lv_at hl 1 rfl) ?_
      refine lv_iconst (v := 2) hx hb dX2_callBack_34 (by decide) ?_
      refine sm_k hC 2 1 hK hw hI hk dX2_callBack_35 rfl (by decide) rfl ?_
      refine lv_aload_n hx hb dX2_callBack_36 rfl (lv_at hl 2 rfl) ?_
      refine sm_fld hC 5 2 hinX2 hK hw hI dX2_callBack_37 rfl (by decide) rfl rfl ?_
      refine lv_aload_n hx hb dX2_callBack_40 rfl (lv_at hl 1 rfl) ?_
      refine lv_iconst (v := 2) hx hb dX2_callBack_41 (by decide) ?_
      refine sm_k hC 2 1 hK hw hI hk dX2_callBack_42 rfl (by decide) rfl ?_
      refine sm_la hC g hK hw hI dX2_callBack_43 (hpl h26).1 (hpl h26).2 (by omega) ?_
      refine lv_iload_n hx hb dX2_callBack_44 rfl (lv_at hl 3 rfl) ?_
      have hgK := (hpl h26).2
      obtain ⟨r1, r2⟩ := hI.2.2.2.2.2.2.1 g hgK
      refine px_callS hC 2 (ct_X2_without l D cI cR L f (ad 3 g) k (Ls g) r1 r2 hln hlt (by omega)) gX2_callBack_X2_without dX2_callBack_45 hE hK hw hA hl.1 rfl hd_X2_without ⟨Nat.le_of_ble_eq_true rfl, Nat.le_of_ble_eq_true rfl⟩ ⟨Nat.le_refl _, Nat.le_refl _⟩ rfl rfl (Nat.le_of_ble_eq_true rfl) (fun rv L3 f3 H locs hp hw => ?_)
      obtain ⟨q, rfl, hq, hqL, hLL, hff, hrow⟩ := hp
      refine gt_stk [.ref q, .int (M 1 k), .ref (ad 0 3)] rfl ?_
      have hI3 := hI.mono hLL hff
      refine sm_lst hC g hE hK hw hI3 dX2_callBack_48 (hpl h26).1 hgK (by omega) hqL hrow (fun j hj => px_ne (hI.2.2.2.2.1 j hj).1 hq) (fun j hj => px_ne (hI.2.2.2.2.2.1 j hj).1 hq) (fun f4 H locs hw hI4 hF1 => ?_)
      have hF4 := (hF.trans (pxF.more hLL hff)).trans hF1
      refine lv_aload_n hx hb dX2_callBack_49 rfl (lv_at hl 1 rfl) ?_
      refine lv_iconst (v := 1) hx hb dX2_callBack_50 (by decide) ?_
      refine lv_iconst (v := 0) hx hb dX2_callBack_51 (by decide) ?_
      refine gt_stk [.int 0, .int 1, .ref (adU ad g q 2 k)] rfl ?_
      refine sm_kst hC 1 0 hK hw hI4 hk dX2_callBack_52 rfl (by decide) rfl (fun f5 H locs hw hI5 hF1 => ?_)
      refine lv_iload_n hx hb dX2_callBack_53 rfl (lv_at hl 0 rfl) ?_
      exact px_iret hC hr hlk hw ⟨congrArg (fun z => some (Value.int z)) (if_pos ((mIs0 M k 2).mpr h11)).symm, _, by rw [if_pos h26]; exact hI5, hF4.trans hF1⟩ dX2_callBack_54 (Nat.le_refl _) (Nat.le_refl _)
  · skip
    refine lv_aload_n hx hb dX2_callBack_14 rfl (lv_at hl 0 rfl) ?_
    refine lv_iconst (v := 3) hx hb dX2_callBack_15 (by decide) ?_
    refine sm_k hC 3 2 hK hw hI hk dX2_callBack_16 rfl (by decide) rfl ?_
    refine lv_goto (tgt := 21) hx hb dX2_callBack_17 (by decide) ?_
    refine lv_istore_n (lv' := [(3, .int (M 2 k)), (2, .ref (ad 2 k)), (0, .ref (ad 0 0)), (1, .int (nI k))]) hx hb dX2_callBack_21 rfl hl (by decide) rfl (fun ls hl => ?_)
    refine lv_aload_n hx hb dX2_callBack_22 rfl (lv_at hl 1 rfl) ?_
    refine lv_iconst (v := 1) hx hb dX2_callBack_23 (by decide) ?_
    refine sm_k hC 1 0 hK hw hI hk dX2_callBack_24 rfl (by decide) rfl ?_
    refine lv_iconst (v := 1) hx hb dX2_callBack_25 (by decide) ?_
    refine lv_icmp_ne (tgt := 49) hx hb dX2_callBack_26 (by decide) (fun h26 : ¬ ((M 0 k) = 1) => ?_) (fun h26 : (M 0 k) = 1 => ?_)
    · skip
      have hF0 := hF
      refine lv_aload_n hx hb dX2_callBack_49 rfl (lv_at hl 1 rfl) ?_
      refine lv_iconst (v := 1) hx hb dX2_callBack_50 (by decide) ?_
      refine lv_iconst (v := 0) hx hb dX2_callBack_51 (by decide) ?_
      refine sm_kst hC 1 0 hK hw hI hk dX2_callBack_52 rfl (by decide) rfl (fun f H locs hw hI hF1 => ?_)
      replace hF := hF.trans hF1
      refine lv_iload_n hx hb dX2_callBack_53 rfl (lv_at hl 0 rfl) ?_
      exact px_iret hC hr hlk hw ⟨congrArg (fun z => some (Value.int z)) (if_neg (fun z => (mIs0 M k 2).mp z h11)).symm, ad, by rw [if_neg h26]; exact hI, hF⟩ dX2_callBack_54 (by decide) (by decide)
    · skip
      refine lv_aload_n hx hb dX2_callBack_29 rfl (lv_at hl 2 rfl) ?_
      refine sm_fld hC 5 2 hinX2 hK hw hI dX2_callBack_30 rfl (by decide) rfl rfl ?_
      refine lv_aload_n hx hb dX2_callBack_33 rfl (lv_at hl 1 rfl) ?_
      refine lv_iconst (v := 2) hx hb dX2_callBack_34 (by decide) ?_
      refine sm_k hC 2 1 hK hw hI hk dX2_callBack_35 rfl (by decide) rfl ?_
      refine lv_aload_n hx hb dX2_callBack_36 rfl (lv_at hl 2 rfl) ?_
      refine sm_fld hC 5 2 hinX2 hK hw hI dX2_callBack_37 rfl (by decide) rfl rfl ?_
      refine lv_aload_n hx hb dX2_callBack_40 rfl (lv_at hl 1 rfl) ?_
      refine lv_iconst (v := 2) hx hb dX2_callBack_41 (by decide) ?_
      refine sm_k hC 2 1 hK hw hI hk dX2_callBack_42 rfl (by decide) rfl ?_
      refine sm_la hC g hK hw hI dX2_callBack_43 (hpl h26).1 (hpl h26).2 (by omega) ?_
      refine lv_iload_n hx hb dX2_callBack_44 rfl (lv_at hl 3 rfl) ?_
      have hgK := (hpl h26).2
      obtain ⟨r1, r2⟩ := hI.2.2.2.2.2.2.1 g hgK
      refine px_callS hC 2 (ct_X2_without l D cI cR L f (ad 3 g) k (Ls g) r1 r2 hln hlt (by omega)) gX2_callBack_X2_without dX2_callBack_45 hE hK hw hA hl.1 rfl hd_X2_without ⟨Nat.le_of_ble_eq_true rfl, Nat.le_of_ble_eq_true rfl⟩ ⟨Nat.le_refl _, Nat.le_refl _⟩ rfl rfl (Nat.le_of_ble_eq_true rfl) (fun rv L3 f3 H locs hp hw => ?_)
      obtain ⟨q, rfl, hq, hqL, hLL, hff, hrow⟩ := hp
      refine gt_stk [.ref q, .int (M 1 k), .ref (ad 0 3)] rfl ?_
      have hI3 := hI.mono hLL hff
      refine sm_lst hC g hE hK hw hI3 dX2_callBack_48 (hpl h26).1 hgK (by omega) hqL hrow (fun j hj => px_ne (hI.2.2.2.2.1 j hj).1 hq) (fun j hj => px_ne (hI.2.2.2.2.2.1 j hj).1 hq) (fun f4 H locs hw hI4 hF1 => ?_)
      have hF4 := (hF.trans (pxF.more hLL hff)).trans hF1
      refine lv_aload_n hx hb dX2_callBack_49 rfl (lv_at hl 1 rfl) ?_
      refine lv_iconst (v := 1) hx hb dX2_callBack_50 (by decide) ?_
      refine lv_iconst (v := 0) hx hb dX2_callBack_51 (by decide) ?_
      refine gt_stk [.int 0, .int 1, .ref (adU ad g q 2 k)] rfl ?_
      refine sm_kst hC 1 0 hK hw hI4 hk dX2_callBack_52 rfl (by decide) rfl (fun f5 H locs hw hI5 hF1 => ?_)
      refine lv_iload_n hx hb dX2_callBack_53 rfl (lv_at hl 0 rfl) ?_
      exact px_iret hC hr hlk hw ⟨congrArg (fun z => some (Value.int z)) (if_neg (fun z => (mIs0 M k 2).mp z h11)).symm, _, by rw [if_pos h26]; exact hI5, hF4.trans hF1⟩ dX2_callBack_54 (Nat.le_refl _) (Nat.le_refl _)
abbrev pZ : Type := List Nat × (Nat → va_E) × (Nat → Nat → Nat) × (Nat → List Nat)
/-- in the midst of a minute: the Sim's cells hold X, its lines are X's -/
def PQ (D : va_G) (A : Nat → Prop) (H0 : Heap) (cI cR : ClassId) (L : List Nat) (f : Nat → va_E) (ad : Nat → Nat → Nat) (G N : Nat) (X : SS) (z : pZ) (H : Heap) (locs : List Loc) : Prop := SW D A H0 [] z.1 z.2.1 H locs ∧ SimI cI cR z.1 z.2.1 z.2.2.1 G N G X z.2.2.2 ∧ Ln G N X z.2.2.2 ∧ pxF N L f ad z.1 z.2.1 z.2.2.1
theorem mCt_op (M : SS) (N : Nat) (hN : N ≤ 12) (g : Nat) : ∀ i, i ≤ mOpN (mOp M N g) g N → mCt (mOpI (mOp M N g) g N i) N + i = mCt (mOp M N g) N := fun i hi => mOpI_ct hN i (fun x hx => mOpN_no (by omega))
theorem waT_no {X : SS} {k : Nat} (h : ¬ X 0 k = 1) : mWaT X k = X := if_pos ((mIs0 X k 1).mpr h)
theorem waT_in {X : SS} {k : Nat} (h : X 0 k = 1) (h2 : ¬ mWaA X k 4 k ≤ mWaA X k 5 k) : mWaT X k = mWaA X k := by
  have e : mWaA X k 4 k = X 4 k := rfl
  rw [e] at h2
  unfold mWaT
  rw [if_neg (fun z => (mIs0 X k 1).mp z h), if_neg h2]
theorem waT_up {X : SS} {k : Nat} (h : X 0 k = 1) (h2 : mWaA X k 4 k ≤ mWaA X k 5 k) : mWaT X k = up2 (up2 (mWaA X k) 0 k 0) 8 2 (X 8 2 + 1) := by
  have e : mWaA X k 4 k = X 4 k := rfl
  rw [e] at h2
  unfold mWaT
  rw [if_neg (fun z => (mIs0 X k 1).mp z h), if_pos h2]
theorem mCt_waT {X : SS} {k N : Nat} (hk : k < N) (h : X 0 k = 1) (h2 : mWaA X k 4 k ≤ mWaA X k 5 k) : mCt (mWaT X k) N + 1 = mCt X N := by
  rw [waT_up h h2]
  refine mCt_less h ?_ (fun i hi => ?_) N hk
  · show ¬ (up2 (mWaA X k) 0 k 0) 0 k = 1
    rw [up2_s]; decide
  · show (up2 (mWaA X k) 0 k 0) 0 i = X 0 i
    rw [up2_c _ _ _ _ hi]; rfl
theorem mCt_waT_le {X : SS} {k N : Nat} (hk : k < N) : mCt (mWaT X k) N ≤ mCt X N := by
  by_cases h : X 0 k = 1
  · by_cases h2 : mWaA X k 4 k ≤ mWaA X k 5 k
    · have := mCt_waT hk h h2; omega
    · rw [waT_in h h2]; exact Nat.le_of_eq (mCt_congr N (fun _ _ => rfl))
  · rw [waT_no h]; exact Nat.le_refl _
theorem mCt_wa_le (X : SS) (N : Nat) : ∀ k, k ≤ N → mCt (mWa X k) N ≤ mCt X N := by
  intro k
  induction k with
  | zero => intro _; exact Nat.le_refl _
  | succ k ih => intro h; exact Nat.le_trans (mCt_waT_le (by omega)) (ih (by omega))
theorem mCt_op_le (M : SS) (N : Nat) (hN : N ≤ 12) : ∀ g, mCt (mOp M N g) N ≤ mCt M N := by
  intro g
  induction g with
  | zero => exact Nat.le_of_eq (mCt_st M N N)
  | succ g ih =>
    have := mCt_op M N hN g _ (Nat.le_refl _)
    have e : mOp M N (g + 1) = mOpI (mOp M N g) g N (mOpN (mOp M N g) g N) := rfl
    rw [e]
    omega
theorem mCt_wa_mono (X : SS) (N : Nat) : ∀ a b, a ≤ b → b ≤ N → mCt (mWa X b) N ≤ mCt (mWa X a) N := by
  intro a b
  induction b with
  | zero => intro h _; rw [show a = 0 by omega]; exact Nat.le_refl _
  | succ b ih =>
    intro h hb
    by_cases e : a = b + 1
    · rw [e]; exact Nat.le_refl _
    · exact Nat.le_trans (mCt_waT_le (by omega)) (ih (by omega) (by omega))
theorem mCt_op_mono (M : SS) (N : Nat) (hN : N ≤ 12) : ∀ a b, a ≤ b → mCt (mOp M N b) N ≤ mCt (mOp M N a) N := by
  intro a b
  induction b with
  | zero => intro h; rw [show a = 0 by omega]; exact Nat.le_refl _
  | succ b ih =>
    intro h
    by_cases e : a = b + 1
    · rw [e]; exact Nat.le_refl _
    · have h1 := mCt_op M N hN b _ (Nat.le_refl _)
      have e2 : mOp M N (b + 1) = mOpI (mOp M N b) b N (mOpN (mOp M N b) b N) := rfl
      have := ih (by omega)
      rw [e2]
      omega
theorem hd_X2_pass : yX2_pass.cls = RX2 ∧ yX2_pass.cls ≠ "java/lang/invoke/MethodHandle" ∧ yX2_pass.cls ≠ "java/lang/invoke/VarHandle" ∧ (parseMethodDescriptor yX2_pass.desc).map (fun d => d.parameters.length) = some 0 := by decide +kernel
set_option maxHeartbeats 4000000 in
set_option maxRecDepth 100000 in
theorem ct_X2_pass (l : Launch) (D : va_G) (cI cR : ClassId) (L : List Nat) (f : Nat → va_E) (ad : Nat → Nat → Nat) (G N : Nat) (M : SS) (Ls : Nat → List Nat) (hI : SimI cI cR L f ad G N G M Ls) (hN : N ≤ 12) (hG4 : G ≤ 4) (hLn : Ln G N M Ls) : CtX l D cI cR yX2_pass wsX2_pass 3 80 (13 * (mCt M N - mCt (mMin M G N) N)) (144 * (mCt M N - mCt (mMin M G N) N)) [.ref (ad 0 0)] L f (fun rv L1 f1 => rv = some (.int (mMin M G N 8 1 - M 8 1)) ∧ ∃ ad1 Ls1, SimI cI cR L1 f1 ad1 G N G (mMin M G N) Ls1 ∧ Ln G N (mMin M G N) Ls1 ∧ pxF N L f ad L1 f1 ad1) := by
  refine CtX.ofW (cc := cX2_pass) (maxL := 6) (ret := (some .int)) (by decide) rfl (Nat.le_of_ble_eq_true rfl) ?_
  intro p e s m below meth c A ls hC hr hlk hE hw hK hA hl
  have hx := hC.1
  have hb := hC.2.1
  have hinX2 : ∀ w ∈ wsX20, w ∈ wsX2_pass := fun _ _h => List.mem_cons_of_mem _ (List.mem_append_right _ _h)
  have hl : lv_has ls 6 [(0, .ref (ad 0 0))] := hl
  have hw0 := mCt_op_le M N hN
  have hw1 := mCt_wa_le (mOp M N G) N
  have hmin : mCt (mMin M G N) N = mCt (mWa (mOp M N G) N) N := mCt_congr N (fun _ _ => rfl)
  have hmn : ∀ k, k ≤ N → mCt (mMin M G N) N ≤ mCt (mWa (mOp M N G) k) N := fun k hk => by rw [hmin]; exact mCt_wa_mono (mOp M N G) N k N hk (Nat.le_refl _)
  have hmono : ∀ g, g ≤ G → mCt (mMin M G N) N ≤ mCt (mOp M N g) N := fun g hg => by rw [hmin]; exact Nat.le_trans (hw1 N (Nat.le_refl _)) (mCt_op_mono M N hN g G hg)
  refine lv_aload_n hx hb dX2_pass_0 rfl (lv_at hl 0 rfl) ?_
  refine sm_fld hC 1 1 hinX2 hK hw hI dX2_pass_1 rfl (by decide) rfl rfl ?_
  refine lv_istore_n (lv' := [(1, .int (M 8 1)), (0, .ref (ad 0 0))]) hx hb dX2_pass_4 rfl hl (by decide) rfl (fun ls hl => ?_)
  refine lv_aload_n hx hb dX2_pass_5 rfl (lv_at hl 1 rfl) ?_
  refine sm_fld hC 4 2 hinX2 hK hw hI dX2_pass_6 rfl (by decide) rfl rfl ?_
  refine lv_astore_n (lv' := [(2, .ref (ad 0 2)), (1, .int (M 8 1)), (0, .ref (ad 0 0))]) hx hb dX2_pass_9 rfl hl (by decide) rfl (fun ls hl => ?_)
  refine lv_aload_n hx hb dX2_pass_10 rfl (lv_at hl 0 rfl) ?_
  refine sm_kn hC hK hw hI dX2_pass_11 ?_
  refine lv_istore_n (lv' := [(3, .int (nI N)), (2, .ref (ad 0 2)), (1, .int (M 8 1)), (0, .ref (ad 0 0))]) hx hb dX2_pass_12 rfl hl (by decide) rfl (fun ls hl => ?_)
  refine lv_iconst (v := 0) hx hb dX2_pass_13 (by decide) ?_
  refine lv_istore (lv' := [(4, .int 0), (3, .int (nI N)), (2, .ref (ad 0 2)), (1, .int (M 8 1)), (0, .ref (ad 0 0))]) hx hb dX2_pass_14 hl (by decide) rfl (fun ls hl => ?_)
  refine px_loop (σ := Nat → va_E) N (fun _ => 0) (fun _ => 0) (fun i f1 H locs ls => SW D A s.heap [] L f1 H locs ∧ lv_has ls 6 [(4, .int (nI i)), (3, .int (nI N)), (2, .ref (ad 0 2)), (1, .int (M 8 1)), (0, .ref (ad 0 0))] ∧ SimI cI cR L f1 ad G N G (mSt M i) Ls ∧ pxF N L f ad L f1 ad) f ⟨hw, lv_sub hl [0, 1, 2, 3, 4] rfl, hI, pxF.refl⟩ (Nat.le_refl _) (Nat.le_refl _) (fun i hi f H locs ls hJ K1 => ?_) (fun f1 H locs ls hJ => ?_)
  · obtain ⟨hw, hl, hI, hF⟩ := hJ
    refine lv_iload hx hb dX2_pass_16 (lv_at hl 0 rfl) ?_
    refine lv_iload_n hx hb dX2_pass_18 rfl (lv_at hl 1 rfl) ?_
    refine gt_ge_f (tgt := 65) hC i N dX2_pass_19 (by decide) rfl rfl hi (by omega) ?_
    refine lv_aload_n hx hb dX2_pass_22 rfl (lv_at hl 2 rfl) ?_
    refine lv_iload hx hb dX2_pass_23 (lv_at hl 0 rfl) ?_
    refine sm_ka hC i hK hw hI dX2_pass_25 rfl hi (by omega) ?_
    refine lv_astore (lv' := [(5, .ref (ad 2 i)), (4, .int (nI i)), (3, .int (nI N)), (2, .ref (ad 0 2)), (1, .int (M 8 1)), (0, .ref (ad 0 0))]) hx hb dX2_pass_26 hl (by decide) rfl (fun ls hl => ?_)
    refine lv_aload hx hb dX2_pass_28 (lv_at hl 0 rfl) ?_
    refine lv_iconst (v := 1) hx hb dX2_pass_30 (by decide) ?_
    refine sm_k hC 1 0 hK hw hI hi dX2_pass_31 rfl (by decide) rfl ?_
    refine lv_iconst (v := 2) hx hb dX2_pass_32 (by decide) ?_
    refine lv_icmp_eq (tgt := 39) hx hb dX2_pass_33 (by decide) (fun h33 : ((mSt M i) 0 i) = 2 => ?_) (fun h33 : ¬ (((mSt M i) 0 i) = 2) => ?_)
    · skip
      refine lv_aload hx hb dX2_pass_39 (lv_at hl 0 rfl) ?_
      refine lv_iconst (v := 4) hx hb dX2_pass_41 (by decide) ?_
      refine lv_dup2_11 hx hb dX2_pass_42 rfl rfl ?_
      refine sm_k hC 4 3 hK hw hI hi dX2_pass_43 rfl (by decide) rfl ?_
      refine lv_iconst (v := 1) hx hb dX2_pass_44 (by decide) ?_
      refine lv_isub hx hb dX2_pass_45 ?_
      refine sm_kst hC 4 3 hK hw hI hi dX2_pass_46 rfl (by decide) rfl (fun f H locs hw hI hF1 => ?_)
      replace hF := hF.trans hF1
      refine lv_aload hx hb dX2_pass_47 (lv_at hl 0 rfl) ?_
      refine lv_iconst (v := 4) hx hb dX2_pass_49 (by decide) ?_
      refine sm_k hC 4 3 hK hw hI hi dX2_pass_50 rfl (by decide) rfl ?_
      refine lv_if_ne (tgt := 59) hx hb dX2_pass_51 (by decide) (fun h51 : ¬ (((up2 (mSt M i) 3 i (((mSt M i) 3 i) - 1)) 3 i) = 0) => ?_) (fun h51 : ((up2 (mSt M i) 3 i (((mSt M i) 3 i) - 1)) 3 i) = 0 => ?_)
      · skip
        refine gt_inc (lv' := [(4, .int (nI (i + 1))), (5, .ref (ad 2 i)), (3, .int (nI N)), (2, .ref (ad 0 2)), (1, .int (M 8 1)), (0, .ref (ad 0 0))]) hC 1 i dX2_pass_59 hl rfl rfl (by decide) rfl (fun ls hl => ?_)
        refine lv_goto (tgt := 16) hx hb dX2_pass_62 (by decide) ?_
        have e9 : up2 (mSt M i) 3 i (((mSt M i) 3 i) - 1) = mSt M (i + 1) := by
          show _ = mStT (mSt M i) i
          unfold mStT
          rw [if_neg (fun z => (mIs0 _ i 2).mp z h33), if_neg h51]
        rw [e9] at hI
        exact K1 f H locs ls _ _ ⟨hw, lv_sub hl [0, 2, 3, 4, 5] rfl, hI, hF⟩ (Nat.le_refl _) (Nat.le_refl _)
      · skip
        refine lv_aload hx hb dX2_pass_54 (lv_at hl 0 rfl) ?_
        refine lv_iconst (v := 1) hx hb dX2_pass_56 (by decide) ?_
        refine lv_iconst (v := 0) hx hb dX2_pass_57 (by decide) ?_
        refine sm_kst hC 1 0 hK hw hI hi dX2_pass_58 rfl (by decide) rfl (fun f H locs hw hI hF1 => ?_)
        replace hF := hF.trans hF1
        refine gt_inc (lv' := [(4, .int (nI (i + 1))), (5, .ref (ad 2 i)), (3, .int (nI N)), (2, .ref (ad 0 2)), (1, .int (M 8 1)), (0, .ref (ad 0 0))]) hC 1 i dX2_pass_59 hl rfl rfl (by decide) rfl (fun ls hl => ?_)
        refine lv_goto (tgt := 16) hx hb dX2_pass_62 (by decide) ?_
        have e9 : up2 (up2 (mSt M i) 3 i (((mSt M i) 3 i) - 1)) 0 i 0 = mSt M (i + 1) := by
          show _ = mStT (mSt M i) i
          unfold mStT
          rw [if_neg (fun z => (mIs0 _ i 2).mp z h33), if_pos h51]
        rw [e9] at hI
        exact K1 f H locs ls _ _ ⟨hw, lv_sub hl [0, 2, 3, 4, 5] rfl, hI, hF⟩ (Nat.le_refl _) (Nat.le_refl _)
    · skip
      refine lv_goto (tgt := 59) hx hb dX2_pass_36 (by decide) ?_
      refine gt_inc (lv' := [(4, .int (nI (i + 1))), (5, .ref (ad 2 i)), (3, .int (nI N)), (2, .ref (ad 0 2)), (1, .int (M 8 1)), (0, .ref (ad 0 0))]) hC 1 i dX2_pass_59 hl rfl rfl (by decide) rfl (fun ls hl => ?_)
      refine lv_goto (tgt := 16) hx hb dX2_pass_62 (by decide) ?_
      have e9 : mSt M i = mSt M (i + 1) := by
        show _ = mStT (mSt M i) i
        unfold mStT
        rw [if_pos ((mIs0 _ i 2).mpr h33)]
      rw [e9] at hI
      exact K1 f H locs ls _ _ ⟨hw, lv_sub hl [0, 2, 3, 4, 5] rfl, hI, hF⟩ (Nat.le_refl _) (Nat.le_refl _)
  · obtain ⟨hw, hl, hI, hF⟩ := hJ
    refine lv_iload hx hb dX2_pass_16 (lv_at hl 0 rfl) ?_
    refine lv_iload_n hx hb dX2_pass_18 rfl (lv_at hl 1 rfl) ?_
    refine gt_ge_t (tgt := 65) hC N N dX2_pass_19 (by decide) rfl rfl (Nat.le_refl _) (by omega) ?_
    refine lv_iconst (v := 0) hx hb dX2_pass_65 (by decide) ?_
    refine lv_istore_n (lv' := [(2, .int 0), (4, .int (nI N)), (3, .int (nI N)), (1, .int (M 8 1)), (0, .ref (ad 0 0))]) hx hb dX2_pass_66 rfl hl (by decide) rfl (fun ls hl => ?_)
    refine px_loop (σ := pZ) G (fun g => 13 * (mCt M N - mCt (mOp M N g) N)) (fun g => 144 * (mCt M N - mCt (mOp M N g) N)) (fun g z H locs ls => PQ D A s.heap cI cR L f ad G N (mOp M N g) z H locs ∧ lv_has ls 6 [(2, .int (nI g)), (1, .int (M 8 1)), (0, .ref (ad 0 0))]) (L, f1, ad, Ls) ⟨⟨hw, hI, hLn.st N, hF⟩, lv_sub hl [0, 3, 4] rfl⟩ (Nat.zero_le _) (Nat.zero_le _) (fun g hg z H locs ls hJ K1 => ?_) (fun z H locs ls hJ => ?_)
    · obtain ⟨L1, f1, a1, l1⟩ := z
      obtain ⟨⟨hw, hI, hLn, hF⟩, hl⟩ := hJ
      dsimp only at hw hI hLn hF
      have h00 := hF.2.2 0 0 (by decide)
      rw [← h00] at hl
      refine lv_iload_n hx hb dX2_pass_67 rfl (lv_at hl 0 rfl) ?_
      refine lv_aload_n hx hb dX2_pass_68 rfl (lv_at hl 2 rfl) ?_
      refine sm_fld hC 3 3 hinX2 hK hw hI dX2_pass_69 rfl (by decide) rfl rfl ?_
      refine sm_gn hC hK hw hI dX2_pass_72 ?_
      refine gt_ge_f (tgt := 136) hC g G dX2_pass_73 (by decide) rfl rfl hg (by omega) ?_
      refine lv_aload_n hx hb dX2_pass_76 rfl (lv_at hl 2 rfl) ?_
      refine lv_iload_n hx hb dX2_pass_77 rfl (lv_at hl 0 rfl) ?_
      obtain ⟨hln, hltN, hlt⟩ := hLn.lb hN hg
      refine px_callV hC 2 1 (ct_X2_next l D cI cR _ _ _ G N G (mOp M N g) _ hI hN g hg hG4 hg hG4 hln hltN) gX2_pass_X2_next dX2_pass_78 hE hK hw hA hl.1 rfl hd_X2_next ⟨Nat.le_of_ble_eq_true rfl, Nat.le_of_ble_eq_true rfl⟩ ⟨by show 13 * (mCt M N - mCt (mOp M N g) N) + 0 ≤ 13 * (mCt M N - mCt (mMin M G N) N); exact Nat.mul_le_mul_left _ (Nat.sub_le_sub_left (hmono g (by omega)) _), by show 144 * (mCt M N - mCt (mOp M N g) N) + 0 ≤ 144 * (mCt M N - mCt (mMin M G N) N); exact Nat.mul_le_mul_left _ (Nat.sub_le_sub_left (hmono g (by omega)) _)⟩ hI.1.1 hI.1.2 rfl rfl rfl (Nat.le_of_ble_eq_true rfl) (fun rv L9 f9 H locs hp hw => ?_)
      obtain ⟨rfl, e8, e9⟩ := hp
      rw [e8, e9] at hw
      rw [sNx_eq hLn hN hg]
      refine gt_stk [.int (mNx (mOp M N g) g N)] rfl ?_
      refine lv_istore_n (lv' := [(3, .int (mNx (mOp M N g) g N)), (2, .int (nI g)), (1, .int (M 8 1)), (0, .ref (a1 0 0))]) hx hb dX2_pass_81 rfl hl (by decide) rfl (fun ls hl => ?_)
      have hct := mCt_op M N hN g
      have hTmin := hmono (g + 1) (by omega)
      have hmT : mCt (mOp M N (g + 1)) N + mOpN (mOp M N g) g N = mCt (mOp M N g) N := hct _ (Nat.le_refl _)
      have hwg := hw0 g
      rw [h00] at hl
      refine px_loop (σ := pZ) (mOpN (mOp M N g) g N) (fun i => 13 * (mCt M N - mCt (mOp M N g) N) + 13 * i) (fun i => 144 * (mCt M N - mCt (mOp M N g) N) + 144 * i) (fun i z H locs ls => PQ D A s.heap cI cR L f ad G N (mOpI (mOp M N g) g N i) z H locs ∧ lv_has ls 6 [(3, .int (mNx (mOpI (mOp M N g) g N i) g N)), (2, .int (nI g)), (1, .int (M 8 1)), (0, .ref (ad 0 0))]) (L1, f1, a1, l1) ⟨⟨hw, hI, hLn, hF⟩, lv_sub hl [0, 1, 2, 3] rfl⟩ (Nat.le_refl _) (Nat.le_refl _) (fun i hi z H locs ls hJ K2 => ?_) (fun z H locs ls hJ => ?_)
      · obtain ⟨L2, f2, a2, l2⟩ := z
        obtain ⟨⟨hw, hI, hLn, hF⟩, hl⟩ := hJ
        dsimp only at hw hI hLn hF
        have h00 := hF.2.2 0 0 (by decide)
        rw [← h00] at hl
        obtain ⟨j, hj, hnx, hj0, hj1⟩ := nx_at hN (mOpN_no hi)
        have eS : mOpI (mOp M N g) g N (i + 1) = mOpS (mOpI (mOp M N g) g N i) g N := rfl
        generalize mOpI (mOp M N g) g N i = X at hI hLn hl hnx hj0 hj1 eS
        rw [hnx] at hl
        refine lv_iload_n hx hb dX2_pass_82 rfl (lv_at hl 0 rfl) ?_
        refine lv_if_lt (tgt := 130) hx hb dX2_pass_83 (by decide) (fun z => absurd z (nI_pos (by omega))) (fun _ => ?_)
        refine lv_aload_n hx hb dX2_pass_86 rfl (lv_at hl 3 rfl) ?_
        refine sm_fld hC 4 2 hinX2 hK hw hI dX2_pass_87 rfl (by decide) rfl rfl ?_
        refine lv_iload_n hx hb dX2_pass_90 rfl (lv_at hl 0 rfl) ?_
        refine sm_ka hC j hK hw hI dX2_pass_91 rfl hj (by omega) ?_
        refine lv_iconst (v := 1) hx hb dX2_pass_92 (by decide) ?_
        refine lv_iconst (v := 2) hx hb dX2_pass_93 (by decide) ?_
        refine sm_kst hC 1 0 hK hw hI hj dX2_pass_94 rfl (by decide) rfl (fun f H locs hw hI hF1 => ?_)
        replace hF := hF.trans hF1
        refine lv_aload_n hx hb dX2_pass_95 rfl (lv_at hl 3 rfl) ?_
        refine sm_fld hC 5 4 hinX2 hK hw hI dX2_pass_96 rfl (by decide) rfl rfl ?_
        refine lv_iload_n hx hb dX2_pass_99 rfl (lv_at hl 1 rfl) ?_
        refine lv_aload_n hx hb dX2_pass_100 rfl (lv_at hl 3 rfl) ?_
        refine sm_fld hC 5 4 hinX2 hK hw hI dX2_pass_101 rfl (by decide) rfl rfl ?_
        refine lv_iload_n hx hb dX2_pass_104 rfl (lv_at hl 1 rfl) ?_
        refine sm_la hC g hK hw hI dX2_pass_105 rfl hg (by omega) ?_
        refine lv_iload_n hx hb dX2_pass_106 rfl (lv_at hl 0 rfl) ?_
        obtain ⟨hln, hltN, hlt⟩ := hLn.lb hN hg
        obtain ⟨r1, r2⟩ := hI.2.2.2.2.2.2.1 g hg
        refine px_callS hC 2 (ct_X2_without l D cI cR _ _ (a2 3 g) j (l2 g) r1 r2 hln hlt (by omega)) gX2_pass_X2_without dX2_pass_107 hE hK hw hA hl.1 rfl hd_X2_without ⟨Nat.le_of_ble_eq_true rfl, Nat.le_of_ble_eq_true rfl⟩ ⟨by show 13 * (mCt M N - mCt (mOp M N g) N) + 13 * i + 13 ≤ 13 * (mCt M N - mCt (mMin M G N) N); omega, by show 144 * (mCt M N - mCt (mOp M N g) N) + 144 * i + 144 ≤ 144 * (mCt M N - mCt (mMin M G N) N); omega⟩ rfl rfl (Nat.le_of_ble_eq_true rfl) (fun rv L3 f3 H locs hp hw => ?_)
        obtain ⟨q, rfl, hq, hqL, hLL, hff, hrow⟩ := hp
        refine gt_stk [.ref q, .int (nI g), .ref (a2 0 3)] rfl ?_
        have hI3 := hI.mono hLL hff
        refine sm_lst hC g hE hK hw hI3 dX2_pass_110 rfl hg (by omega) hqL hrow (fun j hj => px_ne (hI.2.2.2.2.1 j hj).1 hq) (fun j hj => px_ne (hI.2.2.2.2.2.1 j hj).1 hq) (fun f4 H locs hw hI4 hF1 => ?_)
        have hF4 := (hF.trans (pxF.more hLL hff)).trans hF1
        have hI := hI4
        have hF := hF4
        refine lv_aload_n hx hb dX2_pass_111 rfl (lv_at hl 3 rfl) ?_
        refine gt_stk [.ref (adU a2 g q 0 0)] rfl ?_
        refine lv_dup hx hb dX2_pass_112 rfl ?_
        refine sm_fld hC 1 1 hinX2 hK hw hI dX2_pass_113 rfl (by decide) rfl rfl ?_
        refine lv_iconst (v := 1) hx hb dX2_pass_116 (by decide) ?_
        refine lv_iadd hx hb dX2_pass_117 ?_
        refine sm_fst hC 1 1 hinX2 hK hw hI dX2_pass_118 (by decide) rfl (fun f5 H locs hw hI hF1 => ?_)
        replace hF := hF.trans hF1
        have eX : up2 (up2 X 0 j 2) 8 1 (up2 X 0 j 2 8 1 + 1) = mOpS X g N := by
          unfold mOpS; rw [hnx, cl_nI (by omega)]; rfl
        rw [eX] at hI
        have hLn := hLn.opS hN hG4 hg hj hnx hj1
        rw [← eS] at hI hLn
        refine lv_aload_n hx hb dX2_pass_121 rfl (lv_at hl 3 rfl) ?_
        refine lv_iload_n hx hb dX2_pass_122 rfl (lv_at hl 1 rfl) ?_
        refine gt_stk [.int (nI g), .ref (adU a2 g q 0 0)] rfl ?_
        obtain ⟨hln, hltN, hlt⟩ := hLn.lb hN hg
        refine px_callV hC 2 1 (ct_X2_next l D cI cR _ _ _ G N G (mOpI (mOp M N g) g N (i + 1)) _ hI hN g hg hG4 hg hG4 hln hltN) gX2_pass_X2_next dX2_pass_123 hE hK hw hA hl.1 rfl hd_X2_next ⟨Nat.le_of_ble_eq_true rfl, Nat.le_of_ble_eq_true rfl⟩ ⟨by show 13 * (mCt M N - mCt (mOp M N g) N) + 13 * i + 13 + 0 ≤ 13 * (mCt M N - mCt (mMin M G N) N); omega, by show 144 * (mCt M N - mCt (mOp M N g) N) + 144 * i + 144 + 0 ≤ 144 * (mCt M N - mCt (mMin M G N) N); omega⟩ hI.1.1 hI.1.2 rfl rfl rfl (Nat.le_of_ble_eq_true rfl) (fun rv L9 f9 H locs hp hw => ?_)
        obtain ⟨rfl, e8, e9⟩ := hp
        rw [e8, e9] at hw
        rw [sNx_eq hLn hN hg]
        refine gt_stk [.int (mNx (mOpI (mOp M N g) g N (i + 1)) g N)] rfl ?_
        refine lv_istore_n (lv' := [(3, .int (mNx (mOpI (mOp M N g) g N (i + 1)) g N)), (2, .int (nI g)), (1, .int (M 8 1)), (0, .ref (a2 0 0))]) hx hb dX2_pass_126 rfl hl (by decide) rfl (fun ls hl => ?_)
        refine lv_goto (tgt := 82) hx hb dX2_pass_127 (by decide) ?_
        have hl9 : lv_has ls 6 [(3, .int (mNx (mOpI (mOp M N g) g N (i + 1)) g N)), (2, .int (nI g)), (1, .int (M 8 1)), (0, .ref (a2 0 0))] := lv_sub hl [0, 1, 2, 3] rfl
        rw [h00] at hl9
        exact K2 (L3, f5, adU a2 g q, lsU l2 g (wo (l2 g) j)) H locs ls _ _ ⟨⟨hw, hI, hLn, hF⟩, hl9⟩ (by show _ ≤ 13 * (mCt M N - mCt (mOp M N g) N) + 13 * (i + 1); omega) (by show _ ≤ 144 * (mCt M N - mCt (mOp M N g) N) + 144 * (i + 1); omega)
      · obtain ⟨⟨hw, hI, hLn, hF⟩, hl⟩ := hJ
        rw [mOpN_yes hN] at hl
        refine lv_iload_n hx hb dX2_pass_82 rfl (lv_at hl 0 rfl) ?_
        refine lv_if_lt (tgt := 130) hx hb dX2_pass_83 (by decide) (fun _ => ?_) (fun z => absurd m1_neg z)
        refine gt_inc (lv' := [(2, .int (nI (g + 1))), (3, .int (-1)), (1, .int (M 8 1)), (0, .ref (ad 0 0))]) hC 1 g dX2_pass_130 hl rfl rfl (by decide) rfl (fun ls hl => ?_)
        refine lv_goto (tgt := 67) hx hb dX2_pass_133 (by decide) ?_
        exact K1 z H locs ls _ _ ⟨⟨hw, hI, hLn, hF⟩, lv_sub hl [0, 2, 3] rfl⟩ (by show _ ≤ 13 * (mCt M N - mCt (mOp M N (g + 1)) N); omega) (by show _ ≤ 144 * (mCt M N - mCt (mOp M N (g + 1)) N); omega)
    · obtain ⟨L1, f1, a1, l1⟩ := z
      obtain ⟨⟨hw, hI, hLn, hF⟩, hl⟩ := hJ
      dsimp only at hw hI hLn hF
      have h00 := hF.2.2 0 0 (by decide)
      rw [← h00] at hl
      refine lv_iload_n hx hb dX2_pass_67 rfl (lv_at hl 0 rfl) ?_
      refine lv_aload_n hx hb dX2_pass_68 rfl (lv_at hl 2 rfl) ?_
      refine sm_fld hC 3 3 hinX2 hK hw hI dX2_pass_69 rfl (by decide) rfl rfl ?_
      refine sm_gn hC hK hw hI dX2_pass_72 ?_
      refine gt_ge_t (tgt := 136) hC G G dX2_pass_73 (by decide) rfl rfl (Nat.le_refl _) (by omega) ?_
      refine lv_iconst (v := 0) hx hb dX2_pass_136 (by decide) ?_
      refine lv_istore_n (lv' := [(2, .int 0), (1, .int (M 8 1)), (0, .ref (a1 0 0))]) hx hb dX2_pass_137 rfl hl (by decide) rfl (fun ls hl => ?_)
      rw [h00] at hl
      refine px_loop (σ := pZ) N (fun k => 13 * (mCt M N - mCt (mWa (mOp M N G) k) N)) (fun k => 144 * (mCt M N - mCt (mWa (mOp M N G) k) N)) (fun k z H locs ls => PQ D A s.heap cI cR L f ad G N (mWa (mOp M N G) k) z H locs ∧ lv_has ls 6 [(2, .int (nI k)), (1, .int (M 8 1)), (0, .ref (ad 0 0))]) (L1, f1, a1, l1) ⟨⟨hw, hI, hLn, hF⟩, lv_sub hl [0, 1, 2] rfl⟩ (Nat.le_refl _) (Nat.le_refl _) (fun k hk z H locs ls hJ K1 => ?_) (fun z H locs ls hJ => ?_)
      · obtain ⟨L1, f1, a1, l1⟩ := z
        obtain ⟨⟨hw, hI, hLn, hF⟩, hl⟩ := hJ
        dsimp only at hw hI hLn hF
        have h00 := hF.2.2 0 0 (by decide)
        rw [← h00] at hl
        have eS : mWa (mOp M N G) (k + 1) = mWaT (mWa (mOp M N G) k) k := rfl
        have hc1 := hw1 k (by omega)
        have hc2 : mCt (mMin M G N) N ≤ mCt (mWa (mOp M N G) (k + 1)) N := hmn (k + 1) (by omega)
        rw [eS] at hc2
        have hwG := hw0 G
        have K3 := K1
        rw [eS] at K3
        generalize mWa (mOp M N G) k = X at hI hLn hc1 hc2 K3 ⊢
        refine lv_iload_n hx hb dX2_pass_138 rfl (lv_at hl 0 rfl) ?_
        refine lv_aload_n hx hb dX2_pass_139 rfl (lv_at hl 2 rfl) ?_
        refine sm_fld hC 4 2 hinX2 hK hw hI dX2_pass_140 rfl (by decide) rfl rfl ?_
        refine sm_kn hC hK hw hI dX2_pass_143 ?_
        refine gt_ge_f (tgt := 215) hC k N dX2_pass_144 (by decide) rfl rfl hk (by omega) ?_
        refine lv_aload_n hx hb dX2_pass_147 rfl (lv_at hl 2 rfl) ?_
        refine sm_fld hC 4 2 hinX2 hK hw hI dX2_pass_148 rfl (by decide) rfl rfl ?_
        refine lv_iload_n hx hb dX2_pass_151 rfl (lv_at hl 0 rfl) ?_
        refine sm_ka hC k hK hw hI dX2_pass_152 rfl hk (by omega) ?_
        refine lv_astore_n (lv' := [(3, .ref (a1 2 k)), (2, .int (nI k)), (1, .int (M 8 1)), (0, .ref (a1 0 0))]) hx hb dX2_pass_153 rfl hl (by decide) rfl (fun ls hl => ?_)
        refine lv_aload_n hx hb dX2_pass_154 rfl (lv_at hl 0 rfl) ?_
        refine lv_iconst (v := 1) hx hb dX2_pass_155 (by decide) ?_
        refine sm_k hC 1 0 hK hw hI hk dX2_pass_156 rfl (by decide) rfl ?_
        refine lv_iconst (v := 1) hx hb dX2_pass_157 (by decide) ?_
        refine lv_icmp_eq (tgt := 164) hx hb dX2_pass_158 (by decide) (fun h158 : (X 0 k) = 1 => ?_) (fun h158 : ¬ ((X 0 k) = 1) => ?_)
        · skip
          refine lv_aload_n hx hb dX2_pass_164 rfl (lv_at hl 0 rfl) ?_
          refine lv_bipush (v := 6) hx hb dX2_pass_165 (by decide) ?_
          refine lv_dup2_11 hx hb dX2_pass_167 rfl rfl ?_
          refine sm_k hC 6 5 hK hw hI hk dX2_pass_168 rfl (by decide) rfl ?_
          refine lv_iconst (v := 1) hx hb dX2_pass_169 (by decide) ?_
          refine lv_iadd hx hb dX2_pass_170 ?_
          refine sm_kst hC 6 5 hK hw hI hk dX2_pass_171 rfl (by decide) rfl (fun f H locs hw hI hF1 => ?_)
          replace hF := hF.trans hF1
          refine lv_aload_n hx hb dX2_pass_172 rfl (lv_at hl 0 rfl) ?_
          refine lv_bipush (v := 7) hx hb dX2_pass_173 (by decide) ?_
          refine lv_dup2_11 hx hb dX2_pass_175 rfl rfl ?_
          refine sm_k hC 7 6 hK hw hI hk dX2_pass_176 rfl (by decide) rfl ?_
          refine lv_iconst (v := 1) hx hb dX2_pass_177 (by decide) ?_
          refine lv_iadd hx hb dX2_pass_178 ?_
          refine sm_kst hC 7 6 hK hw hI hk dX2_pass_179 rfl (by decide) rfl (fun f H locs hw hI hF1 => ?_)
          replace hF := hF.trans hF1
          have eA : up2 (up2 X 5 k ((X 5 k) + 1)) 6 k (((up2 X 5 k ((X 5 k) + 1)) 6 k) + 1) = mWaA X k := rfl
          rw [eA] at hI
          refine lv_aload_n hx hb dX2_pass_180 rfl (lv_at hl 0 rfl) ?_
          refine lv_bipush (v := 6) hx hb dX2_pass_181 (by decide) ?_
          refine sm_k hC 6 5 hK hw hI hk dX2_pass_183 rfl (by decide) rfl ?_
          refine lv_aload_n hx hb dX2_pass_184 rfl (lv_at hl 0 rfl) ?_
          refine lv_iconst (v := 5) hx hb dX2_pass_185 (by decide) ?_
          refine sm_k hC 5 4 hK hw hI hk dX2_pass_186 rfl (by decide) rfl ?_
          refine lv_icmp_ge (tgt := 193) hx hb dX2_pass_187 (by decide) (fun h187 : ((mWaA X k) 4 k) ≤ ((mWaA X k) 5 k) => ?_) (fun h187 : ¬ (((mWaA X k) 4 k) ≤ ((mWaA X k) 5 k)) => ?_)
          · skip
            refine lv_aload_n hx hb dX2_pass_193 rfl (lv_at hl 3 rfl) ?_
            refine lv_iload_n hx hb dX2_pass_194 rfl (lv_at hl 1 rfl) ?_
            have hct := mCt_waT (N := N) hk h158 h187
            obtain ⟨g0, hg0, hX1⟩ := hLn.1 k hk h158
            obtain ⟨hln, hltN, hlt⟩ := hLn.lb hN hg0
            refine px_callV hC 2 1 (ct_X2_callBack l D cI cR _ _ _ G N G (mWaA X k) _ hI hN k g0 hk hG4 (fun _ => ⟨hX1, hg0⟩) hln hlt) gX2_pass_X2_callBack dX2_pass_195 hE hK hw hA hl.1 rfl hd_X2_callBack ⟨Nat.le_of_ble_eq_true rfl, Nat.le_of_ble_eq_true rfl⟩ ⟨by show 13 * (mCt M N - mCt X N) + 13 ≤ 13 * (mCt M N - mCt (mMin M G N) N); omega, by show 144 * (mCt M N - mCt X N) + 144 ≤ 144 * (mCt M N - mCt (mMin M G N) N); omega⟩ hI.1.1 hI.1.2 rfl rfl rfl (Nat.le_of_ble_eq_true rfl) (fun rv L9 f9 H locs hp hw => ?_)
            obtain ⟨rfl, a9, hI9, hF1⟩ := hp
            rw [if_pos (show mWaA X k 0 k = 1 from h158)] at hI9
            have hF := hF.trans hF1
            have h09 : a9 0 0 = a1 0 0 := hF1.2.2 0 0 (by decide)
            refine gt_stk [.int (mHeld (mWaA X k) k)] rfl ?_
            refine lv_pop hx hb dX2_pass_198 rfl ?_
            refine lv_aload_n hx hb dX2_pass_199 rfl (lv_at hl 3 rfl) ?_
            refine gt_stk [.ref (a9 0 0)] (by rw [h09]) ?_
            refine lv_dup hx hb dX2_pass_200 rfl ?_
            refine sm_fld hC 2 5 hinX2 hK hw hI9 dX2_pass_201 rfl (by decide) rfl rfl ?_
            refine lv_iconst (v := 1) hx hb dX2_pass_204 (by decide) ?_
            refine lv_iadd hx hb dX2_pass_205 ?_
            refine sm_fst hC 2 5 hinX2 hK hw hI9 dX2_pass_206 (by decide) rfl (fun f5 H locs hw hI hF1 => ?_)
            replace hF := hF.trans hF1
            have eX : up2 (up2 (mWaA X k) 0 k 0) 8 2 (up2 (mWaA X k) 0 k 0 8 2 + 1) = mWaT X k := (waT_up h158 h187).symm
            rw [eX] at hI
            have hLn : Ln G N (mWaT X k) (lsU l1 g0 (wo (l1 g0) k)) := hLn.leave hG4 hg0 hX1 (by rw [waT_up h158 h187]; show ¬ (up2 (mWaA X k) 0 k 0) 0 k = 1; rw [up2_s]; decide) (fun i _ hi => mWaT_k X hi (Or.inl (by decide))) (fun i _ => by rw [waT_up h158 h187]; exact ⟨rfl, rfl⟩)
            refine gt_inc (lv' := [(2, .int (nI (k + 1))), (3, .ref (a1 2 k)), (1, .int (M 8 1)), (0, .ref (a1 0 0))]) hC 1 k dX2_pass_209 hl rfl rfl (by decide) rfl (fun ls hl => ?_)
            refine lv_goto (tgt := 138) hx hb dX2_pass_212 (by decide) ?_
            have hl9 : lv_has ls 6 [(2, .int (nI (k + 1))), (1, .int (M 8 1)), (0, .ref (a1 0 0))] := lv_sub hl [0, 2, 3] rfl
            rw [h00] at hl9
            exact K3 (L9, f5, a9, lsU l1 g0 (wo (l1 g0) k)) H locs ls _ _ ⟨⟨hw, hI, hLn, hF⟩, hl9⟩ (by show _ ≤ 13 * (mCt M N - mCt (mWaT X k) N); omega) (by show _ ≤ 144 * (mCt M N - mCt (mWaT X k) N); omega)
          · skip
            have eX := waT_in h158 h187
            rw [← eX] at hI
            have hLn : Ln G N (mWaT X k) l1 := hLn.waT (by rw [eX]; rfl)
            have hct : mCt (mWaT X k) N = mCt X N := by rw [eX]; exact mCt_congr N (fun _ _ => rfl)
            refine lv_goto (tgt := 209) hx hb dX2_pass_190 (by decide) ?_
            refine gt_inc (lv' := [(2, .int (nI (k + 1))), (3, .ref (a1 2 k)), (1, .int (M 8 1)), (0, .ref (a1 0 0))]) hC 1 k dX2_pass_209 hl rfl rfl (by decide) rfl (fun ls hl => ?_)
            refine lv_goto (tgt := 138) hx hb dX2_pass_212 (by decide) ?_
            have hl9 : lv_has ls 6 [(2, .int (nI (k + 1))), (1, .int (M 8 1)), (0, .ref (a1 0 0))] := lv_sub hl [0, 2, 3] rfl
            rw [h00] at hl9
            exact K3 (L1, f, a1, l1) H locs ls _ _ ⟨⟨hw, hI, hLn, hF⟩, hl9⟩ (by show _ ≤ 13 * (mCt M N - mCt (mWaT X k) N); omega) (by show _ ≤ 144 * (mCt M N - mCt (mWaT X k) N); omega)
        · skip
          have eX := waT_no h158
          have hI := hI
          rw [← eX] at hI
          have hLn : Ln G N (mWaT X k) l1 := by rw [eX]; exact hLn
          have hct : mCt (mWaT X k) N = mCt X N := by rw [eX]
          refine lv_goto (tgt := 209) hx hb dX2_pass_161 (by decide) ?_
          refine gt_inc (lv' := [(2, .int (nI (k + 1))), (3, .ref (a1 2 k)), (1, .int (M 8 1)), (0, .ref (a1 0 0))]) hC 1 k dX2_pass_209 hl rfl rfl (by decide) rfl (fun ls hl => ?_)
          refine lv_goto (tgt := 138) hx hb dX2_pass_212 (by decide) ?_
          have hl9 : lv_has ls 6 [(2, .int (nI (k + 1))), (1, .int (M 8 1)), (0, .ref (a1 0 0))] := lv_sub hl [0, 2, 3] rfl
          rw [h00] at hl9
          exact K3 (L1, f1, a1, l1) H locs ls _ _ ⟨⟨hw, hI, hLn, hF⟩, hl9⟩ (by show _ ≤ 13 * (mCt M N - mCt (mWaT X k) N); omega) (by show _ ≤ 144 * (mCt M N - mCt (mWaT X k) N); omega)
      · obtain ⟨L1, f1, a1, l1⟩ := z
        obtain ⟨⟨hw, hI, hLn, hF⟩, hl⟩ := hJ
        dsimp only at hw hI hLn hF
        have h00 := hF.2.2 0 0 (by decide)
        rw [← h00] at hl
        refine lv_iload_n hx hb dX2_pass_138 rfl (lv_at hl 0 rfl) ?_
        refine lv_aload_n hx hb dX2_pass_139 rfl (lv_at hl 2 rfl) ?_
        refine sm_fld hC 4 2 hinX2 hK hw hI dX2_pass_140 rfl (by decide) rfl rfl ?_
        refine sm_kn hC hK hw hI dX2_pass_143 ?_
        refine gt_ge_t (tgt := 215) hC N N dX2_pass_144 (by decide) rfl rfl (Nat.le_refl _) (by omega) ?_
        refine lv_aload_n hx hb dX2_pass_215 rfl (lv_at hl 2 rfl) ?_
        refine lv_dup hx hb dX2_pass_216 rfl ?_
        refine sm_fld hC 0 6 hinX2 hK hw hI dX2_pass_217 rfl (by decide) rfl rfl ?_
        refine lv_iconst (v := 1) hx hb dX2_pass_220 (by decide) ?_
        refine lv_iadd hx hb dX2_pass_221 ?_
        refine sm_fst hC 0 6 hinX2 hK hw hI dX2_pass_222 (by decide) rfl (fun f H locs hw hI hF1 => ?_)
        replace hF := hF.trans hF1
        have hI : SimI cI cR L1 f a1 G N G (mMin M G N) l1 := hI
        refine lv_aload_n hx hb dX2_pass_225 rfl (lv_at hl 2 rfl) ?_
        refine sm_fld hC 1 1 hinX2 hK hw hI dX2_pass_226 rfl (by decide) rfl rfl ?_
        refine lv_iload_n hx hb dX2_pass_229 rfl (lv_at hl 1 rfl) ?_
        refine lv_isub hx hb dX2_pass_230 ?_
        have hLn : Ln G N (mMin M G N) l1 := hLn
        exact px_iret hC hr hlk hw ⟨rfl, a1, l1, hI, hLn, hF⟩ dX2_pass_231 (by rw [hmin]; exact Nat.le_refl _) (by rw [hmin]; exact Nat.le_refl _)
