/-! The reference's checksum (laid by wip/whole/gen/model4.py). -/
theorem gt_Ddrop {A : Nat → Prop} {w x : va_W} (h : va_D A (w ++ x)) : va_D A w := by
  rw [gt_Dm] at h ⊢
  refine ⟨?_, fun q hq => h.2 q (List.mem_append_left _ hq)⟩
  have h1 := h.1
  rw [List.map_append, List.nodup_append] at h1
  exact h1.1
def dAr (f : Nat → Int32) (d : Int64) : Nat → Int64
  | 0 => d
  | n + 1 => dk (dAr f d n) (f n)
theorem dAr6 (d : Int64) (v0 v1 v2 v3 v4 v5 : Int32) : dAr (upd (upd (upd (upd (upd (upd (fun _ => 0) 0 v0) 1 v1) 2 v2) 3 v3) 4 v4) 5 v5) d 6 = dk (dk (dk (dk (dk (dk d v0) v1) v2) v3) v4) v5 := rfl
theorem dAr8 (d : Int64) (v0 v1 v2 v3 v4 v5 v6 v7 : Int32) : dAr (upd (upd (upd (upd (upd (upd (upd (upd (fun _ => 0) 0 v0) 1 v1) 2 v2) 3 v3) 4 v4) 5 v5) 6 v6) 7 v7) d 8 = dk (dk (dk (dk (dk (dk (dk (dk d v0) v1) v2) v3) v4) v5) v6) v7 := rfl
def mDh (M : SS) (N : Nat) : Int64 := dk (dk (dk (dk (dk (dk (dk (dk 2161 (M 8 0)) (M 12 1)) (M 12 2)) (mMany M 1 N)) (mMany M 2 N)) (mStv M N)) (M 8 1)) (M 8 2)
def mDg (M : SS) (G N : Nat) : Nat → Int64
  | 0 => mDh M N
  | n + 1 => dk (dk (dk (dk (dk (dk (mDg M G N n) (M 9 n)) (mFree M n N)) (mMat M (nI n) N)) (mNx M n N)) (mWan M G N n)) (mBet M G N n)
def mDk (M : SS) (G N : Nat) : Nat → Int64
  | 0 => mDg M G N G
  | n + 1 => dk (dk (dk (dk (dk (dk (dk (dk (mDk M G N n) (M 0 n)) (mWhere M n)) (mHeld M n)) (mSeem M n)) (mLeft M n)) (M 6 n)) (mPl M N n)) (mUn M G N n)
def mKg (M K : SS) : Nat → SS
  | 0 => K
  | n + 1 => up2 M 10 n 0
def mKk (M K : SS) (G : Nat) : Nat → SS
  | 0 => mKg M K G
  | n + 1 => if mIs M n 1 = 0 then mKk M K G n else M
theorem hd_X2_digest : yX2_digest.cls = RX2 ∧ yX2_digest.cls ≠ "java/lang/invoke/MethodHandle" ∧ yX2_digest.cls ≠ "java/lang/invoke/VarHandle" ∧ (parseMethodDescriptor yX2_digest.desc).map (fun d => d.parameters.length) = some 0 := by decide +kernel
set_option maxHeartbeats 400000 in
set_option maxRecDepth 100000 in
theorem ct_X2_digest (l : Launch) (D : va_G) (cI : ClassId) (t : Nat) (q : Nat → Nat) (M K : SS) (N : Nat) (hN : M 12 2 = nI N) (hN12 : N ≤ 12) (G : Nat) (hG : M 12 1 = nI G) (hG4 : G ≤ 4) (ht : ∀ (X : SS) (g : Nat), mOpN X g N < 13) (hu : ∀ k, k < N → mUnN (up2 M 12 0 0) G N k < 61) : Ct l D [(cI, .int)] yX2_digest wsX2_digest 10 226 17 128 [.ref t] (mw cI t q M K) (some (.long (mDk (up2 M 12 0 0) G N N))) (mw cI t q (up2 M 12 0 0) (mKk (up2 M 12 0 0) K G N)) := by
  refine Ct.ofW (cc := cX2_digest) (maxL := 10) (ret := (some .long)) (by decide) rfl (Nat.le_of_ble_eq_true rfl) ?_
  intro p e s m below meth c A ls hC hr hlk _ hP hD hS hK hA hl
  have hx := hC.1
  have hb := hC.2.1
  have hinX2 : ∀ w ∈ wsX20, w ∈ wsX2_digest := fun _ _h => List.mem_cons_of_mem _ (List.mem_append_right _ _h)
  have hl : lv_has ls 10 [(0, .ref t)] := hl
  refine lv_aload_n hx hb dX2_digest_0 rfl (lv_at hl 0 rfl) ?_
  refine lv_iconst (v := 0) hx hb dX2_digest_1 (by decide) ?_
  refine gt_puti (ws' := (mw cI t q (up2 M 12 0 0) K)) hC 0 2 0 1 hinX2 tyX2_ok nmX2 hK hP hD hS dX2_digest_2 rfl rfl (by decide) rfl rfl rfl rfl (Nat.le_of_ble_eq_true rfl) (mw_f0 cI t q M K 0) (fun H locs hP hD hS => ?_)
  refine lv_bipush (v := 8) hx hb dX2_digest_5 (by decide) ?_
  refine gn_newa hC 2 rfl hK hP hD hS hA 8 (by decide) (by decide) ⟨Nat.le_of_ble_eq_true rfl, Nat.le_of_ble_eq_true rfl⟩ dX2_digest_7 (fun a7 H hP hD hS => ?_)
  refine lv_dup hx hb dX2_digest_9 rfl ?_
  refine lv_iconst (v := 0) hx hb dX2_digest_10 (by decide) ?_
  refine lv_aload_n hx hb dX2_digest_11 rfl (lv_at hl 0 rfl) ?_
  refine gt_get hC 0 2 6 3 hinX2 hK hP dX2_digest_12 rfl rfl rfl (by decide) rfl rfl ?_
  refine lv_iconst (v := 0) hx hb dX2_digest_15 (by decide) ?_
  refine gt_ald hC 4 0 0 hK hP dX2_digest_16 rfl rfl (by decide) (by decide) (Nat.le_of_ble_eq_true rfl) ?_
  refine gt_ast (ws' := ((mw cI t q (up2 M 12 0 0) K) ++ [(a7, .inl (cI, 8, .inl (upd (fun _ => 0) 0 (M 8 0))))])) hC 6 0 0 hK hP hD hS dX2_digest_17 rfl rfl (by decide) (by decide) (Nat.le_of_ble_eq_true rfl) rfl (fun H locs hP hD hS => ?_)
  refine lv_dup hx hb dX2_digest_18 rfl ?_
  refine lv_iconst (v := 1) hx hb dX2_digest_19 (by decide) ?_
  refine lv_aload_n hx hb dX2_digest_20 rfl (lv_at hl 0 rfl) ?_
  refine gt_get hC 0 2 1 4 hinX2 hK hP dX2_digest_21 rfl rfl rfl (by decide) rfl rfl ?_
  refine gt_ast (ws' := ((mw cI t q (up2 M 12 0 0) K) ++ [(a7, .inl (cI, 8, .inl (upd (upd (fun _ => 0) 0 (M 8 0)) 1 (M 12 1))))])) hC 6 0 1 hK hP hD hS dX2_digest_24 rfl rfl (by decide) (by decide) (Nat.le_of_ble_eq_true rfl) rfl (fun H locs hP hD hS => ?_)
  refine lv_dup hx hb dX2_digest_25 rfl ?_
  refine lv_iconst (v := 2) hx hb dX2_digest_26 (by decide) ?_
  refine lv_aload_n hx hb dX2_digest_27 rfl (lv_at hl 0 rfl) ?_
  refine gt_get hC 0 2 2 5 hinX2 hK hP dX2_digest_28 rfl rfl rfl (by decide) rfl rfl ?_
  refine gt_ast (ws' := ((mw cI t q (up2 M 12 0 0) K) ++ [(a7, .inl (cI, 8, .inl (upd (upd (upd (fun _ => 0) 0 (M 8 0)) 1 (M 12 1)) 2 (M 12 2))))])) hC 6 0 2 hK hP hD hS dX2_digest_31 rfl rfl (by decide) (by decide) (Nat.le_of_ble_eq_true rfl) rfl (fun H locs hP hD hS => ?_)
  refine lv_dup hx hb dX2_digest_32 rfl ?_
  refine lv_iconst (v := 3) hx hb dX2_digest_33 (by decide) ?_
  refine lv_aload_n hx hb dX2_digest_34 rfl (lv_at hl 0 rfl) ?_
  refine lv_iconst (v := 1) hx hb dX2_digest_35 (by decide) ?_
  refine gt_callV (ws' := ((mw cI t q (up2 M 12 0 0) K) ++ [(a7, .inl (cI, 8, .inl (upd (upd (upd (fun _ => 0) 0 (M 8 0)) 1 (M 12 1)) 2 (M 12 2))))])) hC [] [(a7, .inl (cI, 8, .inl (upd (upd (upd (fun _ => 0) 0 (M 8 0)) 1 (M 12 1)) 2 (M 12 2))))] 0 2 1 (ct_X2_many l D cI t q (up2 M 12 0 0) K 1 N hN hN12) gX2_digest_X2_many dX2_digest_36 hK hP hD hS hA hl.1 rfl hd_X2_many ⟨Nat.le_of_ble_eq_true rfl, Nat.le_of_ble_eq_true rfl⟩ ⟨Nat.le_of_ble_eq_true rfl, Nat.le_of_ble_eq_true rfl⟩ rfl rfl rfl rfl rfl rfl (Nat.le_of_ble_eq_true rfl) (fun H locs hP hD hS => ?_)
  refine gt_ast (ws' := ((mw cI t q (up2 M 12 0 0) K) ++ [(a7, .inl (cI, 8, .inl (upd (upd (upd (upd (fun _ => 0) 0 (M 8 0)) 1 (M 12 1)) 2 (M 12 2)) 3 (mMany (up2 M 12 0 0) 1 N))))])) hC 6 0 3 hK hP hD hS dX2_digest_39 rfl rfl (by decide) (by decide) (Nat.le_of_ble_eq_true rfl) rfl (fun H locs hP hD hS => ?_)
  refine lv_dup hx hb dX2_digest_40 rfl ?_
  refine lv_iconst (v := 4) hx hb dX2_digest_41 (by decide) ?_
  refine lv_aload_n hx hb dX2_digest_42 rfl (lv_at hl 0 rfl) ?_
  refine lv_iconst (v := 2) hx hb dX2_digest_43 (by decide) ?_
  refine gt_callV (ws' := ((mw cI t q (up2 M 12 0 0) K) ++ [(a7, .inl (cI, 8, .inl (upd (upd (upd (upd (fun _ => 0) 0 (M 8 0)) 1 (M 12 1)) 2 (M 12 2)) 3 (mMany (up2 M 12 0 0) 1 N))))])) hC [] [(a7, .inl (cI, 8, .inl (upd (upd (upd (upd (fun _ => 0) 0 (M 8 0)) 1 (M 12 1)) 2 (M 12 2)) 3 (mMany (up2 M 12 0 0) 1 N))))] 0 2 1 (ct_X2_many l D cI t q (up2 M 12 0 0) K 2 N hN hN12) gX2_digest_X2_many dX2_digest_44 hK hP hD hS hA hl.1 rfl hd_X2_many ⟨Nat.le_of_ble_eq_true rfl, Nat.le_of_ble_eq_true rfl⟩ ⟨Nat.le_of_ble_eq_true rfl, Nat.le_of_ble_eq_true rfl⟩ rfl rfl rfl rfl rfl rfl (Nat.le_of_ble_eq_true rfl) (fun H locs hP hD hS => ?_)
  refine gt_ast (ws' := ((mw cI t q (up2 M 12 0 0) K) ++ [(a7, .inl (cI, 8, .inl (upd (upd (upd (upd (upd (fun _ => 0) 0 (M 8 0)) 1 (M 12 1)) 2 (M 12 2)) 3 (mMany (up2 M 12 0 0) 1 N)) 4 (mMany (up2 M 12 0 0) 2 N))))])) hC 6 0 4 hK hP hD hS dX2_digest_47 rfl rfl (by decide) (by decide) (Nat.le_of_ble_eq_true rfl) rfl (fun H locs hP hD hS => ?_)
  refine lv_dup hx hb dX2_digest_48 rfl ?_
  refine lv_iconst (v := 5) hx hb dX2_digest_49 (by decide) ?_
  refine lv_aload_n hx hb dX2_digest_50 rfl (lv_at hl 0 rfl) ?_
  refine gt_callV (ws' := ((mw cI t q (up2 M 12 0 0) K) ++ [(a7, .inl (cI, 8, .inl (upd (upd (upd (upd (upd (fun _ => 0) 0 (M 8 0)) 1 (M 12 1)) 2 (M 12 2)) 3 (mMany (up2 M 12 0 0) 1 N)) 4 (mMany (up2 M 12 0 0) 2 N))))])) hC [] [(a7, .inl (cI, 8, .inl (upd (upd (upd (upd (upd (fun _ => 0) 0 (M 8 0)) 1 (M 12 1)) 2 (M 12 2)) 3 (mMany (up2 M 12 0 0) 1 N)) 4 (mMany (up2 M 12 0 0) 2 N))))] 0 2 0 (ct_X2_starved l D cI t q (up2 M 12 0 0) K N hN hN12) gX2_digest_X2_starved dX2_digest_51 hK hP hD hS hA hl.1 rfl hd_X2_starved ⟨Nat.le_of_ble_eq_true rfl, Nat.le_of_ble_eq_true rfl⟩ ⟨Nat.le_of_ble_eq_true rfl, Nat.le_of_ble_eq_true rfl⟩ rfl rfl rfl rfl rfl rfl (Nat.le_of_ble_eq_true rfl) (fun H locs hP hD hS => ?_)
  refine gt_ast (ws' := ((mw cI t q (up2 M 12 0 0) K) ++ [(a7, .inl (cI, 8, .inl (upd (upd (upd (upd (upd (upd (fun _ => 0) 0 (M 8 0)) 1 (M 12 1)) 2 (M 12 2)) 3 (mMany (up2 M 12 0 0) 1 N)) 4 (mMany (up2 M 12 0 0) 2 N)) 5 (mStv (up2 M 12 0 0) N))))])) hC 6 0 5 hK hP hD hS dX2_digest_54 rfl rfl (by decide) (by decide) (Nat.le_of_ble_eq_true rfl) rfl (fun H locs hP hD hS => ?_)
  refine lv_dup hx hb dX2_digest_55 rfl ?_
  refine lv_bipush (v := 6) hx hb dX2_digest_56 (by decide) ?_
  refine lv_aload_n hx hb dX2_digest_58 rfl (lv_at hl 0 rfl) ?_
  refine gt_get hC 0 2 6 3 hinX2 hK hP dX2_digest_59 rfl rfl rfl (by decide) rfl rfl ?_
  refine lv_iconst (v := 1) hx hb dX2_digest_62 (by decide) ?_
  refine gt_ald hC 4 0 1 hK hP dX2_digest_63 rfl rfl (by decide) (by decide) (Nat.le_of_ble_eq_true rfl) ?_
  refine gt_ast (ws' := ((mw cI t q (up2 M 12 0 0) K) ++ [(a7, .inl (cI, 8, .inl (upd (upd (upd (upd (upd (upd (upd (fun _ => 0) 0 (M 8 0)) 1 (M 12 1)) 2 (M 12 2)) 3 (mMany (up2 M 12 0 0) 1 N)) 4 (mMany (up2 M 12 0 0) 2 N)) 5 (mStv (up2 M 12 0 0) N)) 6 (M 8 1))))])) hC 6 0 6 hK hP hD hS dX2_digest_64 rfl rfl (by decide) (by decide) (Nat.le_of_ble_eq_true rfl) rfl (fun H locs hP hD hS => ?_)
  refine lv_dup hx hb dX2_digest_65 rfl ?_
  refine lv_bipush (v := 7) hx hb dX2_digest_66 (by decide) ?_
  refine lv_aload_n hx hb dX2_digest_68 rfl (lv_at hl 0 rfl) ?_
  refine gt_get hC 0 2 6 3 hinX2 hK hP dX2_digest_69 rfl rfl rfl (by decide) rfl rfl ?_
  refine lv_iconst (v := 2) hx hb dX2_digest_72 (by decide) ?_
  refine gt_ald hC 4 0 2 hK hP dX2_digest_73 rfl rfl (by decide) (by decide) (Nat.le_of_ble_eq_true rfl) ?_
  refine gt_ast (ws' := ((mw cI t q (up2 M 12 0 0) K) ++ [(a7, .inl (cI, 8, .inl (upd (upd (upd (upd (upd (upd (upd (upd (fun _ => 0) 0 (M 8 0)) 1 (M 12 1)) 2 (M 12 2)) 3 (mMany (up2 M 12 0 0) 1 N)) 4 (mMany (up2 M 12 0 0) 2 N)) 5 (mStv (up2 M 12 0 0) N)) 6 (M 8 1)) 7 (M 8 2))))])) hC 6 0 7 hK hP hD hS dX2_digest_74 rfl rfl (by decide) (by decide) (Nat.le_of_ble_eq_true rfl) rfl (fun H locs hP hD hS => ?_)
  refine lv_astore_n (lv' := [(1, .ref a7), (0, .ref t)]) hx hb dX2_digest_75 rfl hl (by decide) rfl (fun ls hl => ?_)
  refine lv_ldc2 (v := 2161) hx hb hC.2.2.2.1 (hC.2.2.2.2 _ (List.mem_of_getElem? (i := 6) rfl)) dX2_digest_76 ?_
  refine lv_lstore_n (lv' := [(2, .long 2161), (1, .ref a7), (0, .ref t)]) hx hb dX2_digest_79 rfl hl (by decide) rfl (fun ls hl => ?_)
  refine lv_aload_n hx hb dX2_digest_80 rfl (lv_at hl 1 rfl) ?_
  refine lv_astore (lv' := [(4, .ref a7), (2, .long 2161), (1, .ref a7), (0, .ref t)]) hx hb dX2_digest_81 hl (by decide) rfl (fun ls hl => ?_)
  refine lv_aload hx hb dX2_digest_83 (lv_at hl 0 rfl) ?_
  refine va_alen (v := 8) hx hb hK hP 6 0 rfl rfl rfl dX2_digest_85 ?_
  refine lv_istore (lv' := [(5, .int 8), (4, .ref a7), (2, .long 2161), (1, .ref a7), (0, .ref t)]) hx hb dX2_digest_86 hl (by decide) rfl (fun ls hl => ?_)
  refine lv_iconst (v := 0) hx hb dX2_digest_88 (by decide) ?_
  refine lv_istore (lv' := [(6, .int 0), (5, .int 8), (4, .ref a7), (2, .long 2161), (1, .ref a7), (0, .ref t)]) hx hb dX2_digest_89 hl (by decide) rfl (fun ls hl => ?_)
  refine gt_loop D A s.heap 10 8 (fun j => [(6, .int (nI j)), (2, .long (dAr (upd (upd (upd (upd (upd (upd (upd (upd (fun _ => 0) 0 (M 8 0)) 1 (M 12 1)) 2 (M 12 2)) 3 (mMany (up2 M 12 0 0) 1 N)) 4 (mMany (up2 M 12 0 0) 2 N)) 5 (mStv (up2 M 12 0 0) N)) 6 (M 8 1)) 7 (M 8 2)) 2161 j)), (4, .ref a7), (5, .int 8), (1, .ref a7), (0, .ref t)]) (fun j => ((mw cI t q (up2 M 12 0 0) K) ++ [(a7, .inl (cI, 8, .inl (upd (upd (upd (upd (upd (upd (upd (upd (fun _ => 0) 0 (M 8 0)) 1 (M 12 1)) 2 (M 12 2)) 3 (mMany (up2 M 12 0 0) 1 N)) 4 (mMany (up2 M 12 0 0) 2 N)) 5 (mStv (up2 M 12 0 0) N)) 6 (M 8 1)) 7 (M 8 2))))])) (lv_sub hl [0, 3, 2, 1, 4, 5] rfl) hP hD hS (fun j hi_j H locs ls hP hD hS hl K1 => ?_) (fun H locs ls hP hD hS hl => ?_)
  · skip
    refine lv_iload hx hb dX2_digest_91 (lv_at hl 0 rfl) ?_
    refine lv_iload hx hb dX2_digest_93 (lv_at hl 3 rfl) ?_
    refine gt_ge_f (tgt := 121) hC j 8 dX2_digest_95 (by decide) rfl (by decide) hi_j (by decide) ?_
    refine lv_aload hx hb dX2_digest_98 (lv_at hl 2 rfl) ?_
    refine lv_iload hx hb dX2_digest_100 (lv_at hl 0 rfl) ?_
    refine gt_ald hC 6 0 j hK hP dX2_digest_102 rfl rfl rfl (by omega) (Nat.le_of_ble_eq_true rfl) ?_
    refine lv_istore (lv' := [(7, .int ((upd (upd (upd (upd (upd (upd (upd (upd (fun _ => 0) 0 (M 8 0)) 1 (M 12 1)) 2 (M 12 2)) 3 (mMany (up2 M 12 0 0) 1 N)) 4 (mMany (up2 M 12 0 0) 2 N)) 5 (mStv (up2 M 12 0 0) N)) 6 (M 8 1)) 7 (M 8 2)) j)), (6, .int (nI j)), (2, .long (dAr (upd (upd (upd (upd (upd (upd (upd (upd (fun _ => 0) 0 (M 8 0)) 1 (M 12 1)) 2 (M 12 2)) 3 (mMany (up2 M 12 0 0) 1 N)) 4 (mMany (up2 M 12 0 0) 2 N)) 5 (mStv (up2 M 12 0 0) N)) 6 (M 8 1)) 7 (M 8 2)) 2161 j)), (4, .ref a7), (5, .int 8), (1, .ref a7), (0, .ref t)]) hx hb dX2_digest_103 hl (by decide) rfl (fun ls hl => ?_)
    refine lv_lload_n hx hb dX2_digest_105 rfl (lv_at hl 2 rfl) ?_
    refine lv_ldc2 (v := 31) hx hb hC.2.2.2.1 (hC.2.2.2.2 _ (List.mem_of_getElem? (i := 7) rfl)) dX2_digest_106 ?_
    refine lv_lmul hx hb dX2_digest_109 ?_
    refine lv_iload hx hb dX2_digest_110 (lv_at hl 0 rfl) ?_
    refine lv_i2l hx hb dX2_digest_112 rfl ?_
    refine lv_ladd hx hb dX2_digest_113 ?_
    refine lv_lstore_n (lv' := [(2, .long (((dAr (upd (upd (upd (upd (upd (upd (upd (upd (fun _ => 0) 0 (M 8 0)) 1 (M 12 1)) 2 (M 12 2)) 3 (mMany (up2 M 12 0 0) 1 N)) 4 (mMany (up2 M 12 0 0) 2 N)) 5 (mStv (up2 M 12 0 0) N)) 6 (M 8 1)) 7 (M 8 2)) 2161 j) * 31) + (Int32.toInt64 ((upd (upd (upd (upd (upd (upd (upd (upd (fun _ => 0) 0 (M 8 0)) 1 (M 12 1)) 2 (M 12 2)) 3 (mMany (up2 M 12 0 0) 1 N)) 4 (mMany (up2 M 12 0 0) 2 N)) 5 (mStv (up2 M 12 0 0) N)) 6 (M 8 1)) 7 (M 8 2)) j)))), (7, .int ((upd (upd (upd (upd (upd (upd (upd (upd (fun _ => 0) 0 (M 8 0)) 1 (M 12 1)) 2 (M 12 2)) 3 (mMany (up2 M 12 0 0) 1 N)) 4 (mMany (up2 M 12 0 0) 2 N)) 5 (mStv (up2 M 12 0 0) N)) 6 (M 8 1)) 7 (M 8 2)) j)), (6, .int (nI j)), (4, .ref a7), (5, .int 8), (1, .ref a7), (0, .ref t)]) hx hb dX2_digest_114 rfl hl (by decide) rfl (fun ls hl => ?_)
    refine gt_inc (lv' := [(6, .int (nI (j + 1))), (2, .long (((dAr (upd (upd (upd (upd (upd (upd (upd (upd (fun _ => 0) 0 (M 8 0)) 1 (M 12 1)) 2 (M 12 2)) 3 (mMany (up2 M 12 0 0) 1 N)) 4 (mMany (up2 M 12 0 0) 2 N)) 5 (mStv (up2 M 12 0 0) N)) 6 (M 8 1)) 7 (M 8 2)) 2161 j) * 31) + (Int32.toInt64 ((upd (upd (upd (upd (upd (upd (upd (upd (fun _ => 0) 0 (M 8 0)) 1 (M 12 1)) 2 (M 12 2)) 3 (mMany (up2 M 12 0 0) 1 N)) 4 (mMany (up2 M 12 0 0) 2 N)) 5 (mStv (up2 M 12 0 0) N)) 6 (M 8 1)) 7 (M 8 2)) j)))), (7, .int ((upd (upd (upd (upd (upd (upd (upd (upd (fun _ => 0) 0 (M 8 0)) 1 (M 12 1)) 2 (M 12 2)) 3 (mMany (up2 M 12 0 0) 1 N)) 4 (mMany (up2 M 12 0 0) 2 N)) 5 (mStv (up2 M 12 0 0) N)) 6 (M 8 1)) 7 (M 8 2)) j)), (4, .ref a7), (5, .int 8), (1, .ref a7), (0, .ref t)]) hC 2 j dX2_digest_115 hl rfl rfl (by decide) rfl (fun ls hl => ?_)
    refine lv_goto (tgt := 91) hx hb dX2_digest_118 (by decide) ?_
    have hl9 : lv_has ls 10 [(6, .int (nI (j + 1))), (2, .long (((dAr (upd (upd (upd (upd (upd (upd (upd (upd (fun _ => 0) 0 (M 8 0)) 1 (M 12 1)) 2 (M 12 2)) 3 (mMany (up2 M 12 0 0) 1 N)) 4 (mMany (up2 M 12 0 0) 2 N)) 5 (mStv (up2 M 12 0 0) N)) 6 (M 8 1)) 7 (M 8 2)) 2161 j) * 31) + (Int32.toInt64 ((upd (upd (upd (upd (upd (upd (upd (upd (fun _ => 0) 0 (M 8 0)) 1 (M 12 1)) 2 (M 12 2)) 3 (mMany (up2 M 12 0 0) 1 N)) 4 (mMany (up2 M 12 0 0) 2 N)) 5 (mStv (up2 M 12 0 0) N)) 6 (M 8 1)) 7 (M 8 2)) j)))), (4, .ref a7), (5, .int 8), (1, .ref a7), (0, .ref t)] := lv_sub hl [0, 1, 3, 4, 5, 6] rfl
    rw [show .long (((dAr (upd (upd (upd (upd (upd (upd (upd (upd (fun _ => 0) 0 (M 8 0)) 1 (M 12 1)) 2 (M 12 2)) 3 (mMany (up2 M 12 0 0) 1 N)) 4 (mMany (up2 M 12 0 0) 2 N)) 5 (mStv (up2 M 12 0 0) N)) 6 (M 8 1)) 7 (M 8 2)) 2161 j) * 31) + (Int32.toInt64 ((upd (upd (upd (upd (upd (upd (upd (upd (fun _ => 0) 0 (M 8 0)) 1 (M 12 1)) 2 (M 12 2)) 3 (mMany (up2 M 12 0 0) 1 N)) 4 (mMany (up2 M 12 0 0) 2 N)) 5 (mStv (up2 M 12 0 0) N)) 6 (M 8 1)) 7 (M 8 2)) j))) = (Value.long (dAr (upd (upd (upd (upd (upd (upd (upd (upd (fun _ => 0) 0 (M 8 0)) 1 (M 12 1)) 2 (M 12 2)) 3 (mMany (up2 M 12 0 0) 1 N)) 4 (mMany (up2 M 12 0 0) 2 N)) 5 (mStv (up2 M 12 0 0) N)) 6 (M 8 1)) 7 (M 8 2)) 2161 (j + 1))) from congrArg _ (rfl)] at hl9
    exact K1 H locs ls hP hD hS hl9
  · skip
    refine lv_iload hx hb dX2_digest_91 (lv_at hl 0 rfl) ?_
    refine lv_iload hx hb dX2_digest_93 (lv_at hl 3 rfl) ?_
    refine gt_ge_t (tgt := 121) hC 8 8 dX2_digest_95 (by decide) rfl (by decide) (Nat.le_refl _) (by decide) ?_
    have hP : va_P D vwCl (mw cI t q (up2 M 12 0 0) K) H := gt_Pm.mpr (fun z hz => gt_Pm.mp hP z (List.mem_append_left _ hz))
    have hD : va_D A (mw cI t q (up2 M 12 0 0) K) := gt_Ddrop hD
    refine lv_iconst (v := 0) hx hb dX2_digest_121 (by decide) ?_
    refine lv_istore (lv' := [(4, .int 0), (6, .int (nI 8)), (2, .long (dAr (upd (upd (upd (upd (upd (upd (upd (upd (fun _ => 0) 0 (M 8 0)) 1 (M 12 1)) 2 (M 12 2)) 3 (mMany (up2 M 12 0 0) 1 N)) 4 (mMany (up2 M 12 0 0) 2 N)) 5 (mStv (up2 M 12 0 0) N)) 6 (M 8 1)) 7 (M 8 2)) 2161 8)), (5, .int 8), (1, .ref a7), (0, .ref t)]) hx hb dX2_digest_122 hl (by decide) rfl (fun ls hl => ?_)
    refine gt_loopC D A s.heap 10 G 1 8 1 6 (fun n => [(4, .int (nI n)), (2, .long (mDg (up2 M 12 0 0) G N n)), (0, .ref t)]) (fun n => (mw cI t q (up2 M 12 0 0) (mKg (up2 M 12 0 0) K n))) (lv_sub hl [0, 2, 5] rfl) hP hD hS (by omega) (by omega) (fun n hi_n H locs ls hP hD hS hl K2 => ?_) (fun H locs ls hP hD hS hl => ?_)
    · skip
      refine lv_iload hx hb dX2_digest_124 (lv_at hl 0 rfl) ?_
      refine lv_aload_n hx hb dX2_digest_126 rfl (lv_at hl 2 rfl) ?_
      refine gt_get hC 0 2 1 4 hinX2 hK hP dX2_digest_127 rfl rfl rfl (by decide) rfl rfl ?_
      refine gt_ge_f (tgt := 242) hC n G dX2_digest_130 (by decide) rfl hG hi_n (by omega) ?_
      refine lv_bipush (v := 6) hx hb dX2_digest_133 (by decide) ?_
      refine gn_newa hC 2 rfl hK hP hD hS hA 6 (by decide) (by decide) (by show _ ≤ 17 ∧ _ ≤ 128; omega) dX2_digest_135 (fun a135 H hP hD hS => ?_)
      refine lv_dup hx hb dX2_digest_137 rfl ?_
      refine lv_iconst (v := 0) hx hb dX2_digest_138 (by decide) ?_
      refine lv_aload_n hx hb dX2_digest_139 rfl (lv_at hl 2 rfl) ?_
      refine gt_get hC 0 2 3 8 hinX2 hK hP dX2_digest_140 rfl rfl rfl (by decide) rfl rfl ?_
      refine lv_iload hx hb dX2_digest_143 (lv_at hl 0 rfl) ?_
      refine gt_ald hC 1 0 n hK hP dX2_digest_145 rfl rfl rfl (by omega) (Nat.le_of_ble_eq_true rfl) ?_
      refine gt_ast (ws' := ((mw cI t q (up2 M 12 0 0) (mKg (up2 M 12 0 0) K n)) ++ [(a135, .inl (cI, 6, .inl (upd (fun _ => 0) 0 (M 9 n))))])) hC 6 0 0 hK hP hD hS dX2_digest_146 rfl rfl (by decide) (by decide) (Nat.le_of_ble_eq_true rfl) rfl (fun H locs hP hD hS => ?_)
      refine lv_dup hx hb dX2_digest_147 rfl ?_
      refine lv_iconst (v := 1) hx hb dX2_digest_148 (by decide) ?_
      refine lv_aload_n hx hb dX2_digest_149 rfl (lv_at hl 2 rfl) ?_
      refine lv_iload hx hb dX2_digest_150 (lv_at hl 0 rfl) ?_
      refine gt_callV (ws' := ((mw cI t q (up2 M 12 0 0) (mKg (up2 M 12 0 0) K n)) ++ [(a135, .inl (cI, 6, .inl (upd (fun _ => 0) 0 (M 9 n))))])) hC [] [(a135, .inl (cI, 6, .inl (upd (fun _ => 0) 0 (M 9 n))))] 0 2 1 (ct_X2_free l D cI t q (up2 M 12 0 0) (mKg (up2 M 12 0 0) K n) n (by omega) N hN hN12) gX2_digest_X2_free dX2_digest_152 hK hP hD hS hA hl.1 rfl hd_X2_free ⟨Nat.le_of_ble_eq_true rfl, Nat.le_of_ble_eq_true rfl⟩ (by show _ ≤ 17 ∧ _ ≤ 128; omega) rfl rfl rfl rfl rfl rfl (Nat.le_of_ble_eq_true rfl) (fun H locs hP hD hS => ?_)
      refine gt_ast (ws' := ((mw cI t q (up2 M 12 0 0) (mKg (up2 M 12 0 0) K n)) ++ [(a135, .inl (cI, 6, .inl (upd (upd (fun _ => 0) 0 (M 9 n)) 1 (mFree (up2 M 12 0 0) n N))))])) hC 6 0 1 hK hP hD hS dX2_digest_155 rfl rfl (by decide) (by decide) (Nat.le_of_ble_eq_true rfl) rfl (fun H locs hP hD hS => ?_)
      refine lv_dup hx hb dX2_digest_156 rfl ?_
      refine lv_iconst (v := 2) hx hb dX2_digest_157 (by decide) ?_
      refine lv_aload_n hx hb dX2_digest_158 rfl (lv_at hl 2 rfl) ?_
      refine lv_iload hx hb dX2_digest_159 (lv_at hl 0 rfl) ?_
      refine gt_callV (ws' := ((mw cI t q (up2 M 12 0 0) (mKg (up2 M 12 0 0) K n)) ++ [(a135, .inl (cI, 6, .inl (upd (upd (fun _ => 0) 0 (M 9 n)) 1 (mFree (up2 M 12 0 0) n N))))])) hC [] [(a135, .inl (cI, 6, .inl (upd (upd (fun _ => 0) 0 (M 9 n)) 1 (mFree (up2 M 12 0 0) n N))))] 0 2 1 (ct_X2_manyAt l D cI t q (up2 M 12 0 0) (mKg (up2 M 12 0 0) K n) (nI n) N hN hN12) gX2_digest_X2_manyAt dX2_digest_161 hK hP hD hS hA hl.1 rfl hd_X2_manyAt ⟨Nat.le_of_ble_eq_true rfl, Nat.le_of_ble_eq_true rfl⟩ (by show _ ≤ 17 ∧ _ ≤ 128; omega) rfl rfl rfl rfl rfl rfl (Nat.le_of_ble_eq_true rfl) (fun H locs hP hD hS => ?_)
      refine gt_ast (ws' := ((mw cI t q (up2 M 12 0 0) (mKg (up2 M 12 0 0) K n)) ++ [(a135, .inl (cI, 6, .inl (upd (upd (upd (fun _ => 0) 0 (M 9 n)) 1 (mFree (up2 M 12 0 0) n N)) 2 (mMat (up2 M 12 0 0) (nI n) N))))])) hC 6 0 2 hK hP hD hS dX2_digest_164 rfl rfl (by decide) (by decide) (Nat.le_of_ble_eq_true rfl) rfl (fun H locs hP hD hS => ?_)
      refine lv_dup hx hb dX2_digest_165 rfl ?_
      refine lv_iconst (v := 3) hx hb dX2_digest_166 (by decide) ?_
      refine lv_aload_n hx hb dX2_digest_167 rfl (lv_at hl 2 rfl) ?_
      refine lv_iload hx hb dX2_digest_168 (lv_at hl 0 rfl) ?_
      refine gt_callV (ws' := ((mw cI t q (up2 M 12 0 0) (mKg (up2 M 12 0 0) K n)) ++ [(a135, .inl (cI, 6, .inl (upd (upd (upd (fun _ => 0) 0 (M 9 n)) 1 (mFree (up2 M 12 0 0) n N)) 2 (mMat (up2 M 12 0 0) (nI n) N))))])) hC [] [(a135, .inl (cI, 6, .inl (upd (upd (upd (fun _ => 0) 0 (M 9 n)) 1 (mFree (up2 M 12 0 0) n N)) 2 (mMat (up2 M 12 0 0) (nI n) N))))] 0 2 1 (ct_X2_next l D cI t q (up2 M 12 0 0) (mKg (up2 M 12 0 0) K n) n (by omega) N hN hN12) gX2_digest_X2_next dX2_digest_170 hK hP hD hS hA hl.1 rfl hd_X2_next ⟨Nat.le_of_ble_eq_true rfl, Nat.le_of_ble_eq_true rfl⟩ (by show _ ≤ 17 ∧ _ ≤ 128; omega) rfl rfl rfl rfl rfl rfl (Nat.le_of_ble_eq_true rfl) (fun H locs hP hD hS => ?_)
      refine gt_ast (ws' := ((mw cI t q (up2 M 12 0 0) (mKg (up2 M 12 0 0) K n)) ++ [(a135, .inl (cI, 6, .inl (upd (upd (upd (upd (fun _ => 0) 0 (M 9 n)) 1 (mFree (up2 M 12 0 0) n N)) 2 (mMat (up2 M 12 0 0) (nI n) N)) 3 (mNx (up2 M 12 0 0) n N))))])) hC 6 0 3 hK hP hD hS dX2_digest_173 rfl rfl (by decide) (by decide) (Nat.le_of_ble_eq_true rfl) rfl (fun H locs hP hD hS => ?_)
      refine lv_dup hx hb dX2_digest_174 rfl ?_
      refine lv_iconst (v := 4) hx hb dX2_digest_175 (by decide) ?_
      refine lv_aload_n hx hb dX2_digest_176 rfl (lv_at hl 2 rfl) ?_
      refine lv_iload hx hb dX2_digest_177 (lv_at hl 0 rfl) ?_
      refine gt_callV (ws' := ((mw cI t q (up2 M 12 0 0) (mWk (up2 M 12 0 0) (mKg (up2 M 12 0 0) K n) n (mWn (up2 M 12 0 0) G N n))) ++ [(a135, .inl (cI, 6, .inl (upd (upd (upd (upd (fun _ => 0) 0 (M 9 n)) 1 (mFree (up2 M 12 0 0) n N)) 2 (mMat (up2 M 12 0 0) (nI n) N)) 3 (mNx (up2 M 12 0 0) n N))))])) hC [] [(a135, .inl (cI, 6, .inl (upd (upd (upd (upd (fun _ => 0) 0 (M 9 n)) 1 (mFree (up2 M 12 0 0) n N)) 2 (mMat (up2 M 12 0 0) (nI n) N)) 3 (mNx (up2 M 12 0 0) n N))))] 0 2 1 (ct_X2_wanted l D cI t q (up2 M 12 0 0) (mKg (up2 M 12 0 0) K n) n (by omega) N hN hN12 G hG hG4 ht) gX2_digest_X2_wanted dX2_digest_179 hK hP hD hS hA hl.1 rfl hd_X2_wanted ⟨Nat.le_of_ble_eq_true rfl, Nat.le_of_ble_eq_true rfl⟩ (by show _ ≤ 17 ∧ _ ≤ 128; omega) rfl rfl rfl rfl rfl rfl (Nat.le_of_ble_eq_true rfl) (fun H locs hP hD hS => ?_)
      refine gt_ast (ws' := ((mw cI t q (up2 M 12 0 0) (mWk (up2 M 12 0 0) (mKg (up2 M 12 0 0) K n) n (mWn (up2 M 12 0 0) G N n))) ++ [(a135, .inl (cI, 6, .inl (upd (upd (upd (upd (upd (fun _ => 0) 0 (M 9 n)) 1 (mFree (up2 M 12 0 0) n N)) 2 (mMat (up2 M 12 0 0) (nI n) N)) 3 (mNx (up2 M 12 0 0) n N)) 4 (mWan (up2 M 12 0 0) G N n))))])) hC 6 0 4 hK hP hD hS dX2_digest_182 rfl rfl (by decide) (by decide) (Nat.le_of_ble_eq_true rfl) rfl (fun H locs hP hD hS => ?_)
      refine lv_dup hx hb dX2_digest_183 rfl ?_
      refine lv_iconst (v := 5) hx hb dX2_digest_184 (by decide) ?_
      refine lv_aload_n hx hb dX2_digest_185 rfl (lv_at hl 2 rfl) ?_
      refine lv_iload hx hb dX2_digest_186 (lv_at hl 0 rfl) ?_
      refine gt_callV (ws' := ((mw cI t q (up2 M 12 0 0) (up2 (up2 M 12 0 0) 10 n 0)) ++ [(a135, .inl (cI, 6, .inl (upd (upd (upd (upd (upd (fun _ => 0) 0 (M 9 n)) 1 (mFree (up2 M 12 0 0) n N)) 2 (mMat (up2 M 12 0 0) (nI n) N)) 3 (mNx (up2 M 12 0 0) n N)) 4 (mWan (up2 M 12 0 0) G N n))))])) hC [] [(a135, .inl (cI, 6, .inl (upd (upd (upd (upd (upd (fun _ => 0) 0 (M 9 n)) 1 (mFree (up2 M 12 0 0) n N)) 2 (mMat (up2 M 12 0 0) (nI n) N)) 3 (mNx (up2 M 12 0 0) n N)) 4 (mWan (up2 M 12 0 0) G N n))))] 0 2 1 (ct_X2_better l D cI t q (up2 M 12 0 0) (mWk (up2 M 12 0 0) (mKg (up2 M 12 0 0) K n) n (mWn (up2 M 12 0 0) G N n)) n (by omega) N hN hN12 G hG hG4 ht) gX2_digest_X2_better dX2_digest_188 hK hP hD hS hA hl.1 rfl hd_X2_better ⟨Nat.le_of_ble_eq_true rfl, Nat.le_of_ble_eq_true rfl⟩ (by show _ ≤ 17 ∧ _ ≤ 128; omega) rfl rfl rfl rfl rfl rfl (Nat.le_of_ble_eq_true rfl) (fun H locs hP hD hS => ?_)
      refine gt_ast (ws' := ((mw cI t q (up2 M 12 0 0) (up2 (up2 M 12 0 0) 10 n 0)) ++ [(a135, .inl (cI, 6, .inl (upd (upd (upd (upd (upd (upd (fun _ => 0) 0 (M 9 n)) 1 (mFree (up2 M 12 0 0) n N)) 2 (mMat (up2 M 12 0 0) (nI n) N)) 3 (mNx (up2 M 12 0 0) n N)) 4 (mWan (up2 M 12 0 0) G N n)) 5 (mBet (up2 M 12 0 0) G N n))))])) hC 6 0 5 hK hP hD hS dX2_digest_191 rfl rfl (by decide) (by decide) (Nat.le_of_ble_eq_true rfl) rfl (fun H locs hP hD hS => ?_)
      refine lv_astore (lv' := [(5, .ref a135), (4, .int (nI n)), (2, .long (mDg (up2 M 12 0 0) G N n)), (0, .ref t)]) hx hb dX2_digest_192 hl (by decide) rfl (fun ls hl => ?_)
      refine lv_aload hx hb dX2_digest_194 (lv_at hl 0 rfl) ?_
      refine lv_astore (lv' := [(6, .ref a135), (5, .ref a135), (4, .int (nI n)), (2, .long (mDg (up2 M 12 0 0) G N n)), (0, .ref t)]) hx hb dX2_digest_196 hl (by decide) rfl (fun ls hl => ?_)
      refine lv_aload hx hb dX2_digest_198 (lv_at hl 0 rfl) ?_
      refine va_alen (v := 6) hx hb hK hP 6 0 rfl rfl rfl dX2_digest_200 ?_
      refine lv_istore (lv' := [(7, .int 6), (6, .ref a135), (5, .ref a135), (4, .int (nI n)), (2, .long (mDg (up2 M 12 0 0) G N n)), (0, .ref t)]) hx hb dX2_digest_201 hl (by decide) rfl (fun ls hl => ?_)
      refine lv_iconst (v := 0) hx hb dX2_digest_203 (by decide) ?_
      refine lv_istore (lv' := [(8, .int 0), (7, .int 6), (6, .ref a135), (5, .ref a135), (4, .int (nI n)), (2, .long (mDg (up2 M 12 0 0) G N n)), (0, .ref t)]) hx hb dX2_digest_204 hl (by decide) rfl (fun ls hl => ?_)
      refine gt_loop D A s.heap 10 6 (fun j => [(8, .int (nI j)), (2, .long (dAr (upd (upd (upd (upd (upd (upd (fun _ => 0) 0 (M 9 n)) 1 (mFree (up2 M 12 0 0) n N)) 2 (mMat (up2 M 12 0 0) (nI n) N)) 3 (mNx (up2 M 12 0 0) n N)) 4 (mWan (up2 M 12 0 0) G N n)) 5 (mBet (up2 M 12 0 0) G N n)) (mDg (up2 M 12 0 0) G N n) j)), (6, .ref a135), (7, .int 6), (5, .ref a135), (4, .int (nI n)), (0, .ref t)]) (fun j => ((mw cI t q (up2 M 12 0 0) (up2 (up2 M 12 0 0) 10 n 0)) ++ [(a135, .inl (cI, 6, .inl (upd (upd (upd (upd (upd (upd (fun _ => 0) 0 (M 9 n)) 1 (mFree (up2 M 12 0 0) n N)) 2 (mMat (up2 M 12 0 0) (nI n) N)) 3 (mNx (up2 M 12 0 0) n N)) 4 (mWan (up2 M 12 0 0) G N n)) 5 (mBet (up2 M 12 0 0) G N n))))])) (lv_sub hl [0, 5, 2, 1, 3, 4, 6] rfl) hP hD hS (fun j hi_j H locs ls hP hD hS hl K3 => ?_) (fun H locs ls hP hD hS hl => ?_)
      · skip
        refine lv_iload hx hb dX2_digest_206 (lv_at hl 0 rfl) ?_
        refine lv_iload hx hb dX2_digest_208 (lv_at hl 3 rfl) ?_
        refine gt_ge_f (tgt := 236) hC j 6 dX2_digest_210 (by decide) rfl (by decide) hi_j (by decide) ?_
        refine lv_aload hx hb dX2_digest_213 (lv_at hl 2 rfl) ?_
        refine lv_iload hx hb dX2_digest_215 (lv_at hl 0 rfl) ?_
        refine gt_ald hC 6 0 j hK hP dX2_digest_217 rfl rfl rfl (by omega) (Nat.le_of_ble_eq_true rfl) ?_
        refine lv_istore (lv' := [(9, .int ((upd (upd (upd (upd (upd (upd (fun _ => 0) 0 (M 9 n)) 1 (mFree (up2 M 12 0 0) n N)) 2 (mMat (up2 M 12 0 0) (nI n) N)) 3 (mNx (up2 M 12 0 0) n N)) 4 (mWan (up2 M 12 0 0) G N n)) 5 (mBet (up2 M 12 0 0) G N n)) j)), (8, .int (nI j)), (2, .long (dAr (upd (upd (upd (upd (upd (upd (fun _ => 0) 0 (M 9 n)) 1 (mFree (up2 M 12 0 0) n N)) 2 (mMat (up2 M 12 0 0) (nI n) N)) 3 (mNx (up2 M 12 0 0) n N)) 4 (mWan (up2 M 12 0 0) G N n)) 5 (mBet (up2 M 12 0 0) G N n)) (mDg (up2 M 12 0 0) G N n) j)), (6, .ref a135), (7, .int 6), (5, .ref a135), (4, .int (nI n)), (0, .ref t)]) hx hb dX2_digest_218 hl (by decide) rfl (fun ls hl => ?_)
        refine lv_lload_n hx hb dX2_digest_220 rfl (lv_at hl 2 rfl) ?_
        refine lv_ldc2 (v := 31) hx hb hC.2.2.2.1 (hC.2.2.2.2 _ (List.mem_of_getElem? (i := 7) rfl)) dX2_digest_221 ?_
        refine lv_lmul hx hb dX2_digest_224 ?_
        refine lv_iload hx hb dX2_digest_225 (lv_at hl 0 rfl) ?_
        refine lv_i2l hx hb dX2_digest_227 rfl ?_
        refine lv_ladd hx hb dX2_digest_228 ?_
        refine lv_lstore_n (lv' := [(2, .long (((dAr (upd (upd (upd (upd (upd (upd (fun _ => 0) 0 (M 9 n)) 1 (mFree (up2 M 12 0 0) n N)) 2 (mMat (up2 M 12 0 0) (nI n) N)) 3 (mNx (up2 M 12 0 0) n N)) 4 (mWan (up2 M 12 0 0) G N n)) 5 (mBet (up2 M 12 0 0) G N n)) (mDg (up2 M 12 0 0) G N n) j) * 31) + (Int32.toInt64 ((upd (upd (upd (upd (upd (upd (fun _ => 0) 0 (M 9 n)) 1 (mFree (up2 M 12 0 0) n N)) 2 (mMat (up2 M 12 0 0) (nI n) N)) 3 (mNx (up2 M 12 0 0) n N)) 4 (mWan (up2 M 12 0 0) G N n)) 5 (mBet (up2 M 12 0 0) G N n)) j)))), (9, .int ((upd (upd (upd (upd (upd (upd (fun _ => 0) 0 (M 9 n)) 1 (mFree (up2 M 12 0 0) n N)) 2 (mMat (up2 M 12 0 0) (nI n) N)) 3 (mNx (up2 M 12 0 0) n N)) 4 (mWan (up2 M 12 0 0) G N n)) 5 (mBet (up2 M 12 0 0) G N n)) j)), (8, .int (nI j)), (6, .ref a135), (7, .int 6), (5, .ref a135), (4, .int (nI n)), (0, .ref t)]) hx hb dX2_digest_229 rfl hl (by decide) rfl (fun ls hl => ?_)
        refine gt_inc (lv' := [(8, .int (nI (j + 1))), (2, .long (((dAr (upd (upd (upd (upd (upd (upd (fun _ => 0) 0 (M 9 n)) 1 (mFree (up2 M 12 0 0) n N)) 2 (mMat (up2 M 12 0 0) (nI n) N)) 3 (mNx (up2 M 12 0 0) n N)) 4 (mWan (up2 M 12 0 0) G N n)) 5 (mBet (up2 M 12 0 0) G N n)) (mDg (up2 M 12 0 0) G N n) j) * 31) + (Int32.toInt64 ((upd (upd (upd (upd (upd (upd (fun _ => 0) 0 (M 9 n)) 1 (mFree (up2 M 12 0 0) n N)) 2 (mMat (up2 M 12 0 0) (nI n) N)) 3 (mNx (up2 M 12 0 0) n N)) 4 (mWan (up2 M 12 0 0) G N n)) 5 (mBet (up2 M 12 0 0) G N n)) j)))), (9, .int ((upd (upd (upd (upd (upd (upd (fun _ => 0) 0 (M 9 n)) 1 (mFree (up2 M 12 0 0) n N)) 2 (mMat (up2 M 12 0 0) (nI n) N)) 3 (mNx (up2 M 12 0 0) n N)) 4 (mWan (up2 M 12 0 0) G N n)) 5 (mBet (up2 M 12 0 0) G N n)) j)), (6, .ref a135), (7, .int 6), (5, .ref a135), (4, .int (nI n)), (0, .ref t)]) hC 2 j dX2_digest_230 hl rfl rfl (by decide) rfl (fun ls hl => ?_)
        refine lv_goto (tgt := 206) hx hb dX2_digest_233 (by decide) ?_
        have hl9 : lv_has ls 10 [(8, .int (nI (j + 1))), (2, .long (((dAr (upd (upd (upd (upd (upd (upd (fun _ => 0) 0 (M 9 n)) 1 (mFree (up2 M 12 0 0) n N)) 2 (mMat (up2 M 12 0 0) (nI n) N)) 3 (mNx (up2 M 12 0 0) n N)) 4 (mWan (up2 M 12 0 0) G N n)) 5 (mBet (up2 M 12 0 0) G N n)) (mDg (up2 M 12 0 0) G N n) j) * 31) + (Int32.toInt64 ((upd (upd (upd (upd (upd (upd (fun _ => 0) 0 (M 9 n)) 1 (mFree (up2 M 12 0 0) n N)) 2 (mMat (up2 M 12 0 0) (nI n) N)) 3 (mNx (up2 M 12 0 0) n N)) 4 (mWan (up2 M 12 0 0) G N n)) 5 (mBet (up2 M 12 0 0) G N n)) j)))), (6, .ref a135), (7, .int 6), (5, .ref a135), (4, .int (nI n)), (0, .ref t)] := lv_sub hl [0, 1, 3, 4, 5, 6, 7] rfl
        rw [show .long (((dAr (upd (upd (upd (upd (upd (upd (fun _ => 0) 0 (M 9 n)) 1 (mFree (up2 M 12 0 0) n N)) 2 (mMat (up2 M 12 0 0) (nI n) N)) 3 (mNx (up2 M 12 0 0) n N)) 4 (mWan (up2 M 12 0 0) G N n)) 5 (mBet (up2 M 12 0 0) G N n)) (mDg (up2 M 12 0 0) G N n) j) * 31) + (Int32.toInt64 ((upd (upd (upd (upd (upd (upd (fun _ => 0) 0 (M 9 n)) 1 (mFree (up2 M 12 0 0) n N)) 2 (mMat (up2 M 12 0 0) (nI n) N)) 3 (mNx (up2 M 12 0 0) n N)) 4 (mWan (up2 M 12 0 0) G N n)) 5 (mBet (up2 M 12 0 0) G N n)) j))) = (Value.long (dAr (upd (upd (upd (upd (upd (upd (fun _ => 0) 0 (M 9 n)) 1 (mFree (up2 M 12 0 0) n N)) 2 (mMat (up2 M 12 0 0) (nI n) N)) 3 (mNx (up2 M 12 0 0) n N)) 4 (mWan (up2 M 12 0 0) G N n)) 5 (mBet (up2 M 12 0 0) G N n)) (mDg (up2 M 12 0 0) G N n) (j + 1))) from congrArg _ (rfl)] at hl9
        exact K3 H locs ls hP hD hS hl9
      · skip
        refine lv_iload hx hb dX2_digest_206 (lv_at hl 0 rfl) ?_
        refine lv_iload hx hb dX2_digest_208 (lv_at hl 3 rfl) ?_
        refine gt_ge_t (tgt := 236) hC 6 6 dX2_digest_210 (by decide) rfl (by decide) (Nat.le_refl _) (by decide) ?_
        have hP : va_P D vwCl (mw cI t q (up2 M 12 0 0) (up2 (up2 M 12 0 0) 10 n 0)) H := gt_Pm.mpr (fun z hz => gt_Pm.mp hP z (List.mem_append_left _ hz))
        have hD : va_D A (mw cI t q (up2 M 12 0 0) (up2 (up2 M 12 0 0) 10 n 0)) := gt_Ddrop hD
        refine gt_inc (lv' := [(4, .int (nI (n + 1))), (8, .int (nI 6)), (2, .long (dAr (upd (upd (upd (upd (upd (upd (fun _ => 0) 0 (M 9 n)) 1 (mFree (up2 M 12 0 0) n N)) 2 (mMat (up2 M 12 0 0) (nI n) N)) 3 (mNx (up2 M 12 0 0) n N)) 4 (mWan (up2 M 12 0 0) G N n)) 5 (mBet (up2 M 12 0 0) G N n)) (mDg (up2 M 12 0 0) G N n) 6)), (6, .ref a135), (7, .int 6), (5, .ref a135), (0, .ref t)]) hC 5 n dX2_digest_236 hl rfl rfl (by decide) rfl (fun ls hl => ?_)
        refine lv_goto (tgt := 124) hx hb dX2_digest_239 (by decide) ?_
        have hl9 : lv_has ls 10 [(4, .int (nI (n + 1))), (2, .long (dAr (upd (upd (upd (upd (upd (upd (fun _ => 0) 0 (M 9 n)) 1 (mFree (up2 M 12 0 0) n N)) 2 (mMat (up2 M 12 0 0) (nI n) N)) 3 (mNx (up2 M 12 0 0) n N)) 4 (mWan (up2 M 12 0 0) G N n)) 5 (mBet (up2 M 12 0 0) G N n)) (mDg (up2 M 12 0 0) G N n) 6)), (0, .ref t)] := lv_sub hl [0, 2, 6] rfl
        rw [show .long (dAr (upd (upd (upd (upd (upd (upd (fun _ => 0) 0 (M 9 n)) 1 (mFree (up2 M 12 0 0) n N)) 2 (mMat (up2 M 12 0 0) (nI n) N)) 3 (mNx (up2 M 12 0 0) n N)) 4 (mWan (up2 M 12 0 0) G N n)) 5 (mBet (up2 M 12 0 0) G N n)) (mDg (up2 M 12 0 0) G N n) 6) = (Value.long (mDg (up2 M 12 0 0) G N (n + 1))) from congrArg _ (dAr6 _ _ _ _ _ _ _)] at hl9
        have e9 : up2 (up2 M 12 0 0) 10 n 0 = (mKg (up2 M 12 0 0) K (n + 1)) := rfl
        rw [e9] at hP hD
        refine W.widen (k := 1 + (n + 1) * 1) (n := 8 + (n + 1) * 6) (by omega) (by omega) ?_
        exact K2 H locs ls hP hD hS hl9
    · skip
      refine lv_iload hx hb dX2_digest_124 (lv_at hl 0 rfl) ?_
      refine lv_aload_n hx hb dX2_digest_126 rfl (lv_at hl 2 rfl) ?_
      refine gt_get hC 0 2 1 4 hinX2 hK hP dX2_digest_127 rfl rfl rfl (by decide) rfl rfl ?_
      refine gt_ge_t (tgt := 242) hC G G dX2_digest_130 (by decide) rfl hG (Nat.le_refl _) (by omega) ?_
      refine lv_iconst (v := 0) hx hb dX2_digest_242 (by decide) ?_
      refine lv_istore (lv' := [(4, .int 0), (2, .long (mDg (up2 M 12 0 0) G N G)), (0, .ref t)]) hx hb dX2_digest_243 hl (by decide) rfl (fun ls hl => ?_)
      refine gt_loopC D A s.heap 10 N 5 32 1 8 (fun n => [(4, .int (nI n)), (2, .long (mDk (up2 M 12 0 0) G N n)), (0, .ref t)]) (fun n => (mw cI t q (up2 M 12 0 0) (mKk (up2 M 12 0 0) K G n))) (lv_sub hl [0, 1, 2] rfl) hP hD hS (by omega) (by omega) (fun n hi_n H locs ls hP hD hS hl K4 => ?_) (fun H locs ls hP hD hS hl => ?_)
      · skip
        refine lv_iload hx hb dX2_digest_245 (lv_at hl 0 rfl) ?_
        refine lv_aload_n hx hb dX2_digest_247 rfl (lv_at hl 2 rfl) ?_
        refine gt_get hC 0 2 2 5 hinX2 hK hP dX2_digest_248 rfl rfl rfl (by decide) rfl rfl ?_
        refine gt_ge_f (tgt := 385) hC n N dX2_digest_251 (by decide) rfl hN hi_n (by omega) ?_
        refine lv_bipush (v := 8) hx hb dX2_digest_254 (by decide) ?_
        refine gn_newa hC 2 rfl hK hP hD hS hA 8 (by decide) (by decide) (by show _ ≤ 17 ∧ _ ≤ 128; omega) dX2_digest_256 (fun a256 H hP hD hS => ?_)
        refine lv_dup hx hb dX2_digest_258 rfl ?_
        refine lv_iconst (v := 0) hx hb dX2_digest_259 (by decide) ?_
        refine lv_aload_n hx hb dX2_digest_260 rfl (lv_at hl 2 rfl) ?_
        refine lv_iload hx hb dX2_digest_261 (lv_at hl 0 rfl) ?_
        refine lv_iconst (v := 0) hx hb dX2_digest_263 (by decide) ?_
        refine gt_callV (ws' := ((mw cI t q (up2 M 12 0 0) (mKk (up2 M 12 0 0) K G n)) ++ [(a256, .inl (cI, 8, .inl (fun _ => 0)))])) hC [] [(a256, .inl (cI, 8, .inl (fun _ => 0)))] 0 2 2 (ct_X2_of l D cI t q (up2 M 12 0 0) (mKk (up2 M 12 0 0) K G n) n 0 (by omega) (by decide)) gX2_digest_X2_of dX2_digest_264 hK hP hD hS hA hl.1 rfl hd_X2_of ⟨Nat.le_of_ble_eq_true rfl, Nat.le_of_ble_eq_true rfl⟩ (by show _ ≤ 17 ∧ _ ≤ 128; omega) rfl rfl rfl rfl rfl rfl (Nat.le_of_ble_eq_true rfl) (fun H locs hP hD hS => ?_)
        refine gt_ast (ws' := ((mw cI t q (up2 M 12 0 0) (mKk (up2 M 12 0 0) K G n)) ++ [(a256, .inl (cI, 8, .inl (upd (fun _ => 0) 0 ((up2 M 12 0 0) 0 n))))])) hC 6 0 0 hK hP hD hS dX2_digest_267 rfl rfl (by decide) (by decide) (Nat.le_of_ble_eq_true rfl) rfl (fun H locs hP hD hS => ?_)
        refine lv_dup hx hb dX2_digest_268 rfl ?_
        refine lv_iconst (v := 1) hx hb dX2_digest_269 (by decide) ?_
        refine lv_aload_n hx hb dX2_digest_270 rfl (lv_at hl 2 rfl) ?_
        refine lv_iload hx hb dX2_digest_271 (lv_at hl 0 rfl) ?_
        refine gt_callV (ws' := ((mw cI t q (up2 M 12 0 0) (mKk (up2 M 12 0 0) K G n)) ++ [(a256, .inl (cI, 8, .inl (upd (fun _ => 0) 0 ((up2 M 12 0 0) 0 n))))])) hC [] [(a256, .inl (cI, 8, .inl (upd (fun _ => 0) 0 ((up2 M 12 0 0) 0 n))))] 0 2 1 (ct_X2_where l D cI t q (up2 M 12 0 0) (mKk (up2 M 12 0 0) K G n) n (by omega)) gX2_digest_X2_where dX2_digest_273 hK hP hD hS hA hl.1 rfl hd_X2_where ⟨Nat.le_of_ble_eq_true rfl, Nat.le_of_ble_eq_true rfl⟩ (by show _ ≤ 17 ∧ _ ≤ 128; omega) rfl rfl rfl rfl rfl rfl (Nat.le_of_ble_eq_true rfl) (fun H locs hP hD hS => ?_)
        refine gt_ast (ws' := ((mw cI t q (up2 M 12 0 0) (mKk (up2 M 12 0 0) K G n)) ++ [(a256, .inl (cI, 8, .inl (upd (upd (fun _ => 0) 0 ((up2 M 12 0 0) 0 n)) 1 (mWhere (up2 M 12 0 0) n))))])) hC 6 0 1 hK hP hD hS dX2_digest_276 rfl rfl (by decide) (by decide) (Nat.le_of_ble_eq_true rfl) rfl (fun H locs hP hD hS => ?_)
        refine lv_dup hx hb dX2_digest_277 rfl ?_
        refine lv_iconst (v := 2) hx hb dX2_digest_278 (by decide) ?_
        refine lv_aload_n hx hb dX2_digest_279 rfl (lv_at hl 2 rfl) ?_
        refine lv_iload hx hb dX2_digest_280 (lv_at hl 0 rfl) ?_
        refine gt_callV (ws' := ((mw cI t q (up2 M 12 0 0) (mKk (up2 M 12 0 0) K G n)) ++ [(a256, .inl (cI, 8, .inl (upd (upd (fun _ => 0) 0 ((up2 M 12 0 0) 0 n)) 1 (mWhere (up2 M 12 0 0) n))))])) hC [] [(a256, .inl (cI, 8, .inl (upd (upd (fun _ => 0) 0 ((up2 M 12 0 0) 0 n)) 1 (mWhere (up2 M 12 0 0) n))))] 0 2 1 (ct_X2_held l D cI t q (up2 M 12 0 0) (mKk (up2 M 12 0 0) K G n) n (by omega)) gX2_digest_X2_held dX2_digest_282 hK hP hD hS hA hl.1 rfl hd_X2_held ⟨Nat.le_of_ble_eq_true rfl, Nat.le_of_ble_eq_true rfl⟩ (by show _ ≤ 17 ∧ _ ≤ 128; omega) rfl rfl rfl rfl rfl rfl (Nat.le_of_ble_eq_true rfl) (fun H locs hP hD hS => ?_)
        refine gt_ast (ws' := ((mw cI t q (up2 M 12 0 0) (mKk (up2 M 12 0 0) K G n)) ++ [(a256, .inl (cI, 8, .inl (upd (upd (upd (fun _ => 0) 0 ((up2 M 12 0 0) 0 n)) 1 (mWhere (up2 M 12 0 0) n)) 2 (mHeld (up2 M 12 0 0) n))))])) hC 6 0 2 hK hP hD hS dX2_digest_285 rfl rfl (by decide) (by decide) (Nat.le_of_ble_eq_true rfl) rfl (fun H locs hP hD hS => ?_)
        refine lv_dup hx hb dX2_digest_286 rfl ?_
        refine lv_iconst (v := 3) hx hb dX2_digest_287 (by decide) ?_
        refine lv_aload_n hx hb dX2_digest_288 rfl (lv_at hl 2 rfl) ?_
        refine lv_iload hx hb dX2_digest_289 (lv_at hl 0 rfl) ?_
        refine gt_callV (ws' := ((mw cI t q (up2 M 12 0 0) (mKk (up2 M 12 0 0) K G n)) ++ [(a256, .inl (cI, 8, .inl (upd (upd (upd (fun _ => 0) 0 ((up2 M 12 0 0) 0 n)) 1 (mWhere (up2 M 12 0 0) n)) 2 (mHeld (up2 M 12 0 0) n))))])) hC [] [(a256, .inl (cI, 8, .inl (upd (upd (upd (fun _ => 0) 0 ((up2 M 12 0 0) 0 n)) 1 (mWhere (up2 M 12 0 0) n)) 2 (mHeld (up2 M 12 0 0) n))))] 0 2 1 (ct_X2_seem l D cI t q (up2 M 12 0 0) (mKk (up2 M 12 0 0) K G n) n (by omega)) gX2_digest_X2_seem dX2_digest_291 hK hP hD hS hA hl.1 rfl hd_X2_seem ⟨Nat.le_of_ble_eq_true rfl, Nat.le_of_ble_eq_true rfl⟩ (by show _ ≤ 17 ∧ _ ≤ 128; omega) rfl rfl rfl rfl rfl rfl (Nat.le_of_ble_eq_true rfl) (fun H locs hP hD hS => ?_)
        refine gt_ast (ws' := ((mw cI t q (up2 M 12 0 0) (mKk (up2 M 12 0 0) K G n)) ++ [(a256, .inl (cI, 8, .inl (upd (upd (upd (upd (fun _ => 0) 0 ((up2 M 12 0 0) 0 n)) 1 (mWhere (up2 M 12 0 0) n)) 2 (mHeld (up2 M 12 0 0) n)) 3 (mSeem (up2 M 12 0 0) n))))])) hC 6 0 3 hK hP hD hS dX2_digest_294 rfl rfl (by decide) (by decide) (Nat.le_of_ble_eq_true rfl) rfl (fun H locs hP hD hS => ?_)
        refine lv_dup hx hb dX2_digest_295 rfl ?_
        refine lv_iconst (v := 4) hx hb dX2_digest_296 (by decide) ?_
        refine lv_aload_n hx hb dX2_digest_297 rfl (lv_at hl 2 rfl) ?_
        refine lv_iload hx hb dX2_digest_298 (lv_at hl 0 rfl) ?_
        refine gt_callV (ws' := ((mw cI t q (up2 M 12 0 0) (mKk (up2 M 12 0 0) K G n)) ++ [(a256, .inl (cI, 8, .inl (upd (upd (upd (upd (fun _ => 0) 0 ((up2 M 12 0 0) 0 n)) 1 (mWhere (up2 M 12 0 0) n)) 2 (mHeld (up2 M 12 0 0) n)) 3 (mSeem (up2 M 12 0 0) n))))])) hC [] [(a256, .inl (cI, 8, .inl (upd (upd (upd (upd (fun _ => 0) 0 ((up2 M 12 0 0) 0 n)) 1 (mWhere (up2 M 12 0 0) n)) 2 (mHeld (up2 M 12 0 0) n)) 3 (mSeem (up2 M 12 0 0) n))))] 0 2 1 (ct_X2_left l D cI t q (up2 M 12 0 0) (mKk (up2 M 12 0 0) K G n) n (by omega)) gX2_digest_X2_left dX2_digest_300 hK hP hD hS hA hl.1 rfl hd_X2_left ⟨Nat.le_of_ble_eq_true rfl, Nat.le_of_ble_eq_true rfl⟩ (by show _ ≤ 17 ∧ _ ≤ 128; omega) rfl rfl rfl rfl rfl rfl (Nat.le_of_ble_eq_true rfl) (fun H locs hP hD hS => ?_)
        refine gt_ast (ws' := ((mw cI t q (up2 M 12 0 0) (mKk (up2 M 12 0 0) K G n)) ++ [(a256, .inl (cI, 8, .inl (upd (upd (upd (upd (upd (fun _ => 0) 0 ((up2 M 12 0 0) 0 n)) 1 (mWhere (up2 M 12 0 0) n)) 2 (mHeld (up2 M 12 0 0) n)) 3 (mSeem (up2 M 12 0 0) n)) 4 (mLeft (up2 M 12 0 0) n))))])) hC 6 0 4 hK hP hD hS dX2_digest_303 rfl rfl (by decide) (by decide) (Nat.le_of_ble_eq_true rfl) rfl (fun H locs hP hD hS => ?_)
        refine lv_dup hx hb dX2_digest_304 rfl ?_
        refine lv_iconst (v := 5) hx hb dX2_digest_305 (by decide) ?_
        refine lv_aload_n hx hb dX2_digest_306 rfl (lv_at hl 2 rfl) ?_
        refine lv_iload hx hb dX2_digest_307 (lv_at hl 0 rfl) ?_
        refine lv_bipush (v := 6) hx hb dX2_digest_309 (by decide) ?_
        refine gt_callV (ws' := ((mw cI t q (up2 M 12 0 0) (mKk (up2 M 12 0 0) K G n)) ++ [(a256, .inl (cI, 8, .inl (upd (upd (upd (upd (upd (fun _ => 0) 0 ((up2 M 12 0 0) 0 n)) 1 (mWhere (up2 M 12 0 0) n)) 2 (mHeld (up2 M 12 0 0) n)) 3 (mSeem (up2 M 12 0 0) n)) 4 (mLeft (up2 M 12 0 0) n))))])) hC [] [(a256, .inl (cI, 8, .inl (upd (upd (upd (upd (upd (fun _ => 0) 0 ((up2 M 12 0 0) 0 n)) 1 (mWhere (up2 M 12 0 0) n)) 2 (mHeld (up2 M 12 0 0) n)) 3 (mSeem (up2 M 12 0 0) n)) 4 (mLeft (up2 M 12 0 0) n))))] 0 2 2 (ct_X2_of l D cI t q (up2 M 12 0 0) (mKk (up2 M 12 0 0) K G n) n 6 (by omega) (by decide)) gX2_digest_X2_of dX2_digest_311 hK hP hD hS hA hl.1 rfl hd_X2_of ⟨Nat.le_of_ble_eq_true rfl, Nat.le_of_ble_eq_true rfl⟩ (by show _ ≤ 17 ∧ _ ≤ 128; omega) rfl rfl rfl rfl rfl rfl (Nat.le_of_ble_eq_true rfl) (fun H locs hP hD hS => ?_)
        refine gt_ast (ws' := ((mw cI t q (up2 M 12 0 0) (mKk (up2 M 12 0 0) K G n)) ++ [(a256, .inl (cI, 8, .inl (upd (upd (upd (upd (upd (upd (fun _ => 0) 0 ((up2 M 12 0 0) 0 n)) 1 (mWhere (up2 M 12 0 0) n)) 2 (mHeld (up2 M 12 0 0) n)) 3 (mSeem (up2 M 12 0 0) n)) 4 (mLeft (up2 M 12 0 0) n)) 5 ((up2 M 12 0 0) 6 n))))])) hC 6 0 5 hK hP hD hS dX2_digest_314 rfl rfl (by decide) (by decide) (Nat.le_of_ble_eq_true rfl) rfl (fun H locs hP hD hS => ?_)
        refine lv_dup hx hb dX2_digest_315 rfl ?_
        refine lv_bipush (v := 6) hx hb dX2_digest_316 (by decide) ?_
        refine lv_aload_n hx hb dX2_digest_318 rfl (lv_at hl 2 rfl) ?_
        refine lv_iload hx hb dX2_digest_319 (lv_at hl 0 rfl) ?_
        refine gt_callV (ws' := ((mw cI t q (up2 M 12 0 0) (mKk (up2 M 12 0 0) K G n)) ++ [(a256, .inl (cI, 8, .inl (upd (upd (upd (upd (upd (upd (fun _ => 0) 0 ((up2 M 12 0 0) 0 n)) 1 (mWhere (up2 M 12 0 0) n)) 2 (mHeld (up2 M 12 0 0) n)) 3 (mSeem (up2 M 12 0 0) n)) 4 (mLeft (up2 M 12 0 0) n)) 5 ((up2 M 12 0 0) 6 n))))])) hC [] [(a256, .inl (cI, 8, .inl (upd (upd (upd (upd (upd (upd (fun _ => 0) 0 ((up2 M 12 0 0) 0 n)) 1 (mWhere (up2 M 12 0 0) n)) 2 (mHeld (up2 M 12 0 0) n)) 3 (mSeem (up2 M 12 0 0) n)) 4 (mLeft (up2 M 12 0 0) n)) 5 ((up2 M 12 0 0) 6 n))))] 0 2 1 (ct_X2_place l D cI t q (up2 M 12 0 0) (mKk (up2 M 12 0 0) K G n) n (by omega) N hN hN12) gX2_digest_X2_place dX2_digest_321 hK hP hD hS hA hl.1 rfl hd_X2_place ⟨Nat.le_of_ble_eq_true rfl, Nat.le_of_ble_eq_true rfl⟩ (by show _ ≤ 17 ∧ _ ≤ 128; omega) rfl rfl rfl rfl rfl rfl (Nat.le_of_ble_eq_true rfl) (fun H locs hP hD hS => ?_)
        refine gt_ast (ws' := ((mw cI t q (up2 M 12 0 0) (mKk (up2 M 12 0 0) K G n)) ++ [(a256, .inl (cI, 8, .inl (upd (upd (upd (upd (upd (upd (upd (fun _ => 0) 0 ((up2 M 12 0 0) 0 n)) 1 (mWhere (up2 M 12 0 0) n)) 2 (mHeld (up2 M 12 0 0) n)) 3 (mSeem (up2 M 12 0 0) n)) 4 (mLeft (up2 M 12 0 0) n)) 5 ((up2 M 12 0 0) 6 n)) 6 (mPl (up2 M 12 0 0) N n))))])) hC 6 0 6 hK hP hD hS dX2_digest_324 rfl rfl (by decide) (by decide) (Nat.le_of_ble_eq_true rfl) rfl (fun H locs hP hD hS => ?_)
        refine lv_dup hx hb dX2_digest_325 rfl ?_
        refine lv_bipush (v := 7) hx hb dX2_digest_326 (by decide) ?_
        refine lv_aload_n hx hb dX2_digest_328 rfl (lv_at hl 2 rfl) ?_
        refine lv_iload hx hb dX2_digest_329 (lv_at hl 0 rfl) ?_
        refine gt_callV (ws' := ((mw cI t q (up2 M 12 0 0) (if mIs (up2 M 12 0 0) n 1 = 0 then (mKk (up2 M 12 0 0) K G n) else (up2 M 12 0 0))) ++ [(a256, .inl (cI, 8, .inl (upd (upd (upd (upd (upd (upd (upd (fun _ => 0) 0 ((up2 M 12 0 0) 0 n)) 1 (mWhere (up2 M 12 0 0) n)) 2 (mHeld (up2 M 12 0 0) n)) 3 (mSeem (up2 M 12 0 0) n)) 4 (mLeft (up2 M 12 0 0) n)) 5 ((up2 M 12 0 0) 6 n)) 6 (mPl (up2 M 12 0 0) N n))))])) hC [] [(a256, .inl (cI, 8, .inl (upd (upd (upd (upd (upd (upd (upd (fun _ => 0) 0 ((up2 M 12 0 0) 0 n)) 1 (mWhere (up2 M 12 0 0) n)) 2 (mHeld (up2 M 12 0 0) n)) 3 (mSeem (up2 M 12 0 0) n)) 4 (mLeft (up2 M 12 0 0) n)) 5 ((up2 M 12 0 0) 6 n)) 6 (mPl (up2 M 12 0 0) N n))))] 0 2 1 (ct_X2_until l D cI t q (up2 M 12 0 0) (mKk (up2 M 12 0 0) K G n) n (by omega) N hN hN12 G hG hG4 ht (hu _ hi_n)) gX2_digest_X2_until dX2_digest_331 hK hP hD hS hA hl.1 rfl hd_X2_until ⟨Nat.le_of_ble_eq_true rfl, Nat.le_of_ble_eq_true rfl⟩ (by show _ ≤ 17 ∧ _ ≤ 128; omega) rfl rfl rfl rfl rfl rfl (Nat.le_of_ble_eq_true rfl) (fun H locs hP hD hS => ?_)
        refine gt_ast (ws' := ((mw cI t q (up2 M 12 0 0) (if mIs (up2 M 12 0 0) n 1 = 0 then (mKk (up2 M 12 0 0) K G n) else (up2 M 12 0 0))) ++ [(a256, .inl (cI, 8, .inl (upd (upd (upd (upd (upd (upd (upd (upd (fun _ => 0) 0 ((up2 M 12 0 0) 0 n)) 1 (mWhere (up2 M 12 0 0) n)) 2 (mHeld (up2 M 12 0 0) n)) 3 (mSeem (up2 M 12 0 0) n)) 4 (mLeft (up2 M 12 0 0) n)) 5 ((up2 M 12 0 0) 6 n)) 6 (mPl (up2 M 12 0 0) N n)) 7 (mUn (up2 M 12 0 0) G N n))))])) hC 6 0 7 hK hP hD hS dX2_digest_334 rfl rfl (by decide) (by decide) (Nat.le_of_ble_eq_true rfl) rfl (fun H locs hP hD hS => ?_)
        refine lv_astore (lv' := [(5, .ref a256), (4, .int (nI n)), (2, .long (mDk (up2 M 12 0 0) G N n)), (0, .ref t)]) hx hb dX2_digest_335 hl (by decide) rfl (fun ls hl => ?_)
        refine lv_aload hx hb dX2_digest_337 (lv_at hl 0 rfl) ?_
        refine lv_astore (lv' := [(6, .ref a256), (5, .ref a256), (4, .int (nI n)), (2, .long (mDk (up2 M 12 0 0) G N n)), (0, .ref t)]) hx hb dX2_digest_339 hl (by decide) rfl (fun ls hl => ?_)
        refine lv_aload hx hb dX2_digest_341 (lv_at hl 0 rfl) ?_
        refine va_alen (v := 8) hx hb hK hP 6 0 rfl rfl rfl dX2_digest_343 ?_
        refine lv_istore (lv' := [(7, .int 8), (6, .ref a256), (5, .ref a256), (4, .int (nI n)), (2, .long (mDk (up2 M 12 0 0) G N n)), (0, .ref t)]) hx hb dX2_digest_344 hl (by decide) rfl (fun ls hl => ?_)
        refine lv_iconst (v := 0) hx hb dX2_digest_346 (by decide) ?_
        refine lv_istore (lv' := [(8, .int 0), (7, .int 8), (6, .ref a256), (5, .ref a256), (4, .int (nI n)), (2, .long (mDk (up2 M 12 0 0) G N n)), (0, .ref t)]) hx hb dX2_digest_347 hl (by decide) rfl (fun ls hl => ?_)
        refine gt_loop D A s.heap 10 8 (fun j => [(8, .int (nI j)), (2, .long (dAr (upd (upd (upd (upd (upd (upd (upd (upd (fun _ => 0) 0 ((up2 M 12 0 0) 0 n)) 1 (mWhere (up2 M 12 0 0) n)) 2 (mHeld (up2 M 12 0 0) n)) 3 (mSeem (up2 M 12 0 0) n)) 4 (mLeft (up2 M 12 0 0) n)) 5 ((up2 M 12 0 0) 6 n)) 6 (mPl (up2 M 12 0 0) N n)) 7 (mUn (up2 M 12 0 0) G N n)) (mDk (up2 M 12 0 0) G N n) j)), (6, .ref a256), (7, .int 8), (5, .ref a256), (4, .int (nI n)), (0, .ref t)]) (fun j => ((mw cI t q (up2 M 12 0 0) (if mIs (up2 M 12 0 0) n 1 = 0 then (mKk (up2 M 12 0 0) K G n) else (up2 M 12 0 0))) ++ [(a256, .inl (cI, 8, .inl (upd (upd (upd (upd (upd (upd (upd (upd (fun _ => 0) 0 ((up2 M 12 0 0) 0 n)) 1 (mWhere (up2 M 12 0 0) n)) 2 (mHeld (up2 M 12 0 0) n)) 3 (mSeem (up2 M 12 0 0) n)) 4 (mLeft (up2 M 12 0 0) n)) 5 ((up2 M 12 0 0) 6 n)) 6 (mPl (up2 M 12 0 0) N n)) 7 (mUn (up2 M 12 0 0) G N n))))])) (lv_sub hl [0, 5, 2, 1, 3, 4, 6] rfl) hP hD hS (fun j hi_j H locs ls hP hD hS hl K5 => ?_) (fun H locs ls hP hD hS hl => ?_)
        · skip
          refine lv_iload hx hb dX2_digest_349 (lv_at hl 0 rfl) ?_
          refine lv_iload hx hb dX2_digest_351 (lv_at hl 3 rfl) ?_
          refine gt_ge_f (tgt := 379) hC j 8 dX2_digest_353 (by decide) rfl (by decide) hi_j (by decide) ?_
          refine lv_aload hx hb dX2_digest_356 (lv_at hl 2 rfl) ?_
          refine lv_iload hx hb dX2_digest_358 (lv_at hl 0 rfl) ?_
          refine gt_ald hC 6 0 j hK hP dX2_digest_360 rfl rfl rfl (by omega) (Nat.le_of_ble_eq_true rfl) ?_
          refine lv_istore (lv' := [(9, .int ((upd (upd (upd (upd (upd (upd (upd (upd (fun _ => 0) 0 ((up2 M 12 0 0) 0 n)) 1 (mWhere (up2 M 12 0 0) n)) 2 (mHeld (up2 M 12 0 0) n)) 3 (mSeem (up2 M 12 0 0) n)) 4 (mLeft (up2 M 12 0 0) n)) 5 ((up2 M 12 0 0) 6 n)) 6 (mPl (up2 M 12 0 0) N n)) 7 (mUn (up2 M 12 0 0) G N n)) j)), (8, .int (nI j)), (2, .long (dAr (upd (upd (upd (upd (upd (upd (upd (upd (fun _ => 0) 0 ((up2 M 12 0 0) 0 n)) 1 (mWhere (up2 M 12 0 0) n)) 2 (mHeld (up2 M 12 0 0) n)) 3 (mSeem (up2 M 12 0 0) n)) 4 (mLeft (up2 M 12 0 0) n)) 5 ((up2 M 12 0 0) 6 n)) 6 (mPl (up2 M 12 0 0) N n)) 7 (mUn (up2 M 12 0 0) G N n)) (mDk (up2 M 12 0 0) G N n) j)), (6, .ref a256), (7, .int 8), (5, .ref a256), (4, .int (nI n)), (0, .ref t)]) hx hb dX2_digest_361 hl (by decide) rfl (fun ls hl => ?_)
          refine lv_lload_n hx hb dX2_digest_363 rfl (lv_at hl 2 rfl) ?_
          refine lv_ldc2 (v := 31) hx hb hC.2.2.2.1 (hC.2.2.2.2 _ (List.mem_of_getElem? (i := 7) rfl)) dX2_digest_364 ?_
          refine lv_lmul hx hb dX2_digest_367 ?_
          refine lv_iload hx hb dX2_digest_368 (lv_at hl 0 rfl) ?_
          refine lv_i2l hx hb dX2_digest_370 rfl ?_
          refine lv_ladd hx hb dX2_digest_371 ?_
          refine lv_lstore_n (lv' := [(2, .long (((dAr (upd (upd (upd (upd (upd (upd (upd (upd (fun _ => 0) 0 ((up2 M 12 0 0) 0 n)) 1 (mWhere (up2 M 12 0 0) n)) 2 (mHeld (up2 M 12 0 0) n)) 3 (mSeem (up2 M 12 0 0) n)) 4 (mLeft (up2 M 12 0 0) n)) 5 ((up2 M 12 0 0) 6 n)) 6 (mPl (up2 M 12 0 0) N n)) 7 (mUn (up2 M 12 0 0) G N n)) (mDk (up2 M 12 0 0) G N n) j) * 31) + (Int32.toInt64 ((upd (upd (upd (upd (upd (upd (upd (upd (fun _ => 0) 0 ((up2 M 12 0 0) 0 n)) 1 (mWhere (up2 M 12 0 0) n)) 2 (mHeld (up2 M 12 0 0) n)) 3 (mSeem (up2 M 12 0 0) n)) 4 (mLeft (up2 M 12 0 0) n)) 5 ((up2 M 12 0 0) 6 n)) 6 (mPl (up2 M 12 0 0) N n)) 7 (mUn (up2 M 12 0 0) G N n)) j)))), (9, .int ((upd (upd (upd (upd (upd (upd (upd (upd (fun _ => 0) 0 ((up2 M 12 0 0) 0 n)) 1 (mWhere (up2 M 12 0 0) n)) 2 (mHeld (up2 M 12 0 0) n)) 3 (mSeem (up2 M 12 0 0) n)) 4 (mLeft (up2 M 12 0 0) n)) 5 ((up2 M 12 0 0) 6 n)) 6 (mPl (up2 M 12 0 0) N n)) 7 (mUn (up2 M 12 0 0) G N n)) j)), (8, .int (nI j)), (6, .ref a256), (7, .int 8), (5, .ref a256), (4, .int (nI n)), (0, .ref t)]) hx hb dX2_digest_372 rfl hl (by decide) rfl (fun ls hl => ?_)
          refine gt_inc (lv' := [(8, .int (nI (j + 1))), (2, .long (((dAr (upd (upd (upd (upd (upd (upd (upd (upd (fun _ => 0) 0 ((up2 M 12 0 0) 0 n)) 1 (mWhere (up2 M 12 0 0) n)) 2 (mHeld (up2 M 12 0 0) n)) 3 (mSeem (up2 M 12 0 0) n)) 4 (mLeft (up2 M 12 0 0) n)) 5 ((up2 M 12 0 0) 6 n)) 6 (mPl (up2 M 12 0 0) N n)) 7 (mUn (up2 M 12 0 0) G N n)) (mDk (up2 M 12 0 0) G N n) j) * 31) + (Int32.toInt64 ((upd (upd (upd (upd (upd (upd (upd (upd (fun _ => 0) 0 ((up2 M 12 0 0) 0 n)) 1 (mWhere (up2 M 12 0 0) n)) 2 (mHeld (up2 M 12 0 0) n)) 3 (mSeem (up2 M 12 0 0) n)) 4 (mLeft (up2 M 12 0 0) n)) 5 ((up2 M 12 0 0) 6 n)) 6 (mPl (up2 M 12 0 0) N n)) 7 (mUn (up2 M 12 0 0) G N n)) j)))), (9, .int ((upd (upd (upd (upd (upd (upd (upd (upd (fun _ => 0) 0 ((up2 M 12 0 0) 0 n)) 1 (mWhere (up2 M 12 0 0) n)) 2 (mHeld (up2 M 12 0 0) n)) 3 (mSeem (up2 M 12 0 0) n)) 4 (mLeft (up2 M 12 0 0) n)) 5 ((up2 M 12 0 0) 6 n)) 6 (mPl (up2 M 12 0 0) N n)) 7 (mUn (up2 M 12 0 0) G N n)) j)), (6, .ref a256), (7, .int 8), (5, .ref a256), (4, .int (nI n)), (0, .ref t)]) hC 2 j dX2_digest_373 hl rfl rfl (by decide) rfl (fun ls hl => ?_)
          refine lv_goto (tgt := 349) hx hb dX2_digest_376 (by decide) ?_
          have hl9 : lv_has ls 10 [(8, .int (nI (j + 1))), (2, .long (((dAr (upd (upd (upd (upd (upd (upd (upd (upd (fun _ => 0) 0 ((up2 M 12 0 0) 0 n)) 1 (mWhere (up2 M 12 0 0) n)) 2 (mHeld (up2 M 12 0 0) n)) 3 (mSeem (up2 M 12 0 0) n)) 4 (mLeft (up2 M 12 0 0) n)) 5 ((up2 M 12 0 0) 6 n)) 6 (mPl (up2 M 12 0 0) N n)) 7 (mUn (up2 M 12 0 0) G N n)) (mDk (up2 M 12 0 0) G N n) j) * 31) + (Int32.toInt64 ((upd (upd (upd (upd (upd (upd (upd (upd (fun _ => 0) 0 ((up2 M 12 0 0) 0 n)) 1 (mWhere (up2 M 12 0 0) n)) 2 (mHeld (up2 M 12 0 0) n)) 3 (mSeem (up2 M 12 0 0) n)) 4 (mLeft (up2 M 12 0 0) n)) 5 ((up2 M 12 0 0) 6 n)) 6 (mPl (up2 M 12 0 0) N n)) 7 (mUn (up2 M 12 0 0) G N n)) j)))), (6, .ref a256), (7, .int 8), (5, .ref a256), (4, .int (nI n)), (0, .ref t)] := lv_sub hl [0, 1, 3, 4, 5, 6, 7] rfl
          rw [show .long (((dAr (upd (upd (upd (upd (upd (upd (upd (upd (fun _ => 0) 0 ((up2 M 12 0 0) 0 n)) 1 (mWhere (up2 M 12 0 0) n)) 2 (mHeld (up2 M 12 0 0) n)) 3 (mSeem (up2 M 12 0 0) n)) 4 (mLeft (up2 M 12 0 0) n)) 5 ((up2 M 12 0 0) 6 n)) 6 (mPl (up2 M 12 0 0) N n)) 7 (mUn (up2 M 12 0 0) G N n)) (mDk (up2 M 12 0 0) G N n) j) * 31) + (Int32.toInt64 ((upd (upd (upd (upd (upd (upd (upd (upd (fun _ => 0) 0 ((up2 M 12 0 0) 0 n)) 1 (mWhere (up2 M 12 0 0) n)) 2 (mHeld (up2 M 12 0 0) n)) 3 (mSeem (up2 M 12 0 0) n)) 4 (mLeft (up2 M 12 0 0) n)) 5 ((up2 M 12 0 0) 6 n)) 6 (mPl (up2 M 12 0 0) N n)) 7 (mUn (up2 M 12 0 0) G N n)) j))) = (Value.long (dAr (upd (upd (upd (upd (upd (upd (upd (upd (fun _ => 0) 0 ((up2 M 12 0 0) 0 n)) 1 (mWhere (up2 M 12 0 0) n)) 2 (mHeld (up2 M 12 0 0) n)) 3 (mSeem (up2 M 12 0 0) n)) 4 (mLeft (up2 M 12 0 0) n)) 5 ((up2 M 12 0 0) 6 n)) 6 (mPl (up2 M 12 0 0) N n)) 7 (mUn (up2 M 12 0 0) G N n)) (mDk (up2 M 12 0 0) G N n) (j + 1))) from congrArg _ (rfl)] at hl9
          exact K5 H locs ls hP hD hS hl9
        · skip
          refine lv_iload hx hb dX2_digest_349 (lv_at hl 0 rfl) ?_
          refine lv_iload hx hb dX2_digest_351 (lv_at hl 3 rfl) ?_
          refine gt_ge_t (tgt := 379) hC 8 8 dX2_digest_353 (by decide) rfl (by decide) (Nat.le_refl _) (by decide) ?_
          have hP : va_P D vwCl (mw cI t q (up2 M 12 0 0) (if mIs (up2 M 12 0 0) n 1 = 0 then (mKk (up2 M 12 0 0) K G n) else (up2 M 12 0 0))) H := gt_Pm.mpr (fun z hz => gt_Pm.mp hP z (List.mem_append_left _ hz))
          have hD : va_D A (mw cI t q (up2 M 12 0 0) (if mIs (up2 M 12 0 0) n 1 = 0 then (mKk (up2 M 12 0 0) K G n) else (up2 M 12 0 0))) := gt_Ddrop hD
          refine gt_inc (lv' := [(4, .int (nI (n + 1))), (8, .int (nI 8)), (2, .long (dAr (upd (upd (upd (upd (upd (upd (upd (upd (fun _ => 0) 0 ((up2 M 12 0 0) 0 n)) 1 (mWhere (up2 M 12 0 0) n)) 2 (mHeld (up2 M 12 0 0) n)) 3 (mSeem (up2 M 12 0 0) n)) 4 (mLeft (up2 M 12 0 0) n)) 5 ((up2 M 12 0 0) 6 n)) 6 (mPl (up2 M 12 0 0) N n)) 7 (mUn (up2 M 12 0 0) G N n)) (mDk (up2 M 12 0 0) G N n) 8)), (6, .ref a256), (7, .int 8), (5, .ref a256), (0, .ref t)]) hC 5 n dX2_digest_379 hl rfl rfl (by decide) rfl (fun ls hl => ?_)
          refine lv_goto (tgt := 245) hx hb dX2_digest_382 (by decide) ?_
          have hl9 : lv_has ls 10 [(4, .int (nI (n + 1))), (2, .long (dAr (upd (upd (upd (upd (upd (upd (upd (upd (fun _ => 0) 0 ((up2 M 12 0 0) 0 n)) 1 (mWhere (up2 M 12 0 0) n)) 2 (mHeld (up2 M 12 0 0) n)) 3 (mSeem (up2 M 12 0 0) n)) 4 (mLeft (up2 M 12 0 0) n)) 5 ((up2 M 12 0 0) 6 n)) 6 (mPl (up2 M 12 0 0) N n)) 7 (mUn (up2 M 12 0 0) G N n)) (mDk (up2 M 12 0 0) G N n) 8)), (0, .ref t)] := lv_sub hl [0, 2, 6] rfl
          rw [show .long (dAr (upd (upd (upd (upd (upd (upd (upd (upd (fun _ => 0) 0 ((up2 M 12 0 0) 0 n)) 1 (mWhere (up2 M 12 0 0) n)) 2 (mHeld (up2 M 12 0 0) n)) 3 (mSeem (up2 M 12 0 0) n)) 4 (mLeft (up2 M 12 0 0) n)) 5 ((up2 M 12 0 0) 6 n)) 6 (mPl (up2 M 12 0 0) N n)) 7 (mUn (up2 M 12 0 0) G N n)) (mDk (up2 M 12 0 0) G N n) 8) = (Value.long (mDk (up2 M 12 0 0) G N (n + 1))) from congrArg _ (dAr8 _ _ _ _ _ _ _ _ _)] at hl9
          have e9 : (if mIs (up2 M 12 0 0) n 1 = 0 then (mKk (up2 M 12 0 0) K G n) else (up2 M 12 0 0)) = (mKk (up2 M 12 0 0) K G (n + 1)) := rfl
          rw [e9] at hP hD
          refine W.widen (k := 5 + (n + 1) * 1) (n := 32 + (n + 1) * 8) (by omega) (by omega) ?_
          exact K4 H locs ls hP hD hS hl9
      · skip
        refine lv_iload hx hb dX2_digest_245 (lv_at hl 0 rfl) ?_
        refine lv_aload_n hx hb dX2_digest_247 rfl (lv_at hl 2 rfl) ?_
        refine gt_get hC 0 2 2 5 hinX2 hK hP dX2_digest_248 rfl rfl rfl (by decide) rfl rfl ?_
        refine gt_ge_t (tgt := 385) hC N N dX2_digest_251 (by decide) rfl hN (Nat.le_refl _) (by omega) ?_
        refine lv_lload_n hx hb dX2_digest_385 rfl (lv_at hl 1 rfl) ?_
        exact gt_lret hC hr hlk hK (ws := (mw cI t q (up2 M 12 0 0) (mKk (up2 M 12 0 0) K G N))) hP hD hS (show some (Value.long (mDk (up2 M 12 0 0) G N N)) = _ from rfl) rfl dX2_digest_386 (by omega) (by omega)
