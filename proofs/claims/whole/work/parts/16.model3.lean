/-! The contracts of the reference's public methods (laid by wip/whole/gen/model3.py). -/
theorem mIn_num {n : Int32} (h : ¬ mIn n 1 60 = 0) : n = nI n.toNatClampNeg ∧ n.toNatClampNeg ≤ 60 := by
  unfold mIn at h
  split at h
  · exact absurd rfl h
  · rename_i h1
    split at h
    · exact absurd rfl h
    · rename_i h2
      obtain ⟨j, hj, e⟩ := nI_of (x := n) (fun q => h1 (Int32.lt_of_lt_of_le q (by decide)))
      rw [e, nI_clamp hj]
      refine ⟨rfl, ?_⟩
      rw [e] at h2
      have : ¬ 60 < j := fun z => h2 ((nI_ltI (a := 60) (b := j) (by decide) hj).mpr z)
      omega
def mR_addGate (M : SS) (N G : Nat) (a : Int32) (b : Int32) : Int32 := (if (mIn a 1 9) = 0 then 0 else (if (mIn b 0 1) = 0 then 0 else (if (M 12 1) = 4 then 0 else (((M 12 1) + 1) - 1))))
def mM_addGate (M : SS) (N G : Nat) (a : Int32) (b : Int32) : SS := (if (mIn a 1 9) = 0 then (up2 (up2 M 12 0 0) 12 0 1) else (if (mIn b 0 1) = 0 then (up2 (up2 M 12 0 0) 12 0 1) else (if (M 12 1) = 4 then (up2 (up2 M 12 0 0) 12 0 2) else (up2 (up2 (up2 (up2 M 12 0 0) 9 G a) 10 G b) 12 1 ((M 12 1) + 1)))))
def mR_addGoat (M : SS) (N G : Nat) (a : Int32) : Int32 := (if (mIn a 1 9) = 0 then 0 else (if (M 12 2) = 12 then 0 else (((M 12 2) + 1) - 1)))
def mM_addGoat (M : SS) (N G : Nat) (a : Int32) : SS := (if (mIn a 1 9) = 0 then (up2 (up2 M 12 0 0) 12 0 1) else (if (M 12 2) = 12 then (up2 (up2 M 12 0 0) 12 0 2) else (up2 (up2 (up2 M 12 0 0) 11 N a) 12 2 ((M 12 2) + 1))))
def mR_ask (M : SS) (N G : Nat) (k : Int32) (g : Int32) (w : Int32) (mi : Int32) (wt : Int32) : Int32 := (if (mGoat (up2 M 12 0 0) k) = 0 then 0 else (if (mGate (up2 M 12 0 0) g) = 0 then 0 else (if (mIn w 1 (M 9 g.toNatClampNeg)) = 0 then 0 else (if (mIn mi 1 30) = 0 then 0 else (if (mIn wt 1 60) = 0 then 0 else (if (mIs (up2 M 12 0 0) k.toNatClampNeg 0) = 0 then 0 else (mMat (up2 (up2 (up2 (up2 (up2 (up2 (up2 (up2 (up2 M 12 0 0) 0 k.toNatClampNeg 1) 1 k.toNatClampNeg g) 2 k.toNatClampNeg w) 3 k.toNatClampNeg mi) 4 k.toNatClampNeg wt) 5 k.toNatClampNeg 0) 7 k.toNatClampNeg ((up2 (up2 (up2 (up2 (up2 M 12 0 0) 0 k.toNatClampNeg 1) 1 k.toNatClampNeg g) 2 k.toNatClampNeg w) 3 k.toNatClampNeg mi) 8 3)) 8 3 (((up2 (up2 (up2 (up2 (up2 M 12 0 0) 0 k.toNatClampNeg 1) 1 k.toNatClampNeg g) 2 k.toNatClampNeg w) 3 k.toNatClampNeg mi) 8 3) + 1)) g N)))))))
def mM_ask (M : SS) (N G : Nat) (k : Int32) (g : Int32) (w : Int32) (mi : Int32) (wt : Int32) : SS := (if (mGoat (up2 M 12 0 0) k) = 0 then (up2 (up2 M 12 0 0) 12 0 1) else (if (mGate (up2 M 12 0 0) g) = 0 then (up2 (up2 M 12 0 0) 12 0 1) else (if (mIn w 1 (M 9 g.toNatClampNeg)) = 0 then (up2 (up2 M 12 0 0) 12 0 2) else (if (mIn mi 1 30) = 0 then (up2 (up2 M 12 0 0) 12 0 2) else (if (mIn wt 1 60) = 0 then (up2 (up2 M 12 0 0) 12 0 2) else (if (mIs (up2 M 12 0 0) k.toNatClampNeg 0) = 0 then (up2 (up2 M 12 0 0) 12 0 3) else (up2 (up2 (up2 (up2 (up2 (up2 (up2 (up2 (up2 M 12 0 0) 0 k.toNatClampNeg 1) 1 k.toNatClampNeg g) 2 k.toNatClampNeg w) 3 k.toNatClampNeg mi) 4 k.toNatClampNeg wt) 5 k.toNatClampNeg 0) 7 k.toNatClampNeg ((up2 (up2 (up2 (up2 (up2 M 12 0 0) 0 k.toNatClampNeg 1) 1 k.toNatClampNeg g) 2 k.toNatClampNeg w) 3 k.toNatClampNeg mi) 8 3)) 8 3 (((up2 (up2 (up2 (up2 (up2 M 12 0 0) 0 k.toNatClampNeg 1) 1 k.toNatClampNeg g) 2 k.toNatClampNeg w) 3 k.toNatClampNeg mi) 8 3) + 1))))))))
def mR_barge (M : SS) (N G : Nat) (k : Int32) (g : Int32) (w : Int32) (mi : Int32) : Int32 := (if (mGoat (up2 M 12 0 0) k) = 0 then 0 else (if (mGate (up2 M 12 0 0) g) = 0 then 0 else (if (mIn w 1 (M 9 g.toNatClampNeg)) = 0 then 0 else (if (mIn mi 1 30) = 0 then 0 else (if (mIs (up2 M 12 0 0) k.toNatClampNeg 0) = 0 then 0 else (if w ≤ (mFree (up2 M 12 0 0) g.toNatClampNeg N) then (mFree (up2 (up2 (up2 (up2 (up2 M 12 0 0) 0 k.toNatClampNeg 2) 1 k.toNatClampNeg g) 2 k.toNatClampNeg w) 3 k.toNatClampNeg mi) g.toNatClampNeg N) else 0))))))
def mM_barge (M : SS) (N G : Nat) (k : Int32) (g : Int32) (w : Int32) (mi : Int32) : SS := (if (mGoat (up2 M 12 0 0) k) = 0 then (up2 (up2 M 12 0 0) 12 0 1) else (if (mGate (up2 M 12 0 0) g) = 0 then (up2 (up2 M 12 0 0) 12 0 1) else (if (mIn w 1 (M 9 g.toNatClampNeg)) = 0 then (up2 (up2 M 12 0 0) 12 0 2) else (if (mIn mi 1 30) = 0 then (up2 (up2 M 12 0 0) 12 0 2) else (if (mIs (up2 M 12 0 0) k.toNatClampNeg 0) = 0 then (up2 (up2 M 12 0 0) 12 0 3) else (if w ≤ (mFree (up2 M 12 0 0) g.toNatClampNeg N) then (up2 (up2 (up2 (up2 (up2 M 12 0 0) 0 k.toNatClampNeg 2) 1 k.toNatClampNeg g) 2 k.toNatClampNeg w) 3 k.toNatClampNeg mi) else (up2 (up2 M 12 0 0) 12 0 3)))))))
def mR_callBack (M : SS) (N G : Nat) (k : Int32) : Int32 := (if (mGoat (up2 M 12 0 0) k) = 0 then 0 else (if (mIs (up2 M 12 0 0) k.toNatClampNeg 0) = 0 then (mHeld (up2 M 12 0 0) k.toNatClampNeg) else 0))
def mM_callBack (M : SS) (N G : Nat) (k : Int32) : SS := (if (mGoat (up2 M 12 0 0) k) = 0 then (up2 (up2 M 12 0 0) 12 0 1) else (if (mIs (up2 M 12 0 0) k.toNatClampNeg 0) = 0 then (up2 (up2 M 12 0 0) 0 k.toNatClampNeg 0) else (up2 (up2 M 12 0 0) 12 0 2)))
def mR_pass (M : SS) (N G : Nat) (mn : Int32) : Int32 := (if (mIn mn 1 60) = 0 then 0 else (((mIt (up2 M 12 0 0) G N mn.toNatClampNeg) 8 1) - (M 8 1)))
def mM_pass (M : SS) (N G : Nat) (mn : Int32) : SS := (if (mIn mn 1 60) = 0 then (up2 (up2 M 12 0 0) 12 0 1) else (mIt (up2 M 12 0 0) G N mn.toNatClampNeg))
def mR_minute (M : SS) (N G : Nat)  : Int32 := (M 8 0)
def mM_minute (M : SS) (N G : Nat)  : SS := (up2 M 12 0 0)
def mR_gates (M : SS) (N G : Nat)  : Int32 := (M 12 1)
def mM_gates (M : SS) (N G : Nat)  : SS := (up2 M 12 0 0)
def mR_goats (M : SS) (N G : Nat)  : Int32 := (M 12 2)
def mM_goats (M : SS) (N G : Nat)  : SS := (up2 M 12 0 0)
def mR_waiting (M : SS) (N G : Nat)  : Int32 := (mMany M 1 N)
def mM_waiting (M : SS) (N G : Nat)  : SS := (up2 M 12 0 0)
def mR_inside (M : SS) (N G : Nat)  : Int32 := (mMany M 2 N)
def mM_inside (M : SS) (N G : Nat)  : SS := (up2 M 12 0 0)
def mR_starving (M : SS) (N G : Nat)  : Int32 := (mStv M N)
def mM_starving (M : SS) (N G : Nat)  : SS := (up2 M 12 0 0)
def mR_letIn (M : SS) (N G : Nat)  : Int32 := (M 8 1)
def mM_letIn (M : SS) (N G : Nat)  : SS := (up2 M 12 0 0)
def mR_givenUp (M : SS) (N G : Nat)  : Int32 := (M 8 2)
def mM_givenUp (M : SS) (N G : Nat)  : SS := (up2 M 12 0 0)
def mR_permitsOf (M : SS) (N G : Nat) (g : Int32) : Int32 := (if (mGate (up2 M 12 0 0) g) = 0 then 0 else (M 9 g.toNatClampNeg))
def mM_permitsOf (M : SS) (N G : Nat) (g : Int32) : SS := (if (mGate (up2 M 12 0 0) g) = 0 then (up2 (up2 M 12 0 0) 12 0 1) else (up2 M 12 0 0))
def mR_freeOf (M : SS) (N G : Nat) (g : Int32) : Int32 := (if (mGate (up2 M 12 0 0) g) = 0 then 0 else (mFree (up2 M 12 0 0) g.toNatClampNeg N))
def mM_freeOf (M : SS) (N G : Nat) (g : Int32) : SS := (if (mGate (up2 M 12 0 0) g) = 0 then (up2 (up2 M 12 0 0) 12 0 1) else (up2 M 12 0 0))
def mR_nextAt (M : SS) (N G : Nat) (g : Int32) : Int32 := (if (mGate (up2 M 12 0 0) g) = 0 then 0 else (mNx (up2 M 12 0 0) g.toNatClampNeg N))
def mM_nextAt (M : SS) (N G : Nat) (g : Int32) : SS := (if (mGate (up2 M 12 0 0) g) = 0 then (up2 (up2 M 12 0 0) 12 0 1) else (up2 M 12 0 0))
def mR_waitingAt (M : SS) (N G : Nat) (g : Int32) : Int32 := (if (mGate (up2 M 12 0 0) g) = 0 then 0 else (mMat (up2 M 12 0 0) g N))
def mM_waitingAt (M : SS) (N G : Nat) (g : Int32) : SS := (if (mGate (up2 M 12 0 0) g) = 0 then (up2 (up2 M 12 0 0) 12 0 1) else (up2 M 12 0 0))
def mR_permitsWanted (M : SS) (N G : Nat) (g : Int32) : Int32 := (if (mGate (up2 M 12 0 0) g) = 0 then 0 else (mWan (up2 M 12 0 0) G N g.toNatClampNeg))
def mM_permitsWanted (M : SS) (N G : Nat) (g : Int32) : SS := (if (mGate (up2 M 12 0 0) g) = 0 then (up2 (up2 M 12 0 0) 12 0 1) else (up2 M 12 0 0))
def mK_permitsWanted (M K : SS) (N G : Nat) (g : Int32) : SS := (if (mGate (up2 M 12 0 0) g) = 0 then K else (mWk (up2 M 12 0 0) K g.toNatClampNeg (mWn (up2 M 12 0 0) G N g.toNatClampNeg)))
def mR_bestOrder (M : SS) (N G : Nat) (g : Int32) : Int32 := (if (mGate (up2 M 12 0 0) g) = 0 then 0 else (mBet (up2 M 12 0 0) G N g.toNatClampNeg))
def mM_bestOrder (M : SS) (N G : Nat) (g : Int32) : SS := (if (mGate (up2 M 12 0 0) g) = 0 then (up2 (up2 M 12 0 0) 12 0 1) else (up2 M 12 0 0))
def mK_bestOrder (M K : SS) (N G : Nat) (g : Int32) : SS := (if (mGate (up2 M 12 0 0) g) = 0 then K else (up2 (up2 M 12 0 0) 10 g.toNatClampNeg 0))
def mR_gateOf (M : SS) (N G : Nat) (k : Int32) : Int32 := (if (mGoat (up2 M 12 0 0) k) = 0 then 0 else (mWhere (up2 M 12 0 0) k.toNatClampNeg))
def mM_gateOf (M : SS) (N G : Nat) (k : Int32) : SS := (if (mGoat (up2 M 12 0 0) k) = 0 then (up2 (up2 M 12 0 0) 12 0 1) else (up2 M 12 0 0))
def mR_holds (M : SS) (N G : Nat) (k : Int32) : Int32 := (if (mGoat (up2 M 12 0 0) k) = 0 then 0 else (mHeld (up2 M 12 0 0) k.toNatClampNeg))
def mM_holds (M : SS) (N G : Nat) (k : Int32) : SS := (if (mGoat (up2 M 12 0 0) k) = 0 then (up2 (up2 M 12 0 0) 12 0 1) else (up2 M 12 0 0))
def mR_seemingHorns (M : SS) (N G : Nat) (k : Int32) : Int32 := (if (mGoat (up2 M 12 0 0) k) = 0 then 0 else (mSeem (up2 M 12 0 0) k.toNatClampNeg))
def mM_seemingHorns (M : SS) (N G : Nat) (k : Int32) : SS := (if (mGoat (up2 M 12 0 0) k) = 0 then (up2 (up2 M 12 0 0) 12 0 1) else (up2 M 12 0 0))
def mR_minutesLeft (M : SS) (N G : Nat) (k : Int32) : Int32 := (if (mGoat (up2 M 12 0 0) k) = 0 then 0 else (mLeft (up2 M 12 0 0) k.toNatClampNeg))
def mM_minutesLeft (M : SS) (N G : Nat) (k : Int32) : SS := (if (mGoat (up2 M 12 0 0) k) = 0 then (up2 (up2 M 12 0 0) 12 0 1) else (up2 M 12 0 0))
def mR_placeInLine (M : SS) (N G : Nat) (k : Int32) : Int32 := (if (mGoat (up2 M 12 0 0) k) = 0 then 0 else (mPl (up2 M 12 0 0) N k.toNatClampNeg))
def mM_placeInLine (M : SS) (N G : Nat) (k : Int32) : SS := (if (mGoat (up2 M 12 0 0) k) = 0 then (up2 (up2 M 12 0 0) 12 0 1) else (up2 M 12 0 0))
def mR_stateOf (M : SS) (N G : Nat) (k : Int32) : Int32 := (if (mGoat (up2 M 12 0 0) k) = 0 then 0 else ((up2 M 12 0 0) 0 k.toNatClampNeg))
def mM_stateOf (M : SS) (N G : Nat) (k : Int32) : SS := (if (mGoat (up2 M 12 0 0) k) = 0 then (up2 (up2 M 12 0 0) 12 0 1) else (up2 M 12 0 0))
def mR_waitedOf (M : SS) (N G : Nat) (k : Int32) : Int32 := (if (mGoat (up2 M 12 0 0) k) = 0 then 0 else ((up2 M 12 0 0) 6 k.toNatClampNeg))
def mM_waitedOf (M : SS) (N G : Nat) (k : Int32) : SS := (if (mGoat (up2 M 12 0 0) k) = 0 then (up2 (up2 M 12 0 0) 12 0 1) else (up2 M 12 0 0))
def mR_minutesUntilIn (M : SS) (N G : Nat) (k : Int32) : Int32 := (if (mGoat (up2 M 12 0 0) k) = 0 then 0 else (mUn (up2 M 12 0 0) G N k.toNatClampNeg))
def mM_minutesUntilIn (M : SS) (N G : Nat) (k : Int32) : SS := (if (mGoat (up2 M 12 0 0) k) = 0 then (up2 (up2 M 12 0 0) 12 0 1) else (up2 M 12 0 0))
def mK_minutesUntilIn (M K : SS) (N G : Nat) (k : Int32) : SS := (if (mGoat (up2 M 12 0 0) k) = 0 then K else (if mIs (up2 M 12 0 0) k.toNatClampNeg 1 = 0 then K else (up2 M 12 0 0)))
def mR_givingUpIn (M : SS) (N G : Nat) (mn : Int32) : Int32 := (if (mIn mn 1 60) = 0 then 0 else (((mIt (up2 M 12 0 0) G N mn.toNatClampNeg) 8 2) - ((up2 M 12 0 0) 8 2)))
def mM_givingUpIn (M : SS) (N G : Nat) (mn : Int32) : SS := (if (mIn mn 1 60) = 0 then (up2 (up2 M 12 0 0) 12 0 1) else (mBack (mIt (up2 M 12 0 0) G N mn.toNatClampNeg) (up2 M 12 0 0)))
def mK_givingUpIn (M K : SS) (N G : Nat) (mn : Int32) : SS := (if (mIn mn 1 60) = 0 then K else (up2 M 12 0 0))
theorem hd_X2_addGate : yX2_addGate.cls = RX2 ∧ yX2_addGate.cls ≠ "java/lang/invoke/MethodHandle" ∧ yX2_addGate.cls ≠ "java/lang/invoke/VarHandle" ∧ (parseMethodDescriptor yX2_addGate.desc).map (fun d => d.parameters.length) = some 2 := by decide +kernel
set_option maxHeartbeats 400000 in
set_option maxRecDepth 100000 in
theorem ct_X2_addGate (l : Launch) (D : va_G) (cI : ClassId) (t : Nat) (q : Nat → Nat) (M K : SS) (a : Int32) (b : Int32) (N : Nat) (hN : M 12 2 = nI N) (hN12 : N ≤ 12) (G : Nat) (hG : M 12 1 = nI G) (hG4 : G ≤ 4) (ht : ∀ (X : SS) (g : Nat), mOpN X g N < 13) : Ct l D [(cI, .int)] yX2_addGate wsX2_addGate 1 22 0 0 [.ref t, .int a, .int b] (mw cI t q M K) (some (.int (mR_addGate M N G a b))) (mw cI t q (mM_addGate M N G a b) K) := by
  refine Ct.ofW (cc := cX2_addGate) (maxL := 3) (ret := (some .int)) (by decide) rfl (Nat.le_of_ble_eq_true rfl) ?_
  intro p e s m below meth c A ls hC hr hlk _ hP hD hS hK hA hl
  have hx := hC.1
  have hb := hC.2.1
  have hinX2 : ∀ w ∈ wsX20, w ∈ wsX2_addGate := fun _ _h => List.mem_cons_of_mem _ (List.mem_append_right _ _h)
  have hl : lv_has ls 3 [(0, .ref t), (1, .int a), (2, .int b)] := hl
  refine lv_aload_n hx hb dX2_addGate_0 rfl (lv_at hl 0 rfl) ?_
  refine lv_iconst (v := 0) hx hb dX2_addGate_1 (by decide) ?_
  refine gt_puti (ws' := (mw cI t q (up2 M 12 0 0) K)) hC 0 2 0 1 hinX2 tyX2_ok nmX2 hK hP hD hS dX2_addGate_2 rfl rfl (by decide) rfl rfl rfl rfl (Nat.le_of_ble_eq_true rfl) (mw_f0 cI t q M K 0) (fun H locs hP hD hS => ?_)
  refine lv_iload_n hx hb dX2_addGate_5 rfl (lv_at hl 1 rfl) ?_
  refine lv_iconst (v := 1) hx hb dX2_addGate_6 (by decide) ?_
  refine lv_bipush (v := 9) hx hb dX2_addGate_7 (by decide) ?_
  refine gt_callS hC 3 (ct_X2_isIn l D a 1 9) gX2_addGate_X2_isIn dX2_addGate_9 hK hP hD hS hA hl.1 rfl hd_X2_isIn ⟨Nat.le_of_ble_eq_true rfl, Nat.le_of_ble_eq_true rfl⟩ ⟨Nat.le_of_ble_eq_true rfl, Nat.le_of_ble_eq_true rfl⟩ rfl rfl (Nat.le_of_ble_eq_true rfl) (fun H locs hP hD hS => ?_)
  refine lv_if_eq (tgt := 24) hx hb dX2_addGate_12 (by decide) (fun c12_1 : (mIn a 1 9) = 0 => ?_) (fun c12_1 : ¬ ((mIn a 1 9) = 0) => ?_)
  · skip
    refine lv_aload_n hx hb dX2_addGate_24 rfl (lv_at hl 0 rfl) ?_
    refine lv_iconst (v := 1) hx hb dX2_addGate_25 (by decide) ?_
    refine gt_call0 hC 0 2 1 (ct_X2_no l D cI t q (up2 M 12 0 0) K 1) gX2_addGate_X2_no dX2_addGate_26 hK hP hD hS hA hl.1 rfl hd_X2_no ⟨Nat.le_of_ble_eq_true rfl, Nat.le_of_ble_eq_true rfl⟩ ⟨Nat.le_of_ble_eq_true rfl, Nat.le_of_ble_eq_true rfl⟩ rfl rfl rfl rfl (Nat.le_of_ble_eq_true rfl) (fun H locs hP hD hS => ?_)
    exact gt_iret hC hr hlk hK (ws := (mw cI t q (up2 (up2 M 12 0 0) 12 0 1) K)) hP hD hS (show some (Value.int 0) = _ from (congrArg (fun z => some (Value.int z)) ((if_pos c12_1).trans rfl).symm)) (congrArg (fun z => mw cI t q z K) ((if_pos c12_1).trans rfl).symm) dX2_addGate_29 (Nat.le_of_ble_eq_true rfl) (Nat.le_of_ble_eq_true rfl)
  · skip
    refine lv_iload_n hx hb dX2_addGate_15 rfl (lv_at hl 2 rfl) ?_
    refine lv_iconst (v := 0) hx hb dX2_addGate_16 (by decide) ?_
    refine lv_iconst (v := 1) hx hb dX2_addGate_17 (by decide) ?_
    refine gt_callS hC 3 (ct_X2_isIn l D b 0 1) gX2_addGate_X2_isIn dX2_addGate_18 hK hP hD hS hA hl.1 rfl hd_X2_isIn ⟨Nat.le_of_ble_eq_true rfl, Nat.le_of_ble_eq_true rfl⟩ ⟨Nat.le_of_ble_eq_true rfl, Nat.le_of_ble_eq_true rfl⟩ rfl rfl (Nat.le_of_ble_eq_true rfl) (fun H locs hP hD hS => ?_)
    refine lv_if_ne (tgt := 30) hx hb dX2_addGate_21 (by decide) (fun c21_2 : ¬ ((mIn b 0 1) = 0) => ?_) (fun c21_2 : (mIn b 0 1) = 0 => ?_)
    · skip
      refine lv_aload_n hx hb dX2_addGate_30 rfl (lv_at hl 0 rfl) ?_
      refine gt_get hC 0 2 1 2 hinX2 hK hP dX2_addGate_31 rfl rfl rfl (by decide) rfl rfl ?_
      refine lv_iconst (v := 4) hx hb dX2_addGate_34 (by decide) ?_
      refine lv_icmp_ne (tgt := 44) hx hb dX2_addGate_35 (by decide) (fun c35_3 : ¬ ((M 12 1) = 4) => ?_) (fun c35_3 : (M 12 1) = 4 => ?_)
      · skip
        have h5 : G < 4 := Nat.lt_of_le_of_ne hG4 (fun z => c35_3 (by rw [hG, z]; rfl))
        refine lv_aload_n hx hb dX2_addGate_44 rfl (lv_at hl 0 rfl) ?_
        refine gt_get hC 0 2 3 3 hinX2 hK hP dX2_addGate_45 rfl rfl rfl (by decide) rfl rfl ?_
        refine lv_aload_n hx hb dX2_addGate_48 rfl (lv_at hl 0 rfl) ?_
        refine gt_get hC 0 2 1 2 hinX2 hK hP dX2_addGate_49 rfl rfl rfl (by decide) rfl rfl ?_
        refine lv_iload_n hx hb dX2_addGate_52 rfl (lv_at hl 1 rfl) ?_
        refine gt_ast (ws' := (mw cI t q (up2 (up2 M 12 0 0) 9 G a) K)) hC 1 0 G hK hP hD hS dX2_addGate_53 rfl rfl hG (by omega) (Nat.le_of_ble_eq_true rfl) (mw_a3 cI t q (up2 M 12 0 0) K G a) (fun H locs hP hD hS => ?_)
        refine lv_aload_n hx hb dX2_addGate_54 rfl (lv_at hl 0 rfl) ?_
        refine gt_get hC 0 2 4 4 hinX2 hK hP dX2_addGate_55 rfl rfl rfl (by decide) rfl rfl ?_
        refine lv_aload_n hx hb dX2_addGate_58 rfl (lv_at hl 0 rfl) ?_
        refine gt_get hC 0 2 1 2 hinX2 hK hP dX2_addGate_59 rfl rfl rfl (by decide) rfl rfl ?_
        refine lv_iload_n hx hb dX2_addGate_62 rfl (lv_at hl 2 rfl) ?_
        refine gt_ast (ws' := (mw cI t q (up2 (up2 (up2 M 12 0 0) 9 G a) 10 G b) K)) hC 2 0 G hK hP hD hS dX2_addGate_63 rfl rfl hG (by omega) (Nat.le_of_ble_eq_true rfl) (mw_a4 cI t q (up2 (up2 M 12 0 0) 9 G a) K G b) (fun H locs hP hD hS => ?_)
        refine lv_aload_n hx hb dX2_addGate_64 rfl (lv_at hl 0 rfl) ?_
        refine lv_dup hx hb dX2_addGate_65 rfl ?_
        refine gt_get hC 0 2 1 2 hinX2 hK hP dX2_addGate_66 rfl rfl rfl (by decide) rfl rfl ?_
        refine lv_iconst (v := 1) hx hb dX2_addGate_69 (by decide) ?_
        refine lv_iadd hx hb dX2_addGate_70 ?_
        refine gt_puti (ws' := (mw cI t q (up2 (up2 (up2 (up2 M 12 0 0) 9 G a) 10 G b) 12 1 ((M 12 1) + 1)) K)) hC 0 2 1 2 hinX2 tyX2_ok nmX2 hK hP hD hS dX2_addGate_71 rfl rfl (by decide) rfl rfl rfl rfl (Nat.le_of_ble_eq_true rfl) (mw_f1 cI t q (up2 (up2 (up2 M 12 0 0) 9 G a) 10 G b) K ((M 12 1) + 1)) (fun H locs hP hD hS => ?_)
        refine lv_aload_n hx hb dX2_addGate_74 rfl (lv_at hl 0 rfl) ?_
        refine gt_get hC 0 2 1 2 hinX2 hK hP dX2_addGate_75 rfl rfl rfl (by decide) rfl rfl ?_
        refine lv_iconst (v := 1) hx hb dX2_addGate_78 (by decide) ?_
        refine lv_isub hx hb dX2_addGate_79 ?_
        exact gt_iret hC hr hlk hK (ws := (mw cI t q (up2 (up2 (up2 (up2 M 12 0 0) 9 G a) 10 G b) 12 1 ((M 12 1) + 1)) K)) hP hD hS (show some (Value.int (((M 12 1) + 1) - 1)) = _ from (congrArg (fun z => some (Value.int z)) ((if_neg c12_1).trans ((if_neg c21_2).trans ((if_neg c35_3).trans rfl))).symm)) (congrArg (fun z => mw cI t q z K) ((if_neg c12_1).trans ((if_neg c21_2).trans ((if_neg c35_3).trans rfl))).symm) dX2_addGate_80 (Nat.le_of_ble_eq_true rfl) (Nat.le_of_ble_eq_true rfl)
      · skip
        refine lv_aload_n hx hb dX2_addGate_38 rfl (lv_at hl 0 rfl) ?_
        refine lv_iconst (v := 2) hx hb dX2_addGate_39 (by decide) ?_
        refine gt_call0 hC 0 2 1 (ct_X2_no l D cI t q (up2 M 12 0 0) K 2) gX2_addGate_X2_no dX2_addGate_40 hK hP hD hS hA hl.1 rfl hd_X2_no ⟨Nat.le_of_ble_eq_true rfl, Nat.le_of_ble_eq_true rfl⟩ ⟨Nat.le_of_ble_eq_true rfl, Nat.le_of_ble_eq_true rfl⟩ rfl rfl rfl rfl (Nat.le_of_ble_eq_true rfl) (fun H locs hP hD hS => ?_)
        exact gt_iret hC hr hlk hK (ws := (mw cI t q (up2 (up2 M 12 0 0) 12 0 2) K)) hP hD hS (show some (Value.int 0) = _ from (congrArg (fun z => some (Value.int z)) ((if_neg c12_1).trans ((if_neg c21_2).trans ((if_pos c35_3).trans rfl))).symm)) (congrArg (fun z => mw cI t q z K) ((if_neg c12_1).trans ((if_neg c21_2).trans ((if_pos c35_3).trans rfl))).symm) dX2_addGate_43 (Nat.le_of_ble_eq_true rfl) (Nat.le_of_ble_eq_true rfl)
    · skip
      refine lv_aload_n hx hb dX2_addGate_24 rfl (lv_at hl 0 rfl) ?_
      refine lv_iconst (v := 1) hx hb dX2_addGate_25 (by decide) ?_
      refine gt_call0 hC 0 2 1 (ct_X2_no l D cI t q (up2 M 12 0 0) K 1) gX2_addGate_X2_no dX2_addGate_26 hK hP hD hS hA hl.1 rfl hd_X2_no ⟨Nat.le_of_ble_eq_true rfl, Nat.le_of_ble_eq_true rfl⟩ ⟨Nat.le_of_ble_eq_true rfl, Nat.le_of_ble_eq_true rfl⟩ rfl rfl rfl rfl (Nat.le_of_ble_eq_true rfl) (fun H locs hP hD hS => ?_)
      exact gt_iret hC hr hlk hK (ws := (mw cI t q (up2 (up2 M 12 0 0) 12 0 1) K)) hP hD hS (show some (Value.int 0) = _ from (congrArg (fun z => some (Value.int z)) ((if_neg c12_1).trans ((if_pos c21_2).trans rfl)).symm)) (congrArg (fun z => mw cI t q z K) ((if_neg c12_1).trans ((if_pos c21_2).trans rfl)).symm) dX2_addGate_29 (Nat.le_of_ble_eq_true rfl) (Nat.le_of_ble_eq_true rfl)

theorem hd_X2_addGoat : yX2_addGoat.cls = RX2 ∧ yX2_addGoat.cls ≠ "java/lang/invoke/MethodHandle" ∧ yX2_addGoat.cls ≠ "java/lang/invoke/VarHandle" ∧ (parseMethodDescriptor yX2_addGoat.desc).map (fun d => d.parameters.length) = some 1 := by decide +kernel
set_option maxHeartbeats 400000 in
set_option maxRecDepth 100000 in
theorem ct_X2_addGoat (l : Launch) (D : va_G) (cI : ClassId) (t : Nat) (q : Nat → Nat) (M K : SS) (a : Int32) (N : Nat) (hN : M 12 2 = nI N) (hN12 : N ≤ 12) (G : Nat) (hG : M 12 1 = nI G) (hG4 : G ≤ 4) (ht : ∀ (X : SS) (g : Nat), mOpN X g N < 13) : Ct l D [(cI, .int)] yX2_addGoat wsX2_addGoat 1 22 0 0 [.ref t, .int a] (mw cI t q M K) (some (.int (mR_addGoat M N G a))) (mw cI t q (mM_addGoat M N G a) K) := by
  refine Ct.ofW (cc := cX2_addGoat) (maxL := 2) (ret := (some .int)) (by decide) rfl (Nat.le_of_ble_eq_true rfl) ?_
  intro p e s m below meth c A ls hC hr hlk _ hP hD hS hK hA hl
  have hx := hC.1
  have hb := hC.2.1
  have hinX2 : ∀ w ∈ wsX20, w ∈ wsX2_addGoat := fun _ _h => List.mem_cons_of_mem _ (List.mem_append_right _ _h)
  have hl : lv_has ls 2 [(0, .ref t), (1, .int a)] := hl
  refine lv_aload_n hx hb dX2_addGoat_0 rfl (lv_at hl 0 rfl) ?_
  refine lv_iconst (v := 0) hx hb dX2_addGoat_1 (by decide) ?_
  refine gt_puti (ws' := (mw cI t q (up2 M 12 0 0) K)) hC 0 2 0 1 hinX2 tyX2_ok nmX2 hK hP hD hS dX2_addGoat_2 rfl rfl (by decide) rfl rfl rfl rfl (Nat.le_of_ble_eq_true rfl) (mw_f0 cI t q M K 0) (fun H locs hP hD hS => ?_)
  refine lv_iload_n hx hb dX2_addGoat_5 rfl (lv_at hl 1 rfl) ?_
  refine lv_iconst (v := 1) hx hb dX2_addGoat_6 (by decide) ?_
  refine lv_bipush (v := 9) hx hb dX2_addGoat_7 (by decide) ?_
  refine gt_callS hC 3 (ct_X2_isIn l D a 1 9) gX2_addGoat_X2_isIn dX2_addGoat_9 hK hP hD hS hA hl.1 rfl hd_X2_isIn ⟨Nat.le_of_ble_eq_true rfl, Nat.le_of_ble_eq_true rfl⟩ ⟨Nat.le_of_ble_eq_true rfl, Nat.le_of_ble_eq_true rfl⟩ rfl rfl (Nat.le_of_ble_eq_true rfl) (fun H locs hP hD hS => ?_)
  refine lv_if_ne (tgt := 21) hx hb dX2_addGoat_12 (by decide) (fun c12_1 : ¬ ((mIn a 1 9) = 0) => ?_) (fun c12_1 : (mIn a 1 9) = 0 => ?_)
  · skip
    refine lv_aload_n hx hb dX2_addGoat_21 rfl (lv_at hl 0 rfl) ?_
    refine gt_get hC 0 2 2 2 hinX2 hK hP dX2_addGoat_22 rfl rfl rfl (by decide) rfl rfl ?_
    refine lv_bipush (v := 12) hx hb dX2_addGoat_25 (by decide) ?_
    refine lv_icmp_ne (tgt := 36) hx hb dX2_addGoat_27 (by decide) (fun c27_2 : ¬ ((M 12 2) = 12) => ?_) (fun c27_2 : (M 12 2) = 12 => ?_)
    · skip
      have h5 : N < 12 := Nat.lt_of_le_of_ne hN12 (fun z => c27_2 (by rw [hN, z]; rfl))
      refine lv_aload_n hx hb dX2_addGoat_36 rfl (lv_at hl 0 rfl) ?_
      refine gt_get hC 0 2 5 3 hinX2 hK hP dX2_addGoat_37 rfl rfl rfl (by decide) rfl rfl ?_
      refine lv_aload_n hx hb dX2_addGoat_40 rfl (lv_at hl 0 rfl) ?_
      refine gt_get hC 0 2 2 2 hinX2 hK hP dX2_addGoat_41 rfl rfl rfl (by decide) rfl rfl ?_
      refine lv_iload_n hx hb dX2_addGoat_44 rfl (lv_at hl 1 rfl) ?_
      refine gt_ast (ws' := (mw cI t q (up2 (up2 M 12 0 0) 11 N a) K)) hC 3 0 N hK hP hD hS dX2_addGoat_45 rfl rfl hN (by omega) (Nat.le_of_ble_eq_true rfl) (mw_a5 cI t q (up2 M 12 0 0) K N a) (fun H locs hP hD hS => ?_)
      refine lv_aload_n hx hb dX2_addGoat_46 rfl (lv_at hl 0 rfl) ?_
      refine lv_dup hx hb dX2_addGoat_47 rfl ?_
      refine gt_get hC 0 2 2 2 hinX2 hK hP dX2_addGoat_48 rfl rfl rfl (by decide) rfl rfl ?_
      refine lv_iconst (v := 1) hx hb dX2_addGoat_51 (by decide) ?_
      refine lv_iadd hx hb dX2_addGoat_52 ?_
      refine gt_puti (ws' := (mw cI t q (up2 (up2 (up2 M 12 0 0) 11 N a) 12 2 ((M 12 2) + 1)) K)) hC 0 2 2 2 hinX2 tyX2_ok nmX2 hK hP hD hS dX2_addGoat_53 rfl rfl (by decide) rfl rfl rfl rfl (Nat.le_of_ble_eq_true rfl) (mw_f2 cI t q (up2 (up2 M 12 0 0) 11 N a) K ((M 12 2) + 1)) (fun H locs hP hD hS => ?_)
      refine lv_aload_n hx hb dX2_addGoat_56 rfl (lv_at hl 0 rfl) ?_
      refine gt_get hC 0 2 2 2 hinX2 hK hP dX2_addGoat_57 rfl rfl rfl (by decide) rfl rfl ?_
      refine lv_iconst (v := 1) hx hb dX2_addGoat_60 (by decide) ?_
      refine lv_isub hx hb dX2_addGoat_61 ?_
      exact gt_iret hC hr hlk hK (ws := (mw cI t q (up2 (up2 (up2 M 12 0 0) 11 N a) 12 2 ((M 12 2) + 1)) K)) hP hD hS (show some (Value.int (((M 12 2) + 1) - 1)) = _ from (congrArg (fun z => some (Value.int z)) ((if_neg c12_1).trans ((if_neg c27_2).trans rfl)).symm)) (congrArg (fun z => mw cI t q z K) ((if_neg c12_1).trans ((if_neg c27_2).trans rfl)).symm) dX2_addGoat_62 (Nat.le_of_ble_eq_true rfl) (Nat.le_of_ble_eq_true rfl)
    · skip
      refine lv_aload_n hx hb dX2_addGoat_30 rfl (lv_at hl 0 rfl) ?_
      refine lv_iconst (v := 2) hx hb dX2_addGoat_31 (by decide) ?_
      refine gt_call0 hC 0 2 1 (ct_X2_no l D cI t q (up2 M 12 0 0) K 2) gX2_addGoat_X2_no dX2_addGoat_32 hK hP hD hS hA hl.1 rfl hd_X2_no ⟨Nat.le_of_ble_eq_true rfl, Nat.le_of_ble_eq_true rfl⟩ ⟨Nat.le_of_ble_eq_true rfl, Nat.le_of_ble_eq_true rfl⟩ rfl rfl rfl rfl (Nat.le_of_ble_eq_true rfl) (fun H locs hP hD hS => ?_)
      exact gt_iret hC hr hlk hK (ws := (mw cI t q (up2 (up2 M 12 0 0) 12 0 2) K)) hP hD hS (show some (Value.int 0) = _ from (congrArg (fun z => some (Value.int z)) ((if_neg c12_1).trans ((if_pos c27_2).trans rfl)).symm)) (congrArg (fun z => mw cI t q z K) ((if_neg c12_1).trans ((if_pos c27_2).trans rfl)).symm) dX2_addGoat_35 (Nat.le_of_ble_eq_true rfl) (Nat.le_of_ble_eq_true rfl)
  · skip
    refine lv_aload_n hx hb dX2_addGoat_15 rfl (lv_at hl 0 rfl) ?_
    refine lv_iconst (v := 1) hx hb dX2_addGoat_16 (by decide) ?_
    refine gt_call0 hC 0 2 1 (ct_X2_no l D cI t q (up2 M 12 0 0) K 1) gX2_addGoat_X2_no dX2_addGoat_17 hK hP hD hS hA hl.1 rfl hd_X2_no ⟨Nat.le_of_ble_eq_true rfl, Nat.le_of_ble_eq_true rfl⟩ ⟨Nat.le_of_ble_eq_true rfl, Nat.le_of_ble_eq_true rfl⟩ rfl rfl rfl rfl (Nat.le_of_ble_eq_true rfl) (fun H locs hP hD hS => ?_)
    exact gt_iret hC hr hlk hK (ws := (mw cI t q (up2 (up2 M 12 0 0) 12 0 1) K)) hP hD hS (show some (Value.int 0) = _ from (congrArg (fun z => some (Value.int z)) ((if_pos c12_1).trans rfl).symm)) (congrArg (fun z => mw cI t q z K) ((if_pos c12_1).trans rfl).symm) dX2_addGoat_20 (Nat.le_of_ble_eq_true rfl) (Nat.le_of_ble_eq_true rfl)

theorem hd_X2_ask : yX2_ask.cls = RX2 ∧ yX2_ask.cls ≠ "java/lang/invoke/MethodHandle" ∧ yX2_ask.cls ≠ "java/lang/invoke/VarHandle" ∧ (parseMethodDescriptor yX2_ask.desc).map (fun d => d.parameters.length) = some 5 := by decide +kernel
set_option maxHeartbeats 400000 in
set_option maxRecDepth 100000 in
theorem ct_X2_ask (l : Launch) (D : va_G) (cI : ClassId) (t : Nat) (q : Nat → Nat) (M K : SS) (k : Int32) (g : Int32) (w : Int32) (mi : Int32) (wt : Int32) (N : Nat) (hN : M 12 2 = nI N) (hN12 : N ≤ 12) (G : Nat) (hG : M 12 1 = nI G) (hG4 : G ≤ 4) (ht : ∀ (X : SS) (g : Nat), mOpN X g N < 13) : Ct l D [(cI, .int)] yX2_ask wsX2_ask 4 89 0 0 [.ref t, .int k, .int g, .int w, .int mi, .int wt] (mw cI t q M K) (some (.int (mR_ask M N G k g w mi wt))) (mw cI t q (mM_ask M N G k g w mi wt) K) := by
  refine Ct.ofW (cc := cX2_ask) (maxL := 6) (ret := (some .int)) (by decide) rfl (Nat.le_of_ble_eq_true rfl) ?_
  intro p e s m below meth c A ls hC hr hlk _ hP hD hS hK hA hl
  have hx := hC.1
  have hb := hC.2.1
  have hinX2 : ∀ w ∈ wsX20, w ∈ wsX2_ask := fun _ _h => List.mem_cons_of_mem _ (List.mem_append_right _ _h)
  have hl : lv_has ls 6 [(0, .ref t), (1, .int k), (2, .int g), (3, .int w), (4, .int mi), (5, .int wt)] := hl
  refine lv_aload_n hx hb dX2_ask_0 rfl (lv_at hl 0 rfl) ?_
  refine lv_iconst (v := 0) hx hb dX2_ask_1 (by decide) ?_
  refine gt_puti (ws' := (mw cI t q (up2 M 12 0 0) K)) hC 0 2 0 1 hinX2 tyX2_ok nmX2 hK hP hD hS dX2_ask_2 rfl rfl (by decide) rfl rfl rfl rfl (Nat.le_of_ble_eq_true rfl) (mw_f0 cI t q M K 0) (fun H locs hP hD hS => ?_)
  refine lv_aload_n hx hb dX2_ask_5 rfl (lv_at hl 0 rfl) ?_
  refine lv_iload_n hx hb dX2_ask_6 rfl (lv_at hl 1 rfl) ?_
  refine gt_call0 hC 0 2 1 (ct_X2_isGoat l D cI t q (up2 M 12 0 0) K k) gX2_ask_X2_isGoat dX2_ask_7 hK hP hD hS hA hl.1 rfl hd_X2_isGoat ⟨Nat.le_of_ble_eq_true rfl, Nat.le_of_ble_eq_true rfl⟩ ⟨Nat.le_of_ble_eq_true rfl, Nat.le_of_ble_eq_true rfl⟩ rfl rfl rfl rfl (Nat.le_of_ble_eq_true rfl) (fun H locs hP hD hS => ?_)
  refine lv_if_eq (tgt := 21) hx hb dX2_ask_10 (by decide) (fun c10_1 : (mGoat (up2 M 12 0 0) k) = 0 => ?_) (fun c10_1 : ¬ ((mGoat (up2 M 12 0 0) k) = 0) => ?_)
  · skip
    refine lv_aload_n hx hb dX2_ask_21 rfl (lv_at hl 0 rfl) ?_
    refine lv_iconst (v := 1) hx hb dX2_ask_22 (by decide) ?_
    refine gt_call0 hC 0 2 1 (ct_X2_no l D cI t q (up2 M 12 0 0) K 1) gX2_ask_X2_no dX2_ask_23 hK hP hD hS hA hl.1 rfl hd_X2_no ⟨Nat.le_of_ble_eq_true rfl, Nat.le_of_ble_eq_true rfl⟩ ⟨Nat.le_of_ble_eq_true rfl, Nat.le_of_ble_eq_true rfl⟩ rfl rfl rfl rfl (Nat.le_of_ble_eq_true rfl) (fun H locs hP hD hS => ?_)
    exact gt_iret hC hr hlk hK (ws := (mw cI t q (up2 (up2 M 12 0 0) 12 0 1) K)) hP hD hS (show some (Value.int 0) = _ from (congrArg (fun z => some (Value.int z)) ((if_pos c10_1).trans rfl).symm)) (congrArg (fun z => mw cI t q z K) ((if_pos c10_1).trans rfl).symm) dX2_ask_26 (Nat.le_of_ble_eq_true rfl) (Nat.le_of_ble_eq_true rfl)
  · skip
    refine lv_aload_n hx hb dX2_ask_13 rfl (lv_at hl 0 rfl) ?_
    refine lv_iload_n hx hb dX2_ask_14 rfl (lv_at hl 2 rfl) ?_
    refine gt_call0 hC 0 2 1 (ct_X2_isGate l D cI t q (up2 M 12 0 0) K g) gX2_ask_X2_isGate dX2_ask_15 hK hP hD hS hA hl.1 rfl hd_X2_isGate ⟨Nat.le_of_ble_eq_true rfl, Nat.le_of_ble_eq_true rfl⟩ ⟨Nat.le_of_ble_eq_true rfl, Nat.le_of_ble_eq_true rfl⟩ rfl rfl rfl rfl (Nat.le_of_ble_eq_true rfl) (fun H locs hP hD hS => ?_)
    refine lv_if_ne (tgt := 27) hx hb dX2_ask_18 (by decide) (fun c18_2 : ¬ ((mGate (up2 M 12 0 0) g) = 0) => ?_) (fun c18_2 : (mGate (up2 M 12 0 0) g) = 0 => ?_)
    · skip
      have h9k := ix_of (f := k) (by omega) (mIn_n hN (by omega) c10_1)
      have h9g := ix_of (f := g) (by omega) (mIn_n hG (by omega) c18_2)
      refine lv_iload_n hx hb dX2_ask_27 rfl (lv_at hl 3 rfl) ?_
      refine lv_iconst (v := 1) hx hb dX2_ask_28 (by decide) ?_
      refine lv_aload_n hx hb dX2_ask_29 rfl (lv_at hl 0 rfl) ?_
      refine gt_get hC 0 2 3 2 hinX2 hK hP dX2_ask_30 rfl rfl rfl (by decide) rfl rfl ?_
      refine lv_iload_n hx hb dX2_ask_33 rfl (lv_at hl 2 rfl) ?_
      refine gt_ald hC 1 0 g.toNatClampNeg hK hP dX2_ask_34 rfl rfl h9g.1 (by omega) (Nat.le_of_ble_eq_true rfl) ?_
      refine gt_callS hC 3 (ct_X2_isIn l D w 1 (M 9 g.toNatClampNeg)) gX2_ask_X2_isIn dX2_ask_35 hK hP hD hS hA hl.1 rfl hd_X2_isIn ⟨Nat.le_of_ble_eq_true rfl, Nat.le_of_ble_eq_true rfl⟩ ⟨Nat.le_of_ble_eq_true rfl, Nat.le_of_ble_eq_true rfl⟩ rfl rfl (Nat.le_of_ble_eq_true rfl) (fun H locs hP hD hS => ?_)
      refine lv_if_eq (tgt := 63) hx hb dX2_ask_38 (by decide) (fun c38_3 : (mIn w 1 (M 9 g.toNatClampNeg)) = 0 => ?_) (fun c38_3 : ¬ ((mIn w 1 (M 9 g.toNatClampNeg)) = 0) => ?_)
      · skip
        refine lv_aload_n hx hb dX2_ask_63 rfl (lv_at hl 0 rfl) ?_
        refine lv_iconst (v := 2) hx hb dX2_ask_64 (by decide) ?_
        refine gt_call0 hC 0 2 1 (ct_X2_no l D cI t q (up2 M 12 0 0) K 2) gX2_ask_X2_no dX2_ask_65 hK hP hD hS hA hl.1 rfl hd_X2_no ⟨Nat.le_of_ble_eq_true rfl, Nat.le_of_ble_eq_true rfl⟩ ⟨Nat.le_of_ble_eq_true rfl, Nat.le_of_ble_eq_true rfl⟩ rfl rfl rfl rfl (Nat.le_of_ble_eq_true rfl) (fun H locs hP hD hS => ?_)
        exact gt_iret hC hr hlk hK (ws := (mw cI t q (up2 (up2 M 12 0 0) 12 0 2) K)) hP hD hS (show some (Value.int 0) = _ from (congrArg (fun z => some (Value.int z)) ((if_neg c10_1).trans ((if_neg c18_2).trans ((if_pos c38_3).trans rfl))).symm)) (congrArg (fun z => mw cI t q z K) ((if_neg c10_1).trans ((if_neg c18_2).trans ((if_pos c38_3).trans rfl))).symm) dX2_ask_68 (Nat.le_of_ble_eq_true rfl) (Nat.le_of_ble_eq_true rfl)
      · skip
        refine lv_iload hx hb dX2_ask_41 (lv_at hl 4 rfl) ?_
        refine lv_iconst (v := 1) hx hb dX2_ask_43 (by decide) ?_
        refine lv_bipush (v := 30) hx hb dX2_ask_44 (by decide) ?_
        refine gt_callS hC 3 (ct_X2_isIn l D mi 1 30) gX2_ask_X2_isIn dX2_ask_46 hK hP hD hS hA hl.1 rfl hd_X2_isIn ⟨Nat.le_of_ble_eq_true rfl, Nat.le_of_ble_eq_true rfl⟩ ⟨Nat.le_of_ble_eq_true rfl, Nat.le_of_ble_eq_true rfl⟩ rfl rfl (Nat.le_of_ble_eq_true rfl) (fun H locs hP hD hS => ?_)
        refine lv_if_eq (tgt := 63) hx hb dX2_ask_49 (by decide) (fun c49_4 : (mIn mi 1 30) = 0 => ?_) (fun c49_4 : ¬ ((mIn mi 1 30) = 0) => ?_)
        · skip
          refine lv_aload_n hx hb dX2_ask_63 rfl (lv_at hl 0 rfl) ?_
          refine lv_iconst (v := 2) hx hb dX2_ask_64 (by decide) ?_
          refine gt_call0 hC 0 2 1 (ct_X2_no l D cI t q (up2 M 12 0 0) K 2) gX2_ask_X2_no dX2_ask_65 hK hP hD hS hA hl.1 rfl hd_X2_no ⟨Nat.le_of_ble_eq_true rfl, Nat.le_of_ble_eq_true rfl⟩ ⟨Nat.le_of_ble_eq_true rfl, Nat.le_of_ble_eq_true rfl⟩ rfl rfl rfl rfl (Nat.le_of_ble_eq_true rfl) (fun H locs hP hD hS => ?_)
          exact gt_iret hC hr hlk hK (ws := (mw cI t q (up2 (up2 M 12 0 0) 12 0 2) K)) hP hD hS (show some (Value.int 0) = _ from (congrArg (fun z => some (Value.int z)) ((if_neg c10_1).trans ((if_neg c18_2).trans ((if_neg c38_3).trans ((if_pos c49_4).trans rfl)))).symm)) (congrArg (fun z => mw cI t q z K) ((if_neg c10_1).trans ((if_neg c18_2).trans ((if_neg c38_3).trans ((if_pos c49_4).trans rfl)))).symm) dX2_ask_68 (Nat.le_of_ble_eq_true rfl) (Nat.le_of_ble_eq_true rfl)
        · skip
          refine lv_iload hx hb dX2_ask_52 (lv_at hl 5 rfl) ?_
          refine lv_iconst (v := 1) hx hb dX2_ask_54 (by decide) ?_
          refine lv_bipush (v := 60) hx hb dX2_ask_55 (by decide) ?_
          refine gt_callS hC 3 (ct_X2_isIn l D wt 1 60) gX2_ask_X2_isIn dX2_ask_57 hK hP hD hS hA hl.1 rfl hd_X2_isIn ⟨Nat.le_of_ble_eq_true rfl, Nat.le_of_ble_eq_true rfl⟩ ⟨Nat.le_of_ble_eq_true rfl, Nat.le_of_ble_eq_true rfl⟩ rfl rfl (Nat.le_of_ble_eq_true rfl) (fun H locs hP hD hS => ?_)
          refine lv_if_ne (tgt := 69) hx hb dX2_ask_60 (by decide) (fun c60_5 : ¬ ((mIn wt 1 60) = 0) => ?_) (fun c60_5 : (mIn wt 1 60) = 0 => ?_)
          · skip
            refine lv_aload_n hx hb dX2_ask_69 rfl (lv_at hl 0 rfl) ?_
            refine lv_iload_n hx hb dX2_ask_70 rfl (lv_at hl 1 rfl) ?_
            refine lv_iconst (v := 0) hx hb dX2_ask_71 (by decide) ?_
            refine gt_stk [.int 0, .int (nI k.toNatClampNeg), .ref t] (congrArg (fun z : Int32 => ([.int 0, .int z, .ref t] : List Value)) h9k.1) ?_
            refine gt_call0 hC 0 2 2 (ct_X2_is l D cI t q (up2 M 12 0 0) K k.toNatClampNeg 0 (by omega)) gX2_ask_X2_is dX2_ask_72 hK hP hD hS hA hl.1 rfl hd_X2_is ⟨Nat.le_of_ble_eq_true rfl, Nat.le_of_ble_eq_true rfl⟩ ⟨Nat.le_of_ble_eq_true rfl, Nat.le_of_ble_eq_true rfl⟩ rfl rfl rfl rfl (Nat.le_of_ble_eq_true rfl) (fun H locs hP hD hS => ?_)
            refine lv_if_ne (tgt := 84) hx hb dX2_ask_75 (by decide) (fun c75_6 : ¬ ((mIs (up2 M 12 0 0) k.toNatClampNeg 0) = 0) => ?_) (fun c75_6 : (mIs (up2 M 12 0 0) k.toNatClampNeg 0) = 0 => ?_)
            · skip
              refine lv_aload_n hx hb dX2_ask_84 rfl (lv_at hl 0 rfl) ?_
              refine lv_iload_n hx hb dX2_ask_85 rfl (lv_at hl 1 rfl) ?_
              refine lv_iconst (v := 1) hx hb dX2_ask_86 (by decide) ?_
              refine lv_iload_n hx hb dX2_ask_87 rfl (lv_at hl 2 rfl) ?_
              refine lv_iload_n hx hb dX2_ask_88 rfl (lv_at hl 3 rfl) ?_
              refine lv_iload hx hb dX2_ask_89 (lv_at hl 4 rfl) ?_
              refine gt_stk [.int mi, .int w, .int g, .int 1, .int (nI k.toNatClampNeg), .ref t] (congrArg (fun z : Int32 => ([.int mi, .int w, .int g, .int 1, .int z, .ref t] : List Value)) h9k.1) ?_
              refine gt_call0 hC 0 2 5 (ct_X2_write l D cI t q (up2 M 12 0 0) K k.toNatClampNeg 1 g w mi (by omega)) gX2_ask_X2_write dX2_ask_91 hK hP hD hS hA hl.1 rfl hd_X2_write ⟨Nat.le_of_ble_eq_true rfl, Nat.le_of_ble_eq_true rfl⟩ ⟨Nat.le_of_ble_eq_true rfl, Nat.le_of_ble_eq_true rfl⟩ rfl rfl rfl rfl (Nat.le_of_ble_eq_true rfl) (fun H locs hP hD hS => ?_)
              refine lv_aload_n hx hb dX2_ask_94 rfl (lv_at hl 0 rfl) ?_
              refine lv_iload_n hx hb dX2_ask_95 rfl (lv_at hl 1 rfl) ?_
              refine lv_iconst (v := 4) hx hb dX2_ask_96 (by decide) ?_
              refine lv_iload hx hb dX2_ask_97 (lv_at hl 5 rfl) ?_
              refine gt_stk [.int wt, .int 4, .int (nI k.toNatClampNeg), .ref t] (congrArg (fun z : Int32 => ([.int wt, .int 4, .int z, .ref t] : List Value)) h9k.1) ?_
              refine gt_call0 hC 0 2 3 (ct_X2_let l D cI t q (up2 (up2 (up2 (up2 (up2 M 12 0 0) 0 k.toNatClampNeg 1) 1 k.toNatClampNeg g) 2 k.toNatClampNeg w) 3 k.toNatClampNeg mi) K k.toNatClampNeg 4 wt (by omega) (by decide)) gX2_ask_X2_let dX2_ask_99 hK hP hD hS hA hl.1 rfl hd_X2_let ⟨Nat.le_of_ble_eq_true rfl, Nat.le_of_ble_eq_true rfl⟩ ⟨Nat.le_of_ble_eq_true rfl, Nat.le_of_ble_eq_true rfl⟩ rfl rfl rfl rfl (Nat.le_of_ble_eq_true rfl) (fun H locs hP hD hS => ?_)
              refine lv_aload_n hx hb dX2_ask_102 rfl (lv_at hl 0 rfl) ?_
              refine lv_iload_n hx hb dX2_ask_103 rfl (lv_at hl 1 rfl) ?_
              refine lv_iconst (v := 5) hx hb dX2_ask_104 (by decide) ?_
              refine lv_iconst (v := 0) hx hb dX2_ask_105 (by decide) ?_
              refine gt_stk [.int 0, .int 5, .int (nI k.toNatClampNeg), .ref t] (congrArg (fun z : Int32 => ([.int 0, .int 5, .int z, .ref t] : List Value)) h9k.1) ?_
              refine gt_call0 hC 0 2 3 (ct_X2_let l D cI t q (up2 (up2 (up2 (up2 (up2 (up2 M 12 0 0) 0 k.toNatClampNeg 1) 1 k.toNatClampNeg g) 2 k.toNatClampNeg w) 3 k.toNatClampNeg mi) 4 k.toNatClampNeg wt) K k.toNatClampNeg 5 0 (by omega) (by decide)) gX2_ask_X2_let dX2_ask_106 hK hP hD hS hA hl.1 rfl hd_X2_let ⟨Nat.le_of_ble_eq_true rfl, Nat.le_of_ble_eq_true rfl⟩ ⟨Nat.le_of_ble_eq_true rfl, Nat.le_of_ble_eq_true rfl⟩ rfl rfl rfl rfl (Nat.le_of_ble_eq_true rfl) (fun H locs hP hD hS => ?_)
              refine lv_aload_n hx hb dX2_ask_109 rfl (lv_at hl 0 rfl) ?_
              refine lv_iload_n hx hb dX2_ask_110 rfl (lv_at hl 1 rfl) ?_
              refine lv_bipush (v := 7) hx hb dX2_ask_111 (by decide) ?_
              refine lv_aload_n hx hb dX2_ask_113 rfl (lv_at hl 0 rfl) ?_
              refine gt_get hC 0 2 6 3 hinX2 hK hP dX2_ask_114 rfl rfl rfl (by decide) rfl rfl ?_
              refine lv_iconst (v := 3) hx hb dX2_ask_117 (by decide) ?_
              refine gt_ald hC 4 0 3 hK hP dX2_ask_118 rfl rfl (by decide) (by decide) (Nat.le_of_ble_eq_true rfl) ?_
              refine gt_stk [.int ((up2 (up2 (up2 (up2 (up2 M 12 0 0) 0 k.toNatClampNeg 1) 1 k.toNatClampNeg g) 2 k.toNatClampNeg w) 3 k.toNatClampNeg mi) 8 3), .int 7, .int (nI k.toNatClampNeg), .ref t] (congrArg (fun z : Int32 => ([.int ((up2 (up2 (up2 (up2 (up2 M 12 0 0) 0 k.toNatClampNeg 1) 1 k.toNatClampNeg g) 2 k.toNatClampNeg w) 3 k.toNatClampNeg mi) 8 3), .int 7, .int z, .ref t] : List Value)) h9k.1) ?_
              refine gt_call0 hC 0 2 3 (ct_X2_let l D cI t q (up2 (up2 (up2 (up2 (up2 (up2 (up2 M 12 0 0) 0 k.toNatClampNeg 1) 1 k.toNatClampNeg g) 2 k.toNatClampNeg w) 3 k.toNatClampNeg mi) 4 k.toNatClampNeg wt) 5 k.toNatClampNeg 0) K k.toNatClampNeg 7 ((up2 (up2 (up2 (up2 (up2 M 12 0 0) 0 k.toNatClampNeg 1) 1 k.toNatClampNeg g) 2 k.toNatClampNeg w) 3 k.toNatClampNeg mi) 8 3) (by omega) (by decide)) gX2_ask_X2_let dX2_ask_119 hK hP hD hS hA hl.1 rfl hd_X2_let ⟨Nat.le_of_ble_eq_true rfl, Nat.le_of_ble_eq_true rfl⟩ ⟨Nat.le_of_ble_eq_true rfl, Nat.le_of_ble_eq_true rfl⟩ rfl rfl rfl rfl (Nat.le_of_ble_eq_true rfl) (fun H locs hP hD hS => ?_)
              refine lv_aload_n hx hb dX2_ask_122 rfl (lv_at hl 0 rfl) ?_
              refine gt_get hC 0 2 6 3 hinX2 hK hP dX2_ask_123 rfl rfl rfl (by decide) rfl rfl ?_
              refine lv_iconst (v := 3) hx hb dX2_ask_126 (by decide) ?_
              refine lv_dup2_11 hx hb dX2_ask_127 rfl rfl ?_
              refine gt_ald hC 4 0 3 hK hP dX2_ask_128 rfl rfl (by decide) (by decide) (Nat.le_of_ble_eq_true rfl) ?_
              refine lv_iconst (v := 1) hx hb dX2_ask_129 (by decide) ?_
              refine lv_iadd hx hb dX2_ask_130 ?_
              refine gt_ast (ws' := (mw cI t q (up2 (up2 (up2 (up2 (up2 (up2 (up2 (up2 (up2 M 12 0 0) 0 k.toNatClampNeg 1) 1 k.toNatClampNeg g) 2 k.toNatClampNeg w) 3 k.toNatClampNeg mi) 4 k.toNatClampNeg wt) 5 k.toNatClampNeg 0) 7 k.toNatClampNeg ((up2 (up2 (up2 (up2 (up2 M 12 0 0) 0 k.toNatClampNeg 1) 1 k.toNatClampNeg g) 2 k.toNatClampNeg w) 3 k.toNatClampNeg mi) 8 3)) 8 3 (((up2 (up2 (up2 (up2 (up2 M 12 0 0) 0 k.toNatClampNeg 1) 1 k.toNatClampNeg g) 2 k.toNatClampNeg w) 3 k.toNatClampNeg mi) 8 3) + 1)) K)) hC 4 0 3 hK hP hD hS dX2_ask_131 rfl rfl (by decide) (by decide) (Nat.le_of_ble_eq_true rfl) (mw_hdr cI t q (up2 (up2 (up2 (up2 (up2 (up2 (up2 (up2 M 12 0 0) 0 k.toNatClampNeg 1) 1 k.toNatClampNeg g) 2 k.toNatClampNeg w) 3 k.toNatClampNeg mi) 4 k.toNatClampNeg wt) 5 k.toNatClampNeg 0) 7 k.toNatClampNeg ((up2 (up2 (up2 (up2 (up2 M 12 0 0) 0 k.toNatClampNeg 1) 1 k.toNatClampNeg g) 2 k.toNatClampNeg w) 3 k.toNatClampNeg mi) 8 3)) K 3 (((up2 (up2 (up2 (up2 (up2 M 12 0 0) 0 k.toNatClampNeg 1) 1 k.toNatClampNeg g) 2 k.toNatClampNeg w) 3 k.toNatClampNeg mi) 8 3) + 1) (by decide)) (fun H locs hP hD hS => ?_)
              refine lv_aload_n hx hb dX2_ask_132 rfl (lv_at hl 0 rfl) ?_
              refine lv_iload_n hx hb dX2_ask_133 rfl (lv_at hl 2 rfl) ?_
              refine gt_call0 hC 0 2 1 (ct_X2_manyAt l D cI t q (up2 (up2 (up2 (up2 (up2 (up2 (up2 (up2 (up2 M 12 0 0) 0 k.toNatClampNeg 1) 1 k.toNatClampNeg g) 2 k.toNatClampNeg w) 3 k.toNatClampNeg mi) 4 k.toNatClampNeg wt) 5 k.toNatClampNeg 0) 7 k.toNatClampNeg ((up2 (up2 (up2 (up2 (up2 M 12 0 0) 0 k.toNatClampNeg 1) 1 k.toNatClampNeg g) 2 k.toNatClampNeg w) 3 k.toNatClampNeg mi) 8 3)) 8 3 (((up2 (up2 (up2 (up2 (up2 M 12 0 0) 0 k.toNatClampNeg 1) 1 k.toNatClampNeg g) 2 k.toNatClampNeg w) 3 k.toNatClampNeg mi) 8 3) + 1)) K g N hN hN12) gX2_ask_X2_manyAt dX2_ask_134 hK hP hD hS hA hl.1 rfl hd_X2_manyAt ⟨Nat.le_of_ble_eq_true rfl, Nat.le_of_ble_eq_true rfl⟩ ⟨Nat.le_of_ble_eq_true rfl, Nat.le_of_ble_eq_true rfl⟩ rfl rfl rfl rfl (Nat.le_of_ble_eq_true rfl) (fun H locs hP hD hS => ?_)
              exact gt_iret hC hr hlk hK (ws := (mw cI t q (up2 (up2 (up2 (up2 (up2 (up2 (up2 (up2 (up2 M 12 0 0) 0 k.toNatClampNeg 1) 1 k.toNatClampNeg g) 2 k.toNatClampNeg w) 3 k.toNatClampNeg mi) 4 k.toNatClampNeg wt) 5 k.toNatClampNeg 0) 7 k.toNatClampNeg ((up2 (up2 (up2 (up2 (up2 M 12 0 0) 0 k.toNatClampNeg 1) 1 k.toNatClampNeg g) 2 k.toNatClampNeg w) 3 k.toNatClampNeg mi) 8 3)) 8 3 (((up2 (up2 (up2 (up2 (up2 M 12 0 0) 0 k.toNatClampNeg 1) 1 k.toNatClampNeg g) 2 k.toNatClampNeg w) 3 k.toNatClampNeg mi) 8 3) + 1)) K)) hP hD hS (show some (Value.int (mMat (up2 (up2 (up2 (up2 (up2 (up2 (up2 (up2 (up2 M 12 0 0) 0 k.toNatClampNeg 1) 1 k.toNatClampNeg g) 2 k.toNatClampNeg w) 3 k.toNatClampNeg mi) 4 k.toNatClampNeg wt) 5 k.toNatClampNeg 0) 7 k.toNatClampNeg ((up2 (up2 (up2 (up2 (up2 M 12 0 0) 0 k.toNatClampNeg 1) 1 k.toNatClampNeg g) 2 k.toNatClampNeg w) 3 k.toNatClampNeg mi) 8 3)) 8 3 (((up2 (up2 (up2 (up2 (up2 M 12 0 0) 0 k.toNatClampNeg 1) 1 k.toNatClampNeg g) 2 k.toNatClampNeg w) 3 k.toNatClampNeg mi) 8 3) + 1)) g N)) = _ from (congrArg (fun z => some (Value.int z)) ((if_neg c10_1).trans ((if_neg c18_2).trans ((if_neg c38_3).trans ((if_neg c49_4).trans ((if_neg c60_5).trans ((if_neg c75_6).trans rfl)))))).symm)) (congrArg (fun z => mw cI t q z K) ((if_neg c10_1).trans ((if_neg c18_2).trans ((if_neg c38_3).trans ((if_neg c49_4).trans ((if_neg c60_5).trans ((if_neg c75_6).trans rfl)))))).symm) dX2_ask_137 (Nat.le_of_ble_eq_true rfl) (Nat.le_of_ble_eq_true rfl)
            · skip
              refine lv_aload_n hx hb dX2_ask_78 rfl (lv_at hl 0 rfl) ?_
              refine lv_iconst (v := 3) hx hb dX2_ask_79 (by decide) ?_
              refine gt_call0 hC 0 2 1 (ct_X2_no l D cI t q (up2 M 12 0 0) K 3) gX2_ask_X2_no dX2_ask_80 hK hP hD hS hA hl.1 rfl hd_X2_no ⟨Nat.le_of_ble_eq_true rfl, Nat.le_of_ble_eq_true rfl⟩ ⟨Nat.le_of_ble_eq_true rfl, Nat.le_of_ble_eq_true rfl⟩ rfl rfl rfl rfl (Nat.le_of_ble_eq_true rfl) (fun H locs hP hD hS => ?_)
              exact gt_iret hC hr hlk hK (ws := (mw cI t q (up2 (up2 M 12 0 0) 12 0 3) K)) hP hD hS (show some (Value.int 0) = _ from (congrArg (fun z => some (Value.int z)) ((if_neg c10_1).trans ((if_neg c18_2).trans ((if_neg c38_3).trans ((if_neg c49_4).trans ((if_neg c60_5).trans ((if_pos c75_6).trans rfl)))))).symm)) (congrArg (fun z => mw cI t q z K) ((if_neg c10_1).trans ((if_neg c18_2).trans ((if_neg c38_3).trans ((if_neg c49_4).trans ((if_neg c60_5).trans ((if_pos c75_6).trans rfl)))))).symm) dX2_ask_83 (Nat.le_of_ble_eq_true rfl) (Nat.le_of_ble_eq_true rfl)
          · skip
            refine lv_aload_n hx hb dX2_ask_63 rfl (lv_at hl 0 rfl) ?_
            refine lv_iconst (v := 2) hx hb dX2_ask_64 (by decide) ?_
            refine gt_call0 hC 0 2 1 (ct_X2_no l D cI t q (up2 M 12 0 0) K 2) gX2_ask_X2_no dX2_ask_65 hK hP hD hS hA hl.1 rfl hd_X2_no ⟨Nat.le_of_ble_eq_true rfl, Nat.le_of_ble_eq_true rfl⟩ ⟨Nat.le_of_ble_eq_true rfl, Nat.le_of_ble_eq_true rfl⟩ rfl rfl rfl rfl (Nat.le_of_ble_eq_true rfl) (fun H locs hP hD hS => ?_)
            exact gt_iret hC hr hlk hK (ws := (mw cI t q (up2 (up2 M 12 0 0) 12 0 2) K)) hP hD hS (show some (Value.int 0) = _ from (congrArg (fun z => some (Value.int z)) ((if_neg c10_1).trans ((if_neg c18_2).trans ((if_neg c38_3).trans ((if_neg c49_4).trans ((if_pos c60_5).trans rfl))))).symm)) (congrArg (fun z => mw cI t q z K) ((if_neg c10_1).trans ((if_neg c18_2).trans ((if_neg c38_3).trans ((if_neg c49_4).trans ((if_pos c60_5).trans rfl))))).symm) dX2_ask_68 (Nat.le_of_ble_eq_true rfl) (Nat.le_of_ble_eq_true rfl)
    · skip
      refine lv_aload_n hx hb dX2_ask_21 rfl (lv_at hl 0 rfl) ?_
      refine lv_iconst (v := 1) hx hb dX2_ask_22 (by decide) ?_
      refine gt_call0 hC 0 2 1 (ct_X2_no l D cI t q (up2 M 12 0 0) K 1) gX2_ask_X2_no dX2_ask_23 hK hP hD hS hA hl.1 rfl hd_X2_no ⟨Nat.le_of_ble_eq_true rfl, Nat.le_of_ble_eq_true rfl⟩ ⟨Nat.le_of_ble_eq_true rfl, Nat.le_of_ble_eq_true rfl⟩ rfl rfl rfl rfl (Nat.le_of_ble_eq_true rfl) (fun H locs hP hD hS => ?_)
      exact gt_iret hC hr hlk hK (ws := (mw cI t q (up2 (up2 M 12 0 0) 12 0 1) K)) hP hD hS (show some (Value.int 0) = _ from (congrArg (fun z => some (Value.int z)) ((if_neg c10_1).trans ((if_pos c18_2).trans rfl)).symm)) (congrArg (fun z => mw cI t q z K) ((if_neg c10_1).trans ((if_pos c18_2).trans rfl)).symm) dX2_ask_26 (Nat.le_of_ble_eq_true rfl) (Nat.le_of_ble_eq_true rfl)

theorem hd_X2_barge : yX2_barge.cls = RX2 ∧ yX2_barge.cls ≠ "java/lang/invoke/MethodHandle" ∧ yX2_barge.cls ≠ "java/lang/invoke/VarHandle" ∧ (parseMethodDescriptor yX2_barge.desc).map (fun d => d.parameters.length) = some 4 := by decide +kernel
set_option maxHeartbeats 400000 in
set_option maxRecDepth 100000 in
theorem ct_X2_barge (l : Launch) (D : va_G) (cI : ClassId) (t : Nat) (q : Nat → Nat) (M K : SS) (k : Int32) (g : Int32) (w : Int32) (mi : Int32) (N : Nat) (hN : M 12 2 = nI N) (hN12 : N ≤ 12) (G : Nat) (hG : M 12 1 = nI G) (hG4 : G ≤ 4) (ht : ∀ (X : SS) (g : Nat), mOpN X g N < 13) : Ct l D [(cI, .int)] yX2_barge wsX2_barge 3 67 0 0 [.ref t, .int k, .int g, .int w, .int mi] (mw cI t q M K) (some (.int (mR_barge M N G k g w mi))) (mw cI t q (mM_barge M N G k g w mi) K) := by
  refine Ct.ofW (cc := cX2_barge) (maxL := 5) (ret := (some .int)) (by decide) rfl (Nat.le_of_ble_eq_true rfl) ?_
  intro p e s m below meth c A ls hC hr hlk _ hP hD hS hK hA hl
  have hx := hC.1
  have hb := hC.2.1
  have hinX2 : ∀ w ∈ wsX20, w ∈ wsX2_barge := fun _ _h => List.mem_cons_of_mem _ (List.mem_append_right _ _h)
  have hl : lv_has ls 5 [(0, .ref t), (1, .int k), (2, .int g), (3, .int w), (4, .int mi)] := hl
  refine lv_aload_n hx hb dX2_barge_0 rfl (lv_at hl 0 rfl) ?_
  refine lv_iconst (v := 0) hx hb dX2_barge_1 (by decide) ?_
  refine gt_puti (ws' := (mw cI t q (up2 M 12 0 0) K)) hC 0 2 0 1 hinX2 tyX2_ok nmX2 hK hP hD hS dX2_barge_2 rfl rfl (by decide) rfl rfl rfl rfl (Nat.le_of_ble_eq_true rfl) (mw_f0 cI t q M K 0) (fun H locs hP hD hS => ?_)
  refine lv_aload_n hx hb dX2_barge_5 rfl (lv_at hl 0 rfl) ?_
  refine lv_iload_n hx hb dX2_barge_6 rfl (lv_at hl 1 rfl) ?_
  refine gt_call0 hC 0 2 1 (ct_X2_isGoat l D cI t q (up2 M 12 0 0) K k) gX2_barge_X2_isGoat dX2_barge_7 hK hP hD hS hA hl.1 rfl hd_X2_isGoat ⟨Nat.le_of_ble_eq_true rfl, Nat.le_of_ble_eq_true rfl⟩ ⟨Nat.le_of_ble_eq_true rfl, Nat.le_of_ble_eq_true rfl⟩ rfl rfl rfl rfl (Nat.le_of_ble_eq_true rfl) (fun H locs hP hD hS => ?_)
  refine lv_if_eq (tgt := 21) hx hb dX2_barge_10 (by decide) (fun c10_1 : (mGoat (up2 M 12 0 0) k) = 0 => ?_) (fun c10_1 : ¬ ((mGoat (up2 M 12 0 0) k) = 0) => ?_)
  · skip
    refine lv_aload_n hx hb dX2_barge_21 rfl (lv_at hl 0 rfl) ?_
    refine lv_iconst (v := 1) hx hb dX2_barge_22 (by decide) ?_
    refine gt_call0 hC 0 2 1 (ct_X2_no l D cI t q (up2 M 12 0 0) K 1) gX2_barge_X2_no dX2_barge_23 hK hP hD hS hA hl.1 rfl hd_X2_no ⟨Nat.le_of_ble_eq_true rfl, Nat.le_of_ble_eq_true rfl⟩ ⟨Nat.le_of_ble_eq_true rfl, Nat.le_of_ble_eq_true rfl⟩ rfl rfl rfl rfl (Nat.le_of_ble_eq_true rfl) (fun H locs hP hD hS => ?_)
    exact gt_iret hC hr hlk hK (ws := (mw cI t q (up2 (up2 M 12 0 0) 12 0 1) K)) hP hD hS (show some (Value.int 0) = _ from (congrArg (fun z => some (Value.int z)) ((if_pos c10_1).trans rfl).symm)) (congrArg (fun z => mw cI t q z K) ((if_pos c10_1).trans rfl).symm) dX2_barge_26 (Nat.le_of_ble_eq_true rfl) (Nat.le_of_ble_eq_true rfl)
  · skip
    refine lv_aload_n hx hb dX2_barge_13 rfl (lv_at hl 0 rfl) ?_
    refine lv_iload_n hx hb dX2_barge_14 rfl (lv_at hl 2 rfl) ?_
    refine gt_call0 hC 0 2 1 (ct_X2_isGate l D cI t q (up2 M 12 0 0) K g) gX2_barge_X2_isGate dX2_barge_15 hK hP hD hS hA hl.1 rfl hd_X2_isGate ⟨Nat.le_of_ble_eq_true rfl, Nat.le_of_ble_eq_true rfl⟩ ⟨Nat.le_of_ble_eq_true rfl, Nat.le_of_ble_eq_true rfl⟩ rfl rfl rfl rfl (Nat.le_of_ble_eq_true rfl) (fun H locs hP hD hS => ?_)
    refine lv_if_ne (tgt := 27) hx hb dX2_barge_18 (by decide) (fun c18_2 : ¬ ((mGate (up2 M 12 0 0) g) = 0) => ?_) (fun c18_2 : (mGate (up2 M 12 0 0) g) = 0 => ?_)
    · skip
      have h9k := ix_of (f := k) (by omega) (mIn_n hN (by omega) c10_1)
      have h9g := ix_of (f := g) (by omega) (mIn_n hG (by omega) c18_2)
      refine lv_iload_n hx hb dX2_barge_27 rfl (lv_at hl 3 rfl) ?_
      refine lv_iconst (v := 1) hx hb dX2_barge_28 (by decide) ?_
      refine lv_aload_n hx hb dX2_barge_29 rfl (lv_at hl 0 rfl) ?_
      refine gt_get hC 0 2 3 2 hinX2 hK hP dX2_barge_30 rfl rfl rfl (by decide) rfl rfl ?_
      refine lv_iload_n hx hb dX2_barge_33 rfl (lv_at hl 2 rfl) ?_
      refine gt_ald hC 1 0 g.toNatClampNeg hK hP dX2_barge_34 rfl rfl h9g.1 (by omega) (Nat.le_of_ble_eq_true rfl) ?_
      refine gt_callS hC 3 (ct_X2_isIn l D w 1 (M 9 g.toNatClampNeg)) gX2_barge_X2_isIn dX2_barge_35 hK hP hD hS hA hl.1 rfl hd_X2_isIn ⟨Nat.le_of_ble_eq_true rfl, Nat.le_of_ble_eq_true rfl⟩ ⟨Nat.le_of_ble_eq_true rfl, Nat.le_of_ble_eq_true rfl⟩ rfl rfl (Nat.le_of_ble_eq_true rfl) (fun H locs hP hD hS => ?_)
      refine lv_if_eq (tgt := 52) hx hb dX2_barge_38 (by decide) (fun c38_3 : (mIn w 1 (M 9 g.toNatClampNeg)) = 0 => ?_) (fun c38_3 : ¬ ((mIn w 1 (M 9 g.toNatClampNeg)) = 0) => ?_)
      · skip
        refine lv_aload_n hx hb dX2_barge_52 rfl (lv_at hl 0 rfl) ?_
        refine lv_iconst (v := 2) hx hb dX2_barge_53 (by decide) ?_
        refine gt_call0 hC 0 2 1 (ct_X2_no l D cI t q (up2 M 12 0 0) K 2) gX2_barge_X2_no dX2_barge_54 hK hP hD hS hA hl.1 rfl hd_X2_no ⟨Nat.le_of_ble_eq_true rfl, Nat.le_of_ble_eq_true rfl⟩ ⟨Nat.le_of_ble_eq_true rfl, Nat.le_of_ble_eq_true rfl⟩ rfl rfl rfl rfl (Nat.le_of_ble_eq_true rfl) (fun H locs hP hD hS => ?_)
        exact gt_iret hC hr hlk hK (ws := (mw cI t q (up2 (up2 M 12 0 0) 12 0 2) K)) hP hD hS (show some (Value.int 0) = _ from (congrArg (fun z => some (Value.int z)) ((if_neg c10_1).trans ((if_neg c18_2).trans ((if_pos c38_3).trans rfl))).symm)) (congrArg (fun z => mw cI t q z K) ((if_neg c10_1).trans ((if_neg c18_2).trans ((if_pos c38_3).trans rfl))).symm) dX2_barge_57 (Nat.le_of_ble_eq_true rfl) (Nat.le_of_ble_eq_true rfl)
      · skip
        refine lv_iload hx hb dX2_barge_41 (lv_at hl 4 rfl) ?_
        refine lv_iconst (v := 1) hx hb dX2_barge_43 (by decide) ?_
        refine lv_bipush (v := 30) hx hb dX2_barge_44 (by decide) ?_
        refine gt_callS hC 3 (ct_X2_isIn l D mi 1 30) gX2_barge_X2_isIn dX2_barge_46 hK hP hD hS hA hl.1 rfl hd_X2_isIn ⟨Nat.le_of_ble_eq_true rfl, Nat.le_of_ble_eq_true rfl⟩ ⟨Nat.le_of_ble_eq_true rfl, Nat.le_of_ble_eq_true rfl⟩ rfl rfl (Nat.le_of_ble_eq_true rfl) (fun H locs hP hD hS => ?_)
        refine lv_if_ne (tgt := 58) hx hb dX2_barge_49 (by decide) (fun c49_4 : ¬ ((mIn mi 1 30) = 0) => ?_) (fun c49_4 : (mIn mi 1 30) = 0 => ?_)
        · skip
          refine lv_aload_n hx hb dX2_barge_58 rfl (lv_at hl 0 rfl) ?_
          refine lv_iload_n hx hb dX2_barge_59 rfl (lv_at hl 1 rfl) ?_
          refine lv_iconst (v := 0) hx hb dX2_barge_60 (by decide) ?_
          refine gt_stk [.int 0, .int (nI k.toNatClampNeg), .ref t] (congrArg (fun z : Int32 => ([.int 0, .int z, .ref t] : List Value)) h9k.1) ?_
          refine gt_call0 hC 0 2 2 (ct_X2_is l D cI t q (up2 M 12 0 0) K k.toNatClampNeg 0 (by omega)) gX2_barge_X2_is dX2_barge_61 hK hP hD hS hA hl.1 rfl hd_X2_is ⟨Nat.le_of_ble_eq_true rfl, Nat.le_of_ble_eq_true rfl⟩ ⟨Nat.le_of_ble_eq_true rfl, Nat.le_of_ble_eq_true rfl⟩ rfl rfl rfl rfl (Nat.le_of_ble_eq_true rfl) (fun H locs hP hD hS => ?_)
          refine lv_if_eq (tgt := 76) hx hb dX2_barge_64 (by decide) (fun c64_5 : (mIs (up2 M 12 0 0) k.toNatClampNeg 0) = 0 => ?_) (fun c64_5 : ¬ ((mIs (up2 M 12 0 0) k.toNatClampNeg 0) = 0) => ?_)
          · skip
            refine lv_aload_n hx hb dX2_barge_76 rfl (lv_at hl 0 rfl) ?_
            refine lv_iconst (v := 3) hx hb dX2_barge_77 (by decide) ?_
            refine gt_call0 hC 0 2 1 (ct_X2_no l D cI t q (up2 M 12 0 0) K 3) gX2_barge_X2_no dX2_barge_78 hK hP hD hS hA hl.1 rfl hd_X2_no ⟨Nat.le_of_ble_eq_true rfl, Nat.le_of_ble_eq_true rfl⟩ ⟨Nat.le_of_ble_eq_true rfl, Nat.le_of_ble_eq_true rfl⟩ rfl rfl rfl rfl (Nat.le_of_ble_eq_true rfl) (fun H locs hP hD hS => ?_)
            exact gt_iret hC hr hlk hK (ws := (mw cI t q (up2 (up2 M 12 0 0) 12 0 3) K)) hP hD hS (show some (Value.int 0) = _ from (congrArg (fun z => some (Value.int z)) ((if_neg c10_1).trans ((if_neg c18_2).trans ((if_neg c38_3).trans ((if_neg c49_4).trans ((if_pos c64_5).trans rfl))))).symm)) (congrArg (fun z => mw cI t q z K) ((if_neg c10_1).trans ((if_neg c18_2).trans ((if_neg c38_3).trans ((if_neg c49_4).trans ((if_pos c64_5).trans rfl))))).symm) dX2_barge_81 (Nat.le_of_ble_eq_true rfl) (Nat.le_of_ble_eq_true rfl)
          · skip
            refine lv_aload_n hx hb dX2_barge_67 rfl (lv_at hl 0 rfl) ?_
            refine lv_iload_n hx hb dX2_barge_68 rfl (lv_at hl 2 rfl) ?_
            refine gt_stk [.int (nI g.toNatClampNeg), .ref t] (congrArg (fun z : Int32 => ([.int z, .ref t] : List Value)) h9g.1) ?_
            refine gt_call0 hC 0 2 1 (ct_X2_free l D cI t q (up2 M 12 0 0) K g.toNatClampNeg (by omega) N hN hN12) gX2_barge_X2_free dX2_barge_69 hK hP hD hS hA hl.1 rfl hd_X2_free ⟨Nat.le_of_ble_eq_true rfl, Nat.le_of_ble_eq_true rfl⟩ ⟨Nat.le_of_ble_eq_true rfl, Nat.le_of_ble_eq_true rfl⟩ rfl rfl rfl rfl (Nat.le_of_ble_eq_true rfl) (fun H locs hP hD hS => ?_)
            refine lv_iload_n hx hb dX2_barge_72 rfl (lv_at hl 3 rfl) ?_
            refine lv_icmp_ge (tgt := 82) hx hb dX2_barge_73 (by decide) (fun c73_6 : w ≤ (mFree (up2 M 12 0 0) g.toNatClampNeg N) => ?_) (fun c73_6 : ¬ (w ≤ (mFree (up2 M 12 0 0) g.toNatClampNeg N)) => ?_)
            · skip
              refine lv_aload_n hx hb dX2_barge_82 rfl (lv_at hl 0 rfl) ?_
              refine lv_iload_n hx hb dX2_barge_83 rfl (lv_at hl 1 rfl) ?_
              refine lv_iconst (v := 2) hx hb dX2_barge_84 (by decide) ?_
              refine lv_iload_n hx hb dX2_barge_85 rfl (lv_at hl 2 rfl) ?_
              refine lv_iload_n hx hb dX2_barge_86 rfl (lv_at hl 3 rfl) ?_
              refine lv_iload hx hb dX2_barge_87 (lv_at hl 4 rfl) ?_
              refine gt_stk [.int mi, .int w, .int g, .int 2, .int (nI k.toNatClampNeg), .ref t] (congrArg (fun z : Int32 => ([.int mi, .int w, .int g, .int 2, .int z, .ref t] : List Value)) h9k.1) ?_
              refine gt_call0 hC 0 2 5 (ct_X2_write l D cI t q (up2 M 12 0 0) K k.toNatClampNeg 2 g w mi (by omega)) gX2_barge_X2_write dX2_barge_89 hK hP hD hS hA hl.1 rfl hd_X2_write ⟨Nat.le_of_ble_eq_true rfl, Nat.le_of_ble_eq_true rfl⟩ ⟨Nat.le_of_ble_eq_true rfl, Nat.le_of_ble_eq_true rfl⟩ rfl rfl rfl rfl (Nat.le_of_ble_eq_true rfl) (fun H locs hP hD hS => ?_)
              refine lv_aload_n hx hb dX2_barge_92 rfl (lv_at hl 0 rfl) ?_
              refine lv_iload_n hx hb dX2_barge_93 rfl (lv_at hl 2 rfl) ?_
              refine gt_stk [.int (nI g.toNatClampNeg), .ref t] (congrArg (fun z : Int32 => ([.int z, .ref t] : List Value)) h9g.1) ?_
              refine gt_call0 hC 0 2 1 (ct_X2_free l D cI t q (up2 (up2 (up2 (up2 (up2 M 12 0 0) 0 k.toNatClampNeg 2) 1 k.toNatClampNeg g) 2 k.toNatClampNeg w) 3 k.toNatClampNeg mi) K g.toNatClampNeg (by omega) N hN hN12) gX2_barge_X2_free dX2_barge_94 hK hP hD hS hA hl.1 rfl hd_X2_free ⟨Nat.le_of_ble_eq_true rfl, Nat.le_of_ble_eq_true rfl⟩ ⟨Nat.le_of_ble_eq_true rfl, Nat.le_of_ble_eq_true rfl⟩ rfl rfl rfl rfl (Nat.le_of_ble_eq_true rfl) (fun H locs hP hD hS => ?_)
              exact gt_iret hC hr hlk hK (ws := (mw cI t q (up2 (up2 (up2 (up2 (up2 M 12 0 0) 0 k.toNatClampNeg 2) 1 k.toNatClampNeg g) 2 k.toNatClampNeg w) 3 k.toNatClampNeg mi) K)) hP hD hS (show some (Value.int (mFree (up2 (up2 (up2 (up2 (up2 M 12 0 0) 0 k.toNatClampNeg 2) 1 k.toNatClampNeg g) 2 k.toNatClampNeg w) 3 k.toNatClampNeg mi) g.toNatClampNeg N)) = _ from (congrArg (fun z => some (Value.int z)) ((if_neg c10_1).trans ((if_neg c18_2).trans ((if_neg c38_3).trans ((if_neg c49_4).trans ((if_neg c64_5).trans ((if_pos c73_6).trans rfl)))))).symm)) (congrArg (fun z => mw cI t q z K) ((if_neg c10_1).trans ((if_neg c18_2).trans ((if_neg c38_3).trans ((if_neg c49_4).trans ((if_neg c64_5).trans ((if_pos c73_6).trans rfl)))))).symm) dX2_barge_97 (Nat.le_of_ble_eq_true rfl) (Nat.le_of_ble_eq_true rfl)
            · skip
              refine lv_aload_n hx hb dX2_barge_76 rfl (lv_at hl 0 rfl) ?_
              refine lv_iconst (v := 3) hx hb dX2_barge_77 (by decide) ?_
              refine gt_call0 hC 0 2 1 (ct_X2_no l D cI t q (up2 M 12 0 0) K 3) gX2_barge_X2_no dX2_barge_78 hK hP hD hS hA hl.1 rfl hd_X2_no ⟨Nat.le_of_ble_eq_true rfl, Nat.le_of_ble_eq_true rfl⟩ ⟨Nat.le_of_ble_eq_true rfl, Nat.le_of_ble_eq_true rfl⟩ rfl rfl rfl rfl (Nat.le_of_ble_eq_true rfl) (fun H locs hP hD hS => ?_)
              exact gt_iret hC hr hlk hK (ws := (mw cI t q (up2 (up2 M 12 0 0) 12 0 3) K)) hP hD hS (show some (Value.int 0) = _ from (congrArg (fun z => some (Value.int z)) ((if_neg c10_1).trans ((if_neg c18_2).trans ((if_neg c38_3).trans ((if_neg c49_4).trans ((if_neg c64_5).trans ((if_neg c73_6).trans rfl)))))).symm)) (congrArg (fun z => mw cI t q z K) ((if_neg c10_1).trans ((if_neg c18_2).trans ((if_neg c38_3).trans ((if_neg c49_4).trans ((if_neg c64_5).trans ((if_neg c73_6).trans rfl)))))).symm) dX2_barge_81 (Nat.le_of_ble_eq_true rfl) (Nat.le_of_ble_eq_true rfl)
        · skip
          refine lv_aload_n hx hb dX2_barge_52 rfl (lv_at hl 0 rfl) ?_
          refine lv_iconst (v := 2) hx hb dX2_barge_53 (by decide) ?_
          refine gt_call0 hC 0 2 1 (ct_X2_no l D cI t q (up2 M 12 0 0) K 2) gX2_barge_X2_no dX2_barge_54 hK hP hD hS hA hl.1 rfl hd_X2_no ⟨Nat.le_of_ble_eq_true rfl, Nat.le_of_ble_eq_true rfl⟩ ⟨Nat.le_of_ble_eq_true rfl, Nat.le_of_ble_eq_true rfl⟩ rfl rfl rfl rfl (Nat.le_of_ble_eq_true rfl) (fun H locs hP hD hS => ?_)
          exact gt_iret hC hr hlk hK (ws := (mw cI t q (up2 (up2 M 12 0 0) 12 0 2) K)) hP hD hS (show some (Value.int 0) = _ from (congrArg (fun z => some (Value.int z)) ((if_neg c10_1).trans ((if_neg c18_2).trans ((if_neg c38_3).trans ((if_pos c49_4).trans rfl)))).symm)) (congrArg (fun z => mw cI t q z K) ((if_neg c10_1).trans ((if_neg c18_2).trans ((if_neg c38_3).trans ((if_pos c49_4).trans rfl)))).symm) dX2_barge_57 (Nat.le_of_ble_eq_true rfl) (Nat.le_of_ble_eq_true rfl)
    · skip
      refine lv_aload_n hx hb dX2_barge_21 rfl (lv_at hl 0 rfl) ?_
      refine lv_iconst (v := 1) hx hb dX2_barge_22 (by decide) ?_
      refine gt_call0 hC 0 2 1 (ct_X2_no l D cI t q (up2 M 12 0 0) K 1) gX2_barge_X2_no dX2_barge_23 hK hP hD hS hA hl.1 rfl hd_X2_no ⟨Nat.le_of_ble_eq_true rfl, Nat.le_of_ble_eq_true rfl⟩ ⟨Nat.le_of_ble_eq_true rfl, Nat.le_of_ble_eq_true rfl⟩ rfl rfl rfl rfl (Nat.le_of_ble_eq_true rfl) (fun H locs hP hD hS => ?_)
      exact gt_iret hC hr hlk hK (ws := (mw cI t q (up2 (up2 M 12 0 0) 12 0 1) K)) hP hD hS (show some (Value.int 0) = _ from (congrArg (fun z => some (Value.int z)) ((if_neg c10_1).trans ((if_pos c18_2).trans rfl)).symm)) (congrArg (fun z => mw cI t q z K) ((if_neg c10_1).trans ((if_pos c18_2).trans rfl)).symm) dX2_barge_26 (Nat.le_of_ble_eq_true rfl) (Nat.le_of_ble_eq_true rfl)

theorem hd_X2_callBack : yX2_callBack.cls = RX2 ∧ yX2_callBack.cls ≠ "java/lang/invoke/MethodHandle" ∧ yX2_callBack.cls ≠ "java/lang/invoke/VarHandle" ∧ (parseMethodDescriptor yX2_callBack.desc).map (fun d => d.parameters.length) = some 1 := by decide +kernel
set_option maxHeartbeats 400000 in
set_option maxRecDepth 100000 in
theorem ct_X2_callBack (l : Launch) (D : va_G) (cI : ClassId) (t : Nat) (q : Nat → Nat) (M K : SS) (k : Int32) (N : Nat) (hN : M 12 2 = nI N) (hN12 : N ≤ 12) (G : Nat) (hG : M 12 1 = nI G) (hG4 : G ≤ 4) (ht : ∀ (X : SS) (g : Nat), mOpN X g N < 13) : Ct l D [(cI, .int)] yX2_callBack wsX2_callBack 3 65 0 0 [.ref t, .int k] (mw cI t q M K) (some (.int (mR_callBack M N G k))) (mw cI t q (mM_callBack M N G k) K) := by
  refine Ct.ofW (cc := cX2_callBack) (maxL := 3) (ret := (some .int)) (by decide) rfl (Nat.le_of_ble_eq_true rfl) ?_
  intro p e s m below meth c A ls hC hr hlk _ hP hD hS hK hA hl
  have hx := hC.1
  have hb := hC.2.1
  have hinX2 : ∀ w ∈ wsX20, w ∈ wsX2_callBack := fun _ _h => List.mem_cons_of_mem _ (List.mem_append_right _ _h)
  have hl : lv_has ls 3 [(0, .ref t), (1, .int k)] := hl
  refine lv_aload_n hx hb dX2_callBack_0 rfl (lv_at hl 0 rfl) ?_
  refine lv_iconst (v := 0) hx hb dX2_callBack_1 (by decide) ?_
  refine gt_puti (ws' := (mw cI t q (up2 M 12 0 0) K)) hC 0 2 0 1 hinX2 tyX2_ok nmX2 hK hP hD hS dX2_callBack_2 rfl rfl (by decide) rfl rfl rfl rfl (Nat.le_of_ble_eq_true rfl) (mw_f0 cI t q M K 0) (fun H locs hP hD hS => ?_)
  refine lv_aload_n hx hb dX2_callBack_5 rfl (lv_at hl 0 rfl) ?_
  refine lv_iload_n hx hb dX2_callBack_6 rfl (lv_at hl 1 rfl) ?_
  refine gt_call0 hC 0 2 1 (ct_X2_isGoat l D cI t q (up2 M 12 0 0) K k) gX2_callBack_X2_isGoat dX2_callBack_7 hK hP hD hS hA hl.1 rfl hd_X2_isGoat ⟨Nat.le_of_ble_eq_true rfl, Nat.le_of_ble_eq_true rfl⟩ ⟨Nat.le_of_ble_eq_true rfl, Nat.le_of_ble_eq_true rfl⟩ rfl rfl rfl rfl (Nat.le_of_ble_eq_true rfl) (fun H locs hP hD hS => ?_)
  refine lv_if_ne (tgt := 19) hx hb dX2_callBack_10 (by decide) (fun c10_1 : ¬ ((mGoat (up2 M 12 0 0) k) = 0) => ?_) (fun c10_1 : (mGoat (up2 M 12 0 0) k) = 0 => ?_)
  · skip
    have h9k := ix_of (f := k) (by omega) (mIn_n hN (by omega) c10_1)
    refine lv_aload_n hx hb dX2_callBack_19 rfl (lv_at hl 0 rfl) ?_
    refine lv_iload_n hx hb dX2_callBack_20 rfl (lv_at hl 1 rfl) ?_
    refine lv_iconst (v := 0) hx hb dX2_callBack_21 (by decide) ?_
    refine gt_stk [.int 0, .int (nI k.toNatClampNeg), .ref t] (congrArg (fun z : Int32 => ([.int 0, .int z, .ref t] : List Value)) h9k.1) ?_
    refine gt_call0 hC 0 2 2 (ct_X2_is l D cI t q (up2 M 12 0 0) K k.toNatClampNeg 0 (by omega)) gX2_callBack_X2_is dX2_callBack_22 hK hP hD hS hA hl.1 rfl hd_X2_is ⟨Nat.le_of_ble_eq_true rfl, Nat.le_of_ble_eq_true rfl⟩ ⟨Nat.le_of_ble_eq_true rfl, Nat.le_of_ble_eq_true rfl⟩ rfl rfl rfl rfl (Nat.le_of_ble_eq_true rfl) (fun H locs hP hD hS => ?_)
    refine lv_if_eq (tgt := 34) hx hb dX2_callBack_25 (by decide) (fun c25_2 : (mIs (up2 M 12 0 0) k.toNatClampNeg 0) = 0 => ?_) (fun c25_2 : ¬ ((mIs (up2 M 12 0 0) k.toNatClampNeg 0) = 0) => ?_)
    · skip
      refine lv_aload_n hx hb dX2_callBack_34 rfl (lv_at hl 0 rfl) ?_
      refine lv_iload_n hx hb dX2_callBack_35 rfl (lv_at hl 1 rfl) ?_
      refine gt_stk [.int (nI k.toNatClampNeg), .ref t] (congrArg (fun z : Int32 => ([.int z, .ref t] : List Value)) h9k.1) ?_
      refine gt_call0 hC 0 2 1 (ct_X2_held l D cI t q (up2 M 12 0 0) K k.toNatClampNeg (by omega)) gX2_callBack_X2_held dX2_callBack_36 hK hP hD hS hA hl.1 rfl hd_X2_held ⟨Nat.le_of_ble_eq_true rfl, Nat.le_of_ble_eq_true rfl⟩ ⟨Nat.le_of_ble_eq_true rfl, Nat.le_of_ble_eq_true rfl⟩ rfl rfl rfl rfl (Nat.le_of_ble_eq_true rfl) (fun H locs hP hD hS => ?_)
      refine lv_istore_n (lv' := [(2, .int (mHeld (up2 M 12 0 0) k.toNatClampNeg)), (0, .ref t), (1, .int k)]) hx hb dX2_callBack_39 rfl hl (by decide) rfl (fun ls hl => ?_)
      refine lv_aload_n hx hb dX2_callBack_40 rfl (lv_at hl 1 rfl) ?_
      refine lv_iload_n hx hb dX2_callBack_41 rfl (lv_at hl 2 rfl) ?_
      refine lv_iconst (v := 0) hx hb dX2_callBack_42 (by decide) ?_
      refine lv_iconst (v := 0) hx hb dX2_callBack_43 (by decide) ?_
      refine gt_stk [.int 0, .int 0, .int (nI k.toNatClampNeg), .ref t] (congrArg (fun z : Int32 => ([.int 0, .int 0, .int z, .ref t] : List Value)) h9k.1) ?_
      refine gt_call0 hC 0 2 3 (ct_X2_let l D cI t q (up2 M 12 0 0) K k.toNatClampNeg 0 0 (by omega) (by decide)) gX2_callBack_X2_let dX2_callBack_44 hK hP hD hS hA hl.1 rfl hd_X2_let ⟨Nat.le_of_ble_eq_true rfl, Nat.le_of_ble_eq_true rfl⟩ ⟨Nat.le_of_ble_eq_true rfl, Nat.le_of_ble_eq_true rfl⟩ rfl rfl rfl rfl (Nat.le_of_ble_eq_true rfl) (fun H locs hP hD hS => ?_)
      refine lv_iload_n hx hb dX2_callBack_47 rfl (lv_at hl 0 rfl) ?_
      exact gt_iret hC hr hlk hK (ws := (mw cI t q (up2 (up2 M 12 0 0) 0 k.toNatClampNeg 0) K)) hP hD hS (show some (Value.int (mHeld (up2 M 12 0 0) k.toNatClampNeg)) = _ from (congrArg (fun z => some (Value.int z)) ((if_neg c10_1).trans ((if_pos c25_2).trans rfl)).symm)) (congrArg (fun z => mw cI t q z K) ((if_neg c10_1).trans ((if_pos c25_2).trans rfl)).symm) dX2_callBack_48 (Nat.le_of_ble_eq_true rfl) (Nat.le_of_ble_eq_true rfl)
    · skip
      refine lv_aload_n hx hb dX2_callBack_28 rfl (lv_at hl 0 rfl) ?_
      refine lv_iconst (v := 2) hx hb dX2_callBack_29 (by decide) ?_
      refine gt_call0 hC 0 2 1 (ct_X2_no l D cI t q (up2 M 12 0 0) K 2) gX2_callBack_X2_no dX2_callBack_30 hK hP hD hS hA hl.1 rfl hd_X2_no ⟨Nat.le_of_ble_eq_true rfl, Nat.le_of_ble_eq_true rfl⟩ ⟨Nat.le_of_ble_eq_true rfl, Nat.le_of_ble_eq_true rfl⟩ rfl rfl rfl rfl (Nat.le_of_ble_eq_true rfl) (fun H locs hP hD hS => ?_)
      exact gt_iret hC hr hlk hK (ws := (mw cI t q (up2 (up2 M 12 0 0) 12 0 2) K)) hP hD hS (show some (Value.int 0) = _ from (congrArg (fun z => some (Value.int z)) ((if_neg c10_1).trans ((if_neg c25_2).trans rfl)).symm)) (congrArg (fun z => mw cI t q z K) ((if_neg c10_1).trans ((if_neg c25_2).trans rfl)).symm) dX2_callBack_33 (Nat.le_of_ble_eq_true rfl) (Nat.le_of_ble_eq_true rfl)
  · skip
    refine lv_aload_n hx hb dX2_callBack_13 rfl (lv_at hl 0 rfl) ?_
    refine lv_iconst (v := 1) hx hb dX2_callBack_14 (by decide) ?_
    refine gt_call0 hC 0 2 1 (ct_X2_no l D cI t q (up2 M 12 0 0) K 1) gX2_callBack_X2_no dX2_callBack_15 hK hP hD hS hA hl.1 rfl hd_X2_no ⟨Nat.le_of_ble_eq_true rfl, Nat.le_of_ble_eq_true rfl⟩ ⟨Nat.le_of_ble_eq_true rfl, Nat.le_of_ble_eq_true rfl⟩ rfl rfl rfl rfl (Nat.le_of_ble_eq_true rfl) (fun H locs hP hD hS => ?_)
    exact gt_iret hC hr hlk hK (ws := (mw cI t q (up2 (up2 M 12 0 0) 12 0 1) K)) hP hD hS (show some (Value.int 0) = _ from (congrArg (fun z => some (Value.int z)) ((if_pos c10_1).trans rfl).symm)) (congrArg (fun z => mw cI t q z K) ((if_pos c10_1).trans rfl).symm) dX2_callBack_18 (Nat.le_of_ble_eq_true rfl) (Nat.le_of_ble_eq_true rfl)

theorem hd_X2_pass : yX2_pass.cls = RX2 ∧ yX2_pass.cls ≠ "java/lang/invoke/MethodHandle" ∧ yX2_pass.cls ≠ "java/lang/invoke/VarHandle" ∧ (parseMethodDescriptor yX2_pass.desc).map (fun d => d.parameters.length) = some 1 := by decide +kernel
set_option maxHeartbeats 400000 in
set_option maxRecDepth 100000 in
theorem ct_X2_pass (l : Launch) (D : va_G) (cI : ClassId) (t : Nat) (q : Nat → Nat) (M K : SS) (mn : Int32) (N : Nat) (hN : M 12 2 = nI N) (hN12 : N ≤ 12) (G : Nat) (hG : M 12 1 = nI G) (hG4 : G ≤ 4) (ht : ∀ (X : SS) (g : Nat), mOpN X g N < 13) : Ct l D [(cI, .int)] yX2_pass wsX2_pass 8 178 0 0 [.ref t, .int mn] (mw cI t q M K) (some (.int (mR_pass M N G mn))) (mw cI t q (mM_pass M N G mn) K) := by
  refine Ct.ofW (cc := cX2_pass) (maxL := 3) (ret := (some .int)) (by decide) rfl (Nat.le_of_ble_eq_true rfl) ?_
  intro p e s m below meth c A ls hC hr hlk _ hP hD hS hK hA hl
  have hx := hC.1
  have hb := hC.2.1
  have hinX2 : ∀ w ∈ wsX20, w ∈ wsX2_pass := fun _ _h => List.mem_cons_of_mem _ (List.mem_append_right _ _h)
  have hl : lv_has ls 3 [(0, .ref t), (1, .int mn)] := hl
  refine lv_aload_n hx hb dX2_pass_0 rfl (lv_at hl 0 rfl) ?_
  refine lv_iconst (v := 0) hx hb dX2_pass_1 (by decide) ?_
  refine gt_puti (ws' := (mw cI t q (up2 M 12 0 0) K)) hC 0 2 0 1 hinX2 tyX2_ok nmX2 hK hP hD hS dX2_pass_2 rfl rfl (by decide) rfl rfl rfl rfl (Nat.le_of_ble_eq_true rfl) (mw_f0 cI t q M K 0) (fun H locs hP hD hS => ?_)
  refine lv_iload_n hx hb dX2_pass_5 rfl (lv_at hl 1 rfl) ?_
  refine lv_iconst (v := 1) hx hb dX2_pass_6 (by decide) ?_
  refine lv_bipush (v := 60) hx hb dX2_pass_7 (by decide) ?_
  refine gt_callS hC 3 (ct_X2_isIn l D mn 1 60) gX2_pass_X2_isIn dX2_pass_9 hK hP hD hS hA hl.1 rfl hd_X2_isIn ⟨Nat.le_of_ble_eq_true rfl, Nat.le_of_ble_eq_true rfl⟩ ⟨Nat.le_of_ble_eq_true rfl, Nat.le_of_ble_eq_true rfl⟩ rfl rfl (Nat.le_of_ble_eq_true rfl) (fun H locs hP hD hS => ?_)
  refine lv_if_ne (tgt := 21) hx hb dX2_pass_12 (by decide) (fun c12_1 : ¬ ((mIn mn 1 60) = 0) => ?_) (fun c12_1 : (mIn mn 1 60) = 0 => ?_)
  · skip
    have h9mn := mIn_num c12_1
    refine lv_aload_n hx hb dX2_pass_21 rfl (lv_at hl 0 rfl) ?_
    refine gt_get hC 0 2 6 2 hinX2 hK hP dX2_pass_22 rfl rfl rfl (by decide) rfl rfl ?_
    refine lv_iconst (v := 1) hx hb dX2_pass_25 (by decide) ?_
    refine gt_ald hC 4 0 1 hK hP dX2_pass_26 rfl rfl (by decide) (by decide) (Nat.le_of_ble_eq_true rfl) ?_
    refine lv_istore_n (lv' := [(2, .int (M 8 1)), (0, .ref t), (1, .int mn)]) hx hb dX2_pass_27 rfl hl (by decide) rfl (fun ls hl => ?_)
    refine lv_aload_n hx hb dX2_pass_28 rfl (lv_at hl 1 rfl) ?_
    refine lv_iload_n hx hb dX2_pass_29 rfl (lv_at hl 2 rfl) ?_
    refine gt_stk [.int (nI mn.toNatClampNeg), .ref t] (congrArg (fun z : Int32 => ([.int z, .ref t] : List Value)) h9mn.1) ?_
    refine gt_call0 hC 0 2 1 (ct_X2_minutesOn l D cI t q (up2 M 12 0 0) K mn.toNatClampNeg (by omega) N hN hN12 G hG hG4 ht) gX2_pass_X2_minutesOn dX2_pass_30 hK hP hD hS hA hl.1 rfl hd_X2_minutesOn ⟨Nat.le_of_ble_eq_true rfl, Nat.le_of_ble_eq_true rfl⟩ ⟨Nat.le_of_ble_eq_true rfl, Nat.le_of_ble_eq_true rfl⟩ rfl rfl rfl rfl (Nat.le_of_ble_eq_true rfl) (fun H locs hP hD hS => ?_)
    refine lv_aload_n hx hb dX2_pass_33 rfl (lv_at hl 1 rfl) ?_
    refine gt_get hC 0 2 6 2 hinX2 hK hP dX2_pass_34 rfl rfl rfl (by decide) rfl rfl ?_
    refine lv_iconst (v := 1) hx hb dX2_pass_37 (by decide) ?_
    refine gt_ald hC 4 0 1 hK hP dX2_pass_38 rfl rfl (by decide) (by decide) (Nat.le_of_ble_eq_true rfl) ?_
    refine lv_iload_n hx hb dX2_pass_39 rfl (lv_at hl 0 rfl) ?_
    refine lv_isub hx hb dX2_pass_40 ?_
    exact gt_iret hC hr hlk hK (ws := (mw cI t q (mIt (up2 M 12 0 0) G N mn.toNatClampNeg) K)) hP hD hS (show some (Value.int (((mIt (up2 M 12 0 0) G N mn.toNatClampNeg) 8 1) - (M 8 1))) = _ from (congrArg (fun z => some (Value.int z)) ((if_neg c12_1).trans rfl).symm)) (congrArg (fun z => mw cI t q z K) ((if_neg c12_1).trans rfl).symm) dX2_pass_41 (Nat.le_of_ble_eq_true rfl) (Nat.le_of_ble_eq_true rfl)
  · skip
    refine lv_aload_n hx hb dX2_pass_15 rfl (lv_at hl 0 rfl) ?_
    refine lv_iconst (v := 1) hx hb dX2_pass_16 (by decide) ?_
    refine gt_call0 hC 0 2 1 (ct_X2_no l D cI t q (up2 M 12 0 0) K 1) gX2_pass_X2_no dX2_pass_17 hK hP hD hS hA hl.1 rfl hd_X2_no ⟨Nat.le_of_ble_eq_true rfl, Nat.le_of_ble_eq_true rfl⟩ ⟨Nat.le_of_ble_eq_true rfl, Nat.le_of_ble_eq_true rfl⟩ rfl rfl rfl rfl (Nat.le_of_ble_eq_true rfl) (fun H locs hP hD hS => ?_)
    exact gt_iret hC hr hlk hK (ws := (mw cI t q (up2 (up2 M 12 0 0) 12 0 1) K)) hP hD hS (show some (Value.int 0) = _ from (congrArg (fun z => some (Value.int z)) ((if_pos c12_1).trans rfl).symm)) (congrArg (fun z => mw cI t q z K) ((if_pos c12_1).trans rfl).symm) dX2_pass_20 (Nat.le_of_ble_eq_true rfl) (Nat.le_of_ble_eq_true rfl)

theorem hd_X2_minute : yX2_minute.cls = RX2 ∧ yX2_minute.cls ≠ "java/lang/invoke/MethodHandle" ∧ yX2_minute.cls ≠ "java/lang/invoke/VarHandle" ∧ (parseMethodDescriptor yX2_minute.desc).map (fun d => d.parameters.length) = some 0 := by decide +kernel
set_option maxHeartbeats 400000 in
set_option maxRecDepth 100000 in
theorem ct_X2_minute (l : Launch) (D : va_G) (cI : ClassId) (t : Nat) (q : Nat → Nat) (M K : SS) (N : Nat) (hN : M 12 2 = nI N) (hN12 : N ≤ 12) (G : Nat) (hG : M 12 1 = nI G) (hG4 : G ≤ 4) (ht : ∀ (X : SS) (g : Nat), mOpN X g N < 13) : Ct l D [(cI, .int)] yX2_minute wsX2_minute 1 21 0 0 [.ref t] (mw cI t q M K) (some (.int (mR_minute M N G))) (mw cI t q (mM_minute M N G) K) := by
  refine Ct.ofW (cc := cX2_minute) (maxL := 1) (ret := (some .int)) (by decide) rfl (Nat.le_of_ble_eq_true rfl) ?_
  intro p e s m below meth c A ls hC hr hlk _ hP hD hS hK hA hl
  have hx := hC.1
  have hb := hC.2.1
  have hinX2 : ∀ w ∈ wsX20, w ∈ wsX2_minute := fun _ _h => List.mem_cons_of_mem _ (List.mem_append_right _ _h)
  have hl : lv_has ls 1 [(0, .ref t)] := hl
  refine lv_aload_n hx hb dX2_minute_0 rfl (lv_at hl 0 rfl) ?_
  refine lv_aload_n hx hb dX2_minute_1 rfl (lv_at hl 0 rfl) ?_
  refine gt_get hC 0 2 6 1 hinX2 hK hP dX2_minute_2 rfl rfl rfl (by decide) rfl rfl ?_
  refine lv_iconst (v := 0) hx hb dX2_minute_5 (by decide) ?_
  refine gt_ald hC 4 0 0 hK hP dX2_minute_6 rfl rfl (by decide) (by decide) (Nat.le_of_ble_eq_true rfl) ?_
  refine gt_call0 hC 0 2 1 (ct_X2_ok l D cI t q M K (M 8 0)) gX2_minute_X2_ok dX2_minute_7 hK hP hD hS hA hl.1 rfl hd_X2_ok ⟨Nat.le_of_ble_eq_true rfl, Nat.le_of_ble_eq_true rfl⟩ ⟨Nat.le_of_ble_eq_true rfl, Nat.le_of_ble_eq_true rfl⟩ rfl rfl rfl rfl (Nat.le_of_ble_eq_true rfl) (fun H locs hP hD hS => ?_)
  exact gt_iret hC hr hlk hK (ws := (mw cI t q (up2 M 12 0 0) K)) hP hD hS (show some (Value.int (M 8 0)) = _ from rfl) rfl dX2_minute_10 (Nat.le_of_ble_eq_true rfl) (Nat.le_of_ble_eq_true rfl)

theorem hd_X2_gates : yX2_gates.cls = RX2 ∧ yX2_gates.cls ≠ "java/lang/invoke/MethodHandle" ∧ yX2_gates.cls ≠ "java/lang/invoke/VarHandle" ∧ (parseMethodDescriptor yX2_gates.desc).map (fun d => d.parameters.length) = some 0 := by decide +kernel
set_option maxHeartbeats 400000 in
set_option maxRecDepth 100000 in
theorem ct_X2_gates (l : Launch) (D : va_G) (cI : ClassId) (t : Nat) (q : Nat → Nat) (M K : SS) (N : Nat) (hN : M 12 2 = nI N) (hN12 : N ≤ 12) (G : Nat) (hG : M 12 1 = nI G) (hG4 : G ≤ 4) (ht : ∀ (X : SS) (g : Nat), mOpN X g N < 13) : Ct l D [(cI, .int)] yX2_gates wsX2_gates 1 21 0 0 [.ref t] (mw cI t q M K) (some (.int (mR_gates M N G))) (mw cI t q (mM_gates M N G) K) := by
  refine Ct.ofW (cc := cX2_gates) (maxL := 1) (ret := (some .int)) (by decide) rfl (Nat.le_of_ble_eq_true rfl) ?_
  intro p e s m below meth c A ls hC hr hlk _ hP hD hS hK hA hl
  have hx := hC.1
  have hb := hC.2.1
  have hinX2 : ∀ w ∈ wsX20, w ∈ wsX2_gates := fun _ _h => List.mem_cons_of_mem _ (List.mem_append_right _ _h)
  have hl : lv_has ls 1 [(0, .ref t)] := hl
  refine lv_aload_n hx hb dX2_gates_0 rfl (lv_at hl 0 rfl) ?_
  refine lv_aload_n hx hb dX2_gates_1 rfl (lv_at hl 0 rfl) ?_
  refine gt_get hC 0 2 1 1 hinX2 hK hP dX2_gates_2 rfl rfl rfl (by decide) rfl rfl ?_
  refine gt_call0 hC 0 2 1 (ct_X2_ok l D cI t q M K (M 12 1)) gX2_gates_X2_ok dX2_gates_5 hK hP hD hS hA hl.1 rfl hd_X2_ok ⟨Nat.le_of_ble_eq_true rfl, Nat.le_of_ble_eq_true rfl⟩ ⟨Nat.le_of_ble_eq_true rfl, Nat.le_of_ble_eq_true rfl⟩ rfl rfl rfl rfl (Nat.le_of_ble_eq_true rfl) (fun H locs hP hD hS => ?_)
  exact gt_iret hC hr hlk hK (ws := (mw cI t q (up2 M 12 0 0) K)) hP hD hS (show some (Value.int (M 12 1)) = _ from rfl) rfl dX2_gates_8 (Nat.le_of_ble_eq_true rfl) (Nat.le_of_ble_eq_true rfl)

theorem hd_X2_goats : yX2_goats.cls = RX2 ∧ yX2_goats.cls ≠ "java/lang/invoke/MethodHandle" ∧ yX2_goats.cls ≠ "java/lang/invoke/VarHandle" ∧ (parseMethodDescriptor yX2_goats.desc).map (fun d => d.parameters.length) = some 0 := by decide +kernel
set_option maxHeartbeats 400000 in
set_option maxRecDepth 100000 in
theorem ct_X2_goats (l : Launch) (D : va_G) (cI : ClassId) (t : Nat) (q : Nat → Nat) (M K : SS) (N : Nat) (hN : M 12 2 = nI N) (hN12 : N ≤ 12) (G : Nat) (hG : M 12 1 = nI G) (hG4 : G ≤ 4) (ht : ∀ (X : SS) (g : Nat), mOpN X g N < 13) : Ct l D [(cI, .int)] yX2_goats wsX2_goats 1 21 0 0 [.ref t] (mw cI t q M K) (some (.int (mR_goats M N G))) (mw cI t q (mM_goats M N G) K) := by
  refine Ct.ofW (cc := cX2_goats) (maxL := 1) (ret := (some .int)) (by decide) rfl (Nat.le_of_ble_eq_true rfl) ?_
  intro p e s m below meth c A ls hC hr hlk _ hP hD hS hK hA hl
  have hx := hC.1
  have hb := hC.2.1
  have hinX2 : ∀ w ∈ wsX20, w ∈ wsX2_goats := fun _ _h => List.mem_cons_of_mem _ (List.mem_append_right _ _h)
  have hl : lv_has ls 1 [(0, .ref t)] := hl
  refine lv_aload_n hx hb dX2_goats_0 rfl (lv_at hl 0 rfl) ?_
  refine lv_aload_n hx hb dX2_goats_1 rfl (lv_at hl 0 rfl) ?_
  refine gt_get hC 0 2 2 1 hinX2 hK hP dX2_goats_2 rfl rfl rfl (by decide) rfl rfl ?_
  refine gt_call0 hC 0 2 1 (ct_X2_ok l D cI t q M K (M 12 2)) gX2_goats_X2_ok dX2_goats_5 hK hP hD hS hA hl.1 rfl hd_X2_ok ⟨Nat.le_of_ble_eq_true rfl, Nat.le_of_ble_eq_true rfl⟩ ⟨Nat.le_of_ble_eq_true rfl, Nat.le_of_ble_eq_true rfl⟩ rfl rfl rfl rfl (Nat.le_of_ble_eq_true rfl) (fun H locs hP hD hS => ?_)
  exact gt_iret hC hr hlk hK (ws := (mw cI t q (up2 M 12 0 0) K)) hP hD hS (show some (Value.int (M 12 2)) = _ from rfl) rfl dX2_goats_8 (Nat.le_of_ble_eq_true rfl) (Nat.le_of_ble_eq_true rfl)

theorem hd_X2_waiting : yX2_waiting.cls = RX2 ∧ yX2_waiting.cls ≠ "java/lang/invoke/MethodHandle" ∧ yX2_waiting.cls ≠ "java/lang/invoke/VarHandle" ∧ (parseMethodDescriptor yX2_waiting.desc).map (fun d => d.parameters.length) = some 0 := by decide +kernel
set_option maxHeartbeats 400000 in
set_option maxRecDepth 100000 in
theorem ct_X2_waiting (l : Launch) (D : va_G) (cI : ClassId) (t : Nat) (q : Nat → Nat) (M K : SS) (N : Nat) (hN : M 12 2 = nI N) (hN12 : N ≤ 12) (G : Nat) (hG : M 12 1 = nI G) (hG4 : G ≤ 4) (ht : ∀ (X : SS) (g : Nat), mOpN X g N < 13) : Ct l D [(cI, .int)] yX2_waiting wsX2_waiting 3 67 0 0 [.ref t] (mw cI t q M K) (some (.int (mR_waiting M N G))) (mw cI t q (mM_waiting M N G) K) := by
  refine Ct.ofW (cc := cX2_waiting) (maxL := 1) (ret := (some .int)) (by decide) rfl (Nat.le_of_ble_eq_true rfl) ?_
  intro p e s m below meth c A ls hC hr hlk _ hP hD hS hK hA hl
  have hx := hC.1
  have hb := hC.2.1
  have hinX2 : ∀ w ∈ wsX20, w ∈ wsX2_waiting := fun _ _h => List.mem_cons_of_mem _ (List.mem_append_right _ _h)
  have hl : lv_has ls 1 [(0, .ref t)] := hl
  refine lv_aload_n hx hb dX2_waiting_0 rfl (lv_at hl 0 rfl) ?_
  refine lv_aload_n hx hb dX2_waiting_1 rfl (lv_at hl 0 rfl) ?_
  refine lv_iconst (v := 1) hx hb dX2_waiting_2 (by decide) ?_
  refine gt_call0 hC 0 2 1 (ct_X2_many l D cI t q M K 1 N hN hN12) gX2_waiting_X2_many dX2_waiting_3 hK hP hD hS hA hl.1 rfl hd_X2_many ⟨Nat.le_of_ble_eq_true rfl, Nat.le_of_ble_eq_true rfl⟩ ⟨Nat.le_of_ble_eq_true rfl, Nat.le_of_ble_eq_true rfl⟩ rfl rfl rfl rfl (Nat.le_of_ble_eq_true rfl) (fun H locs hP hD hS => ?_)
  refine gt_call0 hC 0 2 1 (ct_X2_ok l D cI t q M K (mMany M 1 N)) gX2_waiting_X2_ok dX2_waiting_6 hK hP hD hS hA hl.1 rfl hd_X2_ok ⟨Nat.le_of_ble_eq_true rfl, Nat.le_of_ble_eq_true rfl⟩ ⟨Nat.le_of_ble_eq_true rfl, Nat.le_of_ble_eq_true rfl⟩ rfl rfl rfl rfl (Nat.le_of_ble_eq_true rfl) (fun H locs hP hD hS => ?_)
  exact gt_iret hC hr hlk hK (ws := (mw cI t q (up2 M 12 0 0) K)) hP hD hS (show some (Value.int (mMany M 1 N)) = _ from rfl) rfl dX2_waiting_9 (Nat.le_of_ble_eq_true rfl) (Nat.le_of_ble_eq_true rfl)

theorem hd_X2_inside : yX2_inside.cls = RX2 ∧ yX2_inside.cls ≠ "java/lang/invoke/MethodHandle" ∧ yX2_inside.cls ≠ "java/lang/invoke/VarHandle" ∧ (parseMethodDescriptor yX2_inside.desc).map (fun d => d.parameters.length) = some 0 := by decide +kernel
set_option maxHeartbeats 400000 in
set_option maxRecDepth 100000 in
theorem ct_X2_inside (l : Launch) (D : va_G) (cI : ClassId) (t : Nat) (q : Nat → Nat) (M K : SS) (N : Nat) (hN : M 12 2 = nI N) (hN12 : N ≤ 12) (G : Nat) (hG : M 12 1 = nI G) (hG4 : G ≤ 4) (ht : ∀ (X : SS) (g : Nat), mOpN X g N < 13) : Ct l D [(cI, .int)] yX2_inside wsX2_inside 3 67 0 0 [.ref t] (mw cI t q M K) (some (.int (mR_inside M N G))) (mw cI t q (mM_inside M N G) K) := by
  refine Ct.ofW (cc := cX2_inside) (maxL := 1) (ret := (some .int)) (by decide) rfl (Nat.le_of_ble_eq_true rfl) ?_
  intro p e s m below meth c A ls hC hr hlk _ hP hD hS hK hA hl
  have hx := hC.1
  have hb := hC.2.1
  have hinX2 : ∀ w ∈ wsX20, w ∈ wsX2_inside := fun _ _h => List.mem_cons_of_mem _ (List.mem_append_right _ _h)
  have hl : lv_has ls 1 [(0, .ref t)] := hl
  refine lv_aload_n hx hb dX2_inside_0 rfl (lv_at hl 0 rfl) ?_
  refine lv_aload_n hx hb dX2_inside_1 rfl (lv_at hl 0 rfl) ?_
  refine lv_iconst (v := 2) hx hb dX2_inside_2 (by decide) ?_
  refine gt_call0 hC 0 2 1 (ct_X2_many l D cI t q M K 2 N hN hN12) gX2_inside_X2_many dX2_inside_3 hK hP hD hS hA hl.1 rfl hd_X2_many ⟨Nat.le_of_ble_eq_true rfl, Nat.le_of_ble_eq_true rfl⟩ ⟨Nat.le_of_ble_eq_true rfl, Nat.le_of_ble_eq_true rfl⟩ rfl rfl rfl rfl (Nat.le_of_ble_eq_true rfl) (fun H locs hP hD hS => ?_)
  refine gt_call0 hC 0 2 1 (ct_X2_ok l D cI t q M K (mMany M 2 N)) gX2_inside_X2_ok dX2_inside_6 hK hP hD hS hA hl.1 rfl hd_X2_ok ⟨Nat.le_of_ble_eq_true rfl, Nat.le_of_ble_eq_true rfl⟩ ⟨Nat.le_of_ble_eq_true rfl, Nat.le_of_ble_eq_true rfl⟩ rfl rfl rfl rfl (Nat.le_of_ble_eq_true rfl) (fun H locs hP hD hS => ?_)
  exact gt_iret hC hr hlk hK (ws := (mw cI t q (up2 M 12 0 0) K)) hP hD hS (show some (Value.int (mMany M 2 N)) = _ from rfl) rfl dX2_inside_9 (Nat.le_of_ble_eq_true rfl) (Nat.le_of_ble_eq_true rfl)

theorem hd_X2_starving : yX2_starving.cls = RX2 ∧ yX2_starving.cls ≠ "java/lang/invoke/MethodHandle" ∧ yX2_starving.cls ≠ "java/lang/invoke/VarHandle" ∧ (parseMethodDescriptor yX2_starving.desc).map (fun d => d.parameters.length) = some 0 := by decide +kernel
set_option maxHeartbeats 400000 in
set_option maxRecDepth 100000 in
theorem ct_X2_starving (l : Launch) (D : va_G) (cI : ClassId) (t : Nat) (q : Nat → Nat) (M K : SS) (N : Nat) (hN : M 12 2 = nI N) (hN12 : N ≤ 12) (G : Nat) (hG : M 12 1 = nI G) (hG4 : G ≤ 4) (ht : ∀ (X : SS) (g : Nat), mOpN X g N < 13) : Ct l D [(cI, .int)] yX2_starving wsX2_starving 3 66 0 0 [.ref t] (mw cI t q M K) (some (.int (mR_starving M N G))) (mw cI t q (mM_starving M N G) K) := by
  refine Ct.ofW (cc := cX2_starving) (maxL := 1) (ret := (some .int)) (by decide) rfl (Nat.le_of_ble_eq_true rfl) ?_
  intro p e s m below meth c A ls hC hr hlk _ hP hD hS hK hA hl
  have hx := hC.1
  have hb := hC.2.1
  have hinX2 : ∀ w ∈ wsX20, w ∈ wsX2_starving := fun _ _h => List.mem_cons_of_mem _ (List.mem_append_right _ _h)
  have hl : lv_has ls 1 [(0, .ref t)] := hl
  refine lv_aload_n hx hb dX2_starving_0 rfl (lv_at hl 0 rfl) ?_
  refine lv_aload_n hx hb dX2_starving_1 rfl (lv_at hl 0 rfl) ?_
  refine gt_call0 hC 0 2 0 (ct_X2_starved l D cI t q M K N hN hN12) gX2_starving_X2_starved dX2_starving_2 hK hP hD hS hA hl.1 rfl hd_X2_starved ⟨Nat.le_of_ble_eq_true rfl, Nat.le_of_ble_eq_true rfl⟩ ⟨Nat.le_of_ble_eq_true rfl, Nat.le_of_ble_eq_true rfl⟩ rfl rfl rfl rfl (Nat.le_of_ble_eq_true rfl) (fun H locs hP hD hS => ?_)
  refine gt_call0 hC 0 2 1 (ct_X2_ok l D cI t q M K (mStv M N)) gX2_starving_X2_ok dX2_starving_5 hK hP hD hS hA hl.1 rfl hd_X2_ok ⟨Nat.le_of_ble_eq_true rfl, Nat.le_of_ble_eq_true rfl⟩ ⟨Nat.le_of_ble_eq_true rfl, Nat.le_of_ble_eq_true rfl⟩ rfl rfl rfl rfl (Nat.le_of_ble_eq_true rfl) (fun H locs hP hD hS => ?_)
  exact gt_iret hC hr hlk hK (ws := (mw cI t q (up2 M 12 0 0) K)) hP hD hS (show some (Value.int (mStv M N)) = _ from rfl) rfl dX2_starving_8 (Nat.le_of_ble_eq_true rfl) (Nat.le_of_ble_eq_true rfl)

theorem hd_X2_letIn : yX2_letIn.cls = RX2 ∧ yX2_letIn.cls ≠ "java/lang/invoke/MethodHandle" ∧ yX2_letIn.cls ≠ "java/lang/invoke/VarHandle" ∧ (parseMethodDescriptor yX2_letIn.desc).map (fun d => d.parameters.length) = some 0 := by decide +kernel
set_option maxHeartbeats 400000 in
set_option maxRecDepth 100000 in
theorem ct_X2_letIn (l : Launch) (D : va_G) (cI : ClassId) (t : Nat) (q : Nat → Nat) (M K : SS) (N : Nat) (hN : M 12 2 = nI N) (hN12 : N ≤ 12) (G : Nat) (hG : M 12 1 = nI G) (hG4 : G ≤ 4) (ht : ∀ (X : SS) (g : Nat), mOpN X g N < 13) : Ct l D [(cI, .int)] yX2_letIn wsX2_letIn 1 21 0 0 [.ref t] (mw cI t q M K) (some (.int (mR_letIn M N G))) (mw cI t q (mM_letIn M N G) K) := by
  refine Ct.ofW (cc := cX2_letIn) (maxL := 1) (ret := (some .int)) (by decide) rfl (Nat.le_of_ble_eq_true rfl) ?_
  intro p e s m below meth c A ls hC hr hlk _ hP hD hS hK hA hl
  have hx := hC.1
  have hb := hC.2.1
  have hinX2 : ∀ w ∈ wsX20, w ∈ wsX2_letIn := fun _ _h => List.mem_cons_of_mem _ (List.mem_append_right _ _h)
  have hl : lv_has ls 1 [(0, .ref t)] := hl
  refine lv_aload_n hx hb dX2_letIn_0 rfl (lv_at hl 0 rfl) ?_
  refine lv_aload_n hx hb dX2_letIn_1 rfl (lv_at hl 0 rfl) ?_
  refine gt_get hC 0 2 6 1 hinX2 hK hP dX2_letIn_2 rfl rfl rfl (by decide) rfl rfl ?_
  refine lv_iconst (v := 1) hx hb dX2_letIn_5 (by decide) ?_
  refine gt_ald hC 4 0 1 hK hP dX2_letIn_6 rfl rfl (by decide) (by decide) (Nat.le_of_ble_eq_true rfl) ?_
  refine gt_call0 hC 0 2 1 (ct_X2_ok l D cI t q M K (M 8 1)) gX2_letIn_X2_ok dX2_letIn_7 hK hP hD hS hA hl.1 rfl hd_X2_ok ⟨Nat.le_of_ble_eq_true rfl, Nat.le_of_ble_eq_true rfl⟩ ⟨Nat.le_of_ble_eq_true rfl, Nat.le_of_ble_eq_true rfl⟩ rfl rfl rfl rfl (Nat.le_of_ble_eq_true rfl) (fun H locs hP hD hS => ?_)
  exact gt_iret hC hr hlk hK (ws := (mw cI t q (up2 M 12 0 0) K)) hP hD hS (show some (Value.int (M 8 1)) = _ from rfl) rfl dX2_letIn_10 (Nat.le_of_ble_eq_true rfl) (Nat.le_of_ble_eq_true rfl)

theorem hd_X2_givenUp : yX2_givenUp.cls = RX2 ∧ yX2_givenUp.cls ≠ "java/lang/invoke/MethodHandle" ∧ yX2_givenUp.cls ≠ "java/lang/invoke/VarHandle" ∧ (parseMethodDescriptor yX2_givenUp.desc).map (fun d => d.parameters.length) = some 0 := by decide +kernel
set_option maxHeartbeats 400000 in
set_option maxRecDepth 100000 in
theorem ct_X2_givenUp (l : Launch) (D : va_G) (cI : ClassId) (t : Nat) (q : Nat → Nat) (M K : SS) (N : Nat) (hN : M 12 2 = nI N) (hN12 : N ≤ 12) (G : Nat) (hG : M 12 1 = nI G) (hG4 : G ≤ 4) (ht : ∀ (X : SS) (g : Nat), mOpN X g N < 13) : Ct l D [(cI, .int)] yX2_givenUp wsX2_givenUp 1 21 0 0 [.ref t] (mw cI t q M K) (some (.int (mR_givenUp M N G))) (mw cI t q (mM_givenUp M N G) K) := by
  refine Ct.ofW (cc := cX2_givenUp) (maxL := 1) (ret := (some .int)) (by decide) rfl (Nat.le_of_ble_eq_true rfl) ?_
  intro p e s m below meth c A ls hC hr hlk _ hP hD hS hK hA hl
  have hx := hC.1
  have hb := hC.2.1
  have hinX2 : ∀ w ∈ wsX20, w ∈ wsX2_givenUp := fun _ _h => List.mem_cons_of_mem _ (List.mem_append_right _ _h)
  have hl : lv_has ls 1 [(0, .ref t)] := hl
  refine lv_aload_n hx hb dX2_givenUp_0 rfl (lv_at hl 0 rfl) ?_
  refine lv_aload_n hx hb dX2_givenUp_1 rfl (lv_at hl 0 rfl) ?_
  refine gt_get hC 0 2 6 1 hinX2 hK hP dX2_givenUp_2 rfl rfl rfl (by decide) rfl rfl ?_
  refine lv_iconst (v := 2) hx hb dX2_givenUp_5 (by decide) ?_
  refine gt_ald hC 4 0 2 hK hP dX2_givenUp_6 rfl rfl (by decide) (by decide) (Nat.le_of_ble_eq_true rfl) ?_
  refine gt_call0 hC 0 2 1 (ct_X2_ok l D cI t q M K (M 8 2)) gX2_givenUp_X2_ok dX2_givenUp_7 hK hP hD hS hA hl.1 rfl hd_X2_ok ⟨Nat.le_of_ble_eq_true rfl, Nat.le_of_ble_eq_true rfl⟩ ⟨Nat.le_of_ble_eq_true rfl, Nat.le_of_ble_eq_true rfl⟩ rfl rfl rfl rfl (Nat.le_of_ble_eq_true rfl) (fun H locs hP hD hS => ?_)
  exact gt_iret hC hr hlk hK (ws := (mw cI t q (up2 M 12 0 0) K)) hP hD hS (show some (Value.int (M 8 2)) = _ from rfl) rfl dX2_givenUp_10 (Nat.le_of_ble_eq_true rfl) (Nat.le_of_ble_eq_true rfl)

theorem hd_X2_permitsOf : yX2_permitsOf.cls = RX2 ∧ yX2_permitsOf.cls ≠ "java/lang/invoke/MethodHandle" ∧ yX2_permitsOf.cls ≠ "java/lang/invoke/VarHandle" ∧ (parseMethodDescriptor yX2_permitsOf.desc).map (fun d => d.parameters.length) = some 1 := by decide +kernel
set_option maxHeartbeats 400000 in
set_option maxRecDepth 100000 in
theorem ct_X2_permitsOf (l : Launch) (D : va_G) (cI : ClassId) (t : Nat) (q : Nat → Nat) (M K : SS) (g : Int32) (N : Nat) (hN : M 12 2 = nI N) (hN12 : N ≤ 12) (G : Nat) (hG : M 12 1 = nI G) (hG4 : G ≤ 4) (ht : ∀ (X : SS) (g : Nat), mOpN X g N < 13) : Ct l D [(cI, .int)] yX2_permitsOf wsX2_permitsOf 2 43 0 0 [.ref t, .int g] (mw cI t q M K) (some (.int (mR_permitsOf M N G g))) (mw cI t q (mM_permitsOf M N G g) K) := by
  refine Ct.ofW (cc := cX2_permitsOf) (maxL := 2) (ret := (some .int)) (by decide) rfl (Nat.le_of_ble_eq_true rfl) ?_
  intro p e s m below meth c A ls hC hr hlk _ hP hD hS hK hA hl
  have hx := hC.1
  have hb := hC.2.1
  have hinX2 : ∀ w ∈ wsX20, w ∈ wsX2_permitsOf := fun _ _h => List.mem_cons_of_mem _ (List.mem_append_right _ _h)
  have hl : lv_has ls 2 [(0, .ref t), (1, .int g)] := hl
  refine lv_aload_n hx hb dX2_permitsOf_0 rfl (lv_at hl 0 rfl) ?_
  refine lv_iconst (v := 0) hx hb dX2_permitsOf_1 (by decide) ?_
  refine gt_puti (ws' := (mw cI t q (up2 M 12 0 0) K)) hC 0 2 0 1 hinX2 tyX2_ok nmX2 hK hP hD hS dX2_permitsOf_2 rfl rfl (by decide) rfl rfl rfl rfl (Nat.le_of_ble_eq_true rfl) (mw_f0 cI t q M K 0) (fun H locs hP hD hS => ?_)
  refine lv_aload_n hx hb dX2_permitsOf_5 rfl (lv_at hl 0 rfl) ?_
  refine lv_iload_n hx hb dX2_permitsOf_6 rfl (lv_at hl 1 rfl) ?_
  refine gt_call0 hC 0 2 1 (ct_X2_isGate l D cI t q (up2 M 12 0 0) K g) gX2_permitsOf_X2_isGate dX2_permitsOf_7 hK hP hD hS hA hl.1 rfl hd_X2_isGate ⟨Nat.le_of_ble_eq_true rfl, Nat.le_of_ble_eq_true rfl⟩ ⟨Nat.le_of_ble_eq_true rfl, Nat.le_of_ble_eq_true rfl⟩ rfl rfl rfl rfl (Nat.le_of_ble_eq_true rfl) (fun H locs hP hD hS => ?_)
  refine lv_if_eq (tgt := 22) hx hb dX2_permitsOf_10 (by decide) (fun c10_1 : (mGate (up2 M 12 0 0) g) = 0 => ?_) (fun c10_1 : ¬ ((mGate (up2 M 12 0 0) g) = 0) => ?_)
  · skip
    refine lv_aload_n hx hb dX2_permitsOf_22 rfl (lv_at hl 0 rfl) ?_
    refine lv_iconst (v := 1) hx hb dX2_permitsOf_23 (by decide) ?_
    refine gt_call0 hC 0 2 1 (ct_X2_no l D cI t q (up2 M 12 0 0) K 1) gX2_permitsOf_X2_no dX2_permitsOf_24 hK hP hD hS hA hl.1 rfl hd_X2_no ⟨Nat.le_of_ble_eq_true rfl, Nat.le_of_ble_eq_true rfl⟩ ⟨Nat.le_of_ble_eq_true rfl, Nat.le_of_ble_eq_true rfl⟩ rfl rfl rfl rfl (Nat.le_of_ble_eq_true rfl) (fun H locs hP hD hS => ?_)
    exact gt_iret hC hr hlk hK (ws := (mw cI t q (up2 (up2 M 12 0 0) 12 0 1) K)) hP hD hS (show some (Value.int 0) = _ from (congrArg (fun z => some (Value.int z)) ((if_pos c10_1).trans rfl).symm)) (congrArg (fun z => mw cI t q z K) ((if_pos c10_1).trans rfl).symm) dX2_permitsOf_27 (Nat.le_of_ble_eq_true rfl) (Nat.le_of_ble_eq_true rfl)
  · skip
    have h9g := ix_of (f := g) (by omega) (mIn_n hG (by omega) c10_1)
    refine lv_aload_n hx hb dX2_permitsOf_13 rfl (lv_at hl 0 rfl) ?_
    refine gt_get hC 0 2 3 2 hinX2 hK hP dX2_permitsOf_14 rfl rfl rfl (by decide) rfl rfl ?_
    refine lv_iload_n hx hb dX2_permitsOf_17 rfl (lv_at hl 1 rfl) ?_
    refine gt_ald hC 1 0 g.toNatClampNeg hK hP dX2_permitsOf_18 rfl rfl h9g.1 (by omega) (Nat.le_of_ble_eq_true rfl) ?_
    refine lv_goto (tgt := 27) hx hb dX2_permitsOf_19 (by decide) ?_
    exact gt_iret hC hr hlk hK (ws := (mw cI t q (up2 M 12 0 0) K)) hP hD hS (show some (Value.int (M 9 g.toNatClampNeg)) = _ from (congrArg (fun z => some (Value.int z)) ((if_neg c10_1).trans rfl).symm)) (congrArg (fun z => mw cI t q z K) ((if_neg c10_1).trans rfl).symm) dX2_permitsOf_27 (Nat.le_of_ble_eq_true rfl) (Nat.le_of_ble_eq_true rfl)

theorem hd_X2_freeOf : yX2_freeOf.cls = RX2 ∧ yX2_freeOf.cls ≠ "java/lang/invoke/MethodHandle" ∧ yX2_freeOf.cls ≠ "java/lang/invoke/VarHandle" ∧ (parseMethodDescriptor yX2_freeOf.desc).map (fun d => d.parameters.length) = some 1 := by decide +kernel
set_option maxHeartbeats 400000 in
set_option maxRecDepth 100000 in
theorem ct_X2_freeOf (l : Launch) (D : va_G) (cI : ClassId) (t : Nat) (q : Nat → Nat) (M K : SS) (g : Int32) (N : Nat) (hN : M 12 2 = nI N) (hN12 : N ≤ 12) (G : Nat) (hG : M 12 1 = nI G) (hG4 : G ≤ 4) (ht : ∀ (X : SS) (g : Nat), mOpN X g N < 13) : Ct l D [(cI, .int)] yX2_freeOf wsX2_freeOf 3 67 0 0 [.ref t, .int g] (mw cI t q M K) (some (.int (mR_freeOf M N G g))) (mw cI t q (mM_freeOf M N G g) K) := by
  refine Ct.ofW (cc := cX2_freeOf) (maxL := 2) (ret := (some .int)) (by decide) rfl (Nat.le_of_ble_eq_true rfl) ?_
  intro p e s m below meth c A ls hC hr hlk _ hP hD hS hK hA hl
  have hx := hC.1
  have hb := hC.2.1
  have hinX2 : ∀ w ∈ wsX20, w ∈ wsX2_freeOf := fun _ _h => List.mem_cons_of_mem _ (List.mem_append_right _ _h)
  have hl : lv_has ls 2 [(0, .ref t), (1, .int g)] := hl
  refine lv_aload_n hx hb dX2_freeOf_0 rfl (lv_at hl 0 rfl) ?_
  refine lv_iconst (v := 0) hx hb dX2_freeOf_1 (by decide) ?_
  refine gt_puti (ws' := (mw cI t q (up2 M 12 0 0) K)) hC 0 2 0 1 hinX2 tyX2_ok nmX2 hK hP hD hS dX2_freeOf_2 rfl rfl (by decide) rfl rfl rfl rfl (Nat.le_of_ble_eq_true rfl) (mw_f0 cI t q M K 0) (fun H locs hP hD hS => ?_)
  refine lv_aload_n hx hb dX2_freeOf_5 rfl (lv_at hl 0 rfl) ?_
  refine lv_iload_n hx hb dX2_freeOf_6 rfl (lv_at hl 1 rfl) ?_
  refine gt_call0 hC 0 2 1 (ct_X2_isGate l D cI t q (up2 M 12 0 0) K g) gX2_freeOf_X2_isGate dX2_freeOf_7 hK hP hD hS hA hl.1 rfl hd_X2_isGate ⟨Nat.le_of_ble_eq_true rfl, Nat.le_of_ble_eq_true rfl⟩ ⟨Nat.le_of_ble_eq_true rfl, Nat.le_of_ble_eq_true rfl⟩ rfl rfl rfl rfl (Nat.le_of_ble_eq_true rfl) (fun H locs hP hD hS => ?_)
  refine lv_if_eq (tgt := 21) hx hb dX2_freeOf_10 (by decide) (fun c10_1 : (mGate (up2 M 12 0 0) g) = 0 => ?_) (fun c10_1 : ¬ ((mGate (up2 M 12 0 0) g) = 0) => ?_)
  · skip
    refine lv_aload_n hx hb dX2_freeOf_21 rfl (lv_at hl 0 rfl) ?_
    refine lv_iconst (v := 1) hx hb dX2_freeOf_22 (by decide) ?_
    refine gt_call0 hC 0 2 1 (ct_X2_no l D cI t q (up2 M 12 0 0) K 1) gX2_freeOf_X2_no dX2_freeOf_23 hK hP hD hS hA hl.1 rfl hd_X2_no ⟨Nat.le_of_ble_eq_true rfl, Nat.le_of_ble_eq_true rfl⟩ ⟨Nat.le_of_ble_eq_true rfl, Nat.le_of_ble_eq_true rfl⟩ rfl rfl rfl rfl (Nat.le_of_ble_eq_true rfl) (fun H locs hP hD hS => ?_)
    exact gt_iret hC hr hlk hK (ws := (mw cI t q (up2 (up2 M 12 0 0) 12 0 1) K)) hP hD hS (show some (Value.int 0) = _ from (congrArg (fun z => some (Value.int z)) ((if_pos c10_1).trans rfl).symm)) (congrArg (fun z => mw cI t q z K) ((if_pos c10_1).trans rfl).symm) dX2_freeOf_26 (Nat.le_of_ble_eq_true rfl) (Nat.le_of_ble_eq_true rfl)
  · skip
    have h9g := ix_of (f := g) (by omega) (mIn_n hG (by omega) c10_1)
    refine lv_aload_n hx hb dX2_freeOf_13 rfl (lv_at hl 0 rfl) ?_
    refine lv_iload_n hx hb dX2_freeOf_14 rfl (lv_at hl 1 rfl) ?_
    refine gt_stk [.int (nI g.toNatClampNeg), .ref t] (congrArg (fun z : Int32 => ([.int z, .ref t] : List Value)) h9g.1) ?_
    refine gt_call0 hC 0 2 1 (ct_X2_free l D cI t q (up2 M 12 0 0) K g.toNatClampNeg (by omega) N hN hN12) gX2_freeOf_X2_free dX2_freeOf_15 hK hP hD hS hA hl.1 rfl hd_X2_free ⟨Nat.le_of_ble_eq_true rfl, Nat.le_of_ble_eq_true rfl⟩ ⟨Nat.le_of_ble_eq_true rfl, Nat.le_of_ble_eq_true rfl⟩ rfl rfl rfl rfl (Nat.le_of_ble_eq_true rfl) (fun H locs hP hD hS => ?_)
    refine lv_goto (tgt := 26) hx hb dX2_freeOf_18 (by decide) ?_
    exact gt_iret hC hr hlk hK (ws := (mw cI t q (up2 M 12 0 0) K)) hP hD hS (show some (Value.int (mFree (up2 M 12 0 0) g.toNatClampNeg N)) = _ from (congrArg (fun z => some (Value.int z)) ((if_neg c10_1).trans rfl).symm)) (congrArg (fun z => mw cI t q z K) ((if_neg c10_1).trans rfl).symm) dX2_freeOf_26 (Nat.le_of_ble_eq_true rfl) (Nat.le_of_ble_eq_true rfl)

theorem hd_X2_nextAt : yX2_nextAt.cls = RX2 ∧ yX2_nextAt.cls ≠ "java/lang/invoke/MethodHandle" ∧ yX2_nextAt.cls ≠ "java/lang/invoke/VarHandle" ∧ (parseMethodDescriptor yX2_nextAt.desc).map (fun d => d.parameters.length) = some 1 := by decide +kernel
set_option maxHeartbeats 400000 in
set_option maxRecDepth 100000 in
theorem ct_X2_nextAt (l : Launch) (D : va_G) (cI : ClassId) (t : Nat) (q : Nat → Nat) (M K : SS) (g : Int32) (N : Nat) (hN : M 12 2 = nI N) (hN12 : N ≤ 12) (G : Nat) (hG : M 12 1 = nI G) (hG4 : G ≤ 4) (ht : ∀ (X : SS) (g : Nat), mOpN X g N < 13) : Ct l D [(cI, .int)] yX2_nextAt wsX2_nextAt 5 113 0 0 [.ref t, .int g] (mw cI t q M K) (some (.int (mR_nextAt M N G g))) (mw cI t q (mM_nextAt M N G g) K) := by
  refine Ct.ofW (cc := cX2_nextAt) (maxL := 2) (ret := (some .int)) (by decide) rfl (Nat.le_of_ble_eq_true rfl) ?_
  intro p e s m below meth c A ls hC hr hlk _ hP hD hS hK hA hl
  have hx := hC.1
  have hb := hC.2.1
  have hinX2 : ∀ w ∈ wsX20, w ∈ wsX2_nextAt := fun _ _h => List.mem_cons_of_mem _ (List.mem_append_right _ _h)
  have hl : lv_has ls 2 [(0, .ref t), (1, .int g)] := hl
  refine lv_aload_n hx hb dX2_nextAt_0 rfl (lv_at hl 0 rfl) ?_
  refine lv_iconst (v := 0) hx hb dX2_nextAt_1 (by decide) ?_
  refine gt_puti (ws' := (mw cI t q (up2 M 12 0 0) K)) hC 0 2 0 1 hinX2 tyX2_ok nmX2 hK hP hD hS dX2_nextAt_2 rfl rfl (by decide) rfl rfl rfl rfl (Nat.le_of_ble_eq_true rfl) (mw_f0 cI t q M K 0) (fun H locs hP hD hS => ?_)
  refine lv_aload_n hx hb dX2_nextAt_5 rfl (lv_at hl 0 rfl) ?_
  refine lv_iload_n hx hb dX2_nextAt_6 rfl (lv_at hl 1 rfl) ?_
  refine gt_call0 hC 0 2 1 (ct_X2_isGate l D cI t q (up2 M 12 0 0) K g) gX2_nextAt_X2_isGate dX2_nextAt_7 hK hP hD hS hA hl.1 rfl hd_X2_isGate ⟨Nat.le_of_ble_eq_true rfl, Nat.le_of_ble_eq_true rfl⟩ ⟨Nat.le_of_ble_eq_true rfl, Nat.le_of_ble_eq_true rfl⟩ rfl rfl rfl rfl (Nat.le_of_ble_eq_true rfl) (fun H locs hP hD hS => ?_)
  refine lv_if_eq (tgt := 21) hx hb dX2_nextAt_10 (by decide) (fun c10_1 : (mGate (up2 M 12 0 0) g) = 0 => ?_) (fun c10_1 : ¬ ((mGate (up2 M 12 0 0) g) = 0) => ?_)
  · skip
    refine lv_aload_n hx hb dX2_nextAt_21 rfl (lv_at hl 0 rfl) ?_
    refine lv_iconst (v := 1) hx hb dX2_nextAt_22 (by decide) ?_
    refine gt_call0 hC 0 2 1 (ct_X2_no l D cI t q (up2 M 12 0 0) K 1) gX2_nextAt_X2_no dX2_nextAt_23 hK hP hD hS hA hl.1 rfl hd_X2_no ⟨Nat.le_of_ble_eq_true rfl, Nat.le_of_ble_eq_true rfl⟩ ⟨Nat.le_of_ble_eq_true rfl, Nat.le_of_ble_eq_true rfl⟩ rfl rfl rfl rfl (Nat.le_of_ble_eq_true rfl) (fun H locs hP hD hS => ?_)
    exact gt_iret hC hr hlk hK (ws := (mw cI t q (up2 (up2 M 12 0 0) 12 0 1) K)) hP hD hS (show some (Value.int 0) = _ from (congrArg (fun z => some (Value.int z)) ((if_pos c10_1).trans rfl).symm)) (congrArg (fun z => mw cI t q z K) ((if_pos c10_1).trans rfl).symm) dX2_nextAt_26 (Nat.le_of_ble_eq_true rfl) (Nat.le_of_ble_eq_true rfl)
  · skip
    have h9g := ix_of (f := g) (by omega) (mIn_n hG (by omega) c10_1)
    refine lv_aload_n hx hb dX2_nextAt_13 rfl (lv_at hl 0 rfl) ?_
    refine lv_iload_n hx hb dX2_nextAt_14 rfl (lv_at hl 1 rfl) ?_
    refine gt_stk [.int (nI g.toNatClampNeg), .ref t] (congrArg (fun z : Int32 => ([.int z, .ref t] : List Value)) h9g.1) ?_
    refine gt_call0 hC 0 2 1 (ct_X2_next l D cI t q (up2 M 12 0 0) K g.toNatClampNeg (by omega) N hN hN12) gX2_nextAt_X2_next dX2_nextAt_15 hK hP hD hS hA hl.1 rfl hd_X2_next ⟨Nat.le_of_ble_eq_true rfl, Nat.le_of_ble_eq_true rfl⟩ ⟨Nat.le_of_ble_eq_true rfl, Nat.le_of_ble_eq_true rfl⟩ rfl rfl rfl rfl (Nat.le_of_ble_eq_true rfl) (fun H locs hP hD hS => ?_)
    refine lv_goto (tgt := 26) hx hb dX2_nextAt_18 (by decide) ?_
    exact gt_iret hC hr hlk hK (ws := (mw cI t q (up2 M 12 0 0) K)) hP hD hS (show some (Value.int (mNx (up2 M 12 0 0) g.toNatClampNeg N)) = _ from (congrArg (fun z => some (Value.int z)) ((if_neg c10_1).trans rfl).symm)) (congrArg (fun z => mw cI t q z K) ((if_neg c10_1).trans rfl).symm) dX2_nextAt_26 (Nat.le_of_ble_eq_true rfl) (Nat.le_of_ble_eq_true rfl)

theorem hd_X2_waitingAt : yX2_waitingAt.cls = RX2 ∧ yX2_waitingAt.cls ≠ "java/lang/invoke/MethodHandle" ∧ yX2_waitingAt.cls ≠ "java/lang/invoke/VarHandle" ∧ (parseMethodDescriptor yX2_waitingAt.desc).map (fun d => d.parameters.length) = some 1 := by decide +kernel
set_option maxHeartbeats 400000 in
set_option maxRecDepth 100000 in
theorem ct_X2_waitingAt (l : Launch) (D : va_G) (cI : ClassId) (t : Nat) (q : Nat → Nat) (M K : SS) (g : Int32) (N : Nat) (hN : M 12 2 = nI N) (hN12 : N ≤ 12) (G : Nat) (hG : M 12 1 = nI G) (hG4 : G ≤ 4) (ht : ∀ (X : SS) (g : Nat), mOpN X g N < 13) : Ct l D [(cI, .int)] yX2_waitingAt wsX2_waitingAt 4 89 0 0 [.ref t, .int g] (mw cI t q M K) (some (.int (mR_waitingAt M N G g))) (mw cI t q (mM_waitingAt M N G g) K) := by
  refine Ct.ofW (cc := cX2_waitingAt) (maxL := 2) (ret := (some .int)) (by decide) rfl (Nat.le_of_ble_eq_true rfl) ?_
  intro p e s m below meth c A ls hC hr hlk _ hP hD hS hK hA hl
  have hx := hC.1
  have hb := hC.2.1
  have hinX2 : ∀ w ∈ wsX20, w ∈ wsX2_waitingAt := fun _ _h => List.mem_cons_of_mem _ (List.mem_append_right _ _h)
  have hl : lv_has ls 2 [(0, .ref t), (1, .int g)] := hl
  refine lv_aload_n hx hb dX2_waitingAt_0 rfl (lv_at hl 0 rfl) ?_
  refine lv_iconst (v := 0) hx hb dX2_waitingAt_1 (by decide) ?_
  refine gt_puti (ws' := (mw cI t q (up2 M 12 0 0) K)) hC 0 2 0 1 hinX2 tyX2_ok nmX2 hK hP hD hS dX2_waitingAt_2 rfl rfl (by decide) rfl rfl rfl rfl (Nat.le_of_ble_eq_true rfl) (mw_f0 cI t q M K 0) (fun H locs hP hD hS => ?_)
  refine lv_aload_n hx hb dX2_waitingAt_5 rfl (lv_at hl 0 rfl) ?_
  refine lv_iload_n hx hb dX2_waitingAt_6 rfl (lv_at hl 1 rfl) ?_
  refine gt_call0 hC 0 2 1 (ct_X2_isGate l D cI t q (up2 M 12 0 0) K g) gX2_waitingAt_X2_isGate dX2_waitingAt_7 hK hP hD hS hA hl.1 rfl hd_X2_isGate ⟨Nat.le_of_ble_eq_true rfl, Nat.le_of_ble_eq_true rfl⟩ ⟨Nat.le_of_ble_eq_true rfl, Nat.le_of_ble_eq_true rfl⟩ rfl rfl rfl rfl (Nat.le_of_ble_eq_true rfl) (fun H locs hP hD hS => ?_)
  refine lv_if_eq (tgt := 21) hx hb dX2_waitingAt_10 (by decide) (fun c10_1 : (mGate (up2 M 12 0 0) g) = 0 => ?_) (fun c10_1 : ¬ ((mGate (up2 M 12 0 0) g) = 0) => ?_)
  · skip
    refine lv_aload_n hx hb dX2_waitingAt_21 rfl (lv_at hl 0 rfl) ?_
    refine lv_iconst (v := 1) hx hb dX2_waitingAt_22 (by decide) ?_
    refine gt_call0 hC 0 2 1 (ct_X2_no l D cI t q (up2 M 12 0 0) K 1) gX2_waitingAt_X2_no dX2_waitingAt_23 hK hP hD hS hA hl.1 rfl hd_X2_no ⟨Nat.le_of_ble_eq_true rfl, Nat.le_of_ble_eq_true rfl⟩ ⟨Nat.le_of_ble_eq_true rfl, Nat.le_of_ble_eq_true rfl⟩ rfl rfl rfl rfl (Nat.le_of_ble_eq_true rfl) (fun H locs hP hD hS => ?_)
    exact gt_iret hC hr hlk hK (ws := (mw cI t q (up2 (up2 M 12 0 0) 12 0 1) K)) hP hD hS (show some (Value.int 0) = _ from (congrArg (fun z => some (Value.int z)) ((if_pos c10_1).trans rfl).symm)) (congrArg (fun z => mw cI t q z K) ((if_pos c10_1).trans rfl).symm) dX2_waitingAt_26 (Nat.le_of_ble_eq_true rfl) (Nat.le_of_ble_eq_true rfl)
  · skip
    refine lv_aload_n hx hb dX2_waitingAt_13 rfl (lv_at hl 0 rfl) ?_
    refine lv_iload_n hx hb dX2_waitingAt_14 rfl (lv_at hl 1 rfl) ?_
    refine gt_call0 hC 0 2 1 (ct_X2_manyAt l D cI t q (up2 M 12 0 0) K g N hN hN12) gX2_waitingAt_X2_manyAt dX2_waitingAt_15 hK hP hD hS hA hl.1 rfl hd_X2_manyAt ⟨Nat.le_of_ble_eq_true rfl, Nat.le_of_ble_eq_true rfl⟩ ⟨Nat.le_of_ble_eq_true rfl, Nat.le_of_ble_eq_true rfl⟩ rfl rfl rfl rfl (Nat.le_of_ble_eq_true rfl) (fun H locs hP hD hS => ?_)
    refine lv_goto (tgt := 26) hx hb dX2_waitingAt_18 (by decide) ?_
    exact gt_iret hC hr hlk hK (ws := (mw cI t q (up2 M 12 0 0) K)) hP hD hS (show some (Value.int (mMat (up2 M 12 0 0) g N)) = _ from (congrArg (fun z => some (Value.int z)) ((if_neg c10_1).trans rfl).symm)) (congrArg (fun z => mw cI t q z K) ((if_neg c10_1).trans rfl).symm) dX2_waitingAt_26 (Nat.le_of_ble_eq_true rfl) (Nat.le_of_ble_eq_true rfl)

theorem hd_X2_permitsWanted : yX2_permitsWanted.cls = RX2 ∧ yX2_permitsWanted.cls ≠ "java/lang/invoke/MethodHandle" ∧ yX2_permitsWanted.cls ≠ "java/lang/invoke/VarHandle" ∧ (parseMethodDescriptor yX2_permitsWanted.desc).map (fun d => d.parameters.length) = some 1 := by decide +kernel
set_option maxHeartbeats 400000 in
set_option maxRecDepth 100000 in
theorem ct_X2_permitsWanted (l : Launch) (D : va_G) (cI : ClassId) (t : Nat) (q : Nat → Nat) (M K : SS) (g : Int32) (N : Nat) (hN : M 12 2 = nI N) (hN12 : N ≤ 12) (G : Nat) (hG : M 12 1 = nI G) (hG4 : G ≤ 4) (ht : ∀ (X : SS) (g : Nat), mOpN X g N < 13) : Ct l D [(cI, .int)] yX2_permitsWanted wsX2_permitsWanted 9 205 0 0 [.ref t, .int g] (mw cI t q M K) (some (.int (mR_permitsWanted M N G g))) (mw cI t q (mM_permitsWanted M N G g) (mK_permitsWanted M K N G g)) := by
  refine Ct.ofW (cc := cX2_permitsWanted) (maxL := 2) (ret := (some .int)) (by decide) rfl (Nat.le_of_ble_eq_true rfl) ?_
  intro p e s m below meth c A ls hC hr hlk _ hP hD hS hK hA hl
  have hx := hC.1
  have hb := hC.2.1
  have hinX2 : ∀ w ∈ wsX20, w ∈ wsX2_permitsWanted := fun _ _h => List.mem_cons_of_mem _ (List.mem_append_right _ _h)
  have hl : lv_has ls 2 [(0, .ref t), (1, .int g)] := hl
  refine lv_aload_n hx hb dX2_permitsWanted_0 rfl (lv_at hl 0 rfl) ?_
  refine lv_iconst (v := 0) hx hb dX2_permitsWanted_1 (by decide) ?_
  refine gt_puti (ws' := (mw cI t q (up2 M 12 0 0) K)) hC 0 2 0 1 hinX2 tyX2_ok nmX2 hK hP hD hS dX2_permitsWanted_2 rfl rfl (by decide) rfl rfl rfl rfl (Nat.le_of_ble_eq_true rfl) (mw_f0 cI t q M K 0) (fun H locs hP hD hS => ?_)
  refine lv_aload_n hx hb dX2_permitsWanted_5 rfl (lv_at hl 0 rfl) ?_
  refine lv_iload_n hx hb dX2_permitsWanted_6 rfl (lv_at hl 1 rfl) ?_
  refine gt_call0 hC 0 2 1 (ct_X2_isGate l D cI t q (up2 M 12 0 0) K g) gX2_permitsWanted_X2_isGate dX2_permitsWanted_7 hK hP hD hS hA hl.1 rfl hd_X2_isGate ⟨Nat.le_of_ble_eq_true rfl, Nat.le_of_ble_eq_true rfl⟩ ⟨Nat.le_of_ble_eq_true rfl, Nat.le_of_ble_eq_true rfl⟩ rfl rfl rfl rfl (Nat.le_of_ble_eq_true rfl) (fun H locs hP hD hS => ?_)
  refine lv_if_eq (tgt := 21) hx hb dX2_permitsWanted_10 (by decide) (fun c10_1 : (mGate (up2 M 12 0 0) g) = 0 => ?_) (fun c10_1 : ¬ ((mGate (up2 M 12 0 0) g) = 0) => ?_)
  · skip
    refine lv_aload_n hx hb dX2_permitsWanted_21 rfl (lv_at hl 0 rfl) ?_
    refine lv_iconst (v := 1) hx hb dX2_permitsWanted_22 (by decide) ?_
    refine gt_call0 hC 0 2 1 (ct_X2_no l D cI t q (up2 M 12 0 0) K 1) gX2_permitsWanted_X2_no dX2_permitsWanted_23 hK hP hD hS hA hl.1 rfl hd_X2_no ⟨Nat.le_of_ble_eq_true rfl, Nat.le_of_ble_eq_true rfl⟩ ⟨Nat.le_of_ble_eq_true rfl, Nat.le_of_ble_eq_true rfl⟩ rfl rfl rfl rfl (Nat.le_of_ble_eq_true rfl) (fun H locs hP hD hS => ?_)
    exact gt_iret hC hr hlk hK (ws := (mw cI t q (up2 (up2 M 12 0 0) 12 0 1) K)) hP hD hS (show some (Value.int 0) = _ from (congrArg (fun z => some (Value.int z)) ((if_pos c10_1).trans rfl).symm)) (congr (congrArg (mw cI t q) ((if_pos c10_1).trans rfl).symm) ((if_pos c10_1).trans rfl).symm) dX2_permitsWanted_26 (Nat.le_of_ble_eq_true rfl) (Nat.le_of_ble_eq_true rfl)
  · skip
    have h9g := ix_of (f := g) (by omega) (mIn_n hG (by omega) c10_1)
    refine lv_aload_n hx hb dX2_permitsWanted_13 rfl (lv_at hl 0 rfl) ?_
    refine lv_iload_n hx hb dX2_permitsWanted_14 rfl (lv_at hl 1 rfl) ?_
    refine gt_stk [.int (nI g.toNatClampNeg), .ref t] (congrArg (fun z : Int32 => ([.int z, .ref t] : List Value)) h9g.1) ?_
    refine gt_call0 hC 0 2 1 (ct_X2_wanted l D cI t q (up2 M 12 0 0) K g.toNatClampNeg (by omega) N hN hN12 G hG hG4 ht) gX2_permitsWanted_X2_wanted dX2_permitsWanted_15 hK hP hD hS hA hl.1 rfl hd_X2_wanted ⟨Nat.le_of_ble_eq_true rfl, Nat.le_of_ble_eq_true rfl⟩ ⟨Nat.le_of_ble_eq_true rfl, Nat.le_of_ble_eq_true rfl⟩ rfl rfl rfl rfl (Nat.le_of_ble_eq_true rfl) (fun H locs hP hD hS => ?_)
    refine lv_goto (tgt := 26) hx hb dX2_permitsWanted_18 (by decide) ?_
    exact gt_iret hC hr hlk hK (ws := (mw cI t q (up2 M 12 0 0) (mWk (up2 M 12 0 0) K g.toNatClampNeg (mWn (up2 M 12 0 0) G N g.toNatClampNeg)))) hP hD hS (show some (Value.int (mWan (up2 M 12 0 0) G N g.toNatClampNeg)) = _ from (congrArg (fun z => some (Value.int z)) ((if_neg c10_1).trans rfl).symm)) (congr (congrArg (mw cI t q) ((if_neg c10_1).trans rfl).symm) ((if_neg c10_1).trans rfl).symm) dX2_permitsWanted_26 (Nat.le_of_ble_eq_true rfl) (Nat.le_of_ble_eq_true rfl)

theorem hd_X2_bestOrder : yX2_bestOrder.cls = RX2 ∧ yX2_bestOrder.cls ≠ "java/lang/invoke/MethodHandle" ∧ yX2_bestOrder.cls ≠ "java/lang/invoke/VarHandle" ∧ (parseMethodDescriptor yX2_bestOrder.desc).map (fun d => d.parameters.length) = some 1 := by decide +kernel
set_option maxHeartbeats 400000 in
set_option maxRecDepth 100000 in
theorem ct_X2_bestOrder (l : Launch) (D : va_G) (cI : ClassId) (t : Nat) (q : Nat → Nat) (M K : SS) (g : Int32) (N : Nat) (hN : M 12 2 = nI N) (hN12 : N ≤ 12) (G : Nat) (hG : M 12 1 = nI G) (hG4 : G ≤ 4) (ht : ∀ (X : SS) (g : Nat), mOpN X g N < 13) : Ct l D [(cI, .int)] yX2_bestOrder wsX2_bestOrder 10 226 0 0 [.ref t, .int g] (mw cI t q M K) (some (.int (mR_bestOrder M N G g))) (mw cI t q (mM_bestOrder M N G g) (mK_bestOrder M K N G g)) := by
  refine Ct.ofW (cc := cX2_bestOrder) (maxL := 2) (ret := (some .int)) (by decide) rfl (Nat.le_of_ble_eq_true rfl) ?_
  intro p e s m below meth c A ls hC hr hlk _ hP hD hS hK hA hl
  have hx := hC.1
  have hb := hC.2.1
  have hinX2 : ∀ w ∈ wsX20, w ∈ wsX2_bestOrder := fun _ _h => List.mem_cons_of_mem _ (List.mem_append_right _ _h)
  have hl : lv_has ls 2 [(0, .ref t), (1, .int g)] := hl
  refine lv_aload_n hx hb dX2_bestOrder_0 rfl (lv_at hl 0 rfl) ?_
  refine lv_iconst (v := 0) hx hb dX2_bestOrder_1 (by decide) ?_
  refine gt_puti (ws' := (mw cI t q (up2 M 12 0 0) K)) hC 0 2 0 1 hinX2 tyX2_ok nmX2 hK hP hD hS dX2_bestOrder_2 rfl rfl (by decide) rfl rfl rfl rfl (Nat.le_of_ble_eq_true rfl) (mw_f0 cI t q M K 0) (fun H locs hP hD hS => ?_)
  refine lv_aload_n hx hb dX2_bestOrder_5 rfl (lv_at hl 0 rfl) ?_
  refine lv_iload_n hx hb dX2_bestOrder_6 rfl (lv_at hl 1 rfl) ?_
  refine gt_call0 hC 0 2 1 (ct_X2_isGate l D cI t q (up2 M 12 0 0) K g) gX2_bestOrder_X2_isGate dX2_bestOrder_7 hK hP hD hS hA hl.1 rfl hd_X2_isGate ⟨Nat.le_of_ble_eq_true rfl, Nat.le_of_ble_eq_true rfl⟩ ⟨Nat.le_of_ble_eq_true rfl, Nat.le_of_ble_eq_true rfl⟩ rfl rfl rfl rfl (Nat.le_of_ble_eq_true rfl) (fun H locs hP hD hS => ?_)
  refine lv_if_eq (tgt := 21) hx hb dX2_bestOrder_10 (by decide) (fun c10_1 : (mGate (up2 M 12 0 0) g) = 0 => ?_) (fun c10_1 : ¬ ((mGate (up2 M 12 0 0) g) = 0) => ?_)
  · skip
    refine lv_aload_n hx hb dX2_bestOrder_21 rfl (lv_at hl 0 rfl) ?_
    refine lv_iconst (v := 1) hx hb dX2_bestOrder_22 (by decide) ?_
    refine gt_call0 hC 0 2 1 (ct_X2_no l D cI t q (up2 M 12 0 0) K 1) gX2_bestOrder_X2_no dX2_bestOrder_23 hK hP hD hS hA hl.1 rfl hd_X2_no ⟨Nat.le_of_ble_eq_true rfl, Nat.le_of_ble_eq_true rfl⟩ ⟨Nat.le_of_ble_eq_true rfl, Nat.le_of_ble_eq_true rfl⟩ rfl rfl rfl rfl (Nat.le_of_ble_eq_true rfl) (fun H locs hP hD hS => ?_)
    exact gt_iret hC hr hlk hK (ws := (mw cI t q (up2 (up2 M 12 0 0) 12 0 1) K)) hP hD hS (show some (Value.int 0) = _ from (congrArg (fun z => some (Value.int z)) ((if_pos c10_1).trans rfl).symm)) (congr (congrArg (mw cI t q) ((if_pos c10_1).trans rfl).symm) ((if_pos c10_1).trans rfl).symm) dX2_bestOrder_26 (Nat.le_of_ble_eq_true rfl) (Nat.le_of_ble_eq_true rfl)
  · skip
    have h9g := ix_of (f := g) (by omega) (mIn_n hG (by omega) c10_1)
    refine lv_aload_n hx hb dX2_bestOrder_13 rfl (lv_at hl 0 rfl) ?_
    refine lv_iload_n hx hb dX2_bestOrder_14 rfl (lv_at hl 1 rfl) ?_
    refine gt_stk [.int (nI g.toNatClampNeg), .ref t] (congrArg (fun z : Int32 => ([.int z, .ref t] : List Value)) h9g.1) ?_
    refine gt_call0 hC 0 2 1 (ct_X2_better l D cI t q (up2 M 12 0 0) K g.toNatClampNeg (by omega) N hN hN12 G hG hG4 ht) gX2_bestOrder_X2_better dX2_bestOrder_15 hK hP hD hS hA hl.1 rfl hd_X2_better ⟨Nat.le_of_ble_eq_true rfl, Nat.le_of_ble_eq_true rfl⟩ ⟨Nat.le_of_ble_eq_true rfl, Nat.le_of_ble_eq_true rfl⟩ rfl rfl rfl rfl (Nat.le_of_ble_eq_true rfl) (fun H locs hP hD hS => ?_)
    refine lv_goto (tgt := 26) hx hb dX2_bestOrder_18 (by decide) ?_
    exact gt_iret hC hr hlk hK (ws := (mw cI t q (up2 M 12 0 0) (up2 (up2 M 12 0 0) 10 g.toNatClampNeg 0))) hP hD hS (show some (Value.int (mBet (up2 M 12 0 0) G N g.toNatClampNeg)) = _ from (congrArg (fun z => some (Value.int z)) ((if_neg c10_1).trans rfl).symm)) (congr (congrArg (mw cI t q) ((if_neg c10_1).trans rfl).symm) ((if_neg c10_1).trans rfl).symm) dX2_bestOrder_26 (Nat.le_of_ble_eq_true rfl) (Nat.le_of_ble_eq_true rfl)

theorem hd_X2_gateOf : yX2_gateOf.cls = RX2 ∧ yX2_gateOf.cls ≠ "java/lang/invoke/MethodHandle" ∧ yX2_gateOf.cls ≠ "java/lang/invoke/VarHandle" ∧ (parseMethodDescriptor yX2_gateOf.desc).map (fun d => d.parameters.length) = some 1 := by decide +kernel
set_option maxHeartbeats 400000 in
set_option maxRecDepth 100000 in
theorem ct_X2_gateOf (l : Launch) (D : va_G) (cI : ClassId) (t : Nat) (q : Nat → Nat) (M K : SS) (k : Int32) (N : Nat) (hN : M 12 2 = nI N) (hN12 : N ≤ 12) (G : Nat) (hG : M 12 1 = nI G) (hG4 : G ≤ 4) (ht : ∀ (X : SS) (g : Nat), mOpN X g N < 13) : Ct l D [(cI, .int)] yX2_gateOf wsX2_gateOf 3 65 0 0 [.ref t, .int k] (mw cI t q M K) (some (.int (mR_gateOf M N G k))) (mw cI t q (mM_gateOf M N G k) K) := by
  refine Ct.ofW (cc := cX2_gateOf) (maxL := 2) (ret := (some .int)) (by decide) rfl (Nat.le_of_ble_eq_true rfl) ?_
  intro p e s m below meth c A ls hC hr hlk _ hP hD hS hK hA hl
  have hx := hC.1
  have hb := hC.2.1
  have hinX2 : ∀ w ∈ wsX20, w ∈ wsX2_gateOf := fun _ _h => List.mem_cons_of_mem _ (List.mem_append_right _ _h)
  have hl : lv_has ls 2 [(0, .ref t), (1, .int k)] := hl
  refine lv_aload_n hx hb dX2_gateOf_0 rfl (lv_at hl 0 rfl) ?_
  refine lv_iconst (v := 0) hx hb dX2_gateOf_1 (by decide) ?_
  refine gt_puti (ws' := (mw cI t q (up2 M 12 0 0) K)) hC 0 2 0 1 hinX2 tyX2_ok nmX2 hK hP hD hS dX2_gateOf_2 rfl rfl (by decide) rfl rfl rfl rfl (Nat.le_of_ble_eq_true rfl) (mw_f0 cI t q M K 0) (fun H locs hP hD hS => ?_)
  refine lv_aload_n hx hb dX2_gateOf_5 rfl (lv_at hl 0 rfl) ?_
  refine lv_iload_n hx hb dX2_gateOf_6 rfl (lv_at hl 1 rfl) ?_
  refine gt_call0 hC 0 2 1 (ct_X2_isGoat l D cI t q (up2 M 12 0 0) K k) gX2_gateOf_X2_isGoat dX2_gateOf_7 hK hP hD hS hA hl.1 rfl hd_X2_isGoat ⟨Nat.le_of_ble_eq_true rfl, Nat.le_of_ble_eq_true rfl⟩ ⟨Nat.le_of_ble_eq_true rfl, Nat.le_of_ble_eq_true rfl⟩ rfl rfl rfl rfl (Nat.le_of_ble_eq_true rfl) (fun H locs hP hD hS => ?_)
  refine lv_if_eq (tgt := 21) hx hb dX2_gateOf_10 (by decide) (fun c10_1 : (mGoat (up2 M 12 0 0) k) = 0 => ?_) (fun c10_1 : ¬ ((mGoat (up2 M 12 0 0) k) = 0) => ?_)
  · skip
    refine lv_aload_n hx hb dX2_gateOf_21 rfl (lv_at hl 0 rfl) ?_
    refine lv_iconst (v := 1) hx hb dX2_gateOf_22 (by decide) ?_
    refine gt_call0 hC 0 2 1 (ct_X2_no l D cI t q (up2 M 12 0 0) K 1) gX2_gateOf_X2_no dX2_gateOf_23 hK hP hD hS hA hl.1 rfl hd_X2_no ⟨Nat.le_of_ble_eq_true rfl, Nat.le_of_ble_eq_true rfl⟩ ⟨Nat.le_of_ble_eq_true rfl, Nat.le_of_ble_eq_true rfl⟩ rfl rfl rfl rfl (Nat.le_of_ble_eq_true rfl) (fun H locs hP hD hS => ?_)
    exact gt_iret hC hr hlk hK (ws := (mw cI t q (up2 (up2 M 12 0 0) 12 0 1) K)) hP hD hS (show some (Value.int 0) = _ from (congrArg (fun z => some (Value.int z)) ((if_pos c10_1).trans rfl).symm)) (congrArg (fun z => mw cI t q z K) ((if_pos c10_1).trans rfl).symm) dX2_gateOf_26 (Nat.le_of_ble_eq_true rfl) (Nat.le_of_ble_eq_true rfl)
  · skip
    have h9k := ix_of (f := k) (by omega) (mIn_n hN (by omega) c10_1)
    refine lv_aload_n hx hb dX2_gateOf_13 rfl (lv_at hl 0 rfl) ?_
    refine lv_iload_n hx hb dX2_gateOf_14 rfl (lv_at hl 1 rfl) ?_
    refine gt_stk [.int (nI k.toNatClampNeg), .ref t] (congrArg (fun z : Int32 => ([.int z, .ref t] : List Value)) h9k.1) ?_
    refine gt_call0 hC 0 2 1 (ct_X2_where l D cI t q (up2 M 12 0 0) K k.toNatClampNeg (by omega)) gX2_gateOf_X2_where dX2_gateOf_15 hK hP hD hS hA hl.1 rfl hd_X2_where ⟨Nat.le_of_ble_eq_true rfl, Nat.le_of_ble_eq_true rfl⟩ ⟨Nat.le_of_ble_eq_true rfl, Nat.le_of_ble_eq_true rfl⟩ rfl rfl rfl rfl (Nat.le_of_ble_eq_true rfl) (fun H locs hP hD hS => ?_)
    refine lv_goto (tgt := 26) hx hb dX2_gateOf_18 (by decide) ?_
    exact gt_iret hC hr hlk hK (ws := (mw cI t q (up2 M 12 0 0) K)) hP hD hS (show some (Value.int (mWhere (up2 M 12 0 0) k.toNatClampNeg)) = _ from (congrArg (fun z => some (Value.int z)) ((if_neg c10_1).trans rfl).symm)) (congrArg (fun z => mw cI t q z K) ((if_neg c10_1).trans rfl).symm) dX2_gateOf_26 (Nat.le_of_ble_eq_true rfl) (Nat.le_of_ble_eq_true rfl)

theorem hd_X2_holds : yX2_holds.cls = RX2 ∧ yX2_holds.cls ≠ "java/lang/invoke/MethodHandle" ∧ yX2_holds.cls ≠ "java/lang/invoke/VarHandle" ∧ (parseMethodDescriptor yX2_holds.desc).map (fun d => d.parameters.length) = some 1 := by decide +kernel
set_option maxHeartbeats 400000 in
set_option maxRecDepth 100000 in
theorem ct_X2_holds (l : Launch) (D : va_G) (cI : ClassId) (t : Nat) (q : Nat → Nat) (M K : SS) (k : Int32) (N : Nat) (hN : M 12 2 = nI N) (hN12 : N ≤ 12) (G : Nat) (hG : M 12 1 = nI G) (hG4 : G ≤ 4) (ht : ∀ (X : SS) (g : Nat), mOpN X g N < 13) : Ct l D [(cI, .int)] yX2_holds wsX2_holds 3 65 0 0 [.ref t, .int k] (mw cI t q M K) (some (.int (mR_holds M N G k))) (mw cI t q (mM_holds M N G k) K) := by
  refine Ct.ofW (cc := cX2_holds) (maxL := 2) (ret := (some .int)) (by decide) rfl (Nat.le_of_ble_eq_true rfl) ?_
  intro p e s m below meth c A ls hC hr hlk _ hP hD hS hK hA hl
  have hx := hC.1
  have hb := hC.2.1
  have hinX2 : ∀ w ∈ wsX20, w ∈ wsX2_holds := fun _ _h => List.mem_cons_of_mem _ (List.mem_append_right _ _h)
  have hl : lv_has ls 2 [(0, .ref t), (1, .int k)] := hl
  refine lv_aload_n hx hb dX2_holds_0 rfl (lv_at hl 0 rfl) ?_
  refine lv_iconst (v := 0) hx hb dX2_holds_1 (by decide) ?_
  refine gt_puti (ws' := (mw cI t q (up2 M 12 0 0) K)) hC 0 2 0 1 hinX2 tyX2_ok nmX2 hK hP hD hS dX2_holds_2 rfl rfl (by decide) rfl rfl rfl rfl (Nat.le_of_ble_eq_true rfl) (mw_f0 cI t q M K 0) (fun H locs hP hD hS => ?_)
  refine lv_aload_n hx hb dX2_holds_5 rfl (lv_at hl 0 rfl) ?_
  refine lv_iload_n hx hb dX2_holds_6 rfl (lv_at hl 1 rfl) ?_
  refine gt_call0 hC 0 2 1 (ct_X2_isGoat l D cI t q (up2 M 12 0 0) K k) gX2_holds_X2_isGoat dX2_holds_7 hK hP hD hS hA hl.1 rfl hd_X2_isGoat ⟨Nat.le_of_ble_eq_true rfl, Nat.le_of_ble_eq_true rfl⟩ ⟨Nat.le_of_ble_eq_true rfl, Nat.le_of_ble_eq_true rfl⟩ rfl rfl rfl rfl (Nat.le_of_ble_eq_true rfl) (fun H locs hP hD hS => ?_)
  refine lv_if_eq (tgt := 21) hx hb dX2_holds_10 (by decide) (fun c10_1 : (mGoat (up2 M 12 0 0) k) = 0 => ?_) (fun c10_1 : ¬ ((mGoat (up2 M 12 0 0) k) = 0) => ?_)
  · skip
    refine lv_aload_n hx hb dX2_holds_21 rfl (lv_at hl 0 rfl) ?_
    refine lv_iconst (v := 1) hx hb dX2_holds_22 (by decide) ?_
    refine gt_call0 hC 0 2 1 (ct_X2_no l D cI t q (up2 M 12 0 0) K 1) gX2_holds_X2_no dX2_holds_23 hK hP hD hS hA hl.1 rfl hd_X2_no ⟨Nat.le_of_ble_eq_true rfl, Nat.le_of_ble_eq_true rfl⟩ ⟨Nat.le_of_ble_eq_true rfl, Nat.le_of_ble_eq_true rfl⟩ rfl rfl rfl rfl (Nat.le_of_ble_eq_true rfl) (fun H locs hP hD hS => ?_)
    exact gt_iret hC hr hlk hK (ws := (mw cI t q (up2 (up2 M 12 0 0) 12 0 1) K)) hP hD hS (show some (Value.int 0) = _ from (congrArg (fun z => some (Value.int z)) ((if_pos c10_1).trans rfl).symm)) (congrArg (fun z => mw cI t q z K) ((if_pos c10_1).trans rfl).symm) dX2_holds_26 (Nat.le_of_ble_eq_true rfl) (Nat.le_of_ble_eq_true rfl)
  · skip
    have h9k := ix_of (f := k) (by omega) (mIn_n hN (by omega) c10_1)
    refine lv_aload_n hx hb dX2_holds_13 rfl (lv_at hl 0 rfl) ?_
    refine lv_iload_n hx hb dX2_holds_14 rfl (lv_at hl 1 rfl) ?_
    refine gt_stk [.int (nI k.toNatClampNeg), .ref t] (congrArg (fun z : Int32 => ([.int z, .ref t] : List Value)) h9k.1) ?_
    refine gt_call0 hC 0 2 1 (ct_X2_held l D cI t q (up2 M 12 0 0) K k.toNatClampNeg (by omega)) gX2_holds_X2_held dX2_holds_15 hK hP hD hS hA hl.1 rfl hd_X2_held ⟨Nat.le_of_ble_eq_true rfl, Nat.le_of_ble_eq_true rfl⟩ ⟨Nat.le_of_ble_eq_true rfl, Nat.le_of_ble_eq_true rfl⟩ rfl rfl rfl rfl (Nat.le_of_ble_eq_true rfl) (fun H locs hP hD hS => ?_)
    refine lv_goto (tgt := 26) hx hb dX2_holds_18 (by decide) ?_
    exact gt_iret hC hr hlk hK (ws := (mw cI t q (up2 M 12 0 0) K)) hP hD hS (show some (Value.int (mHeld (up2 M 12 0 0) k.toNatClampNeg)) = _ from (congrArg (fun z => some (Value.int z)) ((if_neg c10_1).trans rfl).symm)) (congrArg (fun z => mw cI t q z K) ((if_neg c10_1).trans rfl).symm) dX2_holds_26 (Nat.le_of_ble_eq_true rfl) (Nat.le_of_ble_eq_true rfl)

theorem hd_X2_seemingHorns : yX2_seemingHorns.cls = RX2 ∧ yX2_seemingHorns.cls ≠ "java/lang/invoke/MethodHandle" ∧ yX2_seemingHorns.cls ≠ "java/lang/invoke/VarHandle" ∧ (parseMethodDescriptor yX2_seemingHorns.desc).map (fun d => d.parameters.length) = some 1 := by decide +kernel
set_option maxHeartbeats 400000 in
set_option maxRecDepth 100000 in
theorem ct_X2_seemingHorns (l : Launch) (D : va_G) (cI : ClassId) (t : Nat) (q : Nat → Nat) (M K : SS) (k : Int32) (N : Nat) (hN : M 12 2 = nI N) (hN12 : N ≤ 12) (G : Nat) (hG : M 12 1 = nI G) (hG4 : G ≤ 4) (ht : ∀ (X : SS) (g : Nat), mOpN X g N < 13) : Ct l D [(cI, .int)] yX2_seemingHorns wsX2_seemingHorns 3 65 0 0 [.ref t, .int k] (mw cI t q M K) (some (.int (mR_seemingHorns M N G k))) (mw cI t q (mM_seemingHorns M N G k) K) := by
  refine Ct.ofW (cc := cX2_seemingHorns) (maxL := 2) (ret := (some .int)) (by decide) rfl (Nat.le_of_ble_eq_true rfl) ?_
  intro p e s m below meth c A ls hC hr hlk _ hP hD hS hK hA hl
  have hx := hC.1
  have hb := hC.2.1
  have hinX2 : ∀ w ∈ wsX20, w ∈ wsX2_seemingHorns := fun _ _h => List.mem_cons_of_mem _ (List.mem_append_right _ _h)
  have hl : lv_has ls 2 [(0, .ref t), (1, .int k)] := hl
  refine lv_aload_n hx hb dX2_seemingHorns_0 rfl (lv_at hl 0 rfl) ?_
  refine lv_iconst (v := 0) hx hb dX2_seemingHorns_1 (by decide) ?_
  refine gt_puti (ws' := (mw cI t q (up2 M 12 0 0) K)) hC 0 2 0 1 hinX2 tyX2_ok nmX2 hK hP hD hS dX2_seemingHorns_2 rfl rfl (by decide) rfl rfl rfl rfl (Nat.le_of_ble_eq_true rfl) (mw_f0 cI t q M K 0) (fun H locs hP hD hS => ?_)
  refine lv_aload_n hx hb dX2_seemingHorns_5 rfl (lv_at hl 0 rfl) ?_
  refine lv_iload_n hx hb dX2_seemingHorns_6 rfl (lv_at hl 1 rfl) ?_
  refine gt_call0 hC 0 2 1 (ct_X2_isGoat l D cI t q (up2 M 12 0 0) K k) gX2_seemingHorns_X2_isGoat dX2_seemingHorns_7 hK hP hD hS hA hl.1 rfl hd_X2_isGoat ⟨Nat.le_of_ble_eq_true rfl, Nat.le_of_ble_eq_true rfl⟩ ⟨Nat.le_of_ble_eq_true rfl, Nat.le_of_ble_eq_true rfl⟩ rfl rfl rfl rfl (Nat.le_of_ble_eq_true rfl) (fun H locs hP hD hS => ?_)
  refine lv_if_eq (tgt := 21) hx hb dX2_seemingHorns_10 (by decide) (fun c10_1 : (mGoat (up2 M 12 0 0) k) = 0 => ?_) (fun c10_1 : ¬ ((mGoat (up2 M 12 0 0) k) = 0) => ?_)
  · skip
    refine lv_aload_n hx hb dX2_seemingHorns_21 rfl (lv_at hl 0 rfl) ?_
    refine lv_iconst (v := 1) hx hb dX2_seemingHorns_22 (by decide) ?_
    refine gt_call0 hC 0 2 1 (ct_X2_no l D cI t q (up2 M 12 0 0) K 1) gX2_seemingHorns_X2_no dX2_seemingHorns_23 hK hP hD hS hA hl.1 rfl hd_X2_no ⟨Nat.le_of_ble_eq_true rfl, Nat.le_of_ble_eq_true rfl⟩ ⟨Nat.le_of_ble_eq_true rfl, Nat.le_of_ble_eq_true rfl⟩ rfl rfl rfl rfl (Nat.le_of_ble_eq_true rfl) (fun H locs hP hD hS => ?_)
    exact gt_iret hC hr hlk hK (ws := (mw cI t q (up2 (up2 M 12 0 0) 12 0 1) K)) hP hD hS (show some (Value.int 0) = _ from (congrArg (fun z => some (Value.int z)) ((if_pos c10_1).trans rfl).symm)) (congrArg (fun z => mw cI t q z K) ((if_pos c10_1).trans rfl).symm) dX2_seemingHorns_26 (Nat.le_of_ble_eq_true rfl) (Nat.le_of_ble_eq_true rfl)
  · skip
    have h9k := ix_of (f := k) (by omega) (mIn_n hN (by omega) c10_1)
    refine lv_aload_n hx hb dX2_seemingHorns_13 rfl (lv_at hl 0 rfl) ?_
    refine lv_iload_n hx hb dX2_seemingHorns_14 rfl (lv_at hl 1 rfl) ?_
    refine gt_stk [.int (nI k.toNatClampNeg), .ref t] (congrArg (fun z : Int32 => ([.int z, .ref t] : List Value)) h9k.1) ?_
    refine gt_call0 hC 0 2 1 (ct_X2_seem l D cI t q (up2 M 12 0 0) K k.toNatClampNeg (by omega)) gX2_seemingHorns_X2_seem dX2_seemingHorns_15 hK hP hD hS hA hl.1 rfl hd_X2_seem ⟨Nat.le_of_ble_eq_true rfl, Nat.le_of_ble_eq_true rfl⟩ ⟨Nat.le_of_ble_eq_true rfl, Nat.le_of_ble_eq_true rfl⟩ rfl rfl rfl rfl (Nat.le_of_ble_eq_true rfl) (fun H locs hP hD hS => ?_)
    refine lv_goto (tgt := 26) hx hb dX2_seemingHorns_18 (by decide) ?_
    exact gt_iret hC hr hlk hK (ws := (mw cI t q (up2 M 12 0 0) K)) hP hD hS (show some (Value.int (mSeem (up2 M 12 0 0) k.toNatClampNeg)) = _ from (congrArg (fun z => some (Value.int z)) ((if_neg c10_1).trans rfl).symm)) (congrArg (fun z => mw cI t q z K) ((if_neg c10_1).trans rfl).symm) dX2_seemingHorns_26 (Nat.le_of_ble_eq_true rfl) (Nat.le_of_ble_eq_true rfl)

theorem hd_X2_minutesLeft : yX2_minutesLeft.cls = RX2 ∧ yX2_minutesLeft.cls ≠ "java/lang/invoke/MethodHandle" ∧ yX2_minutesLeft.cls ≠ "java/lang/invoke/VarHandle" ∧ (parseMethodDescriptor yX2_minutesLeft.desc).map (fun d => d.parameters.length) = some 1 := by decide +kernel
set_option maxHeartbeats 400000 in
set_option maxRecDepth 100000 in
theorem ct_X2_minutesLeft (l : Launch) (D : va_G) (cI : ClassId) (t : Nat) (q : Nat → Nat) (M K : SS) (k : Int32) (N : Nat) (hN : M 12 2 = nI N) (hN12 : N ≤ 12) (G : Nat) (hG : M 12 1 = nI G) (hG4 : G ≤ 4) (ht : ∀ (X : SS) (g : Nat), mOpN X g N < 13) : Ct l D [(cI, .int)] yX2_minutesLeft wsX2_minutesLeft 3 65 0 0 [.ref t, .int k] (mw cI t q M K) (some (.int (mR_minutesLeft M N G k))) (mw cI t q (mM_minutesLeft M N G k) K) := by
  refine Ct.ofW (cc := cX2_minutesLeft) (maxL := 2) (ret := (some .int)) (by decide) rfl (Nat.le_of_ble_eq_true rfl) ?_
  intro p e s m below meth c A ls hC hr hlk _ hP hD hS hK hA hl
  have hx := hC.1
  have hb := hC.2.1
  have hinX2 : ∀ w ∈ wsX20, w ∈ wsX2_minutesLeft := fun _ _h => List.mem_cons_of_mem _ (List.mem_append_right _ _h)
  have hl : lv_has ls 2 [(0, .ref t), (1, .int k)] := hl
  refine lv_aload_n hx hb dX2_minutesLeft_0 rfl (lv_at hl 0 rfl) ?_
  refine lv_iconst (v := 0) hx hb dX2_minutesLeft_1 (by decide) ?_
  refine gt_puti (ws' := (mw cI t q (up2 M 12 0 0) K)) hC 0 2 0 1 hinX2 tyX2_ok nmX2 hK hP hD hS dX2_minutesLeft_2 rfl rfl (by decide) rfl rfl rfl rfl (Nat.le_of_ble_eq_true rfl) (mw_f0 cI t q M K 0) (fun H locs hP hD hS => ?_)
  refine lv_aload_n hx hb dX2_minutesLeft_5 rfl (lv_at hl 0 rfl) ?_
  refine lv_iload_n hx hb dX2_minutesLeft_6 rfl (lv_at hl 1 rfl) ?_
  refine gt_call0 hC 0 2 1 (ct_X2_isGoat l D cI t q (up2 M 12 0 0) K k) gX2_minutesLeft_X2_isGoat dX2_minutesLeft_7 hK hP hD hS hA hl.1 rfl hd_X2_isGoat ⟨Nat.le_of_ble_eq_true rfl, Nat.le_of_ble_eq_true rfl⟩ ⟨Nat.le_of_ble_eq_true rfl, Nat.le_of_ble_eq_true rfl⟩ rfl rfl rfl rfl (Nat.le_of_ble_eq_true rfl) (fun H locs hP hD hS => ?_)
  refine lv_if_eq (tgt := 21) hx hb dX2_minutesLeft_10 (by decide) (fun c10_1 : (mGoat (up2 M 12 0 0) k) = 0 => ?_) (fun c10_1 : ¬ ((mGoat (up2 M 12 0 0) k) = 0) => ?_)
  · skip
    refine lv_aload_n hx hb dX2_minutesLeft_21 rfl (lv_at hl 0 rfl) ?_
    refine lv_iconst (v := 1) hx hb dX2_minutesLeft_22 (by decide) ?_
    refine gt_call0 hC 0 2 1 (ct_X2_no l D cI t q (up2 M 12 0 0) K 1) gX2_minutesLeft_X2_no dX2_minutesLeft_23 hK hP hD hS hA hl.1 rfl hd_X2_no ⟨Nat.le_of_ble_eq_true rfl, Nat.le_of_ble_eq_true rfl⟩ ⟨Nat.le_of_ble_eq_true rfl, Nat.le_of_ble_eq_true rfl⟩ rfl rfl rfl rfl (Nat.le_of_ble_eq_true rfl) (fun H locs hP hD hS => ?_)
    exact gt_iret hC hr hlk hK (ws := (mw cI t q (up2 (up2 M 12 0 0) 12 0 1) K)) hP hD hS (show some (Value.int 0) = _ from (congrArg (fun z => some (Value.int z)) ((if_pos c10_1).trans rfl).symm)) (congrArg (fun z => mw cI t q z K) ((if_pos c10_1).trans rfl).symm) dX2_minutesLeft_26 (Nat.le_of_ble_eq_true rfl) (Nat.le_of_ble_eq_true rfl)
  · skip
    have h9k := ix_of (f := k) (by omega) (mIn_n hN (by omega) c10_1)
    refine lv_aload_n hx hb dX2_minutesLeft_13 rfl (lv_at hl 0 rfl) ?_
    refine lv_iload_n hx hb dX2_minutesLeft_14 rfl (lv_at hl 1 rfl) ?_
    refine gt_stk [.int (nI k.toNatClampNeg), .ref t] (congrArg (fun z : Int32 => ([.int z, .ref t] : List Value)) h9k.1) ?_
    refine gt_call0 hC 0 2 1 (ct_X2_left l D cI t q (up2 M 12 0 0) K k.toNatClampNeg (by omega)) gX2_minutesLeft_X2_left dX2_minutesLeft_15 hK hP hD hS hA hl.1 rfl hd_X2_left ⟨Nat.le_of_ble_eq_true rfl, Nat.le_of_ble_eq_true rfl⟩ ⟨Nat.le_of_ble_eq_true rfl, Nat.le_of_ble_eq_true rfl⟩ rfl rfl rfl rfl (Nat.le_of_ble_eq_true rfl) (fun H locs hP hD hS => ?_)
    refine lv_goto (tgt := 26) hx hb dX2_minutesLeft_18 (by decide) ?_
    exact gt_iret hC hr hlk hK (ws := (mw cI t q (up2 M 12 0 0) K)) hP hD hS (show some (Value.int (mLeft (up2 M 12 0 0) k.toNatClampNeg)) = _ from (congrArg (fun z => some (Value.int z)) ((if_neg c10_1).trans rfl).symm)) (congrArg (fun z => mw cI t q z K) ((if_neg c10_1).trans rfl).symm) dX2_minutesLeft_26 (Nat.le_of_ble_eq_true rfl) (Nat.le_of_ble_eq_true rfl)

theorem hd_X2_placeInLine : yX2_placeInLine.cls = RX2 ∧ yX2_placeInLine.cls ≠ "java/lang/invoke/MethodHandle" ∧ yX2_placeInLine.cls ≠ "java/lang/invoke/VarHandle" ∧ (parseMethodDescriptor yX2_placeInLine.desc).map (fun d => d.parameters.length) = some 1 := by decide +kernel
set_option maxHeartbeats 400000 in
set_option maxRecDepth 100000 in
theorem ct_X2_placeInLine (l : Launch) (D : va_G) (cI : ClassId) (t : Nat) (q : Nat → Nat) (M K : SS) (k : Int32) (N : Nat) (hN : M 12 2 = nI N) (hN12 : N ≤ 12) (G : Nat) (hG : M 12 1 = nI G) (hG4 : G ≤ 4) (ht : ∀ (X : SS) (g : Nat), mOpN X g N < 13) : Ct l D [(cI, .int)] yX2_placeInLine wsX2_placeInLine 4 89 0 0 [.ref t, .int k] (mw cI t q M K) (some (.int (mR_placeInLine M N G k))) (mw cI t q (mM_placeInLine M N G k) K) := by
  refine Ct.ofW (cc := cX2_placeInLine) (maxL := 2) (ret := (some .int)) (by decide) rfl (Nat.le_of_ble_eq_true rfl) ?_
  intro p e s m below meth c A ls hC hr hlk _ hP hD hS hK hA hl
  have hx := hC.1
  have hb := hC.2.1
  have hinX2 : ∀ w ∈ wsX20, w ∈ wsX2_placeInLine := fun _ _h => List.mem_cons_of_mem _ (List.mem_append_right _ _h)
  have hl : lv_has ls 2 [(0, .ref t), (1, .int k)] := hl
  refine lv_aload_n hx hb dX2_placeInLine_0 rfl (lv_at hl 0 rfl) ?_
  refine lv_iconst (v := 0) hx hb dX2_placeInLine_1 (by decide) ?_
  refine gt_puti (ws' := (mw cI t q (up2 M 12 0 0) K)) hC 0 2 0 1 hinX2 tyX2_ok nmX2 hK hP hD hS dX2_placeInLine_2 rfl rfl (by decide) rfl rfl rfl rfl (Nat.le_of_ble_eq_true rfl) (mw_f0 cI t q M K 0) (fun H locs hP hD hS => ?_)
  refine lv_aload_n hx hb dX2_placeInLine_5 rfl (lv_at hl 0 rfl) ?_
  refine lv_iload_n hx hb dX2_placeInLine_6 rfl (lv_at hl 1 rfl) ?_
  refine gt_call0 hC 0 2 1 (ct_X2_isGoat l D cI t q (up2 M 12 0 0) K k) gX2_placeInLine_X2_isGoat dX2_placeInLine_7 hK hP hD hS hA hl.1 rfl hd_X2_isGoat ⟨Nat.le_of_ble_eq_true rfl, Nat.le_of_ble_eq_true rfl⟩ ⟨Nat.le_of_ble_eq_true rfl, Nat.le_of_ble_eq_true rfl⟩ rfl rfl rfl rfl (Nat.le_of_ble_eq_true rfl) (fun H locs hP hD hS => ?_)
  refine lv_if_eq (tgt := 21) hx hb dX2_placeInLine_10 (by decide) (fun c10_1 : (mGoat (up2 M 12 0 0) k) = 0 => ?_) (fun c10_1 : ¬ ((mGoat (up2 M 12 0 0) k) = 0) => ?_)
  · skip
    refine lv_aload_n hx hb dX2_placeInLine_21 rfl (lv_at hl 0 rfl) ?_
    refine lv_iconst (v := 1) hx hb dX2_placeInLine_22 (by decide) ?_
    refine gt_call0 hC 0 2 1 (ct_X2_no l D cI t q (up2 M 12 0 0) K 1) gX2_placeInLine_X2_no dX2_placeInLine_23 hK hP hD hS hA hl.1 rfl hd_X2_no ⟨Nat.le_of_ble_eq_true rfl, Nat.le_of_ble_eq_true rfl⟩ ⟨Nat.le_of_ble_eq_true rfl, Nat.le_of_ble_eq_true rfl⟩ rfl rfl rfl rfl (Nat.le_of_ble_eq_true rfl) (fun H locs hP hD hS => ?_)
    exact gt_iret hC hr hlk hK (ws := (mw cI t q (up2 (up2 M 12 0 0) 12 0 1) K)) hP hD hS (show some (Value.int 0) = _ from (congrArg (fun z => some (Value.int z)) ((if_pos c10_1).trans rfl).symm)) (congrArg (fun z => mw cI t q z K) ((if_pos c10_1).trans rfl).symm) dX2_placeInLine_26 (Nat.le_of_ble_eq_true rfl) (Nat.le_of_ble_eq_true rfl)
  · skip
    have h9k := ix_of (f := k) (by omega) (mIn_n hN (by omega) c10_1)
    refine lv_aload_n hx hb dX2_placeInLine_13 rfl (lv_at hl 0 rfl) ?_
    refine lv_iload_n hx hb dX2_placeInLine_14 rfl (lv_at hl 1 rfl) ?_
    refine gt_stk [.int (nI k.toNatClampNeg), .ref t] (congrArg (fun z : Int32 => ([.int z, .ref t] : List Value)) h9k.1) ?_
    refine gt_call0 hC 0 2 1 (ct_X2_place l D cI t q (up2 M 12 0 0) K k.toNatClampNeg (by omega) N hN hN12) gX2_placeInLine_X2_place dX2_placeInLine_15 hK hP hD hS hA hl.1 rfl hd_X2_place ⟨Nat.le_of_ble_eq_true rfl, Nat.le_of_ble_eq_true rfl⟩ ⟨Nat.le_of_ble_eq_true rfl, Nat.le_of_ble_eq_true rfl⟩ rfl rfl rfl rfl (Nat.le_of_ble_eq_true rfl) (fun H locs hP hD hS => ?_)
    refine lv_goto (tgt := 26) hx hb dX2_placeInLine_18 (by decide) ?_
    exact gt_iret hC hr hlk hK (ws := (mw cI t q (up2 M 12 0 0) K)) hP hD hS (show some (Value.int (mPl (up2 M 12 0 0) N k.toNatClampNeg)) = _ from (congrArg (fun z => some (Value.int z)) ((if_neg c10_1).trans rfl).symm)) (congrArg (fun z => mw cI t q z K) ((if_neg c10_1).trans rfl).symm) dX2_placeInLine_26 (Nat.le_of_ble_eq_true rfl) (Nat.le_of_ble_eq_true rfl)

theorem hd_X2_stateOf : yX2_stateOf.cls = RX2 ∧ yX2_stateOf.cls ≠ "java/lang/invoke/MethodHandle" ∧ yX2_stateOf.cls ≠ "java/lang/invoke/VarHandle" ∧ (parseMethodDescriptor yX2_stateOf.desc).map (fun d => d.parameters.length) = some 1 := by decide +kernel
set_option maxHeartbeats 400000 in
set_option maxRecDepth 100000 in
theorem ct_X2_stateOf (l : Launch) (D : va_G) (cI : ClassId) (t : Nat) (q : Nat → Nat) (M K : SS) (k : Int32) (N : Nat) (hN : M 12 2 = nI N) (hN12 : N ≤ 12) (G : Nat) (hG : M 12 1 = nI G) (hG4 : G ≤ 4) (ht : ∀ (X : SS) (g : Nat), mOpN X g N < 13) : Ct l D [(cI, .int)] yX2_stateOf wsX2_stateOf 2 43 0 0 [.ref t, .int k] (mw cI t q M K) (some (.int (mR_stateOf M N G k))) (mw cI t q (mM_stateOf M N G k) K) := by
  refine Ct.ofW (cc := cX2_stateOf) (maxL := 2) (ret := (some .int)) (by decide) rfl (Nat.le_of_ble_eq_true rfl) ?_
  intro p e s m below meth c A ls hC hr hlk _ hP hD hS hK hA hl
  have hx := hC.1
  have hb := hC.2.1
  have hinX2 : ∀ w ∈ wsX20, w ∈ wsX2_stateOf := fun _ _h => List.mem_cons_of_mem _ (List.mem_append_right _ _h)
  have hl : lv_has ls 2 [(0, .ref t), (1, .int k)] := hl
  refine lv_aload_n hx hb dX2_stateOf_0 rfl (lv_at hl 0 rfl) ?_
  refine lv_iconst (v := 0) hx hb dX2_stateOf_1 (by decide) ?_
  refine gt_puti (ws' := (mw cI t q (up2 M 12 0 0) K)) hC 0 2 0 1 hinX2 tyX2_ok nmX2 hK hP hD hS dX2_stateOf_2 rfl rfl (by decide) rfl rfl rfl rfl (Nat.le_of_ble_eq_true rfl) (mw_f0 cI t q M K 0) (fun H locs hP hD hS => ?_)
  refine lv_aload_n hx hb dX2_stateOf_5 rfl (lv_at hl 0 rfl) ?_
  refine lv_iload_n hx hb dX2_stateOf_6 rfl (lv_at hl 1 rfl) ?_
  refine gt_call0 hC 0 2 1 (ct_X2_isGoat l D cI t q (up2 M 12 0 0) K k) gX2_stateOf_X2_isGoat dX2_stateOf_7 hK hP hD hS hA hl.1 rfl hd_X2_isGoat ⟨Nat.le_of_ble_eq_true rfl, Nat.le_of_ble_eq_true rfl⟩ ⟨Nat.le_of_ble_eq_true rfl, Nat.le_of_ble_eq_true rfl⟩ rfl rfl rfl rfl (Nat.le_of_ble_eq_true rfl) (fun H locs hP hD hS => ?_)
  refine lv_if_eq (tgt := 22) hx hb dX2_stateOf_10 (by decide) (fun c10_1 : (mGoat (up2 M 12 0 0) k) = 0 => ?_) (fun c10_1 : ¬ ((mGoat (up2 M 12 0 0) k) = 0) => ?_)
  · skip
    refine lv_aload_n hx hb dX2_stateOf_22 rfl (lv_at hl 0 rfl) ?_
    refine lv_iconst (v := 1) hx hb dX2_stateOf_23 (by decide) ?_
    refine gt_call0 hC 0 2 1 (ct_X2_no l D cI t q (up2 M 12 0 0) K 1) gX2_stateOf_X2_no dX2_stateOf_24 hK hP hD hS hA hl.1 rfl hd_X2_no ⟨Nat.le_of_ble_eq_true rfl, Nat.le_of_ble_eq_true rfl⟩ ⟨Nat.le_of_ble_eq_true rfl, Nat.le_of_ble_eq_true rfl⟩ rfl rfl rfl rfl (Nat.le_of_ble_eq_true rfl) (fun H locs hP hD hS => ?_)
    exact gt_iret hC hr hlk hK (ws := (mw cI t q (up2 (up2 M 12 0 0) 12 0 1) K)) hP hD hS (show some (Value.int 0) = _ from (congrArg (fun z => some (Value.int z)) ((if_pos c10_1).trans rfl).symm)) (congrArg (fun z => mw cI t q z K) ((if_pos c10_1).trans rfl).symm) dX2_stateOf_27 (Nat.le_of_ble_eq_true rfl) (Nat.le_of_ble_eq_true rfl)
  · skip
    have h9k := ix_of (f := k) (by omega) (mIn_n hN (by omega) c10_1)
    refine lv_aload_n hx hb dX2_stateOf_13 rfl (lv_at hl 0 rfl) ?_
    refine lv_iload_n hx hb dX2_stateOf_14 rfl (lv_at hl 1 rfl) ?_
    refine lv_iconst (v := 0) hx hb dX2_stateOf_15 (by decide) ?_
    refine gt_stk [.int 0, .int (nI k.toNatClampNeg), .ref t] (congrArg (fun z : Int32 => ([.int 0, .int z, .ref t] : List Value)) h9k.1) ?_
    refine gt_call0 hC 0 2 2 (ct_X2_of l D cI t q (up2 M 12 0 0) K k.toNatClampNeg 0 (by omega) (by decide)) gX2_stateOf_X2_of dX2_stateOf_16 hK hP hD hS hA hl.1 rfl hd_X2_of ⟨Nat.le_of_ble_eq_true rfl, Nat.le_of_ble_eq_true rfl⟩ ⟨Nat.le_of_ble_eq_true rfl, Nat.le_of_ble_eq_true rfl⟩ rfl rfl rfl rfl (Nat.le_of_ble_eq_true rfl) (fun H locs hP hD hS => ?_)
    refine lv_goto (tgt := 27) hx hb dX2_stateOf_19 (by decide) ?_
    exact gt_iret hC hr hlk hK (ws := (mw cI t q (up2 M 12 0 0) K)) hP hD hS (show some (Value.int ((up2 M 12 0 0) 0 k.toNatClampNeg)) = _ from (congrArg (fun z => some (Value.int z)) ((if_neg c10_1).trans rfl).symm)) (congrArg (fun z => mw cI t q z K) ((if_neg c10_1).trans rfl).symm) dX2_stateOf_27 (Nat.le_of_ble_eq_true rfl) (Nat.le_of_ble_eq_true rfl)

theorem hd_X2_waitedOf : yX2_waitedOf.cls = RX2 ∧ yX2_waitedOf.cls ≠ "java/lang/invoke/MethodHandle" ∧ yX2_waitedOf.cls ≠ "java/lang/invoke/VarHandle" ∧ (parseMethodDescriptor yX2_waitedOf.desc).map (fun d => d.parameters.length) = some 1 := by decide +kernel
set_option maxHeartbeats 400000 in
set_option maxRecDepth 100000 in
theorem ct_X2_waitedOf (l : Launch) (D : va_G) (cI : ClassId) (t : Nat) (q : Nat → Nat) (M K : SS) (k : Int32) (N : Nat) (hN : M 12 2 = nI N) (hN12 : N ≤ 12) (G : Nat) (hG : M 12 1 = nI G) (hG4 : G ≤ 4) (ht : ∀ (X : SS) (g : Nat), mOpN X g N < 13) : Ct l D [(cI, .int)] yX2_waitedOf wsX2_waitedOf 2 43 0 0 [.ref t, .int k] (mw cI t q M K) (some (.int (mR_waitedOf M N G k))) (mw cI t q (mM_waitedOf M N G k) K) := by
  refine Ct.ofW (cc := cX2_waitedOf) (maxL := 2) (ret := (some .int)) (by decide) rfl (Nat.le_of_ble_eq_true rfl) ?_
  intro p e s m below meth c A ls hC hr hlk _ hP hD hS hK hA hl
  have hx := hC.1
  have hb := hC.2.1
  have hinX2 : ∀ w ∈ wsX20, w ∈ wsX2_waitedOf := fun _ _h => List.mem_cons_of_mem _ (List.mem_append_right _ _h)
  have hl : lv_has ls 2 [(0, .ref t), (1, .int k)] := hl
  refine lv_aload_n hx hb dX2_waitedOf_0 rfl (lv_at hl 0 rfl) ?_
  refine lv_iconst (v := 0) hx hb dX2_waitedOf_1 (by decide) ?_
  refine gt_puti (ws' := (mw cI t q (up2 M 12 0 0) K)) hC 0 2 0 1 hinX2 tyX2_ok nmX2 hK hP hD hS dX2_waitedOf_2 rfl rfl (by decide) rfl rfl rfl rfl (Nat.le_of_ble_eq_true rfl) (mw_f0 cI t q M K 0) (fun H locs hP hD hS => ?_)
  refine lv_aload_n hx hb dX2_waitedOf_5 rfl (lv_at hl 0 rfl) ?_
  refine lv_iload_n hx hb dX2_waitedOf_6 rfl (lv_at hl 1 rfl) ?_
  refine gt_call0 hC 0 2 1 (ct_X2_isGoat l D cI t q (up2 M 12 0 0) K k) gX2_waitedOf_X2_isGoat dX2_waitedOf_7 hK hP hD hS hA hl.1 rfl hd_X2_isGoat ⟨Nat.le_of_ble_eq_true rfl, Nat.le_of_ble_eq_true rfl⟩ ⟨Nat.le_of_ble_eq_true rfl, Nat.le_of_ble_eq_true rfl⟩ rfl rfl rfl rfl (Nat.le_of_ble_eq_true rfl) (fun H locs hP hD hS => ?_)
  refine lv_if_eq (tgt := 23) hx hb dX2_waitedOf_10 (by decide) (fun c10_1 : (mGoat (up2 M 12 0 0) k) = 0 => ?_) (fun c10_1 : ¬ ((mGoat (up2 M 12 0 0) k) = 0) => ?_)
  · skip
    refine lv_aload_n hx hb dX2_waitedOf_23 rfl (lv_at hl 0 rfl) ?_
    refine lv_iconst (v := 1) hx hb dX2_waitedOf_24 (by decide) ?_
    refine gt_call0 hC 0 2 1 (ct_X2_no l D cI t q (up2 M 12 0 0) K 1) gX2_waitedOf_X2_no dX2_waitedOf_25 hK hP hD hS hA hl.1 rfl hd_X2_no ⟨Nat.le_of_ble_eq_true rfl, Nat.le_of_ble_eq_true rfl⟩ ⟨Nat.le_of_ble_eq_true rfl, Nat.le_of_ble_eq_true rfl⟩ rfl rfl rfl rfl (Nat.le_of_ble_eq_true rfl) (fun H locs hP hD hS => ?_)
    exact gt_iret hC hr hlk hK (ws := (mw cI t q (up2 (up2 M 12 0 0) 12 0 1) K)) hP hD hS (show some (Value.int 0) = _ from (congrArg (fun z => some (Value.int z)) ((if_pos c10_1).trans rfl).symm)) (congrArg (fun z => mw cI t q z K) ((if_pos c10_1).trans rfl).symm) dX2_waitedOf_28 (Nat.le_of_ble_eq_true rfl) (Nat.le_of_ble_eq_true rfl)
  · skip
    have h9k := ix_of (f := k) (by omega) (mIn_n hN (by omega) c10_1)
    refine lv_aload_n hx hb dX2_waitedOf_13 rfl (lv_at hl 0 rfl) ?_
    refine lv_iload_n hx hb dX2_waitedOf_14 rfl (lv_at hl 1 rfl) ?_
    refine lv_bipush (v := 6) hx hb dX2_waitedOf_15 (by decide) ?_
    refine gt_stk [.int 6, .int (nI k.toNatClampNeg), .ref t] (congrArg (fun z : Int32 => ([.int 6, .int z, .ref t] : List Value)) h9k.1) ?_
    refine gt_call0 hC 0 2 2 (ct_X2_of l D cI t q (up2 M 12 0 0) K k.toNatClampNeg 6 (by omega) (by decide)) gX2_waitedOf_X2_of dX2_waitedOf_17 hK hP hD hS hA hl.1 rfl hd_X2_of ⟨Nat.le_of_ble_eq_true rfl, Nat.le_of_ble_eq_true rfl⟩ ⟨Nat.le_of_ble_eq_true rfl, Nat.le_of_ble_eq_true rfl⟩ rfl rfl rfl rfl (Nat.le_of_ble_eq_true rfl) (fun H locs hP hD hS => ?_)
    refine lv_goto (tgt := 28) hx hb dX2_waitedOf_20 (by decide) ?_
    exact gt_iret hC hr hlk hK (ws := (mw cI t q (up2 M 12 0 0) K)) hP hD hS (show some (Value.int ((up2 M 12 0 0) 6 k.toNatClampNeg)) = _ from (congrArg (fun z => some (Value.int z)) ((if_neg c10_1).trans rfl).symm)) (congrArg (fun z => mw cI t q z K) ((if_neg c10_1).trans rfl).symm) dX2_waitedOf_28 (Nat.le_of_ble_eq_true rfl) (Nat.le_of_ble_eq_true rfl)

theorem hd_X2_minutesUntilIn : yX2_minutesUntilIn.cls = RX2 ∧ yX2_minutesUntilIn.cls ≠ "java/lang/invoke/MethodHandle" ∧ yX2_minutesUntilIn.cls ≠ "java/lang/invoke/VarHandle" ∧ (parseMethodDescriptor yX2_minutesUntilIn.desc).map (fun d => d.parameters.length) = some 1 := by decide +kernel
set_option maxHeartbeats 400000 in
set_option maxRecDepth 100000 in
theorem ct_X2_minutesUntilIn (l : Launch) (D : va_G) (cI : ClassId) (t : Nat) (q : Nat → Nat) (M K : SS) (k : Int32) (N : Nat) (hN : M 12 2 = nI N) (hN12 : N ≤ 12) (G : Nat) (hG : M 12 1 = nI G) (hG4 : G ≤ 4) (ht : ∀ (X : SS) (g : Nat), mOpN X g N < 13) (hu : ∀ k, k < N → mUnN (up2 M 12 0 0) G N k < 61) : Ct l D [(cI, .int)] yX2_minutesUntilIn wsX2_minutesUntilIn 8 179 0 0 [.ref t, .int k] (mw cI t q M K) (some (.int (mR_minutesUntilIn M N G k))) (mw cI t q (mM_minutesUntilIn M N G k) (mK_minutesUntilIn M K N G k)) := by
  refine Ct.ofW (cc := cX2_minutesUntilIn) (maxL := 2) (ret := (some .int)) (by decide) rfl (Nat.le_of_ble_eq_true rfl) ?_
  intro p e s m below meth c A ls hC hr hlk _ hP hD hS hK hA hl
  have hx := hC.1
  have hb := hC.2.1
  have hinX2 : ∀ w ∈ wsX20, w ∈ wsX2_minutesUntilIn := fun _ _h => List.mem_cons_of_mem _ (List.mem_append_right _ _h)
  have hl : lv_has ls 2 [(0, .ref t), (1, .int k)] := hl
  refine lv_aload_n hx hb dX2_minutesUntilIn_0 rfl (lv_at hl 0 rfl) ?_
  refine lv_iconst (v := 0) hx hb dX2_minutesUntilIn_1 (by decide) ?_
  refine gt_puti (ws' := (mw cI t q (up2 M 12 0 0) K)) hC 0 2 0 1 hinX2 tyX2_ok nmX2 hK hP hD hS dX2_minutesUntilIn_2 rfl rfl (by decide) rfl rfl rfl rfl (Nat.le_of_ble_eq_true rfl) (mw_f0 cI t q M K 0) (fun H locs hP hD hS => ?_)
  refine lv_aload_n hx hb dX2_minutesUntilIn_5 rfl (lv_at hl 0 rfl) ?_
  refine lv_iload_n hx hb dX2_minutesUntilIn_6 rfl (lv_at hl 1 rfl) ?_
  refine gt_call0 hC 0 2 1 (ct_X2_isGoat l D cI t q (up2 M 12 0 0) K k) gX2_minutesUntilIn_X2_isGoat dX2_minutesUntilIn_7 hK hP hD hS hA hl.1 rfl hd_X2_isGoat ⟨Nat.le_of_ble_eq_true rfl, Nat.le_of_ble_eq_true rfl⟩ ⟨Nat.le_of_ble_eq_true rfl, Nat.le_of_ble_eq_true rfl⟩ rfl rfl rfl rfl (Nat.le_of_ble_eq_true rfl) (fun H locs hP hD hS => ?_)
  refine lv_if_eq (tgt := 21) hx hb dX2_minutesUntilIn_10 (by decide) (fun c10_1 : (mGoat (up2 M 12 0 0) k) = 0 => ?_) (fun c10_1 : ¬ ((mGoat (up2 M 12 0 0) k) = 0) => ?_)
  · skip
    refine lv_aload_n hx hb dX2_minutesUntilIn_21 rfl (lv_at hl 0 rfl) ?_
    refine lv_iconst (v := 1) hx hb dX2_minutesUntilIn_22 (by decide) ?_
    refine gt_call0 hC 0 2 1 (ct_X2_no l D cI t q (up2 M 12 0 0) K 1) gX2_minutesUntilIn_X2_no dX2_minutesUntilIn_23 hK hP hD hS hA hl.1 rfl hd_X2_no ⟨Nat.le_of_ble_eq_true rfl, Nat.le_of_ble_eq_true rfl⟩ ⟨Nat.le_of_ble_eq_true rfl, Nat.le_of_ble_eq_true rfl⟩ rfl rfl rfl rfl (Nat.le_of_ble_eq_true rfl) (fun H locs hP hD hS => ?_)
    exact gt_iret hC hr hlk hK (ws := (mw cI t q (up2 (up2 M 12 0 0) 12 0 1) K)) hP hD hS (show some (Value.int 0) = _ from (congrArg (fun z => some (Value.int z)) ((if_pos c10_1).trans rfl).symm)) (congr (congrArg (mw cI t q) ((if_pos c10_1).trans rfl).symm) ((if_pos c10_1).trans rfl).symm) dX2_minutesUntilIn_26 (Nat.le_of_ble_eq_true rfl) (Nat.le_of_ble_eq_true rfl)
  · skip
    have h9k := ix_of (f := k) (by omega) (mIn_n hN (by omega) c10_1)
    refine lv_aload_n hx hb dX2_minutesUntilIn_13 rfl (lv_at hl 0 rfl) ?_
    refine lv_iload_n hx hb dX2_minutesUntilIn_14 rfl (lv_at hl 1 rfl) ?_
    refine gt_stk [.int (nI k.toNatClampNeg), .ref t] (congrArg (fun z : Int32 => ([.int z, .ref t] : List Value)) h9k.1) ?_
    refine gt_call0 hC 0 2 1 (ct_X2_until l D cI t q (up2 M 12 0 0) K k.toNatClampNeg (by omega) N hN hN12 G hG hG4 ht (hu _ h9k.2)) gX2_minutesUntilIn_X2_until dX2_minutesUntilIn_15 hK hP hD hS hA hl.1 rfl hd_X2_until ⟨Nat.le_of_ble_eq_true rfl, Nat.le_of_ble_eq_true rfl⟩ ⟨Nat.le_of_ble_eq_true rfl, Nat.le_of_ble_eq_true rfl⟩ rfl rfl rfl rfl (Nat.le_of_ble_eq_true rfl) (fun H locs hP hD hS => ?_)
    refine lv_goto (tgt := 26) hx hb dX2_minutesUntilIn_18 (by decide) ?_
    exact gt_iret hC hr hlk hK (ws := (mw cI t q (up2 M 12 0 0) (if mIs (up2 M 12 0 0) k.toNatClampNeg 1 = 0 then K else (up2 M 12 0 0)))) hP hD hS (show some (Value.int (mUn (up2 M 12 0 0) G N k.toNatClampNeg)) = _ from (congrArg (fun z => some (Value.int z)) ((if_neg c10_1).trans rfl).symm)) (congr (congrArg (mw cI t q) ((if_neg c10_1).trans rfl).symm) ((if_neg c10_1).trans rfl).symm) dX2_minutesUntilIn_26 (Nat.le_of_ble_eq_true rfl) (Nat.le_of_ble_eq_true rfl)

theorem hd_X2_givingUpIn : yX2_givingUpIn.cls = RX2 ∧ yX2_givingUpIn.cls ≠ "java/lang/invoke/MethodHandle" ∧ yX2_givingUpIn.cls ≠ "java/lang/invoke/VarHandle" ∧ (parseMethodDescriptor yX2_givingUpIn.desc).map (fun d => d.parameters.length) = some 1 := by decide +kernel
set_option maxHeartbeats 400000 in
set_option maxRecDepth 100000 in
theorem ct_X2_givingUpIn (l : Launch) (D : va_G) (cI : ClassId) (t : Nat) (q : Nat → Nat) (M K : SS) (mn : Int32) (N : Nat) (hN : M 12 2 = nI N) (hN12 : N ≤ 12) (G : Nat) (hG : M 12 1 = nI G) (hG4 : G ≤ 4) (ht : ∀ (X : SS) (g : Nat), mOpN X g N < 13) : Ct l D [(cI, .int)] yX2_givingUpIn wsX2_givingUpIn 8 178 0 0 [.ref t, .int mn] (mw cI t q M K) (some (.int (mR_givingUpIn M N G mn))) (mw cI t q (mM_givingUpIn M N G mn) (mK_givingUpIn M K N G mn)) := by
  refine Ct.ofW (cc := cX2_givingUpIn) (maxL := 3) (ret := (some .int)) (by decide) rfl (Nat.le_of_ble_eq_true rfl) ?_
  intro p e s m below meth c A ls hC hr hlk _ hP hD hS hK hA hl
  have hx := hC.1
  have hb := hC.2.1
  have hinX2 : ∀ w ∈ wsX20, w ∈ wsX2_givingUpIn := fun _ _h => List.mem_cons_of_mem _ (List.mem_append_right _ _h)
  have hl : lv_has ls 3 [(0, .ref t), (1, .int mn)] := hl
  refine lv_aload_n hx hb dX2_givingUpIn_0 rfl (lv_at hl 0 rfl) ?_
  refine lv_iconst (v := 0) hx hb dX2_givingUpIn_1 (by decide) ?_
  refine gt_puti (ws' := (mw cI t q (up2 M 12 0 0) K)) hC 0 2 0 1 hinX2 tyX2_ok nmX2 hK hP hD hS dX2_givingUpIn_2 rfl rfl (by decide) rfl rfl rfl rfl (Nat.le_of_ble_eq_true rfl) (mw_f0 cI t q M K 0) (fun H locs hP hD hS => ?_)
  refine lv_iload_n hx hb dX2_givingUpIn_5 rfl (lv_at hl 1 rfl) ?_
  refine lv_iconst (v := 1) hx hb dX2_givingUpIn_6 (by decide) ?_
  refine lv_bipush (v := 60) hx hb dX2_givingUpIn_7 (by decide) ?_
  refine gt_callS hC 3 (ct_X2_isIn l D mn 1 60) gX2_givingUpIn_X2_isIn dX2_givingUpIn_9 hK hP hD hS hA hl.1 rfl hd_X2_isIn ⟨Nat.le_of_ble_eq_true rfl, Nat.le_of_ble_eq_true rfl⟩ ⟨Nat.le_of_ble_eq_true rfl, Nat.le_of_ble_eq_true rfl⟩ rfl rfl (Nat.le_of_ble_eq_true rfl) (fun H locs hP hD hS => ?_)
  refine lv_if_ne (tgt := 21) hx hb dX2_givingUpIn_12 (by decide) (fun c12_1 : ¬ ((mIn mn 1 60) = 0) => ?_) (fun c12_1 : (mIn mn 1 60) = 0 => ?_)
  · skip
    have h9mn := mIn_num c12_1
    refine lv_aload_n hx hb dX2_givingUpIn_21 rfl (lv_at hl 0 rfl) ?_
    refine gt_call0 hC 0 2 0 (ct_X2_keep l D cI t q (up2 M 12 0 0) K) gX2_givingUpIn_X2_keep dX2_givingUpIn_22 hK hP hD hS hA hl.1 rfl hd_X2_keep ⟨Nat.le_of_ble_eq_true rfl, Nat.le_of_ble_eq_true rfl⟩ ⟨Nat.le_of_ble_eq_true rfl, Nat.le_of_ble_eq_true rfl⟩ rfl rfl rfl rfl (Nat.le_of_ble_eq_true rfl) (fun H locs hP hD hS => ?_)
    refine lv_aload_n hx hb dX2_givingUpIn_25 rfl (lv_at hl 0 rfl) ?_
    refine lv_iload_n hx hb dX2_givingUpIn_26 rfl (lv_at hl 1 rfl) ?_
    refine gt_stk [.int (nI mn.toNatClampNeg), .ref t] (congrArg (fun z : Int32 => ([.int z, .ref t] : List Value)) h9mn.1) ?_
    refine gt_call0 hC 0 2 1 (ct_X2_minutesOn l D cI t q (up2 M 12 0 0) (up2 M 12 0 0) mn.toNatClampNeg (by omega) N hN hN12 G hG hG4 ht) gX2_givingUpIn_X2_minutesOn dX2_givingUpIn_27 hK hP hD hS hA hl.1 rfl hd_X2_minutesOn ⟨Nat.le_of_ble_eq_true rfl, Nat.le_of_ble_eq_true rfl⟩ ⟨Nat.le_of_ble_eq_true rfl, Nat.le_of_ble_eq_true rfl⟩ rfl rfl rfl rfl (Nat.le_of_ble_eq_true rfl) (fun H locs hP hD hS => ?_)
    refine lv_aload_n hx hb dX2_givingUpIn_30 rfl (lv_at hl 0 rfl) ?_
    refine gt_get hC 0 2 6 2 hinX2 hK hP dX2_givingUpIn_31 rfl rfl rfl (by decide) rfl rfl ?_
    refine lv_iconst (v := 2) hx hb dX2_givingUpIn_34 (by decide) ?_
    refine gt_ald hC 4 0 2 hK hP dX2_givingUpIn_35 rfl rfl (by decide) (by decide) (Nat.le_of_ble_eq_true rfl) ?_
    refine lv_aload_n hx hb dX2_givingUpIn_36 rfl (lv_at hl 0 rfl) ?_
    refine gt_get hC 0 2 7 3 hinX2 hK hP dX2_givingUpIn_37 rfl rfl rfl (by decide) rfl rfl ?_
    refine lv_iconst (v := 2) hx hb dX2_givingUpIn_40 (by decide) ?_
    refine gt_ald hC 5 0 2 hK hP dX2_givingUpIn_41 rfl rfl (by decide) (by decide) (Nat.le_of_ble_eq_true rfl) ?_
    refine lv_isub hx hb dX2_givingUpIn_42 ?_
    refine lv_istore_n (lv' := [(2, .int (((mIt (up2 M 12 0 0) G N mn.toNatClampNeg) 8 2) - ((up2 M 12 0 0) 8 2))), (0, .ref t), (1, .int mn)]) hx hb dX2_givingUpIn_43 rfl hl (by decide) rfl (fun ls hl => ?_)
    refine lv_aload_n hx hb dX2_givingUpIn_44 rfl (lv_at hl 1 rfl) ?_
    refine gt_call0 hC 0 2 0 (ct_X2_bringBack l D cI t q (mIt (up2 M 12 0 0) G N mn.toNatClampNeg) (up2 M 12 0 0)) gX2_givingUpIn_X2_bringBack dX2_givingUpIn_45 hK hP hD hS hA hl.1 rfl hd_X2_bringBack ⟨Nat.le_of_ble_eq_true rfl, Nat.le_of_ble_eq_true rfl⟩ ⟨Nat.le_of_ble_eq_true rfl, Nat.le_of_ble_eq_true rfl⟩ rfl rfl rfl rfl (Nat.le_of_ble_eq_true rfl) (fun H locs hP hD hS => ?_)
    refine lv_iload_n hx hb dX2_givingUpIn_48 rfl (lv_at hl 0 rfl) ?_
    exact gt_iret hC hr hlk hK (ws := (mw cI t q (mBack (mIt (up2 M 12 0 0) G N mn.toNatClampNeg) (up2 M 12 0 0)) (up2 M 12 0 0))) hP hD hS (show some (Value.int (((mIt (up2 M 12 0 0) G N mn.toNatClampNeg) 8 2) - ((up2 M 12 0 0) 8 2))) = _ from (congrArg (fun z => some (Value.int z)) ((if_neg c12_1).trans rfl).symm)) (congr (congrArg (mw cI t q) ((if_neg c12_1).trans rfl).symm) ((if_neg c12_1).trans rfl).symm) dX2_givingUpIn_49 (Nat.le_of_ble_eq_true rfl) (Nat.le_of_ble_eq_true rfl)
  · skip
    refine lv_aload_n hx hb dX2_givingUpIn_15 rfl (lv_at hl 0 rfl) ?_
    refine lv_iconst (v := 1) hx hb dX2_givingUpIn_16 (by decide) ?_
    refine gt_call0 hC 0 2 1 (ct_X2_no l D cI t q (up2 M 12 0 0) K 1) gX2_givingUpIn_X2_no dX2_givingUpIn_17 hK hP hD hS hA hl.1 rfl hd_X2_no ⟨Nat.le_of_ble_eq_true rfl, Nat.le_of_ble_eq_true rfl⟩ ⟨Nat.le_of_ble_eq_true rfl, Nat.le_of_ble_eq_true rfl⟩ rfl rfl rfl rfl (Nat.le_of_ble_eq_true rfl) (fun H locs hP hD hS => ?_)
    exact gt_iret hC hr hlk hK (ws := (mw cI t q (up2 (up2 M 12 0 0) 12 0 1) K)) hP hD hS (show some (Value.int 0) = _ from (congrArg (fun z => some (Value.int z)) ((if_pos c12_1).trans rfl).symm)) (congr (congrArg (mw cI t q) ((if_pos c12_1).trans rfl).symm) ((if_pos c12_1).trans rfl).symm) dX2_givingUpIn_20 (Nat.le_of_ble_eq_true rfl) (Nat.le_of_ble_eq_true rfl)
