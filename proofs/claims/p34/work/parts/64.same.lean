/-! The mean: a division that is no NaN. -/
theorem gx_n64 (z : UInt64) (h : FP.Core.dIsNaN z = false) : vf_n64 z := by
  rw [← Bool.not_eq_true, FP.Core.isNaN_bits] at h
  unfold vf_n64
  rw [UInt64.le_iff_toNat_le, UInt64.toNat_and]
  have h2 : (0x7fffffffffffffff : UInt64).toNat = 2 ^ 63 - 1 := by decide
  have h3 : (0x7ff0000000000000 : UInt64).toNat = 9218868437227405312 := by decide
  rw [h2, h3, Nat.and_two_pow_sub_one_eq_mod]
  exact Nat.not_lt.mp h
theorem gx_divN (x y : Int32) (hy : ¬ y = 0) : FP.Core.dIsNaN (FP.ddiv (FP.i2d x) (FP.i2d y)) = false := by
  rw [FP.ddiv_core, FP.i2d_core]
  exact FP.Core.ddiv_out (FP.Core.DFin.notNaN (FP.Core.i2d_fin x)) (FP.Core.i2d_fin y) (fun z => FP.Core.i2d_ne_zero hy ((FP.Core.zero_bits2 _).mp z))
theorem gx_div (x y : Int32) (hy : ¬ y = 0) : vf_n64 (FP.ddiv (FP.i2d x) (FP.i2d y)) := gx_n64 _ (gx_divN x y hy)
section GTD
variable {p : Program} {l : Launch} {e : Env} {R : Room} {s : State} {m : MethodId} {args : Array Value} {below : List Frame} {meth : Method} {c : Code} {H : Heap} {locs : List Loc} {cells slots : Nat}
variable {cc : ByteArray} {pc nL : Nat} {Ts : List Cond} {own : String} {ls : Array Slot} {D : va_G} {A : Nat → Prop} {tys : List (ClassId × FieldType)} {ws w' : va_W} {rv : Option Value} {mc ms : Nat}
theorem gt_dret (S : CallFix p m c cc nL s args Ts own) (hr : meth.sig.returnType = some .double) (hlocks : meth.locks = false) (hK : va_K D vwCl tys s) (hP : va_P D vwCl ws H) (hD : va_D A ws) (hS : va_S A s.heap H locs) {v : UInt64} (hv : some (Value.double v) = rv) (hw : ws = w') (hdg : decode cc pc = .ok (.dreturn, 1)) (hc : cells ≤ mc) (hs : slots ≤ ms) :
    W p l e R s m args below meth c H locs cells slots (gZ below D tys w' rv A args s mc ms) (F0 m pc ls [.double v]) := by
  subst hw; subst hv
  refine W.widen hc hs ?_
  exact W.dret S.1 S.2.1 hr (fun t ht hW => ⟨⟨rfl, by rw [ht]; exact hP, va_K.moved hW.alike hK, hD⟩, hS.F ht⟩) hS.2.2 hdg hlocks
end GTD
def gxMean (S : SS) (N : Nat) : UInt64 := if S 0 2 = 0 then FP.dconst0 else FP.ddiv (FP.i2d (gxSum S N)) (FP.i2d (S 0 2))
def mMean (M : SS) (N : Nat) : UInt64 := if M 12 2 = 0 then FP.dconst0 else FP.ddiv (FP.i2d (mSum M N)) (FP.i2d (M 12 2))
theorem hd_X1_meanWaited : yX1_meanWaited.cls = RX1 ∧ yX1_meanWaited.cls ≠ "java/lang/invoke/MethodHandle" ∧ yX1_meanWaited.cls ≠ "java/lang/invoke/VarHandle" ∧ (parseMethodDescriptor yX1_meanWaited.desc).map (fun d => d.parameters.length) = some 0 := by decide +kernel
set_option maxHeartbeats 400000 in
set_option maxRecDepth 100000 in
theorem ct_X1_meanWaited (l : Launch) (D : va_G) (cI : ClassId) (t o : Nat) (r : Nat → Nat) (S : SS) (o1 : Nat) (r1 : Nat → Nat) (T : SS) (N : Nat) (hN : S 0 2 = nI N) (hN12 : N ≤ 12) : Ct l D [(cI, .int)] yX1_meanWaited wsX1_meanWaited 1 22 0 0 [.ref t] (tw cI t o r S o1 r1 T) (some (.double (gxMean S N))) (tw cI t o r S o1 r1 T) := by
  refine Ct.ofW (cc := cX1_meanWaited) (maxL := 1) (ret := (some .double)) (by decide) rfl (Nat.le_of_ble_eq_true rfl) ?_
  intro p e s m below meth c A ls hC hr hlk _ hP hD hS hK hA hl
  have hx := hC.1
  have hb := hC.2.1
  have hinX0 : ∀ w ∈ wsX00, w ∈ wsX1_meanWaited := fun _ _h => List.mem_cons_of_mem _ (List.mem_append_right _ _h)
  have hinX1 : ∀ w ∈ wsX10, w ∈ wsX1_meanWaited := fun _ _h => List.mem_cons_of_mem _ (List.mem_append_left _ (List.mem_append_right _ _h))
  have hl : lv_has ls 1 [(0, .ref t)] := hl
  refine lv_aload_n hx hb dX1_meanWaited_0 rfl (lv_at hl 0 rfl) ?_
  refine gt_get hC 0 1 0 1 hinX1 hK hP dX1_meanWaited_1 rfl rfl rfl (by decide) rfl rfl ?_
  refine gt_get hC 1 0 2 2 hinX0 hK hP dX1_meanWaited_4 rfl rfl rfl (by decide) rfl rfl ?_
  refine lv_if_ne (tgt := 12) hx hb dX1_meanWaited_7 (by decide) (fun c7_1 : ¬ ((S 0 2) = 0) => ?_) (fun c7_1 : (S 0 2) = 0 => ?_)
  · skip
    refine lv_aload_n hx hb dX1_meanWaited_12 rfl (lv_at hl 0 rfl) ?_
    refine gt_get hC 0 1 0 1 hinX1 hK hP dX1_meanWaited_13 rfl rfl rfl (by decide) rfl rfl ?_
    refine gt_callV (ws' := (tw cI t o r S o1 r1 T)) hC [(t, .inr (1, [.ref o, .ref o1]))] (sw cI o1 r1 T) 0 0 0 (ct_X0_sumOfWaited l D cI o r S N hN hN12) gX1_meanWaited_X0_sumOfWaited dX1_meanWaited_16 hK hP hD hS hA hl.1 rfl hd_X0_sumOfWaited ⟨Nat.le_of_ble_eq_true rfl, Nat.le_of_ble_eq_true rfl⟩ ⟨Nat.le_of_ble_eq_true rfl, Nat.le_of_ble_eq_true rfl⟩ rfl rfl rfl rfl rfl rfl (Nat.le_of_ble_eq_true rfl) (fun H locs hP hD hS => ?_)
    refine lv_i2d hx hb dX1_meanWaited_19 ?_
    refine lv_aload_n hx hb dX1_meanWaited_20 rfl (lv_at hl 0 rfl) ?_
    refine gt_get hC 0 1 0 1 hinX1 hK hP dX1_meanWaited_21 rfl rfl rfl (by decide) rfl rfl ?_
    refine gt_get hC 1 0 2 2 hinX0 hK hP dX1_meanWaited_24 rfl rfl rfl (by decide) rfl rfl ?_
    refine lv_i2d hx hb dX1_meanWaited_27 ?_
    refine lv_ddiv hx hb dX1_meanWaited_28 (gx_div _ _ c7_1) ?_
    exact gt_dret hC hr hlk hK (ws := (tw cI t o r S o1 r1 T)) hP hD hS (show some (Value.double (FP.ddiv (FP.i2d (gxSum S N)) (FP.i2d (S 0 2)))) = _ from (congrArg (fun z => some (Value.double z)) ((if_neg c7_1).trans rfl).symm)) rfl dX1_meanWaited_29 (Nat.le_of_ble_eq_true rfl) (Nat.le_of_ble_eq_true rfl)
  · skip
    refine lv_dconst0 hx hb dX1_meanWaited_10 ?_
    exact gt_dret hC hr hlk hK (ws := (tw cI t o r S o1 r1 T)) hP hD hS (show some (Value.double FP.dconst0) = _ from (congrArg (fun z => some (Value.double z)) ((if_pos c7_1).trans rfl).symm)) rfl dX1_meanWaited_11 (Nat.le_of_ble_eq_true rfl) (Nat.le_of_ble_eq_true rfl)

theorem lg_cmp_self (x : Int64) : lg_cmp x x = 0 := by
  unfold lg_cmp
  simp
theorem gxMean_n (S : SS) (N : Nat) : FP.Core.dIsNaN (gxMean S N) = false := by
  unfold gxMean
  split
  · decide +kernel
  · rename_i h
    exact gx_divN _ _ h
theorem gxMean_self (S : SS) (N : Nat) : Op.cmpValue (FP.dcmp (gxMean S N) (gxMean S N)) .l = 0 := by
  have h : FP.Core.val64 (gxMean S N) ≠ .nan := fun z => by
    have h2 := (FP.Core.dIsNaN_iff _).mpr z
    rw [gxMean_n] at h2
    cases h2
  rw [FP.dcmp_core, FP.Core.dcmp_self h]
  rfl
theorem lt8_le7 (x : Int32) : x < 8 ↔ x ≤ 7 := by
  rw [Int32.lt_iff_toInt_lt, Int32.le_iff_toInt_le, show (8 : Int32).toInt = 8 from by decide, show (7 : Int32).toInt = 7 from by decide]
  omega
section PLQ
variable {G N T : Nat} {S M : SS} {Ls : Nat → List Nat}
theorem ixo_cnt {k : Nat} : ∀ {l : List Nat}, l.Pairwise (fun a b => M 7 a < M 7 b) → k ∈ l → (l.filter (fun j => decide (M 7 j < M 7 k))).length = ixo k l
  | [], _, h => absurd h List.not_mem_nil
  | c :: l, hp, h => by
    obtain ⟨h1, h2⟩ := List.pairwise_cons.mp hp
    unfold ixo
    split
    · rename_i e
      subst e
      have e1 : l.filter (fun j => decide (M 7 j < M 7 c)) = [] := List.filter_eq_nil_iff.mpr (fun j hj z => Int32.lt_irrefl (Int32.lt_trans (h1 j hj) (of_decide_eq_true z)))
      rw [List.filter_cons, if_neg (by simp [Int32.lt_irrefl]), e1]
      rfl
    · rename_i e
      have hk : k ∈ l := (List.mem_cons.mp h).resolve_left (fun z => e z.symm)
      rw [List.filter_cons, if_pos (by simpa using h1 k hk), List.length_cons, ixo_cnt h2 hk]
theorem sPl_eq (hL : Ln G N M Ls) {g k : Nat} (hg : g < G) (hk : k < N) (h1 : M 0 k = 1) (h2 : M 1 k = nI g) : sPl M k (Ls g) = mPl M N k := by
  obtain ⟨hm, hp⟩ := hL.2 g hg
  have hmem : k ∈ Ls g := (hm k).mpr ⟨hk, h1, h2⟩
  have key : ∀ n, mPlL M k n = nI ((List.range n).filter (fun j => decide ((M 0 j = 1 ∧ M 1 j = nI g) ∧ M 7 j < M 7 k))).length := by
    intro n
    induction n with
    | zero => rfl
    | succ n ih =>
      show mPlL M k n + (if mAt M n (M 1 k) = 0 then 0 else (if M 7 k ≤ M 7 n then 0 else 1)) = _
      rw [List.range_succ, List.filter_append, List.length_append, ih, h2]
      by_cases h : M 0 n = 1 ∧ M 1 n = nI g
      · rw [if_neg (mAt_iff.mpr h)]
        by_cases h3 : M 7 k ≤ M 7 n
        · rw [if_pos h3]
          have h4 : ¬ M 7 n < M 7 k := Int32.not_lt.mpr h3
          simp [h4]
        · rw [if_neg h3]
          have h4 : M 7 n < M 7 k := Int32.not_le.mp h3
          simp [h, h4, ← nI_1]
      · rw [if_pos (Decidable.byContradiction fun z => h (mAt_iff.mp z))]
        simp [h]
  have e1 : mIs M k 1 = 1 := if_pos h1
  unfold sPl mPl
  rw [if_pos h1, e1, if_neg (by decide), key N, ← ixo_cnt hp hmem]
  congr 1
  refine List.Perm.length_eq ((List.perm_ext_iff_of_nodup ((pw_nodup hp).filter _) (List.nodup_range.filter _)).mpr fun j => ?_)
  rw [List.mem_filter, List.mem_filter, hm j, List.mem_range]
  simp [and_assoc]
theorem LI.pl (h : LI T G N S M Ls) {k g : Nat} (hk : k < N) (hpl : M 0 k = 1 → M 1 k = nI g ∧ g < G) : sPl M k (Ls g) = gxPl S N k := by
  rw [← r_pl h.1.2.2.2.2.2.2.1.1 hk]
  by_cases h1 : M 0 k = 1
  · obtain ⟨h2, h3⟩ := hpl h1
    exact sPl_eq h.2.1 h3 hk h1 h2
  · have e1 : mIs M k 1 = 0 := if_neg h1
    unfold sPl mPl
    rw [if_neg h1, e1, if_pos rfl]
theorem LI.nx (h : LI T G N S M Ls) {g : Nat} (hg : g < G) : sNx M N g (Ls g) = gxFiR S g N := (sNx_eq h.2.1 h.1.1 hg).trans (r_nx h.1.2.2.2.2.2.2.1.1 h.1.2.2.2.2.2.2.1.2.1 h.1.1 hg)
theorem LI.gr (h : LI T G N S M Ls) {k : Nat} (hk : k < N) : gr G (co S k) (co M k) := h.1.2.2.2.2.2.2.1.1 k hk
theorem LI.z (h : LI T G N S M Ls) {k : Nat} (hk : k < N) : M 0 k = 0 ∨ M 0 k = 1 ∨ M 0 k = 2 := by
  rw [h.st hk]
  exact rj_z (h.gr hk)
end PLQ
