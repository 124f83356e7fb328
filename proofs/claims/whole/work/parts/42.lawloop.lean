/-! The law's loop. -/
theorem and31 (v : Int32) : ∃ k, k < 32 ∧ v &&& 31 = nI k := by
  refine ⟨v.toBitVec.toNat % 32, Nat.mod_lt _ (by decide), ?_⟩
  apply Int32.toBitVec_inj.mp
  rw [Int32.toBitVec_and]
  apply BitVec.eq_of_toNat_eq
  rw [BitVec.toNat_and]
  have h1 : ((31 : Int32).toBitVec).toNat = 2 ^ 5 - 1 := by decide
  have h2 : (nI (v.toBitVec.toNat % 32)).toBitVec.toNat = (v.toBitVec.toNat % 32) % 2 ^ 32 := rfl
  rw [h1, h2, Nat.and_two_pow_sub_one_eq_mod]
  omega
theorem six_in {i L : Nat} (hL : L ≤ 3072) (hi : i ≤ L) (h : ¬ Int32.ofNat L - 6 < nI i) : i + 6 ≤ L := by
  rcases Nat.lt_or_ge L 6 with h6 | h6
  · exfalso
    apply h
    have key : ∀ z, z < 6 → Int32.ofNat z - 6 < 0 := by decide +kernel
    exact Int32.lt_of_lt_of_le (key L h6) (nI_pos' (by omega))
  · have e : Int32.ofNat L - 6 = nI (L - 6) := nI_sub (a := 6) (b := L) h6
    rw [e] at h
    rcases Nat.lt_or_ge (L - 6) i with z | z
    · exact absurd (nI_lt z (by omega)) h
    · omega
section LWL
variable {p : Program} {l : Launch} {e : Env} {s : State} {m : MethodId} {below : List Frame} {meth : Method} {c : Code} {D : va_G} {cI cL : ClassId} {b L : Nat} {xs : Nat → Int32}
set_option maxRecDepth 20000 in
theorem law_loop (hl0 : l.stackTraces = false) (hC : CallFix p m c cL_law 9 s #[Value.ref b] wsL_law RL) (hr : meth.sig.returnType = ret) (hlocks : meth.locks = false) (hTh : gTh (fun q : Nat => s.heap.size ≤ q) s s.heap) (hNc : gNc s) (hK : va_K D vwCl [(cI, .int), (cL, .long)] s) (hX : va_X b L xs s s.heap) (hbl : b < s.heap.size) (hL : L ≤ 3072) {t o : Nat} {r : Nat → Nat} {o1 : Nat} {r1 : Nat → Nat} {t2 : Nat} {q : Nat → Nat} {ob : Nat} :
    ∀ (n j : Nat), 6 * j ≤ L → L < 6 * j + n → ∀ (G N : Nat) (S T M K : SS) (f : Nat → Int64) (H : Heap) (locs : List Loc) (ls : Array Slot) (i : Nat), i = 6 * j → Inv G N S M → va_P D vwCl (mw cI t2 q M K ++ (tw cI t o r S o1 r1 T ++ oc cL ob f)) H → va_D (fun q : Nat => s.heap.size ≤ q) (mw cI t2 q M K ++ (tw cI t o r S o1 r1 T ++ oc cL ob f)) → va_S (fun q : Nat => s.heap.size ≤ q) s.heap H locs → lv_has ls 9 [(0, .ref b), (1, .ref t), (2, .ref t2), (3, .ref ob), (4, .int (nI i))] →
    W p l e room_1 s m #[Value.ref b] below meth c H locs (100 + j * 137) (1000 + j * 848) (lw_Z below #[Value.ref b] s) (F0 m 23 ls []) := by
  have hxe := hC.1
  have hb := hC.2.1
  have hA : ∀ q : Nat, s.heap.size ≤ q → (fun q : Nat => s.heap.size ≤ q) q := fun _ h => h
  have hbA : ¬ (fun q : Nat => s.heap.size ≤ q) b := Nat.not_le.mpr hbl
  intro n
  induction n with
  | zero => intro j h1 h2; omega
  | succ n ih =>
    intro j h1 h2 G N S T M K f H locs ls i ei hI hP hD hS hl
    refine lv_iload hxe hb dL_law_23 (lv_at hl 4 rfl) ?_
    refine lv_aload_n hxe hb dL_law_25 rfl (lv_at hl 0 rfl) ?_
    refine va_slen hxe hb hX hbl hbA hS dL_law_26 ?_
    refine lv_bipush (v := 6) hxe hb dL_law_27 (by decide) ?_
    refine lv_isub hxe hb dL_law_29 ?_
    refine lv_icmp_gt (tgt := 1617) hxe hb dL_law_30 (by decide) (fun _ => ?_) (fun hgt => ?_)
    · refine lv_iconst (v := 1) hxe hb dL_law_1617 (by decide) ?_
      refine va_forget (fun q hq => hS.2.2 q hq) ?_
      refine W.widen (k := 601024) (n := 7293034) (by omega) (by omega) ?_
      refine W.base ?_
      exact lw_ret (Drawn.sameBut.refl s.drawn lw_cs) hxe hb hr hlocks dL_law_1618
    have h6 : i + 6 ≤ L := six_in hL (by omega) hgt
    have h0 : vp_in (nI i) L := vp_in_nI (by omega) (by omega)
    refine lv_aload_n hxe hb dL_law_33 rfl (lv_at hl 0 rfl) ?_
    refine lv_iload hxe hb dL_law_34 (lv_at hl 4 rfl) ?_
    refine va_sld hxe hb hX hbl hbA hS h0 dL_law_36 ?_
    refine lv_bipush (v := 31) hxe hb dL_law_37 (by decide) ?_
    refine lv_iand hxe hb dL_law_39 ?_
    obtain ⟨k, hk, ek⟩ := and31 (xs (nI i).toNatClampNeg)
    refine gt_stk [.int (nI k)] (by rw [ek]) ?_
    have hcs : 100 + j * 137 + 137 ≤ 601024 ∧ 1000 + j * 848 + 848 ≤ 7293034 := by omega
    have KK : ∀ (G N : Nat) (S T M K : SS) (f : Nat → Int64) (H : Heap) (locs : List Loc) (ls : Array Slot), Inv G N S M → va_P D vwCl (mw cI t2 q M K ++ (tw cI t o r S o1 r1 T ++ oc cL ob f)) H → va_D (fun q : Nat => s.heap.size ≤ q) (mw cI t2 q M K ++ (tw cI t o r S o1 r1 T ++ oc cL ob f)) → va_S (fun q : Nat => s.heap.size ≤ q) s.heap H locs → lv_has ls 9 [(0, .ref b), (1, .ref t), (2, .ref t2), (3, .ref ob), (4, .int (nI i))] → W p l e room_1 s m #[Value.ref b] below meth c H locs (100 + j * 137 + 137) (1000 + j * 848 + 848) (lw_Z below #[Value.ref b] s) (F0 m 1611 ls []) := by
      intro G N S T M K f H locs ls hI hP hD hS hl
      refine lv_iinc (v := nI (6 * (j + 1))) (lv' := [(4, .int (nI (6 * (j + 1)))), (0, .ref b), (1, .ref t), (2, .ref t2), (3, .ref ob)]) hxe hb dL_law_1611 hl (k := 4) rfl ?_ (by decide) rfl (fun ls hl => ?_)
      · rw [show Int32.ofInt 6 = nI 6 from rfl, nI_add, ei]
        congr 1
      refine lv_goto (tgt := 23) hxe hb dL_law_1614 (by decide) ?_
      refine W.widen (k := 100 + (j + 1) * 137) (n := 1000 + (j + 1) * 848) (by omega) (by omega) ?_
      exact ih (j + 1) (by omega) (by omega) G N S T M K f H locs ls (6 * (j + 1)) rfl hI hP hD hS (lv_sub hl [1, 2, 3, 4, 0] rfl)
    clear ek
    match k, hk with
    | 0, _ => exact lv_tableIn (x := nI 0) (off := 140) (tgt := 180) hxe hb dL_law_40 (by decide) (by decide) rfl (by decide) (lc_addGate hl0 hC hTh hNc hK hA hX hbl hbA hI h6 hL hcs hP hD hS hl KK)
    | 1, _ => exact lv_tableIn (x := nI 1) (off := 208) (tgt := 248) hxe hb dL_law_40 (by decide) (by decide) rfl (by decide) (lc_addGoat hl0 hC hTh hNc hK hA hX hbl hbA hI h6 hL hcs hP hD hS hl KK)
    | 2, _ => exact lv_tableIn (x := nI 2) (off := 264) (tgt := 304) hxe hb dL_law_40 (by decide) (by decide) rfl (by decide) (lc_ask hl0 hC hTh hNc hK hA hX hbl hbA hI h6 hL hcs hP hD hS hl KK)
    | 3, _ => exact lv_tableIn (x := nI 3) (off := 368) (tgt := 408) hxe hb dL_law_40 (by decide) (by decide) rfl (by decide) (lc_barge hl0 hC hTh hNc hK hA hX hbl hbA hI h6 hL hcs hP hD hS hl KK)
    | 4, _ => exact lv_tableIn (x := nI 4) (off := 460) (tgt := 500) hxe hb dL_law_40 (by decide) (by decide) rfl (by decide) (lc_callBack hl0 hC hTh hNc hK hA hX hbl hbA hI h6 hL hcs hP hD hS hl KK)
    | 5, _ => exact lv_tableIn (x := nI 5) (off := 516) (tgt := 556) hxe hb dL_law_40 (by decide) (by decide) rfl (by decide) (lc_pass hl0 hC hTh hNc hK hA hX hbl hbA hI h6 hL hcs hP hD hS hl KK)
    | 6, _ => exact lv_tableIn (x := nI 6) (off := 572) (tgt := 612) hxe hb dL_law_40 (by decide) (by decide) rfl (by decide) (lc_minute hl0 hC hTh hNc hK hA hX hbl hbA hI h6 hL hcs hP hD hS hl KK)
    | 7, _ => exact lv_tableIn (x := nI 7) (off := 585) (tgt := 625) hxe hb dL_law_40 (by decide) (by decide) rfl (by decide) (lc_gates hl0 hC hTh hNc hK hA hX hbl hbA hI h6 hL hcs hP hD hS hl KK)
    | 8, _ => exact lv_tableIn (x := nI 8) (off := 598) (tgt := 638) hxe hb dL_law_40 (by decide) (by decide) rfl (by decide) (lc_goats hl0 hC hTh hNc hK hA hX hbl hbA hI h6 hL hcs hP hD hS hl KK)
    | 9, _ => exact lv_tableIn (x := nI 9) (off := 611) (tgt := 651) hxe hb dL_law_40 (by decide) (by decide) rfl (by decide) (lc_waiting hl0 hC hTh hNc hK hA hX hbl hbA hI h6 hL hcs hP hD hS hl KK)
    | 10, _ => exact lv_tableIn (x := nI 10) (off := 624) (tgt := 664) hxe hb dL_law_40 (by decide) (by decide) rfl (by decide) (lc_inside hl0 hC hTh hNc hK hA hX hbl hbA hI h6 hL hcs hP hD hS hl KK)
    | 11, _ => exact lv_tableIn (x := nI 11) (off := 637) (tgt := 677) hxe hb dL_law_40 (by decide) (by decide) rfl (by decide) (lc_starving hl0 hC hTh hNc hK hA hX hbl hbA hI h6 hL hcs hP hD hS hl KK)
    | 12, _ => exact lv_tableIn (x := nI 12) (off := 650) (tgt := 690) hxe hb dL_law_40 (by decide) (by decide) rfl (by decide) (lc_letIn hl0 hC hTh hNc hK hA hX hbl hbA hI h6 hL hcs hP hD hS hl KK)
    | 13, _ => exact lv_tableIn (x := nI 13) (off := 663) (tgt := 703) hxe hb dL_law_40 (by decide) (by decide) rfl (by decide) (lc_givenUp hl0 hC hTh hNc hK hA hX hbl hbA hI h6 hL hcs hP hD hS hl KK)
    | 14, _ => exact lv_tableIn (x := nI 14) (off := 676) (tgt := 716) hxe hb dL_law_40 (by decide) (by decide) rfl (by decide) (lc_permitsOf hl0 hC hTh hNc hK hA hX hbl hbA hI h6 hL hcs hP hD hS hl KK)
    | 15, _ => exact lv_tableIn (x := nI 15) (off := 732) (tgt := 772) hxe hb dL_law_40 (by decide) (by decide) rfl (by decide) (lc_freeOf hl0 hC hTh hNc hK hA hX hbl hbA hI h6 hL hcs hP hD hS hl KK)
    | 16, _ => exact lv_tableIn (x := nI 16) (off := 788) (tgt := 828) hxe hb dL_law_40 (by decide) (by decide) rfl (by decide) (lc_waitingAt hl0 hC hTh hNc hK hA hX hbl hbA hI h6 hL hcs hP hD hS hl KK)
    | 17, _ => exact lv_tableIn (x := nI 17) (off := 844) (tgt := 884) hxe hb dL_law_40 (by decide) (by decide) rfl (by decide) (lc_nextAt hl0 hC hTh hNc hK hA hX hbl hbA hI h6 hL hcs hP hD hS hl KK)
    | 18, _ => exact lv_tableIn (x := nI 18) (off := 900) (tgt := 940) hxe hb dL_law_40 (by decide) (by decide) rfl (by decide) (lc_stateOf hl0 hC hTh hNc hK hA hX hbl hbA hI h6 hL hcs hP hD hS hl KK)
    | 19, _ => exact lv_tableIn (x := nI 19) (off := 956) (tgt := 996) hxe hb dL_law_40 (by decide) (by decide) rfl (by decide) (lc_gateOf hl0 hC hTh hNc hK hA hX hbl hbA hI h6 hL hcs hP hD hS hl KK)
    | 20, _ => exact lv_tableIn (x := nI 20) (off := 1012) (tgt := 1052) hxe hb dL_law_40 (by decide) (by decide) rfl (by decide) (lc_holds hl0 hC hTh hNc hK hA hX hbl hbA hI h6 hL hcs hP hD hS hl KK)
    | 21, _ => exact lv_tableIn (x := nI 21) (off := 1068) (tgt := 1108) hxe hb dL_law_40 (by decide) (by decide) rfl (by decide) (lc_seemingHorns hl0 hC hTh hNc hK hA hX hbl hbA hI h6 hL hcs hP hD hS hl KK)
    | 22, _ => exact lv_tableIn (x := nI 22) (off := 1124) (tgt := 1164) hxe hb dL_law_40 (by decide) (by decide) rfl (by decide) (lc_minutesLeft hl0 hC hTh hNc hK hA hX hbl hbA hI h6 hL hcs hP hD hS hl KK)
    | 23, _ => exact lv_tableIn (x := nI 23) (off := 1180) (tgt := 1220) hxe hb dL_law_40 (by decide) (by decide) rfl (by decide) (lc_waitedOf hl0 hC hTh hNc hK hA hX hbl hbA hI h6 hL hcs hP hD hS hl KK)
    | 24, _ => exact lv_tableIn (x := nI 24) (off := 1236) (tgt := 1276) hxe hb dL_law_40 (by decide) (by decide) rfl (by decide) (lc_placeInLine hl0 hC hTh hNc hK hA hX hbl hbA hI h6 hL hcs hP hD hS hl KK)
    | 25, _ => exact lv_tableIn (x := nI 25) (off := 1292) (tgt := 1332) hxe hb dL_law_40 (by decide) (by decide) rfl (by decide) (lc_minutesUntilIn hl0 hC hTh hNc hK hA hX hbl hbA hI h6 hL hcs hP hD hS hl KK)
    | 26, _ => exact lv_tableIn (x := nI 26) (off := 1348) (tgt := 1388) hxe hb dL_law_40 (by decide) (by decide) rfl (by decide) (lc_givingUpIn hl0 hC hTh hNc hK hA hX hbl hbA hI h6 hL hcs hP hD hS hl KK)
    | 27, _ => exact lv_tableIn (x := nI 27) (off := 1404) (tgt := 1444) hxe hb dL_law_40 (by decide) (by decide) rfl (by decide) (lc_permitsWanted hl0 hC hTh hNc hK hA hX hbl hbA hI h6 hL hcs hP hD hS hl KK)
    | 28, _ => exact lv_tableIn (x := nI 28) (off := 1460) (tgt := 1500) hxe hb dL_law_40 (by decide) (by decide) rfl (by decide) (lc_bestOrder hl0 hC hTh hNc hK hA hX hbl hbA hI h6 hL hcs hP hD hS hl KK)
    | 29, _ => exact lv_tableIn (x := nI 29) (off := 1516) (tgt := 1556) hxe hb dL_law_40 (by decide) (by decide) rfl (by decide) (lc_meanWaited hl0 hC hTh hNc hK hA hX hbl hbA hI h6 hL hcs hP hD hS hl KK)
    | 30, _ => exact lv_tableIn (x := nI 30) (off := 1557) (tgt := 1597) hxe hb dL_law_40 (by decide) (by decide) rfl (by decide) (lc_digest hl0 hC hTh hNc hK hA hX hbl hbA hI h6 hL hcs hP hD hS hl KK)
    | 31, _ => exact lv_tableOut (x := nI 31) (tgt := 1611) hxe hb dL_law_40 (Or.inr (by decide)) (by decide) (W.widen (by omega) (by omega) (KK G N S T M K f H locs ls hI hP hD hS hl))
    | k + 32, hk => omega
end LWL
