/-! until, lost (laid by wip/p34/gen/sim6.py). -/
/-- what was made is forgotten -/
theorem px_drop {D : va_G} {A : Nat → Prop} {H0 H : Heap} {X : va_W} {L L1 : List Nat} {f f1 : Nat → va_E} {locs : List Loc} (h0 : va_D A (X ++ va_pl L f)) (hw : SW D A H0 X L1 f1 H locs) (hB : Frm L f L1 f1) : SW D A H0 X L f H locs := by
  refine ⟨gt_Pm.mpr fun q hq => ?_, h0, hw.2.2⟩
  rcases List.mem_append.mp hq with h | h
  · exact gt_Pm.mp hw.1 q (List.mem_append_left _ h)
  · obtain ⟨a, ha, rfl⟩ := List.mem_map.mp h
    refine gt_Pm.mp hw.1 _ (List.mem_append_right _ (List.mem_map.mpr ⟨a, hB.1 a ha, ?_⟩))
    rw [hB.2 a ha]
theorem unN_first {M : SS} {G N k i : Nat} (h : mIt M G N i 0 k ≠ 1) : mUnN M G N k ≤ i := by
  rcases Nat.lt_or_ge i (mUnN M G N k) with z | z
  · have := of_decide_eq_false (gxF_no (fun i => decide (mIs (mIt M G N i) k 1 = 0)) 61 i z)
    exact absurd ((mIs0 _ _ _).mpr h) this
  · exact z
theorem unN_no {M : SS} {G N k i : Nat} (h : i < mUnN M G N k) : mIt M G N i 0 k = 1 := by
  have := of_decide_eq_false (gxF_no (fun i => decide (mIs (mIt M G N i) k 1 = 0)) 61 i h)
  exact Decidable.byContradiction fun z => this ((mIs0 _ _ _).mpr z)
theorem unN_yes {M : SS} {G N k : Nat} (h : mUnN M G N k < 61) : mIt M G N (mUnN M G N k) 0 k ≠ 1 := by
  have := of_decide_eq_true (gxF_yes (fun i => decide (mIs (mIt M G N i) k 1 = 0)) 61 h)
  exact (mIs0 _ _ _).mp this
section SMG
variable {p : Program} {l : Launch} {e : Env} {R : Room} {s : State} {m : MethodId} {args : Array Value} {below : List Frame} {meth : Method} {c : Code} {H : Heap} {locs : List Loc} {cells slots : Nat} {Q : State → Prop}
variable {cc : ByteArray} {pc nL : Nat} {Ts : List Cond} {own : String} {ls : Array Slot} {rest st0 : List Value} {D : va_G} {A : Nat → Prop} {a : Nat} {cI cR : ClassId} {X : va_W} {L : List Nat} {f : Nat → va_E} {H0 : Heap}
variable {ad : Nat → Nat → Nat} {P N K : Nat} {M : SS} {Ls : Nat → List Nat}
/-- a gate's number is written -/
theorem sm_gst (S : CallFix p m c cc nL s args Ts own) (i : Nat) {x v : Int32} (hK : va_K D vwCl (tyS cI cR) s) (hw : SW D A H0 X L f H locs) (hI : SimI cI cR L f ad P N K M Ls) {g : Nat} (hg : g < P) (hdg : decode cc pc = .ok (.iastore, 1)) (hx : x = nI i) (hi : i < 2)
    (kk : ∀ (f1 : Nat → va_E) (H1 : Heap) (locs1 : List Loc), SW D A H0 X L f1 H1 locs1 → SimI cI cR L f1 ad P N K (up2 M (9 + i) g v) Ls → (∀ b ∈ L, b ≠ ad 1 g → f1 b = f b) → W p l e R s m args below meth c H1 locs1 cells slots Q (F0 m (pc + 1) ls rest)) : W p l e R s m args below meth c H locs cells slots Q (F0 m pc ls (.int v :: .int x :: .ref (ad 1 g) :: rest)) := by
  obtain ⟨h1, y, h2, h3, h4⟩ := hI.2.2.2.2.1 g hg
  exact px_ist S i hK hw h1 h2 hdg hx hi (by decide) (fun H1 locs1 hw1 => kk _ H1 locs1 hw1 (hI.gst hg hi h2) (fun b _ h => va_up_ne _ _ h))
end SMG
theorem hd_X2_until : yX2_until.cls = RX2 ∧ yX2_until.cls ≠ "java/lang/invoke/MethodHandle" ∧ yX2_until.cls ≠ "java/lang/invoke/VarHandle" ∧ (parseMethodDescriptor yX2_until.desc).map (fun d => d.parameters.length) = some 1 := by decide +kernel
set_option maxHeartbeats 4000000 in
set_option maxRecDepth 100000 in
theorem ct_X2_until (l : Launch) (D : va_G) (cI cR : ClassId) (L : List Nat) (f : Nat → va_E) (ad : Nat → Nat → Nat) (G N : Nat) (M : SS) (Ls : Nat → List Nat) (hI : SimI cI cR L f ad G N G M Ls) (hN : N ≤ 12) (hG4 : G ≤ 4) (hLn : Ln G N M Ls) (k : Nat) (hk : k < N) (hU : mUnN M G N k < 61) : CtX l D cI cR yX2_until wsX2_until 4 105 196 2014 [.ref (ad 0 0), .int (nI k)] L f (pxR L f (mUn M G N k)) := by
  refine CtX.ofW (cc := cX2_until) (maxL := 4) (ret := (some .int)) (by decide) rfl (Nat.le_of_ble_eq_true rfl) ?_
  intro p e s m below meth c A ls hC hr hlk hE hw hK hA hl
  have hx := hC.1
  have hb := hC.2.1
  have hinX2 : ∀ w ∈ wsX20, w ∈ wsX2_until := fun _ _h => List.mem_cons_of_mem _ (List.mem_append_right _ _h)
  have hl : lv_has ls 4 [(0, .ref (ad 0 0)), (1, .int (nI k))] := hl
  have hw0 := hw.2.1
  refine lv_aload_n hx hb dX2_until_0 rfl (lv_at hl 0 rfl) ?_
  refine px_callV hC 2 0 (ct_X2_copy l D cI cR L f ad G N M Ls hI hN hG4) gX2_until_X2_copy dX2_until_1 hE hK hw hA hl.1 rfl hd_X2_copy ⟨Nat.le_of_ble_eq_true rfl, Nat.le_of_ble_eq_true rfl⟩ ⟨by show 0 + 40 ≤ 196; decide, by show 0 + 286 ≤ 2014; decide⟩ hI.1.1 hI.1.2 rfl rfl rfl (Nat.le_of_ble_eq_true rfl) (fun rv L1 f1 H locs hp hw => ?_)
  obtain ⟨a2, rfl, hJ, hB, hR⟩ := hp
  refine gt_stk [.ref (a2 0 0)] rfl ?_
  refine lv_astore_n (lv' := [(2, .ref (a2 0 0)), (0, .ref (ad 0 0)), (1, .int (nI k))]) hx hb dX2_until_4 rfl hl (by decide) rfl (fun ls hl => ?_)
  refine lv_iconst (v := 1) hx hb dX2_until_5 (by decide) ?_
  refine lv_istore_n (lv' := [(3, .int 1), (2, .ref (a2 0 0)), (0, .ref (ad 0 0)), (1, .int (nI k))]) hx hb dX2_until_6 rfl hl (by decide) rfl (fun ls hl => ?_)
  have hwi := mCt_it_le M G N hN
  have hw12 := mCt_le M N
  refine px_loop (σ := pZ) (mUnN M G N k) (fun i => 40 + 13 * (mCt M N - mCt (mIt M G N i) N)) (fun i => 286 + 144 * (mCt M N - mCt (mIt M G N i) N)) (fun i z H locs ls => PQ D A s.heap cI cR L1 f1 a2 G N (mIt M G N i) z H locs ∧ lv_has ls 4 [(3, .int (nI (i + 1))), (2, .ref (a2 0 0)), (0, .ref (ad 0 0)), (1, .int (nI k))] ∧ (i = 0 ∨ ¬ mIt M G N i 0 k = 2)) (L1, f1, a2, Ls) ⟨⟨hw, hJ, hLn, pxF.refl⟩, lv_sub hl [0, 1, 2, 3] rfl, Or.inl rfl⟩ (by show 0 + 40 ≤ _; omega) (by show 0 + 286 ≤ _; omega) (fun i hi z H locs ls hX K1 => ?_) (fun z H locs ls hX => ?_)
  · obtain ⟨L3, f3, a3, l3⟩ := z
    obtain ⟨⟨hw, hJ3, hLn3, hF⟩, hl, hz⟩ := hX
    dsimp only at hw hJ3 hLn3 hF
    have h00 := hF.2.2 0 0 (by decide)
    rw [← h00] at hl
    have hmi := mCt_min_le (mIt M G N i) G N hN
    have h1 := hwi i
    have hs := unN_no hi
    have eS : mIt M G N (i + 1) = mMin (mIt M G N i) G N := rfl
    refine lv_aload_n hx hb dX2_until_7 rfl (lv_at hl 1 rfl) ?_
    refine sm_fld hC 4 1 hinX2 hK hw hJ3 dX2_until_8 rfl (by decide) rfl rfl ?_
    refine lv_iload_n hx hb dX2_until_11 rfl (lv_at hl 3 rfl) ?_
    refine sm_ka hC k hK hw hJ3 dX2_until_12 rfl hk (by omega) ?_
    refine lv_iconst (v := 1) hx hb dX2_until_13 (by decide) ?_
    refine sm_k hC 1 0 hK hw hJ3 hk dX2_until_14 rfl (by decide) rfl ?_
    refine lv_iconst (v := 1) hx hb dX2_until_15 (by decide) ?_
    refine lv_icmp_ne (tgt := 44) hx hb dX2_until_16 (by decide) (fun z => absurd hs z) (fun _ => ?_)
    refine lv_aload_n hx hb dX2_until_19 rfl (lv_at hl 1 rfl) ?_
    refine px_callV hC 2 0 (ct_X2_pass l D cI cR _ _ _ G N (mIt M G N i) _ hJ3 hN hG4 hLn3) gX2_until_X2_pass dX2_until_20 hE hK hw hA hl.1 rfl hd_X2_pass ⟨Nat.le_of_ble_eq_true rfl, Nat.le_of_ble_eq_true rfl⟩ ⟨by show 40 + 13 * (mCt M N - mCt (mIt M G N i) N) + 13 * (mCt (mIt M G N i) N - mCt (mMin (mIt M G N i) G N) N) ≤ 196; omega, by show 286 + 144 * (mCt M N - mCt (mIt M G N i) N) + 144 * (mCt (mIt M G N i) N - mCt (mMin (mIt M G N i) G N) N) ≤ 2014; omega⟩ hJ3.1.1 hJ3.1.2 rfl rfl rfl (Nat.le_of_ble_eq_true rfl) (fun rv L9 f9 H locs hp hw => ?_)
    obtain ⟨rfl, a9, l9, hI9, hLn9, hF9⟩ := hp
    rw [← eS] at hI9 hLn9
    refine gt_stk [.int (mMin (mIt M G N i) G N 8 1 - mIt M G N i 8 1)] rfl ?_
    have h09 : a9 0 0 = a3 0 0 := hF9.2.2 0 0 (by decide)
    refine lv_pop hx hb dX2_until_23 rfl ?_
    rw [← h09] at hl
    refine lv_aload_n hx hb dX2_until_24 rfl (lv_at hl 1 rfl) ?_
    refine sm_fld hC 4 1 hinX2 hK hw hI9 dX2_until_25 rfl (by decide) rfl rfl ?_
    refine lv_iload_n hx hb dX2_until_28 rfl (lv_at hl 3 rfl) ?_
    refine sm_ka hC k hK hw hI9 dX2_until_29 rfl hk (by omega) ?_
    refine lv_iconst (v := 1) hx hb dX2_until_30 (by decide) ?_
    refine sm_k hC 1 0 hK hw hI9 hk dX2_until_31 rfl (by decide) rfl ?_
    refine lv_iconst (v := 2) hx hb dX2_until_32 (by decide) ?_
    refine lv_icmp_ne (tgt := 38) hx hb dX2_until_33 (by decide) (fun h33 : ¬ (((mIt M G N (i + 1)) 0 k) = 2) => ?_) (fun h33 : ((mIt M G N (i + 1)) 0 k) = 2 => ?_)
    · skip
      refine gt_inc (lv' := [(3, .int (nI (i + 1 + 1))), (2, .ref (a9 0 0)), (0, .ref (ad 0 0)), (1, .int (nI k))]) hC 0 (i + 1) dX2_until_38 hl rfl rfl (by decide) rfl (fun ls hl => ?_)
      refine lv_goto (tgt := 7) hx hb dX2_until_41 (by decide) ?_
      have hl9 : lv_has ls 4 [(3, .int (nI (i + 1 + 1))), (2, .ref (a9 0 0)), (0, .ref (ad 0 0)), (1, .int (nI k))] := lv_sub hl [0, 1, 2, 3] rfl
      rw [h09, h00] at hl9
      exact K1 (L9, f9, a9, l9) H locs ls _ _ ⟨⟨hw, hI9, hLn9, hF.trans hF9⟩, hl9, Or.inr h33⟩ (by show _ ≤ 40 + 13 * (mCt M N - mCt (mIt M G N (i + 1)) N); rw [eS]; omega) (by show _ ≤ 286 + 144 * (mCt M N - mCt (mIt M G N (i + 1)) N); rw [eS]; omega)
    · skip
      refine lv_iload_n hx hb dX2_until_36 rfl (lv_at hl 0 rfl) ?_
      have hBe := hB.step hR (hF.trans hF9)
      have hw := px_drop hw0 hw hBe
      have hT : mUnN M G N k = i + 1 := by
        have := unN_first (M := M) (G := G) (N := N) (k := k) (i := i + 1) (by rw [h33]; decide)
        omega
      have hv : mUn M G N k = nI (i + 1) := by
        unfold mUn mUnR
        rw [if_neg (fun z => (mIs0 M k 1).mp z (unN_no (M := M) (G := G) (N := N) (k := k) (i := 0) (by omega))), hT, if_neg (fun z => (mIs0 _ k 2).mp z h33)]
      exact px_iret hC hr hlk hw ⟨congrArg (fun z => some (Value.int z)) hv.symm, rfl, rfl⟩ dX2_until_37 (by omega) (by omega)
  · obtain ⟨L3, f3, a3, l3⟩ := z
    obtain ⟨⟨hw, hJ3, hLn3, hF⟩, hl, hz⟩ := hX
    dsimp only at hw hJ3 hLn3 hF
    have h00 := hF.2.2 0 0 (by decide)
    rw [← h00] at hl
    refine lv_aload_n hx hb dX2_until_7 rfl (lv_at hl 1 rfl) ?_
    refine sm_fld hC 4 1 hinX2 hK hw hJ3 dX2_until_8 rfl (by decide) rfl rfl ?_
    refine lv_iload_n hx hb dX2_until_11 rfl (lv_at hl 3 rfl) ?_
    refine sm_ka hC k hK hw hJ3 dX2_until_12 rfl hk (by omega) ?_
    refine lv_iconst (v := 1) hx hb dX2_until_13 (by decide) ?_
    refine sm_k hC 1 0 hK hw hJ3 hk dX2_until_14 rfl (by decide) rfl ?_
    refine lv_iconst (v := 1) hx hb dX2_until_15 (by decide) ?_
    refine lv_icmp_ne (tgt := 44) hx hb dX2_until_16 (by decide) (fun _ => ?_) (fun z => absurd z (unN_yes hU))
    refine lv_iconst (v := (-1)) hx hb dX2_until_44 (by decide) ?_
    have h1 := hwi (mUnN M G N k)
    have hBe := hB.step hR hF
    have hw := px_drop hw0 hw hBe
    have hv : mUn M G N k = -1 := by
      unfold mUn mUnR
      by_cases h0 : mIs M k 1 = 0
      · rw [if_pos h0]
      · rw [if_neg h0]
        rcases hz with z | z
        · have := unN_yes hU
          rw [z] at this
          exact absurd ((mIs0 M k 1).mpr this) h0
        · rw [if_pos ((mIs0 _ k 2).mpr z)]
    exact px_iret hC hr hlk hw ⟨congrArg (fun z => some (Value.int z)) hv.symm, rfl, rfl⟩ dX2_until_45 (by omega) (by omega)
/-- how many of these are never let in -/
def sLo (M : SS) (G N : Nat) (l : List Nat) : Int32 := l.foldl (fun s k => s + (if mUn M G N k < 0 then 1 else 0)) 0
theorem sLo_snoc (M : SS) (G N : Nat) (l : List Nat) (k : Nat) : sLo M G N (l ++ [k]) = sLo M G N l + (if mUn M G N k < 0 then 1 else 0) := by
  unfold sLo
  rw [List.foldl_append]
  rfl
def gU (M : SS) (g : Nat) (p o : Int32) : SS := up2 (up2 M 9 g p) 10 g o
theorem hd_X2_lost : yX2_lost.cls = RX2 ∧ yX2_lost.cls ≠ "java/lang/invoke/MethodHandle" ∧ yX2_lost.cls ≠ "java/lang/invoke/VarHandle" ∧ (parseMethodDescriptor yX2_lost.desc).map (fun d => d.parameters.length) = some 3 := by decide +kernel
set_option maxHeartbeats 4000000 in
set_option maxRecDepth 100000 in
theorem ct_X2_lost (l : Launch) (D : va_G) (cI cR : ClassId) (L : List Nat) (f : Nat → va_E) (ad : Nat → Nat → Nat) (G N : Nat) (M : SS) (Ls : Nat → List Nat) (hI : SimI cI cR L f ad G N G M Ls) (hN : N ≤ 12) (hG4 : G ≤ 4) (hLn : Ln G N M Ls) (g : Nat) (pp oo : Int32) (hg : g < G) (hU : ∀ k, k < N → mUnN (gU M g pp oo) G N k < 61) : CtX l D cI cR yX2_lost wsX2_lost 5 128 2392 24454 [.ref (ad 0 0), .int (nI g), .int pp, .int oo] L f (pxR L f (sLo (gU M g pp oo) G N (Ls g))) := by
  refine CtX.ofW (cc := cX2_lost) (maxL := 10) (ret := (some .int)) (by decide) rfl (Nat.le_of_ble_eq_true rfl) ?_
  intro p e s m below meth c A ls hC hr hlk hE hw hK hA hl
  have hx := hC.1
  have hb := hC.2.1
  have hinX2 : ∀ w ∈ wsX20, w ∈ wsX2_lost := fun _ _h => List.mem_cons_of_mem _ (List.mem_append_right _ _h)
  have hl : lv_has ls 10 [(0, .ref (ad 0 0)), (1, .int (nI g)), (2, .int pp), (3, .int oo)] := hl
  have hw0 := hw.2.1
  generalize hf0 : f = f0 at hw hI hw0 ⊢
  refine lv_aload_n hx hb dX2_lost_0 rfl (lv_at hl 0 rfl) ?_
  have hI0 := hI
  refine px_callV hC 2 0 (ct_X2_copy l D cI cR L f0 ad G N M Ls hI hN hG4) gX2_lost_X2_copy dX2_lost_1 hE hK hw hA hl.1 rfl hd_X2_copy ⟨Nat.le_of_ble_eq_true rfl, Nat.le_of_ble_eq_true rfl⟩ ⟨by show 0 + 40 ≤ 2392; decide, by show 0 + 286 ≤ 24454; decide⟩ hI.1.1 hI.1.2 rfl rfl rfl (Nat.le_of_ble_eq_true rfl) (fun rv L1 f1 H locs hp hw => ?_)
  obtain ⟨a2, rfl, hJ, hB, hR⟩ := hp
  refine gt_stk [.ref (a2 0 0)] rfl ?_
  refine lv_astore (lv' := [(4, .ref (a2 0 0)), (0, .ref (ad 0 0)), (1, .int (nI g)), (2, .int pp), (3, .int oo)]) hx hb dX2_lost_4 hl (by decide) rfl (fun ls hl => ?_)
  refine lv_aload hx hb dX2_lost_6 (lv_at hl 0 rfl) ?_
  refine sm_fld hC 3 1 hinX2 hK hw hJ dX2_lost_8 rfl (by decide) rfl rfl ?_
  refine lv_iload_n hx hb dX2_lost_11 rfl (lv_at hl 2 rfl) ?_
  refine sm_ga hC g hK hw hJ dX2_lost_12 rfl hg (by omega) ?_
  refine lv_iconst (v := 0) hx hb dX2_lost_13 (by decide) ?_
  refine lv_iload_n hx hb dX2_lost_14 rfl (lv_at hl 3 rfl) ?_
  refine sm_gst hC 0 hK hw hJ hg dX2_lost_15 rfl (by decide) (fun f1 H locs hw hJ hf1 => ?_)
  replace hB := hB.more (fun a ha => ha) (fun a ha ha1 => hf1 a ha1 (px_ne ha (hR.2.2.2.2.1 g hg)))
  refine lv_aload hx hb dX2_lost_16 (lv_at hl 0 rfl) ?_
  refine sm_fld hC 3 1 hinX2 hK hw hJ dX2_lost_18 rfl (by decide) rfl rfl ?_
  refine lv_iload_n hx hb dX2_lost_21 rfl (lv_at hl 2 rfl) ?_
  refine sm_ga hC g hK hw hJ dX2_lost_22 rfl hg (by omega) ?_
  refine lv_iconst (v := 1) hx hb dX2_lost_23 (by decide) ?_
  refine lv_iload_n hx hb dX2_lost_24 rfl (lv_at hl 4 rfl) ?_
  refine sm_gst hC 1 hK hw hJ hg dX2_lost_25 rfl (by decide) (fun f1 H locs hw hJ hf1 => ?_)
  replace hB := hB.more (fun a ha => ha) (fun a ha ha1 => hf1 a ha1 (px_ne ha (hR.2.2.2.2.1 g hg)))
  have hJ : SimI cI cR L1 f1 a2 G N G (gU M g pp oo) Ls := hJ
  have hLn2 : Ln G N (gU M g pp oo) Ls := hLn.congr (fun k _ => ⟨Iff.rfl, fun _ => ⟨rfl, rfl⟩⟩)
  have hI := hI0.mono hB.1 hB.2
  obtain ⟨hln, hltN, hlt⟩ := hLn.lb hN hg
  refine lv_iconst (v := 0) hx hb dX2_lost_26 (by decide) ?_
  refine lv_istore (lv' := [(5, .int 0), (4, .ref (a2 0 0)), (0, .ref (ad 0 0)), (1, .int (nI g)), (2, .int pp), (3, .int oo)]) hx hb dX2_lost_27 hl (by decide) rfl (fun ls hl => ?_)
  refine lv_aload_n hx hb dX2_lost_29 rfl (lv_at hl 2 rfl) ?_
  refine sm_fld hC 5 2 hinX2 hK hw hI dX2_lost_30 rfl (by decide) rfl rfl ?_
  refine lv_iload_n hx hb dX2_lost_33 rfl (lv_at hl 3 rfl) ?_
  refine sm_la hC g hK hw hI dX2_lost_34 rfl hg (by omega) ?_
  refine lv_astore (lv' := [(6, .ref (ad 3 g)), (5, .int 0), (4, .ref (a2 0 0)), (0, .ref (ad 0 0)), (1, .int (nI g)), (2, .int pp), (3, .int oo)]) hx hb dX2_lost_35 hl (by decide) rfl (fun ls hl => ?_)
  refine lv_aload hx hb dX2_lost_37 (lv_at hl 0 rfl) ?_
  refine sm_lln hC hK hw hI hg dX2_lost_39 ?_
  refine lv_istore (lv' := [(7, .int (nI ((Ls g).length))), (6, .ref (ad 3 g)), (5, .int 0), (4, .ref (a2 0 0)), (0, .ref (ad 0 0)), (1, .int (nI g)), (2, .int pp), (3, .int oo)]) hx hb dX2_lost_40 hl (by decide) rfl (fun ls hl => ?_)
  refine lv_iconst (v := 0) hx hb dX2_lost_42 (by decide) ?_
  refine lv_istore (lv' := [(8, .int 0), (7, .int (nI ((Ls g).length))), (6, .ref (ad 3 g)), (5, .int 0), (4, .ref (a2 0 0)), (0, .ref (ad 0 0)), (1, .int (nI g)), (2, .int pp), (3, .int oo)]) hx hb dX2_lost_43 hl (by decide) rfl (fun ls hl => ?_)
  refine px_loop (σ := Unit) (Ls g).length (fun i => 40 + 196 * i) (fun i => 286 + 2014 * i) (fun i _ H locs ls => SW D A s.heap [] L1 f1 H locs ∧ lv_has ls 10 [(8, .int (nI i)), (7, .int (nI (Ls g).length)), (6, .ref (ad 3 g)), (5, .int (sLo (gU M g pp oo) G N ((Ls g).take i))), (4, .ref (a2 0 0)), (0, .ref (ad 0 0)), (1, .int (nI g)), (2, .int pp), (3, .int oo)]) () ⟨hw, lv_sub hl [0, 1, 2, 3, 4, 5, 6, 7, 8] rfl⟩ (Nat.le_refl _) (Nat.le_refl _) (fun i hi _ H locs ls hX K1 => ?_) (fun _ H locs ls hX => ?_)
  · obtain ⟨hw, hl⟩ := hX
    refine lv_iload hx hb dX2_lost_45 (lv_at hl 0 rfl) ?_
    refine lv_iload hx hb dX2_lost_47 (lv_at hl 1 rfl) ?_
    refine gt_ge_f (tgt := 85) hC i ((Ls g).length) dX2_lost_49 (by decide) rfl rfl hi (by omega) ?_
    obtain ⟨c0, hc0⟩ : ∃ c0, (Ls g)[i]? = some c0 := ⟨_, List.getElem?_eq_getElem hi⟩
    have hc1 : c0 < N := hltN c0 (List.mem_of_getElem? hc0)
    refine lv_aload hx hb dX2_lost_52 (lv_at hl 2 rfl) ?_
    refine lv_iload hx hb dX2_lost_54 (lv_at hl 0 rfl) ?_
    refine sm_l hC i hK hw hI hg dX2_lost_56 rfl hc0 (by omega) ?_
    refine lv_istore (lv' := [(9, .int (nI c0)), (8, .int (nI i)), (7, .int (nI ((Ls g).length))), (6, .ref (ad 3 g)), (5, .int (sLo (gU M g pp oo) G N ((Ls g).take i))), (4, .ref (a2 0 0)), (0, .ref (ad 0 0)), (1, .int (nI g)), (2, .int pp), (3, .int oo)]) hx hb dX2_lost_57 hl (by decide) rfl (fun ls hl => ?_)
    refine lv_iload hx hb dX2_lost_59 (lv_at hl 4 rfl) ?_
    refine lv_aload hx hb dX2_lost_61 (lv_at hl 5 rfl) ?_
    refine lv_iload hx hb dX2_lost_63 (lv_at hl 0 rfl) ?_
    refine px_callV hC 2 1 (ct_X2_until l D cI cR L1 f1 a2 G N (gU M g pp oo) Ls hJ hN hG4 hLn2 c0 hc1 (hU c0 hc1)) gX2_lost_X2_until dX2_lost_65 hE hK hw hA hl.1 rfl hd_X2_until ⟨Nat.le_of_ble_eq_true rfl, Nat.le_of_ble_eq_true rfl⟩ ⟨by show 40 + 196 * i + 196 ≤ 2392; omega, by show 286 + 2014 * i + 2014 ≤ 24454; omega⟩ hJ.1.1 hJ.1.2 rfl rfl rfl (Nat.le_of_ble_eq_true rfl) (fun rv L9 f9 H locs hp hw => ?_)
    obtain ⟨rfl, e8, e9⟩ := hp
    rw [e8, e9] at hw
    refine gt_stk [.int (mUn (gU M g pp oo) G N c0), .int (sLo (gU M g pp oo) G N ((Ls g).take i))] rfl ?_
    refine lv_if_ge (tgt := 75) hx hb dX2_lost_68 (by decide) (fun h68 : 0 ≤ (mUn (gU M g pp oo) G N c0) => ?_) (fun h68 : ¬ (0 ≤ (mUn (gU M g pp oo) G N c0)) => ?_)
    · skip
      refine lv_iconst (v := 0) hx hb dX2_lost_75 (by decide) ?_
      refine lv_iadd hx hb dX2_lost_76 ?_
      refine lv_istore (lv' := [(5, .int ((sLo (gU M g pp oo) G N ((Ls g).take i)) + 0)), (9, .int (nI c0)), (8, .int (nI i)), (7, .int (nI ((Ls g).length))), (6, .ref (ad 3 g)), (4, .ref (a2 0 0)), (0, .ref (ad 0 0)), (1, .int (nI g)), (2, .int pp), (3, .int oo)]) hx hb dX2_lost_77 hl (by decide) rfl (fun ls hl => ?_)
      refine gt_inc (lv' := [(8, .int (nI (i + 1))), (5, .int ((sLo (gU M g pp oo) G N ((Ls g).take i)) + 0)), (9, .int (nI c0)), (7, .int (nI ((Ls g).length))), (6, .ref (ad 3 g)), (4, .ref (a2 0 0)), (0, .ref (ad 0 0)), (1, .int (nI g)), (2, .int pp), (3, .int oo)]) hC 2 i dX2_lost_79 hl rfl rfl (by decide) rfl (fun ls hl => ?_)
      refine lv_goto (tgt := 45) hx hb dX2_lost_82 (by decide) ?_
      have e9 : sLo (gU M g pp oo) G N ((Ls g).take i) + 0 = sLo (gU M g pp oo) G N ((Ls g).take (i + 1)) := by
        rw [take_snoc hc0, sLo_snoc, if_neg (Int32.not_lt.mpr h68)]
      have hl9 : lv_has ls 10 [(8, .int (nI (i + 1))), (7, .int (nI (Ls g).length)), (6, .ref (ad 3 g)), (5, .int ((sLo (gU M g pp oo) G N ((Ls g).take i)) + 0)), (4, .ref (a2 0 0)), (0, .ref (ad 0 0)), (1, .int (nI g)), (2, .int pp), (3, .int oo)] := lv_sub hl [0, 3, 4, 1, 5, 6, 7, 8, 9] rfl
      rw [e9] at hl9
      exact K1 () H locs ls _ _ ⟨hw, hl9⟩ (by show _ ≤ 40 + 196 * (i + 1); omega) (by show _ ≤ 286 + 2014 * (i + 1); omega)
    · skip
      refine lv_iconst (v := 1) hx hb dX2_lost_71 (by decide) ?_
      refine lv_goto (tgt := 76) hx hb dX2_lost_72 (by decide) ?_
      refine lv_iadd hx hb dX2_lost_76 ?_
      refine lv_istore (lv' := [(5, .int ((sLo (gU M g pp oo) G N ((Ls g).take i)) + 1)), (9, .int (nI c0)), (8, .int (nI i)), (7, .int (nI ((Ls g).length))), (6, .ref (ad 3 g)), (4, .ref (a2 0 0)), (0, .ref (ad 0 0)), (1, .int (nI g)), (2, .int pp), (3, .int oo)]) hx hb dX2_lost_77 hl (by decide) rfl (fun ls hl => ?_)
      refine gt_inc (lv' := [(8, .int (nI (i + 1))), (5, .int ((sLo (gU M g pp oo) G N ((Ls g).take i)) + 1)), (9, .int (nI c0)), (7, .int (nI ((Ls g).length))), (6, .ref (ad 3 g)), (4, .ref (a2 0 0)), (0, .ref (ad 0 0)), (1, .int (nI g)), (2, .int pp), (3, .int oo)]) hC 2 i dX2_lost_79 hl rfl rfl (by decide) rfl (fun ls hl => ?_)
      refine lv_goto (tgt := 45) hx hb dX2_lost_82 (by decide) ?_
      have e9 : sLo (gU M g pp oo) G N ((Ls g).take i) + 1 = sLo (gU M g pp oo) G N ((Ls g).take (i + 1)) := by
        rw [take_snoc hc0, sLo_snoc, if_pos (Int32.not_le.mp h68)]
      have hl9 : lv_has ls 10 [(8, .int (nI (i + 1))), (7, .int (nI (Ls g).length)), (6, .ref (ad 3 g)), (5, .int ((sLo (gU M g pp oo) G N ((Ls g).take i)) + 1)), (4, .ref (a2 0 0)), (0, .ref (ad 0 0)), (1, .int (nI g)), (2, .int pp), (3, .int oo)] := lv_sub hl [0, 3, 4, 1, 5, 6, 7, 8, 9] rfl
      rw [e9] at hl9
      exact K1 () H locs ls _ _ ⟨hw, hl9⟩ (by show _ ≤ 40 + 196 * (i + 1); omega) (by show _ ≤ 286 + 2014 * (i + 1); omega)
  · obtain ⟨hw, hl⟩ := hX
    refine lv_iload hx hb dX2_lost_45 (lv_at hl 0 rfl) ?_
    refine lv_iload hx hb dX2_lost_47 (lv_at hl 1 rfl) ?_
    refine gt_ge_t (tgt := 85) hC ((Ls g).length) ((Ls g).length) dX2_lost_49 (by decide) rfl rfl (Nat.le_refl _) (by omega) ?_
    refine lv_iload hx hb dX2_lost_85 (lv_at hl 3 rfl) ?_
    have hw := px_drop hw0 hw hB
    exact px_iret hC hr hlk hw ⟨by rw [List.take_length], rfl, rfl⟩ dX2_lost_87 (by show 40 + 196 * (Ls g).length ≤ 2392; omega) (by show 286 + 2014 * (Ls g).length ≤ 24454; omega)
