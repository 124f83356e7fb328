/-! with, and a Sim's field: one gate, goat, line more (laid by wip/p34/gen/sim5.py); copy, until, lost. -/
section SG
variable {p : Program} {l : Launch} {e : Env} {R : Room} {s : State} {m : MethodId} {args : Array Value} {below : List Frame} {meth : Method} {c : Code} {H : Heap} {locs : List Loc} {cells slots : Nat} {Q : State → Prop}
variable {cc : ByteArray} {pc nL : Nat} {Ts : List Cond} {own : String} {ls : Array Slot} {rest st0 : List Value} {D : va_G} {A : Nat → Prop} {cI cR : ClassId} {X : va_W} {L : List Nat} {f : Nat → va_E} {H0 : Heap}
variable {ad : Nat → Nat → Nat} {P N K : Nat} {M : SS} {Ls : Nat → List Nat}
/-- a row is a row of the kind that it was -/
theorem px_cast (S : CallFix p m c cc nL s args Ts own) (i : Nat) {index a n : Nat} {g : Nat → Int32} (hlink : Ts[i]? = some (Cond.classLink own index "[I")) (hK : va_K D vwCl (tyS cI cR) s) (hw : SW D A H0 X L f H locs) (hL : a ∈ L) (hf : f a = .inl (cI, n, .inl g)) (hdg : decode cc pc = .ok (.checkcast index, 3))
    (kk : W p l e R s m args below meth c H locs cells slots Q (F0 m (pc + 3) ls (.ref a :: rest))) : W p l e R s m args below meth c H locs cells slots Q (F0 m pc ls (.ref a :: rest)) := by
  obtain ⟨q0, he, -⟩ := px_ix (X := X) hL hf
  exact va_castA S.1 S.2.1 S.2.2.2.1 (S.2.2.2.2 _ (List.mem_of_getElem? hlink)) hw.1 q0 he (va_nm_int (hK.2 0 _ rfl).2) hdg kk
theorem sm_addG (S : CallFix p m c cc nL s args Ts own) (i : Nat) {index1 index2 q1 : Nat} {x : Nat → Int32} (hG : GoodIn Ts (va_wsS own index1 yX2_with wsX2_with)) (hin : ∀ w ∈ wsX20, w ∈ Ts) (hE : SE s) (hK : va_K D vwCl (tyS cI cR) s) (hw : SW D A H0 X L f H locs) (hA : ∀ q, H0.size ≤ q → A q) (hlL : ls.size = nL) (hI : SimI cI cR L f ad P N K M Ls) (hq1 : q1 ∈ L) (hx : f q1 = .inl (cI, 2, .inl x)) (h9 : x 0 = M 9 P) (h10 : x 1 = M 10 P) (d1 : ∀ j, j < P → ad 1 j ≠ q1) (d2 : ∀ g, g < K → q1 ≠ ad 3 g) (hP : P < 900)
    (hdg1 : decode cc pc = .ok (.invokestatic index1, 3)) (hdg2 : decode cc (pc + 3) = .ok (.putfield index2, 3)) (hlink : Ts[i]? = some (Cond.fieldLink own index2 RX2 (TX2 3).2.1 (TX2 3).2.2.1)) (hR : 1 ≤ R.frames ∧ 8 + (4 + 11) + 0 ≤ R.locals) (hroom : cells + 1 ≤ R.cells ∧ slots + (P + 1) ≤ R.slots) (hcat : (rest.map fun v => v.category).sum ≤ 7)
    (kk : ∀ (q2 : Nat) (f2 : Nat → va_E) (H1 : Heap) (locs1 : List Loc), q2 ∉ L → SW D A H0 X (L ++ [q2]) f2 H1 locs1 → SimI cI cR (L ++ [q2]) f2 (adB ad 1 1 P q1 q2) (P + 1) N K M Ls → (∀ a ∈ L, a ≠ ad 0 0 → f2 a = f a) → W p l e R s m args below meth c H1 locs1 (cells + 1) (slots + (P + 1)) Q (F0 m (pc + 3 + 3) ls rest)) :
    W p l e R s m args below meth c H locs cells slots Q (F0 m pc ls (.ref q1 :: .ref (ad 0 1) :: .ref (ad 0 0) :: rest)) := by
  obtain ⟨r9, hr9, hr8⟩ := hI.2.1.2
  refine px_callS S 2 (ct_X2_with l D cI cR L f (ad 0 1) q1 P r9 _ hI.2.1.1 hr9 (fun j hj => ?_) hq1 hx (by omega)) hG hdg1 hE hK hw hA hlL rfl hd_X2_with hR hroom rfl rfl (by show 1 + (rest.map fun v => v.category).sum ≤ 8; omega) (fun rv L1 f1 H1 locs1 hp hw => ?_)
  · obtain ⟨k1, y, k2, -⟩ := hI.2.2.2.2.1 j hj
    exact ⟨_, _, hr8 j hj, k1, k2⟩
  · obtain ⟨q2, r1, rfl, hq2, e8, e9, hr1, hr2⟩ := hp
    rw [e8, e9] at hw
    have hI2 := hI.new (e := .inl (cR, qr (P + 1) r1)) hq2
    have hm2 : q2 ∈ L ++ [q2] := List.mem_append_right _ List.mem_cons_self
    refine gt_stk (.ref q2 :: .ref (ad 0 0) :: rest) rfl ?_
    refine px_put (ty := .array (.array .int)) S 2 3 i hin tyX2_ok nmX2 hK hw hI2.1.1 hI2.1.2 hdg2 rfl (by decide) hlink rfl rfl rfl rfl rfl (Nat.le_of_ble_eq_true rfl) (fun H1 locs1 hw => ?_)
    refine kk q2 _ H1 locs1 hq2 hw (hI2.addG (List.mem_append_left _ hq1) ((va_up_ne _ _ (px_ne hq1 hq2)).trans hx) h9 h10 hm2 (va_up_self _ _ _) ((va_up_ne _ _ (px_ne hI.2.1.1 hq2)).trans hr9) hr1 hr2 d1 d2 (Ne.symm (px_ne hI.2.2.2.1.1 hq2)) hI2.1.2) (fun a ha h0 => (va_up_ne _ _ h0).trans (va_up_ne _ _ (px_ne ha hq2)))
theorem sm_addK (S : CallFix p m c cc nL s args Ts own) (i : Nat) {index1 index2 q1 : Nat} {x : Nat → Int32} (hG : GoodIn Ts (va_wsS own index1 yX2_with wsX2_with)) (hin : ∀ w ∈ wsX20, w ∈ Ts) (hE : SE s) (hK : va_K D vwCl (tyS cI cR) s) (hw : SW D A H0 X L f H locs) (hA : ∀ q, H0.size ≤ q → A q) (hlL : ls.size = nL) (hI : SimI cI cR L f ad P N K M Ls) (hq1 : q1 ∈ L) (hx : f q1 = .inl (cI, 8, .inl x)) (h8 : ∀ j, j < 8 → x j = M (rw8 j) N) (d1 : ∀ j, j < N → ad 2 j ≠ q1) (d2 : ∀ g, g < K → q1 ≠ ad 3 g) (hP : N < 900)
    (hdg1 : decode cc pc = .ok (.invokestatic index1, 3)) (hdg2 : decode cc (pc + 3) = .ok (.putfield index2, 3)) (hlink : Ts[i]? = some (Cond.fieldLink own index2 RX2 (TX2 4).2.1 (TX2 4).2.2.1)) (hR : 1 ≤ R.frames ∧ 8 + (4 + 11) + 0 ≤ R.locals) (hroom : cells + 1 ≤ R.cells ∧ slots + (N + 1) ≤ R.slots) (hcat : (rest.map fun v => v.category).sum ≤ 7)
    (kk : ∀ (q2 : Nat) (f2 : Nat → va_E) (H1 : Heap) (locs1 : List Loc), q2 ∉ L → SW D A H0 X (L ++ [q2]) f2 H1 locs1 → SimI cI cR (L ++ [q2]) f2 (adB ad 2 2 N q1 q2) P (N + 1) K M Ls → (∀ a ∈ L, a ≠ ad 0 0 → f2 a = f a) → W p l e R s m args below meth c H1 locs1 (cells + 1) (slots + (N + 1)) Q (F0 m (pc + 3 + 3) ls rest)) :
    W p l e R s m args below meth c H locs cells slots Q (F0 m pc ls (.ref q1 :: .ref (ad 0 2) :: .ref (ad 0 0) :: rest)) := by
  obtain ⟨r9, hr9, hr8⟩ := hI.2.2.1.2
  refine px_callS S 2 (ct_X2_with l D cI cR L f (ad 0 2) q1 N r9 _ hI.2.2.1.1 hr9 (fun j hj => ?_) hq1 hx (by omega)) hG hdg1 hE hK hw hA hlL rfl hd_X2_with hR hroom rfl rfl (by show 1 + (rest.map fun v => v.category).sum ≤ 8; omega) (fun rv L1 f1 H1 locs1 hp hw => ?_)
  · obtain ⟨k1, y, k2, -⟩ := hI.2.2.2.2.2.1 j hj
    exact ⟨_, _, hr8 j hj, k1, k2⟩
  · obtain ⟨q2, r1, rfl, hq2, e8, e9, hr1, hr2⟩ := hp
    rw [e8, e9] at hw
    have hI2 := hI.new (e := .inl (cR, qr (N + 1) r1)) hq2
    have hm2 : q2 ∈ L ++ [q2] := List.mem_append_right _ List.mem_cons_self
    refine gt_stk (.ref q2 :: .ref (ad 0 0) :: rest) rfl ?_
    refine px_put (ty := .array (.array .int)) S 2 4 i hin tyX2_ok nmX2 hK hw hI2.1.1 hI2.1.2 hdg2 rfl (by decide) hlink rfl rfl rfl rfl rfl (Nat.le_of_ble_eq_true rfl) (fun H1 locs1 hw => ?_)
    refine kk q2 _ H1 locs1 hq2 hw (hI2.addK (List.mem_append_left _ hq1) ((va_up_ne _ _ (px_ne hq1 hq2)).trans hx) h8 hm2 (va_up_self _ _ _) ((va_up_ne _ _ (px_ne hI.2.2.1.1 hq2)).trans hr9) hr1 hr2 d1 d2 (Ne.symm (px_ne hI.2.2.2.1.1 hq2)) hI2.1.2) (fun a ha h0 => (va_up_ne _ _ h0).trans (va_up_ne _ _ (px_ne ha hq2)))
theorem sm_addL (S : CallFix p m c cc nL s args Ts own) (i : Nat) {index1 index2 q1 : Nat}  (hG : GoodIn Ts (va_wsS own index1 yX2_with wsX2_with)) (hin : ∀ w ∈ wsX20, w ∈ Ts) (hE : SE s) (hK : va_K D vwCl (tyS cI cR) s) (hw : SW D A H0 X L f H locs) (hA : ∀ q, H0.size ≤ q → A q) (hlL : ls.size = nL) (hI : SimI cI cR L f ad P N K M Ls) (hq1 : q1 ∈ L) (hx : rowIs cI (f q1) (Ls K)) (d1 : ∀ j, j < P → ad 1 j ≠ q1) (d2 : ∀ j, j < N → ad 2 j ≠ q1) (hP : K < 900)
    (hdg1 : decode cc pc = .ok (.invokestatic index1, 3)) (hdg2 : decode cc (pc + 3) = .ok (.putfield index2, 3)) (hlink : Ts[i]? = some (Cond.fieldLink own index2 RX2 (TX2 5).2.1 (TX2 5).2.2.1)) (hR : 1 ≤ R.frames ∧ 8 + (4 + 11) + 0 ≤ R.locals) (hroom : cells + 1 ≤ R.cells ∧ slots + (K + 1) ≤ R.slots) (hcat : (rest.map fun v => v.category).sum ≤ 7)
    (kk : ∀ (q2 : Nat) (f2 : Nat → va_E) (H1 : Heap) (locs1 : List Loc), q2 ∉ L → SW D A H0 X (L ++ [q2]) f2 H1 locs1 → SimI cI cR (L ++ [q2]) f2 (adB ad 3 3 K q1 q2) P N (K + 1) M Ls → (∀ a ∈ L, a ≠ ad 0 0 → f2 a = f a) → W p l e R s m args below meth c H1 locs1 (cells + 1) (slots + (K + 1)) Q (F0 m (pc + 3 + 3) ls rest)) :
    W p l e R s m args below meth c H locs cells slots Q (F0 m pc ls (.ref q1 :: .ref (ad 0 3) :: .ref (ad 0 0) :: rest)) := by
  obtain ⟨r9, hr9, hr8⟩ := hI.2.2.2.1.2
  refine px_callS S 2 (ct_X2_with l D cI cR L f (ad 0 3) q1 K r9 _ hI.2.2.2.1.1 hr9 (fun j hj => ?_) hq1 hx.choose_spec.1 (by omega)) hG hdg1 hE hK hw hA hlL rfl hd_X2_with hR hroom rfl rfl (by show 1 + (rest.map fun v => v.category).sum ≤ 8; omega) (fun rv L1 f1 H1 locs1 hp hw => ?_)
  · obtain ⟨k1, y, k2, -⟩ := hI.2.2.2.2.2.2.1 j hj
    exact ⟨_, _, hr8 j hj, k1, k2⟩
  · obtain ⟨q2, r1, rfl, hq2, e8, e9, hr1, hr2⟩ := hp
    rw [e8, e9] at hw
    have hI2 := hI.new (e := .inl (cR, qr (K + 1) r1)) hq2
    have hm2 : q2 ∈ L ++ [q2] := List.mem_append_right _ List.mem_cons_self
    refine gt_stk (.ref q2 :: .ref (ad 0 0) :: rest) rfl ?_
    refine px_put (ty := .array (.array .int)) S 2 5 i hin tyX2_ok nmX2 hK hw hI2.1.1 hI2.1.2 hdg2 rfl (by decide) hlink rfl rfl rfl rfl rfl (Nat.le_of_ble_eq_true rfl) (fun H1 locs1 hw => ?_)
    refine kk q2 _ H1 locs1 hq2 hw (hI2.addL (List.mem_append_left _ hq1) (by rw [va_up_ne _ _ (px_ne hq1 hq2)]; exact hx) hm2 (va_up_self _ _ _) ((va_up_ne _ _ (px_ne hI.2.2.2.1.1 hq2)).trans hr9) hr1 hr2 d1 d2 ⟨px_ne hI.2.1.1 hq2, px_ne hI.2.2.1.1 hq2⟩ hI2.1.2) (fun a ha h0 => (va_up_ne _ _ h0).trans (va_up_ne _ _ (px_ne ha hq2)))
end SG
/-- what was there stays -/
def Frm (L : List Nat) (f : Nat → va_E) (L1 : List Nat) (f1 : Nat → va_E) : Prop := (∀ a ∈ L, a ∈ L1) ∧ ∀ a ∈ L, f1 a = f a
/-- a Sim's own cells are none of these -/
def Fre (L : List Nat) (ad : Nat → Nat → Nat) (P N : Nat) : Prop := ad 0 0 ∉ L ∧ ad 0 1 ∉ L ∧ ad 0 2 ∉ L ∧ ad 0 3 ∉ L ∧ (∀ g, g < P → ad 1 g ∉ L) ∧ ∀ k, k < N → ad 2 k ∉ L
theorem Frm.step {L L1 L2 : List Nat} {f f1 f2 : Nat → va_E} {ad ad2 : Nat → Nat → Nat} {P N : Nat} (h : Frm L f L1 f1) (hr : Fre L ad P N) (h2 : pxF N L1 f1 ad L2 f2 ad2) : Frm L f L2 f2 := by
  refine ⟨fun a ha => h2.1 a (h.1 a ha), fun a ha => ?_⟩
  rw [h2.2.1 a (h.1 a ha) (px_ne ha hr.1) (px_ne ha hr.2.2.2.1) (fun k hk => px_ne ha (hr.2.2.2.2.2 k hk))]
  exact h.2 a ha
theorem Fre.step {L L1 L2 : List Nat} {f1 f2 : Nat → va_E} {ad ad2 : Nat → Nat → Nat} {P N n : Nat} (hr : Fre L ad P N) (h2 : pxF n L1 f1 ad L2 f2 ad2) : Fre L ad2 P N := by
  have h := h2.2.2
  obtain ⟨r0, r1, r2, r3, r4, r5⟩ := hr
  refine ⟨?_, ?_, ?_, ?_, fun g hg => ?_, fun k hk => ?_⟩
  · rw [h 0 0 (by decide)]; exact r0
  · rw [h 0 1 (by decide)]; exact r1
  · rw [h 0 2 (by decide)]; exact r2
  · rw [h 0 3 (by decide)]; exact r3
  · rw [h 1 g (by decide)]; exact r4 g hg
  · rw [h 2 k (by decide)]; exact r5 k hk
theorem Frm.more {L L1 L2 : List Nat} {f f1 f2 : Nat → va_E} (h : Frm L f L1 f1) (h1 : ∀ a ∈ L1, a ∈ L2) (h2 : ∀ a ∈ L, a ∈ L1 → f2 a = f1 a) : Frm L f L2 f2 := ⟨fun a ha => h1 a (h.1 a ha), fun a ha => (h2 a ha (h.1 a ha)).trans (h.2 a ha)⟩
theorem hd_X2_copy : yX2_copy.cls = RX2 ∧ yX2_copy.cls ≠ "java/lang/invoke/MethodHandle" ∧ yX2_copy.cls ≠ "java/lang/invoke/VarHandle" ∧ (parseMethodDescriptor yX2_copy.desc).map (fun d => d.parameters.length) = some 0 := by decide +kernel
set_option maxHeartbeats 4000000 in
set_option maxRecDepth 100000 in
theorem ct_X2_copy (l : Launch) (D : va_G) (cI cR : ClassId) (L : List Nat) (f : Nat → va_E) (ad : Nat → Nat → Nat) (G N : Nat) (M : SS) (Ls : Nat → List Nat) (hI : SimI cI cR L f ad G N G M Ls) (hN : N ≤ 12) (hG4 : G ≤ 4) : CtX l D cI cR yX2_copy wsX2_copy 2 58 40 286 [.ref (ad 0 0)] L f (fun rv L1 f1 => ∃ a2, rv = some (.ref (a2 0 0)) ∧ SimI cI cR L1 f1 a2 G N G M Ls ∧ Frm L f L1 f1 ∧ Fre L a2 G N) := by
  refine CtX.ofW (cc := cX2_copy) (maxL := 6) (ret := (some (.object "GoatTowerLaw$Sim"))) (by decide) rfl (Nat.le_of_ble_eq_true rfl) ?_
  intro p e s m below meth c A ls hC hr hlk hE hw hK hA hl
  generalize hf0 : f = f0 at hw hI ⊢
  have hx := hC.1
  have hb := hC.2.1
  have hinX2 : ∀ w ∈ wsX20, w ∈ wsX2_copy := fun _ _h => List.mem_cons_of_mem _ (List.mem_append_right _ _h)
  have hl : lv_has ls 6 [(0, .ref (ad 0 0))] := hl
  refine px_new (fs := [.int 0, .int 0, .int 0, .null, .null, .null]) hC 2 1 2 3 hinX2 tyX2_ok rfl rfl rfl hK hw hA rfl (by intro j hj; match j, hj with | 0, _ => rfl | 1, _ => rfl | 2, _ => rfl | 3, _ => rfl | 4, _ => rfl | 5, _ => rfl) ⟨by show 0 + 1 ≤ 40; decide, by show 0 + 6 ≤ 286; decide⟩ dX2_copy_0 (fun o H ho hw => ?_)
  refine lv_dup hx hb dX2_copy_3 rfl ?_
  have hoL : o ∈ L ++ [o] := List.mem_append_right _ List.mem_cons_self
  refine px_callI hC 0 3 16 17 (ct_X2_init l D cI cR (L ++ [o]) _ o hoL (va_up_self _ _ _)) gX2_copy_X2_init rfl rfl rfl rfl dX2_copy_4 hE hK hw hA hl.1 rfl hd_X2_init ⟨Nat.le_of_ble_eq_true rfl, Nat.le_of_ble_eq_true rfl⟩ ⟨by show 0 + 1 + 3 ≤ 40; decide, by show 0 + 6 + 0 ≤ 286; decide⟩ rfl rfl (Nat.le_of_ble_eq_true rfl) (fun rv L1 f1 H locs hp hw => ?_)
  obtain ⟨rfl, a2, hJ, e00, n1, n2, n3, n4, n5⟩ := hp
  have hB : Frm L f0 L1 f1 := ⟨fun a ha => n1 a (List.mem_append_left _ ha), fun a ha => (n2 a (List.mem_append_left _ ha) (px_ne ha ho)).trans (va_up_ne _ _ (px_ne ha ho))⟩
  have hR : Fre L a2 0 0 := ⟨by rw [e00]; exact ho, fun z => n3 (List.mem_append_left _ z), fun z => n4 (List.mem_append_left _ z), fun z => n5 (List.mem_append_left _ z), fun g hg => absurd hg (Nat.not_lt_zero g), fun g hg => absurd hg (Nat.not_lt_zero g)⟩
  refine gt_stk [.ref (a2 0 0)] (by rw [e00]; rfl) ?_
  refine lv_astore_n (lv' := [(1, .ref (a2 0 0)), (0, .ref (ad 0 0))]) hx hb dX2_copy_7 rfl hl (by decide) rfl (fun ls hl => ?_)
  have hI1 := hI.mono hB.1 hB.2
  refine lv_aload_n hx hb dX2_copy_8 rfl (lv_at hl 0 rfl) ?_
  refine lv_aload_n hx hb dX2_copy_9 rfl (lv_at hl 1 rfl) ?_
  refine sm_fld hC 0 4 hinX2 hK hw hI1 dX2_copy_10 rfl (by decide) rfl rfl ?_
  refine sm_fst hC 0 4 hinX2 hK hw hJ dX2_copy_13 (by decide) rfl (fun f H locs hw hJ hF1 => ?_)
  replace hB := hB.step hR hF1
  have hI1 := hI.mono hB.1 hB.2
  refine lv_aload_n hx hb dX2_copy_16 rfl (lv_at hl 0 rfl) ?_
  refine lv_aload_n hx hb dX2_copy_17 rfl (lv_at hl 1 rfl) ?_
  refine sm_fld hC 1 5 hinX2 hK hw hI1 dX2_copy_18 rfl (by decide) rfl rfl ?_
  refine sm_fst hC 1 5 hinX2 hK hw hJ dX2_copy_21 (by decide) rfl (fun f H locs hw hJ hF1 => ?_)
  replace hB := hB.step hR hF1
  have hI1 := hI.mono hB.1 hB.2
  refine lv_aload_n hx hb dX2_copy_24 rfl (lv_at hl 0 rfl) ?_
  refine lv_aload_n hx hb dX2_copy_25 rfl (lv_at hl 1 rfl) ?_
  refine sm_fld hC 2 6 hinX2 hK hw hI1 dX2_copy_26 rfl (by decide) rfl rfl ?_
  refine sm_fst hC 2 6 hinX2 hK hw hJ dX2_copy_29 (by decide) rfl (fun f H locs hw hJ hF1 => ?_)
  replace hB := hB.step hR hF1
  have hI1 := hI.mono hB.1 hB.2
  have hJ : SimI cI cR L1 f a2 0 0 0 M Ls := (hJ.congr (M1 := M) (fun i hi => by match i, hi with | 0, _ => rfl | 1, _ => rfl | 2, _ => rfl) (fun g hg => absurd hg (Nat.not_lt_zero g)) (fun g hg => absurd hg (Nat.not_lt_zero g))).lines (fun g hg => absurd hg (Nat.not_lt_zero g))
  refine lv_aload_n hx hb dX2_copy_32 rfl (lv_at hl 1 rfl) ?_
  refine sm_fld hC 3 7 hinX2 hK hw hI1 dX2_copy_33 rfl (by decide) rfl rfl ?_
  refine lv_astore_n (lv' := [(2, .ref (ad 0 1)), (1, .ref (a2 0 0)), (0, .ref (ad 0 0))]) hx hb dX2_copy_36 rfl hl (by decide) rfl (fun ls hl => ?_)
  refine lv_aload_n hx hb dX2_copy_37 rfl (lv_at hl 0 rfl) ?_
  refine sm_gn hC hK hw hI1 dX2_copy_38 ?_
  refine lv_istore_n (lv' := [(3, .int (nI G)), (2, .ref (ad 0 1)), (1, .ref (a2 0 0)), (0, .ref (ad 0 0))]) hx hb dX2_copy_39 rfl hl (by decide) rfl (fun ls hl => ?_)
  refine lv_iconst (v := 0) hx hb dX2_copy_40 (by decide) ?_
  refine lv_istore (lv' := [(4, .int 0), (3, .int (nI G)), (2, .ref (ad 0 1)), (1, .ref (a2 0 0)), (0, .ref (ad 0 0))]) hx hb dX2_copy_41 hl (by decide) rfl (fun ls hl => ?_)
  have hl3 : ∀ g, g < G → ad 3 g ∈ L := fun g hg => (hI.2.2.2.2.2.2.1 g hg).1
  refine px_loop (σ := List Nat × (Nat → va_E) × (Nat → Nat → Nat)) G (fun i => 4 + 2 * i) (fun i => 6 + 6 * i) (fun i z H locs ls => SW D A s.heap [] z.1 z.2.1 H locs ∧ lv_has ls 6 [(4, .int (nI i)), (3, .int (nI G)), (2, .ref (ad 0 1)), (1, .ref (z.2.2 0 0)), (0, .ref (ad 0 0))] ∧ SimI cI cR z.1 z.2.1 z.2.2 i 0 0 M Ls ∧ Frm L f0 z.1 z.2.1 ∧ Fre L z.2.2 i 0) (L1, f, a2) ⟨hw, lv_sub hl [0, 1, 2, 3, 4] rfl, hJ, hB, hR⟩ (by show _ ≤ 4; omega) (by show _ ≤ 6; omega) (fun i hi z H locs ls hX K1 => ?_) (fun z H locs ls hX => ?_)
  · obtain ⟨L1, f, a2⟩ := z
    obtain ⟨hw, hl, hJ, hB, hR⟩ := hX
    dsimp only at hw hl hJ hB hR
    have hI1 := hI.mono hB.1 hB.2
    refine lv_iload hx hb dX2_copy_43 (lv_at hl 0 rfl) ?_
    refine lv_iload_n hx hb dX2_copy_45 rfl (lv_at hl 1 rfl) ?_
    refine gt_ge_f (tgt := 80) hC i G dX2_copy_46 (by decide) rfl rfl hi (by omega) ?_
    refine lv_aload_n hx hb dX2_copy_49 rfl (lv_at hl 2 rfl) ?_
    refine lv_iload hx hb dX2_copy_50 (lv_at hl 0 rfl) ?_
    refine sm_ga hC i hK hw hI1 dX2_copy_52 rfl hi (by omega) ?_
    refine lv_astore (lv' := [(5, .ref (ad 1 i)), (4, .int (nI i)), (3, .int (nI G)), (2, .ref (ad 0 1)), (1, .ref (a2 0 0)), (0, .ref (ad 0 0))]) hx hb dX2_copy_53 hl (by decide) rfl (fun ls hl => ?_)
    refine lv_aload_n hx hb dX2_copy_55 rfl (lv_at hl 4 rfl) ?_
    refine lv_aload_n hx hb dX2_copy_56 rfl (lv_at hl 4 rfl) ?_
    refine sm_fld hC 3 7 hinX2 hK hw hJ dX2_copy_57 rfl (by decide) rfl rfl ?_
    refine lv_aload hx hb dX2_copy_60 (lv_at hl 0 rfl) ?_
    obtain ⟨k1, x, k2, k3, k4⟩ := hI1.2.2.2.2.1 i hi
    refine px_clone hC 8 9 10 11 12 rfl rfl rfl rfl rfl hE hK hw hA k1 k2 hl.1 (Nat.le_of_ble_eq_true rfl) (Nat.le_of_ble_eq_true rfl) ⟨by show 4 + 2 * i + 1 ≤ 40; omega, by show 6 + 6 * i + 2 ≤ 286; omega⟩ dX2_copy_62 (fun q1 H hq1 hw => ?_)
    have m1 : q1 ∈ L1 ++ [q1] := List.mem_append_right _ List.mem_cons_self
    refine px_cast hC 13 rfl hK hw m1 (va_up_self _ _ _) dX2_copy_65 ?_
    have hJ1 := hJ.new (e := .inl (cI, 2, .inl x)) hq1
    refine sm_addG hC 7 gX2_copy_X2_with hinX2 hE hK hw hA hl.1 hJ1 m1 (va_up_self _ _ _) k3 k4 (fun j hj => px_ne (hJ.2.2.2.2.1 j hj).1 hq1) (fun g hg => absurd hg (Nat.not_lt_zero g)) (by omega) dX2_copy_68 dX2_copy_71 rfl ⟨Nat.le_of_ble_eq_true rfl, Nat.le_of_ble_eq_true rfl⟩ ⟨by show 4 + 2 * i + 1 + 1 ≤ 40; omega, by show 6 + 6 * i + 2 + (i + 1) ≤ 286; omega⟩ (Nat.le_of_ble_eq_true rfl) (fun q2 f2 H locs hq2 hw hJ2 hf2 => ?_)
    have q1L : q1 ∉ L := fun z => hq1 (hB.1 q1 z)
    have q2L : q2 ∉ L := fun z => hq2 (List.mem_append_left _ (hB.1 q2 z))
    have hB2 : Frm L f0 (L1 ++ [q1] ++ [q2]) f2 := hB.more (fun a ha => List.mem_append_left _ (List.mem_append_left _ ha)) (fun a ha ha1 => (hf2 a (List.mem_append_left _ ha1) (px_ne ha hR.1)).trans (va_up_ne _ _ (px_ne ha1 hq1)))
    have hR2 : Fre L (adB a2 1 1 i q1 q2) (i + 1) 0 := ⟨hR.1, q2L, hR.2.2.1, hR.2.2.2.1, (fun g hg => by
        show (if (1 : Nat) = 0 ∧ g = 1 then q2 else if (1 : Nat) = 1 ∧ g = i then q1 else a2 1 g) ∉ L
        rw [if_neg (fun z => absurd z.1 (by decide))]
        by_cases e : g = i
        · rw [if_pos ⟨rfl, e⟩]; exact q1L
        · rw [if_neg (fun z => e z.2)]; exact hR.2.2.2.2.1 g (by omega)), fun k hk => absurd hk (Nat.not_lt_zero k)⟩
    refine gt_inc (lv' := [(4, .int (nI (i + 1))), (5, .ref (ad 1 i)), (3, .int (nI G)), (2, .ref (ad 0 1)), (1, .ref (a2 0 0)), (0, .ref (ad 0 0))]) hC 1 i dX2_copy_74 hl rfl rfl (by decide) rfl (fun ls hl => ?_)
    refine lv_goto (tgt := 43) hx hb dX2_copy_77 (by decide) ?_
    exact K1 (L1 ++ [q1] ++ [q2], f2, adB a2 1 1 i q1 q2) H locs ls _ _ ⟨hw, lv_sub hl [0, 2, 3, 4, 5] rfl, hJ2, hB2, hR2⟩ (by show 4 + 2 * i + 1 + 1 ≤ 4 + 2 * (i + 1); omega) (by show 6 + 6 * i + 2 + (i + 1) ≤ 6 + 6 * (i + 1); omega)
  · obtain ⟨L1, f, a2⟩ := z
    obtain ⟨hw, hl, hJ, hB, hR⟩ := hX
    dsimp only at hw hl hJ hB hR
    have hI1 := hI.mono hB.1 hB.2
    refine lv_iload hx hb dX2_copy_43 (lv_at hl 0 rfl) ?_
    refine lv_iload_n hx hb dX2_copy_45 rfl (lv_at hl 1 rfl) ?_
    refine gt_ge_t (tgt := 80) hC G G dX2_copy_46 (by decide) rfl rfl (Nat.le_refl _) (by omega) ?_
    refine lv_aload_n hx hb dX2_copy_80 rfl (lv_at hl 4 rfl) ?_
    refine sm_fld hC 4 14 hinX2 hK hw hI1 dX2_copy_81 rfl (by decide) rfl rfl ?_
    refine lv_astore_n (lv' := [(2, .ref (ad 0 2)), (4, .int (nI G)), (3, .int (nI G)), (1, .ref (a2 0 0)), (0, .ref (ad 0 0))]) hx hb dX2_copy_84 rfl hl (by decide) rfl (fun ls hl => ?_)
    refine lv_aload_n hx hb dX2_copy_85 rfl (lv_at hl 0 rfl) ?_
    refine sm_kn hC hK hw hI1 dX2_copy_86 ?_
    refine lv_istore_n (lv' := [(3, .int (nI N)), (2, .ref (ad 0 2)), (4, .int (nI G)), (1, .ref (a2 0 0)), (0, .ref (ad 0 0))]) hx hb dX2_copy_87 rfl hl (by decide) rfl (fun ls hl => ?_)
    refine lv_iconst (v := 0) hx hb dX2_copy_88 (by decide) ?_
    refine lv_istore (lv' := [(4, .int 0), (3, .int (nI N)), (2, .ref (ad 0 2)), (1, .ref (a2 0 0)), (0, .ref (ad 0 0))]) hx hb dX2_copy_89 hl (by decide) rfl (fun ls hl => ?_)
    refine px_loop (σ := List Nat × (Nat → va_E) × (Nat → Nat → Nat)) N (fun i => (4 + 2 * G) + 2 * i) (fun i => (6 + 6 * G) + 20 * i) (fun i z H locs ls => SW D A s.heap [] z.1 z.2.1 H locs ∧ lv_has ls 6 [(4, .int (nI i)), (3, .int (nI N)), (2, .ref (ad 0 2)), (1, .ref (z.2.2 0 0)), (0, .ref (ad 0 0))] ∧ SimI cI cR z.1 z.2.1 z.2.2 G i 0 M Ls ∧ Frm L f0 z.1 z.2.1 ∧ Fre L z.2.2 G i) (L1, f, a2) ⟨hw, lv_sub hl [0, 1, 2, 3, 4] rfl, hJ, hB, hR⟩ (by show _ ≤ (4 + 2 * G); omega) (by show _ ≤ (6 + 6 * G); omega) (fun i hi z H locs ls hX K1 => ?_) (fun z H locs ls hX => ?_)
    · obtain ⟨L1, f, a2⟩ := z
      obtain ⟨hw, hl, hJ, hB, hR⟩ := hX
      dsimp only at hw hl hJ hB hR
      have hI1 := hI.mono hB.1 hB.2
      refine lv_iload hx hb dX2_copy_91 (lv_at hl 0 rfl) ?_
      refine lv_iload_n hx hb dX2_copy_93 rfl (lv_at hl 1 rfl) ?_
      refine gt_ge_f (tgt := 128) hC i N dX2_copy_94 (by decide) rfl rfl hi (by omega) ?_
      refine lv_aload_n hx hb dX2_copy_97 rfl (lv_at hl 2 rfl) ?_
      refine lv_iload hx hb dX2_copy_98 (lv_at hl 0 rfl) ?_
      refine sm_ka hC i hK hw hI1 dX2_copy_100 rfl hi (by omega) ?_
      refine lv_astore (lv' := [(5, .ref (ad 2 i)), (4, .int (nI i)), (3, .int (nI N)), (2, .ref (ad 0 2)), (1, .ref (a2 0 0)), (0, .ref (ad 0 0))]) hx hb dX2_copy_101 hl (by decide) rfl (fun ls hl => ?_)
      refine lv_aload_n hx hb dX2_copy_103 rfl (lv_at hl 4 rfl) ?_
      refine lv_aload_n hx hb dX2_copy_104 rfl (lv_at hl 4 rfl) ?_
      refine sm_fld hC 4 14 hinX2 hK hw hJ dX2_copy_105 rfl (by decide) rfl rfl ?_
      refine lv_aload hx hb dX2_copy_108 (lv_at hl 0 rfl) ?_
      obtain ⟨k1, x, k2, k3⟩ := hI1.2.2.2.2.2.1 i hi
      refine px_clone hC 8 9 10 11 12 rfl rfl rfl rfl rfl hE hK hw hA k1 k2 hl.1 (Nat.le_of_ble_eq_true rfl) (Nat.le_of_ble_eq_true rfl) ⟨by show (4 + 2 * G) + 2 * i + 1 ≤ 40; omega, by show (6 + 6 * G) + 20 * i + 8 ≤ 286; omega⟩ dX2_copy_110 (fun q1 H hq1 hw => ?_)
      have m1 : q1 ∈ L1 ++ [q1] := List.mem_append_right _ List.mem_cons_self
      refine px_cast hC 13 rfl hK hw m1 (va_up_self _ _ _) dX2_copy_113 ?_
      have hJ1 := hJ.new (e := .inl (cI, 8, .inl x)) hq1
      refine sm_addK hC 14 gX2_copy_X2_with hinX2 hE hK hw hA hl.1 hJ1 m1 (va_up_self _ _ _) k3 (fun j hj => px_ne (hJ.2.2.2.2.2.1 j hj).1 hq1) (fun g hg => absurd hg (Nat.not_lt_zero g)) (by omega) dX2_copy_116 dX2_copy_119 rfl ⟨Nat.le_of_ble_eq_true rfl, Nat.le_of_ble_eq_true rfl⟩ ⟨by show (4 + 2 * G) + 2 * i + 1 + 1 ≤ 40; omega, by show (6 + 6 * G) + 20 * i + 8 + (i + 1) ≤ 286; omega⟩ (Nat.le_of_ble_eq_true rfl) (fun q2 f2 H locs hq2 hw hJ2 hf2 => ?_)
      have q1L : q1 ∉ L := fun z => hq1 (hB.1 q1 z)
      have q2L : q2 ∉ L := fun z => hq2 (List.mem_append_left _ (hB.1 q2 z))
      have hB2 : Frm L f0 (L1 ++ [q1] ++ [q2]) f2 := hB.more (fun a ha => List.mem_append_left _ (List.mem_append_left _ ha)) (fun a ha ha1 => (hf2 a (List.mem_append_left _ ha1) (px_ne ha hR.1)).trans (va_up_ne _ _ (px_ne ha1 hq1)))
      have hR2 : Fre L (adB a2 2 2 i q1 q2) G (i + 1) := ⟨hR.1, hR.2.1, q2L, hR.2.2.2.1, hR.2.2.2.2.1, (fun g hg => by
        show (if (2 : Nat) = 0 ∧ g = 2 then q2 else if (2 : Nat) = 2 ∧ g = i then q1 else a2 2 g) ∉ L
        rw [if_neg (fun z => absurd z.1 (by decide))]
        by_cases e : g = i
        · rw [if_pos ⟨rfl, e⟩]; exact q1L
        · rw [if_neg (fun z => e z.2)]; exact hR.2.2.2.2.2 g (by omega))⟩
      refine gt_inc (lv' := [(4, .int (nI (i + 1))), (5, .ref (ad 2 i)), (3, .int (nI N)), (2, .ref (ad 0 2)), (1, .ref (a2 0 0)), (0, .ref (ad 0 0))]) hC 1 i dX2_copy_122 hl rfl rfl (by decide) rfl (fun ls hl => ?_)
      refine lv_goto (tgt := 91) hx hb dX2_copy_125 (by decide) ?_
      exact K1 (L1 ++ [q1] ++ [q2], f2, adB a2 2 2 i q1 q2) H locs ls _ _ ⟨hw, lv_sub hl [0, 2, 3, 4, 5] rfl, hJ2, hB2, hR2⟩ (by show (4 + 2 * G) + 2 * i + 1 + 1 ≤ (4 + 2 * G) + 2 * (i + 1); omega) (by show (6 + 6 * G) + 20 * i + 8 + (i + 1) ≤ (6 + 6 * G) + 20 * (i + 1); omega)
    · obtain ⟨L1, f, a2⟩ := z
      obtain ⟨hw, hl, hJ, hB, hR⟩ := hX
      dsimp only at hw hl hJ hB hR
      have hI1 := hI.mono hB.1 hB.2
      refine lv_iload hx hb dX2_copy_91 (lv_at hl 0 rfl) ?_
      refine lv_iload_n hx hb dX2_copy_93 rfl (lv_at hl 1 rfl) ?_
      refine gt_ge_t (tgt := 128) hC N N dX2_copy_94 (by decide) rfl rfl (Nat.le_refl _) (by omega) ?_
      refine lv_aload_n hx hb dX2_copy_128 rfl (lv_at hl 4 rfl) ?_
      refine sm_fld hC 5 15 hinX2 hK hw hI1 dX2_copy_129 rfl (by decide) rfl rfl ?_
      refine lv_astore_n (lv' := [(2, .ref (ad 0 3)), (4, .int (nI N)), (3, .int (nI N)), (1, .ref (a2 0 0)), (0, .ref (ad 0 0))]) hx hb dX2_copy_132 rfl hl (by decide) rfl (fun ls hl => ?_)
      refine lv_aload_n hx hb dX2_copy_133 rfl (lv_at hl 0 rfl) ?_
      refine sm_ln hC hK hw hI1 dX2_copy_134 ?_
      refine lv_istore_n (lv' := [(3, .int (nI G)), (2, .ref (ad 0 3)), (4, .int (nI N)), (1, .ref (a2 0 0)), (0, .ref (ad 0 0))]) hx hb dX2_copy_135 rfl hl (by decide) rfl (fun ls hl => ?_)
      refine lv_iconst (v := 0) hx hb dX2_copy_136 (by decide) ?_
      refine lv_istore (lv' := [(4, .int 0), (3, .int (nI G)), (2, .ref (ad 0 3)), (1, .ref (a2 0 0)), (0, .ref (ad 0 0))]) hx hb dX2_copy_137 hl (by decide) rfl (fun ls hl => ?_)
      refine px_loop (σ := List Nat × (Nat → va_E) × (Nat → Nat → Nat)) G (fun i => (4 + 2 * G + 2 * N) + 1 * i) (fun i => (6 + 6 * G + 20 * N) + 4 * i) (fun i z H locs ls => SW D A s.heap [] z.1 z.2.1 H locs ∧ lv_has ls 6 [(4, .int (nI i)), (3, .int (nI G)), (2, .ref (ad 0 3)), (1, .ref (z.2.2 0 0)), (0, .ref (ad 0 0))] ∧ SimI cI cR z.1 z.2.1 z.2.2 G N i M Ls ∧ Frm L f0 z.1 z.2.1 ∧ Fre L z.2.2 G N) (L1, f, a2) ⟨hw, lv_sub hl [0, 1, 2, 3, 4] rfl, hJ, hB, hR⟩ (by show _ ≤ (4 + 2 * G + 2 * N); omega) (by show _ ≤ (6 + 6 * G + 20 * N); omega) (fun i hi z H locs ls hX K1 => ?_) (fun z H locs ls hX => ?_)
      · obtain ⟨L1, f, a2⟩ := z
        obtain ⟨hw, hl, hJ, hB, hR⟩ := hX
        dsimp only at hw hl hJ hB hR
        have hI1 := hI.mono hB.1 hB.2
        refine lv_iload hx hb dX2_copy_139 (lv_at hl 0 rfl) ?_
        refine lv_iload_n hx hb dX2_copy_141 rfl (lv_at hl 1 rfl) ?_
        refine gt_ge_f (tgt := 170) hC i G dX2_copy_142 (by decide) rfl rfl hi (by omega) ?_
        refine lv_aload_n hx hb dX2_copy_145 rfl (lv_at hl 2 rfl) ?_
        refine lv_iload hx hb dX2_copy_146 (lv_at hl 0 rfl) ?_
        refine sm_la hC i hK hw hI1 dX2_copy_148 rfl hi (by omega) ?_
        refine lv_astore (lv' := [(5, .ref (ad 3 i)), (4, .int (nI i)), (3, .int (nI G)), (2, .ref (ad 0 3)), (1, .ref (a2 0 0)), (0, .ref (ad 0 0))]) hx hb dX2_copy_149 hl (by decide) rfl (fun ls hl => ?_)
        refine lv_aload_n hx hb dX2_copy_151 rfl (lv_at hl 4 rfl) ?_
        refine lv_aload_n hx hb dX2_copy_152 rfl (lv_at hl 4 rfl) ?_
        refine sm_fld hC 5 15 hinX2 hK hw hJ dX2_copy_153 rfl (by decide) rfl rfl ?_
        refine lv_aload hx hb dX2_copy_156 (lv_at hl 0 rfl) ?_
        obtain ⟨k1, k2⟩ := hI1.2.2.2.2.2.2.1 i hi
        refine sm_addL hC 15 gX2_copy_X2_with hinX2 hE hK hw hA hl.1 hJ k1 k2 (fun j hj z => hR.2.2.2.2.1 j hj (z ▸ hl3 i hi)) (fun j hj z => hR.2.2.2.2.2 j hj (z ▸ hl3 i hi)) (by omega) dX2_copy_158 dX2_copy_161 rfl ⟨Nat.le_of_ble_eq_true rfl, Nat.le_of_ble_eq_true rfl⟩ ⟨by show (4 + 2 * G + 2 * N) + 1 * i + 1 ≤ 40; omega, by show (6 + 6 * G + 20 * N) + 4 * i + (i + 1) ≤ 286; omega⟩ (Nat.le_of_ble_eq_true rfl) (fun q2 f2 H locs hq2 hw hJ2 hf2 => ?_)
        have q2L : q2 ∉ L := fun z => hq2 (hB.1 q2 z)
        have hB2 : Frm L f0 (L1 ++ [q2]) f2 := hB.more (fun a ha => List.mem_append_left _ ha) (fun a ha ha1 => hf2 a ha1 (px_ne ha hR.1))
        have hR2 : Fre L (adB a2 3 3 i (ad 3 i) q2) G N := ⟨hR.1, hR.2.1, hR.2.2.1, q2L, hR.2.2.2.2.1, hR.2.2.2.2.2⟩
        refine gt_inc (lv' := [(4, .int (nI (i + 1))), (5, .ref (ad 3 i)), (3, .int (nI G)), (2, .ref (ad 0 3)), (1, .ref (a2 0 0)), (0, .ref (ad 0 0))]) hC 1 i dX2_copy_164 hl rfl rfl (by decide) rfl (fun ls hl => ?_)
        refine lv_goto (tgt := 139) hx hb dX2_copy_167 (by decide) ?_
        exact K1 (L1 ++ [q2], f2, adB a2 3 3 i (ad 3 i) q2) H locs ls _ _ ⟨hw, lv_sub hl [0, 2, 3, 4, 5] rfl, hJ2, hB2, hR2⟩ (by show (4 + 2 * G + 2 * N) + 1 * i + 1 ≤ (4 + 2 * G + 2 * N) + 1 * (i + 1); omega) (by show (6 + 6 * G + 20 * N) + 4 * i + (i + 1) ≤ (6 + 6 * G + 20 * N) + 4 * (i + 1); omega)
      · obtain ⟨L1, f, a2⟩ := z
        obtain ⟨hw, hl, hJ, hB, hR⟩ := hX
        dsimp only at hw hl hJ hB hR
        have hI1 := hI.mono hB.1 hB.2
        refine lv_iload hx hb dX2_copy_139 (lv_at hl 0 rfl) ?_
        refine lv_iload_n hx hb dX2_copy_141 rfl (lv_at hl 1 rfl) ?_
        refine gt_ge_t (tgt := 170) hC G G dX2_copy_142 (by decide) rfl rfl (Nat.le_refl _) (by omega) ?_
        refine lv_aload_n hx hb dX2_copy_170 rfl (lv_at hl 3 rfl) ?_
        exact px_aret hC hr (Or.inl ⟨_, rfl⟩) hlk hw ⟨a2, rfl, hJ, hB, hR⟩ dX2_copy_171 (by show 4 + 2 * G + 2 * N + 1 * G ≤ 40; omega) (by show 6 + 6 * G + 20 * N + 4 * G ≤ 286; omega)
