/-! The Sim's longer methods (laid by wip/p34/gen/sim4.py): pass of minutes, the constructor, copy, until, lost. -/
section PXI
variable {p : Program} {l : Launch} {e : Env} {R : Room} {s : State} {m : MethodId} {args : Array Value} {below : List Frame} {meth : Method} {c : Code} {H : Heap} {locs : List Loc} {cells slots : Nat} {Q : State → Prop}
variable {cc : ByteArray} {pc nL : Nat} {Ts : List Cond} {own : String} {ls : Array Slot} {rest st0 : List Value} {D : va_G} {A : Nat → Prop} {cI cR : ClassId} {X : va_W} {L : List Nat} {f : Nat → va_E} {H0 : Heap} {post : pxP} {mc ms : Nat}
/-- a constructor's call -/
theorem px_callI (S : CallFix p m c cc nL s args Ts own) (n i1 i2 i3 : Nat) {fr lo : Nat} {y : MethodName} {wsy : List Cond} {b : Nat} {As : List Value} {index maxL : Nat} {bytes : ByteArray} {ws0 : List Cond}
    (hM : CtX l D cI cR y wsy fr lo mc ms (.ref b :: As) L f post) (hG : GoodIn Ts wsy) (hini : Ts[i1]? = some (Cond.initialized y.cls)) (hl : Ts[i2]? = some (Cond.methodLink own index y)) (hin : Ts[i3]? = some (Cond.instanceMethod y)) (hy1 : y.name = "<init>") (hdg : decode cc pc = .ok (.invokespecial index, 3)) (hE : SE s) (hK : va_K D vwCl (tyS cI cR) s) (hw : SW D A H0 X L f H locs) (hA : ∀ q, H0.size ≤ q → A q) (hlL : ls.size = nL)
    (hwy : wsy = Cond.code y bytes maxL none :: ws0) (hd : y.cls ≠ "java/lang/invoke/MethodHandle" ∧ y.cls ≠ "java/lang/invoke/VarHandle" ∧ (parseMethodDescriptor y.desc).map (fun d => d.parameters.length) = some n) (hR : fr + 1 ≤ R.frames ∧ 8 + (maxL + 11) + lo ≤ R.locals) (hroom : cells + mc ≤ R.cells ∧ slots + ms ≤ R.slots)
    (hn : As.length = n) (hst : st0 = As.reverse ++ .ref b :: rest) (hcat : (rest.map fun v => v.category).sum ≤ 8)
    (kk : ∀ (rv : Option Value) (L1 : List Nat) (f1 : Nat → va_E) (H1 : Heap) (locs1 : List Loc), post rv L1 f1 → SW D A H0 X L1 f1 H1 locs1 → W p l e R s m args below meth c H1 locs1 (cells + mc) (slots + ms) Q (F0 m (pc + 3) ls (rv.toList ++ rest))) : W p l e R s m args below meth c H locs cells slots Q (F0 m pc ls st0) :=
  px_run0 (va_runI (As := As) (rest := rest) S (hM H.size) (cwI n S.2.2.2.2 hG hwy rfl rfl (S.2.2.2.2 _ (List.mem_of_getElem? hini)) (S.2.2.2.2 _ (List.mem_of_getElem? hl)) (S.2.2.2.2 _ (List.mem_of_getElem? hin)) hy1 hd hR) ⟨gPX_blind, px_pre hE hK hw⟩ rfl hn hlL hst (lv_room hcat) hdg hroom) hw hA kk
end PXI
theorem hd_X2_pass_ : yX2_pass_.cls = RX2 ∧ yX2_pass_.cls ≠ "java/lang/invoke/MethodHandle" ∧ yX2_pass_.cls ≠ "java/lang/invoke/VarHandle" ∧ (parseMethodDescriptor yX2_pass_.desc).map (fun d => d.parameters.length) = some 1 := by decide +kernel
set_option maxHeartbeats 4000000 in
set_option maxRecDepth 100000 in
theorem ct_X2_pass_ (l : Launch) (D : va_G) (cI cR : ClassId) (L : List Nat) (f : Nat → va_E) (ad : Nat → Nat → Nat) (G N : Nat) (M : SS) (Ls : Nat → List Nat) (hI : SimI cI cR L f ad G N G M Ls) (hN : N ≤ 12) (hG4 : G ≤ 4) (hLn : Ln G N M Ls) (n : Nat) (hn : n ≤ 60) : CtX l D cI cR yX2_pass_ wsX2_pass_ 4 105 156 1728 [.ref (ad 0 0), .int (nI n)] L f (fun rv L1 f1 => rv = some (.int (mIt M G N n 8 1 - M 8 1)) ∧ ∃ ad1 Ls1, SimI cI cR L1 f1 ad1 G N G (mIt M G N n) Ls1 ∧ Ln G N (mIt M G N n) Ls1 ∧ pxF N L f ad L1 f1 ad1) := by
  refine CtX.ofW (cc := cX2_pass_) (maxL := 4) (ret := (some .int)) (by decide) rfl (Nat.le_of_ble_eq_true rfl) ?_
  intro p e s m below meth c A ls hC hr hlk hE hw hK hA hl
  have hx := hC.1
  have hb := hC.2.1
  have hinX2 : ∀ w ∈ wsX20, w ∈ wsX2_pass_ := fun _ _h => List.mem_cons_of_mem _ (List.mem_append_right _ _h)
  have hl : lv_has ls 4 [(0, .ref (ad 0 0)), (1, .int (nI n))] := hl
  refine lv_iconst (v := 0) hx hb dX2_pass__0 (by decide) ?_
  refine lv_istore_n (lv' := [(2, .int 0), (0, .ref (ad 0 0)), (1, .int (nI n))]) hx hb dX2_pass__1 rfl hl (by decide) rfl (fun ls hl => ?_)
  refine lv_iconst (v := 0) hx hb dX2_pass__2 (by decide) ?_
  refine lv_istore_n (lv' := [(3, .int 0), (2, .int 0), (0, .ref (ad 0 0)), (1, .int (nI n))]) hx hb dX2_pass__3 rfl hl (by decide) rfl (fun ls hl => ?_)
  have hwi := mCt_it_le M G N hN
  have hw12 := mCt_le M N
  have hl9 : lv_has ls 4 [(3, .int (nI 0)), (2, .int (mIt M G N 0 8 1 - M 8 1)), (0, .ref (ad 0 0)), (1, .int (nI n))] := by
    rw [show mIt M G N 0 8 1 - M 8 1 = 0 from Int32.sub_self _]
    exact lv_sub hl [0, 1, 2, 3] rfl
  refine px_loop (σ := pZ) n (fun i => 13 * (mCt M N - mCt (mIt M G N i) N)) (fun i => 144 * (mCt M N - mCt (mIt M G N i) N)) (fun i z H locs ls => PQ D A s.heap cI cR L f ad G N (mIt M G N i) z H locs ∧ lv_has ls 4 [(3, .int (nI i)), (2, .int (mIt M G N i 8 1 - M 8 1)), (0, .ref (ad 0 0)), (1, .int (nI n))]) (L, f, ad, Ls) ⟨⟨hw, hI, hLn, pxF.refl⟩, hl9⟩ (Nat.zero_le _) (Nat.zero_le _) (fun i hi z H locs ls hJ K1 => ?_) (fun z H locs ls hJ => ?_)
  · obtain ⟨L1, f1, a1, l1⟩ := z
    obtain ⟨⟨hw, hI, hLn, hF⟩, hl⟩ := hJ
    dsimp only at hw hI hLn hF
    have h00 := hF.2.2 0 0 (by decide)
    rw [← h00] at hl
    have hmi := mCt_min_le (mIt M G N i) G N hN
    have h1 := hwi i
    have eS : mIt M G N (i + 1) = mMin (mIt M G N i) G N := rfl
    refine lv_iload_n hx hb dX2_pass__4 rfl (lv_at hl 0 rfl) ?_
    refine lv_iload_n hx hb dX2_pass__5 rfl (lv_at hl 3 rfl) ?_
    refine gt_ge_f (tgt := 22) hC i n dX2_pass__6 (by decide) rfl rfl hi (by omega) ?_
    refine lv_iload_n hx hb dX2_pass__9 rfl (lv_at hl 1 rfl) ?_
    refine lv_aload_n hx hb dX2_pass__10 rfl (lv_at hl 2 rfl) ?_
    refine px_callV hC 2 0 (ct_X2_pass l D cI cR _ _ _ G N (mIt M G N i) _ hI hN hG4 hLn) gX2_pass__X2_pass dX2_pass__11 hE hK hw hA hl.1 rfl hd_X2_pass ⟨Nat.le_of_ble_eq_true rfl, Nat.le_of_ble_eq_true rfl⟩ ⟨by show 13 * (mCt M N - mCt (mIt M G N i) N) + 13 * (mCt (mIt M G N i) N - mCt (mMin (mIt M G N i) G N) N) ≤ 156; omega, by show 144 * (mCt M N - mCt (mIt M G N i) N) + 144 * (mCt (mIt M G N i) N - mCt (mMin (mIt M G N i) G N) N) ≤ 1728; omega⟩ hI.1.1 hI.1.2 rfl rfl rfl (Nat.le_of_ble_eq_true rfl) (fun rv L9 f9 H locs hp hw => ?_)
    obtain ⟨rfl, a9, l9, hI9, hLn9, hF9⟩ := hp
    refine gt_stk [.int (mMin (mIt M G N i) G N 8 1 - mIt M G N i 8 1), .int (mIt M G N i 8 1 - M 8 1)] rfl ?_
    refine lv_iadd hx hb dX2_pass__14 ?_
    refine lv_istore_n (lv' := [(2, .int ((mIt M G N i 8 1 - M 8 1) + (mMin (mIt M G N i) G N 8 1 - mIt M G N i 8 1))), (3, .int (nI i)), (0, .ref (a1 0 0)), (1, .int (nI n))]) hx hb dX2_pass__15 rfl hl (by decide) rfl (fun ls hl => ?_)
    refine gt_inc (lv' := [(3, .int (nI (i + 1))), (2, .int ((mIt M G N i 8 1 - M 8 1) + (mMin (mIt M G N i) G N 8 1 - mIt M G N i 8 1))), (0, .ref (a1 0 0)), (1, .int (nI n))]) hC 1 i dX2_pass__16 hl rfl rfl (by decide) rfl (fun ls hl => ?_)
    refine lv_goto (tgt := 4) hx hb dX2_pass__19 (by decide) ?_
    have hl9 : lv_has ls 4 [(3, .int (nI (i + 1))), (2, .int ((mIt M G N i 8 1 - M 8 1) + (mMin (mIt M G N i) G N 8 1 - mIt M G N i 8 1))), (0, .ref (a1 0 0)), (1, .int (nI n))] := lv_sub hl [0, 1, 2, 3] rfl
    rw [i32_tel, h00] at hl9
    exact K1 (L9, f9, a9, l9) H locs ls _ _ ⟨⟨hw, hI9, hLn9, hF.trans hF9⟩, hl9⟩ (by show _ ≤ 13 * (mCt M N - mCt (mIt M G N (i + 1)) N); rw [eS]; omega) (by show _ ≤ 144 * (mCt M N - mCt (mIt M G N (i + 1)) N); rw [eS]; omega)
  · obtain ⟨L1, f1, a1, l1⟩ := z
    obtain ⟨⟨hw, hI, hLn, hF⟩, hl⟩ := hJ
    dsimp only at hw hI hLn hF
    refine lv_iload_n hx hb dX2_pass__4 rfl (lv_at hl 0 rfl) ?_
    refine lv_iload_n hx hb dX2_pass__5 rfl (lv_at hl 3 rfl) ?_
    refine gt_ge_t (tgt := 22) hC n n dX2_pass__6 (by decide) rfl rfl (Nat.le_refl _) (by omega) ?_
    refine lv_iload_n hx hb dX2_pass__22 rfl (lv_at hl 1 rfl) ?_
    exact px_iret hC hr hlk hw ⟨rfl, a1, l1, hI, hLn, hF⟩ dX2_pass__23 (by omega) (by omega)
/-- the addresses of a new Sim -/
def adN (o q1 q2 q3 : Nat) : Nat → Nat → Nat := fun _ b => match b with | 0 => o | 1 => q1 | 2 => q2 | _ => q3
/-- what a new Sim leaves as it is, and where it stands -/
def pxN (o : Nat) (L : List Nat) (f : Nat → va_E) (L1 : List Nat) (f1 : Nat → va_E) (ad1 : Nat → Nat → Nat) : Prop := ad1 0 0 = o ∧ (∀ a ∈ L, a ∈ L1) ∧ (∀ a ∈ L, a ≠ o → f1 a = f a) ∧ ad1 0 1 ∉ L ∧ ad1 0 2 ∉ L ∧ ad1 0 3 ∉ L
theorem hd_X2_init : yX2_init.cls ≠ "java/lang/invoke/MethodHandle" ∧ yX2_init.cls ≠ "java/lang/invoke/VarHandle" ∧ (parseMethodDescriptor yX2_init.desc).map (fun d => d.parameters.length) = some 0 := by decide +kernel
set_option maxHeartbeats 4000000 in
set_option maxRecDepth 100000 in
theorem ct_X2_init (l : Launch) (D : va_G) (cI cR : ClassId) (L : List Nat) (f : Nat → va_E) (o : Nat) (hoL : o ∈ L) (hof : f o = .inr (2, [.int 0, .int 0, .int 0, .null, .null, .null])) : CtX l D cI cR yX2_init wsX2_init 1 12 3 0 [.ref o] L f (fun rv L1 f1 => rv = none ∧ ∃ ad1, SimI cI cR L1 f1 ad1 0 0 0 Z0 (fun _ => []) ∧ pxN o L f L1 f1 ad1) := by
  refine CtX.ofW (cc := cX2_init) (maxL := 1) (ret := none) (by decide) rfl (Nat.le_of_ble_eq_true rfl) ?_
  intro p e s m below meth c A ls hC hr hlk hE hw hK hA hl
  have hx := hC.1
  have hb := hC.2.1
  have hinX2 : ∀ w ∈ wsX20, w ∈ wsX2_init := fun _ _h => List.mem_cons_of_mem _ (List.mem_append_right _ _h)
  have hl : lv_has ls 1 [(0, .ref o)] := hl
  refine lv_aload_n hx hb dX2_init_0 rfl (lv_at hl 0 rfl) ?_
  refine W.objInit hx hb hC.2.2.2.1 (hC.2.2.2.2 _ (List.mem_of_getElem? (i := 1) rfl)) (hC.2.2.2.2 _ (List.mem_of_getElem? (i := 2) rfl)) (hC.2.2.2.2 _ (List.mem_of_getElem? (i := 3) rfl)) rfl (hl.1.trans hC.2.2.1.symm) rfl dX2_init_1 (Nat.le_of_ble_eq_true rfl) (Nat.le_of_ble_eq_true rfl) ?_
  refine W.eq (g2 := F0 m 4 ls []) rfl ?_
  have e0 := hof
  refine lv_aload_n hx hb dX2_init_4 rfl (lv_at hl 0 rfl) ?_
  refine lv_iconst (v := 0) hx hb dX2_init_5 (by decide) ?_
  refine px_newr hC 4 rfl hE hK hw hA 0 rfl (by decide) ⟨by show 0 + 1 ≤ 3; decide, by show 0 + 0 ≤ 0; decide⟩ dX2_init_6 (fun q1 H hq1 hw => ?_)
  have hm1 : o ∈ L ++ [q1] := List.mem_append_left _ hoL
  have e1 := (va_up_ne f (Sum.inl (cR, qr 0 (fun _ => none))) (px_ne hoL hq1)).trans e0
  refine px_put (ty := .array (.array .int)) hC 2 3 5 hinX2 tyX2_ok nmX2 hK hw hm1 e1 dX2_init_9 rfl (by decide) rfl rfl rfl rfl rfl rfl (Nat.le_of_ble_eq_true rfl) (fun H locs hw => ?_)
  have e1 := va_up_self (va_up f q1 (.inl (cR, qr 0 (fun _ => none)))) o (.inr (2, [.int 0, .int 0, .int 0, .ref q1, .null, .null]))
  change SW D A s.heap [] (L ++ [q1]) (va_up (va_up f q1 (.inl (cR, qr 0 (fun _ => none)))) o (.inr (2, [.int 0, .int 0, .int 0, .ref q1, .null, .null]))) H locs at hw
  have k1 : (va_up (va_up f q1 (.inl (cR, qr 0 (fun _ => none)))) o (.inr (2, [.int 0, .int 0, .int 0, .ref q1, .null, .null]))) q1 = .inl (cR, qr 0 (fun _ => none)) := (va_up_ne _ _ (Ne.symm (px_ne hoL hq1))).trans (va_up_self _ _ _)
  have o1 : ∀ a ∈ L, a ≠ o → (va_up (va_up f q1 (.inl (cR, qr 0 (fun _ => none)))) o (.inr (2, [.int 0, .int 0, .int 0, .ref q1, .null, .null]))) a = f a := fun a ha hao => (va_up_ne _ _ hao).trans (va_up_ne _ _ (px_ne ha hq1))
  generalize (va_up (va_up f q1 (.inl (cR, qr 0 (fun _ => none)))) o (.inr (2, [.int 0, .int 0, .int 0, .ref q1, .null, .null]))) = g1 at hw e1 k1 o1
  refine lv_aload_n hx hb dX2_init_12 rfl (lv_at hl 0 rfl) ?_
  refine lv_iconst (v := 0) hx hb dX2_init_13 (by decide) ?_
  refine px_newr hC 4 rfl hE hK hw hA 0 rfl (by decide) ⟨by show 1 + 1 ≤ 3; decide, by show 0 + 0 ≤ 0; decide⟩ dX2_init_14 (fun q2 H hq2 hw => ?_)
  have hm2 : o ∈ (L ++ [q1]) ++ [q2] := List.mem_append_left _ hm1
  have e2 := (va_up_ne g1 (Sum.inl (cR, qr 0 (fun _ => none))) (px_ne hm1 hq2)).trans e1
  refine px_put (ty := .array (.array .int)) hC 2 4 6 hinX2 tyX2_ok nmX2 hK hw hm2 e2 dX2_init_17 rfl (by decide) rfl rfl rfl rfl rfl rfl (Nat.le_of_ble_eq_true rfl) (fun H locs hw => ?_)
  have e2 := va_up_self (va_up g1 q2 (.inl (cR, qr 0 (fun _ => none)))) o (.inr (2, [.int 0, .int 0, .int 0, .ref q1, .ref q2, .null]))
  change SW D A s.heap [] ((L ++ [q1]) ++ [q2]) (va_up (va_up g1 q2 (.inl (cR, qr 0 (fun _ => none)))) o (.inr (2, [.int 0, .int 0, .int 0, .ref q1, .ref q2, .null]))) H locs at hw
  have k2 : (va_up (va_up g1 q2 (.inl (cR, qr 0 (fun _ => none)))) o (.inr (2, [.int 0, .int 0, .int 0, .ref q1, .ref q2, .null]))) q2 = .inl (cR, qr 0 (fun _ => none)) := (va_up_ne _ _ (Ne.symm (px_ne hm1 hq2))).trans (va_up_self _ _ _)
  have o2 : ∀ a ∈ (L ++ [q1]), a ≠ o → (va_up (va_up g1 q2 (.inl (cR, qr 0 (fun _ => none)))) o (.inr (2, [.int 0, .int 0, .int 0, .ref q1, .ref q2, .null]))) a = g1 a := fun a ha hao => (va_up_ne _ _ hao).trans (va_up_ne _ _ (px_ne ha hq2))
  generalize (va_up (va_up g1 q2 (.inl (cR, qr 0 (fun _ => none)))) o (.inr (2, [.int 0, .int 0, .int 0, .ref q1, .ref q2, .null]))) = g2 at hw e2 k2 o2
  refine lv_aload_n hx hb dX2_init_20 rfl (lv_at hl 0 rfl) ?_
  refine lv_iconst (v := 0) hx hb dX2_init_21 (by decide) ?_
  refine px_newr hC 4 rfl hE hK hw hA 0 rfl (by decide) ⟨by show 2 + 1 ≤ 3; decide, by show 0 + 0 ≤ 0; decide⟩ dX2_init_22 (fun q3 H hq3 hw => ?_)
  have hm3 : o ∈ ((L ++ [q1]) ++ [q2]) ++ [q3] := List.mem_append_left _ hm2
  have e3 := (va_up_ne g2 (Sum.inl (cR, qr 0 (fun _ => none))) (px_ne hm2 hq3)).trans e2
  refine px_put (ty := .array (.array .int)) hC 2 5 7 hinX2 tyX2_ok nmX2 hK hw hm3 e3 dX2_init_25 rfl (by decide) rfl rfl rfl rfl rfl rfl (Nat.le_of_ble_eq_true rfl) (fun H locs hw => ?_)
  have e3 := va_up_self (va_up g2 q3 (.inl (cR, qr 0 (fun _ => none)))) o (.inr (2, [.int 0, .int 0, .int 0, .ref q1, .ref q2, .ref q3]))
  change SW D A s.heap [] (((L ++ [q1]) ++ [q2]) ++ [q3]) (va_up (va_up g2 q3 (.inl (cR, qr 0 (fun _ => none)))) o (.inr (2, [.int 0, .int 0, .int 0, .ref q1, .ref q2, .ref q3]))) H locs at hw
  have k3 : (va_up (va_up g2 q3 (.inl (cR, qr 0 (fun _ => none)))) o (.inr (2, [.int 0, .int 0, .int 0, .ref q1, .ref q2, .ref q3]))) q3 = .inl (cR, qr 0 (fun _ => none)) := (va_up_ne _ _ (Ne.symm (px_ne hm2 hq3))).trans (va_up_self _ _ _)
  have o3 : ∀ a ∈ ((L ++ [q1]) ++ [q2]), a ≠ o → (va_up (va_up g2 q3 (.inl (cR, qr 0 (fun _ => none)))) o (.inr (2, [.int 0, .int 0, .int 0, .ref q1, .ref q2, .ref q3]))) a = g2 a := fun a ha hao => (va_up_ne _ _ hao).trans (va_up_ne _ _ (px_ne ha hq3))
  generalize (va_up (va_up g2 q3 (.inl (cR, qr 0 (fun _ => none)))) o (.inr (2, [.int 0, .int 0, .int 0, .ref q1, .ref q2, .ref q3]))) = g3 at hw e3 k3 o3
  have n1 : q1 ≠ o := Ne.symm (px_ne hoL hq1)
  have n2 : q2 ≠ o := Ne.symm (px_ne hm1 hq2)
  have i1 : q1 ∈ L ++ [q1] := List.mem_append_right _ List.mem_cons_self
  have i2 : q2 ∈ L ++ [q1] ++ [q2] := List.mem_append_right _ List.mem_cons_self
  have i3 : q3 ∈ L ++ [q1] ++ [q2] ++ [q3] := List.mem_append_right _ List.mem_cons_self
  have i12 : q1 ∈ L ++ [q1] ++ [q2] := List.mem_append_left _ i1
  have k13 : g3 q1 = .inl (cR, qr 0 (fun _ => none)) := (o3 q1 i12 n1).trans ((o2 q1 i1 n1).trans k1)
  have k23 : g3 q2 = .inl (cR, qr 0 (fun _ => none)) := (o3 q2 i2 n2).trans k2
  have d13 : q1 ≠ q3 := px_ne i12 hq3
  have d23 : q2 ≠ q3 := px_ne i2 hq3
  refine px_vret hC hr hlk hw ⟨rfl, adN o q1 q2 q3, ⟨⟨hm3, e3⟩, ⟨List.mem_append_left _ i12, _, k13, fun g hg => absurd hg (Nat.not_lt_zero g)⟩, ⟨List.mem_append_left _ i2, _, k23, fun g hg => absurd hg (Nat.not_lt_zero g)⟩, ⟨i3, _, k3, fun g hg => absurd hg (Nat.not_lt_zero g)⟩, fun g hg => absurd hg (Nat.not_lt_zero g), fun g hg => absurd hg (Nat.not_lt_zero g), fun g hg => absurd hg (Nat.not_lt_zero g), ⟨d13, d23⟩, fun g _ hg => absurd hg (Nat.not_lt_zero g), fun g _ hg => absurd hg (Nat.not_lt_zero g), fun g _ hg => absurd hg (Nat.not_lt_zero g), fun g _ hg => absurd hg (Nat.not_lt_zero g)⟩, rfl, fun a ha => List.mem_append_left _ (List.mem_append_left _ (List.mem_append_left _ ha)), fun a ha hao => (o3 a (List.mem_append_left _ (List.mem_append_left _ ha)) hao).trans ((o2 a (List.mem_append_left _ ha) hao).trans (o1 a ha hao)), hq1, fun z => hq2 (List.mem_append_left _ z), fun z => hq3 (List.mem_append_left _ (List.mem_append_left _ z))⟩ dX2_init_28 (Nat.le_refl _) (Nat.le_refl _)
