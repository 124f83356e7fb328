/-! The Sim's own helpers over rows: with, with_, without (laid by wip/p34/gen/sim1.py). -/
theorem px_ne {L : List Nat} {a q : Nat} (h : a ∈ L) (hq : q ∉ L) : a ≠ q := fun z => hq (z ▸ h)
theorem va_up_up {α : Type} (f : Nat → α) (k : Nat) (v w : α) : va_up (va_up f k v) k w = va_up f k w := by
  funext j
  unfold va_up
  split <;> rfl

theorem hd_X2_with : yX2_with.cls ≠ "java/lang/invoke/MethodHandle" ∧ yX2_with.cls ≠ "java/lang/invoke/VarHandle" ∧ (parseMethodDescriptor yX2_with.desc).map (fun d => d.parameters.length) = some 2 := by decide +kernel
set_option maxHeartbeats 4000000 in
set_option maxRecDepth 100000 in
theorem ct_X2_with (l : Launch) (D : va_G) (cI cR : ClassId) (L : List Nat) (f : Nat → va_E) (a b n : Nat) (r : Nat → Option Nat) (y : vp_A) (haL : a ∈ L) (haf : f a = .inl (cR, qr n r)) (hrr : ∀ j, j < n → ∃ c z, r j = some c ∧ c ∈ L ∧ f c = .inl (cI, z)) (hbL : b ∈ L) (hbf : f b = .inl (cI, y)) (hn : n < 1000) : CtX l D cI cR yX2_with wsX2_with 0 0 1 (n + 1) [.ref a, .ref b] L f (fun rv L1 f1 => ∃ q r1, rv = some (.ref q) ∧ q ∉ L ∧ L1 = L ++ [q] ∧ f1 = va_up f q (.inl (cR, qr (n + 1) r1)) ∧ (∀ j, j < n → r1 j = r j) ∧ r1 n = some b) := by
  refine CtX.ofW (cc := cX2_with) (maxL := 4) (ret := (some (.array (.array .int)))) (by decide) rfl (Nat.le_of_ble_eq_true rfl) ?_
  intro p e s m below meth c A ls hC hr hlk hE hw hK hA hl
  have hx := hC.1
  have hb := hC.2.1
  have hl : lv_has ls 4 [(0, .ref a), (1, .ref b)] := hl
  refine lv_aload_n hx hb dX2_with_0 rfl (lv_at hl 0 rfl) ?_
  refine px_len (v := nI n) hC 1 hK hw haL haf rfl rfl dX2_with_1 ?_
  refine lv_iconst (v := 1) hx hb dX2_with_2 (by decide) ?_
  refine lv_iadd hx hb dX2_with_3 ?_
  refine px_newr hC 1 rfl hE hK hw hA (n + 1) (nI_1 n) (by omega) ⟨Nat.le_refl _, by show 0 + (n + 1) ≤ n + 1; omega⟩ dX2_with_4 (fun q H hq hw => ?_)
  refine lv_astore_n (lv' := [(2, .ref q), (0, .ref a), (1, .ref b)]) hx hb dX2_with_7 rfl hl (by decide) rfl (fun ls hl => ?_)
  refine lv_iconst (v := 0) hx hb dX2_with_8 (by decide) ?_
  refine lv_istore_n (lv' := [(3, .int 0), (2, .ref q), (0, .ref a), (1, .ref b)]) hx hb dX2_with_9 rfl hl (by decide) rfl (fun ls hl => ?_)
  have haq : a ≠ q := fun z => hq (z ▸ haL)
  have haf2 : ∀ r1, va_up f q (.inl (cR, qr (n + 1) r1)) a = .inl (cR, qr n r) := fun _ => (va_up_ne _ _ haq).trans haf
  have haL2 : a ∈ L ++ [q] := List.mem_append_left _ haL
  have hqL : q ∈ L ++ [q] := List.mem_append_right _ List.mem_cons_self
  refine px_loop (σ := Nat → Option Nat) n (fun _ => 1) (fun _ => n + 1) (fun i r1 H locs ls => SW D A s.heap [] (L ++ [q]) (va_up f q (.inl (cR, qr (n + 1) r1))) H locs ∧ lv_has ls 4 [(3, .int (nI i)), (2, .ref q), (0, .ref a), (1, .ref b)] ∧ ∀ j, j < i → r1 j = r j) (fun _ => none) ⟨hw, lv_sub hl [0, 1, 2, 3] rfl, fun j hj => absurd hj (Nat.not_lt_zero j)⟩ (Nat.le_refl _) (by show 0 + (n + 1) ≤ n + 1; omega) (fun i hi r1 H locs ls hI K1 => ?_) (fun r1 H locs ls hI => ?_)
  · obtain ⟨hw, hl, hj1⟩ := hI
    refine lv_iload_n hx hb dX2_with_10 rfl (lv_at hl 0 rfl) ?_
    refine lv_aload_n hx hb dX2_with_11 rfl (lv_at hl 2 rfl) ?_
    refine px_len (v := nI n) hC 1 hK hw haL2 (haf2 r1) rfl rfl dX2_with_12 ?_
    refine gt_ge_f (tgt := 28) hC i n dX2_with_13 (by decide) rfl rfl hi (by omega) ?_
    obtain ⟨c0, z0, hc1, hc2, hc3⟩ := hrr i hi
    refine lv_aload_n hx hb dX2_with_16 rfl (lv_at hl 1 rfl) ?_
    refine lv_iload_n hx hb dX2_with_17 rfl (lv_at hl 0 rfl) ?_
    refine lv_aload_n hx hb dX2_with_18 rfl (lv_at hl 2 rfl) ?_
    refine lv_iload_n hx hb dX2_with_19 rfl (lv_at hl 0 rfl) ?_
    refine px_ald hC i hK hw haL2 (haf2 r1) dX2_with_20 rfl hi (by omega) hc1 ?_
    refine px_ast hC i hE hK hw hqL (va_up_self _ _ _) (List.mem_append_left _ hc2) ((va_up_ne _ _ (px_ne hc2 hq)).trans hc3) dX2_with_21 rfl (by omega) (by omega) (fun H locs hw => ?_)
    rw [va_up_up] at hw
    refine gt_inc (lv' := [(3, .int (nI (i + 1))), (2, .ref q), (0, .ref a), (1, .ref b)]) hC 0 i dX2_with_22 hl rfl rfl (by decide) rfl (fun ls hl => ?_)
    refine lv_goto (tgt := 10) hx hb dX2_with_25 (by decide) ?_
    refine K1 (va_up r1 i (some c0)) H locs ls _ _ ⟨hw, lv_sub hl [0, 1, 2, 3] rfl, fun j hj => ?_⟩ (Nat.le_refl _) (Nat.le_refl _)
    by_cases hji : j = i
    · subst hji; rw [va_up_self]; exact hc1.symm
    · rw [va_up_ne _ _ hji]; exact hj1 j (by omega)
  · obtain ⟨hw, hl, hj1⟩ := hI
    refine lv_iload_n hx hb dX2_with_10 rfl (lv_at hl 0 rfl) ?_
    refine lv_aload_n hx hb dX2_with_11 rfl (lv_at hl 2 rfl) ?_
    refine px_len (v := nI n) hC 1 hK hw haL2 (haf2 r1) rfl rfl dX2_with_12 ?_
    refine gt_ge_t (tgt := 28) hC n n dX2_with_13 (by decide) rfl rfl (Nat.le_refl _) (by omega) ?_
    refine lv_aload_n hx hb dX2_with_28 rfl (lv_at hl 1 rfl) ?_
    refine lv_aload_n hx hb dX2_with_29 rfl (lv_at hl 2 rfl) ?_
    refine px_len (v := nI n) hC 1 hK hw haL2 (haf2 r1) rfl rfl dX2_with_30 ?_
    refine lv_aload_n hx hb dX2_with_31 rfl (lv_at hl 3 rfl) ?_
    refine px_ast hC n hE hK hw hqL (va_up_self _ _ _) (List.mem_append_left _ hbL) ((va_up_ne _ _ (px_ne hbL hq)).trans hbf) dX2_with_32 rfl (by omega) (by omega) (fun H locs hw => ?_)
    rw [va_up_up] at hw
    refine lv_aload_n hx hb dX2_with_33 rfl (lv_at hl 1 rfl) ?_
    exact px_aret hC hr (Or.inr ⟨_, rfl⟩) hlk hw ⟨q, va_up r1 n (some b), rfl, hq, rfl, rfl, fun j hj => (va_up_ne _ _ (by omega)).trans (hj1 j hj), va_up_self _ _ _⟩ dX2_with_34 (Nat.le_refl _) (Nat.le_refl _)
theorem hd_X2_with_ : yX2_with_.cls ≠ "java/lang/invoke/MethodHandle" ∧ yX2_with_.cls ≠ "java/lang/invoke/VarHandle" ∧ (parseMethodDescriptor yX2_with_.desc).map (fun d => d.parameters.length) = some 2 := by decide +kernel
set_option maxHeartbeats 4000000 in
set_option maxRecDepth 100000 in
theorem ct_X2_with_ (l : Launch) (D : va_G) (cI cR : ClassId) (L : List Nat) (f : Nat → va_E) (a k : Nat) (l0 : List Nat) (haL : a ∈ L) (hra : rowIs cI (f a) l0) (hn : l0.length < 1000) : CtX l D cI cR yX2_with_ wsX2_with_ 0 0 1 (l0.length + 1) [.ref a, .int (nI k)] L f (fun rv L1 f1 => ∃ q e, rv = some (.ref q) ∧ q ∉ L ∧ L1 = L ++ [q] ∧ f1 = va_up f q e ∧ rowIs cI e (l0 ++ [k])) := by
  refine CtX.ofW (cc := cX2_with_) (maxL := 4) (ret := (some (.array .int))) (by decide) rfl (Nat.le_of_ble_eq_true rfl) ?_
  intro p e s m below meth c A ls hC hr hlk hE hw hK hA hl
  have hx := hC.1
  have hb := hC.2.1
  have hl : lv_has ls 4 [(0, .ref a), (1, .int (nI k))] := hl
  obtain ⟨x, haf, hax⟩ := hra
  refine lv_aload_n hx hb dX2_with__0 rfl (lv_at hl 0 rfl) ?_
  refine px_len (v := nI l0.length) hC 0 hK hw haL haf rfl rfl dX2_with__1 ?_
  refine lv_iconst (v := 1) hx hb dX2_with__2 (by decide) ?_
  refine lv_iadd hx hb dX2_with__3 ?_
  refine px_newi hC 1 rfl hK hw hA (l0.length + 1) (nI_1 _) (by omega) ⟨Nat.le_refl _, by show 0 + (l0.length + 1) ≤ l0.length + 1; omega⟩ dX2_with__4 (fun q H hq hw => ?_)
  refine lv_astore_n (lv' := [(2, .ref q), (0, .ref a), (1, .int (nI k))]) hx hb dX2_with__6 rfl hl (by decide) rfl (fun ls hl => ?_)
  refine lv_iconst (v := 0) hx hb dX2_with__7 (by decide) ?_
  refine lv_istore_n (lv' := [(3, .int 0), (2, .ref q), (0, .ref a), (1, .int (nI k))]) hx hb dX2_with__8 rfl hl (by decide) rfl (fun ls hl => ?_)
  have haq : a ≠ q := fun z => hq (z ▸ haL)
  have haf2 : ∀ r1, va_up f q (.inl (cI, l0.length + 1, .inl r1)) a = .inl (cI, l0.length, .inl x) := fun _ => (va_up_ne _ _ haq).trans haf
  have haL2 : a ∈ L ++ [q] := List.mem_append_left _ haL
  have hqL : q ∈ L ++ [q] := List.mem_append_right _ List.mem_cons_self
  refine px_loop (σ := Nat → Int32) l0.length (fun _ => 1) (fun _ => l0.length + 1) (fun i r1 H locs ls => SW D A s.heap [] (L ++ [q]) (va_up f q (.inl (cI, l0.length + 1, .inl r1))) H locs ∧ lv_has ls 4 [(3, .int (nI i)), (2, .ref q), (0, .ref a), (1, .int (nI k))] ∧ ∀ j, j < i → r1 j = x j) (fun _ => 0) ⟨hw, lv_sub hl [0, 1, 2, 3] rfl, fun j hj => absurd hj (Nat.not_lt_zero j)⟩ (Nat.le_refl _) (by show 0 + (l0.length + 1) ≤ l0.length + 1; omega) (fun i hi r1 H locs ls hI K1 => ?_) (fun r1 H locs ls hI => ?_)
  · obtain ⟨hw, hl, hj1⟩ := hI
    refine lv_iload_n hx hb dX2_with__9 rfl (lv_at hl 0 rfl) ?_
    refine lv_aload_n hx hb dX2_with__10 rfl (lv_at hl 2 rfl) ?_
    refine px_len (v := nI l0.length) hC 0 hK hw haL2 (haf2 r1) rfl rfl dX2_with__11 ?_
    refine gt_ge_f (tgt := 27) hC i l0.length dX2_with__12 (by decide) rfl rfl hi (by omega) ?_
    refine lv_aload_n hx hb dX2_with__15 rfl (lv_at hl 1 rfl) ?_
    refine lv_iload_n hx hb dX2_with__16 rfl (lv_at hl 0 rfl) ?_
    refine lv_aload_n hx hb dX2_with__17 rfl (lv_at hl 2 rfl) ?_
    refine lv_iload_n hx hb dX2_with__18 rfl (lv_at hl 0 rfl) ?_
    refine px_ild hC i hK hw haL2 (haf2 r1) dX2_with__19 rfl hi (by omega) rfl ?_
    refine px_ist hC i hK hw hqL (va_up_self _ _ _) dX2_with__20 rfl (by omega) (by omega) (fun H locs hw => ?_)
    rw [va_up_up] at hw
    refine gt_inc (lv' := [(3, .int (nI (i + 1))), (2, .ref q), (0, .ref a), (1, .int (nI k))]) hC 0 i dX2_with__21 hl rfl rfl (by decide) rfl (fun ls hl => ?_)
    refine lv_goto (tgt := 9) hx hb dX2_with__24 (by decide) ?_
    refine K1 (upd r1 i (x i)) H locs ls _ _ ⟨hw, lv_sub hl [0, 1, 2, 3] rfl, fun j hj => ?_⟩ (Nat.le_refl _) (Nat.le_refl _)
    by_cases hji : j = i
    · subst hji; simp [upd]
    · simp only [upd, if_neg hji]; exact hj1 j (by omega)
  · obtain ⟨hw, hl, hj1⟩ := hI
    refine lv_iload_n hx hb dX2_with__9 rfl (lv_at hl 0 rfl) ?_
    refine lv_aload_n hx hb dX2_with__10 rfl (lv_at hl 2 rfl) ?_
    refine px_len (v := nI l0.length) hC 0 hK hw haL2 (haf2 r1) rfl rfl dX2_with__11 ?_
    refine gt_ge_t (tgt := 27) hC l0.length l0.length dX2_with__12 (by decide) rfl rfl (Nat.le_refl _) (by omega) ?_
    refine lv_aload_n hx hb dX2_with__27 rfl (lv_at hl 1 rfl) ?_
    refine lv_aload_n hx hb dX2_with__28 rfl (lv_at hl 2 rfl) ?_
    refine px_len (v := nI l0.length) hC 0 hK hw haL2 (haf2 r1) rfl rfl dX2_with__29 ?_
    refine lv_iload_n hx hb dX2_with__30 rfl (lv_at hl 3 rfl) ?_
    refine px_ist hC l0.length hK hw hqL (va_up_self _ _ _) dX2_with__31 rfl (by omega) (by omega) (fun H locs hw => ?_)
    rw [va_up_up] at hw
    refine lv_aload_n hx hb dX2_with__32 rfl (lv_at hl 1 rfl) ?_
    refine px_aret hC hr (Or.inr ⟨_, rfl⟩) hlk hw ⟨q, _, rfl, hq, rfl, rfl, ⟨upd r1 l0.length (nI k), by rw [List.length_append]; rfl, fun j c hj => ?_⟩⟩ dX2_with__33 (Nat.le_refl _) (Nat.le_refl _)
    by_cases hjl : j < l0.length
    · rw [List.getElem?_append_left hjl] at hj
      simp only [upd, if_neg (show ¬ j = l0.length by omega)]
      rw [hj1 j hjl]; exact hax j c hj
    · rw [List.getElem?_append_right (by omega)] at hj
      have hz : j - l0.length < 1 := (List.getElem?_eq_some_iff.mp hj).1
      have hj2 : j = l0.length := by omega
      subst hj2
      rw [Nat.sub_self] at hj
      cases hj
      simp [upd]
/-- who stays in a line without one -/
def wo (l : List Nat) (k : Nat) : List Nat := l.filter (fun c => decide (c ≠ k))
theorem wo_snoc (l : List Nat) (k c : Nat) : wo (l ++ [c]) k = if c = k then wo l k else wo l k ++ [c] := by
  unfold wo
  rw [List.filter_append]
  by_cases h : c = k
  · rw [if_pos h]; simp [h]
  · rw [if_neg h]; simp [h]
theorem wo_le (l : List Nat) (k : Nat) : (wo l k).length ≤ l.length := List.length_filter_le _ _
theorem take_snoc {l : List Nat} {i c : Nat} (h : l[i]? = some c) : l.take (i + 1) = l.take i ++ [c] := by
  rw [List.take_add_one, h]; rfl
theorem nI_inj12 {a b : Nat} (ha : a < 12) (hb : b < 12) (h : nI a = nI b) : a = b := by
  have h1 := nI_clamp (n := a) (by omega)
  have h2 := nI_clamp (n := b) (by omega)
  rw [h] at h1
  omega
theorem hd_X2_without : yX2_without.cls ≠ "java/lang/invoke/MethodHandle" ∧ yX2_without.cls ≠ "java/lang/invoke/VarHandle" ∧ (parseMethodDescriptor yX2_without.desc).map (fun d => d.parameters.length) = some 2 := by decide +kernel
set_option maxHeartbeats 4000000 in
set_option maxRecDepth 100000 in
theorem ct_X2_without (l : Launch) (D : va_G) (cI cR : ClassId) (L : List Nat) (f : Nat → va_E) (a k : Nat) (l0 : List Nat) (haL : a ∈ L) (hra : rowIs cI (f a) l0) (hn : l0.length ≤ 12) (hlt : ∀ c ∈ l0, c < 12) (hk : k < 12) : CtX l D cI cR yX2_without wsX2_without 1 23 13 144 [.ref a, .int (nI k)] L f (fun rv L1 f1 => ∃ q, rv = some (.ref q) ∧ q ∉ L ∧ q ∈ L1 ∧ (∀ c ∈ L, c ∈ L1) ∧ (∀ c ∈ L, f1 c = f c) ∧ rowIs cI (f1 q) (wo l0 k)) := by
  refine CtX.ofW (cc := cX2_without) (maxL := 7) (ret := (some (.array .int))) (by decide) rfl (Nat.le_of_ble_eq_true rfl) ?_
  intro p e s m below meth c A ls hC hr hlk hE hw hK hA hl
  have hx := hC.1
  have hb := hC.2.1
  have hl : lv_has ls 7 [(0, .ref a), (1, .int (nI k))] := hl
  obtain ⟨x, haf, hax⟩ := hra
  refine lv_iconst (v := 0) hx hb dX2_without_0 (by decide) ?_
  refine px_newi hC 1 rfl hK hw hA 0 rfl (by decide) ⟨by show 0 + 1 ≤ 13; decide, by show 0 + 0 ≤ 144; decide⟩ dX2_without_1 (fun q H hq hw => ?_)
  refine lv_astore_n (lv' := [(2, .ref q), (0, .ref a), (1, .int (nI k))]) hx hb dX2_without_3 rfl hl (by decide) rfl (fun ls hl => ?_)
  refine lv_aload_n hx hb dX2_without_4 rfl (lv_at hl 1 rfl) ?_
  refine lv_astore_n (lv' := [(3, .ref a), (2, .ref q), (0, .ref a), (1, .int (nI k))]) hx hb dX2_without_5 rfl hl (by decide) rfl (fun ls hl => ?_)
  refine lv_aload_n hx hb dX2_without_6 rfl (lv_at hl 0 rfl) ?_
  refine px_len (v := nI l0.length) hC 0 hK hw (List.mem_append_left _ haL) ((va_up_ne _ _ (px_ne haL hq)).trans haf) rfl rfl dX2_without_7 ?_
  refine lv_istore (lv' := [(4, .int (nI l0.length)), (3, .ref a), (2, .ref q), (0, .ref a), (1, .int (nI k))]) hx hb dX2_without_8 hl (by decide) rfl (fun ls hl => ?_)
  refine lv_iconst (v := 0) hx hb dX2_without_10 (by decide) ?_
  refine lv_istore (lv' := [(5, .int 0), (4, .int (nI l0.length)), (3, .ref a), (2, .ref q), (0, .ref a), (1, .int (nI k))]) hx hb dX2_without_11 hl (by decide) rfl (fun ls hl => ?_)
  refine px_loop (σ := Nat × List Nat × (Nat → va_E)) l0.length (fun i => 1 + i) (fun i => 12 * i) (fun i z H locs ls => SW D A s.heap [] z.2.1 z.2.2 H locs ∧ lv_has ls 7 [(5, .int (nI i)), (4, .int (nI l0.length)), (3, .ref a), (2, .ref z.1), (0, .ref a), (1, .int (nI k))] ∧ z.1 ∉ L ∧ z.1 ∈ z.2.1 ∧ (∀ c ∈ L, c ∈ z.2.1) ∧ (∀ c ∈ L, z.2.2 c = f c) ∧ rowIs cI (z.2.2 z.1) (wo (l0.take i) k)) (q, L ++ [q], va_up f q (.inl (cI, 0, .inl (fun _ => 0)))) ⟨hw, lv_sub hl [0, 1, 2, 3, 4, 5] rfl, hq, List.mem_append_right _ List.mem_cons_self, fun c hc => List.mem_append_left _ hc, fun c hc => va_up_ne _ _ (px_ne hc hq), ⟨fun _ => 0, va_up_self _ _ _, fun j c h => by cases h⟩⟩ (Nat.le_refl _) (Nat.le_refl _) (fun i hi z H locs ls hI K1 => ?_) (fun z H locs ls hI => ?_)
  · obtain ⟨q, L1, f1⟩ := z
    obtain ⟨hw, hl, hq, hqL, hLL, hff, hrow⟩ := hI
    dsimp only at hw hl hq hqL hLL hff hrow
    refine lv_iload hx hb dX2_without_13 (lv_at hl 0 rfl) ?_
    refine lv_iload hx hb dX2_without_15 (lv_at hl 1 rfl) ?_
    refine gt_ge_f (tgt := 45) hC i l0.length dX2_without_17 (by decide) rfl rfl hi (by omega) ?_
    obtain ⟨c0, hc0⟩ : ∃ c0, l0[i]? = some c0 := ⟨_, List.getElem?_eq_getElem hi⟩
    have hc1 : c0 < 12 := hlt c0 (List.mem_of_getElem? hc0)
    refine lv_aload_n hx hb dX2_without_20 rfl (lv_at hl 2 rfl) ?_
    refine lv_iload hx hb dX2_without_21 (lv_at hl 0 rfl) ?_
    refine px_ild hC i hK hw (hLL a haL) ((hff a haL).trans haf) dX2_without_23 rfl hi (by omega) (hax i c0 hc0) ?_
    refine lv_istore (lv' := [(6, .int (nI c0)), (5, .int (nI i)), (4, .int (nI l0.length)), (3, .ref a), (2, .ref q), (0, .ref a), (1, .int (nI k))]) hx hb dX2_without_24 hl (by decide) rfl (fun ls hl => ?_)
    refine lv_iload hx hb dX2_without_26 (lv_at hl 0 rfl) ?_
    refine lv_iload_n hx hb dX2_without_28 rfl (lv_at hl 6 rfl) ?_
    refine lv_icmp_eq (tgt := 39) hx hb dX2_without_29 (by decide) (fun h29 : (nI c0) = (nI k) => ?_) (fun h29 : ¬ ((nI c0) = (nI k)) => ?_)
    · have hck : c0 = k := nI_inj12 hc1 hk h29
      refine gt_inc (lv' := [(5, .int (nI (i + 1))), (6, .int (nI c0)), (4, .int (nI l0.length)), (3, .ref a), (2, .ref q), (0, .ref a), (1, .int (nI k))]) hC 1 i dX2_without_39 hl rfl rfl (by decide) rfl (fun ls hl => ?_)
      refine lv_goto (tgt := 13) hx hb dX2_without_42 (by decide) ?_
      refine K1 (q, L1, f1) H locs ls _ _ ⟨hw, lv_sub hl [0, 2, 3, 4, 5, 6] rfl, hq, hqL, hLL, hff, ?_⟩ (by show 1 + i ≤ 1 + (i + 1); omega) (by show 12 * i ≤ 12 * (i + 1); omega)
      rw [take_snoc hc0, wo_snoc, if_pos hck]; exact hrow
    · have hck : ¬ c0 = k := fun z => h29 (by rw [z])
      refine lv_aload_n hx hb dX2_without_32 rfl (lv_at hl 4 rfl) ?_
      refine lv_iload hx hb dX2_without_33 (lv_at hl 0 rfl) ?_
      have hlen : (wo (l0.take i) k).length ≤ i := Nat.le_trans (wo_le _ _) (by rw [List.length_take]; omega)
      refine px_callS hC 2 (ct_X2_with_ l D cI cR L1 f1 q c0 (wo (l0.take i) k) hqL hrow (by omega)) gX2_without_X2_with_ dX2_without_35 hE hK hw hA hl.1 rfl hd_X2_with_ ⟨Nat.le_of_ble_eq_true rfl, Nat.le_of_ble_eq_true rfl⟩ ⟨by show 1 + i + 1 ≤ 13; omega, by show 12 * i + ((wo (l0.take i) k).length + 1) ≤ 144; omega⟩ rfl rfl (Nat.le_of_ble_eq_true rfl) (fun rv L2 f2 H locs hp hw => ?_)
      obtain ⟨q2, e2, rfl, hq2, rfl, rfl, hrow2⟩ := hp
      have hq2n : q2 ∉ L := fun z => hq2 (hLL q2 z)
      refine gt_stk [.ref q2] rfl ?_
      refine lv_astore_n (lv' := [(2, .ref q2), (6, .int (nI c0)), (5, .int (nI i)), (4, .int (nI l0.length)), (3, .ref a), (0, .ref a), (1, .int (nI k))]) hx hb dX2_without_38 rfl hl (by decide) rfl (fun ls hl => ?_)
      refine gt_inc (lv' := [(5, .int (nI (i + 1))), (2, .ref q2), (6, .int (nI c0)), (4, .int (nI l0.length)), (3, .ref a), (0, .ref a), (1, .int (nI k))]) hC 2 i dX2_without_39 hl rfl rfl (by decide) rfl (fun ls hl => ?_)
      refine lv_goto (tgt := 13) hx hb dX2_without_42 (by decide) ?_
      refine K1 (q2, L1 ++ [q2], va_up f1 q2 e2) H locs ls _ _ ⟨hw, lv_sub hl [0, 3, 4, 1, 5, 6] rfl, hq2n, List.mem_append_right _ List.mem_cons_self, fun c hc => List.mem_append_left _ (hLL c hc), fun c hc => (va_up_ne _ _ (px_ne hc hq2n)).trans (hff c hc), ?_⟩ (by show 1 + i + 1 ≤ 1 + (i + 1); omega) (by show 12 * i + ((wo (l0.take i) k).length + 1) ≤ 12 * (i + 1); omega)
      show rowIs cI (va_up f1 q2 e2 q2) _
      rw [take_snoc hc0, wo_snoc, if_neg hck, va_up_self]; exact hrow2
  · obtain ⟨q, L1, f1⟩ := z
    obtain ⟨hw, hl, hq, hqL, hLL, hff, hrow⟩ := hI
    dsimp only at hw hl hq hqL hLL hff hrow
    refine lv_iload hx hb dX2_without_13 (lv_at hl 0 rfl) ?_
    refine lv_iload hx hb dX2_without_15 (lv_at hl 1 rfl) ?_
    refine gt_ge_t (tgt := 45) hC l0.length l0.length dX2_without_17 (by decide) rfl rfl (Nat.le_refl _) (by omega) ?_
    refine lv_aload_n hx hb dX2_without_45 rfl (lv_at hl 3 rfl) ?_
    exact px_aret hC hr (Or.inr ⟨_, rfl⟩) hlk hw ⟨q, rfl, hq, hqL, hLL, hff, by rw [List.take_length] at hrow; exact hrow⟩ dX2_without_46 (by show 1 + l0.length ≤ 13; omega) (by show 12 * l0.length ≤ 144; omega)
