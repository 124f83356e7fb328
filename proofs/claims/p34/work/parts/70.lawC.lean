/-! The law's look at each goat (laid by wip/p34/gen/sim10.py). -/
set_option maxHeartbeats 1000000 in
set_option maxRecDepth 100000 in
theorem law_C {p : Program} {e : Env} {s : State} {m : MethodId} {below : List Frame} {meth : Method} {c : Code} {H : Heap} {locs : List Loc} {cells slots : Nat} {Q : State → Prop} {ls : Array Slot} {A : Nat → Prop} (l : Launch) (hl0 : l.stackTraces = false) (D : va_G) (cI cR : ClassId) (bb nn : Nat) (xs : Nat → Int32) (t o : Nat) (r : Nat → Nat) (S : SS) (o1 : Nat) (r1 : Nat → Nat) (Tt : SS) (L : List Nat) (f : Nat → va_E) (ad : Nat → Nat → Nat) (T G N : Nat) (M : SS) (Ls : Nat → List Nat) (hLI : LI T G N S M Ls) (hLJ : LJ G N M) (a b c9 d tm : Nat) (v5 : Int64) (hAR : AR a b c9 d)
  (hC : CallFix p m c cL_law 23 s #[.ref bb] wsL_law RL) (hE : LE bb nn xs A s) (hK : va_K D vwCl (tyS cI cR) s) (hA : ∀ q, s.heap.size ≤ q → A q) (haL : a ∈ L) (hbL : b ∈ L) (hcL : c9 ∈ L) (hdL : d ∈ L)
  (hI4 : ∀ xa xb xc xd, SimI cI cR L (f4 cI f a b c9 d N G xa xb xc xd) ad G N G M Ls) (hcc : cells ≤ 700000) (hss : slots ≤ 6300000)
  (hw : SW D A s.heap (tw cI t o r S o1 r1 Tt) L (f4 cI f a b c9 d N G (fun _ => 0) (fun _ => 0) (fun _ => 0) (fun _ => 0)) H locs) (hl : lv_has ls 23 [(15, .int (nI 0)), (14, .int 0), (13, .int 0), (12, .ref d), (11, .ref c9), (10, .ref b), (9, .ref a), (8, .int (nI G)), (7, .int (nI N)), (5, .long v5), (3, .int (nI tm)), (2, .ref (ad 0 0)), (1, .ref t), (0, .ref bb)])
  (kk : ∀ (xa xb xc xd : Nat → Int32) (Tz : SS) (H : Heap) (locs : List Loc) (ls : Array Slot), SW D A s.heap (tw cI t o r S o1 r1 Tz) L (f4 cI f a b c9 d N G xa xb xc xd) H locs → lv_has ls 23 [(14, .int (gxCnt S 2 N)), (13, .int (gxCnt S 1 N)), (12, .ref d), (11, .ref c9), (10, .ref b), (9, .ref a), (8, .int (nI G)), (7, .int (nI N)), (5, .long v5), (3, .int (nI tm)), (2, .ref (ad 0 0)), (1, .ref t), (0, .ref bb)] → (∀ j, j < N → xa j = S 9 j) → (∀ j, j < N → xb j = gxUn S G N j) → (∀ g, g < G → xc g = hel S N g) → (∀ g, g < G → xd g = lnm S N N g) → W p l e room_1 s m #[.ref bb] below meth c H locs (cells + 12 * N) (slots + 72 * N) Q (F0 m 445 ls [])) : W p l e room_1 s m #[.ref bb] below meth c H locs cells slots Q (F0 m 133 ls []) := by
  have hx := hC.1
  have hb := hC.2.1
  have hN := hLI.1.1
  have hG4 := hLI.1.2.1
  have hSG := hLI.1.2.2.1
  have hSN := hLI.1.2.2.2.1
  refine px_loop (σ := (Nat → Int32) × (Nat → Int32) × (Nat → Int32) × (Nat → Int32) × SS) N (fun i => cells + 12 * i) (fun i => slots + 72 * i) (fun i z H locs ls => SW D A s.heap (tw cI t o r S o1 r1 z.2.2.2.2) L (f4 cI f a b c9 d N G z.1 z.2.1 z.2.2.1 z.2.2.2.1) H locs ∧ lv_has ls 23 [(15, .int (nI i)), (14, .int (gxCnt S 2 i)), (13, .int (gxCnt S 1 i)), (12, .ref d), (11, .ref c9), (10, .ref b), (9, .ref a), (8, .int (nI G)), (7, .int (nI N)), (5, .long v5), (3, .int (nI tm)), (2, .ref (ad 0 0)), (1, .ref t), (0, .ref bb)] ∧ (∀ j, j < i → z.1 j = S 9 j) ∧ (∀ j, j < i → z.2.1 j = gxUn S G N j) ∧ (∀ g, g < G → z.2.2.1 g = hel S i g) ∧ ∀ g, g < G → z.2.2.2.1 g = lnm S N i g) (fun _ => 0, fun _ => 0, fun _ => 0, fun _ => 0, Tt) ⟨hw, hl, fun j hj => absurd hj (Nat.not_lt_zero j), fun j hj => absurd hj (Nat.not_lt_zero j), fun g _ => rfl, fun g _ => rfl⟩ (Nat.le_refl _) (Nat.le_refl _) (fun i hi z H locs ls hX K1 => ?_) (fun z H locs ls hX => ?_)
  · obtain ⟨xa, xb, xc, xd, Tz⟩ := z
    obtain ⟨hw, hl, ha9, hb9, hc9, hd9⟩ := hX
    dsimp only at hw ha9 hb9 hc9 hd9
    have hgr := hLI.gr hi
    obtain ⟨u1, u2, u3, u4⟩ := hLI.un3 hi
    refine lv_iload hx hb dL_law_133 (lv_at hl 0 rfl) ?_
    refine lv_iload hx hb dL_law_135 (lv_at hl 8 rfl) ?_
    refine gt_ge_f (tgt := 445) hC i N dL_law_137 (by decide) rfl rfl (by omega) (by omega) ?_
    rcases rj_z hgr with h9 | h9 | h9
    · skip
      have h10 : S 10 i = -1 := (rj_0 hgr h9).1
      have hh : gxHeld S i = 0 := if_neg (by rw [h9]; decide)
      have hlf : S 13 i = 0 := (rj_0 hgr h9).2.1
      have hpl : gxPl S N i = -1 := if_neg (by rw [h9]; decide)
      refine lv_aload hx hb dL_law_140 (lv_at hl 6 rfl) ?_
      refine lv_iload hx hb dL_law_142 (lv_at hl 0 rfl) ?_
      refine lv_aload_n hx hb dL_law_144 rfl (lv_at hl 12 rfl) ?_
      refine lv_iload hx hb dL_law_145 (lv_at hl 0 rfl) ?_
      have hM := ct_X1_stateOf l hl0 D cI t o r S o1 r1 Tz (nI i) N hSN hN
      rw [cl_nI (show i < 12 by omega)] at hM
      refine tx_call hC 0 1 1 hM (xGoat_in hLI.1 hi) gL_law_X1_stateOf dL_law_147 hE hK hw hA hl.1 rfl hd_X1_stateOf ⟨Nat.le_of_ble_eq_true rfl, Nat.le_of_ble_eq_true rfl⟩ ⟨by show _ ≤ 760756; omega, by show _ ≤ 6819431; omega⟩ rfl rfl rfl rfl (Nat.le_of_ble_eq_true rfl) (fun H locs hw => ?_)
      refine gt_stk [.int (S 9 i), .int (nI i), .ref a] rfl ?_
      refine px_ist hC i hK hw haL (f4_ga hAR) dL_law_150 rfl hi (by omega) (fun H locs hw => ?_)
      rw [f4_sa hAR] at hw
      refine lv_aload hx hb dL_law_151 (lv_at hl 5 rfl) ?_
      refine lv_iload hx hb dL_law_153 (lv_at hl 0 rfl) ?_
      refine lv_aload_n hx hb dL_law_155 rfl (lv_at hl 12 rfl) ?_
      refine lv_iload hx hb dL_law_156 (lv_at hl 0 rfl) ?_
      have hM := ct_X1_minutesUntilIn l hl0 D cI t o r S o1 r1 Tz (nI i) N hSN hN G hSG hG4
      rw [cl_nI (show i < 12 by omega)] at hM
      refine tx_call hC 0 1 1 hM (xGoat_in hLI.1 hi) gL_law_X1_minutesUntilIn dL_law_158 hE hK hw hA hl.1 rfl hd_X1_minutesUntilIn ⟨Nat.le_of_ble_eq_true rfl, Nat.le_of_ble_eq_true rfl⟩ ⟨by show _ ≤ 760756; omega, by show _ ≤ 6819431; omega⟩ rfl rfl rfl rfl (Nat.le_of_ble_eq_true rfl) (fun H locs hw => ?_)
      refine tw_any hw (fun Tq1 hw => ?_)
      refine gt_stk [.int (gxUn S G N i), .int (nI i), .ref b] rfl ?_
      refine px_ist hC i hK hw hbL (f4_gb hAR) dL_law_161 rfl hi (by omega) (fun H locs hw => ?_)
      rw [f4_sb hAR] at hw
      refine lv_aload_n hx hb dL_law_162 rfl (lv_at hl 12 rfl) ?_
      refine lv_iload hx hb dL_law_163 (lv_at hl 0 rfl) ?_
      have hM := ct_X1_gateOf l hl0 D cI t o r S o1 r1 Tq1 (nI i) N hSN hN
      rw [cl_nI (show i < 12 by omega)] at hM
      refine tx_call hC 0 1 1 hM (xGoat_in hLI.1 hi) gL_law_X1_gateOf dL_law_165 hE hK hw hA hl.1 rfl hd_X1_gateOf ⟨Nat.le_of_ble_eq_true rfl, Nat.le_of_ble_eq_true rfl⟩ ⟨by show _ ≤ 760756; omega, by show _ ≤ 6819431; omega⟩ rfl rfl rfl rfl (Nat.le_of_ble_eq_true rfl) (fun H locs hw => ?_)
      refine gt_stk [.int (S 10 i)] rfl ?_
      refine gt_stk [.int (-1)] (by rw [h10]; try rfl) ?_
      refine lv_istore (lv' := [(16, .int (-1)), (15, .int (nI i)), (14, .int (gxCnt S 2 i)), (13, .int (gxCnt S 1 i)), (12, .ref d), (11, .ref c9), (10, .ref b), (9, .ref a), (8, .int (nI G)), (7, .int (nI N)), (5, .long v5), (3, .int (nI tm)), (2, .ref (ad 0 0)), (1, .ref t), (0, .ref bb)]) hx hb dL_law_168 hl (by decide) rfl (fun ls hl => ?_)
      refine lv_iload hx hb dL_law_170 (lv_at hl 3 rfl) ?_
      refine lv_aload hx hb dL_law_172 (lv_at hl 7 rfl) ?_
      refine lv_iload hx hb dL_law_174 (lv_at hl 1 rfl) ?_
      refine px_ild hC i (v := 0) hK hw haL (f4_ga hAR) dL_law_176 rfl hi (by omega) (by simp [upd, h9]) ?_
      refine gt_stk [.int 0, .int (gxCnt S 1 i)] rfl ?_
      refine lv_iconst (v := 1) hx hb dL_law_177 (by decide) ?_
      refine lv_icmp_ne (tgt := 185) hx hb dL_law_178 (by decide) (fun _ => ?_) (fun z => absurd z (by decide))
      refine lv_iconst (v := 0) hx hb dL_law_185 (by decide) ?_
      refine lv_iadd hx hb dL_law_186 ?_
      refine gt_stk [.int (gxCnt S 1 (i + 1))] (by rw [show gxCnt S 1 (i + 1) = gxCnt S 1 i from if_neg (by rw [h9]; decide), Int32.add_zero]) ?_
      refine lv_istore (lv' := [(13, .int (gxCnt S 1 (i + 1))), (16, .int (-1)), (15, .int (nI i)), (14, .int (gxCnt S 2 i)), (12, .ref d), (11, .ref c9), (10, .ref b), (9, .ref a), (8, .int (nI G)), (7, .int (nI N)), (5, .long v5), (3, .int (nI tm)), (2, .ref (ad 0 0)), (1, .ref t), (0, .ref bb)]) hx hb dL_law_187 hl (by decide) rfl (fun ls hl => ?_)
      refine lv_iload hx hb dL_law_189 (lv_at hl 3 rfl) ?_
      refine lv_aload hx hb dL_law_191 (lv_at hl 7 rfl) ?_
      refine lv_iload hx hb dL_law_193 (lv_at hl 2 rfl) ?_
      refine px_ild hC i (v := 0) hK hw haL (f4_ga hAR) dL_law_195 rfl hi (by omega) (by simp [upd, h9]) ?_
      refine gt_stk [.int 0, .int (gxCnt S 2 i)] rfl ?_
      refine lv_iconst (v := 2) hx hb dL_law_196 (by decide) ?_
      refine lv_icmp_ne (tgt := 204) hx hb dL_law_197 (by decide) (fun _ => ?_) (fun z => absurd z (by decide))
      refine lv_iconst (v := 0) hx hb dL_law_204 (by decide) ?_
      refine lv_iadd hx hb dL_law_205 ?_
      refine gt_stk [.int (gxCnt S 2 (i + 1))] (by rw [show gxCnt S 2 (i + 1) = gxCnt S 2 i from if_neg (by rw [h9]; decide), Int32.add_zero]) ?_
      refine lv_istore (lv' := [(14, .int (gxCnt S 2 (i + 1))), (13, .int (gxCnt S 1 (i + 1))), (16, .int (-1)), (15, .int (nI i)), (12, .ref d), (11, .ref c9), (10, .ref b), (9, .ref a), (8, .int (nI G)), (7, .int (nI N)), (5, .long v5), (3, .int (nI tm)), (2, .ref (ad 0 0)), (1, .ref t), (0, .ref bb)]) hx hb dL_law_206 hl (by decide) rfl (fun ls hl => ?_)
      refine lv_aload hx hb dL_law_208 (lv_at hl 7 rfl) ?_
      refine lv_iload hx hb dL_law_210 (lv_at hl 3 rfl) ?_
      refine px_ild hC i (v := 0) hK hw haL (f4_ga hAR) dL_law_212 rfl hi (by omega) (by simp [upd, h9]) ?_
      refine gt_stk [.int 0] rfl ?_
      refine lv_if_lt (tgt := 393) hx hb dL_law_213 (by decide) (fun z => absurd z (by decide)) (fun _ => ?_)
      refine lv_aload hx hb dL_law_216 (lv_at hl 7 rfl) ?_
      refine lv_iload hx hb dL_law_218 (lv_at hl 3 rfl) ?_
      refine px_ild hC i (v := 0) hK hw haL (f4_ga hAR) dL_law_220 rfl hi (by omega) (by simp [upd, h9]) ?_
      refine gt_stk [.int 0] rfl ?_
      refine lv_iconst (v := 2) hx hb dL_law_221 (by decide) ?_
      refine lv_icmp_gt (tgt := 393) hx hb dL_law_222 (by decide) (fun z => absurd z (by decide)) (fun _ => ?_)
      refine lv_iload hx hb dL_law_225 (lv_at hl 2 rfl) ?_
      refine lv_if_ge (tgt := 234) hx hb dL_law_227 (by decide) (fun z => absurd z (by decide)) (fun _ => ?_)
      refine lv_iconst (v := 1) hx hb dL_law_230 (by decide) ?_
      refine lv_goto (tgt := 235) hx hb dL_law_231 (by decide) ?_
      refine lv_aload hx hb dL_law_235 (lv_at hl 7 rfl) ?_
      refine lv_iload hx hb dL_law_237 (lv_at hl 3 rfl) ?_
      refine px_ild hC i (v := 0) hK hw haL (f4_ga hAR) dL_law_239 rfl hi (by omega) (by simp [upd, h9]) ?_
      refine gt_stk [.int 0, .int 1] rfl ?_
      refine lv_if_ne (tgt := 247) hx hb dL_law_240 (by decide) (fun z => absurd (by decide) z) (fun _ => ?_)
      refine lv_iconst (v := 1) hx hb dL_law_243 (by decide) ?_
      refine lv_goto (tgt := 248) hx hb dL_law_244 (by decide) ?_
      refine lv_icmp_ne (tgt := 393) hx hb dL_law_248 (by decide) (fun z => absurd (by decide) z) (fun _ => ?_)
      refine lv_aload_n hx hb dL_law_251 rfl (lv_at hl 13 rfl) ?_
      refine lv_iload hx hb dL_law_252 (lv_at hl 3 rfl) ?_
      have hM := ct_X1_holds l hl0 D cI t o r S o1 r1 Tq1 (nI i) N hSN hN
      rw [cl_nI (show i < 12 by omega)] at hM
      refine tx_call hC 0 1 1 hM (xGoat_in hLI.1 hi) gL_law_X1_holds dL_law_254 hE hK hw hA hl.1 rfl hd_X1_holds ⟨Nat.le_of_ble_eq_true rfl, Nat.le_of_ble_eq_true rfl⟩ ⟨by show _ ≤ 760756; omega, by show _ ≤ 6819431; omega⟩ rfl rfl rfl rfl (Nat.le_of_ble_eq_true rfl) (fun H locs hw => ?_)
      refine gt_stk [.int (gxHeld S i)] rfl ?_
      refine lv_if_le (tgt := 264) hx hb dL_law_257 (by decide) (fun _ => ?_) (fun z => absurd (by rw [hh]; decide) z)
      refine lv_iconst (v := 0) hx hb dL_law_264 (by decide) ?_
      refine lv_aload hx hb dL_law_265 (lv_at hl 7 rfl) ?_
      refine lv_iload hx hb dL_law_267 (lv_at hl 3 rfl) ?_
      refine px_ild hC i (v := 0) hK hw haL (f4_ga hAR) dL_law_269 rfl hi (by omega) (by simp [upd, h9]) ?_
      refine gt_stk [.int 0, .int 0] rfl ?_
      refine lv_iconst (v := 2) hx hb dL_law_270 (by decide) ?_
      refine lv_icmp_ne (tgt := 278) hx hb dL_law_271 (by decide) (fun _ => ?_) (fun z => absurd z (by decide))
      refine lv_iconst (v := 0) hx hb dL_law_278 (by decide) ?_
      refine lv_icmp_ne (tgt := 393) hx hb dL_law_279 (by decide) (fun z => absurd (by decide) z) (fun _ => ?_)
      refine lv_aload_n hx hb dL_law_282 rfl (lv_at hl 13 rfl) ?_
      refine lv_iload hx hb dL_law_283 (lv_at hl 3 rfl) ?_
      have hM := ct_X1_minutesLeft l hl0 D cI t o r S o1 r1 Tq1 (nI i) N hSN hN
      rw [cl_nI (show i < 12 by omega)] at hM
      refine tx_call hC 0 1 1 hM (xGoat_in hLI.1 hi) gL_law_X1_minutesLeft dL_law_285 hE hK hw hA hl.1 rfl hd_X1_minutesLeft ⟨Nat.le_of_ble_eq_true rfl, Nat.le_of_ble_eq_true rfl⟩ ⟨by show _ ≤ 760756; omega, by show _ ≤ 6819431; omega⟩ rfl rfl rfl rfl (Nat.le_of_ble_eq_true rfl) (fun H locs hw => ?_)
      refine gt_stk [.int (S 13 i)] rfl ?_
      refine lv_if_ne (tgt := 295) hx hb dL_law_288 (by decide) (fun z => absurd hlf z) (fun _ => ?_)
      refine lv_iconst (v := 1) hx hb dL_law_291 (by decide) ?_
      refine lv_goto (tgt := 296) hx hb dL_law_292 (by decide) ?_
      refine lv_aload hx hb dL_law_296 (lv_at hl 7 rfl) ?_
      refine lv_iload hx hb dL_law_298 (lv_at hl 3 rfl) ?_
      refine px_ild hC i (v := 0) hK hw haL (f4_ga hAR) dL_law_300 rfl hi (by omega) (by simp [upd, h9]) ?_
      refine gt_stk [.int 0, .int 1] rfl ?_
      refine lv_if_ne (tgt := 308) hx hb dL_law_301 (by decide) (fun z => absurd (by decide) z) (fun _ => ?_)
      refine lv_iconst (v := 1) hx hb dL_law_304 (by decide) ?_
      refine lv_goto (tgt := 309) hx hb dL_law_305 (by decide) ?_
      refine lv_icmp_ne (tgt := 393) hx hb dL_law_309 (by decide) (fun z => absurd (by decide) z) (fun _ => ?_)
      refine lv_aload_n hx hb dL_law_312 rfl (lv_at hl 13 rfl) ?_
      refine lv_iload hx hb dL_law_313 (lv_at hl 3 rfl) ?_
      have hM := ct_X1_placeInLine l hl0 D cI t o r S o1 r1 Tq1 (nI i) N hSN hN
      rw [cl_nI (show i < 12 by omega)] at hM
      refine tx_call hC 0 1 1 hM (xGoat_in hLI.1 hi) gL_law_X1_placeInLine dL_law_315 hE hK hw hA hl.1 rfl hd_X1_placeInLine ⟨Nat.le_of_ble_eq_true rfl, Nat.le_of_ble_eq_true rfl⟩ ⟨by show _ ≤ 760756; omega, by show _ ≤ 6819431; omega⟩ rfl rfl rfl rfl (Nat.le_of_ble_eq_true rfl) (fun H locs hw => ?_)
      refine gt_stk [.int (gxPl S N i)] rfl ?_
      refine lv_if_ge (tgt := 325) hx hb dL_law_318 (by decide) (fun z => absurd z (by rw [hpl]; decide)) (fun _ => ?_)
      refine lv_iconst (v := 1) hx hb dL_law_321 (by decide) ?_
      refine lv_goto (tgt := 326) hx hb dL_law_322 (by decide) ?_
      refine lv_aload hx hb dL_law_326 (lv_at hl 7 rfl) ?_
      refine lv_iload hx hb dL_law_328 (lv_at hl 3 rfl) ?_
      refine px_ild hC i (v := 0) hK hw haL (f4_ga hAR) dL_law_330 rfl hi (by omega) (by simp [upd, h9]) ?_
      refine gt_stk [.int 0, .int 1] rfl ?_
      refine lv_iconst (v := 1) hx hb dL_law_331 (by decide) ?_
      refine lv_icmp_eq (tgt := 339) hx hb dL_law_332 (by decide) (fun z => absurd z (by decide)) (fun _ => ?_)
      refine lv_iconst (v := 1) hx hb dL_law_335 (by decide) ?_
      refine lv_goto (tgt := 340) hx hb dL_law_336 (by decide) ?_
      refine lv_icmp_ne (tgt := 393) hx hb dL_law_340 (by decide) (fun z => absurd (by decide) z) (fun _ => ?_)
      refine lv_aload hx hb dL_law_343 (lv_at hl 7 rfl) ?_
      refine lv_iload hx hb dL_law_345 (lv_at hl 3 rfl) ?_
      refine px_ild hC i (v := 0) hK hw haL (f4_ga hAR) dL_law_347 rfl hi (by omega) (by simp [upd, h9]) ?_
      refine gt_stk [.int 0] rfl ?_
      refine lv_iconst (v := 1) hx hb dL_law_348 (by decide) ?_
      refine lv_icmp_eq (tgt := 361) hx hb dL_law_349 (by decide) (fun z => absurd z (by decide)) (fun _ => ?_)
      refine lv_aload hx hb dL_law_352 (lv_at hl 6 rfl) ?_
      refine lv_iload hx hb dL_law_354 (lv_at hl 3 rfl) ?_
      refine px_ild hC i (v := gxUn S G N i) hK hw hbL (f4_gb hAR) dL_law_356 rfl hi (by omega) (by simp [upd]) ?_
      refine gt_stk [.int (gxUn S G N i)] rfl ?_
      refine lv_iconst (v := (-1)) hx hb dL_law_357 (by decide) ?_
      refine lv_icmp_ne (tgt := 393) hx hb dL_law_358 (by decide) (fun z => absurd (u1 (by rw [h9]; decide)) z) (fun _ => ?_)
      refine lv_aload hx hb dL_law_361 (lv_at hl 6 rfl) ?_
      refine lv_iload hx hb dL_law_363 (lv_at hl 3 rfl) ?_
      refine px_ild hC i (v := gxUn S G N i) hK hw hbL (f4_gb hAR) dL_law_365 rfl hi (by omega) (by simp [upd]) ?_
      refine gt_stk [.int (gxUn S G N i)] rfl ?_
      refine lv_bipush (v := 60) hx hb dL_law_366 (by decide) ?_
      refine lv_icmp_gt (tgt := 393) hx hb dL_law_368 (by decide) (fun z => absurd z u2) (fun _ => ?_)
      refine lv_aload hx hb dL_law_371 (lv_at hl 6 rfl) ?_
      refine lv_iload hx hb dL_law_373 (lv_at hl 3 rfl) ?_
      refine px_ild hC i (v := gxUn S G N i) hK hw hbL (f4_gb hAR) dL_law_375 rfl hi (by omega) (by simp [upd]) ?_
      refine gt_stk [.int (gxUn S G N i)] rfl ?_
      refine lv_if_eq (tgt := 393) hx hb dL_law_376 (by decide) (fun z => absurd z u3) (fun _ => ?_)
      refine lv_aload hx hb dL_law_379 (lv_at hl 6 rfl) ?_
      refine lv_iload hx hb dL_law_381 (lv_at hl 3 rfl) ?_
      refine px_ild hC i (v := gxUn S G N i) hK hw hbL (f4_gb hAR) dL_law_383 rfl hi (by omega) (by simp [upd]) ?_
      refine gt_stk [.int (gxUn S G N i)] rfl ?_
      refine lv_aload_n hx hb dL_law_384 rfl (lv_at hl 13 rfl) ?_
      refine lv_iload hx hb dL_law_385 (lv_at hl 3 rfl) ?_
      have hM := ct_X1_minutesLeft l hl0 D cI t o r S o1 r1 Tq1 (nI i) N hSN hN
      rw [cl_nI (show i < 12 by omega)] at hM
      refine tx_call hC 0 1 1 hM (xGoat_in hLI.1 hi) gL_law_X1_minutesLeft dL_law_387 hE hK hw hA hl.1 rfl hd_X1_minutesLeft ⟨Nat.le_of_ble_eq_true rfl, Nat.le_of_ble_eq_true rfl⟩ ⟨by show _ ≤ 760756; omega, by show _ ≤ 6819431; omega⟩ rfl rfl rfl rfl (Nat.le_of_ble_eq_true rfl) (fun H locs hw => ?_)
      refine gt_stk [.int (S 13 i), .int (gxUn S G N i)] rfl ?_
      refine lv_icmp_le (tgt := 395) hx hb dL_law_390 (by decide) (fun _ => ?_) (fun z => absurd u4 z)
      refine lv_iload hx hb dL_law_395 (lv_at hl 2 rfl) ?_
      refine lv_if_lt (tgt := 414) hx hb dL_law_397 (by decide) (fun _ => ?_) (fun z => absurd (by decide) z)
      refine lv_aload hx hb dL_law_414 (lv_at hl 7 rfl) ?_
      refine lv_iload hx hb dL_law_416 (lv_at hl 3 rfl) ?_
      refine px_ild hC i (v := 0) hK hw haL (f4_ga hAR) dL_law_418 rfl hi (by omega) (by simp [upd, h9]) ?_
      refine gt_stk [.int 0] rfl ?_
      refine lv_iconst (v := 1) hx hb dL_law_419 (by decide) ?_
      refine lv_icmp_ne (tgt := 439) hx hb dL_law_420 (by decide) (fun _ => ?_) (fun z => absurd z (by decide))
      refine gt_inc (lv' := [(15, .int (nI (i + 1))), (14, .int (gxCnt S 2 (i + 1))), (13, .int (gxCnt S 1 (i + 1))), (16, .int (-1)), (12, .ref d), (11, .ref c9), (10, .ref b), (9, .ref a), (8, .int (nI G)), (7, .int (nI N)), (5, .long v5), (3, .int (nI tm)), (2, .ref (ad 0 0)), (1, .ref t), (0, .ref bb)]) hC 3 i dL_law_439 hl rfl rfl (by decide) rfl (fun ls hl => ?_)
      refine lv_goto (tgt := 133) hx hb dL_law_442 (by decide) ?_
      exact K1 ((upd xa i (S 9 i)), (upd xb i (gxUn S G N i)), xc, xd, Tq1) H locs ls _ _ ⟨hw, lv_sub hl [0, 1, 2, 4, 5, 6, 7, 8, 9, 10, 11, 12, 13, 14] rfl, upd_lt (F := S 9) rfl ha9, upd_lt (F := gxUn S G N) rfl hb9, hel_no hG4 h10 hc9, lnm_no (by rw [h9]; decide) hd9⟩ (by show _ ≤ cells + 12 * (i + 1); omega) (by show _ ≤ slots + 72 * (i + 1); omega)
    · skip
      obtain ⟨g0, hg0, h10⟩ : ∃ g, g < G ∧ S 10 i = nI g := by
        rcases hLI.at hi with ⟨z, -⟩ | ⟨-, z⟩
        · rw [h9] at z; exact absurd z (by decide)
        · exact z
      have hlf : ¬ S 13 i = 0 := by
        rcases hLI.lf hi with ⟨z, -⟩ | ⟨-, q9, q1, q2, q3⟩
        · rw [h9] at z; exact absurd z (by decide)
        · rw [q3]; exact fun z => by have := (nI_eq (a := q9) (b := 0) (by omega) (by omega)).mp z; omega
      have hh : gxHeld S i = 0 := if_neg (by rw [h9]; decide)
      obtain ⟨p9, p1, hpl⟩ : ∃ q, q < 12 ∧ gxPl S N i = nI q := by
        rcases hLI.pc hi with ⟨z, -⟩ | ⟨-, g', g1, g2, g3, g4, g5, g6, g7⟩
        · exact absurd h9 z
        · exact ⟨_, by omega, g5⟩
      refine lv_aload hx hb dL_law_140 (lv_at hl 6 rfl) ?_
      refine lv_iload hx hb dL_law_142 (lv_at hl 0 rfl) ?_
      refine lv_aload_n hx hb dL_law_144 rfl (lv_at hl 12 rfl) ?_
      refine lv_iload hx hb dL_law_145 (lv_at hl 0 rfl) ?_
      have hM := ct_X1_stateOf l hl0 D cI t o r S o1 r1 Tz (nI i) N hSN hN
      rw [cl_nI (show i < 12 by omega)] at hM
      refine tx_call hC 0 1 1 hM (xGoat_in hLI.1 hi) gL_law_X1_stateOf dL_law_147 hE hK hw hA hl.1 rfl hd_X1_stateOf ⟨Nat.le_of_ble_eq_true rfl, Nat.le_of_ble_eq_true rfl⟩ ⟨by show _ ≤ 760756; omega, by show _ ≤ 6819431; omega⟩ rfl rfl rfl rfl (Nat.le_of_ble_eq_true rfl) (fun H locs hw => ?_)
      refine gt_stk [.int (S 9 i), .int (nI i), .ref a] rfl ?_
      refine px_ist hC i hK hw haL (f4_ga hAR) dL_law_150 rfl hi (by omega) (fun H locs hw => ?_)
      rw [f4_sa hAR] at hw
      refine lv_aload hx hb dL_law_151 (lv_at hl 5 rfl) ?_
      refine lv_iload hx hb dL_law_153 (lv_at hl 0 rfl) ?_
      refine lv_aload_n hx hb dL_law_155 rfl (lv_at hl 12 rfl) ?_
      refine lv_iload hx hb dL_law_156 (lv_at hl 0 rfl) ?_
      have hM := ct_X1_minutesUntilIn l hl0 D cI t o r S o1 r1 Tz (nI i) N hSN hN G hSG hG4
      rw [cl_nI (show i < 12 by omega)] at hM
      refine tx_call hC 0 1 1 hM (xGoat_in hLI.1 hi) gL_law_X1_minutesUntilIn dL_law_158 hE hK hw hA hl.1 rfl hd_X1_minutesUntilIn ⟨Nat.le_of_ble_eq_true rfl, Nat.le_of_ble_eq_true rfl⟩ ⟨by show _ ≤ 760756; omega, by show _ ≤ 6819431; omega⟩ rfl rfl rfl rfl (Nat.le_of_ble_eq_true rfl) (fun H locs hw => ?_)
      refine tw_any hw (fun Tq1 hw => ?_)
      refine gt_stk [.int (gxUn S G N i), .int (nI i), .ref b] rfl ?_
      refine px_ist hC i hK hw hbL (f4_gb hAR) dL_law_161 rfl hi (by omega) (fun H locs hw => ?_)
      rw [f4_sb hAR] at hw
      refine lv_aload_n hx hb dL_law_162 rfl (lv_at hl 12 rfl) ?_
      refine lv_iload hx hb dL_law_163 (lv_at hl 0 rfl) ?_
      have hM := ct_X1_gateOf l hl0 D cI t o r S o1 r1 Tq1 (nI i) N hSN hN
      rw [cl_nI (show i < 12 by omega)] at hM
      refine tx_call hC 0 1 1 hM (xGoat_in hLI.1 hi) gL_law_X1_gateOf dL_law_165 hE hK hw hA hl.1 rfl hd_X1_gateOf ⟨Nat.le_of_ble_eq_true rfl, Nat.le_of_ble_eq_true rfl⟩ ⟨by show _ ≤ 760756; omega, by show _ ≤ 6819431; omega⟩ rfl rfl rfl rfl (Nat.le_of_ble_eq_true rfl) (fun H locs hw => ?_)
      refine gt_stk [.int (S 10 i)] rfl ?_
      refine gt_stk [.int (nI g0)] (by rw [← h10]; try rfl) ?_
      refine lv_istore (lv' := [(16, .int (nI g0)), (15, .int (nI i)), (14, .int (gxCnt S 2 i)), (13, .int (gxCnt S 1 i)), (12, .ref d), (11, .ref c9), (10, .ref b), (9, .ref a), (8, .int (nI G)), (7, .int (nI N)), (5, .long v5), (3, .int (nI tm)), (2, .ref (ad 0 0)), (1, .ref t), (0, .ref bb)]) hx hb dL_law_168 hl (by decide) rfl (fun ls hl => ?_)
      refine lv_iload hx hb dL_law_170 (lv_at hl 3 rfl) ?_
      refine lv_aload hx hb dL_law_172 (lv_at hl 7 rfl) ?_
      refine lv_iload hx hb dL_law_174 (lv_at hl 1 rfl) ?_
      refine px_ild hC i (v := 1) hK hw haL (f4_ga hAR) dL_law_176 rfl hi (by omega) (by simp [upd, h9]) ?_
      refine gt_stk [.int 1, .int (gxCnt S 1 i)] rfl ?_
      refine lv_iconst (v := 1) hx hb dL_law_177 (by decide) ?_
      refine lv_icmp_ne (tgt := 185) hx hb dL_law_178 (by decide) (fun z => absurd (by decide) z) (fun _ => ?_)
      refine lv_iconst (v := 1) hx hb dL_law_181 (by decide) ?_
      refine lv_goto (tgt := 186) hx hb dL_law_182 (by decide) ?_
      refine lv_iadd hx hb dL_law_186 ?_
      refine gt_stk [.int (gxCnt S 1 (i + 1))] (by rw [show gxCnt S 1 (i + 1) = gxCnt S 1 i + 1 from if_pos h9]; try rfl) ?_
      refine lv_istore (lv' := [(13, .int (gxCnt S 1 (i + 1))), (16, .int (nI g0)), (15, .int (nI i)), (14, .int (gxCnt S 2 i)), (12, .ref d), (11, .ref c9), (10, .ref b), (9, .ref a), (8, .int (nI G)), (7, .int (nI N)), (5, .long v5), (3, .int (nI tm)), (2, .ref (ad 0 0)), (1, .ref t), (0, .ref bb)]) hx hb dL_law_187 hl (by decide) rfl (fun ls hl => ?_)
      refine lv_iload hx hb dL_law_189 (lv_at hl 3 rfl) ?_
      refine lv_aload hx hb dL_law_191 (lv_at hl 7 rfl) ?_
      refine lv_iload hx hb dL_law_193 (lv_at hl 2 rfl) ?_
      refine px_ild hC i (v := 1) hK hw haL (f4_ga hAR) dL_law_195 rfl hi (by omega) (by simp [upd, h9]) ?_
      refine gt_stk [.int 1, .int (gxCnt S 2 i)] rfl ?_
      refine lv_iconst (v := 2) hx hb dL_law_196 (by decide) ?_
      refine lv_icmp_ne (tgt := 204) hx hb dL_law_197 (by decide) (fun _ => ?_) (fun z => absurd z (by decide))
      refine lv_iconst (v := 0) hx hb dL_law_204 (by decide) ?_
      refine lv_iadd hx hb dL_law_205 ?_
      refine gt_stk [.int (gxCnt S 2 (i + 1))] (by rw [show gxCnt S 2 (i + 1) = gxCnt S 2 i from if_neg (by rw [h9]; decide), Int32.add_zero]) ?_
      refine lv_istore (lv' := [(14, .int (gxCnt S 2 (i + 1))), (13, .int (gxCnt S 1 (i + 1))), (16, .int (nI g0)), (15, .int (nI i)), (12, .ref d), (11, .ref c9), (10, .ref b), (9, .ref a), (8, .int (nI G)), (7, .int (nI N)), (5, .long v5), (3, .int (nI tm)), (2, .ref (ad 0 0)), (1, .ref t), (0, .ref bb)]) hx hb dL_law_206 hl (by decide) rfl (fun ls hl => ?_)
      refine lv_aload hx hb dL_law_208 (lv_at hl 7 rfl) ?_
      refine lv_iload hx hb dL_law_210 (lv_at hl 3 rfl) ?_
      refine px_ild hC i (v := 1) hK hw haL (f4_ga hAR) dL_law_212 rfl hi (by omega) (by simp [upd, h9]) ?_
      refine gt_stk [.int 1] rfl ?_
      refine lv_if_lt (tgt := 393) hx hb dL_law_213 (by decide) (fun z => absurd z (by decide)) (fun _ => ?_)
      refine lv_aload hx hb dL_law_216 (lv_at hl 7 rfl) ?_
      refine lv_iload hx hb dL_law_218 (lv_at hl 3 rfl) ?_
      refine px_ild hC i (v := 1) hK hw haL (f4_ga hAR) dL_law_220 rfl hi (by omega) (by simp [upd, h9]) ?_
      refine gt_stk [.int 1] rfl ?_
      refine lv_iconst (v := 2) hx hb dL_law_221 (by decide) ?_
      refine lv_icmp_gt (tgt := 393) hx hb dL_law_222 (by decide) (fun z => absurd z (by decide)) (fun _ => ?_)
      refine lv_iload hx hb dL_law_225 (lv_at hl 2 rfl) ?_
      refine lv_if_ge (tgt := 234) hx hb dL_law_227 (by decide) (fun _ => ?_) (fun z => absurd (nI_ge0 (by omega)) z)
      refine lv_iconst (v := 0) hx hb dL_law_234 (by decide) ?_
      refine lv_aload hx hb dL_law_235 (lv_at hl 7 rfl) ?_
      refine lv_iload hx hb dL_law_237 (lv_at hl 3 rfl) ?_
      refine px_ild hC i (v := 1) hK hw haL (f4_ga hAR) dL_law_239 rfl hi (by omega) (by simp [upd, h9]) ?_
      refine gt_stk [.int 1, .int 0] rfl ?_
      refine lv_if_ne (tgt := 247) hx hb dL_law_240 (by decide) (fun _ => ?_) (fun z => absurd z (by decide))
      refine lv_iconst (v := 0) hx hb dL_law_247 (by decide) ?_
      refine lv_icmp_ne (tgt := 393) hx hb dL_law_248 (by decide) (fun z => absurd (by decide) z) (fun _ => ?_)
      refine lv_aload_n hx hb dL_law_251 rfl (lv_at hl 13 rfl) ?_
      refine lv_iload hx hb dL_law_252 (lv_at hl 3 rfl) ?_
      have hM := ct_X1_holds l hl0 D cI t o r S o1 r1 Tq1 (nI i) N hSN hN
      rw [cl_nI (show i < 12 by omega)] at hM
      refine tx_call hC 0 1 1 hM (xGoat_in hLI.1 hi) gL_law_X1_holds dL_law_254 hE hK hw hA hl.1 rfl hd_X1_holds ⟨Nat.le_of_ble_eq_true rfl, Nat.le_of_ble_eq_true rfl⟩ ⟨by show _ ≤ 760756; omega, by show _ ≤ 6819431; omega⟩ rfl rfl rfl rfl (Nat.le_of_ble_eq_true rfl) (fun H locs hw => ?_)
      refine gt_stk [.int (gxHeld S i)] rfl ?_
      refine lv_if_le (tgt := 264) hx hb dL_law_257 (by decide) (fun _ => ?_) (fun z => absurd (by rw [hh]; decide) z)
      refine lv_iconst (v := 0) hx hb dL_law_264 (by decide) ?_
      refine lv_aload hx hb dL_law_265 (lv_at hl 7 rfl) ?_
      refine lv_iload hx hb dL_law_267 (lv_at hl 3 rfl) ?_
      refine px_ild hC i (v := 1) hK hw haL (f4_ga hAR) dL_law_269 rfl hi (by omega) (by simp [upd, h9]) ?_
      refine gt_stk [.int 1, .int 0] rfl ?_
      refine lv_iconst (v := 2) hx hb dL_law_270 (by decide) ?_
      refine lv_icmp_ne (tgt := 278) hx hb dL_law_271 (by decide) (fun _ => ?_) (fun z => absurd z (by decide))
      refine lv_iconst (v := 0) hx hb dL_law_278 (by decide) ?_
      refine lv_icmp_ne (tgt := 393) hx hb dL_law_279 (by decide) (fun z => absurd (by decide) z) (fun _ => ?_)
      refine lv_aload_n hx hb dL_law_282 rfl (lv_at hl 13 rfl) ?_
      refine lv_iload hx hb dL_law_283 (lv_at hl 3 rfl) ?_
      have hM := ct_X1_minutesLeft l hl0 D cI t o r S o1 r1 Tq1 (nI i) N hSN hN
      rw [cl_nI (show i < 12 by omega)] at hM
      refine tx_call hC 0 1 1 hM (xGoat_in hLI.1 hi) gL_law_X1_minutesLeft dL_law_285 hE hK hw hA hl.1 rfl hd_X1_minutesLeft ⟨Nat.le_of_ble_eq_true rfl, Nat.le_of_ble_eq_true rfl⟩ ⟨by show _ ≤ 760756; omega, by show _ ≤ 6819431; omega⟩ rfl rfl rfl rfl (Nat.le_of_ble_eq_true rfl) (fun H locs hw => ?_)
      refine gt_stk [.int (S 13 i)] rfl ?_
      refine lv_if_ne (tgt := 295) hx hb dL_law_288 (by decide) (fun _ => ?_) (fun z => absurd z hlf)
      refine lv_iconst (v := 0) hx hb dL_law_295 (by decide) ?_
      refine lv_aload hx hb dL_law_296 (lv_at hl 7 rfl) ?_
      refine lv_iload hx hb dL_law_298 (lv_at hl 3 rfl) ?_
      refine px_ild hC i (v := 1) hK hw haL (f4_ga hAR) dL_law_300 rfl hi (by omega) (by simp [upd, h9]) ?_
      refine gt_stk [.int 1, .int 0] rfl ?_
      refine lv_if_ne (tgt := 308) hx hb dL_law_301 (by decide) (fun _ => ?_) (fun z => absurd z (by decide))
      refine lv_iconst (v := 0) hx hb dL_law_308 (by decide) ?_
      refine lv_icmp_ne (tgt := 393) hx hb dL_law_309 (by decide) (fun z => absurd (by decide) z) (fun _ => ?_)
      refine lv_aload_n hx hb dL_law_312 rfl (lv_at hl 13 rfl) ?_
      refine lv_iload hx hb dL_law_313 (lv_at hl 3 rfl) ?_
      have hM := ct_X1_placeInLine l hl0 D cI t o r S o1 r1 Tq1 (nI i) N hSN hN
      rw [cl_nI (show i < 12 by omega)] at hM
      refine tx_call hC 0 1 1 hM (xGoat_in hLI.1 hi) gL_law_X1_placeInLine dL_law_315 hE hK hw hA hl.1 rfl hd_X1_placeInLine ⟨Nat.le_of_ble_eq_true rfl, Nat.le_of_ble_eq_true rfl⟩ ⟨by show _ ≤ 760756; omega, by show _ ≤ 6819431; omega⟩ rfl rfl rfl rfl (Nat.le_of_ble_eq_true rfl) (fun H locs hw => ?_)
      refine gt_stk [.int (gxPl S N i)] rfl ?_
      refine lv_if_ge (tgt := 325) hx hb dL_law_318 (by decide) (fun _ => ?_) (fun z => absurd (by rw [hpl]; exact nI_ge0 (by omega)) z)
      refine lv_iconst (v := 0) hx hb dL_law_325 (by decide) ?_
      refine lv_aload hx hb dL_law_326 (lv_at hl 7 rfl) ?_
      refine lv_iload hx hb dL_law_328 (lv_at hl 3 rfl) ?_
      refine px_ild hC i (v := 1) hK hw haL (f4_ga hAR) dL_law_330 rfl hi (by omega) (by simp [upd, h9]) ?_
      refine gt_stk [.int 1, .int 0] rfl ?_
      refine lv_iconst (v := 1) hx hb dL_law_331 (by decide) ?_
      refine lv_icmp_eq (tgt := 339) hx hb dL_law_332 (by decide) (fun _ => ?_) (fun z => absurd (by decide) z)
      refine lv_iconst (v := 0) hx hb dL_law_339 (by decide) ?_
      refine lv_icmp_ne (tgt := 393) hx hb dL_law_340 (by decide) (fun z => absurd (by decide) z) (fun _ => ?_)
      refine lv_aload hx hb dL_law_343 (lv_at hl 7 rfl) ?_
      refine lv_iload hx hb dL_law_345 (lv_at hl 3 rfl) ?_
      refine px_ild hC i (v := 1) hK hw haL (f4_ga hAR) dL_law_347 rfl hi (by omega) (by simp [upd, h9]) ?_
      refine gt_stk [.int 1] rfl ?_
      refine lv_iconst (v := 1) hx hb dL_law_348 (by decide) ?_
      refine lv_icmp_eq (tgt := 361) hx hb dL_law_349 (by decide) (fun _ => ?_) (fun z => absurd (by decide) z)
      refine lv_aload hx hb dL_law_361 (lv_at hl 6 rfl) ?_
      refine lv_iload hx hb dL_law_363 (lv_at hl 3 rfl) ?_
      refine px_ild hC i (v := gxUn S G N i) hK hw hbL (f4_gb hAR) dL_law_365 rfl hi (by omega) (by simp [upd]) ?_
      refine gt_stk [.int (gxUn S G N i)] rfl ?_
      refine lv_bipush (v := 60) hx hb dL_law_366 (by decide) ?_
      refine lv_icmp_gt (tgt := 393) hx hb dL_law_368 (by decide) (fun z => absurd z u2) (fun _ => ?_)
      refine lv_aload hx hb dL_law_371 (lv_at hl 6 rfl) ?_
      refine lv_iload hx hb dL_law_373 (lv_at hl 3 rfl) ?_
      refine px_ild hC i (v := gxUn S G N i) hK hw hbL (f4_gb hAR) dL_law_375 rfl hi (by omega) (by simp [upd]) ?_
      refine gt_stk [.int (gxUn S G N i)] rfl ?_
      refine lv_if_eq (tgt := 393) hx hb dL_law_376 (by decide) (fun z => absurd z u3) (fun _ => ?_)
      refine lv_aload hx hb dL_law_379 (lv_at hl 6 rfl) ?_
      refine lv_iload hx hb dL_law_381 (lv_at hl 3 rfl) ?_
      refine px_ild hC i (v := gxUn S G N i) hK hw hbL (f4_gb hAR) dL_law_383 rfl hi (by omega) (by simp [upd]) ?_
      refine gt_stk [.int (gxUn S G N i)] rfl ?_
      refine lv_aload_n hx hb dL_law_384 rfl (lv_at hl 13 rfl) ?_
      refine lv_iload hx hb dL_law_385 (lv_at hl 3 rfl) ?_
      have hM := ct_X1_minutesLeft l hl0 D cI t o r S o1 r1 Tq1 (nI i) N hSN hN
      rw [cl_nI (show i < 12 by omega)] at hM
      refine tx_call hC 0 1 1 hM (xGoat_in hLI.1 hi) gL_law_X1_minutesLeft dL_law_387 hE hK hw hA hl.1 rfl hd_X1_minutesLeft ⟨Nat.le_of_ble_eq_true rfl, Nat.le_of_ble_eq_true rfl⟩ ⟨by show _ ≤ 760756; omega, by show _ ≤ 6819431; omega⟩ rfl rfl rfl rfl (Nat.le_of_ble_eq_true rfl) (fun H locs hw => ?_)
      refine gt_stk [.int (S 13 i), .int (gxUn S G N i)] rfl ?_
      refine lv_icmp_le (tgt := 395) hx hb dL_law_390 (by decide) (fun _ => ?_) (fun z => absurd u4 z)
      refine lv_iload hx hb dL_law_395 (lv_at hl 2 rfl) ?_
      refine lv_if_lt (tgt := 414) hx hb dL_law_397 (by decide) (fun z => absurd z (nI_pos (by omega))) (fun _ => ?_)
      refine lv_aload hx hb dL_law_400 (lv_at hl 5 rfl) ?_
      refine lv_iload hx hb dL_law_402 (lv_at hl 2 rfl) ?_
      refine lv_dup2_11 hx hb dL_law_404 rfl rfl ?_
      refine px_ild hC g0 (v := xc g0) hK hw hcL (f4_gc hAR) dL_law_405 rfl hg0 (by omega) rfl ?_
      refine gt_stk [.int (xc g0), .int (nI g0), .ref c9] rfl ?_
      refine lv_aload_n hx hb dL_law_406 rfl (lv_at hl 13 rfl) ?_
      refine lv_iload hx hb dL_law_407 (lv_at hl 3 rfl) ?_
      have hM := ct_X1_holds l hl0 D cI t o r S o1 r1 Tq1 (nI i) N hSN hN
      rw [cl_nI (show i < 12 by omega)] at hM
      refine tx_call hC 0 1 1 hM (xGoat_in hLI.1 hi) gL_law_X1_holds dL_law_409 hE hK hw hA hl.1 rfl hd_X1_holds ⟨Nat.le_of_ble_eq_true rfl, Nat.le_of_ble_eq_true rfl⟩ ⟨by show _ ≤ 760756; omega, by show _ ≤ 6819431; omega⟩ rfl rfl rfl rfl (Nat.le_of_ble_eq_true rfl) (fun H locs hw => ?_)
      refine gt_stk [.int (gxHeld S i), .int (xc g0), .int (nI g0), .ref c9] rfl ?_
      refine lv_iadd hx hb dL_law_412 ?_
      refine px_ist hC g0 hK hw hcL (f4_gc hAR) dL_law_413 rfl hg0 (by omega) (fun H locs hw => ?_)
      rw [f4_sc hAR] at hw
      refine lv_aload hx hb dL_law_414 (lv_at hl 7 rfl) ?_
      refine lv_iload hx hb dL_law_416 (lv_at hl 3 rfl) ?_
      refine px_ild hC i (v := 1) hK hw haL (f4_ga hAR) dL_law_418 rfl hi (by omega) (by simp [upd, h9]) ?_
      refine gt_stk [.int 1] rfl ?_
      refine lv_iconst (v := 1) hx hb dL_law_419 (by decide) ?_
      refine lv_icmp_ne (tgt := 439) hx hb dL_law_420 (by decide) (fun z => absurd (by decide) z) (fun _ => ?_)
      refine lv_aload hx hb dL_law_423 (lv_at hl 4 rfl) ?_
      refine lv_iload hx hb dL_law_425 (lv_at hl 2 rfl) ?_
      refine lv_dup2_11 hx hb dL_law_427 rfl rfl ?_
      refine px_ild hC g0 (v := xd g0) hK hw hdL (f4_gd hAR) dL_law_428 rfl hg0 (by omega) rfl ?_
      refine gt_stk [.int (xd g0), .int (nI g0), .ref d] rfl ?_
      refine lv_iconst (v := 1) hx hb dL_law_429 (by decide) ?_
      refine lv_aload_n hx hb dL_law_430 rfl (lv_at hl 13 rfl) ?_
      refine lv_iload hx hb dL_law_431 (lv_at hl 3 rfl) ?_
      have hM := ct_X1_placeInLine l hl0 D cI t o r S o1 r1 Tq1 (nI i) N hSN hN
      rw [cl_nI (show i < 12 by omega)] at hM
      refine tx_call hC 0 1 1 hM (xGoat_in hLI.1 hi) gL_law_X1_placeInLine dL_law_433 hE hK hw hA hl.1 rfl hd_X1_placeInLine ⟨Nat.le_of_ble_eq_true rfl, Nat.le_of_ble_eq_true rfl⟩ ⟨by show _ ≤ 760756; omega, by show _ ≤ 6819431; omega⟩ rfl rfl rfl rfl (Nat.le_of_ble_eq_true rfl) (fun H locs hw => ?_)
      refine gt_stk [.int (gxPl S N i), .int 1, .int (xd g0), .int (nI g0), .ref d] rfl ?_
      refine lv_ishl hx hb dL_law_436 ?_
      refine lv_ior hx hb dL_law_437 ?_
      refine px_ist hC g0 hK hw hdL (f4_gd hAR) dL_law_438 rfl hg0 (by omega) (fun H locs hw => ?_)
      rw [f4_sd hAR] at hw
      refine gt_inc (lv' := [(15, .int (nI (i + 1))), (14, .int (gxCnt S 2 (i + 1))), (13, .int (gxCnt S 1 (i + 1))), (16, .int (nI g0)), (12, .ref d), (11, .ref c9), (10, .ref b), (9, .ref a), (8, .int (nI G)), (7, .int (nI N)), (5, .long v5), (3, .int (nI tm)), (2, .ref (ad 0 0)), (1, .ref t), (0, .ref bb)]) hC 3 i dL_law_439 hl rfl rfl (by decide) rfl (fun ls hl => ?_)
      refine lv_goto (tgt := 133) hx hb dL_law_442 (by decide) ?_
      exact K1 ((upd xa i (S 9 i)), (upd xb i (gxUn S G N i)), (upd xc g0 ((xc g0) + (gxHeld S i))), (upd xd g0 ((xd g0) ||| ((1 : Int32) <<< ((gxPl S N i) &&& 31)))), Tq1) H locs ls _ _ ⟨hw, lv_sub hl [0, 1, 2, 4, 5, 6, 7, 8, 9, 10, 11, 12, 13, 14] rfl, upd_lt (F := S 9) rfl ha9, upd_lt (F := gxUn S G N) rfl hb9, hel_up hG4 hg0 h10 hc9, lnm_up hG4 hg0 h9 h10 hd9⟩ (by show _ ≤ cells + 12 * (i + 1); omega) (by show _ ≤ slots + 72 * (i + 1); omega)
    · skip
      obtain ⟨g0, hg0, h10⟩ : ∃ g, g < G ∧ S 10 i = nI g := by
        rcases hLI.at hi with ⟨z, -⟩ | ⟨-, z⟩
        · rw [h9] at z; exact absurd z (by decide)
        · exact z
      have hlf : ¬ S 13 i = 0 := by
        rcases hLI.lf hi with ⟨z, -⟩ | ⟨-, q9, q1, q2, q3⟩
        · rw [h9] at z; exact absurd z (by decide)
        · rw [q3]; exact fun z => by have := (nI_eq (a := q9) (b := 0) (by omega) (by omega)).mp z; omega
      obtain ⟨w9, w1, w2, hh⟩ : ∃ w, 1 ≤ w ∧ w ≤ 9 ∧ gxHeld S i = nI w := by
        rcases hLI.hd hLJ hi with ⟨z, -⟩ | ⟨-, z⟩
        · exact absurd h9 z
        · exact z
      have hpl : gxPl S N i = -1 := if_neg (by rw [h9]; decide)
      refine lv_aload hx hb dL_law_140 (lv_at hl 6 rfl) ?_
      refine lv_iload hx hb dL_law_142 (lv_at hl 0 rfl) ?_
      refine lv_aload_n hx hb dL_law_144 rfl (lv_at hl 12 rfl) ?_
      refine lv_iload hx hb dL_law_145 (lv_at hl 0 rfl) ?_
      have hM := ct_X1_stateOf l hl0 D cI t o r S o1 r1 Tz (nI i) N hSN hN
      rw [cl_nI (show i < 12 by omega)] at hM
      refine tx_call hC 0 1 1 hM (xGoat_in hLI.1 hi) gL_law_X1_stateOf dL_law_147 hE hK hw hA hl.1 rfl hd_X1_stateOf ⟨Nat.le_of_ble_eq_true rfl, Nat.le_of_ble_eq_true rfl⟩ ⟨by show _ ≤ 760756; omega, by show _ ≤ 6819431; omega⟩ rfl rfl rfl rfl (Nat.le_of_ble_eq_true rfl) (fun H locs hw => ?_)
      refine gt_stk [.int (S 9 i), .int (nI i), .ref a] rfl ?_
      refine px_ist hC i hK hw haL (f4_ga hAR) dL_law_150 rfl hi (by omega) (fun H locs hw => ?_)
      rw [f4_sa hAR] at hw
      refine lv_aload hx hb dL_law_151 (lv_at hl 5 rfl) ?_
      refine lv_iload hx hb dL_law_153 (lv_at hl 0 rfl) ?_
      refine lv_aload_n hx hb dL_law_155 rfl (lv_at hl 12 rfl) ?_
      refine lv_iload hx hb dL_law_156 (lv_at hl 0 rfl) ?_
      have hM := ct_X1_minutesUntilIn l hl0 D cI t o r S o1 r1 Tz (nI i) N hSN hN G hSG hG4
      rw [cl_nI (show i < 12 by omega)] at hM
      refine tx_call hC 0 1 1 hM (xGoat_in hLI.1 hi) gL_law_X1_minutesUntilIn dL_law_158 hE hK hw hA hl.1 rfl hd_X1_minutesUntilIn ⟨Nat.le_of_ble_eq_true rfl, Nat.le_of_ble_eq_true rfl⟩ ⟨by show _ ≤ 760756; omega, by show _ ≤ 6819431; omega⟩ rfl rfl rfl rfl (Nat.le_of_ble_eq_true rfl) (fun H locs hw => ?_)
      refine tw_any hw (fun Tq1 hw => ?_)
      refine gt_stk [.int (gxUn S G N i), .int (nI i), .ref b] rfl ?_
      refine px_ist hC i hK hw hbL (f4_gb hAR) dL_law_161 rfl hi (by omega) (fun H locs hw => ?_)
      rw [f4_sb hAR] at hw
      refine lv_aload_n hx hb dL_law_162 rfl (lv_at hl 12 rfl) ?_
      refine lv_iload hx hb dL_law_163 (lv_at hl 0 rfl) ?_
      have hM := ct_X1_gateOf l hl0 D cI t o r S o1 r1 Tq1 (nI i) N hSN hN
      rw [cl_nI (show i < 12 by omega)] at hM
      refine tx_call hC 0 1 1 hM (xGoat_in hLI.1 hi) gL_law_X1_gateOf dL_law_165 hE hK hw hA hl.1 rfl hd_X1_gateOf ⟨Nat.le_of_ble_eq_true rfl, Nat.le_of_ble_eq_true rfl⟩ ⟨by show _ ≤ 760756; omega, by show _ ≤ 6819431; omega⟩ rfl rfl rfl rfl (Nat.le_of_ble_eq_true rfl) (fun H locs hw => ?_)
      refine gt_stk [.int (S 10 i)] rfl ?_
      refine gt_stk [.int (nI g0)] (by rw [← h10]; try rfl) ?_
      refine lv_istore (lv' := [(16, .int (nI g0)), (15, .int (nI i)), (14, .int (gxCnt S 2 i)), (13, .int (gxCnt S 1 i)), (12, .ref d), (11, .ref c9), (10, .ref b), (9, .ref a), (8, .int (nI G)), (7, .int (nI N)), (5, .long v5), (3, .int (nI tm)), (2, .ref (ad 0 0)), (1, .ref t), (0, .ref bb)]) hx hb dL_law_168 hl (by decide) rfl (fun ls hl => ?_)
      refine lv_iload hx hb dL_law_170 (lv_at hl 3 rfl) ?_
      refine lv_aload hx hb dL_law_172 (lv_at hl 7 rfl) ?_
      refine lv_iload hx hb dL_law_174 (lv_at hl 1 rfl) ?_
      refine px_ild hC i (v := 2) hK hw haL (f4_ga hAR) dL_law_176 rfl hi (by omega) (by simp [upd, h9]) ?_
      refine gt_stk [.int 2, .int (gxCnt S 1 i)] rfl ?_
      refine lv_iconst (v := 1) hx hb dL_law_177 (by decide) ?_
      refine lv_icmp_ne (tgt := 185) hx hb dL_law_178 (by decide) (fun _ => ?_) (fun z => absurd z (by decide))
      refine lv_iconst (v := 0) hx hb dL_law_185 (by decide) ?_
      refine lv_iadd hx hb dL_law_186 ?_
      refine gt_stk [.int (gxCnt S 1 (i + 1))] (by rw [show gxCnt S 1 (i + 1) = gxCnt S 1 i from if_neg (by rw [h9]; decide), Int32.add_zero]) ?_
      refine lv_istore (lv' := [(13, .int (gxCnt S 1 (i + 1))), (16, .int (nI g0)), (15, .int (nI i)), (14, .int (gxCnt S 2 i)), (12, .ref d), (11, .ref c9), (10, .ref b), (9, .ref a), (8, .int (nI G)), (7, .int (nI N)), (5, .long v5), (3, .int (nI tm)), (2, .ref (ad 0 0)), (1, .ref t), (0, .ref bb)]) hx hb dL_law_187 hl (by decide) rfl (fun ls hl => ?_)
      refine lv_iload hx hb dL_law_189 (lv_at hl 3 rfl) ?_
      refine lv_aload hx hb dL_law_191 (lv_at hl 7 rfl) ?_
      refine lv_iload hx hb dL_law_193 (lv_at hl 2 rfl) ?_
      refine px_ild hC i (v := 2) hK hw haL (f4_ga hAR) dL_law_195 rfl hi (by omega) (by simp [upd, h9]) ?_
      refine gt_stk [.int 2, .int (gxCnt S 2 i)] rfl ?_
      refine lv_iconst (v := 2) hx hb dL_law_196 (by decide) ?_
      refine lv_icmp_ne (tgt := 204) hx hb dL_law_197 (by decide) (fun z => absurd (by decide) z) (fun _ => ?_)
      refine lv_iconst (v := 1) hx hb dL_law_200 (by decide) ?_
      refine lv_goto (tgt := 205) hx hb dL_law_201 (by decide) ?_
      refine lv_iadd hx hb dL_law_205 ?_
      refine gt_stk [.int (gxCnt S 2 (i + 1))] (by rw [show gxCnt S 2 (i + 1) = gxCnt S 2 i + 1 from if_pos h9]; try rfl) ?_
      refine lv_istore (lv' := [(14, .int (gxCnt S 2 (i + 1))), (13, .int (gxCnt S 1 (i + 1))), (16, .int (nI g0)), (15, .int (nI i)), (12, .ref d), (11, .ref c9), (10, .ref b), (9, .ref a), (8, .int (nI G)), (7, .int (nI N)), (5, .long v5), (3, .int (nI tm)), (2, .ref (ad 0 0)), (1, .ref t), (0, .ref bb)]) hx hb dL_law_206 hl (by decide) rfl (fun ls hl => ?_)
      refine lv_aload hx hb dL_law_208 (lv_at hl 7 rfl) ?_
      refine lv_iload hx hb dL_law_210 (lv_at hl 3 rfl) ?_
      refine px_ild hC i (v := 2) hK hw haL (f4_ga hAR) dL_law_212 rfl hi (by omega) (by simp [upd, h9]) ?_
      refine gt_stk [.int 2] rfl ?_
      refine lv_if_lt (tgt := 393) hx hb dL_law_213 (by decide) (fun z => absurd z (by decide)) (fun _ => ?_)
      refine lv_aload hx hb dL_law_216 (lv_at hl 7 rfl) ?_
      refine lv_iload hx hb dL_law_218 (lv_at hl 3 rfl) ?_
      refine px_ild hC i (v := 2) hK hw haL (f4_ga hAR) dL_law_220 rfl hi (by omega) (by simp [upd, h9]) ?_
      refine gt_stk [.int 2] rfl ?_
      refine lv_iconst (v := 2) hx hb dL_law_221 (by decide) ?_
      refine lv_icmp_gt (tgt := 393) hx hb dL_law_222 (by decide) (fun z => absurd z (by decide)) (fun _ => ?_)
      refine lv_iload hx hb dL_law_225 (lv_at hl 2 rfl) ?_
      refine lv_if_ge (tgt := 234) hx hb dL_law_227 (by decide) (fun _ => ?_) (fun z => absurd (nI_ge0 (by omega)) z)
      refine lv_iconst (v := 0) hx hb dL_law_234 (by decide) ?_
      refine lv_aload hx hb dL_law_235 (lv_at hl 7 rfl) ?_
      refine lv_iload hx hb dL_law_237 (lv_at hl 3 rfl) ?_
      refine px_ild hC i (v := 2) hK hw haL (f4_ga hAR) dL_law_239 rfl hi (by omega) (by simp [upd, h9]) ?_
      refine gt_stk [.int 2, .int 0] rfl ?_
      refine lv_if_ne (tgt := 247) hx hb dL_law_240 (by decide) (fun _ => ?_) (fun z => absurd z (by decide))
      refine lv_iconst (v := 0) hx hb dL_law_247 (by decide) ?_
      refine lv_icmp_ne (tgt := 393) hx hb dL_law_248 (by decide) (fun z => absurd (by decide) z) (fun _ => ?_)
      refine lv_aload_n hx hb dL_law_251 rfl (lv_at hl 13 rfl) ?_
      refine lv_iload hx hb dL_law_252 (lv_at hl 3 rfl) ?_
      have hM := ct_X1_holds l hl0 D cI t o r S o1 r1 Tq1 (nI i) N hSN hN
      rw [cl_nI (show i < 12 by omega)] at hM
      refine tx_call hC 0 1 1 hM (xGoat_in hLI.1 hi) gL_law_X1_holds dL_law_254 hE hK hw hA hl.1 rfl hd_X1_holds ⟨Nat.le_of_ble_eq_true rfl, Nat.le_of_ble_eq_true rfl⟩ ⟨by show _ ≤ 760756; omega, by show _ ≤ 6819431; omega⟩ rfl rfl rfl rfl (Nat.le_of_ble_eq_true rfl) (fun H locs hw => ?_)
      refine gt_stk [.int (gxHeld S i)] rfl ?_
      refine lv_if_le (tgt := 264) hx hb dL_law_257 (by decide) (fun z => absurd z (by rw [hh]; exact nI_nle (by omega) (by omega))) (fun _ => ?_)
      refine lv_iconst (v := 1) hx hb dL_law_260 (by decide) ?_
      refine lv_goto (tgt := 265) hx hb dL_law_261 (by decide) ?_
      refine lv_aload hx hb dL_law_265 (lv_at hl 7 rfl) ?_
      refine lv_iload hx hb dL_law_267 (lv_at hl 3 rfl) ?_
      refine px_ild hC i (v := 2) hK hw haL (f4_ga hAR) dL_law_269 rfl hi (by omega) (by simp [upd, h9]) ?_
      refine gt_stk [.int 2, .int 1] rfl ?_
      refine lv_iconst (v := 2) hx hb dL_law_270 (by decide) ?_
      refine lv_icmp_ne (tgt := 278) hx hb dL_law_271 (by decide) (fun z => absurd (by decide) z) (fun _ => ?_)
      refine lv_iconst (v := 1) hx hb dL_law_274 (by decide) ?_
      refine lv_goto (tgt := 279) hx hb dL_law_275 (by decide) ?_
      refine lv_icmp_ne (tgt := 393) hx hb dL_law_279 (by decide) (fun z => absurd (by decide) z) (fun _ => ?_)
      refine lv_aload_n hx hb dL_law_282 rfl (lv_at hl 13 rfl) ?_
      refine lv_iload hx hb dL_law_283 (lv_at hl 3 rfl) ?_
      have hM := ct_X1_minutesLeft l hl0 D cI t o r S o1 r1 Tq1 (nI i) N hSN hN
      rw [cl_nI (show i < 12 by omega)] at hM
      refine tx_call hC 0 1 1 hM (xGoat_in hLI.1 hi) gL_law_X1_minutesLeft dL_law_285 hE hK hw hA hl.1 rfl hd_X1_minutesLeft ⟨Nat.le_of_ble_eq_true rfl, Nat.le_of_ble_eq_true rfl⟩ ⟨by show _ ≤ 760756; omega, by show _ ≤ 6819431; omega⟩ rfl rfl rfl rfl (Nat.le_of_ble_eq_true rfl) (fun H locs hw => ?_)
      refine gt_stk [.int (S 13 i)] rfl ?_
      refine lv_if_ne (tgt := 295) hx hb dL_law_288 (by decide) (fun _ => ?_) (fun z => absurd z hlf)
      refine lv_iconst (v := 0) hx hb dL_law_295 (by decide) ?_
      refine lv_aload hx hb dL_law_296 (lv_at hl 7 rfl) ?_
      refine lv_iload hx hb dL_law_298 (lv_at hl 3 rfl) ?_
      refine px_ild hC i (v := 2) hK hw haL (f4_ga hAR) dL_law_300 rfl hi (by omega) (by simp [upd, h9]) ?_
      refine gt_stk [.int 2, .int 0] rfl ?_
      refine lv_if_ne (tgt := 308) hx hb dL_law_301 (by decide) (fun _ => ?_) (fun z => absurd z (by decide))
      refine lv_iconst (v := 0) hx hb dL_law_308 (by decide) ?_
      refine lv_icmp_ne (tgt := 393) hx hb dL_law_309 (by decide) (fun z => absurd (by decide) z) (fun _ => ?_)
      refine lv_aload_n hx hb dL_law_312 rfl (lv_at hl 13 rfl) ?_
      refine lv_iload hx hb dL_law_313 (lv_at hl 3 rfl) ?_
      have hM := ct_X1_placeInLine l hl0 D cI t o r S o1 r1 Tq1 (nI i) N hSN hN
      rw [cl_nI (show i < 12 by omega)] at hM
      refine tx_call hC 0 1 1 hM (xGoat_in hLI.1 hi) gL_law_X1_placeInLine dL_law_315 hE hK hw hA hl.1 rfl hd_X1_placeInLine ⟨Nat.le_of_ble_eq_true rfl, Nat.le_of_ble_eq_true rfl⟩ ⟨by show _ ≤ 760756; omega, by show _ ≤ 6819431; omega⟩ rfl rfl rfl rfl (Nat.le_of_ble_eq_true rfl) (fun H locs hw => ?_)
      refine gt_stk [.int (gxPl S N i)] rfl ?_
      refine lv_if_ge (tgt := 325) hx hb dL_law_318 (by decide) (fun z => absurd z (by rw [hpl]; decide)) (fun _ => ?_)
      refine lv_iconst (v := 1) hx hb dL_law_321 (by decide) ?_
      refine lv_goto (tgt := 326) hx hb dL_law_322 (by decide) ?_
      refine lv_aload hx hb dL_law_326 (lv_at hl 7 rfl) ?_
      refine lv_iload hx hb dL_law_328 (lv_at hl 3 rfl) ?_
      refine px_ild hC i (v := 2) hK hw haL (f4_ga hAR) dL_law_330 rfl hi (by omega) (by simp [upd, h9]) ?_
      refine gt_stk [.int 2, .int 1] rfl ?_
      refine lv_iconst (v := 1) hx hb dL_law_331 (by decide) ?_
      refine lv_icmp_eq (tgt := 339) hx hb dL_law_332 (by decide) (fun z => absurd z (by decide)) (fun _ => ?_)
      refine lv_iconst (v := 1) hx hb dL_law_335 (by decide) ?_
      refine lv_goto (tgt := 340) hx hb dL_law_336 (by decide) ?_
      refine lv_icmp_ne (tgt := 393) hx hb dL_law_340 (by decide) (fun z => absurd (by decide) z) (fun _ => ?_)
      refine lv_aload hx hb dL_law_343 (lv_at hl 7 rfl) ?_
      refine lv_iload hx hb dL_law_345 (lv_at hl 3 rfl) ?_
      refine px_ild hC i (v := 2) hK hw haL (f4_ga hAR) dL_law_347 rfl hi (by omega) (by simp [upd, h9]) ?_
      refine gt_stk [.int 2] rfl ?_
      refine lv_iconst (v := 1) hx hb dL_law_348 (by decide) ?_
      refine lv_icmp_eq (tgt := 361) hx hb dL_law_349 (by decide) (fun z => absurd z (by decide)) (fun _ => ?_)
      refine lv_aload hx hb dL_law_352 (lv_at hl 6 rfl) ?_
      refine lv_iload hx hb dL_law_354 (lv_at hl 3 rfl) ?_
      refine px_ild hC i (v := gxUn S G N i) hK hw hbL (f4_gb hAR) dL_law_356 rfl hi (by omega) (by simp [upd]) ?_
      refine gt_stk [.int (gxUn S G N i)] rfl ?_
      refine lv_iconst (v := (-1)) hx hb dL_law_357 (by decide) ?_
      refine lv_icmp_ne (tgt := 393) hx hb dL_law_358 (by decide) (fun z => absurd (u1 (by rw [h9]; decide)) z) (fun _ => ?_)
      refine lv_aload hx hb dL_law_361 (lv_at hl 6 rfl) ?_
      refine lv_iload hx hb dL_law_363 (lv_at hl 3 rfl) ?_
      refine px_ild hC i (v := gxUn S G N i) hK hw hbL (f4_gb hAR) dL_law_365 rfl hi (by omega) (by simp [upd]) ?_
      refine gt_stk [.int (gxUn S G N i)] rfl ?_
      refine lv_bipush (v := 60) hx hb dL_law_366 (by decide) ?_
      refine lv_icmp_gt (tgt := 393) hx hb dL_law_368 (by decide) (fun z => absurd z u2) (fun _ => ?_)
      refine lv_aload hx hb dL_law_371 (lv_at hl 6 rfl) ?_
      refine lv_iload hx hb dL_law_373 (lv_at hl 3 rfl) ?_
      refine px_ild hC i (v := gxUn S G N i) hK hw hbL (f4_gb hAR) dL_law_375 rfl hi (by omega) (by simp [upd]) ?_
      refine gt_stk [.int (gxUn S G N i)] rfl ?_
      refine lv_if_eq (tgt := 393) hx hb dL_law_376 (by decide) (fun z => absurd z u3) (fun _ => ?_)
      refine lv_aload hx hb dL_law_379 (lv_at hl 6 rfl) ?_
      refine lv_iload hx hb dL_law_381 (lv_at hl 3 rfl) ?_
      refine px_ild hC i (v := gxUn S G N i) hK hw hbL (f4_gb hAR) dL_law_383 rfl hi (by omega) (by simp [upd]) ?_
      refine gt_stk [.int (gxUn S G N i)] rfl ?_
      refine lv_aload_n hx hb dL_law_384 rfl (lv_at hl 13 rfl) ?_
      refine lv_iload hx hb dL_law_385 (lv_at hl 3 rfl) ?_
      have hM := ct_X1_minutesLeft l hl0 D cI t o r S o1 r1 Tq1 (nI i) N hSN hN
      rw [cl_nI (show i < 12 by omega)] at hM
      refine tx_call hC 0 1 1 hM (xGoat_in hLI.1 hi) gL_law_X1_minutesLeft dL_law_387 hE hK hw hA hl.1 rfl hd_X1_minutesLeft ⟨Nat.le_of_ble_eq_true rfl, Nat.le_of_ble_eq_true rfl⟩ ⟨by show _ ≤ 760756; omega, by show _ ≤ 6819431; omega⟩ rfl rfl rfl rfl (Nat.le_of_ble_eq_true rfl) (fun H locs hw => ?_)
      refine gt_stk [.int (S 13 i), .int (gxUn S G N i)] rfl ?_
      refine lv_icmp_le (tgt := 395) hx hb dL_law_390 (by decide) (fun _ => ?_) (fun z => absurd u4 z)
      refine lv_iload hx hb dL_law_395 (lv_at hl 2 rfl) ?_
      refine lv_if_lt (tgt := 414) hx hb dL_law_397 (by decide) (fun z => absurd z (nI_pos (by omega))) (fun _ => ?_)
      refine lv_aload hx hb dL_law_400 (lv_at hl 5 rfl) ?_
      refine lv_iload hx hb dL_law_402 (lv_at hl 2 rfl) ?_
      refine lv_dup2_11 hx hb dL_law_404 rfl rfl ?_
      refine px_ild hC g0 (v := xc g0) hK hw hcL (f4_gc hAR) dL_law_405 rfl hg0 (by omega) rfl ?_
      refine gt_stk [.int (xc g0), .int (nI g0), .ref c9] rfl ?_
      refine lv_aload_n hx hb dL_law_406 rfl (lv_at hl 13 rfl) ?_
      refine lv_iload hx hb dL_law_407 (lv_at hl 3 rfl) ?_
      have hM := ct_X1_holds l hl0 D cI t o r S o1 r1 Tq1 (nI i) N hSN hN
      rw [cl_nI (show i < 12 by omega)] at hM
      refine tx_call hC 0 1 1 hM (xGoat_in hLI.1 hi) gL_law_X1_holds dL_law_409 hE hK hw hA hl.1 rfl hd_X1_holds ⟨Nat.le_of_ble_eq_true rfl, Nat.le_of_ble_eq_true rfl⟩ ⟨by show _ ≤ 760756; omega, by show _ ≤ 6819431; omega⟩ rfl rfl rfl rfl (Nat.le_of_ble_eq_true rfl) (fun H locs hw => ?_)
      refine gt_stk [.int (gxHeld S i), .int (xc g0), .int (nI g0), .ref c9] rfl ?_
      refine lv_iadd hx hb dL_law_412 ?_
      refine px_ist hC g0 hK hw hcL (f4_gc hAR) dL_law_413 rfl hg0 (by omega) (fun H locs hw => ?_)
      rw [f4_sc hAR] at hw
      refine lv_aload hx hb dL_law_414 (lv_at hl 7 rfl) ?_
      refine lv_iload hx hb dL_law_416 (lv_at hl 3 rfl) ?_
      refine px_ild hC i (v := 2) hK hw haL (f4_ga hAR) dL_law_418 rfl hi (by omega) (by simp [upd, h9]) ?_
      refine gt_stk [.int 2] rfl ?_
      refine lv_iconst (v := 1) hx hb dL_law_419 (by decide) ?_
      refine lv_icmp_ne (tgt := 439) hx hb dL_law_420 (by decide) (fun _ => ?_) (fun z => absurd z (by decide))
      refine gt_inc (lv' := [(15, .int (nI (i + 1))), (14, .int (gxCnt S 2 (i + 1))), (13, .int (gxCnt S 1 (i + 1))), (16, .int (nI g0)), (12, .ref d), (11, .ref c9), (10, .ref b), (9, .ref a), (8, .int (nI G)), (7, .int (nI N)), (5, .long v5), (3, .int (nI tm)), (2, .ref (ad 0 0)), (1, .ref t), (0, .ref bb)]) hC 3 i dL_law_439 hl rfl rfl (by decide) rfl (fun ls hl => ?_)
      refine lv_goto (tgt := 133) hx hb dL_law_442 (by decide) ?_
      exact K1 ((upd xa i (S 9 i)), (upd xb i (gxUn S G N i)), (upd xc g0 ((xc g0) + (gxHeld S i))), xd, Tq1) H locs ls _ _ ⟨hw, lv_sub hl [0, 1, 2, 4, 5, 6, 7, 8, 9, 10, 11, 12, 13, 14] rfl, upd_lt (F := S 9) rfl ha9, upd_lt (F := gxUn S G N) rfl hb9, hel_up hG4 hg0 h10 hc9, lnm_no (by rw [h9]; decide) hd9⟩ (by show _ ≤ cells + 12 * (i + 1); omega) (by show _ ≤ slots + 72 * (i + 1); omega)
  · obtain ⟨xa, xb, xc, xd, Tz⟩ := z
    obtain ⟨hw, hl, ha9, hb9, hc9, hd9⟩ := hX
    dsimp only at hw ha9 hb9 hc9 hd9
    refine lv_iload hx hb dL_law_133 (lv_at hl 0 rfl) ?_
    refine lv_iload hx hb dL_law_135 (lv_at hl 8 rfl) ?_
    refine gt_ge_t (tgt := 445) hC N N dL_law_137 (by decide) rfl rfl (Nat.le_refl _) (by omega) ?_
    exact kk xa xb xc xd Tz H locs ls hw (lv_sub hl [1, 2, 3, 4, 5, 6, 7, 8, 9, 10, 11, 12, 13] rfl) ha9 hb9 hc9 (fun g hg => hd9 g hg)
