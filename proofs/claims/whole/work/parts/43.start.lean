/-! The law's start. -/
def fs0 : List Value := [.null, .null]
def fs2 : List Value := [.int 0, .int 0, .int 0, .null, .null, .null, .null, .null]
theorem inv_Z0 : Inv 0 0 Z0 Z0 := by
  refine ⟨by decide, by decide, rfl, rfl, rfl, rfl, ⟨fun k hk => by omega, fun g hg => by omega, ⟨rfl, rfl, rfl⟩, rfl⟩, fun k _ => ⟨rfl, rfl⟩, fun g _ => rfl⟩
set_option maxRecDepth 20000 in
theorem start_hs {s : State} {b : Nat} (hts : ∀ w ∈ lw_tbl, w.before #[Value.ref b] s = true) (hgv : (Jvm.Cond.and given_1 narrow_1).before #[Value.ref b] s = true) : gTh (fun q : Nat => s.heap.size ≤ q) s s.heap ∧ gNc s := by
  have hfl := flat_of_before _ hgv
  have hA : ∀ a : Nat, a < s.heap.size → ¬ s.heap.size ≤ a := fun a h => Nat.not_le.mpr h
  have st : ∀ (k : Nat) (tx : String), Cond.stringRef RX1 k tx ∈ lw_tbl → (Cond.exactly (.string RX1 k) "java/lang/String").before #[Value.ref b] s = true → ∃ a, vk_R RX1 k tx a s := by
    intro k tx h1 h2
    obtain ⟨a, c, cell, kk, q1, -⟩ := Cond.exactly_spec h2
    exact ⟨a, vk_R.of (hts _ h1) q1⟩
  refine ⟨⟨?_, ?_, ⟨?_, ?_, ?_, ?_, ?_, ?_, ?_, ?_, ?_⟩, ⟨?_, ?_, ?_⟩, ?_, ?_, ?_⟩, ?_, ?_, ?_⟩
  · exact vx_Zqof (hts _ (by decide +kernel)) (hts _ (by decide +kernel)) (hfl _ (by decide +kernel)) hA
  · exact vx_Zqof (hts _ (by decide +kernel)) (hts _ (by decide +kernel)) (hfl _ (by decide +kernel)) hA
  · exact st _ _ (by decide +kernel) (hfl _ (by decide +kernel))
  · exact st _ _ (by decide +kernel) (hfl _ (by decide +kernel))
  · exact st _ _ (by decide +kernel) (hfl _ (by decide +kernel))
  · exact st _ _ (by decide +kernel) (hfl _ (by decide +kernel))
  · exact st _ _ (by decide +kernel) (hfl _ (by decide +kernel))
  · exact st _ _ (by decide +kernel) (hfl _ (by decide +kernel))
  · exact st _ _ (by decide +kernel) (hfl _ (by decide +kernel))
  · exact st _ _ (by decide +kernel) (hfl _ (by decide +kernel))
  · exact st _ _ (by decide +kernel) (hfl _ (by decide +kernel))
  · exact va_Nw.of rfl (hts _ (by decide +kernel))
  · exact va_Nw.of rfl (hts _ (by decide +kernel))
  · exact va_Nw.of rfl (hts _ (by decide +kernel))
  · exact va_Nw.of rfl (hts _ (by decide +kernel))
  · exact va_Nw.of rfl (hts _ (by decide +kernel))
  · exact va_Nw.of rfl (hts _ (by decide +kernel))
  · exact va_Nc.of (hfl _ (by decide +kernel))
  · exact va_Nc.of (hfl _ (by decide +kernel))
  · exact va_Nc.of (hfl _ (by decide +kernel))
theorem start_D {s : State} {b : Nat} (hts : ∀ w ∈ lw_tbl, w.before #[Value.ref b] s = true) : ∃ (D : va_G) (cI : ClassId), va_K D vwCl [(cI, .int)] s := by
  obtain ⟨c0, iS0, hKn0⟩ := u_known (C := RX0) (T := TX0) (N := 17) (n := 17) hts inX0 (hts (.instantiable RX0 17) (by decide +kernel))
  obtain ⟨c1, iS1, hKn1⟩ := u_known (C := RX1) (T := TX1) (N := 2) (n := 2) hts inX1 (hts (.instantiable RX1 2) (by decide +kernel))
  obtain ⟨c2, iS2, hKn2⟩ := u_known (C := RX2) (T := TX2) (N := 8) (n := 8) hts inX2 (hts (.instantiable RX2 8) (by decide +kernel))
  obtain ⟨cI, kA, comp, h1, h2, h3⟩ := Cond.arrayClass_spec (hts (.arrayClass .int) (by decide +kernel))
  refine ⟨(fun k => if k = 0 then c0 else if k = 1 then c1 else c2, fun k => if k = 0 then iS0 else if k = 1 then iS1 else iS2), cI, ?_, ?_⟩
  · intro k q hq
    match k, hq with
    | 0, hq => cases hq; exact hKn0
    | 1, hq => cases hq; exact hKn1
    | 2, hq => cases hq; exact hKn2
    | k + 3, hq => simp at hq
  · intro k q hq
    match k, hq with
    | 0, hq =>
      cases hq
      exact ⟨fun n z => ⟨fun k h => (by cases h), kA, h2, comp, h3⟩, h1⟩
    | k + 1, hq => simp at hq
