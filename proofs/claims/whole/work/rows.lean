section
-- ===== PART A: goes FIRST, ahead of the names: the tables' words, and 'selects' of the private methods out of them =====
/-- a private method of a class that the tables say can be made, by its rows of tables_1 -/
def lw_okq (q : MethodName × Nat) : Prop := (q.1.cls ≠ "java/lang/invoke/MethodHandle" ∧ q.1.cls ≠ "java/lang/invoke/VarHandle") ∧ Cond.instantiable q.1.cls q.2 ∈ tables_1 ∧ Cond.privateMethod q.1 ∈ tables_1 ∧ Cond.instanceMethod q.1 ∈ tables_1
theorem lw_p0 : lw_okq (⟨"GoatTower", "checkGate", "(I)V"⟩, 2) := ⟨⟨by decide +kernel, by decide +kernel⟩, List.mem_of_getElem? (i := 12) (by decide +kernel), List.mem_of_getElem? (i := 167) (by decide +kernel), List.mem_of_getElem? (i := 168) (by decide +kernel)⟩
theorem lw_p1 : lw_okq (⟨"java/lang/Throwable", "fillInStackTrace", "(I)Ljava/lang/Throwable;"⟩, 6) := ⟨⟨by decide +kernel, by decide +kernel⟩, List.mem_of_getElem? (i := 209) (by decide +kernel), List.mem_of_getElem? (i := 207) (by decide +kernel), List.mem_of_getElem? (i := 208) (by decide +kernel)⟩
theorem lw_p2 : lw_okq (⟨"GoatTower", "givingUpWith", "(III)I"⟩, 2) := ⟨⟨by decide +kernel, by decide +kernel⟩, List.mem_of_getElem? (i := 12) (by decide +kernel), List.mem_of_getElem? (i := 276) (by decide +kernel), List.mem_of_getElem? (i := 277) (by decide +kernel)⟩
theorem lw_p3 : lw_okq (⟨"GoatTower", "checkGoat", "(I)V"⟩, 2) := ⟨⟨by decide +kernel, by decide +kernel⟩, List.mem_of_getElem? (i := 12) (by decide +kernel), List.mem_of_getElem? (i := 317) (by decide +kernel), List.mem_of_getElem? (i := 318) (by decide +kernel)⟩
theorem lw_p4 : lw_okq (⟨"GoatTower", "checkIdle", "(I)V"⟩, 2) := ⟨⟨by decide +kernel, by decide +kernel⟩, List.mem_of_getElem? (i := 12) (by decide +kernel), List.mem_of_getElem? (i := 428) (by decide +kernel), List.mem_of_getElem? (i := 429) (by decide +kernel)⟩
theorem lw_p5 : lw_okq (⟨"GoatTowerModel", "no", "(I)I"⟩, 8) := ⟨⟨by decide +kernel, by decide +kernel⟩, List.mem_of_getElem? (i := 525) (by decide +kernel), List.mem_of_getElem? (i := 567) (by decide +kernel), List.mem_of_getElem? (i := 568) (by decide +kernel)⟩
theorem lw_p6 : lw_okq (⟨"GoatTowerModel", "isGoat", "(I)Z"⟩, 8) := ⟨⟨by decide +kernel, by decide +kernel⟩, List.mem_of_getElem? (i := 525) (by decide +kernel), List.mem_of_getElem? (i := 579) (by decide +kernel), List.mem_of_getElem? (i := 580) (by decide +kernel)⟩
theorem lw_p7 : lw_okq (⟨"GoatTowerModel", "isGate", "(I)Z"⟩, 8) := ⟨⟨by decide +kernel, by decide +kernel⟩, List.mem_of_getElem? (i := 525) (by decide +kernel), List.mem_of_getElem? (i := 583) (by decide +kernel), List.mem_of_getElem? (i := 584) (by decide +kernel)⟩
theorem lw_p8 : lw_okq (⟨"GoatTowerModel", "is", "(II)Z"⟩, 8) := ⟨⟨by decide +kernel, by decide +kernel⟩, List.mem_of_getElem? (i := 525) (by decide +kernel), List.mem_of_getElem? (i := 587) (by decide +kernel), List.mem_of_getElem? (i := 588) (by decide +kernel)⟩
theorem lw_p9 : lw_okq (⟨"GoatTowerModel", "of", "(II)I"⟩, 8) := ⟨⟨by decide +kernel, by decide +kernel⟩, List.mem_of_getElem? (i := 525) (by decide +kernel), List.mem_of_getElem? (i := 591) (by decide +kernel), List.mem_of_getElem? (i := 592) (by decide +kernel)⟩
theorem lw_p10 : lw_okq (⟨"GoatTowerModel", "write", "(IIIII)V"⟩, 8) := ⟨⟨by decide +kernel, by decide +kernel⟩, List.mem_of_getElem? (i := 525) (by decide +kernel), List.mem_of_getElem? (i := 595) (by decide +kernel), List.mem_of_getElem? (i := 596) (by decide +kernel)⟩
theorem lw_p11 : lw_okq (⟨"GoatTowerModel", "let", "(III)V"⟩, 8) := ⟨⟨by decide +kernel, by decide +kernel⟩, List.mem_of_getElem? (i := 525) (by decide +kernel), List.mem_of_getElem? (i := 599) (by decide +kernel), List.mem_of_getElem? (i := 600) (by decide +kernel)⟩
theorem lw_p12 : lw_okq (⟨"GoatTowerModel", "manyAt", "(I)I"⟩, 8) := ⟨⟨by decide +kernel, by decide +kernel⟩, List.mem_of_getElem? (i := 525) (by decide +kernel), List.mem_of_getElem? (i := 603) (by decide +kernel), List.mem_of_getElem? (i := 604) (by decide +kernel)⟩
theorem lw_p13 : lw_okq (⟨"GoatTowerModel", "isAt", "(II)Z"⟩, 8) := ⟨⟨by decide +kernel, by decide +kernel⟩, List.mem_of_getElem? (i := 525) (by decide +kernel), List.mem_of_getElem? (i := 607) (by decide +kernel), List.mem_of_getElem? (i := 608) (by decide +kernel)⟩
theorem lw_p14 : lw_okq (⟨"GoatTowerModel", "free", "(I)I"⟩, 8) := ⟨⟨by decide +kernel, by decide +kernel⟩, List.mem_of_getElem? (i := 525) (by decide +kernel), List.mem_of_getElem? (i := 615) (by decide +kernel), List.mem_of_getElem? (i := 616) (by decide +kernel)⟩
theorem lw_p15 : lw_okq (⟨"GoatTowerModel", "held", "(I)I"⟩, 8) := ⟨⟨by decide +kernel, by decide +kernel⟩, List.mem_of_getElem? (i := 525) (by decide +kernel), List.mem_of_getElem? (i := 623) (by decide +kernel), List.mem_of_getElem? (i := 624) (by decide +kernel)⟩
def lw_privs_1 : List (MethodName × Nat) := [(⟨"GoatTower", "checkGate", "(I)V"⟩, 2), (⟨"java/lang/Throwable", "fillInStackTrace", "(I)Ljava/lang/Throwable;"⟩, 6), (⟨"GoatTower", "givingUpWith", "(III)I"⟩, 2), (⟨"GoatTower", "checkGoat", "(I)V"⟩, 2), (⟨"GoatTower", "checkIdle", "(I)V"⟩, 2), (⟨"GoatTowerModel", "no", "(I)I"⟩, 8), (⟨"GoatTowerModel", "isGoat", "(I)Z"⟩, 8), (⟨"GoatTowerModel", "isGate", "(I)Z"⟩, 8), (⟨"GoatTowerModel", "is", "(II)Z"⟩, 8), (⟨"GoatTowerModel", "of", "(II)I"⟩, 8), (⟨"GoatTowerModel", "write", "(IIIII)V"⟩, 8), (⟨"GoatTowerModel", "let", "(III)V"⟩, 8), (⟨"GoatTowerModel", "manyAt", "(I)I"⟩, 8), (⟨"GoatTowerModel", "isAt", "(II)Z"⟩, 8), (⟨"GoatTowerModel", "free", "(I)I"⟩, 8), (⟨"GoatTowerModel", "held", "(I)I"⟩, 8)]
theorem lw_r1 : ∀ q ∈ lw_privs_1, lw_okq q := List.forall_mem_cons.mpr ⟨lw_p0, List.forall_mem_cons.mpr ⟨lw_p1, List.forall_mem_cons.mpr ⟨lw_p2, List.forall_mem_cons.mpr ⟨lw_p3, List.forall_mem_cons.mpr ⟨lw_p4, List.forall_mem_cons.mpr ⟨lw_p5, List.forall_mem_cons.mpr ⟨lw_p6, List.forall_mem_cons.mpr ⟨lw_p7, List.forall_mem_cons.mpr ⟨lw_p8, List.forall_mem_cons.mpr ⟨lw_p9, List.forall_mem_cons.mpr ⟨lw_p10, List.forall_mem_cons.mpr ⟨lw_p11, List.forall_mem_cons.mpr ⟨lw_p12, List.forall_mem_cons.mpr ⟨lw_p13, List.forall_mem_cons.mpr ⟨lw_p14, List.forall_mem_cons.mpr ⟨lw_p15, fun _ h => absurd h List.not_mem_nil⟩⟩⟩⟩⟩⟩⟩⟩⟩⟩⟩⟩⟩⟩⟩⟩
theorem lw_p16 : lw_okq (⟨"GoatTowerModel", "minutesOn", "(I)V"⟩, 8) := ⟨⟨by decide +kernel, by decide +kernel⟩, List.mem_of_getElem? (i := 525) (by decide +kernel), List.mem_of_getElem? (i := 631) (by decide +kernel), List.mem_of_getElem? (i := 632) (by decide +kernel)⟩
theorem lw_p17 : lw_okq (⟨"GoatTowerModel", "minuteOn", "()V"⟩, 8) := ⟨⟨by decide +kernel, by decide +kernel⟩, List.mem_of_getElem? (i := 525) (by decide +kernel), List.mem_of_getElem? (i := 635) (by decide +kernel), List.mem_of_getElem? (i := 636) (by decide +kernel)⟩
theorem lw_p18 : lw_okq (⟨"GoatTowerModel", "stay", "(I)V"⟩, 8) := ⟨⟨by decide +kernel, by decide +kernel⟩, List.mem_of_getElem? (i := 525) (by decide +kernel), List.mem_of_getElem? (i := 639) (by decide +kernel), List.mem_of_getElem? (i := 640) (by decide +kernel)⟩
theorem lw_p19 : lw_okq (⟨"GoatTowerModel", "open", "(I)V"⟩, 8) := ⟨⟨by decide +kernel, by decide +kernel⟩, List.mem_of_getElem? (i := 525) (by decide +kernel), List.mem_of_getElem? (i := 643) (by decide +kernel), List.mem_of_getElem? (i := 644) (by decide +kernel)⟩
theorem lw_p20 : lw_okq (⟨"GoatTowerModel", "next", "(I)I"⟩, 8) := ⟨⟨by decide +kernel, by decide +kernel⟩, List.mem_of_getElem? (i := 525) (by decide +kernel), List.mem_of_getElem? (i := 647) (by decide +kernel), List.mem_of_getElem? (i := 648) (by decide +kernel)⟩
theorem lw_p21 : lw_okq (⟨"GoatTowerModel", "firstAt", "(I)I"⟩, 8) := ⟨⟨by decide +kernel, by decide +kernel⟩, List.mem_of_getElem? (i := 525) (by decide +kernel), List.mem_of_getElem? (i := 651) (by decide +kernel), List.mem_of_getElem? (i := 652) (by decide +kernel)⟩
theorem lw_p22 : lw_okq (⟨"GoatTowerModel", "seem", "(I)I"⟩, 8) := ⟨⟨by decide +kernel, by decide +kernel⟩, List.mem_of_getElem? (i := 525) (by decide +kernel), List.mem_of_getElem? (i := 655) (by decide +kernel), List.mem_of_getElem? (i := 656) (by decide +kernel)⟩
theorem lw_p23 : lw_okq (⟨"GoatTowerModel", "waitOn", "(I)V"⟩, 8) := ⟨⟨by decide +kernel, by decide +kernel⟩, List.mem_of_getElem? (i := 525) (by decide +kernel), List.mem_of_getElem? (i := 659) (by decide +kernel), List.mem_of_getElem? (i := 660) (by decide +kernel)⟩
theorem lw_p24 : lw_okq (⟨"GoatTowerModel", "ok", "(I)I"⟩, 8) := ⟨⟨by decide +kernel, by decide +kernel⟩, List.mem_of_getElem? (i := 525) (by decide +kernel), List.mem_of_getElem? (i := 667) (by decide +kernel), List.mem_of_getElem? (i := 668) (by decide +kernel)⟩
theorem lw_p25 : lw_okq (⟨"GoatTowerModel", "many", "(I)I"⟩, 8) := ⟨⟨by decide +kernel, by decide +kernel⟩, List.mem_of_getElem? (i := 525) (by decide +kernel), List.mem_of_getElem? (i := 683) (by decide +kernel), List.mem_of_getElem? (i := 684) (by decide +kernel)⟩
theorem lw_p26 : lw_okq (⟨"GoatTowerModel", "starved", "()I"⟩, 8) := ⟨⟨by decide +kernel, by decide +kernel⟩, List.mem_of_getElem? (i := 525) (by decide +kernel), List.mem_of_getElem? (i := 695) (by decide +kernel), List.mem_of_getElem? (i := 696) (by decide +kernel)⟩
theorem lw_p27 : lw_okq (⟨"GoatTowerModel", "where", "(I)I"⟩, 8) := ⟨⟨by decide +kernel, by decide +kernel⟩, List.mem_of_getElem? (i := 525) (by decide +kernel), List.mem_of_getElem? (i := 731) (by decide +kernel), List.mem_of_getElem? (i := 732) (by decide +kernel)⟩
theorem lw_p28 : lw_okq (⟨"GoatTowerModel", "left", "(I)I"⟩, 8) := ⟨⟨by decide +kernel, by decide +kernel⟩, List.mem_of_getElem? (i := 525) (by decide +kernel), List.mem_of_getElem? (i := 747) (by decide +kernel), List.mem_of_getElem? (i := 748) (by decide +kernel)⟩
theorem lw_p29 : lw_okq (⟨"GoatTowerModel", "place", "(I)I"⟩, 8) := ⟨⟨by decide +kernel, by decide +kernel⟩, List.mem_of_getElem? (i := 525) (by decide +kernel), List.mem_of_getElem? (i := 759) (by decide +kernel), List.mem_of_getElem? (i := 760) (by decide +kernel)⟩
theorem lw_p30 : lw_okq (⟨"GoatTowerModel", "until", "(I)I"⟩, 8) := ⟨⟨by decide +kernel, by decide +kernel⟩, List.mem_of_getElem? (i := 525) (by decide +kernel), List.mem_of_getElem? (i := 767) (by decide +kernel), List.mem_of_getElem? (i := 768) (by decide +kernel)⟩
theorem lw_p31 : lw_okq (⟨"GoatTowerModel", "keep", "()V"⟩, 8) := ⟨⟨by decide +kernel, by decide +kernel⟩, List.mem_of_getElem? (i := 525) (by decide +kernel), List.mem_of_getElem? (i := 771) (by decide +kernel), List.mem_of_getElem? (i := 772) (by decide +kernel)⟩
def lw_privs_2 : List (MethodName × Nat) := [(⟨"GoatTowerModel", "minutesOn", "(I)V"⟩, 8), (⟨"GoatTowerModel", "minuteOn", "()V"⟩, 8), (⟨"GoatTowerModel", "stay", "(I)V"⟩, 8), (⟨"GoatTowerModel", "open", "(I)V"⟩, 8), (⟨"GoatTowerModel", "next", "(I)I"⟩, 8), (⟨"GoatTowerModel", "firstAt", "(I)I"⟩, 8), (⟨"GoatTowerModel", "seem", "(I)I"⟩, 8), (⟨"GoatTowerModel", "waitOn", "(I)V"⟩, 8), (⟨"GoatTowerModel", "ok", "(I)I"⟩, 8), (⟨"GoatTowerModel", "many", "(I)I"⟩, 8), (⟨"GoatTowerModel", "starved", "()I"⟩, 8), (⟨"GoatTowerModel", "where", "(I)I"⟩, 8), (⟨"GoatTowerModel", "left", "(I)I"⟩, 8), (⟨"GoatTowerModel", "place", "(I)I"⟩, 8), (⟨"GoatTowerModel", "until", "(I)I"⟩, 8), (⟨"GoatTowerModel", "keep", "()V"⟩, 8)]
theorem lw_r2 : ∀ q ∈ lw_privs_2, lw_okq q := List.forall_mem_cons.mpr ⟨lw_p16, List.forall_mem_cons.mpr ⟨lw_p17, List.forall_mem_cons.mpr ⟨lw_p18, List.forall_mem_cons.mpr ⟨lw_p19, List.forall_mem_cons.mpr ⟨lw_p20, List.forall_mem_cons.mpr ⟨lw_p21, List.forall_mem_cons.mpr ⟨lw_p22, List.forall_mem_cons.mpr ⟨lw_p23, List.forall_mem_cons.mpr ⟨lw_p24, List.forall_mem_cons.mpr ⟨lw_p25, List.forall_mem_cons.mpr ⟨lw_p26, List.forall_mem_cons.mpr ⟨lw_p27, List.forall_mem_cons.mpr ⟨lw_p28, List.forall_mem_cons.mpr ⟨lw_p29, List.forall_mem_cons.mpr ⟨lw_p30, List.forall_mem_cons.mpr ⟨lw_p31, fun _ h => absurd h List.not_mem_nil⟩⟩⟩⟩⟩⟩⟩⟩⟩⟩⟩⟩⟩⟩⟩⟩
theorem lw_p32 : lw_okq (⟨"GoatTowerModel", "bringBack", "()V"⟩, 8) := ⟨⟨by decide +kernel, by decide +kernel⟩, List.mem_of_getElem? (i := 525) (by decide +kernel), List.mem_of_getElem? (i := 778) (by decide +kernel), List.mem_of_getElem? (i := 779) (by decide +kernel)⟩
theorem lw_p33 : lw_okq (⟨"GoatTowerModel", "wanted", "(I)I"⟩, 8) := ⟨⟨by decide +kernel, by decide +kernel⟩, List.mem_of_getElem? (i := 525) (by decide +kernel), List.mem_of_getElem? (i := 790) (by decide +kernel), List.mem_of_getElem? (i := 791) (by decide +kernel)⟩
theorem lw_p34 : lw_okq (⟨"GoatTowerModel", "lost", "(I)I"⟩, 8) := ⟨⟨by decide +kernel, by decide +kernel⟩, List.mem_of_getElem? (i := 525) (by decide +kernel), List.mem_of_getElem? (i := 794) (by decide +kernel), List.mem_of_getElem? (i := 795) (by decide +kernel)⟩
theorem lw_p35 : lw_okq (⟨"GoatTowerModel", "better", "(I)I"⟩, 8) := ⟨⟨by decide +kernel, by decide +kernel⟩, List.mem_of_getElem? (i := 525) (by decide +kernel), List.mem_of_getElem? (i := 802) (by decide +kernel), List.mem_of_getElem? (i := 803) (by decide +kernel)⟩
theorem lw_p36 : lw_okq (⟨"GoatTowerModel", "lostBy", "(II)I"⟩, 8) := ⟨⟨by decide +kernel, by decide +kernel⟩, List.mem_of_getElem? (i := 525) (by decide +kernel), List.mem_of_getElem? (i := 806) (by decide +kernel), List.mem_of_getElem? (i := 807) (by decide +kernel)⟩
def lw_privs_3 : List (MethodName × Nat) := [(⟨"GoatTowerModel", "bringBack", "()V"⟩, 8), (⟨"GoatTowerModel", "wanted", "(I)I"⟩, 8), (⟨"GoatTowerModel", "lost", "(I)I"⟩, 8), (⟨"GoatTowerModel", "better", "(I)I"⟩, 8), (⟨"GoatTowerModel", "lostBy", "(II)I"⟩, 8)]
theorem lw_r3 : ∀ q ∈ lw_privs_3, lw_okq q := List.forall_mem_cons.mpr ⟨lw_p32, List.forall_mem_cons.mpr ⟨lw_p33, List.forall_mem_cons.mpr ⟨lw_p34, List.forall_mem_cons.mpr ⟨lw_p35, List.forall_mem_cons.mpr ⟨lw_p36, fun _ h => absurd h List.not_mem_nil⟩⟩⟩⟩⟩
def lw_privs : List (MethodName × Nat) := lw_privs_1 ++ (lw_privs_2 ++ (lw_privs_3))
def lw_tbl : List Cond := k2_sels lw_privs ++ tables_1
theorem lw_privs_ok : ∀ q ∈ lw_privs, lw_okq q := by
  show ∀ q ∈ lw_privs_1 ++ (lw_privs_2 ++ (lw_privs_3)), lw_okq q
  exact List.forall_mem_append.mpr ⟨lw_r1, List.forall_mem_append.mpr ⟨lw_r2, lw_r3⟩⟩
/-- the streams that the claim lets the run draw from -/
abbrev lw_cs : List Choice := [Jvm.Choice.named "NaN.bits"]
theorem lw_bits : nanBits ∈ lw_cs := by first | decide | exact List.mem_cons_self | simp [lw_cs, nanBits]
end
section
/-! ===== BEGIN words of one list among another's, by their places ===== -/
theorem goodIn_r {big : List Cond} (ws : List Cond) (ps : List Nat) (hp : ws = ps.filterMap (fun i => big[i]?)) (h : ws.all goodWord = true) : GoodIn big ws := by
  intro w hw
  have h1 := List.all_eq_true.mp h w hw
  rw [hp] at hw
  obtain ⟨i, -, hi⟩ := List.mem_filterMap.mp hw
  have hm : w ∈ big := by first | exact List.mem_of_getElem? hi | exact List.getElem?_mem hi
  exact ⟨hm, good_of_word h1⟩
theorem goodIn_app {big a b : List Cond} (ha : GoodIn big a) (hb : GoodIn big b) : GoodIn big (a ++ b) := fun w h => (List.mem_append.mp h).elim (ha w) (hb w)
theorem goodIn_ca {big a b : List Cond} {c : Cond} (ha : GoodIn big (c :: a)) (hb : GoodIn big b) : GoodIn big (c :: (a ++ b)) := fun w h => (List.mem_cons.mp h).elim (fun e => ha w (List.mem_cons.mpr (Or.inl e))) (fun h => (List.mem_append.mp h).elim (fun h => ha w (List.mem_cons.mpr (Or.inr h))) (hb w))
theorem goodIn_sub {big ws : List Cond} (hm : ∀ w ∈ ws, w ∈ big) (h : ws.all goodWord = true) : GoodIn big ws := fun w hw => ⟨hm w hw, good_of_word (List.all_eq_true.mp h w hw)⟩
/-! ===== END ===== -/

/-! ===== BEGIN exceptions that leave a method, and their catching by the caller (launches without stack traces) ===== -/
section VXA
/-! The laws vx_back, vx_callV, vx_callS, vx_callSW, vx_throw0, vx_throwS follow proofs of the library, with one case more: JvmDerived/Free/Laws.lean (Back.of_free), Shelf42/LK1.lean (callV, callS), Shelf/KitTraced.lean (throwNew0V, throwNewS). -/
/-- where a method has thrown q: the class by its name, the cell, what was written, the world -/
def vx_T (XC : String → State → State → Prop) (st : State) (q : Addr) (t : State) (mc ms : Nat) (free : Addr → Prop) : Prop :=
  ∃ (E : String) (ce : Cell) (L : List Loc), XC E st t ∧ t.heap[q]? = some ce ∧ ce.vm = .none ∧ st.vm.findClass E = some ce.cls ∧ st.WarmedH t.vm ∧ st.sameButNew ({ t with vm := st.vm } : State) L mc ms ∧ ∀ z ∈ L, free z.base
def vx_Q (Qc : Array Value → State → Outcome → State → Prop) (XC : String → State → State → Prop) (mc ms : Nat) (free : Addr → Prop) : Array Value → State → Outcome → State → Prop := fun a st o t =>
  (Qc a st o t ∧ ∃ L, FrameEnd st o t L mc ms ∧ ∀ q ∈ L, free q.base) ∨ ∃ q, o = .threw q ∧ vx_T XC st q t mc ms free
/-- a callee that returns or throws -/
def vx_Met (l : Launch) (y : MethodName) (ws : List Cond) (rm : Room) (Pc : Array Value → State → Prop) (Qc : Array Value → State → Outcome → State → Prop) (XC : String → State → State → Prop) (mc ms : Nat) (free : Addr → Prop) : Prop :=
  MetFree l y (headSpec ws rm) Pc (fun _ _ _ _ _ => True) (vx_Q Qc XC mc ms free)
def vx_Post (XC : String → State → State → Prop) (mc ms : Nat) (free : Addr → Prop) : Pt → Array Value → Addr → Pt → Prop := fun A a q B =>
  ∃ (g : JFrame) (mk : MethodId) (t : State) (L : List Loc) (E : String) (ce : Cell), B.U.heap = t.heap ∧ B.U.vm = t.vm ∧ XC E (A.U.calling g mk a) t ∧ t.heap[q]? = some ce ∧ ce.vm = .none ∧ A.U.vm.findClass E = some ce.cls ∧ B.locs = A.locs ++ L ∧ (∀ z ∈ L, free z.base) ∧ B.cells = A.cells + mc ∧ B.slots = A.slots + ms
def vx_Back (l : Launch) (R : Room) (p : Program) (e : Env) (below : List Frame) (s : State) (sargs : Array Value) (y : MethodName) (len W9 : Nat)
    (Pre : Pt → Array Value → Prop) (Post : Pt → Array Value → Option Value → Pt → Prop) (PostX : Pt → Array Value → Addr → Pt → Prop) : Prop :=
  ∀ (m : MethodId) (meth : Method) (c : Code) (A : Pt) (g : JFrame) (ig : Instr) (mk : MethodId) (a : Array Value),
    Stand p l e R s m sargs below meth c A.U A.locs A.cells A.slots → g.method = m → g.locals.size = c.maxLocals → decode c.code g.pc = .ok (ig, len) →
    2 * g.monitorRoom + (g.stack.map fun v => v.category).sum ≤ W9 → A.U.methodNamed? y = some mk → Pre A a →
    (∃ (v : Option Value) (B : Pt), Stand p l e R s m sargs below meth c B.U B.locs B.cells B.slots ∧ Post A a v B ∧
      Steps p.tables e below (doInvoke e (A.U.setTop g) [] mk a).1 (B.U.setTop { g with pc := g.pc + len, stack := v.toList ++ g.stack })) ∨
    (∃ (q : Addr) (B : Pt), Stand p l e R s m sargs below meth c B.U B.locs B.cells B.slots ∧ PostX A a q B ∧
      Steps p.tables e below (doInvoke e (A.U.setTop g) [] mk a).1 ((B.U.setTop g).pushFrame (.throwing q)))
section Payer
variable {l : Launch} {R : Room} {p : Program} {e : Env} {below : List Frame} {s : State} {sargs : Array Value} {y : MethodName} {len W9 : Nat}
theorem vx_back {ws : List Cond} {rm : Room} {Pc : Array Value → State → Prop} {Qc : Array Value → State → Outcome → State → Prop} {XC : String → State → State → Prop} {mc ms : Nat} {free : Addr → Prop} {bytes : ByteArray} {maxL : Nat} {ret : Option FieldType}
    (hM : vx_Met l y ws rm Pc Qc XC mc ms free) (hblind : FrameBlind Pc) (hrc : rm.cells = mc) (hrs : rm.slots = ms)
    (hframes : rm.frames + 1 ≤ R.frames) (hlocals : W9 + (maxL + 11) + rm.locals ≤ R.locals)
    (hws : ∀ w ∈ ws, ∀ a' U, s.WarmedH U.vm → w.before a' U = true) (hcode : Cond.code y bytes maxL ret ∈ ws) (hinit : ∀ a' U, s.WarmedH U.vm → (Cond.initialized y.cls).before a' U = true) :
    vx_Back l R p e below s sargs y len W9 (PreOf R mc ms Pc) (PostOf Qc mc ms free) (vx_Post XC mc ms free) := by
  intro m meth c A g ig mk a X hg hsize hdg hW hn hp
  have h1 : (headSpec ws rm).pre.before a A.U = true := atoms_intro fun w hw => hws w hw _ _ X.warmed
  have h2 : (Cond.code y bytes maxL ret).before a A.U = true := hws _ hcode _ _ X.warmed
  have h3 : (Cond.initialized y.cls).before a A.U = true := hinit _ _ X.warmed
  have h4 : A.cells + (headSpec ws rm).room.cells ≤ R.cells := by rw [show (headSpec ws rm).room.cells = mc from hrc]; exact hp.1
  have h5 : A.slots + (headSpec ws rm).room.slots ≤ R.slots := by rw [show (headSpec ws rm).room.slots = ms from hrs]; exact hp.2.1
  have hPc : Pc a (A.U.calling g mk a) := hblind _ _ _ _ hp.2.2
  obtain ⟨U, Ls, c0, s0⟩ := A
  dsimp only [Pt.U, Pt.locs, Pt.cells, Pt.slots] at h1 h2 h3 h4 h5 X hn hPc ⊢
  obtain ⟨methY, cY, hmY, hcY, -, hlY, -, -, -, -⟩ := Cond.code_spec hn h2
  obtain ⟨kY, hkY, -⟩ := className_of_methodNamed hn
  have hinitY : kY.init = .initialized := Cond.initialized_spec (findClass_of_methodNamed hn) hkY h3
  have h : At U g.method c below := by rw [hg]; exact X.here
  have hlocals9 : W9 + (maxL + 11) + (headSpec ws rm).room.locals ≤ R.locals := hlocals
  have happ : (headSpec ws rm).appliesLoose y e.platform (U.calling g mk a) = true :=
    Spec.appliesLoose_calling (g := g) h hdg hn hkY hinitY
      (X.room_calling (g := g) (R' := (headSpec ws rm).room) hsize hmY hcY hframes (by rw [hlY]; omega) h4 h5) h1
  obtain ⟨mid, hmid⟩ := h.above
  have hfr : (U.setTop g).frames = (.java g :: mid) ++ below := by rw [State.frames_setTop' g h.top, hmid]; rfl
  obtain ⟨o, s₂, hsteps, -, hend, hq⟩ := Steps.callFree hM p X.admits X.cas X.clock (acts := []) hfr happ hPc trivial
  have hq' : vx_Q Qc XC mc ms free a (U.calling g mk a) o s₂ := hq
  rw [State.frames_setTop' g h.top] at hend
  obtain ⟨g₀, hg0⟩ := Option.isSome_iff_exists.mp h.top
  obtain ⟨r, hr⟩ := State.topJava?_eq_some.mp hg0
  have hr' : (({ U with heap := s₂.heap, slotsUsed := s₂.slotsUsed } : State).setVm s₂.vm).frames = .java g₀ :: r := hr
  rcases hq' with ⟨hqc, L, hfe, hL⟩ | ⟨q, rfl, E, ce, L, hx, hce, hcv, hcl, hW₂, hsm, hL⟩
  · obtain ⟨⟨v, rfl⟩, hW₂, e2, q2, q3, q4, q5, q6⟩ := id hfe
    have e3 : s₂ = ({ (U.calling g mk a).setFrames s₂.frames with heap := s₂.heap, slotsUsed := s₂.slotsUsed } : State).setVm s₂.vm := by
      have : s₂ = ({ s₂ with vm := (U.calling g mk a).vm } : State).setVm s₂.vm := rfl
      rw [e2] at this
      exact this
    obtain ⟨c₂, i₂, len₂, hc₂, hd₂, hf₂⟩ := hend
    have hW' : U.WarmedH s₂.vm := hW₂
    have hcc : c₂ = c := by
      have h1 : s₂.code? g.method = U.code? g.method := by
        rw [State.code?_eq, State.code?_eq, hW'.alike.method?]
      exact Option.some.inj (hc₂.symm.trans (h1.trans h.code))
    subst hcc
    have hlen : len₂ = len := by rw [hdg] at hd₂; cases hd₂; rfl
    subst hlen
    have hs₂ : s₂ = (({ U with heap := s₂.heap, slotsUsed := s₂.slotsUsed } : State).setVm s₂.vm).setTop { g with pc := g.pc + len₂, stack := v.toList ++ g.stack } := by
      refine e3.trans ?_
      rw [hf₂, State.calling_eq h.top, State.setFrames_setFrames, State.setTop_of_frames _ hr', hr]
      rfl
    have hsame : U.sameButNew ({ U with heap := s₂.heap, slotsUsed := s₂.slotsUsed } : State) L mc ms := by
      refine ⟨?_, q2, q3, q4, q5, q6⟩
      obtain ⟨t, ht, -⟩ := State.frames_cons hr
      show ({ U with heap := s₂.heap, slotsUsed := s₂.slotsUsed } : State) = { U.setFrames U.frames with heap := s₂.heap, slotsUsed := s₂.slotsUsed }
      rw [State.setFrames_self ht]
    subst hg
    refine Or.inl ⟨v, ⟨(({ U with heap := s₂.heap, slotsUsed := s₂.slotsUsed } : State).setVm s₂.vm), Ls ++ L, c0 + mc, s0 + ms⟩,
      ⟨X.admits, X.cas, X.clock, X.frames, X.room, X.hears, X.method, X.code, (X.here.setHeapUsed s₂.heap s₂.slotsUsed).setVm hW'.alike, X.tail, State.WarmedH.trans X.warmed hW', X.limits, X.bytes, X.same.trans (hsame.setVm s.vm)⟩,
      ⟨g, mk, s₂, L, rfl, rfl, hqc, rfl, hL, rfl, rfl⟩, ?_⟩
    show Steps p.tables e below _ ((({ U with heap := s₂.heap, slotsUsed := s₂.slotsUsed } : State).setVm s₂.vm).setTop { g with pc := g.pc + len₂, stack := v.toList ++ g.stack })
    rw [← hs₂]
    exact hsteps
  · obtain ⟨e2, q2, q3, q4, q5, q6⟩ := id hsm
    have e3 : s₂ = ({ (U.calling g mk a).setFrames s₂.frames with heap := s₂.heap, slotsUsed := s₂.slotsUsed } : State).setVm s₂.vm := by
      have : s₂ = ({ s₂ with vm := (U.calling g mk a).vm } : State).setVm s₂.vm := rfl
      rw [e2] at this
      exact this
    have hf₂ : s₂.frames = .throwing q :: .java g :: U.frames.tail := hend
    have hW' : U.WarmedH s₂.vm := hW₂
    have hs₂ : s₂ = ((({ U with heap := s₂.heap, slotsUsed := s₂.slotsUsed } : State).setVm s₂.vm).setTop g).pushFrame (.throwing q) := by
      refine e3.trans ?_
      rw [hf₂, State.calling_eq h.top, State.setFrames_setFrames, State.pushFrame, State.frames_setTop _ hr', State.setTop_of_frames _ hr', State.setFrames_setFrames, hr]
      rfl
    have hsame : U.sameButNew ({ U with heap := s₂.heap, slotsUsed := s₂.slotsUsed } : State) L mc ms := by
      refine ⟨?_, q2, q3, q4, q5, q6⟩
      obtain ⟨t, ht, -⟩ := State.frames_cons hr
      show ({ U with heap := s₂.heap, slotsUsed := s₂.slotsUsed } : State) = { U.setFrames U.frames with heap := s₂.heap, slotsUsed := s₂.slotsUsed }
      rw [State.setFrames_self ht]
    subst hg
    refine Or.inr ⟨q, ⟨(({ U with heap := s₂.heap, slotsUsed := s₂.slotsUsed } : State).setVm s₂.vm), Ls ++ L, c0 + mc, s0 + ms⟩,
      ⟨X.admits, X.cas, X.clock, X.frames, X.room, X.hears, X.method, X.code, (X.here.setHeapUsed s₂.heap s₂.slotsUsed).setVm hW'.alike, X.tail, State.WarmedH.trans X.warmed hW', X.limits, X.bytes, X.same.trans (hsame.setVm s.vm)⟩,
      ⟨g, mk, s₂, L, E, ce, rfl, rfl, hx, hce, hcv, hcl, rfl, hL, rfl, rfl⟩, ?_⟩
    show Steps p.tables e below _ (((({ U with heap := s₂.heap, slotsUsed := s₂.slotsUsed } : State).setVm s₂.vm).setTop g).pushFrame (.throwing q))
    rw [← hs₂]
    exact hsteps
end Payer
section Calls
variable {p : Program} {l : Launch} {e : Env} {R : Room} {s : State} {m : MethodId} {args : Array Value} {below : List Frame} {meth : Method} {c : Code} {T : State} {locs : List Loc} {cells slots : Nat}
theorem vx_callV (X : Stand p l e R s m args below meth c T locs cells slots) (hexec : p.tables.exec = Jvm.exec) {own C : String} {index : Nat} {y : MethodName} {bytes : ByteArray} {maxL : Nat} {ret : Option FieldType}
    (hown : s.vm.findClass own = some m.cls) (hlink : (Cond.methodLink own index y).before args s = true) (hinst : (Cond.instanceMethod y).before args s = true) (hsel : (Cond.selects C y y).before args s = true)
    (hcode : (Cond.code y bytes maxL ret).before args s = true) (hy : y.cls ≠ "java/lang/invoke/MethodHandle" ∧ y.cls ≠ "java/lang/invoke/VarHandle")
    {W9 : Nat} {Pre : Pt → Array Value → Prop} {Post : Pt → Array Value → Option Value → Pt → Prop} {PostX : Pt → Array Value → Addr → Pt → Prop} (hK : vx_Back l R p e below s args y 3 W9 Pre Post PostX)
    {b : Addr} {cellB : Cell} (hcell : T.heap[b]? = some cellB) (hobj : cellB.vm.isStatics = false) (hcls : s.vm.findClass C = some cellB.cls)
    {g : JFrame} (hg : g.method = m) (hsize : g.locals.size = c.maxLocals) {argsL rest : List Value} (hlen : ∀ sig, parseMethodDescriptor y.desc = some sig → argsL.length = sig.parameters.length)
    (hstack : g.stack = argsL.reverse ++ .ref b :: rest) (hW : 2 * g.monitorRoom + (rest.map fun v => v.category).sum ≤ W9) (hdg : decode c.code g.pc = .ok (.invokevirtual index, 3))
    (hpre : ∀ vm₁, s.WarmedH vm₁ → Pre ⟨T.setVm vm₁, locs, cells, slots⟩ (Value.ref b :: argsL).toArray) :
    (∃ (v : Option Value) (vm₁ : Vm) (B : Pt), s.WarmedH vm₁ ∧ Stand p l e R s m args below meth c B.U B.locs B.cells B.slots ∧ Post ⟨T.setVm vm₁, locs, cells, slots⟩ (Value.ref b :: argsL).toArray v B ∧
      ∀ target, Steps p.tables e below (B.U.setTop { g with pc := g.pc + 3, stack := v.toList ++ rest }) target → Steps p.tables e below (T.setTop g) target) ∨
    (∃ (q : Addr) (vm₁ : Vm) (B : Pt), s.WarmedH vm₁ ∧ Stand p l e R s m args below meth c B.U B.locs B.cells B.slots ∧ PostX ⟨T.setVm vm₁, locs, cells, slots⟩ (Value.ref b :: argsL).toArray q B ∧
      Steps p.tables e below (T.setTop g) ((B.U.setTop { g with stack := rest }).pushFrame (.throwing q))) := by
  obtain ⟨mk, methM, hnamed, hmethM, hstM, habM⟩ := Cond.instanceMethod_spec hinst
  obtain ⟨methM', cM, hmethM', -, -, -, -, -, -, hsigM⟩ := Cond.code_spec hnamed hcode
  cases hmethM.symm.trans hmethM'
  obtain ⟨c2, r2, m2, q1, q2, q3, q4, kP, hkP, hkPi⟩ := Cond.selects_spec hsel
  cases hcls.symm.trans q1
  cases (State.methodFound?_of_named hnamed hy).symm.trans q2
  cases hnamed.symm.trans q3
  have hselP : selectMethod e.platform s.vm cellB.cls mk = .method mk := by rw [Launch.admits_selectMethod X.admits]; exact q4
  obtain ⟨vm₁, X₁, hstep₁⟩ := X.invokevirtual hexec hown hlink hnamed hmethM hstM hkP hkPi hy (a := b) (cell := cellB) hcell
    (fun z h => by rw [h] at hobj; cases hobj) hselP hmethM habM hkP hkPi (g := g) hg (argsL := argsL) (rest := rest) (hlen _ hsigM) hstack hdg
  rcases hK m meth c ⟨T.setVm vm₁, locs, cells, slots⟩ { g with stack := rest } (.invokevirtual index) mk (Value.ref b :: argsL).toArray X₁ hg hsize hdg hW (X₁.named hnamed) (hpre vm₁ X₁.warmed) with ⟨v, B, X', hpost, hsteps⟩ | ⟨q, B, X', hpost, hsteps⟩
  · exact Or.inl ⟨v, vm₁, B, X₁.warmed, X', hpost, fun target h => hstep₁ _ fun acts => by rw [doInvoke_state]; exact hsteps.trans h⟩
  · exact Or.inr ⟨q, vm₁, B, X₁.warmed, X', hpost, hstep₁ _ fun acts => by rw [doInvoke_state]; exact hsteps⟩
theorem vx_callS (X : Stand p l e R s m args below meth c T locs cells slots) (hexec : p.tables.exec = Jvm.exec) {own : String} {index : Nat} {y : MethodName} {bytes : ByteArray} {maxL : Nat} {ret : Option FieldType}
    (hown : s.vm.findClass own = some m.cls) (hlink : (Cond.methodLink own index y).before args s = true) (hstat : (Cond.static y).before args s = true) (hinit : (Cond.initialized y.cls).before args s = true)
    (hcode : (Cond.code y bytes maxL ret).before args s = true) (hy : y.cls ≠ "java/lang/invoke/MethodHandle" ∧ y.cls ≠ "java/lang/invoke/VarHandle")
    {W9 : Nat} {Pre : Pt → Array Value → Prop} {Post : Pt → Array Value → Option Value → Pt → Prop} {PostX : Pt → Array Value → Addr → Pt → Prop} (hK : vx_Back l R p e below s args y 3 W9 Pre Post PostX)
    {g : JFrame} (hg : g.method = m) (hsize : g.locals.size = c.maxLocals) {argsL rest : List Value} (hlen : ∀ sig, parseMethodDescriptor y.desc = some sig → argsL.length = sig.parameters.length)
    (hstack : g.stack = argsL.reverse ++ rest) (hW : 2 * g.monitorRoom + (rest.map fun v => v.category).sum ≤ W9) (hdg : decode c.code g.pc = .ok (.invokestatic index, 3))
    (hpre : ∀ vm₁, s.WarmedH vm₁ → Pre ⟨T.setVm vm₁, locs, cells, slots⟩ argsL.toArray) :
    (∃ (v : Option Value) (vm₁ : Vm) (B : Pt), s.WarmedH vm₁ ∧ Stand p l e R s m args below meth c B.U B.locs B.cells B.slots ∧ Post ⟨T.setVm vm₁, locs, cells, slots⟩ argsL.toArray v B ∧
      ∀ target, Steps p.tables e below (B.U.setTop { g with pc := g.pc + 3, stack := v.toList ++ rest }) target → Steps p.tables e below (T.setTop g) target) ∨
    (∃ (q : Addr) (vm₁ : Vm) (B : Pt), s.WarmedH vm₁ ∧ Stand p l e R s m args below meth c B.U B.locs B.cells B.slots ∧ PostX ⟨T.setVm vm₁, locs, cells, slots⟩ argsL.toArray q B ∧
      Steps p.tables e below (T.setTop g) ((B.U.setTop { g with stack := rest }).pushFrame (.throwing q))) := by
  obtain ⟨mk, hnamed⟩ := Cond.code_named hcode
  obtain ⟨methM, cM, hmethM, -, -, -, -, -, -, hsigM⟩ := Cond.code_spec hnamed hcode
  have hstatic : methM.isStatic = true := Cond.static_spec hnamed hmethM hstat
  obtain ⟨kP, hkP, -⟩ := className_of_methodNamed hnamed
  have hinitP : kP.init = .initialized := Cond.initialized_spec (findClass_of_methodNamed hnamed) hkP hinit
  obtain ⟨vm₁, X₁, hstep₁⟩ := X.invokestatic hexec hown hlink hnamed hmethM hstatic hkP hinitP hy (g := g) hg (argsL := argsL) (rest := rest) (hlen _ hsigM) hstack hdg
  rcases hK m meth c ⟨T.setVm vm₁, locs, cells, slots⟩ { g with stack := rest } (.invokestatic index) mk argsL.toArray X₁ hg hsize hdg hW (X₁.named hnamed) (hpre vm₁ X₁.warmed) with ⟨v, B, X', hpost, hsteps⟩ | ⟨q, B, X', hpost, hsteps⟩
  · exact Or.inl ⟨v, vm₁, B, X₁.warmed, X', hpost, fun target h => hstep₁ _ fun acts => by rw [doInvoke_state]; exact hsteps.trans h⟩
  · exact Or.inr ⟨q, vm₁, B, X₁.warmed, X', hpost, hstep₁ _ fun acts => by rw [doInvoke_state]; exact hsteps⟩
end Calls
theorem vx_cls {s : State} {T : State} {vm₁ : Vm} {E : String} {k : ClassId} (hW : s.WarmedH vm₁) (h : (T.setVm vm₁).vm.findClass E = some k) : s.vm.findClass E = some k := by
  have h1 : vm₁.findClass E = some k := h
  rw [hW.alike.findClass] at h1
  exact h1
/-- the method's frame g, with q thrown over it -/
def vx_W (p : Program) (l : Launch) (e : Env) (R : Room) (s : State) (m : MethodId) (args : Array Value) (below : List Frame) (meth : Method) (c : Code) (H : Heap) (locs : List Loc) (cells slots : Nat) (Q : State → Prop) (g : JFrame) (q : Addr) : Prop :=
  ∀ T : State, T.heap = H → Stand p l e R s m args below meth c T locs cells slots → ∃ t, Steps p.tables e below ((T.setTop g).pushFrame (.throwing q)) t ∧ Q t
def vx_Run (p : Program) (l : Launch) (e : Env) (R : Room) (s : State) (m : MethodId) (args : Array Value) (below : List Frame) (meth : Method) (c : Code) (H : Heap) (locs : List Loc) (cells slots mc ms : Nat) (g : JFrame) (rest : List Value) (Qa : State → Outcome → State → Prop) (XC : String → State → State → Prop) (free : Addr → Prop) : Prop :=
  ∀ T : State, T.heap = H → Stand p l e R s m args below meth c T locs cells slots →
    (∃ (v : Option Value) (st₀ t T' : State) (L : List Loc), st₀.heap = H ∧ Stand p l e R s m args below meth c T' (locs ++ L) (cells + mc) (slots + ms) ∧ (∀ q ∈ L, free q.base) ∧ T'.heap = t.heap ∧ T'.vm = t.vm ∧ Qa st₀ (.returned v) t ∧
      Goes p e below T g T' { g with pc := g.pc + 3, stack := v.toList ++ rest }) ∨
    (∃ (q : Addr) (st₀ t T' : State) (L : List Loc) (E : String) (ce : Cell), st₀.heap = H ∧ Stand p l e R s m args below meth c T' (locs ++ L) (cells + mc) (slots + ms) ∧ (∀ z ∈ L, free z.base) ∧ T'.heap = t.heap ∧ T'.vm = t.vm ∧ XC E st₀ t ∧ t.heap[q]? = some ce ∧ ce.vm = .none ∧ s.vm.findClass E = some ce.cls ∧
      Steps p.tables e below (T.setTop g) ((T'.setTop { g with stack := rest }).pushFrame (.throwing q)))
def vx_X {S : Type} (px : S → Prop) (B : String → S → State → Prop) (A : Nat → Prop) : String → State → State → Prop := fun E st t => ∃ u : S, px u ∧ B E u t ∧ va_F A st t
section Runs
variable {p : Program} {l : Launch} {e : Env} {R : Room} {s : State} {m : MethodId} {args : Array Value} {below : List Frame} {meth : Method} {c : Code} {H : Heap} {locs : List Loc} {cells slots : Nat}
variable {y : MethodName} {bytes cc : ByteArray} {maxL nL mc ms n index : Nat} {ret : Option FieldType} {ws : List Cond} {rm : Room} {Pc : Array Value → State → Prop} {Qc : Array Value → State → Outcome → State → Prop} {XC : String → State → State → Prop} {free : Addr → Prop} {Ts : List Cond} {own C : String} {b : Addr} {As rest : List Value} {g : JFrame}
theorem vx_callBack (cb : CallB R s args own index y bytes maxL ret ws rm mc ms n) (hM : vx_Met l y ws rm Pc Qc XC mc ms free) (hbl : FrameBlind Pc) : vx_Back l R p e below s args y 3 8 (PreOf R mc ms Pc) (PostOf Qc mc ms free) (vx_Post XC mc ms free) := by
  obtain ⟨hrc, hrs, hfr, hlo, hws, hcw, -, hini, -⟩ := cb
  exact vx_back (bytes := bytes) (maxL := maxL) (ret := ret) hM hbl hrc hrs hfr hlo hws hcw (fun a' U hW => word_at hW (Or.inl (by first | rfl | simp [Cond.onTables, Cond.keeps, Cond.steady])) hini)
theorem vx_runV (S : CallFix p m c cc nL s args Ts own) (hM : vx_Met l y ws rm Pc Qc XC mc ms free) (cw : CallW R s args own C index y bytes maxL ret ws rm mc ms n) (hp : PreV s H C b Pc As)
    (hg : g.method = m) (hn : As.length = n) (hsize : g.locals.size = nL) (hstack : g.stack = As.reverse ++ .ref b :: rest) (hW : 2 * g.monitorRoom + (rest.map fun v => v.category).sum ≤ 8) (hdg : decode cc g.pc = .ok (.invokevirtual index, 3)) (hf : cells + mc ≤ R.cells ∧ slots + ms ≤ R.slots) :
    vx_Run p l e R s m args below meth c H locs cells slots mc ms g rest (Qc (Value.ref b :: As).toArray) XC free := by
  have hK : vx_Back l R p e below s args y 3 8 (PreOf R mc ms Pc) (PostOf Qc mc ms free) (vx_Post XC mc ms free) := vx_callBack cw.1 hM hp.1
  obtain ⟨⟨-, -, -, -, -, -, hcode, -, hy, hlen, hl⟩, hin, hse⟩ := cw
  obtain ⟨hx, hb, hml, ho, -⟩ := S
  obtain ⟨-, ⟨cellB, hcB, hoB, hclB⟩, hPc⟩ := hp
  intro T hT X
  rcases vx_callV X hx (C := C) (bytes := bytes) (maxL := maxL) (ret := ret) ho hl hin hse hcode hy hK (by rw [hT]; exact hcB) hoB hclB hg (hsize.trans hml.symm) (argsL := As) (rest := rest) (fun sig h => hn.trans (hlen sig h)) hstack hW (by rw [hb]; exact hdg)
    (fun vm₁ hW₁ => ⟨hf.1, hf.2, hPc (T.setVm vm₁) hT hW₁⟩) with ⟨v, vm₁, ⟨U', l2, c2, s2⟩, hW₁, X', ⟨g', mk, t, L, e1, e2, hq, h1, hL, h2, h3⟩, st⟩ | ⟨q, vm₁, ⟨U', l2, c2, s2⟩, hW₁, X', ⟨g', mk, t, L, E, ce, e1, e2, hq, hce, hcv, hcl, h1, hL, h2, h3⟩, st⟩
  · dsimp only [Pt.U, Pt.locs, Pt.cells, Pt.slots] at X' e1 e2 h1 h2 h3 st
    subst h1; subst h2; subst h3
    exact Or.inl ⟨v, (T.setVm vm₁).calling g' mk (Value.ref b :: As).toArray, t, U', L, hT, X', hL, e1, e2, hq, st⟩
  · dsimp only [Pt.U, Pt.locs, Pt.cells, Pt.slots] at X' e1 e2 h1 h2 h3 st hcl
    subst h1; subst h2; subst h3
    exact Or.inr ⟨q, (T.setVm vm₁).calling g' mk (Value.ref b :: As).toArray, t, U', L, E, ce, hT, X', hL, e1, e2, hq, hce, hcv, vx_cls hW₁ hcl, st⟩
theorem vx_runS (S : CallFix p m c cc nL s args Ts own) (hM : vx_Met l y ws rm Pc Qc XC mc ms free) (cw : CallB R s args own index y bytes maxL ret ws rm mc ms n ∧ (Cond.static y).before args s = true) (hp : PreS s H Pc As)
    (hg : g.method = m) (hn : As.length = n) (hsize : g.locals.size = nL) (hstack : g.stack = As.reverse ++ rest) (hW : 2 * g.monitorRoom + (rest.map fun v => v.category).sum ≤ 8) (hdg : decode cc g.pc = .ok (.invokestatic index, 3)) (hf : cells + mc ≤ R.cells ∧ slots + ms ≤ R.slots) :
    vx_Run p l e R s m args below meth c H locs cells slots mc ms g rest (Qc As.toArray) XC free := by
  have hK : vx_Back l R p e below s args y 3 8 (PreOf R mc ms Pc) (PostOf Qc mc ms free) (vx_Post XC mc ms free) := vx_callBack cw.1 hM hp.1
  obtain ⟨⟨-, -, -, -, -, -, hcode, hini, hy, hlen, hl⟩, hstt⟩ := cw
  obtain ⟨hx, hb, hml, ho, -⟩ := S
  intro T hT X
  rcases vx_callS X hx (bytes := bytes) (maxL := maxL) (ret := ret) ho hl hstt hini hcode hy hK hg (hsize.trans hml.symm) (argsL := As) (rest := rest) (fun sig h => hn.trans (hlen sig h)) hstack hW (by rw [hb]; exact hdg)
    (fun vm₁ hW₁ => ⟨hf.1, hf.2, hp.2 (T.setVm vm₁) hT hW₁⟩) with ⟨v, vm₁, ⟨U', l2, c2, s2⟩, hW₁, X', ⟨g', mk, t, L, e1, e2, hq, h1, hL, h2, h3⟩, st⟩ | ⟨q, vm₁, ⟨U', l2, c2, s2⟩, hW₁, X', ⟨g', mk, t, L, E, ce, e1, e2, hq, hce, hcv, hcl, h1, hL, h2, h3⟩, st⟩
  · dsimp only [Pt.U, Pt.locs, Pt.cells, Pt.slots] at X' e1 e2 h1 h2 h3 st
    subst h1; subst h2; subst h3
    exact Or.inl ⟨v, (T.setVm vm₁).calling g' mk As.toArray, t, U', L, hT, X', hL, e1, e2, hq, st⟩
  · dsimp only [Pt.U, Pt.locs, Pt.cells, Pt.slots] at X' e1 e2 h1 h2 h3 st hcl
    subst h1; subst h2; subst h3
    exact Or.inr ⟨q, (T.setVm vm₁).calling g' mk As.toArray, t, U', L, E, ce, hT, X', hL, e1, e2, hq, hce, hcv, vx_cls hW₁ hcl, st⟩
end Runs
section Rows
variable {p : Program} {l : Launch} {e : Env} {R : Room} {s : State} {m : MethodId} {args : Array Value} {below : List Frame} {meth : Method} {c : Code} {H : Heap} {locs : List Loc} {cells slots : Nat} {Q : State → Prop}
variable {mc ms : Nat} {free : Addr → Prop} {A0 A1 : Nat → Prop} {H0 : Heap} {a : Array Value} {pc : Nat} {ls : Array Slot} {st0 rest : List Value}
theorem vx_keep {st₀ t T' : State} {L : List Loc} (h0 : st₀.heap = H) (e1 : T'.heap = t.heap) (hS : va_S A0 H0 H locs) (hA : ∀ q, q < H.size → A1 q → A0 q) (hf : ∀ q, free q → A0 q) (hL : ∀ q ∈ L, free q.base) (hF : va_F A1 st₀ t) :
    H.size ≤ T'.heap.size ∧ (∀ q : Nat, q < H.size → ¬ A1 q → T'.heap[q]? = H[q]?) ∧ va_S A0 H0 T'.heap (locs ++ L) := by
  obtain ⟨hz, hk⟩ := hF
  rw [h0] at hz hk
  exact ⟨by rw [e1]; exact hz, fun q h1 h2 => by rw [e1]; exact hk q h1 h2,
    ⟨Nat.le_trans hS.1 (by rw [e1]; exact hz), fun q h1 h2 => by rw [e1, hk q (Nat.lt_of_lt_of_le h1 hS.1) (fun z => h2 (hA q (Nat.lt_of_lt_of_le h1 hS.1) z))]; exact hS.2.1 q h1 h2, fun q hq => by
      rcases List.mem_append.mp hq with h | h
      · exact hS.2.2 q h
      · exact hf _ (hL q h)⟩⟩
theorem vx_calli {S SX : Type} {post : Int32 → S → Prop} {px : SX → Prop} {B : S → State → Prop} {BX : String → SX → State → Prop} {AX : Nat → Prop} (hr : vx_Run p l e R s m args below meth c H locs cells slots mc ms (F0 m pc ls st0) rest (va_Qi post B A1 a) (vx_X px BX AX) free) (hS : va_S A0 H0 H locs) (hA : ∀ q, q < H.size → A1 q → A0 q) (hf : ∀ q, free q → A0 q) (hAX : ∀ q, q < H.size → AX q → A0 q)
    (kx : ∀ (E : String) (ce : Cell) (q9 : Addr) (u : SX) (t : State) (H1 : Heap) (locs1 : List Loc), t.heap = H1 → s.vm.Alike t.vm → px u → BX E u t → H.size ≤ H1.size → (∀ q : Nat, q < H.size → ¬ AX q → H1[q]? = H[q]?) → va_S A0 H0 H1 locs1 → H1[q9]? = some ce → ce.vm = .none → s.vm.findClass E = some ce.cls → vx_W p l e R s m args below meth c H1 locs1 (cells + mc) (slots + ms) Q (F0 m pc ls rest) q9)
    (kk : ∀ (r : Int32) (u : S) (t : State) (H1 : Heap) (locs1 : List Loc), t.heap = H1 → s.vm.Alike t.vm → post r u → B u t → H.size ≤ H1.size → (∀ q : Nat, q < H.size → ¬ A1 q → H1[q]? = H[q]?) → va_S A0 H0 H1 locs1 → W p l e R s m args below meth c H1 locs1 (cells + mc) (slots + ms) Q (F0 m (pc + 3) ls (.int r :: rest))) : W p l e R s m args below meth c H locs cells slots Q (F0 m pc ls st0) := by
  intro T hT X
  rcases hr T hT X with ⟨v, st₀, t, T', L, h0, X', hL, e1, e2, ⟨⟨r, u, hv, hp, hb⟩, hF⟩, st⟩ | ⟨q, st₀, t, T', L, E, ce, h0, X', hL, e1, e2, ⟨u, hp, hb, hF⟩, hce, hcv, hcl, st⟩
  · cases hv
    obtain ⟨k1, k2, k3⟩ := vx_keep h0 e1 hS hA hf hL hF
    obtain ⟨t2, a1, b1⟩ := kk r u t T'.heap (locs ++ L) e1.symm (by rw [← e2]; exact X'.warmed.alike) hp hb k1 k2 k3 T' rfl X'
    exact ⟨t2, st t2 a1, b1⟩
  · obtain ⟨k1, k2, k3⟩ := vx_keep h0 e1 hS hAX hf hL hF
    obtain ⟨t2, a1, b1⟩ := kx E ce q u t T'.heap (locs ++ L) e1.symm (by rw [← e2]; exact X'.warmed.alike) hp hb k1 k2 k3 (by rw [e1]; exact hce) hcv hcl T' rfl X'
    exact ⟨t2, st.trans a1, b1⟩
theorem vx_calll {S SX : Type} {post : Int64 → S → Prop} {px : SX → Prop} {B : S → State → Prop} {BX : String → SX → State → Prop} {AX : Nat → Prop} (hr : vx_Run p l e R s m args below meth c H locs cells slots mc ms (F0 m pc ls st0) rest (va_Ql post B A1 a) (vx_X px BX AX) free) (hS : va_S A0 H0 H locs) (hA : ∀ q, q < H.size → A1 q → A0 q) (hf : ∀ q, free q → A0 q) (hAX : ∀ q, q < H.size → AX q → A0 q)
    (kx : ∀ (E : String) (ce : Cell) (q9 : Addr) (u : SX) (t : State) (H1 : Heap) (locs1 : List Loc), t.heap = H1 → s.vm.Alike t.vm → px u → BX E u t → H.size ≤ H1.size → (∀ q : Nat, q < H.size → ¬ AX q → H1[q]? = H[q]?) → va_S A0 H0 H1 locs1 → H1[q9]? = some ce → ce.vm = .none → s.vm.findClass E = some ce.cls → vx_W p l e R s m args below meth c H1 locs1 (cells + mc) (slots + ms) Q (F0 m pc ls rest) q9)
    (kk : ∀ (r : Int64) (u : S) (t : State) (H1 : Heap) (locs1 : List Loc), t.heap = H1 → s.vm.Alike t.vm → post r u → B u t → H.size ≤ H1.size → (∀ q : Nat, q < H.size → ¬ A1 q → H1[q]? = H[q]?) → va_S A0 H0 H1 locs1 → W p l e R s m args below meth c H1 locs1 (cells + mc) (slots + ms) Q (F0 m (pc + 3) ls (.long r :: rest))) : W p l e R s m args below meth c H locs cells slots Q (F0 m pc ls st0) := by
  intro T hT X
  rcases hr T hT X with ⟨v, st₀, t, T', L, h0, X', hL, e1, e2, ⟨⟨r, u, hv, hp, hb⟩, hF⟩, st⟩ | ⟨q, st₀, t, T', L, E, ce, h0, X', hL, e1, e2, ⟨u, hp, hb, hF⟩, hce, hcv, hcl, st⟩
  · cases hv
    obtain ⟨k1, k2, k3⟩ := vx_keep h0 e1 hS hA hf hL hF
    obtain ⟨t2, a1, b1⟩ := kk r u t T'.heap (locs ++ L) e1.symm (by rw [← e2]; exact X'.warmed.alike) hp hb k1 k2 k3 T' rfl X'
    exact ⟨t2, st t2 a1, b1⟩
  · obtain ⟨k1, k2, k3⟩ := vx_keep h0 e1 hS hAX hf hL hF
    obtain ⟨t2, a1, b1⟩ := kx E ce q u t T'.heap (locs ++ L) e1.symm (by rw [← e2]; exact X'.warmed.alike) hp hb k1 k2 k3 (by rw [e1]; exact hce) hcv hcl T' rfl X'
    exact ⟨t2, st.trans a1, b1⟩
theorem vx_callf {S SX : Type} {post : UInt32 → S → Prop} {px : SX → Prop} {B : S → State → Prop} {BX : String → SX → State → Prop} {AX : Nat → Prop} (hr : vx_Run p l e R s m args below meth c H locs cells slots mc ms (F0 m pc ls st0) rest (va_Qf post B A1 a) (vx_X px BX AX) free) (hS : va_S A0 H0 H locs) (hA : ∀ q, q < H.size → A1 q → A0 q) (hf : ∀ q, free q → A0 q) (hAX : ∀ q, q < H.size → AX q → A0 q)
    (kx : ∀ (E : String) (ce : Cell) (q9 : Addr) (u : SX) (t : State) (H1 : Heap) (locs1 : List Loc), t.heap = H1 → s.vm.Alike t.vm → px u → BX E u t → H.size ≤ H1.size → (∀ q : Nat, q < H.size → ¬ AX q → H1[q]? = H[q]?) → va_S A0 H0 H1 locs1 → H1[q9]? = some ce → ce.vm = .none → s.vm.findClass E = some ce.cls → vx_W p l e R s m args below meth c H1 locs1 (cells + mc) (slots + ms) Q (F0 m pc ls rest) q9)
    (kk : ∀ (r : UInt32) (u : S) (t : State) (H1 : Heap) (locs1 : List Loc), t.heap = H1 → s.vm.Alike t.vm → post r u → B u t → H.size ≤ H1.size → (∀ q : Nat, q < H.size → ¬ A1 q → H1[q]? = H[q]?) → va_S A0 H0 H1 locs1 → W p l e R s m args below meth c H1 locs1 (cells + mc) (slots + ms) Q (F0 m (pc + 3) ls (.float r :: rest))) : W p l e R s m args below meth c H locs cells slots Q (F0 m pc ls st0) := by
  intro T hT X
  rcases hr T hT X with ⟨v, st₀, t, T', L, h0, X', hL, e1, e2, ⟨⟨r, u, hv, hp, hb⟩, hF⟩, st⟩ | ⟨q, st₀, t, T', L, E, ce, h0, X', hL, e1, e2, ⟨u, hp, hb, hF⟩, hce, hcv, hcl, st⟩
  · cases hv
    obtain ⟨k1, k2, k3⟩ := vx_keep h0 e1 hS hA hf hL hF
    obtain ⟨t2, a1, b1⟩ := kk r u t T'.heap (locs ++ L) e1.symm (by rw [← e2]; exact X'.warmed.alike) hp hb k1 k2 k3 T' rfl X'
    exact ⟨t2, st t2 a1, b1⟩
  · obtain ⟨k1, k2, k3⟩ := vx_keep h0 e1 hS hAX hf hL hF
    obtain ⟨t2, a1, b1⟩ := kx E ce q u t T'.heap (locs ++ L) e1.symm (by rw [← e2]; exact X'.warmed.alike) hp hb k1 k2 k3 (by rw [e1]; exact hce) hcv hcl T' rfl X'
    exact ⟨t2, st.trans a1, b1⟩
theorem vx_calld {S SX : Type} {post : UInt64 → S → Prop} {px : SX → Prop} {B : S → State → Prop} {BX : String → SX → State → Prop} {AX : Nat → Prop} (hr : vx_Run p l e R s m args below meth c H locs cells slots mc ms (F0 m pc ls st0) rest (va_Qd post B A1 a) (vx_X px BX AX) free) (hS : va_S A0 H0 H locs) (hA : ∀ q, q < H.size → A1 q → A0 q) (hf : ∀ q, free q → A0 q) (hAX : ∀ q, q < H.size → AX q → A0 q)
    (kx : ∀ (E : String) (ce : Cell) (q9 : Addr) (u : SX) (t : State) (H1 : Heap) (locs1 : List Loc), t.heap = H1 → s.vm.Alike t.vm → px u → BX E u t → H.size ≤ H1.size → (∀ q : Nat, q < H.size → ¬ AX q → H1[q]? = H[q]?) → va_S A0 H0 H1 locs1 → H1[q9]? = some ce → ce.vm = .none → s.vm.findClass E = some ce.cls → vx_W p l e R s m args below meth c H1 locs1 (cells + mc) (slots + ms) Q (F0 m pc ls rest) q9)
    (kk : ∀ (r : UInt64) (u : S) (t : State) (H1 : Heap) (locs1 : List Loc), t.heap = H1 → s.vm.Alike t.vm → post r u → B u t → H.size ≤ H1.size → (∀ q : Nat, q < H.size → ¬ A1 q → H1[q]? = H[q]?) → va_S A0 H0 H1 locs1 → W p l e R s m args below meth c H1 locs1 (cells + mc) (slots + ms) Q (F0 m (pc + 3) ls (.double r :: rest))) : W p l e R s m args below meth c H locs cells slots Q (F0 m pc ls st0) := by
  intro T hT X
  rcases hr T hT X with ⟨v, st₀, t, T', L, h0, X', hL, e1, e2, ⟨⟨r, u, hv, hp, hb⟩, hF⟩, st⟩ | ⟨q, st₀, t, T', L, E, ce, h0, X', hL, e1, e2, ⟨u, hp, hb, hF⟩, hce, hcv, hcl, st⟩
  · cases hv
    obtain ⟨k1, k2, k3⟩ := vx_keep h0 e1 hS hA hf hL hF
    obtain ⟨t2, a1, b1⟩ := kk r u t T'.heap (locs ++ L) e1.symm (by rw [← e2]; exact X'.warmed.alike) hp hb k1 k2 k3 T' rfl X'
    exact ⟨t2, st t2 a1, b1⟩
  · obtain ⟨k1, k2, k3⟩ := vx_keep h0 e1 hS hAX hf hL hF
    obtain ⟨t2, a1, b1⟩ := kx E ce q u t T'.heap (locs ++ L) e1.symm (by rw [← e2]; exact X'.warmed.alike) hp hb k1 k2 k3 (by rw [e1]; exact hce) hcv hcl T' rfl X'
    exact ⟨t2, st.trans a1, b1⟩
theorem vx_callv {S SX : Type} {post : S → Prop} {px : SX → Prop} {B : S → State → Prop} {BX : String → SX → State → Prop} {AX : Nat → Prop} (hr : vx_Run p l e R s m args below meth c H locs cells slots mc ms (F0 m pc ls st0) rest (va_Qv post B A1 a) (vx_X px BX AX) free) (hS : va_S A0 H0 H locs) (hA : ∀ q, q < H.size → A1 q → A0 q) (hf : ∀ q, free q → A0 q) (hAX : ∀ q, q < H.size → AX q → A0 q)
    (kx : ∀ (E : String) (ce : Cell) (q9 : Addr) (u : SX) (t : State) (H1 : Heap) (locs1 : List Loc), t.heap = H1 → s.vm.Alike t.vm → px u → BX E u t → H.size ≤ H1.size → (∀ q : Nat, q < H.size → ¬ AX q → H1[q]? = H[q]?) → va_S A0 H0 H1 locs1 → H1[q9]? = some ce → ce.vm = .none → s.vm.findClass E = some ce.cls → vx_W p l e R s m args below meth c H1 locs1 (cells + mc) (slots + ms) Q (F0 m pc ls rest) q9)
    (kk : ∀ (u : S) (t : State) (H1 : Heap) (locs1 : List Loc), t.heap = H1 → s.vm.Alike t.vm → post u → B u t → H.size ≤ H1.size → (∀ q : Nat, q < H.size → ¬ A1 q → H1[q]? = H[q]?) → va_S A0 H0 H1 locs1 → W p l e R s m args below meth c H1 locs1 (cells + mc) (slots + ms) Q (F0 m (pc + 3) ls (rest))) : W p l e R s m args below meth c H locs cells slots Q (F0 m pc ls st0) := by
  intro T hT X
  rcases hr T hT X with ⟨v, st₀, t, T', L, h0, X', hL, e1, e2, ⟨⟨u, hv, hp, hb⟩, hF⟩, st⟩ | ⟨q, st₀, t, T', L, E, ce, h0, X', hL, e1, e2, ⟨u, hp, hb, hF⟩, hce, hcv, hcl, st⟩
  · cases hv
    obtain ⟨k1, k2, k3⟩ := vx_keep h0 e1 hS hA hf hL hF
    obtain ⟨t2, a1, b1⟩ := kk u t T'.heap (locs ++ L) e1.symm (by rw [← e2]; exact X'.warmed.alike) hp hb k1 k2 k3 T' rfl X'
    exact ⟨t2, st t2 a1, b1⟩
  · obtain ⟨k1, k2, k3⟩ := vx_keep h0 e1 hS hAX hf hL hF
    obtain ⟨t2, a1, b1⟩ := kx E ce q u t T'.heap (locs ++ L) e1.symm (by rw [← e2]; exact X'.warmed.alike) hp hb k1 k2 k3 (by rw [e1]; exact hce) hcv hcl T' rfl X'
    exact ⟨t2, st.trans a1, b1⟩
/-- caught by the row x of this method's table; the rows ahead don't take it -/
theorem vx_catch {own name : String} {E : String} {ce : Cell} {q : Addr} (hown : s.vm.findClass own = some m.cls) (pre : List ExceptionTableEntry) (x : ExceptionTableEntry) (suf : List ExceptionTableEntry) (hsplit : c.exceptionTable.toList = pre ++ x :: suf)
    (hpass : ∀ z ∈ pre, covers z pc = false ∨ (z.catchType ≠ 0 ∧ ∃ nm : String, (Cond.classLink own z.catchType nm).before args s = true ∧ va_Nc E nm s)) (hx : covers x pc = true) (h0 : x.catchType ≠ 0)
    (hlink : (Cond.classLink own x.catchType name).before args s = true) (hcast : (Cond.castable E name).before args s = true) (hcell : H[q]? = some ce) (hv : ce.vm = .none) (hcl : s.vm.findClass E = some ce.cls)
    (kk : W p l e R s m args below meth c H locs cells slots Q (F0 m x.handlerPc ls [.ref q])) : vx_W p l e R s m args below meth c H locs cells slots Q (F0 m pc ls rest) q := by
  intro T hT X
  have hpl : e.platform.magicAccessors = ({} : Platform).magicAccessors := by rw [X.admits.platform]
  obtain ⟨c3, c4, hc3, hc4, hasg⟩ := Cond.castable_spec hcast
  cases Option.some.inj (hc3.symm.trans hcl)
  obtain ⟨c5, hc5, hcl5⟩ := Cond.classLink_spec hown hlink e.platform hpl
  cases Option.some.inj (hc4.symm.trans hc5)
  obtain ⟨vm', X', st⟩ := X.thenCaughtThrough q (g := F0 m pc ls rest) rfl (Steps.refl _) (by rw [hT]; exact hcell) (by rw [hv]; rfl) (by obtain ⟨k9, h9, -⟩ := Vm.findClass_spec hcl; exact ⟨k9, h9⟩) pre x suf hsplit
    (fun z hz => by
      rcases hpass z hz with h | ⟨hz0, nm, hl1, hn1⟩
      · exact Or.inl h
      · obtain ⟨c6, hc6, hcl6⟩ := Cond.classLink_spec hown hl1 e.platform hpl
        obtain ⟨a8, b8, h1, h2, h3⟩ := hn1
        cases Option.some.inj (h1.symm.trans hcl)
        cases Option.some.inj (h2.symm.trans hc6)
        exact Or.inr ⟨hz0, _, hcl6, h3⟩) hx (Or.inr ⟨h0, c4, hcl5, hasg⟩)
  obtain ⟨t, a1, b1⟩ := kk (T.setVm vm') hT X'
  exact ⟨t, st.trans a1, b1⟩
end Rows
section Ends
variable {p : Program} {l : Launch} {e : Env} {R : Room} {s : State} {m : MethodId} {args : Array Value} {below : List Frame} {meth : Method} {c : Code} {H : Heap} {locs : List Loc} {cells slots : Nat} {Q : State → Prop}
variable {mc ms : Nat} {free : Addr → Prop} {A0 A1 : Nat → Prop} {H0 : Heap} {a : Array Value} {ls : Array Slot} {st0 rest : List Value}
variable {Qc : Array Value → State → Outcome → State → Prop} {XC : String → State → State → Prop}
/-- what a body that may throw owes at its end -/
def vx_MQ (below : List Frame) (Qc : Array Value → State → Outcome → State → Prop) (XC : String → State → State → Prop) (a : Array Value) (s : State) (mc ms : Nat) (free : Addr → Prop) : State → Prop := fun t =>
  ∃ o, t.status = .running ∧ Ended t below o ∧ vx_Q Qc XC mc ms free a s o t
theorem vx_ret {g : JFrame} {mc ms : Nat} (k : W p l e R s m args below meth c H locs cells slots (MQ below Qc args s mc ms free) g) : W p l e R s m args below meth c H locs cells slots (vx_MQ below Qc XC args s mc ms free) g := by
  intro T hT X
  obtain ⟨t, a1, o, b1, b2, b3, b4⟩ := k T hT X
  exact ⟨t, a1, o, b1, b2, Or.inl ⟨b3, b4⟩⟩
/-- not caught here: it goes on to the caller -/
theorem vx_widen {g : JFrame} {q : Addr} {k n : Nat} (h1 : cells ≤ k) (h2 : slots ≤ n) (kk : vx_W p l e R s m args below meth c H locs k n Q g q) : vx_W p l e R s m args below meth c H locs cells slots Q g q := fun T hT X => kk T hT (stand_widen X h1 h2)
theorem vx_out {pc : Nat} {E : String} {ce : Cell} {q : Addr} {mc ms : Nat} (hout : ∀ x ∈ c.exceptionTable.toList, covers x pc = false) (hlocks : meth.locks = false) (hcell : H[q]? = some ce) (hv : ce.vm = .none) (hcl : s.vm.findClass E = some ce.cls)
    (hx : ∀ t : State, t.heap = H → s.vm.Alike t.vm → XC E s t) (hf : ∀ z ∈ locs, free z.base) (hc : cells ≤ mc) (hs : slots ≤ ms) :
    vx_W p l e R s m args below meth c H locs cells slots (vx_MQ below Qc XC args s mc ms free) (F0 m pc ls rest) q := by
  intro T hT X
  obtain ⟨st1, hrun, hend, hW, hsm⟩ := X.leaveThrown q (g := F0 m pc ls rest) rfl rfl rfl hout hlocks
  have hcell9 : (T.setFrames (.throwing q :: below)).heap[q]? = some ce := by
    show T.heap[q]? = some ce
    rw [hT]; exact hcell
  exact ⟨_, st1, .threw q, hrun, hend, Or.inr ⟨q, rfl, E, ce, locs, hx _ hT hW.alike, hcell9, hv, hcl, hW, hsm.mono hc hs, hf⟩⟩
theorem vx_frame {U : State} {k n : Nat} (h : s.sameButNew ({ U with vm := s.vm } : State) locs k n) : s.heap.size ≤ U.heap.size ∧ ∀ q : Nat, q < s.heap.size → (∀ z ∈ locs, z.base ≠ q) → U.heap[q]? = s.heap[q]? := by
  obtain ⟨-, h2, -, -, -, h6⟩ := h
  refine ⟨h2, fun q hq hz => ?_⟩
  obtain ⟨c9, e1, e2, e3, e4⟩ := h6 q _ (Array.getElem?_eq_getElem hq)
  have hs : c9.slots = (s.heap[q]).slots := Array.ext_getElem? fun i => e4 i fun hm => hz _ hm rfl
  have h9 : c9 = s.heap[q] := by
    rw [hs] at e2
    exact e2
  have e5 : U.heap[q]? = some c9 := e1
  rw [e5, h9, Array.getElem?_eq_getElem hq]
/-- the words of a throw but the four that speak of the heap -/
def vx_no (w : Cond) : Bool := decide (w ≠ .isRef (.static Bundle.tN "UNASSIGNED_STACK" Bundle.steD)) && decide (w ≠ .isRef (.static Bundle.tN "SUPPRESSED_SENTINEL" Bundle.listD)) && decide (w ≠ .laysStatic Bundle.tN "UNASSIGNED_STACK" Bundle.steD) && decide (w ≠ .laysStatic Bundle.tN "SUPPRESSED_SENTINEL" Bundle.listD)
def vx_at0 (own : String) (ic : Nat) (X : String) (names : List String) : List Cond := (Bundle.ownAtoms0 own ic X names).filter vx_no
def vx_atS (own : String) (ic : Nat) (X : String) (names : List String) : List Cond := (Bundle.ownAtoms own ic X names).filter vx_no
/-- a word that the tables alone decide, or a good one -/
def vx_ot (w : Cond) : Bool := w.onTables || goodWord w
theorem vx_ot_at {args a' : Array Value} {s U : State} {w : Cond} (hW : s.WarmedH U.vm) (hvm : s.vm = U.vm) (hg : vx_ot w = true) (h : w.before args s = true) : w.before a' U = true := by
  simp only [vx_ot, Bool.or_eq_true] at hg
  rcases hg with hg | hg
  · exact va_tabs hg hvm h
  · exact word_at hW (good_of_word hg) h
/-- a list's words: the good ones out of the method's own list, the others by premises of their own -/
theorem vx_hat {args : Array Value} {s : State} {L B : List Cond} (h1 : ∀ w ∈ L.filter goodWord, w.before args s = true) (h2 : ∀ w ∈ L.filter (fun w => !goodWord w), w ∈ B) (h3 : ∀ w ∈ B, w.before args s = true) : ∀ w ∈ L, w.before args s = true := by
  intro w hw
  by_cases g : goodWord w = true
  · exact h1 w (List.mem_filter.mpr ⟨hw, g⟩)
  · refine h3 w (h2 w (List.mem_filter.mpr ⟨hw, ?_⟩))
    show (!goodWord w) = true
    cases hgw : goodWord w
    · rfl
    · exact absurd hgw g
theorem vx_c {args : Array Value} {s : State} {w : Cond} {B : List Cond} (h : w.before args s = true) (t : ∀ w ∈ B, w.before args s = true) : ∀ w' ∈ w :: B, w'.before args s = true := fun w' h' => (List.mem_cons.mp h').elim (fun e => by rw [e]; exact h) (t w')
theorem vx_n {args : Array Value} {s : State} : ∀ w ∈ ([] : List Cond), w.before args s = true := fun _ h => nomatch h
theorem vx_own {args : Array Value} {s : State} {L : List Cond} (h1 : ∀ w ∈ L.filter vx_no, w.before args s = true)
    (hU : (Cond.isRef (.static Bundle.tN "UNASSIGNED_STACK" Bundle.steD)).before args s = true) (hN : (Cond.isRef (.static Bundle.tN "SUPPRESSED_SENTINEL" Bundle.listD)).before args s = true)
    (lU : (Cond.laysStatic Bundle.tN "UNASSIGNED_STACK" Bundle.steD).before args s = true) (lN : (Cond.laysStatic Bundle.tN "SUPPRESSED_SENTINEL" Bundle.listD).before args s = true) : ∀ w ∈ L, w.before args s = true := by
  intro w hw
  by_cases e1 : w = .isRef (.static Bundle.tN "UNASSIGNED_STACK" Bundle.steD)
  · rw [e1]; exact hU
  · by_cases e2 : w = .isRef (.static Bundle.tN "SUPPRESSED_SENTINEL" Bundle.listD)
    · rw [e2]; exact hN
    · by_cases e3 : w = .laysStatic Bundle.tN "UNASSIGNED_STACK" Bundle.steD
      · rw [e3]; exact lU
      · by_cases e4 : w = .laysStatic Bundle.tN "SUPPRESSED_SENTINEL" Bundle.listD
        · rw [e4]; exact lN
        · exact h1 w (List.mem_filter.mpr ⟨hw, by unfold vx_no; rw [decide_eq_true e1, decide_eq_true e2, decide_eq_true e3, decide_eq_true e4]; rfl⟩)
/-- where a static field lies, its class's statics cell in H -/
def vx_L (C n d : String) (A : Nat → Prop) (U : State) (H : Heap) : Prop := ∃ (c : ClassId) (k : Class) (i : Nat) (f : Field) (a : Nat) (cell : Cell), U.vm.findClass C = some c ∧ U.fieldFound? C n d = some (c, k, i, f) ∧ f.isStatic = true ∧ k.statics = some a ∧ H[a]? = some cell ∧ cell.vm.isStatics = true ∧ cell.cls = c ∧ f.slot < cell.slots.size ∧ k.staticTypes[f.slot]? = some f.type ∧ ¬ A a
theorem vx_L.moved {C n d : String} {A : Nat → Prop} {u U : State} {H : Heap} (hvm : u.vm.Alike U.vm) (h : vx_L C n d A u H) : vx_L C n d A U H := by
  obtain ⟨c, k, i, f, a, cell, h1, h2, h3, h4, h5, h6, h7, h8, h9, h10⟩ := h
  obtain ⟨k', hi', he⟩ := State.fieldFound?_setVm hvm h2
  exact ⟨c, k', i, f, a, cell, by rw [hvm.findClass]; exact h1, hi', h3, by rw [he]; exact h4, h5, h6, h7, h8, by rw [he]; exact h9, h10⟩
theorem vx_L.kept {C n d : String} {A : Nat → Prop} {U : State} {H H1 : Heap} (h : vx_L C n d A U H) (hq : ∀ a : Nat, a < H.size → ¬ A a → H1[a]? = H[a]?) : vx_L C n d A U H1 := by
  obtain ⟨c, k, i, f, a, cell, h1, h2, h3, h4, h5, h6, h7, h8, h9, h10⟩ := h
  exact ⟨c, k, i, f, a, cell, h1, h2, h3, h4, by rw [hq a (Array.getElem?_eq_some_iff.mp h5).1 h10]; exact h5, h6, h7, h8, h9, h10⟩
theorem vx_L.narrow {C n d : String} {A B : Nat → Prop} {U : State} {H : Heap} (h : vx_L C n d A U H) (hAB : ∀ q, B q → A q) : vx_L C n d B U H := by
  obtain ⟨c, k, i, f, a, cell, h1, h2, h3, h4, h5, h6, h7, h8, h9, h10⟩ := h
  exact ⟨c, k, i, f, a, cell, h1, h2, h3, h4, h5, h6, h7, h8, h9, fun z => h10 (hAB _ z)⟩
theorem vx_L.word {C n d : String} {A : Nat → Prop} {s : State} {args : Array Value} (h : vx_L C n d A s s.heap) : (Cond.laysStatic C n d).before args s = true := by
  obtain ⟨c, k, i, f, a, cell, h1, h2, h3, h4, h5, h6, h7, h8, h9, -⟩ := h
  show (Cond.laysStatic C n d).holds args s none s [] = true
  exact Cond.laysStatic_of h1 h2 h3 h4 h5 h6 h7 h8 h9
/-- .. and what it holds: null or some reference -/
def vx_Zq (C n d : String) (A : Nat → Prop) (U : State) (H : Heap) : Prop := va_Zq C n d A U H ∧ vx_L C n d A U H
theorem vx_Zq.moved {C n d : String} {A : Nat → Prop} {u U : State} {H : Heap} (hvm : u.vm.Alike U.vm) (h : vx_Zq C n d A u H) : vx_Zq C n d A U H := ⟨va_Zq.moved hvm h.1, vx_L.moved hvm h.2⟩
theorem vx_Zq.kept {C n d : String} {A : Nat → Prop} {U : State} {H H1 : Heap} (h : vx_Zq C n d A U H) (hq : ∀ a : Nat, a < H.size → ¬ A a → H1[a]? = H[a]?) : vx_Zq C n d A U H1 := ⟨va_Zq.kept h.1 hq, vx_L.kept h.2 hq⟩
theorem vx_Zq.narrow {C n d : String} {A B : Nat → Prop} {U : State} {H : Heap} (h : vx_Zq C n d A U H) (hAB : ∀ q, B q → A q) : vx_Zq C n d B U H := ⟨va_Zq.narrow h.1 hAB, vx_L.narrow h.2 hAB⟩
theorem vx_Zqof {args : Array Value} {s : State} {C n d : String} {A : Nat → Prop} (hl : (Cond.laysStatic C n d).before args s = true) (hini : (Cond.initialized C).before args s = true) (h : (Cond.isRef (.static C n d)).before args s = true) (hA : ∀ a : Nat, a < s.heap.size → ¬ A a) : vx_Zq C n d A s s.heap := by
  refine ⟨va_Zqof hl hini h hA, ?_⟩
  obtain ⟨c, k, i, f, a, cell, h1, h2, h3, h4, h5, h6, h7, h8, h9⟩ := Cond.laysStatic_spec hl
  exact ⟨c, k, i, f, a, cell, h1, h2, h3, h4, h5, h6, h7, h8, h9, hA a (Array.getElem?_eq_some_iff.mp h5).1⟩
theorem vx_isRef {C n d : String} {v : Value} {A : Nat → Prop} {s : State} {args : Array Value} (h : va_Z C n d v A s s.heap) (hv : v.isRef = true) : (Cond.isRef (.static C n d)).before args s = true := by
  obtain ⟨cf, kf, fi, f, a, cell, h1, h2, h3, h4, h5, h6, h7, -⟩ := h
  have he : (Term.static C n d).eval args s none [] s = some v := by
    simp [Term.eval, State.fieldNamed?, h1, h2, h4, h5, h6, h7]
  simp only [Cond.before, Cond.holds, Cond.value, he]
  cases v <;> simp_all [Value.isRef]
theorem vx_isRefq {C n d : String} {A : Nat → Prop} {s : State} {args : Array Value} (h : va_Zq C n d A s s.heap) : (Cond.isRef (.static C n d)).before args s = true := by
  rcases h with h | ⟨t, h⟩
  · exact vx_isRef h rfl
  · exact vx_isRef h rfl
/-- the same frame, seen from here: as if the method were called anew in this heap -/
theorem vx_rebase {T : State} (X : Stand p l e R s m args below meth c T locs cells slots) {R' : Room} (hf : R'.frames ≤ R.frames) (hl : R'.locals ≤ R.locals) (hc : cells + R'.cells ≤ R.cells) (hs : slots + R'.slots ≤ R.slots) :
    Stand p l e R' ((T.setVm s.vm).setFrames (.invoking m args :: below)) m args below meth c T [] 0 0 := by
  have htop : (T.setVm s.vm).topJava?.isSome := X.here.top
  have hF : ((T.setVm s.vm).setFrames (.invoking m args :: below)).frames = .invoking m args :: below := State.frames_setFrames _ (State.cur_lt_of_top htop)
  obtain ⟨g₀, hg0⟩ := Option.isSome_iff_exists.mp htop
  obtain ⟨r, hr⟩ := State.topJava?_eq_some.mp hg0
  have hl9 : e.platform.stackLimits (T.setVm s.vm).me = e.platform.stackLimits s.me := X.limits
  have hb9 : (T.setVm s.vm).me.stackBytes = s.me.stackBytes := X.bytes
  refine ⟨X.admits, X.cas, X.clock, hF, ?_, X.hears, X.method, X.code, X.here, X.tail, X.warmed, ?_, ?_, ?_⟩
  · have h := X.room
    have hU : ((T.setVm s.vm).setFrames (.invoking m args :: below)).localsInUse = s.localsInUse := by
      rw [State.localsInUse_invoking hF (meth := meth) (c := c) X.method X.code, State.localsInUse_invoking X.frames X.method X.code]
    simp only [State.hasRoom, Bool.and_eq_true, decide_eq_true_eq] at h ⊢
    obtain ⟨⟨⟨⟨h1, h2, h3, h4, h5, h6⟩, h7⟩, h8⟩, h9⟩ := h
    rw [X.frames, List.length_cons] at h2 h3
    have q1 := X.heapSize
    have q2 := X.used
    simp only [hF, hU, List.length_cons, State.stackLimits_setFrames, State.stackBytes_setFrames, hl9, hb9]
    refine ⟨⟨⟨⟨by omega, by omega, by omega, by omega, by omega, h6⟩, ?_⟩, ?_⟩, X.book⟩
    · show T.heap.size + R'.cells ≤ e.platform.maxCells
      omega
    · show T.slotsUsed + R'.slots ≤ e.platform.maxSlots
      omega
  · rw [State.stackLimits_setFrames]; rfl
  · rw [State.stackBytes_setFrames]; rfl
  · refine ⟨?_, Nat.le_refl _, Nat.le_refl _, ?_, ?_, fun a c9 h9 => ⟨c9, h9, rfl, rfl, fun _ _ => rfl⟩⟩
    · obtain ⟨t, ht, -⟩ := State.frames_cons hr
      show T.setVm s.vm = { ((T.setVm s.vm).setFrames (.invoking m args :: below)).setFrames (T.setVm s.vm).frames with heap := T.heap, slotsUsed := T.slotsUsed }
      rw [State.setFrames_setFrames, State.setFrames_self ht]
      rfl
    · show T.slotsUsed = T.slotsUsed + ((T.heap.toList.drop T.heap.size).map (·.slots.size)).sum
      rw [List.drop_eq_nil_of_le (Nat.le_of_eq Array.length_toList)]
      rfl
    · show ((T.heap.toList.drop T.heap.size).map (·.slots.size)).sum ≤ 0
      rw [List.drop_eq_nil_of_le (Nat.le_of_eq Array.length_toList)]
      exact Nat.le_refl _
/-- 'throw new E()': new; dup; invokespecial; athrow -/
theorem vx_throw0 {cc : ByteArray} {pc : Nat} (hexec : p.tables.exec = Jvm.exec) (hb : c.code = cc) (hl : l.stackTraces = false) {own cls : String} {names : List String} {ik ic mc ms : Nat} {A : Nat → Prop}
    (hown : s.vm.findClass own = some m.cls) (hcls : Bundle.fit cls = true) (hnames : ∀ n ∈ names, Bundle.fit n = true)
    (hk : (Cond.classLink own ik cls).before args s = true) (hini : (Cond.initialized cls).before args s = true) (hat : ∀ w ∈ vx_at0 own ic cls names, w.before args s = true)
    (hgood : ∀ w ∈ Cond.classLink own ik cls :: Cond.initialized cls :: vx_at0 own ic cls names, vx_ot w = true)
    (hU : vx_Zq Bundle.tN "UNASSIGNED_STACK" Bundle.steD A s s.heap) (hN : vx_Zq Bundle.tN "SUPPRESSED_SENTINEL" Bundle.listD A s s.heap) (hS : va_S A s.heap H locs) (hsize : ls.size = c.maxLocals)
    (d0 : decode cc pc = .ok (.new ik, 3)) (d3 : decode cc (pc + 3) = .ok (.dup, 1)) (d4 : decode cc (pc + 4) = .ok (.invokespecial ic, 3)) (d7 : decode cc (pc + 7) = .ok (.athrow, 1))
    (hout : ∀ x ∈ c.exceptionTable.toList, covers x (pc + 7) = false)
    (hRframes : names.length + 3 < R.frames) (hRlocals : (rest.map fun v => v.category).sum + (13 * (names.length + 1) + 42) ≤ R.locals) (hRcells : cells + 1 ≤ R.cells) (hRslots : slots + 6 ≤ R.slots) (hlocks : meth.locks = false)
    (hx : ∀ t : State, s.vm.Alike t.vm → H.size ≤ t.heap.size → (∀ q : Nat, q < H.size → t.heap[q]? = H[q]?) → XC cls s t)
    (hf : ∀ z ∈ locs, free z.base) (hc : cells + 1 ≤ mc) (hs : slots + 6 ≤ ms) :
    W p l e R s m args below meth c H locs cells slots (vx_MQ below Qc XC args s mc ms free) (F0 m pc ls rest) := by
  intro T hT X
  have htr : e.platform.stackTraces = false := (show e.platform.stackTraces = l.stackTraces by rw [X.admits.platform]).trans hl
  have Y := vx_rebase X (R' := { frames := R.frames, locals := R.locals, cells := 1, slots := 6 }) (Nat.le_refl _) (Nat.le_refl _) hRcells hRslots
  obtain ⟨s', hA⟩ : ∃ z, z = (T.setVm s.vm).setFrames (.invoking m args :: below) := ⟨_, rfl⟩
  rw [← hA] at Y
  have hvm : s'.vm = s.vm := by rw [hA]; rfl
  have hhp : s'.heap = H := by rw [hA]; exact hT
  have hW0 : s.WarmedH s'.vm := by rw [hvm]; exact State.WarmedH.refl s
  have hat' : ∀ w ∈ vx_at0 own ic cls names, w.before args s' = true := fun w hw => vx_ot_at hW0 hvm.symm (hgood w (List.mem_cons_of_mem _ (List.mem_cons_of_mem _ hw))) (hat w hw)
  have hk' : (Cond.classLink own ik cls).before args s' = true := vx_ot_at hW0 hvm.symm (hgood _ List.mem_cons_self) hk
  have hini' : (Cond.initialized cls).before args s' = true := vx_ot_at hW0 hvm.symm (hgood _ (List.mem_cons_of_mem _ List.mem_cons_self)) hini
  have hU' : vx_Zq Bundle.tN "UNASSIGNED_STACK" Bundle.steD A s' s'.heap := by rw [hhp]; exact vx_Zq.moved hW0.alike (hU.kept hS.2.1)
  have hN' : vx_Zq Bundle.tN "SUPPRESSED_SENTINEL" Bundle.listD A s' s'.heap := by rw [hhp]; exact vx_Zq.moved hW0.alike (hN.kept hS.2.1)
  have h : ∀ w ∈ Bundle.ownAtoms0 own ic cls names, w.before args s' = true := vx_own hat' (vx_isRefq hU'.1) (vx_isRefq hN'.1) hU'.2.word hN'.2.word
  have hown' : s'.vm.findClass own = some m.cls := by rw [hvm]; exact hown
  have hins : (Cond.instantiable cls 6).before args s' = true := h _ (by simp [Bundle.ownAtoms0])
  obtain ⟨vm₁, cX, kX, hfX, hkX, -, -, X₁, st1⟩ := Y.newCold hexec (own := own) (C := cls) (index := ik) (n := 6) hown' hk' hins hini'
    (g := F0 m pc ls rest) rfl (by rw [hb]; exact d0) (Nat.le_refl _) (Nat.le_refl _)
  generalize hT1 : (T.setVm vm₁).pushCell { cls := cX, slots := kX.instanceTypes.map defaultValue, vm := .none } = T1 at X₁ st1
  have hcat : (Value.ref T.heap.size).category = 1 := rfl
  have hcellA : T1.heap[T.heap.size]? = some (freshCell cX kX) := by rw [← hT1]; exact State.heap_pushCell_size _ _
  have d3' : decode c.code (pc + 3) = .ok (.dup, 1) := by rw [hb]; exact d3
  obtain ⟨U, hsteps, hrun, hend, hW, hsame, ce, hce, hO⟩ := X₁.ctorThrow0 hexec htr (own := own) (cls := cls) (names := names) (ic := ic) hown' hcls hnames h (fun x hx => nomatch hx) hfX hkX hcellA (by rw [hhp, hT]; exact Nat.le_refl _)
    (g := { method := m, pc := pc + 4, locals := ls, stack := .ref T.heap.size :: .ref T.heap.size :: rest, locked := none }) rfl hsize rfl rfl (rest := rest) rfl
    (by rw [hb]; exact d4) (by rw [hb]; exact d7) hout hRframes (by simp only [List.map_cons, List.sum_cons, hcat]; omega) hlocks
  obtain ⟨f1, f2⟩ := vx_frame hsame
  rw [hhp] at f1 f2
  have hWs : s.WarmedH U.vm := State.WarmedH.trans hW0 hW
  have hcl : s.vm.findClass cls = some ce.cls := by
    have h9 := hO.cls
    rw [hvm] at h9
    exact h9
  have hall : s.sameButNew ({ U with vm := s.vm } : State) locs mc ms := by
    subst hA
    obtain ⟨e1, e2⟩ := hsame
    rw [State.setFrames_setFrames] at e1
    have h2 : (T.setVm s.vm).sameButNew ({ U with vm := s.vm } : State) [] (0 + 1) (0 + 6) := ⟨e1, e2⟩
    have h3 := X.same.trans h2
    rw [List.append_nil] at h3
    exact h3.mono hc hs
  refine ⟨U, ?_, .threw T.heap.size, hrun, hend, Or.inr ⟨T.heap.size, rfl, cls, ce, locs, hx U hWs.alike f1 (fun q hq => f2 q hq (fun z hz => nomatch hz)), hce, hO.vm, hcl, hWs, hall, hf⟩⟩
  refine st1 _ ?_
  show Steps p.tables e below (T1.setTop { method := m, pc := pc + 3, locals := ls, stack := .ref T.heap.size :: rest, locked := none }) _
  jvm_step X₁.here [X₁.here.top, hexec, d3', Value.category]
  exact hsteps
/-- 'throw new E("text")': new; dup; ldc; invokespecial; athrow -/
theorem vx_throwS {cc : ByteArray} {pc : Nat} (hexec : p.tables.exec = Jvm.exec) (hb : c.code = cc) (hl : l.stackTraces = false) {own cls text : String} {names : List String} {ik is ic mc ms sa : Nat} {A : Nat → Prop}
    (hown : s.vm.findClass own = some m.cls) (hcls : Bundle.fit cls = true) (hnames : ∀ n ∈ names, Bundle.fit n = true)
    (hk : (Cond.classLink own ik cls).before args s = true) (hini : (Cond.initialized cls).before args s = true) (hstr : vk_R own is text sa s) (hat : ∀ w ∈ vx_atS own ic cls names, w.before args s = true)
    (hgood : ∀ w ∈ Cond.classLink own ik cls :: Cond.initialized cls :: vx_atS own ic cls names, vx_ot w = true)
    (hU : vx_Zq Bundle.tN "UNASSIGNED_STACK" Bundle.steD A s s.heap) (hN : vx_Zq Bundle.tN "SUPPRESSED_SENTINEL" Bundle.listD A s s.heap) (hS : va_S A s.heap H locs) (hsize : ls.size = c.maxLocals)
    (d0 : decode cc pc = .ok (.new ik, 3)) (d3 : decode cc (pc + 3) = .ok (.dup, 1)) (d4 : decode cc (pc + 4) = .ok (.ldc is, 2)) (d6 : decode cc (pc + 6) = .ok (.invokespecial ic, 3)) (d9 : decode cc (pc + 9) = .ok (.athrow, 1))
    (hout : ∀ x ∈ c.exceptionTable.toList, covers x (pc + 9) = false)
    (hRframes : names.length + 3 < R.frames) (hRlocals : (rest.map fun v => v.category).sum + (13 * (names.length + 1) + 43) ≤ R.locals) (hRcells : cells + 1 ≤ R.cells) (hRslots : slots + 6 ≤ R.slots) (hlocks : meth.locks = false)
    (hx : ∀ t : State, s.vm.Alike t.vm → H.size ≤ t.heap.size → (∀ q : Nat, q < H.size → t.heap[q]? = H[q]?) → XC cls s t)
    (hf : ∀ z ∈ locs, free z.base) (hc : cells + 1 ≤ mc) (hs : slots + 6 ≤ ms) :
    W p l e R s m args below meth c H locs cells slots (vx_MQ below Qc XC args s mc ms free) (F0 m pc ls rest) := by
  intro T hT X
  have htr : e.platform.stackTraces = false := (show e.platform.stackTraces = l.stackTraces by rw [X.admits.platform]).trans hl
  have Y := vx_rebase X (R' := { frames := R.frames, locals := R.locals, cells := 1, slots := 6 }) (Nat.le_refl _) (Nat.le_refl _) hRcells hRslots
  obtain ⟨s', hA⟩ : ∃ z, z = (T.setVm s.vm).setFrames (.invoking m args :: below) := ⟨_, rfl⟩
  rw [← hA] at Y
  have hvm : s'.vm = s.vm := by rw [hA]; rfl
  have hhp : s'.heap = H := by rw [hA]; exact hT
  have hW0 : s.WarmedH s'.vm := by rw [hvm]; exact State.WarmedH.refl s
  have hat' : ∀ w ∈ vx_atS own ic cls names, w.before args s' = true := fun w hw => vx_ot_at hW0 hvm.symm (hgood w (List.mem_cons_of_mem _ (List.mem_cons_of_mem _ hw))) (hat w hw)
  have hk' : (Cond.classLink own ik cls).before args s' = true := vx_ot_at hW0 hvm.symm (hgood _ List.mem_cons_self) hk
  have hini' : (Cond.initialized cls).before args s' = true := vx_ot_at hW0 hvm.symm (hgood _ (List.mem_cons_of_mem _ List.mem_cons_self)) hini
  have hU' : vx_Zq Bundle.tN "UNASSIGNED_STACK" Bundle.steD A s' s'.heap := by rw [hhp]; exact vx_Zq.moved hW0.alike (hU.kept hS.2.1)
  have hN' : vx_Zq Bundle.tN "SUPPRESSED_SENTINEL" Bundle.listD A s' s'.heap := by rw [hhp]; exact vx_Zq.moved hW0.alike (hN.kept hS.2.1)
  have h : ∀ w ∈ Bundle.ownAtoms own ic cls names, w.before args s' = true := vx_own hat' (vx_isRefq hU'.1) (vx_isRefq hN'.1) hU'.2.word hN'.2.word
  have hown' : s'.vm.findClass own = some m.cls := by rw [hvm]; exact hown
  have hins : (Cond.instantiable cls 6).before args s' = true := h _ (by simp [Bundle.ownAtoms])
  obtain ⟨vm₁, cX, kX, hfX, hkX, -, -, X₁, st1⟩ := Y.newCold hexec (own := own) (C := cls) (index := ik) (n := 6) hown' hk' hins hini'
    (g := F0 m pc ls rest) rfl (by rw [hb]; exact d0) (Nat.le_refl _) (Nat.le_refl _)
  generalize hT1 : (T.setVm vm₁).pushCell { cls := cX, slots := kX.instanceTypes.map defaultValue, vm := .none } = T1 at X₁ st1
  have hcat : (Value.ref T.heap.size).category = 1 := rfl
  have hcellA : T1.heap[T.heap.size]? = some (freshCell cX kX) := by rw [← hT1]; exact State.heap_pushCell_size _ _
  have d3' : decode c.code (pc + 3) = .ok (.dup, 1) := by rw [hb]; exact d3
  have d4' : decode c.code (pc + 4) = .ok (.ldc is, 2) := by rw [hb]; exact d4
  have hstr' : vk_R own is text sa s' := vk_R.warm hW0 hstr
  obtain ⟨U, hsteps, hrun, hend, hW, hsame, ce, hce, hO⟩ := X₁.ctorThrowS hexec htr (own := own) (cls := cls) (names := names) (ic := ic) hown' hcls hnames h (fun x hx => nomatch hx) hfX hkX hcellA (by rw [hhp, hT]; exact Nat.le_refl _) (msg := .ref sa) rfl
    (g := { method := m, pc := pc + 6, locals := ls, stack := .ref sa :: .ref T.heap.size :: .ref T.heap.size :: rest, locked := none }) rfl hsize rfl rfl (rest := rest) rfl
    (by rw [hb]; exact d6) (by rw [hb]; exact d9) hout hRframes (by simp only [List.map_cons, List.sum_cons, hcat]; omega) hlocks
  obtain ⟨f1, f2⟩ := vx_frame hsame
  rw [hhp] at f1 f2
  have hWs : s.WarmedH U.vm := State.WarmedH.trans hW0 hW
  have hcl : s.vm.findClass cls = some ce.cls := by
    have h9 := hO.cls
    rw [hvm] at h9
    exact h9
  have hall : s.sameButNew ({ U with vm := s.vm } : State) locs mc ms := by
    subst hA
    obtain ⟨e1, e2⟩ := hsame
    rw [State.setFrames_setFrames] at e1
    have h2 : (T.setVm s.vm).sameButNew ({ U with vm := s.vm } : State) [] (0 + 1) (0 + 6) := ⟨e1, e2⟩
    have h3 := X.same.trans h2
    rw [List.append_nil] at h3
    exact h3.mono hc hs
  refine ⟨U, ?_, .threw T.heap.size, hrun, hend, Or.inr ⟨T.heap.size, rfl, cls, ce, locs, hx U hWs.alike f1 (fun q hq => f2 q hq (fun z hz => nomatch hz)), hce, hO.vm, hcl, hWs, hall, hf⟩⟩
  refine st1 _ ?_
  show Steps p.tables e below (T1.setTop { method := m, pc := pc + 3, locals := ls, stack := .ref T.heap.size :: rest, locked := none }) _
  jvm_step X₁.here [X₁.here.top, hexec, d3', Value.category]
  exact X₁.ldcString hexec (own := own) (text := text) (index := is) (a := sa) hown' hstr'.1 hstr'.2
    (g := { method := m, pc := pc + 4, locals := ls, stack := .ref T.heap.size :: .ref T.heap.size :: rest, locked := none }) rfl d4' _ hsteps
/-- 'throw new E("text")', the text by a wide index -/
theorem vx_throwSW {cc : ByteArray} {pc : Nat} (hexec : p.tables.exec = Jvm.exec) (hb : c.code = cc) (hl : l.stackTraces = false) {own cls text : String} {names : List String} {ik is ic mc ms sa : Nat} {A : Nat → Prop}
    (hown : s.vm.findClass own = some m.cls) (hcls : Bundle.fit cls = true) (hnames : ∀ n ∈ names, Bundle.fit n = true)
    (hk : (Cond.classLink own ik cls).before args s = true) (hini : (Cond.initialized cls).before args s = true) (hstr : vk_R own is text sa s) (hat : ∀ w ∈ vx_atS own ic cls names, w.before args s = true)
    (hgood : ∀ w ∈ Cond.classLink own ik cls :: Cond.initialized cls :: vx_atS own ic cls names, vx_ot w = true)
    (hU : vx_Zq Bundle.tN "UNASSIGNED_STACK" Bundle.steD A s s.heap) (hN : vx_Zq Bundle.tN "SUPPRESSED_SENTINEL" Bundle.listD A s s.heap) (hS : va_S A s.heap H locs) (hsize : ls.size = c.maxLocals)
    (d0 : decode cc pc = .ok (.new ik, 3)) (d3 : decode cc (pc + 3) = .ok (.dup, 1)) (d4 : decode cc (pc + 4) = .ok (.ldc_w is, 3)) (d7 : decode cc (pc + 7) = .ok (.invokespecial ic, 3)) (d10 : decode cc (pc + 10) = .ok (.athrow, 1))
    (hout : ∀ x ∈ c.exceptionTable.toList, covers x (pc + 10) = false)
    (hRframes : names.length + 3 < R.frames) (hRlocals : (rest.map fun v => v.category).sum + (13 * (names.length + 1) + 43) ≤ R.locals) (hRcells : cells + 1 ≤ R.cells) (hRslots : slots + 6 ≤ R.slots) (hlocks : meth.locks = false)
    (hx : ∀ t : State, s.vm.Alike t.vm → H.size ≤ t.heap.size → (∀ q : Nat, q < H.size → t.heap[q]? = H[q]?) → XC cls s t)
    (hf : ∀ z ∈ locs, free z.base) (hc : cells + 1 ≤ mc) (hs : slots + 6 ≤ ms) :
    W p l e R s m args below meth c H locs cells slots (vx_MQ below Qc XC args s mc ms free) (F0 m pc ls rest) := by
  intro T hT X
  have htr : e.platform.stackTraces = false := (show e.platform.stackTraces = l.stackTraces by rw [X.admits.platform]).trans hl
  have Y := vx_rebase X (R' := { frames := R.frames, locals := R.locals, cells := 1, slots := 6 }) (Nat.le_refl _) (Nat.le_refl _) hRcells hRslots
  obtain ⟨s', hA⟩ : ∃ z, z = (T.setVm s.vm).setFrames (.invoking m args :: below) := ⟨_, rfl⟩
  rw [← hA] at Y
  have hvm : s'.vm = s.vm := by rw [hA]; rfl
  have hhp : s'.heap = H := by rw [hA]; exact hT
  have hW0 : s.WarmedH s'.vm := by rw [hvm]; exact State.WarmedH.refl s
  have hat' : ∀ w ∈ vx_atS own ic cls names, w.before args s' = true := fun w hw => vx_ot_at hW0 hvm.symm (hgood w (List.mem_cons_of_mem _ (List.mem_cons_of_mem _ hw))) (hat w hw)
  have hk' : (Cond.classLink own ik cls).before args s' = true := vx_ot_at hW0 hvm.symm (hgood _ List.mem_cons_self) hk
  have hini' : (Cond.initialized cls).before args s' = true := vx_ot_at hW0 hvm.symm (hgood _ (List.mem_cons_of_mem _ List.mem_cons_self)) hini
  have hU' : vx_Zq Bundle.tN "UNASSIGNED_STACK" Bundle.steD A s' s'.heap := by rw [hhp]; exact vx_Zq.moved hW0.alike (hU.kept hS.2.1)
  have hN' : vx_Zq Bundle.tN "SUPPRESSED_SENTINEL" Bundle.listD A s' s'.heap := by rw [hhp]; exact vx_Zq.moved hW0.alike (hN.kept hS.2.1)
  have h : ∀ w ∈ Bundle.ownAtoms own ic cls names, w.before args s' = true := vx_own hat' (vx_isRefq hU'.1) (vx_isRefq hN'.1) hU'.2.word hN'.2.word
  have hown' : s'.vm.findClass own = some m.cls := by rw [hvm]; exact hown
  have hins : (Cond.instantiable cls 6).before args s' = true := h _ (by simp [Bundle.ownAtoms])
  obtain ⟨vm₁, cX, kX, hfX, hkX, -, -, X₁, st1⟩ := Y.newCold hexec (own := own) (C := cls) (index := ik) (n := 6) hown' hk' hins hini'
    (g := F0 m pc ls rest) rfl (by rw [hb]; exact d0) (Nat.le_refl _) (Nat.le_refl _)
  generalize hT1 : (T.setVm vm₁).pushCell { cls := cX, slots := kX.instanceTypes.map defaultValue, vm := .none } = T1 at X₁ st1
  have hcat : (Value.ref T.heap.size).category = 1 := rfl
  have hcellA : T1.heap[T.heap.size]? = some (freshCell cX kX) := by rw [← hT1]; exact State.heap_pushCell_size _ _
  have d3' : decode c.code (pc + 3) = .ok (.dup, 1) := by rw [hb]; exact d3
  have d4' : decode c.code (pc + 4) = .ok (.ldc_w is, 3) := by rw [hb]; exact d4
  have hstr' : vk_R own is text sa s' := vk_R.warm hW0 hstr
  obtain ⟨U, hsteps, hrun, hend, hW, hsame, ce, hce, hO⟩ := X₁.ctorThrowS hexec htr (own := own) (cls := cls) (names := names) (ic := ic) hown' hcls hnames h (fun x hx => nomatch hx) hfX hkX hcellA (by rw [hhp, hT]; exact Nat.le_refl _) (msg := .ref sa) rfl
    (g := { method := m, pc := pc + 7, locals := ls, stack := .ref sa :: .ref T.heap.size :: .ref T.heap.size :: rest, locked := none }) rfl hsize rfl rfl (rest := rest) rfl
    (by rw [hb]; exact d7) (by rw [hb]; exact d10) hout hRframes (by simp only [List.map_cons, List.sum_cons, hcat]; omega) hlocks
  obtain ⟨f1, f2⟩ := vx_frame hsame
  rw [hhp] at f1 f2
  have hWs : s.WarmedH U.vm := State.WarmedH.trans hW0 hW
  have hcl : s.vm.findClass cls = some ce.cls := by
    have h9 := hO.cls
    rw [hvm] at h9
    exact h9
  have hall : s.sameButNew ({ U with vm := s.vm } : State) locs mc ms := by
    subst hA
    obtain ⟨e1, e2⟩ := hsame
    rw [State.setFrames_setFrames] at e1
    have h2 : (T.setVm s.vm).sameButNew ({ U with vm := s.vm } : State) [] (0 + 1) (0 + 6) := ⟨e1, e2⟩
    have h3 := X.same.trans h2
    rw [List.append_nil] at h3
    exact h3.mono hc hs
  refine ⟨U, ?_, .threw T.heap.size, hrun, hend, Or.inr ⟨T.heap.size, rfl, cls, ce, locs, hx U hWs.alike f1 (fun q hq => f2 q hq (fun z hz => nomatch hz)), hce, hO.vm, hcl, hWs, hall, hf⟩⟩
  refine st1 _ ?_
  show Steps p.tables e below (T1.setTop { method := m, pc := pc + 3, locals := ls, stack := .ref T.heap.size :: rest, locked := none }) _
  jvm_step X₁.here [X₁.here.top, hexec, d3', Value.category]
  exact X₁.ldcStringW hexec (own := own) (text := text) (index := is) (a := sa) hown' hstr'.1 hstr'.2
    (g := { method := m, pc := pc + 4, locals := ls, stack := .ref T.heap.size :: .ref T.heap.size :: rest, locked := none }) rfl d4' _ hsteps
end Ends
section Bodies
variable {l : Launch}
theorem vx_ofW {y : MethodName} {ws ws' : List Cond} {rm : Room} {Pc : Array Value → State → Prop} {Qc : Array Value → State → Outcome → State → Prop} {XC : String → State → State → Prop} {mc ms : Nat} {free : Addr → Prop} {cc : ByteArray} {maxL : Nat} {ret : Option FieldType}
    (hy : plainName y.cls = true) (hw : ws = Cond.code y cc maxL ret :: ws')
    (body : ∀ p e s m args below meth c s₁, BodyLoose p l y (headSpec ws rm) cc maxL ret e s m args below meth c s₁ → c.maxLocals = maxL → (∀ x ∈ c.exceptionTable.toList, False) → Pc args s →
      W p l e (headSpec ws rm).room s m args below meth c s.heap [] 0 0 (vx_MQ below Qc XC args s mc ms free) (entryFrame m args maxL)) : vx_Met l y ws rm Pc Qc XC mc ms free := by
  refine MetFree.of_bodyS (code := cc) (maxLocals := maxL) (ret := ret) hy ?_ ?_
  · intro args s m h hn
    obtain ⟨meth, c, h1, h2, h3, h4, h5, h6, -, -⟩ := Cond.code_spec hn (atoms_spec (ws := ws) h _ (by rw [hw]; exact List.mem_cons_self))
    exact ⟨meth, c, h1, h2, h3, h4, h5, h6⟩
  · intro p e s m args below meth c s₁ B hml hP _
    have hh0 : s₁.heap = s.heap := by rw [B.state]; rfl
    have ht : ∀ x ∈ c.exceptionTable.toList, False := by
      obtain ⟨meth9, c9, h1, h2, -, -, -, -, h7, -⟩ := Cond.code_spec B.named (atoms_spec (ws := ws) B.pre _ (by rw [hw]; exact List.mem_cons_self))
      cases Option.some.inj (h1.symm.trans B.method)
      cases Option.some.inj (h2.symm.trans (Stand.of_body B).code)
      intro x hx
      rw [Array.isEmpty_iff.mp h7] at hx
      cases hx
    obtain ⟨t, a1, o, b1, b2, b3⟩ := body p e s m args below meth c s₁ B hml ht hP s₁ hh0 (Stand.of_body B)
    exact ⟨t, o, a1, b1, b2, b3⟩
/-- the table of a body with handlers -/
theorem vx_table {p : Program} {x y : MethodName} {S : Spec} {cc bytes : ByteArray} {maxL maxL' : Nat} {ret ret' : Option FieldType} {e : Env} {s s₁ : State} {m : MethodId} {args : Array Value} {below : List Frame} {meth : Method} {c : Code} {hh : List (Nat × Nat × Nat × Nat)}
    (B : BodyLoose p l y S cc maxL ret e s m args below meth c s₁) (h : (Cond.codeWith y bytes maxL' ret' hh).before args s = true) : c.exceptionTable.toList = tableOf hh := by
  obtain ⟨m9, meth9, c9, hn9, h1, h2, -, -, h6, -⟩ := Cond.codeWith_spec h
  cases Option.some.inj (hn9.symm.trans B.named)
  cases Option.some.inj (h1.symm.trans B.method)
  cases Option.some.inj (h2.symm.trans (Stand.of_body B).code)
  rw [← h6, table_eq]
end Bodies
end VXA
/-! ===== END ===== -/
/-! ===== BEGIN a static call of a method with an exception table ===== -/
section VXS
variable {p : Program} {l : Launch} {e : Env} {R : Room} {s : State} {m : MethodId} {args : Array Value} {below : List Frame} {meth : Method} {c : Code} {T : State} {H : Heap} {locs : List Loc} {cells slots : Nat}
abbrev vx_CSW (R : Room) (s : State) (args : Array Value) (own : String) (index : Nat) (y : MethodName) (bytes : ByteArray) (maxL : Nat) (ret : Option FieldType) (hh : List (Nat × Nat × Nat × Nat)) (ws : List Cond) (rm : Room) (mc ms n : Nat) : Prop :=
  (rm.cells = mc ∧ rm.slots = ms ∧ rm.frames + 1 ≤ R.frames ∧ 8 + (maxL + 11) + rm.locals ≤ R.locals ∧ (∀ w ∈ ws, ∀ (a' : Array Value) (U : State), s.WarmedH U.vm → w.before a' U = true) ∧ Cond.codeWith y bytes maxL ret hh ∈ ws) ∧
  (Cond.codeWith y bytes maxL ret hh).before args s = true ∧ (Cond.initialized y.cls).before args s = true ∧ (y.cls ≠ "java/lang/invoke/MethodHandle" ∧ y.cls ≠ "java/lang/invoke/VarHandle") ∧
  (∀ sig, parseMethodDescriptor y.desc = some sig → n = sig.parameters.length) ∧ (Cond.methodLink own index y).before args s = true ∧ (Cond.static y).before args s = true
theorem vx_cwSW {own : String} {index maxL mc ms : Nat} {y : MethodName} {bytes : ByteArray} {ret : Option FieldType} {hh : List (Nat × Nat × Nat × Nat)} {Ts ws ws' : List Cond} {rm : Room} (n : Nat) (ht : ∀ w ∈ Ts, w.before args s = true) (hT : GoodIn Ts (va_wsS own index y ws)) (hw : ws = Cond.codeWith y bytes maxL ret hh :: ws') (hrc : rm.cells = mc) (hrs : rm.slots = ms)
    (hd : y.cls ≠ "java/lang/invoke/MethodHandle" ∧ y.cls ≠ "java/lang/invoke/VarHandle" ∧ (parseMethodDescriptor y.desc).map (fun d => d.parameters.length) = some n) (hR : rm.frames + 1 ≤ R.frames ∧ 8 + (maxL + 11) + rm.locals ≤ R.locals) :
    vx_CSW R s args own index y bytes maxL ret hh ws rm mc ms n := by
  have ok : ∀ w ∈ va_wsS own index y ws, w.before args s = true := fun w h => ht w (hT w h).1
  have hG : GoodIn Ts ws := fun w h => hT w (by unfold va_wsS; exact List.mem_append_right _ h)
  have hc : Cond.codeWith y bytes maxL ret hh ∈ ws := by rw [hw]; exact List.mem_cons_self
  refine ⟨⟨hrc, hrs, hR.1, hR.2, pay_in ht hG, hc⟩, ht _ (hG _ hc).1, ok _ (by simp [va_wsS]), ⟨hd.1, hd.2.1⟩, fun sig h => ?_, ok _ (by simp [va_wsS]), ok _ (by simp [va_wsS])⟩
  have h2 := hd.2.2
  rw [h] at h2
  exact (Option.some.inj h2).symm
theorem vx_callSW (X : Stand p l e R s m args below meth c T locs cells slots) (hexec : p.tables.exec = Jvm.exec) {own : String} {index : Nat} {y : MethodName} {bytes : ByteArray} {maxL : Nat} {ret : Option FieldType} {hh : List (Nat × Nat × Nat × Nat)}
    (hown : s.vm.findClass own = some m.cls) (hlink : (Cond.methodLink own index y).before args s = true) (hstat : (Cond.static y).before args s = true) (hinit : (Cond.initialized y.cls).before args s = true)
    (hcode : (Cond.codeWith y bytes maxL ret hh).before args s = true) (hy : y.cls ≠ "java/lang/invoke/MethodHandle" ∧ y.cls ≠ "java/lang/invoke/VarHandle")
    {W9 : Nat} {Pre : Pt → Array Value → Prop} {Post : Pt → Array Value → Option Value → Pt → Prop} (hK : Back l R p e below s args y 3 W9 Pre Post)
    {g : JFrame} (hg : g.method = m) (hsize : g.locals.size = c.maxLocals) {argsL rest : List Value} (hlen : ∀ sig, parseMethodDescriptor y.desc = some sig → argsL.length = sig.parameters.length)
    (hstack : g.stack = argsL.reverse ++ rest) (hW : 2 * g.monitorRoom + (rest.map fun v => v.category).sum ≤ W9) (hdg : decode c.code g.pc = .ok (.invokestatic index, 3))
    (hpre : ∀ vm₁, s.WarmedH vm₁ → Pre ⟨T.setVm vm₁, locs, cells, slots⟩ argsL.toArray) :
    ∃ (v : Option Value) (vm₁ : Vm) (B : Pt), s.WarmedH vm₁ ∧ Stand p l e R s m args below meth c B.U B.locs B.cells B.slots ∧ Post ⟨T.setVm vm₁, locs, cells, slots⟩ argsL.toArray v B ∧
      ∀ target, Steps p.tables e below (B.U.setTop { g with pc := g.pc + 3, stack := v.toList ++ rest }) target → Steps p.tables e below (T.setTop g) target := by
  obtain ⟨mk, methM, cM, hnamed, hmethM, -, -, -, -, -, -, hsigM⟩ := Cond.codeWith_spec hcode
  have hstatic : methM.isStatic = true := Cond.static_spec hnamed hmethM hstat
  obtain ⟨kP, hkP, -⟩ := className_of_methodNamed hnamed
  have hinitP : kP.init = .initialized := Cond.initialized_spec (findClass_of_methodNamed hnamed) hkP hinit
  obtain ⟨vm₁, X₁, hstep₁⟩ := X.invokestatic hexec hown hlink hnamed hmethM hstatic hkP hinitP hy (g := g) hg (argsL := argsL) (rest := rest) (hlen _ hsigM) hstack hdg
  obtain ⟨v, B, X', hpost, hsteps⟩ := hK m meth c ⟨T.setVm vm₁, locs, cells, slots⟩ { g with stack := rest } (.invokestatic index) mk argsL.toArray X₁ hg hsize hdg hW (X₁.named hnamed) (hpre vm₁ X₁.warmed)
  exact ⟨v, vm₁, B, X₁.warmed, X', hpost, fun target h => hstep₁ _ fun acts => by rw [doInvoke_state]; exact hsteps.trans h⟩
theorem vx_runSW {y : MethodName} {bytes cc : ByteArray} {maxL nL mc ms n index : Nat} {ret : Option FieldType} {hh : List (Nat × Nat × Nat × Nat)} {ws : List Cond} {rm : Room} {Pc : Array Value → State → Prop} {Qc : Array Value → State → Outcome → State → Prop} {free : Addr → Prop} {Ts : List Cond} {own : String} {As rest : List Value} {g : JFrame}
    (S : CallFix p m c cc nL s args Ts own) (hM : Met l y ws rm Pc Qc mc ms free) (cw : vx_CSW R s args own index y bytes maxL ret hh ws rm mc ms n) (hp : PreS s H Pc As)
    (hg : g.method = m) (hn : As.length = n) (hsize : g.locals.size = nL) (hstack : g.stack = As.reverse ++ rest) (hW : 2 * g.monitorRoom + (rest.map fun v => v.category).sum ≤ 8) (hdg : decode cc g.pc = .ok (.invokestatic index, 3)) (hf : cells + mc ≤ R.cells ∧ slots + ms ≤ R.slots) :
    va_Run p l e R s m args below meth c H locs cells slots mc ms g rest (Qc As.toArray) (free) := by
  obtain ⟨⟨hrc, hrs, hfr, hlo, hws, hcw⟩, hcode, hini, hy, hlen, hl, hstt⟩ := cw
  have hK : Back l R p e below s args y 3 8 (PreOf R mc ms Pc) (PostOf Qc mc ms free) := va_backW (hh := hh) (bytes := bytes) (maxL := maxL) (ret := ret) hM hp.1 hrc hrs hfr hlo hws hcw (fun a' U hW => word_at hW (Or.inl (by first | rfl | simp [Cond.onTables, Cond.keeps, Cond.steady])) hini)
  obtain ⟨hx, hb, hml, ho, -⟩ := S
  intro T hT X
  obtain ⟨v, vm₁, ⟨U', l2, c2, s2⟩, hW₁, X', ⟨g', mk, t, L, e1, e2, hq, h1, hL, h2, h3⟩, st⟩ := vx_callSW X hx (hh := hh) (bytes := bytes) (maxL := maxL) (ret := ret) ho hl hstt hini hcode hy hK hg (hsize.trans hml.symm) (argsL := As) (rest := rest) (fun sig h => hn.trans (hlen sig h)) hstack hW (by rw [hb]; exact hdg)
    (fun vm₁ hW₁ => ⟨hf.1, hf.2, hp.2 (T.setVm vm₁) hT hW₁⟩)
  dsimp only [Pt.U, Pt.locs, Pt.cells, Pt.slots] at X' e1 e2 h1 h2 h3 st
  subst h1; subst h2; subst h3
  exact ⟨v, (T.setVm vm₁).calling g' mk As.toArray, t, U', L, hT, X', hL, e1, e2, hq, st⟩
/-- not caught here, past rows that name other classes: it goes on to the caller -/
theorem vx_outP {p : Program} {l : Launch} {e : Env} {R : Room} {s : State} {m : MethodId} {args : Array Value} {below : List Frame} {meth : Method} {c : Code} {H : Heap} {locs : List Loc} {cells slots : Nat} {free : Addr → Prop} {ls : Array Slot} {rest : List Value} {Qc : Array Value → State → Outcome → State → Prop} {XC : String → State → State → Prop}
    {pc : Nat} {own E : String} {ce : Cell} {q : Addr} {mc ms : Nat} (hown : s.vm.findClass own = some m.cls) (hlocks : meth.locks = false)
    (hpass : ∀ z ∈ c.exceptionTable.toList, covers z pc = false ∨ (z.catchType ≠ 0 ∧ ∃ nm : String, (Cond.classLink own z.catchType nm).before args s = true ∧ va_Nc E nm s)) (hcell : H[q]? = some ce) (hv : ce.vm = .none) (hcl : s.vm.findClass E = some ce.cls)
    (hx : ∀ t : State, t.heap = H → s.vm.Alike t.vm → XC E s t) (hf : ∀ z ∈ locs, free z.base) (hc : cells ≤ mc) (hs : slots ≤ ms) :
    vx_W p l e R s m args below meth c H locs cells slots (vx_MQ below Qc XC args s mc ms free) (F0 m pc ls rest) q := by
  intro T hT X
  have hpl : e.platform.magicAccessors = ({} : Platform).magicAccessors := by rw [X.admits.platform]
  obtain ⟨vm', hW', X', st⟩ := X.outThrough hlocks q (g := F0 m pc ls rest) rfl rfl rfl (cell := ce) (by rw [hT]; exact hcell) (by rw [hv]; rfl)
    (by obtain ⟨k9, h9, -⟩ := Vm.findClass_spec hcl; exact ⟨k9, h9⟩) (fun z hz => by
      rcases hpass z hz with h | ⟨hz0, nm, hl1, hn1⟩
      · exact Or.inl h
      · obtain ⟨c6, hc6, hcl6⟩ := Cond.classLink_spec hown hl1 e.platform hpl
        obtain ⟨a8, b8, h1, h2, h3⟩ := hn1
        cases Option.some.inj (h1.symm.trans hcl)
        cases Option.some.inj (h2.symm.trans hc6)
        exact Or.inr ⟨hz0, _, hcl6, h3⟩)
  obtain ⟨g₀, hfr⟩ := X'.frames_eq
  have hcell9 : ((T.setVm vm').setFrames (.throwing q :: below)).heap[q]? = some ce := by
    show T.heap[q]? = some ce
    rw [hT]; exact hcell
  have hend : Ended ((T.setVm vm').setFrames (.throwing q :: below)) below (.threw q) := State.frames_setFrames _ (State.cur_lt_of_frames hfr)
  refine ⟨(T.setVm vm').setFrames (.throwing q :: below), ?_, .threw q, X'.here.running, hend, Or.inr ⟨q, rfl, E, ce, locs, hx _ hT (X'.ends _).1.alike, hcell9, hv, hcl, (X'.ends _).1, (X'.ends _).2.mono hc hs, hf⟩⟩
  rw [X.pushThrowing_eq]
  exact st
/-- a thing of a world lies in the heap -/
theorem vx_lt {D : va_G} {cl : List vw_C} {ws : va_W} {H1 : Heap} (h : va_P D cl ws H1) {k : Nat} {q : Nat × va_E} (hk : ws[k]? = some q) : q.1 < H1.size := (h k q hk).lt
end VXS
/-! ===== END ===== -/
/-! ===== BEGIN methods with a table of their own: called by a name, returning or throwing ===== -/
section VXH
/-! vx_backW, vx_callVX, vx_callSX, vx_callVW, vx_runVW, vx_runVX, vx_runSX, vx_ofWH follow the same proofs as their sisters above (Free/Laws.lean, Shelf42/LK1.lean); vx_outP calls Shelf42/NT130.lean (outThrough). -/
section
variable {l : Launch} {R : Room} {p : Program} {e : Env} {below : List Frame} {s : State} {sargs : Array Value} {y : MethodName} {len W9 : Nat}
theorem vx_backW {ws : List Cond} {rm : Room} {Pc : Array Value → State → Prop} {Qc : Array Value → State → Outcome → State → Prop} {XC : String → State → State → Prop} {mc ms : Nat} {free : Addr → Prop} {bytes : ByteArray} {maxL : Nat} {ret : Option FieldType} {hh : List (Nat × Nat × Nat × Nat)}
    (hM : vx_Met l y ws rm Pc Qc XC mc ms free) (hblind : FrameBlind Pc) (hrc : rm.cells = mc) (hrs : rm.slots = ms)
    (hframes : rm.frames + 1 ≤ R.frames) (hlocals : W9 + (maxL + 11) + rm.locals ≤ R.locals)
    (hws : ∀ w ∈ ws, ∀ a' U, s.WarmedH U.vm → w.before a' U = true) (hcode : Cond.codeWith y bytes maxL ret hh ∈ ws) (hinit : ∀ a' U, s.WarmedH U.vm → (Cond.initialized y.cls).before a' U = true) :
    vx_Back l R p e below s sargs y len W9 (PreOf R mc ms Pc) (PostOf Qc mc ms free) (vx_Post XC mc ms free) := by
  intro m meth c A g ig mk a X hg hsize hdg hW hn hp
  have h1 : (headSpec ws rm).pre.before a A.U = true := atoms_intro fun w hw => hws w hw _ _ X.warmed
  have h2 : (Cond.codeWith y bytes maxL ret hh).before a A.U = true := hws _ hcode _ _ X.warmed
  have h3 : (Cond.initialized y.cls).before a A.U = true := hinit _ _ X.warmed
  have h4 : A.cells + (headSpec ws rm).room.cells ≤ R.cells := by rw [show (headSpec ws rm).room.cells = mc from hrc]; exact hp.1
  have h5 : A.slots + (headSpec ws rm).room.slots ≤ R.slots := by rw [show (headSpec ws rm).room.slots = ms from hrs]; exact hp.2.1
  have hPc : Pc a (A.U.calling g mk a) := hblind _ _ _ _ hp.2.2
  obtain ⟨U, Ls, c0, s0⟩ := A
  dsimp only [Pt.U, Pt.locs, Pt.cells, Pt.slots] at h1 h2 h3 h4 h5 X hn hPc ⊢
  obtain ⟨m9, methY, cY, hn9, hmY, hcY, -, hlY, -⟩ := Cond.codeWith_spec h2
  cases Option.some.inj (hn9.symm.trans hn)
  obtain ⟨kY, hkY, -⟩ := className_of_methodNamed hn
  have hinitY : kY.init = .initialized := Cond.initialized_spec (findClass_of_methodNamed hn) hkY h3
  have h : At U g.method c below := by rw [hg]; exact X.here
  have hlocals9 : W9 + (maxL + 11) + (headSpec ws rm).room.locals ≤ R.locals := hlocals
  have happ : (headSpec ws rm).appliesLoose y e.platform (U.calling g mk a) = true :=
    Spec.appliesLoose_calling (g := g) h hdg hn hkY hinitY
      (X.room_calling (g := g) (R' := (headSpec ws rm).room) hsize hmY hcY hframes (by rw [hlY]; omega) h4 h5) h1
  obtain ⟨mid, hmid⟩ := h.above
  have hfr : (U.setTop g).frames = (.java g :: mid) ++ below := by rw [State.frames_setTop' g h.top, hmid]; rfl
  obtain ⟨o, s₂, hsteps, -, hend, hq⟩ := Steps.callFree hM p X.admits X.cas X.clock (acts := []) hfr happ hPc trivial
  have hq' : vx_Q Qc XC mc ms free a (U.calling g mk a) o s₂ := hq
  rw [State.frames_setTop' g h.top] at hend
  obtain ⟨g₀, hg0⟩ := Option.isSome_iff_exists.mp h.top
  obtain ⟨r, hr⟩ := State.topJava?_eq_some.mp hg0
  have hr' : (({ U with heap := s₂.heap, slotsUsed := s₂.slotsUsed } : State).setVm s₂.vm).frames = .java g₀ :: r := hr
  rcases hq' with ⟨hqc, L, hfe, hL⟩ | ⟨q, rfl, E, ce, L, hx, hce, hcv, hcl, hW₂, hsm, hL⟩
  · obtain ⟨⟨v, rfl⟩, hW₂, e2, q2, q3, q4, q5, q6⟩ := id hfe
    have e3 : s₂ = ({ (U.calling g mk a).setFrames s₂.frames with heap := s₂.heap, slotsUsed := s₂.slotsUsed } : State).setVm s₂.vm := by
      have : s₂ = ({ s₂ with vm := (U.calling g mk a).vm } : State).setVm s₂.vm := rfl
      rw [e2] at this
      exact this
    obtain ⟨c₂, i₂, len₂, hc₂, hd₂, hf₂⟩ := hend
    have hW' : U.WarmedH s₂.vm := hW₂
    have hcc : c₂ = c := by
      have h1 : s₂.code? g.method = U.code? g.method := by
        rw [State.code?_eq, State.code?_eq, hW'.alike.method?]
      exact Option.some.inj (hc₂.symm.trans (h1.trans h.code))
    subst hcc
    have hlen : len₂ = len := by rw [hdg] at hd₂; cases hd₂; rfl
    subst hlen
    have hs₂ : s₂ = (({ U with heap := s₂.heap, slotsUsed := s₂.slotsUsed } : State).setVm s₂.vm).setTop { g with pc := g.pc + len₂, stack := v.toList ++ g.stack } := by
      refine e3.trans ?_
      rw [hf₂, State.calling_eq h.top, State.setFrames_setFrames, State.setTop_of_frames _ hr', hr]
      rfl
    have hsame : U.sameButNew ({ U with heap := s₂.heap, slotsUsed := s₂.slotsUsed } : State) L mc ms := by
      refine ⟨?_, q2, q3, q4, q5, q6⟩
      obtain ⟨t, ht, -⟩ := State.frames_cons hr
      show ({ U with heap := s₂.heap, slotsUsed := s₂.slotsUsed } : State) = { U.setFrames U.frames with heap := s₂.heap, slotsUsed := s₂.slotsUsed }
      rw [State.setFrames_self ht]
    subst hg
    refine Or.inl ⟨v, ⟨(({ U with heap := s₂.heap, slotsUsed := s₂.slotsUsed } : State).setVm s₂.vm), Ls ++ L, c0 + mc, s0 + ms⟩,
      ⟨X.admits, X.cas, X.clock, X.frames, X.room, X.hears, X.method, X.code, (X.here.setHeapUsed s₂.heap s₂.slotsUsed).setVm hW'.alike, X.tail, State.WarmedH.trans X.warmed hW', X.limits, X.bytes, X.same.trans (hsame.setVm s.vm)⟩,
      ⟨g, mk, s₂, L, rfl, rfl, hqc, rfl, hL, rfl, rfl⟩, ?_⟩
    show Steps p.tables e below _ ((({ U with heap := s₂.heap, slotsUsed := s₂.slotsUsed } : State).setVm s₂.vm).setTop { g with pc := g.pc + len₂, stack := v.toList ++ g.stack })
    rw [← hs₂]
    exact hsteps
  · obtain ⟨e2, q2, q3, q4, q5, q6⟩ := id hsm
    have e3 : s₂ = ({ (U.calling g mk a).setFrames s₂.frames with heap := s₂.heap, slotsUsed := s₂.slotsUsed } : State).setVm s₂.vm := by
      have : s₂ = ({ s₂ with vm := (U.calling g mk a).vm } : State).setVm s₂.vm := rfl
      rw [e2] at this
      exact this
    have hf₂ : s₂.frames = .throwing q :: .java g :: U.frames.tail := hend
    have hW' : U.WarmedH s₂.vm := hW₂
    have hs₂ : s₂ = ((({ U with heap := s₂.heap, slotsUsed := s₂.slotsUsed } : State).setVm s₂.vm).setTop g).pushFrame (.throwing q) := by
      refine e3.trans ?_
      rw [hf₂, State.calling_eq h.top, State.setFrames_setFrames, State.pushFrame, State.frames_setTop _ hr', State.setTop_of_frames _ hr', State.setFrames_setFrames, hr]
      rfl
    have hsame : U.sameButNew ({ U with heap := s₂.heap, slotsUsed := s₂.slotsUsed } : State) L mc ms := by
      refine ⟨?_, q2, q3, q4, q5, q6⟩
      obtain ⟨t, ht, -⟩ := State.frames_cons hr
      show ({ U with heap := s₂.heap, slotsUsed := s₂.slotsUsed } : State) = { U.setFrames U.frames with heap := s₂.heap, slotsUsed := s₂.slotsUsed }
      rw [State.setFrames_self ht]
    subst hg
    refine Or.inr ⟨q, ⟨(({ U with heap := s₂.heap, slotsUsed := s₂.slotsUsed } : State).setVm s₂.vm), Ls ++ L, c0 + mc, s0 + ms⟩,
      ⟨X.admits, X.cas, X.clock, X.frames, X.room, X.hears, X.method, X.code, (X.here.setHeapUsed s₂.heap s₂.slotsUsed).setVm hW'.alike, X.tail, State.WarmedH.trans X.warmed hW', X.limits, X.bytes, X.same.trans (hsame.setVm s.vm)⟩,
      ⟨g, mk, s₂, L, E, ce, rfl, rfl, hx, hce, hcv, hcl, rfl, hL, rfl, rfl⟩, ?_⟩
    show Steps p.tables e below _ (((({ U with heap := s₂.heap, slotsUsed := s₂.slotsUsed } : State).setVm s₂.vm).setTop g).pushFrame (.throwing q))
    rw [← hs₂]
    exact hsteps
end
variable {p : Program} {l : Launch} {e : Env} {R : Room} {s : State} {m : MethodId} {args : Array Value} {below : List Frame} {meth : Method} {c : Code} {T : State} {H : Heap} {locs : List Loc} {cells slots : Nat}
theorem vx_callVX (X : Stand p l e R s m args below meth c T locs cells slots) (hexec : p.tables.exec = Jvm.exec) {own C : String} {index : Nat} {y : MethodName} {bytes : ByteArray} {maxL : Nat} {ret : Option FieldType} {hh : List (Nat × Nat × Nat × Nat)}
    (hown : s.vm.findClass own = some m.cls) (hlink : (Cond.methodLink own index y).before args s = true) (hinst : (Cond.instanceMethod y).before args s = true) (hsel : (Cond.selects C y y).before args s = true)
    (hcode : (Cond.codeWith y bytes maxL ret hh).before args s = true) (hy : y.cls ≠ "java/lang/invoke/MethodHandle" ∧ y.cls ≠ "java/lang/invoke/VarHandle")
    {W9 : Nat} {Pre : Pt → Array Value → Prop} {Post : Pt → Array Value → Option Value → Pt → Prop} {PostX : Pt → Array Value → Addr → Pt → Prop} (hK : vx_Back l R p e below s args y 3 W9 Pre Post PostX)
    {b : Addr} {cellB : Cell} (hcell : T.heap[b]? = some cellB) (hobj : cellB.vm.isStatics = false) (hcls : s.vm.findClass C = some cellB.cls)
    {g : JFrame} (hg : g.method = m) (hsize : g.locals.size = c.maxLocals) {argsL rest : List Value} (hlen : ∀ sig, parseMethodDescriptor y.desc = some sig → argsL.length = sig.parameters.length)
    (hstack : g.stack = argsL.reverse ++ .ref b :: rest) (hW : 2 * g.monitorRoom + (rest.map fun v => v.category).sum ≤ W9) (hdg : decode c.code g.pc = .ok (.invokevirtual index, 3))
    (hpre : ∀ vm₁, s.WarmedH vm₁ → Pre ⟨T.setVm vm₁, locs, cells, slots⟩ (Value.ref b :: argsL).toArray) :
    (∃ (v : Option Value) (vm₁ : Vm) (B : Pt), s.WarmedH vm₁ ∧ Stand p l e R s m args below meth c B.U B.locs B.cells B.slots ∧ Post ⟨T.setVm vm₁, locs, cells, slots⟩ (Value.ref b :: argsL).toArray v B ∧
      ∀ target, Steps p.tables e below (B.U.setTop { g with pc := g.pc + 3, stack := v.toList ++ rest }) target → Steps p.tables e below (T.setTop g) target) ∨
    (∃ (q : Addr) (vm₁ : Vm) (B : Pt), s.WarmedH vm₁ ∧ Stand p l e R s m args below meth c B.U B.locs B.cells B.slots ∧ PostX ⟨T.setVm vm₁, locs, cells, slots⟩ (Value.ref b :: argsL).toArray q B ∧
      Steps p.tables e below (T.setTop g) ((B.U.setTop { g with stack := rest }).pushFrame (.throwing q))) := by
  obtain ⟨mk, methM, hnamed, hmethM, hstM, habM⟩ := Cond.instanceMethod_spec hinst
  obtain ⟨m8, methM', cM, hn8, hmethM', -, -, -, -, -, -, hsigM⟩ := Cond.codeWith_spec hcode
  cases Option.some.inj (hn8.symm.trans hnamed)
  cases hmethM.symm.trans hmethM'
  obtain ⟨c2, r2, m2, q1, q2, q3, q4, kP, hkP, hkPi⟩ := Cond.selects_spec hsel
  cases hcls.symm.trans q1
  cases (State.methodFound?_of_named hnamed hy).symm.trans q2
  cases hnamed.symm.trans q3
  have hselP : selectMethod e.platform s.vm cellB.cls mk = .method mk := by rw [Launch.admits_selectMethod X.admits]; exact q4
  obtain ⟨vm₁, X₁, hstep₁⟩ := X.invokevirtual hexec hown hlink hnamed hmethM hstM hkP hkPi hy (a := b) (cell := cellB) hcell
    (fun z h => by rw [h] at hobj; cases hobj) hselP hmethM habM hkP hkPi (g := g) hg (argsL := argsL) (rest := rest) (hlen _ hsigM) hstack hdg
  rcases hK m meth c ⟨T.setVm vm₁, locs, cells, slots⟩ { g with stack := rest } (.invokevirtual index) mk (Value.ref b :: argsL).toArray X₁ hg hsize hdg hW (X₁.named hnamed) (hpre vm₁ X₁.warmed) with ⟨v, B, X', hpost, hsteps⟩ | ⟨q, B, X', hpost, hsteps⟩
  · exact Or.inl ⟨v, vm₁, B, X₁.warmed, X', hpost, fun target h => hstep₁ _ fun acts => by rw [doInvoke_state]; exact hsteps.trans h⟩
  · exact Or.inr ⟨q, vm₁, B, X₁.warmed, X', hpost, hstep₁ _ fun acts => by rw [doInvoke_state]; exact hsteps⟩
theorem vx_callSX (X : Stand p l e R s m args below meth c T locs cells slots) (hexec : p.tables.exec = Jvm.exec) {own : String} {index : Nat} {y : MethodName} {bytes : ByteArray} {maxL : Nat} {ret : Option FieldType} {hh : List (Nat × Nat × Nat × Nat)}
    (hown : s.vm.findClass own = some m.cls) (hlink : (Cond.methodLink own index y).before args s = true) (hstat : (Cond.static y).before args s = true) (hinit : (Cond.initialized y.cls).before args s = true)
    (hcode : (Cond.codeWith y bytes maxL ret hh).before args s = true) (hy : y.cls ≠ "java/lang/invoke/MethodHandle" ∧ y.cls ≠ "java/lang/invoke/VarHandle")
    {W9 : Nat} {Pre : Pt → Array Value → Prop} {Post : Pt → Array Value → Option Value → Pt → Prop} {PostX : Pt → Array Value → Addr → Pt → Prop} (hK : vx_Back l R p e below s args y 3 W9 Pre Post PostX)
    {g : JFrame} (hg : g.method = m) (hsize : g.locals.size = c.maxLocals) {argsL rest : List Value} (hlen : ∀ sig, parseMethodDescriptor y.desc = some sig → argsL.length = sig.parameters.length)
    (hstack : g.stack = argsL.reverse ++ rest) (hW : 2 * g.monitorRoom + (rest.map fun v => v.category).sum ≤ W9) (hdg : decode c.code g.pc = .ok (.invokestatic index, 3))
    (hpre : ∀ vm₁, s.WarmedH vm₁ → Pre ⟨T.setVm vm₁, locs, cells, slots⟩ argsL.toArray) :
    (∃ (v : Option Value) (vm₁ : Vm) (B : Pt), s.WarmedH vm₁ ∧ Stand p l e R s m args below meth c B.U B.locs B.cells B.slots ∧ Post ⟨T.setVm vm₁, locs, cells, slots⟩ argsL.toArray v B ∧
      ∀ target, Steps p.tables e below (B.U.setTop { g with pc := g.pc + 3, stack := v.toList ++ rest }) target → Steps p.tables e below (T.setTop g) target) ∨
    (∃ (q : Addr) (vm₁ : Vm) (B : Pt), s.WarmedH vm₁ ∧ Stand p l e R s m args below meth c B.U B.locs B.cells B.slots ∧ PostX ⟨T.setVm vm₁, locs, cells, slots⟩ argsL.toArray q B ∧
      Steps p.tables e below (T.setTop g) ((B.U.setTop { g with stack := rest }).pushFrame (.throwing q))) := by
  obtain ⟨mk, methM, cM, hnamed, hmethM, -, -, -, -, -, -, hsigM⟩ := Cond.codeWith_spec hcode
  have hstatic : methM.isStatic = true := Cond.static_spec hnamed hmethM hstat
  obtain ⟨kP, hkP, -⟩ := className_of_methodNamed hnamed
  have hinitP : kP.init = .initialized := Cond.initialized_spec (findClass_of_methodNamed hnamed) hkP hinit
  obtain ⟨vm₁, X₁, hstep₁⟩ := X.invokestatic hexec hown hlink hnamed hmethM hstatic hkP hinitP hy (g := g) hg (argsL := argsL) (rest := rest) (hlen _ hsigM) hstack hdg
  rcases hK m meth c ⟨T.setVm vm₁, locs, cells, slots⟩ { g with stack := rest } (.invokestatic index) mk argsL.toArray X₁ hg hsize hdg hW (X₁.named hnamed) (hpre vm₁ X₁.warmed) with ⟨v, B, X', hpost, hsteps⟩ | ⟨q, B, X', hpost, hsteps⟩
  · exact Or.inl ⟨v, vm₁, B, X₁.warmed, X', hpost, fun target h => hstep₁ _ fun acts => by rw [doInvoke_state]; exact hsteps.trans h⟩
  · exact Or.inr ⟨q, vm₁, B, X₁.warmed, X', hpost, hstep₁ _ fun acts => by rw [doInvoke_state]; exact hsteps⟩
theorem vx_callVW (X : Stand p l e R s m args below meth c T locs cells slots) (hexec : p.tables.exec = Jvm.exec) {own C : String} {index : Nat} {y : MethodName} {bytes : ByteArray} {maxL : Nat} {ret : Option FieldType} {hh : List (Nat × Nat × Nat × Nat)}
    (hown : s.vm.findClass own = some m.cls) (hlink : (Cond.methodLink own index y).before args s = true) (hinst : (Cond.instanceMethod y).before args s = true) (hsel : (Cond.selects C y y).before args s = true)
    (hcode : (Cond.codeWith y bytes maxL ret hh).before args s = true) (hy : y.cls ≠ "java/lang/invoke/MethodHandle" ∧ y.cls ≠ "java/lang/invoke/VarHandle")
    {W9 : Nat} {Pre : Pt → Array Value → Prop} {Post : Pt → Array Value → Option Value → Pt → Prop} (hK : Back l R p e below s args y 3 W9 Pre Post)
    {b : Addr} {cellB : Cell} (hcell : T.heap[b]? = some cellB) (hobj : cellB.vm.isStatics = false) (hcls : s.vm.findClass C = some cellB.cls)
    {g : JFrame} (hg : g.method = m) (hsize : g.locals.size = c.maxLocals) {argsL rest : List Value} (hlen : ∀ sig, parseMethodDescriptor y.desc = some sig → argsL.length = sig.parameters.length)
    (hstack : g.stack = argsL.reverse ++ .ref b :: rest) (hW : 2 * g.monitorRoom + (rest.map fun v => v.category).sum ≤ W9) (hdg : decode c.code g.pc = .ok (.invokevirtual index, 3))
    (hpre : ∀ vm₁, s.WarmedH vm₁ → Pre ⟨T.setVm vm₁, locs, cells, slots⟩ (Value.ref b :: argsL).toArray) :
    ∃ (v : Option Value) (vm₁ : Vm) (B : Pt), s.WarmedH vm₁ ∧ Stand p l e R s m args below meth c B.U B.locs B.cells B.slots ∧ Post ⟨T.setVm vm₁, locs, cells, slots⟩ (Value.ref b :: argsL).toArray v B ∧
      ∀ target, Steps p.tables e below (B.U.setTop { g with pc := g.pc + 3, stack := v.toList ++ rest }) target → Steps p.tables e below (T.setTop g) target := by
  obtain ⟨mk, methM, hnamed, hmethM, hstM, habM⟩ := Cond.instanceMethod_spec hinst
  obtain ⟨m8, methM', cM, hn8, hmethM', -, -, -, -, -, -, hsigM⟩ := Cond.codeWith_spec hcode
  cases Option.some.inj (hn8.symm.trans hnamed)
  cases hmethM.symm.trans hmethM'
  obtain ⟨c2, r2, m2, q1, q2, q3, q4, kP, hkP, hkPi⟩ := Cond.selects_spec hsel
  cases hcls.symm.trans q1
  cases (State.methodFound?_of_named hnamed hy).symm.trans q2
  cases hnamed.symm.trans q3
  have hselP : selectMethod e.platform s.vm cellB.cls mk = .method mk := by rw [Launch.admits_selectMethod X.admits]; exact q4
  obtain ⟨vm₁, X₁, hstep₁⟩ := X.invokevirtual hexec hown hlink hnamed hmethM hstM hkP hkPi hy (a := b) (cell := cellB) hcell
    (fun z h => by rw [h] at hobj; cases hobj) hselP hmethM habM hkP hkPi (g := g) hg (argsL := argsL) (rest := rest) (hlen _ hsigM) hstack hdg
  obtain ⟨v, B, X', hpost, hsteps⟩ := hK m meth c ⟨T.setVm vm₁, locs, cells, slots⟩ { g with stack := rest } (.invokevirtual index) mk (Value.ref b :: argsL).toArray X₁ hg hsize hdg hW (X₁.named hnamed) (hpre vm₁ X₁.warmed)
  exact ⟨v, vm₁, B, X₁.warmed, X', hpost, fun target h => hstep₁ _ fun acts => by rw [doInvoke_state]; exact hsteps.trans h⟩
abbrev vx_CVW (R : Room) (s : State) (args : Array Value) (own C : String) (index : Nat) (y : MethodName) (bytes : ByteArray) (maxL : Nat) (ret : Option FieldType) (hh : List (Nat × Nat × Nat × Nat)) (ws : List Cond) (rm : Room) (mc ms n : Nat) : Prop :=
  (rm.cells = mc ∧ rm.slots = ms ∧ rm.frames + 1 ≤ R.frames ∧ 8 + (maxL + 11) + rm.locals ≤ R.locals ∧ (∀ w ∈ ws, ∀ (a' : Array Value) (U : State), s.WarmedH U.vm → w.before a' U = true) ∧ Cond.codeWith y bytes maxL ret hh ∈ ws) ∧
  (Cond.codeWith y bytes maxL ret hh).before args s = true ∧ (Cond.initialized y.cls).before args s = true ∧ (y.cls ≠ "java/lang/invoke/MethodHandle" ∧ y.cls ≠ "java/lang/invoke/VarHandle") ∧
  (∀ sig, parseMethodDescriptor y.desc = some sig → n = sig.parameters.length) ∧ (Cond.methodLink own index y).before args s = true ∧ (Cond.instanceMethod y).before args s = true ∧ (Cond.selects C y y).before args s = true
theorem vx_cwVW {own C : String} {index maxL mc ms : Nat} {y : MethodName} {bytes : ByteArray} {ret : Option FieldType} {hh : List (Nat × Nat × Nat × Nat)} {Ts ws ws' : List Cond} {rm : Room} (n : Nat) (ht : ∀ w ∈ Ts, w.before args s = true) (hT : GoodIn Ts (wsV own index C y ws)) (hw : ws = Cond.codeWith y bytes maxL ret hh :: ws') (hrc : rm.cells = mc) (hrs : rm.slots = ms)
    (hd : y.cls = C ∧ y.cls ≠ "java/lang/invoke/MethodHandle" ∧ y.cls ≠ "java/lang/invoke/VarHandle" ∧ (parseMethodDescriptor y.desc).map (fun d => d.parameters.length) = some n) (hR : rm.frames + 1 ≤ R.frames ∧ 8 + (maxL + 11) + rm.locals ≤ R.locals) :
    vx_CVW R s args own C index y bytes maxL ret hh ws rm mc ms n := by
  obtain ⟨hC, hd⟩ := hd
  subst hC
  have ok : ∀ w ∈ wsV own index y.cls y ws, w.before args s = true := fun w h => ht w (hT w h).1
  have hG : GoodIn Ts ws := fun w h => hT w (by unfold wsV; exact List.mem_append_right _ h)
  have hc : Cond.codeWith y bytes maxL ret hh ∈ ws := by rw [hw]; exact List.mem_cons_self
  refine ⟨⟨hrc, hrs, hR.1, hR.2, pay_in ht hG, hc⟩, ht _ (hG _ hc).1, ok _ (by simp [wsV]), ⟨hd.1, hd.2.1⟩, fun sig h => ?_, ok _ (by simp [wsV]), ok _ (by simp [wsV]), ok _ (by simp [wsV])⟩
  have h2 := hd.2.2
  rw [h] at h2
  exact (Option.some.inj h2).symm
theorem vx_runVW {y : MethodName} {bytes cc : ByteArray} {maxL nL mc ms n index : Nat} {ret : Option FieldType} {hh : List (Nat × Nat × Nat × Nat)} {ws : List Cond} {rm : Room} {Pc : Array Value → State → Prop} {Qc : Array Value → State → Outcome → State → Prop} {free : Addr → Prop} {Ts : List Cond} {own C : String} {b : Addr} {As rest : List Value} {g : JFrame}
    (S : CallFix p m c cc nL s args Ts own) (hM : Met l y ws rm Pc Qc mc ms free) (cw : vx_CVW R s args own C index y bytes maxL ret hh ws rm mc ms n) (hp : PreV s H C b Pc As)
    (hg : g.method = m) (hn : As.length = n) (hsize : g.locals.size = nL) (hstack : g.stack = As.reverse ++ .ref b :: rest) (hW : 2 * g.monitorRoom + (rest.map fun v => v.category).sum ≤ 8) (hdg : decode cc g.pc = .ok (.invokevirtual index, 3)) (hf : cells + mc ≤ R.cells ∧ slots + ms ≤ R.slots) :
    va_Run p l e R s m args below meth c H locs cells slots mc ms g rest (Qc (Value.ref b :: As).toArray) free := by
  obtain ⟨⟨hrc, hrs, hfr, hlo, hws, hcw⟩, hcode, hini, hy, hlen, hl, hin, hse⟩ := cw
  have hK : Back l R p e below s args y 3 8 (PreOf R mc ms Pc) (PostOf Qc mc ms free) := va_backW (hh := hh) (bytes := bytes) (maxL := maxL) (ret := ret) hM hp.1 hrc hrs hfr hlo hws hcw (fun a' U hW => word_at hW (Or.inl (by first | rfl | simp [Cond.onTables, Cond.keeps, Cond.steady])) hini)
  obtain ⟨hx, hb, hml, ho, -⟩ := S
  obtain ⟨-, ⟨cellB, hcB, hoB, hclB⟩, hPc⟩ := hp
  intro T hT X
  obtain ⟨v, vm₁, ⟨U', l2, c2, s2⟩, hW₁, X', ⟨g', mk, t, L, e1, e2, hq, h1, hL, h2, h3⟩, st⟩ := vx_callVW X hx (C := C) (hh := hh) (bytes := bytes) (maxL := maxL) (ret := ret) ho hl hin hse hcode hy hK (by rw [hT]; exact hcB) hoB hclB hg (hsize.trans hml.symm) (argsL := As) (rest := rest) (fun sig h => hn.trans (hlen sig h)) hstack hW (by rw [hb]; exact hdg)
    (fun vm₁ hW₁ => ⟨hf.1, hf.2, hPc (T.setVm vm₁) hT hW₁⟩)
  dsimp only [Pt.U, Pt.locs, Pt.cells, Pt.slots] at X' e1 e2 h1 h2 h3 st
  subst h1; subst h2; subst h3
  exact ⟨v, (T.setVm vm₁).calling g' mk (Value.ref b :: As).toArray, t, U', L, hT, X', hL, e1, e2, hq, st⟩
section
variable {y : MethodName} {bytes cc : ByteArray} {maxL nL mc ms n index : Nat} {ret : Option FieldType} {ws : List Cond} {rm : Room} {Pc : Array Value → State → Prop} {Qc : Array Value → State → Outcome → State → Prop} {XC : String → State → State → Prop} {free : Addr → Prop} {Ts : List Cond} {own C : String} {b : Addr} {As rest : List Value} {g : JFrame}
theorem vx_runVX {hh : List (Nat × Nat × Nat × Nat)} (S : CallFix p m c cc nL s args Ts own) (hM : vx_Met l y ws rm Pc Qc XC mc ms free) (cw : vx_CVW R s args own C index y bytes maxL ret hh ws rm mc ms n) (hp : PreV s H C b Pc As)
    (hg : g.method = m) (hn : As.length = n) (hsize : g.locals.size = nL) (hstack : g.stack = As.reverse ++ .ref b :: rest) (hW : 2 * g.monitorRoom + (rest.map fun v => v.category).sum ≤ 8) (hdg : decode cc g.pc = .ok (.invokevirtual index, 3)) (hf : cells + mc ≤ R.cells ∧ slots + ms ≤ R.slots) :
    vx_Run p l e R s m args below meth c H locs cells slots mc ms g rest (Qc (Value.ref b :: As).toArray) XC free := by
  obtain ⟨⟨hrc, hrs, hfr, hlo, hws, hcw⟩, hcode, hini, hy, hlen, hl, hin, hse⟩ := cw
  have hK : vx_Back l R p e below s args y 3 8 (PreOf R mc ms Pc) (PostOf Qc mc ms free) (vx_Post XC mc ms free) := vx_backW (hh := hh) (bytes := bytes) (maxL := maxL) (ret := ret) hM hp.1 hrc hrs hfr hlo hws hcw (fun a' U hW => word_at hW (Or.inl (by first | rfl | simp [Cond.onTables, Cond.keeps, Cond.steady])) hini)
  obtain ⟨hx, hb, hml, ho, -⟩ := S
  obtain ⟨-, ⟨cellB, hcB, hoB, hclB⟩, hPc⟩ := hp
  intro T hT X
  rcases vx_callVX X hx (C := C) (hh := hh) (bytes := bytes) (maxL := maxL) (ret := ret) ho hl hin hse hcode hy hK (by rw [hT]; exact hcB) hoB hclB hg (hsize.trans hml.symm) (argsL := As) (rest := rest) (fun sig h => hn.trans (hlen sig h)) hstack hW (by rw [hb]; exact hdg)
    (fun vm₁ hW₁ => ⟨hf.1, hf.2, hPc (T.setVm vm₁) hT hW₁⟩) with ⟨v, vm₁, ⟨U', l2, c2, s2⟩, hW₁, X', ⟨g', mk, t, L, e1, e2, hq, h1, hL, h2, h3⟩, st⟩ | ⟨q, vm₁, ⟨U', l2, c2, s2⟩, hW₁, X', ⟨g', mk, t, L, E, ce, e1, e2, hq, hce, hcv, hcl, h1, hL, h2, h3⟩, st⟩
  · dsimp only [Pt.U, Pt.locs, Pt.cells, Pt.slots] at X' e1 e2 h1 h2 h3 st
    subst h1; subst h2; subst h3
    exact Or.inl ⟨v, (T.setVm vm₁).calling g' mk (Value.ref b :: As).toArray, t, U', L, hT, X', hL, e1, e2, hq, st⟩
  · dsimp only [Pt.U, Pt.locs, Pt.cells, Pt.slots] at X' e1 e2 h1 h2 h3 st hcl
    subst h1; subst h2; subst h3
    exact Or.inr ⟨q, (T.setVm vm₁).calling g' mk (Value.ref b :: As).toArray, t, U', L, E, ce, hT, X', hL, e1, e2, hq, hce, hcv, vx_cls hW₁ hcl, st⟩
theorem vx_runSX {hh : List (Nat × Nat × Nat × Nat)} (S : CallFix p m c cc nL s args Ts own) (hM : vx_Met l y ws rm Pc Qc XC mc ms free) (cw : vx_CSW R s args own index y bytes maxL ret hh ws rm mc ms n) (hp : PreS s H Pc As)
    (hg : g.method = m) (hn : As.length = n) (hsize : g.locals.size = nL) (hstack : g.stack = As.reverse ++ rest) (hW : 2 * g.monitorRoom + (rest.map fun v => v.category).sum ≤ 8) (hdg : decode cc g.pc = .ok (.invokestatic index, 3)) (hf : cells + mc ≤ R.cells ∧ slots + ms ≤ R.slots) :
    vx_Run p l e R s m args below meth c H locs cells slots mc ms g rest (Qc As.toArray) XC free := by
  obtain ⟨⟨hrc, hrs, hfr, hlo, hws, hcw⟩, hcode, hini, hy, hlen, hl, hstt⟩ := cw
  have hK : vx_Back l R p e below s args y 3 8 (PreOf R mc ms Pc) (PostOf Qc mc ms free) (vx_Post XC mc ms free) := vx_backW (hh := hh) (bytes := bytes) (maxL := maxL) (ret := ret) hM hp.1 hrc hrs hfr hlo hws hcw (fun a' U hW => word_at hW (Or.inl (by first | rfl | simp [Cond.onTables, Cond.keeps, Cond.steady])) hini)
  obtain ⟨hx, hb, hml, ho, -⟩ := S
  intro T hT X
  rcases vx_callSX X hx (hh := hh) (bytes := bytes) (maxL := maxL) (ret := ret) ho hl hstt hini hcode hy hK hg (hsize.trans hml.symm) (argsL := As) (rest := rest) (fun sig h => hn.trans (hlen sig h)) hstack hW (by rw [hb]; exact hdg)
    (fun vm₁ hW₁ => ⟨hf.1, hf.2, hp.2 (T.setVm vm₁) hT hW₁⟩) with ⟨v, vm₁, ⟨U', l2, c2, s2⟩, hW₁, X', ⟨g', mk, t, L, e1, e2, hq, h1, hL, h2, h3⟩, st⟩ | ⟨q, vm₁, ⟨U', l2, c2, s2⟩, hW₁, X', ⟨g', mk, t, L, E, ce, e1, e2, hq, hce, hcv, hcl, h1, hL, h2, h3⟩, st⟩
  · dsimp only [Pt.U, Pt.locs, Pt.cells, Pt.slots] at X' e1 e2 h1 h2 h3 st
    subst h1; subst h2; subst h3
    exact Or.inl ⟨v, (T.setVm vm₁).calling g' mk As.toArray, t, U', L, hT, X', hL, e1, e2, hq, st⟩
  · dsimp only [Pt.U, Pt.locs, Pt.cells, Pt.slots] at X' e1 e2 h1 h2 h3 st hcl
    subst h1; subst h2; subst h3
    exact Or.inr ⟨q, (T.setVm vm₁).calling g' mk As.toArray, t, U', L, E, ce, hT, X', hL, e1, e2, hq, hce, hcv, vx_cls hW₁ hcl, st⟩
end
end VXH
theorem vx_ofWH {l : Launch} {y : MethodName} {ws ws' : List Cond} {rm : Room} {Pc : Array Value → State → Prop} {Qc : Array Value → State → Outcome → State → Prop} {XC : String → State → State → Prop} {mc ms : Nat} {free : Addr → Prop} {cc : ByteArray} {maxL : Nat} {ret : Option FieldType} {hh : List (Nat × Nat × Nat × Nat)}
    (hy : plainName y.cls = true) (hw : ws = Cond.codeWith y cc maxL ret hh :: ws')
    (body : ∀ p e s m args below meth c s₁, BodyLoose p l y (headSpec ws rm) cc maxL ret e s m args below meth c s₁ → c.maxLocals = maxL → Pc args s →
      W p l e (headSpec ws rm).room s m args below meth c s.heap [] 0 0 (vx_MQ below Qc XC args s mc ms free) (entryFrame m args maxL)) : vx_Met l y ws rm Pc Qc XC mc ms free := by
  refine MetFree.of_bodyS (code := cc) (maxLocals := maxL) (ret := ret) hy ?_ ?_
  · intro args s m h hn
    obtain ⟨m9, meth, c, hn9, h1, h2, h3, h4, -, h5, h6, -⟩ := Cond.codeWith_spec (atoms_spec (ws := ws) h _ (by rw [hw]; exact List.mem_cons_self))
    cases hn.symm.trans hn9
    exact ⟨meth, c, h1, h2, h3, h4, h5, h6⟩
  · intro p e s m args below meth c s₁ B hml hP _
    have hh0 : s₁.heap = s.heap := by rw [B.state]; rfl
    obtain ⟨t, a1, o, b1, b2, b3⟩ := body p e s m args below meth c s₁ B hml hP s₁ hh0 (Stand.of_body B)
    exact ⟨t, o, a1, b1, b2, b3⟩
/-! ===== END ===== -/
end
section
/-! ===== BEGIN printed: names, fields, word lists, decode rows ===== -/
def RX0 : String := "GoatTower$Scene"
def TX0 : u_T := fun k => match k with
  | 0 => ("GoatTower$Scene", "minute", "I", false)
  | 1 => ("GoatTower$Scene", "gateCount", "I", false)
  | 2 => ("GoatTower$Scene", "goatCount", "I", false)
  | 3 => ("GoatTower$Scene", "askCount", "I", false)
  | 4 => ("GoatTower$Scene", "letInCount", "I", false)
  | 5 => ("GoatTower$Scene", "permits", "[I", true)
  | 6 => ("GoatTower$Scene", "order", "[I", true)
  | 7 => ("GoatTower$Scene", "givenUpAt", "[I", true)
  | 8 => ("GoatTower$Scene", "horns", "[I", true)
  | 9 => ("GoatTower$Scene", "state", "[I", true)
  | 10 => ("GoatTower$Scene", "gate", "[I", true)
  | 11 => ("GoatTower$Scene", "many", "[I", true)
  | 12 => ("GoatTower$Scene", "stay", "[I", true)
  | 13 => ("GoatTower$Scene", "left", "[I", true)
  | 14 => ("GoatTower$Scene", "askedAs", "[I", true)
  | 15 => ("GoatTower$Scene", "waitedForThis", "[I", true)
  | _ => ("GoatTower$Scene", "waitedInAll", "[I", true)
def tyX0 : Nat → FieldType := fun k => match k with
  | 0 => .int
  | 1 => .int
  | 2 => .int
  | 3 => .int
  | 4 => .int
  | 5 => .array .int
  | 6 => .array .int
  | 7 => .array .int
  | 8 => .array .int
  | 9 => .array .int
  | 10 => .array .int
  | 11 => .array .int
  | 12 => .array .int
  | 13 => .array .int
  | 14 => .array .int
  | 15 => .array .int
  | _ => .array .int
abbrev wsX00 : List Cond := u_ws RX0 TX0 17
theorem nmX0 : ∀ a, a < 17 → ∀ b, b < 17 → a ≠ b → (TX0 a).2.1 ≠ (TX0 b).2.1 := by decide +kernel
theorem tyX0_ok : ∀ k, k < 17 → parseFieldDescriptor (TX0 k).2.2.1 = some (tyX0 k) := by decide +kernel
abbrev cX0_init : ByteArray := prog_2_method_1_code
def yX0_init : MethodName := ⟨RX0, "<init>", "()V"⟩
abbrev cX0_become : ByteArray := prog_2_method_2_code
def yX0_become : MethodName := ⟨RX0, "become", "(LGoatTower$Scene;)V"⟩
abbrev cX0_openGate : ByteArray := prog_2_method_3_code
def yX0_openGate : MethodName := ⟨RX0, "openGate", "(II)I"⟩
abbrev cX0_bringGoat : ByteArray := prog_2_method_4_code
def yX0_bringGoat : MethodName := ⟨RX0, "bringGoat", "(I)I"⟩
abbrev cX0_rest : ByteArray := prog_2_method_5_code
def yX0_rest : MethodName := ⟨RX0, "rest", "(I)V"⟩
abbrev cX0_lineUp : ByteArray := prog_2_method_6_code
def yX0_lineUp : MethodName := ⟨RX0, "lineUp", "(IIIII)V"⟩
abbrev cX0_enter : ByteArray := prog_2_method_7_code
def yX0_enter : MethodName := ⟨RX0, "enter", "(IIII)V"⟩
abbrev cX0_liveAMinute : ByteArray := prog_2_method_8_code
def yX0_liveAMinute : MethodName := ⟨RX0, "liveAMinute", "()V"⟩
abbrev cX0_leaveThoseWhoStayed : ByteArray := prog_2_method_9_code
def yX0_leaveThoseWhoStayed : MethodName := ⟨RX0, "leaveThoseWhoStayed", "()V"⟩
abbrev cX0_letInThrough : ByteArray := prog_2_method_10_code
def yX0_letInThrough : MethodName := ⟨RX0, "letInThrough", "(I)V"⟩
abbrev cX0_waitOnAt : ByteArray := prog_2_method_11_code
def yX0_waitOnAt : MethodName := ⟨RX0, "waitOnAt", "(I)V"⟩
abbrev cX0_firstIn : ByteArray := prog_2_method_12_code
def yX0_firstIn : MethodName := ⟨RX0, "firstIn", "(I)I"⟩
abbrev cX0_freePermits : ByteArray := prog_2_method_13_code
def yX0_freePermits : MethodName := ⟨RX0, "freePermits", "(I)I"⟩
abbrev cX0_waitsAt : ByteArray := prog_2_method_14_code
def yX0_waitsAt : MethodName := ⟨RX0, "waitsAt", "(II)Z"⟩
abbrev cX0_held : ByteArray := prog_2_method_15_code
def yX0_held : MethodName := ⟨RX0, "held", "(I)I"⟩
abbrev cX0_seeming : ByteArray := prog_2_method_16_code
def yX0_seeming : MethodName := ⟨RX0, "seeming", "(I)I"⟩
abbrev cX0_countAheadOf : ByteArray := prog_2_method_17_code
def yX0_countAheadOf : MethodName := ⟨RX0, "countAheadOf", "(I)I"⟩
abbrev cX0_countWaitingAt : ByteArray := prog_2_method_18_code
def yX0_countWaitingAt : MethodName := ⟨RX0, "countWaitingAt", "(I)I"⟩
abbrev cX0_countInState : ByteArray := prog_2_method_19_code
def yX0_countInState : MethodName := ⟨RX0, "countInState", "(I)I"⟩
abbrev cX0_countStarving : ByteArray := prog_2_method_20_code
def yX0_countStarving : MethodName := ⟨RX0, "countStarving", "()I"⟩
abbrev cX0_givenUpInAll : ByteArray := prog_2_method_21_code
def yX0_givenUpInAll : MethodName := ⟨RX0, "givenUpInAll", "()I"⟩
abbrev cX0_sumOfWaited : ByteArray := prog_2_method_22_code
def yX0_sumOfWaited : MethodName := ⟨RX0, "sumOfWaited", "()I"⟩
def RX1 : String := "GoatTower"
def TX1 : u_T := fun k => match k with
  | 0 => ("GoatTower", "now", "LGoatTower$Scene;", true)
  | _ => ("GoatTower", "ahead", "LGoatTower$Scene;", true)
def tyX1 : Nat → FieldType := fun k => match k with
  | 0 => .object "GoatTower$Scene"
  | _ => .object "GoatTower$Scene"
abbrev wsX10 : List Cond := u_ws RX1 TX1 2
theorem nmX1 : ∀ a, a < 2 → ∀ b, b < 2 → a ≠ b → (TX1 a).2.1 ≠ (TX1 b).2.1 := by decide +kernel
theorem tyX1_ok : ∀ k, k < 2 → parseFieldDescriptor (TX1 k).2.2.1 = some (tyX1 k) := by decide +kernel
abbrev cX1_init : ByteArray := prog_1_method_1_code
def yX1_init : MethodName := ⟨RX1, "<init>", "()V"⟩
abbrev cX1_addGate : ByteArray := prog_1_method_2_code
def yX1_addGate : MethodName := ⟨RX1, "addGate", "(II)I"⟩
abbrev cX1_addGoat : ByteArray := prog_1_method_3_code
def yX1_addGoat : MethodName := ⟨RX1, "addGoat", "(I)I"⟩
abbrev cX1_ask : ByteArray := prog_1_method_4_code
def yX1_ask : MethodName := ⟨RX1, "ask", "(IIIII)I"⟩
abbrev cX1_barge : ByteArray := prog_1_method_5_code
def yX1_barge : MethodName := ⟨RX1, "barge", "(IIII)I"⟩
abbrev cX1_callBack : ByteArray := prog_1_method_6_code
def yX1_callBack : MethodName := ⟨RX1, "callBack", "(I)I"⟩
abbrev cX1_pass : ByteArray := prog_1_method_7_code
def yX1_pass : MethodName := ⟨RX1, "pass", "(I)I"⟩
abbrev cX1_minute : ByteArray := prog_1_method_8_code
def yX1_minute : MethodName := ⟨RX1, "minute", "()I"⟩
abbrev cX1_gates : ByteArray := prog_1_method_9_code
def yX1_gates : MethodName := ⟨RX1, "gates", "()I"⟩
abbrev cX1_goats : ByteArray := prog_1_method_10_code
def yX1_goats : MethodName := ⟨RX1, "goats", "()I"⟩
abbrev cX1_waiting : ByteArray := prog_1_method_11_code
def yX1_waiting : MethodName := ⟨RX1, "waiting", "()I"⟩
abbrev cX1_inside : ByteArray := prog_1_method_12_code
def yX1_inside : MethodName := ⟨RX1, "inside", "()I"⟩
abbrev cX1_starving : ByteArray := prog_1_method_13_code
def yX1_starving : MethodName := ⟨RX1, "starving", "()I"⟩
abbrev cX1_letIn : ByteArray := prog_1_method_14_code
def yX1_letIn : MethodName := ⟨RX1, "letIn", "()I"⟩
abbrev cX1_givenUp : ByteArray := prog_1_method_15_code
def yX1_givenUp : MethodName := ⟨RX1, "givenUp", "()I"⟩
abbrev cX1_permitsOf : ByteArray := prog_1_method_16_code
def yX1_permitsOf : MethodName := ⟨RX1, "permitsOf", "(I)I"⟩
abbrev cX1_freeOf : ByteArray := prog_1_method_17_code
def yX1_freeOf : MethodName := ⟨RX1, "freeOf", "(I)I"⟩
abbrev cX1_waitingAt : ByteArray := prog_1_method_18_code
def yX1_waitingAt : MethodName := ⟨RX1, "waitingAt", "(I)I"⟩
abbrev cX1_nextAt : ByteArray := prog_1_method_19_code
def yX1_nextAt : MethodName := ⟨RX1, "nextAt", "(I)I"⟩
abbrev cX1_stateOf : ByteArray := prog_1_method_20_code
def yX1_stateOf : MethodName := ⟨RX1, "stateOf", "(I)I"⟩
abbrev cX1_gateOf : ByteArray := prog_1_method_21_code
def yX1_gateOf : MethodName := ⟨RX1, "gateOf", "(I)I"⟩
abbrev cX1_holds : ByteArray := prog_1_method_22_code
def yX1_holds : MethodName := ⟨RX1, "holds", "(I)I"⟩
abbrev cX1_seemingHorns : ByteArray := prog_1_method_23_code
def yX1_seemingHorns : MethodName := ⟨RX1, "seemingHorns", "(I)I"⟩
abbrev cX1_minutesLeft : ByteArray := prog_1_method_24_code
def yX1_minutesLeft : MethodName := ⟨RX1, "minutesLeft", "(I)I"⟩
abbrev cX1_waitedOf : ByteArray := prog_1_method_25_code
def yX1_waitedOf : MethodName := ⟨RX1, "waitedOf", "(I)I"⟩
abbrev cX1_placeInLine : ByteArray := prog_1_method_26_code
def yX1_placeInLine : MethodName := ⟨RX1, "placeInLine", "(I)I"⟩
abbrev cX1_minutesUntilIn : ByteArray := prog_1_method_27_code
def yX1_minutesUntilIn : MethodName := ⟨RX1, "minutesUntilIn", "(I)I"⟩
abbrev cX1_givingUpIn : ByteArray := prog_1_method_28_code
def yX1_givingUpIn : MethodName := ⟨RX1, "givingUpIn", "(I)I"⟩
abbrev cX1_permitsWanted : ByteArray := prog_1_method_29_code
def yX1_permitsWanted : MethodName := ⟨RX1, "permitsWanted", "(I)I"⟩
abbrev cX1_bestOrder : ByteArray := prog_1_method_30_code
def yX1_bestOrder : MethodName := ⟨RX1, "bestOrder", "(I)I"⟩
abbrev cX1_meanWaited : ByteArray := prog_1_method_31_code
def yX1_meanWaited : MethodName := ⟨RX1, "meanWaited", "()D"⟩
abbrev cX1_digest : ByteArray := prog_1_method_32_code
def yX1_digest : MethodName := ⟨RX1, "digest", "()J"⟩
abbrev cX1_givingUpWith : ByteArray := prog_1_method_33_code
def yX1_givingUpWith : MethodName := ⟨RX1, "givingUpWith", "(III)I"⟩
abbrev cX1_checkGate : ByteArray := prog_1_method_34_code
def yX1_checkGate : MethodName := ⟨RX1, "checkGate", "(I)V"⟩
abbrev cX1_checkGoat : ByteArray := prog_1_method_35_code
def yX1_checkGoat : MethodName := ⟨RX1, "checkGoat", "(I)V"⟩
abbrev cX1_checkIdle : ByteArray := prog_1_method_36_code
def yX1_checkIdle : MethodName := ⟨RX1, "checkIdle", "(I)V"⟩
abbrev cX1_checkNumber : ByteArray := prog_1_method_37_code
def yX1_checkNumber : MethodName := ⟨RX1, "checkNumber", "(II)V"⟩
def RX2 : String := "GoatTowerModel"
def TX2 : u_T := fun k => match k with
  | 0 => ("GoatTowerModel", "thrown", "I", false)
  | 1 => ("GoatTowerModel", "gates", "I", false)
  | 2 => ("GoatTowerModel", "goats", "I", false)
  | 3 => ("GoatTowerModel", "permits", "[I", true)
  | 4 => ("GoatTowerModel", "order", "[I", true)
  | 5 => ("GoatTowerModel", "horns", "[I", true)
  | 6 => ("GoatTowerModel", "now", "[I", true)
  | _ => ("GoatTowerModel", "kept", "[I", true)
def tyX2 : Nat → FieldType := fun k => match k with
  | 0 => .int
  | 1 => .int
  | 2 => .int
  | 3 => .array .int
  | 4 => .array .int
  | 5 => .array .int
  | 6 => .array .int
  | _ => .array .int
abbrev wsX20 : List Cond := u_ws RX2 TX2 8
theorem nmX2 : ∀ a, a < 8 → ∀ b, b < 8 → a ≠ b → (TX2 a).2.1 ≠ (TX2 b).2.1 := by decide +kernel
theorem tyX2_ok : ∀ k, k < 8 → parseFieldDescriptor (TX2 k).2.2.1 = some (tyX2 k) := by decide +kernel
abbrev cX2_init : ByteArray := prog_4_method_1_code
def yX2_init : MethodName := ⟨RX2, "<init>", "()V"⟩
abbrev cX2_thrown : ByteArray := prog_4_method_2_code
def yX2_thrown : MethodName := ⟨RX2, "thrown", "()I"⟩
abbrev cX2_no : ByteArray := prog_4_method_3_code
def yX2_no : MethodName := ⟨RX2, "no", "(I)I"⟩
abbrev cX2_ok : ByteArray := prog_4_method_4_code
def yX2_ok : MethodName := ⟨RX2, "ok", "(I)I"⟩
abbrev cX2_isIn : ByteArray := prog_4_method_5_code
def yX2_isIn : MethodName := ⟨RX2, "isIn", "(III)Z"⟩
abbrev cX2_isGate : ByteArray := prog_4_method_6_code
def yX2_isGate : MethodName := ⟨RX2, "isGate", "(I)Z"⟩
abbrev cX2_isGoat : ByteArray := prog_4_method_7_code
def yX2_isGoat : MethodName := ⟨RX2, "isGoat", "(I)Z"⟩
abbrev cX2_keep : ByteArray := prog_4_method_8_code
def yX2_keep : MethodName := ⟨RX2, "keep", "()V"⟩
abbrev cX2_bringBack : ByteArray := prog_4_method_9_code
def yX2_bringBack : MethodName := ⟨RX2, "bringBack", "()V"⟩
abbrev cX2_of : ByteArray := prog_4_method_10_code
def yX2_of : MethodName := ⟨RX2, "of", "(II)I"⟩
abbrev cX2_let : ByteArray := prog_4_method_11_code
def yX2_let : MethodName := ⟨RX2, "let", "(III)V"⟩
abbrev cX2_is : ByteArray := prog_4_method_12_code
def yX2_is : MethodName := ⟨RX2, "is", "(II)Z"⟩
abbrev cX2_isAt : ByteArray := prog_4_method_13_code
def yX2_isAt : MethodName := ⟨RX2, "isAt", "(II)Z"⟩
abbrev cX2_free : ByteArray := prog_4_method_14_code
def yX2_free : MethodName := ⟨RX2, "free", "(I)I"⟩
abbrev cX2_seem : ByteArray := prog_4_method_15_code
def yX2_seem : MethodName := ⟨RX2, "seem", "(I)I"⟩
abbrev cX2_firstAt : ByteArray := prog_4_method_16_code
def yX2_firstAt : MethodName := ⟨RX2, "firstAt", "(I)I"⟩
abbrev cX2_next : ByteArray := prog_4_method_17_code
def yX2_next : MethodName := ⟨RX2, "next", "(I)I"⟩
abbrev cX2_manyAt : ByteArray := prog_4_method_18_code
def yX2_manyAt : MethodName := ⟨RX2, "manyAt", "(I)I"⟩
abbrev cX2_many : ByteArray := prog_4_method_19_code
def yX2_many : MethodName := ⟨RX2, "many", "(I)I"⟩
abbrev cX2_stay : ByteArray := prog_4_method_20_code
def yX2_stay : MethodName := ⟨RX2, "stay", "(I)V"⟩
abbrev cX2_open : ByteArray := prog_4_method_21_code
def yX2_open : MethodName := ⟨RX2, "open", "(I)V"⟩
abbrev cX2_waitOn : ByteArray := prog_4_method_22_code
def yX2_waitOn : MethodName := ⟨RX2, "waitOn", "(I)V"⟩
abbrev cX2_minuteOn : ByteArray := prog_4_method_23_code
def yX2_minuteOn : MethodName := ⟨RX2, "minuteOn", "()V"⟩
abbrev cX2_minutesOn : ByteArray := prog_4_method_24_code
def yX2_minutesOn : MethodName := ⟨RX2, "minutesOn", "(I)V"⟩
abbrev cX2_addGate : ByteArray := prog_4_method_25_code
def yX2_addGate : MethodName := ⟨RX2, "addGate", "(II)I"⟩
abbrev cX2_addGoat : ByteArray := prog_4_method_26_code
def yX2_addGoat : MethodName := ⟨RX2, "addGoat", "(I)I"⟩
abbrev cX2_write : ByteArray := prog_4_method_27_code
def yX2_write : MethodName := ⟨RX2, "write", "(IIIII)V"⟩
abbrev cX2_ask : ByteArray := prog_4_method_28_code
def yX2_ask : MethodName := ⟨RX2, "ask", "(IIIII)I"⟩
abbrev cX2_barge : ByteArray := prog_4_method_29_code
def yX2_barge : MethodName := ⟨RX2, "barge", "(IIII)I"⟩
abbrev cX2_held : ByteArray := prog_4_method_30_code
def yX2_held : MethodName := ⟨RX2, "held", "(I)I"⟩
abbrev cX2_callBack : ByteArray := prog_4_method_31_code
def yX2_callBack : MethodName := ⟨RX2, "callBack", "(I)I"⟩
abbrev cX2_pass : ByteArray := prog_4_method_32_code
def yX2_pass : MethodName := ⟨RX2, "pass", "(I)I"⟩
abbrev cX2_minute : ByteArray := prog_4_method_33_code
def yX2_minute : MethodName := ⟨RX2, "minute", "()I"⟩
abbrev cX2_gates : ByteArray := prog_4_method_34_code
def yX2_gates : MethodName := ⟨RX2, "gates", "()I"⟩
abbrev cX2_goats : ByteArray := prog_4_method_35_code
def yX2_goats : MethodName := ⟨RX2, "goats", "()I"⟩
abbrev cX2_waiting : ByteArray := prog_4_method_36_code
def yX2_waiting : MethodName := ⟨RX2, "waiting", "()I"⟩
abbrev cX2_inside : ByteArray := prog_4_method_37_code
def yX2_inside : MethodName := ⟨RX2, "inside", "()I"⟩
abbrev cX2_starved : ByteArray := prog_4_method_38_code
def yX2_starved : MethodName := ⟨RX2, "starved", "()I"⟩
abbrev cX2_starving : ByteArray := prog_4_method_39_code
def yX2_starving : MethodName := ⟨RX2, "starving", "()I"⟩
abbrev cX2_letIn : ByteArray := prog_4_method_40_code
def yX2_letIn : MethodName := ⟨RX2, "letIn", "()I"⟩
abbrev cX2_givenUp : ByteArray := prog_4_method_41_code
def yX2_givenUp : MethodName := ⟨RX2, "givenUp", "()I"⟩
abbrev cX2_permitsOf : ByteArray := prog_4_method_42_code
def yX2_permitsOf : MethodName := ⟨RX2, "permitsOf", "(I)I"⟩
abbrev cX2_freeOf : ByteArray := prog_4_method_43_code
def yX2_freeOf : MethodName := ⟨RX2, "freeOf", "(I)I"⟩
abbrev cX2_waitingAt : ByteArray := prog_4_method_44_code
def yX2_waitingAt : MethodName := ⟨RX2, "waitingAt", "(I)I"⟩
abbrev cX2_nextAt : ByteArray := prog_4_method_45_code
def yX2_nextAt : MethodName := ⟨RX2, "nextAt", "(I)I"⟩
abbrev cX2_stateOf : ByteArray := prog_4_method_46_code
def yX2_stateOf : MethodName := ⟨RX2, "stateOf", "(I)I"⟩
abbrev cX2_where : ByteArray := prog_4_method_47_code
def yX2_where : MethodName := ⟨RX2, "where", "(I)I"⟩
abbrev cX2_gateOf : ByteArray := prog_4_method_48_code
def yX2_gateOf : MethodName := ⟨RX2, "gateOf", "(I)I"⟩
abbrev cX2_holds : ByteArray := prog_4_method_49_code
def yX2_holds : MethodName := ⟨RX2, "holds", "(I)I"⟩
abbrev cX2_seemingHorns : ByteArray := prog_4_method_50_code
def yX2_seemingHorns : MethodName := ⟨RX2, "seemingHorns", "(I)I"⟩
abbrev cX2_left : ByteArray := prog_4_method_51_code
def yX2_left : MethodName := ⟨RX2, "left", "(I)I"⟩
abbrev cX2_minutesLeft : ByteArray := prog_4_method_52_code
def yX2_minutesLeft : MethodName := ⟨RX2, "minutesLeft", "(I)I"⟩
abbrev cX2_waitedOf : ByteArray := prog_4_method_53_code
def yX2_waitedOf : MethodName := ⟨RX2, "waitedOf", "(I)I"⟩
abbrev cX2_place : ByteArray := prog_4_method_54_code
def yX2_place : MethodName := ⟨RX2, "place", "(I)I"⟩
abbrev cX2_placeInLine : ByteArray := prog_4_method_55_code
def yX2_placeInLine : MethodName := ⟨RX2, "placeInLine", "(I)I"⟩
abbrev cX2_until : ByteArray := prog_4_method_56_code
def yX2_until : MethodName := ⟨RX2, "until", "(I)I"⟩
abbrev cX2_minutesUntilIn : ByteArray := prog_4_method_57_code
def yX2_minutesUntilIn : MethodName := ⟨RX2, "minutesUntilIn", "(I)I"⟩
abbrev cX2_givingUpIn : ByteArray := prog_4_method_58_code
def yX2_givingUpIn : MethodName := ⟨RX2, "givingUpIn", "(I)I"⟩
abbrev cX2_lost : ByteArray := prog_4_method_59_code
def yX2_lost : MethodName := ⟨RX2, "lost", "(I)I"⟩
abbrev cX2_wanted : ByteArray := prog_4_method_60_code
def yX2_wanted : MethodName := ⟨RX2, "wanted", "(I)I"⟩
abbrev cX2_permitsWanted : ByteArray := prog_4_method_61_code
def yX2_permitsWanted : MethodName := ⟨RX2, "permitsWanted", "(I)I"⟩
abbrev cX2_lostBy : ByteArray := prog_4_method_62_code
def yX2_lostBy : MethodName := ⟨RX2, "lostBy", "(II)I"⟩
abbrev cX2_better : ByteArray := prog_4_method_63_code
def yX2_better : MethodName := ⟨RX2, "better", "(I)I"⟩
abbrev cX2_bestOrder : ByteArray := prog_4_method_64_code
def yX2_bestOrder : MethodName := ⟨RX2, "bestOrder", "(I)I"⟩
abbrev cX2_meanWaited : ByteArray := prog_4_method_65_code
def yX2_meanWaited : MethodName := ⟨RX2, "meanWaited", "()D"⟩
abbrev cX2_digest : ByteArray := prog_4_method_66_code
def yX2_digest : MethodName := ⟨RX2, "digest", "()J"⟩
def RJ0 : String := "java/lang/String"
def TJ0 : u_T := fun k => match k with
  | _ => ("", "", "", false)
def tyJ0 : Nat → FieldType := fun k => match k with
  | _ => .int
abbrev wsJ00 : List Cond := u_ws RJ0 TJ0 0
theorem nmJ0 : ∀ a, a < 0 → ∀ b, b < 0 → a ≠ b → (TJ0 a).2.1 ≠ (TJ0 b).2.1 := by decide +kernel
theorem tyJ0_ok : ∀ k, k < 0 → parseFieldDescriptor (TJ0 k).2.2.1 = some (tyJ0 k) := by decide +kernel
def RJ10 : String := "java/lang/System"
def TJ10 : u_T := fun k => match k with
  | _ => ("", "", "", false)
def tyJ10 : Nat → FieldType := fun k => match k with
  | _ => .int
abbrev wsJ100 : List Cond := u_ws RJ10 TJ10 0
theorem nmJ10 : ∀ a, a < 0 → ∀ b, b < 0 → a ≠ b → (TJ10 a).2.1 ≠ (TJ10 b).2.1 := by decide +kernel
theorem tyJ10_ok : ∀ k, k < 0 → parseFieldDescriptor (TJ10 k).2.2.1 = some (tyJ10 k) := by decide +kernel
def RL : String := "GoatTowerLaw"
abbrev cL_addGate : ByteArray := method_3_code
def yL_addGate : MethodName := ⟨RL, "addGate", "(LGoatTower;II[J)I"⟩
abbrev cL_addGoat : ByteArray := method_4_code
def yL_addGoat : MethodName := ⟨RL, "addGoat", "(LGoatTower;I[J)I"⟩
abbrev cL_ask : ByteArray := method_5_code
def yL_ask : MethodName := ⟨RL, "ask", "(LGoatTower;IIIII[J)I"⟩
abbrev cL_barge : ByteArray := method_6_code
def yL_barge : MethodName := ⟨RL, "barge", "(LGoatTower;IIII[J)I"⟩
abbrev cL_callBack : ByteArray := method_7_code
def yL_callBack : MethodName := ⟨RL, "callBack", "(LGoatTower;I[J)I"⟩
abbrev cL_pass : ByteArray := method_8_code
def yL_pass : MethodName := ⟨RL, "pass", "(LGoatTower;I[J)I"⟩
abbrev cL_permitsOf : ByteArray := method_9_code
def yL_permitsOf : MethodName := ⟨RL, "permitsOf", "(LGoatTower;I[J)I"⟩
abbrev cL_freeOf : ByteArray := method_10_code
def yL_freeOf : MethodName := ⟨RL, "freeOf", "(LGoatTower;I[J)I"⟩
abbrev cL_waitingAt : ByteArray := method_11_code
def yL_waitingAt : MethodName := ⟨RL, "waitingAt", "(LGoatTower;I[J)I"⟩
abbrev cL_nextAt : ByteArray := method_12_code
def yL_nextAt : MethodName := ⟨RL, "nextAt", "(LGoatTower;I[J)I"⟩
abbrev cL_stateOf : ByteArray := method_13_code
def yL_stateOf : MethodName := ⟨RL, "stateOf", "(LGoatTower;I[J)I"⟩
abbrev cL_gateOf : ByteArray := method_14_code
def yL_gateOf : MethodName := ⟨RL, "gateOf", "(LGoatTower;I[J)I"⟩
abbrev cL_holds : ByteArray := method_15_code
def yL_holds : MethodName := ⟨RL, "holds", "(LGoatTower;I[J)I"⟩
abbrev cL_seemingHorns : ByteArray := method_16_code
def yL_seemingHorns : MethodName := ⟨RL, "seemingHorns", "(LGoatTower;I[J)I"⟩
abbrev cL_minutesLeft : ByteArray := method_17_code
def yL_minutesLeft : MethodName := ⟨RL, "minutesLeft", "(LGoatTower;I[J)I"⟩
abbrev cL_waitedOf : ByteArray := method_18_code
def yL_waitedOf : MethodName := ⟨RL, "waitedOf", "(LGoatTower;I[J)I"⟩
abbrev cL_placeInLine : ByteArray := method_19_code
def yL_placeInLine : MethodName := ⟨RL, "placeInLine", "(LGoatTower;I[J)I"⟩
abbrev cL_minutesUntilIn : ByteArray := method_20_code
def yL_minutesUntilIn : MethodName := ⟨RL, "minutesUntilIn", "(LGoatTower;I[J)I"⟩
abbrev cL_givingUpIn : ByteArray := method_21_code
def yL_givingUpIn : MethodName := ⟨RL, "givingUpIn", "(LGoatTower;I[J)I"⟩
abbrev cL_permitsWanted : ByteArray := method_22_code
def yL_permitsWanted : MethodName := ⟨RL, "permitsWanted", "(LGoatTower;I[J)I"⟩
abbrev cL_bestOrder : ByteArray := method_23_code
def yL_bestOrder : MethodName := ⟨RL, "bestOrder", "(LGoatTower;I[J)I"⟩
abbrev cL_law : ByteArray := code
def yL_law : MethodName := ⟨RL, "law", "([I)Z"⟩
def wsX0_init : List Cond := .code yX0_init cX0_init 1 none :: ([.methodLink RX0 3 objectInit, .instanceMethod objectInit, .code objectInit ⟨#[0xb1]⟩ 1 none, .arrayClass .int, .fieldLink RX0 9 "GoatTower$Scene" "permits" "[I", .fieldLink RX0 15 "GoatTower$Scene" "order" "[I", .fieldLink RX0 18 "GoatTower$Scene" "givenUpAt" "[I", .fieldLink RX0 21 "GoatTower$Scene" "horns" "[I", .fieldLink RX0 24 "GoatTower$Scene" "state" "[I", .fieldLink RX0 27 "GoatTower$Scene" "gate" "[I", .fieldLink RX0 30 "GoatTower$Scene" "many" "[I", .fieldLink RX0 33 "GoatTower$Scene" "stay" "[I", .fieldLink RX0 36 "GoatTower$Scene" "left" "[I", .fieldLink RX0 39 "GoatTower$Scene" "askedAs" "[I", .fieldLink RX0 42 "GoatTower$Scene" "waitedForThis" "[I", .fieldLink RX0 45 "GoatTower$Scene" "waitedInAll" "[I"] ++ wsX00)
def wsX0_become : List Cond := .code yX0_become cX0_become 3 none :: ([.fieldLink RX0 48 "GoatTower$Scene" "minute" "I", .fieldLink RX0 52 "GoatTower$Scene" "gateCount" "I", .fieldLink RX0 55 "GoatTower$Scene" "goatCount" "I", .fieldLink RX0 58 "GoatTower$Scene" "askCount" "I", .fieldLink RX0 61 "GoatTower$Scene" "letInCount" "I", .fieldLink RX0 9 "GoatTower$Scene" "permits" "[I", .fieldLink RX0 15 "GoatTower$Scene" "order" "[I", .fieldLink RX0 18 "GoatTower$Scene" "givenUpAt" "[I", .fieldLink RX0 21 "GoatTower$Scene" "horns" "[I", .fieldLink RX0 24 "GoatTower$Scene" "state" "[I", .fieldLink RX0 27 "GoatTower$Scene" "gate" "[I", .fieldLink RX0 30 "GoatTower$Scene" "many" "[I", .fieldLink RX0 33 "GoatTower$Scene" "stay" "[I", .fieldLink RX0 36 "GoatTower$Scene" "left" "[I", .fieldLink RX0 39 "GoatTower$Scene" "askedAs" "[I", .fieldLink RX0 42 "GoatTower$Scene" "waitedForThis" "[I", .fieldLink RX0 45 "GoatTower$Scene" "waitedInAll" "[I"] ++ wsX00)
def wsX0_openGate : List Cond := .code yX0_openGate cX0_openGate 4 (some .int) :: ([.fieldLink RX0 52 "GoatTower$Scene" "gateCount" "I", .fieldLink RX0 9 "GoatTower$Scene" "permits" "[I", .fieldLink RX0 15 "GoatTower$Scene" "order" "[I"] ++ wsX00)
def wsX0_rest : List Cond := .code yX0_rest cX0_rest 2 none :: ([.fieldLink RX0 24 "GoatTower$Scene" "state" "[I", .fieldLink RX0 27 "GoatTower$Scene" "gate" "[I", .fieldLink RX0 36 "GoatTower$Scene" "left" "[I", .fieldLink RX0 42 "GoatTower$Scene" "waitedForThis" "[I"] ++ wsX00)
def wsX0_bringGoat : List Cond := .code yX0_bringGoat cX0_bringGoat 3 (some .int) :: ([.fieldLink RX0 55 "GoatTower$Scene" "goatCount" "I", .fieldLink RX0 21 "GoatTower$Scene" "horns" "[I", .methodLink RX0 64 yX0_rest, .instanceMethod yX0_rest, .selects RX0 yX0_rest yX0_rest, .initialized RX0, .code yX0_rest cX0_rest 2 none, .fieldLink RX0 24 "GoatTower$Scene" "state" "[I", .fieldLink RX0 27 "GoatTower$Scene" "gate" "[I", .fieldLink RX0 36 "GoatTower$Scene" "left" "[I", .fieldLink RX0 42 "GoatTower$Scene" "waitedForThis" "[I"] ++ wsX00)
def wsX0_lineUp : List Cond := .code yX0_lineUp cX0_lineUp 6 none :: ([.fieldLink RX0 24 "GoatTower$Scene" "state" "[I", .fieldLink RX0 27 "GoatTower$Scene" "gate" "[I", .fieldLink RX0 30 "GoatTower$Scene" "many" "[I", .fieldLink RX0 33 "GoatTower$Scene" "stay" "[I", .fieldLink RX0 36 "GoatTower$Scene" "left" "[I", .fieldLink RX0 39 "GoatTower$Scene" "askedAs" "[I", .fieldLink RX0 58 "GoatTower$Scene" "askCount" "I"] ++ wsX00)
def wsX0_enter : List Cond := .code yX0_enter cX0_enter 5 none :: ([.fieldLink RX0 24 "GoatTower$Scene" "state" "[I", .fieldLink RX0 27 "GoatTower$Scene" "gate" "[I", .fieldLink RX0 30 "GoatTower$Scene" "many" "[I", .fieldLink RX0 36 "GoatTower$Scene" "left" "[I", .fieldLink RX0 42 "GoatTower$Scene" "waitedForThis" "[I"] ++ wsX00)
def wsX0_leaveThoseWhoStayed : List Cond := .code yX0_leaveThoseWhoStayed cX0_leaveThoseWhoStayed 2 none :: ([.fieldLink RX0 55 "GoatTower$Scene" "goatCount" "I", .fieldLink RX0 24 "GoatTower$Scene" "state" "[I", .fieldLink RX0 36 "GoatTower$Scene" "left" "[I", .methodLink RX0 64 yX0_rest, .instanceMethod yX0_rest, .selects RX0 yX0_rest yX0_rest, .initialized RX0, .code yX0_rest cX0_rest 2 none, .fieldLink RX0 27 "GoatTower$Scene" "gate" "[I", .fieldLink RX0 42 "GoatTower$Scene" "waitedForThis" "[I"] ++ wsX00)
def wsX0_freePermits : List Cond := .code yX0_freePermits cX0_freePermits 4 (some .int) :: ([.fieldLink RX0 9 "GoatTower$Scene" "permits" "[I", .fieldLink RX0 55 "GoatTower$Scene" "goatCount" "I", .fieldLink RX0 24 "GoatTower$Scene" "state" "[I", .fieldLink RX0 27 "GoatTower$Scene" "gate" "[I", .fieldLink RX0 30 "GoatTower$Scene" "many" "[I"] ++ wsX00)
def wsX0_waitsAt : List Cond := .code yX0_waitsAt cX0_waitsAt 3 (some .boolean) :: ([.fieldLink RX0 24 "GoatTower$Scene" "state" "[I", .fieldLink RX0 27 "GoatTower$Scene" "gate" "[I"] ++ wsX00)
def wsX0_seeming : List Cond := .code yX0_seeming cX0_seeming 2 (some .int) :: ([.fieldLink RX0 21 "GoatTower$Scene" "horns" "[I", .fieldLink RX0 42 "GoatTower$Scene" "waitedForThis" "[I"] ++ wsX00)
def wsX0_firstIn : List Cond := .code yX0_firstIn cX0_firstIn 10 (some .int) :: ([.fieldLink RX0 15 "GoatTower$Scene" "order" "[I", .fieldLink RX0 55 "GoatTower$Scene" "goatCount" "I", .fieldLink RX0 30 "GoatTower$Scene" "many" "[I", .fieldLink RX0 39 "GoatTower$Scene" "askedAs" "[I", .methodLink RX0 89 yX0_freePermits, .instanceMethod yX0_freePermits, .selects RX0 yX0_freePermits yX0_freePermits, .initialized RX0, .code yX0_freePermits cX0_freePermits 4 (some .int), .fieldLink RX0 9 "GoatTower$Scene" "permits" "[I", .fieldLink RX0 24 "GoatTower$Scene" "state" "[I", .fieldLink RX0 27 "GoatTower$Scene" "gate" "[I", .methodLink RX0 85 yX0_waitsAt, .instanceMethod yX0_waitsAt, .selects RX0 yX0_waitsAt yX0_waitsAt, .code yX0_waitsAt cX0_waitsAt 3 (some .boolean), .methodLink RX0 92 yX0_seeming, .instanceMethod yX0_seeming, .selects RX0 yX0_seeming yX0_seeming, .code yX0_seeming cX0_seeming 2 (some .int), .fieldLink RX0 21 "GoatTower$Scene" "horns" "[I", .fieldLink RX0 42 "GoatTower$Scene" "waitedForThis" "[I"] ++ wsX00)
def wsX0_letInThrough_r1 : List Cond := [Cond.fieldLink RX0 55 "GoatTower$Scene" "goatCount" "I", Cond.fieldLink RX0 30 "GoatTower$Scene" "many" "[I", Cond.fieldLink RX0 33 "GoatTower$Scene" "stay" "[I", Cond.fieldLink RX0 61 "GoatTower$Scene" "letInCount" "I", Cond.methodLink RX0 77 yX0_firstIn, Cond.instanceMethod yX0_firstIn, Cond.selects RX0 yX0_firstIn yX0_firstIn, Cond.initialized RX0, Cond.code yX0_firstIn cX0_firstIn 10 (some .int), Cond.fieldLink RX0 15 "GoatTower$Scene" "order" "[I", Cond.fieldLink RX0 39 "GoatTower$Scene" "askedAs" "[I", Cond.methodLink RX0 89 yX0_freePermits, Cond.instanceMethod yX0_freePermits, Cond.selects RX0 yX0_freePermits yX0_freePermits, Cond.code yX0_freePermits cX0_freePermits 4 (some .int), Cond.fieldLink RX0 9 "GoatTower$Scene" "permits" "[I", Cond.fieldLink RX0 24 "GoatTower$Scene" "state" "[I", Cond.fieldLink RX0 27 "GoatTower$Scene" "gate" "[I", Cond.methodLink RX0 85 yX0_waitsAt, Cond.instanceMethod yX0_waitsAt, Cond.selects RX0 yX0_waitsAt yX0_waitsAt, Cond.code yX0_waitsAt cX0_waitsAt 3 (some .boolean), Cond.methodLink RX0 92 yX0_seeming, Cond.instanceMethod yX0_seeming]
def wsX0_letInThrough_r2 : List Cond := [Cond.selects RX0 yX0_seeming yX0_seeming, Cond.code yX0_seeming cX0_seeming 2 (some .int), Cond.fieldLink RX0 21 "GoatTower$Scene" "horns" "[I", Cond.fieldLink RX0 42 "GoatTower$Scene" "waitedForThis" "[I", Cond.methodLink RX0 81 yX0_enter, Cond.instanceMethod yX0_enter, Cond.selects RX0 yX0_enter yX0_enter, Cond.code yX0_enter cX0_enter 5 none, Cond.fieldLink RX0 36 "GoatTower$Scene" "left" "[I"]
def wsX0_letInThrough : List Cond := .code yX0_letInThrough cX0_letInThrough 4 none :: ((wsX0_letInThrough_r1 ++ wsX0_letInThrough_r2) ++ wsX00)
def wsX0_waitOnAt : List Cond := .code yX0_waitOnAt cX0_waitOnAt 3 none :: ([.fieldLink RX0 55 "GoatTower$Scene" "goatCount" "I", .fieldLink RX0 42 "GoatTower$Scene" "waitedForThis" "[I", .fieldLink RX0 45 "GoatTower$Scene" "waitedInAll" "[I", .fieldLink RX0 36 "GoatTower$Scene" "left" "[I", .fieldLink RX0 18 "GoatTower$Scene" "givenUpAt" "[I", .methodLink RX0 85 yX0_waitsAt, .instanceMethod yX0_waitsAt, .selects RX0 yX0_waitsAt yX0_waitsAt, .initialized RX0, .code yX0_waitsAt cX0_waitsAt 3 (some .boolean), .fieldLink RX0 24 "GoatTower$Scene" "state" "[I", .fieldLink RX0 27 "GoatTower$Scene" "gate" "[I", .methodLink RX0 64 yX0_rest, .instanceMethod yX0_rest, .selects RX0 yX0_rest yX0_rest, .code yX0_rest cX0_rest 2 none] ++ wsX00)
def wsX0_liveAMinute_r1 : List Cond := [Cond.fieldLink RX0 52 "GoatTower$Scene" "gateCount" "I", Cond.fieldLink RX0 48 "GoatTower$Scene" "minute" "I", Cond.methodLink RX0 68 yX0_leaveThoseWhoStayed, Cond.instanceMethod yX0_leaveThoseWhoStayed, Cond.selects RX0 yX0_leaveThoseWhoStayed yX0_leaveThoseWhoStayed, Cond.initialized RX0, Cond.code yX0_leaveThoseWhoStayed cX0_leaveThoseWhoStayed 2 none, Cond.fieldLink RX0 55 "GoatTower$Scene" "goatCount" "I", Cond.fieldLink RX0 24 "GoatTower$Scene" "state" "[I", Cond.fieldLink RX0 36 "GoatTower$Scene" "left" "[I", Cond.methodLink RX0 64 yX0_rest, Cond.instanceMethod yX0_rest, Cond.selects RX0 yX0_rest yX0_rest, Cond.code yX0_rest cX0_rest 2 none, Cond.fieldLink RX0 27 "GoatTower$Scene" "gate" "[I", Cond.fieldLink RX0 42 "GoatTower$Scene" "waitedForThis" "[I", Cond.methodLink RX0 71 yX0_letInThrough, Cond.instanceMethod yX0_letInThrough, Cond.selects RX0 yX0_letInThrough yX0_letInThrough, Cond.code yX0_letInThrough cX0_letInThrough 4 none, Cond.fieldLink RX0 30 "GoatTower$Scene" "many" "[I", Cond.fieldLink RX0 33 "GoatTower$Scene" "stay" "[I", Cond.fieldLink RX0 61 "GoatTower$Scene" "letInCount" "I", Cond.methodLink RX0 77 yX0_firstIn]
def wsX0_liveAMinute_r2 : List Cond := [Cond.instanceMethod yX0_firstIn, Cond.selects RX0 yX0_firstIn yX0_firstIn, Cond.code yX0_firstIn cX0_firstIn 10 (some .int), Cond.fieldLink RX0 15 "GoatTower$Scene" "order" "[I", Cond.fieldLink RX0 39 "GoatTower$Scene" "askedAs" "[I", Cond.methodLink RX0 89 yX0_freePermits, Cond.instanceMethod yX0_freePermits, Cond.selects RX0 yX0_freePermits yX0_freePermits, Cond.code yX0_freePermits cX0_freePermits 4 (some .int), Cond.fieldLink RX0 9 "GoatTower$Scene" "permits" "[I", Cond.methodLink RX0 85 yX0_waitsAt, Cond.instanceMethod yX0_waitsAt, Cond.selects RX0 yX0_waitsAt yX0_waitsAt, Cond.code yX0_waitsAt cX0_waitsAt 3 (some .boolean), Cond.methodLink RX0 92 yX0_seeming, Cond.instanceMethod yX0_seeming, Cond.selects RX0 yX0_seeming yX0_seeming, Cond.code yX0_seeming cX0_seeming 2 (some .int), Cond.fieldLink RX0 21 "GoatTower$Scene" "horns" "[I", Cond.methodLink RX0 81 yX0_enter, Cond.instanceMethod yX0_enter, Cond.selects RX0 yX0_enter yX0_enter, Cond.code yX0_enter cX0_enter 5 none, Cond.methodLink RX0 74 yX0_waitOnAt]
def wsX0_liveAMinute_r3 : List Cond := [Cond.instanceMethod yX0_waitOnAt, Cond.selects RX0 yX0_waitOnAt yX0_waitOnAt, Cond.code yX0_waitOnAt cX0_waitOnAt 3 none, Cond.fieldLink RX0 45 "GoatTower$Scene" "waitedInAll" "[I", Cond.fieldLink RX0 18 "GoatTower$Scene" "givenUpAt" "[I"]
def wsX0_liveAMinute : List Cond := .code yX0_liveAMinute cX0_liveAMinute 2 none :: ((wsX0_liveAMinute_r1 ++ (wsX0_liveAMinute_r2 ++ wsX0_liveAMinute_r3)) ++ wsX00)
def wsX0_held : List Cond := .code yX0_held cX0_held 2 (some .int) :: ([.fieldLink RX0 24 "GoatTower$Scene" "state" "[I", .fieldLink RX0 30 "GoatTower$Scene" "many" "[I"] ++ wsX00)
def wsX0_countAheadOf : List Cond := .code yX0_countAheadOf cX0_countAheadOf 4 (some .int) :: ([.fieldLink RX0 55 "GoatTower$Scene" "goatCount" "I", .fieldLink RX0 27 "GoatTower$Scene" "gate" "[I", .fieldLink RX0 39 "GoatTower$Scene" "askedAs" "[I", .methodLink RX0 85 yX0_waitsAt, .instanceMethod yX0_waitsAt, .selects RX0 yX0_waitsAt yX0_waitsAt, .initialized RX0, .code yX0_waitsAt cX0_waitsAt 3 (some .boolean), .fieldLink RX0 24 "GoatTower$Scene" "state" "[I"] ++ wsX00)
def wsX0_countWaitingAt : List Cond := .code yX0_countWaitingAt cX0_countWaitingAt 4 (some .int) :: ([.fieldLink RX0 55 "GoatTower$Scene" "goatCount" "I", .methodLink RX0 85 yX0_waitsAt, .instanceMethod yX0_waitsAt, .selects RX0 yX0_waitsAt yX0_waitsAt, .initialized RX0, .code yX0_waitsAt cX0_waitsAt 3 (some .boolean), .fieldLink RX0 24 "GoatTower$Scene" "state" "[I", .fieldLink RX0 27 "GoatTower$Scene" "gate" "[I"] ++ wsX00)
def wsX0_countInState : List Cond := .code yX0_countInState cX0_countInState 4 (some .int) :: ([.fieldLink RX0 55 "GoatTower$Scene" "goatCount" "I", .fieldLink RX0 24 "GoatTower$Scene" "state" "[I"] ++ wsX00)
def wsX0_countStarving : List Cond := .code yX0_countStarving cX0_countStarving 3 (some .int) :: ([.fieldLink RX0 55 "GoatTower$Scene" "goatCount" "I", .fieldLink RX0 24 "GoatTower$Scene" "state" "[I", .fieldLink RX0 42 "GoatTower$Scene" "waitedForThis" "[I"] ++ wsX00)
def wsX0_givenUpInAll : List Cond := .code yX0_givenUpInAll cX0_givenUpInAll 3 (some .int) :: ([.fieldLink RX0 52 "GoatTower$Scene" "gateCount" "I", .fieldLink RX0 18 "GoatTower$Scene" "givenUpAt" "[I"] ++ wsX00)
def wsX0_sumOfWaited : List Cond := .code yX0_sumOfWaited cX0_sumOfWaited 3 (some .int) :: ([.fieldLink RX0 55 "GoatTower$Scene" "goatCount" "I", .fieldLink RX0 45 "GoatTower$Scene" "waitedInAll" "[I"] ++ wsX00)
def wsX1_init : List Cond := .code yX1_init cX1_init 1 none :: ([.methodLink RX1 1 objectInit, .instanceMethod objectInit, .code objectInit ⟨#[0xb1]⟩ 1 none, .classLink RX1 7 RX0, .instantiable RX0 17, .initialized RX0, .fieldLink RX1 10 "GoatTower" "now" "LGoatTower$Scene;", .fieldLink RX1 16 "GoatTower" "ahead" "LGoatTower$Scene;", .instanceMethod yX0_init, .code yX0_init cX0_init 1 none, .methodLink RX0 3 objectInit, .arrayClass .int, .fieldLink RX0 9 "GoatTower$Scene" "permits" "[I", .fieldLink RX0 15 "GoatTower$Scene" "order" "[I", .fieldLink RX0 18 "GoatTower$Scene" "givenUpAt" "[I", .fieldLink RX0 21 "GoatTower$Scene" "horns" "[I", .fieldLink RX0 24 "GoatTower$Scene" "state" "[I", .fieldLink RX0 27 "GoatTower$Scene" "gate" "[I", .fieldLink RX0 30 "GoatTower$Scene" "many" "[I", .fieldLink RX0 33 "GoatTower$Scene" "stay" "[I", .fieldLink RX0 36 "GoatTower$Scene" "left" "[I", .fieldLink RX0 39 "GoatTower$Scene" "askedAs" "[I", .fieldLink RX0 42 "GoatTower$Scene" "waitedForThis" "[I", .fieldLink RX0 45 "GoatTower$Scene" "waitedInAll" "[I"] ++ wsX00 ++ wsX10)
def wsX1_checkNumber : List Cond := .code yX1_checkNumber cX1_checkNumber 2 none :: ([.classLink RX1 23 "java/lang/IllegalArgumentException", .initialized "java/lang/IllegalArgumentException"] ++ (vx_atS RX1 27 "java/lang/IllegalArgumentException" ["java/lang/RuntimeException", "java/lang/Exception"]).filter goodWord)
def wsX1_addGate : List Cond := .code yX1_addGate cX1_addGate 3 (some .int) :: ([.classLink RX1 23 "java/lang/IllegalArgumentException", .initialized "java/lang/IllegalArgumentException", .classLink RX1 34 "java/lang/IllegalStateException", .initialized "java/lang/IllegalStateException", .fieldLink RX1 10 "GoatTower" "now" "LGoatTower$Scene;", .fieldLink RX1 30 "GoatTower$Scene" "gateCount" "I", .methodLink RX1 19 yX1_checkNumber, .static yX1_checkNumber, .initialized RX1, .code yX1_checkNumber cX1_checkNumber 2 none, .methodLink RX1 39 yX0_openGate, .instanceMethod yX0_openGate, .selects RX0 yX0_openGate yX0_openGate, .initialized RX0, .code yX0_openGate cX0_openGate 4 (some .int), .fieldLink RX0 52 "GoatTower$Scene" "gateCount" "I", .fieldLink RX0 9 "GoatTower$Scene" "permits" "[I", .fieldLink RX0 15 "GoatTower$Scene" "order" "[I"] ++ wsX10 ++ wsX00 ++ (vx_atS RX1 27 "java/lang/IllegalArgumentException" ["java/lang/RuntimeException", "java/lang/Exception"]).filter goodWord ++ (vx_atS RX1 38 "java/lang/IllegalStateException" ["java/lang/RuntimeException", "java/lang/Exception"]).filter goodWord)
def wsX1_addGoat_r1 : List Cond := [Cond.classLink RX1 34 "java/lang/IllegalStateException", Cond.initialized "java/lang/IllegalStateException", Cond.fieldLink RX1 10 "GoatTower" "now" "LGoatTower$Scene;", Cond.fieldLink RX1 43 "GoatTower$Scene" "goatCount" "I", Cond.methodLink RX1 19 yX1_checkNumber, Cond.static yX1_checkNumber, Cond.initialized RX1, Cond.code yX1_checkNumber cX1_checkNumber 2 none, Cond.classLink RX1 23 "java/lang/IllegalArgumentException", Cond.initialized "java/lang/IllegalArgumentException", Cond.methodLink RX1 48 yX0_bringGoat, Cond.instanceMethod yX0_bringGoat, Cond.selects RX0 yX0_bringGoat yX0_bringGoat, Cond.initialized RX0, Cond.code yX0_bringGoat cX0_bringGoat 3 (some .int), Cond.fieldLink RX0 55 "GoatTower$Scene" "goatCount" "I", Cond.fieldLink RX0 21 "GoatTower$Scene" "horns" "[I", Cond.methodLink RX0 64 yX0_rest, Cond.instanceMethod yX0_rest, Cond.selects RX0 yX0_rest yX0_rest, Cond.code yX0_rest cX0_rest 2 none, Cond.fieldLink RX0 24 "GoatTower$Scene" "state" "[I", Cond.fieldLink RX0 27 "GoatTower$Scene" "gate" "[I", Cond.fieldLink RX0 36 "GoatTower$Scene" "left" "[I"]
def wsX1_addGoat_r2 : List Cond := [Cond.fieldLink RX0 42 "GoatTower$Scene" "waitedForThis" "[I"]
def wsX1_addGoat : List Cond := .code yX1_addGoat cX1_addGoat 2 (some .int) :: ((wsX1_addGoat_r1 ++ wsX1_addGoat_r2) ++ wsX10 ++ wsX00 ++ (vx_atS RX1 38 "java/lang/IllegalStateException" ["java/lang/RuntimeException", "java/lang/Exception"]).filter goodWord ++ (vx_atS RX1 27 "java/lang/IllegalArgumentException" ["java/lang/RuntimeException", "java/lang/Exception"]).filter goodWord)
def wsX1_checkGoat : List Cond := .code yX1_checkGoat cX1_checkGoat 2 none :: ([.classLink RX1 216 "java/lang/IndexOutOfBoundsException", .initialized "java/lang/IndexOutOfBoundsException", .fieldLink RX1 10 "GoatTower" "now" "LGoatTower$Scene;", .fieldLink RX1 43 "GoatTower$Scene" "goatCount" "I"] ++ wsX10 ++ wsX00 ++ (vx_atS RX1 220 "java/lang/IndexOutOfBoundsException" ["java/lang/RuntimeException", "java/lang/Exception"]).filter goodWord)
def wsX1_checkGate : List Cond := .code yX1_checkGate cX1_checkGate 2 none :: ([.classLink RX1 216 "java/lang/IndexOutOfBoundsException", .initialized "java/lang/IndexOutOfBoundsException", .fieldLink RX1 10 "GoatTower" "now" "LGoatTower$Scene;", .fieldLink RX1 30 "GoatTower$Scene" "gateCount" "I"] ++ wsX10 ++ wsX00 ++ (vx_atS RX1 220 "java/lang/IndexOutOfBoundsException" ["java/lang/RuntimeException", "java/lang/Exception"]).filter goodWord)
def wsX1_checkIdle : List Cond := .code yX1_checkIdle cX1_checkIdle 2 none :: ([.classLink RX1 34 "java/lang/IllegalStateException", .initialized "java/lang/IllegalStateException", .fieldLink RX1 10 "GoatTower" "now" "LGoatTower$Scene;", .fieldLink RX1 82 "GoatTower$Scene" "state" "[I"] ++ wsX10 ++ wsX00 ++ (vx_atS RX1 38 "java/lang/IllegalStateException" ["java/lang/RuntimeException", "java/lang/Exception"]).filter goodWord)
def wsX1_ask_r1 : List Cond := [Cond.fieldLink RX1 10 "GoatTower" "now" "LGoatTower$Scene;", Cond.fieldLink RX1 59 "GoatTower$Scene" "permits" "[I", Cond.methodLink RX1 52 yX1_checkGoat, Cond.instanceMethod yX1_checkGoat, Cond.selects RX1 yX1_checkGoat yX1_checkGoat, Cond.initialized RX1, Cond.code yX1_checkGoat cX1_checkGoat 2 none, Cond.classLink RX1 216 "java/lang/IndexOutOfBoundsException", Cond.initialized "java/lang/IndexOutOfBoundsException", Cond.fieldLink RX1 43 "GoatTower$Scene" "goatCount" "I", Cond.methodLink RX1 56 yX1_checkGate, Cond.instanceMethod yX1_checkGate, Cond.selects RX1 yX1_checkGate yX1_checkGate, Cond.code yX1_checkGate cX1_checkGate 2 none, Cond.fieldLink RX1 30 "GoatTower$Scene" "gateCount" "I", Cond.methodLink RX1 19 yX1_checkNumber, Cond.static yX1_checkNumber, Cond.code yX1_checkNumber cX1_checkNumber 2 none, Cond.classLink RX1 23 "java/lang/IllegalArgumentException", Cond.initialized "java/lang/IllegalArgumentException", Cond.methodLink RX1 63 yX1_checkIdle, Cond.instanceMethod yX1_checkIdle, Cond.selects RX1 yX1_checkIdle yX1_checkIdle, Cond.code yX1_checkIdle cX1_checkIdle 2 none]
def wsX1_ask_r2 : List Cond := [Cond.classLink RX1 34 "java/lang/IllegalStateException", Cond.initialized "java/lang/IllegalStateException", Cond.fieldLink RX1 82 "GoatTower$Scene" "state" "[I", Cond.methodLink RX1 66 yX0_lineUp, Cond.instanceMethod yX0_lineUp, Cond.selects RX0 yX0_lineUp yX0_lineUp, Cond.initialized RX0, Cond.code yX0_lineUp cX0_lineUp 6 none, Cond.fieldLink RX0 24 "GoatTower$Scene" "state" "[I", Cond.fieldLink RX0 27 "GoatTower$Scene" "gate" "[I", Cond.fieldLink RX0 30 "GoatTower$Scene" "many" "[I", Cond.fieldLink RX0 33 "GoatTower$Scene" "stay" "[I", Cond.fieldLink RX0 36 "GoatTower$Scene" "left" "[I", Cond.fieldLink RX0 39 "GoatTower$Scene" "askedAs" "[I", Cond.fieldLink RX0 58 "GoatTower$Scene" "askCount" "I", Cond.methodLink RX1 70 yX0_countWaitingAt, Cond.instanceMethod yX0_countWaitingAt, Cond.selects RX0 yX0_countWaitingAt yX0_countWaitingAt, Cond.code yX0_countWaitingAt cX0_countWaitingAt 4 (some .int), Cond.fieldLink RX0 55 "GoatTower$Scene" "goatCount" "I", Cond.methodLink RX0 85 yX0_waitsAt, Cond.instanceMethod yX0_waitsAt, Cond.selects RX0 yX0_waitsAt yX0_waitsAt, Cond.code yX0_waitsAt cX0_waitsAt 3 (some .boolean)]
def wsX1_ask : List Cond := .code yX1_ask cX1_ask 6 (some .int) :: ((wsX1_ask_r1 ++ wsX1_ask_r2) ++ wsX10 ++ wsX00 ++ (vx_atS RX1 220 "java/lang/IndexOutOfBoundsException" ["java/lang/RuntimeException", "java/lang/Exception"]).filter goodWord ++ (vx_atS RX1 27 "java/lang/IllegalArgumentException" ["java/lang/RuntimeException", "java/lang/Exception"]).filter goodWord ++ (vx_atS RX1 38 "java/lang/IllegalStateException" ["java/lang/RuntimeException", "java/lang/Exception"]).filter goodWord)
def wsX1_barge_r1 : List Cond := [Cond.classLink RX1 34 "java/lang/IllegalStateException", Cond.initialized "java/lang/IllegalStateException", Cond.fieldLink RX1 10 "GoatTower" "now" "LGoatTower$Scene;", Cond.fieldLink RX1 59 "GoatTower$Scene" "permits" "[I", Cond.methodLink RX1 52 yX1_checkGoat, Cond.instanceMethod yX1_checkGoat, Cond.selects RX1 yX1_checkGoat yX1_checkGoat, Cond.initialized RX1, Cond.code yX1_checkGoat cX1_checkGoat 2 none, Cond.classLink RX1 216 "java/lang/IndexOutOfBoundsException", Cond.initialized "java/lang/IndexOutOfBoundsException", Cond.fieldLink RX1 43 "GoatTower$Scene" "goatCount" "I", Cond.methodLink RX1 56 yX1_checkGate, Cond.instanceMethod yX1_checkGate, Cond.selects RX1 yX1_checkGate yX1_checkGate, Cond.code yX1_checkGate cX1_checkGate 2 none, Cond.fieldLink RX1 30 "GoatTower$Scene" "gateCount" "I", Cond.methodLink RX1 19 yX1_checkNumber, Cond.static yX1_checkNumber, Cond.code yX1_checkNumber cX1_checkNumber 2 none, Cond.classLink RX1 23 "java/lang/IllegalArgumentException", Cond.initialized "java/lang/IllegalArgumentException", Cond.methodLink RX1 63 yX1_checkIdle, Cond.instanceMethod yX1_checkIdle]
def wsX1_barge_r2 : List Cond := [Cond.selects RX1 yX1_checkIdle yX1_checkIdle, Cond.code yX1_checkIdle cX1_checkIdle 2 none, Cond.fieldLink RX1 82 "GoatTower$Scene" "state" "[I", Cond.methodLink RX1 73 yX0_freePermits, Cond.instanceMethod yX0_freePermits, Cond.selects RX0 yX0_freePermits yX0_freePermits, Cond.initialized RX0, Cond.code yX0_freePermits cX0_freePermits 4 (some .int), Cond.fieldLink RX0 9 "GoatTower$Scene" "permits" "[I", Cond.fieldLink RX0 55 "GoatTower$Scene" "goatCount" "I", Cond.fieldLink RX0 24 "GoatTower$Scene" "state" "[I", Cond.fieldLink RX0 27 "GoatTower$Scene" "gate" "[I", Cond.fieldLink RX0 30 "GoatTower$Scene" "many" "[I", Cond.methodLink RX1 78 yX0_enter, Cond.instanceMethod yX0_enter, Cond.selects RX0 yX0_enter yX0_enter, Cond.code yX0_enter cX0_enter 5 none, Cond.fieldLink RX0 36 "GoatTower$Scene" "left" "[I", Cond.fieldLink RX0 42 "GoatTower$Scene" "waitedForThis" "[I"]
def wsX1_barge : List Cond := .code yX1_barge cX1_barge 5 (some .int) :: ((wsX1_barge_r1 ++ wsX1_barge_r2) ++ wsX10 ++ wsX00 ++ (vx_atS RX1 38 "java/lang/IllegalStateException" ["java/lang/RuntimeException", "java/lang/Exception"]).filter goodWord ++ (vx_atS RX1 220 "java/lang/IndexOutOfBoundsException" ["java/lang/RuntimeException", "java/lang/Exception"]).filter goodWord ++ (vx_atS RX1 27 "java/lang/IllegalArgumentException" ["java/lang/RuntimeException", "java/lang/Exception"]).filter goodWord)
def wsX1_callBack_r1 : List Cond := [Cond.classLink RX1 34 "java/lang/IllegalStateException", Cond.initialized "java/lang/IllegalStateException", Cond.fieldLink RX1 10 "GoatTower" "now" "LGoatTower$Scene;", Cond.fieldLink RX1 82 "GoatTower$Scene" "state" "[I", Cond.methodLink RX1 52 yX1_checkGoat, Cond.instanceMethod yX1_checkGoat, Cond.selects RX1 yX1_checkGoat yX1_checkGoat, Cond.initialized RX1, Cond.code yX1_checkGoat cX1_checkGoat 2 none, Cond.classLink RX1 216 "java/lang/IndexOutOfBoundsException", Cond.initialized "java/lang/IndexOutOfBoundsException", Cond.fieldLink RX1 43 "GoatTower$Scene" "goatCount" "I", Cond.methodLink RX1 87 yX0_held, Cond.instanceMethod yX0_held, Cond.selects RX0 yX0_held yX0_held, Cond.initialized RX0, Cond.code yX0_held cX0_held 2 (some .int), Cond.fieldLink RX0 24 "GoatTower$Scene" "state" "[I", Cond.fieldLink RX0 30 "GoatTower$Scene" "many" "[I", Cond.methodLink RX1 90 yX0_rest, Cond.instanceMethod yX0_rest, Cond.selects RX0 yX0_rest yX0_rest, Cond.code yX0_rest cX0_rest 2 none, Cond.fieldLink RX0 27 "GoatTower$Scene" "gate" "[I"]
def wsX1_callBack_r2 : List Cond := [Cond.fieldLink RX0 36 "GoatTower$Scene" "left" "[I", Cond.fieldLink RX0 42 "GoatTower$Scene" "waitedForThis" "[I"]
def wsX1_callBack : List Cond := .code yX1_callBack cX1_callBack 3 (some .int) :: ((wsX1_callBack_r1 ++ wsX1_callBack_r2) ++ wsX10 ++ wsX00 ++ (vx_atS RX1 38 "java/lang/IllegalStateException" ["java/lang/RuntimeException", "java/lang/Exception"]).filter goodWord ++ (vx_atS RX1 220 "java/lang/IndexOutOfBoundsException" ["java/lang/RuntimeException", "java/lang/Exception"]).filter goodWord)
def wsX1_pass_r1 : List Cond := [Cond.fieldLink RX1 10 "GoatTower" "now" "LGoatTower$Scene;", Cond.fieldLink RX1 93 "GoatTower$Scene" "letInCount" "I", Cond.methodLink RX1 19 yX1_checkNumber, Cond.static yX1_checkNumber, Cond.initialized RX1, Cond.code yX1_checkNumber cX1_checkNumber 2 none, Cond.classLink RX1 23 "java/lang/IllegalArgumentException", Cond.initialized "java/lang/IllegalArgumentException", Cond.methodLink RX1 96 yX0_liveAMinute, Cond.instanceMethod yX0_liveAMinute, Cond.selects RX0 yX0_liveAMinute yX0_liveAMinute, Cond.initialized RX0, Cond.code yX0_liveAMinute cX0_liveAMinute 2 none, Cond.fieldLink RX0 52 "GoatTower$Scene" "gateCount" "I", Cond.fieldLink RX0 48 "GoatTower$Scene" "minute" "I", Cond.methodLink RX0 68 yX0_leaveThoseWhoStayed, Cond.instanceMethod yX0_leaveThoseWhoStayed, Cond.selects RX0 yX0_leaveThoseWhoStayed yX0_leaveThoseWhoStayed, Cond.code yX0_leaveThoseWhoStayed cX0_leaveThoseWhoStayed 2 none, Cond.fieldLink RX0 55 "GoatTower$Scene" "goatCount" "I", Cond.fieldLink RX0 24 "GoatTower$Scene" "state" "[I", Cond.fieldLink RX0 36 "GoatTower$Scene" "left" "[I", Cond.methodLink RX0 64 yX0_rest, Cond.instanceMethod yX0_rest]
def wsX1_pass_r2 : List Cond := [Cond.selects RX0 yX0_rest yX0_rest, Cond.code yX0_rest cX0_rest 2 none, Cond.fieldLink RX0 27 "GoatTower$Scene" "gate" "[I", Cond.fieldLink RX0 42 "GoatTower$Scene" "waitedForThis" "[I", Cond.methodLink RX0 71 yX0_letInThrough, Cond.instanceMethod yX0_letInThrough, Cond.selects RX0 yX0_letInThrough yX0_letInThrough, Cond.code yX0_letInThrough cX0_letInThrough 4 none, Cond.fieldLink RX0 30 "GoatTower$Scene" "many" "[I", Cond.fieldLink RX0 33 "GoatTower$Scene" "stay" "[I", Cond.fieldLink RX0 61 "GoatTower$Scene" "letInCount" "I", Cond.methodLink RX0 77 yX0_firstIn, Cond.instanceMethod yX0_firstIn, Cond.selects RX0 yX0_firstIn yX0_firstIn, Cond.code yX0_firstIn cX0_firstIn 10 (some .int), Cond.fieldLink RX0 15 "GoatTower$Scene" "order" "[I", Cond.fieldLink RX0 39 "GoatTower$Scene" "askedAs" "[I", Cond.methodLink RX0 89 yX0_freePermits, Cond.instanceMethod yX0_freePermits, Cond.selects RX0 yX0_freePermits yX0_freePermits, Cond.code yX0_freePermits cX0_freePermits 4 (some .int), Cond.fieldLink RX0 9 "GoatTower$Scene" "permits" "[I", Cond.methodLink RX0 85 yX0_waitsAt, Cond.instanceMethod yX0_waitsAt]
def wsX1_pass_r3 : List Cond := [Cond.selects RX0 yX0_waitsAt yX0_waitsAt, Cond.code yX0_waitsAt cX0_waitsAt 3 (some .boolean), Cond.methodLink RX0 92 yX0_seeming, Cond.instanceMethod yX0_seeming, Cond.selects RX0 yX0_seeming yX0_seeming, Cond.code yX0_seeming cX0_seeming 2 (some .int), Cond.fieldLink RX0 21 "GoatTower$Scene" "horns" "[I", Cond.methodLink RX0 81 yX0_enter, Cond.instanceMethod yX0_enter, Cond.selects RX0 yX0_enter yX0_enter, Cond.code yX0_enter cX0_enter 5 none, Cond.methodLink RX0 74 yX0_waitOnAt, Cond.instanceMethod yX0_waitOnAt, Cond.selects RX0 yX0_waitOnAt yX0_waitOnAt, Cond.code yX0_waitOnAt cX0_waitOnAt 3 none, Cond.fieldLink RX0 45 "GoatTower$Scene" "waitedInAll" "[I", Cond.fieldLink RX0 18 "GoatTower$Scene" "givenUpAt" "[I"]
def wsX1_pass : List Cond := .code yX1_pass cX1_pass 4 (some .int) :: ((wsX1_pass_r1 ++ (wsX1_pass_r2 ++ wsX1_pass_r3)) ++ wsX10 ++ wsX00 ++ (vx_atS RX1 27 "java/lang/IllegalArgumentException" ["java/lang/RuntimeException", "java/lang/Exception"]).filter goodWord)
def wsX1_minute : List Cond := .code yX1_minute cX1_minute 1 (some .int) :: ([.fieldLink RX1 10 "GoatTower" "now" "LGoatTower$Scene;", .fieldLink RX1 99 "GoatTower$Scene" "minute" "I"] ++ wsX10 ++ wsX00)
def wsX1_gates : List Cond := .code yX1_gates cX1_gates 1 (some .int) :: ([.fieldLink RX1 10 "GoatTower" "now" "LGoatTower$Scene;", .fieldLink RX1 30 "GoatTower$Scene" "gateCount" "I"] ++ wsX10 ++ wsX00)
def wsX1_goats : List Cond := .code yX1_goats cX1_goats 1 (some .int) :: ([.fieldLink RX1 10 "GoatTower" "now" "LGoatTower$Scene;", .fieldLink RX1 43 "GoatTower$Scene" "goatCount" "I"] ++ wsX10 ++ wsX00)
def wsX1_waiting : List Cond := .code yX1_waiting cX1_waiting 1 (some .int) :: ([.fieldLink RX1 10 "GoatTower" "now" "LGoatTower$Scene;", .methodLink RX1 102 yX0_countInState, .instanceMethod yX0_countInState, .selects RX0 yX0_countInState yX0_countInState, .initialized RX0, .code yX0_countInState cX0_countInState 4 (some .int), .fieldLink RX0 55 "GoatTower$Scene" "goatCount" "I", .fieldLink RX0 24 "GoatTower$Scene" "state" "[I"] ++ wsX10 ++ wsX00)
def wsX1_inside : List Cond := .code yX1_inside cX1_inside 1 (some .int) :: ([.fieldLink RX1 10 "GoatTower" "now" "LGoatTower$Scene;", .methodLink RX1 102 yX0_countInState, .instanceMethod yX0_countInState, .selects RX0 yX0_countInState yX0_countInState, .initialized RX0, .code yX0_countInState cX0_countInState 4 (some .int), .fieldLink RX0 55 "GoatTower$Scene" "goatCount" "I", .fieldLink RX0 24 "GoatTower$Scene" "state" "[I"] ++ wsX10 ++ wsX00)
def wsX1_starving : List Cond := .code yX1_starving cX1_starving 1 (some .int) :: ([.fieldLink RX1 10 "GoatTower" "now" "LGoatTower$Scene;", .methodLink RX1 105 yX0_countStarving, .instanceMethod yX0_countStarving, .selects RX0 yX0_countStarving yX0_countStarving, .initialized RX0, .code yX0_countStarving cX0_countStarving 3 (some .int), .fieldLink RX0 55 "GoatTower$Scene" "goatCount" "I", .fieldLink RX0 24 "GoatTower$Scene" "state" "[I", .fieldLink RX0 42 "GoatTower$Scene" "waitedForThis" "[I"] ++ wsX10 ++ wsX00)
def wsX1_letIn : List Cond := .code yX1_letIn cX1_letIn 1 (some .int) :: ([.fieldLink RX1 10 "GoatTower" "now" "LGoatTower$Scene;", .fieldLink RX1 93 "GoatTower$Scene" "letInCount" "I"] ++ wsX10 ++ wsX00)
def wsX1_givenUp : List Cond := .code yX1_givenUp cX1_givenUp 1 (some .int) :: ([.fieldLink RX1 10 "GoatTower" "now" "LGoatTower$Scene;", .methodLink RX1 109 yX0_givenUpInAll, .instanceMethod yX0_givenUpInAll, .selects RX0 yX0_givenUpInAll yX0_givenUpInAll, .initialized RX0, .code yX0_givenUpInAll cX0_givenUpInAll 3 (some .int), .fieldLink RX0 52 "GoatTower$Scene" "gateCount" "I", .fieldLink RX0 18 "GoatTower$Scene" "givenUpAt" "[I"] ++ wsX10 ++ wsX00)
def wsX1_permitsOf : List Cond := .code yX1_permitsOf cX1_permitsOf 2 (some .int) :: ([.fieldLink RX1 10 "GoatTower" "now" "LGoatTower$Scene;", .fieldLink RX1 59 "GoatTower$Scene" "permits" "[I", .methodLink RX1 56 yX1_checkGate, .instanceMethod yX1_checkGate, .selects RX1 yX1_checkGate yX1_checkGate, .initialized RX1, .code yX1_checkGate cX1_checkGate 2 none, .classLink RX1 216 "java/lang/IndexOutOfBoundsException", .initialized "java/lang/IndexOutOfBoundsException", .fieldLink RX1 30 "GoatTower$Scene" "gateCount" "I"] ++ wsX10 ++ wsX00 ++ (vx_atS RX1 220 "java/lang/IndexOutOfBoundsException" ["java/lang/RuntimeException", "java/lang/Exception"]).filter goodWord)
def wsX1_freeOf : List Cond := .code yX1_freeOf cX1_freeOf 2 (some .int) :: ([.fieldLink RX1 10 "GoatTower" "now" "LGoatTower$Scene;", .methodLink RX1 56 yX1_checkGate, .instanceMethod yX1_checkGate, .selects RX1 yX1_checkGate yX1_checkGate, .initialized RX1, .code yX1_checkGate cX1_checkGate 2 none, .classLink RX1 216 "java/lang/IndexOutOfBoundsException", .initialized "java/lang/IndexOutOfBoundsException", .fieldLink RX1 30 "GoatTower$Scene" "gateCount" "I", .methodLink RX1 73 yX0_freePermits, .instanceMethod yX0_freePermits, .selects RX0 yX0_freePermits yX0_freePermits, .initialized RX0, .code yX0_freePermits cX0_freePermits 4 (some .int), .fieldLink RX0 9 "GoatTower$Scene" "permits" "[I", .fieldLink RX0 55 "GoatTower$Scene" "goatCount" "I", .fieldLink RX0 24 "GoatTower$Scene" "state" "[I", .fieldLink RX0 27 "GoatTower$Scene" "gate" "[I", .fieldLink RX0 30 "GoatTower$Scene" "many" "[I"] ++ wsX10 ++ wsX00 ++ (vx_atS RX1 220 "java/lang/IndexOutOfBoundsException" ["java/lang/RuntimeException", "java/lang/Exception"]).filter goodWord)
def wsX1_waitingAt : List Cond := .code yX1_waitingAt cX1_waitingAt 2 (some .int) :: ([.fieldLink RX1 10 "GoatTower" "now" "LGoatTower$Scene;", .methodLink RX1 56 yX1_checkGate, .instanceMethod yX1_checkGate, .selects RX1 yX1_checkGate yX1_checkGate, .initialized RX1, .code yX1_checkGate cX1_checkGate 2 none, .classLink RX1 216 "java/lang/IndexOutOfBoundsException", .initialized "java/lang/IndexOutOfBoundsException", .fieldLink RX1 30 "GoatTower$Scene" "gateCount" "I", .methodLink RX1 70 yX0_countWaitingAt, .instanceMethod yX0_countWaitingAt, .selects RX0 yX0_countWaitingAt yX0_countWaitingAt, .initialized RX0, .code yX0_countWaitingAt cX0_countWaitingAt 4 (some .int), .fieldLink RX0 55 "GoatTower$Scene" "goatCount" "I", .methodLink RX0 85 yX0_waitsAt, .instanceMethod yX0_waitsAt, .selects RX0 yX0_waitsAt yX0_waitsAt, .code yX0_waitsAt cX0_waitsAt 3 (some .boolean), .fieldLink RX0 24 "GoatTower$Scene" "state" "[I", .fieldLink RX0 27 "GoatTower$Scene" "gate" "[I"] ++ wsX10 ++ wsX00 ++ (vx_atS RX1 220 "java/lang/IndexOutOfBoundsException" ["java/lang/RuntimeException", "java/lang/Exception"]).filter goodWord)
def wsX1_nextAt_r1 : List Cond := [Cond.fieldLink RX1 10 "GoatTower" "now" "LGoatTower$Scene;", Cond.methodLink RX1 56 yX1_checkGate, Cond.instanceMethod yX1_checkGate, Cond.selects RX1 yX1_checkGate yX1_checkGate, Cond.initialized RX1, Cond.code yX1_checkGate cX1_checkGate 2 none, Cond.classLink RX1 216 "java/lang/IndexOutOfBoundsException", Cond.initialized "java/lang/IndexOutOfBoundsException", Cond.fieldLink RX1 30 "GoatTower$Scene" "gateCount" "I", Cond.methodLink RX1 112 yX0_firstIn, Cond.instanceMethod yX0_firstIn, Cond.selects RX0 yX0_firstIn yX0_firstIn, Cond.initialized RX0, Cond.code yX0_firstIn cX0_firstIn 10 (some .int), Cond.fieldLink RX0 15 "GoatTower$Scene" "order" "[I", Cond.fieldLink RX0 55 "GoatTower$Scene" "goatCount" "I", Cond.fieldLink RX0 30 "GoatTower$Scene" "many" "[I", Cond.fieldLink RX0 39 "GoatTower$Scene" "askedAs" "[I", Cond.methodLink RX0 89 yX0_freePermits, Cond.instanceMethod yX0_freePermits, Cond.selects RX0 yX0_freePermits yX0_freePermits, Cond.code yX0_freePermits cX0_freePermits 4 (some .int), Cond.fieldLink RX0 9 "GoatTower$Scene" "permits" "[I", Cond.fieldLink RX0 24 "GoatTower$Scene" "state" "[I"]
def wsX1_nextAt_r2 : List Cond := [Cond.fieldLink RX0 27 "GoatTower$Scene" "gate" "[I", Cond.methodLink RX0 85 yX0_waitsAt, Cond.instanceMethod yX0_waitsAt, Cond.selects RX0 yX0_waitsAt yX0_waitsAt, Cond.code yX0_waitsAt cX0_waitsAt 3 (some .boolean), Cond.methodLink RX0 92 yX0_seeming, Cond.instanceMethod yX0_seeming, Cond.selects RX0 yX0_seeming yX0_seeming, Cond.code yX0_seeming cX0_seeming 2 (some .int), Cond.fieldLink RX0 21 "GoatTower$Scene" "horns" "[I", Cond.fieldLink RX0 42 "GoatTower$Scene" "waitedForThis" "[I"]
def wsX1_nextAt : List Cond := .code yX1_nextAt cX1_nextAt 2 (some .int) :: ((wsX1_nextAt_r1 ++ wsX1_nextAt_r2) ++ wsX10 ++ wsX00 ++ (vx_atS RX1 220 "java/lang/IndexOutOfBoundsException" ["java/lang/RuntimeException", "java/lang/Exception"]).filter goodWord)
def wsX1_stateOf : List Cond := .code yX1_stateOf cX1_stateOf 2 (some .int) :: ([.fieldLink RX1 10 "GoatTower" "now" "LGoatTower$Scene;", .fieldLink RX1 82 "GoatTower$Scene" "state" "[I", .methodLink RX1 52 yX1_checkGoat, .instanceMethod yX1_checkGoat, .selects RX1 yX1_checkGoat yX1_checkGoat, .initialized RX1, .code yX1_checkGoat cX1_checkGoat 2 none, .classLink RX1 216 "java/lang/IndexOutOfBoundsException", .initialized "java/lang/IndexOutOfBoundsException", .fieldLink RX1 43 "GoatTower$Scene" "goatCount" "I"] ++ wsX10 ++ wsX00 ++ (vx_atS RX1 220 "java/lang/IndexOutOfBoundsException" ["java/lang/RuntimeException", "java/lang/Exception"]).filter goodWord)
def wsX1_gateOf : List Cond := .code yX1_gateOf cX1_gateOf 2 (some .int) :: ([.fieldLink RX1 10 "GoatTower" "now" "LGoatTower$Scene;", .fieldLink RX1 115 "GoatTower$Scene" "gate" "[I", .methodLink RX1 52 yX1_checkGoat, .instanceMethod yX1_checkGoat, .selects RX1 yX1_checkGoat yX1_checkGoat, .initialized RX1, .code yX1_checkGoat cX1_checkGoat 2 none, .classLink RX1 216 "java/lang/IndexOutOfBoundsException", .initialized "java/lang/IndexOutOfBoundsException", .fieldLink RX1 43 "GoatTower$Scene" "goatCount" "I"] ++ wsX10 ++ wsX00 ++ (vx_atS RX1 220 "java/lang/IndexOutOfBoundsException" ["java/lang/RuntimeException", "java/lang/Exception"]).filter goodWord)
def wsX1_holds : List Cond := .code yX1_holds cX1_holds 2 (some .int) :: ([.fieldLink RX1 10 "GoatTower" "now" "LGoatTower$Scene;", .methodLink RX1 52 yX1_checkGoat, .instanceMethod yX1_checkGoat, .selects RX1 yX1_checkGoat yX1_checkGoat, .initialized RX1, .code yX1_checkGoat cX1_checkGoat 2 none, .classLink RX1 216 "java/lang/IndexOutOfBoundsException", .initialized "java/lang/IndexOutOfBoundsException", .fieldLink RX1 43 "GoatTower$Scene" "goatCount" "I", .methodLink RX1 87 yX0_held, .instanceMethod yX0_held, .selects RX0 yX0_held yX0_held, .initialized RX0, .code yX0_held cX0_held 2 (some .int), .fieldLink RX0 24 "GoatTower$Scene" "state" "[I", .fieldLink RX0 30 "GoatTower$Scene" "many" "[I"] ++ wsX10 ++ wsX00 ++ (vx_atS RX1 220 "java/lang/IndexOutOfBoundsException" ["java/lang/RuntimeException", "java/lang/Exception"]).filter goodWord)
def wsX1_seemingHorns : List Cond := .code yX1_seemingHorns cX1_seemingHorns 2 (some .int) :: ([.fieldLink RX1 10 "GoatTower" "now" "LGoatTower$Scene;", .methodLink RX1 52 yX1_checkGoat, .instanceMethod yX1_checkGoat, .selects RX1 yX1_checkGoat yX1_checkGoat, .initialized RX1, .code yX1_checkGoat cX1_checkGoat 2 none, .classLink RX1 216 "java/lang/IndexOutOfBoundsException", .initialized "java/lang/IndexOutOfBoundsException", .fieldLink RX1 43 "GoatTower$Scene" "goatCount" "I", .methodLink RX1 118 yX0_seeming, .instanceMethod yX0_seeming, .selects RX0 yX0_seeming yX0_seeming, .initialized RX0, .code yX0_seeming cX0_seeming 2 (some .int), .fieldLink RX0 21 "GoatTower$Scene" "horns" "[I", .fieldLink RX0 42 "GoatTower$Scene" "waitedForThis" "[I"] ++ wsX10 ++ wsX00 ++ (vx_atS RX1 220 "java/lang/IndexOutOfBoundsException" ["java/lang/RuntimeException", "java/lang/Exception"]).filter goodWord)
def wsX1_minutesLeft : List Cond := .code yX1_minutesLeft cX1_minutesLeft 2 (some .int) :: ([.fieldLink RX1 10 "GoatTower" "now" "LGoatTower$Scene;", .fieldLink RX1 121 "GoatTower$Scene" "left" "[I", .methodLink RX1 52 yX1_checkGoat, .instanceMethod yX1_checkGoat, .selects RX1 yX1_checkGoat yX1_checkGoat, .initialized RX1, .code yX1_checkGoat cX1_checkGoat 2 none, .classLink RX1 216 "java/lang/IndexOutOfBoundsException", .initialized "java/lang/IndexOutOfBoundsException", .fieldLink RX1 43 "GoatTower$Scene" "goatCount" "I"] ++ wsX10 ++ wsX00 ++ (vx_atS RX1 220 "java/lang/IndexOutOfBoundsException" ["java/lang/RuntimeException", "java/lang/Exception"]).filter goodWord)
def wsX1_waitedOf : List Cond := .code yX1_waitedOf cX1_waitedOf 2 (some .int) :: ([.fieldLink RX1 10 "GoatTower" "now" "LGoatTower$Scene;", .fieldLink RX1 124 "GoatTower$Scene" "waitedInAll" "[I", .methodLink RX1 52 yX1_checkGoat, .instanceMethod yX1_checkGoat, .selects RX1 yX1_checkGoat yX1_checkGoat, .initialized RX1, .code yX1_checkGoat cX1_checkGoat 2 none, .classLink RX1 216 "java/lang/IndexOutOfBoundsException", .initialized "java/lang/IndexOutOfBoundsException", .fieldLink RX1 43 "GoatTower$Scene" "goatCount" "I"] ++ wsX10 ++ wsX00 ++ (vx_atS RX1 220 "java/lang/IndexOutOfBoundsException" ["java/lang/RuntimeException", "java/lang/Exception"]).filter goodWord)
def wsX1_placeInLine : List Cond := .code yX1_placeInLine cX1_placeInLine 2 (some .int) :: ([.fieldLink RX1 10 "GoatTower" "now" "LGoatTower$Scene;", .fieldLink RX1 82 "GoatTower$Scene" "state" "[I", .methodLink RX1 52 yX1_checkGoat, .instanceMethod yX1_checkGoat, .selects RX1 yX1_checkGoat yX1_checkGoat, .initialized RX1, .code yX1_checkGoat cX1_checkGoat 2 none, .classLink RX1 216 "java/lang/IndexOutOfBoundsException", .initialized "java/lang/IndexOutOfBoundsException", .fieldLink RX1 43 "GoatTower$Scene" "goatCount" "I", .methodLink RX1 127 yX0_countAheadOf, .instanceMethod yX0_countAheadOf, .selects RX0 yX0_countAheadOf yX0_countAheadOf, .initialized RX0, .code yX0_countAheadOf cX0_countAheadOf 4 (some .int), .fieldLink RX0 55 "GoatTower$Scene" "goatCount" "I", .fieldLink RX0 27 "GoatTower$Scene" "gate" "[I", .fieldLink RX0 39 "GoatTower$Scene" "askedAs" "[I", .methodLink RX0 85 yX0_waitsAt, .instanceMethod yX0_waitsAt, .selects RX0 yX0_waitsAt yX0_waitsAt, .code yX0_waitsAt cX0_waitsAt 3 (some .boolean), .fieldLink RX0 24 "GoatTower$Scene" "state" "[I"] ++ wsX10 ++ wsX00 ++ (vx_atS RX1 220 "java/lang/IndexOutOfBoundsException" ["java/lang/RuntimeException", "java/lang/Exception"]).filter goodWord)
def wsX1_minutesUntilIn_r1 : List Cond := [Cond.fieldLink RX1 16 "GoatTower" "ahead" "LGoatTower$Scene;", Cond.fieldLink RX1 10 "GoatTower" "now" "LGoatTower$Scene;", Cond.fieldLink RX1 82 "GoatTower$Scene" "state" "[I", Cond.methodLink RX1 52 yX1_checkGoat, Cond.instanceMethod yX1_checkGoat, Cond.selects RX1 yX1_checkGoat yX1_checkGoat, Cond.initialized RX1, Cond.code yX1_checkGoat cX1_checkGoat 2 none, Cond.classLink RX1 216 "java/lang/IndexOutOfBoundsException", Cond.initialized "java/lang/IndexOutOfBoundsException", Cond.fieldLink RX1 43 "GoatTower$Scene" "goatCount" "I", Cond.methodLink RX1 130 yX0_become, Cond.instanceMethod yX0_become, Cond.selects RX0 yX0_become yX0_become, Cond.initialized RX0, Cond.code yX0_become cX0_become 3 none, Cond.fieldLink RX0 48 "GoatTower$Scene" "minute" "I", Cond.fieldLink RX0 52 "GoatTower$Scene" "gateCount" "I", Cond.fieldLink RX0 55 "GoatTower$Scene" "goatCount" "I", Cond.fieldLink RX0 58 "GoatTower$Scene" "askCount" "I", Cond.fieldLink RX0 61 "GoatTower$Scene" "letInCount" "I", Cond.fieldLink RX0 9 "GoatTower$Scene" "permits" "[I", Cond.fieldLink RX0 15 "GoatTower$Scene" "order" "[I", Cond.fieldLink RX0 18 "GoatTower$Scene" "givenUpAt" "[I"]
def wsX1_minutesUntilIn_r2 : List Cond := [Cond.fieldLink RX0 21 "GoatTower$Scene" "horns" "[I", Cond.fieldLink RX0 24 "GoatTower$Scene" "state" "[I", Cond.fieldLink RX0 27 "GoatTower$Scene" "gate" "[I", Cond.fieldLink RX0 30 "GoatTower$Scene" "many" "[I", Cond.fieldLink RX0 33 "GoatTower$Scene" "stay" "[I", Cond.fieldLink RX0 36 "GoatTower$Scene" "left" "[I", Cond.fieldLink RX0 39 "GoatTower$Scene" "askedAs" "[I", Cond.fieldLink RX0 42 "GoatTower$Scene" "waitedForThis" "[I", Cond.fieldLink RX0 45 "GoatTower$Scene" "waitedInAll" "[I", Cond.methodLink RX1 96 yX0_liveAMinute, Cond.instanceMethod yX0_liveAMinute, Cond.selects RX0 yX0_liveAMinute yX0_liveAMinute, Cond.code yX0_liveAMinute cX0_liveAMinute 2 none, Cond.methodLink RX0 68 yX0_leaveThoseWhoStayed, Cond.instanceMethod yX0_leaveThoseWhoStayed, Cond.selects RX0 yX0_leaveThoseWhoStayed yX0_leaveThoseWhoStayed, Cond.code yX0_leaveThoseWhoStayed cX0_leaveThoseWhoStayed 2 none, Cond.methodLink RX0 64 yX0_rest, Cond.instanceMethod yX0_rest, Cond.selects RX0 yX0_rest yX0_rest, Cond.code yX0_rest cX0_rest 2 none, Cond.methodLink RX0 71 yX0_letInThrough, Cond.instanceMethod yX0_letInThrough, Cond.selects RX0 yX0_letInThrough yX0_letInThrough]
def wsX1_minutesUntilIn_r3 : List Cond := [Cond.code yX0_letInThrough cX0_letInThrough 4 none, Cond.methodLink RX0 77 yX0_firstIn, Cond.instanceMethod yX0_firstIn, Cond.selects RX0 yX0_firstIn yX0_firstIn, Cond.code yX0_firstIn cX0_firstIn 10 (some .int), Cond.methodLink RX0 89 yX0_freePermits, Cond.instanceMethod yX0_freePermits, Cond.selects RX0 yX0_freePermits yX0_freePermits, Cond.code yX0_freePermits cX0_freePermits 4 (some .int), Cond.methodLink RX0 85 yX0_waitsAt, Cond.instanceMethod yX0_waitsAt, Cond.selects RX0 yX0_waitsAt yX0_waitsAt, Cond.code yX0_waitsAt cX0_waitsAt 3 (some .boolean), Cond.methodLink RX0 92 yX0_seeming, Cond.instanceMethod yX0_seeming, Cond.selects RX0 yX0_seeming yX0_seeming, Cond.code yX0_seeming cX0_seeming 2 (some .int), Cond.methodLink RX0 81 yX0_enter, Cond.instanceMethod yX0_enter, Cond.selects RX0 yX0_enter yX0_enter, Cond.code yX0_enter cX0_enter 5 none, Cond.methodLink RX0 74 yX0_waitOnAt, Cond.instanceMethod yX0_waitOnAt, Cond.selects RX0 yX0_waitOnAt yX0_waitOnAt]
def wsX1_minutesUntilIn_r4 : List Cond := [Cond.code yX0_waitOnAt cX0_waitOnAt 3 none]
def wsX1_minutesUntilIn : List Cond := .code yX1_minutesUntilIn cX1_minutesUntilIn 3 (some .int) :: ((wsX1_minutesUntilIn_r1 ++ (wsX1_minutesUntilIn_r2 ++ (wsX1_minutesUntilIn_r3 ++ wsX1_minutesUntilIn_r4))) ++ wsX10 ++ wsX00 ++ (vx_atS RX1 220 "java/lang/IndexOutOfBoundsException" ["java/lang/RuntimeException", "java/lang/Exception"]).filter goodWord)
def wsX1_givingUpIn_r1 : List Cond := [Cond.fieldLink RX1 16 "GoatTower" "ahead" "LGoatTower$Scene;", Cond.fieldLink RX1 10 "GoatTower" "now" "LGoatTower$Scene;", Cond.methodLink RX1 19 yX1_checkNumber, Cond.static yX1_checkNumber, Cond.initialized RX1, Cond.code yX1_checkNumber cX1_checkNumber 2 none, Cond.classLink RX1 23 "java/lang/IllegalArgumentException", Cond.initialized "java/lang/IllegalArgumentException", Cond.methodLink RX1 130 yX0_become, Cond.instanceMethod yX0_become, Cond.selects RX0 yX0_become yX0_become, Cond.initialized RX0, Cond.code yX0_become cX0_become 3 none, Cond.fieldLink RX0 48 "GoatTower$Scene" "minute" "I", Cond.fieldLink RX0 52 "GoatTower$Scene" "gateCount" "I", Cond.fieldLink RX0 55 "GoatTower$Scene" "goatCount" "I", Cond.fieldLink RX0 58 "GoatTower$Scene" "askCount" "I", Cond.fieldLink RX0 61 "GoatTower$Scene" "letInCount" "I", Cond.fieldLink RX0 9 "GoatTower$Scene" "permits" "[I", Cond.fieldLink RX0 15 "GoatTower$Scene" "order" "[I", Cond.fieldLink RX0 18 "GoatTower$Scene" "givenUpAt" "[I", Cond.fieldLink RX0 21 "GoatTower$Scene" "horns" "[I", Cond.fieldLink RX0 24 "GoatTower$Scene" "state" "[I", Cond.fieldLink RX0 27 "GoatTower$Scene" "gate" "[I"]
def wsX1_givingUpIn_r2 : List Cond := [Cond.fieldLink RX0 30 "GoatTower$Scene" "many" "[I", Cond.fieldLink RX0 33 "GoatTower$Scene" "stay" "[I", Cond.fieldLink RX0 36 "GoatTower$Scene" "left" "[I", Cond.fieldLink RX0 39 "GoatTower$Scene" "askedAs" "[I", Cond.fieldLink RX0 42 "GoatTower$Scene" "waitedForThis" "[I", Cond.fieldLink RX0 45 "GoatTower$Scene" "waitedInAll" "[I", Cond.methodLink RX1 96 yX0_liveAMinute, Cond.instanceMethod yX0_liveAMinute, Cond.selects RX0 yX0_liveAMinute yX0_liveAMinute, Cond.code yX0_liveAMinute cX0_liveAMinute 2 none, Cond.methodLink RX0 68 yX0_leaveThoseWhoStayed, Cond.instanceMethod yX0_leaveThoseWhoStayed, Cond.selects RX0 yX0_leaveThoseWhoStayed yX0_leaveThoseWhoStayed, Cond.code yX0_leaveThoseWhoStayed cX0_leaveThoseWhoStayed 2 none, Cond.methodLink RX0 64 yX0_rest, Cond.instanceMethod yX0_rest, Cond.selects RX0 yX0_rest yX0_rest, Cond.code yX0_rest cX0_rest 2 none, Cond.methodLink RX0 71 yX0_letInThrough, Cond.instanceMethod yX0_letInThrough, Cond.selects RX0 yX0_letInThrough yX0_letInThrough, Cond.code yX0_letInThrough cX0_letInThrough 4 none, Cond.methodLink RX0 77 yX0_firstIn, Cond.instanceMethod yX0_firstIn]
def wsX1_givingUpIn_r3 : List Cond := [Cond.selects RX0 yX0_firstIn yX0_firstIn, Cond.code yX0_firstIn cX0_firstIn 10 (some .int), Cond.methodLink RX0 89 yX0_freePermits, Cond.instanceMethod yX0_freePermits, Cond.selects RX0 yX0_freePermits yX0_freePermits, Cond.code yX0_freePermits cX0_freePermits 4 (some .int), Cond.methodLink RX0 85 yX0_waitsAt, Cond.instanceMethod yX0_waitsAt, Cond.selects RX0 yX0_waitsAt yX0_waitsAt, Cond.code yX0_waitsAt cX0_waitsAt 3 (some .boolean), Cond.methodLink RX0 92 yX0_seeming, Cond.instanceMethod yX0_seeming, Cond.selects RX0 yX0_seeming yX0_seeming, Cond.code yX0_seeming cX0_seeming 2 (some .int), Cond.methodLink RX0 81 yX0_enter, Cond.instanceMethod yX0_enter, Cond.selects RX0 yX0_enter yX0_enter, Cond.code yX0_enter cX0_enter 5 none, Cond.methodLink RX0 74 yX0_waitOnAt, Cond.instanceMethod yX0_waitOnAt, Cond.selects RX0 yX0_waitOnAt yX0_waitOnAt, Cond.code yX0_waitOnAt cX0_waitOnAt 3 none, Cond.methodLink RX1 109 yX0_givenUpInAll, Cond.instanceMethod yX0_givenUpInAll]
def wsX1_givingUpIn_r4 : List Cond := [Cond.selects RX0 yX0_givenUpInAll yX0_givenUpInAll, Cond.code yX0_givenUpInAll cX0_givenUpInAll 3 (some .int)]
def wsX1_givingUpIn : List Cond := .code yX1_givingUpIn cX1_givingUpIn 3 (some .int) :: ((wsX1_givingUpIn_r1 ++ (wsX1_givingUpIn_r2 ++ (wsX1_givingUpIn_r3 ++ wsX1_givingUpIn_r4))) ++ wsX10 ++ wsX00 ++ (vx_atS RX1 27 "java/lang/IllegalArgumentException" ["java/lang/RuntimeException", "java/lang/Exception"]).filter goodWord)
def wsX1_givingUpWith_r1 : List Cond := [Cond.fieldLink RX1 16 "GoatTower" "ahead" "LGoatTower$Scene;", Cond.fieldLink RX1 10 "GoatTower" "now" "LGoatTower$Scene;", Cond.fieldLink RX1 59 "GoatTower$Scene" "permits" "[I", Cond.fieldLink RX1 134 "GoatTower$Scene" "order" "[I", Cond.fieldLink RX1 213 "GoatTower$Scene" "givenUpAt" "[I", Cond.methodLink RX1 130 yX0_become, Cond.instanceMethod yX0_become, Cond.selects RX0 yX0_become yX0_become, Cond.initialized RX0, Cond.code yX0_become cX0_become 3 none, Cond.fieldLink RX0 48 "GoatTower$Scene" "minute" "I", Cond.fieldLink RX0 52 "GoatTower$Scene" "gateCount" "I", Cond.fieldLink RX0 55 "GoatTower$Scene" "goatCount" "I", Cond.fieldLink RX0 58 "GoatTower$Scene" "askCount" "I", Cond.fieldLink RX0 61 "GoatTower$Scene" "letInCount" "I", Cond.fieldLink RX0 9 "GoatTower$Scene" "permits" "[I", Cond.fieldLink RX0 15 "GoatTower$Scene" "order" "[I", Cond.fieldLink RX0 18 "GoatTower$Scene" "givenUpAt" "[I", Cond.fieldLink RX0 21 "GoatTower$Scene" "horns" "[I", Cond.fieldLink RX0 24 "GoatTower$Scene" "state" "[I", Cond.fieldLink RX0 27 "GoatTower$Scene" "gate" "[I", Cond.fieldLink RX0 30 "GoatTower$Scene" "many" "[I", Cond.fieldLink RX0 33 "GoatTower$Scene" "stay" "[I", Cond.fieldLink RX0 36 "GoatTower$Scene" "left" "[I"]
def wsX1_givingUpWith_r2 : List Cond := [Cond.fieldLink RX0 39 "GoatTower$Scene" "askedAs" "[I", Cond.fieldLink RX0 42 "GoatTower$Scene" "waitedForThis" "[I", Cond.fieldLink RX0 45 "GoatTower$Scene" "waitedInAll" "[I", Cond.methodLink RX1 70 yX0_countWaitingAt, Cond.instanceMethod yX0_countWaitingAt, Cond.selects RX0 yX0_countWaitingAt yX0_countWaitingAt, Cond.code yX0_countWaitingAt cX0_countWaitingAt 4 (some .int), Cond.methodLink RX0 85 yX0_waitsAt, Cond.instanceMethod yX0_waitsAt, Cond.selects RX0 yX0_waitsAt yX0_waitsAt, Cond.code yX0_waitsAt cX0_waitsAt 3 (some .boolean), Cond.methodLink RX1 96 yX0_liveAMinute, Cond.instanceMethod yX0_liveAMinute, Cond.selects RX0 yX0_liveAMinute yX0_liveAMinute, Cond.code yX0_liveAMinute cX0_liveAMinute 2 none, Cond.methodLink RX0 68 yX0_leaveThoseWhoStayed, Cond.instanceMethod yX0_leaveThoseWhoStayed, Cond.selects RX0 yX0_leaveThoseWhoStayed yX0_leaveThoseWhoStayed, Cond.code yX0_leaveThoseWhoStayed cX0_leaveThoseWhoStayed 2 none, Cond.methodLink RX0 64 yX0_rest, Cond.instanceMethod yX0_rest, Cond.selects RX0 yX0_rest yX0_rest, Cond.code yX0_rest cX0_rest 2 none, Cond.methodLink RX0 71 yX0_letInThrough]
def wsX1_givingUpWith_r3 : List Cond := [Cond.instanceMethod yX0_letInThrough, Cond.selects RX0 yX0_letInThrough yX0_letInThrough, Cond.code yX0_letInThrough cX0_letInThrough 4 none, Cond.methodLink RX0 77 yX0_firstIn, Cond.instanceMethod yX0_firstIn, Cond.selects RX0 yX0_firstIn yX0_firstIn, Cond.code yX0_firstIn cX0_firstIn 10 (some .int), Cond.methodLink RX0 89 yX0_freePermits, Cond.instanceMethod yX0_freePermits, Cond.selects RX0 yX0_freePermits yX0_freePermits, Cond.code yX0_freePermits cX0_freePermits 4 (some .int), Cond.methodLink RX0 92 yX0_seeming, Cond.instanceMethod yX0_seeming, Cond.selects RX0 yX0_seeming yX0_seeming, Cond.code yX0_seeming cX0_seeming 2 (some .int), Cond.methodLink RX0 81 yX0_enter, Cond.instanceMethod yX0_enter, Cond.selects RX0 yX0_enter yX0_enter, Cond.code yX0_enter cX0_enter 5 none, Cond.methodLink RX0 74 yX0_waitOnAt, Cond.instanceMethod yX0_waitOnAt, Cond.selects RX0 yX0_waitOnAt yX0_waitOnAt, Cond.code yX0_waitOnAt cX0_waitOnAt 3 none]
def wsX1_givingUpWith : List Cond := .code yX1_givingUpWith cX1_givingUpWith 5 (some .int) :: ((wsX1_givingUpWith_r1 ++ (wsX1_givingUpWith_r2 ++ wsX1_givingUpWith_r3)) ++ wsX10 ++ wsX00)
def wsX1_permitsWanted_r1 : List Cond := [Cond.fieldLink RX1 10 "GoatTower" "now" "LGoatTower$Scene;", Cond.fieldLink RX1 59 "GoatTower$Scene" "permits" "[I", Cond.fieldLink RX1 134 "GoatTower$Scene" "order" "[I", Cond.methodLink RX1 56 yX1_checkGate, Cond.instanceMethod yX1_checkGate, Cond.selects RX1 yX1_checkGate yX1_checkGate, Cond.initialized RX1, Cond.code yX1_checkGate cX1_checkGate 2 none, Cond.classLink RX1 216 "java/lang/IndexOutOfBoundsException", Cond.initialized "java/lang/IndexOutOfBoundsException", Cond.fieldLink RX1 30 "GoatTower$Scene" "gateCount" "I", Cond.methodLink RX1 137 yX1_givingUpWith, Cond.instanceMethod yX1_givingUpWith, Cond.selects RX1 yX1_givingUpWith yX1_givingUpWith, Cond.code yX1_givingUpWith cX1_givingUpWith 5 (some .int), Cond.fieldLink RX1 16 "GoatTower" "ahead" "LGoatTower$Scene;", Cond.fieldLink RX1 213 "GoatTower$Scene" "givenUpAt" "[I", Cond.methodLink RX1 130 yX0_become, Cond.instanceMethod yX0_become, Cond.selects RX0 yX0_become yX0_become, Cond.initialized RX0, Cond.code yX0_become cX0_become 3 none, Cond.fieldLink RX0 48 "GoatTower$Scene" "minute" "I", Cond.fieldLink RX0 52 "GoatTower$Scene" "gateCount" "I"]
def wsX1_permitsWanted_r2 : List Cond := [Cond.fieldLink RX0 55 "GoatTower$Scene" "goatCount" "I", Cond.fieldLink RX0 58 "GoatTower$Scene" "askCount" "I", Cond.fieldLink RX0 61 "GoatTower$Scene" "letInCount" "I", Cond.fieldLink RX0 9 "GoatTower$Scene" "permits" "[I", Cond.fieldLink RX0 15 "GoatTower$Scene" "order" "[I", Cond.fieldLink RX0 18 "GoatTower$Scene" "givenUpAt" "[I", Cond.fieldLink RX0 21 "GoatTower$Scene" "horns" "[I", Cond.fieldLink RX0 24 "GoatTower$Scene" "state" "[I", Cond.fieldLink RX0 27 "GoatTower$Scene" "gate" "[I", Cond.fieldLink RX0 30 "GoatTower$Scene" "many" "[I", Cond.fieldLink RX0 33 "GoatTower$Scene" "stay" "[I", Cond.fieldLink RX0 36 "GoatTower$Scene" "left" "[I", Cond.fieldLink RX0 39 "GoatTower$Scene" "askedAs" "[I", Cond.fieldLink RX0 42 "GoatTower$Scene" "waitedForThis" "[I", Cond.fieldLink RX0 45 "GoatTower$Scene" "waitedInAll" "[I", Cond.methodLink RX1 70 yX0_countWaitingAt, Cond.instanceMethod yX0_countWaitingAt, Cond.selects RX0 yX0_countWaitingAt yX0_countWaitingAt, Cond.code yX0_countWaitingAt cX0_countWaitingAt 4 (some .int), Cond.methodLink RX0 85 yX0_waitsAt, Cond.instanceMethod yX0_waitsAt, Cond.selects RX0 yX0_waitsAt yX0_waitsAt, Cond.code yX0_waitsAt cX0_waitsAt 3 (some .boolean), Cond.methodLink RX1 96 yX0_liveAMinute]
def wsX1_permitsWanted_r3 : List Cond := [Cond.instanceMethod yX0_liveAMinute, Cond.selects RX0 yX0_liveAMinute yX0_liveAMinute, Cond.code yX0_liveAMinute cX0_liveAMinute 2 none, Cond.methodLink RX0 68 yX0_leaveThoseWhoStayed, Cond.instanceMethod yX0_leaveThoseWhoStayed, Cond.selects RX0 yX0_leaveThoseWhoStayed yX0_leaveThoseWhoStayed, Cond.code yX0_leaveThoseWhoStayed cX0_leaveThoseWhoStayed 2 none, Cond.methodLink RX0 64 yX0_rest, Cond.instanceMethod yX0_rest, Cond.selects RX0 yX0_rest yX0_rest, Cond.code yX0_rest cX0_rest 2 none, Cond.methodLink RX0 71 yX0_letInThrough, Cond.instanceMethod yX0_letInThrough, Cond.selects RX0 yX0_letInThrough yX0_letInThrough, Cond.code yX0_letInThrough cX0_letInThrough 4 none, Cond.methodLink RX0 77 yX0_firstIn, Cond.instanceMethod yX0_firstIn, Cond.selects RX0 yX0_firstIn yX0_firstIn, Cond.code yX0_firstIn cX0_firstIn 10 (some .int), Cond.methodLink RX0 89 yX0_freePermits, Cond.instanceMethod yX0_freePermits, Cond.selects RX0 yX0_freePermits yX0_freePermits, Cond.code yX0_freePermits cX0_freePermits 4 (some .int), Cond.methodLink RX0 92 yX0_seeming]
def wsX1_permitsWanted_r4 : List Cond := [Cond.instanceMethod yX0_seeming, Cond.selects RX0 yX0_seeming yX0_seeming, Cond.code yX0_seeming cX0_seeming 2 (some .int), Cond.methodLink RX0 81 yX0_enter, Cond.instanceMethod yX0_enter, Cond.selects RX0 yX0_enter yX0_enter, Cond.code yX0_enter cX0_enter 5 none, Cond.methodLink RX0 74 yX0_waitOnAt, Cond.instanceMethod yX0_waitOnAt, Cond.selects RX0 yX0_waitOnAt yX0_waitOnAt, Cond.code yX0_waitOnAt cX0_waitOnAt 3 none]
def wsX1_permitsWanted : List Cond := .code yX1_permitsWanted cX1_permitsWanted 3 (some .int) :: ((wsX1_permitsWanted_r1 ++ (wsX1_permitsWanted_r2 ++ (wsX1_permitsWanted_r3 ++ wsX1_permitsWanted_r4))) ++ wsX10 ++ wsX00 ++ (vx_atS RX1 220 "java/lang/IndexOutOfBoundsException" ["java/lang/RuntimeException", "java/lang/Exception"]).filter goodWord)
def wsX1_bestOrder_r1 : List Cond := [Cond.fieldLink RX1 10 "GoatTower" "now" "LGoatTower$Scene;", Cond.fieldLink RX1 59 "GoatTower$Scene" "permits" "[I", Cond.methodLink RX1 56 yX1_checkGate, Cond.instanceMethod yX1_checkGate, Cond.selects RX1 yX1_checkGate yX1_checkGate, Cond.initialized RX1, Cond.code yX1_checkGate cX1_checkGate 2 none, Cond.classLink RX1 216 "java/lang/IndexOutOfBoundsException", Cond.initialized "java/lang/IndexOutOfBoundsException", Cond.fieldLink RX1 30 "GoatTower$Scene" "gateCount" "I", Cond.methodLink RX1 137 yX1_givingUpWith, Cond.instanceMethod yX1_givingUpWith, Cond.selects RX1 yX1_givingUpWith yX1_givingUpWith, Cond.code yX1_givingUpWith cX1_givingUpWith 5 (some .int), Cond.fieldLink RX1 16 "GoatTower" "ahead" "LGoatTower$Scene;", Cond.fieldLink RX1 134 "GoatTower$Scene" "order" "[I", Cond.fieldLink RX1 213 "GoatTower$Scene" "givenUpAt" "[I", Cond.methodLink RX1 130 yX0_become, Cond.instanceMethod yX0_become, Cond.selects RX0 yX0_become yX0_become, Cond.initialized RX0, Cond.code yX0_become cX0_become 3 none, Cond.fieldLink RX0 48 "GoatTower$Scene" "minute" "I", Cond.fieldLink RX0 52 "GoatTower$Scene" "gateCount" "I"]
def wsX1_bestOrder_r2 : List Cond := [Cond.fieldLink RX0 55 "GoatTower$Scene" "goatCount" "I", Cond.fieldLink RX0 58 "GoatTower$Scene" "askCount" "I", Cond.fieldLink RX0 61 "GoatTower$Scene" "letInCount" "I", Cond.fieldLink RX0 9 "GoatTower$Scene" "permits" "[I", Cond.fieldLink RX0 15 "GoatTower$Scene" "order" "[I", Cond.fieldLink RX0 18 "GoatTower$Scene" "givenUpAt" "[I", Cond.fieldLink RX0 21 "GoatTower$Scene" "horns" "[I", Cond.fieldLink RX0 24 "GoatTower$Scene" "state" "[I", Cond.fieldLink RX0 27 "GoatTower$Scene" "gate" "[I", Cond.fieldLink RX0 30 "GoatTower$Scene" "many" "[I", Cond.fieldLink RX0 33 "GoatTower$Scene" "stay" "[I", Cond.fieldLink RX0 36 "GoatTower$Scene" "left" "[I", Cond.fieldLink RX0 39 "GoatTower$Scene" "askedAs" "[I", Cond.fieldLink RX0 42 "GoatTower$Scene" "waitedForThis" "[I", Cond.fieldLink RX0 45 "GoatTower$Scene" "waitedInAll" "[I", Cond.methodLink RX1 70 yX0_countWaitingAt, Cond.instanceMethod yX0_countWaitingAt, Cond.selects RX0 yX0_countWaitingAt yX0_countWaitingAt, Cond.code yX0_countWaitingAt cX0_countWaitingAt 4 (some .int), Cond.methodLink RX0 85 yX0_waitsAt, Cond.instanceMethod yX0_waitsAt, Cond.selects RX0 yX0_waitsAt yX0_waitsAt, Cond.code yX0_waitsAt cX0_waitsAt 3 (some .boolean), Cond.methodLink RX1 96 yX0_liveAMinute]
def wsX1_bestOrder_r3 : List Cond := [Cond.instanceMethod yX0_liveAMinute, Cond.selects RX0 yX0_liveAMinute yX0_liveAMinute, Cond.code yX0_liveAMinute cX0_liveAMinute 2 none, Cond.methodLink RX0 68 yX0_leaveThoseWhoStayed, Cond.instanceMethod yX0_leaveThoseWhoStayed, Cond.selects RX0 yX0_leaveThoseWhoStayed yX0_leaveThoseWhoStayed, Cond.code yX0_leaveThoseWhoStayed cX0_leaveThoseWhoStayed 2 none, Cond.methodLink RX0 64 yX0_rest, Cond.instanceMethod yX0_rest, Cond.selects RX0 yX0_rest yX0_rest, Cond.code yX0_rest cX0_rest 2 none, Cond.methodLink RX0 71 yX0_letInThrough, Cond.instanceMethod yX0_letInThrough, Cond.selects RX0 yX0_letInThrough yX0_letInThrough, Cond.code yX0_letInThrough cX0_letInThrough 4 none, Cond.methodLink RX0 77 yX0_firstIn, Cond.instanceMethod yX0_firstIn, Cond.selects RX0 yX0_firstIn yX0_firstIn, Cond.code yX0_firstIn cX0_firstIn 10 (some .int), Cond.methodLink RX0 89 yX0_freePermits, Cond.instanceMethod yX0_freePermits, Cond.selects RX0 yX0_freePermits yX0_freePermits, Cond.code yX0_freePermits cX0_freePermits 4 (some .int), Cond.methodLink RX0 92 yX0_seeming]
def wsX1_bestOrder_r4 : List Cond := [Cond.instanceMethod yX0_seeming, Cond.selects RX0 yX0_seeming yX0_seeming, Cond.code yX0_seeming cX0_seeming 2 (some .int), Cond.methodLink RX0 81 yX0_enter, Cond.instanceMethod yX0_enter, Cond.selects RX0 yX0_enter yX0_enter, Cond.code yX0_enter cX0_enter 5 none, Cond.methodLink RX0 74 yX0_waitOnAt, Cond.instanceMethod yX0_waitOnAt, Cond.selects RX0 yX0_waitOnAt yX0_waitOnAt, Cond.code yX0_waitOnAt cX0_waitOnAt 3 none]
def wsX1_bestOrder : List Cond := .code yX1_bestOrder cX1_bestOrder 4 (some .int) :: ((wsX1_bestOrder_r1 ++ (wsX1_bestOrder_r2 ++ (wsX1_bestOrder_r3 ++ wsX1_bestOrder_r4))) ++ wsX10 ++ wsX00 ++ (vx_atS RX1 220 "java/lang/IndexOutOfBoundsException" ["java/lang/RuntimeException", "java/lang/Exception"]).filter goodWord)
def wsX1_meanWaited : List Cond := .code yX1_meanWaited cX1_meanWaited 1 (some .double) :: ([.fieldLink RX1 10 "GoatTower" "now" "LGoatTower$Scene;", .fieldLink RX1 43 "GoatTower$Scene" "goatCount" "I", .methodLink RX1 141 yX0_sumOfWaited, .instanceMethod yX0_sumOfWaited, .selects RX0 yX0_sumOfWaited yX0_sumOfWaited, .initialized RX0, .code yX0_sumOfWaited cX0_sumOfWaited 3 (some .int), .fieldLink RX0 55 "GoatTower$Scene" "goatCount" "I", .fieldLink RX0 45 "GoatTower$Scene" "waitedInAll" "[I"] ++ wsX10 ++ wsX00)
def wsX1_digest_r1 : List Cond := [Cond.constantLong RX1 144 (2161), Cond.constantLong RX1 146 (31), Cond.fieldLink RX1 10 "GoatTower" "now" "LGoatTower$Scene;", Cond.fieldLink RX1 30 "GoatTower$Scene" "gateCount" "I", Cond.fieldLink RX1 43 "GoatTower$Scene" "goatCount" "I", Cond.methodLink RX1 148 yX1_minute, Cond.instanceMethod yX1_minute, Cond.selects RX1 yX1_minute yX1_minute, Cond.initialized RX1, Cond.code yX1_minute cX1_minute 1 (some .int), Cond.fieldLink RX1 99 "GoatTower$Scene" "minute" "I", Cond.methodLink RX1 150 yX1_gates, Cond.instanceMethod yX1_gates, Cond.selects RX1 yX1_gates yX1_gates, Cond.code yX1_gates cX1_gates 1 (some .int), Cond.methodLink RX1 153 yX1_goats, Cond.instanceMethod yX1_goats, Cond.selects RX1 yX1_goats yX1_goats, Cond.code yX1_goats cX1_goats 1 (some .int), Cond.methodLink RX1 156 yX1_waiting, Cond.instanceMethod yX1_waiting, Cond.selects RX1 yX1_waiting yX1_waiting, Cond.code yX1_waiting cX1_waiting 1 (some .int), Cond.methodLink RX1 102 yX0_countInState]
def wsX1_digest_r2 : List Cond := [Cond.instanceMethod yX0_countInState, Cond.selects RX0 yX0_countInState yX0_countInState, Cond.initialized RX0, Cond.code yX0_countInState cX0_countInState 4 (some .int), Cond.fieldLink RX0 55 "GoatTower$Scene" "goatCount" "I", Cond.fieldLink RX0 24 "GoatTower$Scene" "state" "[I", Cond.methodLink RX1 159 yX1_inside, Cond.instanceMethod yX1_inside, Cond.selects RX1 yX1_inside yX1_inside, Cond.code yX1_inside cX1_inside 1 (some .int), Cond.methodLink RX1 162 yX1_starving, Cond.instanceMethod yX1_starving, Cond.selects RX1 yX1_starving yX1_starving, Cond.code yX1_starving cX1_starving 1 (some .int), Cond.methodLink RX1 105 yX0_countStarving, Cond.instanceMethod yX0_countStarving, Cond.selects RX0 yX0_countStarving yX0_countStarving, Cond.code yX0_countStarving cX0_countStarving 3 (some .int), Cond.fieldLink RX0 42 "GoatTower$Scene" "waitedForThis" "[I", Cond.methodLink RX1 165 yX1_letIn, Cond.instanceMethod yX1_letIn, Cond.selects RX1 yX1_letIn yX1_letIn, Cond.code yX1_letIn cX1_letIn 1 (some .int), Cond.fieldLink RX1 93 "GoatTower$Scene" "letInCount" "I"]
def wsX1_digest_r3 : List Cond := [Cond.methodLink RX1 168 yX1_givenUp, Cond.instanceMethod yX1_givenUp, Cond.selects RX1 yX1_givenUp yX1_givenUp, Cond.code yX1_givenUp cX1_givenUp 1 (some .int), Cond.methodLink RX1 109 yX0_givenUpInAll, Cond.instanceMethod yX0_givenUpInAll, Cond.selects RX0 yX0_givenUpInAll yX0_givenUpInAll, Cond.code yX0_givenUpInAll cX0_givenUpInAll 3 (some .int), Cond.fieldLink RX0 52 "GoatTower$Scene" "gateCount" "I", Cond.fieldLink RX0 18 "GoatTower$Scene" "givenUpAt" "[I", Cond.methodLink RX1 171 yX1_permitsOf, Cond.instanceMethod yX1_permitsOf, Cond.selects RX1 yX1_permitsOf yX1_permitsOf, Cond.code yX1_permitsOf cX1_permitsOf 2 (some .int), Cond.fieldLink RX1 59 "GoatTower$Scene" "permits" "[I", Cond.methodLink RX1 56 yX1_checkGate, Cond.instanceMethod yX1_checkGate, Cond.selects RX1 yX1_checkGate yX1_checkGate, Cond.code yX1_checkGate cX1_checkGate 2 none, Cond.classLink RX1 216 "java/lang/IndexOutOfBoundsException", Cond.initialized "java/lang/IndexOutOfBoundsException", Cond.methodLink RX1 174 yX1_freeOf, Cond.instanceMethod yX1_freeOf, Cond.selects RX1 yX1_freeOf yX1_freeOf]
def wsX1_digest_r4 : List Cond := [Cond.code yX1_freeOf cX1_freeOf 2 (some .int), Cond.methodLink RX1 73 yX0_freePermits, Cond.instanceMethod yX0_freePermits, Cond.selects RX0 yX0_freePermits yX0_freePermits, Cond.code yX0_freePermits cX0_freePermits 4 (some .int), Cond.fieldLink RX0 9 "GoatTower$Scene" "permits" "[I", Cond.fieldLink RX0 27 "GoatTower$Scene" "gate" "[I", Cond.fieldLink RX0 30 "GoatTower$Scene" "many" "[I", Cond.methodLink RX1 177 yX1_waitingAt, Cond.instanceMethod yX1_waitingAt, Cond.selects RX1 yX1_waitingAt yX1_waitingAt, Cond.code yX1_waitingAt cX1_waitingAt 2 (some .int), Cond.methodLink RX1 70 yX0_countWaitingAt, Cond.instanceMethod yX0_countWaitingAt, Cond.selects RX0 yX0_countWaitingAt yX0_countWaitingAt, Cond.code yX0_countWaitingAt cX0_countWaitingAt 4 (some .int), Cond.methodLink RX0 85 yX0_waitsAt, Cond.instanceMethod yX0_waitsAt, Cond.selects RX0 yX0_waitsAt yX0_waitsAt, Cond.code yX0_waitsAt cX0_waitsAt 3 (some .boolean), Cond.methodLink RX1 180 yX1_nextAt, Cond.instanceMethod yX1_nextAt, Cond.selects RX1 yX1_nextAt yX1_nextAt, Cond.code yX1_nextAt cX1_nextAt 2 (some .int)]
def wsX1_digest_r5 : List Cond := [Cond.methodLink RX1 112 yX0_firstIn, Cond.instanceMethod yX0_firstIn, Cond.selects RX0 yX0_firstIn yX0_firstIn, Cond.code yX0_firstIn cX0_firstIn 10 (some .int), Cond.fieldLink RX0 15 "GoatTower$Scene" "order" "[I", Cond.fieldLink RX0 39 "GoatTower$Scene" "askedAs" "[I", Cond.methodLink RX0 89 yX0_freePermits, Cond.methodLink RX0 92 yX0_seeming, Cond.instanceMethod yX0_seeming, Cond.selects RX0 yX0_seeming yX0_seeming, Cond.code yX0_seeming cX0_seeming 2 (some .int), Cond.fieldLink RX0 21 "GoatTower$Scene" "horns" "[I", Cond.methodLink RX1 183 yX1_permitsWanted, Cond.instanceMethod yX1_permitsWanted, Cond.selects RX1 yX1_permitsWanted yX1_permitsWanted, Cond.code yX1_permitsWanted cX1_permitsWanted 3 (some .int), Cond.fieldLink RX1 134 "GoatTower$Scene" "order" "[I", Cond.methodLink RX1 137 yX1_givingUpWith, Cond.instanceMethod yX1_givingUpWith, Cond.selects RX1 yX1_givingUpWith yX1_givingUpWith, Cond.code yX1_givingUpWith cX1_givingUpWith 5 (some .int), Cond.fieldLink RX1 16 "GoatTower" "ahead" "LGoatTower$Scene;", Cond.fieldLink RX1 213 "GoatTower$Scene" "givenUpAt" "[I", Cond.methodLink RX1 130 yX0_become]
def wsX1_digest_r6 : List Cond := [Cond.instanceMethod yX0_become, Cond.selects RX0 yX0_become yX0_become, Cond.code yX0_become cX0_become 3 none, Cond.fieldLink RX0 48 "GoatTower$Scene" "minute" "I", Cond.fieldLink RX0 58 "GoatTower$Scene" "askCount" "I", Cond.fieldLink RX0 61 "GoatTower$Scene" "letInCount" "I", Cond.fieldLink RX0 33 "GoatTower$Scene" "stay" "[I", Cond.fieldLink RX0 36 "GoatTower$Scene" "left" "[I", Cond.fieldLink RX0 45 "GoatTower$Scene" "waitedInAll" "[I", Cond.methodLink RX1 96 yX0_liveAMinute, Cond.instanceMethod yX0_liveAMinute, Cond.selects RX0 yX0_liveAMinute yX0_liveAMinute, Cond.code yX0_liveAMinute cX0_liveAMinute 2 none, Cond.methodLink RX0 68 yX0_leaveThoseWhoStayed, Cond.instanceMethod yX0_leaveThoseWhoStayed, Cond.selects RX0 yX0_leaveThoseWhoStayed yX0_leaveThoseWhoStayed, Cond.code yX0_leaveThoseWhoStayed cX0_leaveThoseWhoStayed 2 none, Cond.methodLink RX0 64 yX0_rest, Cond.instanceMethod yX0_rest, Cond.selects RX0 yX0_rest yX0_rest, Cond.code yX0_rest cX0_rest 2 none, Cond.methodLink RX0 71 yX0_letInThrough, Cond.instanceMethod yX0_letInThrough, Cond.selects RX0 yX0_letInThrough yX0_letInThrough]
def wsX1_digest_r7 : List Cond := [Cond.code yX0_letInThrough cX0_letInThrough 4 none, Cond.methodLink RX0 77 yX0_firstIn, Cond.methodLink RX0 81 yX0_enter, Cond.instanceMethod yX0_enter, Cond.selects RX0 yX0_enter yX0_enter, Cond.code yX0_enter cX0_enter 5 none, Cond.methodLink RX0 74 yX0_waitOnAt, Cond.instanceMethod yX0_waitOnAt, Cond.selects RX0 yX0_waitOnAt yX0_waitOnAt, Cond.code yX0_waitOnAt cX0_waitOnAt 3 none, Cond.methodLink RX1 186 yX1_bestOrder, Cond.instanceMethod yX1_bestOrder, Cond.selects RX1 yX1_bestOrder yX1_bestOrder, Cond.code yX1_bestOrder cX1_bestOrder 4 (some .int), Cond.methodLink RX1 189 yX1_stateOf, Cond.instanceMethod yX1_stateOf, Cond.selects RX1 yX1_stateOf yX1_stateOf, Cond.code yX1_stateOf cX1_stateOf 2 (some .int), Cond.fieldLink RX1 82 "GoatTower$Scene" "state" "[I", Cond.methodLink RX1 52 yX1_checkGoat, Cond.instanceMethod yX1_checkGoat, Cond.selects RX1 yX1_checkGoat yX1_checkGoat, Cond.code yX1_checkGoat cX1_checkGoat 2 none, Cond.methodLink RX1 192 yX1_gateOf]
def wsX1_digest_r8 : List Cond := [Cond.instanceMethod yX1_gateOf, Cond.selects RX1 yX1_gateOf yX1_gateOf, Cond.code yX1_gateOf cX1_gateOf 2 (some .int), Cond.fieldLink RX1 115 "GoatTower$Scene" "gate" "[I", Cond.methodLink RX1 195 yX1_holds, Cond.instanceMethod yX1_holds, Cond.selects RX1 yX1_holds yX1_holds, Cond.code yX1_holds cX1_holds 2 (some .int), Cond.methodLink RX1 87 yX0_held, Cond.instanceMethod yX0_held, Cond.selects RX0 yX0_held yX0_held, Cond.code yX0_held cX0_held 2 (some .int), Cond.methodLink RX1 198 yX1_seemingHorns, Cond.instanceMethod yX1_seemingHorns, Cond.selects RX1 yX1_seemingHorns yX1_seemingHorns, Cond.code yX1_seemingHorns cX1_seemingHorns 2 (some .int), Cond.methodLink RX1 118 yX0_seeming, Cond.methodLink RX1 201 yX1_minutesLeft, Cond.instanceMethod yX1_minutesLeft, Cond.selects RX1 yX1_minutesLeft yX1_minutesLeft, Cond.code yX1_minutesLeft cX1_minutesLeft 2 (some .int), Cond.fieldLink RX1 121 "GoatTower$Scene" "left" "[I", Cond.methodLink RX1 204 yX1_waitedOf, Cond.instanceMethod yX1_waitedOf]
def wsX1_digest_r9 : List Cond := [Cond.selects RX1 yX1_waitedOf yX1_waitedOf, Cond.code yX1_waitedOf cX1_waitedOf 2 (some .int), Cond.fieldLink RX1 124 "GoatTower$Scene" "waitedInAll" "[I", Cond.methodLink RX1 207 yX1_placeInLine, Cond.instanceMethod yX1_placeInLine, Cond.selects RX1 yX1_placeInLine yX1_placeInLine, Cond.code yX1_placeInLine cX1_placeInLine 2 (some .int), Cond.methodLink RX1 127 yX0_countAheadOf, Cond.instanceMethod yX0_countAheadOf, Cond.selects RX0 yX0_countAheadOf yX0_countAheadOf, Cond.code yX0_countAheadOf cX0_countAheadOf 4 (some .int), Cond.methodLink RX1 210 yX1_minutesUntilIn, Cond.instanceMethod yX1_minutesUntilIn, Cond.selects RX1 yX1_minutesUntilIn yX1_minutesUntilIn, Cond.code yX1_minutesUntilIn cX1_minutesUntilIn 3 (some .int)]
def wsX1_digest : List Cond := .code yX1_digest cX1_digest 4 (some .long) :: ((wsX1_digest_r1 ++ (wsX1_digest_r2 ++ (wsX1_digest_r3 ++ (wsX1_digest_r4 ++ (wsX1_digest_r5 ++ (wsX1_digest_r6 ++ (wsX1_digest_r7 ++ (wsX1_digest_r8 ++ wsX1_digest_r9)))))))) ++ wsX10 ++ wsX00 ++ (vx_atS RX1 220 "java/lang/IndexOutOfBoundsException" ["java/lang/RuntimeException", "java/lang/Exception"]).filter goodWord)
def wsX2_init : List Cond := .code yX2_init cX2_init 1 none :: ([.methodLink RX2 3 objectInit, .instanceMethod objectInit, .code objectInit ⟨#[0xb1]⟩ 1 none, .arrayClass .int, .fieldLink RX2 9 "GoatTowerModel" "permits" "[I", .fieldLink RX2 13 "GoatTowerModel" "order" "[I", .fieldLink RX2 16 "GoatTowerModel" "horns" "[I", .fieldLink RX2 19 "GoatTowerModel" "now" "[I", .fieldLink RX2 22 "GoatTowerModel" "kept" "[I"] ++ wsX20)
def wsX2_thrown : List Cond := .code yX2_thrown cX2_thrown 1 (some .int) :: ([.fieldLink RX2 25 "GoatTowerModel" "thrown" "I"] ++ wsX20)
def wsX2_no : List Cond := .code yX2_no cX2_no 2 (some .int) :: ([.fieldLink RX2 25 "GoatTowerModel" "thrown" "I"] ++ wsX20)
def wsX2_ok : List Cond := .code yX2_ok cX2_ok 2 (some .int) :: ([.fieldLink RX2 25 "GoatTowerModel" "thrown" "I"] ++ wsX20)
def wsX2_isIn : List Cond := .code yX2_isIn cX2_isIn 3 (some .boolean) :: ([])
def wsX2_isGate : List Cond := .code yX2_isGate cX2_isGate 2 (some .boolean) :: ([.fieldLink RX2 29 "GoatTowerModel" "gates" "I", .methodLink RX2 32 yX2_isIn, .static yX2_isIn, .initialized RX2, .code yX2_isIn cX2_isIn 3 (some .boolean)] ++ wsX20)
def wsX2_isGoat : List Cond := .code yX2_isGoat cX2_isGoat 2 (some .boolean) :: ([.fieldLink RX2 36 "GoatTowerModel" "goats" "I", .methodLink RX2 32 yX2_isIn, .static yX2_isIn, .initialized RX2, .code yX2_isIn cX2_isIn 3 (some .boolean)] ++ wsX20)
def wsX2_keep : List Cond := .code yX2_keep cX2_keep 1 none :: ([.fieldLink RX2 19 "GoatTowerModel" "now" "[I", .fieldLink RX2 22 "GoatTowerModel" "kept" "[I", .methodLink RX2 39 arraycopyName, .native arraycopyName, .static arraycopyName, .initialized "java/lang/System"] ++ wsX20)
def wsX2_bringBack : List Cond := .code yX2_bringBack cX2_bringBack 1 none :: ([.fieldLink RX2 22 "GoatTowerModel" "kept" "[I", .fieldLink RX2 19 "GoatTowerModel" "now" "[I", .methodLink RX2 39 arraycopyName, .native arraycopyName, .static arraycopyName, .initialized "java/lang/System"] ++ wsX20)
def wsX2_of : List Cond := .code yX2_of cX2_of 3 (some .int) :: ([.fieldLink RX2 19 "GoatTowerModel" "now" "[I"] ++ wsX20)
def wsX2_let : List Cond := .code yX2_let cX2_let 4 none :: ([.fieldLink RX2 19 "GoatTowerModel" "now" "[I"] ++ wsX20)
def wsX2_is : List Cond := .code yX2_is cX2_is 3 (some .boolean) :: ([.methodLink RX2 45 yX2_of, .instanceMethod yX2_of, .selects RX2 yX2_of yX2_of, .initialized RX2, .code yX2_of cX2_of 3 (some .int), .fieldLink RX2 19 "GoatTowerModel" "now" "[I"] ++ wsX20)
def wsX2_isAt : List Cond := .code yX2_isAt cX2_isAt 3 (some .boolean) :: ([.methodLink RX2 49 yX2_is, .instanceMethod yX2_is, .selects RX2 yX2_is yX2_is, .initialized RX2, .code yX2_is cX2_is 3 (some .boolean), .methodLink RX2 45 yX2_of, .instanceMethod yX2_of, .selects RX2 yX2_of yX2_of, .code yX2_of cX2_of 3 (some .int), .fieldLink RX2 19 "GoatTowerModel" "now" "[I"] ++ wsX20)
def wsX2_free : List Cond := .code yX2_free cX2_free 4 (some .int) :: ([.fieldLink RX2 9 "GoatTowerModel" "permits" "[I", .fieldLink RX2 36 "GoatTowerModel" "goats" "I", .methodLink RX2 49 yX2_is, .instanceMethod yX2_is, .selects RX2 yX2_is yX2_is, .initialized RX2, .code yX2_is cX2_is 3 (some .boolean), .methodLink RX2 45 yX2_of, .instanceMethod yX2_of, .selects RX2 yX2_of yX2_of, .code yX2_of cX2_of 3 (some .int), .fieldLink RX2 19 "GoatTowerModel" "now" "[I"] ++ wsX20)
def wsX2_seem : List Cond := .code yX2_seem cX2_seem 2 (some .int) :: ([.fieldLink RX2 16 "GoatTowerModel" "horns" "[I", .methodLink RX2 49 yX2_is, .instanceMethod yX2_is, .selects RX2 yX2_is yX2_is, .initialized RX2, .code yX2_is cX2_is 3 (some .boolean), .methodLink RX2 45 yX2_of, .instanceMethod yX2_of, .selects RX2 yX2_of yX2_of, .code yX2_of cX2_of 3 (some .int), .fieldLink RX2 19 "GoatTowerModel" "now" "[I"] ++ wsX20)
def wsX2_firstAt : List Cond := .code yX2_firstAt cX2_firstAt 4 (some .int) :: ([.fieldLink RX2 36 "GoatTowerModel" "goats" "I", .methodLink RX2 53 yX2_isAt, .instanceMethod yX2_isAt, .selects RX2 yX2_isAt yX2_isAt, .initialized RX2, .code yX2_isAt cX2_isAt 3 (some .boolean), .methodLink RX2 49 yX2_is, .instanceMethod yX2_is, .selects RX2 yX2_is yX2_is, .code yX2_is cX2_is 3 (some .boolean), .methodLink RX2 45 yX2_of, .instanceMethod yX2_of, .selects RX2 yX2_of yX2_of, .code yX2_of cX2_of 3 (some .int), .fieldLink RX2 19 "GoatTowerModel" "now" "[I"] ++ wsX20)
def wsX2_next_r1 : List Cond := [Cond.fieldLink RX2 13 "GoatTowerModel" "order" "[I", Cond.fieldLink RX2 36 "GoatTowerModel" "goats" "I", Cond.methodLink RX2 56 yX2_free, Cond.instanceMethod yX2_free, Cond.selects RX2 yX2_free yX2_free, Cond.initialized RX2, Cond.code yX2_free cX2_free 4 (some .int), Cond.fieldLink RX2 9 "GoatTowerModel" "permits" "[I", Cond.methodLink RX2 49 yX2_is, Cond.instanceMethod yX2_is, Cond.selects RX2 yX2_is yX2_is, Cond.code yX2_is cX2_is 3 (some .boolean), Cond.methodLink RX2 45 yX2_of, Cond.instanceMethod yX2_of, Cond.selects RX2 yX2_of yX2_of, Cond.code yX2_of cX2_of 3 (some .int), Cond.fieldLink RX2 19 "GoatTowerModel" "now" "[I", Cond.methodLink RX2 60 yX2_firstAt, Cond.instanceMethod yX2_firstAt, Cond.selects RX2 yX2_firstAt yX2_firstAt, Cond.code yX2_firstAt cX2_firstAt 4 (some .int), Cond.methodLink RX2 53 yX2_isAt, Cond.instanceMethod yX2_isAt, Cond.selects RX2 yX2_isAt yX2_isAt]
def wsX2_next_r2 : List Cond := [Cond.code yX2_isAt cX2_isAt 3 (some .boolean), Cond.methodLink RX2 63 yX2_seem, Cond.instanceMethod yX2_seem, Cond.selects RX2 yX2_seem yX2_seem, Cond.code yX2_seem cX2_seem 2 (some .int), Cond.fieldLink RX2 16 "GoatTowerModel" "horns" "[I"]
def wsX2_next : List Cond := .code yX2_next cX2_next 5 (some .int) :: ((wsX2_next_r1 ++ wsX2_next_r2) ++ wsX20)
def wsX2_manyAt : List Cond := .code yX2_manyAt cX2_manyAt 4 (some .int) :: ([.fieldLink RX2 36 "GoatTowerModel" "goats" "I", .methodLink RX2 53 yX2_isAt, .instanceMethod yX2_isAt, .selects RX2 yX2_isAt yX2_isAt, .initialized RX2, .code yX2_isAt cX2_isAt 3 (some .boolean), .methodLink RX2 49 yX2_is, .instanceMethod yX2_is, .selects RX2 yX2_is yX2_is, .code yX2_is cX2_is 3 (some .boolean), .methodLink RX2 45 yX2_of, .instanceMethod yX2_of, .selects RX2 yX2_of yX2_of, .code yX2_of cX2_of 3 (some .int), .fieldLink RX2 19 "GoatTowerModel" "now" "[I"] ++ wsX20)
def wsX2_many : List Cond := .code yX2_many cX2_many 4 (some .int) :: ([.fieldLink RX2 36 "GoatTowerModel" "goats" "I", .methodLink RX2 49 yX2_is, .instanceMethod yX2_is, .selects RX2 yX2_is yX2_is, .initialized RX2, .code yX2_is cX2_is 3 (some .boolean), .methodLink RX2 45 yX2_of, .instanceMethod yX2_of, .selects RX2 yX2_of yX2_of, .code yX2_of cX2_of 3 (some .int), .fieldLink RX2 19 "GoatTowerModel" "now" "[I"] ++ wsX20)
def wsX2_stay : List Cond := .code yX2_stay cX2_stay 2 none :: ([.methodLink RX2 49 yX2_is, .instanceMethod yX2_is, .selects RX2 yX2_is yX2_is, .initialized RX2, .code yX2_is cX2_is 3 (some .boolean), .methodLink RX2 45 yX2_of, .instanceMethod yX2_of, .selects RX2 yX2_of yX2_of, .code yX2_of cX2_of 3 (some .int), .fieldLink RX2 19 "GoatTowerModel" "now" "[I", .methodLink RX2 66 yX2_let, .instanceMethod yX2_let, .selects RX2 yX2_let yX2_let, .code yX2_let cX2_let 4 none] ++ wsX20)
def wsX2_open_r1 : List Cond := [Cond.fieldLink RX2 19 "GoatTowerModel" "now" "[I", Cond.methodLink RX2 70 yX2_next, Cond.instanceMethod yX2_next, Cond.selects RX2 yX2_next yX2_next, Cond.initialized RX2, Cond.code yX2_next cX2_next 5 (some .int), Cond.fieldLink RX2 13 "GoatTowerModel" "order" "[I", Cond.fieldLink RX2 36 "GoatTowerModel" "goats" "I", Cond.methodLink RX2 56 yX2_free, Cond.instanceMethod yX2_free, Cond.selects RX2 yX2_free yX2_free, Cond.code yX2_free cX2_free 4 (some .int), Cond.fieldLink RX2 9 "GoatTowerModel" "permits" "[I", Cond.methodLink RX2 49 yX2_is, Cond.instanceMethod yX2_is, Cond.selects RX2 yX2_is yX2_is, Cond.code yX2_is cX2_is 3 (some .boolean), Cond.methodLink RX2 45 yX2_of, Cond.instanceMethod yX2_of, Cond.selects RX2 yX2_of yX2_of, Cond.code yX2_of cX2_of 3 (some .int), Cond.methodLink RX2 60 yX2_firstAt, Cond.instanceMethod yX2_firstAt, Cond.selects RX2 yX2_firstAt yX2_firstAt]
def wsX2_open_r2 : List Cond := [Cond.code yX2_firstAt cX2_firstAt 4 (some .int), Cond.methodLink RX2 53 yX2_isAt, Cond.instanceMethod yX2_isAt, Cond.selects RX2 yX2_isAt yX2_isAt, Cond.code yX2_isAt cX2_isAt 3 (some .boolean), Cond.methodLink RX2 63 yX2_seem, Cond.instanceMethod yX2_seem, Cond.selects RX2 yX2_seem yX2_seem, Cond.code yX2_seem cX2_seem 2 (some .int), Cond.fieldLink RX2 16 "GoatTowerModel" "horns" "[I", Cond.methodLink RX2 66 yX2_let, Cond.instanceMethod yX2_let, Cond.selects RX2 yX2_let yX2_let, Cond.code yX2_let cX2_let 4 none]
def wsX2_open : List Cond := .code yX2_open cX2_open 3 none :: ((wsX2_open_r1 ++ wsX2_open_r2) ++ wsX20)
def wsX2_waitOn : List Cond := .code yX2_waitOn cX2_waitOn 2 none :: ([.fieldLink RX2 19 "GoatTowerModel" "now" "[I", .methodLink RX2 49 yX2_is, .instanceMethod yX2_is, .selects RX2 yX2_is yX2_is, .initialized RX2, .code yX2_is cX2_is 3 (some .boolean), .methodLink RX2 45 yX2_of, .instanceMethod yX2_of, .selects RX2 yX2_of yX2_of, .code yX2_of cX2_of 3 (some .int), .methodLink RX2 66 yX2_let, .instanceMethod yX2_let, .selects RX2 yX2_let yX2_let, .code yX2_let cX2_let 4 none] ++ wsX20)
def wsX2_minuteOn_r1 : List Cond := [Cond.fieldLink RX2 36 "GoatTowerModel" "goats" "I", Cond.fieldLink RX2 29 "GoatTowerModel" "gates" "I", Cond.fieldLink RX2 19 "GoatTowerModel" "now" "[I", Cond.methodLink RX2 73 yX2_stay, Cond.instanceMethod yX2_stay, Cond.selects RX2 yX2_stay yX2_stay, Cond.initialized RX2, Cond.code yX2_stay cX2_stay 2 none, Cond.methodLink RX2 49 yX2_is, Cond.instanceMethod yX2_is, Cond.selects RX2 yX2_is yX2_is, Cond.code yX2_is cX2_is 3 (some .boolean), Cond.methodLink RX2 45 yX2_of, Cond.instanceMethod yX2_of, Cond.selects RX2 yX2_of yX2_of, Cond.code yX2_of cX2_of 3 (some .int), Cond.methodLink RX2 66 yX2_let, Cond.instanceMethod yX2_let, Cond.selects RX2 yX2_let yX2_let, Cond.code yX2_let cX2_let 4 none, Cond.methodLink RX2 77 yX2_open, Cond.instanceMethod yX2_open, Cond.selects RX2 yX2_open yX2_open, Cond.code yX2_open cX2_open 3 none]
def wsX2_minuteOn_r2 : List Cond := [Cond.methodLink RX2 70 yX2_next, Cond.instanceMethod yX2_next, Cond.selects RX2 yX2_next yX2_next, Cond.code yX2_next cX2_next 5 (some .int), Cond.fieldLink RX2 13 "GoatTowerModel" "order" "[I", Cond.methodLink RX2 56 yX2_free, Cond.instanceMethod yX2_free, Cond.selects RX2 yX2_free yX2_free, Cond.code yX2_free cX2_free 4 (some .int), Cond.fieldLink RX2 9 "GoatTowerModel" "permits" "[I", Cond.methodLink RX2 60 yX2_firstAt, Cond.instanceMethod yX2_firstAt, Cond.selects RX2 yX2_firstAt yX2_firstAt, Cond.code yX2_firstAt cX2_firstAt 4 (some .int), Cond.methodLink RX2 53 yX2_isAt, Cond.instanceMethod yX2_isAt, Cond.selects RX2 yX2_isAt yX2_isAt, Cond.code yX2_isAt cX2_isAt 3 (some .boolean), Cond.methodLink RX2 63 yX2_seem, Cond.instanceMethod yX2_seem, Cond.selects RX2 yX2_seem yX2_seem, Cond.code yX2_seem cX2_seem 2 (some .int), Cond.fieldLink RX2 16 "GoatTowerModel" "horns" "[I", Cond.methodLink RX2 80 yX2_waitOn]
def wsX2_minuteOn_r3 : List Cond := [Cond.instanceMethod yX2_waitOn, Cond.selects RX2 yX2_waitOn yX2_waitOn, Cond.code yX2_waitOn cX2_waitOn 2 none]
def wsX2_minuteOn : List Cond := .code yX2_minuteOn cX2_minuteOn 2 none :: ((wsX2_minuteOn_r1 ++ (wsX2_minuteOn_r2 ++ wsX2_minuteOn_r3)) ++ wsX20)
def wsX2_minutesOn_r1 : List Cond := [Cond.methodLink RX2 83 yX2_minuteOn, Cond.instanceMethod yX2_minuteOn, Cond.selects RX2 yX2_minuteOn yX2_minuteOn, Cond.initialized RX2, Cond.code yX2_minuteOn cX2_minuteOn 2 none, Cond.fieldLink RX2 36 "GoatTowerModel" "goats" "I", Cond.fieldLink RX2 29 "GoatTowerModel" "gates" "I", Cond.fieldLink RX2 19 "GoatTowerModel" "now" "[I", Cond.methodLink RX2 73 yX2_stay, Cond.instanceMethod yX2_stay, Cond.selects RX2 yX2_stay yX2_stay, Cond.code yX2_stay cX2_stay 2 none, Cond.methodLink RX2 49 yX2_is, Cond.instanceMethod yX2_is, Cond.selects RX2 yX2_is yX2_is, Cond.code yX2_is cX2_is 3 (some .boolean), Cond.methodLink RX2 45 yX2_of, Cond.instanceMethod yX2_of, Cond.selects RX2 yX2_of yX2_of, Cond.code yX2_of cX2_of 3 (some .int), Cond.methodLink RX2 66 yX2_let, Cond.instanceMethod yX2_let, Cond.selects RX2 yX2_let yX2_let, Cond.code yX2_let cX2_let 4 none]
def wsX2_minutesOn_r2 : List Cond := [Cond.methodLink RX2 77 yX2_open, Cond.instanceMethod yX2_open, Cond.selects RX2 yX2_open yX2_open, Cond.code yX2_open cX2_open 3 none, Cond.methodLink RX2 70 yX2_next, Cond.instanceMethod yX2_next, Cond.selects RX2 yX2_next yX2_next, Cond.code yX2_next cX2_next 5 (some .int), Cond.fieldLink RX2 13 "GoatTowerModel" "order" "[I", Cond.methodLink RX2 56 yX2_free, Cond.instanceMethod yX2_free, Cond.selects RX2 yX2_free yX2_free, Cond.code yX2_free cX2_free 4 (some .int), Cond.fieldLink RX2 9 "GoatTowerModel" "permits" "[I", Cond.methodLink RX2 60 yX2_firstAt, Cond.instanceMethod yX2_firstAt, Cond.selects RX2 yX2_firstAt yX2_firstAt, Cond.code yX2_firstAt cX2_firstAt 4 (some .int), Cond.methodLink RX2 53 yX2_isAt, Cond.instanceMethod yX2_isAt, Cond.selects RX2 yX2_isAt yX2_isAt, Cond.code yX2_isAt cX2_isAt 3 (some .boolean), Cond.methodLink RX2 63 yX2_seem, Cond.instanceMethod yX2_seem]
def wsX2_minutesOn_r3 : List Cond := [Cond.selects RX2 yX2_seem yX2_seem, Cond.code yX2_seem cX2_seem 2 (some .int), Cond.fieldLink RX2 16 "GoatTowerModel" "horns" "[I", Cond.methodLink RX2 80 yX2_waitOn, Cond.instanceMethod yX2_waitOn, Cond.selects RX2 yX2_waitOn yX2_waitOn, Cond.code yX2_waitOn cX2_waitOn 2 none]
def wsX2_minutesOn : List Cond := .code yX2_minutesOn cX2_minutesOn 3 none :: ((wsX2_minutesOn_r1 ++ (wsX2_minutesOn_r2 ++ wsX2_minutesOn_r3)) ++ wsX20)
def wsX2_addGate : List Cond := .code yX2_addGate cX2_addGate 3 (some .int) :: ([.fieldLink RX2 25 "GoatTowerModel" "thrown" "I", .fieldLink RX2 29 "GoatTowerModel" "gates" "I", .fieldLink RX2 9 "GoatTowerModel" "permits" "[I", .fieldLink RX2 13 "GoatTowerModel" "order" "[I", .methodLink RX2 32 yX2_isIn, .static yX2_isIn, .initialized RX2, .code yX2_isIn cX2_isIn 3 (some .boolean), .methodLink RX2 86 yX2_no, .instanceMethod yX2_no, .selects RX2 yX2_no yX2_no, .code yX2_no cX2_no 2 (some .int)] ++ wsX20)
def wsX2_addGoat : List Cond := .code yX2_addGoat cX2_addGoat 2 (some .int) :: ([.fieldLink RX2 25 "GoatTowerModel" "thrown" "I", .fieldLink RX2 36 "GoatTowerModel" "goats" "I", .fieldLink RX2 16 "GoatTowerModel" "horns" "[I", .methodLink RX2 32 yX2_isIn, .static yX2_isIn, .initialized RX2, .code yX2_isIn cX2_isIn 3 (some .boolean), .methodLink RX2 86 yX2_no, .instanceMethod yX2_no, .selects RX2 yX2_no yX2_no, .code yX2_no cX2_no 2 (some .int)] ++ wsX20)
def wsX2_write : List Cond := .code yX2_write cX2_write 6 none :: ([.methodLink RX2 66 yX2_let, .instanceMethod yX2_let, .selects RX2 yX2_let yX2_let, .initialized RX2, .code yX2_let cX2_let 4 none, .fieldLink RX2 19 "GoatTowerModel" "now" "[I"] ++ wsX20)
def wsX2_ask_r1 : List Cond := [Cond.fieldLink RX2 25 "GoatTowerModel" "thrown" "I", Cond.fieldLink RX2 9 "GoatTowerModel" "permits" "[I", Cond.fieldLink RX2 19 "GoatTowerModel" "now" "[I", Cond.methodLink RX2 89 yX2_isGoat, Cond.instanceMethod yX2_isGoat, Cond.selects RX2 yX2_isGoat yX2_isGoat, Cond.initialized RX2, Cond.code yX2_isGoat cX2_isGoat 2 (some .boolean), Cond.fieldLink RX2 36 "GoatTowerModel" "goats" "I", Cond.methodLink RX2 32 yX2_isIn, Cond.static yX2_isIn, Cond.code yX2_isIn cX2_isIn 3 (some .boolean), Cond.methodLink RX2 93 yX2_isGate, Cond.instanceMethod yX2_isGate, Cond.selects RX2 yX2_isGate yX2_isGate, Cond.code yX2_isGate cX2_isGate 2 (some .boolean), Cond.fieldLink RX2 29 "GoatTowerModel" "gates" "I", Cond.methodLink RX2 86 yX2_no, Cond.instanceMethod yX2_no, Cond.selects RX2 yX2_no yX2_no, Cond.code yX2_no cX2_no 2 (some .int), Cond.methodLink RX2 49 yX2_is, Cond.instanceMethod yX2_is, Cond.selects RX2 yX2_is yX2_is]
def wsX2_ask_r2 : List Cond := [Cond.code yX2_is cX2_is 3 (some .boolean), Cond.methodLink RX2 45 yX2_of, Cond.instanceMethod yX2_of, Cond.selects RX2 yX2_of yX2_of, Cond.code yX2_of cX2_of 3 (some .int), Cond.methodLink RX2 96 yX2_write, Cond.instanceMethod yX2_write, Cond.selects RX2 yX2_write yX2_write, Cond.code yX2_write cX2_write 6 none, Cond.methodLink RX2 66 yX2_let, Cond.instanceMethod yX2_let, Cond.selects RX2 yX2_let yX2_let, Cond.code yX2_let cX2_let 4 none, Cond.methodLink RX2 100 yX2_manyAt, Cond.instanceMethod yX2_manyAt, Cond.selects RX2 yX2_manyAt yX2_manyAt, Cond.code yX2_manyAt cX2_manyAt 4 (some .int), Cond.methodLink RX2 53 yX2_isAt, Cond.instanceMethod yX2_isAt, Cond.selects RX2 yX2_isAt yX2_isAt, Cond.code yX2_isAt cX2_isAt 3 (some .boolean)]
def wsX2_ask : List Cond := .code yX2_ask cX2_ask 6 (some .int) :: ((wsX2_ask_r1 ++ wsX2_ask_r2) ++ wsX20)
def wsX2_barge_r1 : List Cond := [Cond.fieldLink RX2 25 "GoatTowerModel" "thrown" "I", Cond.fieldLink RX2 9 "GoatTowerModel" "permits" "[I", Cond.methodLink RX2 89 yX2_isGoat, Cond.instanceMethod yX2_isGoat, Cond.selects RX2 yX2_isGoat yX2_isGoat, Cond.initialized RX2, Cond.code yX2_isGoat cX2_isGoat 2 (some .boolean), Cond.fieldLink RX2 36 "GoatTowerModel" "goats" "I", Cond.methodLink RX2 32 yX2_isIn, Cond.static yX2_isIn, Cond.code yX2_isIn cX2_isIn 3 (some .boolean), Cond.methodLink RX2 93 yX2_isGate, Cond.instanceMethod yX2_isGate, Cond.selects RX2 yX2_isGate yX2_isGate, Cond.code yX2_isGate cX2_isGate 2 (some .boolean), Cond.fieldLink RX2 29 "GoatTowerModel" "gates" "I", Cond.methodLink RX2 86 yX2_no, Cond.instanceMethod yX2_no, Cond.selects RX2 yX2_no yX2_no, Cond.code yX2_no cX2_no 2 (some .int), Cond.methodLink RX2 49 yX2_is, Cond.instanceMethod yX2_is, Cond.selects RX2 yX2_is yX2_is, Cond.code yX2_is cX2_is 3 (some .boolean)]
def wsX2_barge_r2 : List Cond := [Cond.methodLink RX2 45 yX2_of, Cond.instanceMethod yX2_of, Cond.selects RX2 yX2_of yX2_of, Cond.code yX2_of cX2_of 3 (some .int), Cond.fieldLink RX2 19 "GoatTowerModel" "now" "[I", Cond.methodLink RX2 56 yX2_free, Cond.instanceMethod yX2_free, Cond.selects RX2 yX2_free yX2_free, Cond.code yX2_free cX2_free 4 (some .int), Cond.methodLink RX2 96 yX2_write, Cond.instanceMethod yX2_write, Cond.selects RX2 yX2_write yX2_write, Cond.code yX2_write cX2_write 6 none, Cond.methodLink RX2 66 yX2_let, Cond.instanceMethod yX2_let, Cond.selects RX2 yX2_let yX2_let, Cond.code yX2_let cX2_let 4 none]
def wsX2_barge : List Cond := .code yX2_barge cX2_barge 5 (some .int) :: ((wsX2_barge_r1 ++ wsX2_barge_r2) ++ wsX20)
def wsX2_held : List Cond := .code yX2_held cX2_held 2 (some .int) :: ([.methodLink RX2 49 yX2_is, .instanceMethod yX2_is, .selects RX2 yX2_is yX2_is, .initialized RX2, .code yX2_is cX2_is 3 (some .boolean), .methodLink RX2 45 yX2_of, .instanceMethod yX2_of, .selects RX2 yX2_of yX2_of, .code yX2_of cX2_of 3 (some .int), .fieldLink RX2 19 "GoatTowerModel" "now" "[I"] ++ wsX20)
def wsX2_callBack_r1 : List Cond := [Cond.fieldLink RX2 25 "GoatTowerModel" "thrown" "I", Cond.methodLink RX2 89 yX2_isGoat, Cond.instanceMethod yX2_isGoat, Cond.selects RX2 yX2_isGoat yX2_isGoat, Cond.initialized RX2, Cond.code yX2_isGoat cX2_isGoat 2 (some .boolean), Cond.fieldLink RX2 36 "GoatTowerModel" "goats" "I", Cond.methodLink RX2 32 yX2_isIn, Cond.static yX2_isIn, Cond.code yX2_isIn cX2_isIn 3 (some .boolean), Cond.methodLink RX2 86 yX2_no, Cond.instanceMethod yX2_no, Cond.selects RX2 yX2_no yX2_no, Cond.code yX2_no cX2_no 2 (some .int), Cond.methodLink RX2 49 yX2_is, Cond.instanceMethod yX2_is, Cond.selects RX2 yX2_is yX2_is, Cond.code yX2_is cX2_is 3 (some .boolean), Cond.methodLink RX2 45 yX2_of, Cond.instanceMethod yX2_of, Cond.selects RX2 yX2_of yX2_of, Cond.code yX2_of cX2_of 3 (some .int), Cond.fieldLink RX2 19 "GoatTowerModel" "now" "[I", Cond.methodLink RX2 103 yX2_held]
def wsX2_callBack_r2 : List Cond := [Cond.instanceMethod yX2_held, Cond.selects RX2 yX2_held yX2_held, Cond.code yX2_held cX2_held 2 (some .int), Cond.methodLink RX2 66 yX2_let, Cond.instanceMethod yX2_let, Cond.selects RX2 yX2_let yX2_let, Cond.code yX2_let cX2_let 4 none]
def wsX2_callBack : List Cond := .code yX2_callBack cX2_callBack 3 (some .int) :: ((wsX2_callBack_r1 ++ wsX2_callBack_r2) ++ wsX20)
def wsX2_pass_r1 : List Cond := [Cond.fieldLink RX2 25 "GoatTowerModel" "thrown" "I", Cond.fieldLink RX2 19 "GoatTowerModel" "now" "[I", Cond.methodLink RX2 32 yX2_isIn, Cond.static yX2_isIn, Cond.initialized RX2, Cond.code yX2_isIn cX2_isIn 3 (some .boolean), Cond.methodLink RX2 86 yX2_no, Cond.instanceMethod yX2_no, Cond.selects RX2 yX2_no yX2_no, Cond.code yX2_no cX2_no 2 (some .int), Cond.methodLink RX2 106 yX2_minutesOn, Cond.instanceMethod yX2_minutesOn, Cond.selects RX2 yX2_minutesOn yX2_minutesOn, Cond.code yX2_minutesOn cX2_minutesOn 3 none, Cond.methodLink RX2 83 yX2_minuteOn, Cond.instanceMethod yX2_minuteOn, Cond.selects RX2 yX2_minuteOn yX2_minuteOn, Cond.code yX2_minuteOn cX2_minuteOn 2 none, Cond.fieldLink RX2 36 "GoatTowerModel" "goats" "I", Cond.fieldLink RX2 29 "GoatTowerModel" "gates" "I", Cond.methodLink RX2 73 yX2_stay, Cond.instanceMethod yX2_stay, Cond.selects RX2 yX2_stay yX2_stay, Cond.code yX2_stay cX2_stay 2 none]
def wsX2_pass_r2 : List Cond := [Cond.methodLink RX2 49 yX2_is, Cond.instanceMethod yX2_is, Cond.selects RX2 yX2_is yX2_is, Cond.code yX2_is cX2_is 3 (some .boolean), Cond.methodLink RX2 45 yX2_of, Cond.instanceMethod yX2_of, Cond.selects RX2 yX2_of yX2_of, Cond.code yX2_of cX2_of 3 (some .int), Cond.methodLink RX2 66 yX2_let, Cond.instanceMethod yX2_let, Cond.selects RX2 yX2_let yX2_let, Cond.code yX2_let cX2_let 4 none, Cond.methodLink RX2 77 yX2_open, Cond.instanceMethod yX2_open, Cond.selects RX2 yX2_open yX2_open, Cond.code yX2_open cX2_open 3 none, Cond.methodLink RX2 70 yX2_next, Cond.instanceMethod yX2_next, Cond.selects RX2 yX2_next yX2_next, Cond.code yX2_next cX2_next 5 (some .int), Cond.fieldLink RX2 13 "GoatTowerModel" "order" "[I", Cond.methodLink RX2 56 yX2_free, Cond.instanceMethod yX2_free, Cond.selects RX2 yX2_free yX2_free]
def wsX2_pass_r3 : List Cond := [Cond.code yX2_free cX2_free 4 (some .int), Cond.fieldLink RX2 9 "GoatTowerModel" "permits" "[I", Cond.methodLink RX2 60 yX2_firstAt, Cond.instanceMethod yX2_firstAt, Cond.selects RX2 yX2_firstAt yX2_firstAt, Cond.code yX2_firstAt cX2_firstAt 4 (some .int), Cond.methodLink RX2 53 yX2_isAt, Cond.instanceMethod yX2_isAt, Cond.selects RX2 yX2_isAt yX2_isAt, Cond.code yX2_isAt cX2_isAt 3 (some .boolean), Cond.methodLink RX2 63 yX2_seem, Cond.instanceMethod yX2_seem, Cond.selects RX2 yX2_seem yX2_seem, Cond.code yX2_seem cX2_seem 2 (some .int), Cond.fieldLink RX2 16 "GoatTowerModel" "horns" "[I", Cond.methodLink RX2 80 yX2_waitOn, Cond.instanceMethod yX2_waitOn, Cond.selects RX2 yX2_waitOn yX2_waitOn, Cond.code yX2_waitOn cX2_waitOn 2 none]
def wsX2_pass : List Cond := .code yX2_pass cX2_pass 3 (some .int) :: ((wsX2_pass_r1 ++ (wsX2_pass_r2 ++ wsX2_pass_r3)) ++ wsX20)
def wsX2_minute : List Cond := .code yX2_minute cX2_minute 1 (some .int) :: ([.fieldLink RX2 19 "GoatTowerModel" "now" "[I", .methodLink RX2 109 yX2_ok, .instanceMethod yX2_ok, .selects RX2 yX2_ok yX2_ok, .initialized RX2, .code yX2_ok cX2_ok 2 (some .int), .fieldLink RX2 25 "GoatTowerModel" "thrown" "I"] ++ wsX20)
def wsX2_gates : List Cond := .code yX2_gates cX2_gates 1 (some .int) :: ([.fieldLink RX2 29 "GoatTowerModel" "gates" "I", .methodLink RX2 109 yX2_ok, .instanceMethod yX2_ok, .selects RX2 yX2_ok yX2_ok, .initialized RX2, .code yX2_ok cX2_ok 2 (some .int), .fieldLink RX2 25 "GoatTowerModel" "thrown" "I"] ++ wsX20)
def wsX2_goats : List Cond := .code yX2_goats cX2_goats 1 (some .int) :: ([.fieldLink RX2 36 "GoatTowerModel" "goats" "I", .methodLink RX2 109 yX2_ok, .instanceMethod yX2_ok, .selects RX2 yX2_ok yX2_ok, .initialized RX2, .code yX2_ok cX2_ok 2 (some .int), .fieldLink RX2 25 "GoatTowerModel" "thrown" "I"] ++ wsX20)
def wsX2_waiting : List Cond := .code yX2_waiting cX2_waiting 1 (some .int) :: ([.methodLink RX2 112 yX2_many, .instanceMethod yX2_many, .selects RX2 yX2_many yX2_many, .initialized RX2, .code yX2_many cX2_many 4 (some .int), .fieldLink RX2 36 "GoatTowerModel" "goats" "I", .methodLink RX2 49 yX2_is, .instanceMethod yX2_is, .selects RX2 yX2_is yX2_is, .code yX2_is cX2_is 3 (some .boolean), .methodLink RX2 45 yX2_of, .instanceMethod yX2_of, .selects RX2 yX2_of yX2_of, .code yX2_of cX2_of 3 (some .int), .fieldLink RX2 19 "GoatTowerModel" "now" "[I", .methodLink RX2 109 yX2_ok, .instanceMethod yX2_ok, .selects RX2 yX2_ok yX2_ok, .code yX2_ok cX2_ok 2 (some .int), .fieldLink RX2 25 "GoatTowerModel" "thrown" "I"] ++ wsX20)
def wsX2_inside : List Cond := .code yX2_inside cX2_inside 1 (some .int) :: ([.methodLink RX2 112 yX2_many, .instanceMethod yX2_many, .selects RX2 yX2_many yX2_many, .initialized RX2, .code yX2_many cX2_many 4 (some .int), .fieldLink RX2 36 "GoatTowerModel" "goats" "I", .methodLink RX2 49 yX2_is, .instanceMethod yX2_is, .selects RX2 yX2_is yX2_is, .code yX2_is cX2_is 3 (some .boolean), .methodLink RX2 45 yX2_of, .instanceMethod yX2_of, .selects RX2 yX2_of yX2_of, .code yX2_of cX2_of 3 (some .int), .fieldLink RX2 19 "GoatTowerModel" "now" "[I", .methodLink RX2 109 yX2_ok, .instanceMethod yX2_ok, .selects RX2 yX2_ok yX2_ok, .code yX2_ok cX2_ok 2 (some .int), .fieldLink RX2 25 "GoatTowerModel" "thrown" "I"] ++ wsX20)
def wsX2_starved : List Cond := .code yX2_starved cX2_starved 3 (some .int) :: ([.fieldLink RX2 36 "GoatTowerModel" "goats" "I", .methodLink RX2 49 yX2_is, .instanceMethod yX2_is, .selects RX2 yX2_is yX2_is, .initialized RX2, .code yX2_is cX2_is 3 (some .boolean), .methodLink RX2 45 yX2_of, .instanceMethod yX2_of, .selects RX2 yX2_of yX2_of, .code yX2_of cX2_of 3 (some .int), .fieldLink RX2 19 "GoatTowerModel" "now" "[I"] ++ wsX20)
def wsX2_starving : List Cond := .code yX2_starving cX2_starving 1 (some .int) :: ([.methodLink RX2 115 yX2_starved, .instanceMethod yX2_starved, .selects RX2 yX2_starved yX2_starved, .initialized RX2, .code yX2_starved cX2_starved 3 (some .int), .fieldLink RX2 36 "GoatTowerModel" "goats" "I", .methodLink RX2 49 yX2_is, .instanceMethod yX2_is, .selects RX2 yX2_is yX2_is, .code yX2_is cX2_is 3 (some .boolean), .methodLink RX2 45 yX2_of, .instanceMethod yX2_of, .selects RX2 yX2_of yX2_of, .code yX2_of cX2_of 3 (some .int), .fieldLink RX2 19 "GoatTowerModel" "now" "[I", .methodLink RX2 109 yX2_ok, .instanceMethod yX2_ok, .selects RX2 yX2_ok yX2_ok, .code yX2_ok cX2_ok 2 (some .int), .fieldLink RX2 25 "GoatTowerModel" "thrown" "I"] ++ wsX20)
def wsX2_letIn : List Cond := .code yX2_letIn cX2_letIn 1 (some .int) :: ([.fieldLink RX2 19 "GoatTowerModel" "now" "[I", .methodLink RX2 109 yX2_ok, .instanceMethod yX2_ok, .selects RX2 yX2_ok yX2_ok, .initialized RX2, .code yX2_ok cX2_ok 2 (some .int), .fieldLink RX2 25 "GoatTowerModel" "thrown" "I"] ++ wsX20)
def wsX2_givenUp : List Cond := .code yX2_givenUp cX2_givenUp 1 (some .int) :: ([.fieldLink RX2 19 "GoatTowerModel" "now" "[I", .methodLink RX2 109 yX2_ok, .instanceMethod yX2_ok, .selects RX2 yX2_ok yX2_ok, .initialized RX2, .code yX2_ok cX2_ok 2 (some .int), .fieldLink RX2 25 "GoatTowerModel" "thrown" "I"] ++ wsX20)
def wsX2_permitsOf : List Cond := .code yX2_permitsOf cX2_permitsOf 2 (some .int) :: ([.fieldLink RX2 25 "GoatTowerModel" "thrown" "I", .fieldLink RX2 9 "GoatTowerModel" "permits" "[I", .methodLink RX2 93 yX2_isGate, .instanceMethod yX2_isGate, .selects RX2 yX2_isGate yX2_isGate, .initialized RX2, .code yX2_isGate cX2_isGate 2 (some .boolean), .fieldLink RX2 29 "GoatTowerModel" "gates" "I", .methodLink RX2 32 yX2_isIn, .static yX2_isIn, .code yX2_isIn cX2_isIn 3 (some .boolean), .methodLink RX2 86 yX2_no, .instanceMethod yX2_no, .selects RX2 yX2_no yX2_no, .code yX2_no cX2_no 2 (some .int)] ++ wsX20)
def wsX2_freeOf_r1 : List Cond := [Cond.fieldLink RX2 25 "GoatTowerModel" "thrown" "I", Cond.methodLink RX2 93 yX2_isGate, Cond.instanceMethod yX2_isGate, Cond.selects RX2 yX2_isGate yX2_isGate, Cond.initialized RX2, Cond.code yX2_isGate cX2_isGate 2 (some .boolean), Cond.fieldLink RX2 29 "GoatTowerModel" "gates" "I", Cond.methodLink RX2 32 yX2_isIn, Cond.static yX2_isIn, Cond.code yX2_isIn cX2_isIn 3 (some .boolean), Cond.methodLink RX2 56 yX2_free, Cond.instanceMethod yX2_free, Cond.selects RX2 yX2_free yX2_free, Cond.code yX2_free cX2_free 4 (some .int), Cond.fieldLink RX2 9 "GoatTowerModel" "permits" "[I", Cond.fieldLink RX2 36 "GoatTowerModel" "goats" "I", Cond.methodLink RX2 49 yX2_is, Cond.instanceMethod yX2_is, Cond.selects RX2 yX2_is yX2_is, Cond.code yX2_is cX2_is 3 (some .boolean), Cond.methodLink RX2 45 yX2_of, Cond.instanceMethod yX2_of, Cond.selects RX2 yX2_of yX2_of, Cond.code yX2_of cX2_of 3 (some .int)]
def wsX2_freeOf_r2 : List Cond := [Cond.fieldLink RX2 19 "GoatTowerModel" "now" "[I", Cond.methodLink RX2 86 yX2_no, Cond.instanceMethod yX2_no, Cond.selects RX2 yX2_no yX2_no, Cond.code yX2_no cX2_no 2 (some .int)]
def wsX2_freeOf : List Cond := .code yX2_freeOf cX2_freeOf 2 (some .int) :: ((wsX2_freeOf_r1 ++ wsX2_freeOf_r2) ++ wsX20)
def wsX2_waitingAt_r1 : List Cond := [Cond.fieldLink RX2 25 "GoatTowerModel" "thrown" "I", Cond.methodLink RX2 93 yX2_isGate, Cond.instanceMethod yX2_isGate, Cond.selects RX2 yX2_isGate yX2_isGate, Cond.initialized RX2, Cond.code yX2_isGate cX2_isGate 2 (some .boolean), Cond.fieldLink RX2 29 "GoatTowerModel" "gates" "I", Cond.methodLink RX2 32 yX2_isIn, Cond.static yX2_isIn, Cond.code yX2_isIn cX2_isIn 3 (some .boolean), Cond.methodLink RX2 100 yX2_manyAt, Cond.instanceMethod yX2_manyAt, Cond.selects RX2 yX2_manyAt yX2_manyAt, Cond.code yX2_manyAt cX2_manyAt 4 (some .int), Cond.fieldLink RX2 36 "GoatTowerModel" "goats" "I", Cond.methodLink RX2 53 yX2_isAt, Cond.instanceMethod yX2_isAt, Cond.selects RX2 yX2_isAt yX2_isAt, Cond.code yX2_isAt cX2_isAt 3 (some .boolean), Cond.methodLink RX2 49 yX2_is, Cond.instanceMethod yX2_is, Cond.selects RX2 yX2_is yX2_is, Cond.code yX2_is cX2_is 3 (some .boolean), Cond.methodLink RX2 45 yX2_of]
def wsX2_waitingAt_r2 : List Cond := [Cond.instanceMethod yX2_of, Cond.selects RX2 yX2_of yX2_of, Cond.code yX2_of cX2_of 3 (some .int), Cond.fieldLink RX2 19 "GoatTowerModel" "now" "[I", Cond.methodLink RX2 86 yX2_no, Cond.instanceMethod yX2_no, Cond.selects RX2 yX2_no yX2_no, Cond.code yX2_no cX2_no 2 (some .int)]
def wsX2_waitingAt : List Cond := .code yX2_waitingAt cX2_waitingAt 2 (some .int) :: ((wsX2_waitingAt_r1 ++ wsX2_waitingAt_r2) ++ wsX20)
def wsX2_nextAt_r1 : List Cond := [Cond.fieldLink RX2 25 "GoatTowerModel" "thrown" "I", Cond.methodLink RX2 93 yX2_isGate, Cond.instanceMethod yX2_isGate, Cond.selects RX2 yX2_isGate yX2_isGate, Cond.initialized RX2, Cond.code yX2_isGate cX2_isGate 2 (some .boolean), Cond.fieldLink RX2 29 "GoatTowerModel" "gates" "I", Cond.methodLink RX2 32 yX2_isIn, Cond.static yX2_isIn, Cond.code yX2_isIn cX2_isIn 3 (some .boolean), Cond.methodLink RX2 70 yX2_next, Cond.instanceMethod yX2_next, Cond.selects RX2 yX2_next yX2_next, Cond.code yX2_next cX2_next 5 (some .int), Cond.fieldLink RX2 13 "GoatTowerModel" "order" "[I", Cond.fieldLink RX2 36 "GoatTowerModel" "goats" "I", Cond.methodLink RX2 56 yX2_free, Cond.instanceMethod yX2_free, Cond.selects RX2 yX2_free yX2_free, Cond.code yX2_free cX2_free 4 (some .int), Cond.fieldLink RX2 9 "GoatTowerModel" "permits" "[I", Cond.methodLink RX2 49 yX2_is, Cond.instanceMethod yX2_is, Cond.selects RX2 yX2_is yX2_is]
def wsX2_nextAt_r2 : List Cond := [Cond.code yX2_is cX2_is 3 (some .boolean), Cond.methodLink RX2 45 yX2_of, Cond.instanceMethod yX2_of, Cond.selects RX2 yX2_of yX2_of, Cond.code yX2_of cX2_of 3 (some .int), Cond.fieldLink RX2 19 "GoatTowerModel" "now" "[I", Cond.methodLink RX2 60 yX2_firstAt, Cond.instanceMethod yX2_firstAt, Cond.selects RX2 yX2_firstAt yX2_firstAt, Cond.code yX2_firstAt cX2_firstAt 4 (some .int), Cond.methodLink RX2 53 yX2_isAt, Cond.instanceMethod yX2_isAt, Cond.selects RX2 yX2_isAt yX2_isAt, Cond.code yX2_isAt cX2_isAt 3 (some .boolean), Cond.methodLink RX2 63 yX2_seem, Cond.instanceMethod yX2_seem, Cond.selects RX2 yX2_seem yX2_seem, Cond.code yX2_seem cX2_seem 2 (some .int), Cond.fieldLink RX2 16 "GoatTowerModel" "horns" "[I", Cond.methodLink RX2 86 yX2_no, Cond.instanceMethod yX2_no, Cond.selects RX2 yX2_no yX2_no, Cond.code yX2_no cX2_no 2 (some .int)]
def wsX2_nextAt : List Cond := .code yX2_nextAt cX2_nextAt 2 (some .int) :: ((wsX2_nextAt_r1 ++ wsX2_nextAt_r2) ++ wsX20)
def wsX2_stateOf : List Cond := .code yX2_stateOf cX2_stateOf 2 (some .int) :: ([.fieldLink RX2 25 "GoatTowerModel" "thrown" "I", .methodLink RX2 89 yX2_isGoat, .instanceMethod yX2_isGoat, .selects RX2 yX2_isGoat yX2_isGoat, .initialized RX2, .code yX2_isGoat cX2_isGoat 2 (some .boolean), .fieldLink RX2 36 "GoatTowerModel" "goats" "I", .methodLink RX2 32 yX2_isIn, .static yX2_isIn, .code yX2_isIn cX2_isIn 3 (some .boolean), .methodLink RX2 45 yX2_of, .instanceMethod yX2_of, .selects RX2 yX2_of yX2_of, .code yX2_of cX2_of 3 (some .int), .fieldLink RX2 19 "GoatTowerModel" "now" "[I", .methodLink RX2 86 yX2_no, .instanceMethod yX2_no, .selects RX2 yX2_no yX2_no, .code yX2_no cX2_no 2 (some .int)] ++ wsX20)
def wsX2_where : List Cond := .code yX2_where cX2_where 2 (some .int) :: ([.methodLink RX2 49 yX2_is, .instanceMethod yX2_is, .selects RX2 yX2_is yX2_is, .initialized RX2, .code yX2_is cX2_is 3 (some .boolean), .methodLink RX2 45 yX2_of, .instanceMethod yX2_of, .selects RX2 yX2_of yX2_of, .code yX2_of cX2_of 3 (some .int), .fieldLink RX2 19 "GoatTowerModel" "now" "[I"] ++ wsX20)
def wsX2_gateOf_r1 : List Cond := [Cond.fieldLink RX2 25 "GoatTowerModel" "thrown" "I", Cond.methodLink RX2 89 yX2_isGoat, Cond.instanceMethod yX2_isGoat, Cond.selects RX2 yX2_isGoat yX2_isGoat, Cond.initialized RX2, Cond.code yX2_isGoat cX2_isGoat 2 (some .boolean), Cond.fieldLink RX2 36 "GoatTowerModel" "goats" "I", Cond.methodLink RX2 32 yX2_isIn, Cond.static yX2_isIn, Cond.code yX2_isIn cX2_isIn 3 (some .boolean), Cond.methodLink RX2 119 yX2_where, Cond.instanceMethod yX2_where, Cond.selects RX2 yX2_where yX2_where, Cond.code yX2_where cX2_where 2 (some .int), Cond.methodLink RX2 49 yX2_is, Cond.instanceMethod yX2_is, Cond.selects RX2 yX2_is yX2_is, Cond.code yX2_is cX2_is 3 (some .boolean), Cond.methodLink RX2 45 yX2_of, Cond.instanceMethod yX2_of, Cond.selects RX2 yX2_of yX2_of, Cond.code yX2_of cX2_of 3 (some .int), Cond.fieldLink RX2 19 "GoatTowerModel" "now" "[I", Cond.methodLink RX2 86 yX2_no]
def wsX2_gateOf_r2 : List Cond := [Cond.instanceMethod yX2_no, Cond.selects RX2 yX2_no yX2_no, Cond.code yX2_no cX2_no 2 (some .int)]
def wsX2_gateOf : List Cond := .code yX2_gateOf cX2_gateOf 2 (some .int) :: ((wsX2_gateOf_r1 ++ wsX2_gateOf_r2) ++ wsX20)
def wsX2_holds_r1 : List Cond := [Cond.fieldLink RX2 25 "GoatTowerModel" "thrown" "I", Cond.methodLink RX2 89 yX2_isGoat, Cond.instanceMethod yX2_isGoat, Cond.selects RX2 yX2_isGoat yX2_isGoat, Cond.initialized RX2, Cond.code yX2_isGoat cX2_isGoat 2 (some .boolean), Cond.fieldLink RX2 36 "GoatTowerModel" "goats" "I", Cond.methodLink RX2 32 yX2_isIn, Cond.static yX2_isIn, Cond.code yX2_isIn cX2_isIn 3 (some .boolean), Cond.methodLink RX2 103 yX2_held, Cond.instanceMethod yX2_held, Cond.selects RX2 yX2_held yX2_held, Cond.code yX2_held cX2_held 2 (some .int), Cond.methodLink RX2 49 yX2_is, Cond.instanceMethod yX2_is, Cond.selects RX2 yX2_is yX2_is, Cond.code yX2_is cX2_is 3 (some .boolean), Cond.methodLink RX2 45 yX2_of, Cond.instanceMethod yX2_of, Cond.selects RX2 yX2_of yX2_of, Cond.code yX2_of cX2_of 3 (some .int), Cond.fieldLink RX2 19 "GoatTowerModel" "now" "[I", Cond.methodLink RX2 86 yX2_no]
def wsX2_holds_r2 : List Cond := [Cond.instanceMethod yX2_no, Cond.selects RX2 yX2_no yX2_no, Cond.code yX2_no cX2_no 2 (some .int)]
def wsX2_holds : List Cond := .code yX2_holds cX2_holds 2 (some .int) :: ((wsX2_holds_r1 ++ wsX2_holds_r2) ++ wsX20)
def wsX2_seemingHorns_r1 : List Cond := [Cond.fieldLink RX2 25 "GoatTowerModel" "thrown" "I", Cond.methodLink RX2 89 yX2_isGoat, Cond.instanceMethod yX2_isGoat, Cond.selects RX2 yX2_isGoat yX2_isGoat, Cond.initialized RX2, Cond.code yX2_isGoat cX2_isGoat 2 (some .boolean), Cond.fieldLink RX2 36 "GoatTowerModel" "goats" "I", Cond.methodLink RX2 32 yX2_isIn, Cond.static yX2_isIn, Cond.code yX2_isIn cX2_isIn 3 (some .boolean), Cond.methodLink RX2 63 yX2_seem, Cond.instanceMethod yX2_seem, Cond.selects RX2 yX2_seem yX2_seem, Cond.code yX2_seem cX2_seem 2 (some .int), Cond.fieldLink RX2 16 "GoatTowerModel" "horns" "[I", Cond.methodLink RX2 49 yX2_is, Cond.instanceMethod yX2_is, Cond.selects RX2 yX2_is yX2_is, Cond.code yX2_is cX2_is 3 (some .boolean), Cond.methodLink RX2 45 yX2_of, Cond.instanceMethod yX2_of, Cond.selects RX2 yX2_of yX2_of, Cond.code yX2_of cX2_of 3 (some .int), Cond.fieldLink RX2 19 "GoatTowerModel" "now" "[I"]
def wsX2_seemingHorns_r2 : List Cond := [Cond.methodLink RX2 86 yX2_no, Cond.instanceMethod yX2_no, Cond.selects RX2 yX2_no yX2_no, Cond.code yX2_no cX2_no 2 (some .int)]
def wsX2_seemingHorns : List Cond := .code yX2_seemingHorns cX2_seemingHorns 2 (some .int) :: ((wsX2_seemingHorns_r1 ++ wsX2_seemingHorns_r2) ++ wsX20)
def wsX2_left : List Cond := .code yX2_left cX2_left 2 (some .int) :: ([.methodLink RX2 49 yX2_is, .instanceMethod yX2_is, .selects RX2 yX2_is yX2_is, .initialized RX2, .code yX2_is cX2_is 3 (some .boolean), .methodLink RX2 45 yX2_of, .instanceMethod yX2_of, .selects RX2 yX2_of yX2_of, .code yX2_of cX2_of 3 (some .int), .fieldLink RX2 19 "GoatTowerModel" "now" "[I"] ++ wsX20)
def wsX2_minutesLeft_r1 : List Cond := [Cond.fieldLink RX2 25 "GoatTowerModel" "thrown" "I", Cond.methodLink RX2 89 yX2_isGoat, Cond.instanceMethod yX2_isGoat, Cond.selects RX2 yX2_isGoat yX2_isGoat, Cond.initialized RX2, Cond.code yX2_isGoat cX2_isGoat 2 (some .boolean), Cond.fieldLink RX2 36 "GoatTowerModel" "goats" "I", Cond.methodLink RX2 32 yX2_isIn, Cond.static yX2_isIn, Cond.code yX2_isIn cX2_isIn 3 (some .boolean), Cond.methodLink RX2 122 yX2_left, Cond.instanceMethod yX2_left, Cond.selects RX2 yX2_left yX2_left, Cond.code yX2_left cX2_left 2 (some .int), Cond.methodLink RX2 49 yX2_is, Cond.instanceMethod yX2_is, Cond.selects RX2 yX2_is yX2_is, Cond.code yX2_is cX2_is 3 (some .boolean), Cond.methodLink RX2 45 yX2_of, Cond.instanceMethod yX2_of, Cond.selects RX2 yX2_of yX2_of, Cond.code yX2_of cX2_of 3 (some .int), Cond.fieldLink RX2 19 "GoatTowerModel" "now" "[I", Cond.methodLink RX2 86 yX2_no]
def wsX2_minutesLeft_r2 : List Cond := [Cond.instanceMethod yX2_no, Cond.selects RX2 yX2_no yX2_no, Cond.code yX2_no cX2_no 2 (some .int)]
def wsX2_minutesLeft : List Cond := .code yX2_minutesLeft cX2_minutesLeft 2 (some .int) :: ((wsX2_minutesLeft_r1 ++ wsX2_minutesLeft_r2) ++ wsX20)
def wsX2_waitedOf : List Cond := .code yX2_waitedOf cX2_waitedOf 2 (some .int) :: ([.fieldLink RX2 25 "GoatTowerModel" "thrown" "I", .methodLink RX2 89 yX2_isGoat, .instanceMethod yX2_isGoat, .selects RX2 yX2_isGoat yX2_isGoat, .initialized RX2, .code yX2_isGoat cX2_isGoat 2 (some .boolean), .fieldLink RX2 36 "GoatTowerModel" "goats" "I", .methodLink RX2 32 yX2_isIn, .static yX2_isIn, .code yX2_isIn cX2_isIn 3 (some .boolean), .methodLink RX2 45 yX2_of, .instanceMethod yX2_of, .selects RX2 yX2_of yX2_of, .code yX2_of cX2_of 3 (some .int), .fieldLink RX2 19 "GoatTowerModel" "now" "[I", .methodLink RX2 86 yX2_no, .instanceMethod yX2_no, .selects RX2 yX2_no yX2_no, .code yX2_no cX2_no 2 (some .int)] ++ wsX20)
def wsX2_place : List Cond := .code yX2_place cX2_place 4 (some .int) :: ([.fieldLink RX2 36 "GoatTowerModel" "goats" "I", .methodLink RX2 49 yX2_is, .instanceMethod yX2_is, .selects RX2 yX2_is yX2_is, .initialized RX2, .code yX2_is cX2_is 3 (some .boolean), .methodLink RX2 45 yX2_of, .instanceMethod yX2_of, .selects RX2 yX2_of yX2_of, .code yX2_of cX2_of 3 (some .int), .fieldLink RX2 19 "GoatTowerModel" "now" "[I", .methodLink RX2 53 yX2_isAt, .instanceMethod yX2_isAt, .selects RX2 yX2_isAt yX2_isAt, .code yX2_isAt cX2_isAt 3 (some .boolean)] ++ wsX20)
def wsX2_placeInLine_r1 : List Cond := [Cond.fieldLink RX2 25 "GoatTowerModel" "thrown" "I", Cond.methodLink RX2 89 yX2_isGoat, Cond.instanceMethod yX2_isGoat, Cond.selects RX2 yX2_isGoat yX2_isGoat, Cond.initialized RX2, Cond.code yX2_isGoat cX2_isGoat 2 (some .boolean), Cond.fieldLink RX2 36 "GoatTowerModel" "goats" "I", Cond.methodLink RX2 32 yX2_isIn, Cond.static yX2_isIn, Cond.code yX2_isIn cX2_isIn 3 (some .boolean), Cond.methodLink RX2 125 yX2_place, Cond.instanceMethod yX2_place, Cond.selects RX2 yX2_place yX2_place, Cond.code yX2_place cX2_place 4 (some .int), Cond.methodLink RX2 49 yX2_is, Cond.instanceMethod yX2_is, Cond.selects RX2 yX2_is yX2_is, Cond.code yX2_is cX2_is 3 (some .boolean), Cond.methodLink RX2 45 yX2_of, Cond.instanceMethod yX2_of, Cond.selects RX2 yX2_of yX2_of, Cond.code yX2_of cX2_of 3 (some .int), Cond.fieldLink RX2 19 "GoatTowerModel" "now" "[I", Cond.methodLink RX2 53 yX2_isAt]
def wsX2_placeInLine_r2 : List Cond := [Cond.instanceMethod yX2_isAt, Cond.selects RX2 yX2_isAt yX2_isAt, Cond.code yX2_isAt cX2_isAt 3 (some .boolean), Cond.methodLink RX2 86 yX2_no, Cond.instanceMethod yX2_no, Cond.selects RX2 yX2_no yX2_no, Cond.code yX2_no cX2_no 2 (some .int)]
def wsX2_placeInLine : List Cond := .code yX2_placeInLine cX2_placeInLine 2 (some .int) :: ((wsX2_placeInLine_r1 ++ wsX2_placeInLine_r2) ++ wsX20)
def wsX2_until_r1 : List Cond := [Cond.methodLink RX2 49 yX2_is, Cond.instanceMethod yX2_is, Cond.selects RX2 yX2_is yX2_is, Cond.initialized RX2, Cond.code yX2_is cX2_is 3 (some .boolean), Cond.methodLink RX2 45 yX2_of, Cond.instanceMethod yX2_of, Cond.selects RX2 yX2_of yX2_of, Cond.code yX2_of cX2_of 3 (some .int), Cond.fieldLink RX2 19 "GoatTowerModel" "now" "[I", Cond.methodLink RX2 128 yX2_keep, Cond.instanceMethod yX2_keep, Cond.selects RX2 yX2_keep yX2_keep, Cond.code yX2_keep cX2_keep 1 none, Cond.fieldLink RX2 22 "GoatTowerModel" "kept" "[I", Cond.methodLink RX2 39 arraycopyName, Cond.native arraycopyName, Cond.static arraycopyName, Cond.initialized "java/lang/System", Cond.methodLink RX2 83 yX2_minuteOn, Cond.instanceMethod yX2_minuteOn, Cond.selects RX2 yX2_minuteOn yX2_minuteOn, Cond.code yX2_minuteOn cX2_minuteOn 2 none, Cond.fieldLink RX2 36 "GoatTowerModel" "goats" "I"]
def wsX2_until_r2 : List Cond := [Cond.fieldLink RX2 29 "GoatTowerModel" "gates" "I", Cond.methodLink RX2 73 yX2_stay, Cond.instanceMethod yX2_stay, Cond.selects RX2 yX2_stay yX2_stay, Cond.code yX2_stay cX2_stay 2 none, Cond.methodLink RX2 66 yX2_let, Cond.instanceMethod yX2_let, Cond.selects RX2 yX2_let yX2_let, Cond.code yX2_let cX2_let 4 none, Cond.methodLink RX2 77 yX2_open, Cond.instanceMethod yX2_open, Cond.selects RX2 yX2_open yX2_open, Cond.code yX2_open cX2_open 3 none, Cond.methodLink RX2 70 yX2_next, Cond.instanceMethod yX2_next, Cond.selects RX2 yX2_next yX2_next, Cond.code yX2_next cX2_next 5 (some .int), Cond.fieldLink RX2 13 "GoatTowerModel" "order" "[I", Cond.methodLink RX2 56 yX2_free, Cond.instanceMethod yX2_free, Cond.selects RX2 yX2_free yX2_free, Cond.code yX2_free cX2_free 4 (some .int), Cond.fieldLink RX2 9 "GoatTowerModel" "permits" "[I", Cond.methodLink RX2 60 yX2_firstAt]
def wsX2_until_r3 : List Cond := [Cond.instanceMethod yX2_firstAt, Cond.selects RX2 yX2_firstAt yX2_firstAt, Cond.code yX2_firstAt cX2_firstAt 4 (some .int), Cond.methodLink RX2 53 yX2_isAt, Cond.instanceMethod yX2_isAt, Cond.selects RX2 yX2_isAt yX2_isAt, Cond.code yX2_isAt cX2_isAt 3 (some .boolean), Cond.methodLink RX2 63 yX2_seem, Cond.instanceMethod yX2_seem, Cond.selects RX2 yX2_seem yX2_seem, Cond.code yX2_seem cX2_seem 2 (some .int), Cond.fieldLink RX2 16 "GoatTowerModel" "horns" "[I", Cond.methodLink RX2 80 yX2_waitOn, Cond.instanceMethod yX2_waitOn, Cond.selects RX2 yX2_waitOn yX2_waitOn, Cond.code yX2_waitOn cX2_waitOn 2 none, Cond.methodLink RX2 131 yX2_bringBack, Cond.instanceMethod yX2_bringBack, Cond.selects RX2 yX2_bringBack yX2_bringBack, Cond.code yX2_bringBack cX2_bringBack 1 none]
def wsX2_until : List Cond := .code yX2_until cX2_until 4 (some .int) :: ((wsX2_until_r1 ++ (wsX2_until_r2 ++ wsX2_until_r3)) ++ wsX20)
def wsX2_minutesUntilIn_r1 : List Cond := [Cond.fieldLink RX2 25 "GoatTowerModel" "thrown" "I", Cond.methodLink RX2 89 yX2_isGoat, Cond.instanceMethod yX2_isGoat, Cond.selects RX2 yX2_isGoat yX2_isGoat, Cond.initialized RX2, Cond.code yX2_isGoat cX2_isGoat 2 (some .boolean), Cond.fieldLink RX2 36 "GoatTowerModel" "goats" "I", Cond.methodLink RX2 32 yX2_isIn, Cond.static yX2_isIn, Cond.code yX2_isIn cX2_isIn 3 (some .boolean), Cond.methodLink RX2 134 yX2_until, Cond.instanceMethod yX2_until, Cond.selects RX2 yX2_until yX2_until, Cond.code yX2_until cX2_until 4 (some .int), Cond.methodLink RX2 49 yX2_is, Cond.instanceMethod yX2_is, Cond.selects RX2 yX2_is yX2_is, Cond.code yX2_is cX2_is 3 (some .boolean), Cond.methodLink RX2 45 yX2_of, Cond.instanceMethod yX2_of, Cond.selects RX2 yX2_of yX2_of, Cond.code yX2_of cX2_of 3 (some .int), Cond.fieldLink RX2 19 "GoatTowerModel" "now" "[I", Cond.methodLink RX2 128 yX2_keep]
def wsX2_minutesUntilIn_r2 : List Cond := [Cond.instanceMethod yX2_keep, Cond.selects RX2 yX2_keep yX2_keep, Cond.code yX2_keep cX2_keep 1 none, Cond.fieldLink RX2 22 "GoatTowerModel" "kept" "[I", Cond.methodLink RX2 39 arraycopyName, Cond.native arraycopyName, Cond.static arraycopyName, Cond.initialized "java/lang/System", Cond.methodLink RX2 83 yX2_minuteOn, Cond.instanceMethod yX2_minuteOn, Cond.selects RX2 yX2_minuteOn yX2_minuteOn, Cond.code yX2_minuteOn cX2_minuteOn 2 none, Cond.fieldLink RX2 29 "GoatTowerModel" "gates" "I", Cond.methodLink RX2 73 yX2_stay, Cond.instanceMethod yX2_stay, Cond.selects RX2 yX2_stay yX2_stay, Cond.code yX2_stay cX2_stay 2 none, Cond.methodLink RX2 66 yX2_let, Cond.instanceMethod yX2_let, Cond.selects RX2 yX2_let yX2_let, Cond.code yX2_let cX2_let 4 none, Cond.methodLink RX2 77 yX2_open, Cond.instanceMethod yX2_open, Cond.selects RX2 yX2_open yX2_open]
def wsX2_minutesUntilIn_r3 : List Cond := [Cond.code yX2_open cX2_open 3 none, Cond.methodLink RX2 70 yX2_next, Cond.instanceMethod yX2_next, Cond.selects RX2 yX2_next yX2_next, Cond.code yX2_next cX2_next 5 (some .int), Cond.fieldLink RX2 13 "GoatTowerModel" "order" "[I", Cond.methodLink RX2 56 yX2_free, Cond.instanceMethod yX2_free, Cond.selects RX2 yX2_free yX2_free, Cond.code yX2_free cX2_free 4 (some .int), Cond.fieldLink RX2 9 "GoatTowerModel" "permits" "[I", Cond.methodLink RX2 60 yX2_firstAt, Cond.instanceMethod yX2_firstAt, Cond.selects RX2 yX2_firstAt yX2_firstAt, Cond.code yX2_firstAt cX2_firstAt 4 (some .int), Cond.methodLink RX2 53 yX2_isAt, Cond.instanceMethod yX2_isAt, Cond.selects RX2 yX2_isAt yX2_isAt, Cond.code yX2_isAt cX2_isAt 3 (some .boolean), Cond.methodLink RX2 63 yX2_seem, Cond.instanceMethod yX2_seem, Cond.selects RX2 yX2_seem yX2_seem, Cond.code yX2_seem cX2_seem 2 (some .int), Cond.fieldLink RX2 16 "GoatTowerModel" "horns" "[I"]
def wsX2_minutesUntilIn_r4 : List Cond := [Cond.methodLink RX2 80 yX2_waitOn, Cond.instanceMethod yX2_waitOn, Cond.selects RX2 yX2_waitOn yX2_waitOn, Cond.code yX2_waitOn cX2_waitOn 2 none, Cond.methodLink RX2 131 yX2_bringBack, Cond.instanceMethod yX2_bringBack, Cond.selects RX2 yX2_bringBack yX2_bringBack, Cond.code yX2_bringBack cX2_bringBack 1 none, Cond.methodLink RX2 86 yX2_no, Cond.instanceMethod yX2_no, Cond.selects RX2 yX2_no yX2_no, Cond.code yX2_no cX2_no 2 (some .int)]
def wsX2_minutesUntilIn : List Cond := .code yX2_minutesUntilIn cX2_minutesUntilIn 2 (some .int) :: ((wsX2_minutesUntilIn_r1 ++ (wsX2_minutesUntilIn_r2 ++ (wsX2_minutesUntilIn_r3 ++ wsX2_minutesUntilIn_r4))) ++ wsX20)
def wsX2_givingUpIn_r1 : List Cond := [Cond.fieldLink RX2 25 "GoatTowerModel" "thrown" "I", Cond.fieldLink RX2 19 "GoatTowerModel" "now" "[I", Cond.fieldLink RX2 22 "GoatTowerModel" "kept" "[I", Cond.methodLink RX2 32 yX2_isIn, Cond.static yX2_isIn, Cond.initialized RX2, Cond.code yX2_isIn cX2_isIn 3 (some .boolean), Cond.methodLink RX2 86 yX2_no, Cond.instanceMethod yX2_no, Cond.selects RX2 yX2_no yX2_no, Cond.code yX2_no cX2_no 2 (some .int), Cond.methodLink RX2 128 yX2_keep, Cond.instanceMethod yX2_keep, Cond.selects RX2 yX2_keep yX2_keep, Cond.code yX2_keep cX2_keep 1 none, Cond.methodLink RX2 39 arraycopyName, Cond.native arraycopyName, Cond.static arraycopyName, Cond.initialized "java/lang/System", Cond.methodLink RX2 106 yX2_minutesOn, Cond.instanceMethod yX2_minutesOn, Cond.selects RX2 yX2_minutesOn yX2_minutesOn, Cond.code yX2_minutesOn cX2_minutesOn 3 none, Cond.methodLink RX2 83 yX2_minuteOn]
def wsX2_givingUpIn_r2 : List Cond := [Cond.instanceMethod yX2_minuteOn, Cond.selects RX2 yX2_minuteOn yX2_minuteOn, Cond.code yX2_minuteOn cX2_minuteOn 2 none, Cond.fieldLink RX2 36 "GoatTowerModel" "goats" "I", Cond.fieldLink RX2 29 "GoatTowerModel" "gates" "I", Cond.methodLink RX2 73 yX2_stay, Cond.instanceMethod yX2_stay, Cond.selects RX2 yX2_stay yX2_stay, Cond.code yX2_stay cX2_stay 2 none, Cond.methodLink RX2 49 yX2_is, Cond.instanceMethod yX2_is, Cond.selects RX2 yX2_is yX2_is, Cond.code yX2_is cX2_is 3 (some .boolean), Cond.methodLink RX2 45 yX2_of, Cond.instanceMethod yX2_of, Cond.selects RX2 yX2_of yX2_of, Cond.code yX2_of cX2_of 3 (some .int), Cond.methodLink RX2 66 yX2_let, Cond.instanceMethod yX2_let, Cond.selects RX2 yX2_let yX2_let, Cond.code yX2_let cX2_let 4 none, Cond.methodLink RX2 77 yX2_open, Cond.instanceMethod yX2_open, Cond.selects RX2 yX2_open yX2_open]
def wsX2_givingUpIn_r3 : List Cond := [Cond.code yX2_open cX2_open 3 none, Cond.methodLink RX2 70 yX2_next, Cond.instanceMethod yX2_next, Cond.selects RX2 yX2_next yX2_next, Cond.code yX2_next cX2_next 5 (some .int), Cond.fieldLink RX2 13 "GoatTowerModel" "order" "[I", Cond.methodLink RX2 56 yX2_free, Cond.instanceMethod yX2_free, Cond.selects RX2 yX2_free yX2_free, Cond.code yX2_free cX2_free 4 (some .int), Cond.fieldLink RX2 9 "GoatTowerModel" "permits" "[I", Cond.methodLink RX2 60 yX2_firstAt, Cond.instanceMethod yX2_firstAt, Cond.selects RX2 yX2_firstAt yX2_firstAt, Cond.code yX2_firstAt cX2_firstAt 4 (some .int), Cond.methodLink RX2 53 yX2_isAt, Cond.instanceMethod yX2_isAt, Cond.selects RX2 yX2_isAt yX2_isAt, Cond.code yX2_isAt cX2_isAt 3 (some .boolean), Cond.methodLink RX2 63 yX2_seem, Cond.instanceMethod yX2_seem, Cond.selects RX2 yX2_seem yX2_seem, Cond.code yX2_seem cX2_seem 2 (some .int), Cond.fieldLink RX2 16 "GoatTowerModel" "horns" "[I"]
def wsX2_givingUpIn_r4 : List Cond := [Cond.methodLink RX2 80 yX2_waitOn, Cond.instanceMethod yX2_waitOn, Cond.selects RX2 yX2_waitOn yX2_waitOn, Cond.code yX2_waitOn cX2_waitOn 2 none, Cond.methodLink RX2 131 yX2_bringBack, Cond.instanceMethod yX2_bringBack, Cond.selects RX2 yX2_bringBack yX2_bringBack, Cond.code yX2_bringBack cX2_bringBack 1 none]
def wsX2_givingUpIn : List Cond := .code yX2_givingUpIn cX2_givingUpIn 3 (some .int) :: ((wsX2_givingUpIn_r1 ++ (wsX2_givingUpIn_r2 ++ (wsX2_givingUpIn_r3 ++ wsX2_givingUpIn_r4))) ++ wsX20)
def wsX2_lost_r1 : List Cond := [Cond.fieldLink RX2 36 "GoatTowerModel" "goats" "I", Cond.methodLink RX2 53 yX2_isAt, Cond.instanceMethod yX2_isAt, Cond.selects RX2 yX2_isAt yX2_isAt, Cond.initialized RX2, Cond.code yX2_isAt cX2_isAt 3 (some .boolean), Cond.methodLink RX2 49 yX2_is, Cond.instanceMethod yX2_is, Cond.selects RX2 yX2_is yX2_is, Cond.code yX2_is cX2_is 3 (some .boolean), Cond.methodLink RX2 45 yX2_of, Cond.instanceMethod yX2_of, Cond.selects RX2 yX2_of yX2_of, Cond.code yX2_of cX2_of 3 (some .int), Cond.fieldLink RX2 19 "GoatTowerModel" "now" "[I", Cond.methodLink RX2 128 yX2_keep, Cond.instanceMethod yX2_keep, Cond.selects RX2 yX2_keep yX2_keep, Cond.code yX2_keep cX2_keep 1 none, Cond.fieldLink RX2 22 "GoatTowerModel" "kept" "[I", Cond.methodLink RX2 39 arraycopyName, Cond.native arraycopyName, Cond.static arraycopyName, Cond.initialized "java/lang/System"]
def wsX2_lost_r2 : List Cond := [Cond.methodLink RX2 83 yX2_minuteOn, Cond.instanceMethod yX2_minuteOn, Cond.selects RX2 yX2_minuteOn yX2_minuteOn, Cond.code yX2_minuteOn cX2_minuteOn 2 none, Cond.fieldLink RX2 29 "GoatTowerModel" "gates" "I", Cond.methodLink RX2 73 yX2_stay, Cond.instanceMethod yX2_stay, Cond.selects RX2 yX2_stay yX2_stay, Cond.code yX2_stay cX2_stay 2 none, Cond.methodLink RX2 66 yX2_let, Cond.instanceMethod yX2_let, Cond.selects RX2 yX2_let yX2_let, Cond.code yX2_let cX2_let 4 none, Cond.methodLink RX2 77 yX2_open, Cond.instanceMethod yX2_open, Cond.selects RX2 yX2_open yX2_open, Cond.code yX2_open cX2_open 3 none, Cond.methodLink RX2 70 yX2_next, Cond.instanceMethod yX2_next, Cond.selects RX2 yX2_next yX2_next, Cond.code yX2_next cX2_next 5 (some .int), Cond.fieldLink RX2 13 "GoatTowerModel" "order" "[I", Cond.methodLink RX2 56 yX2_free, Cond.instanceMethod yX2_free]
def wsX2_lost_r3 : List Cond := [Cond.selects RX2 yX2_free yX2_free, Cond.code yX2_free cX2_free 4 (some .int), Cond.fieldLink RX2 9 "GoatTowerModel" "permits" "[I", Cond.methodLink RX2 60 yX2_firstAt, Cond.instanceMethod yX2_firstAt, Cond.selects RX2 yX2_firstAt yX2_firstAt, Cond.code yX2_firstAt cX2_firstAt 4 (some .int), Cond.methodLink RX2 63 yX2_seem, Cond.instanceMethod yX2_seem, Cond.selects RX2 yX2_seem yX2_seem, Cond.code yX2_seem cX2_seem 2 (some .int), Cond.fieldLink RX2 16 "GoatTowerModel" "horns" "[I", Cond.methodLink RX2 80 yX2_waitOn, Cond.instanceMethod yX2_waitOn, Cond.selects RX2 yX2_waitOn yX2_waitOn, Cond.code yX2_waitOn cX2_waitOn 2 none, Cond.methodLink RX2 131 yX2_bringBack, Cond.instanceMethod yX2_bringBack, Cond.selects RX2 yX2_bringBack yX2_bringBack, Cond.code yX2_bringBack cX2_bringBack 1 none]
def wsX2_lost : List Cond := .code yX2_lost cX2_lost 6 (some .int) :: ((wsX2_lost_r1 ++ (wsX2_lost_r2 ++ wsX2_lost_r3)) ++ wsX20)
def wsX2_wanted_r1 : List Cond := [Cond.fieldLink RX2 9 "GoatTowerModel" "permits" "[I", Cond.methodLink RX2 137 yX2_lost, Cond.instanceMethod yX2_lost, Cond.selects RX2 yX2_lost yX2_lost, Cond.initialized RX2, Cond.code yX2_lost cX2_lost 6 (some .int), Cond.fieldLink RX2 36 "GoatTowerModel" "goats" "I", Cond.methodLink RX2 53 yX2_isAt, Cond.instanceMethod yX2_isAt, Cond.selects RX2 yX2_isAt yX2_isAt, Cond.code yX2_isAt cX2_isAt 3 (some .boolean), Cond.methodLink RX2 49 yX2_is, Cond.instanceMethod yX2_is, Cond.selects RX2 yX2_is yX2_is, Cond.code yX2_is cX2_is 3 (some .boolean), Cond.methodLink RX2 45 yX2_of, Cond.instanceMethod yX2_of, Cond.selects RX2 yX2_of yX2_of, Cond.code yX2_of cX2_of 3 (some .int), Cond.fieldLink RX2 19 "GoatTowerModel" "now" "[I", Cond.methodLink RX2 128 yX2_keep, Cond.instanceMethod yX2_keep, Cond.selects RX2 yX2_keep yX2_keep, Cond.code yX2_keep cX2_keep 1 none]
def wsX2_wanted_r2 : List Cond := [Cond.fieldLink RX2 22 "GoatTowerModel" "kept" "[I", Cond.methodLink RX2 39 arraycopyName, Cond.native arraycopyName, Cond.static arraycopyName, Cond.initialized "java/lang/System", Cond.methodLink RX2 83 yX2_minuteOn, Cond.instanceMethod yX2_minuteOn, Cond.selects RX2 yX2_minuteOn yX2_minuteOn, Cond.code yX2_minuteOn cX2_minuteOn 2 none, Cond.fieldLink RX2 29 "GoatTowerModel" "gates" "I", Cond.methodLink RX2 73 yX2_stay, Cond.instanceMethod yX2_stay, Cond.selects RX2 yX2_stay yX2_stay, Cond.code yX2_stay cX2_stay 2 none, Cond.methodLink RX2 66 yX2_let, Cond.instanceMethod yX2_let, Cond.selects RX2 yX2_let yX2_let, Cond.code yX2_let cX2_let 4 none, Cond.methodLink RX2 77 yX2_open, Cond.instanceMethod yX2_open, Cond.selects RX2 yX2_open yX2_open, Cond.code yX2_open cX2_open 3 none, Cond.methodLink RX2 70 yX2_next, Cond.instanceMethod yX2_next]
def wsX2_wanted_r3 : List Cond := [Cond.selects RX2 yX2_next yX2_next, Cond.code yX2_next cX2_next 5 (some .int), Cond.fieldLink RX2 13 "GoatTowerModel" "order" "[I", Cond.methodLink RX2 56 yX2_free, Cond.instanceMethod yX2_free, Cond.selects RX2 yX2_free yX2_free, Cond.code yX2_free cX2_free 4 (some .int), Cond.methodLink RX2 60 yX2_firstAt, Cond.instanceMethod yX2_firstAt, Cond.selects RX2 yX2_firstAt yX2_firstAt, Cond.code yX2_firstAt cX2_firstAt 4 (some .int), Cond.methodLink RX2 63 yX2_seem, Cond.instanceMethod yX2_seem, Cond.selects RX2 yX2_seem yX2_seem, Cond.code yX2_seem cX2_seem 2 (some .int), Cond.fieldLink RX2 16 "GoatTowerModel" "horns" "[I", Cond.methodLink RX2 80 yX2_waitOn, Cond.instanceMethod yX2_waitOn, Cond.selects RX2 yX2_waitOn yX2_waitOn, Cond.code yX2_waitOn cX2_waitOn 2 none, Cond.methodLink RX2 131 yX2_bringBack, Cond.instanceMethod yX2_bringBack, Cond.selects RX2 yX2_bringBack yX2_bringBack, Cond.code yX2_bringBack cX2_bringBack 1 none]
def wsX2_wanted : List Cond := .code yX2_wanted cX2_wanted 5 (some .int) :: ((wsX2_wanted_r1 ++ (wsX2_wanted_r2 ++ wsX2_wanted_r3)) ++ wsX20)
def wsX2_permitsWanted_r1 : List Cond := [Cond.fieldLink RX2 25 "GoatTowerModel" "thrown" "I", Cond.methodLink RX2 93 yX2_isGate, Cond.instanceMethod yX2_isGate, Cond.selects RX2 yX2_isGate yX2_isGate, Cond.initialized RX2, Cond.code yX2_isGate cX2_isGate 2 (some .boolean), Cond.fieldLink RX2 29 "GoatTowerModel" "gates" "I", Cond.methodLink RX2 32 yX2_isIn, Cond.static yX2_isIn, Cond.code yX2_isIn cX2_isIn 3 (some .boolean), Cond.methodLink RX2 140 yX2_wanted, Cond.instanceMethod yX2_wanted, Cond.selects RX2 yX2_wanted yX2_wanted, Cond.code yX2_wanted cX2_wanted 5 (some .int), Cond.fieldLink RX2 9 "GoatTowerModel" "permits" "[I", Cond.methodLink RX2 137 yX2_lost, Cond.instanceMethod yX2_lost, Cond.selects RX2 yX2_lost yX2_lost, Cond.code yX2_lost cX2_lost 6 (some .int), Cond.fieldLink RX2 36 "GoatTowerModel" "goats" "I", Cond.methodLink RX2 53 yX2_isAt, Cond.instanceMethod yX2_isAt, Cond.selects RX2 yX2_isAt yX2_isAt, Cond.code yX2_isAt cX2_isAt 3 (some .boolean)]
def wsX2_permitsWanted_r2 : List Cond := [Cond.methodLink RX2 49 yX2_is, Cond.instanceMethod yX2_is, Cond.selects RX2 yX2_is yX2_is, Cond.code yX2_is cX2_is 3 (some .boolean), Cond.methodLink RX2 45 yX2_of, Cond.instanceMethod yX2_of, Cond.selects RX2 yX2_of yX2_of, Cond.code yX2_of cX2_of 3 (some .int), Cond.fieldLink RX2 19 "GoatTowerModel" "now" "[I", Cond.methodLink RX2 128 yX2_keep, Cond.instanceMethod yX2_keep, Cond.selects RX2 yX2_keep yX2_keep, Cond.code yX2_keep cX2_keep 1 none, Cond.fieldLink RX2 22 "GoatTowerModel" "kept" "[I", Cond.methodLink RX2 39 arraycopyName, Cond.native arraycopyName, Cond.static arraycopyName, Cond.initialized "java/lang/System", Cond.methodLink RX2 83 yX2_minuteOn, Cond.instanceMethod yX2_minuteOn, Cond.selects RX2 yX2_minuteOn yX2_minuteOn, Cond.code yX2_minuteOn cX2_minuteOn 2 none, Cond.methodLink RX2 73 yX2_stay, Cond.instanceMethod yX2_stay]
def wsX2_permitsWanted_r3 : List Cond := [Cond.selects RX2 yX2_stay yX2_stay, Cond.code yX2_stay cX2_stay 2 none, Cond.methodLink RX2 66 yX2_let, Cond.instanceMethod yX2_let, Cond.selects RX2 yX2_let yX2_let, Cond.code yX2_let cX2_let 4 none, Cond.methodLink RX2 77 yX2_open, Cond.instanceMethod yX2_open, Cond.selects RX2 yX2_open yX2_open, Cond.code yX2_open cX2_open 3 none, Cond.methodLink RX2 70 yX2_next, Cond.instanceMethod yX2_next, Cond.selects RX2 yX2_next yX2_next, Cond.code yX2_next cX2_next 5 (some .int), Cond.fieldLink RX2 13 "GoatTowerModel" "order" "[I", Cond.methodLink RX2 56 yX2_free, Cond.instanceMethod yX2_free, Cond.selects RX2 yX2_free yX2_free, Cond.code yX2_free cX2_free 4 (some .int), Cond.methodLink RX2 60 yX2_firstAt, Cond.instanceMethod yX2_firstAt, Cond.selects RX2 yX2_firstAt yX2_firstAt, Cond.code yX2_firstAt cX2_firstAt 4 (some .int), Cond.methodLink RX2 63 yX2_seem]
def wsX2_permitsWanted_r4 : List Cond := [Cond.instanceMethod yX2_seem, Cond.selects RX2 yX2_seem yX2_seem, Cond.code yX2_seem cX2_seem 2 (some .int), Cond.fieldLink RX2 16 "GoatTowerModel" "horns" "[I", Cond.methodLink RX2 80 yX2_waitOn, Cond.instanceMethod yX2_waitOn, Cond.selects RX2 yX2_waitOn yX2_waitOn, Cond.code yX2_waitOn cX2_waitOn 2 none, Cond.methodLink RX2 131 yX2_bringBack, Cond.instanceMethod yX2_bringBack, Cond.selects RX2 yX2_bringBack yX2_bringBack, Cond.code yX2_bringBack cX2_bringBack 1 none, Cond.methodLink RX2 86 yX2_no, Cond.instanceMethod yX2_no, Cond.selects RX2 yX2_no yX2_no, Cond.code yX2_no cX2_no 2 (some .int)]
def wsX2_permitsWanted : List Cond := .code yX2_permitsWanted cX2_permitsWanted 2 (some .int) :: ((wsX2_permitsWanted_r1 ++ (wsX2_permitsWanted_r2 ++ (wsX2_permitsWanted_r3 ++ wsX2_permitsWanted_r4))) ++ wsX20)
def wsX2_lostBy_r1 : List Cond := [Cond.fieldLink RX2 13 "GoatTowerModel" "order" "[I", Cond.methodLink RX2 137 yX2_lost, Cond.instanceMethod yX2_lost, Cond.selects RX2 yX2_lost yX2_lost, Cond.initialized RX2, Cond.code yX2_lost cX2_lost 6 (some .int), Cond.fieldLink RX2 36 "GoatTowerModel" "goats" "I", Cond.methodLink RX2 53 yX2_isAt, Cond.instanceMethod yX2_isAt, Cond.selects RX2 yX2_isAt yX2_isAt, Cond.code yX2_isAt cX2_isAt 3 (some .boolean), Cond.methodLink RX2 49 yX2_is, Cond.instanceMethod yX2_is, Cond.selects RX2 yX2_is yX2_is, Cond.code yX2_is cX2_is 3 (some .boolean), Cond.methodLink RX2 45 yX2_of, Cond.instanceMethod yX2_of, Cond.selects RX2 yX2_of yX2_of, Cond.code yX2_of cX2_of 3 (some .int), Cond.fieldLink RX2 19 "GoatTowerModel" "now" "[I", Cond.methodLink RX2 128 yX2_keep, Cond.instanceMethod yX2_keep, Cond.selects RX2 yX2_keep yX2_keep, Cond.code yX2_keep cX2_keep 1 none]
def wsX2_lostBy_r2 : List Cond := [Cond.fieldLink RX2 22 "GoatTowerModel" "kept" "[I", Cond.methodLink RX2 39 arraycopyName, Cond.native arraycopyName, Cond.static arraycopyName, Cond.initialized "java/lang/System", Cond.methodLink RX2 83 yX2_minuteOn, Cond.instanceMethod yX2_minuteOn, Cond.selects RX2 yX2_minuteOn yX2_minuteOn, Cond.code yX2_minuteOn cX2_minuteOn 2 none, Cond.fieldLink RX2 29 "GoatTowerModel" "gates" "I", Cond.methodLink RX2 73 yX2_stay, Cond.instanceMethod yX2_stay, Cond.selects RX2 yX2_stay yX2_stay, Cond.code yX2_stay cX2_stay 2 none, Cond.methodLink RX2 66 yX2_let, Cond.instanceMethod yX2_let, Cond.selects RX2 yX2_let yX2_let, Cond.code yX2_let cX2_let 4 none, Cond.methodLink RX2 77 yX2_open, Cond.instanceMethod yX2_open, Cond.selects RX2 yX2_open yX2_open, Cond.code yX2_open cX2_open 3 none, Cond.methodLink RX2 70 yX2_next, Cond.instanceMethod yX2_next]
def wsX2_lostBy_r3 : List Cond := [Cond.selects RX2 yX2_next yX2_next, Cond.code yX2_next cX2_next 5 (some .int), Cond.methodLink RX2 56 yX2_free, Cond.instanceMethod yX2_free, Cond.selects RX2 yX2_free yX2_free, Cond.code yX2_free cX2_free 4 (some .int), Cond.fieldLink RX2 9 "GoatTowerModel" "permits" "[I", Cond.methodLink RX2 60 yX2_firstAt, Cond.instanceMethod yX2_firstAt, Cond.selects RX2 yX2_firstAt yX2_firstAt, Cond.code yX2_firstAt cX2_firstAt 4 (some .int), Cond.methodLink RX2 63 yX2_seem, Cond.instanceMethod yX2_seem, Cond.selects RX2 yX2_seem yX2_seem, Cond.code yX2_seem cX2_seem 2 (some .int), Cond.fieldLink RX2 16 "GoatTowerModel" "horns" "[I", Cond.methodLink RX2 80 yX2_waitOn, Cond.instanceMethod yX2_waitOn, Cond.selects RX2 yX2_waitOn yX2_waitOn, Cond.code yX2_waitOn cX2_waitOn 2 none, Cond.methodLink RX2 131 yX2_bringBack, Cond.instanceMethod yX2_bringBack, Cond.selects RX2 yX2_bringBack yX2_bringBack, Cond.code yX2_bringBack cX2_bringBack 1 none]
def wsX2_lostBy : List Cond := .code yX2_lostBy cX2_lostBy 5 (some .int) :: ((wsX2_lostBy_r1 ++ (wsX2_lostBy_r2 ++ wsX2_lostBy_r3)) ++ wsX20)
def wsX2_better_r1 : List Cond := [Cond.methodLink RX2 143 yX2_lostBy, Cond.instanceMethod yX2_lostBy, Cond.selects RX2 yX2_lostBy yX2_lostBy, Cond.initialized RX2, Cond.code yX2_lostBy cX2_lostBy 5 (some .int), Cond.fieldLink RX2 13 "GoatTowerModel" "order" "[I", Cond.methodLink RX2 137 yX2_lost, Cond.instanceMethod yX2_lost, Cond.selects RX2 yX2_lost yX2_lost, Cond.code yX2_lost cX2_lost 6 (some .int), Cond.fieldLink RX2 36 "GoatTowerModel" "goats" "I", Cond.methodLink RX2 53 yX2_isAt, Cond.instanceMethod yX2_isAt, Cond.selects RX2 yX2_isAt yX2_isAt, Cond.code yX2_isAt cX2_isAt 3 (some .boolean), Cond.methodLink RX2 49 yX2_is, Cond.instanceMethod yX2_is, Cond.selects RX2 yX2_is yX2_is, Cond.code yX2_is cX2_is 3 (some .boolean), Cond.methodLink RX2 45 yX2_of, Cond.instanceMethod yX2_of, Cond.selects RX2 yX2_of yX2_of, Cond.code yX2_of cX2_of 3 (some .int), Cond.fieldLink RX2 19 "GoatTowerModel" "now" "[I"]
def wsX2_better_r2 : List Cond := [Cond.methodLink RX2 128 yX2_keep, Cond.instanceMethod yX2_keep, Cond.selects RX2 yX2_keep yX2_keep, Cond.code yX2_keep cX2_keep 1 none, Cond.fieldLink RX2 22 "GoatTowerModel" "kept" "[I", Cond.methodLink RX2 39 arraycopyName, Cond.native arraycopyName, Cond.static arraycopyName, Cond.initialized "java/lang/System", Cond.methodLink RX2 83 yX2_minuteOn, Cond.instanceMethod yX2_minuteOn, Cond.selects RX2 yX2_minuteOn yX2_minuteOn, Cond.code yX2_minuteOn cX2_minuteOn 2 none, Cond.fieldLink RX2 29 "GoatTowerModel" "gates" "I", Cond.methodLink RX2 73 yX2_stay, Cond.instanceMethod yX2_stay, Cond.selects RX2 yX2_stay yX2_stay, Cond.code yX2_stay cX2_stay 2 none, Cond.methodLink RX2 66 yX2_let, Cond.instanceMethod yX2_let, Cond.selects RX2 yX2_let yX2_let, Cond.code yX2_let cX2_let 4 none, Cond.methodLink RX2 77 yX2_open, Cond.instanceMethod yX2_open]
def wsX2_better_r3 : List Cond := [Cond.selects RX2 yX2_open yX2_open, Cond.code yX2_open cX2_open 3 none, Cond.methodLink RX2 70 yX2_next, Cond.instanceMethod yX2_next, Cond.selects RX2 yX2_next yX2_next, Cond.code yX2_next cX2_next 5 (some .int), Cond.methodLink RX2 56 yX2_free, Cond.instanceMethod yX2_free, Cond.selects RX2 yX2_free yX2_free, Cond.code yX2_free cX2_free 4 (some .int), Cond.fieldLink RX2 9 "GoatTowerModel" "permits" "[I", Cond.methodLink RX2 60 yX2_firstAt, Cond.instanceMethod yX2_firstAt, Cond.selects RX2 yX2_firstAt yX2_firstAt, Cond.code yX2_firstAt cX2_firstAt 4 (some .int), Cond.methodLink RX2 63 yX2_seem, Cond.instanceMethod yX2_seem, Cond.selects RX2 yX2_seem yX2_seem, Cond.code yX2_seem cX2_seem 2 (some .int), Cond.fieldLink RX2 16 "GoatTowerModel" "horns" "[I", Cond.methodLink RX2 80 yX2_waitOn, Cond.instanceMethod yX2_waitOn, Cond.selects RX2 yX2_waitOn yX2_waitOn, Cond.code yX2_waitOn cX2_waitOn 2 none]
def wsX2_better_r4 : List Cond := [Cond.methodLink RX2 131 yX2_bringBack, Cond.instanceMethod yX2_bringBack, Cond.selects RX2 yX2_bringBack yX2_bringBack, Cond.code yX2_bringBack cX2_bringBack 1 none]
def wsX2_better : List Cond := .code yX2_better cX2_better 2 (some .int) :: ((wsX2_better_r1 ++ (wsX2_better_r2 ++ (wsX2_better_r3 ++ wsX2_better_r4))) ++ wsX20)
def wsX2_bestOrder_r1 : List Cond := [Cond.fieldLink RX2 25 "GoatTowerModel" "thrown" "I", Cond.methodLink RX2 93 yX2_isGate, Cond.instanceMethod yX2_isGate, Cond.selects RX2 yX2_isGate yX2_isGate, Cond.initialized RX2, Cond.code yX2_isGate cX2_isGate 2 (some .boolean), Cond.fieldLink RX2 29 "GoatTowerModel" "gates" "I", Cond.methodLink RX2 32 yX2_isIn, Cond.static yX2_isIn, Cond.code yX2_isIn cX2_isIn 3 (some .boolean), Cond.methodLink RX2 146 yX2_better, Cond.instanceMethod yX2_better, Cond.selects RX2 yX2_better yX2_better, Cond.code yX2_better cX2_better 2 (some .int), Cond.methodLink RX2 143 yX2_lostBy, Cond.instanceMethod yX2_lostBy, Cond.selects RX2 yX2_lostBy yX2_lostBy, Cond.code yX2_lostBy cX2_lostBy 5 (some .int), Cond.fieldLink RX2 13 "GoatTowerModel" "order" "[I", Cond.methodLink RX2 137 yX2_lost, Cond.instanceMethod yX2_lost, Cond.selects RX2 yX2_lost yX2_lost, Cond.code yX2_lost cX2_lost 6 (some .int), Cond.fieldLink RX2 36 "GoatTowerModel" "goats" "I"]
def wsX2_bestOrder_r2 : List Cond := [Cond.methodLink RX2 53 yX2_isAt, Cond.instanceMethod yX2_isAt, Cond.selects RX2 yX2_isAt yX2_isAt, Cond.code yX2_isAt cX2_isAt 3 (some .boolean), Cond.methodLink RX2 49 yX2_is, Cond.instanceMethod yX2_is, Cond.selects RX2 yX2_is yX2_is, Cond.code yX2_is cX2_is 3 (some .boolean), Cond.methodLink RX2 45 yX2_of, Cond.instanceMethod yX2_of, Cond.selects RX2 yX2_of yX2_of, Cond.code yX2_of cX2_of 3 (some .int), Cond.fieldLink RX2 19 "GoatTowerModel" "now" "[I", Cond.methodLink RX2 128 yX2_keep, Cond.instanceMethod yX2_keep, Cond.selects RX2 yX2_keep yX2_keep, Cond.code yX2_keep cX2_keep 1 none, Cond.fieldLink RX2 22 "GoatTowerModel" "kept" "[I", Cond.methodLink RX2 39 arraycopyName, Cond.native arraycopyName, Cond.static arraycopyName, Cond.initialized "java/lang/System", Cond.methodLink RX2 83 yX2_minuteOn, Cond.instanceMethod yX2_minuteOn]
def wsX2_bestOrder_r3 : List Cond := [Cond.selects RX2 yX2_minuteOn yX2_minuteOn, Cond.code yX2_minuteOn cX2_minuteOn 2 none, Cond.methodLink RX2 73 yX2_stay, Cond.instanceMethod yX2_stay, Cond.selects RX2 yX2_stay yX2_stay, Cond.code yX2_stay cX2_stay 2 none, Cond.methodLink RX2 66 yX2_let, Cond.instanceMethod yX2_let, Cond.selects RX2 yX2_let yX2_let, Cond.code yX2_let cX2_let 4 none, Cond.methodLink RX2 77 yX2_open, Cond.instanceMethod yX2_open, Cond.selects RX2 yX2_open yX2_open, Cond.code yX2_open cX2_open 3 none, Cond.methodLink RX2 70 yX2_next, Cond.instanceMethod yX2_next, Cond.selects RX2 yX2_next yX2_next, Cond.code yX2_next cX2_next 5 (some .int), Cond.methodLink RX2 56 yX2_free, Cond.instanceMethod yX2_free, Cond.selects RX2 yX2_free yX2_free, Cond.code yX2_free cX2_free 4 (some .int), Cond.fieldLink RX2 9 "GoatTowerModel" "permits" "[I", Cond.methodLink RX2 60 yX2_firstAt]
def wsX2_bestOrder_r4 : List Cond := [Cond.instanceMethod yX2_firstAt, Cond.selects RX2 yX2_firstAt yX2_firstAt, Cond.code yX2_firstAt cX2_firstAt 4 (some .int), Cond.methodLink RX2 63 yX2_seem, Cond.instanceMethod yX2_seem, Cond.selects RX2 yX2_seem yX2_seem, Cond.code yX2_seem cX2_seem 2 (some .int), Cond.fieldLink RX2 16 "GoatTowerModel" "horns" "[I", Cond.methodLink RX2 80 yX2_waitOn, Cond.instanceMethod yX2_waitOn, Cond.selects RX2 yX2_waitOn yX2_waitOn, Cond.code yX2_waitOn cX2_waitOn 2 none, Cond.methodLink RX2 131 yX2_bringBack, Cond.instanceMethod yX2_bringBack, Cond.selects RX2 yX2_bringBack yX2_bringBack, Cond.code yX2_bringBack cX2_bringBack 1 none, Cond.methodLink RX2 86 yX2_no, Cond.instanceMethod yX2_no, Cond.selects RX2 yX2_no yX2_no, Cond.code yX2_no cX2_no 2 (some .int)]
def wsX2_bestOrder : List Cond := .code yX2_bestOrder cX2_bestOrder 2 (some .int) :: ((wsX2_bestOrder_r1 ++ (wsX2_bestOrder_r2 ++ (wsX2_bestOrder_r3 ++ wsX2_bestOrder_r4))) ++ wsX20)
def wsX2_meanWaited : List Cond := .code yX2_meanWaited cX2_meanWaited 3 (some .double) :: ([.fieldLink RX2 25 "GoatTowerModel" "thrown" "I", .fieldLink RX2 36 "GoatTowerModel" "goats" "I", .methodLink RX2 45 yX2_of, .instanceMethod yX2_of, .selects RX2 yX2_of yX2_of, .initialized RX2, .code yX2_of cX2_of 3 (some .int), .fieldLink RX2 19 "GoatTowerModel" "now" "[I"] ++ wsX20)
def wsX2_digest_r1 : List Cond := [Cond.fieldLink RX2 25 "GoatTowerModel" "thrown" "I", Cond.arrayClass .int, Cond.fieldLink RX2 19 "GoatTowerModel" "now" "[I", Cond.fieldLink RX2 29 "GoatTowerModel" "gates" "I", Cond.fieldLink RX2 36 "GoatTowerModel" "goats" "I", Cond.constantLong RX2 149 (2161), Cond.constantLong RX2 151 (31), Cond.fieldLink RX2 9 "GoatTowerModel" "permits" "[I", Cond.methodLink RX2 112 yX2_many, Cond.instanceMethod yX2_many, Cond.selects RX2 yX2_many yX2_many, Cond.initialized RX2, Cond.code yX2_many cX2_many 4 (some .int), Cond.methodLink RX2 49 yX2_is, Cond.instanceMethod yX2_is, Cond.selects RX2 yX2_is yX2_is, Cond.code yX2_is cX2_is 3 (some .boolean), Cond.methodLink RX2 45 yX2_of, Cond.instanceMethod yX2_of, Cond.selects RX2 yX2_of yX2_of, Cond.code yX2_of cX2_of 3 (some .int), Cond.methodLink RX2 115 yX2_starved, Cond.instanceMethod yX2_starved, Cond.selects RX2 yX2_starved yX2_starved]
def wsX2_digest_r2 : List Cond := [Cond.code yX2_starved cX2_starved 3 (some .int), Cond.methodLink RX2 56 yX2_free, Cond.instanceMethod yX2_free, Cond.selects RX2 yX2_free yX2_free, Cond.code yX2_free cX2_free 4 (some .int), Cond.methodLink RX2 100 yX2_manyAt, Cond.instanceMethod yX2_manyAt, Cond.selects RX2 yX2_manyAt yX2_manyAt, Cond.code yX2_manyAt cX2_manyAt 4 (some .int), Cond.methodLink RX2 53 yX2_isAt, Cond.instanceMethod yX2_isAt, Cond.selects RX2 yX2_isAt yX2_isAt, Cond.code yX2_isAt cX2_isAt 3 (some .boolean), Cond.methodLink RX2 70 yX2_next, Cond.instanceMethod yX2_next, Cond.selects RX2 yX2_next yX2_next, Cond.code yX2_next cX2_next 5 (some .int), Cond.fieldLink RX2 13 "GoatTowerModel" "order" "[I", Cond.methodLink RX2 60 yX2_firstAt, Cond.instanceMethod yX2_firstAt, Cond.selects RX2 yX2_firstAt yX2_firstAt, Cond.code yX2_firstAt cX2_firstAt 4 (some .int), Cond.methodLink RX2 63 yX2_seem, Cond.instanceMethod yX2_seem]
def wsX2_digest_r3 : List Cond := [Cond.selects RX2 yX2_seem yX2_seem, Cond.code yX2_seem cX2_seem 2 (some .int), Cond.fieldLink RX2 16 "GoatTowerModel" "horns" "[I", Cond.methodLink RX2 140 yX2_wanted, Cond.instanceMethod yX2_wanted, Cond.selects RX2 yX2_wanted yX2_wanted, Cond.code yX2_wanted cX2_wanted 5 (some .int), Cond.methodLink RX2 137 yX2_lost, Cond.instanceMethod yX2_lost, Cond.selects RX2 yX2_lost yX2_lost, Cond.code yX2_lost cX2_lost 6 (some .int), Cond.methodLink RX2 128 yX2_keep, Cond.instanceMethod yX2_keep, Cond.selects RX2 yX2_keep yX2_keep, Cond.code yX2_keep cX2_keep 1 none, Cond.fieldLink RX2 22 "GoatTowerModel" "kept" "[I", Cond.methodLink RX2 39 arraycopyName, Cond.native arraycopyName, Cond.static arraycopyName, Cond.initialized "java/lang/System", Cond.methodLink RX2 83 yX2_minuteOn, Cond.instanceMethod yX2_minuteOn, Cond.selects RX2 yX2_minuteOn yX2_minuteOn, Cond.code yX2_minuteOn cX2_minuteOn 2 none]
def wsX2_digest_r4 : List Cond := [Cond.methodLink RX2 73 yX2_stay, Cond.instanceMethod yX2_stay, Cond.selects RX2 yX2_stay yX2_stay, Cond.code yX2_stay cX2_stay 2 none, Cond.methodLink RX2 66 yX2_let, Cond.instanceMethod yX2_let, Cond.selects RX2 yX2_let yX2_let, Cond.code yX2_let cX2_let 4 none, Cond.methodLink RX2 77 yX2_open, Cond.instanceMethod yX2_open, Cond.selects RX2 yX2_open yX2_open, Cond.code yX2_open cX2_open 3 none, Cond.methodLink RX2 80 yX2_waitOn, Cond.instanceMethod yX2_waitOn, Cond.selects RX2 yX2_waitOn yX2_waitOn, Cond.code yX2_waitOn cX2_waitOn 2 none, Cond.methodLink RX2 131 yX2_bringBack, Cond.instanceMethod yX2_bringBack, Cond.selects RX2 yX2_bringBack yX2_bringBack, Cond.code yX2_bringBack cX2_bringBack 1 none, Cond.methodLink RX2 146 yX2_better, Cond.instanceMethod yX2_better, Cond.selects RX2 yX2_better yX2_better, Cond.code yX2_better cX2_better 2 (some .int)]
def wsX2_digest_r5 : List Cond := [Cond.methodLink RX2 143 yX2_lostBy, Cond.instanceMethod yX2_lostBy, Cond.selects RX2 yX2_lostBy yX2_lostBy, Cond.code yX2_lostBy cX2_lostBy 5 (some .int), Cond.methodLink RX2 119 yX2_where, Cond.instanceMethod yX2_where, Cond.selects RX2 yX2_where yX2_where, Cond.code yX2_where cX2_where 2 (some .int), Cond.methodLink RX2 103 yX2_held, Cond.instanceMethod yX2_held, Cond.selects RX2 yX2_held yX2_held, Cond.code yX2_held cX2_held 2 (some .int), Cond.methodLink RX2 122 yX2_left, Cond.instanceMethod yX2_left, Cond.selects RX2 yX2_left yX2_left, Cond.code yX2_left cX2_left 2 (some .int), Cond.methodLink RX2 125 yX2_place, Cond.instanceMethod yX2_place, Cond.selects RX2 yX2_place yX2_place, Cond.code yX2_place cX2_place 4 (some .int), Cond.methodLink RX2 134 yX2_until, Cond.instanceMethod yX2_until, Cond.selects RX2 yX2_until yX2_until, Cond.code yX2_until cX2_until 4 (some .int)]
def wsX2_digest : List Cond := .code yX2_digest cX2_digest 10 (some .long) :: ((wsX2_digest_r1 ++ (wsX2_digest_r2 ++ (wsX2_digest_r3 ++ (wsX2_digest_r4 ++ wsX2_digest_r5)))) ++ wsX20)
def wsL_addGate : List Cond := .codeWith yL_addGate cL_addGate 5 (some .int) [(0, 10, 13, 13), (0, 10, 17, 15)] :: ([.classLink RL 13 "java/lang/IllegalArgumentException", .classLink RL 15 "java/lang/IllegalStateException", .methodLink RL 7 yX1_addGate, .instanceMethod yX1_addGate, .selects RX1 yX1_addGate yX1_addGate, .initialized RX1, .code yX1_addGate cX1_addGate 3 (some .int), .classLink RX1 23 "java/lang/IllegalArgumentException", .initialized "java/lang/IllegalArgumentException", .classLink RX1 34 "java/lang/IllegalStateException", .initialized "java/lang/IllegalStateException", .fieldLink RX1 10 "GoatTower" "now" "LGoatTower$Scene;", .fieldLink RX1 30 "GoatTower$Scene" "gateCount" "I", .methodLink RX1 19 yX1_checkNumber, .static yX1_checkNumber, .code yX1_checkNumber cX1_checkNumber 2 none, .methodLink RX1 39 yX0_openGate, .instanceMethod yX0_openGate, .selects RX0 yX0_openGate yX0_openGate, .initialized RX0, .code yX0_openGate cX0_openGate 4 (some .int), .fieldLink RX0 52 "GoatTower$Scene" "gateCount" "I", .fieldLink RX0 9 "GoatTower$Scene" "permits" "[I", .fieldLink RX0 15 "GoatTower$Scene" "order" "[I"] ++ wsX10 ++ wsX00 ++ (vx_atS RX1 27 "java/lang/IllegalArgumentException" ["java/lang/RuntimeException", "java/lang/Exception"]).filter goodWord ++ (vx_atS RX1 38 "java/lang/IllegalStateException" ["java/lang/RuntimeException", "java/lang/Exception"]).filter goodWord)
def wsL_addGoat_r1 : List Cond := [Cond.classLink RL 13 "java/lang/IllegalArgumentException", Cond.classLink RL 15 "java/lang/IllegalStateException", Cond.methodLink RL 17 yX1_addGoat, Cond.instanceMethod yX1_addGoat, Cond.selects RX1 yX1_addGoat yX1_addGoat, Cond.initialized RX1, Cond.code yX1_addGoat cX1_addGoat 2 (some .int), Cond.classLink RX1 34 "java/lang/IllegalStateException", Cond.initialized "java/lang/IllegalStateException", Cond.fieldLink RX1 10 "GoatTower" "now" "LGoatTower$Scene;", Cond.fieldLink RX1 43 "GoatTower$Scene" "goatCount" "I", Cond.methodLink RX1 19 yX1_checkNumber, Cond.static yX1_checkNumber, Cond.code yX1_checkNumber cX1_checkNumber 2 none, Cond.classLink RX1 23 "java/lang/IllegalArgumentException", Cond.initialized "java/lang/IllegalArgumentException", Cond.methodLink RX1 48 yX0_bringGoat, Cond.instanceMethod yX0_bringGoat, Cond.selects RX0 yX0_bringGoat yX0_bringGoat, Cond.initialized RX0, Cond.code yX0_bringGoat cX0_bringGoat 3 (some .int), Cond.fieldLink RX0 55 "GoatTower$Scene" "goatCount" "I", Cond.fieldLink RX0 21 "GoatTower$Scene" "horns" "[I", Cond.methodLink RX0 64 yX0_rest]
def wsL_addGoat_r2 : List Cond := [Cond.instanceMethod yX0_rest, Cond.selects RX0 yX0_rest yX0_rest, Cond.code yX0_rest cX0_rest 2 none, Cond.fieldLink RX0 24 "GoatTower$Scene" "state" "[I", Cond.fieldLink RX0 27 "GoatTower$Scene" "gate" "[I", Cond.fieldLink RX0 36 "GoatTower$Scene" "left" "[I", Cond.fieldLink RX0 42 "GoatTower$Scene" "waitedForThis" "[I"]
def wsL_addGoat : List Cond := .codeWith yL_addGoat cL_addGoat 4 (some .int) [(0, 9, 12, 13), (0, 9, 15, 15)] :: ((wsL_addGoat_r1 ++ wsL_addGoat_r2) ++ wsX10 ++ wsX00 ++ (vx_atS RX1 38 "java/lang/IllegalStateException" ["java/lang/RuntimeException", "java/lang/Exception"]).filter goodWord ++ (vx_atS RX1 27 "java/lang/IllegalArgumentException" ["java/lang/RuntimeException", "java/lang/Exception"]).filter goodWord)
def wsL_ask_r1 : List Cond := [Cond.classLink RL 25 "java/lang/IndexOutOfBoundsException", Cond.classLink RL 13 "java/lang/IllegalArgumentException", Cond.classLink RL 15 "java/lang/IllegalStateException", Cond.methodLink RL 21 yX1_ask, Cond.instanceMethod yX1_ask, Cond.selects RX1 yX1_ask yX1_ask, Cond.initialized RX1, Cond.code yX1_ask cX1_ask 6 (some .int), Cond.fieldLink RX1 10 "GoatTower" "now" "LGoatTower$Scene;", Cond.fieldLink RX1 59 "GoatTower$Scene" "permits" "[I", Cond.methodLink RX1 52 yX1_checkGoat, Cond.instanceMethod yX1_checkGoat, Cond.selects RX1 yX1_checkGoat yX1_checkGoat, Cond.code yX1_checkGoat cX1_checkGoat 2 none, Cond.classLink RX1 216 "java/lang/IndexOutOfBoundsException", Cond.initialized "java/lang/IndexOutOfBoundsException", Cond.fieldLink RX1 43 "GoatTower$Scene" "goatCount" "I", Cond.methodLink RX1 56 yX1_checkGate, Cond.instanceMethod yX1_checkGate, Cond.selects RX1 yX1_checkGate yX1_checkGate, Cond.code yX1_checkGate cX1_checkGate 2 none, Cond.fieldLink RX1 30 "GoatTower$Scene" "gateCount" "I", Cond.methodLink RX1 19 yX1_checkNumber, Cond.static yX1_checkNumber]
def wsL_ask_r2 : List Cond := [Cond.code yX1_checkNumber cX1_checkNumber 2 none, Cond.classLink RX1 23 "java/lang/IllegalArgumentException", Cond.initialized "java/lang/IllegalArgumentException", Cond.methodLink RX1 63 yX1_checkIdle, Cond.instanceMethod yX1_checkIdle, Cond.selects RX1 yX1_checkIdle yX1_checkIdle, Cond.code yX1_checkIdle cX1_checkIdle 2 none, Cond.classLink RX1 34 "java/lang/IllegalStateException", Cond.initialized "java/lang/IllegalStateException", Cond.fieldLink RX1 82 "GoatTower$Scene" "state" "[I", Cond.methodLink RX1 66 yX0_lineUp, Cond.instanceMethod yX0_lineUp, Cond.selects RX0 yX0_lineUp yX0_lineUp, Cond.initialized RX0, Cond.code yX0_lineUp cX0_lineUp 6 none, Cond.fieldLink RX0 24 "GoatTower$Scene" "state" "[I", Cond.fieldLink RX0 27 "GoatTower$Scene" "gate" "[I", Cond.fieldLink RX0 30 "GoatTower$Scene" "many" "[I", Cond.fieldLink RX0 33 "GoatTower$Scene" "stay" "[I", Cond.fieldLink RX0 36 "GoatTower$Scene" "left" "[I", Cond.fieldLink RX0 39 "GoatTower$Scene" "askedAs" "[I", Cond.fieldLink RX0 58 "GoatTower$Scene" "askCount" "I", Cond.methodLink RX1 70 yX0_countWaitingAt, Cond.instanceMethod yX0_countWaitingAt]
def wsL_ask_r3 : List Cond := [Cond.selects RX0 yX0_countWaitingAt yX0_countWaitingAt, Cond.code yX0_countWaitingAt cX0_countWaitingAt 4 (some .int), Cond.fieldLink RX0 55 "GoatTower$Scene" "goatCount" "I", Cond.methodLink RX0 85 yX0_waitsAt, Cond.instanceMethod yX0_waitsAt, Cond.selects RX0 yX0_waitsAt yX0_waitsAt, Cond.code yX0_waitsAt cX0_waitsAt 3 (some .boolean)]
def wsL_ask : List Cond := .codeWith yL_ask cL_ask 8 (some .int) [(0, 16, 19, 25), (0, 16, 23, 13), (0, 16, 27, 15)] :: ((wsL_ask_r1 ++ (wsL_ask_r2 ++ wsL_ask_r3)) ++ wsX10 ++ wsX00 ++ (vx_atS RX1 220 "java/lang/IndexOutOfBoundsException" ["java/lang/RuntimeException", "java/lang/Exception"]).filter goodWord ++ (vx_atS RX1 27 "java/lang/IllegalArgumentException" ["java/lang/RuntimeException", "java/lang/Exception"]).filter goodWord ++ (vx_atS RX1 38 "java/lang/IllegalStateException" ["java/lang/RuntimeException", "java/lang/Exception"]).filter goodWord)
def wsL_barge_r1 : List Cond := [Cond.classLink RL 25 "java/lang/IndexOutOfBoundsException", Cond.classLink RL 13 "java/lang/IllegalArgumentException", Cond.classLink RL 15 "java/lang/IllegalStateException", Cond.methodLink RL 27 yX1_barge, Cond.instanceMethod yX1_barge, Cond.selects RX1 yX1_barge yX1_barge, Cond.initialized RX1, Cond.code yX1_barge cX1_barge 5 (some .int), Cond.classLink RX1 34 "java/lang/IllegalStateException", Cond.initialized "java/lang/IllegalStateException", Cond.fieldLink RX1 10 "GoatTower" "now" "LGoatTower$Scene;", Cond.fieldLink RX1 59 "GoatTower$Scene" "permits" "[I", Cond.methodLink RX1 52 yX1_checkGoat, Cond.instanceMethod yX1_checkGoat, Cond.selects RX1 yX1_checkGoat yX1_checkGoat, Cond.code yX1_checkGoat cX1_checkGoat 2 none, Cond.classLink RX1 216 "java/lang/IndexOutOfBoundsException", Cond.initialized "java/lang/IndexOutOfBoundsException", Cond.fieldLink RX1 43 "GoatTower$Scene" "goatCount" "I", Cond.methodLink RX1 56 yX1_checkGate, Cond.instanceMethod yX1_checkGate, Cond.selects RX1 yX1_checkGate yX1_checkGate, Cond.code yX1_checkGate cX1_checkGate 2 none, Cond.fieldLink RX1 30 "GoatTower$Scene" "gateCount" "I"]
def wsL_barge_r2 : List Cond := [Cond.methodLink RX1 19 yX1_checkNumber, Cond.static yX1_checkNumber, Cond.code yX1_checkNumber cX1_checkNumber 2 none, Cond.classLink RX1 23 "java/lang/IllegalArgumentException", Cond.initialized "java/lang/IllegalArgumentException", Cond.methodLink RX1 63 yX1_checkIdle, Cond.instanceMethod yX1_checkIdle, Cond.selects RX1 yX1_checkIdle yX1_checkIdle, Cond.code yX1_checkIdle cX1_checkIdle 2 none, Cond.fieldLink RX1 82 "GoatTower$Scene" "state" "[I", Cond.methodLink RX1 73 yX0_freePermits, Cond.instanceMethod yX0_freePermits, Cond.selects RX0 yX0_freePermits yX0_freePermits, Cond.initialized RX0, Cond.code yX0_freePermits cX0_freePermits 4 (some .int), Cond.fieldLink RX0 9 "GoatTower$Scene" "permits" "[I", Cond.fieldLink RX0 55 "GoatTower$Scene" "goatCount" "I", Cond.fieldLink RX0 24 "GoatTower$Scene" "state" "[I", Cond.fieldLink RX0 27 "GoatTower$Scene" "gate" "[I", Cond.fieldLink RX0 30 "GoatTower$Scene" "many" "[I", Cond.methodLink RX1 78 yX0_enter, Cond.instanceMethod yX0_enter, Cond.selects RX0 yX0_enter yX0_enter, Cond.code yX0_enter cX0_enter 5 none]
def wsL_barge_r3 : List Cond := [Cond.fieldLink RX0 36 "GoatTower$Scene" "left" "[I", Cond.fieldLink RX0 42 "GoatTower$Scene" "waitedForThis" "[I"]
def wsL_barge : List Cond := .codeWith yL_barge cL_barge 7 (some .int) [(0, 14, 17, 25), (0, 14, 21, 13), (0, 14, 25, 15)] :: ((wsL_barge_r1 ++ (wsL_barge_r2 ++ wsL_barge_r3)) ++ wsX10 ++ wsX00 ++ (vx_atS RX1 38 "java/lang/IllegalStateException" ["java/lang/RuntimeException", "java/lang/Exception"]).filter goodWord ++ (vx_atS RX1 220 "java/lang/IndexOutOfBoundsException" ["java/lang/RuntimeException", "java/lang/Exception"]).filter goodWord ++ (vx_atS RX1 27 "java/lang/IllegalArgumentException" ["java/lang/RuntimeException", "java/lang/Exception"]).filter goodWord)
def wsL_callBack_r1 : List Cond := [Cond.classLink RL 25 "java/lang/IndexOutOfBoundsException", Cond.classLink RL 15 "java/lang/IllegalStateException", Cond.methodLink RL 31 yX1_callBack, Cond.instanceMethod yX1_callBack, Cond.selects RX1 yX1_callBack yX1_callBack, Cond.initialized RX1, Cond.code yX1_callBack cX1_callBack 3 (some .int), Cond.classLink RX1 34 "java/lang/IllegalStateException", Cond.initialized "java/lang/IllegalStateException", Cond.fieldLink RX1 10 "GoatTower" "now" "LGoatTower$Scene;", Cond.fieldLink RX1 82 "GoatTower$Scene" "state" "[I", Cond.methodLink RX1 52 yX1_checkGoat, Cond.instanceMethod yX1_checkGoat, Cond.selects RX1 yX1_checkGoat yX1_checkGoat, Cond.code yX1_checkGoat cX1_checkGoat 2 none, Cond.classLink RX1 216 "java/lang/IndexOutOfBoundsException", Cond.initialized "java/lang/IndexOutOfBoundsException", Cond.fieldLink RX1 43 "GoatTower$Scene" "goatCount" "I", Cond.methodLink RX1 87 yX0_held, Cond.instanceMethod yX0_held, Cond.selects RX0 yX0_held yX0_held, Cond.initialized RX0, Cond.code yX0_held cX0_held 2 (some .int), Cond.fieldLink RX0 24 "GoatTower$Scene" "state" "[I"]
def wsL_callBack_r2 : List Cond := [Cond.fieldLink RX0 30 "GoatTower$Scene" "many" "[I", Cond.methodLink RX1 90 yX0_rest, Cond.instanceMethod yX0_rest, Cond.selects RX0 yX0_rest yX0_rest, Cond.code yX0_rest cX0_rest 2 none, Cond.fieldLink RX0 27 "GoatTower$Scene" "gate" "[I", Cond.fieldLink RX0 36 "GoatTower$Scene" "left" "[I", Cond.fieldLink RX0 42 "GoatTower$Scene" "waitedForThis" "[I"]
def wsL_callBack : List Cond := .codeWith yL_callBack cL_callBack 4 (some .int) [(0, 9, 12, 25), (0, 9, 15, 15)] :: ((wsL_callBack_r1 ++ wsL_callBack_r2) ++ wsX10 ++ wsX00 ++ (vx_atS RX1 38 "java/lang/IllegalStateException" ["java/lang/RuntimeException", "java/lang/Exception"]).filter goodWord ++ (vx_atS RX1 220 "java/lang/IndexOutOfBoundsException" ["java/lang/RuntimeException", "java/lang/Exception"]).filter goodWord)
def wsL_pass_r1 : List Cond := [Cond.classLink RL 13 "java/lang/IllegalArgumentException", Cond.methodLink RL 34 yX1_pass, Cond.instanceMethod yX1_pass, Cond.selects RX1 yX1_pass yX1_pass, Cond.initialized RX1, Cond.code yX1_pass cX1_pass 4 (some .int), Cond.fieldLink RX1 10 "GoatTower" "now" "LGoatTower$Scene;", Cond.fieldLink RX1 93 "GoatTower$Scene" "letInCount" "I", Cond.methodLink RX1 19 yX1_checkNumber, Cond.static yX1_checkNumber, Cond.code yX1_checkNumber cX1_checkNumber 2 none, Cond.classLink RX1 23 "java/lang/IllegalArgumentException", Cond.initialized "java/lang/IllegalArgumentException", Cond.methodLink RX1 96 yX0_liveAMinute, Cond.instanceMethod yX0_liveAMinute, Cond.selects RX0 yX0_liveAMinute yX0_liveAMinute, Cond.initialized RX0, Cond.code yX0_liveAMinute cX0_liveAMinute 2 none, Cond.fieldLink RX0 52 "GoatTower$Scene" "gateCount" "I", Cond.fieldLink RX0 48 "GoatTower$Scene" "minute" "I", Cond.methodLink RX0 68 yX0_leaveThoseWhoStayed, Cond.instanceMethod yX0_leaveThoseWhoStayed, Cond.selects RX0 yX0_leaveThoseWhoStayed yX0_leaveThoseWhoStayed, Cond.code yX0_leaveThoseWhoStayed cX0_leaveThoseWhoStayed 2 none]
def wsL_pass_r2 : List Cond := [Cond.fieldLink RX0 55 "GoatTower$Scene" "goatCount" "I", Cond.fieldLink RX0 24 "GoatTower$Scene" "state" "[I", Cond.fieldLink RX0 36 "GoatTower$Scene" "left" "[I", Cond.methodLink RX0 64 yX0_rest, Cond.instanceMethod yX0_rest, Cond.selects RX0 yX0_rest yX0_rest, Cond.code yX0_rest cX0_rest 2 none, Cond.fieldLink RX0 27 "GoatTower$Scene" "gate" "[I", Cond.fieldLink RX0 42 "GoatTower$Scene" "waitedForThis" "[I", Cond.methodLink RX0 71 yX0_letInThrough, Cond.instanceMethod yX0_letInThrough, Cond.selects RX0 yX0_letInThrough yX0_letInThrough, Cond.code yX0_letInThrough cX0_letInThrough 4 none, Cond.fieldLink RX0 30 "GoatTower$Scene" "many" "[I", Cond.fieldLink RX0 33 "GoatTower$Scene" "stay" "[I", Cond.fieldLink RX0 61 "GoatTower$Scene" "letInCount" "I", Cond.methodLink RX0 77 yX0_firstIn, Cond.instanceMethod yX0_firstIn, Cond.selects RX0 yX0_firstIn yX0_firstIn, Cond.code yX0_firstIn cX0_firstIn 10 (some .int), Cond.fieldLink RX0 15 "GoatTower$Scene" "order" "[I", Cond.fieldLink RX0 39 "GoatTower$Scene" "askedAs" "[I", Cond.methodLink RX0 89 yX0_freePermits, Cond.instanceMethod yX0_freePermits]
def wsL_pass_r3 : List Cond := [Cond.selects RX0 yX0_freePermits yX0_freePermits, Cond.code yX0_freePermits cX0_freePermits 4 (some .int), Cond.fieldLink RX0 9 "GoatTower$Scene" "permits" "[I", Cond.methodLink RX0 85 yX0_waitsAt, Cond.instanceMethod yX0_waitsAt, Cond.selects RX0 yX0_waitsAt yX0_waitsAt, Cond.code yX0_waitsAt cX0_waitsAt 3 (some .boolean), Cond.methodLink RX0 92 yX0_seeming, Cond.instanceMethod yX0_seeming, Cond.selects RX0 yX0_seeming yX0_seeming, Cond.code yX0_seeming cX0_seeming 2 (some .int), Cond.fieldLink RX0 21 "GoatTower$Scene" "horns" "[I", Cond.methodLink RX0 81 yX0_enter, Cond.instanceMethod yX0_enter, Cond.selects RX0 yX0_enter yX0_enter, Cond.code yX0_enter cX0_enter 5 none, Cond.methodLink RX0 74 yX0_waitOnAt, Cond.instanceMethod yX0_waitOnAt, Cond.selects RX0 yX0_waitOnAt yX0_waitOnAt, Cond.code yX0_waitOnAt cX0_waitOnAt 3 none, Cond.fieldLink RX0 45 "GoatTower$Scene" "waitedInAll" "[I", Cond.fieldLink RX0 18 "GoatTower$Scene" "givenUpAt" "[I"]
def wsL_pass : List Cond := .codeWith yL_pass cL_pass 4 (some .int) [(0, 9, 12, 13)] :: ((wsL_pass_r1 ++ (wsL_pass_r2 ++ wsL_pass_r3)) ++ wsX10 ++ wsX00 ++ (vx_atS RX1 27 "java/lang/IllegalArgumentException" ["java/lang/RuntimeException", "java/lang/Exception"]).filter goodWord)
def wsL_permitsOf : List Cond := .codeWith yL_permitsOf cL_permitsOf 4 (some .int) [(0, 9, 12, 25)] :: ([.classLink RL 25 "java/lang/IndexOutOfBoundsException", .methodLink RL 37 yX1_permitsOf, .instanceMethod yX1_permitsOf, .selects RX1 yX1_permitsOf yX1_permitsOf, .initialized RX1, .code yX1_permitsOf cX1_permitsOf 2 (some .int), .fieldLink RX1 10 "GoatTower" "now" "LGoatTower$Scene;", .fieldLink RX1 59 "GoatTower$Scene" "permits" "[I", .methodLink RX1 56 yX1_checkGate, .instanceMethod yX1_checkGate, .selects RX1 yX1_checkGate yX1_checkGate, .code yX1_checkGate cX1_checkGate 2 none, .classLink RX1 216 "java/lang/IndexOutOfBoundsException", .initialized "java/lang/IndexOutOfBoundsException", .fieldLink RX1 30 "GoatTower$Scene" "gateCount" "I"] ++ wsX10 ++ wsX00 ++ (vx_atS RX1 220 "java/lang/IndexOutOfBoundsException" ["java/lang/RuntimeException", "java/lang/Exception"]).filter goodWord)
def wsL_freeOf : List Cond := .codeWith yL_freeOf cL_freeOf 4 (some .int) [(0, 9, 12, 25)] :: ([.classLink RL 25 "java/lang/IndexOutOfBoundsException", .methodLink RL 40 yX1_freeOf, .instanceMethod yX1_freeOf, .selects RX1 yX1_freeOf yX1_freeOf, .initialized RX1, .code yX1_freeOf cX1_freeOf 2 (some .int), .fieldLink RX1 10 "GoatTower" "now" "LGoatTower$Scene;", .methodLink RX1 56 yX1_checkGate, .instanceMethod yX1_checkGate, .selects RX1 yX1_checkGate yX1_checkGate, .code yX1_checkGate cX1_checkGate 2 none, .classLink RX1 216 "java/lang/IndexOutOfBoundsException", .initialized "java/lang/IndexOutOfBoundsException", .fieldLink RX1 30 "GoatTower$Scene" "gateCount" "I", .methodLink RX1 73 yX0_freePermits, .instanceMethod yX0_freePermits, .selects RX0 yX0_freePermits yX0_freePermits, .initialized RX0, .code yX0_freePermits cX0_freePermits 4 (some .int), .fieldLink RX0 9 "GoatTower$Scene" "permits" "[I", .fieldLink RX0 55 "GoatTower$Scene" "goatCount" "I", .fieldLink RX0 24 "GoatTower$Scene" "state" "[I", .fieldLink RX0 27 "GoatTower$Scene" "gate" "[I", .fieldLink RX0 30 "GoatTower$Scene" "many" "[I"] ++ wsX10 ++ wsX00 ++ (vx_atS RX1 220 "java/lang/IndexOutOfBoundsException" ["java/lang/RuntimeException", "java/lang/Exception"]).filter goodWord)
def wsL_waitingAt_r1 : List Cond := [Cond.classLink RL 25 "java/lang/IndexOutOfBoundsException", Cond.methodLink RL 43 yX1_waitingAt, Cond.instanceMethod yX1_waitingAt, Cond.selects RX1 yX1_waitingAt yX1_waitingAt, Cond.initialized RX1, Cond.code yX1_waitingAt cX1_waitingAt 2 (some .int), Cond.fieldLink RX1 10 "GoatTower" "now" "LGoatTower$Scene;", Cond.methodLink RX1 56 yX1_checkGate, Cond.instanceMethod yX1_checkGate, Cond.selects RX1 yX1_checkGate yX1_checkGate, Cond.code yX1_checkGate cX1_checkGate 2 none, Cond.classLink RX1 216 "java/lang/IndexOutOfBoundsException", Cond.initialized "java/lang/IndexOutOfBoundsException", Cond.fieldLink RX1 30 "GoatTower$Scene" "gateCount" "I", Cond.methodLink RX1 70 yX0_countWaitingAt, Cond.instanceMethod yX0_countWaitingAt, Cond.selects RX0 yX0_countWaitingAt yX0_countWaitingAt, Cond.initialized RX0, Cond.code yX0_countWaitingAt cX0_countWaitingAt 4 (some .int), Cond.fieldLink RX0 55 "GoatTower$Scene" "goatCount" "I", Cond.methodLink RX0 85 yX0_waitsAt, Cond.instanceMethod yX0_waitsAt, Cond.selects RX0 yX0_waitsAt yX0_waitsAt, Cond.code yX0_waitsAt cX0_waitsAt 3 (some .boolean)]
def wsL_waitingAt_r2 : List Cond := [Cond.fieldLink RX0 24 "GoatTower$Scene" "state" "[I", Cond.fieldLink RX0 27 "GoatTower$Scene" "gate" "[I"]
def wsL_waitingAt : List Cond := .codeWith yL_waitingAt cL_waitingAt 4 (some .int) [(0, 9, 12, 25)] :: ((wsL_waitingAt_r1 ++ wsL_waitingAt_r2) ++ wsX10 ++ wsX00 ++ (vx_atS RX1 220 "java/lang/IndexOutOfBoundsException" ["java/lang/RuntimeException", "java/lang/Exception"]).filter goodWord)
def wsL_nextAt_r1 : List Cond := [Cond.classLink RL 25 "java/lang/IndexOutOfBoundsException", Cond.methodLink RL 46 yX1_nextAt, Cond.instanceMethod yX1_nextAt, Cond.selects RX1 yX1_nextAt yX1_nextAt, Cond.initialized RX1, Cond.code yX1_nextAt cX1_nextAt 2 (some .int), Cond.fieldLink RX1 10 "GoatTower" "now" "LGoatTower$Scene;", Cond.methodLink RX1 56 yX1_checkGate, Cond.instanceMethod yX1_checkGate, Cond.selects RX1 yX1_checkGate yX1_checkGate, Cond.code yX1_checkGate cX1_checkGate 2 none, Cond.classLink RX1 216 "java/lang/IndexOutOfBoundsException", Cond.initialized "java/lang/IndexOutOfBoundsException", Cond.fieldLink RX1 30 "GoatTower$Scene" "gateCount" "I", Cond.methodLink RX1 112 yX0_firstIn, Cond.instanceMethod yX0_firstIn, Cond.selects RX0 yX0_firstIn yX0_firstIn, Cond.initialized RX0, Cond.code yX0_firstIn cX0_firstIn 10 (some .int), Cond.fieldLink RX0 15 "GoatTower$Scene" "order" "[I", Cond.fieldLink RX0 55 "GoatTower$Scene" "goatCount" "I", Cond.fieldLink RX0 30 "GoatTower$Scene" "many" "[I", Cond.fieldLink RX0 39 "GoatTower$Scene" "askedAs" "[I", Cond.methodLink RX0 89 yX0_freePermits]
def wsL_nextAt_r2 : List Cond := [Cond.instanceMethod yX0_freePermits, Cond.selects RX0 yX0_freePermits yX0_freePermits, Cond.code yX0_freePermits cX0_freePermits 4 (some .int), Cond.fieldLink RX0 9 "GoatTower$Scene" "permits" "[I", Cond.fieldLink RX0 24 "GoatTower$Scene" "state" "[I", Cond.fieldLink RX0 27 "GoatTower$Scene" "gate" "[I", Cond.methodLink RX0 85 yX0_waitsAt, Cond.instanceMethod yX0_waitsAt, Cond.selects RX0 yX0_waitsAt yX0_waitsAt, Cond.code yX0_waitsAt cX0_waitsAt 3 (some .boolean), Cond.methodLink RX0 92 yX0_seeming, Cond.instanceMethod yX0_seeming, Cond.selects RX0 yX0_seeming yX0_seeming, Cond.code yX0_seeming cX0_seeming 2 (some .int), Cond.fieldLink RX0 21 "GoatTower$Scene" "horns" "[I", Cond.fieldLink RX0 42 "GoatTower$Scene" "waitedForThis" "[I"]
def wsL_nextAt : List Cond := .codeWith yL_nextAt cL_nextAt 4 (some .int) [(0, 9, 12, 25)] :: ((wsL_nextAt_r1 ++ wsL_nextAt_r2) ++ wsX10 ++ wsX00 ++ (vx_atS RX1 220 "java/lang/IndexOutOfBoundsException" ["java/lang/RuntimeException", "java/lang/Exception"]).filter goodWord)
def wsL_stateOf : List Cond := .codeWith yL_stateOf cL_stateOf 4 (some .int) [(0, 9, 12, 25)] :: ([.classLink RL 25 "java/lang/IndexOutOfBoundsException", .methodLink RL 49 yX1_stateOf, .instanceMethod yX1_stateOf, .selects RX1 yX1_stateOf yX1_stateOf, .initialized RX1, .code yX1_stateOf cX1_stateOf 2 (some .int), .fieldLink RX1 10 "GoatTower" "now" "LGoatTower$Scene;", .fieldLink RX1 82 "GoatTower$Scene" "state" "[I", .methodLink RX1 52 yX1_checkGoat, .instanceMethod yX1_checkGoat, .selects RX1 yX1_checkGoat yX1_checkGoat, .code yX1_checkGoat cX1_checkGoat 2 none, .classLink RX1 216 "java/lang/IndexOutOfBoundsException", .initialized "java/lang/IndexOutOfBoundsException", .fieldLink RX1 43 "GoatTower$Scene" "goatCount" "I"] ++ wsX10 ++ wsX00 ++ (vx_atS RX1 220 "java/lang/IndexOutOfBoundsException" ["java/lang/RuntimeException", "java/lang/Exception"]).filter goodWord)
def wsL_gateOf : List Cond := .codeWith yL_gateOf cL_gateOf 4 (some .int) [(0, 9, 12, 25)] :: ([.classLink RL 25 "java/lang/IndexOutOfBoundsException", .methodLink RL 52 yX1_gateOf, .instanceMethod yX1_gateOf, .selects RX1 yX1_gateOf yX1_gateOf, .initialized RX1, .code yX1_gateOf cX1_gateOf 2 (some .int), .fieldLink RX1 10 "GoatTower" "now" "LGoatTower$Scene;", .fieldLink RX1 115 "GoatTower$Scene" "gate" "[I", .methodLink RX1 52 yX1_checkGoat, .instanceMethod yX1_checkGoat, .selects RX1 yX1_checkGoat yX1_checkGoat, .code yX1_checkGoat cX1_checkGoat 2 none, .classLink RX1 216 "java/lang/IndexOutOfBoundsException", .initialized "java/lang/IndexOutOfBoundsException", .fieldLink RX1 43 "GoatTower$Scene" "goatCount" "I"] ++ wsX10 ++ wsX00 ++ (vx_atS RX1 220 "java/lang/IndexOutOfBoundsException" ["java/lang/RuntimeException", "java/lang/Exception"]).filter goodWord)
def wsL_holds : List Cond := .codeWith yL_holds cL_holds 4 (some .int) [(0, 9, 12, 25)] :: ([.classLink RL 25 "java/lang/IndexOutOfBoundsException", .methodLink RL 55 yX1_holds, .instanceMethod yX1_holds, .selects RX1 yX1_holds yX1_holds, .initialized RX1, .code yX1_holds cX1_holds 2 (some .int), .fieldLink RX1 10 "GoatTower" "now" "LGoatTower$Scene;", .methodLink RX1 52 yX1_checkGoat, .instanceMethod yX1_checkGoat, .selects RX1 yX1_checkGoat yX1_checkGoat, .code yX1_checkGoat cX1_checkGoat 2 none, .classLink RX1 216 "java/lang/IndexOutOfBoundsException", .initialized "java/lang/IndexOutOfBoundsException", .fieldLink RX1 43 "GoatTower$Scene" "goatCount" "I", .methodLink RX1 87 yX0_held, .instanceMethod yX0_held, .selects RX0 yX0_held yX0_held, .initialized RX0, .code yX0_held cX0_held 2 (some .int), .fieldLink RX0 24 "GoatTower$Scene" "state" "[I", .fieldLink RX0 30 "GoatTower$Scene" "many" "[I"] ++ wsX10 ++ wsX00 ++ (vx_atS RX1 220 "java/lang/IndexOutOfBoundsException" ["java/lang/RuntimeException", "java/lang/Exception"]).filter goodWord)
def wsL_seemingHorns : List Cond := .codeWith yL_seemingHorns cL_seemingHorns 4 (some .int) [(0, 9, 12, 25)] :: ([.classLink RL 25 "java/lang/IndexOutOfBoundsException", .methodLink RL 58 yX1_seemingHorns, .instanceMethod yX1_seemingHorns, .selects RX1 yX1_seemingHorns yX1_seemingHorns, .initialized RX1, .code yX1_seemingHorns cX1_seemingHorns 2 (some .int), .fieldLink RX1 10 "GoatTower" "now" "LGoatTower$Scene;", .methodLink RX1 52 yX1_checkGoat, .instanceMethod yX1_checkGoat, .selects RX1 yX1_checkGoat yX1_checkGoat, .code yX1_checkGoat cX1_checkGoat 2 none, .classLink RX1 216 "java/lang/IndexOutOfBoundsException", .initialized "java/lang/IndexOutOfBoundsException", .fieldLink RX1 43 "GoatTower$Scene" "goatCount" "I", .methodLink RX1 118 yX0_seeming, .instanceMethod yX0_seeming, .selects RX0 yX0_seeming yX0_seeming, .initialized RX0, .code yX0_seeming cX0_seeming 2 (some .int), .fieldLink RX0 21 "GoatTower$Scene" "horns" "[I", .fieldLink RX0 42 "GoatTower$Scene" "waitedForThis" "[I"] ++ wsX10 ++ wsX00 ++ (vx_atS RX1 220 "java/lang/IndexOutOfBoundsException" ["java/lang/RuntimeException", "java/lang/Exception"]).filter goodWord)
def wsL_minutesLeft : List Cond := .codeWith yL_minutesLeft cL_minutesLeft 4 (some .int) [(0, 9, 12, 25)] :: ([.classLink RL 25 "java/lang/IndexOutOfBoundsException", .methodLink RL 61 yX1_minutesLeft, .instanceMethod yX1_minutesLeft, .selects RX1 yX1_minutesLeft yX1_minutesLeft, .initialized RX1, .code yX1_minutesLeft cX1_minutesLeft 2 (some .int), .fieldLink RX1 10 "GoatTower" "now" "LGoatTower$Scene;", .fieldLink RX1 121 "GoatTower$Scene" "left" "[I", .methodLink RX1 52 yX1_checkGoat, .instanceMethod yX1_checkGoat, .selects RX1 yX1_checkGoat yX1_checkGoat, .code yX1_checkGoat cX1_checkGoat 2 none, .classLink RX1 216 "java/lang/IndexOutOfBoundsException", .initialized "java/lang/IndexOutOfBoundsException", .fieldLink RX1 43 "GoatTower$Scene" "goatCount" "I"] ++ wsX10 ++ wsX00 ++ (vx_atS RX1 220 "java/lang/IndexOutOfBoundsException" ["java/lang/RuntimeException", "java/lang/Exception"]).filter goodWord)
def wsL_waitedOf : List Cond := .codeWith yL_waitedOf cL_waitedOf 4 (some .int) [(0, 9, 12, 25)] :: ([.classLink RL 25 "java/lang/IndexOutOfBoundsException", .methodLink RL 64 yX1_waitedOf, .instanceMethod yX1_waitedOf, .selects RX1 yX1_waitedOf yX1_waitedOf, .initialized RX1, .code yX1_waitedOf cX1_waitedOf 2 (some .int), .fieldLink RX1 10 "GoatTower" "now" "LGoatTower$Scene;", .fieldLink RX1 124 "GoatTower$Scene" "waitedInAll" "[I", .methodLink RX1 52 yX1_checkGoat, .instanceMethod yX1_checkGoat, .selects RX1 yX1_checkGoat yX1_checkGoat, .code yX1_checkGoat cX1_checkGoat 2 none, .classLink RX1 216 "java/lang/IndexOutOfBoundsException", .initialized "java/lang/IndexOutOfBoundsException", .fieldLink RX1 43 "GoatTower$Scene" "goatCount" "I"] ++ wsX10 ++ wsX00 ++ (vx_atS RX1 220 "java/lang/IndexOutOfBoundsException" ["java/lang/RuntimeException", "java/lang/Exception"]).filter goodWord)
def wsL_placeInLine_r1 : List Cond := [Cond.classLink RL 25 "java/lang/IndexOutOfBoundsException", Cond.methodLink RL 67 yX1_placeInLine, Cond.instanceMethod yX1_placeInLine, Cond.selects RX1 yX1_placeInLine yX1_placeInLine, Cond.initialized RX1, Cond.code yX1_placeInLine cX1_placeInLine 2 (some .int), Cond.fieldLink RX1 10 "GoatTower" "now" "LGoatTower$Scene;", Cond.fieldLink RX1 82 "GoatTower$Scene" "state" "[I", Cond.methodLink RX1 52 yX1_checkGoat, Cond.instanceMethod yX1_checkGoat, Cond.selects RX1 yX1_checkGoat yX1_checkGoat, Cond.code yX1_checkGoat cX1_checkGoat 2 none, Cond.classLink RX1 216 "java/lang/IndexOutOfBoundsException", Cond.initialized "java/lang/IndexOutOfBoundsException", Cond.fieldLink RX1 43 "GoatTower$Scene" "goatCount" "I", Cond.methodLink RX1 127 yX0_countAheadOf, Cond.instanceMethod yX0_countAheadOf, Cond.selects RX0 yX0_countAheadOf yX0_countAheadOf, Cond.initialized RX0, Cond.code yX0_countAheadOf cX0_countAheadOf 4 (some .int), Cond.fieldLink RX0 55 "GoatTower$Scene" "goatCount" "I", Cond.fieldLink RX0 27 "GoatTower$Scene" "gate" "[I", Cond.fieldLink RX0 39 "GoatTower$Scene" "askedAs" "[I", Cond.methodLink RX0 85 yX0_waitsAt]
def wsL_placeInLine_r2 : List Cond := [Cond.instanceMethod yX0_waitsAt, Cond.selects RX0 yX0_waitsAt yX0_waitsAt, Cond.code yX0_waitsAt cX0_waitsAt 3 (some .boolean), Cond.fieldLink RX0 24 "GoatTower$Scene" "state" "[I"]
def wsL_placeInLine : List Cond := .codeWith yL_placeInLine cL_placeInLine 4 (some .int) [(0, 9, 12, 25)] :: ((wsL_placeInLine_r1 ++ wsL_placeInLine_r2) ++ wsX10 ++ wsX00 ++ (vx_atS RX1 220 "java/lang/IndexOutOfBoundsException" ["java/lang/RuntimeException", "java/lang/Exception"]).filter goodWord)
def wsL_minutesUntilIn_r1 : List Cond := [Cond.classLink RL 25 "java/lang/IndexOutOfBoundsException", Cond.methodLink RL 70 yX1_minutesUntilIn, Cond.instanceMethod yX1_minutesUntilIn, Cond.selects RX1 yX1_minutesUntilIn yX1_minutesUntilIn, Cond.initialized RX1, Cond.code yX1_minutesUntilIn cX1_minutesUntilIn 3 (some .int), Cond.fieldLink RX1 16 "GoatTower" "ahead" "LGoatTower$Scene;", Cond.fieldLink RX1 10 "GoatTower" "now" "LGoatTower$Scene;", Cond.fieldLink RX1 82 "GoatTower$Scene" "state" "[I", Cond.methodLink RX1 52 yX1_checkGoat, Cond.instanceMethod yX1_checkGoat, Cond.selects RX1 yX1_checkGoat yX1_checkGoat, Cond.code yX1_checkGoat cX1_checkGoat 2 none, Cond.classLink RX1 216 "java/lang/IndexOutOfBoundsException", Cond.initialized "java/lang/IndexOutOfBoundsException", Cond.fieldLink RX1 43 "GoatTower$Scene" "goatCount" "I", Cond.methodLink RX1 130 yX0_become, Cond.instanceMethod yX0_become, Cond.selects RX0 yX0_become yX0_become, Cond.initialized RX0, Cond.code yX0_become cX0_become 3 none, Cond.fieldLink RX0 48 "GoatTower$Scene" "minute" "I", Cond.fieldLink RX0 52 "GoatTower$Scene" "gateCount" "I", Cond.fieldLink RX0 55 "GoatTower$Scene" "goatCount" "I"]
def wsL_minutesUntilIn_r2 : List Cond := [Cond.fieldLink RX0 58 "GoatTower$Scene" "askCount" "I", Cond.fieldLink RX0 61 "GoatTower$Scene" "letInCount" "I", Cond.fieldLink RX0 9 "GoatTower$Scene" "permits" "[I", Cond.fieldLink RX0 15 "GoatTower$Scene" "order" "[I", Cond.fieldLink RX0 18 "GoatTower$Scene" "givenUpAt" "[I", Cond.fieldLink RX0 21 "GoatTower$Scene" "horns" "[I", Cond.fieldLink RX0 24 "GoatTower$Scene" "state" "[I", Cond.fieldLink RX0 27 "GoatTower$Scene" "gate" "[I", Cond.fieldLink RX0 30 "GoatTower$Scene" "many" "[I", Cond.fieldLink RX0 33 "GoatTower$Scene" "stay" "[I", Cond.fieldLink RX0 36 "GoatTower$Scene" "left" "[I", Cond.fieldLink RX0 39 "GoatTower$Scene" "askedAs" "[I", Cond.fieldLink RX0 42 "GoatTower$Scene" "waitedForThis" "[I", Cond.fieldLink RX0 45 "GoatTower$Scene" "waitedInAll" "[I", Cond.methodLink RX1 96 yX0_liveAMinute, Cond.instanceMethod yX0_liveAMinute, Cond.selects RX0 yX0_liveAMinute yX0_liveAMinute, Cond.code yX0_liveAMinute cX0_liveAMinute 2 none, Cond.methodLink RX0 68 yX0_leaveThoseWhoStayed, Cond.instanceMethod yX0_leaveThoseWhoStayed, Cond.selects RX0 yX0_leaveThoseWhoStayed yX0_leaveThoseWhoStayed, Cond.code yX0_leaveThoseWhoStayed cX0_leaveThoseWhoStayed 2 none, Cond.methodLink RX0 64 yX0_rest, Cond.instanceMethod yX0_rest]
def wsL_minutesUntilIn_r3 : List Cond := [Cond.selects RX0 yX0_rest yX0_rest, Cond.code yX0_rest cX0_rest 2 none, Cond.methodLink RX0 71 yX0_letInThrough, Cond.instanceMethod yX0_letInThrough, Cond.selects RX0 yX0_letInThrough yX0_letInThrough, Cond.code yX0_letInThrough cX0_letInThrough 4 none, Cond.methodLink RX0 77 yX0_firstIn, Cond.instanceMethod yX0_firstIn, Cond.selects RX0 yX0_firstIn yX0_firstIn, Cond.code yX0_firstIn cX0_firstIn 10 (some .int), Cond.methodLink RX0 89 yX0_freePermits, Cond.instanceMethod yX0_freePermits, Cond.selects RX0 yX0_freePermits yX0_freePermits, Cond.code yX0_freePermits cX0_freePermits 4 (some .int), Cond.methodLink RX0 85 yX0_waitsAt, Cond.instanceMethod yX0_waitsAt, Cond.selects RX0 yX0_waitsAt yX0_waitsAt, Cond.code yX0_waitsAt cX0_waitsAt 3 (some .boolean), Cond.methodLink RX0 92 yX0_seeming, Cond.instanceMethod yX0_seeming, Cond.selects RX0 yX0_seeming yX0_seeming, Cond.code yX0_seeming cX0_seeming 2 (some .int), Cond.methodLink RX0 81 yX0_enter, Cond.instanceMethod yX0_enter]
def wsL_minutesUntilIn_r4 : List Cond := [Cond.selects RX0 yX0_enter yX0_enter, Cond.code yX0_enter cX0_enter 5 none, Cond.methodLink RX0 74 yX0_waitOnAt, Cond.instanceMethod yX0_waitOnAt, Cond.selects RX0 yX0_waitOnAt yX0_waitOnAt, Cond.code yX0_waitOnAt cX0_waitOnAt 3 none]
def wsL_minutesUntilIn : List Cond := .codeWith yL_minutesUntilIn cL_minutesUntilIn 4 (some .int) [(0, 9, 12, 25)] :: ((wsL_minutesUntilIn_r1 ++ (wsL_minutesUntilIn_r2 ++ (wsL_minutesUntilIn_r3 ++ wsL_minutesUntilIn_r4))) ++ wsX10 ++ wsX00 ++ (vx_atS RX1 220 "java/lang/IndexOutOfBoundsException" ["java/lang/RuntimeException", "java/lang/Exception"]).filter goodWord)
def wsL_givingUpIn_r1 : List Cond := [Cond.classLink RL 13 "java/lang/IllegalArgumentException", Cond.methodLink RL 73 yX1_givingUpIn, Cond.instanceMethod yX1_givingUpIn, Cond.selects RX1 yX1_givingUpIn yX1_givingUpIn, Cond.initialized RX1, Cond.code yX1_givingUpIn cX1_givingUpIn 3 (some .int), Cond.fieldLink RX1 16 "GoatTower" "ahead" "LGoatTower$Scene;", Cond.fieldLink RX1 10 "GoatTower" "now" "LGoatTower$Scene;", Cond.methodLink RX1 19 yX1_checkNumber, Cond.static yX1_checkNumber, Cond.code yX1_checkNumber cX1_checkNumber 2 none, Cond.classLink RX1 23 "java/lang/IllegalArgumentException", Cond.initialized "java/lang/IllegalArgumentException", Cond.methodLink RX1 130 yX0_become, Cond.instanceMethod yX0_become, Cond.selects RX0 yX0_become yX0_become, Cond.initialized RX0, Cond.code yX0_become cX0_become 3 none, Cond.fieldLink RX0 48 "GoatTower$Scene" "minute" "I", Cond.fieldLink RX0 52 "GoatTower$Scene" "gateCount" "I", Cond.fieldLink RX0 55 "GoatTower$Scene" "goatCount" "I", Cond.fieldLink RX0 58 "GoatTower$Scene" "askCount" "I", Cond.fieldLink RX0 61 "GoatTower$Scene" "letInCount" "I", Cond.fieldLink RX0 9 "GoatTower$Scene" "permits" "[I"]
def wsL_givingUpIn_r2 : List Cond := [Cond.fieldLink RX0 15 "GoatTower$Scene" "order" "[I", Cond.fieldLink RX0 18 "GoatTower$Scene" "givenUpAt" "[I", Cond.fieldLink RX0 21 "GoatTower$Scene" "horns" "[I", Cond.fieldLink RX0 24 "GoatTower$Scene" "state" "[I", Cond.fieldLink RX0 27 "GoatTower$Scene" "gate" "[I", Cond.fieldLink RX0 30 "GoatTower$Scene" "many" "[I", Cond.fieldLink RX0 33 "GoatTower$Scene" "stay" "[I", Cond.fieldLink RX0 36 "GoatTower$Scene" "left" "[I", Cond.fieldLink RX0 39 "GoatTower$Scene" "askedAs" "[I", Cond.fieldLink RX0 42 "GoatTower$Scene" "waitedForThis" "[I", Cond.fieldLink RX0 45 "GoatTower$Scene" "waitedInAll" "[I", Cond.methodLink RX1 96 yX0_liveAMinute, Cond.instanceMethod yX0_liveAMinute, Cond.selects RX0 yX0_liveAMinute yX0_liveAMinute, Cond.code yX0_liveAMinute cX0_liveAMinute 2 none, Cond.methodLink RX0 68 yX0_leaveThoseWhoStayed, Cond.instanceMethod yX0_leaveThoseWhoStayed, Cond.selects RX0 yX0_leaveThoseWhoStayed yX0_leaveThoseWhoStayed, Cond.code yX0_leaveThoseWhoStayed cX0_leaveThoseWhoStayed 2 none, Cond.methodLink RX0 64 yX0_rest, Cond.instanceMethod yX0_rest, Cond.selects RX0 yX0_rest yX0_rest, Cond.code yX0_rest cX0_rest 2 none, Cond.methodLink RX0 71 yX0_letInThrough]
def wsL_givingUpIn_r3 : List Cond := [Cond.instanceMethod yX0_letInThrough, Cond.selects RX0 yX0_letInThrough yX0_letInThrough, Cond.code yX0_letInThrough cX0_letInThrough 4 none, Cond.methodLink RX0 77 yX0_firstIn, Cond.instanceMethod yX0_firstIn, Cond.selects RX0 yX0_firstIn yX0_firstIn, Cond.code yX0_firstIn cX0_firstIn 10 (some .int), Cond.methodLink RX0 89 yX0_freePermits, Cond.instanceMethod yX0_freePermits, Cond.selects RX0 yX0_freePermits yX0_freePermits, Cond.code yX0_freePermits cX0_freePermits 4 (some .int), Cond.methodLink RX0 85 yX0_waitsAt, Cond.instanceMethod yX0_waitsAt, Cond.selects RX0 yX0_waitsAt yX0_waitsAt, Cond.code yX0_waitsAt cX0_waitsAt 3 (some .boolean), Cond.methodLink RX0 92 yX0_seeming, Cond.instanceMethod yX0_seeming, Cond.selects RX0 yX0_seeming yX0_seeming, Cond.code yX0_seeming cX0_seeming 2 (some .int), Cond.methodLink RX0 81 yX0_enter, Cond.instanceMethod yX0_enter, Cond.selects RX0 yX0_enter yX0_enter, Cond.code yX0_enter cX0_enter 5 none, Cond.methodLink RX0 74 yX0_waitOnAt]
def wsL_givingUpIn_r4 : List Cond := [Cond.instanceMethod yX0_waitOnAt, Cond.selects RX0 yX0_waitOnAt yX0_waitOnAt, Cond.code yX0_waitOnAt cX0_waitOnAt 3 none, Cond.methodLink RX1 109 yX0_givenUpInAll, Cond.instanceMethod yX0_givenUpInAll, Cond.selects RX0 yX0_givenUpInAll yX0_givenUpInAll, Cond.code yX0_givenUpInAll cX0_givenUpInAll 3 (some .int)]
def wsL_givingUpIn : List Cond := .codeWith yL_givingUpIn cL_givingUpIn 4 (some .int) [(0, 9, 12, 13)] :: ((wsL_givingUpIn_r1 ++ (wsL_givingUpIn_r2 ++ (wsL_givingUpIn_r3 ++ wsL_givingUpIn_r4))) ++ wsX10 ++ wsX00 ++ (vx_atS RX1 27 "java/lang/IllegalArgumentException" ["java/lang/RuntimeException", "java/lang/Exception"]).filter goodWord)
def wsL_permitsWanted_r1 : List Cond := [Cond.classLink RL 25 "java/lang/IndexOutOfBoundsException", Cond.methodLink RL 76 yX1_permitsWanted, Cond.instanceMethod yX1_permitsWanted, Cond.selects RX1 yX1_permitsWanted yX1_permitsWanted, Cond.initialized RX1, Cond.code yX1_permitsWanted cX1_permitsWanted 3 (some .int), Cond.fieldLink RX1 10 "GoatTower" "now" "LGoatTower$Scene;", Cond.fieldLink RX1 59 "GoatTower$Scene" "permits" "[I", Cond.fieldLink RX1 134 "GoatTower$Scene" "order" "[I", Cond.methodLink RX1 56 yX1_checkGate, Cond.instanceMethod yX1_checkGate, Cond.selects RX1 yX1_checkGate yX1_checkGate, Cond.code yX1_checkGate cX1_checkGate 2 none, Cond.classLink RX1 216 "java/lang/IndexOutOfBoundsException", Cond.initialized "java/lang/IndexOutOfBoundsException", Cond.fieldLink RX1 30 "GoatTower$Scene" "gateCount" "I", Cond.methodLink RX1 137 yX1_givingUpWith, Cond.instanceMethod yX1_givingUpWith, Cond.selects RX1 yX1_givingUpWith yX1_givingUpWith, Cond.code yX1_givingUpWith cX1_givingUpWith 5 (some .int), Cond.fieldLink RX1 16 "GoatTower" "ahead" "LGoatTower$Scene;", Cond.fieldLink RX1 213 "GoatTower$Scene" "givenUpAt" "[I", Cond.methodLink RX1 130 yX0_become, Cond.instanceMethod yX0_become]
def wsL_permitsWanted_r2 : List Cond := [Cond.selects RX0 yX0_become yX0_become, Cond.initialized RX0, Cond.code yX0_become cX0_become 3 none, Cond.fieldLink RX0 48 "GoatTower$Scene" "minute" "I", Cond.fieldLink RX0 52 "GoatTower$Scene" "gateCount" "I", Cond.fieldLink RX0 55 "GoatTower$Scene" "goatCount" "I", Cond.fieldLink RX0 58 "GoatTower$Scene" "askCount" "I", Cond.fieldLink RX0 61 "GoatTower$Scene" "letInCount" "I", Cond.fieldLink RX0 9 "GoatTower$Scene" "permits" "[I", Cond.fieldLink RX0 15 "GoatTower$Scene" "order" "[I", Cond.fieldLink RX0 18 "GoatTower$Scene" "givenUpAt" "[I", Cond.fieldLink RX0 21 "GoatTower$Scene" "horns" "[I", Cond.fieldLink RX0 24 "GoatTower$Scene" "state" "[I", Cond.fieldLink RX0 27 "GoatTower$Scene" "gate" "[I", Cond.fieldLink RX0 30 "GoatTower$Scene" "many" "[I", Cond.fieldLink RX0 33 "GoatTower$Scene" "stay" "[I", Cond.fieldLink RX0 36 "GoatTower$Scene" "left" "[I", Cond.fieldLink RX0 39 "GoatTower$Scene" "askedAs" "[I", Cond.fieldLink RX0 42 "GoatTower$Scene" "waitedForThis" "[I", Cond.fieldLink RX0 45 "GoatTower$Scene" "waitedInAll" "[I", Cond.methodLink RX1 70 yX0_countWaitingAt, Cond.instanceMethod yX0_countWaitingAt, Cond.selects RX0 yX0_countWaitingAt yX0_countWaitingAt, Cond.code yX0_countWaitingAt cX0_countWaitingAt 4 (some .int)]
def wsL_permitsWanted_r3 : List Cond := [Cond.methodLink RX0 85 yX0_waitsAt, Cond.instanceMethod yX0_waitsAt, Cond.selects RX0 yX0_waitsAt yX0_waitsAt, Cond.code yX0_waitsAt cX0_waitsAt 3 (some .boolean), Cond.methodLink RX1 96 yX0_liveAMinute, Cond.instanceMethod yX0_liveAMinute, Cond.selects RX0 yX0_liveAMinute yX0_liveAMinute, Cond.code yX0_liveAMinute cX0_liveAMinute 2 none, Cond.methodLink RX0 68 yX0_leaveThoseWhoStayed, Cond.instanceMethod yX0_leaveThoseWhoStayed, Cond.selects RX0 yX0_leaveThoseWhoStayed yX0_leaveThoseWhoStayed, Cond.code yX0_leaveThoseWhoStayed cX0_leaveThoseWhoStayed 2 none, Cond.methodLink RX0 64 yX0_rest, Cond.instanceMethod yX0_rest, Cond.selects RX0 yX0_rest yX0_rest, Cond.code yX0_rest cX0_rest 2 none, Cond.methodLink RX0 71 yX0_letInThrough, Cond.instanceMethod yX0_letInThrough, Cond.selects RX0 yX0_letInThrough yX0_letInThrough, Cond.code yX0_letInThrough cX0_letInThrough 4 none, Cond.methodLink RX0 77 yX0_firstIn, Cond.instanceMethod yX0_firstIn, Cond.selects RX0 yX0_firstIn yX0_firstIn, Cond.code yX0_firstIn cX0_firstIn 10 (some .int)]
def wsL_permitsWanted_r4 : List Cond := [Cond.methodLink RX0 89 yX0_freePermits, Cond.instanceMethod yX0_freePermits, Cond.selects RX0 yX0_freePermits yX0_freePermits, Cond.code yX0_freePermits cX0_freePermits 4 (some .int), Cond.methodLink RX0 92 yX0_seeming, Cond.instanceMethod yX0_seeming, Cond.selects RX0 yX0_seeming yX0_seeming, Cond.code yX0_seeming cX0_seeming 2 (some .int), Cond.methodLink RX0 81 yX0_enter, Cond.instanceMethod yX0_enter, Cond.selects RX0 yX0_enter yX0_enter, Cond.code yX0_enter cX0_enter 5 none, Cond.methodLink RX0 74 yX0_waitOnAt, Cond.instanceMethod yX0_waitOnAt, Cond.selects RX0 yX0_waitOnAt yX0_waitOnAt, Cond.code yX0_waitOnAt cX0_waitOnAt 3 none]
def wsL_permitsWanted : List Cond := .codeWith yL_permitsWanted cL_permitsWanted 4 (some .int) [(0, 9, 12, 25)] :: ((wsL_permitsWanted_r1 ++ (wsL_permitsWanted_r2 ++ (wsL_permitsWanted_r3 ++ wsL_permitsWanted_r4))) ++ wsX10 ++ wsX00 ++ (vx_atS RX1 220 "java/lang/IndexOutOfBoundsException" ["java/lang/RuntimeException", "java/lang/Exception"]).filter goodWord)
def wsL_bestOrder_r1 : List Cond := [Cond.classLink RL 25 "java/lang/IndexOutOfBoundsException", Cond.methodLink RL 79 yX1_bestOrder, Cond.instanceMethod yX1_bestOrder, Cond.selects RX1 yX1_bestOrder yX1_bestOrder, Cond.initialized RX1, Cond.code yX1_bestOrder cX1_bestOrder 4 (some .int), Cond.fieldLink RX1 10 "GoatTower" "now" "LGoatTower$Scene;", Cond.fieldLink RX1 59 "GoatTower$Scene" "permits" "[I", Cond.methodLink RX1 56 yX1_checkGate, Cond.instanceMethod yX1_checkGate, Cond.selects RX1 yX1_checkGate yX1_checkGate, Cond.code yX1_checkGate cX1_checkGate 2 none, Cond.classLink RX1 216 "java/lang/IndexOutOfBoundsException", Cond.initialized "java/lang/IndexOutOfBoundsException", Cond.fieldLink RX1 30 "GoatTower$Scene" "gateCount" "I", Cond.methodLink RX1 137 yX1_givingUpWith, Cond.instanceMethod yX1_givingUpWith, Cond.selects RX1 yX1_givingUpWith yX1_givingUpWith, Cond.code yX1_givingUpWith cX1_givingUpWith 5 (some .int), Cond.fieldLink RX1 16 "GoatTower" "ahead" "LGoatTower$Scene;", Cond.fieldLink RX1 134 "GoatTower$Scene" "order" "[I", Cond.fieldLink RX1 213 "GoatTower$Scene" "givenUpAt" "[I", Cond.methodLink RX1 130 yX0_become, Cond.instanceMethod yX0_become]
def wsL_bestOrder_r2 : List Cond := [Cond.selects RX0 yX0_become yX0_become, Cond.initialized RX0, Cond.code yX0_become cX0_become 3 none, Cond.fieldLink RX0 48 "GoatTower$Scene" "minute" "I", Cond.fieldLink RX0 52 "GoatTower$Scene" "gateCount" "I", Cond.fieldLink RX0 55 "GoatTower$Scene" "goatCount" "I", Cond.fieldLink RX0 58 "GoatTower$Scene" "askCount" "I", Cond.fieldLink RX0 61 "GoatTower$Scene" "letInCount" "I", Cond.fieldLink RX0 9 "GoatTower$Scene" "permits" "[I", Cond.fieldLink RX0 15 "GoatTower$Scene" "order" "[I", Cond.fieldLink RX0 18 "GoatTower$Scene" "givenUpAt" "[I", Cond.fieldLink RX0 21 "GoatTower$Scene" "horns" "[I", Cond.fieldLink RX0 24 "GoatTower$Scene" "state" "[I", Cond.fieldLink RX0 27 "GoatTower$Scene" "gate" "[I", Cond.fieldLink RX0 30 "GoatTower$Scene" "many" "[I", Cond.fieldLink RX0 33 "GoatTower$Scene" "stay" "[I", Cond.fieldLink RX0 36 "GoatTower$Scene" "left" "[I", Cond.fieldLink RX0 39 "GoatTower$Scene" "askedAs" "[I", Cond.fieldLink RX0 42 "GoatTower$Scene" "waitedForThis" "[I", Cond.fieldLink RX0 45 "GoatTower$Scene" "waitedInAll" "[I", Cond.methodLink RX1 70 yX0_countWaitingAt, Cond.instanceMethod yX0_countWaitingAt, Cond.selects RX0 yX0_countWaitingAt yX0_countWaitingAt, Cond.code yX0_countWaitingAt cX0_countWaitingAt 4 (some .int)]
def wsL_bestOrder_r3 : List Cond := [Cond.methodLink RX0 85 yX0_waitsAt, Cond.instanceMethod yX0_waitsAt, Cond.selects RX0 yX0_waitsAt yX0_waitsAt, Cond.code yX0_waitsAt cX0_waitsAt 3 (some .boolean), Cond.methodLink RX1 96 yX0_liveAMinute, Cond.instanceMethod yX0_liveAMinute, Cond.selects RX0 yX0_liveAMinute yX0_liveAMinute, Cond.code yX0_liveAMinute cX0_liveAMinute 2 none, Cond.methodLink RX0 68 yX0_leaveThoseWhoStayed, Cond.instanceMethod yX0_leaveThoseWhoStayed, Cond.selects RX0 yX0_leaveThoseWhoStayed yX0_leaveThoseWhoStayed, Cond.code yX0_leaveThoseWhoStayed cX0_leaveThoseWhoStayed 2 none, Cond.methodLink RX0 64 yX0_rest, Cond.instanceMethod yX0_rest, Cond.selects RX0 yX0_rest yX0_rest, Cond.code yX0_rest cX0_rest 2 none, Cond.methodLink RX0 71 yX0_letInThrough, Cond.instanceMethod yX0_letInThrough, Cond.selects RX0 yX0_letInThrough yX0_letInThrough, Cond.code yX0_letInThrough cX0_letInThrough 4 none, Cond.methodLink RX0 77 yX0_firstIn, Cond.instanceMethod yX0_firstIn, Cond.selects RX0 yX0_firstIn yX0_firstIn, Cond.code yX0_firstIn cX0_firstIn 10 (some .int)]
def wsL_bestOrder_r4 : List Cond := [Cond.methodLink RX0 89 yX0_freePermits, Cond.instanceMethod yX0_freePermits, Cond.selects RX0 yX0_freePermits yX0_freePermits, Cond.code yX0_freePermits cX0_freePermits 4 (some .int), Cond.methodLink RX0 92 yX0_seeming, Cond.instanceMethod yX0_seeming, Cond.selects RX0 yX0_seeming yX0_seeming, Cond.code yX0_seeming cX0_seeming 2 (some .int), Cond.methodLink RX0 81 yX0_enter, Cond.instanceMethod yX0_enter, Cond.selects RX0 yX0_enter yX0_enter, Cond.code yX0_enter cX0_enter 5 none, Cond.methodLink RX0 74 yX0_waitOnAt, Cond.instanceMethod yX0_waitOnAt, Cond.selects RX0 yX0_waitOnAt yX0_waitOnAt, Cond.code yX0_waitOnAt cX0_waitOnAt 3 none]
theorem dX0_init_0 : decode cX0_init 0 = .ok (.aload_n 0, 1) := by decide +kernel
theorem dX0_init_1 : decode cX0_init 1 = .ok (.invokespecial 3, 3) := by decide +kernel
theorem dX0_init_4 : decode cX0_init 4 = .ok (.aload_n 0, 1) := by decide +kernel
theorem dX0_init_5 : decode cX0_init 5 = .ok (.iconst 4, 1) := by decide +kernel
theorem dX0_init_6 : decode cX0_init 6 = .ok (.newarray .int, 2) := by decide +kernel
theorem dX0_init_8 : decode cX0_init 8 = .ok (.putfield 9, 3) := by decide +kernel
theorem dX0_init_11 : decode cX0_init 11 = .ok (.aload_n 0, 1) := by decide +kernel
theorem dX0_init_12 : decode cX0_init 12 = .ok (.iconst 4, 1) := by decide +kernel
theorem dX0_init_13 : decode cX0_init 13 = .ok (.newarray .int, 2) := by decide +kernel
theorem dX0_init_15 : decode cX0_init 15 = .ok (.putfield 15, 3) := by decide +kernel
theorem dX0_init_18 : decode cX0_init 18 = .ok (.aload_n 0, 1) := by decide +kernel
theorem dX0_init_19 : decode cX0_init 19 = .ok (.iconst 4, 1) := by decide +kernel
theorem dX0_init_20 : decode cX0_init 20 = .ok (.newarray .int, 2) := by decide +kernel
theorem dX0_init_22 : decode cX0_init 22 = .ok (.putfield 18, 3) := by decide +kernel
theorem dX0_init_25 : decode cX0_init 25 = .ok (.aload_n 0, 1) := by decide +kernel
theorem dX0_init_26 : decode cX0_init 26 = .ok (.bipush 12, 2) := by decide +kernel
theorem dX0_init_28 : decode cX0_init 28 = .ok (.newarray .int, 2) := by decide +kernel
theorem dX0_init_30 : decode cX0_init 30 = .ok (.putfield 21, 3) := by decide +kernel
theorem dX0_init_33 : decode cX0_init 33 = .ok (.aload_n 0, 1) := by decide +kernel
theorem dX0_init_34 : decode cX0_init 34 = .ok (.bipush 12, 2) := by decide +kernel
theorem dX0_init_36 : decode cX0_init 36 = .ok (.newarray .int, 2) := by decide +kernel
theorem dX0_init_38 : decode cX0_init 38 = .ok (.putfield 24, 3) := by decide +kernel
theorem dX0_init_41 : decode cX0_init 41 = .ok (.aload_n 0, 1) := by decide +kernel
theorem dX0_init_42 : decode cX0_init 42 = .ok (.bipush 12, 2) := by decide +kernel
theorem dX0_init_44 : decode cX0_init 44 = .ok (.newarray .int, 2) := by decide +kernel
theorem dX0_init_46 : decode cX0_init 46 = .ok (.putfield 27, 3) := by decide +kernel
theorem dX0_init_49 : decode cX0_init 49 = .ok (.aload_n 0, 1) := by decide +kernel
theorem dX0_init_50 : decode cX0_init 50 = .ok (.bipush 12, 2) := by decide +kernel
theorem dX0_init_52 : decode cX0_init 52 = .ok (.newarray .int, 2) := by decide +kernel
theorem dX0_init_54 : decode cX0_init 54 = .ok (.putfield 30, 3) := by decide +kernel
theorem dX0_init_57 : decode cX0_init 57 = .ok (.aload_n 0, 1) := by decide +kernel
theorem dX0_init_58 : decode cX0_init 58 = .ok (.bipush 12, 2) := by decide +kernel
theorem dX0_init_60 : decode cX0_init 60 = .ok (.newarray .int, 2) := by decide +kernel
theorem dX0_init_62 : decode cX0_init 62 = .ok (.putfield 33, 3) := by decide +kernel
theorem dX0_init_65 : decode cX0_init 65 = .ok (.aload_n 0, 1) := by decide +kernel
theorem dX0_init_66 : decode cX0_init 66 = .ok (.bipush 12, 2) := by decide +kernel
theorem dX0_init_68 : decode cX0_init 68 = .ok (.newarray .int, 2) := by decide +kernel
theorem dX0_init_70 : decode cX0_init 70 = .ok (.putfield 36, 3) := by decide +kernel
theorem dX0_init_73 : decode cX0_init 73 = .ok (.aload_n 0, 1) := by decide +kernel
theorem dX0_init_74 : decode cX0_init 74 = .ok (.bipush 12, 2) := by decide +kernel
theorem dX0_init_76 : decode cX0_init 76 = .ok (.newarray .int, 2) := by decide +kernel
theorem dX0_init_78 : decode cX0_init 78 = .ok (.putfield 39, 3) := by decide +kernel
theorem dX0_init_81 : decode cX0_init 81 = .ok (.aload_n 0, 1) := by decide +kernel
theorem dX0_init_82 : decode cX0_init 82 = .ok (.bipush 12, 2) := by decide +kernel
theorem dX0_init_84 : decode cX0_init 84 = .ok (.newarray .int, 2) := by decide +kernel
theorem dX0_init_86 : decode cX0_init 86 = .ok (.putfield 42, 3) := by decide +kernel
theorem dX0_init_89 : decode cX0_init 89 = .ok (.aload_n 0, 1) := by decide +kernel
theorem dX0_init_90 : decode cX0_init 90 = .ok (.bipush 12, 2) := by decide +kernel
theorem dX0_init_92 : decode cX0_init 92 = .ok (.newarray .int, 2) := by decide +kernel
theorem dX0_init_94 : decode cX0_init 94 = .ok (.putfield 45, 3) := by decide +kernel
theorem dX0_init_97 : decode cX0_init 97 = .ok (.return_, 1) := by decide +kernel
theorem dX0_become_0 : decode cX0_become 0 = .ok (.aload_n 0, 1) := by decide +kernel
theorem dX0_become_1 : decode cX0_become 1 = .ok (.aload_n 1, 1) := by decide +kernel
theorem dX0_become_2 : decode cX0_become 2 = .ok (.getfield 48, 3) := by decide +kernel
theorem dX0_become_5 : decode cX0_become 5 = .ok (.putfield 48, 3) := by decide +kernel
theorem dX0_become_8 : decode cX0_become 8 = .ok (.aload_n 0, 1) := by decide +kernel
theorem dX0_become_9 : decode cX0_become 9 = .ok (.aload_n 1, 1) := by decide +kernel
theorem dX0_become_10 : decode cX0_become 10 = .ok (.getfield 52, 3) := by decide +kernel
theorem dX0_become_13 : decode cX0_become 13 = .ok (.putfield 52, 3) := by decide +kernel
theorem dX0_become_16 : decode cX0_become 16 = .ok (.aload_n 0, 1) := by decide +kernel
theorem dX0_become_17 : decode cX0_become 17 = .ok (.aload_n 1, 1) := by decide +kernel
theorem dX0_become_18 : decode cX0_become 18 = .ok (.getfield 55, 3) := by decide +kernel
theorem dX0_become_21 : decode cX0_become 21 = .ok (.putfield 55, 3) := by decide +kernel
theorem dX0_become_24 : decode cX0_become 24 = .ok (.aload_n 0, 1) := by decide +kernel
theorem dX0_become_25 : decode cX0_become 25 = .ok (.aload_n 1, 1) := by decide +kernel
theorem dX0_become_26 : decode cX0_become 26 = .ok (.getfield 58, 3) := by decide +kernel
theorem dX0_become_29 : decode cX0_become 29 = .ok (.putfield 58, 3) := by decide +kernel
theorem dX0_become_32 : decode cX0_become 32 = .ok (.aload_n 0, 1) := by decide +kernel
theorem dX0_become_33 : decode cX0_become 33 = .ok (.aload_n 1, 1) := by decide +kernel
theorem dX0_become_34 : decode cX0_become 34 = .ok (.getfield 61, 3) := by decide +kernel
theorem dX0_become_37 : decode cX0_become 37 = .ok (.putfield 61, 3) := by decide +kernel
theorem dX0_become_40 : decode cX0_become 40 = .ok (.iconst 0, 1) := by decide +kernel
theorem dX0_become_41 : decode cX0_become 41 = .ok (.istore_n 2, 1) := by decide +kernel
theorem dX0_become_42 : decode cX0_become 42 = .ok (.iload_n 2, 1) := by decide +kernel
theorem dX0_become_43 : decode cX0_become 43 = .ok (.iconst 4, 1) := by decide +kernel
theorem dX0_become_44 : decode cX0_become 44 = .ok (.if_icmp .ge 45, 3) := by decide +kernel
theorem dX0_become_47 : decode cX0_become 47 = .ok (.aload_n 0, 1) := by decide +kernel
theorem dX0_become_48 : decode cX0_become 48 = .ok (.getfield 9, 3) := by decide +kernel
theorem dX0_become_51 : decode cX0_become 51 = .ok (.iload_n 2, 1) := by decide +kernel
theorem dX0_become_52 : decode cX0_become 52 = .ok (.aload_n 1, 1) := by decide +kernel
theorem dX0_become_53 : decode cX0_become 53 = .ok (.getfield 9, 3) := by decide +kernel
theorem dX0_become_56 : decode cX0_become 56 = .ok (.iload_n 2, 1) := by decide +kernel
theorem dX0_become_57 : decode cX0_become 57 = .ok (.iaload, 1) := by decide +kernel
theorem dX0_become_58 : decode cX0_become 58 = .ok (.iastore, 1) := by decide +kernel
theorem dX0_become_59 : decode cX0_become 59 = .ok (.aload_n 0, 1) := by decide +kernel
theorem dX0_become_60 : decode cX0_become 60 = .ok (.getfield 15, 3) := by decide +kernel
theorem dX0_become_63 : decode cX0_become 63 = .ok (.iload_n 2, 1) := by decide +kernel
theorem dX0_become_64 : decode cX0_become 64 = .ok (.aload_n 1, 1) := by decide +kernel
theorem dX0_become_65 : decode cX0_become 65 = .ok (.getfield 15, 3) := by decide +kernel
theorem dX0_become_68 : decode cX0_become 68 = .ok (.iload_n 2, 1) := by decide +kernel
theorem dX0_become_69 : decode cX0_become 69 = .ok (.iaload, 1) := by decide +kernel
theorem dX0_become_70 : decode cX0_become 70 = .ok (.iastore, 1) := by decide +kernel
theorem dX0_become_71 : decode cX0_become 71 = .ok (.aload_n 0, 1) := by decide +kernel
theorem dX0_become_72 : decode cX0_become 72 = .ok (.getfield 18, 3) := by decide +kernel
theorem dX0_become_75 : decode cX0_become 75 = .ok (.iload_n 2, 1) := by decide +kernel
theorem dX0_become_76 : decode cX0_become 76 = .ok (.aload_n 1, 1) := by decide +kernel
theorem dX0_become_77 : decode cX0_become 77 = .ok (.getfield 18, 3) := by decide +kernel
theorem dX0_become_80 : decode cX0_become 80 = .ok (.iload_n 2, 1) := by decide +kernel
theorem dX0_become_81 : decode cX0_become 81 = .ok (.iaload, 1) := by decide +kernel
theorem dX0_become_82 : decode cX0_become 82 = .ok (.iastore, 1) := by decide +kernel
theorem dX0_become_83 : decode cX0_become 83 = .ok (.iinc 2 1, 3) := by decide +kernel
theorem dX0_become_86 : decode cX0_become 86 = .ok (.goto (-44), 3) := by decide +kernel
theorem dX0_become_89 : decode cX0_become 89 = .ok (.iconst 0, 1) := by decide +kernel
theorem dX0_become_90 : decode cX0_become 90 = .ok (.istore_n 2, 1) := by decide +kernel
theorem dX0_become_91 : decode cX0_become 91 = .ok (.iload_n 2, 1) := by decide +kernel
theorem dX0_become_92 : decode cX0_become 92 = .ok (.bipush 12, 2) := by decide +kernel
theorem dX0_become_94 : decode cX0_become 94 = .ok (.if_icmp .ge 117, 3) := by decide +kernel
theorem dX0_become_97 : decode cX0_become 97 = .ok (.aload_n 0, 1) := by decide +kernel
theorem dX0_become_98 : decode cX0_become 98 = .ok (.getfield 21, 3) := by decide +kernel
theorem dX0_become_101 : decode cX0_become 101 = .ok (.iload_n 2, 1) := by decide +kernel
theorem dX0_become_102 : decode cX0_become 102 = .ok (.aload_n 1, 1) := by decide +kernel
theorem dX0_become_103 : decode cX0_become 103 = .ok (.getfield 21, 3) := by decide +kernel
theorem dX0_become_106 : decode cX0_become 106 = .ok (.iload_n 2, 1) := by decide +kernel
theorem dX0_become_107 : decode cX0_become 107 = .ok (.iaload, 1) := by decide +kernel
theorem dX0_become_108 : decode cX0_become 108 = .ok (.iastore, 1) := by decide +kernel
theorem dX0_become_109 : decode cX0_become 109 = .ok (.aload_n 0, 1) := by decide +kernel
theorem dX0_become_110 : decode cX0_become 110 = .ok (.getfield 24, 3) := by decide +kernel
theorem dX0_become_113 : decode cX0_become 113 = .ok (.iload_n 2, 1) := by decide +kernel
theorem dX0_become_114 : decode cX0_become 114 = .ok (.aload_n 1, 1) := by decide +kernel
theorem dX0_become_115 : decode cX0_become 115 = .ok (.getfield 24, 3) := by decide +kernel
theorem dX0_become_118 : decode cX0_become 118 = .ok (.iload_n 2, 1) := by decide +kernel
theorem dX0_become_119 : decode cX0_become 119 = .ok (.iaload, 1) := by decide +kernel
theorem dX0_become_120 : decode cX0_become 120 = .ok (.iastore, 1) := by decide +kernel
theorem dX0_become_121 : decode cX0_become 121 = .ok (.aload_n 0, 1) := by decide +kernel
theorem dX0_become_122 : decode cX0_become 122 = .ok (.getfield 27, 3) := by decide +kernel
theorem dX0_become_125 : decode cX0_become 125 = .ok (.iload_n 2, 1) := by decide +kernel
theorem dX0_become_126 : decode cX0_become 126 = .ok (.aload_n 1, 1) := by decide +kernel
theorem dX0_become_127 : decode cX0_become 127 = .ok (.getfield 27, 3) := by decide +kernel
theorem dX0_become_130 : decode cX0_become 130 = .ok (.iload_n 2, 1) := by decide +kernel
theorem dX0_become_131 : decode cX0_become 131 = .ok (.iaload, 1) := by decide +kernel
theorem dX0_become_132 : decode cX0_become 132 = .ok (.iastore, 1) := by decide +kernel
theorem dX0_become_133 : decode cX0_become 133 = .ok (.aload_n 0, 1) := by decide +kernel
theorem dX0_become_134 : decode cX0_become 134 = .ok (.getfield 30, 3) := by decide +kernel
theorem dX0_become_137 : decode cX0_become 137 = .ok (.iload_n 2, 1) := by decide +kernel
theorem dX0_become_138 : decode cX0_become 138 = .ok (.aload_n 1, 1) := by decide +kernel
theorem dX0_become_139 : decode cX0_become 139 = .ok (.getfield 30, 3) := by decide +kernel
theorem dX0_become_142 : decode cX0_become 142 = .ok (.iload_n 2, 1) := by decide +kernel
theorem dX0_become_143 : decode cX0_become 143 = .ok (.iaload, 1) := by decide +kernel
theorem dX0_become_144 : decode cX0_become 144 = .ok (.iastore, 1) := by decide +kernel
theorem dX0_become_145 : decode cX0_become 145 = .ok (.aload_n 0, 1) := by decide +kernel
theorem dX0_become_146 : decode cX0_become 146 = .ok (.getfield 33, 3) := by decide +kernel
theorem dX0_become_149 : decode cX0_become 149 = .ok (.iload_n 2, 1) := by decide +kernel
theorem dX0_become_150 : decode cX0_become 150 = .ok (.aload_n 1, 1) := by decide +kernel
theorem dX0_become_151 : decode cX0_become 151 = .ok (.getfield 33, 3) := by decide +kernel
theorem dX0_become_154 : decode cX0_become 154 = .ok (.iload_n 2, 1) := by decide +kernel
theorem dX0_become_155 : decode cX0_become 155 = .ok (.iaload, 1) := by decide +kernel
theorem dX0_become_156 : decode cX0_become 156 = .ok (.iastore, 1) := by decide +kernel
theorem dX0_become_157 : decode cX0_become 157 = .ok (.aload_n 0, 1) := by decide +kernel
theorem dX0_become_158 : decode cX0_become 158 = .ok (.getfield 36, 3) := by decide +kernel
theorem dX0_become_161 : decode cX0_become 161 = .ok (.iload_n 2, 1) := by decide +kernel
theorem dX0_become_162 : decode cX0_become 162 = .ok (.aload_n 1, 1) := by decide +kernel
theorem dX0_become_163 : decode cX0_become 163 = .ok (.getfield 36, 3) := by decide +kernel
theorem dX0_become_166 : decode cX0_become 166 = .ok (.iload_n 2, 1) := by decide +kernel
theorem dX0_become_167 : decode cX0_become 167 = .ok (.iaload, 1) := by decide +kernel
theorem dX0_become_168 : decode cX0_become 168 = .ok (.iastore, 1) := by decide +kernel
theorem dX0_become_169 : decode cX0_become 169 = .ok (.aload_n 0, 1) := by decide +kernel
theorem dX0_become_170 : decode cX0_become 170 = .ok (.getfield 39, 3) := by decide +kernel
theorem dX0_become_173 : decode cX0_become 173 = .ok (.iload_n 2, 1) := by decide +kernel
theorem dX0_become_174 : decode cX0_become 174 = .ok (.aload_n 1, 1) := by decide +kernel
theorem dX0_become_175 : decode cX0_become 175 = .ok (.getfield 39, 3) := by decide +kernel
theorem dX0_become_178 : decode cX0_become 178 = .ok (.iload_n 2, 1) := by decide +kernel
theorem dX0_become_179 : decode cX0_become 179 = .ok (.iaload, 1) := by decide +kernel
theorem dX0_become_180 : decode cX0_become 180 = .ok (.iastore, 1) := by decide +kernel
theorem dX0_become_181 : decode cX0_become 181 = .ok (.aload_n 0, 1) := by decide +kernel
theorem dX0_become_182 : decode cX0_become 182 = .ok (.getfield 42, 3) := by decide +kernel
theorem dX0_become_185 : decode cX0_become 185 = .ok (.iload_n 2, 1) := by decide +kernel
theorem dX0_become_186 : decode cX0_become 186 = .ok (.aload_n 1, 1) := by decide +kernel
theorem dX0_become_187 : decode cX0_become 187 = .ok (.getfield 42, 3) := by decide +kernel
theorem dX0_become_190 : decode cX0_become 190 = .ok (.iload_n 2, 1) := by decide +kernel
theorem dX0_become_191 : decode cX0_become 191 = .ok (.iaload, 1) := by decide +kernel
theorem dX0_become_192 : decode cX0_become 192 = .ok (.iastore, 1) := by decide +kernel
theorem dX0_become_193 : decode cX0_become 193 = .ok (.aload_n 0, 1) := by decide +kernel
theorem dX0_become_194 : decode cX0_become 194 = .ok (.getfield 45, 3) := by decide +kernel
theorem dX0_become_197 : decode cX0_become 197 = .ok (.iload_n 2, 1) := by decide +kernel
theorem dX0_become_198 : decode cX0_become 198 = .ok (.aload_n 1, 1) := by decide +kernel
theorem dX0_become_199 : decode cX0_become 199 = .ok (.getfield 45, 3) := by decide +kernel
theorem dX0_become_202 : decode cX0_become 202 = .ok (.iload_n 2, 1) := by decide +kernel
theorem dX0_become_203 : decode cX0_become 203 = .ok (.iaload, 1) := by decide +kernel
theorem dX0_become_204 : decode cX0_become 204 = .ok (.iastore, 1) := by decide +kernel
theorem dX0_become_205 : decode cX0_become 205 = .ok (.iinc 2 1, 3) := by decide +kernel
theorem dX0_become_208 : decode cX0_become 208 = .ok (.goto (-117), 3) := by decide +kernel
theorem dX0_become_211 : decode cX0_become 211 = .ok (.return_, 1) := by decide +kernel
theorem dX0_openGate_0 : decode cX0_openGate 0 = .ok (.aload_n 0, 1) := by decide +kernel
theorem dX0_openGate_1 : decode cX0_openGate 1 = .ok (.getfield 52, 3) := by decide +kernel
theorem dX0_openGate_4 : decode cX0_openGate 4 = .ok (.istore_n 3, 1) := by decide +kernel
theorem dX0_openGate_5 : decode cX0_openGate 5 = .ok (.aload_n 0, 1) := by decide +kernel
theorem dX0_openGate_6 : decode cX0_openGate 6 = .ok (.getfield 9, 3) := by decide +kernel
theorem dX0_openGate_9 : decode cX0_openGate 9 = .ok (.iload_n 3, 1) := by decide +kernel
theorem dX0_openGate_10 : decode cX0_openGate 10 = .ok (.iload_n 1, 1) := by decide +kernel
theorem dX0_openGate_11 : decode cX0_openGate 11 = .ok (.iastore, 1) := by decide +kernel
theorem dX0_openGate_12 : decode cX0_openGate 12 = .ok (.aload_n 0, 1) := by decide +kernel
theorem dX0_openGate_13 : decode cX0_openGate 13 = .ok (.getfield 15, 3) := by decide +kernel
theorem dX0_openGate_16 : decode cX0_openGate 16 = .ok (.iload_n 3, 1) := by decide +kernel
theorem dX0_openGate_17 : decode cX0_openGate 17 = .ok (.iload_n 2, 1) := by decide +kernel
theorem dX0_openGate_18 : decode cX0_openGate 18 = .ok (.iastore, 1) := by decide +kernel
theorem dX0_openGate_19 : decode cX0_openGate 19 = .ok (.aload_n 0, 1) := by decide +kernel
theorem dX0_openGate_20 : decode cX0_openGate 20 = .ok (.dup, 1) := by decide +kernel
theorem dX0_openGate_21 : decode cX0_openGate 21 = .ok (.getfield 52, 3) := by decide +kernel
theorem dX0_openGate_24 : decode cX0_openGate 24 = .ok (.iconst 1, 1) := by decide +kernel
theorem dX0_openGate_25 : decode cX0_openGate 25 = .ok (.iadd, 1) := by decide +kernel
theorem dX0_openGate_26 : decode cX0_openGate 26 = .ok (.putfield 52, 3) := by decide +kernel
theorem dX0_openGate_29 : decode cX0_openGate 29 = .ok (.iload_n 3, 1) := by decide +kernel
theorem dX0_openGate_30 : decode cX0_openGate 30 = .ok (.ireturn, 1) := by decide +kernel
set_option maxRecDepth 20000 in
theorem ggX0_bringGoat_X0_rest : GoodIn wsX0_bringGoat wsX0_rest := goodIn_r _ [7, 8, 9, 10, 11, 12, 13, 14, 15, 16, 17, 18, 19, 20, 21, 22, 23, 24, 25, 26, 27, 28] (by decide +kernel) (by decide +kernel)
set_option maxRecDepth 20000 in
theorem gX0_bringGoat_X0_rest : GoodIn wsX0_bringGoat (wsV RX0 64 RX0 yX0_rest wsX0_rest) := goodIn_app (goodIn_of _ (by decide +kernel)) ggX0_bringGoat_X0_rest
theorem dX0_bringGoat_0 : decode cX0_bringGoat 0 = .ok (.aload_n 0, 1) := by decide +kernel
theorem dX0_bringGoat_1 : decode cX0_bringGoat 1 = .ok (.getfield 55, 3) := by decide +kernel
theorem dX0_bringGoat_4 : decode cX0_bringGoat 4 = .ok (.istore_n 2, 1) := by decide +kernel
theorem dX0_bringGoat_5 : decode cX0_bringGoat 5 = .ok (.aload_n 0, 1) := by decide +kernel
theorem dX0_bringGoat_6 : decode cX0_bringGoat 6 = .ok (.getfield 21, 3) := by decide +kernel
theorem dX0_bringGoat_9 : decode cX0_bringGoat 9 = .ok (.iload_n 2, 1) := by decide +kernel
theorem dX0_bringGoat_10 : decode cX0_bringGoat 10 = .ok (.iload_n 1, 1) := by decide +kernel
theorem dX0_bringGoat_11 : decode cX0_bringGoat 11 = .ok (.iastore, 1) := by decide +kernel
theorem dX0_bringGoat_12 : decode cX0_bringGoat 12 = .ok (.aload_n 0, 1) := by decide +kernel
theorem dX0_bringGoat_13 : decode cX0_bringGoat 13 = .ok (.iload_n 2, 1) := by decide +kernel
theorem dX0_bringGoat_14 : decode cX0_bringGoat 14 = .ok (.invokevirtual 64, 3) := by decide +kernel
theorem dX0_bringGoat_17 : decode cX0_bringGoat 17 = .ok (.aload_n 0, 1) := by decide +kernel
theorem dX0_bringGoat_18 : decode cX0_bringGoat 18 = .ok (.dup, 1) := by decide +kernel
theorem dX0_bringGoat_19 : decode cX0_bringGoat 19 = .ok (.getfield 55, 3) := by decide +kernel
theorem dX0_bringGoat_22 : decode cX0_bringGoat 22 = .ok (.iconst 1, 1) := by decide +kernel
theorem dX0_bringGoat_23 : decode cX0_bringGoat 23 = .ok (.iadd, 1) := by decide +kernel
theorem dX0_bringGoat_24 : decode cX0_bringGoat 24 = .ok (.putfield 55, 3) := by decide +kernel
theorem dX0_bringGoat_27 : decode cX0_bringGoat 27 = .ok (.iload_n 2, 1) := by decide +kernel
theorem dX0_bringGoat_28 : decode cX0_bringGoat 28 = .ok (.ireturn, 1) := by decide +kernel
theorem dX0_rest_0 : decode cX0_rest 0 = .ok (.aload_n 0, 1) := by decide +kernel
theorem dX0_rest_1 : decode cX0_rest 1 = .ok (.getfield 24, 3) := by decide +kernel
theorem dX0_rest_4 : decode cX0_rest 4 = .ok (.iload_n 1, 1) := by decide +kernel
theorem dX0_rest_5 : decode cX0_rest 5 = .ok (.iconst 0, 1) := by decide +kernel
theorem dX0_rest_6 : decode cX0_rest 6 = .ok (.iastore, 1) := by decide +kernel
theorem dX0_rest_7 : decode cX0_rest 7 = .ok (.aload_n 0, 1) := by decide +kernel
theorem dX0_rest_8 : decode cX0_rest 8 = .ok (.getfield 27, 3) := by decide +kernel
theorem dX0_rest_11 : decode cX0_rest 11 = .ok (.iload_n 1, 1) := by decide +kernel
theorem dX0_rest_12 : decode cX0_rest 12 = .ok (.iconst (-1), 1) := by decide +kernel
theorem dX0_rest_13 : decode cX0_rest 13 = .ok (.iastore, 1) := by decide +kernel
theorem dX0_rest_14 : decode cX0_rest 14 = .ok (.aload_n 0, 1) := by decide +kernel
theorem dX0_rest_15 : decode cX0_rest 15 = .ok (.getfield 36, 3) := by decide +kernel
theorem dX0_rest_18 : decode cX0_rest 18 = .ok (.iload_n 1, 1) := by decide +kernel
theorem dX0_rest_19 : decode cX0_rest 19 = .ok (.iconst 0, 1) := by decide +kernel
theorem dX0_rest_20 : decode cX0_rest 20 = .ok (.iastore, 1) := by decide +kernel
theorem dX0_rest_21 : decode cX0_rest 21 = .ok (.aload_n 0, 1) := by decide +kernel
theorem dX0_rest_22 : decode cX0_rest 22 = .ok (.getfield 42, 3) := by decide +kernel
theorem dX0_rest_25 : decode cX0_rest 25 = .ok (.iload_n 1, 1) := by decide +kernel
theorem dX0_rest_26 : decode cX0_rest 26 = .ok (.iconst 0, 1) := by decide +kernel
theorem dX0_rest_27 : decode cX0_rest 27 = .ok (.iastore, 1) := by decide +kernel
theorem dX0_rest_28 : decode cX0_rest 28 = .ok (.return_, 1) := by decide +kernel
theorem dX0_lineUp_0 : decode cX0_lineUp 0 = .ok (.aload_n 0, 1) := by decide +kernel
theorem dX0_lineUp_1 : decode cX0_lineUp 1 = .ok (.getfield 24, 3) := by decide +kernel
theorem dX0_lineUp_4 : decode cX0_lineUp 4 = .ok (.iload_n 1, 1) := by decide +kernel
theorem dX0_lineUp_5 : decode cX0_lineUp 5 = .ok (.iconst 1, 1) := by decide +kernel
theorem dX0_lineUp_6 : decode cX0_lineUp 6 = .ok (.iastore, 1) := by decide +kernel
theorem dX0_lineUp_7 : decode cX0_lineUp 7 = .ok (.aload_n 0, 1) := by decide +kernel
theorem dX0_lineUp_8 : decode cX0_lineUp 8 = .ok (.getfield 27, 3) := by decide +kernel
theorem dX0_lineUp_11 : decode cX0_lineUp 11 = .ok (.iload_n 1, 1) := by decide +kernel
theorem dX0_lineUp_12 : decode cX0_lineUp 12 = .ok (.iload_n 2, 1) := by decide +kernel
theorem dX0_lineUp_13 : decode cX0_lineUp 13 = .ok (.iastore, 1) := by decide +kernel
theorem dX0_lineUp_14 : decode cX0_lineUp 14 = .ok (.aload_n 0, 1) := by decide +kernel
theorem dX0_lineUp_15 : decode cX0_lineUp 15 = .ok (.getfield 30, 3) := by decide +kernel
theorem dX0_lineUp_18 : decode cX0_lineUp 18 = .ok (.iload_n 1, 1) := by decide +kernel
theorem dX0_lineUp_19 : decode cX0_lineUp 19 = .ok (.iload_n 3, 1) := by decide +kernel
theorem dX0_lineUp_20 : decode cX0_lineUp 20 = .ok (.iastore, 1) := by decide +kernel
theorem dX0_lineUp_21 : decode cX0_lineUp 21 = .ok (.aload_n 0, 1) := by decide +kernel
theorem dX0_lineUp_22 : decode cX0_lineUp 22 = .ok (.getfield 33, 3) := by decide +kernel
theorem dX0_lineUp_25 : decode cX0_lineUp 25 = .ok (.iload_n 1, 1) := by decide +kernel
theorem dX0_lineUp_26 : decode cX0_lineUp 26 = .ok (.iload 4, 2) := by decide +kernel
theorem dX0_lineUp_28 : decode cX0_lineUp 28 = .ok (.iastore, 1) := by decide +kernel
theorem dX0_lineUp_29 : decode cX0_lineUp 29 = .ok (.aload_n 0, 1) := by decide +kernel
theorem dX0_lineUp_30 : decode cX0_lineUp 30 = .ok (.getfield 36, 3) := by decide +kernel
theorem dX0_lineUp_33 : decode cX0_lineUp 33 = .ok (.iload_n 1, 1) := by decide +kernel
theorem dX0_lineUp_34 : decode cX0_lineUp 34 = .ok (.iload 5, 2) := by decide +kernel
theorem dX0_lineUp_36 : decode cX0_lineUp 36 = .ok (.iastore, 1) := by decide +kernel
theorem dX0_lineUp_37 : decode cX0_lineUp 37 = .ok (.aload_n 0, 1) := by decide +kernel
theorem dX0_lineUp_38 : decode cX0_lineUp 38 = .ok (.getfield 39, 3) := by decide +kernel
theorem dX0_lineUp_41 : decode cX0_lineUp 41 = .ok (.iload_n 1, 1) := by decide +kernel
theorem dX0_lineUp_42 : decode cX0_lineUp 42 = .ok (.aload_n 0, 1) := by decide +kernel
theorem dX0_lineUp_43 : decode cX0_lineUp 43 = .ok (.getfield 58, 3) := by decide +kernel
theorem dX0_lineUp_46 : decode cX0_lineUp 46 = .ok (.iastore, 1) := by decide +kernel
theorem dX0_lineUp_47 : decode cX0_lineUp 47 = .ok (.aload_n 0, 1) := by decide +kernel
theorem dX0_lineUp_48 : decode cX0_lineUp 48 = .ok (.dup, 1) := by decide +kernel
theorem dX0_lineUp_49 : decode cX0_lineUp 49 = .ok (.getfield 58, 3) := by decide +kernel
theorem dX0_lineUp_52 : decode cX0_lineUp 52 = .ok (.iconst 1, 1) := by decide +kernel
theorem dX0_lineUp_53 : decode cX0_lineUp 53 = .ok (.iadd, 1) := by decide +kernel
theorem dX0_lineUp_54 : decode cX0_lineUp 54 = .ok (.putfield 58, 3) := by decide +kernel
theorem dX0_lineUp_57 : decode cX0_lineUp 57 = .ok (.return_, 1) := by decide +kernel
theorem dX0_enter_0 : decode cX0_enter 0 = .ok (.aload_n 0, 1) := by decide +kernel
theorem dX0_enter_1 : decode cX0_enter 1 = .ok (.getfield 24, 3) := by decide +kernel
theorem dX0_enter_4 : decode cX0_enter 4 = .ok (.iload_n 1, 1) := by decide +kernel
theorem dX0_enter_5 : decode cX0_enter 5 = .ok (.iconst 2, 1) := by decide +kernel
theorem dX0_enter_6 : decode cX0_enter 6 = .ok (.iastore, 1) := by decide +kernel
theorem dX0_enter_7 : decode cX0_enter 7 = .ok (.aload_n 0, 1) := by decide +kernel
theorem dX0_enter_8 : decode cX0_enter 8 = .ok (.getfield 27, 3) := by decide +kernel
theorem dX0_enter_11 : decode cX0_enter 11 = .ok (.iload_n 1, 1) := by decide +kernel
theorem dX0_enter_12 : decode cX0_enter 12 = .ok (.iload_n 2, 1) := by decide +kernel
theorem dX0_enter_13 : decode cX0_enter 13 = .ok (.iastore, 1) := by decide +kernel
theorem dX0_enter_14 : decode cX0_enter 14 = .ok (.aload_n 0, 1) := by decide +kernel
theorem dX0_enter_15 : decode cX0_enter 15 = .ok (.getfield 30, 3) := by decide +kernel
theorem dX0_enter_18 : decode cX0_enter 18 = .ok (.iload_n 1, 1) := by decide +kernel
theorem dX0_enter_19 : decode cX0_enter 19 = .ok (.iload_n 3, 1) := by decide +kernel
theorem dX0_enter_20 : decode cX0_enter 20 = .ok (.iastore, 1) := by decide +kernel
theorem dX0_enter_21 : decode cX0_enter 21 = .ok (.aload_n 0, 1) := by decide +kernel
theorem dX0_enter_22 : decode cX0_enter 22 = .ok (.getfield 36, 3) := by decide +kernel
theorem dX0_enter_25 : decode cX0_enter 25 = .ok (.iload_n 1, 1) := by decide +kernel
theorem dX0_enter_26 : decode cX0_enter 26 = .ok (.iload 4, 2) := by decide +kernel
theorem dX0_enter_28 : decode cX0_enter 28 = .ok (.iastore, 1) := by decide +kernel
theorem dX0_enter_29 : decode cX0_enter 29 = .ok (.aload_n 0, 1) := by decide +kernel
theorem dX0_enter_30 : decode cX0_enter 30 = .ok (.getfield 42, 3) := by decide +kernel
theorem dX0_enter_33 : decode cX0_enter 33 = .ok (.iload_n 1, 1) := by decide +kernel
theorem dX0_enter_34 : decode cX0_enter 34 = .ok (.iconst 0, 1) := by decide +kernel
theorem dX0_enter_35 : decode cX0_enter 35 = .ok (.iastore, 1) := by decide +kernel
theorem dX0_enter_36 : decode cX0_enter 36 = .ok (.return_, 1) := by decide +kernel
set_option maxRecDepth 20000 in
theorem ggX0_liveAMinute_X0_leaveThoseWhoStayed : GoodIn wsX0_liveAMinute wsX0_leaveThoseWhoStayed := goodIn_r _ [7, 8, 9, 10, 11, 12, 13, 6, 14, 15, 16, 54, 55, 56, 57, 58, 59, 60, 61, 62, 63, 64, 65, 66, 67, 68, 69, 70] (by decide +kernel) (by decide +kernel)
set_option maxRecDepth 20000 in
theorem gX0_liveAMinute_X0_leaveThoseWhoStayed : GoodIn wsX0_liveAMinute (wsV RX0 68 RX0 yX0_leaveThoseWhoStayed wsX0_leaveThoseWhoStayed) := goodIn_app (goodIn_of _ (by decide +kernel)) ggX0_liveAMinute_X0_leaveThoseWhoStayed
set_option maxRecDepth 20000 in
theorem ggX0_liveAMinute_X0_letInThrough : GoodIn wsX0_liveAMinute wsX0_letInThrough := goodIn_r _ [20, 8, 21, 22, 23, 24, 25, 26, 6, 27, 28, 29, 30, 31, 32, 33, 34, 9, 15, 35, 36, 37, 38, 39, 40, 41, 42, 43, 16, 44, 45, 46, 47, 10, 54, 55, 56, 57, 58, 59, 60, 61, 62, 63, 64, 65, 66, 67, 68, 69, 70] (by decide +kernel) (by decide +kernel)
set_option maxRecDepth 20000 in
theorem gX0_liveAMinute_X0_letInThrough : GoodIn wsX0_liveAMinute (wsV RX0 71 RX0 yX0_letInThrough wsX0_letInThrough) := goodIn_app (goodIn_of _ (by decide +kernel)) ggX0_liveAMinute_X0_letInThrough
set_option maxRecDepth 20000 in
theorem ggX0_liveAMinute_X0_waitOnAt : GoodIn wsX0_liveAMinute wsX0_waitOnAt := goodIn_r _ [51, 8, 16, 52, 10, 53, 35, 36, 37, 6, 38, 9, 15, 11, 12, 13, 14, 54, 55, 56, 57, 58, 59, 60, 61, 62, 63, 64, 65, 66, 67, 68, 69, 70] (by decide +kernel) (by decide +kernel)
set_option maxRecDepth 20000 in
theorem gX0_liveAMinute_X0_waitOnAt : GoodIn wsX0_liveAMinute (wsV RX0 74 RX0 yX0_waitOnAt wsX0_waitOnAt) := goodIn_app (goodIn_of _ (by decide +kernel)) ggX0_liveAMinute_X0_waitOnAt
theorem dX0_liveAMinute_0 : decode cX0_liveAMinute 0 = .ok (.aload_n 0, 1) := by decide +kernel
theorem dX0_liveAMinute_1 : decode cX0_liveAMinute 1 = .ok (.invokevirtual 68, 3) := by decide +kernel
theorem dX0_liveAMinute_4 : decode cX0_liveAMinute 4 = .ok (.iconst 0, 1) := by decide +kernel
theorem dX0_liveAMinute_5 : decode cX0_liveAMinute 5 = .ok (.istore_n 1, 1) := by decide +kernel
theorem dX0_liveAMinute_6 : decode cX0_liveAMinute 6 = .ok (.iload_n 1, 1) := by decide +kernel
theorem dX0_liveAMinute_7 : decode cX0_liveAMinute 7 = .ok (.aload_n 0, 1) := by decide +kernel
theorem dX0_liveAMinute_8 : decode cX0_liveAMinute 8 = .ok (.getfield 52, 3) := by decide +kernel
theorem dX0_liveAMinute_11 : decode cX0_liveAMinute 11 = .ok (.if_icmp .ge 14, 3) := by decide +kernel
theorem dX0_liveAMinute_14 : decode cX0_liveAMinute 14 = .ok (.aload_n 0, 1) := by decide +kernel
theorem dX0_liveAMinute_15 : decode cX0_liveAMinute 15 = .ok (.iload_n 1, 1) := by decide +kernel
theorem dX0_liveAMinute_16 : decode cX0_liveAMinute 16 = .ok (.invokevirtual 71, 3) := by decide +kernel
theorem dX0_liveAMinute_19 : decode cX0_liveAMinute 19 = .ok (.iinc 1 1, 3) := by decide +kernel
theorem dX0_liveAMinute_22 : decode cX0_liveAMinute 22 = .ok (.goto (-16), 3) := by decide +kernel
theorem dX0_liveAMinute_25 : decode cX0_liveAMinute 25 = .ok (.iconst 0, 1) := by decide +kernel
theorem dX0_liveAMinute_26 : decode cX0_liveAMinute 26 = .ok (.istore_n 1, 1) := by decide +kernel
theorem dX0_liveAMinute_27 : decode cX0_liveAMinute 27 = .ok (.iload_n 1, 1) := by decide +kernel
theorem dX0_liveAMinute_28 : decode cX0_liveAMinute 28 = .ok (.aload_n 0, 1) := by decide +kernel
theorem dX0_liveAMinute_29 : decode cX0_liveAMinute 29 = .ok (.getfield 52, 3) := by decide +kernel
theorem dX0_liveAMinute_32 : decode cX0_liveAMinute 32 = .ok (.if_icmp .ge 14, 3) := by decide +kernel
theorem dX0_liveAMinute_35 : decode cX0_liveAMinute 35 = .ok (.aload_n 0, 1) := by decide +kernel
theorem dX0_liveAMinute_36 : decode cX0_liveAMinute 36 = .ok (.iload_n 1, 1) := by decide +kernel
theorem dX0_liveAMinute_37 : decode cX0_liveAMinute 37 = .ok (.invokevirtual 74, 3) := by decide +kernel
theorem dX0_liveAMinute_40 : decode cX0_liveAMinute 40 = .ok (.iinc 1 1, 3) := by decide +kernel
theorem dX0_liveAMinute_43 : decode cX0_liveAMinute 43 = .ok (.goto (-16), 3) := by decide +kernel
theorem dX0_liveAMinute_46 : decode cX0_liveAMinute 46 = .ok (.aload_n 0, 1) := by decide +kernel
theorem dX0_liveAMinute_47 : decode cX0_liveAMinute 47 = .ok (.dup, 1) := by decide +kernel
theorem dX0_liveAMinute_48 : decode cX0_liveAMinute 48 = .ok (.getfield 48, 3) := by decide +kernel
theorem dX0_liveAMinute_51 : decode cX0_liveAMinute 51 = .ok (.iconst 1, 1) := by decide +kernel
theorem dX0_liveAMinute_52 : decode cX0_liveAMinute 52 = .ok (.iadd, 1) := by decide +kernel
theorem dX0_liveAMinute_53 : decode cX0_liveAMinute 53 = .ok (.putfield 48, 3) := by decide +kernel
theorem dX0_liveAMinute_56 : decode cX0_liveAMinute 56 = .ok (.return_, 1) := by decide +kernel
set_option maxRecDepth 20000 in
theorem ggX0_leaveThoseWhoStayed_X0_rest : GoodIn wsX0_leaveThoseWhoStayed wsX0_rest := goodIn_r _ [8, 2, 9, 3, 10, 11, 12, 13, 14, 15, 16, 17, 18, 19, 20, 21, 22, 23, 24, 25, 26, 27] (by decide +kernel) (by decide +kernel)
set_option maxRecDepth 20000 in
theorem gX0_leaveThoseWhoStayed_X0_rest : GoodIn wsX0_leaveThoseWhoStayed (wsV RX0 64 RX0 yX0_rest wsX0_rest) := goodIn_app (goodIn_of _ (by decide +kernel)) ggX0_leaveThoseWhoStayed_X0_rest
theorem dX0_leaveThoseWhoStayed_0 : decode cX0_leaveThoseWhoStayed 0 = .ok (.iconst 0, 1) := by decide +kernel
theorem dX0_leaveThoseWhoStayed_1 : decode cX0_leaveThoseWhoStayed 1 = .ok (.istore_n 1, 1) := by decide +kernel
theorem dX0_leaveThoseWhoStayed_2 : decode cX0_leaveThoseWhoStayed 2 = .ok (.iload_n 1, 1) := by decide +kernel
theorem dX0_leaveThoseWhoStayed_3 : decode cX0_leaveThoseWhoStayed 3 = .ok (.aload_n 0, 1) := by decide +kernel
theorem dX0_leaveThoseWhoStayed_4 : decode cX0_leaveThoseWhoStayed 4 = .ok (.getfield 55, 3) := by decide +kernel
theorem dX0_leaveThoseWhoStayed_7 : decode cX0_leaveThoseWhoStayed 7 = .ok (.if_icmp .ge 43, 3) := by decide +kernel
theorem dX0_leaveThoseWhoStayed_10 : decode cX0_leaveThoseWhoStayed 10 = .ok (.aload_n 0, 1) := by decide +kernel
theorem dX0_leaveThoseWhoStayed_11 : decode cX0_leaveThoseWhoStayed 11 = .ok (.getfield 24, 3) := by decide +kernel
theorem dX0_leaveThoseWhoStayed_14 : decode cX0_leaveThoseWhoStayed 14 = .ok (.iload_n 1, 1) := by decide +kernel
theorem dX0_leaveThoseWhoStayed_15 : decode cX0_leaveThoseWhoStayed 15 = .ok (.iaload, 1) := by decide +kernel
theorem dX0_leaveThoseWhoStayed_16 : decode cX0_leaveThoseWhoStayed 16 = .ok (.iconst 2, 1) := by decide +kernel
theorem dX0_leaveThoseWhoStayed_17 : decode cX0_leaveThoseWhoStayed 17 = .ok (.if_icmp .ne 27, 3) := by decide +kernel
theorem dX0_leaveThoseWhoStayed_20 : decode cX0_leaveThoseWhoStayed 20 = .ok (.aload_n 0, 1) := by decide +kernel
theorem dX0_leaveThoseWhoStayed_21 : decode cX0_leaveThoseWhoStayed 21 = .ok (.getfield 36, 3) := by decide +kernel
theorem dX0_leaveThoseWhoStayed_24 : decode cX0_leaveThoseWhoStayed 24 = .ok (.iload_n 1, 1) := by decide +kernel
theorem dX0_leaveThoseWhoStayed_25 : decode cX0_leaveThoseWhoStayed 25 = .ok (.dup2, 1) := by decide +kernel
theorem dX0_leaveThoseWhoStayed_26 : decode cX0_leaveThoseWhoStayed 26 = .ok (.iaload, 1) := by decide +kernel
theorem dX0_leaveThoseWhoStayed_27 : decode cX0_leaveThoseWhoStayed 27 = .ok (.iconst 1, 1) := by decide +kernel
theorem dX0_leaveThoseWhoStayed_28 : decode cX0_leaveThoseWhoStayed 28 = .ok (.isub, 1) := by decide +kernel
theorem dX0_leaveThoseWhoStayed_29 : decode cX0_leaveThoseWhoStayed 29 = .ok (.iastore, 1) := by decide +kernel
theorem dX0_leaveThoseWhoStayed_30 : decode cX0_leaveThoseWhoStayed 30 = .ok (.aload_n 0, 1) := by decide +kernel
theorem dX0_leaveThoseWhoStayed_31 : decode cX0_leaveThoseWhoStayed 31 = .ok (.getfield 36, 3) := by decide +kernel
theorem dX0_leaveThoseWhoStayed_34 : decode cX0_leaveThoseWhoStayed 34 = .ok (.iload_n 1, 1) := by decide +kernel
theorem dX0_leaveThoseWhoStayed_35 : decode cX0_leaveThoseWhoStayed 35 = .ok (.iaload, 1) := by decide +kernel
theorem dX0_leaveThoseWhoStayed_36 : decode cX0_leaveThoseWhoStayed 36 = .ok (.ifCond .gt 8, 3) := by decide +kernel
theorem dX0_leaveThoseWhoStayed_39 : decode cX0_leaveThoseWhoStayed 39 = .ok (.aload_n 0, 1) := by decide +kernel
theorem dX0_leaveThoseWhoStayed_40 : decode cX0_leaveThoseWhoStayed 40 = .ok (.iload_n 1, 1) := by decide +kernel
theorem dX0_leaveThoseWhoStayed_41 : decode cX0_leaveThoseWhoStayed 41 = .ok (.invokevirtual 64, 3) := by decide +kernel
theorem dX0_leaveThoseWhoStayed_44 : decode cX0_leaveThoseWhoStayed 44 = .ok (.iinc 1 1, 3) := by decide +kernel
theorem dX0_leaveThoseWhoStayed_47 : decode cX0_leaveThoseWhoStayed 47 = .ok (.goto (-45), 3) := by decide +kernel
theorem dX0_leaveThoseWhoStayed_50 : decode cX0_leaveThoseWhoStayed 50 = .ok (.return_, 1) := by decide +kernel
set_option maxRecDepth 20000 in
theorem ggX0_letInThrough_X0_firstIn : GoodIn wsX0_letInThrough wsX0_firstIn := goodIn_r _ [9, 10, 1, 2, 11, 12, 13, 14, 8, 15, 16, 17, 18, 19, 20, 21, 22, 23, 24, 25, 26, 27, 28, 34, 35, 36, 37, 38, 39, 40, 41, 42, 43, 44, 45, 46, 47, 48, 49, 50] (by decide +kernel) (by decide +kernel)
set_option maxRecDepth 20000 in
theorem gX0_letInThrough_X0_firstIn : GoodIn wsX0_letInThrough (wsV RX0 77 RX0 yX0_firstIn wsX0_firstIn) := goodIn_app (goodIn_of _ (by decide +kernel)) ggX0_letInThrough_X0_firstIn
set_option maxRecDepth 20000 in
theorem ggX0_letInThrough_X0_enter : GoodIn wsX0_letInThrough wsX0_enter := goodIn_r _ [32, 17, 18, 2, 33, 28, 34, 35, 36, 37, 38, 39, 40, 41, 42, 43, 44, 45, 46, 47, 48, 49, 50] (by decide +kernel) (by decide +kernel)
set_option maxRecDepth 20000 in
theorem gX0_letInThrough_X0_enter : GoodIn wsX0_letInThrough (wsV RX0 81 RX0 yX0_enter wsX0_enter) := goodIn_app (goodIn_of _ (by decide +kernel)) ggX0_letInThrough_X0_enter
theorem dX0_letInThrough_0 : decode cX0_letInThrough 0 = .ok (.iconst 0, 1) := by decide +kernel
theorem dX0_letInThrough_1 : decode cX0_letInThrough 1 = .ok (.istore_n 2, 1) := by decide +kernel
theorem dX0_letInThrough_2 : decode cX0_letInThrough 2 = .ok (.iload_n 2, 1) := by decide +kernel
theorem dX0_letInThrough_3 : decode cX0_letInThrough 3 = .ok (.aload_n 0, 1) := by decide +kernel
theorem dX0_letInThrough_4 : decode cX0_letInThrough 4 = .ok (.getfield 55, 3) := by decide +kernel
theorem dX0_letInThrough_7 : decode cX0_letInThrough 7 = .ok (.if_icmp .ge 48, 3) := by decide +kernel
theorem dX0_letInThrough_10 : decode cX0_letInThrough 10 = .ok (.aload_n 0, 1) := by decide +kernel
theorem dX0_letInThrough_11 : decode cX0_letInThrough 11 = .ok (.iload_n 1, 1) := by decide +kernel
theorem dX0_letInThrough_12 : decode cX0_letInThrough 12 = .ok (.invokevirtual 77, 3) := by decide +kernel
theorem dX0_letInThrough_15 : decode cX0_letInThrough 15 = .ok (.istore_n 3, 1) := by decide +kernel
theorem dX0_letInThrough_16 : decode cX0_letInThrough 16 = .ok (.iload_n 3, 1) := by decide +kernel
theorem dX0_letInThrough_17 : decode cX0_letInThrough 17 = .ok (.ifCond .ge 4, 3) := by decide +kernel
theorem dX0_letInThrough_20 : decode cX0_letInThrough 20 = .ok (.return_, 1) := by decide +kernel
theorem dX0_letInThrough_21 : decode cX0_letInThrough 21 = .ok (.aload_n 0, 1) := by decide +kernel
theorem dX0_letInThrough_22 : decode cX0_letInThrough 22 = .ok (.iload_n 3, 1) := by decide +kernel
theorem dX0_letInThrough_23 : decode cX0_letInThrough 23 = .ok (.iload_n 1, 1) := by decide +kernel
theorem dX0_letInThrough_24 : decode cX0_letInThrough 24 = .ok (.aload_n 0, 1) := by decide +kernel
theorem dX0_letInThrough_25 : decode cX0_letInThrough 25 = .ok (.getfield 30, 3) := by decide +kernel
theorem dX0_letInThrough_28 : decode cX0_letInThrough 28 = .ok (.iload_n 3, 1) := by decide +kernel
theorem dX0_letInThrough_29 : decode cX0_letInThrough 29 = .ok (.iaload, 1) := by decide +kernel
theorem dX0_letInThrough_30 : decode cX0_letInThrough 30 = .ok (.aload_n 0, 1) := by decide +kernel
theorem dX0_letInThrough_31 : decode cX0_letInThrough 31 = .ok (.getfield 33, 3) := by decide +kernel
theorem dX0_letInThrough_34 : decode cX0_letInThrough 34 = .ok (.iload_n 3, 1) := by decide +kernel
theorem dX0_letInThrough_35 : decode cX0_letInThrough 35 = .ok (.iaload, 1) := by decide +kernel
theorem dX0_letInThrough_36 : decode cX0_letInThrough 36 = .ok (.invokevirtual 81, 3) := by decide +kernel
theorem dX0_letInThrough_39 : decode cX0_letInThrough 39 = .ok (.aload_n 0, 1) := by decide +kernel
theorem dX0_letInThrough_40 : decode cX0_letInThrough 40 = .ok (.dup, 1) := by decide +kernel
theorem dX0_letInThrough_41 : decode cX0_letInThrough 41 = .ok (.getfield 61, 3) := by decide +kernel
theorem dX0_letInThrough_44 : decode cX0_letInThrough 44 = .ok (.iconst 1, 1) := by decide +kernel
theorem dX0_letInThrough_45 : decode cX0_letInThrough 45 = .ok (.iadd, 1) := by decide +kernel
theorem dX0_letInThrough_46 : decode cX0_letInThrough 46 = .ok (.putfield 61, 3) := by decide +kernel
theorem dX0_letInThrough_49 : decode cX0_letInThrough 49 = .ok (.iinc 2 1, 3) := by decide +kernel
theorem dX0_letInThrough_52 : decode cX0_letInThrough 52 = .ok (.goto (-50), 3) := by decide +kernel
theorem dX0_letInThrough_55 : decode cX0_letInThrough 55 = .ok (.return_, 1) := by decide +kernel
set_option maxRecDepth 20000 in
theorem ggX0_waitOnAt_X0_waitsAt : GoodIn wsX0_waitOnAt wsX0_waitsAt := goodIn_r _ [10, 11, 12, 17, 18, 19, 20, 21, 22, 23, 24, 25, 26, 27, 28, 29, 30, 31, 32, 33] (by decide +kernel) (by decide +kernel)
set_option maxRecDepth 20000 in
theorem gX0_waitOnAt_X0_waitsAt : GoodIn wsX0_waitOnAt (wsV RX0 85 RX0 yX0_waitsAt wsX0_waitsAt) := goodIn_app (goodIn_of _ (by decide +kernel)) ggX0_waitOnAt_X0_waitsAt
set_option maxRecDepth 20000 in
theorem ggX0_waitOnAt_X0_rest : GoodIn wsX0_waitOnAt wsX0_rest := goodIn_r _ [16, 11, 12, 4, 2, 17, 18, 19, 20, 21, 22, 23, 24, 25, 26, 27, 28, 29, 30, 31, 32, 33] (by decide +kernel) (by decide +kernel)
set_option maxRecDepth 20000 in
theorem gX0_waitOnAt_X0_rest : GoodIn wsX0_waitOnAt (wsV RX0 64 RX0 yX0_rest wsX0_rest) := goodIn_app (goodIn_of _ (by decide +kernel)) ggX0_waitOnAt_X0_rest
theorem dX0_waitOnAt_0 : decode cX0_waitOnAt 0 = .ok (.iconst 0, 1) := by decide +kernel
theorem dX0_waitOnAt_1 : decode cX0_waitOnAt 1 = .ok (.istore_n 2, 1) := by decide +kernel
theorem dX0_waitOnAt_2 : decode cX0_waitOnAt 2 = .ok (.iload_n 2, 1) := by decide +kernel
theorem dX0_waitOnAt_3 : decode cX0_waitOnAt 3 = .ok (.aload_n 0, 1) := by decide +kernel
theorem dX0_waitOnAt_4 : decode cX0_waitOnAt 4 = .ok (.getfield 55, 3) := by decide +kernel
theorem dX0_waitOnAt_7 : decode cX0_waitOnAt 7 = .ok (.if_icmp .ge 72, 3) := by decide +kernel
theorem dX0_waitOnAt_10 : decode cX0_waitOnAt 10 = .ok (.aload_n 0, 1) := by decide +kernel
theorem dX0_waitOnAt_11 : decode cX0_waitOnAt 11 = .ok (.iload_n 2, 1) := by decide +kernel
theorem dX0_waitOnAt_12 : decode cX0_waitOnAt 12 = .ok (.iload_n 1, 1) := by decide +kernel
theorem dX0_waitOnAt_13 : decode cX0_waitOnAt 13 = .ok (.invokevirtual 85, 3) := by decide +kernel
theorem dX0_waitOnAt_16 : decode cX0_waitOnAt 16 = .ok (.ifCond .eq 57, 3) := by decide +kernel
theorem dX0_waitOnAt_19 : decode cX0_waitOnAt 19 = .ok (.aload_n 0, 1) := by decide +kernel
theorem dX0_waitOnAt_20 : decode cX0_waitOnAt 20 = .ok (.getfield 42, 3) := by decide +kernel
theorem dX0_waitOnAt_23 : decode cX0_waitOnAt 23 = .ok (.iload_n 2, 1) := by decide +kernel
theorem dX0_waitOnAt_24 : decode cX0_waitOnAt 24 = .ok (.dup2, 1) := by decide +kernel
theorem dX0_waitOnAt_25 : decode cX0_waitOnAt 25 = .ok (.iaload, 1) := by decide +kernel
theorem dX0_waitOnAt_26 : decode cX0_waitOnAt 26 = .ok (.iconst 1, 1) := by decide +kernel
theorem dX0_waitOnAt_27 : decode cX0_waitOnAt 27 = .ok (.iadd, 1) := by decide +kernel
theorem dX0_waitOnAt_28 : decode cX0_waitOnAt 28 = .ok (.iastore, 1) := by decide +kernel
theorem dX0_waitOnAt_29 : decode cX0_waitOnAt 29 = .ok (.aload_n 0, 1) := by decide +kernel
theorem dX0_waitOnAt_30 : decode cX0_waitOnAt 30 = .ok (.getfield 45, 3) := by decide +kernel
theorem dX0_waitOnAt_33 : decode cX0_waitOnAt 33 = .ok (.iload_n 2, 1) := by decide +kernel
theorem dX0_waitOnAt_34 : decode cX0_waitOnAt 34 = .ok (.dup2, 1) := by decide +kernel
theorem dX0_waitOnAt_35 : decode cX0_waitOnAt 35 = .ok (.iaload, 1) := by decide +kernel
theorem dX0_waitOnAt_36 : decode cX0_waitOnAt 36 = .ok (.iconst 1, 1) := by decide +kernel
theorem dX0_waitOnAt_37 : decode cX0_waitOnAt 37 = .ok (.iadd, 1) := by decide +kernel
theorem dX0_waitOnAt_38 : decode cX0_waitOnAt 38 = .ok (.iastore, 1) := by decide +kernel
theorem dX0_waitOnAt_39 : decode cX0_waitOnAt 39 = .ok (.aload_n 0, 1) := by decide +kernel
theorem dX0_waitOnAt_40 : decode cX0_waitOnAt 40 = .ok (.getfield 36, 3) := by decide +kernel
theorem dX0_waitOnAt_43 : decode cX0_waitOnAt 43 = .ok (.iload_n 2, 1) := by decide +kernel
theorem dX0_waitOnAt_44 : decode cX0_waitOnAt 44 = .ok (.dup2, 1) := by decide +kernel
theorem dX0_waitOnAt_45 : decode cX0_waitOnAt 45 = .ok (.iaload, 1) := by decide +kernel
theorem dX0_waitOnAt_46 : decode cX0_waitOnAt 46 = .ok (.iconst 1, 1) := by decide +kernel
theorem dX0_waitOnAt_47 : decode cX0_waitOnAt 47 = .ok (.isub, 1) := by decide +kernel
theorem dX0_waitOnAt_48 : decode cX0_waitOnAt 48 = .ok (.iastore, 1) := by decide +kernel
theorem dX0_waitOnAt_49 : decode cX0_waitOnAt 49 = .ok (.aload_n 0, 1) := by decide +kernel
theorem dX0_waitOnAt_50 : decode cX0_waitOnAt 50 = .ok (.getfield 36, 3) := by decide +kernel
theorem dX0_waitOnAt_53 : decode cX0_waitOnAt 53 = .ok (.iload_n 2, 1) := by decide +kernel
theorem dX0_waitOnAt_54 : decode cX0_waitOnAt 54 = .ok (.iaload, 1) := by decide +kernel
theorem dX0_waitOnAt_55 : decode cX0_waitOnAt 55 = .ok (.ifCond .gt 18, 3) := by decide +kernel
theorem dX0_waitOnAt_58 : decode cX0_waitOnAt 58 = .ok (.aload_n 0, 1) := by decide +kernel
theorem dX0_waitOnAt_59 : decode cX0_waitOnAt 59 = .ok (.iload_n 2, 1) := by decide +kernel
theorem dX0_waitOnAt_60 : decode cX0_waitOnAt 60 = .ok (.invokevirtual 64, 3) := by decide +kernel
theorem dX0_waitOnAt_63 : decode cX0_waitOnAt 63 = .ok (.aload_n 0, 1) := by decide +kernel
theorem dX0_waitOnAt_64 : decode cX0_waitOnAt 64 = .ok (.getfield 18, 3) := by decide +kernel
theorem dX0_waitOnAt_67 : decode cX0_waitOnAt 67 = .ok (.iload_n 1, 1) := by decide +kernel
theorem dX0_waitOnAt_68 : decode cX0_waitOnAt 68 = .ok (.dup2, 1) := by decide +kernel
theorem dX0_waitOnAt_69 : decode cX0_waitOnAt 69 = .ok (.iaload, 1) := by decide +kernel
theorem dX0_waitOnAt_70 : decode cX0_waitOnAt 70 = .ok (.iconst 1, 1) := by decide +kernel
theorem dX0_waitOnAt_71 : decode cX0_waitOnAt 71 = .ok (.iadd, 1) := by decide +kernel
theorem dX0_waitOnAt_72 : decode cX0_waitOnAt 72 = .ok (.iastore, 1) := by decide +kernel
theorem dX0_waitOnAt_73 : decode cX0_waitOnAt 73 = .ok (.iinc 2 1, 3) := by decide +kernel
theorem dX0_waitOnAt_76 : decode cX0_waitOnAt 76 = .ok (.goto (-74), 3) := by decide +kernel
theorem dX0_waitOnAt_79 : decode cX0_waitOnAt 79 = .ok (.return_, 1) := by decide +kernel
set_option maxRecDepth 20000 in
theorem ggX0_firstIn_X0_freePermits : GoodIn wsX0_firstIn wsX0_freePermits := goodIn_r _ [9, 10, 2, 11, 12, 3, 23, 24, 25, 26, 27, 28, 29, 30, 31, 32, 33, 34, 35, 36, 37, 38, 39] (by decide +kernel) (by decide +kernel)
set_option maxRecDepth 20000 in
theorem gX0_firstIn_X0_freePermits : GoodIn wsX0_firstIn (wsV RX0 89 RX0 yX0_freePermits wsX0_freePermits) := goodIn_app (goodIn_of _ (by decide +kernel)) ggX0_firstIn_X0_freePermits
set_option maxRecDepth 20000 in
theorem ggX0_firstIn_X0_waitsAt : GoodIn wsX0_firstIn wsX0_waitsAt := goodIn_r _ [16, 11, 12, 23, 24, 25, 26, 27, 28, 29, 30, 31, 32, 33, 34, 35, 36, 37, 38, 39] (by decide +kernel) (by decide +kernel)
set_option maxRecDepth 20000 in
theorem gX0_firstIn_X0_waitsAt : GoodIn wsX0_firstIn (wsV RX0 85 RX0 yX0_waitsAt wsX0_waitsAt) := goodIn_app (goodIn_of _ (by decide +kernel)) ggX0_firstIn_X0_waitsAt
set_option maxRecDepth 20000 in
theorem ggX0_firstIn_X0_seeming : GoodIn wsX0_firstIn wsX0_seeming := goodIn_r _ [20, 21, 22, 23, 24, 25, 26, 27, 28, 29, 30, 31, 32, 33, 34, 35, 36, 37, 38, 39] (by decide +kernel) (by decide +kernel)
set_option maxRecDepth 20000 in
theorem gX0_firstIn_X0_seeming : GoodIn wsX0_firstIn (wsV RX0 92 RX0 yX0_seeming wsX0_seeming) := goodIn_app (goodIn_of _ (by decide +kernel)) ggX0_firstIn_X0_seeming
theorem dX0_firstIn_0 : decode cX0_firstIn 0 = .ok (.aload_n 0, 1) := by decide +kernel
theorem dX0_firstIn_1 : decode cX0_firstIn 1 = .ok (.iload_n 1, 1) := by decide +kernel
theorem dX0_firstIn_2 : decode cX0_firstIn 2 = .ok (.invokevirtual 89, 3) := by decide +kernel
theorem dX0_firstIn_5 : decode cX0_firstIn 5 = .ok (.istore_n 2, 1) := by decide +kernel
theorem dX0_firstIn_6 : decode cX0_firstIn 6 = .ok (.aload_n 0, 1) := by decide +kernel
theorem dX0_firstIn_7 : decode cX0_firstIn 7 = .ok (.getfield 15, 3) := by decide +kernel
theorem dX0_firstIn_10 : decode cX0_firstIn 10 = .ok (.iload_n 1, 1) := by decide +kernel
theorem dX0_firstIn_11 : decode cX0_firstIn 11 = .ok (.iaload, 1) := by decide +kernel
theorem dX0_firstIn_12 : decode cX0_firstIn 12 = .ok (.iconst 1, 1) := by decide +kernel
theorem dX0_firstIn_13 : decode cX0_firstIn 13 = .ok (.if_icmp .ne 7, 3) := by decide +kernel
theorem dX0_firstIn_16 : decode cX0_firstIn 16 = .ok (.iconst 1, 1) := by decide +kernel
theorem dX0_firstIn_17 : decode cX0_firstIn 17 = .ok (.goto 4, 3) := by decide +kernel
theorem dX0_firstIn_20 : decode cX0_firstIn 20 = .ok (.iconst 0, 1) := by decide +kernel
theorem dX0_firstIn_21 : decode cX0_firstIn 21 = .ok (.istore_n 3, 1) := by decide +kernel
theorem dX0_firstIn_22 : decode cX0_firstIn 22 = .ok (.iconst (-1), 1) := by decide +kernel
theorem dX0_firstIn_23 : decode cX0_firstIn 23 = .ok (.istore 4, 2) := by decide +kernel
theorem dX0_firstIn_25 : decode cX0_firstIn 25 = .ok (.iconst 0, 1) := by decide +kernel
theorem dX0_firstIn_26 : decode cX0_firstIn 26 = .ok (.istore 5, 2) := by decide +kernel
theorem dX0_firstIn_28 : decode cX0_firstIn 28 = .ok (.iconst 0, 1) := by decide +kernel
theorem dX0_firstIn_29 : decode cX0_firstIn 29 = .ok (.istore 6, 2) := by decide +kernel
theorem dX0_firstIn_31 : decode cX0_firstIn 31 = .ok (.iload 6, 2) := by decide +kernel
theorem dX0_firstIn_33 : decode cX0_firstIn 33 = .ok (.aload_n 0, 1) := by decide +kernel
theorem dX0_firstIn_34 : decode cX0_firstIn 34 = .ok (.getfield 55, 3) := by decide +kernel
theorem dX0_firstIn_37 : decode cX0_firstIn 37 = .ok (.if_icmp .ge 118, 3) := by decide +kernel
theorem dX0_firstIn_40 : decode cX0_firstIn 40 = .ok (.aload_n 0, 1) := by decide +kernel
theorem dX0_firstIn_41 : decode cX0_firstIn 41 = .ok (.iload 6, 2) := by decide +kernel
theorem dX0_firstIn_43 : decode cX0_firstIn 43 = .ok (.iload_n 1, 1) := by decide +kernel
theorem dX0_firstIn_44 : decode cX0_firstIn 44 = .ok (.invokevirtual 85, 3) := by decide +kernel
theorem dX0_firstIn_47 : decode cX0_firstIn 47 = .ok (.ifCond .eq 22, 3) := by decide +kernel
theorem dX0_firstIn_50 : decode cX0_firstIn 50 = .ok (.iload_n 3, 1) := by decide +kernel
theorem dX0_firstIn_51 : decode cX0_firstIn 51 = .ok (.ifCond .eq 14, 3) := by decide +kernel
theorem dX0_firstIn_54 : decode cX0_firstIn 54 = .ok (.aload_n 0, 1) := by decide +kernel
theorem dX0_firstIn_55 : decode cX0_firstIn 55 = .ok (.getfield 30, 3) := by decide +kernel
theorem dX0_firstIn_58 : decode cX0_firstIn 58 = .ok (.iload 6, 2) := by decide +kernel
theorem dX0_firstIn_60 : decode cX0_firstIn 60 = .ok (.iaload, 1) := by decide +kernel
theorem dX0_firstIn_61 : decode cX0_firstIn 61 = .ok (.iload_n 2, 1) := by decide +kernel
theorem dX0_firstIn_62 : decode cX0_firstIn 62 = .ok (.if_icmp .gt 7, 3) := by decide +kernel
theorem dX0_firstIn_65 : decode cX0_firstIn 65 = .ok (.iconst 1, 1) := by decide +kernel
theorem dX0_firstIn_66 : decode cX0_firstIn 66 = .ok (.goto 4, 3) := by decide +kernel
theorem dX0_firstIn_69 : decode cX0_firstIn 69 = .ok (.iconst 0, 1) := by decide +kernel
theorem dX0_firstIn_70 : decode cX0_firstIn 70 = .ok (.istore 7, 2) := by decide +kernel
theorem dX0_firstIn_72 : decode cX0_firstIn 72 = .ok (.iload_n 3, 1) := by decide +kernel
theorem dX0_firstIn_73 : decode cX0_firstIn 73 = .ok (.ifCond .eq 12, 3) := by decide +kernel
theorem dX0_firstIn_76 : decode cX0_firstIn 76 = .ok (.aload_n 0, 1) := by decide +kernel
theorem dX0_firstIn_77 : decode cX0_firstIn 77 = .ok (.iload 6, 2) := by decide +kernel
theorem dX0_firstIn_79 : decode cX0_firstIn 79 = .ok (.invokevirtual 92, 3) := by decide +kernel
theorem dX0_firstIn_82 : decode cX0_firstIn 82 = .ok (.goto 4, 3) := by decide +kernel
theorem dX0_firstIn_85 : decode cX0_firstIn 85 = .ok (.iconst 0, 1) := by decide +kernel
theorem dX0_firstIn_86 : decode cX0_firstIn 86 = .ok (.istore 8, 2) := by decide +kernel
theorem dX0_firstIn_88 : decode cX0_firstIn 88 = .ok (.iload 4, 2) := by decide +kernel
theorem dX0_firstIn_90 : decode cX0_firstIn 90 = .ok (.ifCond .lt 20, 3) := by decide +kernel
theorem dX0_firstIn_93 : decode cX0_firstIn 93 = .ok (.aload_n 0, 1) := by decide +kernel
theorem dX0_firstIn_94 : decode cX0_firstIn 94 = .ok (.getfield 39, 3) := by decide +kernel
theorem dX0_firstIn_97 : decode cX0_firstIn 97 = .ok (.iload 6, 2) := by decide +kernel
theorem dX0_firstIn_99 : decode cX0_firstIn 99 = .ok (.iaload, 1) := by decide +kernel
theorem dX0_firstIn_100 : decode cX0_firstIn 100 = .ok (.aload_n 0, 1) := by decide +kernel
theorem dX0_firstIn_101 : decode cX0_firstIn 101 = .ok (.getfield 39, 3) := by decide +kernel
theorem dX0_firstIn_104 : decode cX0_firstIn 104 = .ok (.iload 4, 2) := by decide +kernel
theorem dX0_firstIn_106 : decode cX0_firstIn 106 = .ok (.iaload, 1) := by decide +kernel
theorem dX0_firstIn_107 : decode cX0_firstIn 107 = .ok (.if_icmp .ge 7, 3) := by decide +kernel
theorem dX0_firstIn_110 : decode cX0_firstIn 110 = .ok (.iconst 1, 1) := by decide +kernel
theorem dX0_firstIn_111 : decode cX0_firstIn 111 = .ok (.goto 4, 3) := by decide +kernel
theorem dX0_firstIn_114 : decode cX0_firstIn 114 = .ok (.iconst 0, 1) := by decide +kernel
theorem dX0_firstIn_115 : decode cX0_firstIn 115 = .ok (.istore 9, 2) := by decide +kernel
theorem dX0_firstIn_117 : decode cX0_firstIn 117 = .ok (.iload 7, 2) := by decide +kernel
theorem dX0_firstIn_119 : decode cX0_firstIn 119 = .ok (.ifCond .eq 30, 3) := by decide +kernel
theorem dX0_firstIn_122 : decode cX0_firstIn 122 = .ok (.iload 8, 2) := by decide +kernel
theorem dX0_firstIn_124 : decode cX0_firstIn 124 = .ok (.iload 5, 2) := by decide +kernel
theorem dX0_firstIn_126 : decode cX0_firstIn 126 = .ok (.if_icmp .gt 15, 3) := by decide +kernel
theorem dX0_firstIn_129 : decode cX0_firstIn 129 = .ok (.iload 8, 2) := by decide +kernel
theorem dX0_firstIn_131 : decode cX0_firstIn 131 = .ok (.iload 5, 2) := by decide +kernel
theorem dX0_firstIn_133 : decode cX0_firstIn 133 = .ok (.if_icmp .ne 16, 3) := by decide +kernel
theorem dX0_firstIn_136 : decode cX0_firstIn 136 = .ok (.iload 9, 2) := by decide +kernel
theorem dX0_firstIn_138 : decode cX0_firstIn 138 = .ok (.ifCond .eq 11, 3) := by decide +kernel
theorem dX0_firstIn_141 : decode cX0_firstIn 141 = .ok (.iload 6, 2) := by decide +kernel
theorem dX0_firstIn_143 : decode cX0_firstIn 143 = .ok (.istore 4, 2) := by decide +kernel
theorem dX0_firstIn_145 : decode cX0_firstIn 145 = .ok (.iload 8, 2) := by decide +kernel
theorem dX0_firstIn_147 : decode cX0_firstIn 147 = .ok (.istore 5, 2) := by decide +kernel
theorem dX0_firstIn_149 : decode cX0_firstIn 149 = .ok (.iinc 6 1, 3) := by decide +kernel
theorem dX0_firstIn_152 : decode cX0_firstIn 152 = .ok (.goto (-121), 3) := by decide +kernel
theorem dX0_firstIn_155 : decode cX0_firstIn 155 = .ok (.iload 4, 2) := by decide +kernel
theorem dX0_firstIn_157 : decode cX0_firstIn 157 = .ok (.ifCond .lt 19, 3) := by decide +kernel
theorem dX0_firstIn_160 : decode cX0_firstIn 160 = .ok (.aload_n 0, 1) := by decide +kernel
theorem dX0_firstIn_161 : decode cX0_firstIn 161 = .ok (.getfield 30, 3) := by decide +kernel
theorem dX0_firstIn_164 : decode cX0_firstIn 164 = .ok (.iload 4, 2) := by decide +kernel
theorem dX0_firstIn_166 : decode cX0_firstIn 166 = .ok (.iaload, 1) := by decide +kernel
theorem dX0_firstIn_167 : decode cX0_firstIn 167 = .ok (.iload_n 2, 1) := by decide +kernel
theorem dX0_firstIn_168 : decode cX0_firstIn 168 = .ok (.if_icmp .gt 8, 3) := by decide +kernel
theorem dX0_firstIn_171 : decode cX0_firstIn 171 = .ok (.iload 4, 2) := by decide +kernel
theorem dX0_firstIn_173 : decode cX0_firstIn 173 = .ok (.goto 4, 3) := by decide +kernel
theorem dX0_firstIn_176 : decode cX0_firstIn 176 = .ok (.iconst (-1), 1) := by decide +kernel
theorem dX0_firstIn_177 : decode cX0_firstIn 177 = .ok (.ireturn, 1) := by decide +kernel
theorem dX0_freePermits_0 : decode cX0_freePermits 0 = .ok (.aload_n 0, 1) := by decide +kernel
theorem dX0_freePermits_1 : decode cX0_freePermits 1 = .ok (.getfield 9, 3) := by decide +kernel
theorem dX0_freePermits_4 : decode cX0_freePermits 4 = .ok (.iload_n 1, 1) := by decide +kernel
theorem dX0_freePermits_5 : decode cX0_freePermits 5 = .ok (.iaload, 1) := by decide +kernel
theorem dX0_freePermits_6 : decode cX0_freePermits 6 = .ok (.istore_n 2, 1) := by decide +kernel
theorem dX0_freePermits_7 : decode cX0_freePermits 7 = .ok (.iconst 0, 1) := by decide +kernel
theorem dX0_freePermits_8 : decode cX0_freePermits 8 = .ok (.istore_n 3, 1) := by decide +kernel
theorem dX0_freePermits_9 : decode cX0_freePermits 9 = .ok (.iload_n 3, 1) := by decide +kernel
theorem dX0_freePermits_10 : decode cX0_freePermits 10 = .ok (.aload_n 0, 1) := by decide +kernel
theorem dX0_freePermits_11 : decode cX0_freePermits 11 = .ok (.getfield 55, 3) := by decide +kernel
theorem dX0_freePermits_14 : decode cX0_freePermits 14 = .ok (.if_icmp .ge 38, 3) := by decide +kernel
theorem dX0_freePermits_17 : decode cX0_freePermits 17 = .ok (.aload_n 0, 1) := by decide +kernel
theorem dX0_freePermits_18 : decode cX0_freePermits 18 = .ok (.getfield 24, 3) := by decide +kernel
theorem dX0_freePermits_21 : decode cX0_freePermits 21 = .ok (.iload_n 3, 1) := by decide +kernel
theorem dX0_freePermits_22 : decode cX0_freePermits 22 = .ok (.iaload, 1) := by decide +kernel
theorem dX0_freePermits_23 : decode cX0_freePermits 23 = .ok (.iconst 2, 1) := by decide +kernel
theorem dX0_freePermits_24 : decode cX0_freePermits 24 = .ok (.if_icmp .ne 22, 3) := by decide +kernel
theorem dX0_freePermits_27 : decode cX0_freePermits 27 = .ok (.aload_n 0, 1) := by decide +kernel
theorem dX0_freePermits_28 : decode cX0_freePermits 28 = .ok (.getfield 27, 3) := by decide +kernel
theorem dX0_freePermits_31 : decode cX0_freePermits 31 = .ok (.iload_n 3, 1) := by decide +kernel
theorem dX0_freePermits_32 : decode cX0_freePermits 32 = .ok (.iaload, 1) := by decide +kernel
theorem dX0_freePermits_33 : decode cX0_freePermits 33 = .ok (.iload_n 1, 1) := by decide +kernel
theorem dX0_freePermits_34 : decode cX0_freePermits 34 = .ok (.if_icmp .ne 12, 3) := by decide +kernel
theorem dX0_freePermits_37 : decode cX0_freePermits 37 = .ok (.iload_n 2, 1) := by decide +kernel
theorem dX0_freePermits_38 : decode cX0_freePermits 38 = .ok (.aload_n 0, 1) := by decide +kernel
theorem dX0_freePermits_39 : decode cX0_freePermits 39 = .ok (.getfield 30, 3) := by decide +kernel
theorem dX0_freePermits_42 : decode cX0_freePermits 42 = .ok (.iload_n 3, 1) := by decide +kernel
theorem dX0_freePermits_43 : decode cX0_freePermits 43 = .ok (.iaload, 1) := by decide +kernel
theorem dX0_freePermits_44 : decode cX0_freePermits 44 = .ok (.isub, 1) := by decide +kernel
theorem dX0_freePermits_45 : decode cX0_freePermits 45 = .ok (.istore_n 2, 1) := by decide +kernel
theorem dX0_freePermits_46 : decode cX0_freePermits 46 = .ok (.iinc 3 1, 3) := by decide +kernel
theorem dX0_freePermits_49 : decode cX0_freePermits 49 = .ok (.goto (-40), 3) := by decide +kernel
theorem dX0_freePermits_52 : decode cX0_freePermits 52 = .ok (.iload_n 2, 1) := by decide +kernel
theorem dX0_freePermits_53 : decode cX0_freePermits 53 = .ok (.ireturn, 1) := by decide +kernel
theorem dX0_waitsAt_0 : decode cX0_waitsAt 0 = .ok (.aload_n 0, 1) := by decide +kernel
theorem dX0_waitsAt_1 : decode cX0_waitsAt 1 = .ok (.getfield 24, 3) := by decide +kernel
theorem dX0_waitsAt_4 : decode cX0_waitsAt 4 = .ok (.iload_n 1, 1) := by decide +kernel
theorem dX0_waitsAt_5 : decode cX0_waitsAt 5 = .ok (.iaload, 1) := by decide +kernel
theorem dX0_waitsAt_6 : decode cX0_waitsAt 6 = .ok (.iconst 1, 1) := by decide +kernel
theorem dX0_waitsAt_7 : decode cX0_waitsAt 7 = .ok (.if_icmp .ne 17, 3) := by decide +kernel
theorem dX0_waitsAt_10 : decode cX0_waitsAt 10 = .ok (.aload_n 0, 1) := by decide +kernel
theorem dX0_waitsAt_11 : decode cX0_waitsAt 11 = .ok (.getfield 27, 3) := by decide +kernel
theorem dX0_waitsAt_14 : decode cX0_waitsAt 14 = .ok (.iload_n 1, 1) := by decide +kernel
theorem dX0_waitsAt_15 : decode cX0_waitsAt 15 = .ok (.iaload, 1) := by decide +kernel
theorem dX0_waitsAt_16 : decode cX0_waitsAt 16 = .ok (.iload_n 2, 1) := by decide +kernel
theorem dX0_waitsAt_17 : decode cX0_waitsAt 17 = .ok (.if_icmp .ne 7, 3) := by decide +kernel
theorem dX0_waitsAt_20 : decode cX0_waitsAt 20 = .ok (.iconst 1, 1) := by decide +kernel
theorem dX0_waitsAt_21 : decode cX0_waitsAt 21 = .ok (.goto 4, 3) := by decide +kernel
theorem dX0_waitsAt_24 : decode cX0_waitsAt 24 = .ok (.iconst 0, 1) := by decide +kernel
theorem dX0_waitsAt_25 : decode cX0_waitsAt 25 = .ok (.ireturn, 1) := by decide +kernel
theorem dX0_held_0 : decode cX0_held 0 = .ok (.aload_n 0, 1) := by decide +kernel
theorem dX0_held_1 : decode cX0_held 1 = .ok (.getfield 24, 3) := by decide +kernel
theorem dX0_held_4 : decode cX0_held 4 = .ok (.iload_n 1, 1) := by decide +kernel
theorem dX0_held_5 : decode cX0_held 5 = .ok (.iaload, 1) := by decide +kernel
theorem dX0_held_6 : decode cX0_held 6 = .ok (.iconst 2, 1) := by decide +kernel
theorem dX0_held_7 : decode cX0_held 7 = .ok (.if_icmp .ne 12, 3) := by decide +kernel
theorem dX0_held_10 : decode cX0_held 10 = .ok (.aload_n 0, 1) := by decide +kernel
theorem dX0_held_11 : decode cX0_held 11 = .ok (.getfield 30, 3) := by decide +kernel
theorem dX0_held_14 : decode cX0_held 14 = .ok (.iload_n 1, 1) := by decide +kernel
theorem dX0_held_15 : decode cX0_held 15 = .ok (.iaload, 1) := by decide +kernel
theorem dX0_held_16 : decode cX0_held 16 = .ok (.goto 4, 3) := by decide +kernel
theorem dX0_held_19 : decode cX0_held 19 = .ok (.iconst 0, 1) := by decide +kernel
theorem dX0_held_20 : decode cX0_held 20 = .ok (.ireturn, 1) := by decide +kernel
theorem dX0_seeming_0 : decode cX0_seeming 0 = .ok (.aload_n 0, 1) := by decide +kernel
theorem dX0_seeming_1 : decode cX0_seeming 1 = .ok (.getfield 21, 3) := by decide +kernel
theorem dX0_seeming_4 : decode cX0_seeming 4 = .ok (.iload_n 1, 1) := by decide +kernel
theorem dX0_seeming_5 : decode cX0_seeming 5 = .ok (.iaload, 1) := by decide +kernel
theorem dX0_seeming_6 : decode cX0_seeming 6 = .ok (.aload_n 0, 1) := by decide +kernel
theorem dX0_seeming_7 : decode cX0_seeming 7 = .ok (.getfield 42, 3) := by decide +kernel
theorem dX0_seeming_10 : decode cX0_seeming 10 = .ok (.iload_n 1, 1) := by decide +kernel
theorem dX0_seeming_11 : decode cX0_seeming 11 = .ok (.iaload, 1) := by decide +kernel
theorem dX0_seeming_12 : decode cX0_seeming 12 = .ok (.iconst 3, 1) := by decide +kernel
theorem dX0_seeming_13 : decode cX0_seeming 13 = .ok (.idiv, 1) := by decide +kernel
theorem dX0_seeming_14 : decode cX0_seeming 14 = .ok (.iadd, 1) := by decide +kernel
theorem dX0_seeming_15 : decode cX0_seeming 15 = .ok (.ireturn, 1) := by decide +kernel
set_option maxRecDepth 20000 in
theorem ggX0_countAheadOf_X0_waitsAt : GoodIn wsX0_countAheadOf wsX0_waitsAt := goodIn_r _ [8, 9, 2, 10, 11, 12, 13, 14, 15, 16, 17, 18, 19, 20, 21, 22, 23, 24, 25, 26] (by decide +kernel) (by decide +kernel)
set_option maxRecDepth 20000 in
theorem gX0_countAheadOf_X0_waitsAt : GoodIn wsX0_countAheadOf (wsV RX0 85 RX0 yX0_waitsAt wsX0_waitsAt) := goodIn_app (goodIn_of _ (by decide +kernel)) ggX0_countAheadOf_X0_waitsAt
theorem dX0_countAheadOf_0 : decode cX0_countAheadOf 0 = .ok (.iconst 0, 1) := by decide +kernel
theorem dX0_countAheadOf_1 : decode cX0_countAheadOf 1 = .ok (.istore_n 2, 1) := by decide +kernel
theorem dX0_countAheadOf_2 : decode cX0_countAheadOf 2 = .ok (.iconst 0, 1) := by decide +kernel
theorem dX0_countAheadOf_3 : decode cX0_countAheadOf 3 = .ok (.istore_n 3, 1) := by decide +kernel
theorem dX0_countAheadOf_4 : decode cX0_countAheadOf 4 = .ok (.iload_n 3, 1) := by decide +kernel
theorem dX0_countAheadOf_5 : decode cX0_countAheadOf 5 = .ok (.aload_n 0, 1) := by decide +kernel
theorem dX0_countAheadOf_6 : decode cX0_countAheadOf 6 = .ok (.getfield 55, 3) := by decide +kernel
theorem dX0_countAheadOf_9 : decode cX0_countAheadOf 9 = .ok (.if_icmp .ge 41, 3) := by decide +kernel
theorem dX0_countAheadOf_12 : decode cX0_countAheadOf 12 = .ok (.aload_n 0, 1) := by decide +kernel
theorem dX0_countAheadOf_13 : decode cX0_countAheadOf 13 = .ok (.iload_n 3, 1) := by decide +kernel
theorem dX0_countAheadOf_14 : decode cX0_countAheadOf 14 = .ok (.aload_n 0, 1) := by decide +kernel
theorem dX0_countAheadOf_15 : decode cX0_countAheadOf 15 = .ok (.getfield 27, 3) := by decide +kernel
theorem dX0_countAheadOf_18 : decode cX0_countAheadOf 18 = .ok (.iload_n 1, 1) := by decide +kernel
theorem dX0_countAheadOf_19 : decode cX0_countAheadOf 19 = .ok (.iaload, 1) := by decide +kernel
theorem dX0_countAheadOf_20 : decode cX0_countAheadOf 20 = .ok (.invokevirtual 85, 3) := by decide +kernel
theorem dX0_countAheadOf_23 : decode cX0_countAheadOf 23 = .ok (.ifCond .eq 21, 3) := by decide +kernel
theorem dX0_countAheadOf_26 : decode cX0_countAheadOf 26 = .ok (.aload_n 0, 1) := by decide +kernel
theorem dX0_countAheadOf_27 : decode cX0_countAheadOf 27 = .ok (.getfield 39, 3) := by decide +kernel
theorem dX0_countAheadOf_30 : decode cX0_countAheadOf 30 = .ok (.iload_n 3, 1) := by decide +kernel
theorem dX0_countAheadOf_31 : decode cX0_countAheadOf 31 = .ok (.iaload, 1) := by decide +kernel
theorem dX0_countAheadOf_32 : decode cX0_countAheadOf 32 = .ok (.aload_n 0, 1) := by decide +kernel
theorem dX0_countAheadOf_33 : decode cX0_countAheadOf 33 = .ok (.getfield 39, 3) := by decide +kernel
theorem dX0_countAheadOf_36 : decode cX0_countAheadOf 36 = .ok (.iload_n 1, 1) := by decide +kernel
theorem dX0_countAheadOf_37 : decode cX0_countAheadOf 37 = .ok (.iaload, 1) := by decide +kernel
theorem dX0_countAheadOf_38 : decode cX0_countAheadOf 38 = .ok (.if_icmp .ge 6, 3) := by decide +kernel
theorem dX0_countAheadOf_41 : decode cX0_countAheadOf 41 = .ok (.iinc 2 1, 3) := by decide +kernel
theorem dX0_countAheadOf_44 : decode cX0_countAheadOf 44 = .ok (.iinc 3 1, 3) := by decide +kernel
theorem dX0_countAheadOf_47 : decode cX0_countAheadOf 47 = .ok (.goto (-43), 3) := by decide +kernel
theorem dX0_countAheadOf_50 : decode cX0_countAheadOf 50 = .ok (.iload_n 2, 1) := by decide +kernel
theorem dX0_countAheadOf_51 : decode cX0_countAheadOf 51 = .ok (.ireturn, 1) := by decide +kernel
set_option maxRecDepth 20000 in
theorem ggX0_countWaitingAt_X0_waitsAt : GoodIn wsX0_countWaitingAt wsX0_waitsAt := goodIn_r _ [6, 7, 8, 9, 10, 11, 12, 13, 14, 15, 16, 17, 18, 19, 20, 21, 22, 23, 24, 25] (by decide +kernel) (by decide +kernel)
set_option maxRecDepth 20000 in
theorem gX0_countWaitingAt_X0_waitsAt : GoodIn wsX0_countWaitingAt (wsV RX0 85 RX0 yX0_waitsAt wsX0_waitsAt) := goodIn_app (goodIn_of _ (by decide +kernel)) ggX0_countWaitingAt_X0_waitsAt
theorem dX0_countWaitingAt_0 : decode cX0_countWaitingAt 0 = .ok (.iconst 0, 1) := by decide +kernel
theorem dX0_countWaitingAt_1 : decode cX0_countWaitingAt 1 = .ok (.istore_n 2, 1) := by decide +kernel
theorem dX0_countWaitingAt_2 : decode cX0_countWaitingAt 2 = .ok (.iconst 0, 1) := by decide +kernel
theorem dX0_countWaitingAt_3 : decode cX0_countWaitingAt 3 = .ok (.istore_n 3, 1) := by decide +kernel
theorem dX0_countWaitingAt_4 : decode cX0_countWaitingAt 4 = .ok (.iload_n 3, 1) := by decide +kernel
theorem dX0_countWaitingAt_5 : decode cX0_countWaitingAt 5 = .ok (.aload_n 0, 1) := by decide +kernel
theorem dX0_countWaitingAt_6 : decode cX0_countWaitingAt 6 = .ok (.getfield 55, 3) := by decide +kernel
theorem dX0_countWaitingAt_9 : decode cX0_countWaitingAt 9 = .ok (.if_icmp .ge 21, 3) := by decide +kernel
theorem dX0_countWaitingAt_12 : decode cX0_countWaitingAt 12 = .ok (.aload_n 0, 1) := by decide +kernel
theorem dX0_countWaitingAt_13 : decode cX0_countWaitingAt 13 = .ok (.iload_n 3, 1) := by decide +kernel
theorem dX0_countWaitingAt_14 : decode cX0_countWaitingAt 14 = .ok (.iload_n 1, 1) := by decide +kernel
theorem dX0_countWaitingAt_15 : decode cX0_countWaitingAt 15 = .ok (.invokevirtual 85, 3) := by decide +kernel
theorem dX0_countWaitingAt_18 : decode cX0_countWaitingAt 18 = .ok (.ifCond .eq 6, 3) := by decide +kernel
theorem dX0_countWaitingAt_21 : decode cX0_countWaitingAt 21 = .ok (.iinc 2 1, 3) := by decide +kernel
theorem dX0_countWaitingAt_24 : decode cX0_countWaitingAt 24 = .ok (.iinc 3 1, 3) := by decide +kernel
theorem dX0_countWaitingAt_27 : decode cX0_countWaitingAt 27 = .ok (.goto (-23), 3) := by decide +kernel
theorem dX0_countWaitingAt_30 : decode cX0_countWaitingAt 30 = .ok (.iload_n 2, 1) := by decide +kernel
theorem dX0_countWaitingAt_31 : decode cX0_countWaitingAt 31 = .ok (.ireturn, 1) := by decide +kernel
theorem dX0_countInState_0 : decode cX0_countInState 0 = .ok (.iconst 0, 1) := by decide +kernel
theorem dX0_countInState_1 : decode cX0_countInState 1 = .ok (.istore_n 2, 1) := by decide +kernel
theorem dX0_countInState_2 : decode cX0_countInState 2 = .ok (.iconst 0, 1) := by decide +kernel
theorem dX0_countInState_3 : decode cX0_countInState 3 = .ok (.istore_n 3, 1) := by decide +kernel
theorem dX0_countInState_4 : decode cX0_countInState 4 = .ok (.iload_n 3, 1) := by decide +kernel
theorem dX0_countInState_5 : decode cX0_countInState 5 = .ok (.aload_n 0, 1) := by decide +kernel
theorem dX0_countInState_6 : decode cX0_countInState 6 = .ok (.getfield 55, 3) := by decide +kernel
theorem dX0_countInState_9 : decode cX0_countInState 9 = .ok (.if_icmp .ge 22, 3) := by decide +kernel
theorem dX0_countInState_12 : decode cX0_countInState 12 = .ok (.aload_n 0, 1) := by decide +kernel
theorem dX0_countInState_13 : decode cX0_countInState 13 = .ok (.getfield 24, 3) := by decide +kernel
theorem dX0_countInState_16 : decode cX0_countInState 16 = .ok (.iload_n 3, 1) := by decide +kernel
theorem dX0_countInState_17 : decode cX0_countInState 17 = .ok (.iaload, 1) := by decide +kernel
theorem dX0_countInState_18 : decode cX0_countInState 18 = .ok (.iload_n 1, 1) := by decide +kernel
theorem dX0_countInState_19 : decode cX0_countInState 19 = .ok (.if_icmp .ne 6, 3) := by decide +kernel
theorem dX0_countInState_22 : decode cX0_countInState 22 = .ok (.iinc 2 1, 3) := by decide +kernel
theorem dX0_countInState_25 : decode cX0_countInState 25 = .ok (.iinc 3 1, 3) := by decide +kernel
theorem dX0_countInState_28 : decode cX0_countInState 28 = .ok (.goto (-24), 3) := by decide +kernel
theorem dX0_countInState_31 : decode cX0_countInState 31 = .ok (.iload_n 2, 1) := by decide +kernel
theorem dX0_countInState_32 : decode cX0_countInState 32 = .ok (.ireturn, 1) := by decide +kernel
theorem dX0_countStarving_0 : decode cX0_countStarving 0 = .ok (.iconst 0, 1) := by decide +kernel
theorem dX0_countStarving_1 : decode cX0_countStarving 1 = .ok (.istore_n 1, 1) := by decide +kernel
theorem dX0_countStarving_2 : decode cX0_countStarving 2 = .ok (.iconst 0, 1) := by decide +kernel
theorem dX0_countStarving_3 : decode cX0_countStarving 3 = .ok (.istore_n 2, 1) := by decide +kernel
theorem dX0_countStarving_4 : decode cX0_countStarving 4 = .ok (.iload_n 2, 1) := by decide +kernel
theorem dX0_countStarving_5 : decode cX0_countStarving 5 = .ok (.aload_n 0, 1) := by decide +kernel
theorem dX0_countStarving_6 : decode cX0_countStarving 6 = .ok (.getfield 55, 3) := by decide +kernel
theorem dX0_countStarving_9 : decode cX0_countStarving 9 = .ok (.if_icmp .ge 33, 3) := by decide +kernel
theorem dX0_countStarving_12 : decode cX0_countStarving 12 = .ok (.aload_n 0, 1) := by decide +kernel
theorem dX0_countStarving_13 : decode cX0_countStarving 13 = .ok (.getfield 24, 3) := by decide +kernel
theorem dX0_countStarving_16 : decode cX0_countStarving 16 = .ok (.iload_n 2, 1) := by decide +kernel
theorem dX0_countStarving_17 : decode cX0_countStarving 17 = .ok (.iaload, 1) := by decide +kernel
theorem dX0_countStarving_18 : decode cX0_countStarving 18 = .ok (.iconst 1, 1) := by decide +kernel
theorem dX0_countStarving_19 : decode cX0_countStarving 19 = .ok (.if_icmp .ne 17, 3) := by decide +kernel
theorem dX0_countStarving_22 : decode cX0_countStarving 22 = .ok (.aload_n 0, 1) := by decide +kernel
theorem dX0_countStarving_23 : decode cX0_countStarving 23 = .ok (.getfield 42, 3) := by decide +kernel
theorem dX0_countStarving_26 : decode cX0_countStarving 26 = .ok (.iload_n 2, 1) := by decide +kernel
theorem dX0_countStarving_27 : decode cX0_countStarving 27 = .ok (.iaload, 1) := by decide +kernel
theorem dX0_countStarving_28 : decode cX0_countStarving 28 = .ok (.bipush 8, 2) := by decide +kernel
theorem dX0_countStarving_30 : decode cX0_countStarving 30 = .ok (.if_icmp .lt 6, 3) := by decide +kernel
theorem dX0_countStarving_33 : decode cX0_countStarving 33 = .ok (.iinc 1 1, 3) := by decide +kernel
theorem dX0_countStarving_36 : decode cX0_countStarving 36 = .ok (.iinc 2 1, 3) := by decide +kernel
theorem dX0_countStarving_39 : decode cX0_countStarving 39 = .ok (.goto (-35), 3) := by decide +kernel
theorem dX0_countStarving_42 : decode cX0_countStarving 42 = .ok (.iload_n 1, 1) := by decide +kernel
theorem dX0_countStarving_43 : decode cX0_countStarving 43 = .ok (.ireturn, 1) := by decide +kernel
theorem dX0_givenUpInAll_0 : decode cX0_givenUpInAll 0 = .ok (.iconst 0, 1) := by decide +kernel
theorem dX0_givenUpInAll_1 : decode cX0_givenUpInAll 1 = .ok (.istore_n 1, 1) := by decide +kernel
theorem dX0_givenUpInAll_2 : decode cX0_givenUpInAll 2 = .ok (.iconst 0, 1) := by decide +kernel
theorem dX0_givenUpInAll_3 : decode cX0_givenUpInAll 3 = .ok (.istore_n 2, 1) := by decide +kernel
theorem dX0_givenUpInAll_4 : decode cX0_givenUpInAll 4 = .ok (.iload_n 2, 1) := by decide +kernel
theorem dX0_givenUpInAll_5 : decode cX0_givenUpInAll 5 = .ok (.aload_n 0, 1) := by decide +kernel
theorem dX0_givenUpInAll_6 : decode cX0_givenUpInAll 6 = .ok (.getfield 52, 3) := by decide +kernel
theorem dX0_givenUpInAll_9 : decode cX0_givenUpInAll 9 = .ok (.if_icmp .ge 18, 3) := by decide +kernel
theorem dX0_givenUpInAll_12 : decode cX0_givenUpInAll 12 = .ok (.iload_n 1, 1) := by decide +kernel
theorem dX0_givenUpInAll_13 : decode cX0_givenUpInAll 13 = .ok (.aload_n 0, 1) := by decide +kernel
theorem dX0_givenUpInAll_14 : decode cX0_givenUpInAll 14 = .ok (.getfield 18, 3) := by decide +kernel
theorem dX0_givenUpInAll_17 : decode cX0_givenUpInAll 17 = .ok (.iload_n 2, 1) := by decide +kernel
theorem dX0_givenUpInAll_18 : decode cX0_givenUpInAll 18 = .ok (.iaload, 1) := by decide +kernel
theorem dX0_givenUpInAll_19 : decode cX0_givenUpInAll 19 = .ok (.iadd, 1) := by decide +kernel
theorem dX0_givenUpInAll_20 : decode cX0_givenUpInAll 20 = .ok (.istore_n 1, 1) := by decide +kernel
theorem dX0_givenUpInAll_21 : decode cX0_givenUpInAll 21 = .ok (.iinc 2 1, 3) := by decide +kernel
theorem dX0_givenUpInAll_24 : decode cX0_givenUpInAll 24 = .ok (.goto (-20), 3) := by decide +kernel
theorem dX0_givenUpInAll_27 : decode cX0_givenUpInAll 27 = .ok (.iload_n 1, 1) := by decide +kernel
theorem dX0_givenUpInAll_28 : decode cX0_givenUpInAll 28 = .ok (.ireturn, 1) := by decide +kernel
theorem dX0_sumOfWaited_0 : decode cX0_sumOfWaited 0 = .ok (.iconst 0, 1) := by decide +kernel
theorem dX0_sumOfWaited_1 : decode cX0_sumOfWaited 1 = .ok (.istore_n 1, 1) := by decide +kernel
theorem dX0_sumOfWaited_2 : decode cX0_sumOfWaited 2 = .ok (.iconst 0, 1) := by decide +kernel
theorem dX0_sumOfWaited_3 : decode cX0_sumOfWaited 3 = .ok (.istore_n 2, 1) := by decide +kernel
theorem dX0_sumOfWaited_4 : decode cX0_sumOfWaited 4 = .ok (.iload_n 2, 1) := by decide +kernel
theorem dX0_sumOfWaited_5 : decode cX0_sumOfWaited 5 = .ok (.aload_n 0, 1) := by decide +kernel
theorem dX0_sumOfWaited_6 : decode cX0_sumOfWaited 6 = .ok (.getfield 55, 3) := by decide +kernel
theorem dX0_sumOfWaited_9 : decode cX0_sumOfWaited 9 = .ok (.if_icmp .ge 18, 3) := by decide +kernel
theorem dX0_sumOfWaited_12 : decode cX0_sumOfWaited 12 = .ok (.iload_n 1, 1) := by decide +kernel
theorem dX0_sumOfWaited_13 : decode cX0_sumOfWaited 13 = .ok (.aload_n 0, 1) := by decide +kernel
theorem dX0_sumOfWaited_14 : decode cX0_sumOfWaited 14 = .ok (.getfield 45, 3) := by decide +kernel
theorem dX0_sumOfWaited_17 : decode cX0_sumOfWaited 17 = .ok (.iload_n 2, 1) := by decide +kernel
theorem dX0_sumOfWaited_18 : decode cX0_sumOfWaited 18 = .ok (.iaload, 1) := by decide +kernel
theorem dX0_sumOfWaited_19 : decode cX0_sumOfWaited 19 = .ok (.iadd, 1) := by decide +kernel
theorem dX0_sumOfWaited_20 : decode cX0_sumOfWaited 20 = .ok (.istore_n 1, 1) := by decide +kernel
theorem dX0_sumOfWaited_21 : decode cX0_sumOfWaited 21 = .ok (.iinc 2 1, 3) := by decide +kernel
theorem dX0_sumOfWaited_24 : decode cX0_sumOfWaited 24 = .ok (.goto (-20), 3) := by decide +kernel
theorem dX0_sumOfWaited_27 : decode cX0_sumOfWaited 27 = .ok (.iload_n 1, 1) := by decide +kernel
theorem dX0_sumOfWaited_28 : decode cX0_sumOfWaited 28 = .ok (.ireturn, 1) := by decide +kernel
set_option maxRecDepth 20000 in
theorem ggX1_init_X0_init : GoodIn wsX1_init wsX0_init := goodIn_r _ [10, 11, 2, 3, 12, 13, 14, 15, 16, 17, 18, 19, 20, 21, 22, 23, 24, 25, 26, 27, 28, 29, 30, 31, 32, 33, 34, 35, 36, 37, 38, 39, 40, 41] (by decide +kernel) (by decide +kernel)
set_option maxRecDepth 20000 in
theorem gX1_init_X0_init_n9 : GoodIn wsX1_init (wsX0_init) := ggX1_init_X0_init

abbrev vwCl : List vw_C := [(RX0, TX0, 17), (RX1, TX1, 2), (RX2, TX2, 8)]
end
section
theorem dX1_init_0 : decode cX1_init 0 = .ok (.aload_n 0, 1) := by decide +kernel
theorem dX1_init_1 : decode cX1_init 1 = .ok (.invokespecial 1, 3) := by decide +kernel
theorem dX1_init_4 : decode cX1_init 4 = .ok (.aload_n 0, 1) := by decide +kernel
theorem dX1_init_5 : decode cX1_init 5 = .ok (.new 7, 3) := by decide +kernel
theorem dX1_init_8 : decode cX1_init 8 = .ok (.dup, 1) := by decide +kernel
theorem dX1_init_9 : decode cX1_init 9 = .ok (.invokespecial 9, 3) := by decide +kernel
theorem dX1_init_12 : decode cX1_init 12 = .ok (.putfield 10, 3) := by decide +kernel
theorem dX1_init_15 : decode cX1_init 15 = .ok (.aload_n 0, 1) := by decide +kernel
theorem dX1_init_16 : decode cX1_init 16 = .ok (.new 7, 3) := by decide +kernel
theorem dX1_init_19 : decode cX1_init 19 = .ok (.dup, 1) := by decide +kernel
theorem dX1_init_20 : decode cX1_init 20 = .ok (.invokespecial 9, 3) := by decide +kernel
theorem dX1_init_23 : decode cX1_init 23 = .ok (.putfield 16, 3) := by decide +kernel
theorem dX1_init_26 : decode cX1_init 26 = .ok (.return_, 1) := by decide +kernel
set_option maxRecDepth 20000 in
theorem ggX1_addGate_X1_checkNumber : GoodIn wsX1_addGate wsX1_checkNumber := goodIn_ca (goodIn_r _ [10, 1, 2] (by decide +kernel) (by decide +kernel)) (goodIn_sub (fun _ h => List.mem_cons_of_mem _ (List.mem_append_left _ (List.mem_append_right _ h))) (by decide +kernel))
set_option maxRecDepth 20000 in
theorem gX1_addGate_X1_checkNumber : GoodIn wsX1_addGate (va_wsS RX1 19 yX1_checkNumber wsX1_checkNumber) := goodIn_app (goodIn_of _ (by decide +kernel)) ggX1_addGate_X1_checkNumber
set_option maxRecDepth 20000 in
theorem ggX1_addGate_X0_openGate : GoodIn wsX1_addGate wsX0_openGate := goodIn_r _ [15, 16, 17, 18, 21, 22, 23, 24, 25, 26, 27, 28, 29, 30, 31, 32, 33, 34, 35, 36, 37] (by decide +kernel) (by decide +kernel)
set_option maxRecDepth 20000 in
theorem gX1_addGate_X0_openGate : GoodIn wsX1_addGate (wsV RX1 39 RX0 yX0_openGate wsX0_openGate) := goodIn_app (goodIn_of _ (by decide +kernel)) ggX1_addGate_X0_openGate
theorem dX1_addGate_0 : decode cX1_addGate 0 = .ok (.iload_n 1, 1) := by decide +kernel
theorem dX1_addGate_1 : decode cX1_addGate 1 = .ok (.bipush 9, 2) := by decide +kernel
theorem dX1_addGate_3 : decode cX1_addGate 3 = .ok (.invokestatic 19, 3) := by decide +kernel
theorem dX1_addGate_6 : decode cX1_addGate 6 = .ok (.iload_n 2, 1) := by decide +kernel
theorem dX1_addGate_7 : decode cX1_addGate 7 = .ok (.ifCond .eq 18, 3) := by decide +kernel
theorem dX1_addGate_10 : decode cX1_addGate 10 = .ok (.iload_n 2, 1) := by decide +kernel
theorem dX1_addGate_11 : decode cX1_addGate 11 = .ok (.iconst 1, 1) := by decide +kernel
theorem dX1_addGate_12 : decode cX1_addGate 12 = .ok (.if_icmp .eq 13, 3) := by decide +kernel
theorem dX1_addGate_15 : decode cX1_addGate 15 = .ok (.new 23, 3) := by decide +kernel
theorem dX1_addGate_18 : decode cX1_addGate 18 = .ok (.dup, 1) := by decide +kernel
theorem dX1_addGate_19 : decode cX1_addGate 19 = .ok (.ldc 25, 2) := by decide +kernel
theorem dX1_addGate_21 : decode cX1_addGate 21 = .ok (.invokespecial 27, 3) := by decide +kernel
theorem dX1_addGate_24 : decode cX1_addGate 24 = .ok (.athrow, 1) := by decide +kernel
theorem dX1_addGate_25 : decode cX1_addGate 25 = .ok (.aload_n 0, 1) := by decide +kernel
theorem dX1_addGate_26 : decode cX1_addGate 26 = .ok (.getfield 10, 3) := by decide +kernel
theorem dX1_addGate_29 : decode cX1_addGate 29 = .ok (.getfield 30, 3) := by decide +kernel
theorem dX1_addGate_32 : decode cX1_addGate 32 = .ok (.iconst 4, 1) := by decide +kernel
theorem dX1_addGate_33 : decode cX1_addGate 33 = .ok (.if_icmp .lt 13, 3) := by decide +kernel
theorem dX1_addGate_36 : decode cX1_addGate 36 = .ok (.new 34, 3) := by decide +kernel
theorem dX1_addGate_39 : decode cX1_addGate 39 = .ok (.dup, 1) := by decide +kernel
theorem dX1_addGate_40 : decode cX1_addGate 40 = .ok (.ldc 36, 2) := by decide +kernel
theorem dX1_addGate_42 : decode cX1_addGate 42 = .ok (.invokespecial 38, 3) := by decide +kernel
theorem dX1_addGate_45 : decode cX1_addGate 45 = .ok (.athrow, 1) := by decide +kernel
theorem dX1_addGate_46 : decode cX1_addGate 46 = .ok (.aload_n 0, 1) := by decide +kernel
theorem dX1_addGate_47 : decode cX1_addGate 47 = .ok (.getfield 10, 3) := by decide +kernel
theorem dX1_addGate_50 : decode cX1_addGate 50 = .ok (.iload_n 1, 1) := by decide +kernel
theorem dX1_addGate_51 : decode cX1_addGate 51 = .ok (.iload_n 2, 1) := by decide +kernel
theorem dX1_addGate_52 : decode cX1_addGate 52 = .ok (.invokevirtual 39, 3) := by decide +kernel
theorem dX1_addGate_55 : decode cX1_addGate 55 = .ok (.ireturn, 1) := by decide +kernel
set_option maxRecDepth 20000 in
theorem ggX1_addGoat_X1_checkNumber : GoodIn wsX1_addGoat wsX1_checkNumber := goodIn_ca (goodIn_r _ [8, 9, 10] (by decide +kernel) (by decide +kernel)) (goodIn_sub (fun _ h => List.mem_cons_of_mem _ (List.mem_append_right _ h)) (by decide +kernel))
set_option maxRecDepth 20000 in
theorem gX1_addGoat_X1_checkNumber : GoodIn wsX1_addGoat (va_wsS RX1 19 yX1_checkNumber wsX1_checkNumber) := goodIn_app (goodIn_of _ (by decide +kernel)) ggX1_addGoat_X1_checkNumber
set_option maxRecDepth 20000 in
theorem ggX1_addGoat_X0_bringGoat : GoodIn wsX1_addGoat wsX0_bringGoat := goodIn_r _ [15, 16, 17, 18, 19, 20, 14, 21, 22, 23, 24, 25, 28, 29, 30, 31, 32, 33, 34, 35, 36, 37, 38, 39, 40, 41, 42, 43, 44] (by decide +kernel) (by decide +kernel)
set_option maxRecDepth 20000 in
theorem gX1_addGoat_X0_bringGoat : GoodIn wsX1_addGoat (wsV RX1 48 RX0 yX0_bringGoat wsX0_bringGoat) := goodIn_app (goodIn_of _ (by decide +kernel)) ggX1_addGoat_X0_bringGoat
theorem dX1_addGoat_0 : decode cX1_addGoat 0 = .ok (.iload_n 1, 1) := by decide +kernel
theorem dX1_addGoat_1 : decode cX1_addGoat 1 = .ok (.bipush 9, 2) := by decide +kernel
theorem dX1_addGoat_3 : decode cX1_addGoat 3 = .ok (.invokestatic 19, 3) := by decide +kernel
theorem dX1_addGoat_6 : decode cX1_addGoat 6 = .ok (.aload_n 0, 1) := by decide +kernel
theorem dX1_addGoat_7 : decode cX1_addGoat 7 = .ok (.getfield 10, 3) := by decide +kernel
theorem dX1_addGoat_10 : decode cX1_addGoat 10 = .ok (.getfield 43, 3) := by decide +kernel
theorem dX1_addGoat_13 : decode cX1_addGoat 13 = .ok (.bipush 12, 2) := by decide +kernel
theorem dX1_addGoat_15 : decode cX1_addGoat 15 = .ok (.if_icmp .lt 13, 3) := by decide +kernel
theorem dX1_addGoat_18 : decode cX1_addGoat 18 = .ok (.new 34, 3) := by decide +kernel
theorem dX1_addGoat_21 : decode cX1_addGoat 21 = .ok (.dup, 1) := by decide +kernel
theorem dX1_addGoat_22 : decode cX1_addGoat 22 = .ok (.ldc 46, 2) := by decide +kernel
theorem dX1_addGoat_24 : decode cX1_addGoat 24 = .ok (.invokespecial 38, 3) := by decide +kernel
theorem dX1_addGoat_27 : decode cX1_addGoat 27 = .ok (.athrow, 1) := by decide +kernel
theorem dX1_addGoat_28 : decode cX1_addGoat 28 = .ok (.aload_n 0, 1) := by decide +kernel
theorem dX1_addGoat_29 : decode cX1_addGoat 29 = .ok (.getfield 10, 3) := by decide +kernel
theorem dX1_addGoat_32 : decode cX1_addGoat 32 = .ok (.iload_n 1, 1) := by decide +kernel
theorem dX1_addGoat_33 : decode cX1_addGoat 33 = .ok (.invokevirtual 48, 3) := by decide +kernel
theorem dX1_addGoat_36 : decode cX1_addGoat 36 = .ok (.ireturn, 1) := by decide +kernel
set_option maxRecDepth 20000 in
theorem ggX1_ask_X1_checkGoat : GoodIn wsX1_ask wsX1_checkGoat := goodIn_ca (goodIn_r _ [7, 8, 9, 1, 10, 49, 50, 51, 52, 53, 54, 55, 56, 57, 58, 59, 60, 61, 62, 63, 64, 65, 66, 67] (by decide +kernel) (by decide +kernel)) (goodIn_sub (fun _ h => List.mem_cons_of_mem _ (List.mem_append_left _ (List.mem_append_left _ (List.mem_append_right _ h)))) (by decide +kernel))
set_option maxRecDepth 20000 in
theorem gX1_ask_X1_checkGoat : GoodIn wsX1_ask (wsV RX1 52 RX1 yX1_checkGoat wsX1_checkGoat) := goodIn_app (goodIn_of _ (by decide +kernel)) ggX1_ask_X1_checkGoat
set_option maxRecDepth 20000 in
theorem ggX1_ask_X1_checkGate : GoodIn wsX1_ask wsX1_checkGate := goodIn_ca (goodIn_r _ [14, 8, 9, 1, 15, 49, 50, 51, 52, 53, 54, 55, 56, 57, 58, 59, 60, 61, 62, 63, 64, 65, 66, 67] (by decide +kernel) (by decide +kernel)) (goodIn_sub (fun _ h => List.mem_cons_of_mem _ (List.mem_append_left _ (List.mem_append_left _ (List.mem_append_right _ h)))) (by decide +kernel))
set_option maxRecDepth 20000 in
theorem gX1_ask_X1_checkGate : GoodIn wsX1_ask (wsV RX1 56 RX1 yX1_checkGate wsX1_checkGate) := goodIn_app (goodIn_of _ (by decide +kernel)) ggX1_ask_X1_checkGate
set_option maxRecDepth 20000 in
theorem ggX1_ask_X1_checkNumber : GoodIn wsX1_ask wsX1_checkNumber := goodIn_ca (goodIn_r _ [18, 19, 20] (by decide +kernel) (by decide +kernel)) (goodIn_sub (fun _ h => List.mem_cons_of_mem _ (List.mem_append_left _ (List.mem_append_right _ h))) (by decide +kernel))
set_option maxRecDepth 20000 in
theorem gX1_ask_X1_checkNumber : GoodIn wsX1_ask (va_wsS RX1 19 yX1_checkNumber wsX1_checkNumber) := goodIn_app (goodIn_of _ (by decide +kernel)) ggX1_ask_X1_checkNumber
set_option maxRecDepth 20000 in
theorem ggX1_ask_X1_checkIdle : GoodIn wsX1_ask wsX1_checkIdle := goodIn_ca (goodIn_r _ [24, 25, 26, 1, 27, 49, 50, 51, 52, 53, 54, 55, 56, 57, 58, 59, 60, 61, 62, 63, 64, 65, 66, 67] (by decide +kernel) (by decide +kernel)) (goodIn_sub (fun _ h => List.mem_cons_of_mem _ (List.mem_append_right _ h)) (by decide +kernel))
set_option maxRecDepth 20000 in
theorem gX1_ask_X1_checkIdle : GoodIn wsX1_ask (wsV RX1 63 RX1 yX1_checkIdle wsX1_checkIdle) := goodIn_app (goodIn_of _ (by decide +kernel)) ggX1_ask_X1_checkIdle
set_option maxRecDepth 20000 in
theorem ggX1_ask_X0_lineUp : GoodIn wsX1_ask wsX0_lineUp := goodIn_r _ [32, 33, 34, 35, 36, 37, 38, 39, 51, 52, 53, 54, 55, 56, 57, 58, 59, 60, 61, 62, 63, 64, 65, 66, 67] (by decide +kernel) (by decide +kernel)
set_option maxRecDepth 20000 in
theorem gX1_ask_X0_lineUp : GoodIn wsX1_ask (wsV RX1 66 RX0 yX0_lineUp wsX0_lineUp) := goodIn_app (goodIn_of _ (by decide +kernel)) ggX1_ask_X0_lineUp
set_option maxRecDepth 20000 in
theorem ggX1_ask_X0_countWaitingAt : GoodIn wsX1_ask wsX0_countWaitingAt := goodIn_r _ [43, 44, 45, 46, 47, 31, 48, 33, 34, 51, 52, 53, 54, 55, 56, 57, 58, 59, 60, 61, 62, 63, 64, 65, 66, 67] (by decide +kernel) (by decide +kernel)
set_option maxRecDepth 20000 in
theorem gX1_ask_X0_countWaitingAt : GoodIn wsX1_ask (wsV RX1 70 RX0 yX0_countWaitingAt wsX0_countWaitingAt) := goodIn_app (goodIn_of _ (by decide +kernel)) ggX1_ask_X0_countWaitingAt
theorem dX1_ask_0 : decode cX1_ask 0 = .ok (.aload_n 0, 1) := by decide +kernel
theorem dX1_ask_1 : decode cX1_ask 1 = .ok (.iload_n 1, 1) := by decide +kernel
theorem dX1_ask_2 : decode cX1_ask 2 = .ok (.invokevirtual 52, 3) := by decide +kernel
theorem dX1_ask_5 : decode cX1_ask 5 = .ok (.aload_n 0, 1) := by decide +kernel
theorem dX1_ask_6 : decode cX1_ask 6 = .ok (.iload_n 2, 1) := by decide +kernel
theorem dX1_ask_7 : decode cX1_ask 7 = .ok (.invokevirtual 56, 3) := by decide +kernel
theorem dX1_ask_10 : decode cX1_ask 10 = .ok (.iload_n 3, 1) := by decide +kernel
theorem dX1_ask_11 : decode cX1_ask 11 = .ok (.aload_n 0, 1) := by decide +kernel
theorem dX1_ask_12 : decode cX1_ask 12 = .ok (.getfield 10, 3) := by decide +kernel
theorem dX1_ask_15 : decode cX1_ask 15 = .ok (.getfield 59, 3) := by decide +kernel
theorem dX1_ask_18 : decode cX1_ask 18 = .ok (.iload_n 2, 1) := by decide +kernel
theorem dX1_ask_19 : decode cX1_ask 19 = .ok (.iaload, 1) := by decide +kernel
theorem dX1_ask_20 : decode cX1_ask 20 = .ok (.invokestatic 19, 3) := by decide +kernel
theorem dX1_ask_23 : decode cX1_ask 23 = .ok (.iload 4, 2) := by decide +kernel
theorem dX1_ask_25 : decode cX1_ask 25 = .ok (.bipush 30, 2) := by decide +kernel
theorem dX1_ask_27 : decode cX1_ask 27 = .ok (.invokestatic 19, 3) := by decide +kernel
theorem dX1_ask_30 : decode cX1_ask 30 = .ok (.iload 5, 2) := by decide +kernel
theorem dX1_ask_32 : decode cX1_ask 32 = .ok (.bipush 60, 2) := by decide +kernel
theorem dX1_ask_34 : decode cX1_ask 34 = .ok (.invokestatic 19, 3) := by decide +kernel
theorem dX1_ask_37 : decode cX1_ask 37 = .ok (.aload_n 0, 1) := by decide +kernel
theorem dX1_ask_38 : decode cX1_ask 38 = .ok (.iload_n 1, 1) := by decide +kernel
theorem dX1_ask_39 : decode cX1_ask 39 = .ok (.invokevirtual 63, 3) := by decide +kernel
theorem dX1_ask_42 : decode cX1_ask 42 = .ok (.aload_n 0, 1) := by decide +kernel
theorem dX1_ask_43 : decode cX1_ask 43 = .ok (.getfield 10, 3) := by decide +kernel
theorem dX1_ask_46 : decode cX1_ask 46 = .ok (.iload_n 1, 1) := by decide +kernel
theorem dX1_ask_47 : decode cX1_ask 47 = .ok (.iload_n 2, 1) := by decide +kernel
theorem dX1_ask_48 : decode cX1_ask 48 = .ok (.iload_n 3, 1) := by decide +kernel
theorem dX1_ask_49 : decode cX1_ask 49 = .ok (.iload 4, 2) := by decide +kernel
theorem dX1_ask_51 : decode cX1_ask 51 = .ok (.iload 5, 2) := by decide +kernel
theorem dX1_ask_53 : decode cX1_ask 53 = .ok (.invokevirtual 66, 3) := by decide +kernel
theorem dX1_ask_56 : decode cX1_ask 56 = .ok (.aload_n 0, 1) := by decide +kernel
theorem dX1_ask_57 : decode cX1_ask 57 = .ok (.getfield 10, 3) := by decide +kernel
theorem dX1_ask_60 : decode cX1_ask 60 = .ok (.iload_n 2, 1) := by decide +kernel
theorem dX1_ask_61 : decode cX1_ask 61 = .ok (.invokevirtual 70, 3) := by decide +kernel
theorem dX1_ask_64 : decode cX1_ask 64 = .ok (.ireturn, 1) := by decide +kernel
set_option maxRecDepth 20000 in
theorem ggX1_barge_X1_checkGoat : GoodIn wsX1_barge wsX1_checkGoat := goodIn_ca (goodIn_r _ [9, 10, 11, 3, 12, 44, 45, 46, 47, 48, 49, 50, 51, 52, 53, 54, 55, 56, 57, 58, 59, 60, 61, 62] (by decide +kernel) (by decide +kernel)) (goodIn_sub (fun _ h => List.mem_cons_of_mem _ (List.mem_append_left _ (List.mem_append_right _ h))) (by decide +kernel))
set_option maxRecDepth 20000 in
theorem gX1_barge_X1_checkGoat : GoodIn wsX1_barge (wsV RX1 52 RX1 yX1_checkGoat wsX1_checkGoat) := goodIn_app (goodIn_of _ (by decide +kernel)) ggX1_barge_X1_checkGoat
set_option maxRecDepth 20000 in
theorem ggX1_barge_X1_checkGate : GoodIn wsX1_barge wsX1_checkGate := goodIn_ca (goodIn_r _ [16, 10, 11, 3, 17, 44, 45, 46, 47, 48, 49, 50, 51, 52, 53, 54, 55, 56, 57, 58, 59, 60, 61, 62] (by decide +kernel) (by decide +kernel)) (goodIn_sub (fun _ h => List.mem_cons_of_mem _ (List.mem_append_left _ (List.mem_append_right _ h))) (by decide +kernel))
set_option maxRecDepth 20000 in
theorem gX1_barge_X1_checkGate : GoodIn wsX1_barge (wsV RX1 56 RX1 yX1_checkGate wsX1_checkGate) := goodIn_app (goodIn_of _ (by decide +kernel)) ggX1_barge_X1_checkGate
set_option maxRecDepth 20000 in
theorem ggX1_barge_X1_checkNumber : GoodIn wsX1_barge wsX1_checkNumber := goodIn_ca (goodIn_r _ [20, 21, 22] (by decide +kernel) (by decide +kernel)) (goodIn_sub (fun _ h => List.mem_cons_of_mem _ (List.mem_append_right _ h)) (by decide +kernel))
set_option maxRecDepth 20000 in
theorem gX1_barge_X1_checkNumber : GoodIn wsX1_barge (va_wsS RX1 19 yX1_checkNumber wsX1_checkNumber) := goodIn_app (goodIn_of _ (by decide +kernel)) ggX1_barge_X1_checkNumber
set_option maxRecDepth 20000 in
theorem ggX1_barge_X1_checkIdle : GoodIn wsX1_barge wsX1_checkIdle := goodIn_ca (goodIn_r _ [26, 1, 2, 3, 27, 44, 45, 46, 47, 48, 49, 50, 51, 52, 53, 54, 55, 56, 57, 58, 59, 60, 61, 62] (by decide +kernel) (by decide +kernel)) (goodIn_sub (fun _ h => List.mem_cons_of_mem _ (List.mem_append_left _ (List.mem_append_left _ (List.mem_append_right _ h)))) (by decide +kernel))
set_option maxRecDepth 20000 in
theorem gX1_barge_X1_checkIdle : GoodIn wsX1_barge (wsV RX1 63 RX1 yX1_checkIdle wsX1_checkIdle) := goodIn_app (goodIn_of _ (by decide +kernel)) ggX1_barge_X1_checkIdle
set_option maxRecDepth 20000 in
theorem ggX1_barge_X0_freePermits : GoodIn wsX1_barge wsX0_freePermits := goodIn_r _ [32, 33, 34, 35, 36, 37, 46, 47, 48, 49, 50, 51, 52, 53, 54, 55, 56, 57, 58, 59, 60, 61, 62] (by decide +kernel) (by decide +kernel)
set_option maxRecDepth 20000 in
theorem gX1_barge_X0_freePermits : GoodIn wsX1_barge (wsV RX1 73 RX0 yX0_freePermits wsX0_freePermits) := goodIn_app (goodIn_of _ (by decide +kernel)) ggX1_barge_X0_freePermits
set_option maxRecDepth 20000 in
theorem ggX1_barge_X0_enter : GoodIn wsX1_barge wsX0_enter := goodIn_r _ [41, 35, 36, 37, 42, 43, 46, 47, 48, 49, 50, 51, 52, 53, 54, 55, 56, 57, 58, 59, 60, 61, 62] (by decide +kernel) (by decide +kernel)
set_option maxRecDepth 20000 in
theorem gX1_barge_X0_enter : GoodIn wsX1_barge (wsV RX1 78 RX0 yX0_enter wsX0_enter) := goodIn_app (goodIn_of _ (by decide +kernel)) ggX1_barge_X0_enter
theorem dX1_barge_0 : decode cX1_barge 0 = .ok (.aload_n 0, 1) := by decide +kernel
theorem dX1_barge_1 : decode cX1_barge 1 = .ok (.iload_n 1, 1) := by decide +kernel
theorem dX1_barge_2 : decode cX1_barge 2 = .ok (.invokevirtual 52, 3) := by decide +kernel
theorem dX1_barge_5 : decode cX1_barge 5 = .ok (.aload_n 0, 1) := by decide +kernel
theorem dX1_barge_6 : decode cX1_barge 6 = .ok (.iload_n 2, 1) := by decide +kernel
theorem dX1_barge_7 : decode cX1_barge 7 = .ok (.invokevirtual 56, 3) := by decide +kernel
theorem dX1_barge_10 : decode cX1_barge 10 = .ok (.iload_n 3, 1) := by decide +kernel
theorem dX1_barge_11 : decode cX1_barge 11 = .ok (.aload_n 0, 1) := by decide +kernel
theorem dX1_barge_12 : decode cX1_barge 12 = .ok (.getfield 10, 3) := by decide +kernel
theorem dX1_barge_15 : decode cX1_barge 15 = .ok (.getfield 59, 3) := by decide +kernel
theorem dX1_barge_18 : decode cX1_barge 18 = .ok (.iload_n 2, 1) := by decide +kernel
theorem dX1_barge_19 : decode cX1_barge 19 = .ok (.iaload, 1) := by decide +kernel
theorem dX1_barge_20 : decode cX1_barge 20 = .ok (.invokestatic 19, 3) := by decide +kernel
theorem dX1_barge_23 : decode cX1_barge 23 = .ok (.iload 4, 2) := by decide +kernel
theorem dX1_barge_25 : decode cX1_barge 25 = .ok (.bipush 30, 2) := by decide +kernel
theorem dX1_barge_27 : decode cX1_barge 27 = .ok (.invokestatic 19, 3) := by decide +kernel
theorem dX1_barge_30 : decode cX1_barge 30 = .ok (.aload_n 0, 1) := by decide +kernel
theorem dX1_barge_31 : decode cX1_barge 31 = .ok (.iload_n 1, 1) := by decide +kernel
theorem dX1_barge_32 : decode cX1_barge 32 = .ok (.invokevirtual 63, 3) := by decide +kernel
theorem dX1_barge_35 : decode cX1_barge 35 = .ok (.aload_n 0, 1) := by decide +kernel
theorem dX1_barge_36 : decode cX1_barge 36 = .ok (.getfield 10, 3) := by decide +kernel
theorem dX1_barge_39 : decode cX1_barge 39 = .ok (.iload_n 2, 1) := by decide +kernel
theorem dX1_barge_40 : decode cX1_barge 40 = .ok (.invokevirtual 73, 3) := by decide +kernel
theorem dX1_barge_43 : decode cX1_barge 43 = .ok (.iload_n 3, 1) := by decide +kernel
theorem dX1_barge_44 : decode cX1_barge 44 = .ok (.if_icmp .ge 13, 3) := by decide +kernel
theorem dX1_barge_47 : decode cX1_barge 47 = .ok (.new 34, 3) := by decide +kernel
theorem dX1_barge_50 : decode cX1_barge 50 = .ok (.dup, 1) := by decide +kernel
theorem dX1_barge_51 : decode cX1_barge 51 = .ok (.ldc 76, 2) := by decide +kernel
theorem dX1_barge_53 : decode cX1_barge 53 = .ok (.invokespecial 38, 3) := by decide +kernel
theorem dX1_barge_56 : decode cX1_barge 56 = .ok (.athrow, 1) := by decide +kernel
theorem dX1_barge_57 : decode cX1_barge 57 = .ok (.aload_n 0, 1) := by decide +kernel
theorem dX1_barge_58 : decode cX1_barge 58 = .ok (.getfield 10, 3) := by decide +kernel
theorem dX1_barge_61 : decode cX1_barge 61 = .ok (.iload_n 1, 1) := by decide +kernel
theorem dX1_barge_62 : decode cX1_barge 62 = .ok (.iload_n 2, 1) := by decide +kernel
theorem dX1_barge_63 : decode cX1_barge 63 = .ok (.iload_n 3, 1) := by decide +kernel
theorem dX1_barge_64 : decode cX1_barge 64 = .ok (.iload 4, 2) := by decide +kernel
theorem dX1_barge_66 : decode cX1_barge 66 = .ok (.invokevirtual 78, 3) := by decide +kernel
theorem dX1_barge_69 : decode cX1_barge 69 = .ok (.aload_n 0, 1) := by decide +kernel
theorem dX1_barge_70 : decode cX1_barge 70 = .ok (.getfield 10, 3) := by decide +kernel
theorem dX1_barge_73 : decode cX1_barge 73 = .ok (.iload_n 2, 1) := by decide +kernel
theorem dX1_barge_74 : decode cX1_barge 74 = .ok (.invokevirtual 73, 3) := by decide +kernel
theorem dX1_barge_77 : decode cX1_barge 77 = .ok (.ireturn, 1) := by decide +kernel
set_option maxRecDepth 20000 in
theorem ggX1_callBack_X1_checkGoat : GoodIn wsX1_callBack wsX1_checkGoat := goodIn_ca (goodIn_r _ [9, 10, 11, 3, 12, 27, 28, 29, 30, 31, 32, 33, 34, 35, 36, 37, 38, 39, 40, 41, 42, 43, 44, 45] (by decide +kernel) (by decide +kernel)) (goodIn_sub (fun _ h => List.mem_cons_of_mem _ (List.mem_append_right _ h)) (by decide +kernel))
set_option maxRecDepth 20000 in
theorem gX1_callBack_X1_checkGoat : GoodIn wsX1_callBack (wsV RX1 52 RX1 yX1_checkGoat wsX1_checkGoat) := goodIn_app (goodIn_of _ (by decide +kernel)) ggX1_callBack_X1_checkGoat
set_option maxRecDepth 20000 in
theorem ggX1_callBack_X0_held : GoodIn wsX1_callBack wsX0_held := goodIn_r _ [17, 18, 19, 29, 30, 31, 32, 33, 34, 35, 36, 37, 38, 39, 40, 41, 42, 43, 44, 45] (by decide +kernel) (by decide +kernel)
set_option maxRecDepth 20000 in
theorem gX1_callBack_X0_held : GoodIn wsX1_callBack (wsV RX1 87 RX0 yX0_held wsX0_held) := goodIn_app (goodIn_of _ (by decide +kernel)) ggX1_callBack_X0_held
set_option maxRecDepth 20000 in
theorem ggX1_callBack_X0_rest : GoodIn wsX1_callBack wsX0_rest := goodIn_r _ [23, 18, 24, 25, 26, 29, 30, 31, 32, 33, 34, 35, 36, 37, 38, 39, 40, 41, 42, 43, 44, 45] (by decide +kernel) (by decide +kernel)
set_option maxRecDepth 20000 in
theorem gX1_callBack_X0_rest : GoodIn wsX1_callBack (wsV RX1 90 RX0 yX0_rest wsX0_rest) := goodIn_app (goodIn_of _ (by decide +kernel)) ggX1_callBack_X0_rest
theorem dX1_callBack_0 : decode cX1_callBack 0 = .ok (.aload_n 0, 1) := by decide +kernel
theorem dX1_callBack_1 : decode cX1_callBack 1 = .ok (.iload_n 1, 1) := by decide +kernel
theorem dX1_callBack_2 : decode cX1_callBack 2 = .ok (.invokevirtual 52, 3) := by decide +kernel
theorem dX1_callBack_5 : decode cX1_callBack 5 = .ok (.aload_n 0, 1) := by decide +kernel
theorem dX1_callBack_6 : decode cX1_callBack 6 = .ok (.getfield 10, 3) := by decide +kernel
theorem dX1_callBack_9 : decode cX1_callBack 9 = .ok (.getfield 82, 3) := by decide +kernel
theorem dX1_callBack_12 : decode cX1_callBack 12 = .ok (.iload_n 1, 1) := by decide +kernel
theorem dX1_callBack_13 : decode cX1_callBack 13 = .ok (.iaload, 1) := by decide +kernel
theorem dX1_callBack_14 : decode cX1_callBack 14 = .ok (.ifCond .ne 13, 3) := by decide +kernel
theorem dX1_callBack_17 : decode cX1_callBack 17 = .ok (.new 34, 3) := by decide +kernel
theorem dX1_callBack_20 : decode cX1_callBack 20 = .ok (.dup, 1) := by decide +kernel
theorem dX1_callBack_21 : decode cX1_callBack 21 = .ok (.ldc 85, 2) := by decide +kernel
theorem dX1_callBack_23 : decode cX1_callBack 23 = .ok (.invokespecial 38, 3) := by decide +kernel
theorem dX1_callBack_26 : decode cX1_callBack 26 = .ok (.athrow, 1) := by decide +kernel
theorem dX1_callBack_27 : decode cX1_callBack 27 = .ok (.aload_n 0, 1) := by decide +kernel
theorem dX1_callBack_28 : decode cX1_callBack 28 = .ok (.getfield 10, 3) := by decide +kernel
theorem dX1_callBack_31 : decode cX1_callBack 31 = .ok (.iload_n 1, 1) := by decide +kernel
theorem dX1_callBack_32 : decode cX1_callBack 32 = .ok (.invokevirtual 87, 3) := by decide +kernel
theorem dX1_callBack_35 : decode cX1_callBack 35 = .ok (.istore_n 2, 1) := by decide +kernel
theorem dX1_callBack_36 : decode cX1_callBack 36 = .ok (.aload_n 0, 1) := by decide +kernel
theorem dX1_callBack_37 : decode cX1_callBack 37 = .ok (.getfield 10, 3) := by decide +kernel
theorem dX1_callBack_40 : decode cX1_callBack 40 = .ok (.iload_n 1, 1) := by decide +kernel
theorem dX1_callBack_41 : decode cX1_callBack 41 = .ok (.invokevirtual 90, 3) := by decide +kernel
theorem dX1_callBack_44 : decode cX1_callBack 44 = .ok (.iload_n 2, 1) := by decide +kernel
theorem dX1_callBack_45 : decode cX1_callBack 45 = .ok (.ireturn, 1) := by decide +kernel
set_option maxRecDepth 20000 in
theorem ggX1_pass_X1_checkNumber : GoodIn wsX1_pass wsX1_checkNumber := goodIn_ca (goodIn_r _ [6, 7, 8] (by decide +kernel) (by decide +kernel)) (goodIn_sub (fun _ h => List.mem_cons_of_mem _ (List.mem_append_right _ h)) (by decide +kernel))
set_option maxRecDepth 20000 in
theorem gX1_pass_X1_checkNumber : GoodIn wsX1_pass (va_wsS RX1 19 yX1_checkNumber wsX1_checkNumber) := goodIn_app (goodIn_of _ (by decide +kernel)) ggX1_pass_X1_checkNumber
set_option maxRecDepth 20000 in
theorem ggX1_pass_X0_liveAMinute : GoodIn wsX1_pass wsX0_liveAMinute := goodIn_r _ [13, 14, 15, 16, 17, 18, 12, 19, 20, 21, 22, 23, 24, 25, 26, 27, 28, 29, 30, 31, 32, 33, 34, 35, 36, 37, 38, 39, 40, 41, 42, 43, 44, 45, 46, 47, 48, 49, 50, 51, 52, 53, 54, 55, 56, 57, 58, 59, 60, 61, 62, 63, 64, 65, 68, 69, 70, 71, 72, 73, 74, 75, 76, 77, 78, 79, 80, 81, 82, 83, 84] (by decide +kernel) (by decide +kernel)
set_option maxRecDepth 20000 in
theorem gX1_pass_X0_liveAMinute : GoodIn wsX1_pass (wsV RX1 96 RX0 yX0_liveAMinute wsX0_liveAMinute) := goodIn_app (goodIn_of _ (by decide +kernel)) ggX1_pass_X0_liveAMinute
theorem dX1_pass_0 : decode cX1_pass 0 = .ok (.iload_n 1, 1) := by decide +kernel
theorem dX1_pass_1 : decode cX1_pass 1 = .ok (.bipush 60, 2) := by decide +kernel
theorem dX1_pass_3 : decode cX1_pass 3 = .ok (.invokestatic 19, 3) := by decide +kernel
theorem dX1_pass_6 : decode cX1_pass 6 = .ok (.aload_n 0, 1) := by decide +kernel
theorem dX1_pass_7 : decode cX1_pass 7 = .ok (.getfield 10, 3) := by decide +kernel
theorem dX1_pass_10 : decode cX1_pass 10 = .ok (.getfield 93, 3) := by decide +kernel
theorem dX1_pass_13 : decode cX1_pass 13 = .ok (.istore_n 2, 1) := by decide +kernel
theorem dX1_pass_14 : decode cX1_pass 14 = .ok (.iconst 0, 1) := by decide +kernel
theorem dX1_pass_15 : decode cX1_pass 15 = .ok (.istore_n 3, 1) := by decide +kernel
theorem dX1_pass_16 : decode cX1_pass 16 = .ok (.iload_n 3, 1) := by decide +kernel
theorem dX1_pass_17 : decode cX1_pass 17 = .ok (.iload_n 1, 1) := by decide +kernel
theorem dX1_pass_18 : decode cX1_pass 18 = .ok (.if_icmp .ge 16, 3) := by decide +kernel
theorem dX1_pass_21 : decode cX1_pass 21 = .ok (.aload_n 0, 1) := by decide +kernel
theorem dX1_pass_22 : decode cX1_pass 22 = .ok (.getfield 10, 3) := by decide +kernel
theorem dX1_pass_25 : decode cX1_pass 25 = .ok (.invokevirtual 96, 3) := by decide +kernel
theorem dX1_pass_28 : decode cX1_pass 28 = .ok (.iinc 3 1, 3) := by decide +kernel
theorem dX1_pass_31 : decode cX1_pass 31 = .ok (.goto (-15), 3) := by decide +kernel
theorem dX1_pass_34 : decode cX1_pass 34 = .ok (.aload_n 0, 1) := by decide +kernel
theorem dX1_pass_35 : decode cX1_pass 35 = .ok (.getfield 10, 3) := by decide +kernel
theorem dX1_pass_38 : decode cX1_pass 38 = .ok (.getfield 93, 3) := by decide +kernel
theorem dX1_pass_41 : decode cX1_pass 41 = .ok (.iload_n 2, 1) := by decide +kernel
theorem dX1_pass_42 : decode cX1_pass 42 = .ok (.isub, 1) := by decide +kernel
theorem dX1_pass_43 : decode cX1_pass 43 = .ok (.ireturn, 1) := by decide +kernel
theorem dX1_minute_0 : decode cX1_minute 0 = .ok (.aload_n 0, 1) := by decide +kernel
theorem dX1_minute_1 : decode cX1_minute 1 = .ok (.getfield 10, 3) := by decide +kernel
theorem dX1_minute_4 : decode cX1_minute 4 = .ok (.getfield 99, 3) := by decide +kernel
theorem dX1_minute_7 : decode cX1_minute 7 = .ok (.ireturn, 1) := by decide +kernel
theorem dX1_gates_0 : decode cX1_gates 0 = .ok (.aload_n 0, 1) := by decide +kernel
theorem dX1_gates_1 : decode cX1_gates 1 = .ok (.getfield 10, 3) := by decide +kernel
theorem dX1_gates_4 : decode cX1_gates 4 = .ok (.getfield 30, 3) := by decide +kernel
theorem dX1_gates_7 : decode cX1_gates 7 = .ok (.ireturn, 1) := by decide +kernel
theorem dX1_goats_0 : decode cX1_goats 0 = .ok (.aload_n 0, 1) := by decide +kernel
theorem dX1_goats_1 : decode cX1_goats 1 = .ok (.getfield 10, 3) := by decide +kernel
theorem dX1_goats_4 : decode cX1_goats 4 = .ok (.getfield 43, 3) := by decide +kernel
theorem dX1_goats_7 : decode cX1_goats 7 = .ok (.ireturn, 1) := by decide +kernel
set_option maxRecDepth 20000 in
theorem ggX1_waiting_X0_countInState : GoodIn wsX1_waiting wsX0_countInState := goodIn_r _ [6, 7, 8, 11, 12, 13, 14, 15, 16, 17, 18, 19, 20, 21, 22, 23, 24, 25, 26, 27] (by decide +kernel) (by decide +kernel)
set_option maxRecDepth 20000 in
theorem gX1_waiting_X0_countInState : GoodIn wsX1_waiting (wsV RX1 102 RX0 yX0_countInState wsX0_countInState) := goodIn_app (goodIn_of _ (by decide +kernel)) ggX1_waiting_X0_countInState
theorem dX1_waiting_0 : decode cX1_waiting 0 = .ok (.aload_n 0, 1) := by decide +kernel
theorem dX1_waiting_1 : decode cX1_waiting 1 = .ok (.getfield 10, 3) := by decide +kernel
theorem dX1_waiting_4 : decode cX1_waiting 4 = .ok (.iconst 1, 1) := by decide +kernel
theorem dX1_waiting_5 : decode cX1_waiting 5 = .ok (.invokevirtual 102, 3) := by decide +kernel
theorem dX1_waiting_8 : decode cX1_waiting 8 = .ok (.ireturn, 1) := by decide +kernel
set_option maxRecDepth 20000 in
theorem ggX1_inside_X0_countInState : GoodIn wsX1_inside wsX0_countInState := goodIn_r _ [6, 7, 8, 11, 12, 13, 14, 15, 16, 17, 18, 19, 20, 21, 22, 23, 24, 25, 26, 27] (by decide +kernel) (by decide +kernel)
set_option maxRecDepth 20000 in
theorem gX1_inside_X0_countInState : GoodIn wsX1_inside (wsV RX1 102 RX0 yX0_countInState wsX0_countInState) := goodIn_app (goodIn_of _ (by decide +kernel)) ggX1_inside_X0_countInState
theorem dX1_inside_0 : decode cX1_inside 0 = .ok (.aload_n 0, 1) := by decide +kernel
theorem dX1_inside_1 : decode cX1_inside 1 = .ok (.getfield 10, 3) := by decide +kernel
theorem dX1_inside_4 : decode cX1_inside 4 = .ok (.iconst 2, 1) := by decide +kernel
theorem dX1_inside_5 : decode cX1_inside 5 = .ok (.invokevirtual 102, 3) := by decide +kernel
theorem dX1_inside_8 : decode cX1_inside 8 = .ok (.ireturn, 1) := by decide +kernel
set_option maxRecDepth 20000 in
theorem ggX1_starving_X0_countStarving : GoodIn wsX1_starving wsX0_countStarving := goodIn_r _ [6, 7, 8, 9, 12, 13, 14, 15, 16, 17, 18, 19, 20, 21, 22, 23, 24, 25, 26, 27, 28] (by decide +kernel) (by decide +kernel)
set_option maxRecDepth 20000 in
theorem gX1_starving_X0_countStarving : GoodIn wsX1_starving (wsV RX1 105 RX0 yX0_countStarving wsX0_countStarving) := goodIn_app (goodIn_of _ (by decide +kernel)) ggX1_starving_X0_countStarving
theorem dX1_starving_0 : decode cX1_starving 0 = .ok (.aload_n 0, 1) := by decide +kernel
theorem dX1_starving_1 : decode cX1_starving 1 = .ok (.getfield 10, 3) := by decide +kernel
theorem dX1_starving_4 : decode cX1_starving 4 = .ok (.invokevirtual 105, 3) := by decide +kernel
theorem dX1_starving_7 : decode cX1_starving 7 = .ok (.ireturn, 1) := by decide +kernel
theorem dX1_letIn_0 : decode cX1_letIn 0 = .ok (.aload_n 0, 1) := by decide +kernel
theorem dX1_letIn_1 : decode cX1_letIn 1 = .ok (.getfield 10, 3) := by decide +kernel
theorem dX1_letIn_4 : decode cX1_letIn 4 = .ok (.getfield 93, 3) := by decide +kernel
theorem dX1_letIn_7 : decode cX1_letIn 7 = .ok (.ireturn, 1) := by decide +kernel
set_option maxRecDepth 20000 in
theorem ggX1_givenUp_X0_givenUpInAll : GoodIn wsX1_givenUp wsX0_givenUpInAll := goodIn_r _ [6, 7, 8, 11, 12, 13, 14, 15, 16, 17, 18, 19, 20, 21, 22, 23, 24, 25, 26, 27] (by decide +kernel) (by decide +kernel)
set_option maxRecDepth 20000 in
theorem gX1_givenUp_X0_givenUpInAll : GoodIn wsX1_givenUp (wsV RX1 109 RX0 yX0_givenUpInAll wsX0_givenUpInAll) := goodIn_app (goodIn_of _ (by decide +kernel)) ggX1_givenUp_X0_givenUpInAll
theorem dX1_givenUp_0 : decode cX1_givenUp 0 = .ok (.aload_n 0, 1) := by decide +kernel
theorem dX1_givenUp_1 : decode cX1_givenUp 1 = .ok (.getfield 10, 3) := by decide +kernel
theorem dX1_givenUp_4 : decode cX1_givenUp 4 = .ok (.invokevirtual 109, 3) := by decide +kernel
theorem dX1_givenUp_7 : decode cX1_givenUp 7 = .ok (.ireturn, 1) := by decide +kernel
set_option maxRecDepth 20000 in
theorem ggX1_permitsOf_X1_checkGate : GoodIn wsX1_permitsOf wsX1_checkGate := goodIn_ca (goodIn_r _ [7, 8, 9, 1, 10, 11, 12, 13, 14, 15, 16, 17, 18, 19, 20, 21, 22, 23, 24, 25, 26, 27, 28, 29] (by decide +kernel) (by decide +kernel)) (goodIn_sub (fun _ h => List.mem_cons_of_mem _ (List.mem_append_right _ h)) (by decide +kernel))
set_option maxRecDepth 20000 in
theorem gX1_permitsOf_X1_checkGate : GoodIn wsX1_permitsOf (wsV RX1 56 RX1 yX1_checkGate wsX1_checkGate) := goodIn_app (goodIn_of _ (by decide +kernel)) ggX1_permitsOf_X1_checkGate
theorem dX1_permitsOf_0 : decode cX1_permitsOf 0 = .ok (.aload_n 0, 1) := by decide +kernel
theorem dX1_permitsOf_1 : decode cX1_permitsOf 1 = .ok (.iload_n 1, 1) := by decide +kernel
theorem dX1_permitsOf_2 : decode cX1_permitsOf 2 = .ok (.invokevirtual 56, 3) := by decide +kernel
theorem dX1_permitsOf_5 : decode cX1_permitsOf 5 = .ok (.aload_n 0, 1) := by decide +kernel
theorem dX1_permitsOf_6 : decode cX1_permitsOf 6 = .ok (.getfield 10, 3) := by decide +kernel
theorem dX1_permitsOf_9 : decode cX1_permitsOf 9 = .ok (.getfield 59, 3) := by decide +kernel
theorem dX1_permitsOf_12 : decode cX1_permitsOf 12 = .ok (.iload_n 1, 1) := by decide +kernel
theorem dX1_permitsOf_13 : decode cX1_permitsOf 13 = .ok (.iaload, 1) := by decide +kernel
theorem dX1_permitsOf_14 : decode cX1_permitsOf 14 = .ok (.ireturn, 1) := by decide +kernel
set_option maxRecDepth 20000 in
theorem ggX1_freeOf_X1_checkGate : GoodIn wsX1_freeOf wsX1_checkGate := goodIn_ca (goodIn_r _ [6, 7, 8, 1, 9, 20, 21, 22, 23, 24, 25, 26, 27, 28, 29, 30, 31, 32, 33, 34, 35, 36, 37, 38] (by decide +kernel) (by decide +kernel)) (goodIn_sub (fun _ h => List.mem_cons_of_mem _ (List.mem_append_right _ h)) (by decide +kernel))
set_option maxRecDepth 20000 in
theorem gX1_freeOf_X1_checkGate : GoodIn wsX1_freeOf (wsV RX1 56 RX1 yX1_checkGate wsX1_checkGate) := goodIn_app (goodIn_of _ (by decide +kernel)) ggX1_freeOf_X1_checkGate
set_option maxRecDepth 20000 in
theorem ggX1_freeOf_X0_freePermits : GoodIn wsX1_freeOf wsX0_freePermits := goodIn_r _ [14, 15, 16, 17, 18, 19, 22, 23, 24, 25, 26, 27, 28, 29, 30, 31, 32, 33, 34, 35, 36, 37, 38] (by decide +kernel) (by decide +kernel)
set_option maxRecDepth 20000 in
theorem gX1_freeOf_X0_freePermits : GoodIn wsX1_freeOf (wsV RX1 73 RX0 yX0_freePermits wsX0_freePermits) := goodIn_app (goodIn_of _ (by decide +kernel)) ggX1_freeOf_X0_freePermits
theorem dX1_freeOf_0 : decode cX1_freeOf 0 = .ok (.aload_n 0, 1) := by decide +kernel
theorem dX1_freeOf_1 : decode cX1_freeOf 1 = .ok (.iload_n 1, 1) := by decide +kernel
theorem dX1_freeOf_2 : decode cX1_freeOf 2 = .ok (.invokevirtual 56, 3) := by decide +kernel
theorem dX1_freeOf_5 : decode cX1_freeOf 5 = .ok (.aload_n 0, 1) := by decide +kernel
theorem dX1_freeOf_6 : decode cX1_freeOf 6 = .ok (.getfield 10, 3) := by decide +kernel
theorem dX1_freeOf_9 : decode cX1_freeOf 9 = .ok (.iload_n 1, 1) := by decide +kernel
theorem dX1_freeOf_10 : decode cX1_freeOf 10 = .ok (.invokevirtual 73, 3) := by decide +kernel
theorem dX1_freeOf_13 : decode cX1_freeOf 13 = .ok (.ireturn, 1) := by decide +kernel
set_option maxRecDepth 20000 in
theorem ggX1_waitingAt_X1_checkGate : GoodIn wsX1_waitingAt wsX1_checkGate := goodIn_ca (goodIn_r _ [6, 7, 8, 1, 9, 22, 23, 24, 25, 26, 27, 28, 29, 30, 31, 32, 33, 34, 35, 36, 37, 38, 39, 40] (by decide +kernel) (by decide +kernel)) (goodIn_sub (fun _ h => List.mem_cons_of_mem _ (List.mem_append_right _ h)) (by decide +kernel))
set_option maxRecDepth 20000 in
theorem gX1_waitingAt_X1_checkGate : GoodIn wsX1_waitingAt (wsV RX1 56 RX1 yX1_checkGate wsX1_checkGate) := goodIn_app (goodIn_of _ (by decide +kernel)) ggX1_waitingAt_X1_checkGate
set_option maxRecDepth 20000 in
theorem ggX1_waitingAt_X0_countWaitingAt : GoodIn wsX1_waitingAt wsX0_countWaitingAt := goodIn_r _ [14, 15, 16, 17, 18, 13, 19, 20, 21, 24, 25, 26, 27, 28, 29, 30, 31, 32, 33, 34, 35, 36, 37, 38, 39, 40] (by decide +kernel) (by decide +kernel)
set_option maxRecDepth 20000 in
theorem gX1_waitingAt_X0_countWaitingAt : GoodIn wsX1_waitingAt (wsV RX1 70 RX0 yX0_countWaitingAt wsX0_countWaitingAt) := goodIn_app (goodIn_of _ (by decide +kernel)) ggX1_waitingAt_X0_countWaitingAt
theorem dX1_waitingAt_0 : decode cX1_waitingAt 0 = .ok (.aload_n 0, 1) := by decide +kernel
theorem dX1_waitingAt_1 : decode cX1_waitingAt 1 = .ok (.iload_n 1, 1) := by decide +kernel
theorem dX1_waitingAt_2 : decode cX1_waitingAt 2 = .ok (.invokevirtual 56, 3) := by decide +kernel
theorem dX1_waitingAt_5 : decode cX1_waitingAt 5 = .ok (.aload_n 0, 1) := by decide +kernel
theorem dX1_waitingAt_6 : decode cX1_waitingAt 6 = .ok (.getfield 10, 3) := by decide +kernel
theorem dX1_waitingAt_9 : decode cX1_waitingAt 9 = .ok (.iload_n 1, 1) := by decide +kernel
theorem dX1_waitingAt_10 : decode cX1_waitingAt 10 = .ok (.invokevirtual 70, 3) := by decide +kernel
theorem dX1_waitingAt_13 : decode cX1_waitingAt 13 = .ok (.ireturn, 1) := by decide +kernel
set_option maxRecDepth 20000 in
theorem ggX1_nextAt_X1_checkGate : GoodIn wsX1_nextAt wsX1_checkGate := goodIn_ca (goodIn_r _ [6, 7, 8, 1, 9, 36, 37, 38, 39, 40, 41, 42, 43, 44, 45, 46, 47, 48, 49, 50, 51, 52, 53, 54] (by decide +kernel) (by decide +kernel)) (goodIn_sub (fun _ h => List.mem_cons_of_mem _ (List.mem_append_right _ h)) (by decide +kernel))
set_option maxRecDepth 20000 in
theorem gX1_nextAt_X1_checkGate : GoodIn wsX1_nextAt (wsV RX1 56 RX1 yX1_checkGate wsX1_checkGate) := goodIn_app (goodIn_of _ (by decide +kernel)) ggX1_nextAt_X1_checkGate
set_option maxRecDepth 20000 in
theorem ggX1_nextAt_X0_firstIn : GoodIn wsX1_nextAt wsX0_firstIn := goodIn_r _ [14, 15, 16, 17, 18, 19, 20, 21, 13, 22, 23, 24, 25, 26, 27, 28, 29, 30, 31, 32, 33, 34, 35, 38, 39, 40, 41, 42, 43, 44, 45, 46, 47, 48, 49, 50, 51, 52, 53, 54] (by decide +kernel) (by decide +kernel)
set_option maxRecDepth 20000 in
theorem gX1_nextAt_X0_firstIn : GoodIn wsX1_nextAt (wsV RX1 112 RX0 yX0_firstIn wsX0_firstIn) := goodIn_app (goodIn_of _ (by decide +kernel)) ggX1_nextAt_X0_firstIn
theorem dX1_nextAt_0 : decode cX1_nextAt 0 = .ok (.aload_n 0, 1) := by decide +kernel
theorem dX1_nextAt_1 : decode cX1_nextAt 1 = .ok (.iload_n 1, 1) := by decide +kernel
theorem dX1_nextAt_2 : decode cX1_nextAt 2 = .ok (.invokevirtual 56, 3) := by decide +kernel
theorem dX1_nextAt_5 : decode cX1_nextAt 5 = .ok (.aload_n 0, 1) := by decide +kernel
theorem dX1_nextAt_6 : decode cX1_nextAt 6 = .ok (.getfield 10, 3) := by decide +kernel
theorem dX1_nextAt_9 : decode cX1_nextAt 9 = .ok (.iload_n 1, 1) := by decide +kernel
theorem dX1_nextAt_10 : decode cX1_nextAt 10 = .ok (.invokevirtual 112, 3) := by decide +kernel
theorem dX1_nextAt_13 : decode cX1_nextAt 13 = .ok (.ireturn, 1) := by decide +kernel
set_option maxRecDepth 20000 in
theorem ggX1_stateOf_X1_checkGoat : GoodIn wsX1_stateOf wsX1_checkGoat := goodIn_ca (goodIn_r _ [7, 8, 9, 1, 10, 11, 12, 13, 14, 15, 16, 17, 18, 19, 20, 21, 22, 23, 24, 25, 26, 27, 28, 29] (by decide +kernel) (by decide +kernel)) (goodIn_sub (fun _ h => List.mem_cons_of_mem _ (List.mem_append_right _ h)) (by decide +kernel))
set_option maxRecDepth 20000 in
theorem gX1_stateOf_X1_checkGoat : GoodIn wsX1_stateOf (wsV RX1 52 RX1 yX1_checkGoat wsX1_checkGoat) := goodIn_app (goodIn_of _ (by decide +kernel)) ggX1_stateOf_X1_checkGoat
theorem dX1_stateOf_0 : decode cX1_stateOf 0 = .ok (.aload_n 0, 1) := by decide +kernel
theorem dX1_stateOf_1 : decode cX1_stateOf 1 = .ok (.iload_n 1, 1) := by decide +kernel
theorem dX1_stateOf_2 : decode cX1_stateOf 2 = .ok (.invokevirtual 52, 3) := by decide +kernel
theorem dX1_stateOf_5 : decode cX1_stateOf 5 = .ok (.aload_n 0, 1) := by decide +kernel
theorem dX1_stateOf_6 : decode cX1_stateOf 6 = .ok (.getfield 10, 3) := by decide +kernel
theorem dX1_stateOf_9 : decode cX1_stateOf 9 = .ok (.getfield 82, 3) := by decide +kernel
theorem dX1_stateOf_12 : decode cX1_stateOf 12 = .ok (.iload_n 1, 1) := by decide +kernel
theorem dX1_stateOf_13 : decode cX1_stateOf 13 = .ok (.iaload, 1) := by decide +kernel
theorem dX1_stateOf_14 : decode cX1_stateOf 14 = .ok (.ireturn, 1) := by decide +kernel
set_option maxRecDepth 20000 in
theorem ggX1_gateOf_X1_checkGoat : GoodIn wsX1_gateOf wsX1_checkGoat := goodIn_ca (goodIn_r _ [7, 8, 9, 1, 10, 11, 12, 13, 14, 15, 16, 17, 18, 19, 20, 21, 22, 23, 24, 25, 26, 27, 28, 29] (by decide +kernel) (by decide +kernel)) (goodIn_sub (fun _ h => List.mem_cons_of_mem _ (List.mem_append_right _ h)) (by decide +kernel))
set_option maxRecDepth 20000 in
theorem gX1_gateOf_X1_checkGoat : GoodIn wsX1_gateOf (wsV RX1 52 RX1 yX1_checkGoat wsX1_checkGoat) := goodIn_app (goodIn_of _ (by decide +kernel)) ggX1_gateOf_X1_checkGoat
theorem dX1_gateOf_0 : decode cX1_gateOf 0 = .ok (.aload_n 0, 1) := by decide +kernel
theorem dX1_gateOf_1 : decode cX1_gateOf 1 = .ok (.iload_n 1, 1) := by decide +kernel
theorem dX1_gateOf_2 : decode cX1_gateOf 2 = .ok (.invokevirtual 52, 3) := by decide +kernel
theorem dX1_gateOf_5 : decode cX1_gateOf 5 = .ok (.aload_n 0, 1) := by decide +kernel
theorem dX1_gateOf_6 : decode cX1_gateOf 6 = .ok (.getfield 10, 3) := by decide +kernel
theorem dX1_gateOf_9 : decode cX1_gateOf 9 = .ok (.getfield 115, 3) := by decide +kernel
theorem dX1_gateOf_12 : decode cX1_gateOf 12 = .ok (.iload_n 1, 1) := by decide +kernel
theorem dX1_gateOf_13 : decode cX1_gateOf 13 = .ok (.iaload, 1) := by decide +kernel
theorem dX1_gateOf_14 : decode cX1_gateOf 14 = .ok (.ireturn, 1) := by decide +kernel
set_option maxRecDepth 20000 in
theorem ggX1_holds_X1_checkGoat : GoodIn wsX1_holds wsX1_checkGoat := goodIn_ca (goodIn_r _ [6, 7, 8, 1, 9, 17, 18, 19, 20, 21, 22, 23, 24, 25, 26, 27, 28, 29, 30, 31, 32, 33, 34, 35] (by decide +kernel) (by decide +kernel)) (goodIn_sub (fun _ h => List.mem_cons_of_mem _ (List.mem_append_right _ h)) (by decide +kernel))
set_option maxRecDepth 20000 in
theorem gX1_holds_X1_checkGoat : GoodIn wsX1_holds (wsV RX1 52 RX1 yX1_checkGoat wsX1_checkGoat) := goodIn_app (goodIn_of _ (by decide +kernel)) ggX1_holds_X1_checkGoat
set_option maxRecDepth 20000 in
theorem ggX1_holds_X0_held : GoodIn wsX1_holds wsX0_held := goodIn_r _ [14, 15, 16, 19, 20, 21, 22, 23, 24, 25, 26, 27, 28, 29, 30, 31, 32, 33, 34, 35] (by decide +kernel) (by decide +kernel)
set_option maxRecDepth 20000 in
theorem gX1_holds_X0_held : GoodIn wsX1_holds (wsV RX1 87 RX0 yX0_held wsX0_held) := goodIn_app (goodIn_of _ (by decide +kernel)) ggX1_holds_X0_held
theorem dX1_holds_0 : decode cX1_holds 0 = .ok (.aload_n 0, 1) := by decide +kernel
theorem dX1_holds_1 : decode cX1_holds 1 = .ok (.iload_n 1, 1) := by decide +kernel
theorem dX1_holds_2 : decode cX1_holds 2 = .ok (.invokevirtual 52, 3) := by decide +kernel
theorem dX1_holds_5 : decode cX1_holds 5 = .ok (.aload_n 0, 1) := by decide +kernel
theorem dX1_holds_6 : decode cX1_holds 6 = .ok (.getfield 10, 3) := by decide +kernel
theorem dX1_holds_9 : decode cX1_holds 9 = .ok (.iload_n 1, 1) := by decide +kernel
theorem dX1_holds_10 : decode cX1_holds 10 = .ok (.invokevirtual 87, 3) := by decide +kernel
theorem dX1_holds_13 : decode cX1_holds 13 = .ok (.ireturn, 1) := by decide +kernel
set_option maxRecDepth 20000 in
theorem ggX1_seemingHorns_X1_checkGoat : GoodIn wsX1_seemingHorns wsX1_checkGoat := goodIn_ca (goodIn_r _ [6, 7, 8, 1, 9, 17, 18, 19, 20, 21, 22, 23, 24, 25, 26, 27, 28, 29, 30, 31, 32, 33, 34, 35] (by decide +kernel) (by decide +kernel)) (goodIn_sub (fun _ h => List.mem_cons_of_mem _ (List.mem_append_right _ h)) (by decide +kernel))
set_option maxRecDepth 20000 in
theorem gX1_seemingHorns_X1_checkGoat : GoodIn wsX1_seemingHorns (wsV RX1 52 RX1 yX1_checkGoat wsX1_checkGoat) := goodIn_app (goodIn_of _ (by decide +kernel)) ggX1_seemingHorns_X1_checkGoat
set_option maxRecDepth 20000 in
theorem ggX1_seemingHorns_X0_seeming : GoodIn wsX1_seemingHorns wsX0_seeming := goodIn_r _ [14, 15, 16, 19, 20, 21, 22, 23, 24, 25, 26, 27, 28, 29, 30, 31, 32, 33, 34, 35] (by decide +kernel) (by decide +kernel)
set_option maxRecDepth 20000 in
theorem gX1_seemingHorns_X0_seeming : GoodIn wsX1_seemingHorns (wsV RX1 118 RX0 yX0_seeming wsX0_seeming) := goodIn_app (goodIn_of _ (by decide +kernel)) ggX1_seemingHorns_X0_seeming
theorem dX1_seemingHorns_0 : decode cX1_seemingHorns 0 = .ok (.aload_n 0, 1) := by decide +kernel
theorem dX1_seemingHorns_1 : decode cX1_seemingHorns 1 = .ok (.iload_n 1, 1) := by decide +kernel
theorem dX1_seemingHorns_2 : decode cX1_seemingHorns 2 = .ok (.invokevirtual 52, 3) := by decide +kernel
theorem dX1_seemingHorns_5 : decode cX1_seemingHorns 5 = .ok (.aload_n 0, 1) := by decide +kernel
theorem dX1_seemingHorns_6 : decode cX1_seemingHorns 6 = .ok (.getfield 10, 3) := by decide +kernel
theorem dX1_seemingHorns_9 : decode cX1_seemingHorns 9 = .ok (.iload_n 1, 1) := by decide +kernel
theorem dX1_seemingHorns_10 : decode cX1_seemingHorns 10 = .ok (.invokevirtual 118, 3) := by decide +kernel
theorem dX1_seemingHorns_13 : decode cX1_seemingHorns 13 = .ok (.ireturn, 1) := by decide +kernel
set_option maxRecDepth 20000 in
theorem ggX1_minutesLeft_X1_checkGoat : GoodIn wsX1_minutesLeft wsX1_checkGoat := goodIn_ca (goodIn_r _ [7, 8, 9, 1, 10, 11, 12, 13, 14, 15, 16, 17, 18, 19, 20, 21, 22, 23, 24, 25, 26, 27, 28, 29] (by decide +kernel) (by decide +kernel)) (goodIn_sub (fun _ h => List.mem_cons_of_mem _ (List.mem_append_right _ h)) (by decide +kernel))
set_option maxRecDepth 20000 in
theorem gX1_minutesLeft_X1_checkGoat : GoodIn wsX1_minutesLeft (wsV RX1 52 RX1 yX1_checkGoat wsX1_checkGoat) := goodIn_app (goodIn_of _ (by decide +kernel)) ggX1_minutesLeft_X1_checkGoat
theorem dX1_minutesLeft_0 : decode cX1_minutesLeft 0 = .ok (.aload_n 0, 1) := by decide +kernel
theorem dX1_minutesLeft_1 : decode cX1_minutesLeft 1 = .ok (.iload_n 1, 1) := by decide +kernel
theorem dX1_minutesLeft_2 : decode cX1_minutesLeft 2 = .ok (.invokevirtual 52, 3) := by decide +kernel
theorem dX1_minutesLeft_5 : decode cX1_minutesLeft 5 = .ok (.aload_n 0, 1) := by decide +kernel
theorem dX1_minutesLeft_6 : decode cX1_minutesLeft 6 = .ok (.getfield 10, 3) := by decide +kernel
theorem dX1_minutesLeft_9 : decode cX1_minutesLeft 9 = .ok (.getfield 121, 3) := by decide +kernel
theorem dX1_minutesLeft_12 : decode cX1_minutesLeft 12 = .ok (.iload_n 1, 1) := by decide +kernel
theorem dX1_minutesLeft_13 : decode cX1_minutesLeft 13 = .ok (.iaload, 1) := by decide +kernel
theorem dX1_minutesLeft_14 : decode cX1_minutesLeft 14 = .ok (.ireturn, 1) := by decide +kernel
set_option maxRecDepth 20000 in
theorem ggX1_waitedOf_X1_checkGoat : GoodIn wsX1_waitedOf wsX1_checkGoat := goodIn_ca (goodIn_r _ [7, 8, 9, 1, 10, 11, 12, 13, 14, 15, 16, 17, 18, 19, 20, 21, 22, 23, 24, 25, 26, 27, 28, 29] (by decide +kernel) (by decide +kernel)) (goodIn_sub (fun _ h => List.mem_cons_of_mem _ (List.mem_append_right _ h)) (by decide +kernel))
set_option maxRecDepth 20000 in
theorem gX1_waitedOf_X1_checkGoat : GoodIn wsX1_waitedOf (wsV RX1 52 RX1 yX1_checkGoat wsX1_checkGoat) := goodIn_app (goodIn_of _ (by decide +kernel)) ggX1_waitedOf_X1_checkGoat
theorem dX1_waitedOf_0 : decode cX1_waitedOf 0 = .ok (.aload_n 0, 1) := by decide +kernel
theorem dX1_waitedOf_1 : decode cX1_waitedOf 1 = .ok (.iload_n 1, 1) := by decide +kernel
theorem dX1_waitedOf_2 : decode cX1_waitedOf 2 = .ok (.invokevirtual 52, 3) := by decide +kernel
theorem dX1_waitedOf_5 : decode cX1_waitedOf 5 = .ok (.aload_n 0, 1) := by decide +kernel
theorem dX1_waitedOf_6 : decode cX1_waitedOf 6 = .ok (.getfield 10, 3) := by decide +kernel
theorem dX1_waitedOf_9 : decode cX1_waitedOf 9 = .ok (.getfield 124, 3) := by decide +kernel
theorem dX1_waitedOf_12 : decode cX1_waitedOf 12 = .ok (.iload_n 1, 1) := by decide +kernel
theorem dX1_waitedOf_13 : decode cX1_waitedOf 13 = .ok (.iaload, 1) := by decide +kernel
theorem dX1_waitedOf_14 : decode cX1_waitedOf 14 = .ok (.ireturn, 1) := by decide +kernel
set_option maxRecDepth 20000 in
theorem ggX1_placeInLine_X1_checkGoat : GoodIn wsX1_placeInLine wsX1_checkGoat := goodIn_ca (goodIn_r _ [7, 8, 9, 1, 10, 24, 25, 26, 27, 28, 29, 30, 31, 32, 33, 34, 35, 36, 37, 38, 39, 40, 41, 42] (by decide +kernel) (by decide +kernel)) (goodIn_sub (fun _ h => List.mem_cons_of_mem _ (List.mem_append_right _ h)) (by decide +kernel))
set_option maxRecDepth 20000 in
theorem gX1_placeInLine_X1_checkGoat : GoodIn wsX1_placeInLine (wsV RX1 52 RX1 yX1_checkGoat wsX1_checkGoat) := goodIn_app (goodIn_of _ (by decide +kernel)) ggX1_placeInLine_X1_checkGoat
set_option maxRecDepth 20000 in
theorem ggX1_placeInLine_X0_countAheadOf : GoodIn wsX1_placeInLine wsX0_countAheadOf := goodIn_r _ [15, 16, 17, 18, 19, 20, 21, 14, 22, 23, 26, 27, 28, 29, 30, 31, 32, 33, 34, 35, 36, 37, 38, 39, 40, 41, 42] (by decide +kernel) (by decide +kernel)
set_option maxRecDepth 20000 in
theorem gX1_placeInLine_X0_countAheadOf : GoodIn wsX1_placeInLine (wsV RX1 127 RX0 yX0_countAheadOf wsX0_countAheadOf) := goodIn_app (goodIn_of _ (by decide +kernel)) ggX1_placeInLine_X0_countAheadOf
theorem dX1_placeInLine_0 : decode cX1_placeInLine 0 = .ok (.aload_n 0, 1) := by decide +kernel
theorem dX1_placeInLine_1 : decode cX1_placeInLine 1 = .ok (.iload_n 1, 1) := by decide +kernel
theorem dX1_placeInLine_2 : decode cX1_placeInLine 2 = .ok (.invokevirtual 52, 3) := by decide +kernel
theorem dX1_placeInLine_5 : decode cX1_placeInLine 5 = .ok (.aload_n 0, 1) := by decide +kernel
theorem dX1_placeInLine_6 : decode cX1_placeInLine 6 = .ok (.getfield 10, 3) := by decide +kernel
theorem dX1_placeInLine_9 : decode cX1_placeInLine 9 = .ok (.getfield 82, 3) := by decide +kernel
theorem dX1_placeInLine_12 : decode cX1_placeInLine 12 = .ok (.iload_n 1, 1) := by decide +kernel
theorem dX1_placeInLine_13 : decode cX1_placeInLine 13 = .ok (.iaload, 1) := by decide +kernel
theorem dX1_placeInLine_14 : decode cX1_placeInLine 14 = .ok (.iconst 1, 1) := by decide +kernel
theorem dX1_placeInLine_15 : decode cX1_placeInLine 15 = .ok (.if_icmp .ne 14, 3) := by decide +kernel
theorem dX1_placeInLine_18 : decode cX1_placeInLine 18 = .ok (.aload_n 0, 1) := by decide +kernel
theorem dX1_placeInLine_19 : decode cX1_placeInLine 19 = .ok (.getfield 10, 3) := by decide +kernel
theorem dX1_placeInLine_22 : decode cX1_placeInLine 22 = .ok (.iload_n 1, 1) := by decide +kernel
theorem dX1_placeInLine_23 : decode cX1_placeInLine 23 = .ok (.invokevirtual 127, 3) := by decide +kernel
theorem dX1_placeInLine_26 : decode cX1_placeInLine 26 = .ok (.goto 4, 3) := by decide +kernel
theorem dX1_placeInLine_29 : decode cX1_placeInLine 29 = .ok (.iconst (-1), 1) := by decide +kernel
theorem dX1_placeInLine_30 : decode cX1_placeInLine 30 = .ok (.ireturn, 1) := by decide +kernel
set_option maxRecDepth 20000 in
theorem ggX1_minutesUntilIn_X1_checkGoat : GoodIn wsX1_minutesUntilIn wsX1_checkGoat := goodIn_ca (goodIn_r _ [8, 9, 10, 2, 11, 74, 75, 76, 77, 78, 79, 80, 81, 82, 83, 84, 85, 86, 87, 88, 89, 90, 91, 92] (by decide +kernel) (by decide +kernel)) (goodIn_sub (fun _ h => List.mem_cons_of_mem _ (List.mem_append_right _ h)) (by decide +kernel))
set_option maxRecDepth 20000 in
theorem gX1_minutesUntilIn_X1_checkGoat : GoodIn wsX1_minutesUntilIn (wsV RX1 52 RX1 yX1_checkGoat wsX1_checkGoat) := goodIn_app (goodIn_of _ (by decide +kernel)) ggX1_minutesUntilIn_X1_checkGoat
set_option maxRecDepth 20000 in
theorem ggX1_minutesUntilIn_X0_become : GoodIn wsX1_minutesUntilIn wsX0_become := goodIn_r _ [16, 17, 18, 19, 20, 21, 22, 23, 24, 25, 26, 27, 28, 29, 30, 31, 32, 33, 76, 77, 78, 79, 80, 81, 82, 83, 84, 85, 86, 87, 88, 89, 90, 91, 92] (by decide +kernel) (by decide +kernel)
set_option maxRecDepth 20000 in
theorem gX1_minutesUntilIn_X0_become : GoodIn wsX1_minutesUntilIn (wsV RX1 130 RX0 yX0_become wsX0_become) := goodIn_app (goodIn_of _ (by decide +kernel)) ggX1_minutesUntilIn_X0_become
set_option maxRecDepth 20000 in
theorem ggX1_minutesUntilIn_X0_liveAMinute : GoodIn wsX1_minutesUntilIn wsX0_liveAMinute := goodIn_r _ [37, 18, 17, 38, 39, 40, 15, 41, 19, 26, 30, 42, 43, 44, 45, 27, 32, 46, 47, 48, 49, 28, 29, 21, 50, 51, 52, 53, 23, 31, 54, 55, 56, 57, 22, 58, 59, 60, 61, 62, 63, 64, 65, 25, 66, 67, 68, 69, 70, 71, 72, 73, 33, 24, 76, 77, 78, 79, 80, 81, 82, 83, 84, 85, 86, 87, 88, 89, 90, 91, 92] (by decide +kernel) (by decide +kernel)
set_option maxRecDepth 20000 in
theorem gX1_minutesUntilIn_X0_liveAMinute : GoodIn wsX1_minutesUntilIn (wsV RX1 96 RX0 yX0_liveAMinute wsX0_liveAMinute) := goodIn_app (goodIn_of _ (by decide +kernel)) ggX1_minutesUntilIn_X0_liveAMinute
theorem dX1_minutesUntilIn_0 : decode cX1_minutesUntilIn 0 = .ok (.aload_n 0, 1) := by decide +kernel
theorem dX1_minutesUntilIn_1 : decode cX1_minutesUntilIn 1 = .ok (.iload_n 1, 1) := by decide +kernel
theorem dX1_minutesUntilIn_2 : decode cX1_minutesUntilIn 2 = .ok (.invokevirtual 52, 3) := by decide +kernel
theorem dX1_minutesUntilIn_5 : decode cX1_minutesUntilIn 5 = .ok (.aload_n 0, 1) := by decide +kernel
theorem dX1_minutesUntilIn_6 : decode cX1_minutesUntilIn 6 = .ok (.getfield 16, 3) := by decide +kernel
theorem dX1_minutesUntilIn_9 : decode cX1_minutesUntilIn 9 = .ok (.aload_n 0, 1) := by decide +kernel
theorem dX1_minutesUntilIn_10 : decode cX1_minutesUntilIn 10 = .ok (.getfield 10, 3) := by decide +kernel
theorem dX1_minutesUntilIn_13 : decode cX1_minutesUntilIn 13 = .ok (.invokevirtual 130, 3) := by decide +kernel
theorem dX1_minutesUntilIn_16 : decode cX1_minutesUntilIn 16 = .ok (.iconst 0, 1) := by decide +kernel
theorem dX1_minutesUntilIn_17 : decode cX1_minutesUntilIn 17 = .ok (.istore_n 2, 1) := by decide +kernel
theorem dX1_minutesUntilIn_18 : decode cX1_minutesUntilIn 18 = .ok (.iload_n 2, 1) := by decide +kernel
theorem dX1_minutesUntilIn_19 : decode cX1_minutesUntilIn 19 = .ok (.bipush 60, 2) := by decide +kernel
theorem dX1_minutesUntilIn_21 : decode cX1_minutesUntilIn 21 = .ok (.if_icmp .ge 29, 3) := by decide +kernel
theorem dX1_minutesUntilIn_24 : decode cX1_minutesUntilIn 24 = .ok (.aload_n 0, 1) := by decide +kernel
theorem dX1_minutesUntilIn_25 : decode cX1_minutesUntilIn 25 = .ok (.getfield 16, 3) := by decide +kernel
theorem dX1_minutesUntilIn_28 : decode cX1_minutesUntilIn 28 = .ok (.getfield 82, 3) := by decide +kernel
theorem dX1_minutesUntilIn_31 : decode cX1_minutesUntilIn 31 = .ok (.iload_n 1, 1) := by decide +kernel
theorem dX1_minutesUntilIn_32 : decode cX1_minutesUntilIn 32 = .ok (.iaload, 1) := by decide +kernel
theorem dX1_minutesUntilIn_33 : decode cX1_minutesUntilIn 33 = .ok (.iconst 1, 1) := by decide +kernel
theorem dX1_minutesUntilIn_34 : decode cX1_minutesUntilIn 34 = .ok (.if_icmp .ne 16, 3) := by decide +kernel
theorem dX1_minutesUntilIn_37 : decode cX1_minutesUntilIn 37 = .ok (.aload_n 0, 1) := by decide +kernel
theorem dX1_minutesUntilIn_38 : decode cX1_minutesUntilIn 38 = .ok (.getfield 16, 3) := by decide +kernel
theorem dX1_minutesUntilIn_41 : decode cX1_minutesUntilIn 41 = .ok (.invokevirtual 96, 3) := by decide +kernel
theorem dX1_minutesUntilIn_44 : decode cX1_minutesUntilIn 44 = .ok (.iinc 2 1, 3) := by decide +kernel
theorem dX1_minutesUntilIn_47 : decode cX1_minutesUntilIn 47 = .ok (.goto (-29), 3) := by decide +kernel
theorem dX1_minutesUntilIn_50 : decode cX1_minutesUntilIn 50 = .ok (.iload_n 2, 1) := by decide +kernel
theorem dX1_minutesUntilIn_51 : decode cX1_minutesUntilIn 51 = .ok (.ifCond .le 20, 3) := by decide +kernel
theorem dX1_minutesUntilIn_54 : decode cX1_minutesUntilIn 54 = .ok (.aload_n 0, 1) := by decide +kernel
theorem dX1_minutesUntilIn_55 : decode cX1_minutesUntilIn 55 = .ok (.getfield 16, 3) := by decide +kernel
theorem dX1_minutesUntilIn_58 : decode cX1_minutesUntilIn 58 = .ok (.getfield 82, 3) := by decide +kernel
theorem dX1_minutesUntilIn_61 : decode cX1_minutesUntilIn 61 = .ok (.iload_n 1, 1) := by decide +kernel
theorem dX1_minutesUntilIn_62 : decode cX1_minutesUntilIn 62 = .ok (.iaload, 1) := by decide +kernel
theorem dX1_minutesUntilIn_63 : decode cX1_minutesUntilIn 63 = .ok (.iconst 2, 1) := by decide +kernel
theorem dX1_minutesUntilIn_64 : decode cX1_minutesUntilIn 64 = .ok (.if_icmp .ne 7, 3) := by decide +kernel
theorem dX1_minutesUntilIn_67 : decode cX1_minutesUntilIn 67 = .ok (.iload_n 2, 1) := by decide +kernel
theorem dX1_minutesUntilIn_68 : decode cX1_minutesUntilIn 68 = .ok (.goto 4, 3) := by decide +kernel
theorem dX1_minutesUntilIn_71 : decode cX1_minutesUntilIn 71 = .ok (.iconst (-1), 1) := by decide +kernel
theorem dX1_minutesUntilIn_72 : decode cX1_minutesUntilIn 72 = .ok (.ireturn, 1) := by decide +kernel
set_option maxRecDepth 20000 in
theorem ggX1_givingUpIn_X1_checkNumber : GoodIn wsX1_givingUpIn wsX1_checkNumber := goodIn_ca (goodIn_r _ [6, 7, 8] (by decide +kernel) (by decide +kernel)) (goodIn_sub (fun _ h => List.mem_cons_of_mem _ (List.mem_append_right _ h)) (by decide +kernel))
set_option maxRecDepth 20000 in
theorem gX1_givingUpIn_X1_checkNumber : GoodIn wsX1_givingUpIn (va_wsS RX1 19 yX1_checkNumber wsX1_checkNumber) := goodIn_app (goodIn_of _ (by decide +kernel)) ggX1_givingUpIn_X1_checkNumber
set_option maxRecDepth 20000 in
theorem ggX1_givingUpIn_X0_become : GoodIn wsX1_givingUpIn wsX0_become := goodIn_r _ [13, 14, 15, 16, 17, 18, 19, 20, 21, 22, 23, 24, 25, 26, 27, 28, 29, 30, 77, 78, 79, 80, 81, 82, 83, 84, 85, 86, 87, 88, 89, 90, 91, 92, 93] (by decide +kernel) (by decide +kernel)
set_option maxRecDepth 20000 in
theorem gX1_givingUpIn_X0_become : GoodIn wsX1_givingUpIn (wsV RX1 130 RX0 yX0_become wsX0_become) := goodIn_app (goodIn_of _ (by decide +kernel)) ggX1_givingUpIn_X0_become
set_option maxRecDepth 20000 in
theorem ggX1_givingUpIn_X0_liveAMinute : GoodIn wsX1_givingUpIn wsX0_liveAMinute := goodIn_r _ [34, 15, 14, 35, 36, 37, 12, 38, 16, 23, 27, 39, 40, 41, 42, 24, 29, 43, 44, 45, 46, 25, 26, 18, 47, 48, 49, 50, 20, 28, 51, 52, 53, 54, 19, 55, 56, 57, 58, 59, 60, 61, 62, 22, 63, 64, 65, 66, 67, 68, 69, 70, 30, 21, 77, 78, 79, 80, 81, 82, 83, 84, 85, 86, 87, 88, 89, 90, 91, 92, 93] (by decide +kernel) (by decide +kernel)
set_option maxRecDepth 20000 in
theorem gX1_givingUpIn_X0_liveAMinute : GoodIn wsX1_givingUpIn (wsV RX1 96 RX0 yX0_liveAMinute wsX0_liveAMinute) := goodIn_app (goodIn_of _ (by decide +kernel)) ggX1_givingUpIn_X0_liveAMinute
set_option maxRecDepth 20000 in
theorem ggX1_givingUpIn_X0_givenUpInAll : GoodIn wsX1_givingUpIn wsX0_givenUpInAll := goodIn_r _ [74, 15, 21, 77, 78, 79, 80, 81, 82, 83, 84, 85, 86, 87, 88, 89, 90, 91, 92, 93] (by decide +kernel) (by decide +kernel)
set_option maxRecDepth 20000 in
theorem gX1_givingUpIn_X0_givenUpInAll : GoodIn wsX1_givingUpIn (wsV RX1 109 RX0 yX0_givenUpInAll wsX0_givenUpInAll) := goodIn_app (goodIn_of _ (by decide +kernel)) ggX1_givingUpIn_X0_givenUpInAll
theorem dX1_givingUpIn_0 : decode cX1_givingUpIn 0 = .ok (.iload_n 1, 1) := by decide +kernel
theorem dX1_givingUpIn_1 : decode cX1_givingUpIn 1 = .ok (.bipush 60, 2) := by decide +kernel
theorem dX1_givingUpIn_3 : decode cX1_givingUpIn 3 = .ok (.invokestatic 19, 3) := by decide +kernel
theorem dX1_givingUpIn_6 : decode cX1_givingUpIn 6 = .ok (.aload_n 0, 1) := by decide +kernel
theorem dX1_givingUpIn_7 : decode cX1_givingUpIn 7 = .ok (.getfield 16, 3) := by decide +kernel
theorem dX1_givingUpIn_10 : decode cX1_givingUpIn 10 = .ok (.aload_n 0, 1) := by decide +kernel
theorem dX1_givingUpIn_11 : decode cX1_givingUpIn 11 = .ok (.getfield 10, 3) := by decide +kernel
theorem dX1_givingUpIn_14 : decode cX1_givingUpIn 14 = .ok (.invokevirtual 130, 3) := by decide +kernel
theorem dX1_givingUpIn_17 : decode cX1_givingUpIn 17 = .ok (.iconst 0, 1) := by decide +kernel
theorem dX1_givingUpIn_18 : decode cX1_givingUpIn 18 = .ok (.istore_n 2, 1) := by decide +kernel
theorem dX1_givingUpIn_19 : decode cX1_givingUpIn 19 = .ok (.iload_n 2, 1) := by decide +kernel
theorem dX1_givingUpIn_20 : decode cX1_givingUpIn 20 = .ok (.iload_n 1, 1) := by decide +kernel
theorem dX1_givingUpIn_21 : decode cX1_givingUpIn 21 = .ok (.if_icmp .ge 16, 3) := by decide +kernel
theorem dX1_givingUpIn_24 : decode cX1_givingUpIn 24 = .ok (.aload_n 0, 1) := by decide +kernel
theorem dX1_givingUpIn_25 : decode cX1_givingUpIn 25 = .ok (.getfield 16, 3) := by decide +kernel
theorem dX1_givingUpIn_28 : decode cX1_givingUpIn 28 = .ok (.invokevirtual 96, 3) := by decide +kernel
theorem dX1_givingUpIn_31 : decode cX1_givingUpIn 31 = .ok (.iinc 2 1, 3) := by decide +kernel
theorem dX1_givingUpIn_34 : decode cX1_givingUpIn 34 = .ok (.goto (-15), 3) := by decide +kernel
theorem dX1_givingUpIn_37 : decode cX1_givingUpIn 37 = .ok (.aload_n 0, 1) := by decide +kernel
theorem dX1_givingUpIn_38 : decode cX1_givingUpIn 38 = .ok (.getfield 16, 3) := by decide +kernel
theorem dX1_givingUpIn_41 : decode cX1_givingUpIn 41 = .ok (.invokevirtual 109, 3) := by decide +kernel
theorem dX1_givingUpIn_44 : decode cX1_givingUpIn 44 = .ok (.aload_n 0, 1) := by decide +kernel
theorem dX1_givingUpIn_45 : decode cX1_givingUpIn 45 = .ok (.getfield 10, 3) := by decide +kernel
theorem dX1_givingUpIn_48 : decode cX1_givingUpIn 48 = .ok (.invokevirtual 109, 3) := by decide +kernel
theorem dX1_givingUpIn_51 : decode cX1_givingUpIn 51 = .ok (.isub, 1) := by decide +kernel
theorem dX1_givingUpIn_52 : decode cX1_givingUpIn 52 = .ok (.ireturn, 1) := by decide +kernel
set_option maxRecDepth 20000 in
theorem ggX1_permitsWanted_X1_checkGate : GoodIn wsX1_permitsWanted wsX1_checkGate := goodIn_ca (goodIn_r _ [8, 9, 10, 1, 11, 84, 85, 86, 87, 88, 89, 90, 91, 92, 93, 94, 95, 96, 97, 98, 99, 100, 101, 102] (by decide +kernel) (by decide +kernel)) (goodIn_sub (fun _ h => List.mem_cons_of_mem _ (List.mem_append_right _ h)) (by decide +kernel))
set_option maxRecDepth 20000 in
theorem gX1_permitsWanted_X1_checkGate : GoodIn wsX1_permitsWanted (wsV RX1 56 RX1 yX1_checkGate wsX1_checkGate) := goodIn_app (goodIn_of _ (by decide +kernel)) ggX1_permitsWanted_X1_checkGate
set_option maxRecDepth 20000 in
theorem ggX1_permitsWanted_X1_givingUpWith : GoodIn wsX1_permitsWanted wsX1_givingUpWith := goodIn_r _ [15, 16, 1, 2, 3, 17, 18, 19, 20, 21, 22, 23, 24, 25, 26, 27, 28, 29, 30, 31, 32, 33, 34, 35, 36, 37, 38, 39, 40, 41, 42, 43, 44, 45, 46, 47, 48, 49, 50, 51, 52, 53, 54, 55, 56, 57, 58, 59, 60, 61, 62, 63, 64, 65, 66, 67, 68, 69, 70, 71, 72, 73, 74, 75, 76, 77, 78, 79, 80, 81, 82, 83, 84, 85, 86, 87, 88, 89, 90, 91, 92, 93, 94, 95, 96, 97, 98, 99, 100, 101, 102] (by decide +kernel) (by decide +kernel)
set_option maxRecDepth 20000 in
theorem gX1_permitsWanted_X1_givingUpWith : GoodIn wsX1_permitsWanted (wsV RX1 137 RX1 yX1_givingUpWith wsX1_givingUpWith) := goodIn_app (goodIn_of _ (by decide +kernel)) ggX1_permitsWanted_X1_givingUpWith
theorem dX1_permitsWanted_0 : decode cX1_permitsWanted 0 = .ok (.aload_n 0, 1) := by decide +kernel
theorem dX1_permitsWanted_1 : decode cX1_permitsWanted 1 = .ok (.iload_n 1, 1) := by decide +kernel
theorem dX1_permitsWanted_2 : decode cX1_permitsWanted 2 = .ok (.invokevirtual 56, 3) := by decide +kernel
theorem dX1_permitsWanted_5 : decode cX1_permitsWanted 5 = .ok (.iconst 0, 1) := by decide +kernel
theorem dX1_permitsWanted_6 : decode cX1_permitsWanted 6 = .ok (.istore_n 2, 1) := by decide +kernel
theorem dX1_permitsWanted_7 : decode cX1_permitsWanted 7 = .ok (.iload_n 2, 1) := by decide +kernel
theorem dX1_permitsWanted_8 : decode cX1_permitsWanted 8 = .ok (.bipush 9, 2) := by decide +kernel
theorem dX1_permitsWanted_10 : decode cX1_permitsWanted 10 = .ok (.if_icmp .gt 39, 3) := by decide +kernel
theorem dX1_permitsWanted_13 : decode cX1_permitsWanted 13 = .ok (.aload_n 0, 1) := by decide +kernel
theorem dX1_permitsWanted_14 : decode cX1_permitsWanted 14 = .ok (.iload_n 1, 1) := by decide +kernel
theorem dX1_permitsWanted_15 : decode cX1_permitsWanted 15 = .ok (.aload_n 0, 1) := by decide +kernel
theorem dX1_permitsWanted_16 : decode cX1_permitsWanted 16 = .ok (.getfield 10, 3) := by decide +kernel
theorem dX1_permitsWanted_19 : decode cX1_permitsWanted 19 = .ok (.getfield 59, 3) := by decide +kernel
theorem dX1_permitsWanted_22 : decode cX1_permitsWanted 22 = .ok (.iload_n 1, 1) := by decide +kernel
theorem dX1_permitsWanted_23 : decode cX1_permitsWanted 23 = .ok (.iaload, 1) := by decide +kernel
theorem dX1_permitsWanted_24 : decode cX1_permitsWanted 24 = .ok (.iload_n 2, 1) := by decide +kernel
theorem dX1_permitsWanted_25 : decode cX1_permitsWanted 25 = .ok (.iadd, 1) := by decide +kernel
theorem dX1_permitsWanted_26 : decode cX1_permitsWanted 26 = .ok (.aload_n 0, 1) := by decide +kernel
theorem dX1_permitsWanted_27 : decode cX1_permitsWanted 27 = .ok (.getfield 10, 3) := by decide +kernel
theorem dX1_permitsWanted_30 : decode cX1_permitsWanted 30 = .ok (.getfield 134, 3) := by decide +kernel
theorem dX1_permitsWanted_33 : decode cX1_permitsWanted 33 = .ok (.iload_n 1, 1) := by decide +kernel
theorem dX1_permitsWanted_34 : decode cX1_permitsWanted 34 = .ok (.iaload, 1) := by decide +kernel
theorem dX1_permitsWanted_35 : decode cX1_permitsWanted 35 = .ok (.invokevirtual 137, 3) := by decide +kernel
theorem dX1_permitsWanted_38 : decode cX1_permitsWanted 38 = .ok (.ifCond .ne 5, 3) := by decide +kernel
theorem dX1_permitsWanted_41 : decode cX1_permitsWanted 41 = .ok (.iload_n 2, 1) := by decide +kernel
theorem dX1_permitsWanted_42 : decode cX1_permitsWanted 42 = .ok (.ireturn, 1) := by decide +kernel
theorem dX1_permitsWanted_43 : decode cX1_permitsWanted 43 = .ok (.iinc 2 1, 3) := by decide +kernel
theorem dX1_permitsWanted_46 : decode cX1_permitsWanted 46 = .ok (.goto (-39), 3) := by decide +kernel
theorem dX1_permitsWanted_49 : decode cX1_permitsWanted 49 = .ok (.iconst (-1), 1) := by decide +kernel
theorem dX1_permitsWanted_50 : decode cX1_permitsWanted 50 = .ok (.ireturn, 1) := by decide +kernel
set_option maxRecDepth 20000 in
theorem ggX1_bestOrder_X1_checkGate : GoodIn wsX1_bestOrder wsX1_checkGate := goodIn_ca (goodIn_r _ [7, 8, 9, 1, 10, 84, 85, 86, 87, 88, 89, 90, 91, 92, 93, 94, 95, 96, 97, 98, 99, 100, 101, 102] (by decide +kernel) (by decide +kernel)) (goodIn_sub (fun _ h => List.mem_cons_of_mem _ (List.mem_append_right _ h)) (by decide +kernel))
set_option maxRecDepth 20000 in
theorem gX1_bestOrder_X1_checkGate : GoodIn wsX1_bestOrder (wsV RX1 56 RX1 yX1_checkGate wsX1_checkGate) := goodIn_app (goodIn_of _ (by decide +kernel)) ggX1_bestOrder_X1_checkGate
set_option maxRecDepth 20000 in
theorem ggX1_bestOrder_X1_givingUpWith : GoodIn wsX1_bestOrder wsX1_givingUpWith := goodIn_r _ [14, 15, 1, 2, 16, 17, 18, 19, 20, 21, 22, 23, 24, 25, 26, 27, 28, 29, 30, 31, 32, 33, 34, 35, 36, 37, 38, 39, 40, 41, 42, 43, 44, 45, 46, 47, 48, 49, 50, 51, 52, 53, 54, 55, 56, 57, 58, 59, 60, 61, 62, 63, 64, 65, 66, 67, 68, 69, 70, 71, 72, 73, 74, 75, 76, 77, 78, 79, 80, 81, 82, 83, 84, 85, 86, 87, 88, 89, 90, 91, 92, 93, 94, 95, 96, 97, 98, 99, 100, 101, 102] (by decide +kernel) (by decide +kernel)
set_option maxRecDepth 20000 in
theorem gX1_bestOrder_X1_givingUpWith : GoodIn wsX1_bestOrder (wsV RX1 137 RX1 yX1_givingUpWith wsX1_givingUpWith) := goodIn_app (goodIn_of _ (by decide +kernel)) ggX1_bestOrder_X1_givingUpWith
theorem dX1_bestOrder_0 : decode cX1_bestOrder 0 = .ok (.aload_n 0, 1) := by decide +kernel
theorem dX1_bestOrder_1 : decode cX1_bestOrder 1 = .ok (.iload_n 1, 1) := by decide +kernel
theorem dX1_bestOrder_2 : decode cX1_bestOrder 2 = .ok (.invokevirtual 56, 3) := by decide +kernel
theorem dX1_bestOrder_5 : decode cX1_bestOrder 5 = .ok (.aload_n 0, 1) := by decide +kernel
theorem dX1_bestOrder_6 : decode cX1_bestOrder 6 = .ok (.iload_n 1, 1) := by decide +kernel
theorem dX1_bestOrder_7 : decode cX1_bestOrder 7 = .ok (.aload_n 0, 1) := by decide +kernel
theorem dX1_bestOrder_8 : decode cX1_bestOrder 8 = .ok (.getfield 10, 3) := by decide +kernel
theorem dX1_bestOrder_11 : decode cX1_bestOrder 11 = .ok (.getfield 59, 3) := by decide +kernel
theorem dX1_bestOrder_14 : decode cX1_bestOrder 14 = .ok (.iload_n 1, 1) := by decide +kernel
theorem dX1_bestOrder_15 : decode cX1_bestOrder 15 = .ok (.iaload, 1) := by decide +kernel
theorem dX1_bestOrder_16 : decode cX1_bestOrder 16 = .ok (.iconst 0, 1) := by decide +kernel
theorem dX1_bestOrder_17 : decode cX1_bestOrder 17 = .ok (.invokevirtual 137, 3) := by decide +kernel
theorem dX1_bestOrder_20 : decode cX1_bestOrder 20 = .ok (.istore_n 2, 1) := by decide +kernel
theorem dX1_bestOrder_21 : decode cX1_bestOrder 21 = .ok (.aload_n 0, 1) := by decide +kernel
theorem dX1_bestOrder_22 : decode cX1_bestOrder 22 = .ok (.iload_n 1, 1) := by decide +kernel
theorem dX1_bestOrder_23 : decode cX1_bestOrder 23 = .ok (.aload_n 0, 1) := by decide +kernel
theorem dX1_bestOrder_24 : decode cX1_bestOrder 24 = .ok (.getfield 10, 3) := by decide +kernel
theorem dX1_bestOrder_27 : decode cX1_bestOrder 27 = .ok (.getfield 59, 3) := by decide +kernel
theorem dX1_bestOrder_30 : decode cX1_bestOrder 30 = .ok (.iload_n 1, 1) := by decide +kernel
theorem dX1_bestOrder_31 : decode cX1_bestOrder 31 = .ok (.iaload, 1) := by decide +kernel
theorem dX1_bestOrder_32 : decode cX1_bestOrder 32 = .ok (.iconst 1, 1) := by decide +kernel
theorem dX1_bestOrder_33 : decode cX1_bestOrder 33 = .ok (.invokevirtual 137, 3) := by decide +kernel
theorem dX1_bestOrder_36 : decode cX1_bestOrder 36 = .ok (.istore_n 3, 1) := by decide +kernel
theorem dX1_bestOrder_37 : decode cX1_bestOrder 37 = .ok (.iload_n 3, 1) := by decide +kernel
theorem dX1_bestOrder_38 : decode cX1_bestOrder 38 = .ok (.iload_n 2, 1) := by decide +kernel
theorem dX1_bestOrder_39 : decode cX1_bestOrder 39 = .ok (.if_icmp .ge 7, 3) := by decide +kernel
theorem dX1_bestOrder_42 : decode cX1_bestOrder 42 = .ok (.iconst 1, 1) := by decide +kernel
theorem dX1_bestOrder_43 : decode cX1_bestOrder 43 = .ok (.goto 4, 3) := by decide +kernel
theorem dX1_bestOrder_46 : decode cX1_bestOrder 46 = .ok (.iconst 0, 1) := by decide +kernel
theorem dX1_bestOrder_47 : decode cX1_bestOrder 47 = .ok (.ireturn, 1) := by decide +kernel
set_option maxRecDepth 20000 in
theorem ggX1_meanWaited_X0_sumOfWaited : GoodIn wsX1_meanWaited wsX0_sumOfWaited := goodIn_r _ [7, 8, 9, 12, 13, 14, 15, 16, 17, 18, 19, 20, 21, 22, 23, 24, 25, 26, 27, 28] (by decide +kernel) (by decide +kernel)
set_option maxRecDepth 20000 in
theorem gX1_meanWaited_X0_sumOfWaited : GoodIn wsX1_meanWaited (wsV RX1 141 RX0 yX0_sumOfWaited wsX0_sumOfWaited) := goodIn_app (goodIn_of _ (by decide +kernel)) ggX1_meanWaited_X0_sumOfWaited
theorem dX1_meanWaited_0 : decode cX1_meanWaited 0 = .ok (.aload_n 0, 1) := by decide +kernel
theorem dX1_meanWaited_1 : decode cX1_meanWaited 1 = .ok (.getfield 10, 3) := by decide +kernel
theorem dX1_meanWaited_4 : decode cX1_meanWaited 4 = .ok (.getfield 43, 3) := by decide +kernel
theorem dX1_meanWaited_7 : decode cX1_meanWaited 7 = .ok (.ifCond .ne 5, 3) := by decide +kernel
theorem dX1_meanWaited_10 : decode cX1_meanWaited 10 = .ok (.dconst 0, 1) := by decide +kernel
theorem dX1_meanWaited_11 : decode cX1_meanWaited 11 = .ok (.dreturn, 1) := by decide +kernel
theorem dX1_meanWaited_12 : decode cX1_meanWaited 12 = .ok (.aload_n 0, 1) := by decide +kernel
theorem dX1_meanWaited_13 : decode cX1_meanWaited 13 = .ok (.getfield 10, 3) := by decide +kernel
theorem dX1_meanWaited_16 : decode cX1_meanWaited 16 = .ok (.invokevirtual 141, 3) := by decide +kernel
theorem dX1_meanWaited_19 : decode cX1_meanWaited 19 = .ok (.i2d, 1) := by decide +kernel
theorem dX1_meanWaited_20 : decode cX1_meanWaited 20 = .ok (.aload_n 0, 1) := by decide +kernel
theorem dX1_meanWaited_21 : decode cX1_meanWaited 21 = .ok (.getfield 10, 3) := by decide +kernel
theorem dX1_meanWaited_24 : decode cX1_meanWaited 24 = .ok (.getfield 43, 3) := by decide +kernel
theorem dX1_meanWaited_27 : decode cX1_meanWaited 27 = .ok (.i2d, 1) := by decide +kernel
theorem dX1_meanWaited_28 : decode cX1_meanWaited 28 = .ok (.ddiv, 1) := by decide +kernel
theorem dX1_meanWaited_29 : decode cX1_meanWaited 29 = .ok (.dreturn, 1) := by decide +kernel
set_option maxRecDepth 20000 in
theorem ggX1_digest_X1_minute : GoodIn wsX1_digest wsX1_minute := goodIn_r _ [10, 3, 11, 208, 209, 210, 211, 212, 213, 214, 215, 216, 217, 218, 219, 220, 221, 222, 223, 224, 225, 226] (by decide +kernel) (by decide +kernel)
set_option maxRecDepth 20000 in
theorem gX1_digest_X1_minute : GoodIn wsX1_digest (wsV RX1 148 RX1 yX1_minute wsX1_minute) := goodIn_app (goodIn_of _ (by decide +kernel)) ggX1_digest_X1_minute
set_option maxRecDepth 20000 in
theorem ggX1_digest_X1_gates : GoodIn wsX1_digest wsX1_gates := goodIn_r _ [15, 3, 4, 208, 209, 210, 211, 212, 213, 214, 215, 216, 217, 218, 219, 220, 221, 222, 223, 224, 225, 226] (by decide +kernel) (by decide +kernel)
set_option maxRecDepth 20000 in
theorem gX1_digest_X1_gates : GoodIn wsX1_digest (wsV RX1 150 RX1 yX1_gates wsX1_gates) := goodIn_app (goodIn_of _ (by decide +kernel)) ggX1_digest_X1_gates
set_option maxRecDepth 20000 in
theorem ggX1_digest_X1_goats : GoodIn wsX1_digest wsX1_goats := goodIn_r _ [19, 3, 5, 208, 209, 210, 211, 212, 213, 214, 215, 216, 217, 218, 219, 220, 221, 222, 223, 224, 225, 226] (by decide +kernel) (by decide +kernel)
set_option maxRecDepth 20000 in
theorem gX1_digest_X1_goats : GoodIn wsX1_digest (wsV RX1 153 RX1 yX1_goats wsX1_goats) := goodIn_app (goodIn_of _ (by decide +kernel)) ggX1_digest_X1_goats
set_option maxRecDepth 20000 in
theorem ggX1_digest_X1_waiting : GoodIn wsX1_digest wsX1_waiting := goodIn_r _ [23, 3, 24, 25, 26, 27, 28, 29, 30, 208, 209, 210, 211, 212, 213, 214, 215, 216, 217, 218, 219, 220, 221, 222, 223, 224, 225, 226] (by decide +kernel) (by decide +kernel)
set_option maxRecDepth 20000 in
theorem gX1_digest_X1_waiting : GoodIn wsX1_digest (wsV RX1 156 RX1 yX1_waiting wsX1_waiting) := goodIn_app (goodIn_of _ (by decide +kernel)) ggX1_digest_X1_waiting
set_option maxRecDepth 20000 in
theorem ggX1_digest_X1_inside : GoodIn wsX1_digest wsX1_inside := goodIn_r _ [34, 3, 24, 25, 26, 27, 28, 29, 30, 208, 209, 210, 211, 212, 213, 214, 215, 216, 217, 218, 219, 220, 221, 222, 223, 224, 225, 226] (by decide +kernel) (by decide +kernel)
set_option maxRecDepth 20000 in
theorem gX1_digest_X1_inside : GoodIn wsX1_digest (wsV RX1 159 RX1 yX1_inside wsX1_inside) := goodIn_app (goodIn_of _ (by decide +kernel)) ggX1_digest_X1_inside
set_option maxRecDepth 20000 in
theorem ggX1_digest_X1_starving : GoodIn wsX1_digest wsX1_starving := goodIn_r _ [38, 3, 39, 40, 41, 27, 42, 29, 30, 43, 208, 209, 210, 211, 212, 213, 214, 215, 216, 217, 218, 219, 220, 221, 222, 223, 224, 225, 226] (by decide +kernel) (by decide +kernel)
set_option maxRecDepth 20000 in
theorem gX1_digest_X1_starving : GoodIn wsX1_digest (wsV RX1 162 RX1 yX1_starving wsX1_starving) := goodIn_app (goodIn_of _ (by decide +kernel)) ggX1_digest_X1_starving
set_option maxRecDepth 20000 in
theorem ggX1_digest_X1_letIn : GoodIn wsX1_digest wsX1_letIn := goodIn_r _ [47, 3, 48, 208, 209, 210, 211, 212, 213, 214, 215, 216, 217, 218, 219, 220, 221, 222, 223, 224, 225, 226] (by decide +kernel) (by decide +kernel)
set_option maxRecDepth 20000 in
theorem gX1_digest_X1_letIn : GoodIn wsX1_digest (wsV RX1 165 RX1 yX1_letIn wsX1_letIn) := goodIn_app (goodIn_of _ (by decide +kernel)) ggX1_digest_X1_letIn
set_option maxRecDepth 20000 in
theorem ggX1_digest_X1_givenUp : GoodIn wsX1_digest wsX1_givenUp := goodIn_r _ [52, 3, 53, 54, 55, 27, 56, 57, 58, 208, 209, 210, 211, 212, 213, 214, 215, 216, 217, 218, 219, 220, 221, 222, 223, 224, 225, 226] (by decide +kernel) (by decide +kernel)
set_option maxRecDepth 20000 in
theorem gX1_digest_X1_givenUp : GoodIn wsX1_digest (wsV RX1 168 RX1 yX1_givenUp wsX1_givenUp) := goodIn_app (goodIn_of _ (by decide +kernel)) ggX1_digest_X1_givenUp
set_option maxRecDepth 20000 in
theorem ggX1_digest_X1_permitsOf : GoodIn wsX1_digest wsX1_permitsOf := goodIn_ca (goodIn_r _ [62, 3, 63, 64, 65, 66, 9, 67, 68, 69, 4, 208, 209, 210, 211, 212, 213, 214, 215, 216, 217, 218, 219, 220, 221, 222, 223, 224, 225, 226] (by decide +kernel) (by decide +kernel)) (goodIn_sub (fun _ h => List.mem_cons_of_mem _ (List.mem_append_right _ h)) (by decide +kernel))
set_option maxRecDepth 20000 in
theorem gX1_digest_X1_permitsOf : GoodIn wsX1_digest (wsV RX1 171 RX1 yX1_permitsOf wsX1_permitsOf) := goodIn_app (goodIn_of _ (by decide +kernel)) ggX1_digest_X1_permitsOf
set_option maxRecDepth 20000 in
theorem ggX1_digest_X1_freeOf : GoodIn wsX1_digest wsX1_freeOf := goodIn_ca (goodIn_r _ [73, 3, 64, 65, 66, 9, 67, 68, 69, 4, 74, 75, 76, 27, 77, 78, 29, 30, 79, 80, 208, 209, 210, 211, 212, 213, 214, 215, 216, 217, 218, 219, 220, 221, 222, 223, 224, 225, 226] (by decide +kernel) (by decide +kernel)) (goodIn_sub (fun _ h => List.mem_cons_of_mem _ (List.mem_append_right _ h)) (by decide +kernel))
set_option maxRecDepth 20000 in
theorem gX1_digest_X1_freeOf : GoodIn wsX1_digest (wsV RX1 174 RX1 yX1_freeOf wsX1_freeOf) := goodIn_app (goodIn_of _ (by decide +kernel)) ggX1_digest_X1_freeOf
set_option maxRecDepth 20000 in
theorem ggX1_digest_X1_waitingAt : GoodIn wsX1_digest wsX1_waitingAt := goodIn_ca (goodIn_r _ [84, 3, 64, 65, 66, 9, 67, 68, 69, 4, 85, 86, 87, 27, 88, 29, 89, 90, 91, 92, 30, 79, 208, 209, 210, 211, 212, 213, 214, 215, 216, 217, 218, 219, 220, 221, 222, 223, 224, 225, 226] (by decide +kernel) (by decide +kernel)) (goodIn_sub (fun _ h => List.mem_cons_of_mem _ (List.mem_append_right _ h)) (by decide +kernel))
set_option maxRecDepth 20000 in
theorem gX1_digest_X1_waitingAt : GoodIn wsX1_digest (wsV RX1 177 RX1 yX1_waitingAt wsX1_waitingAt) := goodIn_app (goodIn_of _ (by decide +kernel)) ggX1_digest_X1_waitingAt
set_option maxRecDepth 20000 in
theorem ggX1_digest_X1_nextAt : GoodIn wsX1_digest wsX1_nextAt := goodIn_ca (goodIn_r _ [96, 3, 64, 65, 66, 9, 67, 68, 69, 4, 97, 98, 99, 27, 100, 101, 29, 80, 102, 103, 75, 76, 77, 78, 30, 79, 89, 90, 91, 92, 104, 105, 106, 107, 108, 43, 208, 209, 210, 211, 212, 213, 214, 215, 216, 217, 218, 219, 220, 221, 222, 223, 224, 225, 226] (by decide +kernel) (by decide +kernel)) (goodIn_sub (fun _ h => List.mem_cons_of_mem _ (List.mem_append_right _ h)) (by decide +kernel))
set_option maxRecDepth 20000 in
theorem gX1_digest_X1_nextAt : GoodIn wsX1_digest (wsV RX1 180 RX1 yX1_nextAt wsX1_nextAt) := goodIn_app (goodIn_of _ (by decide +kernel)) ggX1_digest_X1_nextAt
set_option maxRecDepth 20000 in
theorem ggX1_digest_X1_permitsWanted : GoodIn wsX1_digest wsX1_permitsWanted := goodIn_ca (goodIn_r _ [112, 3, 63, 113, 64, 65, 66, 9, 67, 68, 69, 4, 114, 115, 116, 117, 118, 119, 120, 121, 122, 27, 123, 124, 57, 29, 125, 126, 78, 101, 58, 108, 30, 79, 80, 127, 128, 102, 43, 129, 85, 86, 87, 88, 89, 90, 91, 92, 130, 131, 132, 133, 134, 135, 136, 137, 138, 139, 140, 141, 142, 143, 144, 145, 146, 98, 99, 100, 103, 75, 76, 77, 104, 105, 106, 107, 147, 148, 149, 150, 151, 152, 153, 154, 208, 209, 210, 211, 212, 213, 214, 215, 216, 217, 218, 219, 220, 221, 222, 223, 224, 225, 226] (by decide +kernel) (by decide +kernel)) (goodIn_sub (fun _ h => List.mem_cons_of_mem _ (List.mem_append_right _ h)) (by decide +kernel))
set_option maxRecDepth 20000 in
theorem gX1_digest_X1_permitsWanted : GoodIn wsX1_digest (wsV RX1 183 RX1 yX1_permitsWanted wsX1_permitsWanted) := goodIn_app (goodIn_of _ (by decide +kernel)) ggX1_digest_X1_permitsWanted
set_option maxRecDepth 20000 in
theorem ggX1_digest_X1_bestOrder : GoodIn wsX1_digest wsX1_bestOrder := goodIn_ca (goodIn_r _ [158, 3, 63, 64, 65, 66, 9, 67, 68, 69, 4, 114, 115, 116, 117, 118, 113, 119, 120, 121, 122, 27, 123, 124, 57, 29, 125, 126, 78, 101, 58, 108, 30, 79, 80, 127, 128, 102, 43, 129, 85, 86, 87, 88, 89, 90, 91, 92, 130, 131, 132, 133, 134, 135, 136, 137, 138, 139, 140, 141, 142, 143, 144, 145, 146, 98, 99, 100, 103, 75, 76, 77, 104, 105, 106, 107, 147, 148, 149, 150, 151, 152, 153, 154, 208, 209, 210, 211, 212, 213, 214, 215, 216, 217, 218, 219, 220, 221, 222, 223, 224, 225, 226] (by decide +kernel) (by decide +kernel)) (goodIn_sub (fun _ h => List.mem_cons_of_mem _ (List.mem_append_right _ h)) (by decide +kernel))
set_option maxRecDepth 20000 in
theorem gX1_digest_X1_bestOrder : GoodIn wsX1_digest (wsV RX1 186 RX1 yX1_bestOrder wsX1_bestOrder) := goodIn_app (goodIn_of _ (by decide +kernel)) ggX1_digest_X1_bestOrder
set_option maxRecDepth 20000 in
theorem ggX1_digest_X1_stateOf : GoodIn wsX1_digest wsX1_stateOf := goodIn_ca (goodIn_r _ [162, 3, 163, 164, 165, 166, 9, 167, 68, 69, 5, 208, 209, 210, 211, 212, 213, 214, 215, 216, 217, 218, 219, 220, 221, 222, 223, 224, 225, 226] (by decide +kernel) (by decide +kernel)) (goodIn_sub (fun _ h => List.mem_cons_of_mem _ (List.mem_append_right _ h)) (by decide +kernel))
set_option maxRecDepth 20000 in
theorem gX1_digest_X1_stateOf : GoodIn wsX1_digest (wsV RX1 189 RX1 yX1_stateOf wsX1_stateOf) := goodIn_app (goodIn_of _ (by decide +kernel)) ggX1_digest_X1_stateOf
set_option maxRecDepth 20000 in
theorem ggX1_digest_X1_gateOf : GoodIn wsX1_digest wsX1_gateOf := goodIn_ca (goodIn_r _ [171, 3, 172, 164, 165, 166, 9, 167, 68, 69, 5, 208, 209, 210, 211, 212, 213, 214, 215, 216, 217, 218, 219, 220, 221, 222, 223, 224, 225, 226] (by decide +kernel) (by decide +kernel)) (goodIn_sub (fun _ h => List.mem_cons_of_mem _ (List.mem_append_right _ h)) (by decide +kernel))
set_option maxRecDepth 20000 in
theorem gX1_digest_X1_gateOf : GoodIn wsX1_digest (wsV RX1 192 RX1 yX1_gateOf wsX1_gateOf) := goodIn_app (goodIn_of _ (by decide +kernel)) ggX1_digest_X1_gateOf
set_option maxRecDepth 20000 in
theorem ggX1_digest_X1_holds : GoodIn wsX1_digest wsX1_holds := goodIn_ca (goodIn_r _ [176, 3, 164, 165, 166, 9, 167, 68, 69, 5, 177, 178, 179, 27, 180, 30, 80, 208, 209, 210, 211, 212, 213, 214, 215, 216, 217, 218, 219, 220, 221, 222, 223, 224, 225, 226] (by decide +kernel) (by decide +kernel)) (goodIn_sub (fun _ h => List.mem_cons_of_mem _ (List.mem_append_right _ h)) (by decide +kernel))
set_option maxRecDepth 20000 in
theorem gX1_digest_X1_holds : GoodIn wsX1_digest (wsV RX1 195 RX1 yX1_holds wsX1_holds) := goodIn_app (goodIn_of _ (by decide +kernel)) ggX1_digest_X1_holds
set_option maxRecDepth 20000 in
theorem ggX1_digest_X1_seemingHorns : GoodIn wsX1_digest wsX1_seemingHorns := goodIn_ca (goodIn_r _ [184, 3, 164, 165, 166, 9, 167, 68, 69, 5, 185, 105, 106, 27, 107, 108, 43, 208, 209, 210, 211, 212, 213, 214, 215, 216, 217, 218, 219, 220, 221, 222, 223, 224, 225, 226] (by decide +kernel) (by decide +kernel)) (goodIn_sub (fun _ h => List.mem_cons_of_mem _ (List.mem_append_right _ h)) (by decide +kernel))
set_option maxRecDepth 20000 in
theorem gX1_digest_X1_seemingHorns : GoodIn wsX1_digest (wsV RX1 198 RX1 yX1_seemingHorns wsX1_seemingHorns) := goodIn_app (goodIn_of _ (by decide +kernel)) ggX1_digest_X1_seemingHorns
set_option maxRecDepth 20000 in
theorem ggX1_digest_X1_minutesLeft : GoodIn wsX1_digest wsX1_minutesLeft := goodIn_ca (goodIn_r _ [189, 3, 190, 164, 165, 166, 9, 167, 68, 69, 5, 208, 209, 210, 211, 212, 213, 214, 215, 216, 217, 218, 219, 220, 221, 222, 223, 224, 225, 226] (by decide +kernel) (by decide +kernel)) (goodIn_sub (fun _ h => List.mem_cons_of_mem _ (List.mem_append_right _ h)) (by decide +kernel))
set_option maxRecDepth 20000 in
theorem gX1_digest_X1_minutesLeft : GoodIn wsX1_digest (wsV RX1 201 RX1 yX1_minutesLeft wsX1_minutesLeft) := goodIn_app (goodIn_of _ (by decide +kernel)) ggX1_digest_X1_minutesLeft
set_option maxRecDepth 20000 in
theorem ggX1_digest_X1_waitedOf : GoodIn wsX1_digest wsX1_waitedOf := goodIn_ca (goodIn_r _ [194, 3, 195, 164, 165, 166, 9, 167, 68, 69, 5, 208, 209, 210, 211, 212, 213, 214, 215, 216, 217, 218, 219, 220, 221, 222, 223, 224, 225, 226] (by decide +kernel) (by decide +kernel)) (goodIn_sub (fun _ h => List.mem_cons_of_mem _ (List.mem_append_right _ h)) (by decide +kernel))
set_option maxRecDepth 20000 in
theorem gX1_digest_X1_waitedOf : GoodIn wsX1_digest (wsV RX1 204 RX1 yX1_waitedOf wsX1_waitedOf) := goodIn_app (goodIn_of _ (by decide +kernel)) ggX1_digest_X1_waitedOf
set_option maxRecDepth 20000 in
theorem ggX1_digest_X1_placeInLine : GoodIn wsX1_digest wsX1_placeInLine := goodIn_ca (goodIn_r _ [199, 3, 163, 164, 165, 166, 9, 167, 68, 69, 5, 200, 201, 202, 27, 203, 29, 79, 102, 89, 90, 91, 92, 30, 208, 209, 210, 211, 212, 213, 214, 215, 216, 217, 218, 219, 220, 221, 222, 223, 224, 225, 226] (by decide +kernel) (by decide +kernel)) (goodIn_sub (fun _ h => List.mem_cons_of_mem _ (List.mem_append_right _ h)) (by decide +kernel))
set_option maxRecDepth 20000 in
theorem gX1_digest_X1_placeInLine : GoodIn wsX1_digest (wsV RX1 207 RX1 yX1_placeInLine wsX1_placeInLine) := goodIn_app (goodIn_of _ (by decide +kernel)) ggX1_digest_X1_placeInLine
set_option maxRecDepth 20000 in
theorem ggX1_digest_X1_minutesUntilIn : GoodIn wsX1_digest wsX1_minutesUntilIn := goodIn_ca (goodIn_r _ [207, 118, 3, 163, 164, 165, 166, 9, 167, 68, 69, 5, 120, 121, 122, 27, 123, 124, 57, 29, 125, 126, 78, 101, 58, 108, 30, 79, 80, 127, 128, 102, 43, 129, 130, 131, 132, 133, 134, 135, 136, 137, 138, 139, 140, 141, 142, 143, 144, 145, 146, 98, 99, 100, 103, 75, 76, 77, 89, 90, 91, 92, 104, 105, 106, 107, 147, 148, 149, 150, 151, 152, 153, 154, 208, 209, 210, 211, 212, 213, 214, 215, 216, 217, 218, 219, 220, 221, 222, 223, 224, 225, 226] (by decide +kernel) (by decide +kernel)) (goodIn_sub (fun _ h => List.mem_cons_of_mem _ (List.mem_append_right _ h)) (by decide +kernel))
set_option maxRecDepth 20000 in
theorem gX1_digest_X1_minutesUntilIn : GoodIn wsX1_digest (wsV RX1 210 RX1 yX1_minutesUntilIn wsX1_minutesUntilIn) := goodIn_app (goodIn_of _ (by decide +kernel)) ggX1_digest_X1_minutesUntilIn
theorem dX1_digest_0 : decode cX1_digest 0 = .ok (.ldc2_w 144, 3) := by decide +kernel
theorem dX1_digest_3 : decode cX1_digest 3 = .ok (.lstore_n 1, 1) := by decide +kernel
theorem dX1_digest_4 : decode cX1_digest 4 = .ok (.lload_n 1, 1) := by decide +kernel
theorem dX1_digest_5 : decode cX1_digest 5 = .ok (.ldc2_w 146, 3) := by decide +kernel
theorem dX1_digest_8 : decode cX1_digest 8 = .ok (.lmul, 1) := by decide +kernel
theorem dX1_digest_9 : decode cX1_digest 9 = .ok (.aload_n 0, 1) := by decide +kernel
theorem dX1_digest_10 : decode cX1_digest 10 = .ok (.invokevirtual 148, 3) := by decide +kernel
theorem dX1_digest_13 : decode cX1_digest 13 = .ok (.i2l, 1) := by decide +kernel
theorem dX1_digest_14 : decode cX1_digest 14 = .ok (.ladd, 1) := by decide +kernel
theorem dX1_digest_15 : decode cX1_digest 15 = .ok (.lstore_n 1, 1) := by decide +kernel
theorem dX1_digest_16 : decode cX1_digest 16 = .ok (.lload_n 1, 1) := by decide +kernel
theorem dX1_digest_17 : decode cX1_digest 17 = .ok (.ldc2_w 146, 3) := by decide +kernel
theorem dX1_digest_20 : decode cX1_digest 20 = .ok (.lmul, 1) := by decide +kernel
theorem dX1_digest_21 : decode cX1_digest 21 = .ok (.aload_n 0, 1) := by decide +kernel
theorem dX1_digest_22 : decode cX1_digest 22 = .ok (.invokevirtual 150, 3) := by decide +kernel
theorem dX1_digest_25 : decode cX1_digest 25 = .ok (.i2l, 1) := by decide +kernel
theorem dX1_digest_26 : decode cX1_digest 26 = .ok (.ladd, 1) := by decide +kernel
theorem dX1_digest_27 : decode cX1_digest 27 = .ok (.lstore_n 1, 1) := by decide +kernel
theorem dX1_digest_28 : decode cX1_digest 28 = .ok (.lload_n 1, 1) := by decide +kernel
theorem dX1_digest_29 : decode cX1_digest 29 = .ok (.ldc2_w 146, 3) := by decide +kernel
theorem dX1_digest_32 : decode cX1_digest 32 = .ok (.lmul, 1) := by decide +kernel
theorem dX1_digest_33 : decode cX1_digest 33 = .ok (.aload_n 0, 1) := by decide +kernel
theorem dX1_digest_34 : decode cX1_digest 34 = .ok (.invokevirtual 153, 3) := by decide +kernel
theorem dX1_digest_37 : decode cX1_digest 37 = .ok (.i2l, 1) := by decide +kernel
theorem dX1_digest_38 : decode cX1_digest 38 = .ok (.ladd, 1) := by decide +kernel
theorem dX1_digest_39 : decode cX1_digest 39 = .ok (.lstore_n 1, 1) := by decide +kernel
theorem dX1_digest_40 : decode cX1_digest 40 = .ok (.lload_n 1, 1) := by decide +kernel
theorem dX1_digest_41 : decode cX1_digest 41 = .ok (.ldc2_w 146, 3) := by decide +kernel
theorem dX1_digest_44 : decode cX1_digest 44 = .ok (.lmul, 1) := by decide +kernel
theorem dX1_digest_45 : decode cX1_digest 45 = .ok (.aload_n 0, 1) := by decide +kernel
theorem dX1_digest_46 : decode cX1_digest 46 = .ok (.invokevirtual 156, 3) := by decide +kernel
theorem dX1_digest_49 : decode cX1_digest 49 = .ok (.i2l, 1) := by decide +kernel
theorem dX1_digest_50 : decode cX1_digest 50 = .ok (.ladd, 1) := by decide +kernel
theorem dX1_digest_51 : decode cX1_digest 51 = .ok (.lstore_n 1, 1) := by decide +kernel
theorem dX1_digest_52 : decode cX1_digest 52 = .ok (.lload_n 1, 1) := by decide +kernel
theorem dX1_digest_53 : decode cX1_digest 53 = .ok (.ldc2_w 146, 3) := by decide +kernel
theorem dX1_digest_56 : decode cX1_digest 56 = .ok (.lmul, 1) := by decide +kernel
theorem dX1_digest_57 : decode cX1_digest 57 = .ok (.aload_n 0, 1) := by decide +kernel
theorem dX1_digest_58 : decode cX1_digest 58 = .ok (.invokevirtual 159, 3) := by decide +kernel
theorem dX1_digest_61 : decode cX1_digest 61 = .ok (.i2l, 1) := by decide +kernel
theorem dX1_digest_62 : decode cX1_digest 62 = .ok (.ladd, 1) := by decide +kernel
theorem dX1_digest_63 : decode cX1_digest 63 = .ok (.lstore_n 1, 1) := by decide +kernel
theorem dX1_digest_64 : decode cX1_digest 64 = .ok (.lload_n 1, 1) := by decide +kernel
theorem dX1_digest_65 : decode cX1_digest 65 = .ok (.ldc2_w 146, 3) := by decide +kernel
theorem dX1_digest_68 : decode cX1_digest 68 = .ok (.lmul, 1) := by decide +kernel
theorem dX1_digest_69 : decode cX1_digest 69 = .ok (.aload_n 0, 1) := by decide +kernel
theorem dX1_digest_70 : decode cX1_digest 70 = .ok (.invokevirtual 162, 3) := by decide +kernel
theorem dX1_digest_73 : decode cX1_digest 73 = .ok (.i2l, 1) := by decide +kernel
theorem dX1_digest_74 : decode cX1_digest 74 = .ok (.ladd, 1) := by decide +kernel
theorem dX1_digest_75 : decode cX1_digest 75 = .ok (.lstore_n 1, 1) := by decide +kernel
theorem dX1_digest_76 : decode cX1_digest 76 = .ok (.lload_n 1, 1) := by decide +kernel
theorem dX1_digest_77 : decode cX1_digest 77 = .ok (.ldc2_w 146, 3) := by decide +kernel
theorem dX1_digest_80 : decode cX1_digest 80 = .ok (.lmul, 1) := by decide +kernel
theorem dX1_digest_81 : decode cX1_digest 81 = .ok (.aload_n 0, 1) := by decide +kernel
theorem dX1_digest_82 : decode cX1_digest 82 = .ok (.invokevirtual 165, 3) := by decide +kernel
theorem dX1_digest_85 : decode cX1_digest 85 = .ok (.i2l, 1) := by decide +kernel
theorem dX1_digest_86 : decode cX1_digest 86 = .ok (.ladd, 1) := by decide +kernel
theorem dX1_digest_87 : decode cX1_digest 87 = .ok (.lstore_n 1, 1) := by decide +kernel
theorem dX1_digest_88 : decode cX1_digest 88 = .ok (.lload_n 1, 1) := by decide +kernel
theorem dX1_digest_89 : decode cX1_digest 89 = .ok (.ldc2_w 146, 3) := by decide +kernel
theorem dX1_digest_92 : decode cX1_digest 92 = .ok (.lmul, 1) := by decide +kernel
theorem dX1_digest_93 : decode cX1_digest 93 = .ok (.aload_n 0, 1) := by decide +kernel
theorem dX1_digest_94 : decode cX1_digest 94 = .ok (.invokevirtual 168, 3) := by decide +kernel
theorem dX1_digest_97 : decode cX1_digest 97 = .ok (.i2l, 1) := by decide +kernel
theorem dX1_digest_98 : decode cX1_digest 98 = .ok (.ladd, 1) := by decide +kernel
theorem dX1_digest_99 : decode cX1_digest 99 = .ok (.lstore_n 1, 1) := by decide +kernel
theorem dX1_digest_100 : decode cX1_digest 100 = .ok (.iconst 0, 1) := by decide +kernel
theorem dX1_digest_101 : decode cX1_digest 101 = .ok (.istore_n 3, 1) := by decide +kernel
theorem dX1_digest_102 : decode cX1_digest 102 = .ok (.iload_n 3, 1) := by decide +kernel
theorem dX1_digest_103 : decode cX1_digest 103 = .ok (.aload_n 0, 1) := by decide +kernel
theorem dX1_digest_104 : decode cX1_digest 104 = .ok (.getfield 10, 3) := by decide +kernel
theorem dX1_digest_107 : decode cX1_digest 107 = .ok (.getfield 30, 3) := by decide +kernel
theorem dX1_digest_110 : decode cX1_digest 110 = .ok (.if_icmp .ge 87, 3) := by decide +kernel
theorem dX1_digest_113 : decode cX1_digest 113 = .ok (.lload_n 1, 1) := by decide +kernel
theorem dX1_digest_114 : decode cX1_digest 114 = .ok (.ldc2_w 146, 3) := by decide +kernel
theorem dX1_digest_117 : decode cX1_digest 117 = .ok (.lmul, 1) := by decide +kernel
theorem dX1_digest_118 : decode cX1_digest 118 = .ok (.aload_n 0, 1) := by decide +kernel
theorem dX1_digest_119 : decode cX1_digest 119 = .ok (.iload_n 3, 1) := by decide +kernel
theorem dX1_digest_120 : decode cX1_digest 120 = .ok (.invokevirtual 171, 3) := by decide +kernel
theorem dX1_digest_123 : decode cX1_digest 123 = .ok (.i2l, 1) := by decide +kernel
theorem dX1_digest_124 : decode cX1_digest 124 = .ok (.ladd, 1) := by decide +kernel
theorem dX1_digest_125 : decode cX1_digest 125 = .ok (.lstore_n 1, 1) := by decide +kernel
theorem dX1_digest_126 : decode cX1_digest 126 = .ok (.lload_n 1, 1) := by decide +kernel
theorem dX1_digest_127 : decode cX1_digest 127 = .ok (.ldc2_w 146, 3) := by decide +kernel
theorem dX1_digest_130 : decode cX1_digest 130 = .ok (.lmul, 1) := by decide +kernel
theorem dX1_digest_131 : decode cX1_digest 131 = .ok (.aload_n 0, 1) := by decide +kernel
theorem dX1_digest_132 : decode cX1_digest 132 = .ok (.iload_n 3, 1) := by decide +kernel
theorem dX1_digest_133 : decode cX1_digest 133 = .ok (.invokevirtual 174, 3) := by decide +kernel
theorem dX1_digest_136 : decode cX1_digest 136 = .ok (.i2l, 1) := by decide +kernel
theorem dX1_digest_137 : decode cX1_digest 137 = .ok (.ladd, 1) := by decide +kernel
theorem dX1_digest_138 : decode cX1_digest 138 = .ok (.lstore_n 1, 1) := by decide +kernel
theorem dX1_digest_139 : decode cX1_digest 139 = .ok (.lload_n 1, 1) := by decide +kernel
theorem dX1_digest_140 : decode cX1_digest 140 = .ok (.ldc2_w 146, 3) := by decide +kernel
theorem dX1_digest_143 : decode cX1_digest 143 = .ok (.lmul, 1) := by decide +kernel
theorem dX1_digest_144 : decode cX1_digest 144 = .ok (.aload_n 0, 1) := by decide +kernel
theorem dX1_digest_145 : decode cX1_digest 145 = .ok (.iload_n 3, 1) := by decide +kernel
theorem dX1_digest_146 : decode cX1_digest 146 = .ok (.invokevirtual 177, 3) := by decide +kernel
theorem dX1_digest_149 : decode cX1_digest 149 = .ok (.i2l, 1) := by decide +kernel
theorem dX1_digest_150 : decode cX1_digest 150 = .ok (.ladd, 1) := by decide +kernel
theorem dX1_digest_151 : decode cX1_digest 151 = .ok (.lstore_n 1, 1) := by decide +kernel
theorem dX1_digest_152 : decode cX1_digest 152 = .ok (.lload_n 1, 1) := by decide +kernel
theorem dX1_digest_153 : decode cX1_digest 153 = .ok (.ldc2_w 146, 3) := by decide +kernel
theorem dX1_digest_156 : decode cX1_digest 156 = .ok (.lmul, 1) := by decide +kernel
theorem dX1_digest_157 : decode cX1_digest 157 = .ok (.aload_n 0, 1) := by decide +kernel
theorem dX1_digest_158 : decode cX1_digest 158 = .ok (.iload_n 3, 1) := by decide +kernel
theorem dX1_digest_159 : decode cX1_digest 159 = .ok (.invokevirtual 180, 3) := by decide +kernel
theorem dX1_digest_162 : decode cX1_digest 162 = .ok (.i2l, 1) := by decide +kernel
theorem dX1_digest_163 : decode cX1_digest 163 = .ok (.ladd, 1) := by decide +kernel
theorem dX1_digest_164 : decode cX1_digest 164 = .ok (.lstore_n 1, 1) := by decide +kernel
theorem dX1_digest_165 : decode cX1_digest 165 = .ok (.lload_n 1, 1) := by decide +kernel
theorem dX1_digest_166 : decode cX1_digest 166 = .ok (.ldc2_w 146, 3) := by decide +kernel
theorem dX1_digest_169 : decode cX1_digest 169 = .ok (.lmul, 1) := by decide +kernel
theorem dX1_digest_170 : decode cX1_digest 170 = .ok (.aload_n 0, 1) := by decide +kernel
theorem dX1_digest_171 : decode cX1_digest 171 = .ok (.iload_n 3, 1) := by decide +kernel
theorem dX1_digest_172 : decode cX1_digest 172 = .ok (.invokevirtual 183, 3) := by decide +kernel
theorem dX1_digest_175 : decode cX1_digest 175 = .ok (.i2l, 1) := by decide +kernel
theorem dX1_digest_176 : decode cX1_digest 176 = .ok (.ladd, 1) := by decide +kernel
theorem dX1_digest_177 : decode cX1_digest 177 = .ok (.lstore_n 1, 1) := by decide +kernel
theorem dX1_digest_178 : decode cX1_digest 178 = .ok (.lload_n 1, 1) := by decide +kernel
theorem dX1_digest_179 : decode cX1_digest 179 = .ok (.ldc2_w 146, 3) := by decide +kernel
theorem dX1_digest_182 : decode cX1_digest 182 = .ok (.lmul, 1) := by decide +kernel
theorem dX1_digest_183 : decode cX1_digest 183 = .ok (.aload_n 0, 1) := by decide +kernel
theorem dX1_digest_184 : decode cX1_digest 184 = .ok (.iload_n 3, 1) := by decide +kernel
theorem dX1_digest_185 : decode cX1_digest 185 = .ok (.invokevirtual 186, 3) := by decide +kernel
theorem dX1_digest_188 : decode cX1_digest 188 = .ok (.i2l, 1) := by decide +kernel
theorem dX1_digest_189 : decode cX1_digest 189 = .ok (.ladd, 1) := by decide +kernel
theorem dX1_digest_190 : decode cX1_digest 190 = .ok (.lstore_n 1, 1) := by decide +kernel
theorem dX1_digest_191 : decode cX1_digest 191 = .ok (.iinc 3 1, 3) := by decide +kernel
theorem dX1_digest_194 : decode cX1_digest 194 = .ok (.goto (-92), 3) := by decide +kernel
theorem dX1_digest_197 : decode cX1_digest 197 = .ok (.iconst 0, 1) := by decide +kernel
theorem dX1_digest_198 : decode cX1_digest 198 = .ok (.istore_n 3, 1) := by decide +kernel
theorem dX1_digest_199 : decode cX1_digest 199 = .ok (.iload_n 3, 1) := by decide +kernel
theorem dX1_digest_200 : decode cX1_digest 200 = .ok (.aload_n 0, 1) := by decide +kernel
theorem dX1_digest_201 : decode cX1_digest 201 = .ok (.getfield 10, 3) := by decide +kernel
theorem dX1_digest_204 : decode cX1_digest 204 = .ok (.getfield 43, 3) := by decide +kernel
theorem dX1_digest_207 : decode cX1_digest 207 = .ok (.if_icmp .ge 113, 3) := by decide +kernel
theorem dX1_digest_210 : decode cX1_digest 210 = .ok (.lload_n 1, 1) := by decide +kernel
theorem dX1_digest_211 : decode cX1_digest 211 = .ok (.ldc2_w 146, 3) := by decide +kernel
theorem dX1_digest_214 : decode cX1_digest 214 = .ok (.lmul, 1) := by decide +kernel
theorem dX1_digest_215 : decode cX1_digest 215 = .ok (.aload_n 0, 1) := by decide +kernel
theorem dX1_digest_216 : decode cX1_digest 216 = .ok (.iload_n 3, 1) := by decide +kernel
theorem dX1_digest_217 : decode cX1_digest 217 = .ok (.invokevirtual 189, 3) := by decide +kernel
theorem dX1_digest_220 : decode cX1_digest 220 = .ok (.i2l, 1) := by decide +kernel
theorem dX1_digest_221 : decode cX1_digest 221 = .ok (.ladd, 1) := by decide +kernel
theorem dX1_digest_222 : decode cX1_digest 222 = .ok (.lstore_n 1, 1) := by decide +kernel
theorem dX1_digest_223 : decode cX1_digest 223 = .ok (.lload_n 1, 1) := by decide +kernel
theorem dX1_digest_224 : decode cX1_digest 224 = .ok (.ldc2_w 146, 3) := by decide +kernel
theorem dX1_digest_227 : decode cX1_digest 227 = .ok (.lmul, 1) := by decide +kernel
theorem dX1_digest_228 : decode cX1_digest 228 = .ok (.aload_n 0, 1) := by decide +kernel
theorem dX1_digest_229 : decode cX1_digest 229 = .ok (.iload_n 3, 1) := by decide +kernel
theorem dX1_digest_230 : decode cX1_digest 230 = .ok (.invokevirtual 192, 3) := by decide +kernel
theorem dX1_digest_233 : decode cX1_digest 233 = .ok (.i2l, 1) := by decide +kernel
theorem dX1_digest_234 : decode cX1_digest 234 = .ok (.ladd, 1) := by decide +kernel
theorem dX1_digest_235 : decode cX1_digest 235 = .ok (.lstore_n 1, 1) := by decide +kernel
theorem dX1_digest_236 : decode cX1_digest 236 = .ok (.lload_n 1, 1) := by decide +kernel
theorem dX1_digest_237 : decode cX1_digest 237 = .ok (.ldc2_w 146, 3) := by decide +kernel
theorem dX1_digest_240 : decode cX1_digest 240 = .ok (.lmul, 1) := by decide +kernel
theorem dX1_digest_241 : decode cX1_digest 241 = .ok (.aload_n 0, 1) := by decide +kernel
theorem dX1_digest_242 : decode cX1_digest 242 = .ok (.iload_n 3, 1) := by decide +kernel
theorem dX1_digest_243 : decode cX1_digest 243 = .ok (.invokevirtual 195, 3) := by decide +kernel
theorem dX1_digest_246 : decode cX1_digest 246 = .ok (.i2l, 1) := by decide +kernel
theorem dX1_digest_247 : decode cX1_digest 247 = .ok (.ladd, 1) := by decide +kernel
theorem dX1_digest_248 : decode cX1_digest 248 = .ok (.lstore_n 1, 1) := by decide +kernel
theorem dX1_digest_249 : decode cX1_digest 249 = .ok (.lload_n 1, 1) := by decide +kernel
theorem dX1_digest_250 : decode cX1_digest 250 = .ok (.ldc2_w 146, 3) := by decide +kernel
theorem dX1_digest_253 : decode cX1_digest 253 = .ok (.lmul, 1) := by decide +kernel
theorem dX1_digest_254 : decode cX1_digest 254 = .ok (.aload_n 0, 1) := by decide +kernel
theorem dX1_digest_255 : decode cX1_digest 255 = .ok (.iload_n 3, 1) := by decide +kernel
theorem dX1_digest_256 : decode cX1_digest 256 = .ok (.invokevirtual 198, 3) := by decide +kernel
theorem dX1_digest_259 : decode cX1_digest 259 = .ok (.i2l, 1) := by decide +kernel
theorem dX1_digest_260 : decode cX1_digest 260 = .ok (.ladd, 1) := by decide +kernel
theorem dX1_digest_261 : decode cX1_digest 261 = .ok (.lstore_n 1, 1) := by decide +kernel
theorem dX1_digest_262 : decode cX1_digest 262 = .ok (.lload_n 1, 1) := by decide +kernel
theorem dX1_digest_263 : decode cX1_digest 263 = .ok (.ldc2_w 146, 3) := by decide +kernel
theorem dX1_digest_266 : decode cX1_digest 266 = .ok (.lmul, 1) := by decide +kernel
theorem dX1_digest_267 : decode cX1_digest 267 = .ok (.aload_n 0, 1) := by decide +kernel
theorem dX1_digest_268 : decode cX1_digest 268 = .ok (.iload_n 3, 1) := by decide +kernel
theorem dX1_digest_269 : decode cX1_digest 269 = .ok (.invokevirtual 201, 3) := by decide +kernel
theorem dX1_digest_272 : decode cX1_digest 272 = .ok (.i2l, 1) := by decide +kernel
theorem dX1_digest_273 : decode cX1_digest 273 = .ok (.ladd, 1) := by decide +kernel
theorem dX1_digest_274 : decode cX1_digest 274 = .ok (.lstore_n 1, 1) := by decide +kernel
theorem dX1_digest_275 : decode cX1_digest 275 = .ok (.lload_n 1, 1) := by decide +kernel
theorem dX1_digest_276 : decode cX1_digest 276 = .ok (.ldc2_w 146, 3) := by decide +kernel
theorem dX1_digest_279 : decode cX1_digest 279 = .ok (.lmul, 1) := by decide +kernel
theorem dX1_digest_280 : decode cX1_digest 280 = .ok (.aload_n 0, 1) := by decide +kernel
theorem dX1_digest_281 : decode cX1_digest 281 = .ok (.iload_n 3, 1) := by decide +kernel
theorem dX1_digest_282 : decode cX1_digest 282 = .ok (.invokevirtual 204, 3) := by decide +kernel
theorem dX1_digest_285 : decode cX1_digest 285 = .ok (.i2l, 1) := by decide +kernel
theorem dX1_digest_286 : decode cX1_digest 286 = .ok (.ladd, 1) := by decide +kernel
theorem dX1_digest_287 : decode cX1_digest 287 = .ok (.lstore_n 1, 1) := by decide +kernel
theorem dX1_digest_288 : decode cX1_digest 288 = .ok (.lload_n 1, 1) := by decide +kernel
theorem dX1_digest_289 : decode cX1_digest 289 = .ok (.ldc2_w 146, 3) := by decide +kernel
theorem dX1_digest_292 : decode cX1_digest 292 = .ok (.lmul, 1) := by decide +kernel
theorem dX1_digest_293 : decode cX1_digest 293 = .ok (.aload_n 0, 1) := by decide +kernel
theorem dX1_digest_294 : decode cX1_digest 294 = .ok (.iload_n 3, 1) := by decide +kernel
theorem dX1_digest_295 : decode cX1_digest 295 = .ok (.invokevirtual 207, 3) := by decide +kernel
theorem dX1_digest_298 : decode cX1_digest 298 = .ok (.i2l, 1) := by decide +kernel
theorem dX1_digest_299 : decode cX1_digest 299 = .ok (.ladd, 1) := by decide +kernel
theorem dX1_digest_300 : decode cX1_digest 300 = .ok (.lstore_n 1, 1) := by decide +kernel
theorem dX1_digest_301 : decode cX1_digest 301 = .ok (.lload_n 1, 1) := by decide +kernel
theorem dX1_digest_302 : decode cX1_digest 302 = .ok (.ldc2_w 146, 3) := by decide +kernel
theorem dX1_digest_305 : decode cX1_digest 305 = .ok (.lmul, 1) := by decide +kernel
theorem dX1_digest_306 : decode cX1_digest 306 = .ok (.aload_n 0, 1) := by decide +kernel
theorem dX1_digest_307 : decode cX1_digest 307 = .ok (.iload_n 3, 1) := by decide +kernel
theorem dX1_digest_308 : decode cX1_digest 308 = .ok (.invokevirtual 210, 3) := by decide +kernel
theorem dX1_digest_311 : decode cX1_digest 311 = .ok (.i2l, 1) := by decide +kernel
theorem dX1_digest_312 : decode cX1_digest 312 = .ok (.ladd, 1) := by decide +kernel
theorem dX1_digest_313 : decode cX1_digest 313 = .ok (.lstore_n 1, 1) := by decide +kernel
theorem dX1_digest_314 : decode cX1_digest 314 = .ok (.iinc 3 1, 3) := by decide +kernel
theorem dX1_digest_317 : decode cX1_digest 317 = .ok (.goto (-118), 3) := by decide +kernel
theorem dX1_digest_320 : decode cX1_digest 320 = .ok (.lload_n 1, 1) := by decide +kernel
theorem dX1_digest_321 : decode cX1_digest 321 = .ok (.lreturn, 1) := by decide +kernel
set_option maxRecDepth 20000 in
theorem ggX1_givingUpWith_X0_become : GoodIn wsX1_givingUpWith wsX0_become := goodIn_r _ [10, 11, 12, 13, 14, 15, 16, 17, 18, 19, 20, 21, 22, 23, 24, 25, 26, 27, 74, 75, 76, 77, 78, 79, 80, 81, 82, 83, 84, 85, 86, 87, 88, 89, 90] (by decide +kernel) (by decide +kernel)
set_option maxRecDepth 20000 in
theorem gX1_givingUpWith_X0_become : GoodIn wsX1_givingUpWith (wsV RX1 130 RX0 yX0_become wsX0_become) := goodIn_app (goodIn_of _ (by decide +kernel)) ggX1_givingUpWith_X0_become
set_option maxRecDepth 20000 in
theorem ggX1_givingUpWith_X0_countWaitingAt : GoodIn wsX1_givingUpWith wsX0_countWaitingAt := goodIn_r _ [31, 13, 32, 33, 34, 9, 35, 20, 21, 74, 75, 76, 77, 78, 79, 80, 81, 82, 83, 84, 85, 86, 87, 88, 89, 90] (by decide +kernel) (by decide +kernel)
set_option maxRecDepth 20000 in
theorem gX1_givingUpWith_X0_countWaitingAt : GoodIn wsX1_givingUpWith (wsV RX1 70 RX0 yX0_countWaitingAt wsX0_countWaitingAt) := goodIn_app (goodIn_of _ (by decide +kernel)) ggX1_givingUpWith_X0_countWaitingAt
set_option maxRecDepth 20000 in
theorem ggX1_givingUpWith_X0_liveAMinute : GoodIn wsX1_givingUpWith wsX0_liveAMinute := goodIn_r _ [39, 12, 11, 40, 41, 42, 9, 43, 13, 20, 24, 44, 45, 46, 47, 21, 26, 48, 49, 50, 51, 22, 23, 15, 52, 53, 54, 55, 17, 25, 56, 57, 58, 59, 16, 32, 33, 34, 35, 60, 61, 62, 63, 19, 64, 65, 66, 67, 68, 69, 70, 71, 27, 18, 74, 75, 76, 77, 78, 79, 80, 81, 82, 83, 84, 85, 86, 87, 88, 89, 90] (by decide +kernel) (by decide +kernel)
set_option maxRecDepth 20000 in
theorem gX1_givingUpWith_X0_liveAMinute : GoodIn wsX1_givingUpWith (wsV RX1 96 RX0 yX0_liveAMinute wsX0_liveAMinute) := goodIn_app (goodIn_of _ (by decide +kernel)) ggX1_givingUpWith_X0_liveAMinute
theorem dX1_givingUpWith_0 : decode cX1_givingUpWith 0 = .ok (.aload_n 0, 1) := by decide +kernel
theorem dX1_givingUpWith_1 : decode cX1_givingUpWith 1 = .ok (.getfield 16, 3) := by decide +kernel
theorem dX1_givingUpWith_4 : decode cX1_givingUpWith 4 = .ok (.aload_n 0, 1) := by decide +kernel
theorem dX1_givingUpWith_5 : decode cX1_givingUpWith 5 = .ok (.getfield 10, 3) := by decide +kernel
theorem dX1_givingUpWith_8 : decode cX1_givingUpWith 8 = .ok (.invokevirtual 130, 3) := by decide +kernel
theorem dX1_givingUpWith_11 : decode cX1_givingUpWith 11 = .ok (.aload_n 0, 1) := by decide +kernel
theorem dX1_givingUpWith_12 : decode cX1_givingUpWith 12 = .ok (.getfield 16, 3) := by decide +kernel
theorem dX1_givingUpWith_15 : decode cX1_givingUpWith 15 = .ok (.getfield 59, 3) := by decide +kernel
theorem dX1_givingUpWith_18 : decode cX1_givingUpWith 18 = .ok (.iload_n 1, 1) := by decide +kernel
theorem dX1_givingUpWith_19 : decode cX1_givingUpWith 19 = .ok (.iload_n 2, 1) := by decide +kernel
theorem dX1_givingUpWith_20 : decode cX1_givingUpWith 20 = .ok (.iastore, 1) := by decide +kernel
theorem dX1_givingUpWith_21 : decode cX1_givingUpWith 21 = .ok (.aload_n 0, 1) := by decide +kernel
theorem dX1_givingUpWith_22 : decode cX1_givingUpWith 22 = .ok (.getfield 16, 3) := by decide +kernel
theorem dX1_givingUpWith_25 : decode cX1_givingUpWith 25 = .ok (.getfield 134, 3) := by decide +kernel
theorem dX1_givingUpWith_28 : decode cX1_givingUpWith 28 = .ok (.iload_n 1, 1) := by decide +kernel
theorem dX1_givingUpWith_29 : decode cX1_givingUpWith 29 = .ok (.iload_n 3, 1) := by decide +kernel
theorem dX1_givingUpWith_30 : decode cX1_givingUpWith 30 = .ok (.iastore, 1) := by decide +kernel
theorem dX1_givingUpWith_31 : decode cX1_givingUpWith 31 = .ok (.iconst 0, 1) := by decide +kernel
theorem dX1_givingUpWith_32 : decode cX1_givingUpWith 32 = .ok (.istore 4, 2) := by decide +kernel
theorem dX1_givingUpWith_34 : decode cX1_givingUpWith 34 = .ok (.iload 4, 2) := by decide +kernel
theorem dX1_givingUpWith_36 : decode cX1_givingUpWith 36 = .ok (.bipush 60, 2) := by decide +kernel
theorem dX1_givingUpWith_38 : decode cX1_givingUpWith 38 = .ok (.if_icmp .ge 27, 3) := by decide +kernel
theorem dX1_givingUpWith_41 : decode cX1_givingUpWith 41 = .ok (.aload_n 0, 1) := by decide +kernel
theorem dX1_givingUpWith_42 : decode cX1_givingUpWith 42 = .ok (.getfield 16, 3) := by decide +kernel
theorem dX1_givingUpWith_45 : decode cX1_givingUpWith 45 = .ok (.iload_n 1, 1) := by decide +kernel
theorem dX1_givingUpWith_46 : decode cX1_givingUpWith 46 = .ok (.invokevirtual 70, 3) := by decide +kernel
theorem dX1_givingUpWith_49 : decode cX1_givingUpWith 49 = .ok (.ifCond .le 16, 3) := by decide +kernel
theorem dX1_givingUpWith_52 : decode cX1_givingUpWith 52 = .ok (.aload_n 0, 1) := by decide +kernel
theorem dX1_givingUpWith_53 : decode cX1_givingUpWith 53 = .ok (.getfield 16, 3) := by decide +kernel
theorem dX1_givingUpWith_56 : decode cX1_givingUpWith 56 = .ok (.invokevirtual 96, 3) := by decide +kernel
theorem dX1_givingUpWith_59 : decode cX1_givingUpWith 59 = .ok (.iinc 4 1, 3) := by decide +kernel
theorem dX1_givingUpWith_62 : decode cX1_givingUpWith 62 = .ok (.goto (-28), 3) := by decide +kernel
theorem dX1_givingUpWith_65 : decode cX1_givingUpWith 65 = .ok (.aload_n 0, 1) := by decide +kernel
theorem dX1_givingUpWith_66 : decode cX1_givingUpWith 66 = .ok (.getfield 16, 3) := by decide +kernel
theorem dX1_givingUpWith_69 : decode cX1_givingUpWith 69 = .ok (.getfield 213, 3) := by decide +kernel
theorem dX1_givingUpWith_72 : decode cX1_givingUpWith 72 = .ok (.iload_n 1, 1) := by decide +kernel
theorem dX1_givingUpWith_73 : decode cX1_givingUpWith 73 = .ok (.iaload, 1) := by decide +kernel
theorem dX1_givingUpWith_74 : decode cX1_givingUpWith 74 = .ok (.aload_n 0, 1) := by decide +kernel
theorem dX1_givingUpWith_75 : decode cX1_givingUpWith 75 = .ok (.getfield 10, 3) := by decide +kernel
theorem dX1_givingUpWith_78 : decode cX1_givingUpWith 78 = .ok (.getfield 213, 3) := by decide +kernel
theorem dX1_givingUpWith_81 : decode cX1_givingUpWith 81 = .ok (.iload_n 1, 1) := by decide +kernel
theorem dX1_givingUpWith_82 : decode cX1_givingUpWith 82 = .ok (.iaload, 1) := by decide +kernel
theorem dX1_givingUpWith_83 : decode cX1_givingUpWith 83 = .ok (.isub, 1) := by decide +kernel
theorem dX1_givingUpWith_84 : decode cX1_givingUpWith 84 = .ok (.ireturn, 1) := by decide +kernel
theorem dX1_checkGate_0 : decode cX1_checkGate 0 = .ok (.iload_n 1, 1) := by decide +kernel
theorem dX1_checkGate_1 : decode cX1_checkGate 1 = .ok (.ifCond .lt 14, 3) := by decide +kernel
theorem dX1_checkGate_4 : decode cX1_checkGate 4 = .ok (.iload_n 1, 1) := by decide +kernel
theorem dX1_checkGate_5 : decode cX1_checkGate 5 = .ok (.aload_n 0, 1) := by decide +kernel
theorem dX1_checkGate_6 : decode cX1_checkGate 6 = .ok (.getfield 10, 3) := by decide +kernel
theorem dX1_checkGate_9 : decode cX1_checkGate 9 = .ok (.getfield 30, 3) := by decide +kernel
theorem dX1_checkGate_12 : decode cX1_checkGate 12 = .ok (.if_icmp .lt 13, 3) := by decide +kernel
theorem dX1_checkGate_15 : decode cX1_checkGate 15 = .ok (.new 216, 3) := by decide +kernel
theorem dX1_checkGate_18 : decode cX1_checkGate 18 = .ok (.dup, 1) := by decide +kernel
theorem dX1_checkGate_19 : decode cX1_checkGate 19 = .ok (.ldc 218, 2) := by decide +kernel
theorem dX1_checkGate_21 : decode cX1_checkGate 21 = .ok (.invokespecial 220, 3) := by decide +kernel
theorem dX1_checkGate_24 : decode cX1_checkGate 24 = .ok (.athrow, 1) := by decide +kernel
theorem dX1_checkGate_25 : decode cX1_checkGate 25 = .ok (.return_, 1) := by decide +kernel
theorem dX1_checkGoat_0 : decode cX1_checkGoat 0 = .ok (.iload_n 1, 1) := by decide +kernel
theorem dX1_checkGoat_1 : decode cX1_checkGoat 1 = .ok (.ifCond .lt 14, 3) := by decide +kernel
theorem dX1_checkGoat_4 : decode cX1_checkGoat 4 = .ok (.iload_n 1, 1) := by decide +kernel
theorem dX1_checkGoat_5 : decode cX1_checkGoat 5 = .ok (.aload_n 0, 1) := by decide +kernel
theorem dX1_checkGoat_6 : decode cX1_checkGoat 6 = .ok (.getfield 10, 3) := by decide +kernel
theorem dX1_checkGoat_9 : decode cX1_checkGoat 9 = .ok (.getfield 43, 3) := by decide +kernel
theorem dX1_checkGoat_12 : decode cX1_checkGoat 12 = .ok (.if_icmp .lt 13, 3) := by decide +kernel
theorem dX1_checkGoat_15 : decode cX1_checkGoat 15 = .ok (.new 216, 3) := by decide +kernel
theorem dX1_checkGoat_18 : decode cX1_checkGoat 18 = .ok (.dup, 1) := by decide +kernel
theorem dX1_checkGoat_19 : decode cX1_checkGoat 19 = .ok (.ldc 221, 2) := by decide +kernel
theorem dX1_checkGoat_21 : decode cX1_checkGoat 21 = .ok (.invokespecial 220, 3) := by decide +kernel
theorem dX1_checkGoat_24 : decode cX1_checkGoat 24 = .ok (.athrow, 1) := by decide +kernel
theorem dX1_checkGoat_25 : decode cX1_checkGoat 25 = .ok (.return_, 1) := by decide +kernel
theorem dX1_checkIdle_0 : decode cX1_checkIdle 0 = .ok (.aload_n 0, 1) := by decide +kernel
theorem dX1_checkIdle_1 : decode cX1_checkIdle 1 = .ok (.getfield 10, 3) := by decide +kernel
theorem dX1_checkIdle_4 : decode cX1_checkIdle 4 = .ok (.getfield 82, 3) := by decide +kernel
theorem dX1_checkIdle_7 : decode cX1_checkIdle 7 = .ok (.iload_n 1, 1) := by decide +kernel
theorem dX1_checkIdle_8 : decode cX1_checkIdle 8 = .ok (.iaload, 1) := by decide +kernel
theorem dX1_checkIdle_9 : decode cX1_checkIdle 9 = .ok (.ifCond .eq 13, 3) := by decide +kernel
theorem dX1_checkIdle_12 : decode cX1_checkIdle 12 = .ok (.new 34, 3) := by decide +kernel
theorem dX1_checkIdle_15 : decode cX1_checkIdle 15 = .ok (.dup, 1) := by decide +kernel
theorem dX1_checkIdle_16 : decode cX1_checkIdle 16 = .ok (.ldc 223, 2) := by decide +kernel
theorem dX1_checkIdle_18 : decode cX1_checkIdle 18 = .ok (.invokespecial 38, 3) := by decide +kernel
theorem dX1_checkIdle_21 : decode cX1_checkIdle 21 = .ok (.athrow, 1) := by decide +kernel
theorem dX1_checkIdle_22 : decode cX1_checkIdle 22 = .ok (.return_, 1) := by decide +kernel
theorem dX1_checkNumber_0 : decode cX1_checkNumber 0 = .ok (.iload_n 0, 1) := by decide +kernel
theorem dX1_checkNumber_1 : decode cX1_checkNumber 1 = .ok (.iconst 1, 1) := by decide +kernel
theorem dX1_checkNumber_2 : decode cX1_checkNumber 2 = .ok (.if_icmp .lt 8, 3) := by decide +kernel
theorem dX1_checkNumber_5 : decode cX1_checkNumber 5 = .ok (.iload_n 0, 1) := by decide +kernel
theorem dX1_checkNumber_6 : decode cX1_checkNumber 6 = .ok (.iload_n 1, 1) := by decide +kernel
theorem dX1_checkNumber_7 : decode cX1_checkNumber 7 = .ok (.if_icmp .le 13, 3) := by decide +kernel
theorem dX1_checkNumber_10 : decode cX1_checkNumber 10 = .ok (.new 23, 3) := by decide +kernel
theorem dX1_checkNumber_13 : decode cX1_checkNumber 13 = .ok (.dup, 1) := by decide +kernel
theorem dX1_checkNumber_14 : decode cX1_checkNumber 14 = .ok (.ldc 225, 2) := by decide +kernel
theorem dX1_checkNumber_16 : decode cX1_checkNumber 16 = .ok (.invokespecial 27, 3) := by decide +kernel
theorem dX1_checkNumber_19 : decode cX1_checkNumber 19 = .ok (.athrow, 1) := by decide +kernel
theorem dX1_checkNumber_20 : decode cX1_checkNumber 20 = .ok (.return_, 1) := by decide +kernel
end
section
theorem dX2_init_0 : decode cX2_init 0 = .ok (.aload_n 0, 1) := by decide +kernel
theorem dX2_init_1 : decode cX2_init 1 = .ok (.invokespecial 3, 3) := by decide +kernel
theorem dX2_init_4 : decode cX2_init 4 = .ok (.aload_n 0, 1) := by decide +kernel
theorem dX2_init_5 : decode cX2_init 5 = .ok (.iconst 4, 1) := by decide +kernel
theorem dX2_init_6 : decode cX2_init 6 = .ok (.newarray .int, 2) := by decide +kernel
theorem dX2_init_8 : decode cX2_init 8 = .ok (.putfield 9, 3) := by decide +kernel
theorem dX2_init_11 : decode cX2_init 11 = .ok (.aload_n 0, 1) := by decide +kernel
theorem dX2_init_12 : decode cX2_init 12 = .ok (.iconst 4, 1) := by decide +kernel
theorem dX2_init_13 : decode cX2_init 13 = .ok (.newarray .int, 2) := by decide +kernel
theorem dX2_init_15 : decode cX2_init 15 = .ok (.putfield 13, 3) := by decide +kernel
theorem dX2_init_18 : decode cX2_init 18 = .ok (.aload_n 0, 1) := by decide +kernel
theorem dX2_init_19 : decode cX2_init 19 = .ok (.bipush 12, 2) := by decide +kernel
theorem dX2_init_21 : decode cX2_init 21 = .ok (.newarray .int, 2) := by decide +kernel
theorem dX2_init_23 : decode cX2_init 23 = .ok (.putfield 16, 3) := by decide +kernel
theorem dX2_init_26 : decode cX2_init 26 = .ok (.aload_n 0, 1) := by decide +kernel
theorem dX2_init_27 : decode cX2_init 27 = .ok (.bipush 100, 2) := by decide +kernel
theorem dX2_init_29 : decode cX2_init 29 = .ok (.newarray .int, 2) := by decide +kernel
theorem dX2_init_31 : decode cX2_init 31 = .ok (.putfield 19, 3) := by decide +kernel
theorem dX2_init_34 : decode cX2_init 34 = .ok (.aload_n 0, 1) := by decide +kernel
theorem dX2_init_35 : decode cX2_init 35 = .ok (.bipush 100, 2) := by decide +kernel
theorem dX2_init_37 : decode cX2_init 37 = .ok (.newarray .int, 2) := by decide +kernel
theorem dX2_init_39 : decode cX2_init 39 = .ok (.putfield 22, 3) := by decide +kernel
theorem dX2_init_42 : decode cX2_init 42 = .ok (.return_, 1) := by decide +kernel
theorem dX2_thrown_0 : decode cX2_thrown 0 = .ok (.aload_n 0, 1) := by decide +kernel
theorem dX2_thrown_1 : decode cX2_thrown 1 = .ok (.getfield 25, 3) := by decide +kernel
theorem dX2_thrown_4 : decode cX2_thrown 4 = .ok (.ireturn, 1) := by decide +kernel
theorem dX2_no_0 : decode cX2_no 0 = .ok (.aload_n 0, 1) := by decide +kernel
theorem dX2_no_1 : decode cX2_no 1 = .ok (.iload_n 1, 1) := by decide +kernel
theorem dX2_no_2 : decode cX2_no 2 = .ok (.putfield 25, 3) := by decide +kernel
theorem dX2_no_5 : decode cX2_no 5 = .ok (.iconst 0, 1) := by decide +kernel
theorem dX2_no_6 : decode cX2_no 6 = .ok (.ireturn, 1) := by decide +kernel
theorem dX2_ok_0 : decode cX2_ok 0 = .ok (.aload_n 0, 1) := by decide +kernel
theorem dX2_ok_1 : decode cX2_ok 1 = .ok (.iconst 0, 1) := by decide +kernel
theorem dX2_ok_2 : decode cX2_ok 2 = .ok (.putfield 25, 3) := by decide +kernel
theorem dX2_ok_5 : decode cX2_ok 5 = .ok (.iload_n 1, 1) := by decide +kernel
theorem dX2_ok_6 : decode cX2_ok 6 = .ok (.ireturn, 1) := by decide +kernel
theorem dX2_isIn_0 : decode cX2_isIn 0 = .ok (.iload_n 0, 1) := by decide +kernel
theorem dX2_isIn_1 : decode cX2_isIn 1 = .ok (.iload_n 1, 1) := by decide +kernel
theorem dX2_isIn_2 : decode cX2_isIn 2 = .ok (.if_icmp .lt 12, 3) := by decide +kernel
theorem dX2_isIn_5 : decode cX2_isIn 5 = .ok (.iload_n 0, 1) := by decide +kernel
theorem dX2_isIn_6 : decode cX2_isIn 6 = .ok (.iload_n 2, 1) := by decide +kernel
theorem dX2_isIn_7 : decode cX2_isIn 7 = .ok (.if_icmp .gt 7, 3) := by decide +kernel
theorem dX2_isIn_10 : decode cX2_isIn 10 = .ok (.iconst 1, 1) := by decide +kernel
theorem dX2_isIn_11 : decode cX2_isIn 11 = .ok (.goto 4, 3) := by decide +kernel
theorem dX2_isIn_14 : decode cX2_isIn 14 = .ok (.iconst 0, 1) := by decide +kernel
theorem dX2_isIn_15 : decode cX2_isIn 15 = .ok (.ireturn, 1) := by decide +kernel
set_option maxRecDepth 20000 in
theorem ggX2_isGate_X2_isIn : GoodIn wsX2_isGate wsX2_isIn := goodIn_r _ [5] (by decide +kernel) (by decide +kernel)
set_option maxRecDepth 20000 in
theorem gX2_isGate_X2_isIn : GoodIn wsX2_isGate (va_wsS RX2 32 yX2_isIn wsX2_isIn) := goodIn_app (goodIn_of _ (by decide +kernel)) ggX2_isGate_X2_isIn
theorem dX2_isGate_0 : decode cX2_isGate 0 = .ok (.iload_n 1, 1) := by decide +kernel
theorem dX2_isGate_1 : decode cX2_isGate 1 = .ok (.iconst 0, 1) := by decide +kernel
theorem dX2_isGate_2 : decode cX2_isGate 2 = .ok (.aload_n 0, 1) := by decide +kernel
theorem dX2_isGate_3 : decode cX2_isGate 3 = .ok (.getfield 29, 3) := by decide +kernel
theorem dX2_isGate_6 : decode cX2_isGate 6 = .ok (.iconst 1, 1) := by decide +kernel
theorem dX2_isGate_7 : decode cX2_isGate 7 = .ok (.isub, 1) := by decide +kernel
theorem dX2_isGate_8 : decode cX2_isGate 8 = .ok (.invokestatic 32, 3) := by decide +kernel
theorem dX2_isGate_11 : decode cX2_isGate 11 = .ok (.ireturn, 1) := by decide +kernel
set_option maxRecDepth 20000 in
theorem ggX2_isGoat_X2_isIn : GoodIn wsX2_isGoat wsX2_isIn := goodIn_r _ [5] (by decide +kernel) (by decide +kernel)
set_option maxRecDepth 20000 in
theorem gX2_isGoat_X2_isIn : GoodIn wsX2_isGoat (va_wsS RX2 32 yX2_isIn wsX2_isIn) := goodIn_app (goodIn_of _ (by decide +kernel)) ggX2_isGoat_X2_isIn
theorem dX2_isGoat_0 : decode cX2_isGoat 0 = .ok (.iload_n 1, 1) := by decide +kernel
theorem dX2_isGoat_1 : decode cX2_isGoat 1 = .ok (.iconst 0, 1) := by decide +kernel
theorem dX2_isGoat_2 : decode cX2_isGoat 2 = .ok (.aload_n 0, 1) := by decide +kernel
theorem dX2_isGoat_3 : decode cX2_isGoat 3 = .ok (.getfield 36, 3) := by decide +kernel
theorem dX2_isGoat_6 : decode cX2_isGoat 6 = .ok (.iconst 1, 1) := by decide +kernel
theorem dX2_isGoat_7 : decode cX2_isGoat 7 = .ok (.isub, 1) := by decide +kernel
theorem dX2_isGoat_8 : decode cX2_isGoat 8 = .ok (.invokestatic 32, 3) := by decide +kernel
theorem dX2_isGoat_11 : decode cX2_isGoat 11 = .ok (.ireturn, 1) := by decide +kernel
theorem dX2_keep_0 : decode cX2_keep 0 = .ok (.aload_n 0, 1) := by decide +kernel
theorem dX2_keep_1 : decode cX2_keep 1 = .ok (.getfield 19, 3) := by decide +kernel
theorem dX2_keep_4 : decode cX2_keep 4 = .ok (.iconst 0, 1) := by decide +kernel
theorem dX2_keep_5 : decode cX2_keep 5 = .ok (.aload_n 0, 1) := by decide +kernel
theorem dX2_keep_6 : decode cX2_keep 6 = .ok (.getfield 22, 3) := by decide +kernel
theorem dX2_keep_9 : decode cX2_keep 9 = .ok (.iconst 0, 1) := by decide +kernel
theorem dX2_keep_10 : decode cX2_keep 10 = .ok (.bipush 100, 2) := by decide +kernel
theorem dX2_keep_12 : decode cX2_keep 12 = .ok (.invokestatic 39, 3) := by decide +kernel
theorem dX2_keep_15 : decode cX2_keep 15 = .ok (.return_, 1) := by decide +kernel
theorem dX2_bringBack_0 : decode cX2_bringBack 0 = .ok (.aload_n 0, 1) := by decide +kernel
theorem dX2_bringBack_1 : decode cX2_bringBack 1 = .ok (.getfield 22, 3) := by decide +kernel
theorem dX2_bringBack_4 : decode cX2_bringBack 4 = .ok (.iconst 0, 1) := by decide +kernel
theorem dX2_bringBack_5 : decode cX2_bringBack 5 = .ok (.aload_n 0, 1) := by decide +kernel
theorem dX2_bringBack_6 : decode cX2_bringBack 6 = .ok (.getfield 19, 3) := by decide +kernel
theorem dX2_bringBack_9 : decode cX2_bringBack 9 = .ok (.iconst 0, 1) := by decide +kernel
theorem dX2_bringBack_10 : decode cX2_bringBack 10 = .ok (.bipush 100, 2) := by decide +kernel
theorem dX2_bringBack_12 : decode cX2_bringBack 12 = .ok (.invokestatic 39, 3) := by decide +kernel
theorem dX2_bringBack_15 : decode cX2_bringBack 15 = .ok (.return_, 1) := by decide +kernel
theorem dX2_of_0 : decode cX2_of 0 = .ok (.aload_n 0, 1) := by decide +kernel
theorem dX2_of_1 : decode cX2_of 1 = .ok (.getfield 19, 3) := by decide +kernel
theorem dX2_of_4 : decode cX2_of 4 = .ok (.iconst 4, 1) := by decide +kernel
theorem dX2_of_5 : decode cX2_of 5 = .ok (.bipush 8, 2) := by decide +kernel
theorem dX2_of_7 : decode cX2_of 7 = .ok (.iload_n 1, 1) := by decide +kernel
theorem dX2_of_8 : decode cX2_of 8 = .ok (.imul, 1) := by decide +kernel
theorem dX2_of_9 : decode cX2_of 9 = .ok (.iadd, 1) := by decide +kernel
theorem dX2_of_10 : decode cX2_of 10 = .ok (.iload_n 2, 1) := by decide +kernel
theorem dX2_of_11 : decode cX2_of 11 = .ok (.iadd, 1) := by decide +kernel
theorem dX2_of_12 : decode cX2_of 12 = .ok (.iaload, 1) := by decide +kernel
theorem dX2_of_13 : decode cX2_of 13 = .ok (.ireturn, 1) := by decide +kernel
theorem dX2_let_0 : decode cX2_let 0 = .ok (.aload_n 0, 1) := by decide +kernel
theorem dX2_let_1 : decode cX2_let 1 = .ok (.getfield 19, 3) := by decide +kernel
theorem dX2_let_4 : decode cX2_let 4 = .ok (.iconst 4, 1) := by decide +kernel
theorem dX2_let_5 : decode cX2_let 5 = .ok (.bipush 8, 2) := by decide +kernel
theorem dX2_let_7 : decode cX2_let 7 = .ok (.iload_n 1, 1) := by decide +kernel
theorem dX2_let_8 : decode cX2_let 8 = .ok (.imul, 1) := by decide +kernel
theorem dX2_let_9 : decode cX2_let 9 = .ok (.iadd, 1) := by decide +kernel
theorem dX2_let_10 : decode cX2_let 10 = .ok (.iload_n 2, 1) := by decide +kernel
theorem dX2_let_11 : decode cX2_let 11 = .ok (.iadd, 1) := by decide +kernel
theorem dX2_let_12 : decode cX2_let 12 = .ok (.iload_n 3, 1) := by decide +kernel
theorem dX2_let_13 : decode cX2_let 13 = .ok (.iastore, 1) := by decide +kernel
theorem dX2_let_14 : decode cX2_let 14 = .ok (.return_, 1) := by decide +kernel
set_option maxRecDepth 20000 in
theorem ggX2_is_X2_of : GoodIn wsX2_is wsX2_of := goodIn_r _ [5, 6, 7, 8, 9, 10, 11, 12, 13, 14] (by decide +kernel) (by decide +kernel)
set_option maxRecDepth 20000 in
theorem gX2_is_X2_of : GoodIn wsX2_is (wsV RX2 45 RX2 yX2_of wsX2_of) := goodIn_app (goodIn_of _ (by decide +kernel)) ggX2_is_X2_of
theorem dX2_is_0 : decode cX2_is 0 = .ok (.aload_n 0, 1) := by decide +kernel
theorem dX2_is_1 : decode cX2_is 1 = .ok (.iload_n 1, 1) := by decide +kernel
theorem dX2_is_2 : decode cX2_is 2 = .ok (.iconst 0, 1) := by decide +kernel
theorem dX2_is_3 : decode cX2_is 3 = .ok (.invokevirtual 45, 3) := by decide +kernel
theorem dX2_is_6 : decode cX2_is 6 = .ok (.iload_n 2, 1) := by decide +kernel
theorem dX2_is_7 : decode cX2_is 7 = .ok (.if_icmp .ne 7, 3) := by decide +kernel
theorem dX2_is_10 : decode cX2_is 10 = .ok (.iconst 1, 1) := by decide +kernel
theorem dX2_is_11 : decode cX2_is 11 = .ok (.goto 4, 3) := by decide +kernel
theorem dX2_is_14 : decode cX2_is 14 = .ok (.iconst 0, 1) := by decide +kernel
theorem dX2_is_15 : decode cX2_is 15 = .ok (.ireturn, 1) := by decide +kernel
set_option maxRecDepth 20000 in
theorem ggX2_isAt_X2_is : GoodIn wsX2_isAt wsX2_is := goodIn_r _ [5, 6, 7, 8, 4, 9, 10, 11, 12, 13, 14, 15, 16, 17, 18] (by decide +kernel) (by decide +kernel)
set_option maxRecDepth 20000 in
theorem gX2_isAt_X2_is : GoodIn wsX2_isAt (wsV RX2 49 RX2 yX2_is wsX2_is) := goodIn_app (goodIn_of _ (by decide +kernel)) ggX2_isAt_X2_is
set_option maxRecDepth 20000 in
theorem ggX2_isAt_X2_of : GoodIn wsX2_isAt wsX2_of := goodIn_r _ [9, 10, 11, 12, 13, 14, 15, 16, 17, 18] (by decide +kernel) (by decide +kernel)
set_option maxRecDepth 20000 in
theorem gX2_isAt_X2_of : GoodIn wsX2_isAt (wsV RX2 45 RX2 yX2_of wsX2_of) := goodIn_app (goodIn_of _ (by decide +kernel)) ggX2_isAt_X2_of
theorem dX2_isAt_0 : decode cX2_isAt 0 = .ok (.aload_n 0, 1) := by decide +kernel
theorem dX2_isAt_1 : decode cX2_isAt 1 = .ok (.iload_n 1, 1) := by decide +kernel
theorem dX2_isAt_2 : decode cX2_isAt 2 = .ok (.iconst 1, 1) := by decide +kernel
theorem dX2_isAt_3 : decode cX2_isAt 3 = .ok (.invokevirtual 49, 3) := by decide +kernel
theorem dX2_isAt_6 : decode cX2_isAt 6 = .ok (.ifCond .eq 17, 3) := by decide +kernel
theorem dX2_isAt_9 : decode cX2_isAt 9 = .ok (.aload_n 0, 1) := by decide +kernel
theorem dX2_isAt_10 : decode cX2_isAt 10 = .ok (.iload_n 1, 1) := by decide +kernel
theorem dX2_isAt_11 : decode cX2_isAt 11 = .ok (.iconst 1, 1) := by decide +kernel
theorem dX2_isAt_12 : decode cX2_isAt 12 = .ok (.invokevirtual 45, 3) := by decide +kernel
theorem dX2_isAt_15 : decode cX2_isAt 15 = .ok (.iload_n 2, 1) := by decide +kernel
theorem dX2_isAt_16 : decode cX2_isAt 16 = .ok (.if_icmp .ne 7, 3) := by decide +kernel
theorem dX2_isAt_19 : decode cX2_isAt 19 = .ok (.iconst 1, 1) := by decide +kernel
theorem dX2_isAt_20 : decode cX2_isAt 20 = .ok (.goto 4, 3) := by decide +kernel
theorem dX2_isAt_23 : decode cX2_isAt 23 = .ok (.iconst 0, 1) := by decide +kernel
theorem dX2_isAt_24 : decode cX2_isAt 24 = .ok (.ireturn, 1) := by decide +kernel
set_option maxRecDepth 20000 in
theorem ggX2_free_X2_is : GoodIn wsX2_free wsX2_is := goodIn_r _ [7, 8, 9, 10, 6, 11, 12, 13, 14, 15, 16, 17, 18, 19, 20] (by decide +kernel) (by decide +kernel)
set_option maxRecDepth 20000 in
theorem gX2_free_X2_is : GoodIn wsX2_free (wsV RX2 49 RX2 yX2_is wsX2_is) := goodIn_app (goodIn_of _ (by decide +kernel)) ggX2_free_X2_is
set_option maxRecDepth 20000 in
theorem ggX2_free_X2_of : GoodIn wsX2_free wsX2_of := goodIn_r _ [11, 12, 13, 14, 15, 16, 17, 18, 19, 20] (by decide +kernel) (by decide +kernel)
set_option maxRecDepth 20000 in
theorem gX2_free_X2_of : GoodIn wsX2_free (wsV RX2 45 RX2 yX2_of wsX2_of) := goodIn_app (goodIn_of _ (by decide +kernel)) ggX2_free_X2_of
theorem dX2_free_0 : decode cX2_free 0 = .ok (.aload_n 0, 1) := by decide +kernel
theorem dX2_free_1 : decode cX2_free 1 = .ok (.getfield 9, 3) := by decide +kernel
theorem dX2_free_4 : decode cX2_free 4 = .ok (.iload_n 1, 1) := by decide +kernel
theorem dX2_free_5 : decode cX2_free 5 = .ok (.iaload, 1) := by decide +kernel
theorem dX2_free_6 : decode cX2_free 6 = .ok (.istore_n 2, 1) := by decide +kernel
theorem dX2_free_7 : decode cX2_free 7 = .ok (.iconst 0, 1) := by decide +kernel
theorem dX2_free_8 : decode cX2_free 8 = .ok (.istore_n 3, 1) := by decide +kernel
theorem dX2_free_9 : decode cX2_free 9 = .ok (.iload_n 3, 1) := by decide +kernel
theorem dX2_free_10 : decode cX2_free 10 = .ok (.aload_n 0, 1) := by decide +kernel
theorem dX2_free_11 : decode cX2_free 11 = .ok (.getfield 36, 3) := by decide +kernel
theorem dX2_free_14 : decode cX2_free 14 = .ok (.if_icmp .ge 37, 3) := by decide +kernel
theorem dX2_free_17 : decode cX2_free 17 = .ok (.aload_n 0, 1) := by decide +kernel
theorem dX2_free_18 : decode cX2_free 18 = .ok (.iload_n 3, 1) := by decide +kernel
theorem dX2_free_19 : decode cX2_free 19 = .ok (.iconst 2, 1) := by decide +kernel
theorem dX2_free_20 : decode cX2_free 20 = .ok (.invokevirtual 49, 3) := by decide +kernel
theorem dX2_free_23 : decode cX2_free 23 = .ok (.ifCond .eq 22, 3) := by decide +kernel
theorem dX2_free_26 : decode cX2_free 26 = .ok (.aload_n 0, 1) := by decide +kernel
theorem dX2_free_27 : decode cX2_free 27 = .ok (.iload_n 3, 1) := by decide +kernel
theorem dX2_free_28 : decode cX2_free 28 = .ok (.iconst 1, 1) := by decide +kernel
theorem dX2_free_29 : decode cX2_free 29 = .ok (.invokevirtual 45, 3) := by decide +kernel
theorem dX2_free_32 : decode cX2_free 32 = .ok (.iload_n 1, 1) := by decide +kernel
theorem dX2_free_33 : decode cX2_free 33 = .ok (.if_icmp .ne 12, 3) := by decide +kernel
theorem dX2_free_36 : decode cX2_free 36 = .ok (.iload_n 2, 1) := by decide +kernel
theorem dX2_free_37 : decode cX2_free 37 = .ok (.aload_n 0, 1) := by decide +kernel
theorem dX2_free_38 : decode cX2_free 38 = .ok (.iload_n 3, 1) := by decide +kernel
theorem dX2_free_39 : decode cX2_free 39 = .ok (.iconst 2, 1) := by decide +kernel
theorem dX2_free_40 : decode cX2_free 40 = .ok (.invokevirtual 45, 3) := by decide +kernel
theorem dX2_free_43 : decode cX2_free 43 = .ok (.isub, 1) := by decide +kernel
theorem dX2_free_44 : decode cX2_free 44 = .ok (.istore_n 2, 1) := by decide +kernel
theorem dX2_free_45 : decode cX2_free 45 = .ok (.iinc 3 1, 3) := by decide +kernel
theorem dX2_free_48 : decode cX2_free 48 = .ok (.goto (-39), 3) := by decide +kernel
theorem dX2_free_51 : decode cX2_free 51 = .ok (.iload_n 2, 1) := by decide +kernel
theorem dX2_free_52 : decode cX2_free 52 = .ok (.ireturn, 1) := by decide +kernel
set_option maxRecDepth 20000 in
theorem ggX2_seem_X2_is : GoodIn wsX2_seem wsX2_is := goodIn_r _ [6, 7, 8, 9, 5, 10, 11, 12, 13, 14, 15, 16, 17, 18, 19] (by decide +kernel) (by decide +kernel)
set_option maxRecDepth 20000 in
theorem gX2_seem_X2_is : GoodIn wsX2_seem (wsV RX2 49 RX2 yX2_is wsX2_is) := goodIn_app (goodIn_of _ (by decide +kernel)) ggX2_seem_X2_is
set_option maxRecDepth 20000 in
theorem ggX2_seem_X2_of : GoodIn wsX2_seem wsX2_of := goodIn_r _ [10, 11, 12, 13, 14, 15, 16, 17, 18, 19] (by decide +kernel) (by decide +kernel)
set_option maxRecDepth 20000 in
theorem gX2_seem_X2_of : GoodIn wsX2_seem (wsV RX2 45 RX2 yX2_of wsX2_of) := goodIn_app (goodIn_of _ (by decide +kernel)) ggX2_seem_X2_of
theorem dX2_seem_0 : decode cX2_seem 0 = .ok (.aload_n 0, 1) := by decide +kernel
theorem dX2_seem_1 : decode cX2_seem 1 = .ok (.getfield 16, 3) := by decide +kernel
theorem dX2_seem_4 : decode cX2_seem 4 = .ok (.iload_n 1, 1) := by decide +kernel
theorem dX2_seem_5 : decode cX2_seem 5 = .ok (.iaload, 1) := by decide +kernel
theorem dX2_seem_6 : decode cX2_seem 6 = .ok (.aload_n 0, 1) := by decide +kernel
theorem dX2_seem_7 : decode cX2_seem 7 = .ok (.iload_n 1, 1) := by decide +kernel
theorem dX2_seem_8 : decode cX2_seem 8 = .ok (.iconst 1, 1) := by decide +kernel
theorem dX2_seem_9 : decode cX2_seem 9 = .ok (.invokevirtual 49, 3) := by decide +kernel
theorem dX2_seem_12 : decode cX2_seem 12 = .ok (.ifCond .eq 14, 3) := by decide +kernel
theorem dX2_seem_15 : decode cX2_seem 15 = .ok (.aload_n 0, 1) := by decide +kernel
theorem dX2_seem_16 : decode cX2_seem 16 = .ok (.iload_n 1, 1) := by decide +kernel
theorem dX2_seem_17 : decode cX2_seem 17 = .ok (.iconst 5, 1) := by decide +kernel
theorem dX2_seem_18 : decode cX2_seem 18 = .ok (.invokevirtual 45, 3) := by decide +kernel
theorem dX2_seem_21 : decode cX2_seem 21 = .ok (.iconst 3, 1) := by decide +kernel
theorem dX2_seem_22 : decode cX2_seem 22 = .ok (.idiv, 1) := by decide +kernel
theorem dX2_seem_23 : decode cX2_seem 23 = .ok (.goto 4, 3) := by decide +kernel
theorem dX2_seem_26 : decode cX2_seem 26 = .ok (.iconst 0, 1) := by decide +kernel
theorem dX2_seem_27 : decode cX2_seem 27 = .ok (.iadd, 1) := by decide +kernel
theorem dX2_seem_28 : decode cX2_seem 28 = .ok (.ireturn, 1) := by decide +kernel
set_option maxRecDepth 20000 in
theorem ggX2_firstAt_X2_isAt : GoodIn wsX2_firstAt wsX2_isAt := goodIn_r _ [6, 7, 8, 9, 5, 10, 11, 12, 13, 14, 15, 16, 17, 18, 19, 20, 21, 22, 23] (by decide +kernel) (by decide +kernel)
set_option maxRecDepth 20000 in
theorem gX2_firstAt_X2_isAt : GoodIn wsX2_firstAt (wsV RX2 53 RX2 yX2_isAt wsX2_isAt) := goodIn_app (goodIn_of _ (by decide +kernel)) ggX2_firstAt_X2_isAt
set_option maxRecDepth 20000 in
theorem ggX2_firstAt_X2_of : GoodIn wsX2_firstAt wsX2_of := goodIn_r _ [14, 15, 16, 17, 18, 19, 20, 21, 22, 23] (by decide +kernel) (by decide +kernel)
set_option maxRecDepth 20000 in
theorem gX2_firstAt_X2_of : GoodIn wsX2_firstAt (wsV RX2 45 RX2 yX2_of wsX2_of) := goodIn_app (goodIn_of _ (by decide +kernel)) ggX2_firstAt_X2_of
theorem dX2_firstAt_0 : decode cX2_firstAt 0 = .ok (.iconst (-1), 1) := by decide +kernel
theorem dX2_firstAt_1 : decode cX2_firstAt 1 = .ok (.istore_n 2, 1) := by decide +kernel
theorem dX2_firstAt_2 : decode cX2_firstAt 2 = .ok (.iconst 0, 1) := by decide +kernel
theorem dX2_firstAt_3 : decode cX2_firstAt 3 = .ok (.istore_n 3, 1) := by decide +kernel
theorem dX2_firstAt_4 : decode cX2_firstAt 4 = .ok (.iload_n 3, 1) := by decide +kernel
theorem dX2_firstAt_5 : decode cX2_firstAt 5 = .ok (.aload_n 0, 1) := by decide +kernel
theorem dX2_firstAt_6 : decode cX2_firstAt 6 = .ok (.getfield 36, 3) := by decide +kernel
theorem dX2_firstAt_9 : decode cX2_firstAt 9 = .ok (.if_icmp .ge 42, 3) := by decide +kernel
theorem dX2_firstAt_12 : decode cX2_firstAt 12 = .ok (.aload_n 0, 1) := by decide +kernel
theorem dX2_firstAt_13 : decode cX2_firstAt 13 = .ok (.iload_n 3, 1) := by decide +kernel
theorem dX2_firstAt_14 : decode cX2_firstAt 14 = .ok (.iload_n 1, 1) := by decide +kernel
theorem dX2_firstAt_15 : decode cX2_firstAt 15 = .ok (.invokevirtual 53, 3) := by decide +kernel
theorem dX2_firstAt_18 : decode cX2_firstAt 18 = .ok (.ifCond .eq 27, 3) := by decide +kernel
theorem dX2_firstAt_21 : decode cX2_firstAt 21 = .ok (.iload_n 2, 1) := by decide +kernel
theorem dX2_firstAt_22 : decode cX2_firstAt 22 = .ok (.iconst (-1), 1) := by decide +kernel
theorem dX2_firstAt_23 : decode cX2_firstAt 23 = .ok (.if_icmp .eq 20, 3) := by decide +kernel
theorem dX2_firstAt_26 : decode cX2_firstAt 26 = .ok (.aload_n 0, 1) := by decide +kernel
theorem dX2_firstAt_27 : decode cX2_firstAt 27 = .ok (.iload_n 3, 1) := by decide +kernel
theorem dX2_firstAt_28 : decode cX2_firstAt 28 = .ok (.bipush 7, 2) := by decide +kernel
theorem dX2_firstAt_30 : decode cX2_firstAt 30 = .ok (.invokevirtual 45, 3) := by decide +kernel
theorem dX2_firstAt_33 : decode cX2_firstAt 33 = .ok (.aload_n 0, 1) := by decide +kernel
theorem dX2_firstAt_34 : decode cX2_firstAt 34 = .ok (.iload_n 2, 1) := by decide +kernel
theorem dX2_firstAt_35 : decode cX2_firstAt 35 = .ok (.bipush 7, 2) := by decide +kernel
theorem dX2_firstAt_37 : decode cX2_firstAt 37 = .ok (.invokevirtual 45, 3) := by decide +kernel
theorem dX2_firstAt_40 : decode cX2_firstAt 40 = .ok (.if_icmp .ge 5, 3) := by decide +kernel
theorem dX2_firstAt_43 : decode cX2_firstAt 43 = .ok (.iload_n 3, 1) := by decide +kernel
theorem dX2_firstAt_44 : decode cX2_firstAt 44 = .ok (.istore_n 2, 1) := by decide +kernel
theorem dX2_firstAt_45 : decode cX2_firstAt 45 = .ok (.iinc 3 1, 3) := by decide +kernel
theorem dX2_firstAt_48 : decode cX2_firstAt 48 = .ok (.goto (-44), 3) := by decide +kernel
theorem dX2_firstAt_51 : decode cX2_firstAt 51 = .ok (.iload_n 2, 1) := by decide +kernel
theorem dX2_firstAt_52 : decode cX2_firstAt 52 = .ok (.ireturn, 1) := by decide +kernel
set_option maxRecDepth 20000 in
theorem ggX2_next_X2_free : GoodIn wsX2_next wsX2_free := goodIn_r _ [7, 8, 2, 9, 10, 11, 6, 12, 13, 14, 15, 16, 17, 31, 32, 33, 34, 35, 36, 37, 38] (by decide +kernel) (by decide +kernel)
set_option maxRecDepth 20000 in
theorem gX2_next_X2_free : GoodIn wsX2_next (wsV RX2 56 RX2 yX2_free wsX2_free) := goodIn_app (goodIn_of _ (by decide +kernel)) ggX2_next_X2_free
set_option maxRecDepth 20000 in
theorem ggX2_next_X2_firstAt : GoodIn wsX2_next wsX2_firstAt := goodIn_r _ [21, 2, 22, 23, 24, 6, 25, 9, 10, 11, 12, 13, 14, 15, 16, 17, 31, 32, 33, 34, 35, 36, 37, 38] (by decide +kernel) (by decide +kernel)
set_option maxRecDepth 20000 in
theorem gX2_next_X2_firstAt : GoodIn wsX2_next (wsV RX2 60 RX2 yX2_firstAt wsX2_firstAt) := goodIn_app (goodIn_of _ (by decide +kernel)) ggX2_next_X2_firstAt
set_option maxRecDepth 20000 in
theorem ggX2_next_X2_of : GoodIn wsX2_next wsX2_of := goodIn_r _ [16, 17, 31, 32, 33, 34, 35, 36, 37, 38] (by decide +kernel) (by decide +kernel)
set_option maxRecDepth 20000 in
theorem gX2_next_X2_of : GoodIn wsX2_next (wsV RX2 45 RX2 yX2_of wsX2_of) := goodIn_app (goodIn_of _ (by decide +kernel)) ggX2_next_X2_of
set_option maxRecDepth 20000 in
theorem ggX2_next_X2_isAt : GoodIn wsX2_next wsX2_isAt := goodIn_r _ [25, 9, 10, 11, 6, 12, 13, 14, 15, 16, 17, 31, 32, 33, 34, 35, 36, 37, 38] (by decide +kernel) (by decide +kernel)
set_option maxRecDepth 20000 in
theorem gX2_next_X2_isAt : GoodIn wsX2_next (wsV RX2 53 RX2 yX2_isAt wsX2_isAt) := goodIn_app (goodIn_of _ (by decide +kernel)) ggX2_next_X2_isAt
set_option maxRecDepth 20000 in
theorem ggX2_next_X2_seem : GoodIn wsX2_next wsX2_seem := goodIn_r _ [29, 30, 9, 10, 11, 6, 12, 13, 14, 15, 16, 17, 31, 32, 33, 34, 35, 36, 37, 38] (by decide +kernel) (by decide +kernel)
set_option maxRecDepth 20000 in
theorem gX2_next_X2_seem : GoodIn wsX2_next (wsV RX2 63 RX2 yX2_seem wsX2_seem) := goodIn_app (goodIn_of _ (by decide +kernel)) ggX2_next_X2_seem
theorem dX2_next_0 : decode cX2_next 0 = .ok (.aload_n 0, 1) := by decide +kernel
theorem dX2_next_1 : decode cX2_next 1 = .ok (.iload_n 1, 1) := by decide +kernel
theorem dX2_next_2 : decode cX2_next 2 = .ok (.invokevirtual 56, 3) := by decide +kernel
theorem dX2_next_5 : decode cX2_next 5 = .ok (.istore_n 2, 1) := by decide +kernel
theorem dX2_next_6 : decode cX2_next 6 = .ok (.aload_n 0, 1) := by decide +kernel
theorem dX2_next_7 : decode cX2_next 7 = .ok (.getfield 13, 3) := by decide +kernel
theorem dX2_next_10 : decode cX2_next 10 = .ok (.iload_n 1, 1) := by decide +kernel
theorem dX2_next_11 : decode cX2_next 11 = .ok (.iaload, 1) := by decide +kernel
theorem dX2_next_12 : decode cX2_next 12 = .ok (.ifCond .ne 30, 3) := by decide +kernel
theorem dX2_next_15 : decode cX2_next 15 = .ok (.aload_n 0, 1) := by decide +kernel
theorem dX2_next_16 : decode cX2_next 16 = .ok (.iload_n 1, 1) := by decide +kernel
theorem dX2_next_17 : decode cX2_next 17 = .ok (.invokevirtual 60, 3) := by decide +kernel
theorem dX2_next_20 : decode cX2_next 20 = .ok (.istore_n 3, 1) := by decide +kernel
theorem dX2_next_21 : decode cX2_next 21 = .ok (.iload_n 3, 1) := by decide +kernel
theorem dX2_next_22 : decode cX2_next 22 = .ok (.iconst (-1), 1) := by decide +kernel
theorem dX2_next_23 : decode cX2_next 23 = .ok (.if_icmp .eq 13, 3) := by decide +kernel
theorem dX2_next_26 : decode cX2_next 26 = .ok (.aload_n 0, 1) := by decide +kernel
theorem dX2_next_27 : decode cX2_next 27 = .ok (.iload_n 3, 1) := by decide +kernel
theorem dX2_next_28 : decode cX2_next 28 = .ok (.iconst 2, 1) := by decide +kernel
theorem dX2_next_29 : decode cX2_next 29 = .ok (.invokevirtual 45, 3) := by decide +kernel
theorem dX2_next_32 : decode cX2_next 32 = .ok (.iload_n 2, 1) := by decide +kernel
theorem dX2_next_33 : decode cX2_next 33 = .ok (.if_icmp .le 7, 3) := by decide +kernel
theorem dX2_next_36 : decode cX2_next 36 = .ok (.iconst (-1), 1) := by decide +kernel
theorem dX2_next_37 : decode cX2_next 37 = .ok (.goto 4, 3) := by decide +kernel
theorem dX2_next_40 : decode cX2_next 40 = .ok (.iload_n 3, 1) := by decide +kernel
theorem dX2_next_41 : decode cX2_next 41 = .ok (.ireturn, 1) := by decide +kernel
theorem dX2_next_42 : decode cX2_next 42 = .ok (.iconst (-1), 1) := by decide +kernel
theorem dX2_next_43 : decode cX2_next 43 = .ok (.istore_n 3, 1) := by decide +kernel
theorem dX2_next_44 : decode cX2_next 44 = .ok (.iconst 0, 1) := by decide +kernel
theorem dX2_next_45 : decode cX2_next 45 = .ok (.istore 4, 2) := by decide +kernel
theorem dX2_next_47 : decode cX2_next 47 = .ok (.iload 4, 2) := by decide +kernel
theorem dX2_next_49 : decode cX2_next 49 = .ok (.aload_n 0, 1) := by decide +kernel
theorem dX2_next_50 : decode cX2_next 50 = .ok (.getfield 36, 3) := by decide +kernel
theorem dX2_next_53 : decode cX2_next 53 = .ok (.if_icmp .ge 87, 3) := by decide +kernel
theorem dX2_next_56 : decode cX2_next 56 = .ok (.aload_n 0, 1) := by decide +kernel
theorem dX2_next_57 : decode cX2_next 57 = .ok (.iload 4, 2) := by decide +kernel
theorem dX2_next_59 : decode cX2_next 59 = .ok (.iload_n 1, 1) := by decide +kernel
theorem dX2_next_60 : decode cX2_next 60 = .ok (.invokevirtual 53, 3) := by decide +kernel
theorem dX2_next_63 : decode cX2_next 63 = .ok (.ifCond .eq 71, 3) := by decide +kernel
theorem dX2_next_66 : decode cX2_next 66 = .ok (.aload_n 0, 1) := by decide +kernel
theorem dX2_next_67 : decode cX2_next 67 = .ok (.iload 4, 2) := by decide +kernel
theorem dX2_next_69 : decode cX2_next 69 = .ok (.iconst 2, 1) := by decide +kernel
theorem dX2_next_70 : decode cX2_next 70 = .ok (.invokevirtual 45, 3) := by decide +kernel
theorem dX2_next_73 : decode cX2_next 73 = .ok (.iload_n 2, 1) := by decide +kernel
theorem dX2_next_74 : decode cX2_next 74 = .ok (.if_icmp .le 6, 3) := by decide +kernel
theorem dX2_next_77 : decode cX2_next 77 = .ok (.goto 57, 3) := by decide +kernel
theorem dX2_next_80 : decode cX2_next 80 = .ok (.iload_n 3, 1) := by decide +kernel
theorem dX2_next_81 : decode cX2_next 81 = .ok (.iconst (-1), 1) := by decide +kernel
theorem dX2_next_82 : decode cX2_next 82 = .ok (.if_icmp .eq 49, 3) := by decide +kernel
theorem dX2_next_85 : decode cX2_next 85 = .ok (.aload_n 0, 1) := by decide +kernel
theorem dX2_next_86 : decode cX2_next 86 = .ok (.iload 4, 2) := by decide +kernel
theorem dX2_next_88 : decode cX2_next 88 = .ok (.invokevirtual 63, 3) := by decide +kernel
theorem dX2_next_91 : decode cX2_next 91 = .ok (.aload_n 0, 1) := by decide +kernel
theorem dX2_next_92 : decode cX2_next 92 = .ok (.iload_n 3, 1) := by decide +kernel
theorem dX2_next_93 : decode cX2_next 93 = .ok (.invokevirtual 63, 3) := by decide +kernel
theorem dX2_next_96 : decode cX2_next 96 = .ok (.if_icmp .gt 35, 3) := by decide +kernel
theorem dX2_next_99 : decode cX2_next 99 = .ok (.aload_n 0, 1) := by decide +kernel
theorem dX2_next_100 : decode cX2_next 100 = .ok (.iload 4, 2) := by decide +kernel
theorem dX2_next_102 : decode cX2_next 102 = .ok (.invokevirtual 63, 3) := by decide +kernel
theorem dX2_next_105 : decode cX2_next 105 = .ok (.aload_n 0, 1) := by decide +kernel
theorem dX2_next_106 : decode cX2_next 106 = .ok (.iload_n 3, 1) := by decide +kernel
theorem dX2_next_107 : decode cX2_next 107 = .ok (.invokevirtual 63, 3) := by decide +kernel
theorem dX2_next_110 : decode cX2_next 110 = .ok (.if_icmp .ne 24, 3) := by decide +kernel
theorem dX2_next_113 : decode cX2_next 113 = .ok (.aload_n 0, 1) := by decide +kernel
theorem dX2_next_114 : decode cX2_next 114 = .ok (.iload 4, 2) := by decide +kernel
theorem dX2_next_116 : decode cX2_next 116 = .ok (.bipush 7, 2) := by decide +kernel
theorem dX2_next_118 : decode cX2_next 118 = .ok (.invokevirtual 45, 3) := by decide +kernel
theorem dX2_next_121 : decode cX2_next 121 = .ok (.aload_n 0, 1) := by decide +kernel
theorem dX2_next_122 : decode cX2_next 122 = .ok (.iload_n 3, 1) := by decide +kernel
theorem dX2_next_123 : decode cX2_next 123 = .ok (.bipush 7, 2) := by decide +kernel
theorem dX2_next_125 : decode cX2_next 125 = .ok (.invokevirtual 45, 3) := by decide +kernel
theorem dX2_next_128 : decode cX2_next 128 = .ok (.if_icmp .ge 6, 3) := by decide +kernel
theorem dX2_next_131 : decode cX2_next 131 = .ok (.iload 4, 2) := by decide +kernel
theorem dX2_next_133 : decode cX2_next 133 = .ok (.istore_n 3, 1) := by decide +kernel
theorem dX2_next_134 : decode cX2_next 134 = .ok (.iinc 4 1, 3) := by decide +kernel
theorem dX2_next_137 : decode cX2_next 137 = .ok (.goto (-90), 3) := by decide +kernel
theorem dX2_next_140 : decode cX2_next 140 = .ok (.iload_n 3, 1) := by decide +kernel
theorem dX2_next_141 : decode cX2_next 141 = .ok (.ireturn, 1) := by decide +kernel
set_option maxRecDepth 20000 in
theorem ggX2_manyAt_X2_isAt : GoodIn wsX2_manyAt wsX2_isAt := goodIn_r _ [6, 7, 8, 9, 5, 10, 11, 12, 13, 14, 15, 16, 17, 18, 19, 20, 21, 22, 23] (by decide +kernel) (by decide +kernel)
set_option maxRecDepth 20000 in
theorem gX2_manyAt_X2_isAt : GoodIn wsX2_manyAt (wsV RX2 53 RX2 yX2_isAt wsX2_isAt) := goodIn_app (goodIn_of _ (by decide +kernel)) ggX2_manyAt_X2_isAt
theorem dX2_manyAt_0 : decode cX2_manyAt 0 = .ok (.iconst 0, 1) := by decide +kernel
theorem dX2_manyAt_1 : decode cX2_manyAt 1 = .ok (.istore_n 2, 1) := by decide +kernel
theorem dX2_manyAt_2 : decode cX2_manyAt 2 = .ok (.iconst 0, 1) := by decide +kernel
theorem dX2_manyAt_3 : decode cX2_manyAt 3 = .ok (.istore_n 3, 1) := by decide +kernel
theorem dX2_manyAt_4 : decode cX2_manyAt 4 = .ok (.iload_n 3, 1) := by decide +kernel
theorem dX2_manyAt_5 : decode cX2_manyAt 5 = .ok (.aload_n 0, 1) := by decide +kernel
theorem dX2_manyAt_6 : decode cX2_manyAt 6 = .ok (.getfield 36, 3) := by decide +kernel
theorem dX2_manyAt_9 : decode cX2_manyAt 9 = .ok (.if_icmp .ge 26, 3) := by decide +kernel
theorem dX2_manyAt_12 : decode cX2_manyAt 12 = .ok (.iload_n 2, 1) := by decide +kernel
theorem dX2_manyAt_13 : decode cX2_manyAt 13 = .ok (.aload_n 0, 1) := by decide +kernel
theorem dX2_manyAt_14 : decode cX2_manyAt 14 = .ok (.iload_n 3, 1) := by decide +kernel
theorem dX2_manyAt_15 : decode cX2_manyAt 15 = .ok (.iload_n 1, 1) := by decide +kernel
theorem dX2_manyAt_16 : decode cX2_manyAt 16 = .ok (.invokevirtual 53, 3) := by decide +kernel
theorem dX2_manyAt_19 : decode cX2_manyAt 19 = .ok (.ifCond .eq 7, 3) := by decide +kernel
theorem dX2_manyAt_22 : decode cX2_manyAt 22 = .ok (.iconst 1, 1) := by decide +kernel
theorem dX2_manyAt_23 : decode cX2_manyAt 23 = .ok (.goto 4, 3) := by decide +kernel
theorem dX2_manyAt_26 : decode cX2_manyAt 26 = .ok (.iconst 0, 1) := by decide +kernel
theorem dX2_manyAt_27 : decode cX2_manyAt 27 = .ok (.iadd, 1) := by decide +kernel
theorem dX2_manyAt_28 : decode cX2_manyAt 28 = .ok (.istore_n 2, 1) := by decide +kernel
theorem dX2_manyAt_29 : decode cX2_manyAt 29 = .ok (.iinc 3 1, 3) := by decide +kernel
theorem dX2_manyAt_32 : decode cX2_manyAt 32 = .ok (.goto (-28), 3) := by decide +kernel
theorem dX2_manyAt_35 : decode cX2_manyAt 35 = .ok (.iload_n 2, 1) := by decide +kernel
theorem dX2_manyAt_36 : decode cX2_manyAt 36 = .ok (.ireturn, 1) := by decide +kernel
set_option maxRecDepth 20000 in
theorem ggX2_many_X2_is : GoodIn wsX2_many wsX2_is := goodIn_r _ [6, 7, 8, 9, 5, 10, 11, 12, 13, 14, 15, 16, 17, 18, 19] (by decide +kernel) (by decide +kernel)
set_option maxRecDepth 20000 in
theorem gX2_many_X2_is : GoodIn wsX2_many (wsV RX2 49 RX2 yX2_is wsX2_is) := goodIn_app (goodIn_of _ (by decide +kernel)) ggX2_many_X2_is
theorem dX2_many_0 : decode cX2_many 0 = .ok (.iconst 0, 1) := by decide +kernel
theorem dX2_many_1 : decode cX2_many 1 = .ok (.istore_n 2, 1) := by decide +kernel
theorem dX2_many_2 : decode cX2_many 2 = .ok (.iconst 0, 1) := by decide +kernel
theorem dX2_many_3 : decode cX2_many 3 = .ok (.istore_n 3, 1) := by decide +kernel
theorem dX2_many_4 : decode cX2_many 4 = .ok (.iload_n 3, 1) := by decide +kernel
theorem dX2_many_5 : decode cX2_many 5 = .ok (.aload_n 0, 1) := by decide +kernel
theorem dX2_many_6 : decode cX2_many 6 = .ok (.getfield 36, 3) := by decide +kernel
theorem dX2_many_9 : decode cX2_many 9 = .ok (.if_icmp .ge 26, 3) := by decide +kernel
theorem dX2_many_12 : decode cX2_many 12 = .ok (.iload_n 2, 1) := by decide +kernel
theorem dX2_many_13 : decode cX2_many 13 = .ok (.aload_n 0, 1) := by decide +kernel
theorem dX2_many_14 : decode cX2_many 14 = .ok (.iload_n 3, 1) := by decide +kernel
theorem dX2_many_15 : decode cX2_many 15 = .ok (.iload_n 1, 1) := by decide +kernel
theorem dX2_many_16 : decode cX2_many 16 = .ok (.invokevirtual 49, 3) := by decide +kernel
theorem dX2_many_19 : decode cX2_many 19 = .ok (.ifCond .eq 7, 3) := by decide +kernel
theorem dX2_many_22 : decode cX2_many 22 = .ok (.iconst 1, 1) := by decide +kernel
theorem dX2_many_23 : decode cX2_many 23 = .ok (.goto 4, 3) := by decide +kernel
theorem dX2_many_26 : decode cX2_many 26 = .ok (.iconst 0, 1) := by decide +kernel
theorem dX2_many_27 : decode cX2_many 27 = .ok (.iadd, 1) := by decide +kernel
theorem dX2_many_28 : decode cX2_many 28 = .ok (.istore_n 2, 1) := by decide +kernel
theorem dX2_many_29 : decode cX2_many 29 = .ok (.iinc 3 1, 3) := by decide +kernel
theorem dX2_many_32 : decode cX2_many 32 = .ok (.goto (-28), 3) := by decide +kernel
theorem dX2_many_35 : decode cX2_many 35 = .ok (.iload_n 2, 1) := by decide +kernel
theorem dX2_many_36 : decode cX2_many 36 = .ok (.ireturn, 1) := by decide +kernel
set_option maxRecDepth 20000 in
theorem ggX2_stay_X2_is : GoodIn wsX2_stay wsX2_is := goodIn_r _ [5, 6, 7, 8, 4, 9, 10, 15, 16, 17, 18, 19, 20, 21, 22] (by decide +kernel) (by decide +kernel)
set_option maxRecDepth 20000 in
theorem gX2_stay_X2_is : GoodIn wsX2_stay (wsV RX2 49 RX2 yX2_is wsX2_is) := goodIn_app (goodIn_of _ (by decide +kernel)) ggX2_stay_X2_is
set_option maxRecDepth 20000 in
theorem ggX2_stay_X2_of : GoodIn wsX2_stay wsX2_of := goodIn_r _ [9, 10, 15, 16, 17, 18, 19, 20, 21, 22] (by decide +kernel) (by decide +kernel)
set_option maxRecDepth 20000 in
theorem gX2_stay_X2_of : GoodIn wsX2_stay (wsV RX2 45 RX2 yX2_of wsX2_of) := goodIn_app (goodIn_of _ (by decide +kernel)) ggX2_stay_X2_of
set_option maxRecDepth 20000 in
theorem ggX2_stay_X2_let : GoodIn wsX2_stay wsX2_let := goodIn_r _ [14, 10, 15, 16, 17, 18, 19, 20, 21, 22] (by decide +kernel) (by decide +kernel)
set_option maxRecDepth 20000 in
theorem gX2_stay_X2_let : GoodIn wsX2_stay (wsV RX2 66 RX2 yX2_let wsX2_let) := goodIn_app (goodIn_of _ (by decide +kernel)) ggX2_stay_X2_let
theorem dX2_stay_0 : decode cX2_stay 0 = .ok (.aload_n 0, 1) := by decide +kernel
theorem dX2_stay_1 : decode cX2_stay 1 = .ok (.iload_n 1, 1) := by decide +kernel
theorem dX2_stay_2 : decode cX2_stay 2 = .ok (.iconst 2, 1) := by decide +kernel
theorem dX2_stay_3 : decode cX2_stay 3 = .ok (.invokevirtual 49, 3) := by decide +kernel
theorem dX2_stay_6 : decode cX2_stay 6 = .ok (.ifCond .ne 4, 3) := by decide +kernel
theorem dX2_stay_9 : decode cX2_stay 9 = .ok (.return_, 1) := by decide +kernel
theorem dX2_stay_10 : decode cX2_stay 10 = .ok (.aload_n 0, 1) := by decide +kernel
theorem dX2_stay_11 : decode cX2_stay 11 = .ok (.iload_n 1, 1) := by decide +kernel
theorem dX2_stay_12 : decode cX2_stay 12 = .ok (.iconst 3, 1) := by decide +kernel
theorem dX2_stay_13 : decode cX2_stay 13 = .ok (.aload_n 0, 1) := by decide +kernel
theorem dX2_stay_14 : decode cX2_stay 14 = .ok (.iload_n 1, 1) := by decide +kernel
theorem dX2_stay_15 : decode cX2_stay 15 = .ok (.iconst 3, 1) := by decide +kernel
theorem dX2_stay_16 : decode cX2_stay 16 = .ok (.invokevirtual 45, 3) := by decide +kernel
theorem dX2_stay_19 : decode cX2_stay 19 = .ok (.iconst 1, 1) := by decide +kernel
theorem dX2_stay_20 : decode cX2_stay 20 = .ok (.isub, 1) := by decide +kernel
theorem dX2_stay_21 : decode cX2_stay 21 = .ok (.invokevirtual 66, 3) := by decide +kernel
theorem dX2_stay_24 : decode cX2_stay 24 = .ok (.aload_n 0, 1) := by decide +kernel
theorem dX2_stay_25 : decode cX2_stay 25 = .ok (.iload_n 1, 1) := by decide +kernel
theorem dX2_stay_26 : decode cX2_stay 26 = .ok (.iconst 3, 1) := by decide +kernel
theorem dX2_stay_27 : decode cX2_stay 27 = .ok (.invokevirtual 45, 3) := by decide +kernel
theorem dX2_stay_30 : decode cX2_stay 30 = .ok (.ifCond .ne 10, 3) := by decide +kernel
theorem dX2_stay_33 : decode cX2_stay 33 = .ok (.aload_n 0, 1) := by decide +kernel
theorem dX2_stay_34 : decode cX2_stay 34 = .ok (.iload_n 1, 1) := by decide +kernel
theorem dX2_stay_35 : decode cX2_stay 35 = .ok (.iconst 0, 1) := by decide +kernel
theorem dX2_stay_36 : decode cX2_stay 36 = .ok (.iconst 0, 1) := by decide +kernel
theorem dX2_stay_37 : decode cX2_stay 37 = .ok (.invokevirtual 66, 3) := by decide +kernel
theorem dX2_stay_40 : decode cX2_stay 40 = .ok (.return_, 1) := by decide +kernel
set_option maxRecDepth 20000 in
theorem ggX2_open_X2_next : GoodIn wsX2_open wsX2_next := goodIn_r _ [6, 7, 8, 9, 10, 11, 5, 12, 13, 14, 15, 16, 17, 18, 19, 20, 21, 1, 22, 23, 24, 25, 26, 27, 28, 29, 30, 31, 32, 33, 34, 39, 40, 41, 42, 43, 44, 45, 46] (by decide +kernel) (by decide +kernel)
set_option maxRecDepth 20000 in
theorem gX2_open_X2_next : GoodIn wsX2_open (wsV RX2 70 RX2 yX2_next wsX2_next) := goodIn_app (goodIn_of _ (by decide +kernel)) ggX2_open_X2_next
set_option maxRecDepth 20000 in
theorem ggX2_open_X2_let : GoodIn wsX2_open wsX2_let := goodIn_r _ [38, 1, 39, 40, 41, 42, 43, 44, 45, 46] (by decide +kernel) (by decide +kernel)
set_option maxRecDepth 20000 in
theorem gX2_open_X2_let : GoodIn wsX2_open (wsV RX2 66 RX2 yX2_let wsX2_let) := goodIn_app (goodIn_of _ (by decide +kernel)) ggX2_open_X2_let
theorem dX2_open_0 : decode cX2_open 0 = .ok (.aload_n 0, 1) := by decide +kernel
theorem dX2_open_1 : decode cX2_open 1 = .ok (.iload_n 1, 1) := by decide +kernel
theorem dX2_open_2 : decode cX2_open 2 = .ok (.invokevirtual 70, 3) := by decide +kernel
theorem dX2_open_5 : decode cX2_open 5 = .ok (.istore_n 2, 1) := by decide +kernel
theorem dX2_open_6 : decode cX2_open 6 = .ok (.iload_n 2, 1) := by decide +kernel
theorem dX2_open_7 : decode cX2_open 7 = .ok (.iconst (-1), 1) := by decide +kernel
theorem dX2_open_8 : decode cX2_open 8 = .ok (.if_icmp .eq 29, 3) := by decide +kernel
theorem dX2_open_11 : decode cX2_open 11 = .ok (.aload_n 0, 1) := by decide +kernel
theorem dX2_open_12 : decode cX2_open 12 = .ok (.iload_n 2, 1) := by decide +kernel
theorem dX2_open_13 : decode cX2_open 13 = .ok (.iconst 0, 1) := by decide +kernel
theorem dX2_open_14 : decode cX2_open 14 = .ok (.iconst 2, 1) := by decide +kernel
theorem dX2_open_15 : decode cX2_open 15 = .ok (.invokevirtual 66, 3) := by decide +kernel
theorem dX2_open_18 : decode cX2_open 18 = .ok (.aload_n 0, 1) := by decide +kernel
theorem dX2_open_19 : decode cX2_open 19 = .ok (.getfield 19, 3) := by decide +kernel
theorem dX2_open_22 : decode cX2_open 22 = .ok (.iconst 1, 1) := by decide +kernel
theorem dX2_open_23 : decode cX2_open 23 = .ok (.dup2, 1) := by decide +kernel
theorem dX2_open_24 : decode cX2_open 24 = .ok (.iaload, 1) := by decide +kernel
theorem dX2_open_25 : decode cX2_open 25 = .ok (.iconst 1, 1) := by decide +kernel
theorem dX2_open_26 : decode cX2_open 26 = .ok (.iadd, 1) := by decide +kernel
theorem dX2_open_27 : decode cX2_open 27 = .ok (.iastore, 1) := by decide +kernel
theorem dX2_open_28 : decode cX2_open 28 = .ok (.aload_n 0, 1) := by decide +kernel
theorem dX2_open_29 : decode cX2_open 29 = .ok (.iload_n 1, 1) := by decide +kernel
theorem dX2_open_30 : decode cX2_open 30 = .ok (.invokevirtual 70, 3) := by decide +kernel
theorem dX2_open_33 : decode cX2_open 33 = .ok (.istore_n 2, 1) := by decide +kernel
theorem dX2_open_34 : decode cX2_open 34 = .ok (.goto (-28), 3) := by decide +kernel
theorem dX2_open_37 : decode cX2_open 37 = .ok (.return_, 1) := by decide +kernel
set_option maxRecDepth 20000 in
theorem ggX2_waitOn_X2_is : GoodIn wsX2_waitOn wsX2_is := goodIn_r _ [6, 7, 8, 9, 5, 10, 1, 15, 16, 17, 18, 19, 20, 21, 22] (by decide +kernel) (by decide +kernel)
set_option maxRecDepth 20000 in
theorem gX2_waitOn_X2_is : GoodIn wsX2_waitOn (wsV RX2 49 RX2 yX2_is wsX2_is) := goodIn_app (goodIn_of _ (by decide +kernel)) ggX2_waitOn_X2_is
set_option maxRecDepth 20000 in
theorem ggX2_waitOn_X2_of : GoodIn wsX2_waitOn wsX2_of := goodIn_r _ [10, 1, 15, 16, 17, 18, 19, 20, 21, 22] (by decide +kernel) (by decide +kernel)
set_option maxRecDepth 20000 in
theorem gX2_waitOn_X2_of : GoodIn wsX2_waitOn (wsV RX2 45 RX2 yX2_of wsX2_of) := goodIn_app (goodIn_of _ (by decide +kernel)) ggX2_waitOn_X2_of
set_option maxRecDepth 20000 in
theorem ggX2_waitOn_X2_let : GoodIn wsX2_waitOn wsX2_let := goodIn_r _ [14, 1, 15, 16, 17, 18, 19, 20, 21, 22] (by decide +kernel) (by decide +kernel)
set_option maxRecDepth 20000 in
theorem gX2_waitOn_X2_let : GoodIn wsX2_waitOn (wsV RX2 66 RX2 yX2_let wsX2_let) := goodIn_app (goodIn_of _ (by decide +kernel)) ggX2_waitOn_X2_let
theorem dX2_waitOn_0 : decode cX2_waitOn 0 = .ok (.aload_n 0, 1) := by decide +kernel
theorem dX2_waitOn_1 : decode cX2_waitOn 1 = .ok (.iload_n 1, 1) := by decide +kernel
theorem dX2_waitOn_2 : decode cX2_waitOn 2 = .ok (.iconst 1, 1) := by decide +kernel
theorem dX2_waitOn_3 : decode cX2_waitOn 3 = .ok (.invokevirtual 49, 3) := by decide +kernel
theorem dX2_waitOn_6 : decode cX2_waitOn 6 = .ok (.ifCond .ne 4, 3) := by decide +kernel
theorem dX2_waitOn_9 : decode cX2_waitOn 9 = .ok (.return_, 1) := by decide +kernel
theorem dX2_waitOn_10 : decode cX2_waitOn 10 = .ok (.aload_n 0, 1) := by decide +kernel
theorem dX2_waitOn_11 : decode cX2_waitOn 11 = .ok (.iload_n 1, 1) := by decide +kernel
theorem dX2_waitOn_12 : decode cX2_waitOn 12 = .ok (.iconst 5, 1) := by decide +kernel
theorem dX2_waitOn_13 : decode cX2_waitOn 13 = .ok (.aload_n 0, 1) := by decide +kernel
theorem dX2_waitOn_14 : decode cX2_waitOn 14 = .ok (.iload_n 1, 1) := by decide +kernel
theorem dX2_waitOn_15 : decode cX2_waitOn 15 = .ok (.iconst 5, 1) := by decide +kernel
theorem dX2_waitOn_16 : decode cX2_waitOn 16 = .ok (.invokevirtual 45, 3) := by decide +kernel
theorem dX2_waitOn_19 : decode cX2_waitOn 19 = .ok (.iconst 1, 1) := by decide +kernel
theorem dX2_waitOn_20 : decode cX2_waitOn 20 = .ok (.iadd, 1) := by decide +kernel
theorem dX2_waitOn_21 : decode cX2_waitOn 21 = .ok (.invokevirtual 66, 3) := by decide +kernel
theorem dX2_waitOn_24 : decode cX2_waitOn 24 = .ok (.aload_n 0, 1) := by decide +kernel
theorem dX2_waitOn_25 : decode cX2_waitOn 25 = .ok (.iload_n 1, 1) := by decide +kernel
theorem dX2_waitOn_26 : decode cX2_waitOn 26 = .ok (.bipush 6, 2) := by decide +kernel
theorem dX2_waitOn_28 : decode cX2_waitOn 28 = .ok (.aload_n 0, 1) := by decide +kernel
theorem dX2_waitOn_29 : decode cX2_waitOn 29 = .ok (.iload_n 1, 1) := by decide +kernel
theorem dX2_waitOn_30 : decode cX2_waitOn 30 = .ok (.bipush 6, 2) := by decide +kernel
theorem dX2_waitOn_32 : decode cX2_waitOn 32 = .ok (.invokevirtual 45, 3) := by decide +kernel
theorem dX2_waitOn_35 : decode cX2_waitOn 35 = .ok (.iconst 1, 1) := by decide +kernel
theorem dX2_waitOn_36 : decode cX2_waitOn 36 = .ok (.iadd, 1) := by decide +kernel
theorem dX2_waitOn_37 : decode cX2_waitOn 37 = .ok (.invokevirtual 66, 3) := by decide +kernel
theorem dX2_waitOn_40 : decode cX2_waitOn 40 = .ok (.aload_n 0, 1) := by decide +kernel
theorem dX2_waitOn_41 : decode cX2_waitOn 41 = .ok (.iload_n 1, 1) := by decide +kernel
theorem dX2_waitOn_42 : decode cX2_waitOn 42 = .ok (.iconst 5, 1) := by decide +kernel
theorem dX2_waitOn_43 : decode cX2_waitOn 43 = .ok (.invokevirtual 45, 3) := by decide +kernel
theorem dX2_waitOn_46 : decode cX2_waitOn 46 = .ok (.aload_n 0, 1) := by decide +kernel
theorem dX2_waitOn_47 : decode cX2_waitOn 47 = .ok (.iload_n 1, 1) := by decide +kernel
theorem dX2_waitOn_48 : decode cX2_waitOn 48 = .ok (.iconst 4, 1) := by decide +kernel
theorem dX2_waitOn_49 : decode cX2_waitOn 49 = .ok (.invokevirtual 45, 3) := by decide +kernel
theorem dX2_waitOn_52 : decode cX2_waitOn 52 = .ok (.if_icmp .ge 4, 3) := by decide +kernel
theorem dX2_waitOn_55 : decode cX2_waitOn 55 = .ok (.return_, 1) := by decide +kernel
theorem dX2_waitOn_56 : decode cX2_waitOn 56 = .ok (.aload_n 0, 1) := by decide +kernel
theorem dX2_waitOn_57 : decode cX2_waitOn 57 = .ok (.iload_n 1, 1) := by decide +kernel
theorem dX2_waitOn_58 : decode cX2_waitOn 58 = .ok (.iconst 0, 1) := by decide +kernel
theorem dX2_waitOn_59 : decode cX2_waitOn 59 = .ok (.iconst 0, 1) := by decide +kernel
theorem dX2_waitOn_60 : decode cX2_waitOn 60 = .ok (.invokevirtual 66, 3) := by decide +kernel
theorem dX2_waitOn_63 : decode cX2_waitOn 63 = .ok (.aload_n 0, 1) := by decide +kernel
theorem dX2_waitOn_64 : decode cX2_waitOn 64 = .ok (.getfield 19, 3) := by decide +kernel
theorem dX2_waitOn_67 : decode cX2_waitOn 67 = .ok (.iconst 2, 1) := by decide +kernel
theorem dX2_waitOn_68 : decode cX2_waitOn 68 = .ok (.dup2, 1) := by decide +kernel
theorem dX2_waitOn_69 : decode cX2_waitOn 69 = .ok (.iaload, 1) := by decide +kernel
theorem dX2_waitOn_70 : decode cX2_waitOn 70 = .ok (.iconst 1, 1) := by decide +kernel
theorem dX2_waitOn_71 : decode cX2_waitOn 71 = .ok (.iadd, 1) := by decide +kernel
theorem dX2_waitOn_72 : decode cX2_waitOn 72 = .ok (.iastore, 1) := by decide +kernel
theorem dX2_waitOn_73 : decode cX2_waitOn 73 = .ok (.return_, 1) := by decide +kernel
set_option maxRecDepth 20000 in
theorem ggX2_minuteOn_X2_stay : GoodIn wsX2_minuteOn wsX2_stay := goodIn_r _ [8, 9, 10, 11, 7, 12, 13, 14, 15, 16, 3, 17, 18, 19, 20, 52, 53, 54, 55, 56, 57, 58, 59] (by decide +kernel) (by decide +kernel)
set_option maxRecDepth 20000 in
theorem gX2_minuteOn_X2_stay : GoodIn wsX2_minuteOn (wsV RX2 73 RX2 yX2_stay wsX2_stay) := goodIn_app (goodIn_of _ (by decide +kernel)) ggX2_minuteOn_X2_stay
set_option maxRecDepth 20000 in
theorem ggX2_minuteOn_X2_open : GoodIn wsX2_minuteOn wsX2_open := goodIn_r _ [24, 3, 25, 26, 27, 7, 28, 29, 1, 30, 31, 32, 33, 34, 9, 10, 11, 12, 13, 14, 15, 16, 35, 36, 37, 38, 39, 40, 41, 42, 43, 44, 45, 46, 47, 17, 18, 19, 20, 52, 53, 54, 55, 56, 57, 58, 59] (by decide +kernel) (by decide +kernel)
set_option maxRecDepth 20000 in
theorem gX2_minuteOn_X2_open : GoodIn wsX2_minuteOn (wsV RX2 77 RX2 yX2_open wsX2_open) := goodIn_app (goodIn_of _ (by decide +kernel)) ggX2_minuteOn_X2_open
set_option maxRecDepth 20000 in
theorem ggX2_minuteOn_X2_waitOn : GoodIn wsX2_minuteOn wsX2_waitOn := goodIn_r _ [51, 3, 9, 10, 11, 7, 12, 13, 14, 15, 16, 17, 18, 19, 20, 52, 53, 54, 55, 56, 57, 58, 59] (by decide +kernel) (by decide +kernel)
set_option maxRecDepth 20000 in
theorem gX2_minuteOn_X2_waitOn : GoodIn wsX2_minuteOn (wsV RX2 80 RX2 yX2_waitOn wsX2_waitOn) := goodIn_app (goodIn_of _ (by decide +kernel)) ggX2_minuteOn_X2_waitOn
theorem dX2_minuteOn_0 : decode cX2_minuteOn 0 = .ok (.iconst 0, 1) := by decide +kernel
theorem dX2_minuteOn_1 : decode cX2_minuteOn 1 = .ok (.istore_n 1, 1) := by decide +kernel
theorem dX2_minuteOn_2 : decode cX2_minuteOn 2 = .ok (.iload_n 1, 1) := by decide +kernel
theorem dX2_minuteOn_3 : decode cX2_minuteOn 3 = .ok (.aload_n 0, 1) := by decide +kernel
theorem dX2_minuteOn_4 : decode cX2_minuteOn 4 = .ok (.getfield 36, 3) := by decide +kernel
theorem dX2_minuteOn_7 : decode cX2_minuteOn 7 = .ok (.if_icmp .ge 14, 3) := by decide +kernel
theorem dX2_minuteOn_10 : decode cX2_minuteOn 10 = .ok (.aload_n 0, 1) := by decide +kernel
theorem dX2_minuteOn_11 : decode cX2_minuteOn 11 = .ok (.iload_n 1, 1) := by decide +kernel
theorem dX2_minuteOn_12 : decode cX2_minuteOn 12 = .ok (.invokevirtual 73, 3) := by decide +kernel
theorem dX2_minuteOn_15 : decode cX2_minuteOn 15 = .ok (.iinc 1 1, 3) := by decide +kernel
theorem dX2_minuteOn_18 : decode cX2_minuteOn 18 = .ok (.goto (-16), 3) := by decide +kernel
theorem dX2_minuteOn_21 : decode cX2_minuteOn 21 = .ok (.iconst 0, 1) := by decide +kernel
theorem dX2_minuteOn_22 : decode cX2_minuteOn 22 = .ok (.istore_n 1, 1) := by decide +kernel
theorem dX2_minuteOn_23 : decode cX2_minuteOn 23 = .ok (.iload_n 1, 1) := by decide +kernel
theorem dX2_minuteOn_24 : decode cX2_minuteOn 24 = .ok (.aload_n 0, 1) := by decide +kernel
theorem dX2_minuteOn_25 : decode cX2_minuteOn 25 = .ok (.getfield 29, 3) := by decide +kernel
theorem dX2_minuteOn_28 : decode cX2_minuteOn 28 = .ok (.if_icmp .ge 14, 3) := by decide +kernel
theorem dX2_minuteOn_31 : decode cX2_minuteOn 31 = .ok (.aload_n 0, 1) := by decide +kernel
theorem dX2_minuteOn_32 : decode cX2_minuteOn 32 = .ok (.iload_n 1, 1) := by decide +kernel
theorem dX2_minuteOn_33 : decode cX2_minuteOn 33 = .ok (.invokevirtual 77, 3) := by decide +kernel
theorem dX2_minuteOn_36 : decode cX2_minuteOn 36 = .ok (.iinc 1 1, 3) := by decide +kernel
theorem dX2_minuteOn_39 : decode cX2_minuteOn 39 = .ok (.goto (-16), 3) := by decide +kernel
theorem dX2_minuteOn_42 : decode cX2_minuteOn 42 = .ok (.iconst 0, 1) := by decide +kernel
theorem dX2_minuteOn_43 : decode cX2_minuteOn 43 = .ok (.istore_n 1, 1) := by decide +kernel
theorem dX2_minuteOn_44 : decode cX2_minuteOn 44 = .ok (.iload_n 1, 1) := by decide +kernel
theorem dX2_minuteOn_45 : decode cX2_minuteOn 45 = .ok (.aload_n 0, 1) := by decide +kernel
theorem dX2_minuteOn_46 : decode cX2_minuteOn 46 = .ok (.getfield 36, 3) := by decide +kernel
theorem dX2_minuteOn_49 : decode cX2_minuteOn 49 = .ok (.if_icmp .ge 14, 3) := by decide +kernel
theorem dX2_minuteOn_52 : decode cX2_minuteOn 52 = .ok (.aload_n 0, 1) := by decide +kernel
theorem dX2_minuteOn_53 : decode cX2_minuteOn 53 = .ok (.iload_n 1, 1) := by decide +kernel
theorem dX2_minuteOn_54 : decode cX2_minuteOn 54 = .ok (.invokevirtual 80, 3) := by decide +kernel
theorem dX2_minuteOn_57 : decode cX2_minuteOn 57 = .ok (.iinc 1 1, 3) := by decide +kernel
theorem dX2_minuteOn_60 : decode cX2_minuteOn 60 = .ok (.goto (-16), 3) := by decide +kernel
theorem dX2_minuteOn_63 : decode cX2_minuteOn 63 = .ok (.aload_n 0, 1) := by decide +kernel
theorem dX2_minuteOn_64 : decode cX2_minuteOn 64 = .ok (.getfield 19, 3) := by decide +kernel
theorem dX2_minuteOn_67 : decode cX2_minuteOn 67 = .ok (.iconst 0, 1) := by decide +kernel
theorem dX2_minuteOn_68 : decode cX2_minuteOn 68 = .ok (.dup2, 1) := by decide +kernel
theorem dX2_minuteOn_69 : decode cX2_minuteOn 69 = .ok (.iaload, 1) := by decide +kernel
theorem dX2_minuteOn_70 : decode cX2_minuteOn 70 = .ok (.iconst 1, 1) := by decide +kernel
theorem dX2_minuteOn_71 : decode cX2_minuteOn 71 = .ok (.iadd, 1) := by decide +kernel
theorem dX2_minuteOn_72 : decode cX2_minuteOn 72 = .ok (.iastore, 1) := by decide +kernel
theorem dX2_minuteOn_73 : decode cX2_minuteOn 73 = .ok (.return_, 1) := by decide +kernel
set_option maxRecDepth 20000 in
theorem ggX2_minutesOn_X2_minuteOn : GoodIn wsX2_minutesOn wsX2_minuteOn := goodIn_r _ [5, 6, 7, 8, 9, 10, 11, 4, 12, 13, 14, 15, 16, 17, 18, 19, 20, 21, 22, 23, 24, 25, 26, 27, 28, 29, 30, 31, 32, 33, 34, 35, 36, 37, 38, 39, 40, 41, 42, 43, 44, 45, 46, 47, 48, 49, 50, 51, 52, 53, 54, 55, 56, 57, 58, 59, 60, 61, 62, 63] (by decide +kernel) (by decide +kernel)
set_option maxRecDepth 20000 in
theorem gX2_minutesOn_X2_minuteOn : GoodIn wsX2_minutesOn (wsV RX2 83 RX2 yX2_minuteOn wsX2_minuteOn) := goodIn_app (goodIn_of _ (by decide +kernel)) ggX2_minutesOn_X2_minuteOn
theorem dX2_minutesOn_0 : decode cX2_minutesOn 0 = .ok (.iconst 0, 1) := by decide +kernel
theorem dX2_minutesOn_1 : decode cX2_minutesOn 1 = .ok (.istore_n 2, 1) := by decide +kernel
theorem dX2_minutesOn_2 : decode cX2_minutesOn 2 = .ok (.iload_n 2, 1) := by decide +kernel
theorem dX2_minutesOn_3 : decode cX2_minutesOn 3 = .ok (.iload_n 1, 1) := by decide +kernel
theorem dX2_minutesOn_4 : decode cX2_minutesOn 4 = .ok (.if_icmp .ge 13, 3) := by decide +kernel
theorem dX2_minutesOn_7 : decode cX2_minutesOn 7 = .ok (.aload_n 0, 1) := by decide +kernel
theorem dX2_minutesOn_8 : decode cX2_minutesOn 8 = .ok (.invokevirtual 83, 3) := by decide +kernel
theorem dX2_minutesOn_11 : decode cX2_minutesOn 11 = .ok (.iinc 2 1, 3) := by decide +kernel
theorem dX2_minutesOn_14 : decode cX2_minutesOn 14 = .ok (.goto (-12), 3) := by decide +kernel
theorem dX2_minutesOn_17 : decode cX2_minutesOn 17 = .ok (.return_, 1) := by decide +kernel
set_option maxRecDepth 20000 in
theorem ggX2_addGate_X2_isIn : GoodIn wsX2_addGate wsX2_isIn := goodIn_r _ [8] (by decide +kernel) (by decide +kernel)
set_option maxRecDepth 20000 in
theorem gX2_addGate_X2_isIn : GoodIn wsX2_addGate (va_wsS RX2 32 yX2_isIn wsX2_isIn) := goodIn_app (goodIn_of _ (by decide +kernel)) ggX2_addGate_X2_isIn
set_option maxRecDepth 20000 in
theorem ggX2_addGate_X2_no : GoodIn wsX2_addGate wsX2_no := goodIn_r _ [12, 1, 13, 14, 15, 16, 17, 18, 19, 20] (by decide +kernel) (by decide +kernel)
set_option maxRecDepth 20000 in
theorem gX2_addGate_X2_no : GoodIn wsX2_addGate (wsV RX2 86 RX2 yX2_no wsX2_no) := goodIn_app (goodIn_of _ (by decide +kernel)) ggX2_addGate_X2_no
theorem dX2_addGate_0 : decode cX2_addGate 0 = .ok (.aload_n 0, 1) := by decide +kernel
theorem dX2_addGate_1 : decode cX2_addGate 1 = .ok (.iconst 0, 1) := by decide +kernel
theorem dX2_addGate_2 : decode cX2_addGate 2 = .ok (.putfield 25, 3) := by decide +kernel
theorem dX2_addGate_5 : decode cX2_addGate 5 = .ok (.iload_n 1, 1) := by decide +kernel
theorem dX2_addGate_6 : decode cX2_addGate 6 = .ok (.iconst 1, 1) := by decide +kernel
theorem dX2_addGate_7 : decode cX2_addGate 7 = .ok (.bipush 9, 2) := by decide +kernel
theorem dX2_addGate_9 : decode cX2_addGate 9 = .ok (.invokestatic 32, 3) := by decide +kernel
theorem dX2_addGate_12 : decode cX2_addGate 12 = .ok (.ifCond .eq 12, 3) := by decide +kernel
theorem dX2_addGate_15 : decode cX2_addGate 15 = .ok (.iload_n 2, 1) := by decide +kernel
theorem dX2_addGate_16 : decode cX2_addGate 16 = .ok (.iconst 0, 1) := by decide +kernel
theorem dX2_addGate_17 : decode cX2_addGate 17 = .ok (.iconst 1, 1) := by decide +kernel
theorem dX2_addGate_18 : decode cX2_addGate 18 = .ok (.invokestatic 32, 3) := by decide +kernel
theorem dX2_addGate_21 : decode cX2_addGate 21 = .ok (.ifCond .ne 9, 3) := by decide +kernel
theorem dX2_addGate_24 : decode cX2_addGate 24 = .ok (.aload_n 0, 1) := by decide +kernel
theorem dX2_addGate_25 : decode cX2_addGate 25 = .ok (.iconst 1, 1) := by decide +kernel
theorem dX2_addGate_26 : decode cX2_addGate 26 = .ok (.invokevirtual 86, 3) := by decide +kernel
theorem dX2_addGate_29 : decode cX2_addGate 29 = .ok (.ireturn, 1) := by decide +kernel
theorem dX2_addGate_30 : decode cX2_addGate 30 = .ok (.aload_n 0, 1) := by decide +kernel
theorem dX2_addGate_31 : decode cX2_addGate 31 = .ok (.getfield 29, 3) := by decide +kernel
theorem dX2_addGate_34 : decode cX2_addGate 34 = .ok (.iconst 4, 1) := by decide +kernel
theorem dX2_addGate_35 : decode cX2_addGate 35 = .ok (.if_icmp .ne 9, 3) := by decide +kernel
theorem dX2_addGate_38 : decode cX2_addGate 38 = .ok (.aload_n 0, 1) := by decide +kernel
theorem dX2_addGate_39 : decode cX2_addGate 39 = .ok (.iconst 2, 1) := by decide +kernel
theorem dX2_addGate_40 : decode cX2_addGate 40 = .ok (.invokevirtual 86, 3) := by decide +kernel
theorem dX2_addGate_43 : decode cX2_addGate 43 = .ok (.ireturn, 1) := by decide +kernel
theorem dX2_addGate_44 : decode cX2_addGate 44 = .ok (.aload_n 0, 1) := by decide +kernel
theorem dX2_addGate_45 : decode cX2_addGate 45 = .ok (.getfield 9, 3) := by decide +kernel
theorem dX2_addGate_48 : decode cX2_addGate 48 = .ok (.aload_n 0, 1) := by decide +kernel
theorem dX2_addGate_49 : decode cX2_addGate 49 = .ok (.getfield 29, 3) := by decide +kernel
theorem dX2_addGate_52 : decode cX2_addGate 52 = .ok (.iload_n 1, 1) := by decide +kernel
theorem dX2_addGate_53 : decode cX2_addGate 53 = .ok (.iastore, 1) := by decide +kernel
theorem dX2_addGate_54 : decode cX2_addGate 54 = .ok (.aload_n 0, 1) := by decide +kernel
theorem dX2_addGate_55 : decode cX2_addGate 55 = .ok (.getfield 13, 3) := by decide +kernel
theorem dX2_addGate_58 : decode cX2_addGate 58 = .ok (.aload_n 0, 1) := by decide +kernel
theorem dX2_addGate_59 : decode cX2_addGate 59 = .ok (.getfield 29, 3) := by decide +kernel
theorem dX2_addGate_62 : decode cX2_addGate 62 = .ok (.iload_n 2, 1) := by decide +kernel
theorem dX2_addGate_63 : decode cX2_addGate 63 = .ok (.iastore, 1) := by decide +kernel
theorem dX2_addGate_64 : decode cX2_addGate 64 = .ok (.aload_n 0, 1) := by decide +kernel
theorem dX2_addGate_65 : decode cX2_addGate 65 = .ok (.dup, 1) := by decide +kernel
theorem dX2_addGate_66 : decode cX2_addGate 66 = .ok (.getfield 29, 3) := by decide +kernel
theorem dX2_addGate_69 : decode cX2_addGate 69 = .ok (.iconst 1, 1) := by decide +kernel
theorem dX2_addGate_70 : decode cX2_addGate 70 = .ok (.iadd, 1) := by decide +kernel
theorem dX2_addGate_71 : decode cX2_addGate 71 = .ok (.putfield 29, 3) := by decide +kernel
theorem dX2_addGate_74 : decode cX2_addGate 74 = .ok (.aload_n 0, 1) := by decide +kernel
theorem dX2_addGate_75 : decode cX2_addGate 75 = .ok (.getfield 29, 3) := by decide +kernel
theorem dX2_addGate_78 : decode cX2_addGate 78 = .ok (.iconst 1, 1) := by decide +kernel
theorem dX2_addGate_79 : decode cX2_addGate 79 = .ok (.isub, 1) := by decide +kernel
theorem dX2_addGate_80 : decode cX2_addGate 80 = .ok (.ireturn, 1) := by decide +kernel
set_option maxRecDepth 20000 in
theorem ggX2_addGoat_X2_isIn : GoodIn wsX2_addGoat wsX2_isIn := goodIn_r _ [7] (by decide +kernel) (by decide +kernel)
set_option maxRecDepth 20000 in
theorem gX2_addGoat_X2_isIn : GoodIn wsX2_addGoat (va_wsS RX2 32 yX2_isIn wsX2_isIn) := goodIn_app (goodIn_of _ (by decide +kernel)) ggX2_addGoat_X2_isIn
set_option maxRecDepth 20000 in
theorem ggX2_addGoat_X2_no : GoodIn wsX2_addGoat wsX2_no := goodIn_r _ [11, 1, 12, 13, 14, 15, 16, 17, 18, 19] (by decide +kernel) (by decide +kernel)
set_option maxRecDepth 20000 in
theorem gX2_addGoat_X2_no : GoodIn wsX2_addGoat (wsV RX2 86 RX2 yX2_no wsX2_no) := goodIn_app (goodIn_of _ (by decide +kernel)) ggX2_addGoat_X2_no
theorem dX2_addGoat_0 : decode cX2_addGoat 0 = .ok (.aload_n 0, 1) := by decide +kernel
theorem dX2_addGoat_1 : decode cX2_addGoat 1 = .ok (.iconst 0, 1) := by decide +kernel
theorem dX2_addGoat_2 : decode cX2_addGoat 2 = .ok (.putfield 25, 3) := by decide +kernel
theorem dX2_addGoat_5 : decode cX2_addGoat 5 = .ok (.iload_n 1, 1) := by decide +kernel
theorem dX2_addGoat_6 : decode cX2_addGoat 6 = .ok (.iconst 1, 1) := by decide +kernel
theorem dX2_addGoat_7 : decode cX2_addGoat 7 = .ok (.bipush 9, 2) := by decide +kernel
theorem dX2_addGoat_9 : decode cX2_addGoat 9 = .ok (.invokestatic 32, 3) := by decide +kernel
theorem dX2_addGoat_12 : decode cX2_addGoat 12 = .ok (.ifCond .ne 9, 3) := by decide +kernel
theorem dX2_addGoat_15 : decode cX2_addGoat 15 = .ok (.aload_n 0, 1) := by decide +kernel
theorem dX2_addGoat_16 : decode cX2_addGoat 16 = .ok (.iconst 1, 1) := by decide +kernel
theorem dX2_addGoat_17 : decode cX2_addGoat 17 = .ok (.invokevirtual 86, 3) := by decide +kernel
theorem dX2_addGoat_20 : decode cX2_addGoat 20 = .ok (.ireturn, 1) := by decide +kernel
theorem dX2_addGoat_21 : decode cX2_addGoat 21 = .ok (.aload_n 0, 1) := by decide +kernel
theorem dX2_addGoat_22 : decode cX2_addGoat 22 = .ok (.getfield 36, 3) := by decide +kernel
theorem dX2_addGoat_25 : decode cX2_addGoat 25 = .ok (.bipush 12, 2) := by decide +kernel
theorem dX2_addGoat_27 : decode cX2_addGoat 27 = .ok (.if_icmp .ne 9, 3) := by decide +kernel
theorem dX2_addGoat_30 : decode cX2_addGoat 30 = .ok (.aload_n 0, 1) := by decide +kernel
theorem dX2_addGoat_31 : decode cX2_addGoat 31 = .ok (.iconst 2, 1) := by decide +kernel
theorem dX2_addGoat_32 : decode cX2_addGoat 32 = .ok (.invokevirtual 86, 3) := by decide +kernel
theorem dX2_addGoat_35 : decode cX2_addGoat 35 = .ok (.ireturn, 1) := by decide +kernel
theorem dX2_addGoat_36 : decode cX2_addGoat 36 = .ok (.aload_n 0, 1) := by decide +kernel
theorem dX2_addGoat_37 : decode cX2_addGoat 37 = .ok (.getfield 16, 3) := by decide +kernel
theorem dX2_addGoat_40 : decode cX2_addGoat 40 = .ok (.aload_n 0, 1) := by decide +kernel
theorem dX2_addGoat_41 : decode cX2_addGoat 41 = .ok (.getfield 36, 3) := by decide +kernel
theorem dX2_addGoat_44 : decode cX2_addGoat 44 = .ok (.iload_n 1, 1) := by decide +kernel
theorem dX2_addGoat_45 : decode cX2_addGoat 45 = .ok (.iastore, 1) := by decide +kernel
theorem dX2_addGoat_46 : decode cX2_addGoat 46 = .ok (.aload_n 0, 1) := by decide +kernel
theorem dX2_addGoat_47 : decode cX2_addGoat 47 = .ok (.dup, 1) := by decide +kernel
theorem dX2_addGoat_48 : decode cX2_addGoat 48 = .ok (.getfield 36, 3) := by decide +kernel
theorem dX2_addGoat_51 : decode cX2_addGoat 51 = .ok (.iconst 1, 1) := by decide +kernel
theorem dX2_addGoat_52 : decode cX2_addGoat 52 = .ok (.iadd, 1) := by decide +kernel
theorem dX2_addGoat_53 : decode cX2_addGoat 53 = .ok (.putfield 36, 3) := by decide +kernel
theorem dX2_addGoat_56 : decode cX2_addGoat 56 = .ok (.aload_n 0, 1) := by decide +kernel
theorem dX2_addGoat_57 : decode cX2_addGoat 57 = .ok (.getfield 36, 3) := by decide +kernel
theorem dX2_addGoat_60 : decode cX2_addGoat 60 = .ok (.iconst 1, 1) := by decide +kernel
theorem dX2_addGoat_61 : decode cX2_addGoat 61 = .ok (.isub, 1) := by decide +kernel
theorem dX2_addGoat_62 : decode cX2_addGoat 62 = .ok (.ireturn, 1) := by decide +kernel
set_option maxRecDepth 20000 in
theorem ggX2_write_X2_let : GoodIn wsX2_write wsX2_let := goodIn_r _ [5, 6, 7, 8, 9, 10, 11, 12, 13, 14] (by decide +kernel) (by decide +kernel)
set_option maxRecDepth 20000 in
theorem gX2_write_X2_let : GoodIn wsX2_write (wsV RX2 66 RX2 yX2_let wsX2_let) := goodIn_app (goodIn_of _ (by decide +kernel)) ggX2_write_X2_let
theorem dX2_write_0 : decode cX2_write 0 = .ok (.aload_n 0, 1) := by decide +kernel
theorem dX2_write_1 : decode cX2_write 1 = .ok (.iload_n 1, 1) := by decide +kernel
theorem dX2_write_2 : decode cX2_write 2 = .ok (.iconst 0, 1) := by decide +kernel
theorem dX2_write_3 : decode cX2_write 3 = .ok (.iload_n 2, 1) := by decide +kernel
theorem dX2_write_4 : decode cX2_write 4 = .ok (.invokevirtual 66, 3) := by decide +kernel
theorem dX2_write_7 : decode cX2_write 7 = .ok (.aload_n 0, 1) := by decide +kernel
theorem dX2_write_8 : decode cX2_write 8 = .ok (.iload_n 1, 1) := by decide +kernel
theorem dX2_write_9 : decode cX2_write 9 = .ok (.iconst 1, 1) := by decide +kernel
theorem dX2_write_10 : decode cX2_write 10 = .ok (.iload_n 3, 1) := by decide +kernel
theorem dX2_write_11 : decode cX2_write 11 = .ok (.invokevirtual 66, 3) := by decide +kernel
theorem dX2_write_14 : decode cX2_write 14 = .ok (.aload_n 0, 1) := by decide +kernel
theorem dX2_write_15 : decode cX2_write 15 = .ok (.iload_n 1, 1) := by decide +kernel
theorem dX2_write_16 : decode cX2_write 16 = .ok (.iconst 2, 1) := by decide +kernel
theorem dX2_write_17 : decode cX2_write 17 = .ok (.iload 4, 2) := by decide +kernel
theorem dX2_write_19 : decode cX2_write 19 = .ok (.invokevirtual 66, 3) := by decide +kernel
theorem dX2_write_22 : decode cX2_write 22 = .ok (.aload_n 0, 1) := by decide +kernel
theorem dX2_write_23 : decode cX2_write 23 = .ok (.iload_n 1, 1) := by decide +kernel
theorem dX2_write_24 : decode cX2_write 24 = .ok (.iconst 3, 1) := by decide +kernel
theorem dX2_write_25 : decode cX2_write 25 = .ok (.iload 5, 2) := by decide +kernel
theorem dX2_write_27 : decode cX2_write 27 = .ok (.invokevirtual 66, 3) := by decide +kernel
theorem dX2_write_30 : decode cX2_write 30 = .ok (.return_, 1) := by decide +kernel
set_option maxRecDepth 20000 in
theorem ggX2_ask_X2_isGoat : GoodIn wsX2_ask wsX2_isGoat := goodIn_r _ [8, 9, 10, 11, 7, 12, 46, 47, 48, 49, 50, 51, 52, 53] (by decide +kernel) (by decide +kernel)
set_option maxRecDepth 20000 in
theorem gX2_ask_X2_isGoat : GoodIn wsX2_ask (wsV RX2 89 RX2 yX2_isGoat wsX2_isGoat) := goodIn_app (goodIn_of _ (by decide +kernel)) ggX2_ask_X2_isGoat
set_option maxRecDepth 20000 in
theorem ggX2_ask_X2_isGate : GoodIn wsX2_ask wsX2_isGate := goodIn_r _ [16, 17, 10, 11, 7, 12, 46, 47, 48, 49, 50, 51, 52, 53] (by decide +kernel) (by decide +kernel)
set_option maxRecDepth 20000 in
theorem gX2_ask_X2_isGate : GoodIn wsX2_ask (wsV RX2 93 RX2 yX2_isGate wsX2_isGate) := goodIn_app (goodIn_of _ (by decide +kernel)) ggX2_ask_X2_isGate
set_option maxRecDepth 20000 in
theorem ggX2_ask_X2_no : GoodIn wsX2_ask wsX2_no := goodIn_r _ [21, 1, 46, 47, 48, 49, 50, 51, 52, 53] (by decide +kernel) (by decide +kernel)
set_option maxRecDepth 20000 in
theorem gX2_ask_X2_no : GoodIn wsX2_ask (wsV RX2 86 RX2 yX2_no wsX2_no) := goodIn_app (goodIn_of _ (by decide +kernel)) ggX2_ask_X2_no
set_option maxRecDepth 20000 in
theorem ggX2_ask_X2_isIn : GoodIn wsX2_ask wsX2_isIn := goodIn_r _ [12] (by decide +kernel) (by decide +kernel)
set_option maxRecDepth 20000 in
theorem gX2_ask_X2_isIn : GoodIn wsX2_ask (va_wsS RX2 32 yX2_isIn wsX2_isIn) := goodIn_app (goodIn_of _ (by decide +kernel)) ggX2_ask_X2_isIn
set_option maxRecDepth 20000 in
theorem ggX2_ask_X2_is : GoodIn wsX2_ask wsX2_is := goodIn_r _ [25, 26, 27, 28, 7, 29, 3, 46, 47, 48, 49, 50, 51, 52, 53] (by decide +kernel) (by decide +kernel)
set_option maxRecDepth 20000 in
theorem gX2_ask_X2_is : GoodIn wsX2_ask (wsV RX2 49 RX2 yX2_is wsX2_is) := goodIn_app (goodIn_of _ (by decide +kernel)) ggX2_ask_X2_is
set_option maxRecDepth 20000 in
theorem ggX2_ask_X2_write : GoodIn wsX2_ask wsX2_write := goodIn_r _ [33, 34, 35, 36, 7, 37, 3, 46, 47, 48, 49, 50, 51, 52, 53] (by decide +kernel) (by decide +kernel)
set_option maxRecDepth 20000 in
theorem gX2_ask_X2_write : GoodIn wsX2_ask (wsV RX2 96 RX2 yX2_write wsX2_write) := goodIn_app (goodIn_of _ (by decide +kernel)) ggX2_ask_X2_write
set_option maxRecDepth 20000 in
theorem ggX2_ask_X2_let : GoodIn wsX2_ask wsX2_let := goodIn_r _ [37, 3, 46, 47, 48, 49, 50, 51, 52, 53] (by decide +kernel) (by decide +kernel)
set_option maxRecDepth 20000 in
theorem gX2_ask_X2_let : GoodIn wsX2_ask (wsV RX2 66 RX2 yX2_let wsX2_let) := goodIn_app (goodIn_of _ (by decide +kernel)) ggX2_ask_X2_let
set_option maxRecDepth 20000 in
theorem ggX2_ask_X2_manyAt : GoodIn wsX2_ask wsX2_manyAt := goodIn_r _ [41, 9, 42, 43, 44, 7, 45, 22, 23, 24, 25, 26, 27, 28, 29, 3, 46, 47, 48, 49, 50, 51, 52, 53] (by decide +kernel) (by decide +kernel)
set_option maxRecDepth 20000 in
theorem gX2_ask_X2_manyAt : GoodIn wsX2_ask (wsV RX2 100 RX2 yX2_manyAt wsX2_manyAt) := goodIn_app (goodIn_of _ (by decide +kernel)) ggX2_ask_X2_manyAt
theorem dX2_ask_0 : decode cX2_ask 0 = .ok (.aload_n 0, 1) := by decide +kernel
theorem dX2_ask_1 : decode cX2_ask 1 = .ok (.iconst 0, 1) := by decide +kernel
theorem dX2_ask_2 : decode cX2_ask 2 = .ok (.putfield 25, 3) := by decide +kernel
theorem dX2_ask_5 : decode cX2_ask 5 = .ok (.aload_n 0, 1) := by decide +kernel
theorem dX2_ask_6 : decode cX2_ask 6 = .ok (.iload_n 1, 1) := by decide +kernel
theorem dX2_ask_7 : decode cX2_ask 7 = .ok (.invokevirtual 89, 3) := by decide +kernel
theorem dX2_ask_10 : decode cX2_ask 10 = .ok (.ifCond .eq 11, 3) := by decide +kernel
theorem dX2_ask_13 : decode cX2_ask 13 = .ok (.aload_n 0, 1) := by decide +kernel
theorem dX2_ask_14 : decode cX2_ask 14 = .ok (.iload_n 2, 1) := by decide +kernel
theorem dX2_ask_15 : decode cX2_ask 15 = .ok (.invokevirtual 93, 3) := by decide +kernel
theorem dX2_ask_18 : decode cX2_ask 18 = .ok (.ifCond .ne 9, 3) := by decide +kernel
theorem dX2_ask_21 : decode cX2_ask 21 = .ok (.aload_n 0, 1) := by decide +kernel
theorem dX2_ask_22 : decode cX2_ask 22 = .ok (.iconst 1, 1) := by decide +kernel
theorem dX2_ask_23 : decode cX2_ask 23 = .ok (.invokevirtual 86, 3) := by decide +kernel
theorem dX2_ask_26 : decode cX2_ask 26 = .ok (.ireturn, 1) := by decide +kernel
theorem dX2_ask_27 : decode cX2_ask 27 = .ok (.iload_n 3, 1) := by decide +kernel
theorem dX2_ask_28 : decode cX2_ask 28 = .ok (.iconst 1, 1) := by decide +kernel
theorem dX2_ask_29 : decode cX2_ask 29 = .ok (.aload_n 0, 1) := by decide +kernel
theorem dX2_ask_30 : decode cX2_ask 30 = .ok (.getfield 9, 3) := by decide +kernel
theorem dX2_ask_33 : decode cX2_ask 33 = .ok (.iload_n 2, 1) := by decide +kernel
theorem dX2_ask_34 : decode cX2_ask 34 = .ok (.iaload, 1) := by decide +kernel
theorem dX2_ask_35 : decode cX2_ask 35 = .ok (.invokestatic 32, 3) := by decide +kernel
theorem dX2_ask_38 : decode cX2_ask 38 = .ok (.ifCond .eq 25, 3) := by decide +kernel
theorem dX2_ask_41 : decode cX2_ask 41 = .ok (.iload 4, 2) := by decide +kernel
theorem dX2_ask_43 : decode cX2_ask 43 = .ok (.iconst 1, 1) := by decide +kernel
theorem dX2_ask_44 : decode cX2_ask 44 = .ok (.bipush 30, 2) := by decide +kernel
theorem dX2_ask_46 : decode cX2_ask 46 = .ok (.invokestatic 32, 3) := by decide +kernel
theorem dX2_ask_49 : decode cX2_ask 49 = .ok (.ifCond .eq 14, 3) := by decide +kernel
theorem dX2_ask_52 : decode cX2_ask 52 = .ok (.iload 5, 2) := by decide +kernel
theorem dX2_ask_54 : decode cX2_ask 54 = .ok (.iconst 1, 1) := by decide +kernel
theorem dX2_ask_55 : decode cX2_ask 55 = .ok (.bipush 60, 2) := by decide +kernel
theorem dX2_ask_57 : decode cX2_ask 57 = .ok (.invokestatic 32, 3) := by decide +kernel
theorem dX2_ask_60 : decode cX2_ask 60 = .ok (.ifCond .ne 9, 3) := by decide +kernel
theorem dX2_ask_63 : decode cX2_ask 63 = .ok (.aload_n 0, 1) := by decide +kernel
theorem dX2_ask_64 : decode cX2_ask 64 = .ok (.iconst 2, 1) := by decide +kernel
theorem dX2_ask_65 : decode cX2_ask 65 = .ok (.invokevirtual 86, 3) := by decide +kernel
theorem dX2_ask_68 : decode cX2_ask 68 = .ok (.ireturn, 1) := by decide +kernel
theorem dX2_ask_69 : decode cX2_ask 69 = .ok (.aload_n 0, 1) := by decide +kernel
theorem dX2_ask_70 : decode cX2_ask 70 = .ok (.iload_n 1, 1) := by decide +kernel
theorem dX2_ask_71 : decode cX2_ask 71 = .ok (.iconst 0, 1) := by decide +kernel
theorem dX2_ask_72 : decode cX2_ask 72 = .ok (.invokevirtual 49, 3) := by decide +kernel
theorem dX2_ask_75 : decode cX2_ask 75 = .ok (.ifCond .ne 9, 3) := by decide +kernel
theorem dX2_ask_78 : decode cX2_ask 78 = .ok (.aload_n 0, 1) := by decide +kernel
theorem dX2_ask_79 : decode cX2_ask 79 = .ok (.iconst 3, 1) := by decide +kernel
theorem dX2_ask_80 : decode cX2_ask 80 = .ok (.invokevirtual 86, 3) := by decide +kernel
theorem dX2_ask_83 : decode cX2_ask 83 = .ok (.ireturn, 1) := by decide +kernel
theorem dX2_ask_84 : decode cX2_ask 84 = .ok (.aload_n 0, 1) := by decide +kernel
theorem dX2_ask_85 : decode cX2_ask 85 = .ok (.iload_n 1, 1) := by decide +kernel
theorem dX2_ask_86 : decode cX2_ask 86 = .ok (.iconst 1, 1) := by decide +kernel
theorem dX2_ask_87 : decode cX2_ask 87 = .ok (.iload_n 2, 1) := by decide +kernel
theorem dX2_ask_88 : decode cX2_ask 88 = .ok (.iload_n 3, 1) := by decide +kernel
theorem dX2_ask_89 : decode cX2_ask 89 = .ok (.iload 4, 2) := by decide +kernel
theorem dX2_ask_91 : decode cX2_ask 91 = .ok (.invokevirtual 96, 3) := by decide +kernel
theorem dX2_ask_94 : decode cX2_ask 94 = .ok (.aload_n 0, 1) := by decide +kernel
theorem dX2_ask_95 : decode cX2_ask 95 = .ok (.iload_n 1, 1) := by decide +kernel
theorem dX2_ask_96 : decode cX2_ask 96 = .ok (.iconst 4, 1) := by decide +kernel
theorem dX2_ask_97 : decode cX2_ask 97 = .ok (.iload 5, 2) := by decide +kernel
theorem dX2_ask_99 : decode cX2_ask 99 = .ok (.invokevirtual 66, 3) := by decide +kernel
theorem dX2_ask_102 : decode cX2_ask 102 = .ok (.aload_n 0, 1) := by decide +kernel
theorem dX2_ask_103 : decode cX2_ask 103 = .ok (.iload_n 1, 1) := by decide +kernel
theorem dX2_ask_104 : decode cX2_ask 104 = .ok (.iconst 5, 1) := by decide +kernel
theorem dX2_ask_105 : decode cX2_ask 105 = .ok (.iconst 0, 1) := by decide +kernel
theorem dX2_ask_106 : decode cX2_ask 106 = .ok (.invokevirtual 66, 3) := by decide +kernel
theorem dX2_ask_109 : decode cX2_ask 109 = .ok (.aload_n 0, 1) := by decide +kernel
theorem dX2_ask_110 : decode cX2_ask 110 = .ok (.iload_n 1, 1) := by decide +kernel
theorem dX2_ask_111 : decode cX2_ask 111 = .ok (.bipush 7, 2) := by decide +kernel
theorem dX2_ask_113 : decode cX2_ask 113 = .ok (.aload_n 0, 1) := by decide +kernel
theorem dX2_ask_114 : decode cX2_ask 114 = .ok (.getfield 19, 3) := by decide +kernel
theorem dX2_ask_117 : decode cX2_ask 117 = .ok (.iconst 3, 1) := by decide +kernel
theorem dX2_ask_118 : decode cX2_ask 118 = .ok (.iaload, 1) := by decide +kernel
theorem dX2_ask_119 : decode cX2_ask 119 = .ok (.invokevirtual 66, 3) := by decide +kernel
theorem dX2_ask_122 : decode cX2_ask 122 = .ok (.aload_n 0, 1) := by decide +kernel
theorem dX2_ask_123 : decode cX2_ask 123 = .ok (.getfield 19, 3) := by decide +kernel
theorem dX2_ask_126 : decode cX2_ask 126 = .ok (.iconst 3, 1) := by decide +kernel
theorem dX2_ask_127 : decode cX2_ask 127 = .ok (.dup2, 1) := by decide +kernel
theorem dX2_ask_128 : decode cX2_ask 128 = .ok (.iaload, 1) := by decide +kernel
theorem dX2_ask_129 : decode cX2_ask 129 = .ok (.iconst 1, 1) := by decide +kernel
theorem dX2_ask_130 : decode cX2_ask 130 = .ok (.iadd, 1) := by decide +kernel
theorem dX2_ask_131 : decode cX2_ask 131 = .ok (.iastore, 1) := by decide +kernel
theorem dX2_ask_132 : decode cX2_ask 132 = .ok (.aload_n 0, 1) := by decide +kernel
theorem dX2_ask_133 : decode cX2_ask 133 = .ok (.iload_n 2, 1) := by decide +kernel
theorem dX2_ask_134 : decode cX2_ask 134 = .ok (.invokevirtual 100, 3) := by decide +kernel
theorem dX2_ask_137 : decode cX2_ask 137 = .ok (.ireturn, 1) := by decide +kernel
set_option maxRecDepth 20000 in
theorem ggX2_barge_X2_isGoat : GoodIn wsX2_barge wsX2_isGoat := goodIn_r _ [7, 8, 9, 10, 6, 11, 42, 43, 44, 45, 46, 47, 48, 49] (by decide +kernel) (by decide +kernel)
set_option maxRecDepth 20000 in
theorem gX2_barge_X2_isGoat : GoodIn wsX2_barge (wsV RX2 89 RX2 yX2_isGoat wsX2_isGoat) := goodIn_app (goodIn_of _ (by decide +kernel)) ggX2_barge_X2_isGoat
set_option maxRecDepth 20000 in
theorem ggX2_barge_X2_isGate : GoodIn wsX2_barge wsX2_isGate := goodIn_r _ [15, 16, 9, 10, 6, 11, 42, 43, 44, 45, 46, 47, 48, 49] (by decide +kernel) (by decide +kernel)
set_option maxRecDepth 20000 in
theorem gX2_barge_X2_isGate : GoodIn wsX2_barge (wsV RX2 93 RX2 yX2_isGate wsX2_isGate) := goodIn_app (goodIn_of _ (by decide +kernel)) ggX2_barge_X2_isGate
set_option maxRecDepth 20000 in
theorem ggX2_barge_X2_no : GoodIn wsX2_barge wsX2_no := goodIn_r _ [20, 1, 42, 43, 44, 45, 46, 47, 48, 49] (by decide +kernel) (by decide +kernel)
set_option maxRecDepth 20000 in
theorem gX2_barge_X2_no : GoodIn wsX2_barge (wsV RX2 86 RX2 yX2_no wsX2_no) := goodIn_app (goodIn_of _ (by decide +kernel)) ggX2_barge_X2_no
set_option maxRecDepth 20000 in
theorem ggX2_barge_X2_isIn : GoodIn wsX2_barge wsX2_isIn := goodIn_r _ [11] (by decide +kernel) (by decide +kernel)
set_option maxRecDepth 20000 in
theorem gX2_barge_X2_isIn : GoodIn wsX2_barge (va_wsS RX2 32 yX2_isIn wsX2_isIn) := goodIn_app (goodIn_of _ (by decide +kernel)) ggX2_barge_X2_isIn
set_option maxRecDepth 20000 in
theorem ggX2_barge_X2_is : GoodIn wsX2_barge wsX2_is := goodIn_r _ [24, 25, 26, 27, 6, 28, 29, 42, 43, 44, 45, 46, 47, 48, 49] (by decide +kernel) (by decide +kernel)
set_option maxRecDepth 20000 in
theorem gX2_barge_X2_is : GoodIn wsX2_barge (wsV RX2 49 RX2 yX2_is wsX2_is) := goodIn_app (goodIn_of _ (by decide +kernel)) ggX2_barge_X2_is
set_option maxRecDepth 20000 in
theorem ggX2_barge_X2_free : GoodIn wsX2_barge wsX2_free := goodIn_r _ [33, 2, 8, 21, 22, 23, 6, 24, 25, 26, 27, 28, 29, 42, 43, 44, 45, 46, 47, 48, 49] (by decide +kernel) (by decide +kernel)
set_option maxRecDepth 20000 in
theorem gX2_barge_X2_free : GoodIn wsX2_barge (wsV RX2 56 RX2 yX2_free wsX2_free) := goodIn_app (goodIn_of _ (by decide +kernel)) ggX2_barge_X2_free
set_option maxRecDepth 20000 in
theorem ggX2_barge_X2_write : GoodIn wsX2_barge wsX2_write := goodIn_r _ [37, 38, 39, 40, 6, 41, 29, 42, 43, 44, 45, 46, 47, 48, 49] (by decide +kernel) (by decide +kernel)
set_option maxRecDepth 20000 in
theorem gX2_barge_X2_write : GoodIn wsX2_barge (wsV RX2 96 RX2 yX2_write wsX2_write) := goodIn_app (goodIn_of _ (by decide +kernel)) ggX2_barge_X2_write
theorem dX2_barge_0 : decode cX2_barge 0 = .ok (.aload_n 0, 1) := by decide +kernel
theorem dX2_barge_1 : decode cX2_barge 1 = .ok (.iconst 0, 1) := by decide +kernel
theorem dX2_barge_2 : decode cX2_barge 2 = .ok (.putfield 25, 3) := by decide +kernel
theorem dX2_barge_5 : decode cX2_barge 5 = .ok (.aload_n 0, 1) := by decide +kernel
theorem dX2_barge_6 : decode cX2_barge 6 = .ok (.iload_n 1, 1) := by decide +kernel
theorem dX2_barge_7 : decode cX2_barge 7 = .ok (.invokevirtual 89, 3) := by decide +kernel
theorem dX2_barge_10 : decode cX2_barge 10 = .ok (.ifCond .eq 11, 3) := by decide +kernel
theorem dX2_barge_13 : decode cX2_barge 13 = .ok (.aload_n 0, 1) := by decide +kernel
theorem dX2_barge_14 : decode cX2_barge 14 = .ok (.iload_n 2, 1) := by decide +kernel
theorem dX2_barge_15 : decode cX2_barge 15 = .ok (.invokevirtual 93, 3) := by decide +kernel
theorem dX2_barge_18 : decode cX2_barge 18 = .ok (.ifCond .ne 9, 3) := by decide +kernel
theorem dX2_barge_21 : decode cX2_barge 21 = .ok (.aload_n 0, 1) := by decide +kernel
theorem dX2_barge_22 : decode cX2_barge 22 = .ok (.iconst 1, 1) := by decide +kernel
theorem dX2_barge_23 : decode cX2_barge 23 = .ok (.invokevirtual 86, 3) := by decide +kernel
theorem dX2_barge_26 : decode cX2_barge 26 = .ok (.ireturn, 1) := by decide +kernel
theorem dX2_barge_27 : decode cX2_barge 27 = .ok (.iload_n 3, 1) := by decide +kernel
theorem dX2_barge_28 : decode cX2_barge 28 = .ok (.iconst 1, 1) := by decide +kernel
theorem dX2_barge_29 : decode cX2_barge 29 = .ok (.aload_n 0, 1) := by decide +kernel
theorem dX2_barge_30 : decode cX2_barge 30 = .ok (.getfield 9, 3) := by decide +kernel
theorem dX2_barge_33 : decode cX2_barge 33 = .ok (.iload_n 2, 1) := by decide +kernel
theorem dX2_barge_34 : decode cX2_barge 34 = .ok (.iaload, 1) := by decide +kernel
theorem dX2_barge_35 : decode cX2_barge 35 = .ok (.invokestatic 32, 3) := by decide +kernel
theorem dX2_barge_38 : decode cX2_barge 38 = .ok (.ifCond .eq 14, 3) := by decide +kernel
theorem dX2_barge_41 : decode cX2_barge 41 = .ok (.iload 4, 2) := by decide +kernel
theorem dX2_barge_43 : decode cX2_barge 43 = .ok (.iconst 1, 1) := by decide +kernel
theorem dX2_barge_44 : decode cX2_barge 44 = .ok (.bipush 30, 2) := by decide +kernel
theorem dX2_barge_46 : decode cX2_barge 46 = .ok (.invokestatic 32, 3) := by decide +kernel
theorem dX2_barge_49 : decode cX2_barge 49 = .ok (.ifCond .ne 9, 3) := by decide +kernel
theorem dX2_barge_52 : decode cX2_barge 52 = .ok (.aload_n 0, 1) := by decide +kernel
theorem dX2_barge_53 : decode cX2_barge 53 = .ok (.iconst 2, 1) := by decide +kernel
theorem dX2_barge_54 : decode cX2_barge 54 = .ok (.invokevirtual 86, 3) := by decide +kernel
theorem dX2_barge_57 : decode cX2_barge 57 = .ok (.ireturn, 1) := by decide +kernel
theorem dX2_barge_58 : decode cX2_barge 58 = .ok (.aload_n 0, 1) := by decide +kernel
theorem dX2_barge_59 : decode cX2_barge 59 = .ok (.iload_n 1, 1) := by decide +kernel
theorem dX2_barge_60 : decode cX2_barge 60 = .ok (.iconst 0, 1) := by decide +kernel
theorem dX2_barge_61 : decode cX2_barge 61 = .ok (.invokevirtual 49, 3) := by decide +kernel
theorem dX2_barge_64 : decode cX2_barge 64 = .ok (.ifCond .eq 12, 3) := by decide +kernel
theorem dX2_barge_67 : decode cX2_barge 67 = .ok (.aload_n 0, 1) := by decide +kernel
theorem dX2_barge_68 : decode cX2_barge 68 = .ok (.iload_n 2, 1) := by decide +kernel
theorem dX2_barge_69 : decode cX2_barge 69 = .ok (.invokevirtual 56, 3) := by decide +kernel
theorem dX2_barge_72 : decode cX2_barge 72 = .ok (.iload_n 3, 1) := by decide +kernel
theorem dX2_barge_73 : decode cX2_barge 73 = .ok (.if_icmp .ge 9, 3) := by decide +kernel
theorem dX2_barge_76 : decode cX2_barge 76 = .ok (.aload_n 0, 1) := by decide +kernel
theorem dX2_barge_77 : decode cX2_barge 77 = .ok (.iconst 3, 1) := by decide +kernel
theorem dX2_barge_78 : decode cX2_barge 78 = .ok (.invokevirtual 86, 3) := by decide +kernel
theorem dX2_barge_81 : decode cX2_barge 81 = .ok (.ireturn, 1) := by decide +kernel
theorem dX2_barge_82 : decode cX2_barge 82 = .ok (.aload_n 0, 1) := by decide +kernel
theorem dX2_barge_83 : decode cX2_barge 83 = .ok (.iload_n 1, 1) := by decide +kernel
theorem dX2_barge_84 : decode cX2_barge 84 = .ok (.iconst 2, 1) := by decide +kernel
theorem dX2_barge_85 : decode cX2_barge 85 = .ok (.iload_n 2, 1) := by decide +kernel
theorem dX2_barge_86 : decode cX2_barge 86 = .ok (.iload_n 3, 1) := by decide +kernel
theorem dX2_barge_87 : decode cX2_barge 87 = .ok (.iload 4, 2) := by decide +kernel
theorem dX2_barge_89 : decode cX2_barge 89 = .ok (.invokevirtual 96, 3) := by decide +kernel
theorem dX2_barge_92 : decode cX2_barge 92 = .ok (.aload_n 0, 1) := by decide +kernel
theorem dX2_barge_93 : decode cX2_barge 93 = .ok (.iload_n 2, 1) := by decide +kernel
theorem dX2_barge_94 : decode cX2_barge 94 = .ok (.invokevirtual 56, 3) := by decide +kernel
theorem dX2_barge_97 : decode cX2_barge 97 = .ok (.ireturn, 1) := by decide +kernel
set_option maxRecDepth 20000 in
theorem ggX2_held_X2_is : GoodIn wsX2_held wsX2_is := goodIn_r _ [5, 6, 7, 8, 4, 9, 10, 11, 12, 13, 14, 15, 16, 17, 18] (by decide +kernel) (by decide +kernel)
set_option maxRecDepth 20000 in
theorem gX2_held_X2_is : GoodIn wsX2_held (wsV RX2 49 RX2 yX2_is wsX2_is) := goodIn_app (goodIn_of _ (by decide +kernel)) ggX2_held_X2_is
set_option maxRecDepth 20000 in
theorem ggX2_held_X2_of : GoodIn wsX2_held wsX2_of := goodIn_r _ [9, 10, 11, 12, 13, 14, 15, 16, 17, 18] (by decide +kernel) (by decide +kernel)
set_option maxRecDepth 20000 in
theorem gX2_held_X2_of : GoodIn wsX2_held (wsV RX2 45 RX2 yX2_of wsX2_of) := goodIn_app (goodIn_of _ (by decide +kernel)) ggX2_held_X2_of
theorem dX2_held_0 : decode cX2_held 0 = .ok (.aload_n 0, 1) := by decide +kernel
theorem dX2_held_1 : decode cX2_held 1 = .ok (.iload_n 1, 1) := by decide +kernel
theorem dX2_held_2 : decode cX2_held 2 = .ok (.iconst 2, 1) := by decide +kernel
theorem dX2_held_3 : decode cX2_held 3 = .ok (.invokevirtual 49, 3) := by decide +kernel
theorem dX2_held_6 : decode cX2_held 6 = .ok (.ifCond .eq 12, 3) := by decide +kernel
theorem dX2_held_9 : decode cX2_held 9 = .ok (.aload_n 0, 1) := by decide +kernel
theorem dX2_held_10 : decode cX2_held 10 = .ok (.iload_n 1, 1) := by decide +kernel
theorem dX2_held_11 : decode cX2_held 11 = .ok (.iconst 2, 1) := by decide +kernel
theorem dX2_held_12 : decode cX2_held 12 = .ok (.invokevirtual 45, 3) := by decide +kernel
theorem dX2_held_15 : decode cX2_held 15 = .ok (.goto 4, 3) := by decide +kernel
theorem dX2_held_18 : decode cX2_held 18 = .ok (.iconst 0, 1) := by decide +kernel
theorem dX2_held_19 : decode cX2_held 19 = .ok (.ireturn, 1) := by decide +kernel
set_option maxRecDepth 20000 in
theorem ggX2_callBack_X2_isGoat : GoodIn wsX2_callBack wsX2_isGoat := goodIn_r _ [6, 7, 8, 9, 5, 10, 32, 33, 34, 35, 36, 37, 38, 39] (by decide +kernel) (by decide +kernel)
set_option maxRecDepth 20000 in
theorem gX2_callBack_X2_isGoat : GoodIn wsX2_callBack (wsV RX2 89 RX2 yX2_isGoat wsX2_isGoat) := goodIn_app (goodIn_of _ (by decide +kernel)) ggX2_callBack_X2_isGoat
set_option maxRecDepth 20000 in
theorem ggX2_callBack_X2_no : GoodIn wsX2_callBack wsX2_no := goodIn_r _ [14, 1, 32, 33, 34, 35, 36, 37, 38, 39] (by decide +kernel) (by decide +kernel)
set_option maxRecDepth 20000 in
theorem gX2_callBack_X2_no : GoodIn wsX2_callBack (wsV RX2 86 RX2 yX2_no wsX2_no) := goodIn_app (goodIn_of _ (by decide +kernel)) ggX2_callBack_X2_no
set_option maxRecDepth 20000 in
theorem ggX2_callBack_X2_is : GoodIn wsX2_callBack wsX2_is := goodIn_r _ [18, 19, 20, 21, 5, 22, 23, 32, 33, 34, 35, 36, 37, 38, 39] (by decide +kernel) (by decide +kernel)
set_option maxRecDepth 20000 in
theorem gX2_callBack_X2_is : GoodIn wsX2_callBack (wsV RX2 49 RX2 yX2_is wsX2_is) := goodIn_app (goodIn_of _ (by decide +kernel)) ggX2_callBack_X2_is
set_option maxRecDepth 20000 in
theorem ggX2_callBack_X2_held : GoodIn wsX2_callBack wsX2_held := goodIn_r _ [27, 15, 16, 17, 5, 18, 19, 20, 21, 22, 23, 32, 33, 34, 35, 36, 37, 38, 39] (by decide +kernel) (by decide +kernel)
set_option maxRecDepth 20000 in
theorem gX2_callBack_X2_held : GoodIn wsX2_callBack (wsV RX2 103 RX2 yX2_held wsX2_held) := goodIn_app (goodIn_of _ (by decide +kernel)) ggX2_callBack_X2_held
set_option maxRecDepth 20000 in
theorem ggX2_callBack_X2_let : GoodIn wsX2_callBack wsX2_let := goodIn_r _ [31, 23, 32, 33, 34, 35, 36, 37, 38, 39] (by decide +kernel) (by decide +kernel)
set_option maxRecDepth 20000 in
theorem gX2_callBack_X2_let : GoodIn wsX2_callBack (wsV RX2 66 RX2 yX2_let wsX2_let) := goodIn_app (goodIn_of _ (by decide +kernel)) ggX2_callBack_X2_let
theorem dX2_callBack_0 : decode cX2_callBack 0 = .ok (.aload_n 0, 1) := by decide +kernel
theorem dX2_callBack_1 : decode cX2_callBack 1 = .ok (.iconst 0, 1) := by decide +kernel
theorem dX2_callBack_2 : decode cX2_callBack 2 = .ok (.putfield 25, 3) := by decide +kernel
theorem dX2_callBack_5 : decode cX2_callBack 5 = .ok (.aload_n 0, 1) := by decide +kernel
theorem dX2_callBack_6 : decode cX2_callBack 6 = .ok (.iload_n 1, 1) := by decide +kernel
theorem dX2_callBack_7 : decode cX2_callBack 7 = .ok (.invokevirtual 89, 3) := by decide +kernel
theorem dX2_callBack_10 : decode cX2_callBack 10 = .ok (.ifCond .ne 9, 3) := by decide +kernel
theorem dX2_callBack_13 : decode cX2_callBack 13 = .ok (.aload_n 0, 1) := by decide +kernel
theorem dX2_callBack_14 : decode cX2_callBack 14 = .ok (.iconst 1, 1) := by decide +kernel
theorem dX2_callBack_15 : decode cX2_callBack 15 = .ok (.invokevirtual 86, 3) := by decide +kernel
theorem dX2_callBack_18 : decode cX2_callBack 18 = .ok (.ireturn, 1) := by decide +kernel
theorem dX2_callBack_19 : decode cX2_callBack 19 = .ok (.aload_n 0, 1) := by decide +kernel
theorem dX2_callBack_20 : decode cX2_callBack 20 = .ok (.iload_n 1, 1) := by decide +kernel
theorem dX2_callBack_21 : decode cX2_callBack 21 = .ok (.iconst 0, 1) := by decide +kernel
theorem dX2_callBack_22 : decode cX2_callBack 22 = .ok (.invokevirtual 49, 3) := by decide +kernel
theorem dX2_callBack_25 : decode cX2_callBack 25 = .ok (.ifCond .eq 9, 3) := by decide +kernel
theorem dX2_callBack_28 : decode cX2_callBack 28 = .ok (.aload_n 0, 1) := by decide +kernel
theorem dX2_callBack_29 : decode cX2_callBack 29 = .ok (.iconst 2, 1) := by decide +kernel
theorem dX2_callBack_30 : decode cX2_callBack 30 = .ok (.invokevirtual 86, 3) := by decide +kernel
theorem dX2_callBack_33 : decode cX2_callBack 33 = .ok (.ireturn, 1) := by decide +kernel
theorem dX2_callBack_34 : decode cX2_callBack 34 = .ok (.aload_n 0, 1) := by decide +kernel
theorem dX2_callBack_35 : decode cX2_callBack 35 = .ok (.iload_n 1, 1) := by decide +kernel
theorem dX2_callBack_36 : decode cX2_callBack 36 = .ok (.invokevirtual 103, 3) := by decide +kernel
theorem dX2_callBack_39 : decode cX2_callBack 39 = .ok (.istore_n 2, 1) := by decide +kernel
theorem dX2_callBack_40 : decode cX2_callBack 40 = .ok (.aload_n 0, 1) := by decide +kernel
theorem dX2_callBack_41 : decode cX2_callBack 41 = .ok (.iload_n 1, 1) := by decide +kernel
theorem dX2_callBack_42 : decode cX2_callBack 42 = .ok (.iconst 0, 1) := by decide +kernel
theorem dX2_callBack_43 : decode cX2_callBack 43 = .ok (.iconst 0, 1) := by decide +kernel
theorem dX2_callBack_44 : decode cX2_callBack 44 = .ok (.invokevirtual 66, 3) := by decide +kernel
theorem dX2_callBack_47 : decode cX2_callBack 47 = .ok (.iload_n 2, 1) := by decide +kernel
theorem dX2_callBack_48 : decode cX2_callBack 48 = .ok (.ireturn, 1) := by decide +kernel
set_option maxRecDepth 20000 in
theorem ggX2_pass_X2_isIn : GoodIn wsX2_pass wsX2_isIn := goodIn_r _ [6] (by decide +kernel) (by decide +kernel)
set_option maxRecDepth 20000 in
theorem gX2_pass_X2_isIn : GoodIn wsX2_pass (va_wsS RX2 32 yX2_isIn wsX2_isIn) := goodIn_app (goodIn_of _ (by decide +kernel)) ggX2_pass_X2_isIn
set_option maxRecDepth 20000 in
theorem ggX2_pass_X2_no : GoodIn wsX2_pass wsX2_no := goodIn_r _ [10, 1, 68, 69, 70, 71, 72, 73, 74, 75] (by decide +kernel) (by decide +kernel)
set_option maxRecDepth 20000 in
theorem gX2_pass_X2_no : GoodIn wsX2_pass (wsV RX2 86 RX2 yX2_no wsX2_no) := goodIn_app (goodIn_of _ (by decide +kernel)) ggX2_pass_X2_no
set_option maxRecDepth 20000 in
theorem ggX2_pass_X2_minutesOn : GoodIn wsX2_pass wsX2_minutesOn := goodIn_r _ [14, 15, 16, 17, 5, 18, 19, 20, 2, 21, 22, 23, 24, 25, 26, 27, 28, 29, 30, 31, 32, 33, 34, 35, 36, 37, 38, 39, 40, 41, 42, 43, 44, 45, 46, 47, 48, 49, 50, 51, 52, 53, 54, 55, 56, 57, 58, 59, 60, 61, 62, 63, 64, 65, 66, 67, 68, 69, 70, 71, 72, 73, 74, 75] (by decide +kernel) (by decide +kernel)
set_option maxRecDepth 20000 in
theorem gX2_pass_X2_minutesOn : GoodIn wsX2_pass (wsV RX2 106 RX2 yX2_minutesOn wsX2_minutesOn) := goodIn_app (goodIn_of _ (by decide +kernel)) ggX2_pass_X2_minutesOn
theorem dX2_pass_0 : decode cX2_pass 0 = .ok (.aload_n 0, 1) := by decide +kernel
theorem dX2_pass_1 : decode cX2_pass 1 = .ok (.iconst 0, 1) := by decide +kernel
theorem dX2_pass_2 : decode cX2_pass 2 = .ok (.putfield 25, 3) := by decide +kernel
theorem dX2_pass_5 : decode cX2_pass 5 = .ok (.iload_n 1, 1) := by decide +kernel
theorem dX2_pass_6 : decode cX2_pass 6 = .ok (.iconst 1, 1) := by decide +kernel
theorem dX2_pass_7 : decode cX2_pass 7 = .ok (.bipush 60, 2) := by decide +kernel
theorem dX2_pass_9 : decode cX2_pass 9 = .ok (.invokestatic 32, 3) := by decide +kernel
theorem dX2_pass_12 : decode cX2_pass 12 = .ok (.ifCond .ne 9, 3) := by decide +kernel
theorem dX2_pass_15 : decode cX2_pass 15 = .ok (.aload_n 0, 1) := by decide +kernel
theorem dX2_pass_16 : decode cX2_pass 16 = .ok (.iconst 1, 1) := by decide +kernel
theorem dX2_pass_17 : decode cX2_pass 17 = .ok (.invokevirtual 86, 3) := by decide +kernel
theorem dX2_pass_20 : decode cX2_pass 20 = .ok (.ireturn, 1) := by decide +kernel
theorem dX2_pass_21 : decode cX2_pass 21 = .ok (.aload_n 0, 1) := by decide +kernel
theorem dX2_pass_22 : decode cX2_pass 22 = .ok (.getfield 19, 3) := by decide +kernel
theorem dX2_pass_25 : decode cX2_pass 25 = .ok (.iconst 1, 1) := by decide +kernel
theorem dX2_pass_26 : decode cX2_pass 26 = .ok (.iaload, 1) := by decide +kernel
theorem dX2_pass_27 : decode cX2_pass 27 = .ok (.istore_n 2, 1) := by decide +kernel
theorem dX2_pass_28 : decode cX2_pass 28 = .ok (.aload_n 0, 1) := by decide +kernel
theorem dX2_pass_29 : decode cX2_pass 29 = .ok (.iload_n 1, 1) := by decide +kernel
theorem dX2_pass_30 : decode cX2_pass 30 = .ok (.invokevirtual 106, 3) := by decide +kernel
theorem dX2_pass_33 : decode cX2_pass 33 = .ok (.aload_n 0, 1) := by decide +kernel
theorem dX2_pass_34 : decode cX2_pass 34 = .ok (.getfield 19, 3) := by decide +kernel
theorem dX2_pass_37 : decode cX2_pass 37 = .ok (.iconst 1, 1) := by decide +kernel
theorem dX2_pass_38 : decode cX2_pass 38 = .ok (.iaload, 1) := by decide +kernel
theorem dX2_pass_39 : decode cX2_pass 39 = .ok (.iload_n 2, 1) := by decide +kernel
theorem dX2_pass_40 : decode cX2_pass 40 = .ok (.isub, 1) := by decide +kernel
theorem dX2_pass_41 : decode cX2_pass 41 = .ok (.ireturn, 1) := by decide +kernel
set_option maxRecDepth 20000 in
theorem ggX2_minute_X2_ok : GoodIn wsX2_minute wsX2_ok := goodIn_r _ [6, 7, 8, 9, 10, 11, 12, 13, 14, 15] (by decide +kernel) (by decide +kernel)
set_option maxRecDepth 20000 in
theorem gX2_minute_X2_ok : GoodIn wsX2_minute (wsV RX2 109 RX2 yX2_ok wsX2_ok) := goodIn_app (goodIn_of _ (by decide +kernel)) ggX2_minute_X2_ok
theorem dX2_minute_0 : decode cX2_minute 0 = .ok (.aload_n 0, 1) := by decide +kernel
theorem dX2_minute_1 : decode cX2_minute 1 = .ok (.aload_n 0, 1) := by decide +kernel
theorem dX2_minute_2 : decode cX2_minute 2 = .ok (.getfield 19, 3) := by decide +kernel
theorem dX2_minute_5 : decode cX2_minute 5 = .ok (.iconst 0, 1) := by decide +kernel
theorem dX2_minute_6 : decode cX2_minute 6 = .ok (.iaload, 1) := by decide +kernel
theorem dX2_minute_7 : decode cX2_minute 7 = .ok (.invokevirtual 109, 3) := by decide +kernel
theorem dX2_minute_10 : decode cX2_minute 10 = .ok (.ireturn, 1) := by decide +kernel
set_option maxRecDepth 20000 in
theorem ggX2_gates_X2_ok : GoodIn wsX2_gates wsX2_ok := goodIn_r _ [6, 7, 8, 9, 10, 11, 12, 13, 14, 15] (by decide +kernel) (by decide +kernel)
set_option maxRecDepth 20000 in
theorem gX2_gates_X2_ok : GoodIn wsX2_gates (wsV RX2 109 RX2 yX2_ok wsX2_ok) := goodIn_app (goodIn_of _ (by decide +kernel)) ggX2_gates_X2_ok
theorem dX2_gates_0 : decode cX2_gates 0 = .ok (.aload_n 0, 1) := by decide +kernel
theorem dX2_gates_1 : decode cX2_gates 1 = .ok (.aload_n 0, 1) := by decide +kernel
theorem dX2_gates_2 : decode cX2_gates 2 = .ok (.getfield 29, 3) := by decide +kernel
theorem dX2_gates_5 : decode cX2_gates 5 = .ok (.invokevirtual 109, 3) := by decide +kernel
theorem dX2_gates_8 : decode cX2_gates 8 = .ok (.ireturn, 1) := by decide +kernel
set_option maxRecDepth 20000 in
theorem ggX2_goats_X2_ok : GoodIn wsX2_goats wsX2_ok := goodIn_r _ [6, 7, 8, 9, 10, 11, 12, 13, 14, 15] (by decide +kernel) (by decide +kernel)
set_option maxRecDepth 20000 in
theorem gX2_goats_X2_ok : GoodIn wsX2_goats (wsV RX2 109 RX2 yX2_ok wsX2_ok) := goodIn_app (goodIn_of _ (by decide +kernel)) ggX2_goats_X2_ok
theorem dX2_goats_0 : decode cX2_goats 0 = .ok (.aload_n 0, 1) := by decide +kernel
theorem dX2_goats_1 : decode cX2_goats 1 = .ok (.aload_n 0, 1) := by decide +kernel
theorem dX2_goats_2 : decode cX2_goats 2 = .ok (.getfield 36, 3) := by decide +kernel
theorem dX2_goats_5 : decode cX2_goats 5 = .ok (.invokevirtual 109, 3) := by decide +kernel
theorem dX2_goats_8 : decode cX2_goats 8 = .ok (.ireturn, 1) := by decide +kernel
set_option maxRecDepth 20000 in
theorem ggX2_waiting_X2_many : GoodIn wsX2_waiting wsX2_many := goodIn_r _ [5, 6, 7, 8, 9, 4, 10, 11, 12, 13, 14, 15, 21, 22, 23, 24, 25, 26, 27, 28] (by decide +kernel) (by decide +kernel)
set_option maxRecDepth 20000 in
theorem gX2_waiting_X2_many : GoodIn wsX2_waiting (wsV RX2 112 RX2 yX2_many wsX2_many) := goodIn_app (goodIn_of _ (by decide +kernel)) ggX2_waiting_X2_many
set_option maxRecDepth 20000 in
theorem ggX2_waiting_X2_ok : GoodIn wsX2_waiting wsX2_ok := goodIn_r _ [19, 20, 21, 22, 23, 24, 25, 26, 27, 28] (by decide +kernel) (by decide +kernel)
set_option maxRecDepth 20000 in
theorem gX2_waiting_X2_ok : GoodIn wsX2_waiting (wsV RX2 109 RX2 yX2_ok wsX2_ok) := goodIn_app (goodIn_of _ (by decide +kernel)) ggX2_waiting_X2_ok
theorem dX2_waiting_0 : decode cX2_waiting 0 = .ok (.aload_n 0, 1) := by decide +kernel
theorem dX2_waiting_1 : decode cX2_waiting 1 = .ok (.aload_n 0, 1) := by decide +kernel
theorem dX2_waiting_2 : decode cX2_waiting 2 = .ok (.iconst 1, 1) := by decide +kernel
theorem dX2_waiting_3 : decode cX2_waiting 3 = .ok (.invokevirtual 112, 3) := by decide +kernel
theorem dX2_waiting_6 : decode cX2_waiting 6 = .ok (.invokevirtual 109, 3) := by decide +kernel
theorem dX2_waiting_9 : decode cX2_waiting 9 = .ok (.ireturn, 1) := by decide +kernel
set_option maxRecDepth 20000 in
theorem ggX2_inside_X2_many : GoodIn wsX2_inside wsX2_many := goodIn_r _ [5, 6, 7, 8, 9, 4, 10, 11, 12, 13, 14, 15, 21, 22, 23, 24, 25, 26, 27, 28] (by decide +kernel) (by decide +kernel)
set_option maxRecDepth 20000 in
theorem gX2_inside_X2_many : GoodIn wsX2_inside (wsV RX2 112 RX2 yX2_many wsX2_many) := goodIn_app (goodIn_of _ (by decide +kernel)) ggX2_inside_X2_many
end
section
set_option maxRecDepth 20000 in
theorem ggX2_inside_X2_ok : GoodIn wsX2_inside wsX2_ok := goodIn_r _ [19, 20, 21, 22, 23, 24, 25, 26, 27, 28] (by decide +kernel) (by decide +kernel)
set_option maxRecDepth 20000 in
theorem gX2_inside_X2_ok : GoodIn wsX2_inside (wsV RX2 109 RX2 yX2_ok wsX2_ok) := goodIn_app (goodIn_of _ (by decide +kernel)) ggX2_inside_X2_ok
theorem dX2_inside_0 : decode cX2_inside 0 = .ok (.aload_n 0, 1) := by decide +kernel
theorem dX2_inside_1 : decode cX2_inside 1 = .ok (.aload_n 0, 1) := by decide +kernel
theorem dX2_inside_2 : decode cX2_inside 2 = .ok (.iconst 2, 1) := by decide +kernel
theorem dX2_inside_3 : decode cX2_inside 3 = .ok (.invokevirtual 112, 3) := by decide +kernel
theorem dX2_inside_6 : decode cX2_inside 6 = .ok (.invokevirtual 109, 3) := by decide +kernel
theorem dX2_inside_9 : decode cX2_inside 9 = .ok (.ireturn, 1) := by decide +kernel
set_option maxRecDepth 20000 in
theorem ggX2_starved_X2_is : GoodIn wsX2_starved wsX2_is := goodIn_r _ [6, 7, 8, 9, 5, 10, 11, 12, 13, 14, 15, 16, 17, 18, 19] (by decide +kernel) (by decide +kernel)
set_option maxRecDepth 20000 in
theorem gX2_starved_X2_is : GoodIn wsX2_starved (wsV RX2 49 RX2 yX2_is wsX2_is) := goodIn_app (goodIn_of _ (by decide +kernel)) ggX2_starved_X2_is
set_option maxRecDepth 20000 in
theorem ggX2_starved_X2_of : GoodIn wsX2_starved wsX2_of := goodIn_r _ [10, 11, 12, 13, 14, 15, 16, 17, 18, 19] (by decide +kernel) (by decide +kernel)
set_option maxRecDepth 20000 in
theorem gX2_starved_X2_of : GoodIn wsX2_starved (wsV RX2 45 RX2 yX2_of wsX2_of) := goodIn_app (goodIn_of _ (by decide +kernel)) ggX2_starved_X2_of
theorem dX2_starved_0 : decode cX2_starved 0 = .ok (.iconst 0, 1) := by decide +kernel
theorem dX2_starved_1 : decode cX2_starved 1 = .ok (.istore_n 1, 1) := by decide +kernel
theorem dX2_starved_2 : decode cX2_starved 2 = .ok (.iconst 0, 1) := by decide +kernel
theorem dX2_starved_3 : decode cX2_starved 3 = .ok (.istore_n 2, 1) := by decide +kernel
theorem dX2_starved_4 : decode cX2_starved 4 = .ok (.iload_n 2, 1) := by decide +kernel
theorem dX2_starved_5 : decode cX2_starved 5 = .ok (.aload_n 0, 1) := by decide +kernel
theorem dX2_starved_6 : decode cX2_starved 6 = .ok (.getfield 36, 3) := by decide +kernel
theorem dX2_starved_9 : decode cX2_starved 9 = .ok (.if_icmp .ge 37, 3) := by decide +kernel
theorem dX2_starved_12 : decode cX2_starved 12 = .ok (.iload_n 1, 1) := by decide +kernel
theorem dX2_starved_13 : decode cX2_starved 13 = .ok (.aload_n 0, 1) := by decide +kernel
theorem dX2_starved_14 : decode cX2_starved 14 = .ok (.iload_n 2, 1) := by decide +kernel
theorem dX2_starved_15 : decode cX2_starved 15 = .ok (.iconst 1, 1) := by decide +kernel
theorem dX2_starved_16 : decode cX2_starved 16 = .ok (.invokevirtual 49, 3) := by decide +kernel
theorem dX2_starved_19 : decode cX2_starved 19 = .ok (.ifCond .eq 18, 3) := by decide +kernel
theorem dX2_starved_22 : decode cX2_starved 22 = .ok (.aload_n 0, 1) := by decide +kernel
theorem dX2_starved_23 : decode cX2_starved 23 = .ok (.iload_n 2, 1) := by decide +kernel
theorem dX2_starved_24 : decode cX2_starved 24 = .ok (.iconst 5, 1) := by decide +kernel
theorem dX2_starved_25 : decode cX2_starved 25 = .ok (.invokevirtual 45, 3) := by decide +kernel
theorem dX2_starved_28 : decode cX2_starved 28 = .ok (.bipush 7, 2) := by decide +kernel
theorem dX2_starved_30 : decode cX2_starved 30 = .ok (.if_icmp .le 7, 3) := by decide +kernel
theorem dX2_starved_33 : decode cX2_starved 33 = .ok (.iconst 1, 1) := by decide +kernel
theorem dX2_starved_34 : decode cX2_starved 34 = .ok (.goto 4, 3) := by decide +kernel
theorem dX2_starved_37 : decode cX2_starved 37 = .ok (.iconst 0, 1) := by decide +kernel
theorem dX2_starved_38 : decode cX2_starved 38 = .ok (.iadd, 1) := by decide +kernel
theorem dX2_starved_39 : decode cX2_starved 39 = .ok (.istore_n 1, 1) := by decide +kernel
theorem dX2_starved_40 : decode cX2_starved 40 = .ok (.iinc 2 1, 3) := by decide +kernel
theorem dX2_starved_43 : decode cX2_starved 43 = .ok (.goto (-39), 3) := by decide +kernel
theorem dX2_starved_46 : decode cX2_starved 46 = .ok (.iload_n 1, 1) := by decide +kernel
theorem dX2_starved_47 : decode cX2_starved 47 = .ok (.ireturn, 1) := by decide +kernel
set_option maxRecDepth 20000 in
theorem ggX2_starving_X2_starved : GoodIn wsX2_starving wsX2_starved := goodIn_r _ [5, 6, 7, 8, 9, 4, 10, 11, 12, 13, 14, 15, 21, 22, 23, 24, 25, 26, 27, 28] (by decide +kernel) (by decide +kernel)
set_option maxRecDepth 20000 in
theorem gX2_starving_X2_starved : GoodIn wsX2_starving (wsV RX2 115 RX2 yX2_starved wsX2_starved) := goodIn_app (goodIn_of _ (by decide +kernel)) ggX2_starving_X2_starved
set_option maxRecDepth 20000 in
theorem ggX2_starving_X2_ok : GoodIn wsX2_starving wsX2_ok := goodIn_r _ [19, 20, 21, 22, 23, 24, 25, 26, 27, 28] (by decide +kernel) (by decide +kernel)
set_option maxRecDepth 20000 in
theorem gX2_starving_X2_ok : GoodIn wsX2_starving (wsV RX2 109 RX2 yX2_ok wsX2_ok) := goodIn_app (goodIn_of _ (by decide +kernel)) ggX2_starving_X2_ok
theorem dX2_starving_0 : decode cX2_starving 0 = .ok (.aload_n 0, 1) := by decide +kernel
theorem dX2_starving_1 : decode cX2_starving 1 = .ok (.aload_n 0, 1) := by decide +kernel
theorem dX2_starving_2 : decode cX2_starving 2 = .ok (.invokevirtual 115, 3) := by decide +kernel
theorem dX2_starving_5 : decode cX2_starving 5 = .ok (.invokevirtual 109, 3) := by decide +kernel
theorem dX2_starving_8 : decode cX2_starving 8 = .ok (.ireturn, 1) := by decide +kernel
set_option maxRecDepth 20000 in
theorem ggX2_letIn_X2_ok : GoodIn wsX2_letIn wsX2_ok := goodIn_r _ [6, 7, 8, 9, 10, 11, 12, 13, 14, 15] (by decide +kernel) (by decide +kernel)
set_option maxRecDepth 20000 in
theorem gX2_letIn_X2_ok : GoodIn wsX2_letIn (wsV RX2 109 RX2 yX2_ok wsX2_ok) := goodIn_app (goodIn_of _ (by decide +kernel)) ggX2_letIn_X2_ok
theorem dX2_letIn_0 : decode cX2_letIn 0 = .ok (.aload_n 0, 1) := by decide +kernel
theorem dX2_letIn_1 : decode cX2_letIn 1 = .ok (.aload_n 0, 1) := by decide +kernel
theorem dX2_letIn_2 : decode cX2_letIn 2 = .ok (.getfield 19, 3) := by decide +kernel
theorem dX2_letIn_5 : decode cX2_letIn 5 = .ok (.iconst 1, 1) := by decide +kernel
theorem dX2_letIn_6 : decode cX2_letIn 6 = .ok (.iaload, 1) := by decide +kernel
theorem dX2_letIn_7 : decode cX2_letIn 7 = .ok (.invokevirtual 109, 3) := by decide +kernel
theorem dX2_letIn_10 : decode cX2_letIn 10 = .ok (.ireturn, 1) := by decide +kernel
set_option maxRecDepth 20000 in
theorem ggX2_givenUp_X2_ok : GoodIn wsX2_givenUp wsX2_ok := goodIn_r _ [6, 7, 8, 9, 10, 11, 12, 13, 14, 15] (by decide +kernel) (by decide +kernel)
set_option maxRecDepth 20000 in
theorem gX2_givenUp_X2_ok : GoodIn wsX2_givenUp (wsV RX2 109 RX2 yX2_ok wsX2_ok) := goodIn_app (goodIn_of _ (by decide +kernel)) ggX2_givenUp_X2_ok
theorem dX2_givenUp_0 : decode cX2_givenUp 0 = .ok (.aload_n 0, 1) := by decide +kernel
theorem dX2_givenUp_1 : decode cX2_givenUp 1 = .ok (.aload_n 0, 1) := by decide +kernel
theorem dX2_givenUp_2 : decode cX2_givenUp 2 = .ok (.getfield 19, 3) := by decide +kernel
theorem dX2_givenUp_5 : decode cX2_givenUp 5 = .ok (.iconst 2, 1) := by decide +kernel
theorem dX2_givenUp_6 : decode cX2_givenUp 6 = .ok (.iaload, 1) := by decide +kernel
theorem dX2_givenUp_7 : decode cX2_givenUp 7 = .ok (.invokevirtual 109, 3) := by decide +kernel
theorem dX2_givenUp_10 : decode cX2_givenUp 10 = .ok (.ireturn, 1) := by decide +kernel
set_option maxRecDepth 20000 in
theorem ggX2_permitsOf_X2_isGate : GoodIn wsX2_permitsOf wsX2_isGate := goodIn_r _ [7, 8, 9, 10, 6, 11, 16, 17, 18, 19, 20, 21, 22, 23] (by decide +kernel) (by decide +kernel)
set_option maxRecDepth 20000 in
theorem gX2_permitsOf_X2_isGate : GoodIn wsX2_permitsOf (wsV RX2 93 RX2 yX2_isGate wsX2_isGate) := goodIn_app (goodIn_of _ (by decide +kernel)) ggX2_permitsOf_X2_isGate
set_option maxRecDepth 20000 in
theorem ggX2_permitsOf_X2_no : GoodIn wsX2_permitsOf wsX2_no := goodIn_r _ [15, 1, 16, 17, 18, 19, 20, 21, 22, 23] (by decide +kernel) (by decide +kernel)
set_option maxRecDepth 20000 in
theorem gX2_permitsOf_X2_no : GoodIn wsX2_permitsOf (wsV RX2 86 RX2 yX2_no wsX2_no) := goodIn_app (goodIn_of _ (by decide +kernel)) ggX2_permitsOf_X2_no
theorem dX2_permitsOf_0 : decode cX2_permitsOf 0 = .ok (.aload_n 0, 1) := by decide +kernel
theorem dX2_permitsOf_1 : decode cX2_permitsOf 1 = .ok (.iconst 0, 1) := by decide +kernel
theorem dX2_permitsOf_2 : decode cX2_permitsOf 2 = .ok (.putfield 25, 3) := by decide +kernel
theorem dX2_permitsOf_5 : decode cX2_permitsOf 5 = .ok (.aload_n 0, 1) := by decide +kernel
theorem dX2_permitsOf_6 : decode cX2_permitsOf 6 = .ok (.iload_n 1, 1) := by decide +kernel
theorem dX2_permitsOf_7 : decode cX2_permitsOf 7 = .ok (.invokevirtual 93, 3) := by decide +kernel
theorem dX2_permitsOf_10 : decode cX2_permitsOf 10 = .ok (.ifCond .eq 12, 3) := by decide +kernel
theorem dX2_permitsOf_13 : decode cX2_permitsOf 13 = .ok (.aload_n 0, 1) := by decide +kernel
theorem dX2_permitsOf_14 : decode cX2_permitsOf 14 = .ok (.getfield 9, 3) := by decide +kernel
theorem dX2_permitsOf_17 : decode cX2_permitsOf 17 = .ok (.iload_n 1, 1) := by decide +kernel
theorem dX2_permitsOf_18 : decode cX2_permitsOf 18 = .ok (.iaload, 1) := by decide +kernel
theorem dX2_permitsOf_19 : decode cX2_permitsOf 19 = .ok (.goto 8, 3) := by decide +kernel
theorem dX2_permitsOf_22 : decode cX2_permitsOf 22 = .ok (.aload_n 0, 1) := by decide +kernel
theorem dX2_permitsOf_23 : decode cX2_permitsOf 23 = .ok (.iconst 1, 1) := by decide +kernel
theorem dX2_permitsOf_24 : decode cX2_permitsOf 24 = .ok (.invokevirtual 86, 3) := by decide +kernel
theorem dX2_permitsOf_27 : decode cX2_permitsOf 27 = .ok (.ireturn, 1) := by decide +kernel
set_option maxRecDepth 20000 in
theorem ggX2_freeOf_X2_isGate : GoodIn wsX2_freeOf wsX2_isGate := goodIn_r _ [6, 7, 8, 9, 5, 10, 30, 31, 32, 33, 34, 35, 36, 37] (by decide +kernel) (by decide +kernel)
set_option maxRecDepth 20000 in
theorem gX2_freeOf_X2_isGate : GoodIn wsX2_freeOf (wsV RX2 93 RX2 yX2_isGate wsX2_isGate) := goodIn_app (goodIn_of _ (by decide +kernel)) ggX2_freeOf_X2_isGate
set_option maxRecDepth 20000 in
theorem ggX2_freeOf_X2_free : GoodIn wsX2_freeOf wsX2_free := goodIn_r _ [14, 15, 16, 17, 18, 19, 5, 20, 21, 22, 23, 24, 25, 30, 31, 32, 33, 34, 35, 36, 37] (by decide +kernel) (by decide +kernel)
set_option maxRecDepth 20000 in
theorem gX2_freeOf_X2_free : GoodIn wsX2_freeOf (wsV RX2 56 RX2 yX2_free wsX2_free) := goodIn_app (goodIn_of _ (by decide +kernel)) ggX2_freeOf_X2_free
set_option maxRecDepth 20000 in
theorem ggX2_freeOf_X2_no : GoodIn wsX2_freeOf wsX2_no := goodIn_r _ [29, 1, 30, 31, 32, 33, 34, 35, 36, 37] (by decide +kernel) (by decide +kernel)
set_option maxRecDepth 20000 in
theorem gX2_freeOf_X2_no : GoodIn wsX2_freeOf (wsV RX2 86 RX2 yX2_no wsX2_no) := goodIn_app (goodIn_of _ (by decide +kernel)) ggX2_freeOf_X2_no
theorem dX2_freeOf_0 : decode cX2_freeOf 0 = .ok (.aload_n 0, 1) := by decide +kernel
theorem dX2_freeOf_1 : decode cX2_freeOf 1 = .ok (.iconst 0, 1) := by decide +kernel
theorem dX2_freeOf_2 : decode cX2_freeOf 2 = .ok (.putfield 25, 3) := by decide +kernel
theorem dX2_freeOf_5 : decode cX2_freeOf 5 = .ok (.aload_n 0, 1) := by decide +kernel
theorem dX2_freeOf_6 : decode cX2_freeOf 6 = .ok (.iload_n 1, 1) := by decide +kernel
theorem dX2_freeOf_7 : decode cX2_freeOf 7 = .ok (.invokevirtual 93, 3) := by decide +kernel
theorem dX2_freeOf_10 : decode cX2_freeOf 10 = .ok (.ifCond .eq 11, 3) := by decide +kernel
theorem dX2_freeOf_13 : decode cX2_freeOf 13 = .ok (.aload_n 0, 1) := by decide +kernel
theorem dX2_freeOf_14 : decode cX2_freeOf 14 = .ok (.iload_n 1, 1) := by decide +kernel
theorem dX2_freeOf_15 : decode cX2_freeOf 15 = .ok (.invokevirtual 56, 3) := by decide +kernel
theorem dX2_freeOf_18 : decode cX2_freeOf 18 = .ok (.goto 8, 3) := by decide +kernel
theorem dX2_freeOf_21 : decode cX2_freeOf 21 = .ok (.aload_n 0, 1) := by decide +kernel
theorem dX2_freeOf_22 : decode cX2_freeOf 22 = .ok (.iconst 1, 1) := by decide +kernel
theorem dX2_freeOf_23 : decode cX2_freeOf 23 = .ok (.invokevirtual 86, 3) := by decide +kernel
theorem dX2_freeOf_26 : decode cX2_freeOf 26 = .ok (.ireturn, 1) := by decide +kernel
set_option maxRecDepth 20000 in
theorem ggX2_waitingAt_X2_isGate : GoodIn wsX2_waitingAt wsX2_isGate := goodIn_r _ [6, 7, 8, 9, 5, 10, 33, 34, 35, 36, 37, 38, 39, 40] (by decide +kernel) (by decide +kernel)
set_option maxRecDepth 20000 in
theorem gX2_waitingAt_X2_isGate : GoodIn wsX2_waitingAt (wsV RX2 93 RX2 yX2_isGate wsX2_isGate) := goodIn_app (goodIn_of _ (by decide +kernel)) ggX2_waitingAt_X2_isGate
set_option maxRecDepth 20000 in
theorem ggX2_waitingAt_X2_manyAt : GoodIn wsX2_waitingAt wsX2_manyAt := goodIn_r _ [14, 15, 16, 17, 18, 5, 19, 20, 21, 22, 23, 24, 25, 26, 27, 28, 33, 34, 35, 36, 37, 38, 39, 40] (by decide +kernel) (by decide +kernel)
set_option maxRecDepth 20000 in
theorem gX2_waitingAt_X2_manyAt : GoodIn wsX2_waitingAt (wsV RX2 100 RX2 yX2_manyAt wsX2_manyAt) := goodIn_app (goodIn_of _ (by decide +kernel)) ggX2_waitingAt_X2_manyAt
set_option maxRecDepth 20000 in
theorem ggX2_waitingAt_X2_no : GoodIn wsX2_waitingAt wsX2_no := goodIn_r _ [32, 1, 33, 34, 35, 36, 37, 38, 39, 40] (by decide +kernel) (by decide +kernel)
set_option maxRecDepth 20000 in
theorem gX2_waitingAt_X2_no : GoodIn wsX2_waitingAt (wsV RX2 86 RX2 yX2_no wsX2_no) := goodIn_app (goodIn_of _ (by decide +kernel)) ggX2_waitingAt_X2_no
theorem dX2_waitingAt_0 : decode cX2_waitingAt 0 = .ok (.aload_n 0, 1) := by decide +kernel
theorem dX2_waitingAt_1 : decode cX2_waitingAt 1 = .ok (.iconst 0, 1) := by decide +kernel
theorem dX2_waitingAt_2 : decode cX2_waitingAt 2 = .ok (.putfield 25, 3) := by decide +kernel
theorem dX2_waitingAt_5 : decode cX2_waitingAt 5 = .ok (.aload_n 0, 1) := by decide +kernel
theorem dX2_waitingAt_6 : decode cX2_waitingAt 6 = .ok (.iload_n 1, 1) := by decide +kernel
theorem dX2_waitingAt_7 : decode cX2_waitingAt 7 = .ok (.invokevirtual 93, 3) := by decide +kernel
theorem dX2_waitingAt_10 : decode cX2_waitingAt 10 = .ok (.ifCond .eq 11, 3) := by decide +kernel
theorem dX2_waitingAt_13 : decode cX2_waitingAt 13 = .ok (.aload_n 0, 1) := by decide +kernel
theorem dX2_waitingAt_14 : decode cX2_waitingAt 14 = .ok (.iload_n 1, 1) := by decide +kernel
theorem dX2_waitingAt_15 : decode cX2_waitingAt 15 = .ok (.invokevirtual 100, 3) := by decide +kernel
theorem dX2_waitingAt_18 : decode cX2_waitingAt 18 = .ok (.goto 8, 3) := by decide +kernel
theorem dX2_waitingAt_21 : decode cX2_waitingAt 21 = .ok (.aload_n 0, 1) := by decide +kernel
theorem dX2_waitingAt_22 : decode cX2_waitingAt 22 = .ok (.iconst 1, 1) := by decide +kernel
theorem dX2_waitingAt_23 : decode cX2_waitingAt 23 = .ok (.invokevirtual 86, 3) := by decide +kernel
theorem dX2_waitingAt_26 : decode cX2_waitingAt 26 = .ok (.ireturn, 1) := by decide +kernel
set_option maxRecDepth 20000 in
theorem ggX2_nextAt_X2_isGate : GoodIn wsX2_nextAt wsX2_isGate := goodIn_r _ [6, 7, 8, 9, 5, 10, 48, 49, 50, 51, 52, 53, 54, 55] (by decide +kernel) (by decide +kernel)
set_option maxRecDepth 20000 in
theorem gX2_nextAt_X2_isGate : GoodIn wsX2_nextAt (wsV RX2 93 RX2 yX2_isGate wsX2_isGate) := goodIn_app (goodIn_of _ (by decide +kernel)) ggX2_nextAt_X2_isGate
set_option maxRecDepth 20000 in
theorem ggX2_nextAt_X2_next : GoodIn wsX2_nextAt wsX2_next := goodIn_r _ [14, 15, 16, 17, 18, 19, 5, 20, 21, 22, 23, 24, 25, 26, 27, 28, 29, 30, 31, 32, 33, 34, 35, 36, 37, 38, 39, 40, 41, 42, 43, 48, 49, 50, 51, 52, 53, 54, 55] (by decide +kernel) (by decide +kernel)
set_option maxRecDepth 20000 in
theorem gX2_nextAt_X2_next : GoodIn wsX2_nextAt (wsV RX2 70 RX2 yX2_next wsX2_next) := goodIn_app (goodIn_of _ (by decide +kernel)) ggX2_nextAt_X2_next
set_option maxRecDepth 20000 in
theorem ggX2_nextAt_X2_no : GoodIn wsX2_nextAt wsX2_no := goodIn_r _ [47, 1, 48, 49, 50, 51, 52, 53, 54, 55] (by decide +kernel) (by decide +kernel)
set_option maxRecDepth 20000 in
theorem gX2_nextAt_X2_no : GoodIn wsX2_nextAt (wsV RX2 86 RX2 yX2_no wsX2_no) := goodIn_app (goodIn_of _ (by decide +kernel)) ggX2_nextAt_X2_no
theorem dX2_nextAt_0 : decode cX2_nextAt 0 = .ok (.aload_n 0, 1) := by decide +kernel
theorem dX2_nextAt_1 : decode cX2_nextAt 1 = .ok (.iconst 0, 1) := by decide +kernel
theorem dX2_nextAt_2 : decode cX2_nextAt 2 = .ok (.putfield 25, 3) := by decide +kernel
theorem dX2_nextAt_5 : decode cX2_nextAt 5 = .ok (.aload_n 0, 1) := by decide +kernel
theorem dX2_nextAt_6 : decode cX2_nextAt 6 = .ok (.iload_n 1, 1) := by decide +kernel
theorem dX2_nextAt_7 : decode cX2_nextAt 7 = .ok (.invokevirtual 93, 3) := by decide +kernel
theorem dX2_nextAt_10 : decode cX2_nextAt 10 = .ok (.ifCond .eq 11, 3) := by decide +kernel
theorem dX2_nextAt_13 : decode cX2_nextAt 13 = .ok (.aload_n 0, 1) := by decide +kernel
theorem dX2_nextAt_14 : decode cX2_nextAt 14 = .ok (.iload_n 1, 1) := by decide +kernel
theorem dX2_nextAt_15 : decode cX2_nextAt 15 = .ok (.invokevirtual 70, 3) := by decide +kernel
theorem dX2_nextAt_18 : decode cX2_nextAt 18 = .ok (.goto 8, 3) := by decide +kernel
theorem dX2_nextAt_21 : decode cX2_nextAt 21 = .ok (.aload_n 0, 1) := by decide +kernel
theorem dX2_nextAt_22 : decode cX2_nextAt 22 = .ok (.iconst 1, 1) := by decide +kernel
theorem dX2_nextAt_23 : decode cX2_nextAt 23 = .ok (.invokevirtual 86, 3) := by decide +kernel
theorem dX2_nextAt_26 : decode cX2_nextAt 26 = .ok (.ireturn, 1) := by decide +kernel
set_option maxRecDepth 20000 in
theorem ggX2_stateOf_X2_isGoat : GoodIn wsX2_stateOf wsX2_isGoat := goodIn_r _ [6, 7, 8, 9, 5, 10, 20, 21, 22, 23, 24, 25, 26, 27] (by decide +kernel) (by decide +kernel)
set_option maxRecDepth 20000 in
theorem gX2_stateOf_X2_isGoat : GoodIn wsX2_stateOf (wsV RX2 89 RX2 yX2_isGoat wsX2_isGoat) := goodIn_app (goodIn_of _ (by decide +kernel)) ggX2_stateOf_X2_isGoat
set_option maxRecDepth 20000 in
theorem ggX2_stateOf_X2_of : GoodIn wsX2_stateOf wsX2_of := goodIn_r _ [14, 15, 20, 21, 22, 23, 24, 25, 26, 27] (by decide +kernel) (by decide +kernel)
set_option maxRecDepth 20000 in
theorem gX2_stateOf_X2_of : GoodIn wsX2_stateOf (wsV RX2 45 RX2 yX2_of wsX2_of) := goodIn_app (goodIn_of _ (by decide +kernel)) ggX2_stateOf_X2_of
set_option maxRecDepth 20000 in
theorem ggX2_stateOf_X2_no : GoodIn wsX2_stateOf wsX2_no := goodIn_r _ [19, 1, 20, 21, 22, 23, 24, 25, 26, 27] (by decide +kernel) (by decide +kernel)
set_option maxRecDepth 20000 in
theorem gX2_stateOf_X2_no : GoodIn wsX2_stateOf (wsV RX2 86 RX2 yX2_no wsX2_no) := goodIn_app (goodIn_of _ (by decide +kernel)) ggX2_stateOf_X2_no
theorem dX2_stateOf_0 : decode cX2_stateOf 0 = .ok (.aload_n 0, 1) := by decide +kernel
theorem dX2_stateOf_1 : decode cX2_stateOf 1 = .ok (.iconst 0, 1) := by decide +kernel
theorem dX2_stateOf_2 : decode cX2_stateOf 2 = .ok (.putfield 25, 3) := by decide +kernel
theorem dX2_stateOf_5 : decode cX2_stateOf 5 = .ok (.aload_n 0, 1) := by decide +kernel
theorem dX2_stateOf_6 : decode cX2_stateOf 6 = .ok (.iload_n 1, 1) := by decide +kernel
theorem dX2_stateOf_7 : decode cX2_stateOf 7 = .ok (.invokevirtual 89, 3) := by decide +kernel
theorem dX2_stateOf_10 : decode cX2_stateOf 10 = .ok (.ifCond .eq 12, 3) := by decide +kernel
theorem dX2_stateOf_13 : decode cX2_stateOf 13 = .ok (.aload_n 0, 1) := by decide +kernel
theorem dX2_stateOf_14 : decode cX2_stateOf 14 = .ok (.iload_n 1, 1) := by decide +kernel
theorem dX2_stateOf_15 : decode cX2_stateOf 15 = .ok (.iconst 0, 1) := by decide +kernel
theorem dX2_stateOf_16 : decode cX2_stateOf 16 = .ok (.invokevirtual 45, 3) := by decide +kernel
theorem dX2_stateOf_19 : decode cX2_stateOf 19 = .ok (.goto 8, 3) := by decide +kernel
theorem dX2_stateOf_22 : decode cX2_stateOf 22 = .ok (.aload_n 0, 1) := by decide +kernel
theorem dX2_stateOf_23 : decode cX2_stateOf 23 = .ok (.iconst 1, 1) := by decide +kernel
theorem dX2_stateOf_24 : decode cX2_stateOf 24 = .ok (.invokevirtual 86, 3) := by decide +kernel
theorem dX2_stateOf_27 : decode cX2_stateOf 27 = .ok (.ireturn, 1) := by decide +kernel
set_option maxRecDepth 20000 in
theorem ggX2_where_X2_is : GoodIn wsX2_where wsX2_is := goodIn_r _ [5, 6, 7, 8, 4, 9, 10, 11, 12, 13, 14, 15, 16, 17, 18] (by decide +kernel) (by decide +kernel)
set_option maxRecDepth 20000 in
theorem gX2_where_X2_is : GoodIn wsX2_where (wsV RX2 49 RX2 yX2_is wsX2_is) := goodIn_app (goodIn_of _ (by decide +kernel)) ggX2_where_X2_is
set_option maxRecDepth 20000 in
theorem ggX2_where_X2_of : GoodIn wsX2_where wsX2_of := goodIn_r _ [9, 10, 11, 12, 13, 14, 15, 16, 17, 18] (by decide +kernel) (by decide +kernel)
set_option maxRecDepth 20000 in
theorem gX2_where_X2_of : GoodIn wsX2_where (wsV RX2 45 RX2 yX2_of wsX2_of) := goodIn_app (goodIn_of _ (by decide +kernel)) ggX2_where_X2_of
theorem dX2_where_0 : decode cX2_where 0 = .ok (.aload_n 0, 1) := by decide +kernel
theorem dX2_where_1 : decode cX2_where 1 = .ok (.iload_n 1, 1) := by decide +kernel
theorem dX2_where_2 : decode cX2_where 2 = .ok (.iconst 0, 1) := by decide +kernel
theorem dX2_where_3 : decode cX2_where 3 = .ok (.invokevirtual 49, 3) := by decide +kernel
theorem dX2_where_6 : decode cX2_where 6 = .ok (.ifCond .eq 7, 3) := by decide +kernel
theorem dX2_where_9 : decode cX2_where 9 = .ok (.iconst (-1), 1) := by decide +kernel
theorem dX2_where_10 : decode cX2_where 10 = .ok (.goto 9, 3) := by decide +kernel
theorem dX2_where_13 : decode cX2_where 13 = .ok (.aload_n 0, 1) := by decide +kernel
theorem dX2_where_14 : decode cX2_where 14 = .ok (.iload_n 1, 1) := by decide +kernel
theorem dX2_where_15 : decode cX2_where 15 = .ok (.iconst 1, 1) := by decide +kernel
theorem dX2_where_16 : decode cX2_where 16 = .ok (.invokevirtual 45, 3) := by decide +kernel
theorem dX2_where_19 : decode cX2_where 19 = .ok (.ireturn, 1) := by decide +kernel
set_option maxRecDepth 20000 in
theorem ggX2_gateOf_X2_isGoat : GoodIn wsX2_gateOf wsX2_isGoat := goodIn_r _ [6, 7, 8, 9, 5, 10, 28, 29, 30, 31, 32, 33, 34, 35] (by decide +kernel) (by decide +kernel)
set_option maxRecDepth 20000 in
theorem gX2_gateOf_X2_isGoat : GoodIn wsX2_gateOf (wsV RX2 89 RX2 yX2_isGoat wsX2_isGoat) := goodIn_app (goodIn_of _ (by decide +kernel)) ggX2_gateOf_X2_isGoat
set_option maxRecDepth 20000 in
theorem ggX2_gateOf_X2_where : GoodIn wsX2_gateOf wsX2_where := goodIn_r _ [14, 15, 16, 17, 5, 18, 19, 20, 21, 22, 23, 28, 29, 30, 31, 32, 33, 34, 35] (by decide +kernel) (by decide +kernel)
set_option maxRecDepth 20000 in
theorem gX2_gateOf_X2_where : GoodIn wsX2_gateOf (wsV RX2 119 RX2 yX2_where wsX2_where) := goodIn_app (goodIn_of _ (by decide +kernel)) ggX2_gateOf_X2_where
set_option maxRecDepth 20000 in
theorem ggX2_gateOf_X2_no : GoodIn wsX2_gateOf wsX2_no := goodIn_r _ [27, 1, 28, 29, 30, 31, 32, 33, 34, 35] (by decide +kernel) (by decide +kernel)
set_option maxRecDepth 20000 in
theorem gX2_gateOf_X2_no : GoodIn wsX2_gateOf (wsV RX2 86 RX2 yX2_no wsX2_no) := goodIn_app (goodIn_of _ (by decide +kernel)) ggX2_gateOf_X2_no
theorem dX2_gateOf_0 : decode cX2_gateOf 0 = .ok (.aload_n 0, 1) := by decide +kernel
theorem dX2_gateOf_1 : decode cX2_gateOf 1 = .ok (.iconst 0, 1) := by decide +kernel
theorem dX2_gateOf_2 : decode cX2_gateOf 2 = .ok (.putfield 25, 3) := by decide +kernel
theorem dX2_gateOf_5 : decode cX2_gateOf 5 = .ok (.aload_n 0, 1) := by decide +kernel
theorem dX2_gateOf_6 : decode cX2_gateOf 6 = .ok (.iload_n 1, 1) := by decide +kernel
theorem dX2_gateOf_7 : decode cX2_gateOf 7 = .ok (.invokevirtual 89, 3) := by decide +kernel
theorem dX2_gateOf_10 : decode cX2_gateOf 10 = .ok (.ifCond .eq 11, 3) := by decide +kernel
theorem dX2_gateOf_13 : decode cX2_gateOf 13 = .ok (.aload_n 0, 1) := by decide +kernel
theorem dX2_gateOf_14 : decode cX2_gateOf 14 = .ok (.iload_n 1, 1) := by decide +kernel
theorem dX2_gateOf_15 : decode cX2_gateOf 15 = .ok (.invokevirtual 119, 3) := by decide +kernel
theorem dX2_gateOf_18 : decode cX2_gateOf 18 = .ok (.goto 8, 3) := by decide +kernel
theorem dX2_gateOf_21 : decode cX2_gateOf 21 = .ok (.aload_n 0, 1) := by decide +kernel
theorem dX2_gateOf_22 : decode cX2_gateOf 22 = .ok (.iconst 1, 1) := by decide +kernel
theorem dX2_gateOf_23 : decode cX2_gateOf 23 = .ok (.invokevirtual 86, 3) := by decide +kernel
theorem dX2_gateOf_26 : decode cX2_gateOf 26 = .ok (.ireturn, 1) := by decide +kernel
set_option maxRecDepth 20000 in
theorem ggX2_holds_X2_isGoat : GoodIn wsX2_holds wsX2_isGoat := goodIn_r _ [6, 7, 8, 9, 5, 10, 28, 29, 30, 31, 32, 33, 34, 35] (by decide +kernel) (by decide +kernel)
set_option maxRecDepth 20000 in
theorem gX2_holds_X2_isGoat : GoodIn wsX2_holds (wsV RX2 89 RX2 yX2_isGoat wsX2_isGoat) := goodIn_app (goodIn_of _ (by decide +kernel)) ggX2_holds_X2_isGoat
set_option maxRecDepth 20000 in
theorem ggX2_holds_X2_held : GoodIn wsX2_holds wsX2_held := goodIn_r _ [14, 15, 16, 17, 5, 18, 19, 20, 21, 22, 23, 28, 29, 30, 31, 32, 33, 34, 35] (by decide +kernel) (by decide +kernel)
set_option maxRecDepth 20000 in
theorem gX2_holds_X2_held : GoodIn wsX2_holds (wsV RX2 103 RX2 yX2_held wsX2_held) := goodIn_app (goodIn_of _ (by decide +kernel)) ggX2_holds_X2_held
set_option maxRecDepth 20000 in
theorem ggX2_holds_X2_no : GoodIn wsX2_holds wsX2_no := goodIn_r _ [27, 1, 28, 29, 30, 31, 32, 33, 34, 35] (by decide +kernel) (by decide +kernel)
set_option maxRecDepth 20000 in
theorem gX2_holds_X2_no : GoodIn wsX2_holds (wsV RX2 86 RX2 yX2_no wsX2_no) := goodIn_app (goodIn_of _ (by decide +kernel)) ggX2_holds_X2_no
theorem dX2_holds_0 : decode cX2_holds 0 = .ok (.aload_n 0, 1) := by decide +kernel
theorem dX2_holds_1 : decode cX2_holds 1 = .ok (.iconst 0, 1) := by decide +kernel
theorem dX2_holds_2 : decode cX2_holds 2 = .ok (.putfield 25, 3) := by decide +kernel
theorem dX2_holds_5 : decode cX2_holds 5 = .ok (.aload_n 0, 1) := by decide +kernel
theorem dX2_holds_6 : decode cX2_holds 6 = .ok (.iload_n 1, 1) := by decide +kernel
theorem dX2_holds_7 : decode cX2_holds 7 = .ok (.invokevirtual 89, 3) := by decide +kernel
theorem dX2_holds_10 : decode cX2_holds 10 = .ok (.ifCond .eq 11, 3) := by decide +kernel
theorem dX2_holds_13 : decode cX2_holds 13 = .ok (.aload_n 0, 1) := by decide +kernel
theorem dX2_holds_14 : decode cX2_holds 14 = .ok (.iload_n 1, 1) := by decide +kernel
theorem dX2_holds_15 : decode cX2_holds 15 = .ok (.invokevirtual 103, 3) := by decide +kernel
theorem dX2_holds_18 : decode cX2_holds 18 = .ok (.goto 8, 3) := by decide +kernel
theorem dX2_holds_21 : decode cX2_holds 21 = .ok (.aload_n 0, 1) := by decide +kernel
theorem dX2_holds_22 : decode cX2_holds 22 = .ok (.iconst 1, 1) := by decide +kernel
theorem dX2_holds_23 : decode cX2_holds 23 = .ok (.invokevirtual 86, 3) := by decide +kernel
theorem dX2_holds_26 : decode cX2_holds 26 = .ok (.ireturn, 1) := by decide +kernel
set_option maxRecDepth 20000 in
theorem ggX2_seemingHorns_X2_isGoat : GoodIn wsX2_seemingHorns wsX2_isGoat := goodIn_r _ [6, 7, 8, 9, 5, 10, 29, 30, 31, 32, 33, 34, 35, 36] (by decide +kernel) (by decide +kernel)
set_option maxRecDepth 20000 in
theorem gX2_seemingHorns_X2_isGoat : GoodIn wsX2_seemingHorns (wsV RX2 89 RX2 yX2_isGoat wsX2_isGoat) := goodIn_app (goodIn_of _ (by decide +kernel)) ggX2_seemingHorns_X2_isGoat
set_option maxRecDepth 20000 in
theorem ggX2_seemingHorns_X2_seem : GoodIn wsX2_seemingHorns wsX2_seem := goodIn_r _ [14, 15, 16, 17, 18, 5, 19, 20, 21, 22, 23, 24, 29, 30, 31, 32, 33, 34, 35, 36] (by decide +kernel) (by decide +kernel)
set_option maxRecDepth 20000 in
theorem gX2_seemingHorns_X2_seem : GoodIn wsX2_seemingHorns (wsV RX2 63 RX2 yX2_seem wsX2_seem) := goodIn_app (goodIn_of _ (by decide +kernel)) ggX2_seemingHorns_X2_seem
set_option maxRecDepth 20000 in
theorem ggX2_seemingHorns_X2_no : GoodIn wsX2_seemingHorns wsX2_no := goodIn_r _ [28, 1, 29, 30, 31, 32, 33, 34, 35, 36] (by decide +kernel) (by decide +kernel)
set_option maxRecDepth 20000 in
theorem gX2_seemingHorns_X2_no : GoodIn wsX2_seemingHorns (wsV RX2 86 RX2 yX2_no wsX2_no) := goodIn_app (goodIn_of _ (by decide +kernel)) ggX2_seemingHorns_X2_no
theorem dX2_seemingHorns_0 : decode cX2_seemingHorns 0 = .ok (.aload_n 0, 1) := by decide +kernel
theorem dX2_seemingHorns_1 : decode cX2_seemingHorns 1 = .ok (.iconst 0, 1) := by decide +kernel
theorem dX2_seemingHorns_2 : decode cX2_seemingHorns 2 = .ok (.putfield 25, 3) := by decide +kernel
theorem dX2_seemingHorns_5 : decode cX2_seemingHorns 5 = .ok (.aload_n 0, 1) := by decide +kernel
theorem dX2_seemingHorns_6 : decode cX2_seemingHorns 6 = .ok (.iload_n 1, 1) := by decide +kernel
theorem dX2_seemingHorns_7 : decode cX2_seemingHorns 7 = .ok (.invokevirtual 89, 3) := by decide +kernel
theorem dX2_seemingHorns_10 : decode cX2_seemingHorns 10 = .ok (.ifCond .eq 11, 3) := by decide +kernel
theorem dX2_seemingHorns_13 : decode cX2_seemingHorns 13 = .ok (.aload_n 0, 1) := by decide +kernel
theorem dX2_seemingHorns_14 : decode cX2_seemingHorns 14 = .ok (.iload_n 1, 1) := by decide +kernel
theorem dX2_seemingHorns_15 : decode cX2_seemingHorns 15 = .ok (.invokevirtual 63, 3) := by decide +kernel
theorem dX2_seemingHorns_18 : decode cX2_seemingHorns 18 = .ok (.goto 8, 3) := by decide +kernel
theorem dX2_seemingHorns_21 : decode cX2_seemingHorns 21 = .ok (.aload_n 0, 1) := by decide +kernel
theorem dX2_seemingHorns_22 : decode cX2_seemingHorns 22 = .ok (.iconst 1, 1) := by decide +kernel
theorem dX2_seemingHorns_23 : decode cX2_seemingHorns 23 = .ok (.invokevirtual 86, 3) := by decide +kernel
theorem dX2_seemingHorns_26 : decode cX2_seemingHorns 26 = .ok (.ireturn, 1) := by decide +kernel
set_option maxRecDepth 20000 in
theorem ggX2_left_X2_is : GoodIn wsX2_left wsX2_is := goodIn_r _ [5, 6, 7, 8, 4, 9, 10, 11, 12, 13, 14, 15, 16, 17, 18] (by decide +kernel) (by decide +kernel)
set_option maxRecDepth 20000 in
theorem gX2_left_X2_is : GoodIn wsX2_left (wsV RX2 49 RX2 yX2_is wsX2_is) := goodIn_app (goodIn_of _ (by decide +kernel)) ggX2_left_X2_is
set_option maxRecDepth 20000 in
theorem ggX2_left_X2_of : GoodIn wsX2_left wsX2_of := goodIn_r _ [9, 10, 11, 12, 13, 14, 15, 16, 17, 18] (by decide +kernel) (by decide +kernel)
set_option maxRecDepth 20000 in
theorem gX2_left_X2_of : GoodIn wsX2_left (wsV RX2 45 RX2 yX2_of wsX2_of) := goodIn_app (goodIn_of _ (by decide +kernel)) ggX2_left_X2_of
theorem dX2_left_0 : decode cX2_left 0 = .ok (.aload_n 0, 1) := by decide +kernel
theorem dX2_left_1 : decode cX2_left 1 = .ok (.iload_n 1, 1) := by decide +kernel
theorem dX2_left_2 : decode cX2_left 2 = .ok (.iconst 1, 1) := by decide +kernel
theorem dX2_left_3 : decode cX2_left 3 = .ok (.invokevirtual 49, 3) := by decide +kernel
theorem dX2_left_6 : decode cX2_left 6 = .ok (.ifCond .eq 19, 3) := by decide +kernel
theorem dX2_left_9 : decode cX2_left 9 = .ok (.aload_n 0, 1) := by decide +kernel
theorem dX2_left_10 : decode cX2_left 10 = .ok (.iload_n 1, 1) := by decide +kernel
theorem dX2_left_11 : decode cX2_left 11 = .ok (.iconst 4, 1) := by decide +kernel
theorem dX2_left_12 : decode cX2_left 12 = .ok (.invokevirtual 45, 3) := by decide +kernel
theorem dX2_left_15 : decode cX2_left 15 = .ok (.aload_n 0, 1) := by decide +kernel
theorem dX2_left_16 : decode cX2_left 16 = .ok (.iload_n 1, 1) := by decide +kernel
theorem dX2_left_17 : decode cX2_left 17 = .ok (.iconst 5, 1) := by decide +kernel
theorem dX2_left_18 : decode cX2_left 18 = .ok (.invokevirtual 45, 3) := by decide +kernel
theorem dX2_left_21 : decode cX2_left 21 = .ok (.isub, 1) := by decide +kernel
theorem dX2_left_22 : decode cX2_left 22 = .ok (.goto 22, 3) := by decide +kernel
theorem dX2_left_25 : decode cX2_left 25 = .ok (.aload_n 0, 1) := by decide +kernel
theorem dX2_left_26 : decode cX2_left 26 = .ok (.iload_n 1, 1) := by decide +kernel
theorem dX2_left_27 : decode cX2_left 27 = .ok (.iconst 2, 1) := by decide +kernel
theorem dX2_left_28 : decode cX2_left 28 = .ok (.invokevirtual 49, 3) := by decide +kernel
theorem dX2_left_31 : decode cX2_left 31 = .ok (.ifCond .eq 12, 3) := by decide +kernel
theorem dX2_left_34 : decode cX2_left 34 = .ok (.aload_n 0, 1) := by decide +kernel
theorem dX2_left_35 : decode cX2_left 35 = .ok (.iload_n 1, 1) := by decide +kernel
theorem dX2_left_36 : decode cX2_left 36 = .ok (.iconst 3, 1) := by decide +kernel
theorem dX2_left_37 : decode cX2_left 37 = .ok (.invokevirtual 45, 3) := by decide +kernel
theorem dX2_left_40 : decode cX2_left 40 = .ok (.goto 4, 3) := by decide +kernel
theorem dX2_left_43 : decode cX2_left 43 = .ok (.iconst 0, 1) := by decide +kernel
theorem dX2_left_44 : decode cX2_left 44 = .ok (.ireturn, 1) := by decide +kernel
set_option maxRecDepth 20000 in
theorem ggX2_minutesLeft_X2_isGoat : GoodIn wsX2_minutesLeft wsX2_isGoat := goodIn_r _ [6, 7, 8, 9, 5, 10, 28, 29, 30, 31, 32, 33, 34, 35] (by decide +kernel) (by decide +kernel)
set_option maxRecDepth 20000 in
theorem gX2_minutesLeft_X2_isGoat : GoodIn wsX2_minutesLeft (wsV RX2 89 RX2 yX2_isGoat wsX2_isGoat) := goodIn_app (goodIn_of _ (by decide +kernel)) ggX2_minutesLeft_X2_isGoat
set_option maxRecDepth 20000 in
theorem ggX2_minutesLeft_X2_left : GoodIn wsX2_minutesLeft wsX2_left := goodIn_r _ [14, 15, 16, 17, 5, 18, 19, 20, 21, 22, 23, 28, 29, 30, 31, 32, 33, 34, 35] (by decide +kernel) (by decide +kernel)
set_option maxRecDepth 20000 in
theorem gX2_minutesLeft_X2_left : GoodIn wsX2_minutesLeft (wsV RX2 122 RX2 yX2_left wsX2_left) := goodIn_app (goodIn_of _ (by decide +kernel)) ggX2_minutesLeft_X2_left
set_option maxRecDepth 20000 in
theorem ggX2_minutesLeft_X2_no : GoodIn wsX2_minutesLeft wsX2_no := goodIn_r _ [27, 1, 28, 29, 30, 31, 32, 33, 34, 35] (by decide +kernel) (by decide +kernel)
set_option maxRecDepth 20000 in
theorem gX2_minutesLeft_X2_no : GoodIn wsX2_minutesLeft (wsV RX2 86 RX2 yX2_no wsX2_no) := goodIn_app (goodIn_of _ (by decide +kernel)) ggX2_minutesLeft_X2_no
theorem dX2_minutesLeft_0 : decode cX2_minutesLeft 0 = .ok (.aload_n 0, 1) := by decide +kernel
theorem dX2_minutesLeft_1 : decode cX2_minutesLeft 1 = .ok (.iconst 0, 1) := by decide +kernel
theorem dX2_minutesLeft_2 : decode cX2_minutesLeft 2 = .ok (.putfield 25, 3) := by decide +kernel
theorem dX2_minutesLeft_5 : decode cX2_minutesLeft 5 = .ok (.aload_n 0, 1) := by decide +kernel
theorem dX2_minutesLeft_6 : decode cX2_minutesLeft 6 = .ok (.iload_n 1, 1) := by decide +kernel
theorem dX2_minutesLeft_7 : decode cX2_minutesLeft 7 = .ok (.invokevirtual 89, 3) := by decide +kernel
theorem dX2_minutesLeft_10 : decode cX2_minutesLeft 10 = .ok (.ifCond .eq 11, 3) := by decide +kernel
theorem dX2_minutesLeft_13 : decode cX2_minutesLeft 13 = .ok (.aload_n 0, 1) := by decide +kernel
theorem dX2_minutesLeft_14 : decode cX2_minutesLeft 14 = .ok (.iload_n 1, 1) := by decide +kernel
theorem dX2_minutesLeft_15 : decode cX2_minutesLeft 15 = .ok (.invokevirtual 122, 3) := by decide +kernel
theorem dX2_minutesLeft_18 : decode cX2_minutesLeft 18 = .ok (.goto 8, 3) := by decide +kernel
theorem dX2_minutesLeft_21 : decode cX2_minutesLeft 21 = .ok (.aload_n 0, 1) := by decide +kernel
theorem dX2_minutesLeft_22 : decode cX2_minutesLeft 22 = .ok (.iconst 1, 1) := by decide +kernel
theorem dX2_minutesLeft_23 : decode cX2_minutesLeft 23 = .ok (.invokevirtual 86, 3) := by decide +kernel
theorem dX2_minutesLeft_26 : decode cX2_minutesLeft 26 = .ok (.ireturn, 1) := by decide +kernel
set_option maxRecDepth 20000 in
theorem ggX2_waitedOf_X2_isGoat : GoodIn wsX2_waitedOf wsX2_isGoat := goodIn_r _ [6, 7, 8, 9, 5, 10, 20, 21, 22, 23, 24, 25, 26, 27] (by decide +kernel) (by decide +kernel)
set_option maxRecDepth 20000 in
theorem gX2_waitedOf_X2_isGoat : GoodIn wsX2_waitedOf (wsV RX2 89 RX2 yX2_isGoat wsX2_isGoat) := goodIn_app (goodIn_of _ (by decide +kernel)) ggX2_waitedOf_X2_isGoat
set_option maxRecDepth 20000 in
theorem ggX2_waitedOf_X2_of : GoodIn wsX2_waitedOf wsX2_of := goodIn_r _ [14, 15, 20, 21, 22, 23, 24, 25, 26, 27] (by decide +kernel) (by decide +kernel)
set_option maxRecDepth 20000 in
theorem gX2_waitedOf_X2_of : GoodIn wsX2_waitedOf (wsV RX2 45 RX2 yX2_of wsX2_of) := goodIn_app (goodIn_of _ (by decide +kernel)) ggX2_waitedOf_X2_of
set_option maxRecDepth 20000 in
theorem ggX2_waitedOf_X2_no : GoodIn wsX2_waitedOf wsX2_no := goodIn_r _ [19, 1, 20, 21, 22, 23, 24, 25, 26, 27] (by decide +kernel) (by decide +kernel)
set_option maxRecDepth 20000 in
theorem gX2_waitedOf_X2_no : GoodIn wsX2_waitedOf (wsV RX2 86 RX2 yX2_no wsX2_no) := goodIn_app (goodIn_of _ (by decide +kernel)) ggX2_waitedOf_X2_no
theorem dX2_waitedOf_0 : decode cX2_waitedOf 0 = .ok (.aload_n 0, 1) := by decide +kernel
theorem dX2_waitedOf_1 : decode cX2_waitedOf 1 = .ok (.iconst 0, 1) := by decide +kernel
theorem dX2_waitedOf_2 : decode cX2_waitedOf 2 = .ok (.putfield 25, 3) := by decide +kernel
theorem dX2_waitedOf_5 : decode cX2_waitedOf 5 = .ok (.aload_n 0, 1) := by decide +kernel
theorem dX2_waitedOf_6 : decode cX2_waitedOf 6 = .ok (.iload_n 1, 1) := by decide +kernel
theorem dX2_waitedOf_7 : decode cX2_waitedOf 7 = .ok (.invokevirtual 89, 3) := by decide +kernel
theorem dX2_waitedOf_10 : decode cX2_waitedOf 10 = .ok (.ifCond .eq 13, 3) := by decide +kernel
theorem dX2_waitedOf_13 : decode cX2_waitedOf 13 = .ok (.aload_n 0, 1) := by decide +kernel
theorem dX2_waitedOf_14 : decode cX2_waitedOf 14 = .ok (.iload_n 1, 1) := by decide +kernel
theorem dX2_waitedOf_15 : decode cX2_waitedOf 15 = .ok (.bipush 6, 2) := by decide +kernel
theorem dX2_waitedOf_17 : decode cX2_waitedOf 17 = .ok (.invokevirtual 45, 3) := by decide +kernel
theorem dX2_waitedOf_20 : decode cX2_waitedOf 20 = .ok (.goto 8, 3) := by decide +kernel
theorem dX2_waitedOf_23 : decode cX2_waitedOf 23 = .ok (.aload_n 0, 1) := by decide +kernel
theorem dX2_waitedOf_24 : decode cX2_waitedOf 24 = .ok (.iconst 1, 1) := by decide +kernel
theorem dX2_waitedOf_25 : decode cX2_waitedOf 25 = .ok (.invokevirtual 86, 3) := by decide +kernel
theorem dX2_waitedOf_28 : decode cX2_waitedOf 28 = .ok (.ireturn, 1) := by decide +kernel
set_option maxRecDepth 20000 in
theorem ggX2_place_X2_is : GoodIn wsX2_place wsX2_is := goodIn_r _ [6, 7, 8, 9, 5, 10, 11, 16, 17, 18, 19, 20, 21, 22, 23] (by decide +kernel) (by decide +kernel)
set_option maxRecDepth 20000 in
theorem gX2_place_X2_is : GoodIn wsX2_place (wsV RX2 49 RX2 yX2_is wsX2_is) := goodIn_app (goodIn_of _ (by decide +kernel)) ggX2_place_X2_is
set_option maxRecDepth 20000 in
theorem ggX2_place_X2_of : GoodIn wsX2_place wsX2_of := goodIn_r _ [10, 11, 16, 17, 18, 19, 20, 21, 22, 23] (by decide +kernel) (by decide +kernel)
set_option maxRecDepth 20000 in
theorem gX2_place_X2_of : GoodIn wsX2_place (wsV RX2 45 RX2 yX2_of wsX2_of) := goodIn_app (goodIn_of _ (by decide +kernel)) ggX2_place_X2_of
set_option maxRecDepth 20000 in
theorem ggX2_place_X2_isAt : GoodIn wsX2_place wsX2_isAt := goodIn_r _ [15, 2, 3, 4, 5, 6, 7, 8, 9, 10, 11, 16, 17, 18, 19, 20, 21, 22, 23] (by decide +kernel) (by decide +kernel)
set_option maxRecDepth 20000 in
theorem gX2_place_X2_isAt : GoodIn wsX2_place (wsV RX2 53 RX2 yX2_isAt wsX2_isAt) := goodIn_app (goodIn_of _ (by decide +kernel)) ggX2_place_X2_isAt
theorem dX2_place_0 : decode cX2_place 0 = .ok (.aload_n 0, 1) := by decide +kernel
theorem dX2_place_1 : decode cX2_place 1 = .ok (.iload_n 1, 1) := by decide +kernel
theorem dX2_place_2 : decode cX2_place 2 = .ok (.iconst 1, 1) := by decide +kernel
theorem dX2_place_3 : decode cX2_place 3 = .ok (.invokevirtual 49, 3) := by decide +kernel
theorem dX2_place_6 : decode cX2_place 6 = .ok (.ifCond .ne 5, 3) := by decide +kernel
theorem dX2_place_9 : decode cX2_place 9 = .ok (.iconst (-1), 1) := by decide +kernel
theorem dX2_place_10 : decode cX2_place 10 = .ok (.ireturn, 1) := by decide +kernel
theorem dX2_place_11 : decode cX2_place 11 = .ok (.iconst 0, 1) := by decide +kernel
theorem dX2_place_12 : decode cX2_place 12 = .ok (.istore_n 2, 1) := by decide +kernel
theorem dX2_place_13 : decode cX2_place 13 = .ok (.iconst 0, 1) := by decide +kernel
theorem dX2_place_14 : decode cX2_place 14 = .ok (.istore_n 3, 1) := by decide +kernel
theorem dX2_place_15 : decode cX2_place 15 = .ok (.iload_n 3, 1) := by decide +kernel
theorem dX2_place_16 : decode cX2_place 16 = .ok (.aload_n 0, 1) := by decide +kernel
theorem dX2_place_17 : decode cX2_place 17 = .ok (.getfield 36, 3) := by decide +kernel
theorem dX2_place_20 : decode cX2_place 20 = .ok (.if_icmp .ge 48, 3) := by decide +kernel
theorem dX2_place_23 : decode cX2_place 23 = .ok (.iload_n 2, 1) := by decide +kernel
theorem dX2_place_24 : decode cX2_place 24 = .ok (.aload_n 0, 1) := by decide +kernel
theorem dX2_place_25 : decode cX2_place 25 = .ok (.iload_n 3, 1) := by decide +kernel
theorem dX2_place_26 : decode cX2_place 26 = .ok (.aload_n 0, 1) := by decide +kernel
theorem dX2_place_27 : decode cX2_place 27 = .ok (.iload_n 1, 1) := by decide +kernel
theorem dX2_place_28 : decode cX2_place 28 = .ok (.iconst 1, 1) := by decide +kernel
theorem dX2_place_29 : decode cX2_place 29 = .ok (.invokevirtual 45, 3) := by decide +kernel
theorem dX2_place_32 : decode cX2_place 32 = .ok (.invokevirtual 53, 3) := by decide +kernel
theorem dX2_place_35 : decode cX2_place 35 = .ok (.ifCond .eq 24, 3) := by decide +kernel
theorem dX2_place_38 : decode cX2_place 38 = .ok (.aload_n 0, 1) := by decide +kernel
theorem dX2_place_39 : decode cX2_place 39 = .ok (.iload_n 3, 1) := by decide +kernel
theorem dX2_place_40 : decode cX2_place 40 = .ok (.bipush 7, 2) := by decide +kernel
theorem dX2_place_42 : decode cX2_place 42 = .ok (.invokevirtual 45, 3) := by decide +kernel
theorem dX2_place_45 : decode cX2_place 45 = .ok (.aload_n 0, 1) := by decide +kernel
theorem dX2_place_46 : decode cX2_place 46 = .ok (.iload_n 1, 1) := by decide +kernel
theorem dX2_place_47 : decode cX2_place 47 = .ok (.bipush 7, 2) := by decide +kernel
theorem dX2_place_49 : decode cX2_place 49 = .ok (.invokevirtual 45, 3) := by decide +kernel
theorem dX2_place_52 : decode cX2_place 52 = .ok (.if_icmp .ge 7, 3) := by decide +kernel
theorem dX2_place_55 : decode cX2_place 55 = .ok (.iconst 1, 1) := by decide +kernel
theorem dX2_place_56 : decode cX2_place 56 = .ok (.goto 4, 3) := by decide +kernel
theorem dX2_place_59 : decode cX2_place 59 = .ok (.iconst 0, 1) := by decide +kernel
theorem dX2_place_60 : decode cX2_place 60 = .ok (.iadd, 1) := by decide +kernel
theorem dX2_place_61 : decode cX2_place 61 = .ok (.istore_n 2, 1) := by decide +kernel
theorem dX2_place_62 : decode cX2_place 62 = .ok (.iinc 3 1, 3) := by decide +kernel
theorem dX2_place_65 : decode cX2_place 65 = .ok (.goto (-50), 3) := by decide +kernel
theorem dX2_place_68 : decode cX2_place 68 = .ok (.iload_n 2, 1) := by decide +kernel
theorem dX2_place_69 : decode cX2_place 69 = .ok (.ireturn, 1) := by decide +kernel
set_option maxRecDepth 20000 in
theorem ggX2_placeInLine_X2_isGoat : GoodIn wsX2_placeInLine wsX2_isGoat := goodIn_r _ [6, 7, 8, 9, 5, 10, 32, 33, 34, 35, 36, 37, 38, 39] (by decide +kernel) (by decide +kernel)
set_option maxRecDepth 20000 in
theorem gX2_placeInLine_X2_isGoat : GoodIn wsX2_placeInLine (wsV RX2 89 RX2 yX2_isGoat wsX2_isGoat) := goodIn_app (goodIn_of _ (by decide +kernel)) ggX2_placeInLine_X2_isGoat
set_option maxRecDepth 20000 in
theorem ggX2_placeInLine_X2_place : GoodIn wsX2_placeInLine wsX2_place := goodIn_r _ [14, 7, 15, 16, 17, 5, 18, 19, 20, 21, 22, 23, 24, 25, 26, 27, 32, 33, 34, 35, 36, 37, 38, 39] (by decide +kernel) (by decide +kernel)
set_option maxRecDepth 20000 in
theorem gX2_placeInLine_X2_place : GoodIn wsX2_placeInLine (wsV RX2 125 RX2 yX2_place wsX2_place) := goodIn_app (goodIn_of _ (by decide +kernel)) ggX2_placeInLine_X2_place
set_option maxRecDepth 20000 in
theorem ggX2_placeInLine_X2_no : GoodIn wsX2_placeInLine wsX2_no := goodIn_r _ [31, 1, 32, 33, 34, 35, 36, 37, 38, 39] (by decide +kernel) (by decide +kernel)
set_option maxRecDepth 20000 in
theorem gX2_placeInLine_X2_no : GoodIn wsX2_placeInLine (wsV RX2 86 RX2 yX2_no wsX2_no) := goodIn_app (goodIn_of _ (by decide +kernel)) ggX2_placeInLine_X2_no
theorem dX2_placeInLine_0 : decode cX2_placeInLine 0 = .ok (.aload_n 0, 1) := by decide +kernel
theorem dX2_placeInLine_1 : decode cX2_placeInLine 1 = .ok (.iconst 0, 1) := by decide +kernel
theorem dX2_placeInLine_2 : decode cX2_placeInLine 2 = .ok (.putfield 25, 3) := by decide +kernel
theorem dX2_placeInLine_5 : decode cX2_placeInLine 5 = .ok (.aload_n 0, 1) := by decide +kernel
theorem dX2_placeInLine_6 : decode cX2_placeInLine 6 = .ok (.iload_n 1, 1) := by decide +kernel
theorem dX2_placeInLine_7 : decode cX2_placeInLine 7 = .ok (.invokevirtual 89, 3) := by decide +kernel
theorem dX2_placeInLine_10 : decode cX2_placeInLine 10 = .ok (.ifCond .eq 11, 3) := by decide +kernel
theorem dX2_placeInLine_13 : decode cX2_placeInLine 13 = .ok (.aload_n 0, 1) := by decide +kernel
theorem dX2_placeInLine_14 : decode cX2_placeInLine 14 = .ok (.iload_n 1, 1) := by decide +kernel
theorem dX2_placeInLine_15 : decode cX2_placeInLine 15 = .ok (.invokevirtual 125, 3) := by decide +kernel
theorem dX2_placeInLine_18 : decode cX2_placeInLine 18 = .ok (.goto 8, 3) := by decide +kernel
theorem dX2_placeInLine_21 : decode cX2_placeInLine 21 = .ok (.aload_n 0, 1) := by decide +kernel
theorem dX2_placeInLine_22 : decode cX2_placeInLine 22 = .ok (.iconst 1, 1) := by decide +kernel
theorem dX2_placeInLine_23 : decode cX2_placeInLine 23 = .ok (.invokevirtual 86, 3) := by decide +kernel
theorem dX2_placeInLine_26 : decode cX2_placeInLine 26 = .ok (.ireturn, 1) := by decide +kernel
set_option maxRecDepth 20000 in
theorem ggX2_until_X2_is : GoodIn wsX2_until wsX2_is := goodIn_r _ [5, 6, 7, 8, 4, 9, 10, 69, 70, 71, 72, 73, 74, 75, 76] (by decide +kernel) (by decide +kernel)
set_option maxRecDepth 20000 in
theorem gX2_until_X2_is : GoodIn wsX2_until (wsV RX2 49 RX2 yX2_is wsX2_is) := goodIn_app (goodIn_of _ (by decide +kernel)) ggX2_until_X2_is
set_option maxRecDepth 20000 in
theorem ggX2_until_X2_keep : GoodIn wsX2_until wsX2_keep := goodIn_r _ [14, 10, 15, 16, 17, 18, 19, 69, 70, 71, 72, 73, 74, 75, 76] (by decide +kernel) (by decide +kernel)
set_option maxRecDepth 20000 in
theorem gX2_until_X2_keep : GoodIn wsX2_until (wsV RX2 128 RX2 yX2_keep wsX2_keep) := goodIn_app (goodIn_of _ (by decide +kernel)) ggX2_until_X2_keep
set_option maxRecDepth 20000 in
theorem ggX2_until_X2_minuteOn : GoodIn wsX2_until wsX2_minuteOn := goodIn_r _ [23, 24, 25, 10, 26, 27, 28, 4, 29, 1, 2, 3, 5, 6, 7, 8, 9, 30, 31, 32, 33, 34, 35, 36, 37, 38, 39, 40, 41, 42, 43, 44, 45, 46, 47, 48, 49, 50, 51, 52, 53, 54, 55, 56, 57, 58, 59, 60, 61, 62, 63, 64, 69, 70, 71, 72, 73, 74, 75, 76] (by decide +kernel) (by decide +kernel)
set_option maxRecDepth 20000 in
theorem gX2_until_X2_minuteOn : GoodIn wsX2_until (wsV RX2 83 RX2 yX2_minuteOn wsX2_minuteOn) := goodIn_app (goodIn_of _ (by decide +kernel)) ggX2_until_X2_minuteOn
set_option maxRecDepth 20000 in
theorem ggX2_until_X2_bringBack : GoodIn wsX2_until wsX2_bringBack := goodIn_r _ [68, 15, 10, 16, 17, 18, 19, 69, 70, 71, 72, 73, 74, 75, 76] (by decide +kernel) (by decide +kernel)
set_option maxRecDepth 20000 in
theorem gX2_until_X2_bringBack : GoodIn wsX2_until (wsV RX2 131 RX2 yX2_bringBack wsX2_bringBack) := goodIn_app (goodIn_of _ (by decide +kernel)) ggX2_until_X2_bringBack
theorem dX2_until_0 : decode cX2_until 0 = .ok (.aload_n 0, 1) := by decide +kernel
theorem dX2_until_1 : decode cX2_until 1 = .ok (.iload_n 1, 1) := by decide +kernel
theorem dX2_until_2 : decode cX2_until 2 = .ok (.iconst 1, 1) := by decide +kernel
theorem dX2_until_3 : decode cX2_until 3 = .ok (.invokevirtual 49, 3) := by decide +kernel
theorem dX2_until_6 : decode cX2_until 6 = .ok (.ifCond .ne 5, 3) := by decide +kernel
theorem dX2_until_9 : decode cX2_until 9 = .ok (.iconst (-1), 1) := by decide +kernel
theorem dX2_until_10 : decode cX2_until 10 = .ok (.ireturn, 1) := by decide +kernel
theorem dX2_until_11 : decode cX2_until 11 = .ok (.aload_n 0, 1) := by decide +kernel
theorem dX2_until_12 : decode cX2_until 12 = .ok (.invokevirtual 128, 3) := by decide +kernel
theorem dX2_until_15 : decode cX2_until 15 = .ok (.iconst 0, 1) := by decide +kernel
theorem dX2_until_16 : decode cX2_until 16 = .ok (.istore_n 2, 1) := by decide +kernel
theorem dX2_until_17 : decode cX2_until 17 = .ok (.aload_n 0, 1) := by decide +kernel
theorem dX2_until_18 : decode cX2_until 18 = .ok (.iload_n 1, 1) := by decide +kernel
theorem dX2_until_19 : decode cX2_until 19 = .ok (.iconst 1, 1) := by decide +kernel
theorem dX2_until_20 : decode cX2_until 20 = .ok (.invokevirtual 49, 3) := by decide +kernel
theorem dX2_until_23 : decode cX2_until 23 = .ok (.ifCond .eq 13, 3) := by decide +kernel
theorem dX2_until_26 : decode cX2_until 26 = .ok (.aload_n 0, 1) := by decide +kernel
theorem dX2_until_27 : decode cX2_until 27 = .ok (.invokevirtual 83, 3) := by decide +kernel
theorem dX2_until_30 : decode cX2_until 30 = .ok (.iinc 2 1, 3) := by decide +kernel
theorem dX2_until_33 : decode cX2_until 33 = .ok (.goto (-16), 3) := by decide +kernel
theorem dX2_until_36 : decode cX2_until 36 = .ok (.aload_n 0, 1) := by decide +kernel
theorem dX2_until_37 : decode cX2_until 37 = .ok (.iload_n 1, 1) := by decide +kernel
theorem dX2_until_38 : decode cX2_until 38 = .ok (.iconst 2, 1) := by decide +kernel
theorem dX2_until_39 : decode cX2_until 39 = .ok (.invokevirtual 49, 3) := by decide +kernel
theorem dX2_until_42 : decode cX2_until 42 = .ok (.istore_n 3, 1) := by decide +kernel
theorem dX2_until_43 : decode cX2_until 43 = .ok (.aload_n 0, 1) := by decide +kernel
theorem dX2_until_44 : decode cX2_until 44 = .ok (.invokevirtual 131, 3) := by decide +kernel
theorem dX2_until_47 : decode cX2_until 47 = .ok (.iload_n 3, 1) := by decide +kernel
theorem dX2_until_48 : decode cX2_until 48 = .ok (.ifCond .eq 7, 3) := by decide +kernel
theorem dX2_until_51 : decode cX2_until 51 = .ok (.iload_n 2, 1) := by decide +kernel
theorem dX2_until_52 : decode cX2_until 52 = .ok (.goto 4, 3) := by decide +kernel
theorem dX2_until_55 : decode cX2_until 55 = .ok (.iconst (-1), 1) := by decide +kernel
theorem dX2_until_56 : decode cX2_until 56 = .ok (.ireturn, 1) := by decide +kernel
set_option maxRecDepth 20000 in
theorem ggX2_minutesUntilIn_X2_isGoat : GoodIn wsX2_minutesUntilIn wsX2_isGoat := goodIn_r _ [6, 7, 8, 9, 5, 10, 85, 86, 87, 88, 89, 90, 91, 92] (by decide +kernel) (by decide +kernel)
set_option maxRecDepth 20000 in
theorem gX2_minutesUntilIn_X2_isGoat : GoodIn wsX2_minutesUntilIn (wsV RX2 89 RX2 yX2_isGoat wsX2_isGoat) := goodIn_app (goodIn_of _ (by decide +kernel)) ggX2_minutesUntilIn_X2_isGoat
set_option maxRecDepth 20000 in
theorem ggX2_minutesUntilIn_X2_until : GoodIn wsX2_minutesUntilIn wsX2_until := goodIn_r _ [14, 15, 16, 17, 5, 18, 19, 20, 21, 22, 23, 24, 25, 26, 27, 28, 29, 30, 31, 32, 33, 34, 35, 36, 7, 37, 38, 39, 40, 41, 42, 43, 44, 45, 46, 47, 48, 49, 50, 51, 52, 53, 54, 55, 56, 57, 58, 59, 60, 61, 62, 63, 64, 65, 66, 67, 68, 69, 70, 71, 72, 73, 74, 75, 76, 77, 78, 79, 80, 85, 86, 87, 88, 89, 90, 91, 92] (by decide +kernel) (by decide +kernel)
set_option maxRecDepth 20000 in
theorem gX2_minutesUntilIn_X2_until : GoodIn wsX2_minutesUntilIn (wsV RX2 134 RX2 yX2_until wsX2_until) := goodIn_app (goodIn_of _ (by decide +kernel)) ggX2_minutesUntilIn_X2_until
set_option maxRecDepth 20000 in
theorem ggX2_minutesUntilIn_X2_no : GoodIn wsX2_minutesUntilIn wsX2_no := goodIn_r _ [84, 1, 85, 86, 87, 88, 89, 90, 91, 92] (by decide +kernel) (by decide +kernel)
set_option maxRecDepth 20000 in
theorem gX2_minutesUntilIn_X2_no : GoodIn wsX2_minutesUntilIn (wsV RX2 86 RX2 yX2_no wsX2_no) := goodIn_app (goodIn_of _ (by decide +kernel)) ggX2_minutesUntilIn_X2_no
theorem dX2_minutesUntilIn_0 : decode cX2_minutesUntilIn 0 = .ok (.aload_n 0, 1) := by decide +kernel
theorem dX2_minutesUntilIn_1 : decode cX2_minutesUntilIn 1 = .ok (.iconst 0, 1) := by decide +kernel
theorem dX2_minutesUntilIn_2 : decode cX2_minutesUntilIn 2 = .ok (.putfield 25, 3) := by decide +kernel
theorem dX2_minutesUntilIn_5 : decode cX2_minutesUntilIn 5 = .ok (.aload_n 0, 1) := by decide +kernel
theorem dX2_minutesUntilIn_6 : decode cX2_minutesUntilIn 6 = .ok (.iload_n 1, 1) := by decide +kernel
theorem dX2_minutesUntilIn_7 : decode cX2_minutesUntilIn 7 = .ok (.invokevirtual 89, 3) := by decide +kernel
theorem dX2_minutesUntilIn_10 : decode cX2_minutesUntilIn 10 = .ok (.ifCond .eq 11, 3) := by decide +kernel
theorem dX2_minutesUntilIn_13 : decode cX2_minutesUntilIn 13 = .ok (.aload_n 0, 1) := by decide +kernel
theorem dX2_minutesUntilIn_14 : decode cX2_minutesUntilIn 14 = .ok (.iload_n 1, 1) := by decide +kernel
theorem dX2_minutesUntilIn_15 : decode cX2_minutesUntilIn 15 = .ok (.invokevirtual 134, 3) := by decide +kernel
theorem dX2_minutesUntilIn_18 : decode cX2_minutesUntilIn 18 = .ok (.goto 8, 3) := by decide +kernel
theorem dX2_minutesUntilIn_21 : decode cX2_minutesUntilIn 21 = .ok (.aload_n 0, 1) := by decide +kernel
theorem dX2_minutesUntilIn_22 : decode cX2_minutesUntilIn 22 = .ok (.iconst 1, 1) := by decide +kernel
theorem dX2_minutesUntilIn_23 : decode cX2_minutesUntilIn 23 = .ok (.invokevirtual 86, 3) := by decide +kernel
theorem dX2_minutesUntilIn_26 : decode cX2_minutesUntilIn 26 = .ok (.ireturn, 1) := by decide +kernel
set_option maxRecDepth 20000 in
theorem ggX2_givingUpIn_X2_isIn : GoodIn wsX2_givingUpIn wsX2_isIn := goodIn_r _ [7] (by decide +kernel) (by decide +kernel)
set_option maxRecDepth 20000 in
theorem gX2_givingUpIn_X2_isIn : GoodIn wsX2_givingUpIn (va_wsS RX2 32 yX2_isIn wsX2_isIn) := goodIn_app (goodIn_of _ (by decide +kernel)) ggX2_givingUpIn_X2_isIn
set_option maxRecDepth 20000 in
theorem ggX2_givingUpIn_X2_no : GoodIn wsX2_givingUpIn wsX2_no := goodIn_r _ [11, 1, 81, 82, 83, 84, 85, 86, 87, 88] (by decide +kernel) (by decide +kernel)
set_option maxRecDepth 20000 in
theorem gX2_givingUpIn_X2_no : GoodIn wsX2_givingUpIn (wsV RX2 86 RX2 yX2_no wsX2_no) := goodIn_app (goodIn_of _ (by decide +kernel)) ggX2_givingUpIn_X2_no
set_option maxRecDepth 20000 in
theorem ggX2_givingUpIn_X2_keep : GoodIn wsX2_givingUpIn wsX2_keep := goodIn_r _ [15, 2, 3, 16, 17, 18, 19, 81, 82, 83, 84, 85, 86, 87, 88] (by decide +kernel) (by decide +kernel)
set_option maxRecDepth 20000 in
theorem gX2_givingUpIn_X2_keep : GoodIn wsX2_givingUpIn (wsV RX2 128 RX2 yX2_keep wsX2_keep) := goodIn_app (goodIn_of _ (by decide +kernel)) ggX2_givingUpIn_X2_keep
set_option maxRecDepth 20000 in
theorem ggX2_givingUpIn_X2_minutesOn : GoodIn wsX2_givingUpIn wsX2_minutesOn := goodIn_r _ [23, 24, 25, 26, 6, 27, 28, 29, 2, 30, 31, 32, 33, 34, 35, 36, 37, 38, 39, 40, 41, 42, 43, 44, 45, 46, 47, 48, 49, 50, 51, 52, 53, 54, 55, 56, 57, 58, 59, 60, 61, 62, 63, 64, 65, 66, 67, 68, 69, 70, 71, 72, 73, 74, 75, 76, 81, 82, 83, 84, 85, 86, 87, 88] (by decide +kernel) (by decide +kernel)
set_option maxRecDepth 20000 in
theorem gX2_givingUpIn_X2_minutesOn : GoodIn wsX2_givingUpIn (wsV RX2 106 RX2 yX2_minutesOn wsX2_minutesOn) := goodIn_app (goodIn_of _ (by decide +kernel)) ggX2_givingUpIn_X2_minutesOn
set_option maxRecDepth 20000 in
theorem ggX2_givingUpIn_X2_bringBack : GoodIn wsX2_givingUpIn wsX2_bringBack := goodIn_r _ [80, 3, 2, 16, 17, 18, 19, 81, 82, 83, 84, 85, 86, 87, 88] (by decide +kernel) (by decide +kernel)
set_option maxRecDepth 20000 in
theorem gX2_givingUpIn_X2_bringBack : GoodIn wsX2_givingUpIn (wsV RX2 131 RX2 yX2_bringBack wsX2_bringBack) := goodIn_app (goodIn_of _ (by decide +kernel)) ggX2_givingUpIn_X2_bringBack
theorem dX2_givingUpIn_0 : decode cX2_givingUpIn 0 = .ok (.aload_n 0, 1) := by decide +kernel
theorem dX2_givingUpIn_1 : decode cX2_givingUpIn 1 = .ok (.iconst 0, 1) := by decide +kernel
theorem dX2_givingUpIn_2 : decode cX2_givingUpIn 2 = .ok (.putfield 25, 3) := by decide +kernel
theorem dX2_givingUpIn_5 : decode cX2_givingUpIn 5 = .ok (.iload_n 1, 1) := by decide +kernel
theorem dX2_givingUpIn_6 : decode cX2_givingUpIn 6 = .ok (.iconst 1, 1) := by decide +kernel
theorem dX2_givingUpIn_7 : decode cX2_givingUpIn 7 = .ok (.bipush 60, 2) := by decide +kernel
theorem dX2_givingUpIn_9 : decode cX2_givingUpIn 9 = .ok (.invokestatic 32, 3) := by decide +kernel
theorem dX2_givingUpIn_12 : decode cX2_givingUpIn 12 = .ok (.ifCond .ne 9, 3) := by decide +kernel
theorem dX2_givingUpIn_15 : decode cX2_givingUpIn 15 = .ok (.aload_n 0, 1) := by decide +kernel
theorem dX2_givingUpIn_16 : decode cX2_givingUpIn 16 = .ok (.iconst 1, 1) := by decide +kernel
theorem dX2_givingUpIn_17 : decode cX2_givingUpIn 17 = .ok (.invokevirtual 86, 3) := by decide +kernel
theorem dX2_givingUpIn_20 : decode cX2_givingUpIn 20 = .ok (.ireturn, 1) := by decide +kernel
theorem dX2_givingUpIn_21 : decode cX2_givingUpIn 21 = .ok (.aload_n 0, 1) := by decide +kernel
theorem dX2_givingUpIn_22 : decode cX2_givingUpIn 22 = .ok (.invokevirtual 128, 3) := by decide +kernel
theorem dX2_givingUpIn_25 : decode cX2_givingUpIn 25 = .ok (.aload_n 0, 1) := by decide +kernel
theorem dX2_givingUpIn_26 : decode cX2_givingUpIn 26 = .ok (.iload_n 1, 1) := by decide +kernel
theorem dX2_givingUpIn_27 : decode cX2_givingUpIn 27 = .ok (.invokevirtual 106, 3) := by decide +kernel
theorem dX2_givingUpIn_30 : decode cX2_givingUpIn 30 = .ok (.aload_n 0, 1) := by decide +kernel
theorem dX2_givingUpIn_31 : decode cX2_givingUpIn 31 = .ok (.getfield 19, 3) := by decide +kernel
theorem dX2_givingUpIn_34 : decode cX2_givingUpIn 34 = .ok (.iconst 2, 1) := by decide +kernel
theorem dX2_givingUpIn_35 : decode cX2_givingUpIn 35 = .ok (.iaload, 1) := by decide +kernel
theorem dX2_givingUpIn_36 : decode cX2_givingUpIn 36 = .ok (.aload_n 0, 1) := by decide +kernel
theorem dX2_givingUpIn_37 : decode cX2_givingUpIn 37 = .ok (.getfield 22, 3) := by decide +kernel
theorem dX2_givingUpIn_40 : decode cX2_givingUpIn 40 = .ok (.iconst 2, 1) := by decide +kernel
theorem dX2_givingUpIn_41 : decode cX2_givingUpIn 41 = .ok (.iaload, 1) := by decide +kernel
theorem dX2_givingUpIn_42 : decode cX2_givingUpIn 42 = .ok (.isub, 1) := by decide +kernel
theorem dX2_givingUpIn_43 : decode cX2_givingUpIn 43 = .ok (.istore_n 2, 1) := by decide +kernel
theorem dX2_givingUpIn_44 : decode cX2_givingUpIn 44 = .ok (.aload_n 0, 1) := by decide +kernel
theorem dX2_givingUpIn_45 : decode cX2_givingUpIn 45 = .ok (.invokevirtual 131, 3) := by decide +kernel
theorem dX2_givingUpIn_48 : decode cX2_givingUpIn 48 = .ok (.iload_n 2, 1) := by decide +kernel
theorem dX2_givingUpIn_49 : decode cX2_givingUpIn 49 = .ok (.ireturn, 1) := by decide +kernel
set_option maxRecDepth 20000 in
theorem ggX2_lost_X2_isAt : GoodIn wsX2_lost wsX2_isAt := goodIn_r _ [6, 7, 8, 9, 5, 10, 11, 12, 13, 14, 15, 69, 70, 71, 72, 73, 74, 75, 76] (by decide +kernel) (by decide +kernel)
set_option maxRecDepth 20000 in
theorem gX2_lost_X2_isAt : GoodIn wsX2_lost (wsV RX2 53 RX2 yX2_isAt wsX2_isAt) := goodIn_app (goodIn_of _ (by decide +kernel)) ggX2_lost_X2_isAt
set_option maxRecDepth 20000 in
theorem ggX2_lost_X2_keep : GoodIn wsX2_lost wsX2_keep := goodIn_r _ [19, 15, 20, 21, 22, 23, 24, 69, 70, 71, 72, 73, 74, 75, 76] (by decide +kernel) (by decide +kernel)
set_option maxRecDepth 20000 in
theorem gX2_lost_X2_keep : GoodIn wsX2_lost (wsV RX2 128 RX2 yX2_keep wsX2_keep) := goodIn_app (goodIn_of _ (by decide +kernel)) ggX2_lost_X2_keep
set_option maxRecDepth 20000 in
theorem ggX2_lost_X2_minuteOn : GoodIn wsX2_lost wsX2_minuteOn := goodIn_r _ [28, 1, 29, 15, 30, 31, 32, 5, 33, 7, 8, 9, 10, 11, 12, 13, 14, 34, 35, 36, 37, 38, 39, 40, 41, 42, 43, 44, 45, 46, 47, 48, 49, 50, 51, 52, 53, 54, 55, 2, 3, 4, 6, 56, 57, 58, 59, 60, 61, 62, 63, 64, 69, 70, 71, 72, 73, 74, 75, 76] (by decide +kernel) (by decide +kernel)
set_option maxRecDepth 20000 in
theorem gX2_lost_X2_minuteOn : GoodIn wsX2_lost (wsV RX2 83 RX2 yX2_minuteOn wsX2_minuteOn) := goodIn_app (goodIn_of _ (by decide +kernel)) ggX2_lost_X2_minuteOn
set_option maxRecDepth 20000 in
theorem ggX2_lost_X2_is : GoodIn wsX2_lost wsX2_is := goodIn_r _ [10, 11, 12, 13, 5, 14, 15, 69, 70, 71, 72, 73, 74, 75, 76] (by decide +kernel) (by decide +kernel)
set_option maxRecDepth 20000 in
theorem gX2_lost_X2_is : GoodIn wsX2_lost (wsV RX2 49 RX2 yX2_is wsX2_is) := goodIn_app (goodIn_of _ (by decide +kernel)) ggX2_lost_X2_is
set_option maxRecDepth 20000 in
theorem ggX2_lost_X2_bringBack : GoodIn wsX2_lost wsX2_bringBack := goodIn_r _ [68, 20, 15, 21, 22, 23, 24, 69, 70, 71, 72, 73, 74, 75, 76] (by decide +kernel) (by decide +kernel)
set_option maxRecDepth 20000 in
theorem gX2_lost_X2_bringBack : GoodIn wsX2_lost (wsV RX2 131 RX2 yX2_bringBack wsX2_bringBack) := goodIn_app (goodIn_of _ (by decide +kernel)) ggX2_lost_X2_bringBack
theorem dX2_lost_0 : decode cX2_lost 0 = .ok (.iconst 0, 1) := by decide +kernel
theorem dX2_lost_1 : decode cX2_lost 1 = .ok (.istore_n 2, 1) := by decide +kernel
theorem dX2_lost_2 : decode cX2_lost 2 = .ok (.iconst 0, 1) := by decide +kernel
theorem dX2_lost_3 : decode cX2_lost 3 = .ok (.istore_n 3, 1) := by decide +kernel
theorem dX2_lost_4 : decode cX2_lost 4 = .ok (.iload_n 3, 1) := by decide +kernel
theorem dX2_lost_5 : decode cX2_lost 5 = .ok (.aload_n 0, 1) := by decide +kernel
theorem dX2_lost_6 : decode cX2_lost 6 = .ok (.getfield 36, 3) := by decide +kernel
theorem dX2_lost_9 : decode cX2_lost 9 = .ok (.if_icmp .ge 28, 3) := by decide +kernel
theorem dX2_lost_12 : decode cX2_lost 12 = .ok (.iload_n 2, 1) := by decide +kernel
theorem dX2_lost_13 : decode cX2_lost 13 = .ok (.aload_n 0, 1) := by decide +kernel
theorem dX2_lost_14 : decode cX2_lost 14 = .ok (.iload_n 3, 1) := by decide +kernel
theorem dX2_lost_15 : decode cX2_lost 15 = .ok (.iload_n 1, 1) := by decide +kernel
theorem dX2_lost_16 : decode cX2_lost 16 = .ok (.invokevirtual 53, 3) := by decide +kernel
theorem dX2_lost_19 : decode cX2_lost 19 = .ok (.ifCond .eq 9, 3) := by decide +kernel
theorem dX2_lost_22 : decode cX2_lost 22 = .ok (.iconst 1, 1) := by decide +kernel
theorem dX2_lost_23 : decode cX2_lost 23 = .ok (.iload_n 3, 1) := by decide +kernel
theorem dX2_lost_24 : decode cX2_lost 24 = .ok (.ishl, 1) := by decide +kernel
theorem dX2_lost_25 : decode cX2_lost 25 = .ok (.goto 4, 3) := by decide +kernel
theorem dX2_lost_28 : decode cX2_lost 28 = .ok (.iconst 0, 1) := by decide +kernel
theorem dX2_lost_29 : decode cX2_lost 29 = .ok (.ior, 1) := by decide +kernel
theorem dX2_lost_30 : decode cX2_lost 30 = .ok (.istore_n 2, 1) := by decide +kernel
theorem dX2_lost_31 : decode cX2_lost 31 = .ok (.iinc 3 1, 3) := by decide +kernel
theorem dX2_lost_34 : decode cX2_lost 34 = .ok (.goto (-30), 3) := by decide +kernel
theorem dX2_lost_37 : decode cX2_lost 37 = .ok (.aload_n 0, 1) := by decide +kernel
theorem dX2_lost_38 : decode cX2_lost 38 = .ok (.invokevirtual 128, 3) := by decide +kernel
theorem dX2_lost_41 : decode cX2_lost 41 = .ok (.iconst 0, 1) := by decide +kernel
theorem dX2_lost_42 : decode cX2_lost 42 = .ok (.istore_n 3, 1) := by decide +kernel
theorem dX2_lost_43 : decode cX2_lost 43 = .ok (.iconst 0, 1) := by decide +kernel
theorem dX2_lost_44 : decode cX2_lost 44 = .ok (.istore 4, 2) := by decide +kernel
theorem dX2_lost_46 : decode cX2_lost 46 = .ok (.iload 4, 2) := by decide +kernel
theorem dX2_lost_48 : decode cX2_lost 48 = .ok (.bipush 60, 2) := by decide +kernel
theorem dX2_lost_50 : decode cX2_lost 50 = .ok (.if_icmp .ge 80, 3) := by decide +kernel
theorem dX2_lost_53 : decode cX2_lost 53 = .ok (.aload_n 0, 1) := by decide +kernel
theorem dX2_lost_54 : decode cX2_lost 54 = .ok (.invokevirtual 83, 3) := by decide +kernel
theorem dX2_lost_57 : decode cX2_lost 57 = .ok (.iconst 0, 1) := by decide +kernel
theorem dX2_lost_58 : decode cX2_lost 58 = .ok (.istore 5, 2) := by decide +kernel
theorem dX2_lost_60 : decode cX2_lost 60 = .ok (.iload 5, 2) := by decide +kernel
theorem dX2_lost_62 : decode cX2_lost 62 = .ok (.aload_n 0, 1) := by decide +kernel
theorem dX2_lost_63 : decode cX2_lost 63 = .ok (.getfield 36, 3) := by decide +kernel
theorem dX2_lost_66 : decode cX2_lost 66 = .ok (.if_icmp .ge 58, 3) := by decide +kernel
theorem dX2_lost_69 : decode cX2_lost 69 = .ok (.iload_n 2, 1) := by decide +kernel
theorem dX2_lost_70 : decode cX2_lost 70 = .ok (.iload 5, 2) := by decide +kernel
theorem dX2_lost_72 : decode cX2_lost 72 = .ok (.ishr, 1) := by decide +kernel
theorem dX2_lost_73 : decode cX2_lost 73 = .ok (.iconst 1, 1) := by decide +kernel
theorem dX2_lost_74 : decode cX2_lost 74 = .ok (.iand, 1) := by decide +kernel
theorem dX2_lost_75 : decode cX2_lost 75 = .ok (.ifCond .eq 43, 3) := by decide +kernel
theorem dX2_lost_78 : decode cX2_lost 78 = .ok (.aload_n 0, 1) := by decide +kernel
theorem dX2_lost_79 : decode cX2_lost 79 = .ok (.iload 5, 2) := by decide +kernel
theorem dX2_lost_81 : decode cX2_lost 81 = .ok (.iconst 1, 1) := by decide +kernel
theorem dX2_lost_82 : decode cX2_lost 82 = .ok (.invokevirtual 49, 3) := by decide +kernel
theorem dX2_lost_85 : decode cX2_lost 85 = .ok (.ifCond .eq 6, 3) := by decide +kernel
theorem dX2_lost_88 : decode cX2_lost 88 = .ok (.goto 30, 3) := by decide +kernel
theorem dX2_lost_91 : decode cX2_lost 91 = .ok (.iload_n 3, 1) := by decide +kernel
theorem dX2_lost_92 : decode cX2_lost 92 = .ok (.aload_n 0, 1) := by decide +kernel
theorem dX2_lost_93 : decode cX2_lost 93 = .ok (.iload 5, 2) := by decide +kernel
theorem dX2_lost_95 : decode cX2_lost 95 = .ok (.iconst 0, 1) := by decide +kernel
theorem dX2_lost_96 : decode cX2_lost 96 = .ok (.invokevirtual 49, 3) := by decide +kernel
theorem dX2_lost_99 : decode cX2_lost 99 = .ok (.ifCond .eq 7, 3) := by decide +kernel
theorem dX2_lost_102 : decode cX2_lost 102 = .ok (.iconst 1, 1) := by decide +kernel
theorem dX2_lost_103 : decode cX2_lost 103 = .ok (.goto 4, 3) := by decide +kernel
theorem dX2_lost_106 : decode cX2_lost 106 = .ok (.iconst 0, 1) := by decide +kernel
theorem dX2_lost_107 : decode cX2_lost 107 = .ok (.iadd, 1) := by decide +kernel
theorem dX2_lost_108 : decode cX2_lost 108 = .ok (.istore_n 3, 1) := by decide +kernel
theorem dX2_lost_109 : decode cX2_lost 109 = .ok (.iload_n 2, 1) := by decide +kernel
theorem dX2_lost_110 : decode cX2_lost 110 = .ok (.iconst 1, 1) := by decide +kernel
theorem dX2_lost_111 : decode cX2_lost 111 = .ok (.iload 5, 2) := by decide +kernel
theorem dX2_lost_113 : decode cX2_lost 113 = .ok (.ishl, 1) := by decide +kernel
theorem dX2_lost_114 : decode cX2_lost 114 = .ok (.iconst (-1), 1) := by decide +kernel
theorem dX2_lost_115 : decode cX2_lost 115 = .ok (.ixor, 1) := by decide +kernel
theorem dX2_lost_116 : decode cX2_lost 116 = .ok (.iand, 1) := by decide +kernel
theorem dX2_lost_117 : decode cX2_lost 117 = .ok (.istore_n 2, 1) := by decide +kernel
theorem dX2_lost_118 : decode cX2_lost 118 = .ok (.iinc 5 1, 3) := by decide +kernel
theorem dX2_lost_121 : decode cX2_lost 121 = .ok (.goto (-61), 3) := by decide +kernel
theorem dX2_lost_124 : decode cX2_lost 124 = .ok (.iinc 4 1, 3) := by decide +kernel
theorem dX2_lost_127 : decode cX2_lost 127 = .ok (.goto (-81), 3) := by decide +kernel
theorem dX2_lost_130 : decode cX2_lost 130 = .ok (.aload_n 0, 1) := by decide +kernel
theorem dX2_lost_131 : decode cX2_lost 131 = .ok (.invokevirtual 131, 3) := by decide +kernel
theorem dX2_lost_134 : decode cX2_lost 134 = .ok (.iload_n 3, 1) := by decide +kernel
theorem dX2_lost_135 : decode cX2_lost 135 = .ok (.ireturn, 1) := by decide +kernel
set_option maxRecDepth 20000 in
theorem ggX2_wanted_X2_lost : GoodIn wsX2_wanted wsX2_lost := goodIn_r _ [6, 7, 8, 9, 10, 5, 11, 12, 13, 14, 15, 16, 17, 18, 19, 20, 21, 22, 23, 24, 25, 26, 27, 28, 29, 30, 31, 32, 33, 34, 35, 36, 37, 38, 39, 40, 41, 42, 43, 44, 45, 46, 47, 48, 49, 50, 51, 52, 53, 54, 55, 1, 56, 57, 58, 59, 60, 61, 62, 63, 64, 65, 66, 67, 68, 69, 70, 71, 72, 73, 74, 75, 76, 77, 78, 79, 80] (by decide +kernel) (by decide +kernel)
set_option maxRecDepth 20000 in
theorem gX2_wanted_X2_lost : GoodIn wsX2_wanted (wsV RX2 137 RX2 yX2_lost wsX2_lost) := goodIn_app (goodIn_of _ (by decide +kernel)) ggX2_wanted_X2_lost
theorem dX2_wanted_0 : decode cX2_wanted 0 = .ok (.aload_n 0, 1) := by decide +kernel
theorem dX2_wanted_1 : decode cX2_wanted 1 = .ok (.getfield 9, 3) := by decide +kernel
theorem dX2_wanted_4 : decode cX2_wanted 4 = .ok (.iload_n 1, 1) := by decide +kernel
theorem dX2_wanted_5 : decode cX2_wanted 5 = .ok (.iaload, 1) := by decide +kernel
theorem dX2_wanted_6 : decode cX2_wanted 6 = .ok (.istore_n 2, 1) := by decide +kernel
theorem dX2_wanted_7 : decode cX2_wanted 7 = .ok (.iconst (-1), 1) := by decide +kernel
theorem dX2_wanted_8 : decode cX2_wanted 8 = .ok (.istore_n 3, 1) := by decide +kernel
theorem dX2_wanted_9 : decode cX2_wanted 9 = .ok (.iconst 0, 1) := by decide +kernel
theorem dX2_wanted_10 : decode cX2_wanted 10 = .ok (.istore 4, 2) := by decide +kernel
theorem dX2_wanted_12 : decode cX2_wanted 12 = .ok (.iload 4, 2) := by decide +kernel
theorem dX2_wanted_14 : decode cX2_wanted 14 = .ok (.bipush 9, 2) := by decide +kernel
theorem dX2_wanted_16 : decode cX2_wanted 16 = .ok (.if_icmp .gt 35, 3) := by decide +kernel
theorem dX2_wanted_19 : decode cX2_wanted 19 = .ok (.iload_n 3, 1) := by decide +kernel
theorem dX2_wanted_20 : decode cX2_wanted 20 = .ok (.iconst (-1), 1) := by decide +kernel
theorem dX2_wanted_21 : decode cX2_wanted 21 = .ok (.if_icmp .ne 30, 3) := by decide +kernel
theorem dX2_wanted_24 : decode cX2_wanted 24 = .ok (.aload_n 0, 1) := by decide +kernel
theorem dX2_wanted_25 : decode cX2_wanted 25 = .ok (.getfield 9, 3) := by decide +kernel
theorem dX2_wanted_28 : decode cX2_wanted 28 = .ok (.iload_n 1, 1) := by decide +kernel
theorem dX2_wanted_29 : decode cX2_wanted 29 = .ok (.iload_n 2, 1) := by decide +kernel
theorem dX2_wanted_30 : decode cX2_wanted 30 = .ok (.iload 4, 2) := by decide +kernel
theorem dX2_wanted_32 : decode cX2_wanted 32 = .ok (.iadd, 1) := by decide +kernel
theorem dX2_wanted_33 : decode cX2_wanted 33 = .ok (.iastore, 1) := by decide +kernel
theorem dX2_wanted_34 : decode cX2_wanted 34 = .ok (.aload_n 0, 1) := by decide +kernel
theorem dX2_wanted_35 : decode cX2_wanted 35 = .ok (.iload_n 1, 1) := by decide +kernel
theorem dX2_wanted_36 : decode cX2_wanted 36 = .ok (.invokevirtual 137, 3) := by decide +kernel
theorem dX2_wanted_39 : decode cX2_wanted 39 = .ok (.ifCond .ne 6, 3) := by decide +kernel
theorem dX2_wanted_42 : decode cX2_wanted 42 = .ok (.iload 4, 2) := by decide +kernel
theorem dX2_wanted_44 : decode cX2_wanted 44 = .ok (.istore_n 3, 1) := by decide +kernel
theorem dX2_wanted_45 : decode cX2_wanted 45 = .ok (.iinc 4 1, 3) := by decide +kernel
theorem dX2_wanted_48 : decode cX2_wanted 48 = .ok (.goto (-36), 3) := by decide +kernel
theorem dX2_wanted_51 : decode cX2_wanted 51 = .ok (.aload_n 0, 1) := by decide +kernel
theorem dX2_wanted_52 : decode cX2_wanted 52 = .ok (.getfield 9, 3) := by decide +kernel
theorem dX2_wanted_55 : decode cX2_wanted 55 = .ok (.iload_n 1, 1) := by decide +kernel
theorem dX2_wanted_56 : decode cX2_wanted 56 = .ok (.iload_n 2, 1) := by decide +kernel
theorem dX2_wanted_57 : decode cX2_wanted 57 = .ok (.iastore, 1) := by decide +kernel
theorem dX2_wanted_58 : decode cX2_wanted 58 = .ok (.iload_n 3, 1) := by decide +kernel
theorem dX2_wanted_59 : decode cX2_wanted 59 = .ok (.ireturn, 1) := by decide +kernel
set_option maxRecDepth 20000 in
theorem ggX2_permitsWanted_X2_isGate : GoodIn wsX2_permitsWanted wsX2_isGate := goodIn_r _ [6, 7, 8, 9, 5, 10, 89, 90, 91, 92, 93, 94, 95, 96] (by decide +kernel) (by decide +kernel)
set_option maxRecDepth 20000 in
theorem gX2_permitsWanted_X2_isGate : GoodIn wsX2_permitsWanted (wsV RX2 93 RX2 yX2_isGate wsX2_isGate) := goodIn_app (goodIn_of _ (by decide +kernel)) ggX2_permitsWanted_X2_isGate
set_option maxRecDepth 20000 in
theorem ggX2_permitsWanted_X2_wanted : GoodIn wsX2_permitsWanted wsX2_wanted := goodIn_r _ [14, 15, 16, 17, 18, 5, 19, 20, 21, 22, 23, 24, 25, 26, 27, 28, 29, 30, 31, 32, 33, 34, 35, 36, 37, 38, 39, 40, 41, 42, 43, 44, 45, 46, 7, 47, 48, 49, 50, 51, 52, 53, 54, 55, 56, 57, 58, 59, 60, 61, 62, 63, 64, 65, 66, 67, 68, 69, 70, 71, 72, 73, 74, 75, 76, 77, 78, 79, 80, 81, 82, 83, 84, 89, 90, 91, 92, 93, 94, 95, 96] (by decide +kernel) (by decide +kernel)
set_option maxRecDepth 20000 in
theorem gX2_permitsWanted_X2_wanted : GoodIn wsX2_permitsWanted (wsV RX2 140 RX2 yX2_wanted wsX2_wanted) := goodIn_app (goodIn_of _ (by decide +kernel)) ggX2_permitsWanted_X2_wanted
set_option maxRecDepth 20000 in
theorem ggX2_permitsWanted_X2_no : GoodIn wsX2_permitsWanted wsX2_no := goodIn_r _ [88, 1, 89, 90, 91, 92, 93, 94, 95, 96] (by decide +kernel) (by decide +kernel)
set_option maxRecDepth 20000 in
theorem gX2_permitsWanted_X2_no : GoodIn wsX2_permitsWanted (wsV RX2 86 RX2 yX2_no wsX2_no) := goodIn_app (goodIn_of _ (by decide +kernel)) ggX2_permitsWanted_X2_no
theorem dX2_permitsWanted_0 : decode cX2_permitsWanted 0 = .ok (.aload_n 0, 1) := by decide +kernel
theorem dX2_permitsWanted_1 : decode cX2_permitsWanted 1 = .ok (.iconst 0, 1) := by decide +kernel
theorem dX2_permitsWanted_2 : decode cX2_permitsWanted 2 = .ok (.putfield 25, 3) := by decide +kernel
theorem dX2_permitsWanted_5 : decode cX2_permitsWanted 5 = .ok (.aload_n 0, 1) := by decide +kernel
theorem dX2_permitsWanted_6 : decode cX2_permitsWanted 6 = .ok (.iload_n 1, 1) := by decide +kernel
theorem dX2_permitsWanted_7 : decode cX2_permitsWanted 7 = .ok (.invokevirtual 93, 3) := by decide +kernel
theorem dX2_permitsWanted_10 : decode cX2_permitsWanted 10 = .ok (.ifCond .eq 11, 3) := by decide +kernel
theorem dX2_permitsWanted_13 : decode cX2_permitsWanted 13 = .ok (.aload_n 0, 1) := by decide +kernel
theorem dX2_permitsWanted_14 : decode cX2_permitsWanted 14 = .ok (.iload_n 1, 1) := by decide +kernel
theorem dX2_permitsWanted_15 : decode cX2_permitsWanted 15 = .ok (.invokevirtual 140, 3) := by decide +kernel
theorem dX2_permitsWanted_18 : decode cX2_permitsWanted 18 = .ok (.goto 8, 3) := by decide +kernel
theorem dX2_permitsWanted_21 : decode cX2_permitsWanted 21 = .ok (.aload_n 0, 1) := by decide +kernel
theorem dX2_permitsWanted_22 : decode cX2_permitsWanted 22 = .ok (.iconst 1, 1) := by decide +kernel
theorem dX2_permitsWanted_23 : decode cX2_permitsWanted 23 = .ok (.invokevirtual 86, 3) := by decide +kernel
theorem dX2_permitsWanted_26 : decode cX2_permitsWanted 26 = .ok (.ireturn, 1) := by decide +kernel
set_option maxRecDepth 20000 in
theorem ggX2_lostBy_X2_lost : GoodIn wsX2_lostBy wsX2_lost := goodIn_r _ [6, 7, 8, 9, 10, 5, 11, 12, 13, 14, 15, 16, 17, 18, 19, 20, 21, 22, 23, 24, 25, 26, 27, 28, 29, 30, 31, 32, 33, 34, 35, 36, 37, 38, 39, 40, 41, 42, 43, 44, 45, 46, 47, 48, 49, 50, 1, 51, 52, 53, 54, 55, 56, 57, 58, 59, 60, 61, 62, 63, 64, 65, 66, 67, 68, 69, 70, 71, 72, 73, 74, 75, 76, 77, 78, 79, 80] (by decide +kernel) (by decide +kernel)
set_option maxRecDepth 20000 in
theorem gX2_lostBy_X2_lost : GoodIn wsX2_lostBy (wsV RX2 137 RX2 yX2_lost wsX2_lost) := goodIn_app (goodIn_of _ (by decide +kernel)) ggX2_lostBy_X2_lost
theorem dX2_lostBy_0 : decode cX2_lostBy 0 = .ok (.aload_n 0, 1) := by decide +kernel
theorem dX2_lostBy_1 : decode cX2_lostBy 1 = .ok (.getfield 13, 3) := by decide +kernel
theorem dX2_lostBy_4 : decode cX2_lostBy 4 = .ok (.iload_n 1, 1) := by decide +kernel
theorem dX2_lostBy_5 : decode cX2_lostBy 5 = .ok (.iaload, 1) := by decide +kernel
theorem dX2_lostBy_6 : decode cX2_lostBy 6 = .ok (.istore_n 3, 1) := by decide +kernel
theorem dX2_lostBy_7 : decode cX2_lostBy 7 = .ok (.aload_n 0, 1) := by decide +kernel
theorem dX2_lostBy_8 : decode cX2_lostBy 8 = .ok (.getfield 13, 3) := by decide +kernel
theorem dX2_lostBy_11 : decode cX2_lostBy 11 = .ok (.iload_n 1, 1) := by decide +kernel
theorem dX2_lostBy_12 : decode cX2_lostBy 12 = .ok (.iload_n 2, 1) := by decide +kernel
theorem dX2_lostBy_13 : decode cX2_lostBy 13 = .ok (.iastore, 1) := by decide +kernel
theorem dX2_lostBy_14 : decode cX2_lostBy 14 = .ok (.aload_n 0, 1) := by decide +kernel
theorem dX2_lostBy_15 : decode cX2_lostBy 15 = .ok (.iload_n 1, 1) := by decide +kernel
theorem dX2_lostBy_16 : decode cX2_lostBy 16 = .ok (.invokevirtual 137, 3) := by decide +kernel
theorem dX2_lostBy_19 : decode cX2_lostBy 19 = .ok (.istore 4, 2) := by decide +kernel
theorem dX2_lostBy_21 : decode cX2_lostBy 21 = .ok (.aload_n 0, 1) := by decide +kernel
theorem dX2_lostBy_22 : decode cX2_lostBy 22 = .ok (.getfield 13, 3) := by decide +kernel
theorem dX2_lostBy_25 : decode cX2_lostBy 25 = .ok (.iload_n 1, 1) := by decide +kernel
theorem dX2_lostBy_26 : decode cX2_lostBy 26 = .ok (.iload_n 3, 1) := by decide +kernel
theorem dX2_lostBy_27 : decode cX2_lostBy 27 = .ok (.iastore, 1) := by decide +kernel
theorem dX2_lostBy_28 : decode cX2_lostBy 28 = .ok (.iload 4, 2) := by decide +kernel
theorem dX2_lostBy_30 : decode cX2_lostBy 30 = .ok (.ireturn, 1) := by decide +kernel
set_option maxRecDepth 20000 in
theorem ggX2_better_X2_lostBy : GoodIn wsX2_better wsX2_lostBy := goodIn_r _ [5, 6, 7, 8, 9, 4, 10, 11, 12, 13, 14, 15, 16, 17, 18, 19, 20, 21, 22, 23, 24, 25, 26, 27, 28, 29, 30, 31, 32, 33, 34, 35, 36, 37, 38, 39, 40, 41, 42, 43, 44, 45, 46, 47, 48, 49, 50, 51, 52, 53, 54, 55, 56, 57, 58, 59, 60, 61, 62, 63, 64, 65, 66, 67, 68, 69, 70, 71, 72, 73, 74, 75, 76, 77, 78, 79, 80, 81, 82, 83, 84] (by decide +kernel) (by decide +kernel)
set_option maxRecDepth 20000 in
theorem gX2_better_X2_lostBy : GoodIn wsX2_better (wsV RX2 143 RX2 yX2_lostBy wsX2_lostBy) := goodIn_app (goodIn_of _ (by decide +kernel)) ggX2_better_X2_lostBy
theorem dX2_better_0 : decode cX2_better 0 = .ok (.aload_n 0, 1) := by decide +kernel
theorem dX2_better_1 : decode cX2_better 1 = .ok (.iload_n 1, 1) := by decide +kernel
theorem dX2_better_2 : decode cX2_better 2 = .ok (.iconst 1, 1) := by decide +kernel
theorem dX2_better_3 : decode cX2_better 3 = .ok (.invokevirtual 143, 3) := by decide +kernel
theorem dX2_better_6 : decode cX2_better 6 = .ok (.aload_n 0, 1) := by decide +kernel
theorem dX2_better_7 : decode cX2_better 7 = .ok (.iload_n 1, 1) := by decide +kernel
theorem dX2_better_8 : decode cX2_better 8 = .ok (.iconst 0, 1) := by decide +kernel
theorem dX2_better_9 : decode cX2_better 9 = .ok (.invokevirtual 143, 3) := by decide +kernel
theorem dX2_better_12 : decode cX2_better 12 = .ok (.if_icmp .ge 7, 3) := by decide +kernel
theorem dX2_better_15 : decode cX2_better 15 = .ok (.iconst 1, 1) := by decide +kernel
theorem dX2_better_16 : decode cX2_better 16 = .ok (.goto 4, 3) := by decide +kernel
theorem dX2_better_19 : decode cX2_better 19 = .ok (.iconst 0, 1) := by decide +kernel
theorem dX2_better_20 : decode cX2_better 20 = .ok (.ireturn, 1) := by decide +kernel
set_option maxRecDepth 20000 in
theorem ggX2_bestOrder_X2_isGate : GoodIn wsX2_bestOrder wsX2_isGate := goodIn_r _ [6, 7, 8, 9, 5, 10, 93, 94, 95, 96, 97, 98, 99, 100] (by decide +kernel) (by decide +kernel)
set_option maxRecDepth 20000 in
theorem gX2_bestOrder_X2_isGate : GoodIn wsX2_bestOrder (wsV RX2 93 RX2 yX2_isGate wsX2_isGate) := goodIn_app (goodIn_of _ (by decide +kernel)) ggX2_bestOrder_X2_isGate
set_option maxRecDepth 20000 in
theorem ggX2_bestOrder_X2_better : GoodIn wsX2_bestOrder wsX2_better := goodIn_r _ [14, 15, 16, 17, 5, 18, 19, 20, 21, 22, 23, 24, 25, 26, 27, 28, 29, 30, 31, 32, 33, 34, 35, 36, 37, 38, 39, 40, 41, 42, 43, 44, 45, 46, 47, 48, 49, 50, 7, 51, 52, 53, 54, 55, 56, 57, 58, 59, 60, 61, 62, 63, 64, 65, 66, 67, 68, 69, 70, 71, 72, 73, 74, 75, 76, 77, 78, 79, 80, 81, 82, 83, 84, 85, 86, 87, 88, 93, 94, 95, 96, 97, 98, 99, 100] (by decide +kernel) (by decide +kernel)
set_option maxRecDepth 20000 in
theorem gX2_bestOrder_X2_better : GoodIn wsX2_bestOrder (wsV RX2 146 RX2 yX2_better wsX2_better) := goodIn_app (goodIn_of _ (by decide +kernel)) ggX2_bestOrder_X2_better
set_option maxRecDepth 20000 in
theorem ggX2_bestOrder_X2_no : GoodIn wsX2_bestOrder wsX2_no := goodIn_r _ [92, 1, 93, 94, 95, 96, 97, 98, 99, 100] (by decide +kernel) (by decide +kernel)
set_option maxRecDepth 20000 in
theorem gX2_bestOrder_X2_no : GoodIn wsX2_bestOrder (wsV RX2 86 RX2 yX2_no wsX2_no) := goodIn_app (goodIn_of _ (by decide +kernel)) ggX2_bestOrder_X2_no
theorem dX2_bestOrder_0 : decode cX2_bestOrder 0 = .ok (.aload_n 0, 1) := by decide +kernel
theorem dX2_bestOrder_1 : decode cX2_bestOrder 1 = .ok (.iconst 0, 1) := by decide +kernel
theorem dX2_bestOrder_2 : decode cX2_bestOrder 2 = .ok (.putfield 25, 3) := by decide +kernel
theorem dX2_bestOrder_5 : decode cX2_bestOrder 5 = .ok (.aload_n 0, 1) := by decide +kernel
theorem dX2_bestOrder_6 : decode cX2_bestOrder 6 = .ok (.iload_n 1, 1) := by decide +kernel
theorem dX2_bestOrder_7 : decode cX2_bestOrder 7 = .ok (.invokevirtual 93, 3) := by decide +kernel
theorem dX2_bestOrder_10 : decode cX2_bestOrder 10 = .ok (.ifCond .eq 11, 3) := by decide +kernel
theorem dX2_bestOrder_13 : decode cX2_bestOrder 13 = .ok (.aload_n 0, 1) := by decide +kernel
theorem dX2_bestOrder_14 : decode cX2_bestOrder 14 = .ok (.iload_n 1, 1) := by decide +kernel
theorem dX2_bestOrder_15 : decode cX2_bestOrder 15 = .ok (.invokevirtual 146, 3) := by decide +kernel
theorem dX2_bestOrder_18 : decode cX2_bestOrder 18 = .ok (.goto 8, 3) := by decide +kernel
theorem dX2_bestOrder_21 : decode cX2_bestOrder 21 = .ok (.aload_n 0, 1) := by decide +kernel
theorem dX2_bestOrder_22 : decode cX2_bestOrder 22 = .ok (.iconst 1, 1) := by decide +kernel
theorem dX2_bestOrder_23 : decode cX2_bestOrder 23 = .ok (.invokevirtual 86, 3) := by decide +kernel
theorem dX2_bestOrder_26 : decode cX2_bestOrder 26 = .ok (.ireturn, 1) := by decide +kernel
set_option maxRecDepth 20000 in
theorem ggX2_meanWaited_X2_of : GoodIn wsX2_meanWaited wsX2_of := goodIn_r _ [7, 8, 9, 10, 11, 12, 13, 14, 15, 16] (by decide +kernel) (by decide +kernel)
set_option maxRecDepth 20000 in
theorem gX2_meanWaited_X2_of : GoodIn wsX2_meanWaited (wsV RX2 45 RX2 yX2_of wsX2_of) := goodIn_app (goodIn_of _ (by decide +kernel)) ggX2_meanWaited_X2_of
theorem dX2_meanWaited_0 : decode cX2_meanWaited 0 = .ok (.aload_n 0, 1) := by decide +kernel
theorem dX2_meanWaited_1 : decode cX2_meanWaited 1 = .ok (.iconst 0, 1) := by decide +kernel
theorem dX2_meanWaited_2 : decode cX2_meanWaited 2 = .ok (.putfield 25, 3) := by decide +kernel
theorem dX2_meanWaited_5 : decode cX2_meanWaited 5 = .ok (.iconst 0, 1) := by decide +kernel
theorem dX2_meanWaited_6 : decode cX2_meanWaited 6 = .ok (.istore_n 1, 1) := by decide +kernel
theorem dX2_meanWaited_7 : decode cX2_meanWaited 7 = .ok (.iconst 0, 1) := by decide +kernel
theorem dX2_meanWaited_8 : decode cX2_meanWaited 8 = .ok (.istore_n 2, 1) := by decide +kernel
theorem dX2_meanWaited_9 : decode cX2_meanWaited 9 = .ok (.iload_n 2, 1) := by decide +kernel
theorem dX2_meanWaited_10 : decode cX2_meanWaited 10 = .ok (.aload_n 0, 1) := by decide +kernel
theorem dX2_meanWaited_11 : decode cX2_meanWaited 11 = .ok (.getfield 36, 3) := by decide +kernel
theorem dX2_meanWaited_14 : decode cX2_meanWaited 14 = .ok (.if_icmp .ge 19, 3) := by decide +kernel
theorem dX2_meanWaited_17 : decode cX2_meanWaited 17 = .ok (.iload_n 1, 1) := by decide +kernel
theorem dX2_meanWaited_18 : decode cX2_meanWaited 18 = .ok (.aload_n 0, 1) := by decide +kernel
theorem dX2_meanWaited_19 : decode cX2_meanWaited 19 = .ok (.iload_n 2, 1) := by decide +kernel
theorem dX2_meanWaited_20 : decode cX2_meanWaited 20 = .ok (.bipush 6, 2) := by decide +kernel
theorem dX2_meanWaited_22 : decode cX2_meanWaited 22 = .ok (.invokevirtual 45, 3) := by decide +kernel
theorem dX2_meanWaited_25 : decode cX2_meanWaited 25 = .ok (.iadd, 1) := by decide +kernel
theorem dX2_meanWaited_26 : decode cX2_meanWaited 26 = .ok (.istore_n 1, 1) := by decide +kernel
theorem dX2_meanWaited_27 : decode cX2_meanWaited 27 = .ok (.iinc 2 1, 3) := by decide +kernel
theorem dX2_meanWaited_30 : decode cX2_meanWaited 30 = .ok (.goto (-21), 3) := by decide +kernel
theorem dX2_meanWaited_33 : decode cX2_meanWaited 33 = .ok (.aload_n 0, 1) := by decide +kernel
theorem dX2_meanWaited_34 : decode cX2_meanWaited 34 = .ok (.getfield 36, 3) := by decide +kernel
theorem dX2_meanWaited_37 : decode cX2_meanWaited 37 = .ok (.ifCond .ne 7, 3) := by decide +kernel
theorem dX2_meanWaited_40 : decode cX2_meanWaited 40 = .ok (.dconst 0, 1) := by decide +kernel
theorem dX2_meanWaited_41 : decode cX2_meanWaited 41 = .ok (.goto 11, 3) := by decide +kernel
theorem dX2_meanWaited_44 : decode cX2_meanWaited 44 = .ok (.iload_n 1, 1) := by decide +kernel
theorem dX2_meanWaited_45 : decode cX2_meanWaited 45 = .ok (.i2d, 1) := by decide +kernel
theorem dX2_meanWaited_46 : decode cX2_meanWaited 46 = .ok (.aload_n 0, 1) := by decide +kernel
theorem dX2_meanWaited_47 : decode cX2_meanWaited 47 = .ok (.getfield 36, 3) := by decide +kernel
theorem dX2_meanWaited_50 : decode cX2_meanWaited 50 = .ok (.i2d, 1) := by decide +kernel
theorem dX2_meanWaited_51 : decode cX2_meanWaited 51 = .ok (.ddiv, 1) := by decide +kernel
theorem dX2_meanWaited_52 : decode cX2_meanWaited 52 = .ok (.dreturn, 1) := by decide +kernel
set_option maxRecDepth 20000 in
theorem ggX2_digest_X2_many : GoodIn wsX2_digest wsX2_many := goodIn_r _ [13, 5, 14, 15, 16, 12, 17, 18, 19, 20, 21, 3, 121, 122, 123, 124, 125, 126, 127, 128] (by decide +kernel) (by decide +kernel)
set_option maxRecDepth 20000 in
theorem gX2_digest_X2_many : GoodIn wsX2_digest (wsV RX2 112 RX2 yX2_many wsX2_many) := goodIn_app (goodIn_of _ (by decide +kernel)) ggX2_digest_X2_many
set_option maxRecDepth 20000 in
theorem ggX2_digest_X2_starved : GoodIn wsX2_digest wsX2_starved := goodIn_r _ [25, 5, 14, 15, 16, 12, 17, 18, 19, 20, 21, 3, 121, 122, 123, 124, 125, 126, 127, 128] (by decide +kernel) (by decide +kernel)
set_option maxRecDepth 20000 in
theorem gX2_digest_X2_starved : GoodIn wsX2_digest (wsV RX2 115 RX2 yX2_starved wsX2_starved) := goodIn_app (goodIn_of _ (by decide +kernel)) ggX2_digest_X2_starved
set_option maxRecDepth 20000 in
theorem ggX2_digest_X2_free : GoodIn wsX2_digest wsX2_free := goodIn_r _ [29, 8, 5, 14, 15, 16, 12, 17, 18, 19, 20, 21, 3, 121, 122, 123, 124, 125, 126, 127, 128] (by decide +kernel) (by decide +kernel)
set_option maxRecDepth 20000 in
theorem gX2_digest_X2_free : GoodIn wsX2_digest (wsV RX2 56 RX2 yX2_free wsX2_free) := goodIn_app (goodIn_of _ (by decide +kernel)) ggX2_digest_X2_free
set_option maxRecDepth 20000 in
theorem ggX2_digest_X2_manyAt : GoodIn wsX2_digest wsX2_manyAt := goodIn_r _ [33, 5, 34, 35, 36, 12, 37, 14, 15, 16, 17, 18, 19, 20, 21, 3, 121, 122, 123, 124, 125, 126, 127, 128] (by decide +kernel) (by decide +kernel)
set_option maxRecDepth 20000 in
theorem gX2_digest_X2_manyAt : GoodIn wsX2_digest (wsV RX2 100 RX2 yX2_manyAt wsX2_manyAt) := goodIn_app (goodIn_of _ (by decide +kernel)) ggX2_digest_X2_manyAt
set_option maxRecDepth 20000 in
theorem ggX2_digest_X2_next : GoodIn wsX2_digest wsX2_next := goodIn_r _ [41, 42, 5, 26, 27, 28, 12, 29, 8, 14, 15, 16, 17, 18, 19, 20, 21, 3, 43, 44, 45, 46, 34, 35, 36, 37, 47, 48, 49, 50, 51, 121, 122, 123, 124, 125, 126, 127, 128] (by decide +kernel) (by decide +kernel)
set_option maxRecDepth 20000 in
theorem gX2_digest_X2_next : GoodIn wsX2_digest (wsV RX2 70 RX2 yX2_next wsX2_next) := goodIn_app (goodIn_of _ (by decide +kernel)) ggX2_digest_X2_next
set_option maxRecDepth 20000 in
theorem ggX2_digest_X2_wanted : GoodIn wsX2_digest wsX2_wanted := goodIn_r _ [55, 8, 56, 57, 58, 12, 59, 5, 34, 35, 36, 37, 14, 15, 16, 17, 18, 19, 20, 21, 3, 60, 61, 62, 63, 64, 65, 66, 67, 68, 69, 70, 71, 72, 4, 73, 74, 75, 76, 77, 78, 79, 80, 81, 82, 83, 84, 38, 39, 40, 41, 42, 26, 27, 28, 29, 43, 44, 45, 46, 47, 48, 49, 50, 51, 85, 86, 87, 88, 89, 90, 91, 92, 121, 122, 123, 124, 125, 126, 127, 128] (by decide +kernel) (by decide +kernel)
set_option maxRecDepth 20000 in
theorem gX2_digest_X2_wanted : GoodIn wsX2_digest (wsV RX2 140 RX2 yX2_wanted wsX2_wanted) := goodIn_app (goodIn_of _ (by decide +kernel)) ggX2_digest_X2_wanted
set_option maxRecDepth 20000 in
theorem ggX2_digest_X2_better : GoodIn wsX2_digest wsX2_better := goodIn_r _ [96, 97, 98, 99, 12, 100, 42, 56, 57, 58, 59, 5, 34, 35, 36, 37, 14, 15, 16, 17, 18, 19, 20, 21, 3, 60, 61, 62, 63, 64, 65, 66, 67, 68, 69, 70, 71, 72, 4, 73, 74, 75, 76, 77, 78, 79, 80, 81, 82, 83, 84, 38, 39, 40, 41, 26, 27, 28, 29, 8, 43, 44, 45, 46, 47, 48, 49, 50, 51, 85, 86, 87, 88, 89, 90, 91, 92, 121, 122, 123, 124, 125, 126, 127, 128] (by decide +kernel) (by decide +kernel)
set_option maxRecDepth 20000 in
theorem gX2_digest_X2_better : GoodIn wsX2_digest (wsV RX2 146 RX2 yX2_better wsX2_better) := goodIn_app (goodIn_of _ (by decide +kernel)) ggX2_digest_X2_better
set_option maxRecDepth 20000 in
theorem ggX2_digest_X2_of : GoodIn wsX2_digest wsX2_of := goodIn_r _ [21, 3, 121, 122, 123, 124, 125, 126, 127, 128] (by decide +kernel) (by decide +kernel)
set_option maxRecDepth 20000 in
theorem gX2_digest_X2_of : GoodIn wsX2_digest (wsV RX2 45 RX2 yX2_of wsX2_of) := goodIn_app (goodIn_of _ (by decide +kernel)) ggX2_digest_X2_of
set_option maxRecDepth 20000 in
theorem ggX2_digest_X2_where : GoodIn wsX2_digest wsX2_where := goodIn_r _ [104, 14, 15, 16, 12, 17, 18, 19, 20, 21, 3, 121, 122, 123, 124, 125, 126, 127, 128] (by decide +kernel) (by decide +kernel)
set_option maxRecDepth 20000 in
theorem gX2_digest_X2_where : GoodIn wsX2_digest (wsV RX2 119 RX2 yX2_where wsX2_where) := goodIn_app (goodIn_of _ (by decide +kernel)) ggX2_digest_X2_where
set_option maxRecDepth 20000 in
theorem ggX2_digest_X2_held : GoodIn wsX2_digest wsX2_held := goodIn_r _ [108, 14, 15, 16, 12, 17, 18, 19, 20, 21, 3, 121, 122, 123, 124, 125, 126, 127, 128] (by decide +kernel) (by decide +kernel)
set_option maxRecDepth 20000 in
theorem gX2_digest_X2_held : GoodIn wsX2_digest (wsV RX2 103 RX2 yX2_held wsX2_held) := goodIn_app (goodIn_of _ (by decide +kernel)) ggX2_digest_X2_held
set_option maxRecDepth 20000 in
theorem ggX2_digest_X2_seem : GoodIn wsX2_digest wsX2_seem := goodIn_r _ [50, 51, 14, 15, 16, 12, 17, 18, 19, 20, 21, 3, 121, 122, 123, 124, 125, 126, 127, 128] (by decide +kernel) (by decide +kernel)
set_option maxRecDepth 20000 in
theorem gX2_digest_X2_seem : GoodIn wsX2_digest (wsV RX2 63 RX2 yX2_seem wsX2_seem) := goodIn_app (goodIn_of _ (by decide +kernel)) ggX2_digest_X2_seem
set_option maxRecDepth 20000 in
theorem ggX2_digest_X2_left : GoodIn wsX2_digest wsX2_left := goodIn_r _ [112, 14, 15, 16, 12, 17, 18, 19, 20, 21, 3, 121, 122, 123, 124, 125, 126, 127, 128] (by decide +kernel) (by decide +kernel)
set_option maxRecDepth 20000 in
theorem gX2_digest_X2_left : GoodIn wsX2_digest (wsV RX2 122 RX2 yX2_left wsX2_left) := goodIn_app (goodIn_of _ (by decide +kernel)) ggX2_digest_X2_left
set_option maxRecDepth 20000 in
theorem ggX2_digest_X2_place : GoodIn wsX2_digest wsX2_place := goodIn_r _ [116, 5, 14, 15, 16, 12, 17, 18, 19, 20, 21, 3, 34, 35, 36, 37, 121, 122, 123, 124, 125, 126, 127, 128] (by decide +kernel) (by decide +kernel)
set_option maxRecDepth 20000 in
theorem gX2_digest_X2_place : GoodIn wsX2_digest (wsV RX2 125 RX2 yX2_place wsX2_place) := goodIn_app (goodIn_of _ (by decide +kernel)) ggX2_digest_X2_place
set_option maxRecDepth 20000 in
theorem ggX2_digest_X2_until : GoodIn wsX2_digest wsX2_until := goodIn_r _ [120, 14, 15, 16, 12, 17, 18, 19, 20, 21, 3, 60, 61, 62, 63, 64, 65, 66, 67, 68, 69, 70, 71, 72, 5, 4, 73, 74, 75, 76, 77, 78, 79, 80, 81, 82, 83, 84, 38, 39, 40, 41, 42, 26, 27, 28, 29, 8, 43, 44, 45, 46, 34, 35, 36, 37, 47, 48, 49, 50, 51, 85, 86, 87, 88, 89, 90, 91, 92, 121, 122, 123, 124, 125, 126, 127, 128] (by decide +kernel) (by decide +kernel)
set_option maxRecDepth 20000 in
theorem gX2_digest_X2_until : GoodIn wsX2_digest (wsV RX2 134 RX2 yX2_until wsX2_until) := goodIn_app (goodIn_of _ (by decide +kernel)) ggX2_digest_X2_until
theorem dX2_digest_0 : decode cX2_digest 0 = .ok (.aload_n 0, 1) := by decide +kernel
theorem dX2_digest_1 : decode cX2_digest 1 = .ok (.iconst 0, 1) := by decide +kernel
theorem dX2_digest_2 : decode cX2_digest 2 = .ok (.putfield 25, 3) := by decide +kernel
theorem dX2_digest_5 : decode cX2_digest 5 = .ok (.bipush 8, 2) := by decide +kernel
theorem dX2_digest_7 : decode cX2_digest 7 = .ok (.newarray .int, 2) := by decide +kernel
theorem dX2_digest_9 : decode cX2_digest 9 = .ok (.dup, 1) := by decide +kernel
theorem dX2_digest_10 : decode cX2_digest 10 = .ok (.iconst 0, 1) := by decide +kernel
theorem dX2_digest_11 : decode cX2_digest 11 = .ok (.aload_n 0, 1) := by decide +kernel
theorem dX2_digest_12 : decode cX2_digest 12 = .ok (.getfield 19, 3) := by decide +kernel
theorem dX2_digest_15 : decode cX2_digest 15 = .ok (.iconst 0, 1) := by decide +kernel
theorem dX2_digest_16 : decode cX2_digest 16 = .ok (.iaload, 1) := by decide +kernel
theorem dX2_digest_17 : decode cX2_digest 17 = .ok (.iastore, 1) := by decide +kernel
theorem dX2_digest_18 : decode cX2_digest 18 = .ok (.dup, 1) := by decide +kernel
theorem dX2_digest_19 : decode cX2_digest 19 = .ok (.iconst 1, 1) := by decide +kernel
theorem dX2_digest_20 : decode cX2_digest 20 = .ok (.aload_n 0, 1) := by decide +kernel
theorem dX2_digest_21 : decode cX2_digest 21 = .ok (.getfield 29, 3) := by decide +kernel
theorem dX2_digest_24 : decode cX2_digest 24 = .ok (.iastore, 1) := by decide +kernel
theorem dX2_digest_25 : decode cX2_digest 25 = .ok (.dup, 1) := by decide +kernel
theorem dX2_digest_26 : decode cX2_digest 26 = .ok (.iconst 2, 1) := by decide +kernel
theorem dX2_digest_27 : decode cX2_digest 27 = .ok (.aload_n 0, 1) := by decide +kernel
theorem dX2_digest_28 : decode cX2_digest 28 = .ok (.getfield 36, 3) := by decide +kernel
theorem dX2_digest_31 : decode cX2_digest 31 = .ok (.iastore, 1) := by decide +kernel
theorem dX2_digest_32 : decode cX2_digest 32 = .ok (.dup, 1) := by decide +kernel
theorem dX2_digest_33 : decode cX2_digest 33 = .ok (.iconst 3, 1) := by decide +kernel
theorem dX2_digest_34 : decode cX2_digest 34 = .ok (.aload_n 0, 1) := by decide +kernel
theorem dX2_digest_35 : decode cX2_digest 35 = .ok (.iconst 1, 1) := by decide +kernel
theorem dX2_digest_36 : decode cX2_digest 36 = .ok (.invokevirtual 112, 3) := by decide +kernel
theorem dX2_digest_39 : decode cX2_digest 39 = .ok (.iastore, 1) := by decide +kernel
theorem dX2_digest_40 : decode cX2_digest 40 = .ok (.dup, 1) := by decide +kernel
theorem dX2_digest_41 : decode cX2_digest 41 = .ok (.iconst 4, 1) := by decide +kernel
theorem dX2_digest_42 : decode cX2_digest 42 = .ok (.aload_n 0, 1) := by decide +kernel
theorem dX2_digest_43 : decode cX2_digest 43 = .ok (.iconst 2, 1) := by decide +kernel
theorem dX2_digest_44 : decode cX2_digest 44 = .ok (.invokevirtual 112, 3) := by decide +kernel
theorem dX2_digest_47 : decode cX2_digest 47 = .ok (.iastore, 1) := by decide +kernel
theorem dX2_digest_48 : decode cX2_digest 48 = .ok (.dup, 1) := by decide +kernel
theorem dX2_digest_49 : decode cX2_digest 49 = .ok (.iconst 5, 1) := by decide +kernel
theorem dX2_digest_50 : decode cX2_digest 50 = .ok (.aload_n 0, 1) := by decide +kernel
theorem dX2_digest_51 : decode cX2_digest 51 = .ok (.invokevirtual 115, 3) := by decide +kernel
theorem dX2_digest_54 : decode cX2_digest 54 = .ok (.iastore, 1) := by decide +kernel
theorem dX2_digest_55 : decode cX2_digest 55 = .ok (.dup, 1) := by decide +kernel
theorem dX2_digest_56 : decode cX2_digest 56 = .ok (.bipush 6, 2) := by decide +kernel
theorem dX2_digest_58 : decode cX2_digest 58 = .ok (.aload_n 0, 1) := by decide +kernel
theorem dX2_digest_59 : decode cX2_digest 59 = .ok (.getfield 19, 3) := by decide +kernel
theorem dX2_digest_62 : decode cX2_digest 62 = .ok (.iconst 1, 1) := by decide +kernel
theorem dX2_digest_63 : decode cX2_digest 63 = .ok (.iaload, 1) := by decide +kernel
theorem dX2_digest_64 : decode cX2_digest 64 = .ok (.iastore, 1) := by decide +kernel
theorem dX2_digest_65 : decode cX2_digest 65 = .ok (.dup, 1) := by decide +kernel
theorem dX2_digest_66 : decode cX2_digest 66 = .ok (.bipush 7, 2) := by decide +kernel
theorem dX2_digest_68 : decode cX2_digest 68 = .ok (.aload_n 0, 1) := by decide +kernel
theorem dX2_digest_69 : decode cX2_digest 69 = .ok (.getfield 19, 3) := by decide +kernel
theorem dX2_digest_72 : decode cX2_digest 72 = .ok (.iconst 2, 1) := by decide +kernel
theorem dX2_digest_73 : decode cX2_digest 73 = .ok (.iaload, 1) := by decide +kernel
theorem dX2_digest_74 : decode cX2_digest 74 = .ok (.iastore, 1) := by decide +kernel
theorem dX2_digest_75 : decode cX2_digest 75 = .ok (.astore_n 1, 1) := by decide +kernel
theorem dX2_digest_76 : decode cX2_digest 76 = .ok (.ldc2_w 149, 3) := by decide +kernel
theorem dX2_digest_79 : decode cX2_digest 79 = .ok (.lstore_n 2, 1) := by decide +kernel
theorem dX2_digest_80 : decode cX2_digest 80 = .ok (.aload_n 1, 1) := by decide +kernel
theorem dX2_digest_81 : decode cX2_digest 81 = .ok (.astore 4, 2) := by decide +kernel
theorem dX2_digest_83 : decode cX2_digest 83 = .ok (.aload 4, 2) := by decide +kernel
theorem dX2_digest_85 : decode cX2_digest 85 = .ok (.arraylength, 1) := by decide +kernel
theorem dX2_digest_86 : decode cX2_digest 86 = .ok (.istore 5, 2) := by decide +kernel
theorem dX2_digest_88 : decode cX2_digest 88 = .ok (.iconst 0, 1) := by decide +kernel
theorem dX2_digest_89 : decode cX2_digest 89 = .ok (.istore 6, 2) := by decide +kernel
theorem dX2_digest_91 : decode cX2_digest 91 = .ok (.iload 6, 2) := by decide +kernel
theorem dX2_digest_93 : decode cX2_digest 93 = .ok (.iload 5, 2) := by decide +kernel
theorem dX2_digest_95 : decode cX2_digest 95 = .ok (.if_icmp .ge 26, 3) := by decide +kernel
theorem dX2_digest_98 : decode cX2_digest 98 = .ok (.aload 4, 2) := by decide +kernel
theorem dX2_digest_100 : decode cX2_digest 100 = .ok (.iload 6, 2) := by decide +kernel
theorem dX2_digest_102 : decode cX2_digest 102 = .ok (.iaload, 1) := by decide +kernel
theorem dX2_digest_103 : decode cX2_digest 103 = .ok (.istore 7, 2) := by decide +kernel
theorem dX2_digest_105 : decode cX2_digest 105 = .ok (.lload_n 2, 1) := by decide +kernel
theorem dX2_digest_106 : decode cX2_digest 106 = .ok (.ldc2_w 151, 3) := by decide +kernel
theorem dX2_digest_109 : decode cX2_digest 109 = .ok (.lmul, 1) := by decide +kernel
theorem dX2_digest_110 : decode cX2_digest 110 = .ok (.iload 7, 2) := by decide +kernel
theorem dX2_digest_112 : decode cX2_digest 112 = .ok (.i2l, 1) := by decide +kernel
theorem dX2_digest_113 : decode cX2_digest 113 = .ok (.ladd, 1) := by decide +kernel
theorem dX2_digest_114 : decode cX2_digest 114 = .ok (.lstore_n 2, 1) := by decide +kernel
theorem dX2_digest_115 : decode cX2_digest 115 = .ok (.iinc 6 1, 3) := by decide +kernel
theorem dX2_digest_118 : decode cX2_digest 118 = .ok (.goto (-27), 3) := by decide +kernel
theorem dX2_digest_121 : decode cX2_digest 121 = .ok (.iconst 0, 1) := by decide +kernel
theorem dX2_digest_122 : decode cX2_digest 122 = .ok (.istore 4, 2) := by decide +kernel
theorem dX2_digest_124 : decode cX2_digest 124 = .ok (.iload 4, 2) := by decide +kernel
theorem dX2_digest_126 : decode cX2_digest 126 = .ok (.aload_n 0, 1) := by decide +kernel
theorem dX2_digest_127 : decode cX2_digest 127 = .ok (.getfield 29, 3) := by decide +kernel
theorem dX2_digest_130 : decode cX2_digest 130 = .ok (.if_icmp .ge 112, 3) := by decide +kernel
theorem dX2_digest_133 : decode cX2_digest 133 = .ok (.bipush 6, 2) := by decide +kernel
theorem dX2_digest_135 : decode cX2_digest 135 = .ok (.newarray .int, 2) := by decide +kernel
theorem dX2_digest_137 : decode cX2_digest 137 = .ok (.dup, 1) := by decide +kernel
theorem dX2_digest_138 : decode cX2_digest 138 = .ok (.iconst 0, 1) := by decide +kernel
theorem dX2_digest_139 : decode cX2_digest 139 = .ok (.aload_n 0, 1) := by decide +kernel
theorem dX2_digest_140 : decode cX2_digest 140 = .ok (.getfield 9, 3) := by decide +kernel
theorem dX2_digest_143 : decode cX2_digest 143 = .ok (.iload 4, 2) := by decide +kernel
theorem dX2_digest_145 : decode cX2_digest 145 = .ok (.iaload, 1) := by decide +kernel
theorem dX2_digest_146 : decode cX2_digest 146 = .ok (.iastore, 1) := by decide +kernel
theorem dX2_digest_147 : decode cX2_digest 147 = .ok (.dup, 1) := by decide +kernel
theorem dX2_digest_148 : decode cX2_digest 148 = .ok (.iconst 1, 1) := by decide +kernel
theorem dX2_digest_149 : decode cX2_digest 149 = .ok (.aload_n 0, 1) := by decide +kernel
theorem dX2_digest_150 : decode cX2_digest 150 = .ok (.iload 4, 2) := by decide +kernel
theorem dX2_digest_152 : decode cX2_digest 152 = .ok (.invokevirtual 56, 3) := by decide +kernel
theorem dX2_digest_155 : decode cX2_digest 155 = .ok (.iastore, 1) := by decide +kernel
theorem dX2_digest_156 : decode cX2_digest 156 = .ok (.dup, 1) := by decide +kernel
theorem dX2_digest_157 : decode cX2_digest 157 = .ok (.iconst 2, 1) := by decide +kernel
theorem dX2_digest_158 : decode cX2_digest 158 = .ok (.aload_n 0, 1) := by decide +kernel
theorem dX2_digest_159 : decode cX2_digest 159 = .ok (.iload 4, 2) := by decide +kernel
theorem dX2_digest_161 : decode cX2_digest 161 = .ok (.invokevirtual 100, 3) := by decide +kernel
theorem dX2_digest_164 : decode cX2_digest 164 = .ok (.iastore, 1) := by decide +kernel
theorem dX2_digest_165 : decode cX2_digest 165 = .ok (.dup, 1) := by decide +kernel
theorem dX2_digest_166 : decode cX2_digest 166 = .ok (.iconst 3, 1) := by decide +kernel
theorem dX2_digest_167 : decode cX2_digest 167 = .ok (.aload_n 0, 1) := by decide +kernel
theorem dX2_digest_168 : decode cX2_digest 168 = .ok (.iload 4, 2) := by decide +kernel
theorem dX2_digest_170 : decode cX2_digest 170 = .ok (.invokevirtual 70, 3) := by decide +kernel
theorem dX2_digest_173 : decode cX2_digest 173 = .ok (.iastore, 1) := by decide +kernel
theorem dX2_digest_174 : decode cX2_digest 174 = .ok (.dup, 1) := by decide +kernel
theorem dX2_digest_175 : decode cX2_digest 175 = .ok (.iconst 4, 1) := by decide +kernel
theorem dX2_digest_176 : decode cX2_digest 176 = .ok (.aload_n 0, 1) := by decide +kernel
theorem dX2_digest_177 : decode cX2_digest 177 = .ok (.iload 4, 2) := by decide +kernel
theorem dX2_digest_179 : decode cX2_digest 179 = .ok (.invokevirtual 140, 3) := by decide +kernel
theorem dX2_digest_182 : decode cX2_digest 182 = .ok (.iastore, 1) := by decide +kernel
theorem dX2_digest_183 : decode cX2_digest 183 = .ok (.dup, 1) := by decide +kernel
theorem dX2_digest_184 : decode cX2_digest 184 = .ok (.iconst 5, 1) := by decide +kernel
theorem dX2_digest_185 : decode cX2_digest 185 = .ok (.aload_n 0, 1) := by decide +kernel
theorem dX2_digest_186 : decode cX2_digest 186 = .ok (.iload 4, 2) := by decide +kernel
theorem dX2_digest_188 : decode cX2_digest 188 = .ok (.invokevirtual 146, 3) := by decide +kernel
theorem dX2_digest_191 : decode cX2_digest 191 = .ok (.iastore, 1) := by decide +kernel
theorem dX2_digest_192 : decode cX2_digest 192 = .ok (.astore 5, 2) := by decide +kernel
theorem dX2_digest_194 : decode cX2_digest 194 = .ok (.aload 5, 2) := by decide +kernel
theorem dX2_digest_196 : decode cX2_digest 196 = .ok (.astore 6, 2) := by decide +kernel
theorem dX2_digest_198 : decode cX2_digest 198 = .ok (.aload 6, 2) := by decide +kernel
theorem dX2_digest_200 : decode cX2_digest 200 = .ok (.arraylength, 1) := by decide +kernel
theorem dX2_digest_201 : decode cX2_digest 201 = .ok (.istore 7, 2) := by decide +kernel
theorem dX2_digest_203 : decode cX2_digest 203 = .ok (.iconst 0, 1) := by decide +kernel
theorem dX2_digest_204 : decode cX2_digest 204 = .ok (.istore 8, 2) := by decide +kernel
theorem dX2_digest_206 : decode cX2_digest 206 = .ok (.iload 8, 2) := by decide +kernel
theorem dX2_digest_208 : decode cX2_digest 208 = .ok (.iload 7, 2) := by decide +kernel
theorem dX2_digest_210 : decode cX2_digest 210 = .ok (.if_icmp .ge 26, 3) := by decide +kernel
theorem dX2_digest_213 : decode cX2_digest 213 = .ok (.aload 6, 2) := by decide +kernel
theorem dX2_digest_215 : decode cX2_digest 215 = .ok (.iload 8, 2) := by decide +kernel
theorem dX2_digest_217 : decode cX2_digest 217 = .ok (.iaload, 1) := by decide +kernel
theorem dX2_digest_218 : decode cX2_digest 218 = .ok (.istore 9, 2) := by decide +kernel
theorem dX2_digest_220 : decode cX2_digest 220 = .ok (.lload_n 2, 1) := by decide +kernel
theorem dX2_digest_221 : decode cX2_digest 221 = .ok (.ldc2_w 151, 3) := by decide +kernel
theorem dX2_digest_224 : decode cX2_digest 224 = .ok (.lmul, 1) := by decide +kernel
theorem dX2_digest_225 : decode cX2_digest 225 = .ok (.iload 9, 2) := by decide +kernel
theorem dX2_digest_227 : decode cX2_digest 227 = .ok (.i2l, 1) := by decide +kernel
theorem dX2_digest_228 : decode cX2_digest 228 = .ok (.ladd, 1) := by decide +kernel
theorem dX2_digest_229 : decode cX2_digest 229 = .ok (.lstore_n 2, 1) := by decide +kernel
theorem dX2_digest_230 : decode cX2_digest 230 = .ok (.iinc 8 1, 3) := by decide +kernel
theorem dX2_digest_233 : decode cX2_digest 233 = .ok (.goto (-27), 3) := by decide +kernel
theorem dX2_digest_236 : decode cX2_digest 236 = .ok (.iinc 4 1, 3) := by decide +kernel
theorem dX2_digest_239 : decode cX2_digest 239 = .ok (.goto (-115), 3) := by decide +kernel
theorem dX2_digest_242 : decode cX2_digest 242 = .ok (.iconst 0, 1) := by decide +kernel
theorem dX2_digest_243 : decode cX2_digest 243 = .ok (.istore 4, 2) := by decide +kernel
theorem dX2_digest_245 : decode cX2_digest 245 = .ok (.iload 4, 2) := by decide +kernel
theorem dX2_digest_247 : decode cX2_digest 247 = .ok (.aload_n 0, 1) := by decide +kernel
theorem dX2_digest_248 : decode cX2_digest 248 = .ok (.getfield 36, 3) := by decide +kernel
theorem dX2_digest_251 : decode cX2_digest 251 = .ok (.if_icmp .ge 134, 3) := by decide +kernel
theorem dX2_digest_254 : decode cX2_digest 254 = .ok (.bipush 8, 2) := by decide +kernel
theorem dX2_digest_256 : decode cX2_digest 256 = .ok (.newarray .int, 2) := by decide +kernel
theorem dX2_digest_258 : decode cX2_digest 258 = .ok (.dup, 1) := by decide +kernel
theorem dX2_digest_259 : decode cX2_digest 259 = .ok (.iconst 0, 1) := by decide +kernel
theorem dX2_digest_260 : decode cX2_digest 260 = .ok (.aload_n 0, 1) := by decide +kernel
theorem dX2_digest_261 : decode cX2_digest 261 = .ok (.iload 4, 2) := by decide +kernel
theorem dX2_digest_263 : decode cX2_digest 263 = .ok (.iconst 0, 1) := by decide +kernel
theorem dX2_digest_264 : decode cX2_digest 264 = .ok (.invokevirtual 45, 3) := by decide +kernel
theorem dX2_digest_267 : decode cX2_digest 267 = .ok (.iastore, 1) := by decide +kernel
theorem dX2_digest_268 : decode cX2_digest 268 = .ok (.dup, 1) := by decide +kernel
theorem dX2_digest_269 : decode cX2_digest 269 = .ok (.iconst 1, 1) := by decide +kernel
theorem dX2_digest_270 : decode cX2_digest 270 = .ok (.aload_n 0, 1) := by decide +kernel
theorem dX2_digest_271 : decode cX2_digest 271 = .ok (.iload 4, 2) := by decide +kernel
theorem dX2_digest_273 : decode cX2_digest 273 = .ok (.invokevirtual 119, 3) := by decide +kernel
theorem dX2_digest_276 : decode cX2_digest 276 = .ok (.iastore, 1) := by decide +kernel
theorem dX2_digest_277 : decode cX2_digest 277 = .ok (.dup, 1) := by decide +kernel
theorem dX2_digest_278 : decode cX2_digest 278 = .ok (.iconst 2, 1) := by decide +kernel
theorem dX2_digest_279 : decode cX2_digest 279 = .ok (.aload_n 0, 1) := by decide +kernel
theorem dX2_digest_280 : decode cX2_digest 280 = .ok (.iload 4, 2) := by decide +kernel
theorem dX2_digest_282 : decode cX2_digest 282 = .ok (.invokevirtual 103, 3) := by decide +kernel
theorem dX2_digest_285 : decode cX2_digest 285 = .ok (.iastore, 1) := by decide +kernel
theorem dX2_digest_286 : decode cX2_digest 286 = .ok (.dup, 1) := by decide +kernel
theorem dX2_digest_287 : decode cX2_digest 287 = .ok (.iconst 3, 1) := by decide +kernel
theorem dX2_digest_288 : decode cX2_digest 288 = .ok (.aload_n 0, 1) := by decide +kernel
theorem dX2_digest_289 : decode cX2_digest 289 = .ok (.iload 4, 2) := by decide +kernel
theorem dX2_digest_291 : decode cX2_digest 291 = .ok (.invokevirtual 63, 3) := by decide +kernel
theorem dX2_digest_294 : decode cX2_digest 294 = .ok (.iastore, 1) := by decide +kernel
theorem dX2_digest_295 : decode cX2_digest 295 = .ok (.dup, 1) := by decide +kernel
theorem dX2_digest_296 : decode cX2_digest 296 = .ok (.iconst 4, 1) := by decide +kernel
theorem dX2_digest_297 : decode cX2_digest 297 = .ok (.aload_n 0, 1) := by decide +kernel
theorem dX2_digest_298 : decode cX2_digest 298 = .ok (.iload 4, 2) := by decide +kernel
theorem dX2_digest_300 : decode cX2_digest 300 = .ok (.invokevirtual 122, 3) := by decide +kernel
theorem dX2_digest_303 : decode cX2_digest 303 = .ok (.iastore, 1) := by decide +kernel
theorem dX2_digest_304 : decode cX2_digest 304 = .ok (.dup, 1) := by decide +kernel
theorem dX2_digest_305 : decode cX2_digest 305 = .ok (.iconst 5, 1) := by decide +kernel
theorem dX2_digest_306 : decode cX2_digest 306 = .ok (.aload_n 0, 1) := by decide +kernel
theorem dX2_digest_307 : decode cX2_digest 307 = .ok (.iload 4, 2) := by decide +kernel
theorem dX2_digest_309 : decode cX2_digest 309 = .ok (.bipush 6, 2) := by decide +kernel
theorem dX2_digest_311 : decode cX2_digest 311 = .ok (.invokevirtual 45, 3) := by decide +kernel
theorem dX2_digest_314 : decode cX2_digest 314 = .ok (.iastore, 1) := by decide +kernel
theorem dX2_digest_315 : decode cX2_digest 315 = .ok (.dup, 1) := by decide +kernel
theorem dX2_digest_316 : decode cX2_digest 316 = .ok (.bipush 6, 2) := by decide +kernel
theorem dX2_digest_318 : decode cX2_digest 318 = .ok (.aload_n 0, 1) := by decide +kernel
theorem dX2_digest_319 : decode cX2_digest 319 = .ok (.iload 4, 2) := by decide +kernel
theorem dX2_digest_321 : decode cX2_digest 321 = .ok (.invokevirtual 125, 3) := by decide +kernel
theorem dX2_digest_324 : decode cX2_digest 324 = .ok (.iastore, 1) := by decide +kernel
theorem dX2_digest_325 : decode cX2_digest 325 = .ok (.dup, 1) := by decide +kernel
theorem dX2_digest_326 : decode cX2_digest 326 = .ok (.bipush 7, 2) := by decide +kernel
theorem dX2_digest_328 : decode cX2_digest 328 = .ok (.aload_n 0, 1) := by decide +kernel
theorem dX2_digest_329 : decode cX2_digest 329 = .ok (.iload 4, 2) := by decide +kernel
theorem dX2_digest_331 : decode cX2_digest 331 = .ok (.invokevirtual 134, 3) := by decide +kernel
theorem dX2_digest_334 : decode cX2_digest 334 = .ok (.iastore, 1) := by decide +kernel
theorem dX2_digest_335 : decode cX2_digest 335 = .ok (.astore 5, 2) := by decide +kernel
theorem dX2_digest_337 : decode cX2_digest 337 = .ok (.aload 5, 2) := by decide +kernel
theorem dX2_digest_339 : decode cX2_digest 339 = .ok (.astore 6, 2) := by decide +kernel
theorem dX2_digest_341 : decode cX2_digest 341 = .ok (.aload 6, 2) := by decide +kernel
theorem dX2_digest_343 : decode cX2_digest 343 = .ok (.arraylength, 1) := by decide +kernel
theorem dX2_digest_344 : decode cX2_digest 344 = .ok (.istore 7, 2) := by decide +kernel
theorem dX2_digest_346 : decode cX2_digest 346 = .ok (.iconst 0, 1) := by decide +kernel
theorem dX2_digest_347 : decode cX2_digest 347 = .ok (.istore 8, 2) := by decide +kernel
theorem dX2_digest_349 : decode cX2_digest 349 = .ok (.iload 8, 2) := by decide +kernel
theorem dX2_digest_351 : decode cX2_digest 351 = .ok (.iload 7, 2) := by decide +kernel
theorem dX2_digest_353 : decode cX2_digest 353 = .ok (.if_icmp .ge 26, 3) := by decide +kernel
theorem dX2_digest_356 : decode cX2_digest 356 = .ok (.aload 6, 2) := by decide +kernel
theorem dX2_digest_358 : decode cX2_digest 358 = .ok (.iload 8, 2) := by decide +kernel
theorem dX2_digest_360 : decode cX2_digest 360 = .ok (.iaload, 1) := by decide +kernel
theorem dX2_digest_361 : decode cX2_digest 361 = .ok (.istore 9, 2) := by decide +kernel
theorem dX2_digest_363 : decode cX2_digest 363 = .ok (.lload_n 2, 1) := by decide +kernel
theorem dX2_digest_364 : decode cX2_digest 364 = .ok (.ldc2_w 151, 3) := by decide +kernel
theorem dX2_digest_367 : decode cX2_digest 367 = .ok (.lmul, 1) := by decide +kernel
theorem dX2_digest_368 : decode cX2_digest 368 = .ok (.iload 9, 2) := by decide +kernel
theorem dX2_digest_370 : decode cX2_digest 370 = .ok (.i2l, 1) := by decide +kernel
theorem dX2_digest_371 : decode cX2_digest 371 = .ok (.ladd, 1) := by decide +kernel
theorem dX2_digest_372 : decode cX2_digest 372 = .ok (.lstore_n 2, 1) := by decide +kernel
theorem dX2_digest_373 : decode cX2_digest 373 = .ok (.iinc 8 1, 3) := by decide +kernel
theorem dX2_digest_376 : decode cX2_digest 376 = .ok (.goto (-27), 3) := by decide +kernel
theorem dX2_digest_379 : decode cX2_digest 379 = .ok (.iinc 4 1, 3) := by decide +kernel
theorem dX2_digest_382 : decode cX2_digest 382 = .ok (.goto (-137), 3) := by decide +kernel
theorem dX2_digest_385 : decode cX2_digest 385 = .ok (.lload_n 2, 1) := by decide +kernel
theorem dX2_digest_386 : decode cX2_digest 386 = .ok (.lreturn, 1) := by decide +kernel
set_option maxRecDepth 20000 in
theorem ggL_addGate_X1_addGate : GoodIn wsL_addGate wsX1_addGate := goodIn_ca (goodIn_ca (goodIn_r _ [7, 8, 9, 10, 11, 12, 13, 14, 15, 6, 16, 17, 18, 19, 20, 21, 22, 23, 24, 25, 26, 27, 28, 29, 30, 31, 32, 33, 34, 35, 36, 37, 38, 39, 40, 41, 42, 43] (by decide +kernel) (by decide +kernel)) (goodIn_sub (fun _ h => List.mem_cons_of_mem _ (List.mem_append_left _ (List.mem_append_right _ h))) (by decide +kernel))) (goodIn_sub (fun _ h => List.mem_cons_of_mem _ (List.mem_append_right _ h)) (by decide +kernel))
set_option maxRecDepth 20000 in
theorem gL_addGate_X1_addGate : GoodIn wsL_addGate (wsV RL 7 RX1 yX1_addGate wsX1_addGate) := goodIn_app (goodIn_of _ (by decide +kernel)) ggL_addGate_X1_addGate
end
section
/-! Rows of my own over the kit's: contracts in one form, their calls, loads, stores, loops, ends. -/
theorem gt_Pm {D : va_G} {cl : List vw_C} {ws : va_W} {H : Heap} : va_P D cl ws H ↔ ∀ q ∈ ws, va_at D cl q H := by
  constructor
  · intro h q hq
    obtain ⟨i, hi⟩ := List.getElem?_of_mem hq
    exact h i q hi
  · intro h k q hk
    exact h q (List.mem_of_getElem? hk)
theorem gt_Dm {A : Nat → Prop} {ws : va_W} : va_D A ws ↔ (ws.map Prod.fst).Nodup ∧ ∀ q ∈ ws, A q.1 := by
  constructor
  · intro h
    refine ⟨?_, fun q hq => ?_⟩
    · rw [List.Nodup, List.pairwise_iff_getElem]
      intro i j hi hj hij he
      rw [List.length_map] at hi hj
      rw [List.getElem_map, List.getElem_map] at he
      have := h.1 i j ws[i] ws[j] (List.getElem?_eq_getElem hi) (List.getElem?_eq_getElem hj) he
      omega
    · obtain ⟨i, hi⟩ := List.getElem?_of_mem hq
      exact h.2 i q hi
  · rintro ⟨h1, h2⟩
    refine ⟨?_, fun k q hk => h2 q (List.mem_of_getElem? hk)⟩
    intro i j p q hi hj he
    rw [List.Nodup, List.pairwise_iff_getElem] at h1
    obtain ⟨li, ei⟩ := List.getElem?_eq_some_iff.mp hi
    obtain ⟨lj, ej⟩ := List.getElem?_eq_some_iff.mp hj
    rcases Nat.lt_trichotomy i j with hlt | heq | hgt
    · exact absurd (by rw [List.getElem_map, List.getElem_map, ei, ej]; exact he) (h1 i j (by rw [List.length_map]; exact li) (by rw [List.length_map]; exact lj) hlt)
    · exact heq
    · exact absurd (by rw [List.getElem_map, List.getElem_map, ei, ej]; exact he.symm) (h1 j i (by rw [List.length_map]; exact lj) (by rw [List.length_map]; exact li) hgt)
/-- a part of a world changes to w', the rest stays -/
theorem gt_swap {A : Nat → Prop} {D : va_G} {cl : List vw_C} {wa w wb w' : va_W} {H H1 : Heap} (hP : va_P D cl (wa ++ (w ++ wb)) H) (hD : va_D A (wa ++ (w ++ wb)))
    (hk : ∀ q : Nat, q < H.size → ¬ va_A w H.size q → H1[q]? = H[q]?) (hF : ∀ q, va_A w H.size q → A q) (hP1 : va_P D cl w' H1) (hD1 : va_D (va_A w H.size) w') : va_P D cl (wa ++ (w' ++ wb)) H1 ∧ va_D A (wa ++ (w' ++ wb)) := by
  rw [gt_Pm] at hP hP1
  rw [gt_Dm] at hD hD1
  obtain ⟨n1, n2⟩ := hD
  obtain ⟨m1, m2⟩ := hD1
  have out : ∀ q, (q ∈ wa ∨ q ∈ wb) → q.1 < H.size ∧ ¬ va_A w H.size q.1 := by
    intro q hq
    have hl : q.1 < H.size := (hP q (by
      rcases hq with h | h
      · exact List.mem_append_left _ h
      · exact List.mem_append_right _ (List.mem_append_right _ h))).lt
    refine ⟨hl, fun hA => ?_⟩
    rcases hA with ⟨k, e, hke⟩ | hge
    · have hw : (q.1, e) ∈ w := List.mem_of_getElem? hke
      rw [List.map_append, List.map_append, List.nodup_append, List.nodup_append] at n1
      obtain ⟨-, ⟨-, -, d2⟩, d1⟩ := n1
      rcases hq with h | h
      · exact d1 q.1 (List.mem_map_of_mem (f := Prod.fst) h) q.1 (List.mem_append_left _ (List.mem_map.mpr ⟨(q.1, e), hw, rfl⟩)) rfl
      · exact d2 q.1 (List.mem_map.mpr ⟨(q.1, e), hw, rfl⟩) q.1 (List.mem_map_of_mem (f := Prod.fst) h) rfl
    · omega
  rw [gt_Pm, gt_Dm]
  refine ⟨fun q hq => ?_, ?_, fun q hq => ?_⟩
  · rcases List.mem_append.mp hq with h | h
    · exact (hP q (List.mem_append_left _ h)).kept (hk _ (out q (Or.inl h)).1 (out q (Or.inl h)).2)
    · rcases List.mem_append.mp h with h | h
      · exact hP1 q h
      · exact (hP q (List.mem_append_right _ (List.mem_append_right _ h))).kept (hk _ (out q (Or.inr h)).1 (out q (Or.inr h)).2)
  · rw [List.map_append, List.map_append, List.nodup_append, List.nodup_append] at n1 ⊢
    obtain ⟨a1, ⟨a2, a3, d2⟩, d1⟩ := n1
    have o2 : ∀ x ∈ w'.map Prod.fst, va_A w H.size x := fun x hx => by
      obtain ⟨q, hq, rfl⟩ := List.mem_map.mp hx
      exact m2 q hq
    have o1 : ∀ x, (x ∈ wa.map Prod.fst ∨ x ∈ wb.map Prod.fst) → ¬ va_A w H.size x := by
      rintro x (h | h) <;> obtain ⟨q, hq, rfl⟩ := List.mem_map.mp h
      · exact (out q (Or.inl hq)).2
      · exact (out q (Or.inr hq)).2
    refine ⟨a1, ⟨m1, a3, fun x hx y hy he => ?_⟩, fun x hx y hy he => ?_⟩
    · subst he
      exact o1 x (Or.inr hy) (o2 x hx)
    · subst he
      rcases List.mem_append.mp hy with h | h
      · exact o1 x (Or.inl hx) (o2 x h)
      · exact d1 x hx x (List.mem_append_right _ h) rfl
  · rcases List.mem_append.mp hq with h | h
    · exact n2 q (List.mem_append_left _ h)
    · rcases List.mem_append.mp h with h | h
      · exact hF _ (m2 q h)
      · exact n2 q (List.mem_append_right _ (List.mem_append_right _ h))
/-- what a method begins with, and what it ends with: its world, before and behind; the answer -/
def gP (D : va_G) (tys : List (ClassId × FieldType)) (av : List Value) (w : va_W) (sz : Nat) : Array Value → State → Prop := va_Pc av (fun U => U.heap.size = sz ∧ va_P D vwCl w U.heap ∧ va_K D vwCl tys U ∧ va_D (fun _ => True) w)
def gQ (D : va_G) (tys : List (ClassId × FieldType)) (w' : va_W) (rv : Option Value) (A : Nat → Prop) : Array Value → State → Outcome → State → Prop := fun _ st oc t => (oc = .returned rv ∧ va_P D vwCl w' t.heap ∧ va_K D vwCl tys t ∧ va_D A w') ∧ va_F A st t
/-- A CONTRACT: with the world w the method answers rv, and leaves the world w' -/
def Ct (l : Launch) (D : va_G) (tys : List (ClassId × FieldType)) (y : MethodName) (wsy : List Cond) (fr lo mc ms : Nat) (av : List Value) (w : va_W) (rv : Option Value) (w' : va_W) : Prop :=
  ∀ sz : Nat, Met l y wsy ({ frames := fr, cells := mc, slots := ms, locals := lo } : Room) (gP D tys av w sz) (gQ D tys w' rv (va_A w sz)) mc ms (va_A w sz)
theorem gP_blind {D : va_G} {tys : List (ClassId × FieldType)} {av : List Value} {w : va_W} {sz : Nat} : FrameBlind (gP D tys av w sz) := by
  intro a U g mk q
  obtain ⟨q0, q1, qP, qK, qD⟩ := q
  exact ⟨q0, q1, qP, va_K.moved (u := U) (U := U.calling g mk a) (Vm.Alike.refl U.vm) qK, qD⟩
/-- a body's end, for a contract -/
def gZ (below : List Frame) (D : va_G) (tys : List (ClassId × FieldType)) (w' : va_W) (rv : Option Value) (A : Nat → Prop) (args : Array Value) (s : State) (mc ms : Nat) : State → Prop := MQ below (gQ D tys w' rv A) args s mc ms A
theorem Ct.ofW {l : Launch} {D : va_G} {tys : List (ClassId × FieldType)} {y : MethodName} {wsy ws0 : List Cond} {fr lo mc ms : Nat} {av : List Value} {w : va_W} {rv : Option Value} {w' : va_W} {cc : ByteArray} {maxL : Nat} {ret : Option FieldType}
    (hy : plainName y.cls = true) (hw : wsy = Cond.code y cc maxL ret :: ws0) (hav : (lg_sl av).length ≤ maxL)
    (h : ∀ (p : Program) (e : Env) (s : State) (m : MethodId) (below : List Frame) (meth : Method) (c : Code) (A : Nat → Prop) (ls : Array Slot),
      CallFix p m c cc maxL s av.toArray wsy y.cls → meth.sig.returnType = ret → meth.locks = false → (y.name = "<init>" → meth.name = "<init>") → va_P D vwCl w s.heap → va_D A w → va_S A s.heap s.heap [] → va_K D vwCl tys s → (∀ q, s.heap.size ≤ q → A q) → lv_has ls maxL (lv_args 0 av) →
      W p l e ({ frames := fr, cells := mc, slots := ms, locals := lo } : Room) s m av.toArray below meth c s.heap [] 0 0 (gZ below D tys w' rv A av.toArray s mc ms) (F0 m 0 ls [])) : Ct l D tys y wsy fr lo mc ms av w rv w' := by
  intro sz
  refine Met.ofW (cc := cc) (maxL := maxL) (ret := ret) hy hw ?_
  intro p e s m args below meth c s₁ B hml hv
  obtain ⟨rfl, hsz, hP, hK, hD0⟩ := hv
  have hts := atoms_spec (ws := wsy) B.pre
  have hown : s.vm.findClass y.cls = some m.cls := findClass_of_methodNamed B.named
  subst hsz
  have hD := hD0.self (sz := s.heap.size)
  have hl := lv_entry av (n := maxL) hav
  rw [lg_entry_eq]
  exact h p e s m below meth c (va_A w s.heap.size) _ ⟨B.exec, B.bytes, hml, hown, hts⟩ B.returns B.notSynchronized (fun hi => (name_of_methodNamed B.named B.method).1.trans hi) hP hD va_S.rf hK (fun q hq => Or.inr hq) hl
section GT
variable {p : Program} {l : Launch} {e : Env} {R : Room} {s : State} {m : MethodId} {args : Array Value} {below : List Frame} {meth : Method} {c : Code} {H : Heap} {locs : List Loc} {cells slots : Nat} {Q : State → Prop}
variable {cc : ByteArray} {pc nL : Nat} {Ts : List Cond} {own : String} {ls : Array Slot} {rest st0 : List Value} {D : va_G} {A : Nat → Prop} {a : Nat} {tys : List (ClassId × FieldType)} {ws ws' : va_W} {H0 : Heap}
variable {rv : Option Value} {w' : va_W} {mc ms : Nat}
theorem gt_iret (S : CallFix p m c cc nL s args Ts own) (hr : meth.sig.returnType = some .int) (hlocks : meth.locks = false) (hK : va_K D vwCl tys s) (hP : va_P D vwCl ws H) (hD : va_D A ws) (hS : va_S A s.heap H locs) {v : Int32} (hv : some (Value.int v) = rv) (hw : ws = w') (hdg : decode cc pc = .ok (.ireturn, 1)) (hc : cells ≤ mc) (hs : slots ≤ ms) :
    W p l e R s m args below meth c H locs cells slots (gZ below D tys w' rv A args s mc ms) (F0 m pc ls [.int v]) := by
  subst hw; subst hv
  refine W.widen hc hs ?_
  exact W.iret S.1 S.2.1 hr (fun t ht hW => ⟨⟨rfl, by rw [ht]; exact hP, va_K.moved hW.alike hK, hD⟩, hS.F ht⟩) hS.2.2 hdg hlocks
theorem gt_zret (S : CallFix p m c cc nL s args Ts own) (hr : meth.sig.returnType = some .boolean) (hlocks : meth.locks = false) (hK : va_K D vwCl tys s) (hP : va_P D vwCl ws H) (hD : va_D A ws) (hS : va_S A s.heap H locs) {v : Int32} (hz : v = 0 ∨ v = 1) (hv : some (Value.int v) = rv) (hw : ws = w') (hdg : decode cc pc = .ok (.ireturn, 1)) (hc : cells ≤ mc) (hs : slots ≤ ms) :
    W p l e R s m args below meth c H locs cells slots (gZ below D tys w' rv A args s mc ms) (F0 m pc ls [.int v]) := by
  subst hw; subst hv
  refine W.widen hc hs ?_
  exact W.zret S.1 S.2.1 hr (by rcases hz with rfl | rfl <;> rfl) (fun t ht hW => ⟨⟨rfl, by rw [ht]; exact hP, va_K.moved hW.alike hK, hD⟩, hS.F ht⟩) hS.2.2 hdg hlocks
theorem gt_vret (S : CallFix p m c cc nL s args Ts own) (hr : meth.sig.returnType = none) (hlocks : meth.locks = false) (hK : va_K D vwCl tys s) (hP : va_P D vwCl ws H) (hD : va_D A ws) (hS : va_S A s.heap H locs) (hv : none = rv) (hw : ws = w') (hdg : decode cc pc = .ok (.return_, 1)) (hc : cells ≤ mc) (hs : slots ≤ ms) :
    W p l e R s m args below meth c H locs cells slots (gZ below D tys w' rv A args s mc ms) (F0 m pc ls []) := by
  subst hw; subst hv
  refine W.widen hc hs ?_
  exact W.vret S.1 S.2.1 hr (fun t ht hW => ⟨⟨rfl, by rw [ht]; exact hP, va_K.moved hW.alike hK, hD⟩, hS.F ht⟩) hS.2.2 hdg hlocks
theorem gt_lret (S : CallFix p m c cc nL s args Ts own) (hr : meth.sig.returnType = some .long) (hlocks : meth.locks = false) (hK : va_K D vwCl tys s) (hP : va_P D vwCl ws H) (hD : va_D A ws) (hS : va_S A s.heap H locs) {v : Int64} (hv : some (Value.long v) = rv) (hw : ws = w') (hdg : decode cc pc = .ok (.lreturn, 1)) (hc : cells ≤ mc) (hs : slots ≤ ms) :
    W p l e R s m args below meth c H locs cells slots (gZ below D tys w' rv A args s mc ms) (F0 m pc ls [.long v]) := by
  subst hw; subst hv
  refine W.widen hc hs ?_
  exact W.lret S.1 S.2.1 hr (fun t ht hW => ⟨⟨rfl, by rw [ht]; exact hP, va_K.moved hW.alike hK, hD⟩, hS.F ht⟩) hS.2.2 hdg hlocks
/-- getfield -/
theorem gt_get (S : CallFix p m c cc nL s args Ts own) (q0 ci k i : Nat) {ref C : String} {T : u_T} {N index : Nat} {fs : List Value} {v : Value} (hin : ∀ w ∈ u_ws C T N, w ∈ Ts) (hK : va_K D vwCl tys s) (hP : va_P D vwCl ws H) (hdg : decode cc pc = .ok (.getfield index, 3)) (hc : vwCl[ci]? = some (C, T, N)) (he : ws[q0]? = some (a, .inr (ci, fs))) (hv : fs[k]? = some v) (hk : k < N) (hlink : Ts[i]? = some (Cond.fieldLink own index ref (T k).2.1 (T k).2.2.1)) (href : (T k).1 = ref)
    (kk : W p l e R s m args below meth c H locs cells slots Q (F0 m (pc + 3) ls (v :: rest))) : W p l e R s m args below meth c H locs cells slots Q (F0 m pc ls (.ref a :: rest)) :=
  va_get (ci := ci) S.1 S.2.1 S.2.2.2.2 hin S.2.2.2.1 hK hP q0 he hc k hk (S.2.2.2.2 _ (List.mem_of_getElem? hlink)) (fun x h => by rw [← href]; exact h) hv hdg kk
/-- putfield of an int -/
theorem gt_puti (S : CallFix p m c cc nL s args Ts own) (q0 ci k i : Nat) {ref C : String} {T : u_T} {N index : Nat} {fs : List Value} {v : Int32} (hin : ∀ w ∈ u_ws C T N, w ∈ Ts) {ty0 : Nat → FieldType} (hty : ∀ k, k < N → parseFieldDescriptor (T k).2.2.1 = some (ty0 k)) (hnm : ∀ a, a < N → ∀ b, b < N → a ≠ b → (T a).2.1 ≠ (T b).2.1) (hK : va_K D vwCl tys s) (hP : va_P D vwCl ws H) (hD : va_D A ws) (hS : va_S A H0 H locs) (hdg : decode cc pc = .ok (.putfield index, 3)) (hc : vwCl[ci]? = some (C, T, N)) (he : ws[q0]? = some (a, .inr (ci, fs))) (hk : k < N) (hlink : Ts[i]? = some (Cond.fieldLink own index ref (T k).2.1 (T k).2.2.1)) (href : (T k).1 = ref) (hfin : (T k).2.2.2 = false) (hd : ty0 k = .int) (hl : k < fs.length) (hw : ws.set q0 (a, .inr (ci, fs.set k (.int v))) = ws')
    (kk : ∀ (H1 : Heap) (locs1 : List Loc), va_P D vwCl ws' H1 → va_D A ws' → va_S A H0 H1 locs1 → W p l e R s m args below meth c H1 locs1 cells slots Q (F0 m (pc + 3) ls rest)) : W p l e R s m args below meth c H locs cells slots Q (F0 m pc ls (.int v :: .ref a :: rest)) := by
  subst hw
  exact va_put (ci := ci) (ty := .int) (v := .int v) S.1 S.2.1 S.2.2.2.2 hin ty0 hty hnm S.2.2.2.1 hK hP hD hS q0 he hc k hk (S.2.2.2.2 _ (List.mem_of_getElem? hlink)) (fun x h => by rw [← href]; exact h) hfin (by rw [hty k hk, hd]) rfl rfl hl hdg kk
/-- an int row is read -/
theorem gt_ald (S : CallFix p m c cc nL s args Ts own) (q0 t0 j : Nat) {cA : ClassId} {n : Nat} {f : Nat → Int32} {x : Int32} (hK : va_K D vwCl tys s) (hP : va_P D vwCl ws H) (hdg : decode cc pc = .ok (.iaload, 1)) (ha : ws[q0]? = some (a, .inl (cA, n, .inl f))) (ht : tys[t0]? = some (cA, .int)) (hx : x = nI j) (hj : j < n) (hn : n < 2 ^ 31)
    (kk : W p l e R s m args below meth c H locs cells slots Q (F0 m (pc + 1) ls (.int (f j) :: rest))) : W p l e R s m args below meth c H locs cells slots Q (F0 m pc ls (.int x :: .ref a :: rest)) := by
  subst hx
  refine va_iald S.1 S.2.1 hK hP q0 t0 ha ht (vp_in_nI hj hn) hdg ?_
  rw [nI_clamp (by omega)]
  exact kk
/-- .. and written -/
theorem gt_ast (S : CallFix p m c cc nL s args Ts own) (q0 t0 j : Nat) {cA : ClassId} {n : Nat} {f : Nat → Int32} {x v : Int32} (hK : va_K D vwCl tys s) (hP : va_P D vwCl ws H) (hD : va_D A ws) (hS : va_S A H0 H locs) (hdg : decode cc pc = .ok (.iastore, 1)) (ha : ws[q0]? = some (a, .inl (cA, n, .inl f))) (ht : tys[t0]? = some (cA, .int)) (hx : x = nI j) (hj : j < n) (hn : n < 2 ^ 31) (hw : ws.set q0 (a, .inl (cA, n, .inl (upd f j v))) = ws')
    (kk : ∀ (H1 : Heap) (locs1 : List Loc), va_P D vwCl ws' H1 → va_D A ws' → va_S A H0 H1 locs1 → W p l e R s m args below meth c H1 locs1 cells slots Q (F0 m (pc + 1) ls rest)) : W p l e R s m args below meth c H locs cells slots Q (F0 m pc ls (.int v :: .int x :: .ref a :: rest)) := by
  subst hx; subst hw
  refine va_iast S.1 S.2.1 hK hP hD hS q0 t0 ha ht (vp_in_nI hj hn) hdg ?_
  rw [nI_clamp (by omega)]
  exact kk
/-- a comparison of two numbers that are known -/
theorem gt_ge_f (S : CallFix p m c cc nL s args Ts own) (i n : Nat) {x y : Int32} {off : Int} {tgt : Nat} (hdg : decode cc pc = .ok (.if_icmp .ge off, 3)) (ht : (pc : Int) + off = (tgt : Int)) (hx : x = nI i) (hy : y = nI n) (h : i < n) (hn : n < 2 ^ 31)
    (kk : W p l e R s m args below meth c H locs cells slots Q (F0 m (pc + 3) ls rest)) : W p l e R s m args below meth c H locs cells slots Q (F0 m pc ls (.int y :: .int x :: rest)) :=
  lv_icmp_ge S.1 S.2.1 hdg ht (fun c9 => absurd c9 (by rw [hx, hy]; exact nI_ge h hn)) (fun _ => kk)
theorem gt_ge_t (S : CallFix p m c cc nL s args Ts own) (i n : Nat) {x y : Int32} {off : Int} {tgt : Nat} (hdg : decode cc pc = .ok (.if_icmp .ge off, 3)) (ht : (pc : Int) + off = (tgt : Int)) (hx : x = nI i) (hy : y = nI n) (h : n ≤ i) (hn : i < 2 ^ 31)
    (kk : W p l e R s m args below meth c H locs cells slots Q (F0 m tgt ls rest)) : W p l e R s m args below meth c H locs cells slots Q (F0 m pc ls (.int y :: .int x :: rest)) :=
  lv_icmp_ge S.1 S.2.1 hdg ht (fun _ => kk) (fun c9 => absurd (by rw [hx, hy]; exact nI_le h hn) c9)
theorem gt_gt_f (S : CallFix p m c cc nL s args Ts own) (i n : Nat) {x y : Int32} {off : Int} {tgt : Nat} (hdg : decode cc pc = .ok (.if_icmp .gt off, 3)) (ht : (pc : Int) + off = (tgt : Int)) (hx : x = nI i) (hy : y = nI n) (h : i ≤ n) (hn : n < 2 ^ 31)
    (kk : W p l e R s m args below meth c H locs cells slots Q (F0 m (pc + 3) ls rest)) : W p l e R s m args below meth c H locs cells slots Q (F0 m pc ls (.int y :: .int x :: rest)) :=
  lv_icmp_gt S.1 S.2.1 hdg ht (fun c9 => absurd c9 (by rw [hx, hy]; exact nI_nlt h hn)) (fun _ => kk)
theorem gt_gt_t (S : CallFix p m c cc nL s args Ts own) (i n : Nat) {x y : Int32} {off : Int} {tgt : Nat} (hdg : decode cc pc = .ok (.if_icmp .gt off, 3)) (ht : (pc : Int) + off = (tgt : Int)) (hx : x = nI i) (hy : y = nI n) (h : n < i) (hn : i < 2 ^ 31)
    (kk : W p l e R s m args below meth c H locs cells slots Q (F0 m tgt ls rest)) : W p l e R s m args below meth c H locs cells slots Q (F0 m pc ls (.int y :: .int x :: rest)) :=
  lv_icmp_gt S.1 S.2.1 hdg ht (fun _ => kk) (fun c9 => absurd (by rw [hx, hy]; exact nI_lt h hn) c9)
/-- a counter grows by one -/
theorem gt_inc (S : CallFix p m c cc nL s args Ts own) (k j : Nat) {i : Nat} {x : Int32} {lv lv' : List (Nat × Value)} (hdg : decode cc pc = .ok (.iinc i 1, 3)) (h : lv_has ls nL lv) (hk : lv[k]? = some (i, .int x)) (hx : x = nI j) (hn : i < nL) (hl : (i, Value.int (nI (j + 1))) :: lv.filter (fun q => !(q.1 == i) && !(q.1 + 1 == i && q.2.category == 2)) = lv')
    (kk : ∀ ls' : Array Slot, lv_has ls' nL lv' → W p l e R s m args below meth c H locs cells slots Q (F0 m (pc + 3) ls' rest)) : W p l e R s m args below meth c H locs cells slots Q (F0 m pc ls rest) := by
  subst hx
  exact lv_iinc S.1 S.2.1 hdg h hk (nI_1 j) hn hl kk
/-- two ways meet again, with one number on the stack -/
theorem gt_meet (t : Nat) (E : Int32) (k1 : (∀ w : Int32, w = E → W p l e R s m args below meth c H locs cells slots Q (F0 m t ls (.int w :: rest))) → W p l e R s m args below meth c H locs cells slots Q (F0 m pc ls st0)) (k2 : W p l e R s m args below meth c H locs cells slots Q (F0 m t ls (.int E :: rest))) : W p l e R s m args below meth c H locs cells slots Q (F0 m pc ls st0) :=
  k1 (fun _ h => h ▸ k2)
/-- .. where something was called on the ways -/
theorem gt_meetH (D : va_G) (A : Nat → Prop) (H0 : Heap) (ws : va_W) (hP : va_P D vwCl ws H) (hD : va_D A ws) (hS : va_S A H0 H locs) (t : Nat) (E : Int32) (k1 : (∀ (w : Int32) (H : Heap) (locs : List Loc), va_P D vwCl ws H → va_D A ws → va_S A H0 H locs → w = E → W p l e R s m args below meth c H locs cells slots Q (F0 m t ls (.int w :: rest))) → W p l e R s m args below meth c H locs cells slots Q (F0 m pc ls st0)) (k2 : ∀ (H : Heap) (locs : List Loc), va_P D vwCl ws H → va_D A ws → va_S A H0 H locs → W p l e R s m args below meth c H locs cells slots Q (F0 m t ls (.int E :: rest))) : W p l e R s m args below meth c H locs cells slots Q (F0 m pc ls st0) :=
  k1 (fun _ H locs h1 h2 h3 h => h ▸ k2 H locs h1 h2 h3)
/-- a loop whose turns are told by a number: locals lv i, world wd i, at its head hd -/
theorem gt_loop (D : va_G) (A : Nat → Prop) (H0 : Heap) (nL N : Nat) (lv : Nat → List (Nat × Value)) (wd : Nat → va_W) (hl : lv_has ls nL (lv 0)) (hP : va_P D vwCl (wd 0) H) (hD : va_D A (wd 0)) (hS : va_S A H0 H locs)
    (step : ∀ i, i < N → ∀ (H : Heap) (locs : List Loc) (ls : Array Slot), va_P D vwCl (wd i) H → va_D A (wd i) → va_S A H0 H locs → lv_has ls nL (lv i) → (∀ (H : Heap) (locs : List Loc) (ls : Array Slot), va_P D vwCl (wd (i + 1)) H → va_D A (wd (i + 1)) → va_S A H0 H locs → lv_has ls nL (lv (i + 1)) → W p l e R s m args below meth c H locs cells slots Q (F0 m pc ls rest)) → W p l e R s m args below meth c H locs cells slots Q (F0 m pc ls rest))
    (exit : ∀ (H : Heap) (locs : List Loc) (ls : Array Slot), va_P D vwCl (wd N) H → va_D A (wd N) → va_S A H0 H locs → lv_has ls nL (lv N) → W p l e R s m args below meth c H locs cells slots Q (F0 m pc ls rest)) : W p l e R s m args below meth c H locs cells slots Q (F0 m pc ls rest) := by
  have key : ∀ k i, i + k = N → ∀ (H : Heap) (locs : List Loc) (ls : Array Slot), va_P D vwCl (wd i) H → va_D A (wd i) → va_S A H0 H locs → lv_has ls nL (lv i) → W p l e R s m args below meth c H locs cells slots Q (F0 m pc ls rest) := by
    intro k
    induction k with
    | zero => intro i hi H locs ls h1 h2 h3 h4; obtain rfl : i = N := by omega
              exact exit H locs ls h1 h2 h3 h4
    | succ k ih =>
      intro i hi H locs ls h1 h2 h3 h4
      exact step i (by omega) H locs ls h1 h2 h3 h4 (ih (i + 1) (by omega))
  exact key N 0 (by omega) H locs ls hP hD hS hl
/-- a call of a contract, by the run of any kind; behind it the callee's world w', what isn't its own stays -/
theorem gt_run0 {D : va_G} {tysC : List (ClassId × FieldType)} {av : Array Value} {w : va_W} (hr : va_Run p l e R s m args below meth c H locs cells slots mc ms (F0 m pc ls st0) rest (gQ D tysC w' rv (va_A w H.size) av) (va_A w H.size)) (hDw : va_D A w) (hS : va_S A H0 H locs) (hA : ∀ q, H0.size ≤ q → A q)
    (kk : ∀ (H1 : Heap) (locs1 : List Loc), va_P D vwCl w' H1 → va_D (va_A w H.size) w' → (∀ q : Nat, q < H.size → ¬ va_A w H.size q → H1[q]? = H[q]?) → (∀ q, va_A w H.size q → A q) → va_S A H0 H1 locs1 → W p l e R s m args below meth c H1 locs1 (cells + mc) (slots + ms) Q (F0 m (pc + 3) ls (rv.toList ++ rest))) : W p l e R s m args below meth c H locs cells slots Q (F0 m pc ls st0) := by
  have hF : ∀ q, va_A w H.size q → A q := by
    rintro q (⟨k, e9, h⟩ | h)
    · exact hDw.2 k (q, e9) h
    · exact hA q (Nat.le_trans hS.1 h)
  intro T hT X
  obtain ⟨v, st₀, t, T', L, h0, X', hL, e1, e2, ⟨⟨hv, hP', hK', hD'⟩, hz, hk⟩, st⟩ := hr T hT X
  cases hv
  rw [h0] at hz hk
  obtain ⟨t2, a1, b1⟩ := kk T'.heap (locs ++ L) (by rw [e1]; exact hP') hD' (fun q h1 h2 => by rw [e1]; exact hk q h1 h2) hF
    ⟨Nat.le_trans hS.1 (by rw [e1]; exact hz), fun q h1 h2 => by rw [e1, hk q (Nat.lt_of_lt_of_le h1 hS.1) (fun z => h2 (hF q z))]; exact hS.2.1 q h1 h2, fun q hq => by
      rcases List.mem_append.mp hq with h | h
      · exact hS.2.2 q h
      · exact hF _ (hL q h)⟩ T' rfl X'
  exact ⟨t2, st t2 a1, b1⟩
/-- the stack, seen otherwise -/
theorem gt_stk (st1 : List Value) (h : st0 = st1) (k : W p l e R s m args below meth c H locs cells slots Q (F0 m pc ls st1)) : W p l e R s m args below meth c H locs cells slots Q (F0 m pc ls st0) := h ▸ k
/-- an invokevirtual of a contract whose world is the caller's -/
theorem gt_call0 (S : CallFix p m c cc nL s args Ts own) (q0 ci n : Nat) {fr lo : Nat} {tysC : List (ClassId × FieldType)} {y : MethodName} {wsy : List Cond} {b : Nat} {As : List Value} {C : String} {index maxL : Nat} {bytes : ByteArray} {ret : Option FieldType} {T : u_T} {N : Nat} {fs : List Value} {ws0 : List Cond}
    (hM : Ct l D tysC y wsy fr lo mc ms (.ref b :: As) ws rv w') (hG : GoodIn Ts (wsV own index C y wsy)) (hdg : decode cc pc = .ok (.invokevirtual index, 3)) (hKc : va_K D vwCl tysC s) (hP : va_P D vwCl ws H) (hD : va_D A ws) (hS : va_S A H0 H locs) (hA : ∀ q, H0.size ≤ q → A q) (hlL : ls.size = nL)
    (hwy : wsy = Cond.code y bytes maxL ret :: ws0) (hd : y.cls = C ∧ y.cls ≠ "java/lang/invoke/MethodHandle" ∧ y.cls ≠ "java/lang/invoke/VarHandle" ∧ (parseMethodDescriptor y.desc).map (fun d => d.parameters.length) = some n) (hR : fr + 1 ≤ R.frames ∧ 8 + (maxL + 11) + lo ≤ R.locals) (hroom : cells + mc ≤ R.cells ∧ slots + ms ≤ R.slots)
    (he : ws[q0]? = some (b, .inr (ci, fs))) (hc : vwCl[ci]? = some (C, T, N)) (hn : As.length = n) (hst : st0 = As.reverse ++ .ref b :: rest) (hcat : (rest.map fun v => v.category).sum ≤ 8)
    (kk : ∀ (H1 : Heap) (locs1 : List Loc), va_P D vwCl w' H1 → va_D A w' → va_S A H0 H1 locs1 → W p l e R s m args below meth c H1 locs1 (cells + mc) (slots + ms) Q (F0 m (pc + 3) ls (rv.toList ++ rest))) : W p l e R s m args below meth c H locs cells slots Q (F0 m pc ls st0) :=
  gt_run0 (w := ws) (va_runV (C := C) (As := As) (rest := rest) S (hM H.size) (cwV n S.2.2.2.2 hG hwy rfl rfl hd hR) ⟨gP_blind, va_recv hKc hP hc he, fun U hU hW => ⟨rfl, by rw [hU], by rw [hU]; exact hP, va_K.moved hW.alike hKc, hD.weaken (fun _ _ _ _ => trivial)⟩⟩ rfl hn hlL hst (lv_room hcat) hdg hroom) hD hS hA (fun H1 locs1 g1 g2 _ g4 g5 => kk H1 locs1 g1 (g2.weaken (fun _ q _ h => g4 q.1 h)) g5)
/-- .. a part of it -/
theorem gt_callV (S : CallFix p m c cc nL s args Ts own) (wa wb : va_W) (q0 ci n : Nat) {fr lo : Nat} {tysC : List (ClassId × FieldType)} {w : va_W} {y : MethodName} {wsy : List Cond} {b : Nat} {As : List Value} {C : String} {index maxL : Nat} {bytes : ByteArray} {ret : Option FieldType} {T : u_T} {N : Nat} {fs : List Value} {ws0 : List Cond}
    (hM : Ct l D tysC y wsy fr lo mc ms (.ref b :: As) w rv w') (hG : GoodIn Ts (wsV own index C y wsy)) (hdg : decode cc pc = .ok (.invokevirtual index, 3)) (hKc : va_K D vwCl tysC s) (hP : va_P D vwCl ws H) (hD : va_D A ws) (hS : va_S A H0 H locs) (hA : ∀ q, H0.size ≤ q → A q) (hlL : ls.size = nL)
    (hwy : wsy = Cond.code y bytes maxL ret :: ws0) (hd : y.cls = C ∧ y.cls ≠ "java/lang/invoke/MethodHandle" ∧ y.cls ≠ "java/lang/invoke/VarHandle" ∧ (parseMethodDescriptor y.desc).map (fun d => d.parameters.length) = some n) (hR : fr + 1 ≤ R.frames ∧ 8 + (maxL + 11) + lo ≤ R.locals) (hroom : cells + mc ≤ R.cells ∧ slots + ms ≤ R.slots)
    (hws : ws = wa ++ (w ++ wb)) (hws' : wa ++ (w' ++ wb) = ws') (he : w[q0]? = some (b, .inr (ci, fs))) (hc : vwCl[ci]? = some (C, T, N)) (hn : As.length = n) (hst : st0 = As.reverse ++ .ref b :: rest) (hcat : (rest.map fun v => v.category).sum ≤ 8)
    (kk : ∀ (H1 : Heap) (locs1 : List Loc), va_P D vwCl ws' H1 → va_D A ws' → va_S A H0 H1 locs1 → W p l e R s m args below meth c H1 locs1 (cells + mc) (slots + ms) Q (F0 m (pc + 3) ls (rv.toList ++ rest))) : W p l e R s m args below meth c H locs cells slots Q (F0 m pc ls st0) := by
  subst hws; subst hws'
  have hPw : va_P D vwCl w H := gt_Pm.mpr fun q hq => gt_Pm.mp hP q (List.mem_append_right _ (List.mem_append_left _ hq))
  have hDw : va_D A w := by
    have h := gt_Dm.mp hD
    refine gt_Dm.mpr ⟨?_, fun q hq => h.2 q (List.mem_append_right _ (List.mem_append_left _ hq))⟩
    have h1 := h.1
    rw [List.map_append, List.map_append, List.nodup_append, List.nodup_append] at h1
    exact h1.2.1.1
  refine gt_run0 (w := w) (va_runV (C := C) (As := As) (rest := rest) S (hM H.size) (cwV n S.2.2.2.2 hG hwy rfl rfl hd hR) ⟨gP_blind, va_recv hKc hPw hc he, fun U hU hW => ⟨rfl, by rw [hU], by rw [hU]; exact hPw, va_K.moved hW.alike hKc, hDw.weaken (fun _ _ _ _ => trivial)⟩⟩ rfl hn hlL hst (lv_room hcat) hdg hroom) hDw hS hA (fun H1 locs1 g1 g2 g3 g4 g5 => ?_)
  obtain ⟨j1, j2⟩ := gt_swap hP hD g3 g4 g1 g2
  exact kk H1 locs1 j1 j2 g5
/-- a static call without a world -/
theorem gt_callS (S : CallFix p m c cc nL s args Ts own) (n : Nat) {fr lo : Nat} {y : MethodName} {wsy : List Cond} {As : List Value} {index maxL : Nat} {bytes : ByteArray} {ret : Option FieldType} {ws0 : List Cond}
    (hM : Ct l D [] y wsy fr lo mc ms As [] rv []) (hG : GoodIn Ts (va_wsS own index y wsy)) (hdg : decode cc pc = .ok (.invokestatic index, 3)) (hK : va_K D vwCl tys s) (hP : va_P D vwCl ws H) (hD : va_D A ws) (hS : va_S A H0 H locs) (hA : ∀ q, H0.size ≤ q → A q) (hlL : ls.size = nL)
    (hwy : wsy = Cond.code y bytes maxL ret :: ws0) (hd : y.cls ≠ "java/lang/invoke/MethodHandle" ∧ y.cls ≠ "java/lang/invoke/VarHandle" ∧ (parseMethodDescriptor y.desc).map (fun d => d.parameters.length) = some n) (hR : fr + 1 ≤ R.frames ∧ 8 + (maxL + 11) + lo ≤ R.locals) (hroom : cells + mc ≤ R.cells ∧ slots + ms ≤ R.slots)
    (hn : As.length = n) (hst : st0 = As.reverse ++ rest) (hcat : (rest.map fun v => v.category).sum ≤ 8)
    (kk : ∀ (H1 : Heap) (locs1 : List Loc), va_P D vwCl ws H1 → va_D A ws → va_S A H0 H1 locs1 → W p l e R s m args below meth c H1 locs1 (cells + mc) (slots + ms) Q (F0 m (pc + 3) ls (rv.toList ++ rest))) : W p l e R s m args below meth c H locs cells slots Q (F0 m pc ls st0) := by
  have hPw : va_P D vwCl ([] : va_W) H := gt_Pm.mpr fun q hq => nomatch hq
  have hDw : va_D A ([] : va_W) := gt_Dm.mpr ⟨List.nodup_nil, fun q hq => nomatch hq⟩
  have hKc : va_K D vwCl [] s := ⟨hK.1, fun k z hz => by cases hz⟩
  refine gt_run0 (w := ([] : va_W)) (va_runS (As := As) (rest := rest) S (hM H.size) (va_cwS n S.2.2.2.2 hG hwy rfl rfl hd hR) ⟨gP_blind, fun U hU hW => ⟨rfl, by rw [hU], by rw [hU]; exact hPw, va_K.moved hW.alike hKc, hDw.weaken (fun _ _ _ _ => trivial)⟩⟩ rfl hn hlL hst (lv_room hcat) hdg hroom) hDw hS hA (fun H1 locs1 g1 g2 g3 g4 g5 => ?_)
  obtain ⟨j1, j2⟩ := gt_swap (wa := []) (w := []) (wb := ws) (w' := []) hP hD g3 g4 g1 g2
  exact kk H1 locs1 j1 j2 g5
end GT
end
section
/-! What the class's methods do, as functions of the rows of a Scene: row 0 the numbers (minute, gates, goats, asked, let in), rows 5 to 16 its arrays in the order of the fields. -/
abbrev SS : Type := Nat → Nat → Int32
def up2 (S : SS) (k i : Nat) (v : Int32) : SS := fun a => if a = k then upd (S k) i v else S a
theorem up2_s (S : SS) (k i : Nat) (v : Int32) : up2 S k i v k i = v := by simp [up2, upd]
theorem up2_c (S : SS) (k i : Nat) (v : Int32) {j : Nat} (h : j ≠ i) : up2 S k i v k j = S k j := by simp [up2, upd, h]
theorem up2_r (S : SS) (k i : Nat) (v : Int32) {a : Nat} (h : a ≠ k) : up2 S k i v a = S a := by simp [up2, h]
theorem up2_at (S : SS) (k i : Nat) (v : Int32) (a j : Nat) : up2 S k i v a j = if a = k ∧ j = i then v else S a j := by
  unfold up2
  by_cases h : a = k
  · subst h
    by_cases h2 : j = i
    · simp [upd, h2]
    · simp [upd, h2]
  · simp [h]
/-- the world of one Scene -/
def sw (cI : ClassId) (o : Nat) (r : Nat → Nat) (S : SS) : va_W := [(o, .inr (0, [.int (S 0 0), .int (S 0 1), .int (S 0 2), .int (S 0 3), .int (S 0 4), .ref (r 5), .ref (r 6), .ref (r 7), .ref (r 8), .ref (r 9), .ref (r 10), .ref (r 11), .ref (r 12), .ref (r 13), .ref (r 14), .ref (r 15), .ref (r 16)])), (r 5, .inl (cI, 4, .inl (S 5))), (r 6, .inl (cI, 4, .inl (S 6))), (r 7, .inl (cI, 4, .inl (S 7))), (r 8, .inl (cI, 12, .inl (S 8))), (r 9, .inl (cI, 12, .inl (S 9))), (r 10, .inl (cI, 12, .inl (S 10))), (r 11, .inl (cI, 12, .inl (S 11))), (r 12, .inl (cI, 12, .inl (S 12))), (r 13, .inl (cI, 12, .inl (S 13))), (r 14, .inl (cI, 12, .inl (S 14))), (r 15, .inl (cI, 12, .inl (S 15))), (r 16, .inl (cI, 12, .inl (S 16)))]
def gxWt (S : SS) (i : Nat) (g : Int32) : Int32 := if S 9 i = 1 then (if S 10 i = g then 1 else 0) else 0
theorem gxWt_01 (S : SS) (i : Nat) (g : Int32) : gxWt S i g = 0 ∨ gxWt S i g = 1 := by
  unfold gxWt
  split
  · split
    · exact Or.inr rfl
    · exact Or.inl rfl
  · exact Or.inl rfl
def gxHeld (S : SS) (i : Nat) : Int32 := if S 9 i = 2 then S 11 i else 0
def gxSeem (S : SS) (i : Nat) : Int32 := S 8 i + S 15 i / 3
def gxFree (S : SS) (g : Nat) : Nat → Int32
  | 0 => S 5 g
  | n + 1 => if S 9 n = 2 then (if S 10 n = nI g then gxFree S g n - S 11 n else gxFree S g n) else gxFree S g n
def gxCnt (S : SS) (w : Int32) : Nat → Int32
  | 0 => 0
  | n + 1 => if S 9 n = w then gxCnt S w n + 1 else gxCnt S w n
def gxStv (S : SS) : Nat → Int32
  | 0 => 0
  | n + 1 => if S 9 n = 1 then (if S 15 n < 8 then gxStv S n else gxStv S n + 1) else gxStv S n
def gxWat (S : SS) (g : Int32) : Nat → Int32
  | 0 => 0
  | n + 1 => if gxWt S n g = 0 then gxWat S g n else gxWat S g n + 1
def gxAhd (S : SS) (j : Nat) : Nat → Int32
  | 0 => 0
  | n + 1 => if gxWt S n (S 10 j) = 0 then gxAhd S j n else (if S 14 j ≤ S 14 n then gxAhd S j n else gxAhd S j n + 1)
def gxGiv (S : SS) : Nat → Int32
  | 0 => 0
  | n + 1 => gxGiv S n + S 7 n
def gxSum (S : SS) : Nat → Int32
  | 0 => 0
  | n + 1 => gxSum S n + S 16 n
def gxRest (S : SS) (i : Nat) : SS := up2 (up2 (up2 (up2 S 9 i 0) 10 i (-1)) 13 i 0) 15 i 0
def gxOpn (S : SS) (G : Nat) (a b : Int32) : SS := up2 (up2 (up2 S 5 G a) 6 G b) 0 1 (S 0 1 + 1)
def gxBrg (S : SS) (N : Nat) (h : Int32) : SS := up2 (gxRest (up2 S 8 N h) N) 0 2 (S 0 2 + 1)
def gxLine (S : SS) (i : Nat) (g w mi wt : Int32) : SS := up2 (up2 (up2 (up2 (up2 (up2 (up2 S 9 i 1) 10 i g) 11 i w) 12 i mi) 13 i wt) 14 i (S 0 3)) 0 3 (S 0 3 + 1)
def gxEnt (S : SS) (i : Nat) (g t mi : Int32) : SS := up2 (up2 (up2 (up2 (up2 S 9 i 2) 10 i g) 11 i t) 13 i mi) 15 i 0
def gxLvT (T : SS) (i : Nat) : SS := if T 9 i = 2 then (if 0 < (up2 T 13 i (T 13 i - 1)) 13 i then up2 T 13 i (T 13 i - 1) else gxRest (up2 T 13 i (T 13 i - 1)) i) else T
def gxLv (S : SS) : Nat → SS
  | 0 => S
  | n + 1 => gxLvT (gxLv S n) n
def gxBh (S : SS) (g : Nat) : Int32 := if S 6 g = 1 then 1 else 0
def gxCo (S : SS) (fr bh : Int32) (g i : Nat) : Int32 := if gxWt S i (nI g) = 0 then 0 else (if bh = 0 then 1 else (if fr < S 11 i then 0 else 1))
def gxLn (S : SS) (bh : Int32) (i : Nat) : Int32 := if bh = 0 then 0 else gxSeem S i
def gxEr (S : SS) (f : Int32) (i : Nat) : Int32 := if f < 0 then 1 else (if S 14 f.toNatClampNeg ≤ S 14 i then 0 else 1)
def gxFiS (S : SS) (fr bh : Int32) (g i : Nat) (q : Int32 × Int32) : Int32 × Int32 := if gxCo S fr bh g i = 0 then q else (if q.2 < gxLn S bh i then (nI i, gxLn S bh i) else (if gxLn S bh i = q.2 then (if gxEr S q.1 i = 0 then q else (nI i, gxLn S bh i)) else q))
def gxFiL (S : SS) (fr bh : Int32) (g : Nat) : Nat → Int32 × Int32
  | 0 => (-1, 0)
  | n + 1 => gxFiS S fr bh g n (gxFiL S fr bh g n)
/-- the first's place: -1, or a number below n -/
theorem gxFiL_ix {S : SS} {fr bh : Int32} {g : Nat} : ∀ n, n ≤ 12 → ¬ (gxFiL S fr bh g n).1 < 0 → ∃ j, j < n ∧ (gxFiL S fr bh g n).1 = nI j := by
  intro n
  induction n with
  | zero => intro _ h; exact absurd (show (-1 : Int32) < 0 by decide) h
  | succ n ih =>
    intro hn h
    have key : (gxFiL S fr bh g (n + 1)).1 = (gxFiL S fr bh g n).1 ∨ (gxFiL S fr bh g (n + 1)).1 = nI n := by
      show (gxFiS S fr bh g n (gxFiL S fr bh g n)).1 = _ ∨ (gxFiS S fr bh g n (gxFiL S fr bh g n)).1 = _
      unfold gxFiS
      split
      · exact Or.inl rfl
      · split
        · exact Or.inr rfl
        · split
          · split
            · exact Or.inl rfl
            · exact Or.inr rfl
          · exact Or.inl rfl
    rcases key with e | e
    · rw [e] at h ⊢
      obtain ⟨j, h1, h2⟩ := ih (by omega) h
      exact ⟨j, by omega, h2⟩
    · exact ⟨n, by omega, e⟩
theorem gxFiL_cl {S : SS} {fr bh : Int32} {g : Nat} {n : Nat} (hn : n ≤ 12) (h : ¬ (gxFiL S fr bh g n).1 < 0) : (gxFiL S fr bh g n).1 = nI (gxFiL S fr bh g n).1.toNatClampNeg ∧ (gxFiL S fr bh g n).1.toNatClampNeg < n := by
  obtain ⟨j, h1, h2⟩ := gxFiL_ix n hn h
  rw [h2, nI_clamp (by omega)]
  exact ⟨rfl, h1⟩
def gxFiQ (S : SS) (g N : Nat) : Int32 := (gxFiL S (gxFree S g N) (gxBh S g) g N).1
def gxFiR (S : SS) (g N : Nat) : Int32 := if gxFiQ S g N < 0 then -1 else (if gxFree S g N < S 11 (gxFiQ S g N).toNatClampNeg then -1 else gxFiQ S g N)
theorem gxFiR_ix {S : SS} {g N : Nat} (hN : N ≤ 12) (h : ¬ gxFiR S g N < 0) : ∃ j, j < N ∧ gxFiR S g N = nI j := by
  unfold gxFiR at h ⊢
  split at h
  · exact absurd (by decide) h
  · rename_i h1
    rw [if_neg h1]
    split at h
    · exact absurd (by decide) h
    · rename_i h2
      rw [if_neg h2]
      exact gxFiL_ix N hN h1
def gxLiS (T : SS) (g N : Nat) : SS := up2 (gxEnt T (gxFiR T g N).toNatClampNeg (nI g) (T 11 (gxFiR T g N).toNatClampNeg) (T 12 (gxFiR T g N).toNatClampNeg)) 0 4 (T 0 4 + 1)
def gxLiI (S : SS) (g N : Nat) : Nat → SS
  | 0 => S
  | n + 1 => gxLiS (gxLiI S g N n) g N
/-- how many are let in, at most k -/
def gxLiK (g N : Nat) : Nat → SS → Nat
  | 0, _ => 0
  | k + 1, T => if gxFiR T g N < 0 then 0 else gxLiK g N k (gxLiS T g N) + 1
theorem gxLiK_le (g N : Nat) : ∀ k T, gxLiK g N k T ≤ k := by
  intro k
  induction k with
  | zero => intro T; exact Nat.le_refl 0
  | succ k ih =>
    intro T
    unfold gxLiK
    split
    · exact Nat.zero_le _
    · exact Nat.succ_le_succ (ih _)
theorem gxLiI_s (S : SS) (g N : Nat) : ∀ n, gxLiI (gxLiS S g N) g N n = gxLiI S g N (n + 1) := by
  intro n
  induction n with
  | zero => rfl
  | succ n ih => show gxLiS _ g N = gxLiS _ g N; rw [ih]
theorem gxLiK_no {g N : Nat} : ∀ k T i, i < gxLiK g N k T → ¬ gxFiR (gxLiI T g N i) g N < 0 := by
  intro k
  induction k with
  | zero => intro T i h; exact absurd h (Nat.not_lt_zero i)
  | succ k ih =>
    intro T i h
    unfold gxLiK at h
    split at h
    · exact absurd h (Nat.not_lt_zero i)
    · rename_i h1
      cases i with
      | zero => exact h1
      | succ i => rw [← gxLiI_s]; exact ih _ i (by omega)
theorem gxLiK_yes {g N : Nat} : ∀ k T, gxLiK g N k T < k → gxFiR (gxLiI T g N (gxLiK g N k T)) g N < 0 := by
  intro k
  induction k with
  | zero => intro T h; exact absurd h (Nat.not_lt_zero _)
  | succ k ih =>
    intro T h
    unfold gxLiK at h ⊢
    split at h
    · rename_i h1; rw [if_pos h1]; exact h1
    · rename_i h1
      rw [if_neg h1, ← gxLiI_s]
      exact ih _ (by omega)
def gxLiF (S : SS) (g N : Nat) : SS := gxLiI S g N (gxLiK g N N S)
def gxWoA (T : SS) (i : Nat) : SS := up2 (up2 (up2 T 15 i (T 15 i + 1)) 16 i (T 16 i + 1)) 13 i (T 13 i - 1)
def gxWoT (T : SS) (g i : Nat) : SS := if gxWt T i (nI g) = 0 then T else (if 0 < gxWoA T i 13 i then gxWoA T i else up2 (gxRest (gxWoA T i) i) 7 g (gxRest (gxWoA T i) i 7 g + 1))
def gxWo (S : SS) (g : Nat) : Nat → SS
  | 0 => S
  | n + 1 => gxWoT (gxWo S g n) g n
def gxLg (S : SS) (N : Nat) : Nat → SS
  | 0 => gxLv S N
  | n + 1 => gxLiF (gxLg S N n) n N
def gxWg (S : SS) (N G : Nat) : Nat → SS
  | 0 => gxLg S N G
  | n + 1 => gxWo (gxWg S N G n) n N
def gxMin (S : SS) (G N : Nat) : SS := up2 (gxWg S N G G) 0 0 (gxWg S N G G 0 0 + 1)
-- the numbers of row 0 that stay
theorem gxRest_0 (S : SS) (i : Nat) : gxRest S i 0 = S 0 := rfl
theorem gxEnt_0 (S : SS) (i : Nat) (g t mi : Int32) : gxEnt S i g t mi 0 = S 0 := rfl
theorem gxLvT_0 (T : SS) (i : Nat) : gxLvT T i 0 = T 0 := by
  unfold gxLvT
  split
  · split
    · rfl
    · rfl
  · rfl
theorem gxLv_0 (S : SS) : ∀ n, gxLv S n 0 = S 0 := by
  intro n
  induction n with
  | zero => rfl
  | succ n ih => exact (gxLvT_0 _ n).trans ih
theorem gxLiS_0 (T : SS) (g N : Nat) {c : Nat} (h : c ≠ 4) : gxLiS T g N 0 c = T 0 c := by
  unfold gxLiS
  rw [up2_c _ _ _ _ h]
  rfl
theorem gxLiI_0 (S : SS) (g N : Nat) {c : Nat} (h : c ≠ 4) : ∀ n, gxLiI S g N n 0 c = S 0 c := by
  intro n
  induction n with
  | zero => rfl
  | succ n ih => exact (gxLiS_0 _ g N h).trans ih
theorem gxLiF_0 (S : SS) (g N : Nat) {c : Nat} (h : c ≠ 4) : gxLiF S g N 0 c = S 0 c := gxLiI_0 S g N h _
theorem gxWoT_0 (T : SS) (g i : Nat) : gxWoT T g i 0 = T 0 := by
  unfold gxWoT
  split
  · rfl
  · split
    · rfl
    · rfl
theorem gxWo_0 (S : SS) (g : Nat) : ∀ n, gxWo S g n 0 = S 0 := by
  intro n
  induction n with
  | zero => rfl
  | succ n ih => exact (gxWoT_0 _ g n).trans ih
theorem gxLg_0 (S : SS) (N : Nat) {c : Nat} (h : c ≠ 4) : ∀ n, gxLg S N n 0 c = S 0 c := by
  intro n
  induction n with
  | zero => exact congrFun (gxLv_0 S N) c
  | succ n ih => exact (gxLiF_0 _ n N h).trans ih
theorem gxWg_0 (S : SS) (N G : Nat) {c : Nat} (h : c ≠ 4) : ∀ n, gxWg S N G n 0 c = S 0 c := by
  intro n
  induction n with
  | zero => exact gxLg_0 S N h G
  | succ n ih => exact (congrFun (gxWo_0 _ n N) c).trans ih
theorem gxMin_0 (S : SS) (G N : Nat) {c : Nat} (h : c ≠ 4) (h0 : c ≠ 0) : gxMin S G N 0 c = S 0 c := by
  unfold gxMin
  rw [up2_c _ _ _ _ h0]
  exact gxWg_0 S N G h G
end
section
/-! The contracts of the Scene's methods (laid by wip/whole/gen/scene.py). -/
theorem hd_X0_waitsAt : yX0_waitsAt.cls = RX0 ∧ yX0_waitsAt.cls ≠ "java/lang/invoke/MethodHandle" ∧ yX0_waitsAt.cls ≠ "java/lang/invoke/VarHandle" ∧ (parseMethodDescriptor yX0_waitsAt.desc).map (fun d => d.parameters.length) = some 2 := by decide +kernel
set_option maxHeartbeats 4000000 in
set_option maxRecDepth 100000 in
theorem ct_X0_waitsAt (l : Launch) (D : va_G) (cI : ClassId) (o : Nat) (r : Nat → Nat) (S : SS) (i : Nat) (g : Int32) (hi : i < 12) : Ct l D [(cI, .int)] yX0_waitsAt wsX0_waitsAt 0 0 0 0 [.ref o, .int (nI i), .int g] (sw cI o r S) (some (.int (gxWt S i g))) (sw cI o r S) := by
  refine Ct.ofW (cc := cX0_waitsAt) (maxL := 3) (ret := (some .boolean)) (by decide) rfl (Nat.le_of_ble_eq_true rfl) ?_
  intro p e s m below meth c A ls hC hr hlk _ hP hD hS hK hA hl
  have hx := hC.1
  have hb := hC.2.1
  have hinX0 : ∀ w ∈ wsX00, w ∈ wsX0_waitsAt := fun _ _h => List.mem_cons_of_mem _ (List.mem_append_right _ _h)
  have hl : lv_has ls 3 [(0, .ref o), (1, .int (nI i)), (2, .int g)] := hl
  refine lv_aload_n hx hb dX0_waitsAt_0 rfl (lv_at hl 0 rfl) ?_
  refine gt_get hC 0 0 9 1 hinX0 hK hP dX0_waitsAt_1 rfl rfl rfl (by decide) rfl rfl ?_
  refine lv_iload_n hx hb dX0_waitsAt_4 rfl (lv_at hl 1 rfl) ?_
  refine gt_ald hC 5 0 i hK hP dX0_waitsAt_5 rfl rfl rfl (by omega) (Nat.le_of_ble_eq_true rfl) ?_
  refine lv_iconst (v := 1) hx hb dX0_waitsAt_6 (by decide) ?_
  refine gt_meet (rest := []) 25 (gxWt S i g) (fun K1 => ?_) ?_
  · skip
    refine lv_icmp_ne (tgt := 24) hx hb dX0_waitsAt_7 (by decide) (fun c7_2 : ¬ ((S 9 i) = 1) => ?_) (fun c7_2 : (S 9 i) = 1 => ?_)
    · skip
      refine lv_iconst (v := 0) hx hb dX0_waitsAt_24 (by decide) ?_
      exact K1 _ (show 0 = (if (S 9 i) = 1 then (if (S 10 i) = g then 1 else 0) else 0) from by rw [if_neg c7_2])
    · skip
      refine lv_aload_n hx hb dX0_waitsAt_10 rfl (lv_at hl 0 rfl) ?_
      refine gt_get hC 0 0 10 2 hinX0 hK hP dX0_waitsAt_11 rfl rfl rfl (by decide) rfl rfl ?_
      refine lv_iload_n hx hb dX0_waitsAt_14 rfl (lv_at hl 1 rfl) ?_
      refine gt_ald hC 6 0 i hK hP dX0_waitsAt_15 rfl rfl rfl (by omega) (Nat.le_of_ble_eq_true rfl) ?_
      refine lv_iload_n hx hb dX0_waitsAt_16 rfl (lv_at hl 2 rfl) ?_
      refine lv_icmp_ne (tgt := 24) hx hb dX0_waitsAt_17 (by decide) (fun c17_3 : ¬ ((S 10 i) = g) => ?_) (fun c17_3 : (S 10 i) = g => ?_)
      · skip
        refine lv_iconst (v := 0) hx hb dX0_waitsAt_24 (by decide) ?_
        exact K1 _ (show 0 = (if (S 9 i) = 1 then (if (S 10 i) = g then 1 else 0) else 0) from by rw [if_pos c7_2, if_neg c17_3])
      · skip
        refine lv_iconst (v := 1) hx hb dX0_waitsAt_20 (by decide) ?_
        refine lv_goto (tgt := 25) hx hb dX0_waitsAt_21 (by decide) ?_
        exact K1 _ (show 1 = (if (S 9 i) = 1 then (if (S 10 i) = g then 1 else 0) else 0) from by rw [if_pos c7_2, if_pos c17_3])
  · skip
    exact gt_zret hC hr hlk hK (ws := (sw cI o r S)) hP hD hS (gxWt_01 S i g) (show some (Value.int (gxWt S i g)) = _ from rfl) rfl dX0_waitsAt_25 (Nat.le_of_ble_eq_true rfl) (Nat.le_of_ble_eq_true rfl)

theorem hd_X0_held : yX0_held.cls = RX0 ∧ yX0_held.cls ≠ "java/lang/invoke/MethodHandle" ∧ yX0_held.cls ≠ "java/lang/invoke/VarHandle" ∧ (parseMethodDescriptor yX0_held.desc).map (fun d => d.parameters.length) = some 1 := by decide +kernel
set_option maxHeartbeats 4000000 in
set_option maxRecDepth 100000 in
theorem ct_X0_held (l : Launch) (D : va_G) (cI : ClassId) (o : Nat) (r : Nat → Nat) (S : SS) (i : Nat) (hi : i < 12) : Ct l D [(cI, .int)] yX0_held wsX0_held 0 0 0 0 [.ref o, .int (nI i)] (sw cI o r S) (some (.int (gxHeld S i))) (sw cI o r S) := by
  refine Ct.ofW (cc := cX0_held) (maxL := 2) (ret := (some .int)) (by decide) rfl (Nat.le_of_ble_eq_true rfl) ?_
  intro p e s m below meth c A ls hC hr hlk _ hP hD hS hK hA hl
  have hx := hC.1
  have hb := hC.2.1
  have hinX0 : ∀ w ∈ wsX00, w ∈ wsX0_held := fun _ _h => List.mem_cons_of_mem _ (List.mem_append_right _ _h)
  have hl : lv_has ls 2 [(0, .ref o), (1, .int (nI i))] := hl
  refine lv_aload_n hx hb dX0_held_0 rfl (lv_at hl 0 rfl) ?_
  refine gt_get hC 0 0 9 1 hinX0 hK hP dX0_held_1 rfl rfl rfl (by decide) rfl rfl ?_
  refine lv_iload_n hx hb dX0_held_4 rfl (lv_at hl 1 rfl) ?_
  refine gt_ald hC 5 0 i hK hP dX0_held_5 rfl rfl rfl (by omega) (Nat.le_of_ble_eq_true rfl) ?_
  refine lv_iconst (v := 2) hx hb dX0_held_6 (by decide) ?_
  refine gt_meet (rest := []) 20 (gxHeld S i) (fun K1 => ?_) ?_
  · skip
    refine lv_icmp_ne (tgt := 19) hx hb dX0_held_7 (by decide) (fun c7_2 : ¬ ((S 9 i) = 2) => ?_) (fun c7_2 : (S 9 i) = 2 => ?_)
    · skip
      refine lv_iconst (v := 0) hx hb dX0_held_19 (by decide) ?_
      exact K1 _ (show 0 = (if (S 9 i) = 2 then (S 11 i) else 0) from by rw [if_neg c7_2])
    · skip
      refine lv_aload_n hx hb dX0_held_10 rfl (lv_at hl 0 rfl) ?_
      refine gt_get hC 0 0 11 2 hinX0 hK hP dX0_held_11 rfl rfl rfl (by decide) rfl rfl ?_
      refine lv_iload_n hx hb dX0_held_14 rfl (lv_at hl 1 rfl) ?_
      refine gt_ald hC 7 0 i hK hP dX0_held_15 rfl rfl rfl (by omega) (Nat.le_of_ble_eq_true rfl) ?_
      refine lv_goto (tgt := 20) hx hb dX0_held_16 (by decide) ?_
      exact K1 _ (show (S 11 i) = (if (S 9 i) = 2 then (S 11 i) else 0) from by rw [if_pos c7_2])
  · skip
    exact gt_iret hC hr hlk hK (ws := (sw cI o r S)) hP hD hS (show some (Value.int (gxHeld S i)) = _ from rfl) rfl dX0_held_20 (Nat.le_of_ble_eq_true rfl) (Nat.le_of_ble_eq_true rfl)

theorem hd_X0_seeming : yX0_seeming.cls = RX0 ∧ yX0_seeming.cls ≠ "java/lang/invoke/MethodHandle" ∧ yX0_seeming.cls ≠ "java/lang/invoke/VarHandle" ∧ (parseMethodDescriptor yX0_seeming.desc).map (fun d => d.parameters.length) = some 1 := by decide +kernel
set_option maxHeartbeats 4000000 in
set_option maxRecDepth 100000 in
theorem ct_X0_seeming (l : Launch) (D : va_G) (cI : ClassId) (o : Nat) (r : Nat → Nat) (S : SS) (i : Nat) (hi : i < 12) : Ct l D [(cI, .int)] yX0_seeming wsX0_seeming 0 0 0 0 [.ref o, .int (nI i)] (sw cI o r S) (some (.int (gxSeem S i))) (sw cI o r S) := by
  refine Ct.ofW (cc := cX0_seeming) (maxL := 2) (ret := (some .int)) (by decide) rfl (Nat.le_of_ble_eq_true rfl) ?_
  intro p e s m below meth c A ls hC hr hlk _ hP hD hS hK hA hl
  have hx := hC.1
  have hb := hC.2.1
  have hinX0 : ∀ w ∈ wsX00, w ∈ wsX0_seeming := fun _ _h => List.mem_cons_of_mem _ (List.mem_append_right _ _h)
  have hl : lv_has ls 2 [(0, .ref o), (1, .int (nI i))] := hl
  refine lv_aload_n hx hb dX0_seeming_0 rfl (lv_at hl 0 rfl) ?_
  refine gt_get hC 0 0 8 1 hinX0 hK hP dX0_seeming_1 rfl rfl rfl (by decide) rfl rfl ?_
  refine lv_iload_n hx hb dX0_seeming_4 rfl (lv_at hl 1 rfl) ?_
  refine gt_ald hC 4 0 i hK hP dX0_seeming_5 rfl rfl rfl (by omega) (Nat.le_of_ble_eq_true rfl) ?_
  refine lv_aload_n hx hb dX0_seeming_6 rfl (lv_at hl 0 rfl) ?_
  refine gt_get hC 0 0 15 2 hinX0 hK hP dX0_seeming_7 rfl rfl rfl (by decide) rfl rfl ?_
  refine lv_iload_n hx hb dX0_seeming_10 rfl (lv_at hl 1 rfl) ?_
  refine gt_ald hC 11 0 i hK hP dX0_seeming_11 rfl rfl rfl (by omega) (Nat.le_of_ble_eq_true rfl) ?_
  refine lv_iconst (v := 3) hx hb dX0_seeming_12 (by decide) ?_
  refine lv_idiv hx hb dX0_seeming_13 (by decide) ?_
  refine lv_iadd hx hb dX0_seeming_14 ?_
  exact gt_iret hC hr hlk hK (ws := (sw cI o r S)) hP hD hS (show some (Value.int ((S 8 i) + ((S 15 i) / 3))) = _ from rfl) rfl dX0_seeming_15 (Nat.le_of_ble_eq_true rfl) (Nat.le_of_ble_eq_true rfl)

theorem hd_X0_freePermits : yX0_freePermits.cls = RX0 ∧ yX0_freePermits.cls ≠ "java/lang/invoke/MethodHandle" ∧ yX0_freePermits.cls ≠ "java/lang/invoke/VarHandle" ∧ (parseMethodDescriptor yX0_freePermits.desc).map (fun d => d.parameters.length) = some 1 := by decide +kernel
set_option maxHeartbeats 4000000 in
set_option maxRecDepth 100000 in
theorem ct_X0_freePermits (l : Launch) (D : va_G) (cI : ClassId) (o : Nat) (r : Nat → Nat) (S : SS) (g : Nat) (hg : g < 4) (N : Nat) (hN : S 0 2 = nI N) (hN12 : N ≤ 12) : Ct l D [(cI, .int)] yX0_freePermits wsX0_freePermits 0 0 0 0 [.ref o, .int (nI g)] (sw cI o r S) (some (.int (gxFree S g N))) (sw cI o r S) := by
  refine Ct.ofW (cc := cX0_freePermits) (maxL := 4) (ret := (some .int)) (by decide) rfl (Nat.le_of_ble_eq_true rfl) ?_
  intro p e s m below meth c A ls hC hr hlk _ hP hD hS hK hA hl
  have hx := hC.1
  have hb := hC.2.1
  have hinX0 : ∀ w ∈ wsX00, w ∈ wsX0_freePermits := fun _ _h => List.mem_cons_of_mem _ (List.mem_append_right _ _h)
  have hl : lv_has ls 4 [(0, .ref o), (1, .int (nI g))] := hl
  refine lv_aload_n hx hb dX0_freePermits_0 rfl (lv_at hl 0 rfl) ?_
  refine gt_get hC 0 0 5 1 hinX0 hK hP dX0_freePermits_1 rfl rfl rfl (by decide) rfl rfl ?_
  refine lv_iload_n hx hb dX0_freePermits_4 rfl (lv_at hl 1 rfl) ?_
  refine gt_ald hC 1 0 g hK hP dX0_freePermits_5 rfl rfl rfl (by omega) (Nat.le_of_ble_eq_true rfl) ?_
  refine lv_istore_n (lv' := [(2, .int (S 5 g)), (0, .ref o), (1, .int (nI g))]) hx hb dX0_freePermits_6 rfl hl (by decide) rfl (fun ls hl => ?_)
  refine lv_iconst (v := 0) hx hb dX0_freePermits_7 (by decide) ?_
  refine lv_istore_n (lv' := [(3, .int 0), (2, .int (S 5 g)), (0, .ref o), (1, .int (nI g))]) hx hb dX0_freePermits_8 rfl hl (by decide) rfl (fun ls hl => ?_)
  refine gt_loop D A s.heap 4 N (fun n => [(3, .int (nI n)), (2, .int (gxFree S g n)), (0, .ref o), (1, .int (nI g))]) (fun n => (sw cI o r S)) (lv_sub hl [0, 1, 2, 3] rfl) hP hD hS (fun n hi_n H locs ls hP hD hS hl K1 => ?_) (fun H locs ls hP hD hS hl => ?_)
  · skip
    refine lv_iload_n hx hb dX0_freePermits_9 rfl (lv_at hl 0 rfl) ?_
    refine lv_aload_n hx hb dX0_freePermits_10 rfl (lv_at hl 2 rfl) ?_
    refine gt_get hC 0 0 2 2 hinX0 hK hP dX0_freePermits_11 rfl rfl rfl (by decide) rfl rfl ?_
    refine gt_ge_f (tgt := 52) hC n N dX0_freePermits_14 (by decide) rfl hN hi_n (by omega) ?_
    refine lv_aload_n hx hb dX0_freePermits_17 rfl (lv_at hl 2 rfl) ?_
    refine gt_get hC 0 0 9 3 hinX0 hK hP dX0_freePermits_18 rfl rfl rfl (by decide) rfl rfl ?_
    refine lv_iload_n hx hb dX0_freePermits_21 rfl (lv_at hl 0 rfl) ?_
    refine gt_ald hC 5 0 n hK hP dX0_freePermits_22 rfl rfl rfl (by omega) (Nat.le_of_ble_eq_true rfl) ?_
    refine lv_iconst (v := 2) hx hb dX0_freePermits_23 (by decide) ?_
    refine lv_icmp_ne (tgt := 46) hx hb dX0_freePermits_24 (by decide) (fun c24_2 : ¬ ((S 9 n) = 2) => ?_) (fun c24_2 : (S 9 n) = 2 => ?_)
    · skip
      refine gt_inc (lv' := [(3, .int (nI (n + 1))), (2, .int (gxFree S g n)), (0, .ref o), (1, .int (nI g))]) hC 0 n dX0_freePermits_46 hl rfl rfl (by decide) rfl (fun ls hl => ?_)
      refine lv_goto (tgt := 9) hx hb dX0_freePermits_49 (by decide) ?_
      have hl9 : lv_has ls 4 [(3, .int (nI (n + 1))), (2, .int (gxFree S g n)), (0, .ref o), (1, .int (nI g))] := lv_sub hl [0, 1, 2, 3] rfl
      rw [show .int (gxFree S g n) = (Value.int (gxFree S g (n + 1))) from congrArg _ (by simp only [gxFree, if_neg c24_2])] at hl9
      exact K1 H locs ls hP hD hS hl9
    · skip
      refine lv_aload_n hx hb dX0_freePermits_27 rfl (lv_at hl 2 rfl) ?_
      refine gt_get hC 0 0 10 4 hinX0 hK hP dX0_freePermits_28 rfl rfl rfl (by decide) rfl rfl ?_
      refine lv_iload_n hx hb dX0_freePermits_31 rfl (lv_at hl 0 rfl) ?_
      refine gt_ald hC 6 0 n hK hP dX0_freePermits_32 rfl rfl rfl (by omega) (Nat.le_of_ble_eq_true rfl) ?_
      refine lv_iload_n hx hb dX0_freePermits_33 rfl (lv_at hl 3 rfl) ?_
      refine lv_icmp_ne (tgt := 46) hx hb dX0_freePermits_34 (by decide) (fun c34_3 : ¬ ((S 10 n) = (nI g)) => ?_) (fun c34_3 : (S 10 n) = (nI g) => ?_)
      · skip
        refine gt_inc (lv' := [(3, .int (nI (n + 1))), (2, .int (gxFree S g n)), (0, .ref o), (1, .int (nI g))]) hC 0 n dX0_freePermits_46 hl rfl rfl (by decide) rfl (fun ls hl => ?_)
        refine lv_goto (tgt := 9) hx hb dX0_freePermits_49 (by decide) ?_
        have hl9 : lv_has ls 4 [(3, .int (nI (n + 1))), (2, .int (gxFree S g n)), (0, .ref o), (1, .int (nI g))] := lv_sub hl [0, 1, 2, 3] rfl
        rw [show .int (gxFree S g n) = (Value.int (gxFree S g (n + 1))) from congrArg _ (by simp only [gxFree, if_pos c24_2, if_neg c34_3])] at hl9
        exact K1 H locs ls hP hD hS hl9
      · skip
        refine lv_iload_n hx hb dX0_freePermits_37 rfl (lv_at hl 1 rfl) ?_
        refine lv_aload_n hx hb dX0_freePermits_38 rfl (lv_at hl 2 rfl) ?_
        refine gt_get hC 0 0 11 5 hinX0 hK hP dX0_freePermits_39 rfl rfl rfl (by decide) rfl rfl ?_
        refine lv_iload_n hx hb dX0_freePermits_42 rfl (lv_at hl 0 rfl) ?_
        refine gt_ald hC 7 0 n hK hP dX0_freePermits_43 rfl rfl rfl (by omega) (Nat.le_of_ble_eq_true rfl) ?_
        refine lv_isub hx hb dX0_freePermits_44 ?_
        refine lv_istore_n (lv' := [(2, .int ((gxFree S g n) - (S 11 n))), (3, .int (nI n)), (0, .ref o), (1, .int (nI g))]) hx hb dX0_freePermits_45 rfl hl (by decide) rfl (fun ls hl => ?_)
        refine gt_inc (lv' := [(3, .int (nI (n + 1))), (2, .int ((gxFree S g n) - (S 11 n))), (0, .ref o), (1, .int (nI g))]) hC 1 n dX0_freePermits_46 hl rfl rfl (by decide) rfl (fun ls hl => ?_)
        refine lv_goto (tgt := 9) hx hb dX0_freePermits_49 (by decide) ?_
        have hl9 : lv_has ls 4 [(3, .int (nI (n + 1))), (2, .int ((gxFree S g n) - (S 11 n))), (0, .ref o), (1, .int (nI g))] := lv_sub hl [0, 1, 2, 3] rfl
        rw [show .int ((gxFree S g n) - (S 11 n)) = (Value.int (gxFree S g (n + 1))) from congrArg _ (by simp only [gxFree, if_pos c24_2, if_pos c34_3])] at hl9
        exact K1 H locs ls hP hD hS hl9
  · skip
    refine lv_iload_n hx hb dX0_freePermits_9 rfl (lv_at hl 0 rfl) ?_
    refine lv_aload_n hx hb dX0_freePermits_10 rfl (lv_at hl 2 rfl) ?_
    refine gt_get hC 0 0 2 2 hinX0 hK hP dX0_freePermits_11 rfl rfl rfl (by decide) rfl rfl ?_
    refine gt_ge_t (tgt := 52) hC N N dX0_freePermits_14 (by decide) rfl hN (Nat.le_refl _) (by omega) ?_
    refine lv_iload_n hx hb dX0_freePermits_52 rfl (lv_at hl 1 rfl) ?_
    exact gt_iret hC hr hlk hK (ws := (sw cI o r S)) hP hD hS (show some (Value.int (gxFree S g N)) = _ from rfl) rfl dX0_freePermits_53 (Nat.le_of_ble_eq_true rfl) (Nat.le_of_ble_eq_true rfl)

theorem hd_X0_countInState : yX0_countInState.cls = RX0 ∧ yX0_countInState.cls ≠ "java/lang/invoke/MethodHandle" ∧ yX0_countInState.cls ≠ "java/lang/invoke/VarHandle" ∧ (parseMethodDescriptor yX0_countInState.desc).map (fun d => d.parameters.length) = some 1 := by decide +kernel
set_option maxHeartbeats 4000000 in
set_option maxRecDepth 100000 in
theorem ct_X0_countInState (l : Launch) (D : va_G) (cI : ClassId) (o : Nat) (r : Nat → Nat) (S : SS) (w : Int32) (N : Nat) (hN : S 0 2 = nI N) (hN12 : N ≤ 12) : Ct l D [(cI, .int)] yX0_countInState wsX0_countInState 0 0 0 0 [.ref o, .int w] (sw cI o r S) (some (.int (gxCnt S w N))) (sw cI o r S) := by
  refine Ct.ofW (cc := cX0_countInState) (maxL := 4) (ret := (some .int)) (by decide) rfl (Nat.le_of_ble_eq_true rfl) ?_
  intro p e s m below meth c A ls hC hr hlk _ hP hD hS hK hA hl
  have hx := hC.1
  have hb := hC.2.1
  have hinX0 : ∀ w ∈ wsX00, w ∈ wsX0_countInState := fun _ _h => List.mem_cons_of_mem _ (List.mem_append_right _ _h)
  have hl : lv_has ls 4 [(0, .ref o), (1, .int w)] := hl
  refine lv_iconst (v := 0) hx hb dX0_countInState_0 (by decide) ?_
  refine lv_istore_n (lv' := [(2, .int 0), (0, .ref o), (1, .int w)]) hx hb dX0_countInState_1 rfl hl (by decide) rfl (fun ls hl => ?_)
  refine lv_iconst (v := 0) hx hb dX0_countInState_2 (by decide) ?_
  refine lv_istore_n (lv' := [(3, .int 0), (2, .int 0), (0, .ref o), (1, .int w)]) hx hb dX0_countInState_3 rfl hl (by decide) rfl (fun ls hl => ?_)
  refine gt_loop D A s.heap 4 N (fun n => [(3, .int (nI n)), (2, .int (gxCnt S w n)), (0, .ref o), (1, .int w)]) (fun n => (sw cI o r S)) (lv_sub hl [0, 1, 2, 3] rfl) hP hD hS (fun n hi_n H locs ls hP hD hS hl K1 => ?_) (fun H locs ls hP hD hS hl => ?_)
  · skip
    refine lv_iload_n hx hb dX0_countInState_4 rfl (lv_at hl 0 rfl) ?_
    refine lv_aload_n hx hb dX0_countInState_5 rfl (lv_at hl 2 rfl) ?_
    refine gt_get hC 0 0 2 1 hinX0 hK hP dX0_countInState_6 rfl rfl rfl (by decide) rfl rfl ?_
    refine gt_ge_f (tgt := 31) hC n N dX0_countInState_9 (by decide) rfl hN hi_n (by omega) ?_
    refine lv_aload_n hx hb dX0_countInState_12 rfl (lv_at hl 2 rfl) ?_
    refine gt_get hC 0 0 9 2 hinX0 hK hP dX0_countInState_13 rfl rfl rfl (by decide) rfl rfl ?_
    refine lv_iload_n hx hb dX0_countInState_16 rfl (lv_at hl 0 rfl) ?_
    refine gt_ald hC 5 0 n hK hP dX0_countInState_17 rfl rfl rfl (by omega) (Nat.le_of_ble_eq_true rfl) ?_
    refine lv_iload_n hx hb dX0_countInState_18 rfl (lv_at hl 3 rfl) ?_
    refine lv_icmp_ne (tgt := 25) hx hb dX0_countInState_19 (by decide) (fun c19_2 : ¬ ((S 9 n) = w) => ?_) (fun c19_2 : (S 9 n) = w => ?_)
    · skip
      refine gt_inc (lv' := [(3, .int (nI (n + 1))), (2, .int (gxCnt S w n)), (0, .ref o), (1, .int w)]) hC 0 n dX0_countInState_25 hl rfl rfl (by decide) rfl (fun ls hl => ?_)
      refine lv_goto (tgt := 4) hx hb dX0_countInState_28 (by decide) ?_
      have hl9 : lv_has ls 4 [(3, .int (nI (n + 1))), (2, .int (gxCnt S w n)), (0, .ref o), (1, .int w)] := lv_sub hl [0, 1, 2, 3] rfl
      rw [show .int (gxCnt S w n) = (Value.int (gxCnt S w (n + 1))) from congrArg _ (by simp only [gxCnt, if_neg c19_2])] at hl9
      exact K1 H locs ls hP hD hS hl9
    · skip
      refine lv_iinc (v := (gxCnt S w n) + 1) (lv' := [(2, .int ((gxCnt S w n) + 1)), (3, .int (nI n)), (0, .ref o), (1, .int w)]) hx hb dX0_countInState_22 hl (k := 1) rfl rfl (by decide) rfl (fun ls hl => ?_)
      refine gt_inc (lv' := [(3, .int (nI (n + 1))), (2, .int ((gxCnt S w n) + 1)), (0, .ref o), (1, .int w)]) hC 1 n dX0_countInState_25 hl rfl rfl (by decide) rfl (fun ls hl => ?_)
      refine lv_goto (tgt := 4) hx hb dX0_countInState_28 (by decide) ?_
      have hl9 : lv_has ls 4 [(3, .int (nI (n + 1))), (2, .int ((gxCnt S w n) + 1)), (0, .ref o), (1, .int w)] := lv_sub hl [0, 1, 2, 3] rfl
      rw [show .int ((gxCnt S w n) + 1) = (Value.int (gxCnt S w (n + 1))) from congrArg _ (by simp only [gxCnt, if_pos c19_2])] at hl9
      exact K1 H locs ls hP hD hS hl9
  · skip
    refine lv_iload_n hx hb dX0_countInState_4 rfl (lv_at hl 0 rfl) ?_
    refine lv_aload_n hx hb dX0_countInState_5 rfl (lv_at hl 2 rfl) ?_
    refine gt_get hC 0 0 2 1 hinX0 hK hP dX0_countInState_6 rfl rfl rfl (by decide) rfl rfl ?_
    refine gt_ge_t (tgt := 31) hC N N dX0_countInState_9 (by decide) rfl hN (Nat.le_refl _) (by omega) ?_
    refine lv_iload_n hx hb dX0_countInState_31 rfl (lv_at hl 1 rfl) ?_
    exact gt_iret hC hr hlk hK (ws := (sw cI o r S)) hP hD hS (show some (Value.int (gxCnt S w N)) = _ from rfl) rfl dX0_countInState_32 (Nat.le_of_ble_eq_true rfl) (Nat.le_of_ble_eq_true rfl)

theorem hd_X0_countStarving : yX0_countStarving.cls = RX0 ∧ yX0_countStarving.cls ≠ "java/lang/invoke/MethodHandle" ∧ yX0_countStarving.cls ≠ "java/lang/invoke/VarHandle" ∧ (parseMethodDescriptor yX0_countStarving.desc).map (fun d => d.parameters.length) = some 0 := by decide +kernel
set_option maxHeartbeats 4000000 in
set_option maxRecDepth 100000 in
theorem ct_X0_countStarving (l : Launch) (D : va_G) (cI : ClassId) (o : Nat) (r : Nat → Nat) (S : SS) (N : Nat) (hN : S 0 2 = nI N) (hN12 : N ≤ 12) : Ct l D [(cI, .int)] yX0_countStarving wsX0_countStarving 0 0 0 0 [.ref o] (sw cI o r S) (some (.int (gxStv S N))) (sw cI o r S) := by
  refine Ct.ofW (cc := cX0_countStarving) (maxL := 3) (ret := (some .int)) (by decide) rfl (Nat.le_of_ble_eq_true rfl) ?_
  intro p e s m below meth c A ls hC hr hlk _ hP hD hS hK hA hl
  have hx := hC.1
  have hb := hC.2.1
  have hinX0 : ∀ w ∈ wsX00, w ∈ wsX0_countStarving := fun _ _h => List.mem_cons_of_mem _ (List.mem_append_right _ _h)
  have hl : lv_has ls 3 [(0, .ref o)] := hl
  refine lv_iconst (v := 0) hx hb dX0_countStarving_0 (by decide) ?_
  refine lv_istore_n (lv' := [(1, .int 0), (0, .ref o)]) hx hb dX0_countStarving_1 rfl hl (by decide) rfl (fun ls hl => ?_)
  refine lv_iconst (v := 0) hx hb dX0_countStarving_2 (by decide) ?_
  refine lv_istore_n (lv' := [(2, .int 0), (1, .int 0), (0, .ref o)]) hx hb dX0_countStarving_3 rfl hl (by decide) rfl (fun ls hl => ?_)
  refine gt_loop D A s.heap 3 N (fun n => [(2, .int (nI n)), (1, .int (gxStv S n)), (0, .ref o)]) (fun n => (sw cI o r S)) (lv_sub hl [0, 1, 2] rfl) hP hD hS (fun n hi_n H locs ls hP hD hS hl K1 => ?_) (fun H locs ls hP hD hS hl => ?_)
  · skip
    refine lv_iload_n hx hb dX0_countStarving_4 rfl (lv_at hl 0 rfl) ?_
    refine lv_aload_n hx hb dX0_countStarving_5 rfl (lv_at hl 2 rfl) ?_
    refine gt_get hC 0 0 2 1 hinX0 hK hP dX0_countStarving_6 rfl rfl rfl (by decide) rfl rfl ?_
    refine gt_ge_f (tgt := 42) hC n N dX0_countStarving_9 (by decide) rfl hN hi_n (by omega) ?_
    refine lv_aload_n hx hb dX0_countStarving_12 rfl (lv_at hl 2 rfl) ?_
    refine gt_get hC 0 0 9 2 hinX0 hK hP dX0_countStarving_13 rfl rfl rfl (by decide) rfl rfl ?_
    refine lv_iload_n hx hb dX0_countStarving_16 rfl (lv_at hl 0 rfl) ?_
    refine gt_ald hC 5 0 n hK hP dX0_countStarving_17 rfl rfl rfl (by omega) (Nat.le_of_ble_eq_true rfl) ?_
    refine lv_iconst (v := 1) hx hb dX0_countStarving_18 (by decide) ?_
    refine lv_icmp_ne (tgt := 36) hx hb dX0_countStarving_19 (by decide) (fun c19_2 : ¬ ((S 9 n) = 1) => ?_) (fun c19_2 : (S 9 n) = 1 => ?_)
    · skip
      refine gt_inc (lv' := [(2, .int (nI (n + 1))), (1, .int (gxStv S n)), (0, .ref o)]) hC 0 n dX0_countStarving_36 hl rfl rfl (by decide) rfl (fun ls hl => ?_)
      refine lv_goto (tgt := 4) hx hb dX0_countStarving_39 (by decide) ?_
      have hl9 : lv_has ls 3 [(2, .int (nI (n + 1))), (1, .int (gxStv S n)), (0, .ref o)] := lv_sub hl [0, 1, 2] rfl
      rw [show .int (gxStv S n) = (Value.int (gxStv S (n + 1))) from congrArg _ (by simp only [gxStv, if_neg c19_2])] at hl9
      exact K1 H locs ls hP hD hS hl9
    · skip
      refine lv_aload_n hx hb dX0_countStarving_22 rfl (lv_at hl 2 rfl) ?_
      refine gt_get hC 0 0 15 3 hinX0 hK hP dX0_countStarving_23 rfl rfl rfl (by decide) rfl rfl ?_
      refine lv_iload_n hx hb dX0_countStarving_26 rfl (lv_at hl 0 rfl) ?_
      refine gt_ald hC 11 0 n hK hP dX0_countStarving_27 rfl rfl rfl (by omega) (Nat.le_of_ble_eq_true rfl) ?_
      refine lv_bipush (v := 8) hx hb dX0_countStarving_28 (by decide) ?_
      refine lv_icmp_lt (tgt := 36) hx hb dX0_countStarving_30 (by decide) (fun c30_3 : (S 15 n) < 8 => ?_) (fun c30_3 : ¬ ((S 15 n) < 8) => ?_)
      · skip
        refine gt_inc (lv' := [(2, .int (nI (n + 1))), (1, .int (gxStv S n)), (0, .ref o)]) hC 0 n dX0_countStarving_36 hl rfl rfl (by decide) rfl (fun ls hl => ?_)
        refine lv_goto (tgt := 4) hx hb dX0_countStarving_39 (by decide) ?_
        have hl9 : lv_has ls 3 [(2, .int (nI (n + 1))), (1, .int (gxStv S n)), (0, .ref o)] := lv_sub hl [0, 1, 2] rfl
        rw [show .int (gxStv S n) = (Value.int (gxStv S (n + 1))) from congrArg _ (by simp only [gxStv, if_pos c19_2, if_pos c30_3])] at hl9
        exact K1 H locs ls hP hD hS hl9
      · skip
        refine lv_iinc (v := (gxStv S n) + 1) (lv' := [(1, .int ((gxStv S n) + 1)), (2, .int (nI n)), (0, .ref o)]) hx hb dX0_countStarving_33 hl (k := 1) rfl rfl (by decide) rfl (fun ls hl => ?_)
        refine gt_inc (lv' := [(2, .int (nI (n + 1))), (1, .int ((gxStv S n) + 1)), (0, .ref o)]) hC 1 n dX0_countStarving_36 hl rfl rfl (by decide) rfl (fun ls hl => ?_)
        refine lv_goto (tgt := 4) hx hb dX0_countStarving_39 (by decide) ?_
        have hl9 : lv_has ls 3 [(2, .int (nI (n + 1))), (1, .int ((gxStv S n) + 1)), (0, .ref o)] := lv_sub hl [0, 1, 2] rfl
        rw [show .int ((gxStv S n) + 1) = (Value.int (gxStv S (n + 1))) from congrArg _ (by simp only [gxStv, if_pos c19_2, if_neg c30_3])] at hl9
        exact K1 H locs ls hP hD hS hl9
  · skip
    refine lv_iload_n hx hb dX0_countStarving_4 rfl (lv_at hl 0 rfl) ?_
    refine lv_aload_n hx hb dX0_countStarving_5 rfl (lv_at hl 2 rfl) ?_
    refine gt_get hC 0 0 2 1 hinX0 hK hP dX0_countStarving_6 rfl rfl rfl (by decide) rfl rfl ?_
    refine gt_ge_t (tgt := 42) hC N N dX0_countStarving_9 (by decide) rfl hN (Nat.le_refl _) (by omega) ?_
    refine lv_iload_n hx hb dX0_countStarving_42 rfl (lv_at hl 1 rfl) ?_
    exact gt_iret hC hr hlk hK (ws := (sw cI o r S)) hP hD hS (show some (Value.int (gxStv S N)) = _ from rfl) rfl dX0_countStarving_43 (Nat.le_of_ble_eq_true rfl) (Nat.le_of_ble_eq_true rfl)

theorem hd_X0_countWaitingAt : yX0_countWaitingAt.cls = RX0 ∧ yX0_countWaitingAt.cls ≠ "java/lang/invoke/MethodHandle" ∧ yX0_countWaitingAt.cls ≠ "java/lang/invoke/VarHandle" ∧ (parseMethodDescriptor yX0_countWaitingAt.desc).map (fun d => d.parameters.length) = some 1 := by decide +kernel
set_option maxHeartbeats 4000000 in
set_option maxRecDepth 100000 in
theorem ct_X0_countWaitingAt (l : Launch) (D : va_G) (cI : ClassId) (o : Nat) (r : Nat → Nat) (S : SS) (g : Int32) (N : Nat) (hN : S 0 2 = nI N) (hN12 : N ≤ 12) : Ct l D [(cI, .int)] yX0_countWaitingAt wsX0_countWaitingAt 1 22 0 0 [.ref o, .int g] (sw cI o r S) (some (.int (gxWat S g N))) (sw cI o r S) := by
  refine Ct.ofW (cc := cX0_countWaitingAt) (maxL := 4) (ret := (some .int)) (by decide) rfl (Nat.le_of_ble_eq_true rfl) ?_
  intro p e s m below meth c A ls hC hr hlk _ hP hD hS hK hA hl
  have hx := hC.1
  have hb := hC.2.1
  have hinX0 : ∀ w ∈ wsX00, w ∈ wsX0_countWaitingAt := fun _ _h => List.mem_cons_of_mem _ (List.mem_append_right _ _h)
  have hl : lv_has ls 4 [(0, .ref o), (1, .int g)] := hl
  refine lv_iconst (v := 0) hx hb dX0_countWaitingAt_0 (by decide) ?_
  refine lv_istore_n (lv' := [(2, .int 0), (0, .ref o), (1, .int g)]) hx hb dX0_countWaitingAt_1 rfl hl (by decide) rfl (fun ls hl => ?_)
  refine lv_iconst (v := 0) hx hb dX0_countWaitingAt_2 (by decide) ?_
  refine lv_istore_n (lv' := [(3, .int 0), (2, .int 0), (0, .ref o), (1, .int g)]) hx hb dX0_countWaitingAt_3 rfl hl (by decide) rfl (fun ls hl => ?_)
  refine gt_loop D A s.heap 4 N (fun n => [(3, .int (nI n)), (2, .int (gxWat S g n)), (0, .ref o), (1, .int g)]) (fun n => (sw cI o r S)) (lv_sub hl [0, 1, 2, 3] rfl) hP hD hS (fun n hi_n H locs ls hP hD hS hl K1 => ?_) (fun H locs ls hP hD hS hl => ?_)
  · skip
    refine lv_iload_n hx hb dX0_countWaitingAt_4 rfl (lv_at hl 0 rfl) ?_
    refine lv_aload_n hx hb dX0_countWaitingAt_5 rfl (lv_at hl 2 rfl) ?_
    refine gt_get hC 0 0 2 1 hinX0 hK hP dX0_countWaitingAt_6 rfl rfl rfl (by decide) rfl rfl ?_
    refine gt_ge_f (tgt := 30) hC n N dX0_countWaitingAt_9 (by decide) rfl hN hi_n (by omega) ?_
    refine lv_aload_n hx hb dX0_countWaitingAt_12 rfl (lv_at hl 2 rfl) ?_
    refine lv_iload_n hx hb dX0_countWaitingAt_13 rfl (lv_at hl 0 rfl) ?_
    refine lv_iload_n hx hb dX0_countWaitingAt_14 rfl (lv_at hl 3 rfl) ?_
    refine gt_call0 hC 0 0 2 (ct_X0_waitsAt l D cI o r S n g (by omega)) gX0_countWaitingAt_X0_waitsAt dX0_countWaitingAt_15 hK hP hD hS hA hl.1 rfl hd_X0_waitsAt ⟨Nat.le_of_ble_eq_true rfl, Nat.le_of_ble_eq_true rfl⟩ ⟨Nat.le_of_ble_eq_true rfl, Nat.le_of_ble_eq_true rfl⟩ rfl rfl rfl rfl (Nat.le_of_ble_eq_true rfl) (fun H locs hP hD hS => ?_)
    refine lv_if_eq (tgt := 24) hx hb dX0_countWaitingAt_18 (by decide) (fun c18_2 : (gxWt S n g) = 0 => ?_) (fun c18_2 : ¬ ((gxWt S n g) = 0) => ?_)
    · skip
      refine gt_inc (lv' := [(3, .int (nI (n + 1))), (2, .int (gxWat S g n)), (0, .ref o), (1, .int g)]) hC 0 n dX0_countWaitingAt_24 hl rfl rfl (by decide) rfl (fun ls hl => ?_)
      refine lv_goto (tgt := 4) hx hb dX0_countWaitingAt_27 (by decide) ?_
      have hl9 : lv_has ls 4 [(3, .int (nI (n + 1))), (2, .int (gxWat S g n)), (0, .ref o), (1, .int g)] := lv_sub hl [0, 1, 2, 3] rfl
      rw [show .int (gxWat S g n) = (Value.int (gxWat S g (n + 1))) from congrArg _ (by simp only [gxWat, if_pos c18_2])] at hl9
      exact K1 H locs ls hP hD hS hl9
    · skip
      refine lv_iinc (v := (gxWat S g n) + 1) (lv' := [(2, .int ((gxWat S g n) + 1)), (3, .int (nI n)), (0, .ref o), (1, .int g)]) hx hb dX0_countWaitingAt_21 hl (k := 1) rfl rfl (by decide) rfl (fun ls hl => ?_)
      refine gt_inc (lv' := [(3, .int (nI (n + 1))), (2, .int ((gxWat S g n) + 1)), (0, .ref o), (1, .int g)]) hC 1 n dX0_countWaitingAt_24 hl rfl rfl (by decide) rfl (fun ls hl => ?_)
      refine lv_goto (tgt := 4) hx hb dX0_countWaitingAt_27 (by decide) ?_
      have hl9 : lv_has ls 4 [(3, .int (nI (n + 1))), (2, .int ((gxWat S g n) + 1)), (0, .ref o), (1, .int g)] := lv_sub hl [0, 1, 2, 3] rfl
      rw [show .int ((gxWat S g n) + 1) = (Value.int (gxWat S g (n + 1))) from congrArg _ (by simp only [gxWat, if_neg c18_2])] at hl9
      exact K1 H locs ls hP hD hS hl9
  · skip
    refine lv_iload_n hx hb dX0_countWaitingAt_4 rfl (lv_at hl 0 rfl) ?_
    refine lv_aload_n hx hb dX0_countWaitingAt_5 rfl (lv_at hl 2 rfl) ?_
    refine gt_get hC 0 0 2 1 hinX0 hK hP dX0_countWaitingAt_6 rfl rfl rfl (by decide) rfl rfl ?_
    refine gt_ge_t (tgt := 30) hC N N dX0_countWaitingAt_9 (by decide) rfl hN (Nat.le_refl _) (by omega) ?_
    refine lv_iload_n hx hb dX0_countWaitingAt_30 rfl (lv_at hl 1 rfl) ?_
    exact gt_iret hC hr hlk hK (ws := (sw cI o r S)) hP hD hS (show some (Value.int (gxWat S g N)) = _ from rfl) rfl dX0_countWaitingAt_31 (Nat.le_of_ble_eq_true rfl) (Nat.le_of_ble_eq_true rfl)

theorem hd_X0_countAheadOf : yX0_countAheadOf.cls = RX0 ∧ yX0_countAheadOf.cls ≠ "java/lang/invoke/MethodHandle" ∧ yX0_countAheadOf.cls ≠ "java/lang/invoke/VarHandle" ∧ (parseMethodDescriptor yX0_countAheadOf.desc).map (fun d => d.parameters.length) = some 1 := by decide +kernel
set_option maxHeartbeats 4000000 in
set_option maxRecDepth 100000 in
theorem ct_X0_countAheadOf (l : Launch) (D : va_G) (cI : ClassId) (o : Nat) (r : Nat → Nat) (S : SS) (j : Nat) (hj : j < 12) (N : Nat) (hN : S 0 2 = nI N) (hN12 : N ≤ 12) : Ct l D [(cI, .int)] yX0_countAheadOf wsX0_countAheadOf 1 22 0 0 [.ref o, .int (nI j)] (sw cI o r S) (some (.int (gxAhd S j N))) (sw cI o r S) := by
  refine Ct.ofW (cc := cX0_countAheadOf) (maxL := 4) (ret := (some .int)) (by decide) rfl (Nat.le_of_ble_eq_true rfl) ?_
  intro p e s m below meth c A ls hC hr hlk _ hP hD hS hK hA hl
  have hx := hC.1
  have hb := hC.2.1
  have hinX0 : ∀ w ∈ wsX00, w ∈ wsX0_countAheadOf := fun _ _h => List.mem_cons_of_mem _ (List.mem_append_right _ _h)
  have hl : lv_has ls 4 [(0, .ref o), (1, .int (nI j))] := hl
  refine lv_iconst (v := 0) hx hb dX0_countAheadOf_0 (by decide) ?_
  refine lv_istore_n (lv' := [(2, .int 0), (0, .ref o), (1, .int (nI j))]) hx hb dX0_countAheadOf_1 rfl hl (by decide) rfl (fun ls hl => ?_)
  refine lv_iconst (v := 0) hx hb dX0_countAheadOf_2 (by decide) ?_
  refine lv_istore_n (lv' := [(3, .int 0), (2, .int 0), (0, .ref o), (1, .int (nI j))]) hx hb dX0_countAheadOf_3 rfl hl (by decide) rfl (fun ls hl => ?_)
  refine gt_loop D A s.heap 4 N (fun n => [(3, .int (nI n)), (2, .int (gxAhd S j n)), (0, .ref o), (1, .int (nI j))]) (fun n => (sw cI o r S)) (lv_sub hl [0, 1, 2, 3] rfl) hP hD hS (fun n hi_n H locs ls hP hD hS hl K1 => ?_) (fun H locs ls hP hD hS hl => ?_)
  · skip
    refine lv_iload_n hx hb dX0_countAheadOf_4 rfl (lv_at hl 0 rfl) ?_
    refine lv_aload_n hx hb dX0_countAheadOf_5 rfl (lv_at hl 2 rfl) ?_
    refine gt_get hC 0 0 2 1 hinX0 hK hP dX0_countAheadOf_6 rfl rfl rfl (by decide) rfl rfl ?_
    refine gt_ge_f (tgt := 50) hC n N dX0_countAheadOf_9 (by decide) rfl hN hi_n (by omega) ?_
    refine lv_aload_n hx hb dX0_countAheadOf_12 rfl (lv_at hl 2 rfl) ?_
    refine lv_iload_n hx hb dX0_countAheadOf_13 rfl (lv_at hl 0 rfl) ?_
    refine lv_aload_n hx hb dX0_countAheadOf_14 rfl (lv_at hl 2 rfl) ?_
    refine gt_get hC 0 0 10 2 hinX0 hK hP dX0_countAheadOf_15 rfl rfl rfl (by decide) rfl rfl ?_
    refine lv_iload_n hx hb dX0_countAheadOf_18 rfl (lv_at hl 3 rfl) ?_
    refine gt_ald hC 6 0 j hK hP dX0_countAheadOf_19 rfl rfl rfl (by omega) (Nat.le_of_ble_eq_true rfl) ?_
    refine gt_call0 hC 0 0 2 (ct_X0_waitsAt l D cI o r S n (S 10 j) (by omega)) gX0_countAheadOf_X0_waitsAt dX0_countAheadOf_20 hK hP hD hS hA hl.1 rfl hd_X0_waitsAt ⟨Nat.le_of_ble_eq_true rfl, Nat.le_of_ble_eq_true rfl⟩ ⟨Nat.le_of_ble_eq_true rfl, Nat.le_of_ble_eq_true rfl⟩ rfl rfl rfl rfl (Nat.le_of_ble_eq_true rfl) (fun H locs hP hD hS => ?_)
    refine lv_if_eq (tgt := 44) hx hb dX0_countAheadOf_23 (by decide) (fun c23_2 : (gxWt S n (S 10 j)) = 0 => ?_) (fun c23_2 : ¬ ((gxWt S n (S 10 j)) = 0) => ?_)
    · skip
      refine gt_inc (lv' := [(3, .int (nI (n + 1))), (2, .int (gxAhd S j n)), (0, .ref o), (1, .int (nI j))]) hC 0 n dX0_countAheadOf_44 hl rfl rfl (by decide) rfl (fun ls hl => ?_)
      refine lv_goto (tgt := 4) hx hb dX0_countAheadOf_47 (by decide) ?_
      have hl9 : lv_has ls 4 [(3, .int (nI (n + 1))), (2, .int (gxAhd S j n)), (0, .ref o), (1, .int (nI j))] := lv_sub hl [0, 1, 2, 3] rfl
      rw [show .int (gxAhd S j n) = (Value.int (gxAhd S j (n + 1))) from congrArg _ (by simp only [gxAhd, if_pos c23_2])] at hl9
      exact K1 H locs ls hP hD hS hl9
    · skip
      refine lv_aload_n hx hb dX0_countAheadOf_26 rfl (lv_at hl 2 rfl) ?_
      refine gt_get hC 0 0 14 3 hinX0 hK hP dX0_countAheadOf_27 rfl rfl rfl (by decide) rfl rfl ?_
      refine lv_iload_n hx hb dX0_countAheadOf_30 rfl (lv_at hl 0 rfl) ?_
      refine gt_ald hC 10 0 n hK hP dX0_countAheadOf_31 rfl rfl rfl (by omega) (Nat.le_of_ble_eq_true rfl) ?_
      refine lv_aload_n hx hb dX0_countAheadOf_32 rfl (lv_at hl 2 rfl) ?_
      refine gt_get hC 0 0 14 3 hinX0 hK hP dX0_countAheadOf_33 rfl rfl rfl (by decide) rfl rfl ?_
      refine lv_iload_n hx hb dX0_countAheadOf_36 rfl (lv_at hl 3 rfl) ?_
      refine gt_ald hC 10 0 j hK hP dX0_countAheadOf_37 rfl rfl rfl (by omega) (Nat.le_of_ble_eq_true rfl) ?_
      refine lv_icmp_ge (tgt := 44) hx hb dX0_countAheadOf_38 (by decide) (fun c38_3 : (S 14 j) ≤ (S 14 n) => ?_) (fun c38_3 : ¬ ((S 14 j) ≤ (S 14 n)) => ?_)
      · skip
        refine gt_inc (lv' := [(3, .int (nI (n + 1))), (2, .int (gxAhd S j n)), (0, .ref o), (1, .int (nI j))]) hC 0 n dX0_countAheadOf_44 hl rfl rfl (by decide) rfl (fun ls hl => ?_)
        refine lv_goto (tgt := 4) hx hb dX0_countAheadOf_47 (by decide) ?_
        have hl9 : lv_has ls 4 [(3, .int (nI (n + 1))), (2, .int (gxAhd S j n)), (0, .ref o), (1, .int (nI j))] := lv_sub hl [0, 1, 2, 3] rfl
        rw [show .int (gxAhd S j n) = (Value.int (gxAhd S j (n + 1))) from congrArg _ (by simp only [gxAhd, if_neg c23_2, if_pos c38_3])] at hl9
        exact K1 H locs ls hP hD hS hl9
      · skip
        refine lv_iinc (v := (gxAhd S j n) + 1) (lv' := [(2, .int ((gxAhd S j n) + 1)), (3, .int (nI n)), (0, .ref o), (1, .int (nI j))]) hx hb dX0_countAheadOf_41 hl (k := 1) rfl rfl (by decide) rfl (fun ls hl => ?_)
        refine gt_inc (lv' := [(3, .int (nI (n + 1))), (2, .int ((gxAhd S j n) + 1)), (0, .ref o), (1, .int (nI j))]) hC 1 n dX0_countAheadOf_44 hl rfl rfl (by decide) rfl (fun ls hl => ?_)
        refine lv_goto (tgt := 4) hx hb dX0_countAheadOf_47 (by decide) ?_
        have hl9 : lv_has ls 4 [(3, .int (nI (n + 1))), (2, .int ((gxAhd S j n) + 1)), (0, .ref o), (1, .int (nI j))] := lv_sub hl [0, 1, 2, 3] rfl
        rw [show .int ((gxAhd S j n) + 1) = (Value.int (gxAhd S j (n + 1))) from congrArg _ (by simp only [gxAhd, if_neg c23_2, if_neg c38_3])] at hl9
        exact K1 H locs ls hP hD hS hl9
  · skip
    refine lv_iload_n hx hb dX0_countAheadOf_4 rfl (lv_at hl 0 rfl) ?_
    refine lv_aload_n hx hb dX0_countAheadOf_5 rfl (lv_at hl 2 rfl) ?_
    refine gt_get hC 0 0 2 1 hinX0 hK hP dX0_countAheadOf_6 rfl rfl rfl (by decide) rfl rfl ?_
    refine gt_ge_t (tgt := 50) hC N N dX0_countAheadOf_9 (by decide) rfl hN (Nat.le_refl _) (by omega) ?_
    refine lv_iload_n hx hb dX0_countAheadOf_50 rfl (lv_at hl 1 rfl) ?_
    exact gt_iret hC hr hlk hK (ws := (sw cI o r S)) hP hD hS (show some (Value.int (gxAhd S j N)) = _ from rfl) rfl dX0_countAheadOf_51 (Nat.le_of_ble_eq_true rfl) (Nat.le_of_ble_eq_true rfl)

theorem hd_X0_givenUpInAll : yX0_givenUpInAll.cls = RX0 ∧ yX0_givenUpInAll.cls ≠ "java/lang/invoke/MethodHandle" ∧ yX0_givenUpInAll.cls ≠ "java/lang/invoke/VarHandle" ∧ (parseMethodDescriptor yX0_givenUpInAll.desc).map (fun d => d.parameters.length) = some 0 := by decide +kernel
set_option maxHeartbeats 4000000 in
set_option maxRecDepth 100000 in
theorem ct_X0_givenUpInAll (l : Launch) (D : va_G) (cI : ClassId) (o : Nat) (r : Nat → Nat) (S : SS) (G : Nat) (hG : S 0 1 = nI G) (hG4 : G ≤ 4) : Ct l D [(cI, .int)] yX0_givenUpInAll wsX0_givenUpInAll 0 0 0 0 [.ref o] (sw cI o r S) (some (.int (gxGiv S G))) (sw cI o r S) := by
  refine Ct.ofW (cc := cX0_givenUpInAll) (maxL := 3) (ret := (some .int)) (by decide) rfl (Nat.le_of_ble_eq_true rfl) ?_
  intro p e s m below meth c A ls hC hr hlk _ hP hD hS hK hA hl
  have hx := hC.1
  have hb := hC.2.1
  have hinX0 : ∀ w ∈ wsX00, w ∈ wsX0_givenUpInAll := fun _ _h => List.mem_cons_of_mem _ (List.mem_append_right _ _h)
  have hl : lv_has ls 3 [(0, .ref o)] := hl
  refine lv_iconst (v := 0) hx hb dX0_givenUpInAll_0 (by decide) ?_
  refine lv_istore_n (lv' := [(1, .int 0), (0, .ref o)]) hx hb dX0_givenUpInAll_1 rfl hl (by decide) rfl (fun ls hl => ?_)
  refine lv_iconst (v := 0) hx hb dX0_givenUpInAll_2 (by decide) ?_
  refine lv_istore_n (lv' := [(2, .int 0), (1, .int 0), (0, .ref o)]) hx hb dX0_givenUpInAll_3 rfl hl (by decide) rfl (fun ls hl => ?_)
  refine gt_loop D A s.heap 3 G (fun n => [(2, .int (nI n)), (1, .int (gxGiv S n)), (0, .ref o)]) (fun n => (sw cI o r S)) (lv_sub hl [0, 1, 2] rfl) hP hD hS (fun n hi_n H locs ls hP hD hS hl K1 => ?_) (fun H locs ls hP hD hS hl => ?_)
  · skip
    refine lv_iload_n hx hb dX0_givenUpInAll_4 rfl (lv_at hl 0 rfl) ?_
    refine lv_aload_n hx hb dX0_givenUpInAll_5 rfl (lv_at hl 2 rfl) ?_
    refine gt_get hC 0 0 1 1 hinX0 hK hP dX0_givenUpInAll_6 rfl rfl rfl (by decide) rfl rfl ?_
    refine gt_ge_f (tgt := 27) hC n G dX0_givenUpInAll_9 (by decide) rfl hG hi_n (by omega) ?_
    refine lv_iload_n hx hb dX0_givenUpInAll_12 rfl (lv_at hl 1 rfl) ?_
    refine lv_aload_n hx hb dX0_givenUpInAll_13 rfl (lv_at hl 2 rfl) ?_
    refine gt_get hC 0 0 7 2 hinX0 hK hP dX0_givenUpInAll_14 rfl rfl rfl (by decide) rfl rfl ?_
    refine lv_iload_n hx hb dX0_givenUpInAll_17 rfl (lv_at hl 0 rfl) ?_
    refine gt_ald hC 3 0 n hK hP dX0_givenUpInAll_18 rfl rfl rfl (by omega) (Nat.le_of_ble_eq_true rfl) ?_
    refine lv_iadd hx hb dX0_givenUpInAll_19 ?_
    refine lv_istore_n (lv' := [(1, .int ((gxGiv S n) + (S 7 n))), (2, .int (nI n)), (0, .ref o)]) hx hb dX0_givenUpInAll_20 rfl hl (by decide) rfl (fun ls hl => ?_)
    refine gt_inc (lv' := [(2, .int (nI (n + 1))), (1, .int ((gxGiv S n) + (S 7 n))), (0, .ref o)]) hC 1 n dX0_givenUpInAll_21 hl rfl rfl (by decide) rfl (fun ls hl => ?_)
    refine lv_goto (tgt := 4) hx hb dX0_givenUpInAll_24 (by decide) ?_
    have hl9 : lv_has ls 3 [(2, .int (nI (n + 1))), (1, .int ((gxGiv S n) + (S 7 n))), (0, .ref o)] := lv_sub hl [0, 1, 2] rfl
    rw [show .int ((gxGiv S n) + (S 7 n)) = (Value.int (gxGiv S (n + 1))) from congrArg _ (by simp only [gxGiv])] at hl9
    exact K1 H locs ls hP hD hS hl9
  · skip
    refine lv_iload_n hx hb dX0_givenUpInAll_4 rfl (lv_at hl 0 rfl) ?_
    refine lv_aload_n hx hb dX0_givenUpInAll_5 rfl (lv_at hl 2 rfl) ?_
    refine gt_get hC 0 0 1 1 hinX0 hK hP dX0_givenUpInAll_6 rfl rfl rfl (by decide) rfl rfl ?_
    refine gt_ge_t (tgt := 27) hC G G dX0_givenUpInAll_9 (by decide) rfl hG (Nat.le_refl _) (by omega) ?_
    refine lv_iload_n hx hb dX0_givenUpInAll_27 rfl (lv_at hl 1 rfl) ?_
    exact gt_iret hC hr hlk hK (ws := (sw cI o r S)) hP hD hS (show some (Value.int (gxGiv S G)) = _ from rfl) rfl dX0_givenUpInAll_28 (Nat.le_of_ble_eq_true rfl) (Nat.le_of_ble_eq_true rfl)

theorem hd_X0_sumOfWaited : yX0_sumOfWaited.cls = RX0 ∧ yX0_sumOfWaited.cls ≠ "java/lang/invoke/MethodHandle" ∧ yX0_sumOfWaited.cls ≠ "java/lang/invoke/VarHandle" ∧ (parseMethodDescriptor yX0_sumOfWaited.desc).map (fun d => d.parameters.length) = some 0 := by decide +kernel
set_option maxHeartbeats 4000000 in
set_option maxRecDepth 100000 in
theorem ct_X0_sumOfWaited (l : Launch) (D : va_G) (cI : ClassId) (o : Nat) (r : Nat → Nat) (S : SS) (N : Nat) (hN : S 0 2 = nI N) (hN12 : N ≤ 12) : Ct l D [(cI, .int)] yX0_sumOfWaited wsX0_sumOfWaited 0 0 0 0 [.ref o] (sw cI o r S) (some (.int (gxSum S N))) (sw cI o r S) := by
  refine Ct.ofW (cc := cX0_sumOfWaited) (maxL := 3) (ret := (some .int)) (by decide) rfl (Nat.le_of_ble_eq_true rfl) ?_
  intro p e s m below meth c A ls hC hr hlk _ hP hD hS hK hA hl
  have hx := hC.1
  have hb := hC.2.1
  have hinX0 : ∀ w ∈ wsX00, w ∈ wsX0_sumOfWaited := fun _ _h => List.mem_cons_of_mem _ (List.mem_append_right _ _h)
  have hl : lv_has ls 3 [(0, .ref o)] := hl
  refine lv_iconst (v := 0) hx hb dX0_sumOfWaited_0 (by decide) ?_
  refine lv_istore_n (lv' := [(1, .int 0), (0, .ref o)]) hx hb dX0_sumOfWaited_1 rfl hl (by decide) rfl (fun ls hl => ?_)
  refine lv_iconst (v := 0) hx hb dX0_sumOfWaited_2 (by decide) ?_
  refine lv_istore_n (lv' := [(2, .int 0), (1, .int 0), (0, .ref o)]) hx hb dX0_sumOfWaited_3 rfl hl (by decide) rfl (fun ls hl => ?_)
  refine gt_loop D A s.heap 3 N (fun n => [(2, .int (nI n)), (1, .int (gxSum S n)), (0, .ref o)]) (fun n => (sw cI o r S)) (lv_sub hl [0, 1, 2] rfl) hP hD hS (fun n hi_n H locs ls hP hD hS hl K1 => ?_) (fun H locs ls hP hD hS hl => ?_)
  · skip
    refine lv_iload_n hx hb dX0_sumOfWaited_4 rfl (lv_at hl 0 rfl) ?_
    refine lv_aload_n hx hb dX0_sumOfWaited_5 rfl (lv_at hl 2 rfl) ?_
    refine gt_get hC 0 0 2 1 hinX0 hK hP dX0_sumOfWaited_6 rfl rfl rfl (by decide) rfl rfl ?_
    refine gt_ge_f (tgt := 27) hC n N dX0_sumOfWaited_9 (by decide) rfl hN hi_n (by omega) ?_
    refine lv_iload_n hx hb dX0_sumOfWaited_12 rfl (lv_at hl 1 rfl) ?_
    refine lv_aload_n hx hb dX0_sumOfWaited_13 rfl (lv_at hl 2 rfl) ?_
    refine gt_get hC 0 0 16 2 hinX0 hK hP dX0_sumOfWaited_14 rfl rfl rfl (by decide) rfl rfl ?_
    refine lv_iload_n hx hb dX0_sumOfWaited_17 rfl (lv_at hl 0 rfl) ?_
    refine gt_ald hC 12 0 n hK hP dX0_sumOfWaited_18 rfl rfl rfl (by omega) (Nat.le_of_ble_eq_true rfl) ?_
    refine lv_iadd hx hb dX0_sumOfWaited_19 ?_
    refine lv_istore_n (lv' := [(1, .int ((gxSum S n) + (S 16 n))), (2, .int (nI n)), (0, .ref o)]) hx hb dX0_sumOfWaited_20 rfl hl (by decide) rfl (fun ls hl => ?_)
    refine gt_inc (lv' := [(2, .int (nI (n + 1))), (1, .int ((gxSum S n) + (S 16 n))), (0, .ref o)]) hC 1 n dX0_sumOfWaited_21 hl rfl rfl (by decide) rfl (fun ls hl => ?_)
    refine lv_goto (tgt := 4) hx hb dX0_sumOfWaited_24 (by decide) ?_
    have hl9 : lv_has ls 3 [(2, .int (nI (n + 1))), (1, .int ((gxSum S n) + (S 16 n))), (0, .ref o)] := lv_sub hl [0, 1, 2] rfl
    rw [show .int ((gxSum S n) + (S 16 n)) = (Value.int (gxSum S (n + 1))) from congrArg _ (by simp only [gxSum])] at hl9
    exact K1 H locs ls hP hD hS hl9
  · skip
    refine lv_iload_n hx hb dX0_sumOfWaited_4 rfl (lv_at hl 0 rfl) ?_
    refine lv_aload_n hx hb dX0_sumOfWaited_5 rfl (lv_at hl 2 rfl) ?_
    refine gt_get hC 0 0 2 1 hinX0 hK hP dX0_sumOfWaited_6 rfl rfl rfl (by decide) rfl rfl ?_
    refine gt_ge_t (tgt := 27) hC N N dX0_sumOfWaited_9 (by decide) rfl hN (Nat.le_refl _) (by omega) ?_
    refine lv_iload_n hx hb dX0_sumOfWaited_27 rfl (lv_at hl 1 rfl) ?_
    exact gt_iret hC hr hlk hK (ws := (sw cI o r S)) hP hD hS (show some (Value.int (gxSum S N)) = _ from rfl) rfl dX0_sumOfWaited_28 (Nat.le_of_ble_eq_true rfl) (Nat.le_of_ble_eq_true rfl)

theorem hd_X0_rest : yX0_rest.cls = RX0 ∧ yX0_rest.cls ≠ "java/lang/invoke/MethodHandle" ∧ yX0_rest.cls ≠ "java/lang/invoke/VarHandle" ∧ (parseMethodDescriptor yX0_rest.desc).map (fun d => d.parameters.length) = some 1 := by decide +kernel
set_option maxHeartbeats 4000000 in
set_option maxRecDepth 100000 in
theorem ct_X0_rest (l : Launch) (D : va_G) (cI : ClassId) (o : Nat) (r : Nat → Nat) (S : SS) (i : Nat) (hi : i < 12) : Ct l D [(cI, .int)] yX0_rest wsX0_rest 0 0 0 0 [.ref o, .int (nI i)] (sw cI o r S) none (sw cI o r (gxRest S i)) := by
  refine Ct.ofW (cc := cX0_rest) (maxL := 2) (ret := none) (by decide) rfl (Nat.le_of_ble_eq_true rfl) ?_
  intro p e s m below meth c A ls hC hr hlk _ hP hD hS hK hA hl
  have hx := hC.1
  have hb := hC.2.1
  have hinX0 : ∀ w ∈ wsX00, w ∈ wsX0_rest := fun _ _h => List.mem_cons_of_mem _ (List.mem_append_right _ _h)
  have hl : lv_has ls 2 [(0, .ref o), (1, .int (nI i))] := hl
  refine lv_aload_n hx hb dX0_rest_0 rfl (lv_at hl 0 rfl) ?_
  refine gt_get hC 0 0 9 1 hinX0 hK hP dX0_rest_1 rfl rfl rfl (by decide) rfl rfl ?_
  refine lv_iload_n hx hb dX0_rest_4 rfl (lv_at hl 1 rfl) ?_
  refine lv_iconst (v := 0) hx hb dX0_rest_5 (by decide) ?_
  refine gt_ast (ws' := (sw cI o r (up2 S 9 i 0))) hC 5 0 i hK hP hD hS dX0_rest_6 rfl rfl rfl (by omega) (Nat.le_of_ble_eq_true rfl) rfl (fun H locs hP hD hS => ?_)
  refine lv_aload_n hx hb dX0_rest_7 rfl (lv_at hl 0 rfl) ?_
  refine gt_get hC 0 0 10 2 hinX0 hK hP dX0_rest_8 rfl rfl rfl (by decide) rfl rfl ?_
  refine lv_iload_n hx hb dX0_rest_11 rfl (lv_at hl 1 rfl) ?_
  refine lv_iconst (v := (-1)) hx hb dX0_rest_12 (by decide) ?_
  refine gt_ast (ws' := (sw cI o r (up2 (up2 S 9 i 0) 10 i (-1)))) hC 6 0 i hK hP hD hS dX0_rest_13 rfl rfl rfl (by omega) (Nat.le_of_ble_eq_true rfl) rfl (fun H locs hP hD hS => ?_)
  refine lv_aload_n hx hb dX0_rest_14 rfl (lv_at hl 0 rfl) ?_
  refine gt_get hC 0 0 13 3 hinX0 hK hP dX0_rest_15 rfl rfl rfl (by decide) rfl rfl ?_
  refine lv_iload_n hx hb dX0_rest_18 rfl (lv_at hl 1 rfl) ?_
  refine lv_iconst (v := 0) hx hb dX0_rest_19 (by decide) ?_
  refine gt_ast (ws' := (sw cI o r (up2 (up2 (up2 S 9 i 0) 10 i (-1)) 13 i 0))) hC 9 0 i hK hP hD hS dX0_rest_20 rfl rfl rfl (by omega) (Nat.le_of_ble_eq_true rfl) rfl (fun H locs hP hD hS => ?_)
  refine lv_aload_n hx hb dX0_rest_21 rfl (lv_at hl 0 rfl) ?_
  refine gt_get hC 0 0 15 4 hinX0 hK hP dX0_rest_22 rfl rfl rfl (by decide) rfl rfl ?_
  refine lv_iload_n hx hb dX0_rest_25 rfl (lv_at hl 1 rfl) ?_
  refine lv_iconst (v := 0) hx hb dX0_rest_26 (by decide) ?_
  refine gt_ast (ws' := (sw cI o r (up2 (up2 (up2 (up2 S 9 i 0) 10 i (-1)) 13 i 0) 15 i 0))) hC 11 0 i hK hP hD hS dX0_rest_27 rfl rfl rfl (by omega) (Nat.le_of_ble_eq_true rfl) rfl (fun H locs hP hD hS => ?_)
  exact gt_vret hC hr hlk hK (ws := (sw cI o r (up2 (up2 (up2 (up2 S 9 i 0) 10 i (-1)) 13 i 0) 15 i 0))) hP hD hS rfl rfl dX0_rest_28 (Nat.le_of_ble_eq_true rfl) (Nat.le_of_ble_eq_true rfl)

theorem hd_X0_lineUp : yX0_lineUp.cls = RX0 ∧ yX0_lineUp.cls ≠ "java/lang/invoke/MethodHandle" ∧ yX0_lineUp.cls ≠ "java/lang/invoke/VarHandle" ∧ (parseMethodDescriptor yX0_lineUp.desc).map (fun d => d.parameters.length) = some 5 := by decide +kernel
set_option maxHeartbeats 4000000 in
set_option maxRecDepth 100000 in
theorem ct_X0_lineUp (l : Launch) (D : va_G) (cI : ClassId) (o : Nat) (r : Nat → Nat) (S : SS) (i : Nat) (g : Int32) (w : Int32) (mi : Int32) (wt : Int32) (hi : i < 12) : Ct l D [(cI, .int)] yX0_lineUp wsX0_lineUp 0 0 0 0 [.ref o, .int (nI i), .int g, .int w, .int mi, .int wt] (sw cI o r S) none (sw cI o r (gxLine S i g w mi wt)) := by
  refine Ct.ofW (cc := cX0_lineUp) (maxL := 6) (ret := none) (by decide) rfl (Nat.le_of_ble_eq_true rfl) ?_
  intro p e s m below meth c A ls hC hr hlk _ hP hD hS hK hA hl
  have hx := hC.1
  have hb := hC.2.1
  have hinX0 : ∀ w ∈ wsX00, w ∈ wsX0_lineUp := fun _ _h => List.mem_cons_of_mem _ (List.mem_append_right _ _h)
  have hl : lv_has ls 6 [(0, .ref o), (1, .int (nI i)), (2, .int g), (3, .int w), (4, .int mi), (5, .int wt)] := hl
  refine lv_aload_n hx hb dX0_lineUp_0 rfl (lv_at hl 0 rfl) ?_
  refine gt_get hC 0 0 9 1 hinX0 hK hP dX0_lineUp_1 rfl rfl rfl (by decide) rfl rfl ?_
  refine lv_iload_n hx hb dX0_lineUp_4 rfl (lv_at hl 1 rfl) ?_
  refine lv_iconst (v := 1) hx hb dX0_lineUp_5 (by decide) ?_
  refine gt_ast (ws' := (sw cI o r (up2 S 9 i 1))) hC 5 0 i hK hP hD hS dX0_lineUp_6 rfl rfl rfl (by omega) (Nat.le_of_ble_eq_true rfl) rfl (fun H locs hP hD hS => ?_)
  refine lv_aload_n hx hb dX0_lineUp_7 rfl (lv_at hl 0 rfl) ?_
  refine gt_get hC 0 0 10 2 hinX0 hK hP dX0_lineUp_8 rfl rfl rfl (by decide) rfl rfl ?_
  refine lv_iload_n hx hb dX0_lineUp_11 rfl (lv_at hl 1 rfl) ?_
  refine lv_iload_n hx hb dX0_lineUp_12 rfl (lv_at hl 2 rfl) ?_
  refine gt_ast (ws' := (sw cI o r (up2 (up2 S 9 i 1) 10 i g))) hC 6 0 i hK hP hD hS dX0_lineUp_13 rfl rfl rfl (by omega) (Nat.le_of_ble_eq_true rfl) rfl (fun H locs hP hD hS => ?_)
  refine lv_aload_n hx hb dX0_lineUp_14 rfl (lv_at hl 0 rfl) ?_
  refine gt_get hC 0 0 11 3 hinX0 hK hP dX0_lineUp_15 rfl rfl rfl (by decide) rfl rfl ?_
  refine lv_iload_n hx hb dX0_lineUp_18 rfl (lv_at hl 1 rfl) ?_
  refine lv_iload_n hx hb dX0_lineUp_19 rfl (lv_at hl 3 rfl) ?_
  refine gt_ast (ws' := (sw cI o r (up2 (up2 (up2 S 9 i 1) 10 i g) 11 i w))) hC 7 0 i hK hP hD hS dX0_lineUp_20 rfl rfl rfl (by omega) (Nat.le_of_ble_eq_true rfl) rfl (fun H locs hP hD hS => ?_)
  refine lv_aload_n hx hb dX0_lineUp_21 rfl (lv_at hl 0 rfl) ?_
  refine gt_get hC 0 0 12 4 hinX0 hK hP dX0_lineUp_22 rfl rfl rfl (by decide) rfl rfl ?_
  refine lv_iload_n hx hb dX0_lineUp_25 rfl (lv_at hl 1 rfl) ?_
  refine lv_iload hx hb dX0_lineUp_26 (lv_at hl 4 rfl) ?_
  refine gt_ast (ws' := (sw cI o r (up2 (up2 (up2 (up2 S 9 i 1) 10 i g) 11 i w) 12 i mi))) hC 8 0 i hK hP hD hS dX0_lineUp_28 rfl rfl rfl (by omega) (Nat.le_of_ble_eq_true rfl) rfl (fun H locs hP hD hS => ?_)
  refine lv_aload_n hx hb dX0_lineUp_29 rfl (lv_at hl 0 rfl) ?_
  refine gt_get hC 0 0 13 5 hinX0 hK hP dX0_lineUp_30 rfl rfl rfl (by decide) rfl rfl ?_
  refine lv_iload_n hx hb dX0_lineUp_33 rfl (lv_at hl 1 rfl) ?_
  refine lv_iload hx hb dX0_lineUp_34 (lv_at hl 5 rfl) ?_
  refine gt_ast (ws' := (sw cI o r (up2 (up2 (up2 (up2 (up2 S 9 i 1) 10 i g) 11 i w) 12 i mi) 13 i wt))) hC 9 0 i hK hP hD hS dX0_lineUp_36 rfl rfl rfl (by omega) (Nat.le_of_ble_eq_true rfl) rfl (fun H locs hP hD hS => ?_)
  refine lv_aload_n hx hb dX0_lineUp_37 rfl (lv_at hl 0 rfl) ?_
  refine gt_get hC 0 0 14 6 hinX0 hK hP dX0_lineUp_38 rfl rfl rfl (by decide) rfl rfl ?_
  refine lv_iload_n hx hb dX0_lineUp_41 rfl (lv_at hl 1 rfl) ?_
  refine lv_aload_n hx hb dX0_lineUp_42 rfl (lv_at hl 0 rfl) ?_
  refine gt_get hC 0 0 3 7 hinX0 hK hP dX0_lineUp_43 rfl rfl rfl (by decide) rfl rfl ?_
  refine gt_ast (ws' := (sw cI o r (up2 (up2 (up2 (up2 (up2 (up2 S 9 i 1) 10 i g) 11 i w) 12 i mi) 13 i wt) 14 i (S 0 3)))) hC 10 0 i hK hP hD hS dX0_lineUp_46 rfl rfl rfl (by omega) (Nat.le_of_ble_eq_true rfl) rfl (fun H locs hP hD hS => ?_)
  refine lv_aload_n hx hb dX0_lineUp_47 rfl (lv_at hl 0 rfl) ?_
  refine lv_dup hx hb dX0_lineUp_48 rfl ?_
  refine gt_get hC 0 0 3 7 hinX0 hK hP dX0_lineUp_49 rfl rfl rfl (by decide) rfl rfl ?_
  refine lv_iconst (v := 1) hx hb dX0_lineUp_52 (by decide) ?_
  refine lv_iadd hx hb dX0_lineUp_53 ?_
  refine gt_puti (ws' := (sw cI o r (up2 (up2 (up2 (up2 (up2 (up2 (up2 S 9 i 1) 10 i g) 11 i w) 12 i mi) 13 i wt) 14 i (S 0 3)) 0 3 ((S 0 3) + 1)))) hC 0 0 3 7 hinX0 tyX0_ok nmX0 hK hP hD hS dX0_lineUp_54 rfl rfl (by decide) rfl rfl rfl rfl (Nat.le_of_ble_eq_true rfl) rfl (fun H locs hP hD hS => ?_)
  exact gt_vret hC hr hlk hK (ws := (sw cI o r (up2 (up2 (up2 (up2 (up2 (up2 (up2 S 9 i 1) 10 i g) 11 i w) 12 i mi) 13 i wt) 14 i (S 0 3)) 0 3 ((S 0 3) + 1)))) hP hD hS rfl rfl dX0_lineUp_57 (Nat.le_of_ble_eq_true rfl) (Nat.le_of_ble_eq_true rfl)

theorem hd_X0_enter : yX0_enter.cls = RX0 ∧ yX0_enter.cls ≠ "java/lang/invoke/MethodHandle" ∧ yX0_enter.cls ≠ "java/lang/invoke/VarHandle" ∧ (parseMethodDescriptor yX0_enter.desc).map (fun d => d.parameters.length) = some 4 := by decide +kernel
set_option maxHeartbeats 4000000 in
set_option maxRecDepth 100000 in
theorem ct_X0_enter (l : Launch) (D : va_G) (cI : ClassId) (o : Nat) (r : Nat → Nat) (S : SS) (i : Nat) (g : Int32) (t : Int32) (mi : Int32) (hi : i < 12) : Ct l D [(cI, .int)] yX0_enter wsX0_enter 0 0 0 0 [.ref o, .int (nI i), .int g, .int t, .int mi] (sw cI o r S) none (sw cI o r (gxEnt S i g t mi)) := by
  refine Ct.ofW (cc := cX0_enter) (maxL := 5) (ret := none) (by decide) rfl (Nat.le_of_ble_eq_true rfl) ?_
  intro p e s m below meth c A ls hC hr hlk _ hP hD hS hK hA hl
  have hx := hC.1
  have hb := hC.2.1
  have hinX0 : ∀ w ∈ wsX00, w ∈ wsX0_enter := fun _ _h => List.mem_cons_of_mem _ (List.mem_append_right _ _h)
  have hl : lv_has ls 5 [(0, .ref o), (1, .int (nI i)), (2, .int g), (3, .int t), (4, .int mi)] := hl
  refine lv_aload_n hx hb dX0_enter_0 rfl (lv_at hl 0 rfl) ?_
  refine gt_get hC 0 0 9 1 hinX0 hK hP dX0_enter_1 rfl rfl rfl (by decide) rfl rfl ?_
  refine lv_iload_n hx hb dX0_enter_4 rfl (lv_at hl 1 rfl) ?_
  refine lv_iconst (v := 2) hx hb dX0_enter_5 (by decide) ?_
  refine gt_ast (ws' := (sw cI o r (up2 S 9 i 2))) hC 5 0 i hK hP hD hS dX0_enter_6 rfl rfl rfl (by omega) (Nat.le_of_ble_eq_true rfl) rfl (fun H locs hP hD hS => ?_)
  refine lv_aload_n hx hb dX0_enter_7 rfl (lv_at hl 0 rfl) ?_
  refine gt_get hC 0 0 10 2 hinX0 hK hP dX0_enter_8 rfl rfl rfl (by decide) rfl rfl ?_
  refine lv_iload_n hx hb dX0_enter_11 rfl (lv_at hl 1 rfl) ?_
  refine lv_iload_n hx hb dX0_enter_12 rfl (lv_at hl 2 rfl) ?_
  refine gt_ast (ws' := (sw cI o r (up2 (up2 S 9 i 2) 10 i g))) hC 6 0 i hK hP hD hS dX0_enter_13 rfl rfl rfl (by omega) (Nat.le_of_ble_eq_true rfl) rfl (fun H locs hP hD hS => ?_)
  refine lv_aload_n hx hb dX0_enter_14 rfl (lv_at hl 0 rfl) ?_
  refine gt_get hC 0 0 11 3 hinX0 hK hP dX0_enter_15 rfl rfl rfl (by decide) rfl rfl ?_
  refine lv_iload_n hx hb dX0_enter_18 rfl (lv_at hl 1 rfl) ?_
  refine lv_iload_n hx hb dX0_enter_19 rfl (lv_at hl 3 rfl) ?_
  refine gt_ast (ws' := (sw cI o r (up2 (up2 (up2 S 9 i 2) 10 i g) 11 i t))) hC 7 0 i hK hP hD hS dX0_enter_20 rfl rfl rfl (by omega) (Nat.le_of_ble_eq_true rfl) rfl (fun H locs hP hD hS => ?_)
  refine lv_aload_n hx hb dX0_enter_21 rfl (lv_at hl 0 rfl) ?_
  refine gt_get hC 0 0 13 4 hinX0 hK hP dX0_enter_22 rfl rfl rfl (by decide) rfl rfl ?_
  refine lv_iload_n hx hb dX0_enter_25 rfl (lv_at hl 1 rfl) ?_
  refine lv_iload hx hb dX0_enter_26 (lv_at hl 4 rfl) ?_
  refine gt_ast (ws' := (sw cI o r (up2 (up2 (up2 (up2 S 9 i 2) 10 i g) 11 i t) 13 i mi))) hC 9 0 i hK hP hD hS dX0_enter_28 rfl rfl rfl (by omega) (Nat.le_of_ble_eq_true rfl) rfl (fun H locs hP hD hS => ?_)
  refine lv_aload_n hx hb dX0_enter_29 rfl (lv_at hl 0 rfl) ?_
  refine gt_get hC 0 0 15 5 hinX0 hK hP dX0_enter_30 rfl rfl rfl (by decide) rfl rfl ?_
  refine lv_iload_n hx hb dX0_enter_33 rfl (lv_at hl 1 rfl) ?_
  refine lv_iconst (v := 0) hx hb dX0_enter_34 (by decide) ?_
  refine gt_ast (ws' := (sw cI o r (up2 (up2 (up2 (up2 (up2 S 9 i 2) 10 i g) 11 i t) 13 i mi) 15 i 0))) hC 11 0 i hK hP hD hS dX0_enter_35 rfl rfl rfl (by omega) (Nat.le_of_ble_eq_true rfl) rfl (fun H locs hP hD hS => ?_)
  exact gt_vret hC hr hlk hK (ws := (sw cI o r (up2 (up2 (up2 (up2 (up2 S 9 i 2) 10 i g) 11 i t) 13 i mi) 15 i 0))) hP hD hS rfl rfl dX0_enter_36 (Nat.le_of_ble_eq_true rfl) (Nat.le_of_ble_eq_true rfl)

theorem hd_X0_openGate : yX0_openGate.cls = RX0 ∧ yX0_openGate.cls ≠ "java/lang/invoke/MethodHandle" ∧ yX0_openGate.cls ≠ "java/lang/invoke/VarHandle" ∧ (parseMethodDescriptor yX0_openGate.desc).map (fun d => d.parameters.length) = some 2 := by decide +kernel
set_option maxHeartbeats 4000000 in
set_option maxRecDepth 100000 in
theorem ct_X0_openGate (l : Launch) (D : va_G) (cI : ClassId) (o : Nat) (r : Nat → Nat) (S : SS) (G : Nat) (hG : S 0 1 = nI G) (hG4 : G < 4) (a : Int32) (b : Int32) : Ct l D [(cI, .int)] yX0_openGate wsX0_openGate 0 0 0 0 [.ref o, .int a, .int b] (sw cI o r S) (some (.int (S 0 1))) (sw cI o r (gxOpn S G a b)) := by
  refine Ct.ofW (cc := cX0_openGate) (maxL := 4) (ret := (some .int)) (by decide) rfl (Nat.le_of_ble_eq_true rfl) ?_
  intro p e s m below meth c A ls hC hr hlk _ hP hD hS hK hA hl
  have hx := hC.1
  have hb := hC.2.1
  have hinX0 : ∀ w ∈ wsX00, w ∈ wsX0_openGate := fun _ _h => List.mem_cons_of_mem _ (List.mem_append_right _ _h)
  have hl : lv_has ls 4 [(0, .ref o), (1, .int a), (2, .int b)] := hl
  refine lv_aload_n hx hb dX0_openGate_0 rfl (lv_at hl 0 rfl) ?_
  refine gt_get hC 0 0 1 1 hinX0 hK hP dX0_openGate_1 rfl rfl rfl (by decide) rfl rfl ?_
  refine lv_istore_n (lv' := [(3, .int (S 0 1)), (0, .ref o), (1, .int a), (2, .int b)]) hx hb dX0_openGate_4 rfl hl (by decide) rfl (fun ls hl => ?_)
  refine lv_aload_n hx hb dX0_openGate_5 rfl (lv_at hl 1 rfl) ?_
  refine gt_get hC 0 0 5 2 hinX0 hK hP dX0_openGate_6 rfl rfl rfl (by decide) rfl rfl ?_
  refine lv_iload_n hx hb dX0_openGate_9 rfl (lv_at hl 0 rfl) ?_
  refine lv_iload_n hx hb dX0_openGate_10 rfl (lv_at hl 2 rfl) ?_
  refine gt_ast (ws' := (sw cI o r (up2 S 5 G a))) hC 1 0 G hK hP hD hS dX0_openGate_11 rfl rfl hG (by omega) (Nat.le_of_ble_eq_true rfl) rfl (fun H locs hP hD hS => ?_)
  refine lv_aload_n hx hb dX0_openGate_12 rfl (lv_at hl 1 rfl) ?_
  refine gt_get hC 0 0 6 3 hinX0 hK hP dX0_openGate_13 rfl rfl rfl (by decide) rfl rfl ?_
  refine lv_iload_n hx hb dX0_openGate_16 rfl (lv_at hl 0 rfl) ?_
  refine lv_iload_n hx hb dX0_openGate_17 rfl (lv_at hl 3 rfl) ?_
  refine gt_ast (ws' := (sw cI o r (up2 (up2 S 5 G a) 6 G b))) hC 2 0 G hK hP hD hS dX0_openGate_18 rfl rfl hG (by omega) (Nat.le_of_ble_eq_true rfl) rfl (fun H locs hP hD hS => ?_)
  refine lv_aload_n hx hb dX0_openGate_19 rfl (lv_at hl 1 rfl) ?_
  refine lv_dup hx hb dX0_openGate_20 rfl ?_
  refine gt_get hC 0 0 1 1 hinX0 hK hP dX0_openGate_21 rfl rfl rfl (by decide) rfl rfl ?_
  refine lv_iconst (v := 1) hx hb dX0_openGate_24 (by decide) ?_
  refine lv_iadd hx hb dX0_openGate_25 ?_
  refine gt_puti (ws' := (sw cI o r (up2 (up2 (up2 S 5 G a) 6 G b) 0 1 ((S 0 1) + 1)))) hC 0 0 1 1 hinX0 tyX0_ok nmX0 hK hP hD hS dX0_openGate_26 rfl rfl (by decide) rfl rfl rfl rfl (Nat.le_of_ble_eq_true rfl) rfl (fun H locs hP hD hS => ?_)
  refine lv_iload_n hx hb dX0_openGate_29 rfl (lv_at hl 0 rfl) ?_
  exact gt_iret hC hr hlk hK (ws := (sw cI o r (up2 (up2 (up2 S 5 G a) 6 G b) 0 1 ((S 0 1) + 1)))) hP hD hS (show some (Value.int (S 0 1)) = _ from rfl) rfl dX0_openGate_30 (Nat.le_of_ble_eq_true rfl) (Nat.le_of_ble_eq_true rfl)

theorem hd_X0_bringGoat : yX0_bringGoat.cls = RX0 ∧ yX0_bringGoat.cls ≠ "java/lang/invoke/MethodHandle" ∧ yX0_bringGoat.cls ≠ "java/lang/invoke/VarHandle" ∧ (parseMethodDescriptor yX0_bringGoat.desc).map (fun d => d.parameters.length) = some 1 := by decide +kernel
set_option maxHeartbeats 4000000 in
set_option maxRecDepth 100000 in
theorem ct_X0_bringGoat (l : Launch) (D : va_G) (cI : ClassId) (o : Nat) (r : Nat → Nat) (S : SS) (N : Nat) (hN : S 0 2 = nI N) (hN12 : N < 12) (h : Int32) : Ct l D [(cI, .int)] yX0_bringGoat wsX0_bringGoat 1 21 0 0 [.ref o, .int h] (sw cI o r S) (some (.int (S 0 2))) (sw cI o r (gxBrg S N h)) := by
  refine Ct.ofW (cc := cX0_bringGoat) (maxL := 3) (ret := (some .int)) (by decide) rfl (Nat.le_of_ble_eq_true rfl) ?_
  intro p e s m below meth c A ls hC hr hlk _ hP hD hS hK hA hl
  have hx := hC.1
  have hb := hC.2.1
  have hinX0 : ∀ w ∈ wsX00, w ∈ wsX0_bringGoat := fun _ _h => List.mem_cons_of_mem _ (List.mem_append_right _ _h)
  have hl : lv_has ls 3 [(0, .ref o), (1, .int h)] := hl
  refine lv_aload_n hx hb dX0_bringGoat_0 rfl (lv_at hl 0 rfl) ?_
  refine gt_get hC 0 0 2 1 hinX0 hK hP dX0_bringGoat_1 rfl rfl rfl (by decide) rfl rfl ?_
  refine lv_istore_n (lv' := [(2, .int (S 0 2)), (0, .ref o), (1, .int h)]) hx hb dX0_bringGoat_4 rfl hl (by decide) rfl (fun ls hl => ?_)
  refine lv_aload_n hx hb dX0_bringGoat_5 rfl (lv_at hl 1 rfl) ?_
  refine gt_get hC 0 0 8 2 hinX0 hK hP dX0_bringGoat_6 rfl rfl rfl (by decide) rfl rfl ?_
  refine lv_iload_n hx hb dX0_bringGoat_9 rfl (lv_at hl 0 rfl) ?_
  refine lv_iload_n hx hb dX0_bringGoat_10 rfl (lv_at hl 2 rfl) ?_
  refine gt_ast (ws' := (sw cI o r (up2 S 8 N h))) hC 4 0 N hK hP hD hS dX0_bringGoat_11 rfl rfl hN (by omega) (Nat.le_of_ble_eq_true rfl) rfl (fun H locs hP hD hS => ?_)
  refine lv_aload_n hx hb dX0_bringGoat_12 rfl (lv_at hl 1 rfl) ?_
  refine lv_iload_n hx hb dX0_bringGoat_13 rfl (lv_at hl 0 rfl) ?_
  refine gt_stk [.int (nI N), .ref o] (by rw [hN] <;> rfl) ?_
  refine gt_call0 hC 0 0 1 (ct_X0_rest l D cI o r (up2 S 8 N h) N (by omega)) gX0_bringGoat_X0_rest dX0_bringGoat_14 hK hP hD hS hA hl.1 rfl hd_X0_rest ⟨Nat.le_of_ble_eq_true rfl, Nat.le_of_ble_eq_true rfl⟩ ⟨Nat.le_of_ble_eq_true rfl, Nat.le_of_ble_eq_true rfl⟩ rfl rfl rfl rfl (Nat.le_of_ble_eq_true rfl) (fun H locs hP hD hS => ?_)
  refine lv_aload_n hx hb dX0_bringGoat_17 rfl (lv_at hl 1 rfl) ?_
  refine lv_dup hx hb dX0_bringGoat_18 rfl ?_
  refine gt_get hC 0 0 2 1 hinX0 hK hP dX0_bringGoat_19 rfl rfl rfl (by decide) rfl rfl ?_
  refine lv_iconst (v := 1) hx hb dX0_bringGoat_22 (by decide) ?_
  refine lv_iadd hx hb dX0_bringGoat_23 ?_
  refine gt_puti (ws' := (sw cI o r (up2 (gxRest (up2 S 8 N h) N) 0 2 (((gxRest (up2 S 8 N h) N) 0 2) + 1)))) hC 0 0 2 1 hinX0 tyX0_ok nmX0 hK hP hD hS dX0_bringGoat_24 rfl rfl (by decide) rfl rfl rfl rfl (Nat.le_of_ble_eq_true rfl) rfl (fun H locs hP hD hS => ?_)
  refine lv_iload_n hx hb dX0_bringGoat_27 rfl (lv_at hl 0 rfl) ?_
  exact gt_iret hC hr hlk hK (ws := (sw cI o r (up2 (gxRest (up2 S 8 N h) N) 0 2 (((gxRest (up2 S 8 N h) N) 0 2) + 1)))) hP hD hS (show some (Value.int (S 0 2)) = _ from rfl) rfl dX0_bringGoat_28 (Nat.le_of_ble_eq_true rfl) (Nat.le_of_ble_eq_true rfl)

theorem hd_X0_leaveThoseWhoStayed : yX0_leaveThoseWhoStayed.cls = RX0 ∧ yX0_leaveThoseWhoStayed.cls ≠ "java/lang/invoke/MethodHandle" ∧ yX0_leaveThoseWhoStayed.cls ≠ "java/lang/invoke/VarHandle" ∧ (parseMethodDescriptor yX0_leaveThoseWhoStayed.desc).map (fun d => d.parameters.length) = some 0 := by decide +kernel
set_option maxHeartbeats 4000000 in
set_option maxRecDepth 100000 in
theorem ct_X0_leaveThoseWhoStayed (l : Launch) (D : va_G) (cI : ClassId) (o : Nat) (r : Nat → Nat) (S : SS) (N : Nat) (hN : S 0 2 = nI N) (hN12 : N ≤ 12) : Ct l D [(cI, .int)] yX0_leaveThoseWhoStayed wsX0_leaveThoseWhoStayed 1 21 0 0 [.ref o] (sw cI o r S) none (sw cI o r (gxLv S N)) := by
  refine Ct.ofW (cc := cX0_leaveThoseWhoStayed) (maxL := 2) (ret := none) (by decide) rfl (Nat.le_of_ble_eq_true rfl) ?_
  intro p e s m below meth c A ls hC hr hlk _ hP hD hS hK hA hl
  have hx := hC.1
  have hb := hC.2.1
  have hinX0 : ∀ w ∈ wsX00, w ∈ wsX0_leaveThoseWhoStayed := fun _ _h => List.mem_cons_of_mem _ (List.mem_append_right _ _h)
  have hl : lv_has ls 2 [(0, .ref o)] := hl
  refine lv_iconst (v := 0) hx hb dX0_leaveThoseWhoStayed_0 (by decide) ?_
  refine lv_istore_n (lv' := [(1, .int 0), (0, .ref o)]) hx hb dX0_leaveThoseWhoStayed_1 rfl hl (by decide) rfl (fun ls hl => ?_)
  refine gt_loop D A s.heap 2 N (fun n => [(1, .int (nI n)), (0, .ref o)]) (fun n => (sw cI o r (gxLv S n))) (lv_sub hl [0, 1] rfl) hP hD hS (fun n hi_n H locs ls hP hD hS hl K1 => ?_) (fun H locs ls hP hD hS hl => ?_)
  · skip
    refine lv_iload_n hx hb dX0_leaveThoseWhoStayed_2 rfl (lv_at hl 0 rfl) ?_
    refine lv_aload_n hx hb dX0_leaveThoseWhoStayed_3 rfl (lv_at hl 1 rfl) ?_
    refine gt_get hC 0 0 2 1 hinX0 hK hP dX0_leaveThoseWhoStayed_4 rfl rfl rfl (by decide) rfl rfl ?_
    refine gt_ge_f (tgt := 50) hC n N dX0_leaveThoseWhoStayed_7 (by decide) rfl ((congrFun (gxLv_0 S _) 2).trans hN) hi_n (by omega) ?_
    refine lv_aload_n hx hb dX0_leaveThoseWhoStayed_10 rfl (lv_at hl 1 rfl) ?_
    refine gt_get hC 0 0 9 2 hinX0 hK hP dX0_leaveThoseWhoStayed_11 rfl rfl rfl (by decide) rfl rfl ?_
    refine lv_iload_n hx hb dX0_leaveThoseWhoStayed_14 rfl (lv_at hl 0 rfl) ?_
    refine gt_ald hC 5 0 n hK hP dX0_leaveThoseWhoStayed_15 rfl rfl rfl (by omega) (Nat.le_of_ble_eq_true rfl) ?_
    refine lv_iconst (v := 2) hx hb dX0_leaveThoseWhoStayed_16 (by decide) ?_
    refine lv_icmp_ne (tgt := 44) hx hb dX0_leaveThoseWhoStayed_17 (by decide) (fun c17_2 : ¬ (((gxLv S n) 9 n) = 2) => ?_) (fun c17_2 : ((gxLv S n) 9 n) = 2 => ?_)
    · skip
      refine gt_inc (lv' := [(1, .int (nI (n + 1))), (0, .ref o)]) hC 0 n dX0_leaveThoseWhoStayed_44 hl rfl rfl (by decide) rfl (fun ls hl => ?_)
      refine lv_goto (tgt := 2) hx hb dX0_leaveThoseWhoStayed_47 (by decide) ?_
      have hl9 : lv_has ls 2 [(1, .int (nI (n + 1))), (0, .ref o)] := lv_sub hl [0, 1] rfl
      have e9 : (gxLv S n) = (gxLv S (n + 1)) := by show _ = gxLvT (gxLv S n) n; simp only [gxLvT, if_neg c17_2]
      rw [e9] at hP hD
      exact K1 H locs ls hP hD hS hl9
    · skip
      refine lv_aload_n hx hb dX0_leaveThoseWhoStayed_20 rfl (lv_at hl 1 rfl) ?_
      refine gt_get hC 0 0 13 3 hinX0 hK hP dX0_leaveThoseWhoStayed_21 rfl rfl rfl (by decide) rfl rfl ?_
      refine lv_iload_n hx hb dX0_leaveThoseWhoStayed_24 rfl (lv_at hl 0 rfl) ?_
      refine lv_dup2_11 hx hb dX0_leaveThoseWhoStayed_25 rfl rfl ?_
      refine gt_ald hC 9 0 n hK hP dX0_leaveThoseWhoStayed_26 rfl rfl rfl (by omega) (Nat.le_of_ble_eq_true rfl) ?_
      refine lv_iconst (v := 1) hx hb dX0_leaveThoseWhoStayed_27 (by decide) ?_
      refine lv_isub hx hb dX0_leaveThoseWhoStayed_28 ?_
      refine gt_ast (ws' := (sw cI o r (up2 (gxLv S n) 13 n (((gxLv S n) 13 n) - 1)))) hC 9 0 n hK hP hD hS dX0_leaveThoseWhoStayed_29 rfl rfl rfl (by omega) (Nat.le_of_ble_eq_true rfl) rfl (fun H locs hP hD hS => ?_)
      refine lv_aload_n hx hb dX0_leaveThoseWhoStayed_30 rfl (lv_at hl 1 rfl) ?_
      refine gt_get hC 0 0 13 3 hinX0 hK hP dX0_leaveThoseWhoStayed_31 rfl rfl rfl (by decide) rfl rfl ?_
      refine lv_iload_n hx hb dX0_leaveThoseWhoStayed_34 rfl (lv_at hl 0 rfl) ?_
      refine gt_ald hC 9 0 n hK hP dX0_leaveThoseWhoStayed_35 rfl rfl rfl (by omega) (Nat.le_of_ble_eq_true rfl) ?_
      refine lv_if_gt (tgt := 44) hx hb dX0_leaveThoseWhoStayed_36 (by decide) (fun c36_3 : 0 < ((up2 (gxLv S n) 13 n (((gxLv S n) 13 n) - 1)) 13 n) => ?_) (fun c36_3 : ¬ (0 < ((up2 (gxLv S n) 13 n (((gxLv S n) 13 n) - 1)) 13 n)) => ?_)
      · skip
        refine gt_inc (lv' := [(1, .int (nI (n + 1))), (0, .ref o)]) hC 0 n dX0_leaveThoseWhoStayed_44 hl rfl rfl (by decide) rfl (fun ls hl => ?_)
        refine lv_goto (tgt := 2) hx hb dX0_leaveThoseWhoStayed_47 (by decide) ?_
        have hl9 : lv_has ls 2 [(1, .int (nI (n + 1))), (0, .ref o)] := lv_sub hl [0, 1] rfl
        have e9 : (up2 (gxLv S n) 13 n (((gxLv S n) 13 n) - 1)) = (gxLv S (n + 1)) := by show _ = gxLvT (gxLv S n) n; simp only [gxLvT, if_pos c17_2, if_pos c36_3]
        rw [e9] at hP hD
        exact K1 H locs ls hP hD hS hl9
      · skip
        refine lv_aload_n hx hb dX0_leaveThoseWhoStayed_39 rfl (lv_at hl 1 rfl) ?_
        refine lv_iload_n hx hb dX0_leaveThoseWhoStayed_40 rfl (lv_at hl 0 rfl) ?_
        refine gt_call0 hC 0 0 1 (ct_X0_rest l D cI o r (up2 (gxLv S n) 13 n (((gxLv S n) 13 n) - 1)) n (by omega)) gX0_leaveThoseWhoStayed_X0_rest dX0_leaveThoseWhoStayed_41 hK hP hD hS hA hl.1 rfl hd_X0_rest ⟨Nat.le_of_ble_eq_true rfl, Nat.le_of_ble_eq_true rfl⟩ ⟨Nat.le_of_ble_eq_true rfl, Nat.le_of_ble_eq_true rfl⟩ rfl rfl rfl rfl (Nat.le_of_ble_eq_true rfl) (fun H locs hP hD hS => ?_)
        refine gt_inc (lv' := [(1, .int (nI (n + 1))), (0, .ref o)]) hC 0 n dX0_leaveThoseWhoStayed_44 hl rfl rfl (by decide) rfl (fun ls hl => ?_)
        refine lv_goto (tgt := 2) hx hb dX0_leaveThoseWhoStayed_47 (by decide) ?_
        have hl9 : lv_has ls 2 [(1, .int (nI (n + 1))), (0, .ref o)] := lv_sub hl [0, 1] rfl
        have e9 : gxRest (up2 (gxLv S n) 13 n (((gxLv S n) 13 n) - 1)) n = (gxLv S (n + 1)) := by show _ = gxLvT (gxLv S n) n; simp only [gxLvT, if_pos c17_2, if_neg c36_3]
        rw [e9] at hP hD
        exact K1 H locs ls hP hD hS hl9
  · skip
    refine lv_iload_n hx hb dX0_leaveThoseWhoStayed_2 rfl (lv_at hl 0 rfl) ?_
    refine lv_aload_n hx hb dX0_leaveThoseWhoStayed_3 rfl (lv_at hl 1 rfl) ?_
    refine gt_get hC 0 0 2 1 hinX0 hK hP dX0_leaveThoseWhoStayed_4 rfl rfl rfl (by decide) rfl rfl ?_
    refine gt_ge_t (tgt := 50) hC N N dX0_leaveThoseWhoStayed_7 (by decide) rfl ((congrFun (gxLv_0 S _) 2).trans hN) (Nat.le_refl _) (by omega) ?_
    exact gt_vret hC hr hlk hK (ws := (sw cI o r (gxLv S N))) hP hD hS rfl rfl dX0_leaveThoseWhoStayed_50 (Nat.le_of_ble_eq_true rfl) (Nat.le_of_ble_eq_true rfl)

theorem hd_X0_firstIn : yX0_firstIn.cls = RX0 ∧ yX0_firstIn.cls ≠ "java/lang/invoke/MethodHandle" ∧ yX0_firstIn.cls ≠ "java/lang/invoke/VarHandle" ∧ (parseMethodDescriptor yX0_firstIn.desc).map (fun d => d.parameters.length) = some 1 := by decide +kernel
set_option maxHeartbeats 4000000 in
set_option maxRecDepth 100000 in
theorem ct_X0_firstIn (l : Launch) (D : va_G) (cI : ClassId) (o : Nat) (r : Nat → Nat) (S : SS) (g : Nat) (hg : g < 4) (N : Nat) (hN : S 0 2 = nI N) (hN12 : N ≤ 12) : Ct l D [(cI, .int)] yX0_firstIn wsX0_firstIn 1 23 0 0 [.ref o, .int (nI g)] (sw cI o r S) (some (.int (gxFiR S g N))) (sw cI o r S) := by
  refine Ct.ofW (cc := cX0_firstIn) (maxL := 10) (ret := (some .int)) (by decide) rfl (Nat.le_of_ble_eq_true rfl) ?_
  intro p e s m below meth c A ls hC hr hlk _ hP hD hS hK hA hl
  have hx := hC.1
  have hb := hC.2.1
  have hinX0 : ∀ w ∈ wsX00, w ∈ wsX0_firstIn := fun _ _h => List.mem_cons_of_mem _ (List.mem_append_right _ _h)
  have hl : lv_has ls 10 [(0, .ref o), (1, .int (nI g))] := hl
  refine lv_aload_n hx hb dX0_firstIn_0 rfl (lv_at hl 0 rfl) ?_
  refine lv_iload_n hx hb dX0_firstIn_1 rfl (lv_at hl 1 rfl) ?_
  refine gt_call0 hC 0 0 1 (ct_X0_freePermits l D cI o r S g (by omega) N hN hN12) gX0_firstIn_X0_freePermits dX0_firstIn_2 hK hP hD hS hA hl.1 rfl hd_X0_freePermits ⟨Nat.le_of_ble_eq_true rfl, Nat.le_of_ble_eq_true rfl⟩ ⟨Nat.le_of_ble_eq_true rfl, Nat.le_of_ble_eq_true rfl⟩ rfl rfl rfl rfl (Nat.le_of_ble_eq_true rfl) (fun H locs hP hD hS => ?_)
  refine lv_istore_n (lv' := [(2, .int (gxFree S g N)), (0, .ref o), (1, .int (nI g))]) hx hb dX0_firstIn_5 rfl hl (by decide) rfl (fun ls hl => ?_)
  refine lv_aload_n hx hb dX0_firstIn_6 rfl (lv_at hl 1 rfl) ?_
  refine gt_get hC 0 0 6 1 hinX0 hK hP dX0_firstIn_7 rfl rfl rfl (by decide) rfl rfl ?_
  refine lv_iload_n hx hb dX0_firstIn_10 rfl (lv_at hl 2 rfl) ?_
  refine gt_ald hC 2 0 g hK hP dX0_firstIn_11 rfl rfl rfl (by omega) (Nat.le_of_ble_eq_true rfl) ?_
  refine lv_iconst (v := 1) hx hb dX0_firstIn_12 (by decide) ?_
  refine gt_meet (rest := []) 21 (gxBh S g) (fun K1 => ?_) ?_
  · skip
    refine lv_icmp_ne (tgt := 20) hx hb dX0_firstIn_13 (by decide) (fun c13_2 : ¬ ((S 6 g) = 1) => ?_) (fun c13_2 : (S 6 g) = 1 => ?_)
    · skip
      refine lv_iconst (v := 0) hx hb dX0_firstIn_20 (by decide) ?_
      exact K1 _ (show 0 = (if (S 6 g) = 1 then 1 else 0) from by rw [if_neg c13_2])
    · skip
      refine lv_iconst (v := 1) hx hb dX0_firstIn_16 (by decide) ?_
      refine lv_goto (tgt := 21) hx hb dX0_firstIn_17 (by decide) ?_
      exact K1 _ (show 1 = (if (S 6 g) = 1 then 1 else 0) from by rw [if_pos c13_2])
  · skip
    refine lv_istore_n (lv' := [(3, .int (gxBh S g)), (2, .int (gxFree S g N)), (0, .ref o), (1, .int (nI g))]) hx hb dX0_firstIn_21 rfl hl (by decide) rfl (fun ls hl => ?_)
    refine lv_iconst (v := (-1)) hx hb dX0_firstIn_22 (by decide) ?_
    refine lv_istore (lv' := [(4, .int (-1)), (3, .int (gxBh S g)), (2, .int (gxFree S g N)), (0, .ref o), (1, .int (nI g))]) hx hb dX0_firstIn_23 hl (by decide) rfl (fun ls hl => ?_)
    refine lv_iconst (v := 0) hx hb dX0_firstIn_25 (by decide) ?_
    refine lv_istore (lv' := [(5, .int 0), (4, .int (-1)), (3, .int (gxBh S g)), (2, .int (gxFree S g N)), (0, .ref o), (1, .int (nI g))]) hx hb dX0_firstIn_26 hl (by decide) rfl (fun ls hl => ?_)
    refine lv_iconst (v := 0) hx hb dX0_firstIn_28 (by decide) ?_
    refine lv_istore (lv' := [(6, .int 0), (5, .int 0), (4, .int (-1)), (3, .int (gxBh S g)), (2, .int (gxFree S g N)), (0, .ref o), (1, .int (nI g))]) hx hb dX0_firstIn_29 hl (by decide) rfl (fun ls hl => ?_)
    refine gt_loop D A s.heap 10 N (fun n => [(6, .int (nI n)), (5, .int ((gxFiL S (gxFree S g N) (gxBh S g) g n).2)), (4, .int ((gxFiL S (gxFree S g N) (gxBh S g) g n).1)), (3, .int (gxBh S g)), (2, .int (gxFree S g N)), (0, .ref o), (1, .int (nI g))]) (fun n => (sw cI o r S)) (lv_sub hl [0, 1, 2, 3, 4, 5, 6] rfl) hP hD hS (fun n hi_n H locs ls hP hD hS hl K3 => ?_) (fun H locs ls hP hD hS hl => ?_)
    · skip
      refine lv_iload hx hb dX0_firstIn_31 (lv_at hl 0 rfl) ?_
      refine lv_aload_n hx hb dX0_firstIn_33 rfl (lv_at hl 5 rfl) ?_
      refine gt_get hC 0 0 2 2 hinX0 hK hP dX0_firstIn_34 rfl rfl rfl (by decide) rfl rfl ?_
      refine gt_ge_f (tgt := 155) hC n N dX0_firstIn_37 (by decide) rfl hN hi_n (by omega) ?_
      refine lv_aload_n hx hb dX0_firstIn_40 rfl (lv_at hl 5 rfl) ?_
      refine lv_iload hx hb dX0_firstIn_41 (lv_at hl 0 rfl) ?_
      refine lv_iload_n hx hb dX0_firstIn_43 rfl (lv_at hl 6 rfl) ?_
      refine gt_call0 hC 0 0 2 (ct_X0_waitsAt l D cI o r S n (nI g) (by omega)) gX0_firstIn_X0_waitsAt dX0_firstIn_44 hK hP hD hS hA hl.1 rfl hd_X0_waitsAt ⟨Nat.le_of_ble_eq_true rfl, Nat.le_of_ble_eq_true rfl⟩ ⟨Nat.le_of_ble_eq_true rfl, Nat.le_of_ble_eq_true rfl⟩ rfl rfl rfl rfl (Nat.le_of_ble_eq_true rfl) (fun H locs hP hD hS => ?_)
      refine gt_meet (rest := []) 70 (gxCo S (gxFree S g N) (gxBh S g) g n) (fun K4 => ?_) ?_
      · skip
        refine lv_if_eq (tgt := 69) hx hb dX0_firstIn_47 (by decide) (fun c47_5 : (gxWt S n (nI g)) = 0 => ?_) (fun c47_5 : ¬ ((gxWt S n (nI g)) = 0) => ?_)
        · skip
          refine lv_iconst (v := 0) hx hb dX0_firstIn_69 (by decide) ?_
          exact K4 _ (show 0 = (if (gxWt S n (nI g)) = 0 then 0 else (if (gxBh S g) = 0 then 1 else (if (gxFree S g N) < (S 11 n) then 0 else 1))) from by rw [if_pos c47_5])
        · skip
          refine lv_iload_n hx hb dX0_firstIn_50 rfl (lv_at hl 3 rfl) ?_
          refine lv_if_eq (tgt := 65) hx hb dX0_firstIn_51 (by decide) (fun c51_6 : (gxBh S g) = 0 => ?_) (fun c51_6 : ¬ ((gxBh S g) = 0) => ?_)
          · skip
            refine lv_iconst (v := 1) hx hb dX0_firstIn_65 (by decide) ?_
            refine lv_goto (tgt := 70) hx hb dX0_firstIn_66 (by decide) ?_
            exact K4 _ (show 1 = (if (gxWt S n (nI g)) = 0 then 0 else (if (gxBh S g) = 0 then 1 else (if (gxFree S g N) < (S 11 n) then 0 else 1))) from by rw [if_neg c47_5, if_pos c51_6])
          · skip
            refine lv_aload_n hx hb dX0_firstIn_54 rfl (lv_at hl 5 rfl) ?_
            refine gt_get hC 0 0 11 3 hinX0 hK hP dX0_firstIn_55 rfl rfl rfl (by decide) rfl rfl ?_
            refine lv_iload hx hb dX0_firstIn_58 (lv_at hl 0 rfl) ?_
            refine gt_ald hC 7 0 n hK hP dX0_firstIn_60 rfl rfl rfl (by omega) (Nat.le_of_ble_eq_true rfl) ?_
            refine lv_iload_n hx hb dX0_firstIn_61 rfl (lv_at hl 4 rfl) ?_
            refine lv_icmp_gt (tgt := 69) hx hb dX0_firstIn_62 (by decide) (fun c62_7 : (gxFree S g N) < (S 11 n) => ?_) (fun c62_7 : ¬ ((gxFree S g N) < (S 11 n)) => ?_)
            · skip
              refine lv_iconst (v := 0) hx hb dX0_firstIn_69 (by decide) ?_
              exact K4 _ (show 0 = (if (gxWt S n (nI g)) = 0 then 0 else (if (gxBh S g) = 0 then 1 else (if (gxFree S g N) < (S 11 n) then 0 else 1))) from by rw [if_neg c47_5, if_neg c51_6, if_pos c62_7])
            · skip
              refine lv_iconst (v := 1) hx hb dX0_firstIn_65 (by decide) ?_
              refine lv_goto (tgt := 70) hx hb dX0_firstIn_66 (by decide) ?_
              exact K4 _ (show 1 = (if (gxWt S n (nI g)) = 0 then 0 else (if (gxBh S g) = 0 then 1 else (if (gxFree S g N) < (S 11 n) then 0 else 1))) from by rw [if_neg c47_5, if_neg c51_6, if_neg c62_7])
      · skip
        refine lv_istore (lv' := [(7, .int (gxCo S (gxFree S g N) (gxBh S g) g n)), (6, .int (nI n)), (5, .int ((gxFiL S (gxFree S g N) (gxBh S g) g n).2)), (4, .int ((gxFiL S (gxFree S g N) (gxBh S g) g n).1)), (3, .int (gxBh S g)), (2, .int (gxFree S g N)), (0, .ref o), (1, .int (nI g))]) hx hb dX0_firstIn_70 hl (by decide) rfl (fun ls hl => ?_)
        refine lv_iload_n hx hb dX0_firstIn_72 rfl (lv_at hl 4 rfl) ?_
        refine gt_meetH D A s.heap (sw cI o r S) hP hD hS (rest := []) 86 (gxLn S (gxBh S g) n) (fun K8 => ?_) (fun H locs hP hD hS => ?_)
        · skip
          refine lv_if_eq (tgt := 85) hx hb dX0_firstIn_73 (by decide) (fun c73_9 : (gxBh S g) = 0 => ?_) (fun c73_9 : ¬ ((gxBh S g) = 0) => ?_)
          · skip
            refine lv_iconst (v := 0) hx hb dX0_firstIn_85 (by decide) ?_
            exact K8 _ H locs hP hD hS (show 0 = (if (gxBh S g) = 0 then 0 else (gxSeem S n)) from by rw [if_pos c73_9])
          · skip
            refine lv_aload_n hx hb dX0_firstIn_76 rfl (lv_at hl 6 rfl) ?_
            refine lv_iload hx hb dX0_firstIn_77 (lv_at hl 1 rfl) ?_
            refine gt_call0 hC 0 0 1 (ct_X0_seeming l D cI o r S n (by omega)) gX0_firstIn_X0_seeming dX0_firstIn_79 hK hP hD hS hA hl.1 rfl hd_X0_seeming ⟨Nat.le_of_ble_eq_true rfl, Nat.le_of_ble_eq_true rfl⟩ ⟨Nat.le_of_ble_eq_true rfl, Nat.le_of_ble_eq_true rfl⟩ rfl rfl rfl rfl (Nat.le_of_ble_eq_true rfl) (fun H locs hP hD hS => ?_)
            refine lv_goto (tgt := 86) hx hb dX0_firstIn_82 (by decide) ?_
            exact K8 _ H locs hP hD hS (show (gxSeem S n) = (if (gxBh S g) = 0 then 0 else (gxSeem S n)) from by rw [if_neg c73_9])
        · skip
          refine lv_istore (lv' := [(8, .int (gxLn S (gxBh S g) n)), (7, .int (gxCo S (gxFree S g N) (gxBh S g) g n)), (6, .int (nI n)), (5, .int ((gxFiL S (gxFree S g N) (gxBh S g) g n).2)), (4, .int ((gxFiL S (gxFree S g N) (gxBh S g) g n).1)), (3, .int (gxBh S g)), (2, .int (gxFree S g N)), (0, .ref o), (1, .int (nI g))]) hx hb dX0_firstIn_86 hl (by decide) rfl (fun ls hl => ?_)
          refine lv_iload hx hb dX0_firstIn_88 (lv_at hl 4 rfl) ?_
          refine gt_meet (rest := []) 115 (gxEr S (gxFiL S (gxFree S g N) (gxBh S g) g n).1 n) (fun K10 => ?_) ?_
          · skip
            refine lv_if_lt (tgt := 110) hx hb dX0_firstIn_90 (by decide) (fun c90_11 : ((gxFiL S (gxFree S g N) (gxBh S g) g n).1) < 0 => ?_) (fun c90_11 : ¬ (((gxFiL S (gxFree S g N) (gxBh S g) g n).1) < 0) => ?_)
            · skip
              refine lv_iconst (v := 1) hx hb dX0_firstIn_110 (by decide) ?_
              refine lv_goto (tgt := 115) hx hb dX0_firstIn_111 (by decide) ?_
              exact K10 _ (show 1 = (if ((gxFiL S (gxFree S g N) (gxBh S g) g n).1) < 0 then 1 else (if (S 14 (((gxFiL S (gxFree S g N) (gxBh S g) g n).1).toNatClampNeg)) ≤ (S 14 n) then 0 else 1)) from by rw [if_pos c90_11])
            · skip
              refine lv_aload_n hx hb dX0_firstIn_93 rfl (lv_at hl 7 rfl) ?_
              refine gt_get hC 0 0 14 4 hinX0 hK hP dX0_firstIn_94 rfl rfl rfl (by decide) rfl rfl ?_
              refine lv_iload hx hb dX0_firstIn_97 (lv_at hl 2 rfl) ?_
              refine gt_ald hC 10 0 n hK hP dX0_firstIn_99 rfl rfl rfl (by omega) (Nat.le_of_ble_eq_true rfl) ?_
              refine lv_aload_n hx hb dX0_firstIn_100 rfl (lv_at hl 7 rfl) ?_
              refine gt_get hC 0 0 14 4 hinX0 hK hP dX0_firstIn_101 rfl rfl rfl (by decide) rfl rfl ?_
              refine lv_iload hx hb dX0_firstIn_104 (lv_at hl 4 rfl) ?_
              refine gt_ald hC 10 0 (((gxFiL S (gxFree S g N) (gxBh S g) g n).1).toNatClampNeg) hK hP dX0_firstIn_106 rfl rfl (gxFiL_cl (by omega) c90_11).1 (Nat.lt_of_lt_of_le (gxFiL_cl (by omega) c90_11).2 (by omega)) (Nat.le_of_ble_eq_true rfl) ?_
              refine lv_icmp_ge (tgt := 114) hx hb dX0_firstIn_107 (by decide) (fun c107_12 : (S 14 (((gxFiL S (gxFree S g N) (gxBh S g) g n).1).toNatClampNeg)) ≤ (S 14 n) => ?_) (fun c107_12 : ¬ ((S 14 (((gxFiL S (gxFree S g N) (gxBh S g) g n).1).toNatClampNeg)) ≤ (S 14 n)) => ?_)
              · skip
                refine lv_iconst (v := 0) hx hb dX0_firstIn_114 (by decide) ?_
                exact K10 _ (show 0 = (if ((gxFiL S (gxFree S g N) (gxBh S g) g n).1) < 0 then 1 else (if (S 14 (((gxFiL S (gxFree S g N) (gxBh S g) g n).1).toNatClampNeg)) ≤ (S 14 n) then 0 else 1)) from by rw [if_neg c90_11, if_pos c107_12])
              · skip
                refine lv_iconst (v := 1) hx hb dX0_firstIn_110 (by decide) ?_
                refine lv_goto (tgt := 115) hx hb dX0_firstIn_111 (by decide) ?_
                exact K10 _ (show 1 = (if ((gxFiL S (gxFree S g N) (gxBh S g) g n).1) < 0 then 1 else (if (S 14 (((gxFiL S (gxFree S g N) (gxBh S g) g n).1).toNatClampNeg)) ≤ (S 14 n) then 0 else 1)) from by rw [if_neg c90_11, if_neg c107_12])
          · skip
            refine lv_istore (lv' := [(9, .int (gxEr S (gxFiL S (gxFree S g N) (gxBh S g) g n).1 n)), (8, .int (gxLn S (gxBh S g) n)), (7, .int (gxCo S (gxFree S g N) (gxBh S g) g n)), (6, .int (nI n)), (5, .int ((gxFiL S (gxFree S g N) (gxBh S g) g n).2)), (4, .int ((gxFiL S (gxFree S g N) (gxBh S g) g n).1)), (3, .int (gxBh S g)), (2, .int (gxFree S g N)), (0, .ref o), (1, .int (nI g))]) hx hb dX0_firstIn_115 hl (by decide) rfl (fun ls hl => ?_)
            refine lv_iload hx hb dX0_firstIn_117 (lv_at hl 2 rfl) ?_
            refine lv_if_eq (tgt := 149) hx hb dX0_firstIn_119 (by decide) (fun c119_13 : (gxCo S (gxFree S g N) (gxBh S g) g n) = 0 => ?_) (fun c119_13 : ¬ ((gxCo S (gxFree S g N) (gxBh S g) g n) = 0) => ?_)
            · skip
              refine gt_inc (lv' := [(6, .int (nI (n + 1))), (9, .int (gxEr S (gxFiL S (gxFree S g N) (gxBh S g) g n).1 n)), (8, .int (gxLn S (gxBh S g) n)), (7, .int (gxCo S (gxFree S g N) (gxBh S g) g n)), (5, .int ((gxFiL S (gxFree S g N) (gxBh S g) g n).2)), (4, .int ((gxFiL S (gxFree S g N) (gxBh S g) g n).1)), (3, .int (gxBh S g)), (2, .int (gxFree S g N)), (0, .ref o), (1, .int (nI g))]) hC 3 n dX0_firstIn_149 hl rfl rfl (by decide) rfl (fun ls hl => ?_)
              refine lv_goto (tgt := 31) hx hb dX0_firstIn_152 (by decide) ?_
              have hl9 : lv_has ls 10 [(6, .int (nI (n + 1))), (5, .int ((gxFiL S (gxFree S g N) (gxBh S g) g n).2)), (4, .int ((gxFiL S (gxFree S g N) (gxBh S g) g n).1)), (3, .int (gxBh S g)), (2, .int (gxFree S g N)), (0, .ref o), (1, .int (nI g))] := lv_sub hl [0, 4, 5, 6, 7, 8, 9] rfl
              rw [show .int ((gxFiL S (gxFree S g N) (gxBh S g) g n).2) = (Value.int ((gxFiL S (gxFree S g N) (gxBh S g) g (n + 1)).2)) from congrArg _ (by show _ = (gxFiS S (gxFree S g N) (gxBh S g) g n (gxFiL S (gxFree S g N) (gxBh S g) g n)).2; simp only [gxFiS, if_pos c119_13])] at hl9
              rw [show .int ((gxFiL S (gxFree S g N) (gxBh S g) g n).1) = (Value.int ((gxFiL S (gxFree S g N) (gxBh S g) g (n + 1)).1)) from congrArg _ (by show _ = (gxFiS S (gxFree S g N) (gxBh S g) g n (gxFiL S (gxFree S g N) (gxBh S g) g n)).1; simp only [gxFiS, if_pos c119_13])] at hl9
              exact K3 H locs ls hP hD hS hl9
            · skip
              refine lv_iload hx hb dX0_firstIn_122 (lv_at hl 1 rfl) ?_
              refine lv_iload hx hb dX0_firstIn_124 (lv_at hl 4 rfl) ?_
              refine lv_icmp_gt (tgt := 141) hx hb dX0_firstIn_126 (by decide) (fun c126_14 : ((gxFiL S (gxFree S g N) (gxBh S g) g n).2) < (gxLn S (gxBh S g) n) => ?_) (fun c126_14 : ¬ (((gxFiL S (gxFree S g N) (gxBh S g) g n).2) < (gxLn S (gxBh S g) n)) => ?_)
              · skip
                refine lv_iload hx hb dX0_firstIn_141 (lv_at hl 3 rfl) ?_
                refine lv_istore (lv' := [(4, .int (nI n)), (9, .int (gxEr S (gxFiL S (gxFree S g N) (gxBh S g) g n).1 n)), (8, .int (gxLn S (gxBh S g) n)), (7, .int (gxCo S (gxFree S g N) (gxBh S g) g n)), (6, .int (nI n)), (5, .int ((gxFiL S (gxFree S g N) (gxBh S g) g n).2)), (3, .int (gxBh S g)), (2, .int (gxFree S g N)), (0, .ref o), (1, .int (nI g))]) hx hb dX0_firstIn_143 hl (by decide) rfl (fun ls hl => ?_)
                refine lv_iload hx hb dX0_firstIn_145 (lv_at hl 2 rfl) ?_
                refine lv_istore (lv' := [(5, .int (gxLn S (gxBh S g) n)), (4, .int (nI n)), (9, .int (gxEr S (gxFiL S (gxFree S g N) (gxBh S g) g n).1 n)), (8, .int (gxLn S (gxBh S g) n)), (7, .int (gxCo S (gxFree S g N) (gxBh S g) g n)), (6, .int (nI n)), (3, .int (gxBh S g)), (2, .int (gxFree S g N)), (0, .ref o), (1, .int (nI g))]) hx hb dX0_firstIn_147 hl (by decide) rfl (fun ls hl => ?_)
                refine gt_inc (lv' := [(6, .int (nI (n + 1))), (5, .int (gxLn S (gxBh S g) n)), (4, .int (nI n)), (9, .int (gxEr S (gxFiL S (gxFree S g N) (gxBh S g) g n).1 n)), (8, .int (gxLn S (gxBh S g) n)), (7, .int (gxCo S (gxFree S g N) (gxBh S g) g n)), (3, .int (gxBh S g)), (2, .int (gxFree S g N)), (0, .ref o), (1, .int (nI g))]) hC 5 n dX0_firstIn_149 hl rfl rfl (by decide) rfl (fun ls hl => ?_)
                refine lv_goto (tgt := 31) hx hb dX0_firstIn_152 (by decide) ?_
                have hl9 : lv_has ls 10 [(6, .int (nI (n + 1))), (5, .int (gxLn S (gxBh S g) n)), (4, .int (nI n)), (3, .int (gxBh S g)), (2, .int (gxFree S g N)), (0, .ref o), (1, .int (nI g))] := lv_sub hl [0, 1, 2, 6, 7, 8, 9] rfl
                rw [show .int (gxLn S (gxBh S g) n) = (Value.int ((gxFiL S (gxFree S g N) (gxBh S g) g (n + 1)).2)) from congrArg _ (by show _ = (gxFiS S (gxFree S g N) (gxBh S g) g n (gxFiL S (gxFree S g N) (gxBh S g) g n)).2; simp only [gxFiS, if_neg c119_13, if_pos c126_14])] at hl9
                rw [show .int (nI n) = (Value.int ((gxFiL S (gxFree S g N) (gxBh S g) g (n + 1)).1)) from congrArg _ (by show _ = (gxFiS S (gxFree S g N) (gxBh S g) g n (gxFiL S (gxFree S g N) (gxBh S g) g n)).1; simp only [gxFiS, if_neg c119_13, if_pos c126_14])] at hl9
                exact K3 H locs ls hP hD hS hl9
              · skip
                refine lv_iload hx hb dX0_firstIn_129 (lv_at hl 1 rfl) ?_
                refine lv_iload hx hb dX0_firstIn_131 (lv_at hl 4 rfl) ?_
                refine lv_icmp_ne (tgt := 149) hx hb dX0_firstIn_133 (by decide) (fun c133_15 : ¬ ((gxLn S (gxBh S g) n) = ((gxFiL S (gxFree S g N) (gxBh S g) g n).2)) => ?_) (fun c133_15 : (gxLn S (gxBh S g) n) = ((gxFiL S (gxFree S g N) (gxBh S g) g n).2) => ?_)
                · skip
                  refine gt_inc (lv' := [(6, .int (nI (n + 1))), (9, .int (gxEr S (gxFiL S (gxFree S g N) (gxBh S g) g n).1 n)), (8, .int (gxLn S (gxBh S g) n)), (7, .int (gxCo S (gxFree S g N) (gxBh S g) g n)), (5, .int ((gxFiL S (gxFree S g N) (gxBh S g) g n).2)), (4, .int ((gxFiL S (gxFree S g N) (gxBh S g) g n).1)), (3, .int (gxBh S g)), (2, .int (gxFree S g N)), (0, .ref o), (1, .int (nI g))]) hC 3 n dX0_firstIn_149 hl rfl rfl (by decide) rfl (fun ls hl => ?_)
                  refine lv_goto (tgt := 31) hx hb dX0_firstIn_152 (by decide) ?_
                  have hl9 : lv_has ls 10 [(6, .int (nI (n + 1))), (5, .int ((gxFiL S (gxFree S g N) (gxBh S g) g n).2)), (4, .int ((gxFiL S (gxFree S g N) (gxBh S g) g n).1)), (3, .int (gxBh S g)), (2, .int (gxFree S g N)), (0, .ref o), (1, .int (nI g))] := lv_sub hl [0, 4, 5, 6, 7, 8, 9] rfl
                  rw [show .int ((gxFiL S (gxFree S g N) (gxBh S g) g n).2) = (Value.int ((gxFiL S (gxFree S g N) (gxBh S g) g (n + 1)).2)) from congrArg _ (by show _ = (gxFiS S (gxFree S g N) (gxBh S g) g n (gxFiL S (gxFree S g N) (gxBh S g) g n)).2; simp only [gxFiS, if_neg c119_13, if_neg c126_14, if_neg c133_15])] at hl9
                  rw [show .int ((gxFiL S (gxFree S g N) (gxBh S g) g n).1) = (Value.int ((gxFiL S (gxFree S g N) (gxBh S g) g (n + 1)).1)) from congrArg _ (by show _ = (gxFiS S (gxFree S g N) (gxBh S g) g n (gxFiL S (gxFree S g N) (gxBh S g) g n)).1; simp only [gxFiS, if_neg c119_13, if_neg c126_14, if_neg c133_15])] at hl9
                  exact K3 H locs ls hP hD hS hl9
                · skip
                  refine lv_iload hx hb dX0_firstIn_136 (lv_at hl 0 rfl) ?_
                  refine lv_if_eq (tgt := 149) hx hb dX0_firstIn_138 (by decide) (fun c138_16 : (gxEr S (gxFiL S (gxFree S g N) (gxBh S g) g n).1 n) = 0 => ?_) (fun c138_16 : ¬ ((gxEr S (gxFiL S (gxFree S g N) (gxBh S g) g n).1 n) = 0) => ?_)
                  · skip
                    refine gt_inc (lv' := [(6, .int (nI (n + 1))), (9, .int (gxEr S (gxFiL S (gxFree S g N) (gxBh S g) g n).1 n)), (8, .int (gxLn S (gxBh S g) n)), (7, .int (gxCo S (gxFree S g N) (gxBh S g) g n)), (5, .int ((gxFiL S (gxFree S g N) (gxBh S g) g n).2)), (4, .int ((gxFiL S (gxFree S g N) (gxBh S g) g n).1)), (3, .int (gxBh S g)), (2, .int (gxFree S g N)), (0, .ref o), (1, .int (nI g))]) hC 3 n dX0_firstIn_149 hl rfl rfl (by decide) rfl (fun ls hl => ?_)
                    refine lv_goto (tgt := 31) hx hb dX0_firstIn_152 (by decide) ?_
                    have hl9 : lv_has ls 10 [(6, .int (nI (n + 1))), (5, .int ((gxFiL S (gxFree S g N) (gxBh S g) g n).2)), (4, .int ((gxFiL S (gxFree S g N) (gxBh S g) g n).1)), (3, .int (gxBh S g)), (2, .int (gxFree S g N)), (0, .ref o), (1, .int (nI g))] := lv_sub hl [0, 4, 5, 6, 7, 8, 9] rfl
                    rw [show .int ((gxFiL S (gxFree S g N) (gxBh S g) g n).2) = (Value.int ((gxFiL S (gxFree S g N) (gxBh S g) g (n + 1)).2)) from congrArg _ (by show _ = (gxFiS S (gxFree S g N) (gxBh S g) g n (gxFiL S (gxFree S g N) (gxBh S g) g n)).2; simp only [gxFiS, if_neg c119_13, if_neg c126_14, if_pos c133_15, if_pos c138_16])] at hl9
                    rw [show .int ((gxFiL S (gxFree S g N) (gxBh S g) g n).1) = (Value.int ((gxFiL S (gxFree S g N) (gxBh S g) g (n + 1)).1)) from congrArg _ (by show _ = (gxFiS S (gxFree S g N) (gxBh S g) g n (gxFiL S (gxFree S g N) (gxBh S g) g n)).1; simp only [gxFiS, if_neg c119_13, if_neg c126_14, if_pos c133_15, if_pos c138_16])] at hl9
                    exact K3 H locs ls hP hD hS hl9
                  · skip
                    refine lv_iload hx hb dX0_firstIn_141 (lv_at hl 3 rfl) ?_
                    refine lv_istore (lv' := [(4, .int (nI n)), (9, .int (gxEr S (gxFiL S (gxFree S g N) (gxBh S g) g n).1 n)), (8, .int (gxLn S (gxBh S g) n)), (7, .int (gxCo S (gxFree S g N) (gxBh S g) g n)), (6, .int (nI n)), (5, .int ((gxFiL S (gxFree S g N) (gxBh S g) g n).2)), (3, .int (gxBh S g)), (2, .int (gxFree S g N)), (0, .ref o), (1, .int (nI g))]) hx hb dX0_firstIn_143 hl (by decide) rfl (fun ls hl => ?_)
                    refine lv_iload hx hb dX0_firstIn_145 (lv_at hl 2 rfl) ?_
                    refine lv_istore (lv' := [(5, .int (gxLn S (gxBh S g) n)), (4, .int (nI n)), (9, .int (gxEr S (gxFiL S (gxFree S g N) (gxBh S g) g n).1 n)), (8, .int (gxLn S (gxBh S g) n)), (7, .int (gxCo S (gxFree S g N) (gxBh S g) g n)), (6, .int (nI n)), (3, .int (gxBh S g)), (2, .int (gxFree S g N)), (0, .ref o), (1, .int (nI g))]) hx hb dX0_firstIn_147 hl (by decide) rfl (fun ls hl => ?_)
                    refine gt_inc (lv' := [(6, .int (nI (n + 1))), (5, .int (gxLn S (gxBh S g) n)), (4, .int (nI n)), (9, .int (gxEr S (gxFiL S (gxFree S g N) (gxBh S g) g n).1 n)), (8, .int (gxLn S (gxBh S g) n)), (7, .int (gxCo S (gxFree S g N) (gxBh S g) g n)), (3, .int (gxBh S g)), (2, .int (gxFree S g N)), (0, .ref o), (1, .int (nI g))]) hC 5 n dX0_firstIn_149 hl rfl rfl (by decide) rfl (fun ls hl => ?_)
                    refine lv_goto (tgt := 31) hx hb dX0_firstIn_152 (by decide) ?_
                    have hl9 : lv_has ls 10 [(6, .int (nI (n + 1))), (5, .int (gxLn S (gxBh S g) n)), (4, .int (nI n)), (3, .int (gxBh S g)), (2, .int (gxFree S g N)), (0, .ref o), (1, .int (nI g))] := lv_sub hl [0, 1, 2, 6, 7, 8, 9] rfl
                    rw [show .int (gxLn S (gxBh S g) n) = (Value.int ((gxFiL S (gxFree S g N) (gxBh S g) g (n + 1)).2)) from congrArg _ (by show _ = (gxFiS S (gxFree S g N) (gxBh S g) g n (gxFiL S (gxFree S g N) (gxBh S g) g n)).2; simp only [gxFiS, if_neg c119_13, if_neg c126_14, if_pos c133_15, if_neg c138_16])] at hl9
                    rw [show .int (nI n) = (Value.int ((gxFiL S (gxFree S g N) (gxBh S g) g (n + 1)).1)) from congrArg _ (by show _ = (gxFiS S (gxFree S g N) (gxBh S g) g n (gxFiL S (gxFree S g N) (gxBh S g) g n)).1; simp only [gxFiS, if_neg c119_13, if_neg c126_14, if_pos c133_15, if_neg c138_16])] at hl9
                    exact K3 H locs ls hP hD hS hl9
    · skip
      refine lv_iload hx hb dX0_firstIn_31 (lv_at hl 0 rfl) ?_
      refine lv_aload_n hx hb dX0_firstIn_33 rfl (lv_at hl 5 rfl) ?_
      refine gt_get hC 0 0 2 2 hinX0 hK hP dX0_firstIn_34 rfl rfl rfl (by decide) rfl rfl ?_
      refine gt_ge_t (tgt := 155) hC N N dX0_firstIn_37 (by decide) rfl hN (Nat.le_refl _) (by omega) ?_
      refine lv_iload hx hb dX0_firstIn_155 (lv_at hl 2 rfl) ?_
      refine gt_meet (rest := []) 177 (gxFiR S g N) (fun K17 => ?_) ?_
      · skip
        refine lv_if_lt (tgt := 176) hx hb dX0_firstIn_157 (by decide) (fun c157_18 : ((gxFiL S (gxFree S g N) (gxBh S g) g N).1) < 0 => ?_) (fun c157_18 : ¬ (((gxFiL S (gxFree S g N) (gxBh S g) g N).1) < 0) => ?_)
        · skip
          refine lv_iconst (v := (-1)) hx hb dX0_firstIn_176 (by decide) ?_
          exact K17 _ (show (-1) = (if ((gxFiL S (gxFree S g N) (gxBh S g) g N).1) < 0 then (-1) else (if (gxFree S g N) < (S 11 (((gxFiL S (gxFree S g N) (gxBh S g) g N).1).toNatClampNeg)) then (-1) else ((gxFiL S (gxFree S g N) (gxBh S g) g N).1))) from by rw [if_pos c157_18])
        · skip
          refine lv_aload_n hx hb dX0_firstIn_160 rfl (lv_at hl 5 rfl) ?_
          refine gt_get hC 0 0 11 3 hinX0 hK hP dX0_firstIn_161 rfl rfl rfl (by decide) rfl rfl ?_
          refine lv_iload hx hb dX0_firstIn_164 (lv_at hl 2 rfl) ?_
          refine gt_ald hC 7 0 (((gxFiL S (gxFree S g N) (gxBh S g) g N).1).toNatClampNeg) hK hP dX0_firstIn_166 rfl rfl (gxFiL_cl hN12 c157_18).1 (Nat.lt_of_lt_of_le (gxFiL_cl hN12 c157_18).2 hN12) (Nat.le_of_ble_eq_true rfl) ?_
          refine lv_iload_n hx hb dX0_firstIn_167 rfl (lv_at hl 4 rfl) ?_
          refine lv_icmp_gt (tgt := 176) hx hb dX0_firstIn_168 (by decide) (fun c168_19 : (gxFree S g N) < (S 11 (((gxFiL S (gxFree S g N) (gxBh S g) g N).1).toNatClampNeg)) => ?_) (fun c168_19 : ¬ ((gxFree S g N) < (S 11 (((gxFiL S (gxFree S g N) (gxBh S g) g N).1).toNatClampNeg))) => ?_)
          · skip
            refine lv_iconst (v := (-1)) hx hb dX0_firstIn_176 (by decide) ?_
            exact K17 _ (show (-1) = (if ((gxFiL S (gxFree S g N) (gxBh S g) g N).1) < 0 then (-1) else (if (gxFree S g N) < (S 11 (((gxFiL S (gxFree S g N) (gxBh S g) g N).1).toNatClampNeg)) then (-1) else ((gxFiL S (gxFree S g N) (gxBh S g) g N).1))) from by rw [if_neg c157_18, if_pos c168_19])
          · skip
            refine lv_iload hx hb dX0_firstIn_171 (lv_at hl 2 rfl) ?_
            refine lv_goto (tgt := 177) hx hb dX0_firstIn_173 (by decide) ?_
            exact K17 _ (show ((gxFiL S (gxFree S g N) (gxBh S g) g N).1) = (if ((gxFiL S (gxFree S g N) (gxBh S g) g N).1) < 0 then (-1) else (if (gxFree S g N) < (S 11 (((gxFiL S (gxFree S g N) (gxBh S g) g N).1).toNatClampNeg)) then (-1) else ((gxFiL S (gxFree S g N) (gxBh S g) g N).1))) from by rw [if_neg c157_18, if_neg c168_19])
      · skip
        exact gt_iret hC hr hlk hK (ws := (sw cI o r S)) hP hD hS (show some (Value.int (gxFiR S g N)) = _ from rfl) rfl dX0_firstIn_177 (Nat.le_of_ble_eq_true rfl) (Nat.le_of_ble_eq_true rfl)

theorem hd_X0_letInThrough : yX0_letInThrough.cls = RX0 ∧ yX0_letInThrough.cls ≠ "java/lang/invoke/MethodHandle" ∧ yX0_letInThrough.cls ≠ "java/lang/invoke/VarHandle" ∧ (parseMethodDescriptor yX0_letInThrough.desc).map (fun d => d.parameters.length) = some 1 := by decide +kernel
set_option maxHeartbeats 4000000 in
set_option maxRecDepth 100000 in
theorem ct_X0_letInThrough (l : Launch) (D : va_G) (cI : ClassId) (o : Nat) (r : Nat → Nat) (S : SS) (g : Nat) (hg : g < 4) (N : Nat) (hN : S 0 2 = nI N) (hN12 : N ≤ 12) : Ct l D [(cI, .int)] yX0_letInThrough wsX0_letInThrough 2 52 0 0 [.ref o, .int (nI g)] (sw cI o r S) none (sw cI o r (gxLiF S g N)) := by
  refine Ct.ofW (cc := cX0_letInThrough) (maxL := 4) (ret := none) (by decide) rfl (Nat.le_of_ble_eq_true rfl) ?_
  intro p e s m below meth c A ls hC hr hlk _ hP hD hS hK hA hl
  have hx := hC.1
  have hb := hC.2.1
  have hinX0 : ∀ w ∈ wsX00, w ∈ wsX0_letInThrough := fun _ _h => List.mem_cons_of_mem _ (List.mem_append_right _ _h)
  have hl : lv_has ls 4 [(0, .ref o), (1, .int (nI g))] := hl
  refine lv_iconst (v := 0) hx hb dX0_letInThrough_0 (by decide) ?_
  refine lv_istore_n (lv' := [(2, .int 0), (0, .ref o), (1, .int (nI g))]) hx hb dX0_letInThrough_1 rfl hl (by decide) rfl (fun ls hl => ?_)
  refine gt_loop D A s.heap 4 (gxLiK g N N S) (fun n => [(2, .int (nI n)), (0, .ref o), (1, .int (nI g))]) (fun n => (sw cI o r (gxLiI S g N n))) (lv_sub hl [0, 1, 2] rfl) hP hD hS (fun n hi_n H locs ls hP hD hS hl K1 => ?_) (fun H locs ls hP hD hS hl => ?_)
  · skip
    have hNn : (gxLiI S g N n) 0 2 = nI N := (gxLiI_0 S g N (by decide) n).trans hN
    have hno : ¬ gxFiR (gxLiI S g N n) g N < 0 := gxLiK_no N S n hi_n
    have hle : n < N := Nat.lt_of_lt_of_le hi_n (gxLiK_le g N N S)
    have hge : (0 : Int32) ≤ gxFiR (gxLiI S g N n) g N := Int32.not_lt.mp hno
    refine lv_iload_n hx hb dX0_letInThrough_2 rfl (lv_at hl 0 rfl) ?_
    refine lv_aload_n hx hb dX0_letInThrough_3 rfl (lv_at hl 1 rfl) ?_
    refine gt_get hC 0 0 2 1 hinX0 hK hP dX0_letInThrough_4 rfl rfl rfl (by decide) rfl rfl ?_
    refine gt_ge_f (tgt := 55) hC n N dX0_letInThrough_7 (by decide) rfl hNn hle (by omega) ?_
    refine lv_aload_n hx hb dX0_letInThrough_10 rfl (lv_at hl 1 rfl) ?_
    refine lv_iload_n hx hb dX0_letInThrough_11 rfl (lv_at hl 2 rfl) ?_
    refine gt_call0 hC 0 0 1 (ct_X0_firstIn l D cI o r (gxLiI S g N n) g (by omega) N hNn hN12) gX0_letInThrough_X0_firstIn dX0_letInThrough_12 hK hP hD hS hA hl.1 rfl hd_X0_firstIn ⟨Nat.le_of_ble_eq_true rfl, Nat.le_of_ble_eq_true rfl⟩ ⟨Nat.le_of_ble_eq_true rfl, Nat.le_of_ble_eq_true rfl⟩ rfl rfl rfl rfl (Nat.le_of_ble_eq_true rfl) (fun H locs hP hD hS => ?_)
    refine lv_istore_n (lv' := [(3, .int (gxFiR (gxLiI S g N n) g N)), (2, .int (nI n)), (0, .ref o), (1, .int (nI g))]) hx hb dX0_letInThrough_15 rfl hl (by decide) rfl (fun ls hl => ?_)
    refine lv_iload_n hx hb dX0_letInThrough_16 rfl (lv_at hl 0 rfl) ?_
    refine lv_if_ge (tgt := 21) hx hb dX0_letInThrough_17 (by decide) (fun c17_2 : 0 ≤ (gxFiR (gxLiI S g N n) g N) => ?_) (fun c17_2 : ¬ (0 ≤ (gxFiR (gxLiI S g N n) g N)) => absurd c17_2 (not_not_intro hge))
    obtain ⟨j, hjN, hfx⟩ := gxFiR_ix hN12 hno
    refine lv_aload_n hx hb dX0_letInThrough_21 rfl (lv_at hl 2 rfl) ?_
    refine lv_iload_n hx hb dX0_letInThrough_22 rfl (lv_at hl 0 rfl) ?_
    refine lv_iload_n hx hb dX0_letInThrough_23 rfl (lv_at hl 3 rfl) ?_
    refine lv_aload_n hx hb dX0_letInThrough_24 rfl (lv_at hl 2 rfl) ?_
    refine gt_get hC 0 0 11 2 hinX0 hK hP dX0_letInThrough_25 rfl rfl rfl (by decide) rfl rfl ?_
    refine lv_iload_n hx hb dX0_letInThrough_28 rfl (lv_at hl 0 rfl) ?_
    refine gt_ald hC 7 0 j hK hP dX0_letInThrough_29 rfl rfl hfx (by omega) (Nat.le_of_ble_eq_true rfl) ?_
    refine lv_aload_n hx hb dX0_letInThrough_30 rfl (lv_at hl 2 rfl) ?_
    refine gt_get hC 0 0 12 3 hinX0 hK hP dX0_letInThrough_31 rfl rfl rfl (by decide) rfl rfl ?_
    refine lv_iload_n hx hb dX0_letInThrough_34 rfl (lv_at hl 0 rfl) ?_
    refine gt_ald hC 8 0 j hK hP dX0_letInThrough_35 rfl rfl hfx (by omega) (Nat.le_of_ble_eq_true rfl) ?_
    refine gt_stk [.int ((gxLiI S g N n) 12 j), .int ((gxLiI S g N n) 11 j), .int (nI g), .int (nI j), .ref o] (by rw [hfx] <;> rfl) ?_
    refine gt_call0 hC 0 0 4 (ct_X0_enter l D cI o r (gxLiI S g N n) j (nI g) ((gxLiI S g N n) 11 j) ((gxLiI S g N n) 12 j) (by omega)) gX0_letInThrough_X0_enter dX0_letInThrough_36 hK hP hD hS hA hl.1 rfl hd_X0_enter ⟨Nat.le_of_ble_eq_true rfl, Nat.le_of_ble_eq_true rfl⟩ ⟨Nat.le_of_ble_eq_true rfl, Nat.le_of_ble_eq_true rfl⟩ rfl rfl rfl rfl (Nat.le_of_ble_eq_true rfl) (fun H locs hP hD hS => ?_)
    refine lv_aload_n hx hb dX0_letInThrough_39 rfl (lv_at hl 2 rfl) ?_
    refine lv_dup hx hb dX0_letInThrough_40 rfl ?_
    refine gt_get hC 0 0 4 4 hinX0 hK hP dX0_letInThrough_41 rfl rfl rfl (by decide) rfl rfl ?_
    refine lv_iconst (v := 1) hx hb dX0_letInThrough_44 (by decide) ?_
    refine lv_iadd hx hb dX0_letInThrough_45 ?_
    refine gt_puti (ws' := (sw cI o r (up2 (gxEnt (gxLiI S g N n) j (nI g) ((gxLiI S g N n) 11 j) ((gxLiI S g N n) 12 j)) 0 4 (((gxEnt (gxLiI S g N n) j (nI g) ((gxLiI S g N n) 11 j) ((gxLiI S g N n) 12 j)) 0 4) + 1)))) hC 0 0 4 4 hinX0 tyX0_ok nmX0 hK hP hD hS dX0_letInThrough_46 rfl rfl (by decide) rfl rfl rfl rfl (Nat.le_of_ble_eq_true rfl) rfl (fun H locs hP hD hS => ?_)
    refine gt_inc (lv' := [(2, .int (nI (n + 1))), (3, .int (gxFiR (gxLiI S g N n) g N)), (0, .ref o), (1, .int (nI g))]) hC 1 n dX0_letInThrough_49 hl rfl rfl (by decide) rfl (fun ls hl => ?_)
    refine lv_goto (tgt := 2) hx hb dX0_letInThrough_52 (by decide) ?_
    have hl9 : lv_has ls 4 [(2, .int (nI (n + 1))), (0, .ref o), (1, .int (nI g))] := lv_sub hl [0, 2, 3] rfl
    have e9 : (up2 (gxEnt (gxLiI S g N n) j (nI g) ((gxLiI S g N n) 11 j) ((gxLiI S g N n) 12 j)) 0 4 (((gxEnt (gxLiI S g N n) j (nI g) ((gxLiI S g N n) 11 j) ((gxLiI S g N n) 12 j)) 0 4) + 1)) = (gxLiI S g N (n + 1)) := by show _ = gxLiS (gxLiI S g N n) g N; unfold gxLiS; rw [hfx, nI_clamp (by omega)] <;> rfl
    rw [e9] at hP hD
    exact K1 H locs ls hP hD hS hl9
  · skip
    have hNx : (gxLiI S g N (gxLiK g N N S)) 0 2 = nI N := (gxLiI_0 S g N (by decide) _).trans hN
    have hle : gxLiK g N N S ≤ N := gxLiK_le g N N S
    refine lv_iload_n hx hb dX0_letInThrough_2 rfl (lv_at hl 0 rfl) ?_
    refine lv_aload_n hx hb dX0_letInThrough_3 rfl (lv_at hl 1 rfl) ?_
    refine gt_get hC 0 0 2 1 hinX0 hK hP dX0_letInThrough_4 rfl rfl rfl (by decide) rfl rfl ?_
    refine lv_icmp_ge (tgt := 55) hx hb dX0_letInThrough_7 (by decide) (fun c7_3 : ((gxLiI S g N (gxLiK g N N S)) 0 2) ≤ (nI (gxLiK g N N S)) => ?_) (fun c7_3 : ¬ (((gxLiI S g N (gxLiK g N N S)) 0 2) ≤ (nI (gxLiK g N N S))) => ?_)
    · skip
      exact gt_vret hC hr hlk hK (ws := (sw cI o r (gxLiI S g N (gxLiK g N N S)))) hP hD hS rfl rfl dX0_letInThrough_55 (Nat.le_of_ble_eq_true rfl) (Nat.le_of_ble_eq_true rfl)
    · skip
      have hlt : gxLiK g N N S < N := Nat.lt_of_not_le (fun q => c7_3 (by rw [hNx]; exact nI_le q (by omega)))
      refine lv_aload_n hx hb dX0_letInThrough_10 rfl (lv_at hl 1 rfl) ?_
      refine lv_iload_n hx hb dX0_letInThrough_11 rfl (lv_at hl 2 rfl) ?_
      refine gt_call0 hC 0 0 1 (ct_X0_firstIn l D cI o r (gxLiI S g N (gxLiK g N N S)) g (by omega) N hNx hN12) gX0_letInThrough_X0_firstIn dX0_letInThrough_12 hK hP hD hS hA hl.1 rfl hd_X0_firstIn ⟨Nat.le_of_ble_eq_true rfl, Nat.le_of_ble_eq_true rfl⟩ ⟨Nat.le_of_ble_eq_true rfl, Nat.le_of_ble_eq_true rfl⟩ rfl rfl rfl rfl (Nat.le_of_ble_eq_true rfl) (fun H locs hP hD hS => ?_)
      refine lv_istore_n (lv' := [(3, .int (gxFiR (gxLiI S g N (gxLiK g N N S)) g N)), (2, .int (nI (gxLiK g N N S))), (0, .ref o), (1, .int (nI g))]) hx hb dX0_letInThrough_15 rfl hl (by decide) rfl (fun ls hl => ?_)
      refine lv_iload_n hx hb dX0_letInThrough_16 rfl (lv_at hl 0 rfl) ?_
      refine lv_if_ge (tgt := 21) hx hb dX0_letInThrough_17 (by decide) (fun c17_4 : 0 ≤ (gxFiR (gxLiI S g N (gxLiK g N N S)) g N) => absurd c17_4 (Int32.not_le.mpr (gxLiK_yes N S hlt))) (fun c17_4 : ¬ (0 ≤ (gxFiR (gxLiI S g N (gxLiK g N N S)) g N)) => ?_)
      exact gt_vret hC hr hlk hK (ws := (sw cI o r (gxLiI S g N (gxLiK g N N S)))) hP hD hS rfl rfl dX0_letInThrough_20 (Nat.le_of_ble_eq_true rfl) (Nat.le_of_ble_eq_true rfl)

theorem hd_X0_waitOnAt : yX0_waitOnAt.cls = RX0 ∧ yX0_waitOnAt.cls ≠ "java/lang/invoke/MethodHandle" ∧ yX0_waitOnAt.cls ≠ "java/lang/invoke/VarHandle" ∧ (parseMethodDescriptor yX0_waitOnAt.desc).map (fun d => d.parameters.length) = some 1 := by decide +kernel
set_option maxHeartbeats 4000000 in
set_option maxRecDepth 100000 in
theorem ct_X0_waitOnAt (l : Launch) (D : va_G) (cI : ClassId) (o : Nat) (r : Nat → Nat) (S : SS) (g : Nat) (hg : g < 4) (N : Nat) (hN : S 0 2 = nI N) (hN12 : N ≤ 12) : Ct l D [(cI, .int)] yX0_waitOnAt wsX0_waitOnAt 1 22 0 0 [.ref o, .int (nI g)] (sw cI o r S) none (sw cI o r (gxWo S g N)) := by
  refine Ct.ofW (cc := cX0_waitOnAt) (maxL := 3) (ret := none) (by decide) rfl (Nat.le_of_ble_eq_true rfl) ?_
  intro p e s m below meth c A ls hC hr hlk _ hP hD hS hK hA hl
  have hx := hC.1
  have hb := hC.2.1
  have hinX0 : ∀ w ∈ wsX00, w ∈ wsX0_waitOnAt := fun _ _h => List.mem_cons_of_mem _ (List.mem_append_right _ _h)
  have hl : lv_has ls 3 [(0, .ref o), (1, .int (nI g))] := hl
  refine lv_iconst (v := 0) hx hb dX0_waitOnAt_0 (by decide) ?_
  refine lv_istore_n (lv' := [(2, .int 0), (0, .ref o), (1, .int (nI g))]) hx hb dX0_waitOnAt_1 rfl hl (by decide) rfl (fun ls hl => ?_)
  refine gt_loop D A s.heap 3 N (fun n => [(2, .int (nI n)), (0, .ref o), (1, .int (nI g))]) (fun n => (sw cI o r (gxWo S g n))) (lv_sub hl [0, 1, 2] rfl) hP hD hS (fun n hi_n H locs ls hP hD hS hl K1 => ?_) (fun H locs ls hP hD hS hl => ?_)
  · skip
    refine lv_iload_n hx hb dX0_waitOnAt_2 rfl (lv_at hl 0 rfl) ?_
    refine lv_aload_n hx hb dX0_waitOnAt_3 rfl (lv_at hl 1 rfl) ?_
    refine gt_get hC 0 0 2 1 hinX0 hK hP dX0_waitOnAt_4 rfl rfl rfl (by decide) rfl rfl ?_
    refine gt_ge_f (tgt := 79) hC n N dX0_waitOnAt_7 (by decide) rfl ((congrFun (gxWo_0 S g _) 2).trans hN) hi_n (by omega) ?_
    refine lv_aload_n hx hb dX0_waitOnAt_10 rfl (lv_at hl 1 rfl) ?_
    refine lv_iload_n hx hb dX0_waitOnAt_11 rfl (lv_at hl 0 rfl) ?_
    refine lv_iload_n hx hb dX0_waitOnAt_12 rfl (lv_at hl 2 rfl) ?_
    refine gt_call0 hC 0 0 2 (ct_X0_waitsAt l D cI o r (gxWo S g n) n (nI g) (by omega)) gX0_waitOnAt_X0_waitsAt dX0_waitOnAt_13 hK hP hD hS hA hl.1 rfl hd_X0_waitsAt ⟨Nat.le_of_ble_eq_true rfl, Nat.le_of_ble_eq_true rfl⟩ ⟨Nat.le_of_ble_eq_true rfl, Nat.le_of_ble_eq_true rfl⟩ rfl rfl rfl rfl (Nat.le_of_ble_eq_true rfl) (fun H locs hP hD hS => ?_)
    refine lv_if_eq (tgt := 73) hx hb dX0_waitOnAt_16 (by decide) (fun c16_2 : (gxWt (gxWo S g n) n (nI g)) = 0 => ?_) (fun c16_2 : ¬ ((gxWt (gxWo S g n) n (nI g)) = 0) => ?_)
    · skip
      refine gt_inc (lv' := [(2, .int (nI (n + 1))), (0, .ref o), (1, .int (nI g))]) hC 0 n dX0_waitOnAt_73 hl rfl rfl (by decide) rfl (fun ls hl => ?_)
      refine lv_goto (tgt := 2) hx hb dX0_waitOnAt_76 (by decide) ?_
      have hl9 : lv_has ls 3 [(2, .int (nI (n + 1))), (0, .ref o), (1, .int (nI g))] := lv_sub hl [0, 1, 2] rfl
      have e9 : (gxWo S g n) = (gxWo S g (n + 1)) := by show _ = gxWoT (gxWo S g n) g n; exact ((if_pos c16_2).trans rfl).symm
      rw [e9] at hP hD
      exact K1 H locs ls hP hD hS hl9
    · skip
      refine lv_aload_n hx hb dX0_waitOnAt_19 rfl (lv_at hl 1 rfl) ?_
      refine gt_get hC 0 0 15 2 hinX0 hK hP dX0_waitOnAt_20 rfl rfl rfl (by decide) rfl rfl ?_
      refine lv_iload_n hx hb dX0_waitOnAt_23 rfl (lv_at hl 0 rfl) ?_
      refine lv_dup2_11 hx hb dX0_waitOnAt_24 rfl rfl ?_
      refine gt_ald hC 11 0 n hK hP dX0_waitOnAt_25 rfl rfl rfl (by omega) (Nat.le_of_ble_eq_true rfl) ?_
      refine lv_iconst (v := 1) hx hb dX0_waitOnAt_26 (by decide) ?_
      refine lv_iadd hx hb dX0_waitOnAt_27 ?_
      refine gt_ast (ws' := (sw cI o r (up2 (gxWo S g n) 15 n (((gxWo S g n) 15 n) + 1)))) hC 11 0 n hK hP hD hS dX0_waitOnAt_28 rfl rfl rfl (by omega) (Nat.le_of_ble_eq_true rfl) rfl (fun H locs hP hD hS => ?_)
      refine lv_aload_n hx hb dX0_waitOnAt_29 rfl (lv_at hl 1 rfl) ?_
      refine gt_get hC 0 0 16 3 hinX0 hK hP dX0_waitOnAt_30 rfl rfl rfl (by decide) rfl rfl ?_
      refine lv_iload_n hx hb dX0_waitOnAt_33 rfl (lv_at hl 0 rfl) ?_
      refine lv_dup2_11 hx hb dX0_waitOnAt_34 rfl rfl ?_
      refine gt_ald hC 12 0 n hK hP dX0_waitOnAt_35 rfl rfl rfl (by omega) (Nat.le_of_ble_eq_true rfl) ?_
      refine lv_iconst (v := 1) hx hb dX0_waitOnAt_36 (by decide) ?_
      refine lv_iadd hx hb dX0_waitOnAt_37 ?_
      refine gt_ast (ws' := (sw cI o r (up2 (up2 (gxWo S g n) 15 n (((gxWo S g n) 15 n) + 1)) 16 n (((gxWo S g n) 16 n) + 1)))) hC 12 0 n hK hP hD hS dX0_waitOnAt_38 rfl rfl rfl (by omega) (Nat.le_of_ble_eq_true rfl) rfl (fun H locs hP hD hS => ?_)
      refine lv_aload_n hx hb dX0_waitOnAt_39 rfl (lv_at hl 1 rfl) ?_
      refine gt_get hC 0 0 13 4 hinX0 hK hP dX0_waitOnAt_40 rfl rfl rfl (by decide) rfl rfl ?_
      refine lv_iload_n hx hb dX0_waitOnAt_43 rfl (lv_at hl 0 rfl) ?_
      refine lv_dup2_11 hx hb dX0_waitOnAt_44 rfl rfl ?_
      refine gt_ald hC 9 0 n hK hP dX0_waitOnAt_45 rfl rfl rfl (by omega) (Nat.le_of_ble_eq_true rfl) ?_
      refine lv_iconst (v := 1) hx hb dX0_waitOnAt_46 (by decide) ?_
      refine lv_isub hx hb dX0_waitOnAt_47 ?_
      refine gt_ast (ws' := (sw cI o r (up2 (up2 (up2 (gxWo S g n) 15 n (((gxWo S g n) 15 n) + 1)) 16 n (((gxWo S g n) 16 n) + 1)) 13 n (((gxWo S g n) 13 n) - 1)))) hC 9 0 n hK hP hD hS dX0_waitOnAt_48 rfl rfl rfl (by omega) (Nat.le_of_ble_eq_true rfl) rfl (fun H locs hP hD hS => ?_)
      refine lv_aload_n hx hb dX0_waitOnAt_49 rfl (lv_at hl 1 rfl) ?_
      refine gt_get hC 0 0 13 4 hinX0 hK hP dX0_waitOnAt_50 rfl rfl rfl (by decide) rfl rfl ?_
      refine lv_iload_n hx hb dX0_waitOnAt_53 rfl (lv_at hl 0 rfl) ?_
      refine gt_ald hC 9 0 n hK hP dX0_waitOnAt_54 rfl rfl rfl (by omega) (Nat.le_of_ble_eq_true rfl) ?_
      refine lv_if_gt (tgt := 73) hx hb dX0_waitOnAt_55 (by decide) (fun c55_3 : 0 < ((up2 (up2 (up2 (gxWo S g n) 15 n (((gxWo S g n) 15 n) + 1)) 16 n (((gxWo S g n) 16 n) + 1)) 13 n (((gxWo S g n) 13 n) - 1)) 13 n) => ?_) (fun c55_3 : ¬ (0 < ((up2 (up2 (up2 (gxWo S g n) 15 n (((gxWo S g n) 15 n) + 1)) 16 n (((gxWo S g n) 16 n) + 1)) 13 n (((gxWo S g n) 13 n) - 1)) 13 n)) => ?_)
      · skip
        refine gt_inc (lv' := [(2, .int (nI (n + 1))), (0, .ref o), (1, .int (nI g))]) hC 0 n dX0_waitOnAt_73 hl rfl rfl (by decide) rfl (fun ls hl => ?_)
        refine lv_goto (tgt := 2) hx hb dX0_waitOnAt_76 (by decide) ?_
        have hl9 : lv_has ls 3 [(2, .int (nI (n + 1))), (0, .ref o), (1, .int (nI g))] := lv_sub hl [0, 1, 2] rfl
        have e9 : (up2 (up2 (up2 (gxWo S g n) 15 n (((gxWo S g n) 15 n) + 1)) 16 n (((gxWo S g n) 16 n) + 1)) 13 n (((gxWo S g n) 13 n) - 1)) = (gxWo S g (n + 1)) := by show _ = gxWoT (gxWo S g n) g n; exact ((if_neg c16_2).trans ((if_pos c55_3).trans rfl)).symm
        rw [e9] at hP hD
        exact K1 H locs ls hP hD hS hl9
      · skip
        refine lv_aload_n hx hb dX0_waitOnAt_58 rfl (lv_at hl 1 rfl) ?_
        refine lv_iload_n hx hb dX0_waitOnAt_59 rfl (lv_at hl 0 rfl) ?_
        refine gt_call0 hC 0 0 1 (ct_X0_rest l D cI o r (up2 (up2 (up2 (gxWo S g n) 15 n (((gxWo S g n) 15 n) + 1)) 16 n (((gxWo S g n) 16 n) + 1)) 13 n (((gxWo S g n) 13 n) - 1)) n (by omega)) gX0_waitOnAt_X0_rest dX0_waitOnAt_60 hK hP hD hS hA hl.1 rfl hd_X0_rest ⟨Nat.le_of_ble_eq_true rfl, Nat.le_of_ble_eq_true rfl⟩ ⟨Nat.le_of_ble_eq_true rfl, Nat.le_of_ble_eq_true rfl⟩ rfl rfl rfl rfl (Nat.le_of_ble_eq_true rfl) (fun H locs hP hD hS => ?_)
        refine lv_aload_n hx hb dX0_waitOnAt_63 rfl (lv_at hl 1 rfl) ?_
        refine gt_get hC 0 0 7 5 hinX0 hK hP dX0_waitOnAt_64 rfl rfl rfl (by decide) rfl rfl ?_
        refine lv_iload_n hx hb dX0_waitOnAt_67 rfl (lv_at hl 2 rfl) ?_
        refine lv_dup2_11 hx hb dX0_waitOnAt_68 rfl rfl ?_
        refine gt_ald hC 3 0 g hK hP dX0_waitOnAt_69 rfl rfl rfl (by omega) (Nat.le_of_ble_eq_true rfl) ?_
        refine lv_iconst (v := 1) hx hb dX0_waitOnAt_70 (by decide) ?_
        refine lv_iadd hx hb dX0_waitOnAt_71 ?_
        refine gt_ast (ws' := (sw cI o r (up2 (gxRest (up2 (up2 (up2 (gxWo S g n) 15 n (((gxWo S g n) 15 n) + 1)) 16 n (((gxWo S g n) 16 n) + 1)) 13 n (((gxWo S g n) 13 n) - 1)) n) 7 g (((gxRest (up2 (up2 (up2 (gxWo S g n) 15 n (((gxWo S g n) 15 n) + 1)) 16 n (((gxWo S g n) 16 n) + 1)) 13 n (((gxWo S g n) 13 n) - 1)) n) 7 g) + 1)))) hC 3 0 g hK hP hD hS dX0_waitOnAt_72 rfl rfl rfl (by omega) (Nat.le_of_ble_eq_true rfl) rfl (fun H locs hP hD hS => ?_)
        refine gt_inc (lv' := [(2, .int (nI (n + 1))), (0, .ref o), (1, .int (nI g))]) hC 0 n dX0_waitOnAt_73 hl rfl rfl (by decide) rfl (fun ls hl => ?_)
        refine lv_goto (tgt := 2) hx hb dX0_waitOnAt_76 (by decide) ?_
        have hl9 : lv_has ls 3 [(2, .int (nI (n + 1))), (0, .ref o), (1, .int (nI g))] := lv_sub hl [0, 1, 2] rfl
        have e9 : (up2 (gxRest (up2 (up2 (up2 (gxWo S g n) 15 n (((gxWo S g n) 15 n) + 1)) 16 n (((gxWo S g n) 16 n) + 1)) 13 n (((gxWo S g n) 13 n) - 1)) n) 7 g (((gxRest (up2 (up2 (up2 (gxWo S g n) 15 n (((gxWo S g n) 15 n) + 1)) 16 n (((gxWo S g n) 16 n) + 1)) 13 n (((gxWo S g n) 13 n) - 1)) n) 7 g) + 1)) = (gxWo S g (n + 1)) := by show _ = gxWoT (gxWo S g n) g n; exact ((if_neg c16_2).trans ((if_neg c55_3).trans rfl)).symm
        rw [e9] at hP hD
        exact K1 H locs ls hP hD hS hl9
  · skip
    refine lv_iload_n hx hb dX0_waitOnAt_2 rfl (lv_at hl 0 rfl) ?_
    refine lv_aload_n hx hb dX0_waitOnAt_3 rfl (lv_at hl 1 rfl) ?_
    refine gt_get hC 0 0 2 1 hinX0 hK hP dX0_waitOnAt_4 rfl rfl rfl (by decide) rfl rfl ?_
    refine gt_ge_t (tgt := 79) hC N N dX0_waitOnAt_7 (by decide) rfl ((congrFun (gxWo_0 S g _) 2).trans hN) (Nat.le_refl _) (by omega) ?_
    exact gt_vret hC hr hlk hK (ws := (sw cI o r (gxWo S g N))) hP hD hS rfl rfl dX0_waitOnAt_79 (Nat.le_of_ble_eq_true rfl) (Nat.le_of_ble_eq_true rfl)

theorem hd_X0_liveAMinute : yX0_liveAMinute.cls = RX0 ∧ yX0_liveAMinute.cls ≠ "java/lang/invoke/MethodHandle" ∧ yX0_liveAMinute.cls ≠ "java/lang/invoke/VarHandle" ∧ (parseMethodDescriptor yX0_liveAMinute.desc).map (fun d => d.parameters.length) = some 0 := by decide +kernel
set_option maxHeartbeats 4000000 in
set_option maxRecDepth 100000 in
theorem ct_X0_liveAMinute (l : Launch) (D : va_G) (cI : ClassId) (o : Nat) (r : Nat → Nat) (S : SS) (N : Nat) (hN : S 0 2 = nI N) (hN12 : N ≤ 12) (G : Nat) (hG : S 0 1 = nI G) (hG4 : G ≤ 4) : Ct l D [(cI, .int)] yX0_liveAMinute wsX0_liveAMinute 3 75 0 0 [.ref o] (sw cI o r S) none (sw cI o r (gxMin S G N)) := by
  refine Ct.ofW (cc := cX0_liveAMinute) (maxL := 2) (ret := none) (by decide) rfl (Nat.le_of_ble_eq_true rfl) ?_
  intro p e s m below meth c A ls hC hr hlk _ hP hD hS hK hA hl
  have hx := hC.1
  have hb := hC.2.1
  have hinX0 : ∀ w ∈ wsX00, w ∈ wsX0_liveAMinute := fun _ _h => List.mem_cons_of_mem _ (List.mem_append_right _ _h)
  have hl : lv_has ls 2 [(0, .ref o)] := hl
  refine lv_aload_n hx hb dX0_liveAMinute_0 rfl (lv_at hl 0 rfl) ?_
  refine gt_call0 hC 0 0 0 (ct_X0_leaveThoseWhoStayed l D cI o r S N hN hN12) gX0_liveAMinute_X0_leaveThoseWhoStayed dX0_liveAMinute_1 hK hP hD hS hA hl.1 rfl hd_X0_leaveThoseWhoStayed ⟨Nat.le_of_ble_eq_true rfl, Nat.le_of_ble_eq_true rfl⟩ ⟨Nat.le_of_ble_eq_true rfl, Nat.le_of_ble_eq_true rfl⟩ rfl rfl rfl rfl (Nat.le_of_ble_eq_true rfl) (fun H locs hP hD hS => ?_)
  refine lv_iconst (v := 0) hx hb dX0_liveAMinute_4 (by decide) ?_
  refine lv_istore_n (lv' := [(1, .int 0), (0, .ref o)]) hx hb dX0_liveAMinute_5 rfl hl (by decide) rfl (fun ls hl => ?_)
  refine gt_loop D A s.heap 2 G (fun n => [(1, .int (nI n)), (0, .ref o)]) (fun n => (sw cI o r (gxLg S N n))) (lv_sub hl [0, 1] rfl) hP hD hS (fun n hi_n H locs ls hP hD hS hl K1 => ?_) (fun H locs ls hP hD hS hl => ?_)
  · skip
    refine lv_iload_n hx hb dX0_liveAMinute_6 rfl (lv_at hl 0 rfl) ?_
    refine lv_aload_n hx hb dX0_liveAMinute_7 rfl (lv_at hl 1 rfl) ?_
    refine gt_get hC 0 0 1 1 hinX0 hK hP dX0_liveAMinute_8 rfl rfl rfl (by decide) rfl rfl ?_
    refine gt_ge_f (tgt := 25) hC n G dX0_liveAMinute_11 (by decide) rfl ((gxLg_0 S N (by decide) n).trans hG) hi_n (by omega) ?_
    refine lv_aload_n hx hb dX0_liveAMinute_14 rfl (lv_at hl 1 rfl) ?_
    refine lv_iload_n hx hb dX0_liveAMinute_15 rfl (lv_at hl 0 rfl) ?_
    refine gt_call0 hC 0 0 1 (ct_X0_letInThrough l D cI o r (gxLg S N n) n (by omega) N ((gxLg_0 S N (by decide) n).trans hN) hN12) gX0_liveAMinute_X0_letInThrough dX0_liveAMinute_16 hK hP hD hS hA hl.1 rfl hd_X0_letInThrough ⟨Nat.le_of_ble_eq_true rfl, Nat.le_of_ble_eq_true rfl⟩ ⟨Nat.le_of_ble_eq_true rfl, Nat.le_of_ble_eq_true rfl⟩ rfl rfl rfl rfl (Nat.le_of_ble_eq_true rfl) (fun H locs hP hD hS => ?_)
    refine gt_inc (lv' := [(1, .int (nI (n + 1))), (0, .ref o)]) hC 0 n dX0_liveAMinute_19 hl rfl rfl (by decide) rfl (fun ls hl => ?_)
    refine lv_goto (tgt := 6) hx hb dX0_liveAMinute_22 (by decide) ?_
    have hl9 : lv_has ls 2 [(1, .int (nI (n + 1))), (0, .ref o)] := lv_sub hl [0, 1] rfl
    have e9 : gxLiF (gxLg S N n) n N = (gxLg S N (n + 1)) := rfl
    rw [e9] at hP hD
    exact K1 H locs ls hP hD hS hl9
  · skip
    refine lv_iload_n hx hb dX0_liveAMinute_6 rfl (lv_at hl 0 rfl) ?_
    refine lv_aload_n hx hb dX0_liveAMinute_7 rfl (lv_at hl 1 rfl) ?_
    refine gt_get hC 0 0 1 1 hinX0 hK hP dX0_liveAMinute_8 rfl rfl rfl (by decide) rfl rfl ?_
    refine gt_ge_t (tgt := 25) hC G G dX0_liveAMinute_11 (by decide) rfl ((gxLg_0 S N (by decide) G).trans hG) (Nat.le_refl _) (by omega) ?_
    refine lv_iconst (v := 0) hx hb dX0_liveAMinute_25 (by decide) ?_
    refine lv_istore_n (lv' := [(1, .int 0), (0, .ref o)]) hx hb dX0_liveAMinute_26 rfl hl (by decide) rfl (fun ls hl => ?_)
    refine gt_loop D A s.heap 2 G (fun n => [(1, .int (nI n)), (0, .ref o)]) (fun n => (sw cI o r (gxWg S N G n))) (lv_sub hl [0, 1] rfl) hP hD hS (fun n hi_n H locs ls hP hD hS hl K2 => ?_) (fun H locs ls hP hD hS hl => ?_)
    · skip
      refine lv_iload_n hx hb dX0_liveAMinute_27 rfl (lv_at hl 0 rfl) ?_
      refine lv_aload_n hx hb dX0_liveAMinute_28 rfl (lv_at hl 1 rfl) ?_
      refine gt_get hC 0 0 1 1 hinX0 hK hP dX0_liveAMinute_29 rfl rfl rfl (by decide) rfl rfl ?_
      refine gt_ge_f (tgt := 46) hC n G dX0_liveAMinute_32 (by decide) rfl ((gxWg_0 S N G (by decide) n).trans hG) hi_n (by omega) ?_
      refine lv_aload_n hx hb dX0_liveAMinute_35 rfl (lv_at hl 1 rfl) ?_
      refine lv_iload_n hx hb dX0_liveAMinute_36 rfl (lv_at hl 0 rfl) ?_
      refine gt_call0 hC 0 0 1 (ct_X0_waitOnAt l D cI o r (gxWg S N G n) n (by omega) N ((gxWg_0 S N G (by decide) n).trans hN) hN12) gX0_liveAMinute_X0_waitOnAt dX0_liveAMinute_37 hK hP hD hS hA hl.1 rfl hd_X0_waitOnAt ⟨Nat.le_of_ble_eq_true rfl, Nat.le_of_ble_eq_true rfl⟩ ⟨Nat.le_of_ble_eq_true rfl, Nat.le_of_ble_eq_true rfl⟩ rfl rfl rfl rfl (Nat.le_of_ble_eq_true rfl) (fun H locs hP hD hS => ?_)
      refine gt_inc (lv' := [(1, .int (nI (n + 1))), (0, .ref o)]) hC 0 n dX0_liveAMinute_40 hl rfl rfl (by decide) rfl (fun ls hl => ?_)
      refine lv_goto (tgt := 27) hx hb dX0_liveAMinute_43 (by decide) ?_
      have hl9 : lv_has ls 2 [(1, .int (nI (n + 1))), (0, .ref o)] := lv_sub hl [0, 1] rfl
      have e9 : gxWo (gxWg S N G n) n N = (gxWg S N G (n + 1)) := rfl
      rw [e9] at hP hD
      exact K2 H locs ls hP hD hS hl9
    · skip
      refine lv_iload_n hx hb dX0_liveAMinute_27 rfl (lv_at hl 0 rfl) ?_
      refine lv_aload_n hx hb dX0_liveAMinute_28 rfl (lv_at hl 1 rfl) ?_
      refine gt_get hC 0 0 1 1 hinX0 hK hP dX0_liveAMinute_29 rfl rfl rfl (by decide) rfl rfl ?_
      refine gt_ge_t (tgt := 46) hC G G dX0_liveAMinute_32 (by decide) rfl ((gxWg_0 S N G (by decide) G).trans hG) (Nat.le_refl _) (by omega) ?_
      refine lv_aload_n hx hb dX0_liveAMinute_46 rfl (lv_at hl 1 rfl) ?_
      refine lv_dup hx hb dX0_liveAMinute_47 rfl ?_
      refine gt_get hC 0 0 0 2 hinX0 hK hP dX0_liveAMinute_48 rfl rfl rfl (by decide) rfl rfl ?_
      refine lv_iconst (v := 1) hx hb dX0_liveAMinute_51 (by decide) ?_
      refine lv_iadd hx hb dX0_liveAMinute_52 ?_
      refine gt_puti (ws' := (sw cI o r (up2 (gxWg S N G G) 0 0 (((gxWg S N G G) 0 0) + 1)))) hC 0 0 0 2 hinX0 tyX0_ok nmX0 hK hP hD hS dX0_liveAMinute_53 rfl rfl (by decide) rfl rfl rfl rfl (Nat.le_of_ble_eq_true rfl) rfl (fun H locs hP hD hS => ?_)
      exact gt_vret hC hr hlk hK (ws := (sw cI o r (up2 (gxWg S N G G) 0 0 (((gxWg S N G G) 0 0) + 1)))) hP hD hS rfl rfl dX0_liveAMinute_56 (Nat.le_of_ble_eq_true rfl) (Nat.le_of_ble_eq_true rfl)
end
section
/-! Rows of my own for methods that may throw. -/
abbrev gxIA : String := "java/lang/IllegalArgumentException"
abbrev gxIS : String := "java/lang/IllegalStateException"
abbrev gxIO : String := "java/lang/IndexOutOfBoundsException"
abbrev gxNm : List String := ["java/lang/RuntimeException", "java/lang/Exception"]
/-- the words of a throw that no list of words holds -/
def gNw (U : State) : Prop := (va_Nw (.declares (Bundle.initS "java/lang/RuntimeException")) U ∧ va_Nw (.declares (Bundle.initS "java/lang/Exception")) U ∧ va_Nw (.declares (Bundle.initS Bundle.tN)) U) ∧ va_Nw (.castable gxIA gxIA) U ∧ va_Nw (.castable gxIS gxIS) U ∧ va_Nw (.castable gxIO gxIO) U
theorem gNw.warm {s U : State} (hW : s.WarmedH U.vm) (h : gNw s) : gNw U := ⟨⟨va_Nw.warmD hW h.1.1, va_Nw.warmD hW h.1.2.1, va_Nw.warmD hW h.1.2.2⟩, va_Nw.warmC hW h.2.1, va_Nw.warmC hW h.2.2.1, va_Nw.warmC hW h.2.2.2⟩
/-- the texts of the class's exceptions -/
def gStr (U : State) : Prop := (∃ a, vk_R RX1 25 "no such order" a U) ∧ (∃ a, vk_R RX1 36 "no room for a gate" a U) ∧ (∃ a, vk_R RX1 46 "no room for a goat" a U) ∧ (∃ a, vk_R RX1 76 "fewer permits are free" a U) ∧ (∃ a, vk_R RX1 85 "the goat is idle" a U) ∧ (∃ a, vk_R RX1 218 "no such gate" a U) ∧ (∃ a, vk_R RX1 221 "no such goat" a U) ∧ (∃ a, vk_R RX1 223 "the goat is not idle" a U) ∧ (∃ a, vk_R RX1 225 "the number is too small or too great" a U)
theorem gStr.warm {s U : State} (hW : s.WarmedH U.vm) (h : gStr s) : gStr U := by
  obtain ⟨⟨a1, h1⟩, ⟨a2, h2⟩, ⟨a3, h3⟩, ⟨a4, h4⟩, ⟨a5, h5⟩, ⟨a6, h6⟩, ⟨a7, h7⟩, ⟨a8, h8⟩, ⟨a9, h9⟩⟩ := h
  exact ⟨⟨a1, vk_R.warm hW h1⟩, ⟨a2, vk_R.warm hW h2⟩, ⟨a3, vk_R.warm hW h3⟩, ⟨a4, vk_R.warm hW h4⟩, ⟨a5, vk_R.warm hW h5⟩, ⟨a6, vk_R.warm hW h6⟩, ⟨a7, vk_R.warm hW h7⟩, ⟨a8, vk_R.warm hW h8⟩, ⟨a9, vk_R.warm hW h9⟩⟩
/-- what a throw needs of the machine: two statics of Throwable, the texts -/
def gTh (A : Nat → Prop) (U : State) (H : Heap) : Prop := vx_Zq Bundle.tN "UNASSIGNED_STACK" Bundle.steD A U H ∧ vx_Zq Bundle.tN "SUPPRESSED_SENTINEL" Bundle.listD A U H ∧ gStr U ∧ gNw U
theorem gTh.on {A B : Nat → Prop} {s U : State} {H0 H : Heap} {locs : List Loc} (h : gTh A s H0) (hS : va_S A H0 H locs) (hAB : ∀ q, B q → A q) (hW : s.WarmedH U.vm) : gTh B U H :=
  ⟨((h.1.kept hS.2.1).narrow hAB).moved hW.alike, ((h.2.1.kept hS.2.1).narrow hAB).moved hW.alike, h.2.2.1.warm hW, h.2.2.2.warm hW⟩
def gPx (D : va_G) (tys : List (ClassId × FieldType)) (av : List Value) (w : va_W) (sz : Nat) : Array Value → State → Prop := va_Pc av (fun U => U.heap.size = sz ∧ va_P D vwCl w U.heap ∧ va_K D vwCl tys U ∧ va_D (fun _ => True) w ∧ gTh (va_A w sz) U U.heap)
def gQx (D : va_G) (tys : List (ClassId × FieldType)) (x : Option String) (w' : va_W) (rv : Option Value) (A : Nat → Prop) : Array Value → State → Outcome → State → Prop := fun a st oc t => x = none ∧ gQ D tys w' rv A a st oc t
def gXC (D : va_G) (tys : List (ClassId × FieldType)) (x : Option String) (w : va_W) (A : Nat → Prop) : String → State → State → Prop := fun E st t => x = some E ∧ va_P D vwCl w t.heap ∧ va_K D vwCl tys t ∧ va_D A w ∧ va_F A st t
/-- A CONTRACT OF A METHOD THAT MAY THROW: x none: it answers rv, with the world w'; x some E: it throws an E, the world stays -/
def Cx (l : Launch) (D : va_G) (tys : List (ClassId × FieldType)) (y : MethodName) (wsy : List Cond) (fr lo mc ms : Nat) (av : List Value) (w : va_W) (x : Option String) (rv : Option Value) (w' : va_W) : Prop :=
  ∀ sz : Nat, vx_Met l y wsy ({ frames := fr, cells := mc, slots := ms, locals := lo } : Room) (gPx D tys av w sz) (gQx D tys x w' rv (va_A w sz)) (gXC D tys x w (va_A w sz)) mc ms (va_A w sz)
theorem gPx_blind {D : va_G} {tys : List (ClassId × FieldType)} {av : List Value} {w : va_W} {sz : Nat} : FrameBlind (gPx D tys av w sz) := by
  intro a U g mk q
  obtain ⟨q0, q1, qP, qK, qD, qT⟩ := q
  exact ⟨q0, q1, qP, va_K.moved (u := U) (U := U.calling g mk a) (Vm.Alike.refl U.vm) qK, qD, qT.on (U := U.calling g mk a) va_S.rf (fun _ h => h) (State.WarmedH.refl U)⟩
def gZx (below : List Frame) (D : va_G) (tys : List (ClassId × FieldType)) (x : Option String) (w w' : va_W) (rv : Option Value) (A : Nat → Prop) (args : Array Value) (s : State) (mc ms : Nat) : State → Prop := vx_MQ below (gQx D tys x w' rv A) (gXC D tys x w A) args s mc ms A
theorem Cx.ofW {l : Launch} {D : va_G} {tys : List (ClassId × FieldType)} {y : MethodName} {wsy ws0 : List Cond} {fr lo mc ms : Nat} {av : List Value} {w : va_W} {x : Option String} {rv : Option Value} {w' : va_W} {cc : ByteArray} {maxL : Nat} {ret : Option FieldType}
    (hy : plainName y.cls = true) (hw : wsy = Cond.code y cc maxL ret :: ws0) (hav : (lg_sl av).length ≤ maxL)
    (h : ∀ (p : Program) (e : Env) (s : State) (m : MethodId) (below : List Frame) (meth : Method) (c : Code) (A : Nat → Prop) (ls : Array Slot),
      CallFix p m c cc maxL s av.toArray wsy y.cls → meth.sig.returnType = ret → meth.locks = false → (∀ z ∈ c.exceptionTable.toList, False) → gTh A s s.heap → va_P D vwCl w s.heap → va_D A w → va_S A s.heap s.heap [] → va_K D vwCl tys s → (∀ q, s.heap.size ≤ q → A q) → lv_has ls maxL (lv_args 0 av) →
      W p l e ({ frames := fr, cells := mc, slots := ms, locals := lo } : Room) s m av.toArray below meth c s.heap [] 0 0 (gZx below D tys x w w' rv A av.toArray s mc ms) (F0 m 0 ls [])) : Cx l D tys y wsy fr lo mc ms av w x rv w' := by
  intro sz
  refine vx_ofW (cc := cc) (maxL := maxL) (ret := ret) hy hw ?_
  intro p e s m args below meth c s₁ B hml htab hv
  obtain ⟨rfl, hsz, hP, hK, hD0, hTh⟩ := hv
  have hts := atoms_spec (ws := wsy) B.pre
  have hown : s.vm.findClass y.cls = some m.cls := findClass_of_methodNamed B.named
  subst hsz
  have hD := hD0.self (sz := s.heap.size)
  have hl := lv_entry av (n := maxL) hav
  rw [lg_entry_eq]
  exact h p e s m below meth c (va_A w s.heap.size) _ ⟨B.exec, B.bytes, hml, hown, hts⟩ B.returns B.notSynchronized htab hTh hP hD va_S.rf hK (fun q hq => Or.inr hq) hl
section GX
variable {p : Program} {l : Launch} {e : Env} {R : Room} {s : State} {m : MethodId} {args : Array Value} {below : List Frame} {meth : Method} {c : Code} {H : Heap} {locs : List Loc} {cells slots : Nat} {Q : State → Prop}
variable {cc : ByteArray} {pc nL : Nat} {Ts : List Cond} {own : String} {ls : Array Slot} {rest st0 : List Value} {D : va_G} {A : Nat → Prop} {a : Nat} {tys : List (ClassId × FieldType)} {ws ws' : va_W} {H0 : Heap}
variable {rv : Option Value} {w0 w' : va_W} {mc ms mcC msC : Nat} {x : Option String}
theorem gx_iret (S : CallFix p m c cc nL s args Ts own) (hr : meth.sig.returnType = some .int) (hlocks : meth.locks = false) (hK : va_K D vwCl tys s) (hP : va_P D vwCl ws H) (hD : va_D A ws) (hS : va_S A s.heap H locs) {v : Int32} (hxn : x = none) (hv : some (Value.int v) = rv) (hw : ws = w') (hdg : decode cc pc = .ok (.ireturn, 1)) (hc : cells ≤ mc) (hs : slots ≤ ms) :
    W p l e R s m args below meth c H locs cells slots (gZx below D tys x w0 w' rv A args s mc ms) (F0 m pc ls [.int v]) := by
  subst hw; subst hv
  refine vx_ret (W.widen hc hs ?_)
  exact W.iret S.1 S.2.1 hr (fun t ht hW => ⟨hxn, ⟨rfl, by rw [ht]; exact hP, va_K.moved hW.alike hK, hD⟩, hS.F ht⟩) hS.2.2 hdg hlocks
theorem gx_vret (S : CallFix p m c cc nL s args Ts own) (hr : meth.sig.returnType = none) (hlocks : meth.locks = false) (hK : va_K D vwCl tys s) (hP : va_P D vwCl ws H) (hD : va_D A ws) (hS : va_S A s.heap H locs) (hxn : x = none) (hv : none = rv) (hw : ws = w') (hdg : decode cc pc = .ok (.return_, 1)) (hc : cells ≤ mc) (hs : slots ≤ ms) :
    W p l e R s m args below meth c H locs cells slots (gZx below D tys x w0 w' rv A args s mc ms) (F0 m pc ls []) := by
  subst hw; subst hv
  refine vx_ret (W.widen hc hs ?_)
  exact W.vret S.1 S.2.1 hr (fun t ht hW => ⟨hxn, ⟨rfl, by rw [ht]; exact hP, va_K.moved hW.alike hK, hD⟩, hS.F ht⟩) hS.2.2 hdg hlocks
theorem gx_lret (S : CallFix p m c cc nL s args Ts own) (hr : meth.sig.returnType = some .long) (hlocks : meth.locks = false) (hK : va_K D vwCl tys s) (hP : va_P D vwCl ws H) (hD : va_D A ws) (hS : va_S A s.heap H locs) {v : Int64} (hxn : x = none) (hv : some (Value.long v) = rv) (hw : ws = w') (hdg : decode cc pc = .ok (.lreturn, 1)) (hc : cells ≤ mc) (hs : slots ≤ ms) :
    W p l e R s m args below meth c H locs cells slots (gZx below D tys x w0 w' rv A args s mc ms) (F0 m pc ls [.long v]) := by
  subst hw; subst hv
  refine vx_ret (W.widen hc hs ?_)
  exact W.lret S.1 S.2.1 hr (fun t ht hW => ⟨hxn, ⟨rfl, by rw [ht]; exact hP, va_K.moved hW.alike hK, hD⟩, hS.F ht⟩) hS.2.2 hdg hlocks
/-- throw new E("text") -/
theorem gx_throw (S : CallFix p m c cc nL s args Ts own) (hl0 : l.stackTraces = false) {cls text : String} {ik is ic : Nat} (hTh : gTh A s s.heap) (hlocks : meth.locks = false) (htab : ∀ z ∈ c.exceptionTable.toList, False) (hK : va_K D vwCl tys s) (hP : va_P D vwCl ws H) (hD : va_D A ws) (hS : va_S A s.heap H locs) (hsz : ls.size = nL) (i1 i2 : Nat)
    (h1 : Ts[i1]? = some (Cond.classLink own ik cls)) (h2 : Ts[i2]? = some (Cond.initialized cls)) (hstr : ∃ sa, vk_R own is text sa s)
    (hcls : Bundle.fit cls = true) (hat : ∀ w ∈ (vx_atS own ic cls ["java/lang/RuntimeException", "java/lang/Exception"]).filter goodWord, w ∈ Ts) (hcast : va_Nw (.castable cls cls) s) (hat2 : (vx_atS own ic cls ["java/lang/RuntimeException", "java/lang/Exception"]).filter (fun w => !goodWord w) = [.declares (Bundle.initS "java/lang/RuntimeException"), .declares (Bundle.initS "java/lang/Exception"), .declares (Bundle.initS Bundle.tN), .castable cls cls])
    (hgood : (Cond.classLink own ik cls :: Cond.initialized cls :: vx_atS own ic cls ["java/lang/RuntimeException", "java/lang/Exception"]).all vx_ot = true)
    (d0 : decode cc pc = .ok (.new ik, 3)) (d3 : decode cc (pc + 3) = .ok (.dup, 1)) (d4 : decode cc (pc + 4) = .ok (.ldc is, 2)) (d6 : decode cc (pc + 6) = .ok (.invokespecial ic, 3)) (d9 : decode cc (pc + 9) = .ok (.athrow, 1))
    (hR : 5 < R.frames ∧ (rest.map fun v => v.category).sum + 82 ≤ R.locals ∧ cells + 1 ≤ R.cells ∧ slots + 6 ≤ R.slots) (hxs : x = some cls) (hw : ws = w0) (hcm : cells + 1 ≤ mc ∧ slots + 6 ≤ ms) :
    W p l e R s m args below meth c H locs cells slots (gZx below D tys x w0 w' rv A args s mc ms) (F0 m pc ls rest) := by
  subst hw
  obtain ⟨sa, hstr⟩ := hstr
  refine vx_throwS (names := ["java/lang/RuntimeException", "java/lang/Exception"]) (A := A) S.1 S.2.1 hl0 S.2.2.2.1 hcls (by decide +kernel) (S.2.2.2.2 _ (List.mem_of_getElem? h1)) (S.2.2.2.2 _ (List.mem_of_getElem? h2)) hstr ?_ (List.all_eq_true.mp hgood) hTh.1 hTh.2.1 hS (hsz.trans S.2.2.1.symm) d0 d3 d4 d6 d9 (fun z hz => (htab z hz).elim) hR.1 hR.2.1 hR.2.2.1 hR.2.2.2 hlocks ?_ hS.2.2 hcm.1 hcm.2
  · refine vx_hat (B := [.declares (Bundle.initS "java/lang/RuntimeException"), .declares (Bundle.initS "java/lang/Exception"), .declares (Bundle.initS Bundle.tN), .castable cls cls]) (fun w hw => S.2.2.2.2 _ (hat w hw)) (fun w hw => ?_) (vx_c (va_Nw.use rfl hTh.2.2.2.1.1) (vx_c (va_Nw.use rfl hTh.2.2.2.1.2.1) (vx_c (va_Nw.use rfl hTh.2.2.2.1.2.2) (vx_c (va_Nw.use rfl hcast) vx_n))))
    rw [hat2] at hw
    exact hw
  · intro t hA hz hk
    refine ⟨hxs, hP.kept (fun k q hq => hk q.1 (hP k q hq).lt), va_K.moved hA hK, hD, ⟨Nat.le_trans hS.1 hz, fun q h3 h4 => ?_⟩⟩
    rw [hk q (Nat.lt_of_lt_of_le h3 hS.1)]
    exact hS.2.1 q h3 h4
/-- a call of a method that may throw, by its run -/
theorem gx_run0 {tysC : List (ClassId × FieldType)} {av : Array Value} {w : va_W} (hr : vx_Run p l e R s m args below meth c H locs cells slots mcC msC (F0 m pc ls st0) rest (gQx D tysC x w' rv (va_A w H.size) av) (gXC D tysC x w (va_A w H.size)) (va_A w H.size)) (hDw : va_D A w) (hS : va_S A H0 H locs) (hA : ∀ q, H0.size ≤ q → A q)
    (kx : ∀ (E : String) (ce : Cell) (q9 : Addr) (H1 : Heap) (locs1 : List Loc), x = some E → va_P D vwCl w H1 → va_D (va_A w H.size) w → (∀ q : Nat, q < H.size → ¬ va_A w H.size q → H1[q]? = H[q]?) → (∀ q, va_A w H.size q → A q) → va_S A H0 H1 locs1 → H1[q9]? = some ce → ce.vm = .none → s.vm.findClass E = some ce.cls → vx_W p l e R s m args below meth c H1 locs1 (cells + mcC) (slots + msC) Q (F0 m pc ls rest) q9)
    (kk : ∀ (H1 : Heap) (locs1 : List Loc), x = none → va_P D vwCl w' H1 → va_D (va_A w H.size) w' → (∀ q : Nat, q < H.size → ¬ va_A w H.size q → H1[q]? = H[q]?) → (∀ q, va_A w H.size q → A q) → va_S A H0 H1 locs1 → W p l e R s m args below meth c H1 locs1 (cells + mcC) (slots + msC) Q (F0 m (pc + 3) ls (rv.toList ++ rest))) : W p l e R s m args below meth c H locs cells slots Q (F0 m pc ls st0) := by
  have hF : ∀ q, va_A w H.size q → A q := by
    rintro q (⟨k, e9, h⟩ | h)
    · exact hDw.2 k (q, e9) h
    · exact hA q (Nat.le_trans hS.1 h)
  intro T hT X
  rcases hr T hT X with ⟨v, st₀, t, T', L, h0, X', hL, e1, e2, ⟨hxn, ⟨hv, hP', hK', hD'⟩, hz, hk⟩, st⟩ | ⟨q, st₀, t, T', L, E, ce, h0, X', hL, e1, e2, ⟨hxs, hP', hK', hD', hz, hk⟩, hce, hcv, hcl, st⟩
  · cases hv
    rw [h0] at hz hk
    obtain ⟨t2, a1, b1⟩ := kk T'.heap (locs ++ L) hxn (by rw [e1]; exact hP') hD' (fun q h1 h2 => by rw [e1]; exact hk q h1 h2) hF
      ⟨Nat.le_trans hS.1 (by rw [e1]; exact hz), fun q h1 h2 => by rw [e1, hk q (Nat.lt_of_lt_of_le h1 hS.1) (fun z => h2 (hF q z))]; exact hS.2.1 q h1 h2, fun q hq => by
        rcases List.mem_append.mp hq with h | h
        · exact hS.2.2 q h
        · exact hF _ (hL q h)⟩ T' rfl X'
    exact ⟨t2, st t2 a1, b1⟩
  · rw [h0] at hz hk
    obtain ⟨t2, a1, b1⟩ := kx E ce q T'.heap (locs ++ L) hxs (by rw [e1]; exact hP') hD' (fun q h1 h2 => by rw [e1]; exact hk q h1 h2) hF
      ⟨Nat.le_trans hS.1 (by rw [e1]; exact hz), fun q h1 h2 => by rw [e1, hk q (Nat.lt_of_lt_of_le h1 hS.1) (fun z => h2 (hF q z))]; exact hS.2.1 q h1 h2, fun q hq => by
        rcases List.mem_append.mp hq with h | h
        · exact hS.2.2 q h
        · exact hF _ (hL q h)⟩ (by rw [e1]; exact hce) hcv hcl T' rfl X'
    exact ⟨t2, st.trans a1, b1⟩
/-- .. an invokevirtual; the callee's world is the caller's; what it throws goes through -/
theorem gx_callV {tysC : List (ClassId × FieldType)} {xC : Option String} {rvC : Option Value} {wC' : va_W} (S : CallFix p m c cc nL s args Ts own) (q0 ci n : Nat) {fr lo : Nat} {y : MethodName} {wsy : List Cond} {b : Nat} {As : List Value} {C : String} {index maxL : Nat} {bytes : ByteArray} {ret : Option FieldType} {T : u_T} {N : Nat} {fs : List Value} {ws0 : List Cond}
    (hM : Cx l D tysC y wsy fr lo mcC msC (.ref b :: As) ws xC rvC wC') (hG : GoodIn Ts (wsV own index C y wsy)) (hdg : decode cc pc = .ok (.invokevirtual index, 3)) (hTh : gTh A s s.heap) (hlocks : meth.locks = false) (htab : ∀ z ∈ c.exceptionTable.toList, False) (hK : va_K D vwCl tysC s) (hP : va_P D vwCl ws H) (hD : va_D A ws) (hS : va_S A s.heap H locs) (hA : ∀ q, s.heap.size ≤ q → A q) (hlL : ls.size = nL)
    (hwy : wsy = Cond.code y bytes maxL ret :: ws0) (hd : y.cls = C ∧ y.cls ≠ "java/lang/invoke/MethodHandle" ∧ y.cls ≠ "java/lang/invoke/VarHandle" ∧ (parseMethodDescriptor y.desc).map (fun d => d.parameters.length) = some n) (hR : fr + 1 ≤ R.frames ∧ 8 + (maxL + 11) + lo ≤ R.locals) (hroom : cells + mcC ≤ R.cells ∧ slots + msC ≤ R.slots)
    (he : ws[q0]? = some (b, .inr (ci, fs))) (hc : vwCl[ci]? = some (C, T, N)) (hn : As.length = n) (hst : st0 = As.reverse ++ .ref b :: rest) (hcat : (rest.map fun v => v.category).sum ≤ 8)
    (hcm : cells + mcC ≤ mc ∧ slots + msC ≤ ms) (hthr : ∀ E, xC = some E → x = some E ∧ ws = w0)
    (kk : xC = none → ∀ (H1 : Heap) (locs1 : List Loc), va_P D vwCl wC' H1 → va_D A wC' → va_S A s.heap H1 locs1 → W p l e R s m args below meth c H1 locs1 (cells + mcC) (slots + msC) (gZx below D tysC x w0 w' rv A args s mc ms) (F0 m (pc + 3) ls (rvC.toList ++ rest))) : W p l e R s m args below meth c H locs cells slots (gZx below D tysC x w0 w' rv A args s mc ms) (F0 m pc ls st0) := by
  have hF : ∀ q, va_A ws H.size q → A q := by
    rintro q (⟨k, e9, h⟩ | h)
    · exact hD.2 k (q, e9) h
    · exact hA q (Nat.le_trans hS.1 h)
  refine gx_run0 (w := ws) (vx_runV (C := C) (As := As) (rest := rest) S (hM H.size) (cwV n S.2.2.2.2 hG hwy rfl rfl hd hR) ⟨gPx_blind, va_recv hK hP hc he, fun U hU hW => ⟨rfl, by rw [hU], by rw [hU]; exact hP, va_K.moved hW.alike hK, hD.weaken (fun _ _ _ _ => trivial), by rw [hU]; exact hTh.on hS hF hW⟩⟩ rfl hn hlL hst (lv_room hcat) hdg hroom) hD hS hA (fun E ce q9 H1 locs1 g0 g1 g2 g3 g4 g5 g6 g7 g8 => ?_) (fun H1 locs1 g0 g1 g2 _ g4 g5 => kk g0 H1 locs1 g1 (g2.weaken (fun _ q _ h => g4 q.1 h)) g5)
  obtain ⟨hx1, rfl⟩ := hthr E g0
  exact vx_out (fun z hz => (htab z hz).elim) hlocks g6 g7 g8 (fun t ht hAl => ⟨hx1, by rw [ht]; exact g1, va_K.moved hAl hK, g2.weaken (fun _ q _ h => g4 q.1 h), g5.F ht⟩) g5.2.2 hcm.1 hcm.2
/-- .. a static one without a world -/
theorem gx_callS {tysC : List (ClassId × FieldType)} {xC : Option String} {rvC : Option Value} (S : CallFix p m c cc nL s args Ts own) (n : Nat) {fr lo : Nat} {y : MethodName} {wsy : List Cond} {As : List Value} {index maxL : Nat} {bytes : ByteArray} {ret : Option FieldType} {ws0 : List Cond}
    (hM : Cx l D [] y wsy fr lo mcC msC As [] xC rvC []) (hG : GoodIn Ts (va_wsS own index y wsy)) (hdg : decode cc pc = .ok (.invokestatic index, 3)) (hTh : gTh A s s.heap) (hlocks : meth.locks = false) (htab : ∀ z ∈ c.exceptionTable.toList, False) (hK : va_K D vwCl tysC s) (hP : va_P D vwCl ws H) (hD : va_D A ws) (hS : va_S A s.heap H locs) (hA : ∀ q, s.heap.size ≤ q → A q) (hlL : ls.size = nL)
    (hwy : wsy = Cond.code y bytes maxL ret :: ws0) (hd : y.cls ≠ "java/lang/invoke/MethodHandle" ∧ y.cls ≠ "java/lang/invoke/VarHandle" ∧ (parseMethodDescriptor y.desc).map (fun d => d.parameters.length) = some n) (hR : fr + 1 ≤ R.frames ∧ 8 + (maxL + 11) + lo ≤ R.locals) (hroom : cells + mcC ≤ R.cells ∧ slots + msC ≤ R.slots)
    (hn : As.length = n) (hst : st0 = As.reverse ++ rest) (hcat : (rest.map fun v => v.category).sum ≤ 8)
    (hcm : cells + mcC ≤ mc ∧ slots + msC ≤ ms) (hthr : ∀ E, xC = some E → x = some E ∧ ws = w0)
    (kk : xC = none → ∀ (H1 : Heap) (locs1 : List Loc), va_P D vwCl ws H1 → va_D A ws → va_S A s.heap H1 locs1 → W p l e R s m args below meth c H1 locs1 (cells + mcC) (slots + msC) (gZx below D tysC x w0 w' rv A args s mc ms) (F0 m (pc + 3) ls (rvC.toList ++ rest))) : W p l e R s m args below meth c H locs cells slots (gZx below D tysC x w0 w' rv A args s mc ms) (F0 m pc ls st0) := by
  have hPw : va_P D vwCl ([] : va_W) H := gt_Pm.mpr fun q hq => nomatch hq
  have hDw : va_D A ([] : va_W) := gt_Dm.mpr ⟨List.nodup_nil, fun q hq => nomatch hq⟩
  have hKc : va_K D vwCl [] s := ⟨hK.1, fun k z hz => by cases hz⟩
  have hF : ∀ q, va_A ([] : va_W) H.size q → A q := by
    rintro q (⟨k, e9, h⟩ | h)
    · cases h
    · exact hA q (Nat.le_trans hS.1 h)
  refine gx_run0 (w := ([] : va_W)) (vx_runS (As := As) (rest := rest) S (hM H.size) (va_cwS n S.2.2.2.2 hG hwy rfl rfl hd hR) ⟨gPx_blind, fun U hU hW => ⟨rfl, by rw [hU], by rw [hU]; exact hPw, va_K.moved hW.alike hKc, hDw.weaken (fun _ _ _ _ => trivial), by rw [hU]; exact hTh.on hS hF hW⟩⟩ rfl hn hlL hst (lv_room hcat) hdg hroom) hDw hS hA (fun E ce q9 H1 locs1 g0 g1 g2 g3 g4 g5 g6 g7 g8 => ?_) (fun H1 locs1 g0 g1 g2 g3 g4 g5 => ?_)
  · obtain ⟨hx1, rfl⟩ := hthr E g0
    obtain ⟨j1, j2⟩ := gt_swap (wa := []) (w := []) (wb := ws) (w' := []) hP hD g3 g4 g1 g2
    exact vx_out (fun z hz => (htab z hz).elim) hlocks g6 g7 g8 (fun t ht hAl => ⟨hx1, by rw [ht]; exact j1, va_K.moved hAl hK, j2, g5.F ht⟩) g5.2.2 hcm.1 hcm.2
  · obtain ⟨j1, j2⟩ := gt_swap (wa := []) (w := []) (wb := ws) (w' := []) hP hD g3 g4 g1 g2
    exact kk g0 H1 locs1 j1 j2 g5
end GX
theorem gxb_IA : (vx_atS RX1 27 gxIA gxNm).filter (fun w => !goodWord w) = [.declares (Bundle.initS "java/lang/RuntimeException"), .declares (Bundle.initS "java/lang/Exception"), .declares (Bundle.initS Bundle.tN), .castable gxIA gxIA] := by decide +kernel
theorem gxb_IS : (vx_atS RX1 38 gxIS gxNm).filter (fun w => !goodWord w) = [.declares (Bundle.initS "java/lang/RuntimeException"), .declares (Bundle.initS "java/lang/Exception"), .declares (Bundle.initS Bundle.tN), .castable gxIS gxIS] := by decide +kernel
theorem gxb_IO : (vx_atS RX1 220 gxIO gxNm).filter (fun w => !goodWord w) = [.declares (Bundle.initS "java/lang/RuntimeException"), .declares (Bundle.initS "java/lang/Exception"), .declares (Bundle.initS Bundle.tN), .castable gxIO gxIO] := by decide +kernel
theorem gxg_IA : (Cond.classLink RX1 23 gxIA :: Cond.initialized gxIA :: vx_atS RX1 27 gxIA gxNm).all vx_ot = true := by decide +kernel
theorem gxg_IS : (Cond.classLink RX1 34 gxIS :: Cond.initialized gxIS :: vx_atS RX1 38 gxIS gxNm).all vx_ot = true := by decide +kernel
theorem gxg_IO : (Cond.classLink RX1 216 gxIO :: Cond.initialized gxIO :: vx_atS RX1 220 gxIO gxNm).all vx_ot = true := by decide +kernel
end
