section
-- ===== PART A: goes FIRST, ahead of the names: the tables' words, and 'selects' of the private methods out of them =====
/-- a private method of a class that the tables say can be made, by its rows of tables_1 -/
def lw_okq (q : MethodName × Nat) : Prop := (q.1.cls ≠ "java/lang/invoke/MethodHandle" ∧ q.1.cls ≠ "java/lang/invoke/VarHandle") ∧ Cond.instantiable q.1.cls q.2 ∈ tables_1 ∧ Cond.privateMethod q.1 ∈ tables_1 ∧ Cond.instanceMethod q.1 ∈ tables_1
theorem lw_p0 : lw_okq (⟨"HeldShelves$Plan", "deeperBy", "(I)I"⟩, 2) := ⟨⟨by decide +kernel, by decide +kernel⟩, List.mem_of_getElem? (i := 18) (by decide +kernel), List.mem_of_getElem? (i := 161) (by decide +kernel), List.mem_of_getElem? (i := 162) (by decide +kernel)⟩
theorem lw_p1 : lw_okq (⟨"HeldShelves$Plan", "digitsOf", "(I)I"⟩, 2) := ⟨⟨by decide +kernel, by decide +kernel⟩, List.mem_of_getElem? (i := 18) (by decide +kernel), List.mem_of_getElem? (i := 169) (by decide +kernel), List.mem_of_getElem? (i := 170) (by decide +kernel)⟩
theorem lw_p2 : lw_okq (⟨"HeldShelves", "doActs", "(I)I"⟩, 7) := ⟨⟨by decide +kernel, by decide +kernel⟩, List.mem_of_getElem? (i := 9) (by decide +kernel), List.mem_of_getElem? (i := 201) (by decide +kernel), List.mem_of_getElem? (i := 202) (by decide +kernel)⟩
theorem lw_p3 : lw_okq (⟨"HeldShelves", "leaveCall", "()V"⟩, 7) := ⟨⟨by decide +kernel, by decide +kernel⟩, List.mem_of_getElem? (i := 9) (by decide +kernel), List.mem_of_getElem? (i := 209) (by decide +kernel), List.mem_of_getElem? (i := 210) (by decide +kernel)⟩
theorem lw_p4 : lw_okq (⟨"HeldShelves", "stop", "()I"⟩, 7) := ⟨⟨by decide +kernel, by decide +kernel⟩, List.mem_of_getElem? (i := 9) (by decide +kernel), List.mem_of_getElem? (i := 229) (by decide +kernel), List.mem_of_getElem? (i := 230) (by decide +kernel)⟩
theorem lw_p5 : lw_okq (⟨"HeldShelves", "leaveOpen", "(I)Z"⟩, 7) := ⟨⟨by decide +kernel, by decide +kernel⟩, List.mem_of_getElem? (i := 9) (by decide +kernel), List.mem_of_getElem? (i := 234) (by decide +kernel), List.mem_of_getElem? (i := 235) (by decide +kernel)⟩
theorem lw_p6 : lw_okq (⟨"HeldShelves", "leaveHold", "()V"⟩, 7) := ⟨⟨by decide +kernel, by decide +kernel⟩, List.mem_of_getElem? (i := 9) (by decide +kernel), List.mem_of_getElem? (i := 246) (by decide +kernel), List.mem_of_getElem? (i := 247) (by decide +kernel)⟩
theorem lw_p7 : lw_okq (⟨"HeldShelves", "endBlock", "()I"⟩, 7) := ⟨⟨by decide +kernel, by decide +kernel⟩, List.mem_of_getElem? (i := 9) (by decide +kernel), List.mem_of_getElem? (i := 254) (by decide +kernel), List.mem_of_getElem? (i := 255) (by decide +kernel)⟩
theorem lw_p8 : lw_okq (⟨"HeldShelves", "leaveGuard", "(I)Z"⟩, 7) := ⟨⟨by decide +kernel, by decide +kernel⟩, List.mem_of_getElem? (i := 9) (by decide +kernel), List.mem_of_getElem? (i := 266) (by decide +kernel), List.mem_of_getElem? (i := 267) (by decide +kernel)⟩
theorem lw_p9 : lw_okq (⟨"HeldShelves", "doStep", "()Z"⟩, 7) := ⟨⟨by decide +kernel, by decide +kernel⟩, List.mem_of_getElem? (i := 9) (by decide +kernel), List.mem_of_getElem? (i := 274) (by decide +kernel), List.mem_of_getElem? (i := 275) (by decide +kernel)⟩
theorem lw_p10 : lw_okq (⟨"HeldShelves", "doAct", "(LHeldShelves$Plan;I)I"⟩, 7) := ⟨⟨by decide +kernel, by decide +kernel⟩, List.mem_of_getElem? (i := 9) (by decide +kernel), List.mem_of_getElem? (i := 282) (by decide +kernel), List.mem_of_getElem? (i := 283) (by decide +kernel)⟩
theorem lw_p11 : lw_okq (⟨"HeldShelves", "hold", "(I)I"⟩, 7) := ⟨⟨by decide +kernel, by decide +kernel⟩, List.mem_of_getElem? (i := 9) (by decide +kernel), List.mem_of_getElem? (i := 295) (by decide +kernel), List.mem_of_getElem? (i := 296) (by decide +kernel)⟩
theorem lw_p12 : lw_okq (⟨"HeldShelves$Stock", "missingOrLoose", "(I)I"⟩, 4) := ⟨⟨by decide +kernel, by decide +kernel⟩, List.mem_of_getElem? (i := 32) (by decide +kernel), List.mem_of_getElem? (i := 326) (by decide +kernel), List.mem_of_getElem? (i := 327) (by decide +kernel)⟩
theorem lw_p13 : lw_okq (⟨"HeldShelves", "call", "(I)I"⟩, 7) := ⟨⟨by decide +kernel, by decide +kernel⟩, List.mem_of_getElem? (i := 9) (by decide +kernel), List.mem_of_getElem? (i := 347) (by decide +kernel), List.mem_of_getElem? (i := 348) (by decide +kernel)⟩
theorem lw_p14 : lw_okq (⟨"HeldShelvesModel", "isClosed", "(I)Z"⟩, 21) := ⟨⟨by decide +kernel, by decide +kernel⟩, List.mem_of_getElem? (i := 417) (by decide +kernel), List.mem_of_getElem? (i := 512) (by decide +kernel), List.mem_of_getElem? (i := 513) (by decide +kernel)⟩
theorem lw_p15 : lw_okq (⟨"HeldShelvesModel", "ends", "(III)I"⟩, 21) := ⟨⟨by decide +kernel, by decide +kernel⟩, List.mem_of_getElem? (i := 417) (by decide +kernel), List.mem_of_getElem? (i := 524) (by decide +kernel), List.mem_of_getElem? (i := 525) (by decide +kernel)⟩
def lw_privs_1 : List (MethodName × Nat) := [(⟨"HeldShelves$Plan", "deeperBy", "(I)I"⟩, 2), (⟨"HeldShelves$Plan", "digitsOf", "(I)I"⟩, 2), (⟨"HeldShelves", "doActs", "(I)I"⟩, 7), (⟨"HeldShelves", "leaveCall", "()V"⟩, 7), (⟨"HeldShelves", "stop", "()I"⟩, 7), (⟨"HeldShelves", "leaveOpen", "(I)Z"⟩, 7), (⟨"HeldShelves", "leaveHold", "()V"⟩, 7), (⟨"HeldShelves", "endBlock", "()I"⟩, 7), (⟨"HeldShelves", "leaveGuard", "(I)Z"⟩, 7), (⟨"HeldShelves", "doStep", "()Z"⟩, 7), (⟨"HeldShelves", "doAct", "(LHeldShelves$Plan;I)I"⟩, 7), (⟨"HeldShelves", "hold", "(I)I"⟩, 7), (⟨"HeldShelves$Stock", "missingOrLoose", "(I)I"⟩, 4), (⟨"HeldShelves", "call", "(I)I"⟩, 7), (⟨"HeldShelvesModel", "isClosed", "(I)Z"⟩, 21), (⟨"HeldShelvesModel", "ends", "(III)I"⟩, 21)]
theorem lw_r1 : ∀ q ∈ lw_privs_1, lw_okq q := List.forall_mem_cons.mpr ⟨lw_p0, List.forall_mem_cons.mpr ⟨lw_p1, List.forall_mem_cons.mpr ⟨lw_p2, List.forall_mem_cons.mpr ⟨lw_p3, List.forall_mem_cons.mpr ⟨lw_p4, List.forall_mem_cons.mpr ⟨lw_p5, List.forall_mem_cons.mpr ⟨lw_p6, List.forall_mem_cons.mpr ⟨lw_p7, List.forall_mem_cons.mpr ⟨lw_p8, List.forall_mem_cons.mpr ⟨lw_p9, List.forall_mem_cons.mpr ⟨lw_p10, List.forall_mem_cons.mpr ⟨lw_p11, List.forall_mem_cons.mpr ⟨lw_p12, List.forall_mem_cons.mpr ⟨lw_p13, List.forall_mem_cons.mpr ⟨lw_p14, List.forall_mem_cons.mpr ⟨lw_p15, fun _ h => absurd h List.not_mem_nil⟩⟩⟩⟩⟩⟩⟩⟩⟩⟩⟩⟩⟩⟩⟩⟩
theorem lw_p16 : lw_okq (⟨"HeldShelvesModel", "closes", "(Z)V"⟩, 21) := ⟨⟨by decide +kernel, by decide +kernel⟩, List.mem_of_getElem? (i := 417) (by decide +kernel), List.mem_of_getElem? (i := 528) (by decide +kernel), List.mem_of_getElem? (i := 529) (by decide +kernel)⟩
theorem lw_p17 : lw_okq (⟨"HeldShelvesModel", "does", "(II)I"⟩, 21) := ⟨⟨by decide +kernel, by decide +kernel⟩, List.mem_of_getElem? (i := 417) (by decide +kernel), List.mem_of_getElem? (i := 532) (by decide +kernel), List.mem_of_getElem? (i := 533) (by decide +kernel)⟩
theorem lw_p18 : lw_okq (⟨"HeldShelvesModel", "hold", "(II)I"⟩, 21) := ⟨⟨by decide +kernel, by decide +kernel⟩, List.mem_of_getElem? (i := 417) (by decide +kernel), List.mem_of_getElem? (i := 536) (by decide +kernel), List.mem_of_getElem? (i := 537) (by decide +kernel)⟩
theorem lw_p19 : lw_okq (⟨"HeldShelvesModel", "wrongShelf", "(I)I"⟩, 21) := ⟨⟨by decide +kernel, by decide +kernel⟩, List.mem_of_getElem? (i := 417) (by decide +kernel), List.mem_of_getElem? (i := 540) (by decide +kernel), List.mem_of_getElem? (i := 541) (by decide +kernel)⟩
theorem lw_p20 : lw_okq (⟨"HeldShelvesModel", "begins", "(II)V"⟩, 21) := ⟨⟨by decide +kernel, by decide +kernel⟩, List.mem_of_getElem? (i := 417) (by decide +kernel), List.mem_of_getElem? (i := 544) (by decide +kernel), List.mem_of_getElem? (i := 545) (by decide +kernel)⟩
theorem lw_p21 : lw_okq (⟨"HeldShelvesModel", "change", "(III)I"⟩, 21) := ⟨⟨by decide +kernel, by decide +kernel⟩, List.mem_of_getElem? (i := 417) (by decide +kernel), List.mem_of_getElem? (i := 548) (by decide +kernel), List.mem_of_getElem? (i := 549) (by decide +kernel)⟩
theorem lw_p22 : lw_okq (⟨"HeldShelvesModel", "move", "(III)I"⟩, 21) := ⟨⟨by decide +kernel, by decide +kernel⟩, List.mem_of_getElem? (i := 417) (by decide +kernel), List.mem_of_getElem? (i := 552) (by decide +kernel), List.mem_of_getElem? (i := 553) (by decide +kernel)⟩
theorem lw_p23 : lw_okq (⟨"HeldShelvesModel", "call", "(I)I"⟩, 21) := ⟨⟨by decide +kernel, by decide +kernel⟩, List.mem_of_getElem? (i := 417) (by decide +kernel), List.mem_of_getElem? (i := 556) (by decide +kernel), List.mem_of_getElem? (i := 557) (by decide +kernel)⟩
theorem lw_p24 : lw_okq (⟨"HeldShelvesModel", "isCaught", "(I)Z"⟩, 21) := ⟨⟨by decide +kernel, by decide +kernel⟩, List.mem_of_getElem? (i := 417) (by decide +kernel), List.mem_of_getElem? (i := 560) (by decide +kernel), List.mem_of_getElem? (i := 561) (by decide +kernel)⟩
theorem lw_p25 : lw_okq (⟨"HeldShelvesModel", "behind", "(II)I"⟩, 21) := ⟨⟨by decide +kernel, by decide +kernel⟩, List.mem_of_getElem? (i := 417) (by decide +kernel), List.mem_of_getElem? (i := 564) (by decide +kernel), List.mem_of_getElem? (i := 565) (by decide +kernel)⟩
def lw_privs_2 : List (MethodName × Nat) := [(⟨"HeldShelvesModel", "closes", "(Z)V"⟩, 21), (⟨"HeldShelvesModel", "does", "(II)I"⟩, 21), (⟨"HeldShelvesModel", "hold", "(II)I"⟩, 21), (⟨"HeldShelvesModel", "wrongShelf", "(I)I"⟩, 21), (⟨"HeldShelvesModel", "begins", "(II)V"⟩, 21), (⟨"HeldShelvesModel", "change", "(III)I"⟩, 21), (⟨"HeldShelvesModel", "move", "(III)I"⟩, 21), (⟨"HeldShelvesModel", "call", "(I)I"⟩, 21), (⟨"HeldShelvesModel", "isCaught", "(I)Z"⟩, 21), (⟨"HeldShelvesModel", "behind", "(II)I"⟩, 21)]
theorem lw_r2 : ∀ q ∈ lw_privs_2, lw_okq q := List.forall_mem_cons.mpr ⟨lw_p16, List.forall_mem_cons.mpr ⟨lw_p17, List.forall_mem_cons.mpr ⟨lw_p18, List.forall_mem_cons.mpr ⟨lw_p19, List.forall_mem_cons.mpr ⟨lw_p20, List.forall_mem_cons.mpr ⟨lw_p21, List.forall_mem_cons.mpr ⟨lw_p22, List.forall_mem_cons.mpr ⟨lw_p23, List.forall_mem_cons.mpr ⟨lw_p24, List.forall_mem_cons.mpr ⟨lw_p25, fun _ h => absurd h List.not_mem_nil⟩⟩⟩⟩⟩⟩⟩⟩⟩⟩
def lw_privs : List (MethodName × Nat) := lw_privs_1 ++ (lw_privs_2)
def lw_tbl : List Cond := k2_sels lw_privs ++ tables_1
theorem lw_privs_ok : ∀ q ∈ lw_privs, lw_okq q := by
  show ∀ q ∈ lw_privs_1 ++ (lw_privs_2), lw_okq q
  exact List.forall_mem_append.mpr ⟨lw_r1, lw_r2⟩
end
section
/-! ===== BEGIN words of one list among another's, by their places ===== -/
theorem goodIn_r {big : List Cond} (ws : List Cond) (ps : List Nat) (hp : ws = ps.filterMap (fun i => big[i]?)) (h : ws.all goodWord = true) : GoodIn big ws := by
  intro w hw
  have h1 := List.all_eq_true.mp h w hw
  rw [hp] at hw
  obtain ⟨i, -, hi⟩ := List.mem_filterMap.mp hw
  have hm : w ∈ big := by first | exact List.mem_of_getElem? hi | exact List.getElem?_mem hi
  exact ⟨hm, good_of_word h1⟩
theorem goodIn_app {big a b : List Cond} (ha : GoodIn big a) (hb : GoodIn big b) : GoodIn big (a ++ b) := fun w h => (List.mem_append.mp h).elim (ha w) (hb w)
theorem goodIn_ca {big a b : List Cond} {c : Cond} (ha : GoodIn big (c :: a)) (hb : GoodIn big b) : GoodIn big (c :: (a ++ b)) := fun w h => (List.mem_cons.mp h).elim (fun e => ha w (List.mem_cons.mpr (Or.inl e))) (fun h => (List.mem_append.mp h).elim (fun h => ha w (List.mem_cons.mpr (Or.inr h))) (hb w))
theorem goodIn_sub {big ws : List Cond} (hm : ∀ w ∈ ws, w ∈ big) (h : ws.all goodWord = true) : GoodIn big ws := fun w hw => ⟨hm w hw, good_of_word (List.all_eq_true.mp h w hw)⟩
/-! ===== END ===== -/

/-! ===== BEGIN printed: names, fields, word lists, decode rows ===== -/
def RX0 : String := "HeldShelves$OpenRow"
def TX0 : u_T := fun k => match k with
  | 0 => ("HeldShelves$OpenRow", "kinds", "[I", true)
  | 1 => ("HeldShelves$OpenRow", "numbers", "[I", true)
  | 2 => ("HeldShelves$OpenRow", "behinds", "[I", true)
  | _ => ("HeldShelves$OpenRow", "count", "I", false)
def tyX0 : Nat → FieldType := fun k => match k with
  | 0 => .array .int
  | 1 => .array .int
  | 2 => .array .int
  | _ => .int
abbrev wsX00 : List Cond := u_ws RX0 TX0 4
theorem nmX0 : ∀ a, a < 4 → ∀ b, b < 4 → a ≠ b → (TX0 a).2.1 ≠ (TX0 b).2.1 := by decide +kernel
theorem tyX0_ok : ∀ k, k < 4 → parseFieldDescriptor (TX0 k).2.2.1 = some (tyX0 k) := by decide +kernel
abbrev cX0_init : ByteArray := prog_2_method_1_code
def yX0_init : MethodName := ⟨RX0, "<init>", "()V"⟩
abbrev cX0_size : ByteArray := prog_2_method_2_code
def yX0_size : MethodName := ⟨RX0, "size", "()I"⟩
abbrev cX0_push : ByteArray := prog_2_method_3_code
def yX0_push : MethodName := ⟨RX0, "push", "(III)V"⟩
abbrev cX0_pop : ByteArray := prog_2_method_4_code
def yX0_pop : MethodName := ⟨RX0, "pop", "()V"⟩
abbrev cX0_kind : ByteArray := prog_2_method_5_code
def yX0_kind : MethodName := ⟨RX0, "kind", "()I"⟩
abbrev cX0_number : ByteArray := prog_2_method_6_code
def yX0_number : MethodName := ⟨RX0, "number", "()I"⟩
abbrev cX0_behind : ByteArray := prog_2_method_7_code
def yX0_behind : MethodName := ⟨RX0, "behind", "()I"⟩
def RX1 : String := "HeldShelves$Plan"
def TX1 : u_T := fun k => match k with
  | 0 => ("HeldShelves$Plan", "acts", "[I", true)
  | _ => ("HeldShelves$Plan", "count", "I", false)
def tyX1 : Nat → FieldType := fun k => match k with
  | 0 => .array .int
  | _ => .int
abbrev wsX10 : List Cond := u_ws RX1 TX1 2
theorem nmX1 : ∀ a, a < 2 → ∀ b, b < 2 → a ≠ b → (TX1 a).2.1 ≠ (TX1 b).2.1 := by decide +kernel
theorem tyX1_ok : ∀ k, k < 2 → parseFieldDescriptor (TX1 k).2.2.1 = some (tyX1 k) := by decide +kernel
abbrev cX1_init : ByteArray := prog_3_method_1_code
def yX1_init : MethodName := ⟨RX1, "<init>", "()V"⟩
abbrev cX1_size : ByteArray := prog_3_method_2_code
def yX1_size : MethodName := ⟨RX1, "size", "()I"⟩
abbrev cX1_add : ByteArray := prog_3_method_3_code
def yX1_add : MethodName := ⟨RX1, "add", "(IIII)I"⟩
abbrev cX1_empty : ByteArray := prog_3_method_4_code
def yX1_empty : MethodName := ⟨RX1, "empty", "()I"⟩
abbrev cX1_kindOf : ByteArray := prog_3_method_5_code
def yX1_kindOf : MethodName := ⟨RX1, "kindOf", "(I)I"⟩
abbrev cX1_aOf : ByteArray := prog_3_method_6_code
def yX1_aOf : MethodName := ⟨RX1, "aOf", "(I)I"⟩
abbrev cX1_bOf : ByteArray := prog_3_method_7_code
def yX1_bOf : MethodName := ⟨RX1, "bOf", "(I)I"⟩
abbrev cX1_cOf : ByteArray := prog_3_method_8_code
def yX1_cOf : MethodName := ⟨RX1, "cOf", "(I)I"⟩
abbrev cX1_digitsOf : ByteArray := prog_3_method_9_code
def yX1_digitsOf : MethodName := ⟨RX1, "digitsOf", "(I)I"⟩
abbrev cX1_isClosed : ByteArray := prog_3_method_10_code
def yX1_isClosed : MethodName := ⟨RX1, "isClosed", "()Z"⟩
abbrev cX1_behindBlock : ByteArray := prog_3_method_11_code
def yX1_behindBlock : MethodName := ⟨RX1, "behindBlock", "(I)I"⟩
abbrev cX1_deeperBy : ByteArray := prog_3_method_12_code
def yX1_deeperBy : MethodName := ⟨RX1, "deeperBy", "(I)I"⟩
def RX2 : String := "HeldShelves$Report"
def TX2 : u_T := fun k => match k with
  | 0 => ("HeldShelves$Report", "caughtOf", "[I", true)
  | 1 => ("HeldShelves$Report", "caughtInAll", "I", false)
  | 2 => ("HeldShelves$Report", "failure", "I", false)
  | 3 => ("HeldShelves$Report", "plan", "I", false)
  | 4 => ("HeldShelves$Report", "act", "I", false)
  | 5 => ("HeldShelves$Report", "steps", "I", false)
  | 6 => ("HeldShelves$Report", "holds", "I", false)
  | 7 => ("HeldShelves$Report", "holdsOpen", "I", false)
  | 8 => ("HeldShelves$Report", "mostOpen", "I", false)
  | _ => ("HeldShelves$Report", "calls", "I", false)
def tyX2 : Nat → FieldType := fun k => match k with
  | 0 => .array .int
  | 1 => .int
  | 2 => .int
  | 3 => .int
  | 4 => .int
  | 5 => .int
  | 6 => .int
  | 7 => .int
  | 8 => .int
  | _ => .int
abbrev wsX20 : List Cond := u_ws RX2 TX2 10
theorem nmX2 : ∀ a, a < 10 → ∀ b, b < 10 → a ≠ b → (TX2 a).2.1 ≠ (TX2 b).2.1 := by decide +kernel
theorem tyX2_ok : ∀ k, k < 10 → parseFieldDescriptor (TX2 k).2.2.1 = some (tyX2 k) := by decide +kernel
abbrev cX2_init : ByteArray := prog_4_method_1_code
def yX2_init : MethodName := ⟨RX2, "<init>", "()V"⟩
abbrev cX2_reset : ByteArray := prog_4_method_2_code
def yX2_reset : MethodName := ⟨RX2, "reset", "()V"⟩
abbrev cX2_endAt : ByteArray := prog_4_method_3_code
def yX2_endAt : MethodName := ⟨RX2, "endAt", "(III)V"⟩
abbrev cX2_steps : ByteArray := prog_4_method_4_code
def yX2_steps : MethodName := ⟨RX2, "steps", "()I"⟩
abbrev cX2_countStep : ByteArray := prog_4_method_5_code
def yX2_countStep : MethodName := ⟨RX2, "countStep", "()V"⟩
abbrev cX2_countCall : ByteArray := prog_4_method_6_code
def yX2_countCall : MethodName := ⟨RX2, "countCall", "()V"⟩
abbrev cX2_openHold : ByteArray := prog_4_method_7_code
def yX2_openHold : MethodName := ⟨RX2, "openHold", "()V"⟩
abbrev cX2_closeHold : ByteArray := prog_4_method_8_code
def yX2_closeHold : MethodName := ⟨RX2, "closeHold", "()V"⟩
abbrev cX2_countCaught : ByteArray := prog_4_method_9_code
def yX2_countCaught : MethodName := ⟨RX2, "countCaught", "(I)V"⟩
abbrev cX2_timesCaught : ByteArray := prog_4_method_10_code
def yX2_timesCaught : MethodName := ⟨RX2, "timesCaught", "(I)I"⟩
abbrev cX2_number : ByteArray := prog_4_method_11_code
def yX2_number : MethodName := ⟨RX2, "number", "(I)I"⟩
def RX3 : String := "HeldShelves$Stock"
def TX3 : u_T := fun k => match k with
  | 0 => ("HeldShelves$Stock", "goods", "[I", true)
  | 1 => ("HeldShelves$Stock", "left", "[I", true)
  | 2 => ("HeldShelves$Stock", "held", "[I", true)
  | _ => ("HeldShelves$Stock", "rest", "I", false)
def tyX3 : Nat → FieldType := fun k => match k with
  | 0 => .array .int
  | 1 => .array .int
  | 2 => .array .int
  | _ => .int
abbrev wsX30 : List Cond := u_ws RX3 TX3 4
theorem nmX3 : ∀ a, a < 4 → ∀ b, b < 4 → a ≠ b → (TX3 a).2.1 ≠ (TX3 b).2.1 := by decide +kernel
theorem tyX3_ok : ∀ k, k < 4 → parseFieldDescriptor (TX3 k).2.2.1 = some (tyX3 k) := by decide +kernel
abbrev cX3_init : ByteArray := prog_5_method_1_code
def yX3_init : MethodName := ⟨RX3, "<init>", "()V"⟩
abbrev cX3_isThere : ByteArray := prog_5_method_2_code
def yX3_isThere : MethodName := ⟨RX3, "isThere", "(I)Z"⟩
abbrev cX3_goodsOf : ByteArray := prog_5_method_3_code
def yX3_goodsOf : MethodName := ⟨RX3, "goodsOf", "(I)I"⟩
abbrev cX3_leftOf : ByteArray := prog_5_method_4_code
def yX3_leftOf : MethodName := ⟨RX3, "leftOf", "(I)I"⟩
abbrev cX3_replace : ByteArray := prog_5_method_5_code
def yX3_replace : MethodName := ⟨RX3, "replace", "(II)I"⟩
abbrev cX3_firstWith : ByteArray := prog_5_method_6_code
def yX3_firstWith : MethodName := ⟨RX3, "firstWith", "(I)I"⟩
abbrev cX3_rowUpTo : ByteArray := prog_5_method_7_code
def yX3_rowUpTo : MethodName := ⟨RX3, "rowUpTo", "(I)I"⟩
abbrev cX3_giveRest : ByteArray := prog_5_method_8_code
def yX3_giveRest : MethodName := ⟨RX3, "giveRest", "()I"⟩
abbrev cX3_inAll : ByteArray := prog_5_method_9_code
def yX3_inAll : MethodName := ⟨RX3, "inAll", "()I"⟩
abbrev cX3_missing : ByteArray := prog_5_method_10_code
def yX3_missing : MethodName := ⟨RX3, "missing", "(I)I"⟩
abbrev cX3_holdOnce : ByteArray := prog_5_method_11_code
def yX3_holdOnce : MethodName := ⟨RX3, "holdOnce", "(I)V"⟩
abbrev cX3_release : ByteArray := prog_5_method_12_code
def yX3_release : MethodName := ⟨RX3, "release", "(I)V"⟩
abbrev cX3_countLeft : ByteArray := prog_5_method_13_code
def yX3_countLeft : MethodName := ⟨RX3, "countLeft", "(I)V"⟩
abbrev cX3_put : ByteArray := prog_5_method_14_code
def yX3_put : MethodName := ⟨RX3, "put", "(II)I"⟩
abbrev cX3_take : ByteArray := prog_5_method_15_code
def yX3_take : MethodName := ⟨RX3, "take", "(II)I"⟩
abbrev cX3_share : ByteArray := prog_5_method_16_code
def yX3_share : MethodName := ⟨RX3, "share", "(II)I"⟩
abbrev cX3_move : ByteArray := prog_5_method_17_code
def yX3_move : MethodName := ⟨RX3, "move", "(III)I"⟩
abbrev cX3_missingOrLoose : ByteArray := prog_5_method_18_code
def yX3_missingOrLoose : MethodName := ⟨RX3, "missingOrLoose", "(I)I"⟩
def RX4 : String := "HeldShelves"
def TX4 : u_T := fun k => match k with
  | 0 => ("HeldShelves", "plans", "[LHeldShelves$Plan;", true)
  | 1 => ("HeldShelves", "stock", "LHeldShelves$Stock;", true)
  | 2 => ("HeldShelves", "open", "LHeldShelves$OpenRow;", true)
  | 3 => ("HeldShelves", "report", "LHeldShelves$Report;", true)
  | 4 => ("HeldShelves", "planNow", "I", false)
  | 5 => ("HeldShelves", "next", "I", false)
  | _ => ("HeldShelves", "level", "I", false)
def tyX4 : Nat → FieldType := fun k => match k with
  | 0 => .array (.object "HeldShelves$Plan")
  | 1 => .object "HeldShelves$Stock"
  | 2 => .object "HeldShelves$OpenRow"
  | 3 => .object "HeldShelves$Report"
  | 4 => .int
  | 5 => .int
  | _ => .int
abbrev wsX40 : List Cond := u_ws RX4 TX4 7
theorem nmX4 : ∀ a, a < 7 → ∀ b, b < 7 → a ≠ b → (TX4 a).2.1 ≠ (TX4 b).2.1 := by decide +kernel
theorem tyX4_ok : ∀ k, k < 7 → parseFieldDescriptor (TX4 k).2.2.1 = some (tyX4 k) := by decide +kernel
abbrev cX4_init : ByteArray := prog_1_method_1_code
def yX4_init : MethodName := ⟨RX4, "<init>", "()V"⟩
abbrev cX4_act : ByteArray := prog_1_method_2_code
def yX4_act : MethodName := ⟨RX4, "act", "(IIIII)I"⟩
abbrev cX4_clear : ByteArray := prog_1_method_3_code
def yX4_clear : MethodName := ⟨RX4, "clear", "(I)I"⟩
abbrev cX4_closed : ByteArray := prog_1_method_4_code
def yX4_closed : MethodName := ⟨RX4, "closed", "(I)I"⟩
abbrev cX4_shelf : ByteArray := prog_1_method_5_code
def yX4_shelf : MethodName := ⟨RX4, "shelf", "(II)I"⟩
abbrev cX4_run : ByteArray := prog_1_method_6_code
def yX4_run : MethodName := ⟨RX4, "run", "(II)I"⟩
abbrev cX4_told : ByteArray := prog_1_method_7_code
def yX4_told : MethodName := ⟨RX4, "told", "(I)I"⟩
abbrev cX4_caught : ByteArray := prog_1_method_8_code
def yX4_caught : MethodName := ⟨RX4, "caught", "(I)I"⟩
abbrev cX4_about : ByteArray := prog_1_method_9_code
def yX4_about : MethodName := ⟨RX4, "about", "(II)I"⟩
abbrev cX4_first : ByteArray := prog_1_method_10_code
def yX4_first : MethodName := ⟨RX4, "first", "(I)I"⟩
abbrev cX4_row : ByteArray := prog_1_method_11_code
def yX4_row : MethodName := ⟨RX4, "row", "(I)I"⟩
abbrev cX4_rest : ByteArray := prog_1_method_12_code
def yX4_rest : MethodName := ⟨RX4, "rest", "()I"⟩
abbrev cX4_goods : ByteArray := prog_1_method_13_code
def yX4_goods : MethodName := ⟨RX4, "goods", "()I"⟩
abbrev cX4_doActs : ByteArray := prog_1_method_14_code
def yX4_doActs : MethodName := ⟨RX4, "doActs", "(I)I"⟩
abbrev cX4_stop : ByteArray := prog_1_method_15_code
def yX4_stop : MethodName := ⟨RX4, "stop", "()I"⟩
abbrev cX4_doStep : ByteArray := prog_1_method_16_code
def yX4_doStep : MethodName := ⟨RX4, "doStep", "()Z"⟩
abbrev cX4_doAct : ByteArray := prog_1_method_17_code
def yX4_doAct : MethodName := ⟨RX4, "doAct", "(LHeldShelves$Plan;I)I"⟩
abbrev cX4_hold : ByteArray := prog_1_method_18_code
def yX4_hold : MethodName := ⟨RX4, "hold", "(I)I"⟩
abbrev cX4_endBlock : ByteArray := prog_1_method_19_code
def yX4_endBlock : MethodName := ⟨RX4, "endBlock", "()I"⟩
abbrev cX4_call : ByteArray := prog_1_method_20_code
def yX4_call : MethodName := ⟨RX4, "call", "(I)I"⟩
abbrev cX4_leaveCall : ByteArray := prog_1_method_21_code
def yX4_leaveCall : MethodName := ⟨RX4, "leaveCall", "()V"⟩
abbrev cX4_leaveOpen : ByteArray := prog_1_method_22_code
def yX4_leaveOpen : MethodName := ⟨RX4, "leaveOpen", "(I)Z"⟩
abbrev cX4_leaveHold : ByteArray := prog_1_method_23_code
def yX4_leaveHold : MethodName := ⟨RX4, "leaveHold", "()V"⟩
abbrev cX4_leaveGuard : ByteArray := prog_1_method_24_code
def yX4_leaveGuard : MethodName := ⟨RX4, "leaveGuard", "(I)Z"⟩
abbrev cX4_isPlan : ByteArray := prog_1_method_25_code
def yX4_isPlan : MethodName := ⟨RX4, "isPlan", "(I)Z"⟩
abbrev cX4_isShelf : ByteArray := prog_1_method_26_code
def yX4_isShelf : MethodName := ⟨RX4, "isShelf", "(I)Z"⟩
abbrev cX4_isDigit : ByteArray := prog_1_method_27_code
def yX4_isDigit : MethodName := ⟨RX4, "isDigit", "(I)Z"⟩
def RX5 : String := "HeldShelvesModel"
def TX5 : u_T := fun k => match k with
  | 0 => ("HeldShelvesModel", "thrown", "I", false)
  | 1 => ("HeldShelvesModel", "many", "[I", true)
  | 2 => ("HeldShelvesModel", "kinds", "[I", true)
  | 3 => ("HeldShelvesModel", "first", "[I", true)
  | 4 => ("HeldShelvesModel", "second", "[I", true)
  | 5 => ("HeldShelvesModel", "third", "[I", true)
  | 6 => ("HeldShelvesModel", "isThere", "[Z", true)
  | 7 => ("HeldShelvesModel", "goods", "[I", true)
  | 8 => ("HeldShelvesModel", "left", "[I", true)
  | 9 => ("HeldShelvesModel", "held", "[I", true)
  | 10 => ("HeldShelvesModel", "rest", "I", false)
  | 11 => ("HeldShelvesModel", "told", "[I", true)
  | 12 => ("HeldShelvesModel", "caught", "[I", true)
  | 13 => ("HeldShelvesModel", "planAt", "[I", true)
  | 14 => ("HeldShelvesModel", "actAt", "[I", true)
  | 15 => ("HeldShelvesModel", "level", "I", false)
  | 16 => ("HeldShelvesModel", "block", "[I", true)
  | 17 => ("HeldShelvesModel", "blockAct", "[I", true)
  | 18 => ("HeldShelvesModel", "blockLevel", "[I", true)
  | 19 => ("HeldShelvesModel", "blocks", "I", false)
  | _ => ("HeldShelvesModel", "open", "I", false)
def tyX5 : Nat → FieldType := fun k => match k with
  | 0 => .int
  | 1 => .array .int
  | 2 => .array .int
  | 3 => .array .int
  | 4 => .array .int
  | 5 => .array .int
  | 6 => .array .boolean
  | 7 => .array .int
  | 8 => .array .int
  | 9 => .array .int
  | 10 => .int
  | 11 => .array .int
  | 12 => .array .int
  | 13 => .array .int
  | 14 => .array .int
  | 15 => .int
  | 16 => .array .int
  | 17 => .array .int
  | 18 => .array .int
  | 19 => .int
  | _ => .int
abbrev wsX50 : List Cond := u_ws RX5 TX5 21
theorem nmX5 : ∀ a, a < 21 → ∀ b, b < 21 → a ≠ b → (TX5 a).2.1 ≠ (TX5 b).2.1 := by decide +kernel
theorem tyX5_ok : ∀ k, k < 21 → parseFieldDescriptor (TX5 k).2.2.1 = some (tyX5 k) := by decide +kernel
abbrev cX5_init : ByteArray := prog_7_method_1_code
def yX5_init : MethodName := ⟨RX5, "<init>", "()V"⟩
abbrev cX5_in : ByteArray := prog_7_method_3_code
def yX5_in : MethodName := ⟨RX5, "in", "(III)Z"⟩
abbrev cX5_isPlan : ByteArray := prog_7_method_4_code
def yX5_isPlan : MethodName := ⟨RX5, "isPlan", "(I)Z"⟩
abbrev cX5_isDigit : ByteArray := prog_7_method_5_code
def yX5_isDigit : MethodName := ⟨RX5, "isDigit", "(I)Z"⟩
abbrev cX5_fits : ByteArray := prog_7_method_6_code
def yX5_fits : MethodName := ⟨RX5, "fits", "(IIII)Z"⟩
abbrev cX5_act : ByteArray := prog_7_method_7_code
def yX5_act : MethodName := ⟨RX5, "act", "(IIIII)I"⟩
abbrev cX5_clear : ByteArray := prog_7_method_8_code
def yX5_clear : MethodName := ⟨RX5, "clear", "(I)I"⟩
abbrev cX5_isClosed : ByteArray := prog_7_method_9_code
def yX5_isClosed : MethodName := ⟨RX5, "isClosed", "(I)Z"⟩
abbrev cX5_closed : ByteArray := prog_7_method_10_code
def yX5_closed : MethodName := ⟨RX5, "closed", "(I)I"⟩
abbrev cX5_shelf : ByteArray := prog_7_method_11_code
def yX5_shelf : MethodName := ⟨RX5, "shelf", "(II)I"⟩
abbrev cX5_begins : ByteArray := prog_7_method_12_code
def yX5_begins : MethodName := ⟨RX5, "begins", "(II)V"⟩
abbrev cX5_behind : ByteArray := prog_7_method_13_code
def yX5_behind : MethodName := ⟨RX5, "behind", "(II)I"⟩
abbrev cX5_closes : ByteArray := prog_7_method_14_code
def yX5_closes : MethodName := ⟨RX5, "closes", "(Z)V"⟩
abbrev cX5_wrongShelf : ByteArray := prog_7_method_15_code
def yX5_wrongShelf : MethodName := ⟨RX5, "wrongShelf", "(I)I"⟩
abbrev cX5_hold : ByteArray := prog_7_method_16_code
def yX5_hold : MethodName := ⟨RX5, "hold", "(II)I"⟩
abbrev cX5_change : ByteArray := prog_7_method_17_code
def yX5_change : MethodName := ⟨RX5, "change", "(III)I"⟩
abbrev cX5_move : ByteArray := prog_7_method_18_code
def yX5_move : MethodName := ⟨RX5, "move", "(III)I"⟩
abbrev cX5_call : ByteArray := prog_7_method_19_code
def yX5_call : MethodName := ⟨RX5, "call", "(I)I"⟩
abbrev cX5_does : ByteArray := prog_7_method_20_code
def yX5_does : MethodName := ⟨RX5, "does", "(II)I"⟩
abbrev cX5_isCaught : ByteArray := prog_7_method_21_code
def yX5_isCaught : MethodName := ⟨RX5, "isCaught", "(I)Z"⟩
abbrev cX5_ends : ByteArray := prog_7_method_22_code
def yX5_ends : MethodName := ⟨RX5, "ends", "(III)I"⟩
abbrev cX5_run : ByteArray := prog_7_method_23_code
def yX5_run : MethodName := ⟨RX5, "run", "(II)I"⟩
abbrev cX5_told : ByteArray := prog_7_method_24_code
def yX5_told : MethodName := ⟨RX5, "told", "(I)I"⟩
abbrev cX5_caught : ByteArray := prog_7_method_25_code
def yX5_caught : MethodName := ⟨RX5, "caught", "(I)I"⟩
abbrev cX5_about : ByteArray := prog_7_method_26_code
def yX5_about : MethodName := ⟨RX5, "about", "(II)I"⟩
abbrev cX5_first : ByteArray := prog_7_method_27_code
def yX5_first : MethodName := ⟨RX5, "first", "(I)I"⟩
abbrev cX5_row : ByteArray := prog_7_method_28_code
def yX5_row : MethodName := ⟨RX5, "row", "(I)I"⟩
abbrev cX5_rest : ByteArray := prog_7_method_29_code
def yX5_rest : MethodName := ⟨RX5, "rest", "()I"⟩
abbrev cX5_goods : ByteArray := prog_7_method_30_code
def yX5_goods : MethodName := ⟨RX5, "goods", "()I"⟩
def RJ9 : String := "java/lang/Math"
def TJ9 : u_T := fun k => match k with
  | _ => ("", "", "", false)
def tyJ9 : Nat → FieldType := fun k => match k with
  | _ => .int
abbrev wsJ90 : List Cond := u_ws RJ9 TJ9 0
theorem nmJ9 : ∀ a, a < 0 → ∀ b, b < 0 → a ≠ b → (TJ9 a).2.1 ≠ (TJ9 b).2.1 := by decide +kernel
theorem tyJ9_ok : ∀ k, k < 0 → parseFieldDescriptor (TJ9 k).2.2.1 = some (tyJ9 k) := by decide +kernel
abbrev cJ9_max_7cf53 : ByteArray := prog_8_method_65_code
def yJ9_max_7cf53 : MethodName := ⟨RJ9, "max", "(II)I"⟩
def RL : String := "HeldShelvesLaw"
abbrev cL_law : ByteArray := code
def yL_law : MethodName := ⟨RL, "law", "([I)Z"⟩
def wsX0_init : List Cond := .code yX0_init cX0_init 1 none :: ([.methodLink RX0 3 objectInit, .instanceMethod objectInit, .code objectInit ⟨#[0xb1]⟩ 1 none, .arrayClass .int, .fieldLink RX0 9 "HeldShelves$OpenRow" "kinds" "[I", .fieldLink RX0 15 "HeldShelves$OpenRow" "numbers" "[I", .fieldLink RX0 18 "HeldShelves$OpenRow" "behinds" "[I"] ++ wsX00)
def wsX0_size : List Cond := .code yX0_size cX0_size 1 (some .int) :: ([.fieldLink RX0 21 "HeldShelves$OpenRow" "count" "I"] ++ wsX00)
def wsX0_push : List Cond := .code yX0_push cX0_push 4 none :: ([.fieldLink RX0 21 "HeldShelves$OpenRow" "count" "I", .fieldLink RX0 9 "HeldShelves$OpenRow" "kinds" "[I", .fieldLink RX0 15 "HeldShelves$OpenRow" "numbers" "[I", .fieldLink RX0 18 "HeldShelves$OpenRow" "behinds" "[I"] ++ wsX00)
def wsX0_pop : List Cond := .code yX0_pop cX0_pop 1 none :: ([.fieldLink RX0 21 "HeldShelves$OpenRow" "count" "I"] ++ wsX00)
def wsX0_kind : List Cond := .code yX0_kind cX0_kind 1 (some .int) :: ([.fieldLink RX0 21 "HeldShelves$OpenRow" "count" "I", .fieldLink RX0 9 "HeldShelves$OpenRow" "kinds" "[I"] ++ wsX00)
def wsX0_number : List Cond := .code yX0_number cX0_number 1 (some .int) :: ([.fieldLink RX0 21 "HeldShelves$OpenRow" "count" "I", .fieldLink RX0 15 "HeldShelves$OpenRow" "numbers" "[I"] ++ wsX00)
def wsX0_behind : List Cond := .code yX0_behind cX0_behind 1 (some .int) :: ([.fieldLink RX0 21 "HeldShelves$OpenRow" "count" "I", .fieldLink RX0 18 "HeldShelves$OpenRow" "behinds" "[I"] ++ wsX00)
def wsX1_init : List Cond := .code yX1_init cX1_init 1 none :: ([.methodLink RX1 3 objectInit, .instanceMethod objectInit, .code objectInit ⟨#[0xb1]⟩ 1 none, .arrayClass .int, .fieldLink RX1 9 "HeldShelves$Plan" "acts" "[I"] ++ wsX10)
def wsX1_size : List Cond := .code yX1_size cX1_size 1 (some .int) :: ([.fieldLink RX1 15 "HeldShelves$Plan" "count" "I"] ++ wsX10)
def wsX1_add : List Cond := .code yX1_add cX1_add 5 (some .int) :: ([.fieldLink RX1 15 "HeldShelves$Plan" "count" "I", .fieldLink RX1 9 "HeldShelves$Plan" "acts" "[I"] ++ wsX10)
def wsX1_empty : List Cond := .code yX1_empty cX1_empty 2 (some .int) :: ([.fieldLink RX1 15 "HeldShelves$Plan" "count" "I"] ++ wsX10)
def wsX1_digitsOf : List Cond := .code yX1_digitsOf cX1_digitsOf 2 (some .int) :: ([.fieldLink RX1 15 "HeldShelves$Plan" "count" "I", .fieldLink RX1 9 "HeldShelves$Plan" "acts" "[I"] ++ wsX10)
def wsX1_kindOf : List Cond := .code yX1_kindOf cX1_kindOf 2 (some .int) :: ([.methodLink RX1 19 yX1_digitsOf, .instanceMethod yX1_digitsOf, .selects RX1 yX1_digitsOf yX1_digitsOf, .initialized RX1, .code yX1_digitsOf cX1_digitsOf 2 (some .int), .fieldLink RX1 15 "HeldShelves$Plan" "count" "I", .fieldLink RX1 9 "HeldShelves$Plan" "acts" "[I"] ++ wsX10)
def wsX1_aOf : List Cond := .code yX1_aOf cX1_aOf 2 (some .int) :: ([.methodLink RX1 19 yX1_digitsOf, .instanceMethod yX1_digitsOf, .selects RX1 yX1_digitsOf yX1_digitsOf, .initialized RX1, .code yX1_digitsOf cX1_digitsOf 2 (some .int), .fieldLink RX1 15 "HeldShelves$Plan" "count" "I", .fieldLink RX1 9 "HeldShelves$Plan" "acts" "[I"] ++ wsX10)
def wsX1_bOf : List Cond := .code yX1_bOf cX1_bOf 2 (some .int) :: ([.methodLink RX1 19 yX1_digitsOf, .instanceMethod yX1_digitsOf, .selects RX1 yX1_digitsOf yX1_digitsOf, .initialized RX1, .code yX1_digitsOf cX1_digitsOf 2 (some .int), .fieldLink RX1 15 "HeldShelves$Plan" "count" "I", .fieldLink RX1 9 "HeldShelves$Plan" "acts" "[I"] ++ wsX10)
def wsX1_cOf : List Cond := .code yX1_cOf cX1_cOf 2 (some .int) :: ([.methodLink RX1 19 yX1_digitsOf, .instanceMethod yX1_digitsOf, .selects RX1 yX1_digitsOf yX1_digitsOf, .initialized RX1, .code yX1_digitsOf cX1_digitsOf 2 (some .int), .fieldLink RX1 15 "HeldShelves$Plan" "count" "I", .fieldLink RX1 9 "HeldShelves$Plan" "acts" "[I"] ++ wsX10)
def wsX1_deeperBy : List Cond := .code yX1_deeperBy cX1_deeperBy 3 (some .int) :: ([.methodLink RX1 26 yX1_kindOf, .instanceMethod yX1_kindOf, .selects RX1 yX1_kindOf yX1_kindOf, .initialized RX1, .code yX1_kindOf cX1_kindOf 2 (some .int), .methodLink RX1 19 yX1_digitsOf, .instanceMethod yX1_digitsOf, .selects RX1 yX1_digitsOf yX1_digitsOf, .code yX1_digitsOf cX1_digitsOf 2 (some .int), .fieldLink RX1 15 "HeldShelves$Plan" "count" "I", .fieldLink RX1 9 "HeldShelves$Plan" "acts" "[I"] ++ wsX10)
def wsX1_isClosed : List Cond := .code yX1_isClosed cX1_isClosed 3 (some .boolean) :: ([.fieldLink RX1 15 "HeldShelves$Plan" "count" "I", .methodLink RX1 23 yX1_deeperBy, .instanceMethod yX1_deeperBy, .selects RX1 yX1_deeperBy yX1_deeperBy, .initialized RX1, .code yX1_deeperBy cX1_deeperBy 3 (some .int), .methodLink RX1 26 yX1_kindOf, .instanceMethod yX1_kindOf, .selects RX1 yX1_kindOf yX1_kindOf, .code yX1_kindOf cX1_kindOf 2 (some .int), .methodLink RX1 19 yX1_digitsOf, .instanceMethod yX1_digitsOf, .selects RX1 yX1_digitsOf yX1_digitsOf, .code yX1_digitsOf cX1_digitsOf 2 (some .int), .fieldLink RX1 9 "HeldShelves$Plan" "acts" "[I"] ++ wsX10)
def wsX1_behindBlock : List Cond := .code yX1_behindBlock cX1_behindBlock 4 (some .int) :: ([.fieldLink RX1 15 "HeldShelves$Plan" "count" "I", .methodLink RX1 23 yX1_deeperBy, .instanceMethod yX1_deeperBy, .selects RX1 yX1_deeperBy yX1_deeperBy, .initialized RX1, .code yX1_deeperBy cX1_deeperBy 3 (some .int), .methodLink RX1 26 yX1_kindOf, .instanceMethod yX1_kindOf, .selects RX1 yX1_kindOf yX1_kindOf, .code yX1_kindOf cX1_kindOf 2 (some .int), .methodLink RX1 19 yX1_digitsOf, .instanceMethod yX1_digitsOf, .selects RX1 yX1_digitsOf yX1_digitsOf, .code yX1_digitsOf cX1_digitsOf 2 (some .int), .fieldLink RX1 9 "HeldShelves$Plan" "acts" "[I"] ++ wsX10)
def wsX2_init : List Cond := .code yX2_init cX2_init 1 none :: ([.methodLink RX2 3 objectInit, .instanceMethod objectInit, .code objectInit ⟨#[0xb1]⟩ 1 none, .arrayClass .int, .fieldLink RX2 9 "HeldShelves$Report" "caughtOf" "[I", .fieldLink RX2 15 "HeldShelves$Report" "plan" "I", .fieldLink RX2 19 "HeldShelves$Report" "act" "I"] ++ wsX20)
def wsX2_endAt : List Cond := .code yX2_endAt cX2_endAt 4 none :: ([.fieldLink RX2 44 "HeldShelves$Report" "failure" "I", .fieldLink RX2 15 "HeldShelves$Report" "plan" "I", .fieldLink RX2 19 "HeldShelves$Report" "act" "I"] ++ wsX20)
def wsX2_reset : List Cond := .code yX2_reset cX2_reset 2 none :: ([.fieldLink RX2 9 "HeldShelves$Report" "caughtOf" "[I", .fieldLink RX2 22 "HeldShelves$Report" "caughtInAll" "I", .fieldLink RX2 29 "HeldShelves$Report" "steps" "I", .fieldLink RX2 32 "HeldShelves$Report" "holds" "I", .fieldLink RX2 35 "HeldShelves$Report" "holdsOpen" "I", .fieldLink RX2 38 "HeldShelves$Report" "mostOpen" "I", .fieldLink RX2 41 "HeldShelves$Report" "calls" "I", .methodLink RX2 25 yX2_endAt, .instanceMethod yX2_endAt, .selects RX2 yX2_endAt yX2_endAt, .initialized RX2, .code yX2_endAt cX2_endAt 4 none, .fieldLink RX2 44 "HeldShelves$Report" "failure" "I", .fieldLink RX2 15 "HeldShelves$Report" "plan" "I", .fieldLink RX2 19 "HeldShelves$Report" "act" "I"] ++ wsX20)
def wsX2_steps : List Cond := .code yX2_steps cX2_steps 1 (some .int) :: ([.fieldLink RX2 29 "HeldShelves$Report" "steps" "I"] ++ wsX20)
def wsX2_countStep : List Cond := .code yX2_countStep cX2_countStep 1 none :: ([.fieldLink RX2 29 "HeldShelves$Report" "steps" "I"] ++ wsX20)
def wsX2_countCall : List Cond := .code yX2_countCall cX2_countCall 1 none :: ([.fieldLink RX2 41 "HeldShelves$Report" "calls" "I"] ++ wsX20)
def wsX2_openHold : List Cond := .code yX2_openHold cX2_openHold 1 none :: ([.fieldLink RX2 32 "HeldShelves$Report" "holds" "I", .fieldLink RX2 35 "HeldShelves$Report" "holdsOpen" "I", .fieldLink RX2 38 "HeldShelves$Report" "mostOpen" "I", .methodLink RX2 47 Lib.Math.max.name, .static Lib.Math.max.name, .initialized "java/lang/Math", .code Lib.Math.max.name Lib.Math.max.code 2 (some .int)] ++ wsX20)
def wsX2_closeHold : List Cond := .code yX2_closeHold cX2_closeHold 1 none :: ([.fieldLink RX2 35 "HeldShelves$Report" "holdsOpen" "I"] ++ wsX20)
def wsX2_countCaught : List Cond := .code yX2_countCaught cX2_countCaught 2 none :: ([.fieldLink RX2 9 "HeldShelves$Report" "caughtOf" "[I", .fieldLink RX2 22 "HeldShelves$Report" "caughtInAll" "I"] ++ wsX20)
def wsX2_timesCaught : List Cond := .code yX2_timesCaught cX2_timesCaught 2 (some .int) :: ([.fieldLink RX2 9 "HeldShelves$Report" "caughtOf" "[I"] ++ wsX20)
def wsX2_number : List Cond := .code yX2_number cX2_number 2 (some .int) :: ([.fieldLink RX2 44 "HeldShelves$Report" "failure" "I", .fieldLink RX2 15 "HeldShelves$Report" "plan" "I", .fieldLink RX2 19 "HeldShelves$Report" "act" "I", .fieldLink RX2 29 "HeldShelves$Report" "steps" "I", .fieldLink RX2 32 "HeldShelves$Report" "holds" "I", .fieldLink RX2 38 "HeldShelves$Report" "mostOpen" "I", .fieldLink RX2 22 "HeldShelves$Report" "caughtInAll" "I", .fieldLink RX2 41 "HeldShelves$Report" "calls" "I"] ++ wsX20)
def wsX3_init : List Cond := .code yX3_init cX3_init 2 none :: ([.methodLink RX3 3 objectInit, .instanceMethod objectInit, .code objectInit ⟨#[0xb1]⟩ 1 none, .arrayClass .int, .fieldLink RX3 9 "HeldShelves$Stock" "goods" "[I", .fieldLink RX3 15 "HeldShelves$Stock" "left" "[I", .fieldLink RX3 18 "HeldShelves$Stock" "held" "[I"] ++ wsX30)
def wsX4_isShelf : List Cond := .code yX4_isShelf cX4_isShelf 1 (some .boolean) :: ([])
def wsX3_isThere : List Cond := .code yX3_isThere cX3_isThere 2 (some .boolean) :: ([.fieldLink RX3 9 "HeldShelves$Stock" "goods" "[I", .static yX4_isShelf, .initialized RX4, .code yX4_isShelf cX4_isShelf 1 (some .boolean)] ++ wsX30)
def wsX3_goodsOf : List Cond := .code yX3_goodsOf cX3_goodsOf 2 (some .int) :: ([.fieldLink RX3 9 "HeldShelves$Stock" "goods" "[I", .methodLink RX3 25 yX3_isThere, .instanceMethod yX3_isThere, .selects RX3 yX3_isThere yX3_isThere, .initialized RX3, .code yX3_isThere cX3_isThere 2 (some .boolean), .static yX4_isShelf, .initialized RX4, .code yX4_isShelf cX4_isShelf 1 (some .boolean)] ++ wsX30)
def wsX3_leftOf : List Cond := .code yX3_leftOf cX3_leftOf 2 (some .int) :: ([.fieldLink RX3 15 "HeldShelves$Stock" "left" "[I", .methodLink RX3 25 yX3_isThere, .instanceMethod yX3_isThere, .selects RX3 yX3_isThere yX3_isThere, .initialized RX3, .code yX3_isThere cX3_isThere 2 (some .boolean), .fieldLink RX3 9 "HeldShelves$Stock" "goods" "[I", .static yX4_isShelf, .initialized RX4, .code yX4_isShelf cX4_isShelf 1 (some .boolean)] ++ wsX30)
def wsX3_replace : List Cond := .code yX3_replace cX3_replace 4 (some .int) :: ([.fieldLink RX3 9 "HeldShelves$Stock" "goods" "[I", .fieldLink RX3 15 "HeldShelves$Stock" "left" "[I", .static yX4_isShelf, .initialized RX4, .code yX4_isShelf cX4_isShelf 1 (some .boolean), .methodLink RX3 25 yX3_isThere, .instanceMethod yX3_isThere, .selects RX3 yX3_isThere yX3_isThere, .initialized RX3, .code yX3_isThere cX3_isThere 2 (some .boolean)] ++ wsX30)
def wsX3_firstWith : List Cond := .code yX3_firstWith cX3_firstWith 3 (some .int) :: ([.fieldLink RX3 9 "HeldShelves$Stock" "goods" "[I", .methodLink RX3 25 yX3_isThere, .instanceMethod yX3_isThere, .selects RX3 yX3_isThere yX3_isThere, .initialized RX3, .code yX3_isThere cX3_isThere 2 (some .boolean), .static yX4_isShelf, .initialized RX4, .code yX4_isShelf cX4_isShelf 1 (some .boolean)] ++ wsX30)
def wsX3_rowUpTo : List Cond := .code yX3_rowUpTo cX3_rowUpTo 3 (some .int) :: ([.fieldLink RX3 9 "HeldShelves$Stock" "goods" "[I", .methodLink RX3 25 yX3_isThere, .instanceMethod yX3_isThere, .selects RX3 yX3_isThere yX3_isThere, .initialized RX3, .code yX3_isThere cX3_isThere 2 (some .boolean), .static yX4_isShelf, .initialized RX4, .code yX4_isShelf cX4_isShelf 1 (some .boolean)] ++ wsX30)
def wsX3_giveRest : List Cond := .code yX3_giveRest cX3_giveRest 2 (some .int) :: ([.fieldLink RX3 28 "HeldShelves$Stock" "rest" "I"] ++ wsX30)
def wsX3_inAll : List Cond := .code yX3_inAll cX3_inAll 3 (some .int) :: ([.methodLink RX3 32 yX3_goodsOf, .instanceMethod yX3_goodsOf, .selects RX3 yX3_goodsOf yX3_goodsOf, .initialized RX3, .code yX3_goodsOf cX3_goodsOf 2 (some .int), .fieldLink RX3 9 "HeldShelves$Stock" "goods" "[I", .methodLink RX3 25 yX3_isThere, .instanceMethod yX3_isThere, .selects RX3 yX3_isThere yX3_isThere, .code yX3_isThere cX3_isThere 2 (some .boolean), .static yX4_isShelf, .initialized RX4, .code yX4_isShelf cX4_isShelf 1 (some .boolean)] ++ wsX30)
def wsX3_missing : List Cond := .code yX3_missing cX3_missing 2 (some .int) :: ([.static yX4_isShelf, .initialized RX4, .code yX4_isShelf cX4_isShelf 1 (some .boolean), .methodLink RX3 25 yX3_isThere, .instanceMethod yX3_isThere, .selects RX3 yX3_isThere yX3_isThere, .initialized RX3, .code yX3_isThere cX3_isThere 2 (some .boolean), .fieldLink RX3 9 "HeldShelves$Stock" "goods" "[I"] ++ wsX30)
def wsX3_holdOnce : List Cond := .code yX3_holdOnce cX3_holdOnce 2 none :: ([.fieldLink RX3 18 "HeldShelves$Stock" "held" "[I", .static yX4_isShelf, .initialized RX4, .code yX4_isShelf cX4_isShelf 1 (some .boolean)] ++ wsX30)
def wsX3_release : List Cond := .code yX3_release cX3_release 2 none :: ([.fieldLink RX3 18 "HeldShelves$Stock" "held" "[I", .static yX4_isShelf, .initialized RX4, .code yX4_isShelf cX4_isShelf 1 (some .boolean)] ++ wsX30)
def wsX3_countLeft : List Cond := .code yX3_countLeft cX3_countLeft 2 none :: ([.fieldLink RX3 15 "HeldShelves$Stock" "left" "[I", .static yX4_isShelf, .initialized RX4, .code yX4_isShelf cX4_isShelf 1 (some .boolean)] ++ wsX30)
def wsX3_missingOrLoose : List Cond := .code yX3_missingOrLoose cX3_missingOrLoose 3 (some .int) :: ([.fieldLink RX3 18 "HeldShelves$Stock" "held" "[I", .methodLink RX3 39 yX3_missing, .instanceMethod yX3_missing, .selects RX3 yX3_missing yX3_missing, .initialized RX3, .code yX3_missing cX3_missing 2 (some .int), .static yX4_isShelf, .initialized RX4, .code yX4_isShelf cX4_isShelf 1 (some .boolean), .methodLink RX3 25 yX3_isThere, .instanceMethod yX3_isThere, .selects RX3 yX3_isThere yX3_isThere, .code yX3_isThere cX3_isThere 2 (some .boolean), .fieldLink RX3 9 "HeldShelves$Stock" "goods" "[I"] ++ wsX30)
def wsX3_put : List Cond := .code yX3_put cX3_put 4 (some .int) :: ([.fieldLink RX3 9 "HeldShelves$Stock" "goods" "[I", .methodLink RX3 36 yX3_missingOrLoose, .instanceMethod yX3_missingOrLoose, .selects RX3 yX3_missingOrLoose yX3_missingOrLoose, .initialized RX3, .code yX3_missingOrLoose cX3_missingOrLoose 3 (some .int), .fieldLink RX3 18 "HeldShelves$Stock" "held" "[I", .methodLink RX3 39 yX3_missing, .instanceMethod yX3_missing, .selects RX3 yX3_missing yX3_missing, .code yX3_missing cX3_missing 2 (some .int), .static yX4_isShelf, .initialized RX4, .code yX4_isShelf cX4_isShelf 1 (some .boolean), .methodLink RX3 25 yX3_isThere, .instanceMethod yX3_isThere, .selects RX3 yX3_isThere yX3_isThere, .code yX3_isThere cX3_isThere 2 (some .boolean)] ++ wsX30)
def wsX3_take : List Cond := .code yX3_take cX3_take 4 (some .int) :: ([.fieldLink RX3 9 "HeldShelves$Stock" "goods" "[I", .methodLink RX3 36 yX3_missingOrLoose, .instanceMethod yX3_missingOrLoose, .selects RX3 yX3_missingOrLoose yX3_missingOrLoose, .initialized RX3, .code yX3_missingOrLoose cX3_missingOrLoose 3 (some .int), .fieldLink RX3 18 "HeldShelves$Stock" "held" "[I", .methodLink RX3 39 yX3_missing, .instanceMethod yX3_missing, .selects RX3 yX3_missing yX3_missing, .code yX3_missing cX3_missing 2 (some .int), .static yX4_isShelf, .initialized RX4, .code yX4_isShelf cX4_isShelf 1 (some .boolean), .methodLink RX3 25 yX3_isThere, .instanceMethod yX3_isThere, .selects RX3 yX3_isThere yX3_isThere, .code yX3_isThere cX3_isThere 2 (some .boolean)] ++ wsX30)
def wsX3_share : List Cond := .code yX3_share cX3_share 5 (some .int) :: ([.fieldLink RX3 9 "HeldShelves$Stock" "goods" "[I", .fieldLink RX3 28 "HeldShelves$Stock" "rest" "I", .methodLink RX3 36 yX3_missingOrLoose, .instanceMethod yX3_missingOrLoose, .selects RX3 yX3_missingOrLoose yX3_missingOrLoose, .initialized RX3, .code yX3_missingOrLoose cX3_missingOrLoose 3 (some .int), .fieldLink RX3 18 "HeldShelves$Stock" "held" "[I", .methodLink RX3 39 yX3_missing, .instanceMethod yX3_missing, .selects RX3 yX3_missing yX3_missing, .code yX3_missing cX3_missing 2 (some .int), .static yX4_isShelf, .initialized RX4, .code yX4_isShelf cX4_isShelf 1 (some .boolean), .methodLink RX3 25 yX3_isThere, .instanceMethod yX3_isThere, .selects RX3 yX3_isThere yX3_isThere, .code yX3_isThere cX3_isThere 2 (some .boolean)] ++ wsX30)
def wsX3_move : List Cond := .code yX3_move cX3_move 4 (some .int) :: ([.fieldLink RX3 9 "HeldShelves$Stock" "goods" "[I", .static yX4_isShelf, .initialized RX4, .code yX4_isShelf cX4_isShelf 1 (some .boolean), .methodLink RX3 25 yX3_isThere, .instanceMethod yX3_isThere, .selects RX3 yX3_isThere yX3_isThere, .initialized RX3, .code yX3_isThere cX3_isThere 2 (some .boolean)] ++ wsX30)
def wsX4_init_r1 : List Cond := [Cond.methodLink RX4 1 objectInit, Cond.instanceMethod objectInit, Cond.code objectInit ⟨#[0xb1]⟩ 1 none, Cond.classLink RX4 9 RX1, Cond.fieldLink RX4 11 "HeldShelves" "plans" "[LHeldShelves$Plan;", Cond.instantiable RX1 2, Cond.initialized RX1, Cond.classLink RX4 16 RX3, Cond.instantiable RX3 4, Cond.initialized RX3, Cond.fieldLink RX4 19 "HeldShelves" "stock" "LHeldShelves$Stock;", Cond.classLink RX4 23 RX0, Cond.instantiable RX0 4, Cond.initialized RX0, Cond.fieldLink RX4 26 "HeldShelves" "open" "LHeldShelves$OpenRow;", Cond.classLink RX4 30 RX2, Cond.instantiable RX2 10, Cond.initialized RX2, Cond.fieldLink RX4 33 "HeldShelves" "report" "LHeldShelves$Report;", Cond.methodLink RX4 15 yX1_init, Cond.instanceMethod yX1_init, Cond.code yX1_init cX1_init 1 none, Cond.methodLink RX1 3 objectInit, Cond.arrayClass .int]
def wsX4_init_r2 : List Cond := [Cond.fieldLink RX1 9 "HeldShelves$Plan" "acts" "[I", Cond.methodLink RX4 18 yX3_init, Cond.instanceMethod yX3_init, Cond.code yX3_init cX3_init 2 none, Cond.methodLink RX3 3 objectInit, Cond.fieldLink RX3 9 "HeldShelves$Stock" "goods" "[I", Cond.fieldLink RX3 15 "HeldShelves$Stock" "left" "[I", Cond.fieldLink RX3 18 "HeldShelves$Stock" "held" "[I", Cond.methodLink RX4 25 yX0_init, Cond.instanceMethod yX0_init, Cond.code yX0_init cX0_init 1 none, Cond.methodLink RX0 3 objectInit, Cond.fieldLink RX0 9 "HeldShelves$OpenRow" "kinds" "[I", Cond.fieldLink RX0 15 "HeldShelves$OpenRow" "numbers" "[I", Cond.fieldLink RX0 18 "HeldShelves$OpenRow" "behinds" "[I", Cond.methodLink RX4 32 yX2_init, Cond.instanceMethod yX2_init, Cond.code yX2_init cX2_init 1 none, Cond.methodLink RX2 3 objectInit, Cond.fieldLink RX2 9 "HeldShelves$Report" "caughtOf" "[I", Cond.fieldLink RX2 15 "HeldShelves$Report" "plan" "I", Cond.fieldLink RX2 19 "HeldShelves$Report" "act" "I"]
def wsX4_init : List Cond := .code yX4_init cX4_init 2 none :: ((wsX4_init_r1 ++ wsX4_init_r2) ++ wsX40 ++ wsX10 ++ wsX30 ++ wsX00 ++ wsX20)
def wsX4_isPlan : List Cond := .code yX4_isPlan cX4_isPlan 1 (some .boolean) :: ([])
def wsX4_isDigit : List Cond := .code yX4_isDigit cX4_isDigit 1 (some .boolean) :: ([])
def wsX4_act : List Cond := .code yX4_act cX4_act 9 (some .int) :: ([.fieldLink RX4 41 "HeldShelves" "NAMED" "[I", .fieldLink RX4 11 "HeldShelves" "plans" "[LHeldShelves$Plan;", .methodLink RX4 37 yX4_isPlan, .static yX4_isPlan, .initialized RX4, .code yX4_isPlan cX4_isPlan 1 (some .boolean), .methodLink RX4 45 yX4_isDigit, .static yX4_isDigit, .code yX4_isDigit cX4_isDigit 1 (some .boolean), .methodLink RX4 48 yX1_add, .instanceMethod yX1_add, .selects RX1 yX1_add yX1_add, .initialized RX1, .code yX1_add cX1_add 5 (some .int), .fieldLink RX1 15 "HeldShelves$Plan" "count" "I", .fieldLink RX1 9 "HeldShelves$Plan" "acts" "[I"] ++ wsX40 ++ wsX10)
def wsX4_clear : List Cond := .code yX4_clear cX4_clear 2 (some .int) :: ([.fieldLink RX4 11 "HeldShelves" "plans" "[LHeldShelves$Plan;", .methodLink RX4 37 yX4_isPlan, .static yX4_isPlan, .initialized RX4, .code yX4_isPlan cX4_isPlan 1 (some .boolean), .methodLink RX4 52 yX1_empty, .instanceMethod yX1_empty, .selects RX1 yX1_empty yX1_empty, .initialized RX1, .code yX1_empty cX1_empty 2 (some .int), .fieldLink RX1 15 "HeldShelves$Plan" "count" "I"] ++ wsX40 ++ wsX10)
def wsX4_closed : List Cond := .code yX4_closed cX4_closed 2 (some .int) :: ([.fieldLink RX4 11 "HeldShelves" "plans" "[LHeldShelves$Plan;", .methodLink RX4 37 yX4_isPlan, .static yX4_isPlan, .initialized RX4, .code yX4_isPlan cX4_isPlan 1 (some .boolean), .methodLink RX4 56 yX1_isClosed, .instanceMethod yX1_isClosed, .selects RX1 yX1_isClosed yX1_isClosed, .initialized RX1, .code yX1_isClosed cX1_isClosed 3 (some .boolean), .fieldLink RX1 15 "HeldShelves$Plan" "count" "I", .methodLink RX1 23 yX1_deeperBy, .instanceMethod yX1_deeperBy, .selects RX1 yX1_deeperBy yX1_deeperBy, .code yX1_deeperBy cX1_deeperBy 3 (some .int), .methodLink RX1 26 yX1_kindOf, .instanceMethod yX1_kindOf, .selects RX1 yX1_kindOf yX1_kindOf, .code yX1_kindOf cX1_kindOf 2 (some .int), .methodLink RX1 19 yX1_digitsOf, .instanceMethod yX1_digitsOf, .selects RX1 yX1_digitsOf yX1_digitsOf, .code yX1_digitsOf cX1_digitsOf 2 (some .int), .fieldLink RX1 9 "HeldShelves$Plan" "acts" "[I"] ++ wsX40 ++ wsX10)
def wsX4_shelf : List Cond := .code yX4_shelf cX4_shelf 3 (some .int) :: ([.fieldLink RX4 19 "HeldShelves" "stock" "LHeldShelves$Stock;", .methodLink RX4 60 yX4_isShelf, .static yX4_isShelf, .initialized RX4, .code yX4_isShelf cX4_isShelf 1 (some .boolean), .methodLink RX4 63 yX3_replace, .instanceMethod yX3_replace, .selects RX3 yX3_replace yX3_replace, .initialized RX3, .code yX3_replace cX3_replace 4 (some .int), .fieldLink RX3 9 "HeldShelves$Stock" "goods" "[I", .fieldLink RX3 15 "HeldShelves$Stock" "left" "[I", .methodLink RX3 25 yX3_isThere, .instanceMethod yX3_isThere, .selects RX3 yX3_isThere yX3_isThere, .code yX3_isThere cX3_isThere 2 (some .boolean)] ++ wsX40 ++ wsX30)
def wsX4_leaveCall : List Cond := .code yX4_leaveCall cX4_leaveCall 1 none :: ([.fieldLink RX4 26 "HeldShelves" "open" "LHeldShelves$OpenRow;", .fieldLink RX4 70 "HeldShelves" "planNow" "I", .fieldLink RX4 74 "HeldShelves" "next" "I", .fieldLink RX4 77 "HeldShelves" "level" "I", .methodLink RX4 196 yX0_number, .instanceMethod yX0_number, .selects RX0 yX0_number yX0_number, .initialized RX0, .code yX0_number cX0_number 1 (some .int), .fieldLink RX0 21 "HeldShelves$OpenRow" "count" "I", .fieldLink RX0 15 "HeldShelves$OpenRow" "numbers" "[I", .methodLink RX4 207 yX0_behind, .instanceMethod yX0_behind, .selects RX0 yX0_behind yX0_behind, .code yX0_behind cX0_behind 1 (some .int), .fieldLink RX0 18 "HeldShelves$OpenRow" "behinds" "[I", .methodLink RX4 201 yX0_pop, .instanceMethod yX0_pop, .selects RX0 yX0_pop yX0_pop, .code yX0_pop cX0_pop 1 none] ++ wsX40 ++ wsX00)
def wsX4_endBlock_r1 : List Cond := [Cond.fieldLink RX4 26 "HeldShelves" "open" "LHeldShelves$OpenRow;", Cond.fieldLink RX4 33 "HeldShelves" "report" "LHeldShelves$Report;", Cond.fieldLink RX4 19 "HeldShelves" "stock" "LHeldShelves$Stock;", Cond.methodLink RX4 190 yX0_kind, Cond.instanceMethod yX0_kind, Cond.selects RX0 yX0_kind yX0_kind, Cond.initialized RX0, Cond.code yX0_kind cX0_kind 1 (some .int), Cond.fieldLink RX0 21 "HeldShelves$OpenRow" "count" "I", Cond.fieldLink RX0 9 "HeldShelves$OpenRow" "kinds" "[I", Cond.methodLink RX4 193 yX2_closeHold, Cond.instanceMethod yX2_closeHold, Cond.selects RX2 yX2_closeHold yX2_closeHold, Cond.initialized RX2, Cond.code yX2_closeHold cX2_closeHold 1 none, Cond.fieldLink RX2 35 "HeldShelves$Report" "holdsOpen" "I", Cond.methodLink RX4 196 yX0_number, Cond.instanceMethod yX0_number, Cond.selects RX0 yX0_number yX0_number, Cond.code yX0_number cX0_number 1 (some .int), Cond.fieldLink RX0 15 "HeldShelves$OpenRow" "numbers" "[I", Cond.methodLink RX4 198 yX3_release, Cond.instanceMethod yX3_release, Cond.selects RX3 yX3_release yX3_release]
def wsX4_endBlock_r2 : List Cond := [Cond.initialized RX3, Cond.code yX3_release cX3_release 2 none, Cond.fieldLink RX3 18 "HeldShelves$Stock" "held" "[I", Cond.static yX4_isShelf, Cond.initialized RX4, Cond.code yX4_isShelf cX4_isShelf 1 (some .boolean), Cond.methodLink RX4 201 yX0_pop, Cond.instanceMethod yX0_pop, Cond.selects RX0 yX0_pop yX0_pop, Cond.code yX0_pop cX0_pop 1 none]
def wsX4_endBlock : List Cond := .code yX4_endBlock cX4_endBlock 1 (some .int) :: ((wsX4_endBlock_r1 ++ wsX4_endBlock_r2) ++ wsX40 ++ wsX00 ++ wsX20 ++ wsX30)
def wsX4_leaveHold_r1 : List Cond := [Cond.fieldLink RX4 19 "HeldShelves" "stock" "LHeldShelves$Stock;", Cond.fieldLink RX4 26 "HeldShelves" "open" "LHeldShelves$OpenRow;", Cond.methodLink RX4 196 yX0_number, Cond.instanceMethod yX0_number, Cond.selects RX0 yX0_number yX0_number, Cond.initialized RX0, Cond.code yX0_number cX0_number 1 (some .int), Cond.fieldLink RX0 21 "HeldShelves$OpenRow" "count" "I", Cond.fieldLink RX0 15 "HeldShelves$OpenRow" "numbers" "[I", Cond.methodLink RX4 217 yX3_countLeft, Cond.instanceMethod yX3_countLeft, Cond.selects RX3 yX3_countLeft yX3_countLeft, Cond.initialized RX3, Cond.code yX3_countLeft cX3_countLeft 2 none, Cond.fieldLink RX3 15 "HeldShelves$Stock" "left" "[I", Cond.static yX4_isShelf, Cond.initialized RX4, Cond.code yX4_isShelf cX4_isShelf 1 (some .boolean), Cond.methodLink RX4 158 yX4_endBlock, Cond.instanceMethod yX4_endBlock, Cond.selects RX4 yX4_endBlock yX4_endBlock, Cond.code yX4_endBlock cX4_endBlock 1 (some .int), Cond.fieldLink RX4 33 "HeldShelves" "report" "LHeldShelves$Report;", Cond.methodLink RX4 190 yX0_kind]
def wsX4_leaveHold_r2 : List Cond := [Cond.instanceMethod yX0_kind, Cond.selects RX0 yX0_kind yX0_kind, Cond.code yX0_kind cX0_kind 1 (some .int), Cond.fieldLink RX0 9 "HeldShelves$OpenRow" "kinds" "[I", Cond.methodLink RX4 193 yX2_closeHold, Cond.instanceMethod yX2_closeHold, Cond.selects RX2 yX2_closeHold yX2_closeHold, Cond.initialized RX2, Cond.code yX2_closeHold cX2_closeHold 1 none, Cond.fieldLink RX2 35 "HeldShelves$Report" "holdsOpen" "I", Cond.methodLink RX4 198 yX3_release, Cond.instanceMethod yX3_release, Cond.selects RX3 yX3_release yX3_release, Cond.code yX3_release cX3_release 2 none, Cond.fieldLink RX3 18 "HeldShelves$Stock" "held" "[I", Cond.methodLink RX4 201 yX0_pop, Cond.instanceMethod yX0_pop, Cond.selects RX0 yX0_pop yX0_pop, Cond.code yX0_pop cX0_pop 1 none]
def wsX4_leaveHold : List Cond := .code yX4_leaveHold cX4_leaveHold 1 none :: ((wsX4_leaveHold_r1 ++ wsX4_leaveHold_r2) ++ wsX40 ++ wsX00 ++ wsX30 ++ wsX20)
def wsX4_leaveGuard_r1 : List Cond := [Cond.fieldLink RX4 26 "HeldShelves" "open" "LHeldShelves$OpenRow;", Cond.fieldLink RX4 33 "HeldShelves" "report" "LHeldShelves$Report;", Cond.fieldLink RX4 74 "HeldShelves" "next" "I", Cond.methodLink RX4 196 yX0_number, Cond.instanceMethod yX0_number, Cond.selects RX0 yX0_number yX0_number, Cond.initialized RX0, Cond.code yX0_number cX0_number 1 (some .int), Cond.fieldLink RX0 21 "HeldShelves$OpenRow" "count" "I", Cond.fieldLink RX0 15 "HeldShelves$OpenRow" "numbers" "[I", Cond.methodLink RX4 207 yX0_behind, Cond.instanceMethod yX0_behind, Cond.selects RX0 yX0_behind yX0_behind, Cond.code yX0_behind cX0_behind 1 (some .int), Cond.fieldLink RX0 18 "HeldShelves$OpenRow" "behinds" "[I", Cond.methodLink RX4 201 yX0_pop, Cond.instanceMethod yX0_pop, Cond.selects RX0 yX0_pop yX0_pop, Cond.code yX0_pop cX0_pop 1 none, Cond.methodLink RX4 220 yX2_countCaught, Cond.instanceMethod yX2_countCaught, Cond.selects RX2 yX2_countCaught yX2_countCaught, Cond.initialized RX2, Cond.code yX2_countCaught cX2_countCaught 2 none]
def wsX4_leaveGuard_r2 : List Cond := [Cond.fieldLink RX2 9 "HeldShelves$Report" "caughtOf" "[I", Cond.fieldLink RX2 22 "HeldShelves$Report" "caughtInAll" "I"]
def wsX4_leaveGuard : List Cond := .code yX4_leaveGuard cX4_leaveGuard 4 (some .boolean) :: ((wsX4_leaveGuard_r1 ++ wsX4_leaveGuard_r2) ++ wsX40 ++ wsX00 ++ wsX20)
def wsX4_leaveOpen_r1 : List Cond := [Cond.fieldLink RX4 26 "HeldShelves" "open" "LHeldShelves$OpenRow;", Cond.methodLink RX4 210 yX0_size, Cond.instanceMethod yX0_size, Cond.selects RX0 yX0_size yX0_size, Cond.initialized RX0, Cond.code yX0_size cX0_size 1 (some .int), Cond.fieldLink RX0 21 "HeldShelves$OpenRow" "count" "I", Cond.methodLink RX4 190 yX0_kind, Cond.instanceMethod yX0_kind, Cond.selects RX0 yX0_kind yX0_kind, Cond.code yX0_kind cX0_kind 1 (some .int), Cond.fieldLink RX0 9 "HeldShelves$OpenRow" "kinds" "[I", Cond.methodLink RX4 114 yX4_leaveCall, Cond.instanceMethod yX4_leaveCall, Cond.selects RX4 yX4_leaveCall yX4_leaveCall, Cond.initialized RX4, Cond.code yX4_leaveCall cX4_leaveCall 1 none, Cond.fieldLink RX4 70 "HeldShelves" "planNow" "I", Cond.fieldLink RX4 74 "HeldShelves" "next" "I", Cond.fieldLink RX4 77 "HeldShelves" "level" "I", Cond.methodLink RX4 196 yX0_number, Cond.instanceMethod yX0_number, Cond.selects RX0 yX0_number yX0_number, Cond.code yX0_number cX0_number 1 (some .int)]
def wsX4_leaveOpen_r2 : List Cond := [Cond.fieldLink RX0 15 "HeldShelves$OpenRow" "numbers" "[I", Cond.methodLink RX4 207 yX0_behind, Cond.instanceMethod yX0_behind, Cond.selects RX0 yX0_behind yX0_behind, Cond.code yX0_behind cX0_behind 1 (some .int), Cond.fieldLink RX0 18 "HeldShelves$OpenRow" "behinds" "[I", Cond.methodLink RX4 201 yX0_pop, Cond.instanceMethod yX0_pop, Cond.selects RX0 yX0_pop yX0_pop, Cond.code yX0_pop cX0_pop 1 none, Cond.methodLink RX4 211 yX4_leaveHold, Cond.instanceMethod yX4_leaveHold, Cond.selects RX4 yX4_leaveHold yX4_leaveHold, Cond.code yX4_leaveHold cX4_leaveHold 1 none, Cond.fieldLink RX4 19 "HeldShelves" "stock" "LHeldShelves$Stock;", Cond.methodLink RX4 217 yX3_countLeft, Cond.instanceMethod yX3_countLeft, Cond.selects RX3 yX3_countLeft yX3_countLeft, Cond.initialized RX3, Cond.code yX3_countLeft cX3_countLeft 2 none, Cond.fieldLink RX3 15 "HeldShelves$Stock" "left" "[I", Cond.static yX4_isShelf, Cond.code yX4_isShelf cX4_isShelf 1 (some .boolean), Cond.methodLink RX4 158 yX4_endBlock]
def wsX4_leaveOpen_r3 : List Cond := [Cond.instanceMethod yX4_endBlock, Cond.selects RX4 yX4_endBlock yX4_endBlock, Cond.code yX4_endBlock cX4_endBlock 1 (some .int), Cond.fieldLink RX4 33 "HeldShelves" "report" "LHeldShelves$Report;", Cond.methodLink RX4 193 yX2_closeHold, Cond.instanceMethod yX2_closeHold, Cond.selects RX2 yX2_closeHold yX2_closeHold, Cond.initialized RX2, Cond.code yX2_closeHold cX2_closeHold 1 none, Cond.fieldLink RX2 35 "HeldShelves$Report" "holdsOpen" "I", Cond.methodLink RX4 198 yX3_release, Cond.instanceMethod yX3_release, Cond.selects RX3 yX3_release yX3_release, Cond.code yX3_release cX3_release 2 none, Cond.fieldLink RX3 18 "HeldShelves$Stock" "held" "[I", Cond.methodLink RX4 214 yX4_leaveGuard, Cond.instanceMethod yX4_leaveGuard, Cond.selects RX4 yX4_leaveGuard yX4_leaveGuard, Cond.code yX4_leaveGuard cX4_leaveGuard 4 (some .boolean), Cond.methodLink RX4 220 yX2_countCaught, Cond.instanceMethod yX2_countCaught, Cond.selects RX2 yX2_countCaught yX2_countCaught, Cond.code yX2_countCaught cX2_countCaught 2 none, Cond.fieldLink RX2 9 "HeldShelves$Report" "caughtOf" "[I"]
def wsX4_leaveOpen_r4 : List Cond := [Cond.fieldLink RX2 22 "HeldShelves$Report" "caughtInAll" "I"]
def wsX4_leaveOpen : List Cond := .code yX4_leaveOpen cX4_leaveOpen 4 (some .boolean) :: ((wsX4_leaveOpen_r1 ++ (wsX4_leaveOpen_r2 ++ (wsX4_leaveOpen_r3 ++ wsX4_leaveOpen_r4))) ++ wsX40 ++ wsX00 ++ wsX30 ++ wsX20)
def wsX4_stop_r1 : List Cond := [Cond.fieldLink RX4 33 "HeldShelves" "report" "LHeldShelves$Report;", Cond.fieldLink RX4 70 "HeldShelves" "planNow" "I", Cond.fieldLink RX4 74 "HeldShelves" "next" "I", Cond.methodLink RX4 126 yX2_endAt, Cond.instanceMethod yX2_endAt, Cond.selects RX2 yX2_endAt yX2_endAt, Cond.initialized RX2, Cond.code yX2_endAt cX2_endAt 4 none, Cond.fieldLink RX2 44 "HeldShelves$Report" "failure" "I", Cond.fieldLink RX2 15 "HeldShelves$Report" "plan" "I", Cond.fieldLink RX2 19 "HeldShelves$Report" "act" "I", Cond.methodLink RX4 130 yX4_leaveOpen, Cond.instanceMethod yX4_leaveOpen, Cond.selects RX4 yX4_leaveOpen yX4_leaveOpen, Cond.initialized RX4, Cond.code yX4_leaveOpen cX4_leaveOpen 4 (some .boolean), Cond.fieldLink RX4 26 "HeldShelves" "open" "LHeldShelves$OpenRow;", Cond.methodLink RX4 210 yX0_size, Cond.instanceMethod yX0_size, Cond.selects RX0 yX0_size yX0_size, Cond.initialized RX0, Cond.code yX0_size cX0_size 1 (some .int), Cond.fieldLink RX0 21 "HeldShelves$OpenRow" "count" "I", Cond.methodLink RX4 190 yX0_kind]
def wsX4_stop_r2 : List Cond := [Cond.instanceMethod yX0_kind, Cond.selects RX0 yX0_kind yX0_kind, Cond.code yX0_kind cX0_kind 1 (some .int), Cond.fieldLink RX0 9 "HeldShelves$OpenRow" "kinds" "[I", Cond.methodLink RX4 114 yX4_leaveCall, Cond.instanceMethod yX4_leaveCall, Cond.selects RX4 yX4_leaveCall yX4_leaveCall, Cond.code yX4_leaveCall cX4_leaveCall 1 none, Cond.fieldLink RX4 77 "HeldShelves" "level" "I", Cond.methodLink RX4 196 yX0_number, Cond.instanceMethod yX0_number, Cond.selects RX0 yX0_number yX0_number, Cond.code yX0_number cX0_number 1 (some .int), Cond.fieldLink RX0 15 "HeldShelves$OpenRow" "numbers" "[I", Cond.methodLink RX4 207 yX0_behind, Cond.instanceMethod yX0_behind, Cond.selects RX0 yX0_behind yX0_behind, Cond.code yX0_behind cX0_behind 1 (some .int), Cond.fieldLink RX0 18 "HeldShelves$OpenRow" "behinds" "[I", Cond.methodLink RX4 201 yX0_pop, Cond.instanceMethod yX0_pop, Cond.selects RX0 yX0_pop yX0_pop, Cond.code yX0_pop cX0_pop 1 none, Cond.methodLink RX4 211 yX4_leaveHold]
def wsX4_stop_r3 : List Cond := [Cond.instanceMethod yX4_leaveHold, Cond.selects RX4 yX4_leaveHold yX4_leaveHold, Cond.code yX4_leaveHold cX4_leaveHold 1 none, Cond.fieldLink RX4 19 "HeldShelves" "stock" "LHeldShelves$Stock;", Cond.methodLink RX4 217 yX3_countLeft, Cond.instanceMethod yX3_countLeft, Cond.selects RX3 yX3_countLeft yX3_countLeft, Cond.initialized RX3, Cond.code yX3_countLeft cX3_countLeft 2 none, Cond.fieldLink RX3 15 "HeldShelves$Stock" "left" "[I", Cond.static yX4_isShelf, Cond.code yX4_isShelf cX4_isShelf 1 (some .boolean), Cond.methodLink RX4 158 yX4_endBlock, Cond.instanceMethod yX4_endBlock, Cond.selects RX4 yX4_endBlock yX4_endBlock, Cond.code yX4_endBlock cX4_endBlock 1 (some .int), Cond.methodLink RX4 193 yX2_closeHold, Cond.instanceMethod yX2_closeHold, Cond.selects RX2 yX2_closeHold yX2_closeHold, Cond.code yX2_closeHold cX2_closeHold 1 none, Cond.fieldLink RX2 35 "HeldShelves$Report" "holdsOpen" "I", Cond.methodLink RX4 198 yX3_release, Cond.instanceMethod yX3_release, Cond.selects RX3 yX3_release yX3_release]
def wsX4_stop_r4 : List Cond := [Cond.code yX3_release cX3_release 2 none, Cond.fieldLink RX3 18 "HeldShelves$Stock" "held" "[I", Cond.methodLink RX4 214 yX4_leaveGuard, Cond.instanceMethod yX4_leaveGuard, Cond.selects RX4 yX4_leaveGuard yX4_leaveGuard, Cond.code yX4_leaveGuard cX4_leaveGuard 4 (some .boolean), Cond.methodLink RX4 220 yX2_countCaught, Cond.instanceMethod yX2_countCaught, Cond.selects RX2 yX2_countCaught yX2_countCaught, Cond.code yX2_countCaught cX2_countCaught 2 none, Cond.fieldLink RX2 9 "HeldShelves$Report" "caughtOf" "[I", Cond.fieldLink RX2 22 "HeldShelves$Report" "caughtInAll" "I"]
def wsX4_stop : List Cond := .code yX4_stop cX4_stop 1 (some .int) :: ((wsX4_stop_r1 ++ (wsX4_stop_r2 ++ (wsX4_stop_r3 ++ wsX4_stop_r4))) ++ wsX40 ++ wsX20 ++ wsX00 ++ wsX30)
def wsX4_hold_r1 : List Cond := [Cond.fieldLink RX4 19 "HeldShelves" "stock" "LHeldShelves$Stock;", Cond.fieldLink RX4 33 "HeldShelves" "report" "LHeldShelves$Report;", Cond.fieldLink RX4 26 "HeldShelves" "open" "LHeldShelves$OpenRow;", Cond.methodLink RX4 180 yX3_missing, Cond.instanceMethod yX3_missing, Cond.selects RX3 yX3_missing yX3_missing, Cond.initialized RX3, Cond.code yX3_missing cX3_missing 2 (some .int), Cond.static yX4_isShelf, Cond.initialized RX4, Cond.code yX4_isShelf cX4_isShelf 1 (some .boolean), Cond.methodLink RX3 25 yX3_isThere, Cond.instanceMethod yX3_isThere, Cond.selects RX3 yX3_isThere yX3_isThere, Cond.code yX3_isThere cX3_isThere 2 (some .boolean), Cond.fieldLink RX3 9 "HeldShelves$Stock" "goods" "[I", Cond.methodLink RX4 183 yX3_holdOnce, Cond.instanceMethod yX3_holdOnce, Cond.selects RX3 yX3_holdOnce yX3_holdOnce, Cond.code yX3_holdOnce cX3_holdOnce 2 none, Cond.fieldLink RX3 18 "HeldShelves$Stock" "held" "[I", Cond.methodLink RX4 187 yX2_openHold, Cond.instanceMethod yX2_openHold, Cond.selects RX2 yX2_openHold yX2_openHold]
def wsX4_hold_r2 : List Cond := [Cond.initialized RX2, Cond.code yX2_openHold cX2_openHold 1 none, Cond.fieldLink RX2 32 "HeldShelves$Report" "holds" "I", Cond.fieldLink RX2 35 "HeldShelves$Report" "holdsOpen" "I", Cond.fieldLink RX2 38 "HeldShelves$Report" "mostOpen" "I", Cond.methodLink RX2 47 Lib.Math.max.name, Cond.static Lib.Math.max.name, Cond.initialized "java/lang/Math", Cond.code Lib.Math.max.name Lib.Math.max.code 2 (some .int), Cond.methodLink RX4 155 yX0_push, Cond.instanceMethod yX0_push, Cond.selects RX0 yX0_push yX0_push, Cond.initialized RX0, Cond.code yX0_push cX0_push 4 none, Cond.fieldLink RX0 21 "HeldShelves$OpenRow" "count" "I", Cond.fieldLink RX0 9 "HeldShelves$OpenRow" "kinds" "[I", Cond.fieldLink RX0 15 "HeldShelves$OpenRow" "numbers" "[I", Cond.fieldLink RX0 18 "HeldShelves$OpenRow" "behinds" "[I"]
def wsX4_hold : List Cond := .code yX4_hold cX4_hold 3 (some .int) :: ((wsX4_hold_r1 ++ wsX4_hold_r2) ++ wsX40 ++ wsX30 ++ wsX20 ++ wsX00)
def wsX4_call_r1 : List Cond := [Cond.fieldLink RX4 77 "HeldShelves" "level" "I", Cond.fieldLink RX4 11 "HeldShelves" "plans" "[LHeldShelves$Plan;", Cond.fieldLink RX4 33 "HeldShelves" "report" "LHeldShelves$Report;", Cond.fieldLink RX4 26 "HeldShelves" "open" "LHeldShelves$OpenRow;", Cond.fieldLink RX4 70 "HeldShelves" "planNow" "I", Cond.fieldLink RX4 74 "HeldShelves" "next" "I", Cond.methodLink RX4 37 yX4_isPlan, Cond.static yX4_isPlan, Cond.initialized RX4, Cond.code yX4_isPlan cX4_isPlan 1 (some .boolean), Cond.methodLink RX4 56 yX1_isClosed, Cond.instanceMethod yX1_isClosed, Cond.selects RX1 yX1_isClosed yX1_isClosed, Cond.initialized RX1, Cond.code yX1_isClosed cX1_isClosed 3 (some .boolean), Cond.fieldLink RX1 15 "HeldShelves$Plan" "count" "I", Cond.methodLink RX1 23 yX1_deeperBy, Cond.instanceMethod yX1_deeperBy, Cond.selects RX1 yX1_deeperBy yX1_deeperBy, Cond.code yX1_deeperBy cX1_deeperBy 3 (some .int), Cond.methodLink RX1 26 yX1_kindOf, Cond.instanceMethod yX1_kindOf, Cond.selects RX1 yX1_kindOf yX1_kindOf, Cond.code yX1_kindOf cX1_kindOf 2 (some .int)]
def wsX4_call_r2 : List Cond := [Cond.methodLink RX1 19 yX1_digitsOf, Cond.instanceMethod yX1_digitsOf, Cond.selects RX1 yX1_digitsOf yX1_digitsOf, Cond.code yX1_digitsOf cX1_digitsOf 2 (some .int), Cond.fieldLink RX1 9 "HeldShelves$Plan" "acts" "[I", Cond.methodLink RX4 204 yX2_countCall, Cond.instanceMethod yX2_countCall, Cond.selects RX2 yX2_countCall yX2_countCall, Cond.initialized RX2, Cond.code yX2_countCall cX2_countCall 1 none, Cond.fieldLink RX2 41 "HeldShelves$Report" "calls" "I", Cond.methodLink RX4 155 yX0_push, Cond.instanceMethod yX0_push, Cond.selects RX0 yX0_push yX0_push, Cond.initialized RX0, Cond.code yX0_push cX0_push 4 none, Cond.fieldLink RX0 21 "HeldShelves$OpenRow" "count" "I", Cond.fieldLink RX0 9 "HeldShelves$OpenRow" "kinds" "[I", Cond.fieldLink RX0 15 "HeldShelves$OpenRow" "numbers" "[I", Cond.fieldLink RX0 18 "HeldShelves$OpenRow" "behinds" "[I"]
def wsX4_call : List Cond := .code yX4_call cX4_call 2 (some .int) :: ((wsX4_call_r1 ++ wsX4_call_r2) ++ wsX40 ++ wsX10 ++ wsX20 ++ wsX00)
def wsX4_doAct_r1 : List Cond := [Cond.fieldLink RX4 26 "HeldShelves" "open" "LHeldShelves$OpenRow;", Cond.fieldLink RX4 19 "HeldShelves" "stock" "LHeldShelves$Stock;", Cond.methodLink RX4 140 yX1_aOf, Cond.instanceMethod yX1_aOf, Cond.selects RX1 yX1_aOf yX1_aOf, Cond.initialized RX1, Cond.code yX1_aOf cX1_aOf 2 (some .int), Cond.methodLink RX1 19 yX1_digitsOf, Cond.instanceMethod yX1_digitsOf, Cond.selects RX1 yX1_digitsOf yX1_digitsOf, Cond.code yX1_digitsOf cX1_digitsOf 2 (some .int), Cond.fieldLink RX1 15 "HeldShelves$Plan" "count" "I", Cond.fieldLink RX1 9 "HeldShelves$Plan" "acts" "[I", Cond.methodLink RX4 143 yX1_bOf, Cond.instanceMethod yX1_bOf, Cond.selects RX1 yX1_bOf yX1_bOf, Cond.code yX1_bOf cX1_bOf 2 (some .int), Cond.methodLink RX4 146 yX1_kindOf, Cond.instanceMethod yX1_kindOf, Cond.selects RX1 yX1_kindOf yX1_kindOf, Cond.code yX1_kindOf cX1_kindOf 2 (some .int), Cond.methodLink RX4 149 yX4_hold, Cond.instanceMethod yX4_hold, Cond.selects RX4 yX4_hold yX4_hold]
def wsX4_doAct_r2 : List Cond := [Cond.initialized RX4, Cond.code yX4_hold cX4_hold 3 (some .int), Cond.fieldLink RX4 33 "HeldShelves" "report" "LHeldShelves$Report;", Cond.methodLink RX4 180 yX3_missing, Cond.instanceMethod yX3_missing, Cond.selects RX3 yX3_missing yX3_missing, Cond.initialized RX3, Cond.code yX3_missing cX3_missing 2 (some .int), Cond.static yX4_isShelf, Cond.code yX4_isShelf cX4_isShelf 1 (some .boolean), Cond.methodLink RX3 25 yX3_isThere, Cond.instanceMethod yX3_isThere, Cond.selects RX3 yX3_isThere yX3_isThere, Cond.code yX3_isThere cX3_isThere 2 (some .boolean), Cond.fieldLink RX3 9 "HeldShelves$Stock" "goods" "[I", Cond.methodLink RX4 183 yX3_holdOnce, Cond.instanceMethod yX3_holdOnce, Cond.selects RX3 yX3_holdOnce yX3_holdOnce, Cond.code yX3_holdOnce cX3_holdOnce 2 none, Cond.fieldLink RX3 18 "HeldShelves$Stock" "held" "[I", Cond.methodLink RX4 187 yX2_openHold, Cond.instanceMethod yX2_openHold, Cond.selects RX2 yX2_openHold yX2_openHold, Cond.initialized RX2]
def wsX4_doAct_r3 : List Cond := [Cond.code yX2_openHold cX2_openHold 1 none, Cond.fieldLink RX2 32 "HeldShelves$Report" "holds" "I", Cond.fieldLink RX2 35 "HeldShelves$Report" "holdsOpen" "I", Cond.fieldLink RX2 38 "HeldShelves$Report" "mostOpen" "I", Cond.methodLink RX2 47 Lib.Math.max.name, Cond.static Lib.Math.max.name, Cond.initialized "java/lang/Math", Cond.code Lib.Math.max.name Lib.Math.max.code 2 (some .int), Cond.methodLink RX4 155 yX0_push, Cond.instanceMethod yX0_push, Cond.selects RX0 yX0_push yX0_push, Cond.initialized RX0, Cond.code yX0_push cX0_push 4 none, Cond.fieldLink RX0 21 "HeldShelves$OpenRow" "count" "I", Cond.fieldLink RX0 9 "HeldShelves$OpenRow" "kinds" "[I", Cond.fieldLink RX0 15 "HeldShelves$OpenRow" "numbers" "[I", Cond.fieldLink RX0 18 "HeldShelves$OpenRow" "behinds" "[I", Cond.methodLink RX4 152 yX1_behindBlock, Cond.instanceMethod yX1_behindBlock, Cond.selects RX1 yX1_behindBlock yX1_behindBlock, Cond.code yX1_behindBlock cX1_behindBlock 4 (some .int), Cond.methodLink RX1 23 yX1_deeperBy, Cond.instanceMethod yX1_deeperBy, Cond.selects RX1 yX1_deeperBy yX1_deeperBy]
def wsX4_doAct_r4 : List Cond := [Cond.code yX1_deeperBy cX1_deeperBy 3 (some .int), Cond.methodLink RX1 26 yX1_kindOf, Cond.methodLink RX4 158 yX4_endBlock, Cond.instanceMethod yX4_endBlock, Cond.selects RX4 yX4_endBlock yX4_endBlock, Cond.code yX4_endBlock cX4_endBlock 1 (some .int), Cond.methodLink RX4 190 yX0_kind, Cond.instanceMethod yX0_kind, Cond.selects RX0 yX0_kind yX0_kind, Cond.code yX0_kind cX0_kind 1 (some .int), Cond.methodLink RX4 193 yX2_closeHold, Cond.instanceMethod yX2_closeHold, Cond.selects RX2 yX2_closeHold yX2_closeHold, Cond.code yX2_closeHold cX2_closeHold 1 none, Cond.methodLink RX4 196 yX0_number, Cond.instanceMethod yX0_number, Cond.selects RX0 yX0_number yX0_number, Cond.code yX0_number cX0_number 1 (some .int), Cond.methodLink RX4 198 yX3_release, Cond.instanceMethod yX3_release, Cond.selects RX3 yX3_release yX3_release, Cond.code yX3_release cX3_release 2 none, Cond.methodLink RX4 201 yX0_pop, Cond.instanceMethod yX0_pop]
def wsX4_doAct_r5 : List Cond := [Cond.selects RX0 yX0_pop yX0_pop, Cond.code yX0_pop cX0_pop 1 none, Cond.methodLink RX4 161 yX3_put, Cond.instanceMethod yX3_put, Cond.selects RX3 yX3_put yX3_put, Cond.code yX3_put cX3_put 4 (some .int), Cond.methodLink RX3 36 yX3_missingOrLoose, Cond.instanceMethod yX3_missingOrLoose, Cond.selects RX3 yX3_missingOrLoose yX3_missingOrLoose, Cond.code yX3_missingOrLoose cX3_missingOrLoose 3 (some .int), Cond.methodLink RX3 39 yX3_missing, Cond.methodLink RX4 164 yX3_take, Cond.instanceMethod yX3_take, Cond.selects RX3 yX3_take yX3_take, Cond.code yX3_take cX3_take 4 (some .int), Cond.methodLink RX4 167 yX3_share, Cond.instanceMethod yX3_share, Cond.selects RX3 yX3_share yX3_share, Cond.code yX3_share cX3_share 5 (some .int), Cond.fieldLink RX3 28 "HeldShelves$Stock" "rest" "I", Cond.methodLink RX4 170 yX1_cOf, Cond.instanceMethod yX1_cOf, Cond.selects RX1 yX1_cOf yX1_cOf, Cond.code yX1_cOf cX1_cOf 2 (some .int)]
def wsX4_doAct_r6 : List Cond := [Cond.methodLink RX4 173 yX3_move, Cond.instanceMethod yX3_move, Cond.selects RX3 yX3_move yX3_move, Cond.code yX3_move cX3_move 4 (some .int), Cond.methodLink RX4 177 yX4_call, Cond.instanceMethod yX4_call, Cond.selects RX4 yX4_call yX4_call, Cond.code yX4_call cX4_call 2 (some .int), Cond.fieldLink RX4 77 "HeldShelves" "level" "I", Cond.fieldLink RX4 11 "HeldShelves" "plans" "[LHeldShelves$Plan;", Cond.fieldLink RX4 70 "HeldShelves" "planNow" "I", Cond.fieldLink RX4 74 "HeldShelves" "next" "I", Cond.methodLink RX4 37 yX4_isPlan, Cond.static yX4_isPlan, Cond.code yX4_isPlan cX4_isPlan 1 (some .boolean), Cond.methodLink RX4 56 yX1_isClosed, Cond.instanceMethod yX1_isClosed, Cond.selects RX1 yX1_isClosed yX1_isClosed, Cond.code yX1_isClosed cX1_isClosed 3 (some .boolean), Cond.methodLink RX4 204 yX2_countCall, Cond.instanceMethod yX2_countCall, Cond.selects RX2 yX2_countCall yX2_countCall, Cond.code yX2_countCall cX2_countCall 1 none, Cond.fieldLink RX2 41 "HeldShelves$Report" "calls" "I"]
def wsX4_doAct : List Cond := .code yX4_doAct cX4_doAct 5 (some .int) :: ((wsX4_doAct_r1 ++ (wsX4_doAct_r2 ++ (wsX4_doAct_r3 ++ (wsX4_doAct_r4 ++ (wsX4_doAct_r5 ++ wsX4_doAct_r6))))) ++ wsX40 ++ wsX10 ++ wsX30 ++ wsX20 ++ wsX00)
def wsX4_doStep_r1 : List Cond := [Cond.fieldLink RX4 70 "HeldShelves" "planNow" "I", Cond.fieldLink RX4 74 "HeldShelves" "next" "I", Cond.fieldLink RX4 33 "HeldShelves" "report" "LHeldShelves$Report;", Cond.fieldLink RX4 11 "HeldShelves" "plans" "[LHeldShelves$Plan;", Cond.methodLink RX4 133 yX2_countStep, Cond.instanceMethod yX2_countStep, Cond.selects RX2 yX2_countStep yX2_countStep, Cond.initialized RX2, Cond.code yX2_countStep cX2_countStep 1 none, Cond.fieldLink RX2 29 "HeldShelves$Report" "steps" "I", Cond.methodLink RX4 136 yX4_doAct, Cond.instanceMethod yX4_doAct, Cond.selects RX4 yX4_doAct yX4_doAct, Cond.initialized RX4, Cond.code yX4_doAct cX4_doAct 5 (some .int), Cond.fieldLink RX4 26 "HeldShelves" "open" "LHeldShelves$OpenRow;", Cond.fieldLink RX4 19 "HeldShelves" "stock" "LHeldShelves$Stock;", Cond.methodLink RX4 140 yX1_aOf, Cond.instanceMethod yX1_aOf, Cond.selects RX1 yX1_aOf yX1_aOf, Cond.initialized RX1, Cond.code yX1_aOf cX1_aOf 2 (some .int), Cond.methodLink RX1 19 yX1_digitsOf, Cond.instanceMethod yX1_digitsOf]
def wsX4_doStep_r2 : List Cond := [Cond.selects RX1 yX1_digitsOf yX1_digitsOf, Cond.code yX1_digitsOf cX1_digitsOf 2 (some .int), Cond.fieldLink RX1 15 "HeldShelves$Plan" "count" "I", Cond.fieldLink RX1 9 "HeldShelves$Plan" "acts" "[I", Cond.methodLink RX4 143 yX1_bOf, Cond.instanceMethod yX1_bOf, Cond.selects RX1 yX1_bOf yX1_bOf, Cond.code yX1_bOf cX1_bOf 2 (some .int), Cond.methodLink RX4 146 yX1_kindOf, Cond.instanceMethod yX1_kindOf, Cond.selects RX1 yX1_kindOf yX1_kindOf, Cond.code yX1_kindOf cX1_kindOf 2 (some .int), Cond.methodLink RX4 149 yX4_hold, Cond.instanceMethod yX4_hold, Cond.selects RX4 yX4_hold yX4_hold, Cond.code yX4_hold cX4_hold 3 (some .int), Cond.methodLink RX4 180 yX3_missing, Cond.instanceMethod yX3_missing, Cond.selects RX3 yX3_missing yX3_missing, Cond.initialized RX3, Cond.code yX3_missing cX3_missing 2 (some .int), Cond.static yX4_isShelf, Cond.code yX4_isShelf cX4_isShelf 1 (some .boolean), Cond.methodLink RX3 25 yX3_isThere]
def wsX4_doStep_r3 : List Cond := [Cond.instanceMethod yX3_isThere, Cond.selects RX3 yX3_isThere yX3_isThere, Cond.code yX3_isThere cX3_isThere 2 (some .boolean), Cond.fieldLink RX3 9 "HeldShelves$Stock" "goods" "[I", Cond.methodLink RX4 183 yX3_holdOnce, Cond.instanceMethod yX3_holdOnce, Cond.selects RX3 yX3_holdOnce yX3_holdOnce, Cond.code yX3_holdOnce cX3_holdOnce 2 none, Cond.fieldLink RX3 18 "HeldShelves$Stock" "held" "[I", Cond.methodLink RX4 187 yX2_openHold, Cond.instanceMethod yX2_openHold, Cond.selects RX2 yX2_openHold yX2_openHold, Cond.code yX2_openHold cX2_openHold 1 none, Cond.fieldLink RX2 32 "HeldShelves$Report" "holds" "I", Cond.fieldLink RX2 35 "HeldShelves$Report" "holdsOpen" "I", Cond.fieldLink RX2 38 "HeldShelves$Report" "mostOpen" "I", Cond.methodLink RX2 47 Lib.Math.max.name, Cond.static Lib.Math.max.name, Cond.initialized "java/lang/Math", Cond.code Lib.Math.max.name Lib.Math.max.code 2 (some .int), Cond.methodLink RX4 155 yX0_push, Cond.instanceMethod yX0_push, Cond.selects RX0 yX0_push yX0_push, Cond.initialized RX0]
def wsX4_doStep_r4 : List Cond := [Cond.code yX0_push cX0_push 4 none, Cond.fieldLink RX0 21 "HeldShelves$OpenRow" "count" "I", Cond.fieldLink RX0 9 "HeldShelves$OpenRow" "kinds" "[I", Cond.fieldLink RX0 15 "HeldShelves$OpenRow" "numbers" "[I", Cond.fieldLink RX0 18 "HeldShelves$OpenRow" "behinds" "[I", Cond.methodLink RX4 152 yX1_behindBlock, Cond.instanceMethod yX1_behindBlock, Cond.selects RX1 yX1_behindBlock yX1_behindBlock, Cond.code yX1_behindBlock cX1_behindBlock 4 (some .int), Cond.methodLink RX1 23 yX1_deeperBy, Cond.instanceMethod yX1_deeperBy, Cond.selects RX1 yX1_deeperBy yX1_deeperBy, Cond.code yX1_deeperBy cX1_deeperBy 3 (some .int), Cond.methodLink RX1 26 yX1_kindOf, Cond.methodLink RX4 158 yX4_endBlock, Cond.instanceMethod yX4_endBlock, Cond.selects RX4 yX4_endBlock yX4_endBlock, Cond.code yX4_endBlock cX4_endBlock 1 (some .int), Cond.methodLink RX4 190 yX0_kind, Cond.instanceMethod yX0_kind, Cond.selects RX0 yX0_kind yX0_kind, Cond.code yX0_kind cX0_kind 1 (some .int), Cond.methodLink RX4 193 yX2_closeHold, Cond.instanceMethod yX2_closeHold]
def wsX4_doStep_r5 : List Cond := [Cond.selects RX2 yX2_closeHold yX2_closeHold, Cond.code yX2_closeHold cX2_closeHold 1 none, Cond.methodLink RX4 196 yX0_number, Cond.instanceMethod yX0_number, Cond.selects RX0 yX0_number yX0_number, Cond.code yX0_number cX0_number 1 (some .int), Cond.methodLink RX4 198 yX3_release, Cond.instanceMethod yX3_release, Cond.selects RX3 yX3_release yX3_release, Cond.code yX3_release cX3_release 2 none, Cond.methodLink RX4 201 yX0_pop, Cond.instanceMethod yX0_pop, Cond.selects RX0 yX0_pop yX0_pop, Cond.code yX0_pop cX0_pop 1 none, Cond.methodLink RX4 161 yX3_put, Cond.instanceMethod yX3_put, Cond.selects RX3 yX3_put yX3_put, Cond.code yX3_put cX3_put 4 (some .int), Cond.methodLink RX3 36 yX3_missingOrLoose, Cond.instanceMethod yX3_missingOrLoose, Cond.selects RX3 yX3_missingOrLoose yX3_missingOrLoose, Cond.code yX3_missingOrLoose cX3_missingOrLoose 3 (some .int), Cond.methodLink RX3 39 yX3_missing, Cond.methodLink RX4 164 yX3_take]
def wsX4_doStep_r6 : List Cond := [Cond.instanceMethod yX3_take, Cond.selects RX3 yX3_take yX3_take, Cond.code yX3_take cX3_take 4 (some .int), Cond.methodLink RX4 167 yX3_share, Cond.instanceMethod yX3_share, Cond.selects RX3 yX3_share yX3_share, Cond.code yX3_share cX3_share 5 (some .int), Cond.fieldLink RX3 28 "HeldShelves$Stock" "rest" "I", Cond.methodLink RX4 170 yX1_cOf, Cond.instanceMethod yX1_cOf, Cond.selects RX1 yX1_cOf yX1_cOf, Cond.code yX1_cOf cX1_cOf 2 (some .int), Cond.methodLink RX4 173 yX3_move, Cond.instanceMethod yX3_move, Cond.selects RX3 yX3_move yX3_move, Cond.code yX3_move cX3_move 4 (some .int), Cond.methodLink RX4 177 yX4_call, Cond.instanceMethod yX4_call, Cond.selects RX4 yX4_call yX4_call, Cond.code yX4_call cX4_call 2 (some .int), Cond.fieldLink RX4 77 "HeldShelves" "level" "I", Cond.methodLink RX4 37 yX4_isPlan, Cond.static yX4_isPlan, Cond.code yX4_isPlan cX4_isPlan 1 (some .boolean)]
def wsX4_doStep_r7 : List Cond := [Cond.methodLink RX4 56 yX1_isClosed, Cond.instanceMethod yX1_isClosed, Cond.selects RX1 yX1_isClosed yX1_isClosed, Cond.code yX1_isClosed cX1_isClosed 3 (some .boolean), Cond.methodLink RX4 204 yX2_countCall, Cond.instanceMethod yX2_countCall, Cond.selects RX2 yX2_countCall yX2_countCall, Cond.code yX2_countCall cX2_countCall 1 none, Cond.fieldLink RX2 41 "HeldShelves$Report" "calls" "I", Cond.methodLink RX4 130 yX4_leaveOpen, Cond.instanceMethod yX4_leaveOpen, Cond.selects RX4 yX4_leaveOpen yX4_leaveOpen, Cond.code yX4_leaveOpen cX4_leaveOpen 4 (some .boolean), Cond.methodLink RX4 210 yX0_size, Cond.instanceMethod yX0_size, Cond.selects RX0 yX0_size yX0_size, Cond.code yX0_size cX0_size 1 (some .int), Cond.methodLink RX4 114 yX4_leaveCall, Cond.instanceMethod yX4_leaveCall, Cond.selects RX4 yX4_leaveCall yX4_leaveCall, Cond.code yX4_leaveCall cX4_leaveCall 1 none, Cond.methodLink RX4 207 yX0_behind, Cond.instanceMethod yX0_behind, Cond.selects RX0 yX0_behind yX0_behind]
def wsX4_doStep_r8 : List Cond := [Cond.code yX0_behind cX0_behind 1 (some .int), Cond.methodLink RX4 211 yX4_leaveHold, Cond.instanceMethod yX4_leaveHold, Cond.selects RX4 yX4_leaveHold yX4_leaveHold, Cond.code yX4_leaveHold cX4_leaveHold 1 none, Cond.methodLink RX4 217 yX3_countLeft, Cond.instanceMethod yX3_countLeft, Cond.selects RX3 yX3_countLeft yX3_countLeft, Cond.code yX3_countLeft cX3_countLeft 2 none, Cond.fieldLink RX3 15 "HeldShelves$Stock" "left" "[I", Cond.methodLink RX4 214 yX4_leaveGuard, Cond.instanceMethod yX4_leaveGuard, Cond.selects RX4 yX4_leaveGuard yX4_leaveGuard, Cond.code yX4_leaveGuard cX4_leaveGuard 4 (some .boolean), Cond.methodLink RX4 220 yX2_countCaught, Cond.instanceMethod yX2_countCaught, Cond.selects RX2 yX2_countCaught yX2_countCaught, Cond.code yX2_countCaught cX2_countCaught 2 none, Cond.fieldLink RX2 9 "HeldShelves$Report" "caughtOf" "[I", Cond.fieldLink RX2 22 "HeldShelves$Report" "caughtInAll" "I", Cond.methodLink RX4 126 yX2_endAt, Cond.instanceMethod yX2_endAt, Cond.selects RX2 yX2_endAt yX2_endAt, Cond.code yX2_endAt cX2_endAt 4 none]
def wsX4_doStep_r9 : List Cond := [Cond.fieldLink RX2 44 "HeldShelves$Report" "failure" "I", Cond.fieldLink RX2 15 "HeldShelves$Report" "plan" "I", Cond.fieldLink RX2 19 "HeldShelves$Report" "act" "I"]
def wsX4_doStep : List Cond := .code yX4_doStep cX4_doStep 4 (some .boolean) :: ((wsX4_doStep_r1 ++ (wsX4_doStep_r2 ++ (wsX4_doStep_r3 ++ (wsX4_doStep_r4 ++ (wsX4_doStep_r5 ++ (wsX4_doStep_r6 ++ (wsX4_doStep_r7 ++ (wsX4_doStep_r8 ++ wsX4_doStep_r9)))))))) ++ wsX40 ++ wsX20 ++ wsX10 ++ wsX30 ++ wsX00)
def wsX4_doActs_r1 : List Cond := [Cond.fieldLink RX4 74 "HeldShelves" "next" "I", Cond.fieldLink RX4 11 "HeldShelves" "plans" "[LHeldShelves$Plan;", Cond.fieldLink RX4 70 "HeldShelves" "planNow" "I", Cond.fieldLink RX4 77 "HeldShelves" "level" "I", Cond.fieldLink RX4 33 "HeldShelves" "report" "LHeldShelves$Report;", Cond.methodLink RX4 111 yX1_size, Cond.instanceMethod yX1_size, Cond.selects RX1 yX1_size yX1_size, Cond.initialized RX1, Cond.code yX1_size cX1_size 1 (some .int), Cond.fieldLink RX1 15 "HeldShelves$Plan" "count" "I", Cond.methodLink RX4 114 yX4_leaveCall, Cond.instanceMethod yX4_leaveCall, Cond.selects RX4 yX4_leaveCall yX4_leaveCall, Cond.initialized RX4, Cond.code yX4_leaveCall cX4_leaveCall 1 none, Cond.fieldLink RX4 26 "HeldShelves" "open" "LHeldShelves$OpenRow;", Cond.methodLink RX4 196 yX0_number, Cond.instanceMethod yX0_number, Cond.selects RX0 yX0_number yX0_number, Cond.initialized RX0, Cond.code yX0_number cX0_number 1 (some .int), Cond.fieldLink RX0 21 "HeldShelves$OpenRow" "count" "I", Cond.fieldLink RX0 15 "HeldShelves$OpenRow" "numbers" "[I"]
def wsX4_doActs_r2 : List Cond := [Cond.methodLink RX4 207 yX0_behind, Cond.instanceMethod yX0_behind, Cond.selects RX0 yX0_behind yX0_behind, Cond.code yX0_behind cX0_behind 1 (some .int), Cond.fieldLink RX0 18 "HeldShelves$OpenRow" "behinds" "[I", Cond.methodLink RX4 201 yX0_pop, Cond.instanceMethod yX0_pop, Cond.selects RX0 yX0_pop yX0_pop, Cond.code yX0_pop cX0_pop 1 none, Cond.methodLink RX4 117 yX2_steps, Cond.instanceMethod yX2_steps, Cond.selects RX2 yX2_steps yX2_steps, Cond.initialized RX2, Cond.code yX2_steps cX2_steps 1 (some .int), Cond.fieldLink RX2 29 "HeldShelves$Report" "steps" "I", Cond.methodLink RX4 120 yX4_stop, Cond.instanceMethod yX4_stop, Cond.selects RX4 yX4_stop yX4_stop, Cond.code yX4_stop cX4_stop 1 (some .int), Cond.methodLink RX4 126 yX2_endAt, Cond.instanceMethod yX2_endAt, Cond.selects RX2 yX2_endAt yX2_endAt, Cond.code yX2_endAt cX2_endAt 4 none, Cond.fieldLink RX2 44 "HeldShelves$Report" "failure" "I"]
def wsX4_doActs_r3 : List Cond := [Cond.fieldLink RX2 15 "HeldShelves$Report" "plan" "I", Cond.fieldLink RX2 19 "HeldShelves$Report" "act" "I", Cond.methodLink RX4 130 yX4_leaveOpen, Cond.instanceMethod yX4_leaveOpen, Cond.selects RX4 yX4_leaveOpen yX4_leaveOpen, Cond.code yX4_leaveOpen cX4_leaveOpen 4 (some .boolean), Cond.methodLink RX4 210 yX0_size, Cond.instanceMethod yX0_size, Cond.selects RX0 yX0_size yX0_size, Cond.code yX0_size cX0_size 1 (some .int), Cond.methodLink RX4 190 yX0_kind, Cond.instanceMethod yX0_kind, Cond.selects RX0 yX0_kind yX0_kind, Cond.code yX0_kind cX0_kind 1 (some .int), Cond.fieldLink RX0 9 "HeldShelves$OpenRow" "kinds" "[I", Cond.methodLink RX4 211 yX4_leaveHold, Cond.instanceMethod yX4_leaveHold, Cond.selects RX4 yX4_leaveHold yX4_leaveHold, Cond.code yX4_leaveHold cX4_leaveHold 1 none, Cond.fieldLink RX4 19 "HeldShelves" "stock" "LHeldShelves$Stock;", Cond.methodLink RX4 217 yX3_countLeft, Cond.instanceMethod yX3_countLeft, Cond.selects RX3 yX3_countLeft yX3_countLeft, Cond.initialized RX3]
def wsX4_doActs_r4 : List Cond := [Cond.code yX3_countLeft cX3_countLeft 2 none, Cond.fieldLink RX3 15 "HeldShelves$Stock" "left" "[I", Cond.static yX4_isShelf, Cond.code yX4_isShelf cX4_isShelf 1 (some .boolean), Cond.methodLink RX4 158 yX4_endBlock, Cond.instanceMethod yX4_endBlock, Cond.selects RX4 yX4_endBlock yX4_endBlock, Cond.code yX4_endBlock cX4_endBlock 1 (some .int), Cond.methodLink RX4 193 yX2_closeHold, Cond.instanceMethod yX2_closeHold, Cond.selects RX2 yX2_closeHold yX2_closeHold, Cond.code yX2_closeHold cX2_closeHold 1 none, Cond.fieldLink RX2 35 "HeldShelves$Report" "holdsOpen" "I", Cond.methodLink RX4 198 yX3_release, Cond.instanceMethod yX3_release, Cond.selects RX3 yX3_release yX3_release, Cond.code yX3_release cX3_release 2 none, Cond.fieldLink RX3 18 "HeldShelves$Stock" "held" "[I", Cond.methodLink RX4 214 yX4_leaveGuard, Cond.instanceMethod yX4_leaveGuard, Cond.selects RX4 yX4_leaveGuard yX4_leaveGuard, Cond.code yX4_leaveGuard cX4_leaveGuard 4 (some .boolean), Cond.methodLink RX4 220 yX2_countCaught, Cond.instanceMethod yX2_countCaught]
def wsX4_doActs_r5 : List Cond := [Cond.selects RX2 yX2_countCaught yX2_countCaught, Cond.code yX2_countCaught cX2_countCaught 2 none, Cond.fieldLink RX2 9 "HeldShelves$Report" "caughtOf" "[I", Cond.fieldLink RX2 22 "HeldShelves$Report" "caughtInAll" "I", Cond.methodLink RX4 123 yX4_doStep, Cond.instanceMethod yX4_doStep, Cond.selects RX4 yX4_doStep yX4_doStep, Cond.code yX4_doStep cX4_doStep 4 (some .boolean), Cond.methodLink RX4 133 yX2_countStep, Cond.instanceMethod yX2_countStep, Cond.selects RX2 yX2_countStep yX2_countStep, Cond.code yX2_countStep cX2_countStep 1 none, Cond.methodLink RX4 136 yX4_doAct, Cond.instanceMethod yX4_doAct, Cond.selects RX4 yX4_doAct yX4_doAct, Cond.code yX4_doAct cX4_doAct 5 (some .int), Cond.methodLink RX4 140 yX1_aOf, Cond.instanceMethod yX1_aOf, Cond.selects RX1 yX1_aOf yX1_aOf, Cond.code yX1_aOf cX1_aOf 2 (some .int), Cond.methodLink RX1 19 yX1_digitsOf, Cond.instanceMethod yX1_digitsOf, Cond.selects RX1 yX1_digitsOf yX1_digitsOf, Cond.code yX1_digitsOf cX1_digitsOf 2 (some .int)]
def wsX4_doActs_r6 : List Cond := [Cond.fieldLink RX1 9 "HeldShelves$Plan" "acts" "[I", Cond.methodLink RX4 143 yX1_bOf, Cond.instanceMethod yX1_bOf, Cond.selects RX1 yX1_bOf yX1_bOf, Cond.code yX1_bOf cX1_bOf 2 (some .int), Cond.methodLink RX4 146 yX1_kindOf, Cond.instanceMethod yX1_kindOf, Cond.selects RX1 yX1_kindOf yX1_kindOf, Cond.code yX1_kindOf cX1_kindOf 2 (some .int), Cond.methodLink RX4 149 yX4_hold, Cond.instanceMethod yX4_hold, Cond.selects RX4 yX4_hold yX4_hold, Cond.code yX4_hold cX4_hold 3 (some .int), Cond.methodLink RX4 180 yX3_missing, Cond.instanceMethod yX3_missing, Cond.selects RX3 yX3_missing yX3_missing, Cond.code yX3_missing cX3_missing 2 (some .int), Cond.methodLink RX3 25 yX3_isThere, Cond.instanceMethod yX3_isThere, Cond.selects RX3 yX3_isThere yX3_isThere, Cond.code yX3_isThere cX3_isThere 2 (some .boolean), Cond.fieldLink RX3 9 "HeldShelves$Stock" "goods" "[I", Cond.methodLink RX4 183 yX3_holdOnce, Cond.instanceMethod yX3_holdOnce]
def wsX4_doActs_r7 : List Cond := [Cond.selects RX3 yX3_holdOnce yX3_holdOnce, Cond.code yX3_holdOnce cX3_holdOnce 2 none, Cond.methodLink RX4 187 yX2_openHold, Cond.instanceMethod yX2_openHold, Cond.selects RX2 yX2_openHold yX2_openHold, Cond.code yX2_openHold cX2_openHold 1 none, Cond.fieldLink RX2 32 "HeldShelves$Report" "holds" "I", Cond.fieldLink RX2 38 "HeldShelves$Report" "mostOpen" "I", Cond.methodLink RX2 47 Lib.Math.max.name, Cond.static Lib.Math.max.name, Cond.initialized "java/lang/Math", Cond.code Lib.Math.max.name Lib.Math.max.code 2 (some .int), Cond.methodLink RX4 155 yX0_push, Cond.instanceMethod yX0_push, Cond.selects RX0 yX0_push yX0_push, Cond.code yX0_push cX0_push 4 none, Cond.methodLink RX4 152 yX1_behindBlock, Cond.instanceMethod yX1_behindBlock, Cond.selects RX1 yX1_behindBlock yX1_behindBlock, Cond.code yX1_behindBlock cX1_behindBlock 4 (some .int), Cond.methodLink RX1 23 yX1_deeperBy, Cond.instanceMethod yX1_deeperBy, Cond.selects RX1 yX1_deeperBy yX1_deeperBy, Cond.code yX1_deeperBy cX1_deeperBy 3 (some .int)]
def wsX4_doActs_r8 : List Cond := [Cond.methodLink RX1 26 yX1_kindOf, Cond.methodLink RX4 161 yX3_put, Cond.instanceMethod yX3_put, Cond.selects RX3 yX3_put yX3_put, Cond.code yX3_put cX3_put 4 (some .int), Cond.methodLink RX3 36 yX3_missingOrLoose, Cond.instanceMethod yX3_missingOrLoose, Cond.selects RX3 yX3_missingOrLoose yX3_missingOrLoose, Cond.code yX3_missingOrLoose cX3_missingOrLoose 3 (some .int), Cond.methodLink RX3 39 yX3_missing, Cond.methodLink RX4 164 yX3_take, Cond.instanceMethod yX3_take, Cond.selects RX3 yX3_take yX3_take, Cond.code yX3_take cX3_take 4 (some .int), Cond.methodLink RX4 167 yX3_share, Cond.instanceMethod yX3_share, Cond.selects RX3 yX3_share yX3_share, Cond.code yX3_share cX3_share 5 (some .int), Cond.fieldLink RX3 28 "HeldShelves$Stock" "rest" "I", Cond.methodLink RX4 170 yX1_cOf, Cond.instanceMethod yX1_cOf, Cond.selects RX1 yX1_cOf yX1_cOf, Cond.code yX1_cOf cX1_cOf 2 (some .int), Cond.methodLink RX4 173 yX3_move]
def wsX4_doActs_r9 : List Cond := [Cond.instanceMethod yX3_move, Cond.selects RX3 yX3_move yX3_move, Cond.code yX3_move cX3_move 4 (some .int), Cond.methodLink RX4 177 yX4_call, Cond.instanceMethod yX4_call, Cond.selects RX4 yX4_call yX4_call, Cond.code yX4_call cX4_call 2 (some .int), Cond.methodLink RX4 37 yX4_isPlan, Cond.static yX4_isPlan, Cond.code yX4_isPlan cX4_isPlan 1 (some .boolean), Cond.methodLink RX4 56 yX1_isClosed, Cond.instanceMethod yX1_isClosed, Cond.selects RX1 yX1_isClosed yX1_isClosed, Cond.code yX1_isClosed cX1_isClosed 3 (some .boolean), Cond.methodLink RX4 204 yX2_countCall, Cond.instanceMethod yX2_countCall, Cond.selects RX2 yX2_countCall yX2_countCall, Cond.code yX2_countCall cX2_countCall 1 none, Cond.fieldLink RX2 41 "HeldShelves$Report" "calls" "I"]
def wsX4_doActs : List Cond := .code yX4_doActs cX4_doActs 3 (some .int) :: ((wsX4_doActs_r1 ++ (wsX4_doActs_r2 ++ (wsX4_doActs_r3 ++ (wsX4_doActs_r4 ++ (wsX4_doActs_r5 ++ (wsX4_doActs_r6 ++ (wsX4_doActs_r7 ++ (wsX4_doActs_r8 ++ wsX4_doActs_r9)))))))) ++ wsX40 ++ wsX10 ++ wsX00 ++ wsX20 ++ wsX30)
def wsX4_run_r1 : List Cond := [Cond.fieldLink RX4 11 "HeldShelves" "plans" "[LHeldShelves$Plan;", Cond.fieldLink RX4 33 "HeldShelves" "report" "LHeldShelves$Report;", Cond.fieldLink RX4 70 "HeldShelves" "planNow" "I", Cond.fieldLink RX4 74 "HeldShelves" "next" "I", Cond.fieldLink RX4 77 "HeldShelves" "level" "I", Cond.methodLink RX4 37 yX4_isPlan, Cond.static yX4_isPlan, Cond.initialized RX4, Cond.code yX4_isPlan cX4_isPlan 1 (some .boolean), Cond.methodLink RX4 56 yX1_isClosed, Cond.instanceMethod yX1_isClosed, Cond.selects RX1 yX1_isClosed yX1_isClosed, Cond.initialized RX1, Cond.code yX1_isClosed cX1_isClosed 3 (some .boolean), Cond.fieldLink RX1 15 "HeldShelves$Plan" "count" "I", Cond.methodLink RX1 23 yX1_deeperBy, Cond.instanceMethod yX1_deeperBy, Cond.selects RX1 yX1_deeperBy yX1_deeperBy, Cond.code yX1_deeperBy cX1_deeperBy 3 (some .int), Cond.methodLink RX1 26 yX1_kindOf, Cond.instanceMethod yX1_kindOf, Cond.selects RX1 yX1_kindOf yX1_kindOf, Cond.code yX1_kindOf cX1_kindOf 2 (some .int), Cond.methodLink RX1 19 yX1_digitsOf]
def wsX4_run_r2 : List Cond := [Cond.instanceMethod yX1_digitsOf, Cond.selects RX1 yX1_digitsOf yX1_digitsOf, Cond.code yX1_digitsOf cX1_digitsOf 2 (some .int), Cond.fieldLink RX1 9 "HeldShelves$Plan" "acts" "[I", Cond.methodLink RX4 67 yX2_reset, Cond.instanceMethod yX2_reset, Cond.selects RX2 yX2_reset yX2_reset, Cond.initialized RX2, Cond.code yX2_reset cX2_reset 2 none, Cond.fieldLink RX2 9 "HeldShelves$Report" "caughtOf" "[I", Cond.fieldLink RX2 22 "HeldShelves$Report" "caughtInAll" "I", Cond.fieldLink RX2 29 "HeldShelves$Report" "steps" "I", Cond.fieldLink RX2 32 "HeldShelves$Report" "holds" "I", Cond.fieldLink RX2 35 "HeldShelves$Report" "holdsOpen" "I", Cond.fieldLink RX2 38 "HeldShelves$Report" "mostOpen" "I", Cond.fieldLink RX2 41 "HeldShelves$Report" "calls" "I", Cond.methodLink RX2 25 yX2_endAt, Cond.instanceMethod yX2_endAt, Cond.selects RX2 yX2_endAt yX2_endAt, Cond.code yX2_endAt cX2_endAt 4 none, Cond.fieldLink RX2 44 "HeldShelves$Report" "failure" "I", Cond.fieldLink RX2 15 "HeldShelves$Report" "plan" "I", Cond.fieldLink RX2 19 "HeldShelves$Report" "act" "I", Cond.methodLink RX4 80 yX4_doActs]
def wsX4_run_r3 : List Cond := [Cond.instanceMethod yX4_doActs, Cond.selects RX4 yX4_doActs yX4_doActs, Cond.code yX4_doActs cX4_doActs 3 (some .int), Cond.methodLink RX4 111 yX1_size, Cond.instanceMethod yX1_size, Cond.selects RX1 yX1_size yX1_size, Cond.code yX1_size cX1_size 1 (some .int), Cond.methodLink RX4 114 yX4_leaveCall, Cond.instanceMethod yX4_leaveCall, Cond.selects RX4 yX4_leaveCall yX4_leaveCall, Cond.code yX4_leaveCall cX4_leaveCall 1 none, Cond.fieldLink RX4 26 "HeldShelves" "open" "LHeldShelves$OpenRow;", Cond.methodLink RX4 196 yX0_number, Cond.instanceMethod yX0_number, Cond.selects RX0 yX0_number yX0_number, Cond.initialized RX0, Cond.code yX0_number cX0_number 1 (some .int), Cond.fieldLink RX0 21 "HeldShelves$OpenRow" "count" "I", Cond.fieldLink RX0 15 "HeldShelves$OpenRow" "numbers" "[I", Cond.methodLink RX4 207 yX0_behind, Cond.instanceMethod yX0_behind, Cond.selects RX0 yX0_behind yX0_behind, Cond.code yX0_behind cX0_behind 1 (some .int), Cond.fieldLink RX0 18 "HeldShelves$OpenRow" "behinds" "[I"]
def wsX4_run_r4 : List Cond := [Cond.methodLink RX4 201 yX0_pop, Cond.instanceMethod yX0_pop, Cond.selects RX0 yX0_pop yX0_pop, Cond.code yX0_pop cX0_pop 1 none, Cond.methodLink RX4 117 yX2_steps, Cond.instanceMethod yX2_steps, Cond.selects RX2 yX2_steps yX2_steps, Cond.code yX2_steps cX2_steps 1 (some .int), Cond.methodLink RX4 120 yX4_stop, Cond.instanceMethod yX4_stop, Cond.selects RX4 yX4_stop yX4_stop, Cond.code yX4_stop cX4_stop 1 (some .int), Cond.methodLink RX4 126 yX2_endAt, Cond.methodLink RX4 130 yX4_leaveOpen, Cond.instanceMethod yX4_leaveOpen, Cond.selects RX4 yX4_leaveOpen yX4_leaveOpen, Cond.code yX4_leaveOpen cX4_leaveOpen 4 (some .boolean), Cond.methodLink RX4 210 yX0_size, Cond.instanceMethod yX0_size, Cond.selects RX0 yX0_size yX0_size, Cond.code yX0_size cX0_size 1 (some .int), Cond.methodLink RX4 190 yX0_kind, Cond.instanceMethod yX0_kind, Cond.selects RX0 yX0_kind yX0_kind]
def wsX4_run_r5 : List Cond := [Cond.code yX0_kind cX0_kind 1 (some .int), Cond.fieldLink RX0 9 "HeldShelves$OpenRow" "kinds" "[I", Cond.methodLink RX4 211 yX4_leaveHold, Cond.instanceMethod yX4_leaveHold, Cond.selects RX4 yX4_leaveHold yX4_leaveHold, Cond.code yX4_leaveHold cX4_leaveHold 1 none, Cond.fieldLink RX4 19 "HeldShelves" "stock" "LHeldShelves$Stock;", Cond.methodLink RX4 217 yX3_countLeft, Cond.instanceMethod yX3_countLeft, Cond.selects RX3 yX3_countLeft yX3_countLeft, Cond.initialized RX3, Cond.code yX3_countLeft cX3_countLeft 2 none, Cond.fieldLink RX3 15 "HeldShelves$Stock" "left" "[I", Cond.static yX4_isShelf, Cond.code yX4_isShelf cX4_isShelf 1 (some .boolean), Cond.methodLink RX4 158 yX4_endBlock, Cond.instanceMethod yX4_endBlock, Cond.selects RX4 yX4_endBlock yX4_endBlock, Cond.code yX4_endBlock cX4_endBlock 1 (some .int), Cond.methodLink RX4 193 yX2_closeHold, Cond.instanceMethod yX2_closeHold, Cond.selects RX2 yX2_closeHold yX2_closeHold, Cond.code yX2_closeHold cX2_closeHold 1 none, Cond.methodLink RX4 198 yX3_release]
def wsX4_run_r6 : List Cond := [Cond.instanceMethod yX3_release, Cond.selects RX3 yX3_release yX3_release, Cond.code yX3_release cX3_release 2 none, Cond.fieldLink RX3 18 "HeldShelves$Stock" "held" "[I", Cond.methodLink RX4 214 yX4_leaveGuard, Cond.instanceMethod yX4_leaveGuard, Cond.selects RX4 yX4_leaveGuard yX4_leaveGuard, Cond.code yX4_leaveGuard cX4_leaveGuard 4 (some .boolean), Cond.methodLink RX4 220 yX2_countCaught, Cond.instanceMethod yX2_countCaught, Cond.selects RX2 yX2_countCaught yX2_countCaught, Cond.code yX2_countCaught cX2_countCaught 2 none, Cond.methodLink RX4 123 yX4_doStep, Cond.instanceMethod yX4_doStep, Cond.selects RX4 yX4_doStep yX4_doStep, Cond.code yX4_doStep cX4_doStep 4 (some .boolean), Cond.methodLink RX4 133 yX2_countStep, Cond.instanceMethod yX2_countStep, Cond.selects RX2 yX2_countStep yX2_countStep, Cond.code yX2_countStep cX2_countStep 1 none, Cond.methodLink RX4 136 yX4_doAct, Cond.instanceMethod yX4_doAct, Cond.selects RX4 yX4_doAct yX4_doAct, Cond.code yX4_doAct cX4_doAct 5 (some .int)]
def wsX4_run_r7 : List Cond := [Cond.methodLink RX4 140 yX1_aOf, Cond.instanceMethod yX1_aOf, Cond.selects RX1 yX1_aOf yX1_aOf, Cond.code yX1_aOf cX1_aOf 2 (some .int), Cond.methodLink RX4 143 yX1_bOf, Cond.instanceMethod yX1_bOf, Cond.selects RX1 yX1_bOf yX1_bOf, Cond.code yX1_bOf cX1_bOf 2 (some .int), Cond.methodLink RX4 146 yX1_kindOf, Cond.methodLink RX4 149 yX4_hold, Cond.instanceMethod yX4_hold, Cond.selects RX4 yX4_hold yX4_hold, Cond.code yX4_hold cX4_hold 3 (some .int), Cond.methodLink RX4 180 yX3_missing, Cond.instanceMethod yX3_missing, Cond.selects RX3 yX3_missing yX3_missing, Cond.code yX3_missing cX3_missing 2 (some .int), Cond.methodLink RX3 25 yX3_isThere, Cond.instanceMethod yX3_isThere, Cond.selects RX3 yX3_isThere yX3_isThere, Cond.code yX3_isThere cX3_isThere 2 (some .boolean), Cond.fieldLink RX3 9 "HeldShelves$Stock" "goods" "[I", Cond.methodLink RX4 183 yX3_holdOnce, Cond.instanceMethod yX3_holdOnce]
def wsX4_run_r8 : List Cond := [Cond.selects RX3 yX3_holdOnce yX3_holdOnce, Cond.code yX3_holdOnce cX3_holdOnce 2 none, Cond.methodLink RX4 187 yX2_openHold, Cond.instanceMethod yX2_openHold, Cond.selects RX2 yX2_openHold yX2_openHold, Cond.code yX2_openHold cX2_openHold 1 none, Cond.methodLink RX2 47 Lib.Math.max.name, Cond.static Lib.Math.max.name, Cond.initialized "java/lang/Math", Cond.code Lib.Math.max.name Lib.Math.max.code 2 (some .int), Cond.methodLink RX4 155 yX0_push, Cond.instanceMethod yX0_push, Cond.selects RX0 yX0_push yX0_push, Cond.code yX0_push cX0_push 4 none, Cond.methodLink RX4 152 yX1_behindBlock, Cond.instanceMethod yX1_behindBlock, Cond.selects RX1 yX1_behindBlock yX1_behindBlock, Cond.code yX1_behindBlock cX1_behindBlock 4 (some .int), Cond.methodLink RX4 161 yX3_put, Cond.instanceMethod yX3_put, Cond.selects RX3 yX3_put yX3_put, Cond.code yX3_put cX3_put 4 (some .int), Cond.methodLink RX3 36 yX3_missingOrLoose, Cond.instanceMethod yX3_missingOrLoose]
def wsX4_run_r9 : List Cond := [Cond.selects RX3 yX3_missingOrLoose yX3_missingOrLoose, Cond.code yX3_missingOrLoose cX3_missingOrLoose 3 (some .int), Cond.methodLink RX3 39 yX3_missing, Cond.methodLink RX4 164 yX3_take, Cond.instanceMethod yX3_take, Cond.selects RX3 yX3_take yX3_take, Cond.code yX3_take cX3_take 4 (some .int), Cond.methodLink RX4 167 yX3_share, Cond.instanceMethod yX3_share, Cond.selects RX3 yX3_share yX3_share, Cond.code yX3_share cX3_share 5 (some .int), Cond.fieldLink RX3 28 "HeldShelves$Stock" "rest" "I", Cond.methodLink RX4 170 yX1_cOf, Cond.instanceMethod yX1_cOf, Cond.selects RX1 yX1_cOf yX1_cOf, Cond.code yX1_cOf cX1_cOf 2 (some .int), Cond.methodLink RX4 173 yX3_move, Cond.instanceMethod yX3_move, Cond.selects RX3 yX3_move yX3_move, Cond.code yX3_move cX3_move 4 (some .int), Cond.methodLink RX4 177 yX4_call, Cond.instanceMethod yX4_call, Cond.selects RX4 yX4_call yX4_call, Cond.code yX4_call cX4_call 2 (some .int)]
def wsX4_run_r10 : List Cond := [Cond.methodLink RX4 204 yX2_countCall, Cond.instanceMethod yX2_countCall, Cond.selects RX2 yX2_countCall yX2_countCall, Cond.code yX2_countCall cX2_countCall 1 none]
def wsX4_run : List Cond := .code yX4_run cX4_run 3 (some .int) :: ((wsX4_run_r1 ++ (wsX4_run_r2 ++ (wsX4_run_r3 ++ (wsX4_run_r4 ++ (wsX4_run_r5 ++ (wsX4_run_r6 ++ (wsX4_run_r7 ++ (wsX4_run_r8 ++ (wsX4_run_r9 ++ wsX4_run_r10))))))))) ++ wsX40 ++ wsX10 ++ wsX20 ++ wsX00 ++ wsX30)
def wsX4_told : List Cond := .code yX4_told cX4_told 2 (some .int) :: ([.fieldLink RX4 33 "HeldShelves" "report" "LHeldShelves$Report;", .methodLink RX4 84 yX2_number, .instanceMethod yX2_number, .selects RX2 yX2_number yX2_number, .initialized RX2, .code yX2_number cX2_number 2 (some .int), .fieldLink RX2 44 "HeldShelves$Report" "failure" "I", .fieldLink RX2 15 "HeldShelves$Report" "plan" "I", .fieldLink RX2 19 "HeldShelves$Report" "act" "I", .fieldLink RX2 29 "HeldShelves$Report" "steps" "I", .fieldLink RX2 32 "HeldShelves$Report" "holds" "I", .fieldLink RX2 38 "HeldShelves$Report" "mostOpen" "I", .fieldLink RX2 22 "HeldShelves$Report" "caughtInAll" "I", .fieldLink RX2 41 "HeldShelves$Report" "calls" "I"] ++ wsX40 ++ wsX20)
def wsX4_caught : List Cond := .code yX4_caught cX4_caught 2 (some .int) :: ([.fieldLink RX4 33 "HeldShelves" "report" "LHeldShelves$Report;", .methodLink RX4 87 yX2_timesCaught, .instanceMethod yX2_timesCaught, .selects RX2 yX2_timesCaught yX2_timesCaught, .initialized RX2, .code yX2_timesCaught cX2_timesCaught 2 (some .int), .fieldLink RX2 9 "HeldShelves$Report" "caughtOf" "[I"] ++ wsX40 ++ wsX20)
def wsX4_about : List Cond := .code yX4_about cX4_about 3 (some .int) :: ([.fieldLink RX4 19 "HeldShelves" "stock" "LHeldShelves$Stock;", .methodLink RX4 60 yX4_isShelf, .static yX4_isShelf, .initialized RX4, .code yX4_isShelf cX4_isShelf 1 (some .boolean), .methodLink RX4 90 yX3_isThere, .instanceMethod yX3_isThere, .selects RX3 yX3_isThere yX3_isThere, .initialized RX3, .code yX3_isThere cX3_isThere 2 (some .boolean), .fieldLink RX3 9 "HeldShelves$Stock" "goods" "[I", .methodLink RX4 93 yX3_goodsOf, .instanceMethod yX3_goodsOf, .selects RX3 yX3_goodsOf yX3_goodsOf, .code yX3_goodsOf cX3_goodsOf 2 (some .int), .methodLink RX3 25 yX3_isThere, .methodLink RX4 96 yX3_leftOf, .instanceMethod yX3_leftOf, .selects RX3 yX3_leftOf yX3_leftOf, .code yX3_leftOf cX3_leftOf 2 (some .int), .fieldLink RX3 15 "HeldShelves$Stock" "left" "[I"] ++ wsX40 ++ wsX30)
def wsX4_first : List Cond := .code yX4_first cX4_first 2 (some .int) :: ([.fieldLink RX4 19 "HeldShelves" "stock" "LHeldShelves$Stock;", .methodLink RX4 99 yX3_firstWith, .instanceMethod yX3_firstWith, .selects RX3 yX3_firstWith yX3_firstWith, .initialized RX3, .code yX3_firstWith cX3_firstWith 3 (some .int), .fieldLink RX3 9 "HeldShelves$Stock" "goods" "[I", .methodLink RX3 25 yX3_isThere, .instanceMethod yX3_isThere, .selects RX3 yX3_isThere yX3_isThere, .code yX3_isThere cX3_isThere 2 (some .boolean), .static yX4_isShelf, .initialized RX4, .code yX4_isShelf cX4_isShelf 1 (some .boolean)] ++ wsX40 ++ wsX30)
def wsX4_row : List Cond := .code yX4_row cX4_row 2 (some .int) :: ([.fieldLink RX4 19 "HeldShelves" "stock" "LHeldShelves$Stock;", .methodLink RX4 102 yX3_rowUpTo, .instanceMethod yX3_rowUpTo, .selects RX3 yX3_rowUpTo yX3_rowUpTo, .initialized RX3, .code yX3_rowUpTo cX3_rowUpTo 3 (some .int), .fieldLink RX3 9 "HeldShelves$Stock" "goods" "[I", .methodLink RX3 25 yX3_isThere, .instanceMethod yX3_isThere, .selects RX3 yX3_isThere yX3_isThere, .code yX3_isThere cX3_isThere 2 (some .boolean), .static yX4_isShelf, .initialized RX4, .code yX4_isShelf cX4_isShelf 1 (some .boolean)] ++ wsX40 ++ wsX30)
def wsX4_rest : List Cond := .code yX4_rest cX4_rest 1 (some .int) :: ([.fieldLink RX4 19 "HeldShelves" "stock" "LHeldShelves$Stock;", .methodLink RX4 105 yX3_giveRest, .instanceMethod yX3_giveRest, .selects RX3 yX3_giveRest yX3_giveRest, .initialized RX3, .code yX3_giveRest cX3_giveRest 2 (some .int), .fieldLink RX3 28 "HeldShelves$Stock" "rest" "I"] ++ wsX40 ++ wsX30)
def wsX4_goods : List Cond := .code yX4_goods cX4_goods 1 (some .int) :: ([.fieldLink RX4 19 "HeldShelves" "stock" "LHeldShelves$Stock;", .methodLink RX4 108 yX3_inAll, .instanceMethod yX3_inAll, .selects RX3 yX3_inAll yX3_inAll, .initialized RX3, .code yX3_inAll cX3_inAll 3 (some .int), .methodLink RX3 32 yX3_goodsOf, .instanceMethod yX3_goodsOf, .selects RX3 yX3_goodsOf yX3_goodsOf, .code yX3_goodsOf cX3_goodsOf 2 (some .int), .fieldLink RX3 9 "HeldShelves$Stock" "goods" "[I", .methodLink RX3 25 yX3_isThere, .instanceMethod yX3_isThere, .selects RX3 yX3_isThere yX3_isThere, .code yX3_isThere cX3_isThere 2 (some .boolean), .static yX4_isShelf, .initialized RX4, .code yX4_isShelf cX4_isShelf 1 (some .boolean)] ++ wsX40 ++ wsX30)
def wsX5_init : List Cond := .code yX5_init cX5_init 2 none :: ([.methodLink RX5 1 objectInit, .instanceMethod objectInit, .code objectInit ⟨#[0xb1]⟩ 1 none, .arrayClass .int, .fieldLink RX5 7 "HeldShelvesModel" "many" "[I", .fieldLink RX5 13 "HeldShelvesModel" "kinds" "[I", .fieldLink RX5 16 "HeldShelvesModel" "first" "[I", .fieldLink RX5 19 "HeldShelvesModel" "second" "[I", .fieldLink RX5 22 "HeldShelvesModel" "third" "[I", .arrayClass .boolean, .fieldLink RX5 25 "HeldShelvesModel" "isThere" "[Z", .fieldLink RX5 29 "HeldShelvesModel" "goods" "[I", .fieldLink RX5 32 "HeldShelvesModel" "left" "[I", .fieldLink RX5 35 "HeldShelvesModel" "held" "[I", .fieldLink RX5 38 "HeldShelvesModel" "told" "[I", .fieldLink RX5 41 "HeldShelvesModel" "caught" "[I", .fieldLink RX5 44 "HeldShelvesModel" "planAt" "[I", .fieldLink RX5 47 "HeldShelvesModel" "actAt" "[I", .fieldLink RX5 50 "HeldShelvesModel" "block" "[I", .fieldLink RX5 53 "HeldShelvesModel" "blockAct" "[I", .fieldLink RX5 56 "HeldShelvesModel" "blockLevel" "[I"] ++ wsX50)
def wsX5_in : List Cond := .code yX5_in cX5_in 3 (some .boolean) :: ([])
def wsX5_isPlan : List Cond := .code yX5_isPlan cX5_isPlan 1 (some .boolean) :: ([.methodLink RX5 63 yX5_in, .static yX5_in, .initialized RX5, .code yX5_in cX5_in 3 (some .boolean)])
def wsX5_isDigit : List Cond := .code yX5_isDigit cX5_isDigit 1 (some .boolean) :: ([.methodLink RX5 63 yX5_in, .static yX5_in, .initialized RX5, .code yX5_in cX5_in 3 (some .boolean)])
def wsX5_fits : List Cond := .code yX5_fits cX5_fits 5 (some .boolean) :: ([.methodLink RX5 63 yX5_in, .static yX5_in, .initialized RX5, .code yX5_in cX5_in 3 (some .boolean), .methodLink RX5 67 yX5_isDigit, .static yX5_isDigit, .code yX5_isDigit cX5_isDigit 1 (some .boolean)])
def wsX5_act : List Cond := .code yX5_act cX5_act 7 (some .int) :: ([.fieldLink RX5 59 "HeldShelvesModel" "thrown" "I", .fieldLink RX5 7 "HeldShelvesModel" "many" "[I", .fieldLink RX5 13 "HeldShelvesModel" "kinds" "[I", .fieldLink RX5 16 "HeldShelvesModel" "first" "[I", .fieldLink RX5 19 "HeldShelvesModel" "second" "[I", .fieldLink RX5 22 "HeldShelvesModel" "third" "[I", .methodLink RX5 71 yX5_isPlan, .static yX5_isPlan, .initialized RX5, .code yX5_isPlan cX5_isPlan 1 (some .boolean), .methodLink RX5 63 yX5_in, .static yX5_in, .code yX5_in cX5_in 3 (some .boolean), .methodLink RX5 74 yX5_fits, .static yX5_fits, .code yX5_fits cX5_fits 5 (some .boolean), .methodLink RX5 67 yX5_isDigit, .static yX5_isDigit, .code yX5_isDigit cX5_isDigit 1 (some .boolean)] ++ wsX50)
def wsX5_clear : List Cond := .code yX5_clear cX5_clear 3 (some .int) :: ([.fieldLink RX5 59 "HeldShelvesModel" "thrown" "I", .fieldLink RX5 7 "HeldShelvesModel" "many" "[I", .methodLink RX5 71 yX5_isPlan, .static yX5_isPlan, .initialized RX5, .code yX5_isPlan cX5_isPlan 1 (some .boolean), .methodLink RX5 63 yX5_in, .static yX5_in, .code yX5_in cX5_in 3 (some .boolean)] ++ wsX50)
def wsX5_isClosed : List Cond := .code yX5_isClosed cX5_isClosed 5 (some .boolean) :: ([.fieldLink RX5 7 "HeldShelvesModel" "many" "[I", .fieldLink RX5 13 "HeldShelvesModel" "kinds" "[I"] ++ wsX50)
def wsX5_closed : List Cond := .code yX5_closed cX5_closed 2 (some .int) :: ([.fieldLink RX5 59 "HeldShelvesModel" "thrown" "I", .methodLink RX5 71 yX5_isPlan, .static yX5_isPlan, .initialized RX5, .code yX5_isPlan cX5_isPlan 1 (some .boolean), .methodLink RX5 63 yX5_in, .static yX5_in, .code yX5_in cX5_in 3 (some .boolean), .methodLink RX5 78 yX5_isClosed, .instanceMethod yX5_isClosed, .selects RX5 yX5_isClosed yX5_isClosed, .code yX5_isClosed cX5_isClosed 5 (some .boolean), .fieldLink RX5 7 "HeldShelvesModel" "many" "[I", .fieldLink RX5 13 "HeldShelvesModel" "kinds" "[I"] ++ wsX50)
def wsX5_shelf : List Cond := .code yX5_shelf cX5_shelf 4 (some .int) :: ([.fieldLink RX5 59 "HeldShelvesModel" "thrown" "I", .fieldLink RX5 25 "HeldShelvesModel" "isThere" "[Z", .fieldLink RX5 29 "HeldShelvesModel" "goods" "[I", .fieldLink RX5 32 "HeldShelvesModel" "left" "[I", .methodLink RX5 63 yX5_in, .static yX5_in, .initialized RX5, .code yX5_in cX5_in 3 (some .boolean)] ++ wsX50)
def wsX5_begins : List Cond := .code yX5_begins cX5_begins 3 none :: ([.fieldLink RX5 50 "HeldShelvesModel" "block" "[I", .fieldLink RX5 81 "HeldShelvesModel" "blocks" "I", .fieldLink RX5 53 "HeldShelvesModel" "blockAct" "[I", .fieldLink RX5 56 "HeldShelvesModel" "blockLevel" "[I", .fieldLink RX5 84 "HeldShelvesModel" "level" "I"] ++ wsX50)
def wsX5_behind : List Cond := .code yX5_behind cX5_behind 6 (some .int) :: ([.fieldLink RX5 13 "HeldShelvesModel" "kinds" "[I"] ++ wsX50)
def wsX5_closes : List Cond := .code yX5_closes cX5_closes 3 none :: ([.fieldLink RX5 81 "HeldShelvesModel" "blocks" "I", .fieldLink RX5 50 "HeldShelvesModel" "block" "[I", .fieldLink RX5 35 "HeldShelvesModel" "held" "[I", .fieldLink RX5 87 "HeldShelvesModel" "open" "I", .fieldLink RX5 32 "HeldShelvesModel" "left" "[I"] ++ wsX50)
def wsX5_wrongShelf : List Cond := .code yX5_wrongShelf cX5_wrongShelf 2 (some .int) :: ([.fieldLink RX5 25 "HeldShelvesModel" "isThere" "[Z"] ++ wsX50)
def wsX5_hold : List Cond := .code yX5_hold cX5_hold 4 (some .int) :: ([.fieldLink RX5 35 "HeldShelvesModel" "held" "[I", .fieldLink RX5 87 "HeldShelvesModel" "open" "I", .fieldLink RX5 38 "HeldShelvesModel" "told" "[I", .methodLink RX5 90 yX5_wrongShelf, .instanceMethod yX5_wrongShelf, .selects RX5 yX5_wrongShelf yX5_wrongShelf, .initialized RX5, .code yX5_wrongShelf cX5_wrongShelf 2 (some .int), .fieldLink RX5 25 "HeldShelvesModel" "isThere" "[Z", .methodLink RX5 94 yX5_begins, .instanceMethod yX5_begins, .selects RX5 yX5_begins yX5_begins, .code yX5_begins cX5_begins 3 none, .fieldLink RX5 50 "HeldShelvesModel" "block" "[I", .fieldLink RX5 81 "HeldShelvesModel" "blocks" "I", .fieldLink RX5 53 "HeldShelvesModel" "blockAct" "[I", .fieldLink RX5 56 "HeldShelvesModel" "blockLevel" "[I", .fieldLink RX5 84 "HeldShelvesModel" "level" "I"] ++ wsX50)
def wsX5_change : List Cond := .code yX5_change cX5_change 6 (some .int) :: ([.fieldLink RX5 35 "HeldShelvesModel" "held" "[I", .fieldLink RX5 29 "HeldShelvesModel" "goods" "[I", .fieldLink RX5 98 "HeldShelvesModel" "rest" "I", .methodLink RX5 90 yX5_wrongShelf, .instanceMethod yX5_wrongShelf, .selects RX5 yX5_wrongShelf yX5_wrongShelf, .initialized RX5, .code yX5_wrongShelf cX5_wrongShelf 2 (some .int), .fieldLink RX5 25 "HeldShelvesModel" "isThere" "[Z"] ++ wsX50)
def wsX5_move : List Cond := .code yX5_move cX5_move 4 (some .int) :: ([.fieldLink RX5 25 "HeldShelvesModel" "isThere" "[Z", .fieldLink RX5 29 "HeldShelvesModel" "goods" "[I"] ++ wsX50)
def wsX5_call : List Cond := .code yX5_call cX5_call 2 (some .int) :: ([.fieldLink RX5 84 "HeldShelvesModel" "level" "I", .fieldLink RX5 44 "HeldShelvesModel" "planAt" "[I", .fieldLink RX5 47 "HeldShelvesModel" "actAt" "[I", .fieldLink RX5 38 "HeldShelvesModel" "told" "[I", .methodLink RX5 71 yX5_isPlan, .static yX5_isPlan, .initialized RX5, .code yX5_isPlan cX5_isPlan 1 (some .boolean), .methodLink RX5 63 yX5_in, .static yX5_in, .code yX5_in cX5_in 3 (some .boolean), .methodLink RX5 78 yX5_isClosed, .instanceMethod yX5_isClosed, .selects RX5 yX5_isClosed yX5_isClosed, .code yX5_isClosed cX5_isClosed 5 (some .boolean), .fieldLink RX5 7 "HeldShelvesModel" "many" "[I", .fieldLink RX5 13 "HeldShelvesModel" "kinds" "[I"] ++ wsX50)
def wsX5_does_r1 : List Cond := [Cond.fieldLink RX5 16 "HeldShelvesModel" "first" "[I", Cond.fieldLink RX5 13 "HeldShelvesModel" "kinds" "[I", Cond.fieldLink RX5 19 "HeldShelvesModel" "second" "[I", Cond.fieldLink RX5 22 "HeldShelvesModel" "third" "[I", Cond.methodLink RX5 101 yX5_hold, Cond.instanceMethod yX5_hold, Cond.selects RX5 yX5_hold yX5_hold, Cond.initialized RX5, Cond.code yX5_hold cX5_hold 4 (some .int), Cond.fieldLink RX5 35 "HeldShelvesModel" "held" "[I", Cond.fieldLink RX5 87 "HeldShelvesModel" "open" "I", Cond.fieldLink RX5 38 "HeldShelvesModel" "told" "[I", Cond.methodLink RX5 90 yX5_wrongShelf, Cond.instanceMethod yX5_wrongShelf, Cond.selects RX5 yX5_wrongShelf yX5_wrongShelf, Cond.code yX5_wrongShelf cX5_wrongShelf 2 (some .int), Cond.fieldLink RX5 25 "HeldShelvesModel" "isThere" "[Z", Cond.methodLink RX5 94 yX5_begins, Cond.instanceMethod yX5_begins, Cond.selects RX5 yX5_begins yX5_begins, Cond.code yX5_begins cX5_begins 3 none, Cond.fieldLink RX5 50 "HeldShelvesModel" "block" "[I", Cond.fieldLink RX5 81 "HeldShelvesModel" "blocks" "I", Cond.fieldLink RX5 53 "HeldShelvesModel" "blockAct" "[I"]
def wsX5_does_r2 : List Cond := [Cond.fieldLink RX5 56 "HeldShelvesModel" "blockLevel" "[I", Cond.fieldLink RX5 84 "HeldShelvesModel" "level" "I", Cond.methodLink RX5 105 yX5_closes, Cond.instanceMethod yX5_closes, Cond.selects RX5 yX5_closes yX5_closes, Cond.code yX5_closes cX5_closes 3 none, Cond.fieldLink RX5 32 "HeldShelvesModel" "left" "[I", Cond.methodLink RX5 109 yX5_change, Cond.instanceMethod yX5_change, Cond.selects RX5 yX5_change yX5_change, Cond.code yX5_change cX5_change 6 (some .int), Cond.fieldLink RX5 29 "HeldShelvesModel" "goods" "[I", Cond.fieldLink RX5 98 "HeldShelvesModel" "rest" "I", Cond.methodLink RX5 113 yX5_move, Cond.instanceMethod yX5_move, Cond.selects RX5 yX5_move yX5_move, Cond.code yX5_move cX5_move 4 (some .int), Cond.methodLink RX5 116 yX5_call, Cond.instanceMethod yX5_call, Cond.selects RX5 yX5_call yX5_call, Cond.code yX5_call cX5_call 2 (some .int), Cond.fieldLink RX5 44 "HeldShelvesModel" "planAt" "[I", Cond.fieldLink RX5 47 "HeldShelvesModel" "actAt" "[I", Cond.methodLink RX5 71 yX5_isPlan]
def wsX5_does_r3 : List Cond := [Cond.static yX5_isPlan, Cond.code yX5_isPlan cX5_isPlan 1 (some .boolean), Cond.methodLink RX5 63 yX5_in, Cond.static yX5_in, Cond.code yX5_in cX5_in 3 (some .boolean), Cond.methodLink RX5 78 yX5_isClosed, Cond.instanceMethod yX5_isClosed, Cond.selects RX5 yX5_isClosed yX5_isClosed, Cond.code yX5_isClosed cX5_isClosed 5 (some .boolean), Cond.fieldLink RX5 7 "HeldShelvesModel" "many" "[I"]
def wsX5_does : List Cond := .code yX5_does cX5_does 5 (some .int) :: ((wsX5_does_r1 ++ (wsX5_does_r2 ++ wsX5_does_r3)) ++ wsX50)
def wsX5_isCaught : List Cond := .code yX5_isCaught cX5_isCaught 3 (some .boolean) :: ([.fieldLink RX5 81 "HeldShelvesModel" "blocks" "I", .fieldLink RX5 50 "HeldShelvesModel" "block" "[I", .fieldLink RX5 56 "HeldShelvesModel" "blockLevel" "[I", .fieldLink RX5 84 "HeldShelvesModel" "level" "I", .fieldLink RX5 47 "HeldShelvesModel" "actAt" "[I", .fieldLink RX5 44 "HeldShelvesModel" "planAt" "[I", .fieldLink RX5 53 "HeldShelvesModel" "blockAct" "[I", .fieldLink RX5 41 "HeldShelvesModel" "caught" "[I", .fieldLink RX5 38 "HeldShelvesModel" "told" "[I", .methodLink RX5 105 yX5_closes, .instanceMethod yX5_closes, .selects RX5 yX5_closes yX5_closes, .initialized RX5, .code yX5_closes cX5_closes 3 none, .fieldLink RX5 35 "HeldShelvesModel" "held" "[I", .fieldLink RX5 87 "HeldShelvesModel" "open" "I", .fieldLink RX5 32 "HeldShelvesModel" "left" "[I", .methodLink RX5 119 yX5_behind, .instanceMethod yX5_behind, .selects RX5 yX5_behind yX5_behind, .code yX5_behind cX5_behind 6 (some .int), .fieldLink RX5 13 "HeldShelvesModel" "kinds" "[I"] ++ wsX50)
def wsX5_ends : List Cond := .code yX5_ends cX5_ends 4 (some .int) :: ([.fieldLink RX5 81 "HeldShelvesModel" "blocks" "I", .fieldLink RX5 38 "HeldShelvesModel" "told" "[I", .methodLink RX5 105 yX5_closes, .instanceMethod yX5_closes, .selects RX5 yX5_closes yX5_closes, .initialized RX5, .code yX5_closes cX5_closes 3 none, .fieldLink RX5 50 "HeldShelvesModel" "block" "[I", .fieldLink RX5 35 "HeldShelvesModel" "held" "[I", .fieldLink RX5 87 "HeldShelvesModel" "open" "I", .fieldLink RX5 32 "HeldShelvesModel" "left" "[I"] ++ wsX50)
def wsX5_run_r1 : List Cond := [Cond.fieldLink RX5 59 "HeldShelvesModel" "thrown" "I", Cond.fieldLink RX5 41 "HeldShelvesModel" "caught" "[I", Cond.fieldLink RX5 38 "HeldShelvesModel" "told" "[I", Cond.fieldLink RX5 84 "HeldShelvesModel" "level" "I", Cond.fieldLink RX5 44 "HeldShelvesModel" "planAt" "[I", Cond.fieldLink RX5 47 "HeldShelvesModel" "actAt" "[I", Cond.fieldLink RX5 81 "HeldShelvesModel" "blocks" "I", Cond.fieldLink RX5 87 "HeldShelvesModel" "open" "I", Cond.fieldLink RX5 7 "HeldShelvesModel" "many" "[I", Cond.methodLink RX5 71 yX5_isPlan, Cond.static yX5_isPlan, Cond.initialized RX5, Cond.code yX5_isPlan cX5_isPlan 1 (some .boolean), Cond.methodLink RX5 63 yX5_in, Cond.static yX5_in, Cond.code yX5_in cX5_in 3 (some .boolean), Cond.methodLink RX5 78 yX5_isClosed, Cond.instanceMethod yX5_isClosed, Cond.selects RX5 yX5_isClosed yX5_isClosed, Cond.code yX5_isClosed cX5_isClosed 5 (some .boolean), Cond.fieldLink RX5 13 "HeldShelvesModel" "kinds" "[I", Cond.methodLink RX5 122 yX5_ends, Cond.instanceMethod yX5_ends, Cond.selects RX5 yX5_ends yX5_ends]
def wsX5_run_r2 : List Cond := [Cond.code yX5_ends cX5_ends 4 (some .int), Cond.methodLink RX5 105 yX5_closes, Cond.instanceMethod yX5_closes, Cond.selects RX5 yX5_closes yX5_closes, Cond.code yX5_closes cX5_closes 3 none, Cond.fieldLink RX5 50 "HeldShelvesModel" "block" "[I", Cond.fieldLink RX5 35 "HeldShelvesModel" "held" "[I", Cond.fieldLink RX5 32 "HeldShelvesModel" "left" "[I", Cond.methodLink RX5 125 yX5_does, Cond.instanceMethod yX5_does, Cond.selects RX5 yX5_does yX5_does, Cond.code yX5_does cX5_does 5 (some .int), Cond.fieldLink RX5 16 "HeldShelvesModel" "first" "[I", Cond.fieldLink RX5 19 "HeldShelvesModel" "second" "[I", Cond.fieldLink RX5 22 "HeldShelvesModel" "third" "[I", Cond.methodLink RX5 101 yX5_hold, Cond.instanceMethod yX5_hold, Cond.selects RX5 yX5_hold yX5_hold, Cond.code yX5_hold cX5_hold 4 (some .int), Cond.methodLink RX5 90 yX5_wrongShelf, Cond.instanceMethod yX5_wrongShelf, Cond.selects RX5 yX5_wrongShelf yX5_wrongShelf, Cond.code yX5_wrongShelf cX5_wrongShelf 2 (some .int), Cond.fieldLink RX5 25 "HeldShelvesModel" "isThere" "[Z"]
def wsX5_run_r3 : List Cond := [Cond.methodLink RX5 94 yX5_begins, Cond.instanceMethod yX5_begins, Cond.selects RX5 yX5_begins yX5_begins, Cond.code yX5_begins cX5_begins 3 none, Cond.fieldLink RX5 53 "HeldShelvesModel" "blockAct" "[I", Cond.fieldLink RX5 56 "HeldShelvesModel" "blockLevel" "[I", Cond.methodLink RX5 109 yX5_change, Cond.instanceMethod yX5_change, Cond.selects RX5 yX5_change yX5_change, Cond.code yX5_change cX5_change 6 (some .int), Cond.fieldLink RX5 29 "HeldShelvesModel" "goods" "[I", Cond.fieldLink RX5 98 "HeldShelvesModel" "rest" "I", Cond.methodLink RX5 113 yX5_move, Cond.instanceMethod yX5_move, Cond.selects RX5 yX5_move yX5_move, Cond.code yX5_move cX5_move 4 (some .int), Cond.methodLink RX5 116 yX5_call, Cond.instanceMethod yX5_call, Cond.selects RX5 yX5_call yX5_call, Cond.code yX5_call cX5_call 2 (some .int), Cond.methodLink RX5 128 yX5_isCaught, Cond.instanceMethod yX5_isCaught, Cond.selects RX5 yX5_isCaught yX5_isCaught, Cond.code yX5_isCaught cX5_isCaught 3 (some .boolean)]
def wsX5_run_r4 : List Cond := [Cond.methodLink RX5 119 yX5_behind, Cond.instanceMethod yX5_behind, Cond.selects RX5 yX5_behind yX5_behind, Cond.code yX5_behind cX5_behind 6 (some .int)]
def wsX5_run : List Cond := .code yX5_run cX5_run 6 (some .int) :: ((wsX5_run_r1 ++ (wsX5_run_r2 ++ (wsX5_run_r3 ++ wsX5_run_r4))) ++ wsX50)
def wsX5_told : List Cond := .code yX5_told cX5_told 2 (some .int) :: ([.fieldLink RX5 59 "HeldShelvesModel" "thrown" "I", .fieldLink RX5 38 "HeldShelvesModel" "told" "[I", .methodLink RX5 63 yX5_in, .static yX5_in, .initialized RX5, .code yX5_in cX5_in 3 (some .boolean)] ++ wsX50)
def wsX5_caught : List Cond := .code yX5_caught cX5_caught 2 (some .int) :: ([.fieldLink RX5 59 "HeldShelvesModel" "thrown" "I", .fieldLink RX5 41 "HeldShelvesModel" "caught" "[I", .methodLink RX5 63 yX5_in, .static yX5_in, .initialized RX5, .code yX5_in cX5_in 3 (some .boolean)] ++ wsX50)
def wsX5_about : List Cond := .code yX5_about cX5_about 3 (some .int) :: ([.fieldLink RX5 59 "HeldShelvesModel" "thrown" "I", .fieldLink RX5 25 "HeldShelvesModel" "isThere" "[Z", .fieldLink RX5 29 "HeldShelvesModel" "goods" "[I", .fieldLink RX5 32 "HeldShelvesModel" "left" "[I", .methodLink RX5 63 yX5_in, .static yX5_in, .initialized RX5, .code yX5_in cX5_in 3 (some .boolean)] ++ wsX50)
def wsX5_first : List Cond := .code yX5_first cX5_first 3 (some .int) :: ([.fieldLink RX5 59 "HeldShelvesModel" "thrown" "I", .fieldLink RX5 25 "HeldShelvesModel" "isThere" "[Z", .fieldLink RX5 29 "HeldShelvesModel" "goods" "[I"] ++ wsX50)
def wsX5_row : List Cond := .code yX5_row cX5_row 3 (some .int) :: ([.fieldLink RX5 59 "HeldShelvesModel" "thrown" "I", .fieldLink RX5 25 "HeldShelvesModel" "isThere" "[Z", .fieldLink RX5 29 "HeldShelvesModel" "goods" "[I"] ++ wsX50)
def wsX5_rest : List Cond := .code yX5_rest cX5_rest 2 (some .int) :: ([.fieldLink RX5 59 "HeldShelvesModel" "thrown" "I", .fieldLink RX5 98 "HeldShelvesModel" "rest" "I"] ++ wsX50)
def wsX5_goods : List Cond := .code yX5_goods cX5_goods 3 (some .int) :: ([.fieldLink RX5 59 "HeldShelvesModel" "thrown" "I", .fieldLink RX5 25 "HeldShelvesModel" "isThere" "[Z", .fieldLink RX5 29 "HeldShelvesModel" "goods" "[I"] ++ wsX50)
def wsJ9_max_7cf53 : List Cond := .code yJ9_max_7cf53 cJ9_max_7cf53 2 (some .int) :: ([])
abbrev vwCl : List vw_C := [(RX0, TX0, 4), (RX1, TX1, 2), (RX2, TX2, 10), (RX3, TX3, 4), (RX4, TX4, 7), (RX5, TX5, 21)]
end
section
/-! The frame of the contracts: a world is a list of cells; a callee gets a stretch of the caller's. -/
def nsl : Cond := .methodLinkNest RX3 21 yX4_isShelf RX4
theorem wm_Pm {D : va_G} {cl : List vw_C} {ws : va_W} {H : Heap} : va_P D cl ws H ↔ ∀ q ∈ ws, va_at D cl q H :=
  ⟨fun h q hq => by obtain ⟨k, hk⟩ := List.getElem?_of_mem hq; exact h k q hk, fun h k q hk => h q (List.mem_of_getElem? hk)⟩
theorem wm_Dm {A : Nat → Prop} {ws : va_W} : va_D A ws ↔ ws.Pairwise (fun p q => p.1 ≠ q.1) ∧ ∀ q ∈ ws, A q.1 := by
  constructor
  · intro h
    refine ⟨List.pairwise_iff_getElem.mpr ?_, fun q hq => by obtain ⟨k, hk⟩ := List.getElem?_of_mem hq; exact h.2 k q hk⟩
    intro i j hi hj hij e
    have := h.1 i j ws[i] ws[j] (List.getElem?_eq_getElem hi) (List.getElem?_eq_getElem hj) e
    omega
  · intro h
    refine ⟨?_, fun k q hk => h.2 q (List.mem_of_getElem? hk)⟩
    intro i j p q hi hj e
    obtain ⟨hi1, rfl⟩ := List.getElem?_eq_some_iff.mp hi
    obtain ⟨hj1, rfl⟩ := List.getElem?_eq_some_iff.mp hj
    have hp := List.pairwise_iff_getElem.mp h.1
    rcases Nat.lt_trichotomy i j with hlt | hlt | hlt
    · exact absurd e (hp i j hi1 hj1 hlt)
    · exact hlt
    · exact absurd e.symm (hp j i hj1 hi1 hlt)
theorem wm_sub {D : va_G} {cl : List vw_C} {pre wc post : va_W} {H : Heap} (h : va_P D cl (pre ++ (wc ++ post)) H) : va_P D cl wc H :=
  wm_Pm.mpr fun q hq => wm_Pm.mp h q (List.mem_append_right _ (List.mem_append_left _ hq))
theorem wm_subD {A : Nat → Prop} {pre wc post : va_W} (h : va_D A (pre ++ (wc ++ post))) : va_D A wc := by
  obtain ⟨h1, h2⟩ := wm_Dm.mp h
  exact wm_Dm.mpr ⟨(List.pairwise_append.mp (List.pairwise_append.mp h1).2.1).1, fun q hq => h2 q (List.mem_append_right _ (List.mem_append_left _ hq))⟩
theorem wm_free {A0 : Nat → Prop} {pre wc post : va_W} {H0 H : Heap} {locs : List Loc} (hD : va_D A0 (pre ++ (wc ++ post))) (hS : va_S A0 H0 H locs) (hA : ∀ q, H0.size ≤ q → A0 q) : ∀ q, va_A wc H.size q → A0 q := by
  intro q h
  rcases h with ⟨k, e, h⟩ | h
  · exact (wm_Dm.mp (wm_subD hD)).2 (q, e) (List.mem_of_getElem? h)
  · exact hA q (Nat.le_trans hS.1 h)
theorem wm_join {A0 : Nat → Prop} {D : va_G} {cl : List vw_C} {pre wc post w1 : va_W} {H H1 : Heap} (hP : va_P D cl (pre ++ (wc ++ post)) H) (hD : va_D A0 (pre ++ (wc ++ post)))
    (hk : ∀ q : Nat, q < H.size → ¬ va_A wc H.size q → H1[q]? = H[q]?) (hF : ∀ q, va_A wc H.size q → A0 q) (hP1 : va_P D cl w1 H1) (hD1 : va_D (va_A wc H.size) w1) : va_P D cl (pre ++ (w1 ++ post)) H1 ∧ va_D A0 (pre ++ (w1 ++ post)) := by
  have hPm := wm_Pm.mp hP
  obtain ⟨d1, d2⟩ := wm_Dm.mp hD
  obtain ⟨p1, p2, p3⟩ := List.pairwise_append.mp d1
  obtain ⟨p4, p5, p6⟩ := List.pairwise_append.mp p2
  obtain ⟨e1, e2⟩ := wm_Dm.mp hD1
  have apart : ∀ q ∈ pre ++ post, q.1 < H.size ∧ ¬ va_A wc H.size q.1 := by
    intro q hq
    have hq2 : q ∈ pre ++ (wc ++ post) := by
      rcases List.mem_append.mp hq with h | h
      · exact List.mem_append_left _ h
      · exact List.mem_append_right _ (List.mem_append_right _ h)
    refine ⟨(hPm q hq2).lt, ?_⟩
    rintro (⟨k, e, h⟩ | h)
    · have hm := List.mem_of_getElem? h
      rcases List.mem_append.mp hq with h2 | h2
      · exact p3 q h2 _ (List.mem_append_left _ hm) rfl
      · exact p6 _ hm q h2 rfl
    · have := (hPm q hq2).lt
      omega
  constructor
  · refine wm_Pm.mpr fun q hq => ?_
    rcases List.mem_append.mp hq with h | h
    · have ha := apart q (List.mem_append_left _ h)
      exact (hPm q (List.mem_append_left _ h)).kept (hk _ ha.1 ha.2)
    · rcases List.mem_append.mp h with h | h
      · exact wm_Pm.mp hP1 q h
      · have ha := apart q (List.mem_append_right _ h)
        exact (hPm q (List.mem_append_right _ (List.mem_append_right _ h))).kept (hk _ ha.1 ha.2)
  · refine wm_Dm.mpr ⟨List.pairwise_append.mpr ⟨p1, List.pairwise_append.mpr ⟨e1, p5, ?_⟩, ?_⟩, ?_⟩
    · intro a ha b hb e
      exact (apart b (List.mem_append_right _ hb)).2 (e ▸ e2 a ha)
    · intro a ha b hb e
      rcases List.mem_append.mp hb with h | h
      · exact (apart a (List.mem_append_left _ ha)).2 (e ▸ e2 b h)
      · exact p3 a ha b (List.mem_append_right _ h) e
    · intro q hq
      rcases List.mem_append.mp hq with h | h
      · exact d2 q (List.mem_append_left _ h)
      · rcases List.mem_append.mp h with h | h
        · exact hF _ (e2 q h)
        · exact d2 q (List.mem_append_right _ (List.mem_append_right _ h))
/-- a contract's start -/
def ct_pre (D : va_G) (tys : List (ClassId × FieldType)) (sz : Nat) (w0 : va_W) (U : State) : Prop :=
  U.heap.size = sz ∧ va_P D vwCl w0 U.heap ∧ va_K D vwCl tys U ∧ va_D (fun _ => True) w0 ∧ va_Nw nsl U
/-- a contract that answers an int: the world w0 comes, the world wo u goes -/
def Ci (l : Launch) (D : va_G) (tys : List (ClassId × FieldType)) (y : MethodName) (wm : List Cond) (rm : Room) (av : List Value) (w0 : va_W) {S : Type} (post : Int32 → S → Prop) (wo : S → va_W) : Prop :=
  ∀ sz : Nat, Met l y wm rm (va_Pc av (ct_pre D tys sz w0)) (va_Qi post (fun u t => va_P D vwCl (wo u) t.heap ∧ va_D (va_A w0 sz) (wo u)) (va_A w0 sz)) 0 0 (va_A w0 sz)
def Cv (l : Launch) (D : va_G) (tys : List (ClassId × FieldType)) (y : MethodName) (wm : List Cond) (rm : Room) (av : List Value) (w0 : va_W) {S : Type} (post : S → Prop) (wo : S → va_W) : Prop :=
  ∀ sz : Nat, Met l y wm rm (va_Pc av (ct_pre D tys sz w0)) (va_Qv post (fun u t => va_P D vwCl (wo u) t.heap ∧ va_D (va_A w0 sz) (wo u)) (va_A w0 sz)) 0 0 (va_A w0 sz)
abbrev Qi (D : va_G) (below : List Frame) (args : Array Value) (s : State) (A : Nat → Prop) {S : Type} (post : Int32 → S → Prop) (wo : S → va_W) : State → Prop :=
  MQ below (va_Qi post (fun u t => va_P D vwCl (wo u) t.heap ∧ va_D A (wo u)) A) args s 0 0 A
abbrev Qv (D : va_G) (below : List Frame) (args : Array Value) (s : State) (A : Nat → Prop) {S : Type} (post : S → Prop) (wo : S → va_W) : State → Prop :=
  MQ below (va_Qv post (fun u t => va_P D vwCl (wo u) t.heap ∧ va_D A (wo u)) A) args s 0 0 A
theorem Ci.mk {l : Launch} {D : va_G} {tys : List (ClassId × FieldType)} {y : MethodName} {wm ws' : List Cond} {rm : Room} {av : List Value} {w0 : va_W} {S : Type} {post : Int32 → S → Prop} {wo : S → va_W} {cc : ByteArray} {maxL : Nat} {ret : Option FieldType}
    (hy : plainName y.cls = true) (hw : wm = Cond.code y cc maxL ret :: ws') (hav : (lg_sl av).length ≤ maxL)
    (body : ∀ (p : Program) (e : Env) (s : State) (m : MethodId) (below : List Frame) (meth : Method) (c : Code) (A : Nat → Prop) (ls : Array Slot), p.tables.exec = Jvm.exec → c.code = cc → c.maxLocals = maxL → meth.sig.returnType = ret → s.vm.findClass y.cls = some m.cls → (∀ w ∈ wm, w.before av.toArray s = true) → meth.locks = false →
      va_K D vwCl tys s → va_Nw nsl s → (∀ q : Nat, s.heap.size ≤ q → A q) → va_P D vwCl w0 s.heap → va_D A w0 → va_S A s.heap s.heap [] → lv_has ls maxL (lv_args 0 av) →
      W p l e rm s m av.toArray below meth c s.heap [] 0 0 (Qi D below av.toArray s A post wo) (F0 m 0 ls [])) : Ci l D tys y wm rm av w0 post wo := by
  intro sz
  refine Met.ofW (cc := cc) (maxL := maxL) (ret := ret) hy hw ?_
  intro p e s m args below meth c s₁ B hml hv
  obtain ⟨rfl, rfl, hP, hK, hD0, hn⟩ := hv
  have hl := lv_entry av (n := maxL) hav
  rw [lg_entry_eq]
  exact body p e s m below meth c (va_A w0 s.heap.size) _ B.exec B.bytes hml B.returns (findClass_of_methodNamed B.named) (atoms_spec (ws := wm) B.pre) B.notSynchronized hK hn (fun q h => Or.inr h) hP hD0.self va_S.rf hl
theorem Cv.mk {l : Launch} {D : va_G} {tys : List (ClassId × FieldType)} {y : MethodName} {wm ws' : List Cond} {rm : Room} {av : List Value} {w0 : va_W} {S : Type} {post : S → Prop} {wo : S → va_W} {cc : ByteArray} {maxL : Nat} {ret : Option FieldType}
    (hy : plainName y.cls = true) (hw : wm = Cond.code y cc maxL ret :: ws') (hav : (lg_sl av).length ≤ maxL)
    (body : ∀ (p : Program) (e : Env) (s : State) (m : MethodId) (below : List Frame) (meth : Method) (c : Code) (A : Nat → Prop) (ls : Array Slot), p.tables.exec = Jvm.exec → c.code = cc → c.maxLocals = maxL → meth.sig.returnType = ret → s.vm.findClass y.cls = some m.cls → (∀ w ∈ wm, w.before av.toArray s = true) → meth.locks = false →
      va_K D vwCl tys s → va_Nw nsl s → (∀ q : Nat, s.heap.size ≤ q → A q) → va_P D vwCl w0 s.heap → va_D A w0 → va_S A s.heap s.heap [] → lv_has ls maxL (lv_args 0 av) →
      W p l e rm s m av.toArray below meth c s.heap [] 0 0 (Qv D below av.toArray s A post wo) (F0 m 0 ls [])) : Cv l D tys y wm rm av w0 post wo := by
  intro sz
  refine Met.ofW (cc := cc) (maxL := maxL) (ret := ret) hy hw ?_
  intro p e s m args below meth c s₁ B hml hv
  obtain ⟨rfl, rfl, hP, hK, hD0, hn⟩ := hv
  have hl := lv_entry av (n := maxL) hav
  rw [lg_entry_eq]
  exact body p e s m below meth c (va_A w0 s.heap.size) _ B.exec B.bytes hml B.returns (findClass_of_methodNamed B.named) (atoms_spec (ws := wm) B.pre) B.notSynchronized hK hn (fun q h => Or.inr h) hP hD0.self va_S.rf hl
section RET
variable {p : Program} {l : Launch} {e : Env} {R : Room} {s : State} {m : MethodId} {args : Array Value} {below : List Frame} {meth : Method} {c : Code} {H : Heap} {locs : List Loc} {D : va_G} {A : Nat → Prop} {cc : ByteArray} {pc : Nat} {ls : Array Slot} {S : Type}
theorem Ri {post : Int32 → S → Prop} {wo : S → va_W} {v : Int32} (u : S) {ty : FieldType} (hx : p.tables.exec = Jvm.exec) (hb : c.code = cc) (hr : meth.sig.returnType = some ty) (hn : narrow ty (.int v) = .int v) (hlocks : meth.locks = false) (hP : va_P D vwCl (wo u) H) (hD : va_D A (wo u)) (hS : va_S A s.heap H locs) (hp : post v u) (hdg : decode cc pc = .ok (.ireturn, 1)) :
    W p l e R s m args below meth c H locs 0 0 (Qi D below args s A post wo) (F0 m pc ls [.int v]) :=
  W.zret (ty := ty) hx hb hr hn (fun t ht _ => ⟨⟨v, u, rfl, hp, by rw [ht]; exact hP, hD⟩, hS.F ht⟩) hS.2.2 hdg hlocks
theorem Rv {post : S → Prop} {wo : S → va_W} (u : S) (hx : p.tables.exec = Jvm.exec) (hb : c.code = cc) (hr : meth.sig.returnType = none) (hlocks : meth.locks = false) (hP : va_P D vwCl (wo u) H) (hD : va_D A (wo u)) (hS : va_S A s.heap H locs) (hp : post u) (hdg : decode cc pc = .ok (.return_, 1)) :
    W p l e R s m args below meth c H locs 0 0 (Qv D below args s A post wo) (F0 m pc ls []) :=
  W.vret hx hb hr (fun t ht _ => ⟨⟨u, rfl, hp, by rw [ht]; exact hP, hD⟩, hS.F ht⟩) hS.2.2 hdg hlocks
end RET
theorem ct_blind {D : va_G} {tys : List (ClassId × FieldType)} {sz : Nat} {w0 : va_W} {av : List Value} : FrameBlind (va_Pc av (ct_pre D tys sz w0)) := fun a U g mk q => by
  obtain ⟨q0, q1, qP, qK, qD, qn⟩ := q
  exact ⟨q0, q1, qP, va_K.moved (u := U) (U := U.calling g mk a) (Vm.Alike.refl U.vm) qK, qD, va_Nw.same (u := U) (U := U.calling g mk a) rfl rfl qn⟩
theorem ct_use {D : va_G} {tys : List (ClassId × FieldType)} {w0 : va_W} {av : List Value} {s : State} {H : Heap} {A : Nat → Prop} (hK : va_K D vwCl tys s) (hn : va_Nw nsl s) (hP : va_P D vwCl w0 H) (hD : va_D A w0) : ∀ U : State, U.heap = H → s.WarmedH U.vm → va_Pc av (ct_pre D tys H.size w0) av.toArray U :=
  fun U hU hW => ⟨rfl, by rw [hU], by rw [hU]; exact hP, va_K.moved hW.alike hK, hD.weaken (fun _ _ _ _ => trivial), va_Nw.warmM hW hn⟩
section CALLS
variable {p : Program} {l : Launch} {e : Env} {R : Room} {s : State} {m : MethodId} {args : Array Value} {below : List Frame} {meth : Method} {c : Code} {H : Heap} {locs : List Loc} {cells slots : Nat} {Q : State → Prop} {D : va_G} {A : Nat → Prop} {cc : ByteArray} {pc nL : Nat} {ls : Array Slot} {S : Type} {rest st0 : List Value}
variable {tys : List (ClassId × FieldType)} {y : MethodName} {wm Ts : List Cond} {rm : Room} {As : List Value} {wc : va_W} {own C host : String} {index maxL n ci b : Nat} {bytes : ByteArray} {ret : Option FieldType} {fs : List Value} {T : u_T} {N : Nat}
theorem cl_Vi {po : Int32 → S → Prop} {wo : S → va_W} (pre post : va_W) (hC : Ci l D tys y wm rm (.ref b :: As) wc po wo) (S0 : CallFix p m c cc nL s args Ts own) (cw : CallW R s args own C index y bytes maxL ret wm rm 0 0 n) (hK : va_K D vwCl tys s) (hn : va_Nw nsl s) (hP : va_P D vwCl (pre ++ (wc ++ post)) H) (hD : va_D A (pre ++ (wc ++ post))) (hS : va_S A s.heap H locs) (hA : ∀ q : Nat, s.heap.size ≤ q → A q)
    (hw0 : wc[0]? = some (b, .inr (ci, fs))) (hci : vwCl[ci]? = some (C, T, N)) (hAs : As.length = n) (hls : ls.size = nL) (hst : st0 = As.reverse ++ .ref b :: rest) (hW : (rest.map fun v => v.category).sum ≤ 8) (hdg : decode cc pc = .ok (.invokevirtual index, 3)) (hf : cells ≤ R.cells ∧ slots ≤ R.slots)
    (kk : ∀ (r : Int32) (u : S) (H1 : Heap) (locs1 : List Loc), po r u → va_P D vwCl (pre ++ (wo u ++ post)) H1 → va_D A (pre ++ (wo u ++ post)) → va_S A s.heap H1 locs1 → W p l e R s m args below meth c H1 locs1 cells slots Q (F0 m (pc + 3) ls (.int r :: rest))) : W p l e R s m args below meth c H locs cells slots Q (F0 m pc ls st0) := by
  have hPc := wm_sub hP
  have hDc := wm_subD hD
  have hFc := wm_free hD hS hA
  refine va_calli (va_runV (As := As) (rest := rest) S0 (hC H.size) cw ⟨ct_blind, va_recv hK hPc (ci := ci) (q0 := 0) hci hw0, ct_use hK hn hPc hDc⟩ rfl hAs hls hst (lv_room hW) hdg hf) hS (fun q _ h => hFc q h) hFc (fun r u t H1 locs1 ht hvm hw hB hz1 hk1 hS1 => ?_)
  obtain ⟨hP1, hD1⟩ := hB
  rw [ht] at hP1
  obtain ⟨hP2, hD2⟩ := wm_join hP hD hk1 hFc hP1 hD1
  exact kk r u H1 locs1 hw hP2 hD2 hS1
theorem cl_Vv {po : S → Prop} {wo : S → va_W} (pre post : va_W) (hC : Cv l D tys y wm rm (.ref b :: As) wc po wo) (S0 : CallFix p m c cc nL s args Ts own) (cw : CallW R s args own C index y bytes maxL ret wm rm 0 0 n) (hK : va_K D vwCl tys s) (hn : va_Nw nsl s) (hP : va_P D vwCl (pre ++ (wc ++ post)) H) (hD : va_D A (pre ++ (wc ++ post))) (hS : va_S A s.heap H locs) (hA : ∀ q : Nat, s.heap.size ≤ q → A q)
    (hw0 : wc[0]? = some (b, .inr (ci, fs))) (hci : vwCl[ci]? = some (C, T, N)) (hAs : As.length = n) (hls : ls.size = nL) (hst : st0 = As.reverse ++ .ref b :: rest) (hW : (rest.map fun v => v.category).sum ≤ 8) (hdg : decode cc pc = .ok (.invokevirtual index, 3)) (hf : cells ≤ R.cells ∧ slots ≤ R.slots)
    (kk : ∀ (u : S) (H1 : Heap) (locs1 : List Loc), po u → va_P D vwCl (pre ++ (wo u ++ post)) H1 → va_D A (pre ++ (wo u ++ post)) → va_S A s.heap H1 locs1 → W p l e R s m args below meth c H1 locs1 cells slots Q (F0 m (pc + 3) ls rest)) : W p l e R s m args below meth c H locs cells slots Q (F0 m pc ls st0) := by
  have hPc := wm_sub hP
  have hDc := wm_subD hD
  have hFc := wm_free hD hS hA
  refine va_callv (va_runV (As := As) (rest := rest) S0 (hC H.size) cw ⟨ct_blind, va_recv hK hPc (ci := ci) (q0 := 0) hci hw0, ct_use hK hn hPc hDc⟩ rfl hAs hls hst (lv_room hW) hdg hf) hS (fun q _ h => hFc q h) hFc (fun u t H1 locs1 ht hvm hw hB hz1 hk1 hS1 => ?_)
  obtain ⟨hP1, hD1⟩ := hB
  rw [ht] at hP1
  obtain ⟨hP2, hD2⟩ := wm_join hP hD hk1 hFc hP1 hD1
  exact kk u H1 locs1 hw hP2 hD2 hS1
theorem cl_Si {po : Int32 → S → Prop} (hC : Ci l D [] y wm rm As [] po (fun _ => [])) (S0 : CallFix p m c cc nL s args Ts own) (cw : CallB R s args own index y bytes maxL ret wm rm 0 0 n ∧ (Cond.static y).before args s = true) (hK : va_K D vwCl tys s) (hn : va_Nw nsl s) (hP : va_P D vwCl wc H) (hD : va_D A wc) (hS : va_S A s.heap H locs) (hA : ∀ q : Nat, s.heap.size ≤ q → A q)
    (hAs : As.length = n) (hls : ls.size = nL) (hst : st0 = As.reverse ++ rest) (hW : (rest.map fun v => v.category).sum ≤ 8) (hdg : decode cc pc = .ok (.invokestatic index, 3)) (hf : cells ≤ R.cells ∧ slots ≤ R.slots)
    (kk : ∀ (r : Int32) (u : S) (H1 : Heap) (locs1 : List Loc), po r u → va_P D vwCl wc H1 → va_D A wc → va_S A s.heap H1 locs1 → W p l e R s m args below meth c H1 locs1 cells slots Q (F0 m (pc + 3) ls (.int r :: rest))) : W p l e R s m args below meth c H locs cells slots Q (F0 m pc ls st0) := by
  have hP' : va_P D vwCl ([] ++ ([] ++ wc)) H := hP
  have hD' : va_D A ([] ++ ([] ++ wc)) := hD
  have hPc := wm_sub hP'
  have hDc := wm_subD hD'
  have hFc := wm_free hD' hS hA
  refine va_calli (va_runS (As := As) (rest := rest) S0 (hC H.size) cw ⟨ct_blind, ct_use (hK.sub [] rfl) hn hPc hDc⟩ rfl hAs hls hst (lv_room hW) hdg hf) hS (fun q _ h => hFc q h) hFc (fun r u t H1 locs1 ht hvm hw hB hz1 hk1 hS1 => ?_)
  obtain ⟨hP1, hD1⟩ := hB
  rw [ht] at hP1
  obtain ⟨hP2, hD2⟩ := wm_join hP' hD' hk1 hFc hP1 hD1
  exact kk r u H1 locs1 hw hP2 hD2 hS1
theorem cl_SNi {po : Int32 → S → Prop} (hC : Ci l D [] y wm rm As [] po (fun _ => [])) (S0 : CallFix p m c cc nL s args Ts own) (cw : va_CN R s args own index y host bytes maxL ret wm rm 0 0 n ∧ (Cond.static y).before args s = true ∧ True) (hK : va_K D vwCl tys s) (hn : va_Nw nsl s) (hP : va_P D vwCl wc H) (hD : va_D A wc) (hS : va_S A s.heap H locs) (hA : ∀ q : Nat, s.heap.size ≤ q → A q)
    (hAs : As.length = n) (hls : ls.size = nL) (hst : st0 = As.reverse ++ rest) (hW : (rest.map fun v => v.category).sum ≤ 8) (hdg : decode cc pc = .ok (.invokestatic index, 3)) (hf : cells ≤ R.cells ∧ slots ≤ R.slots)
    (kk : ∀ (r : Int32) (u : S) (H1 : Heap) (locs1 : List Loc), po r u → va_P D vwCl wc H1 → va_D A wc → va_S A s.heap H1 locs1 → W p l e R s m args below meth c H1 locs1 cells slots Q (F0 m (pc + 3) ls (.int r :: rest))) : W p l e R s m args below meth c H locs cells slots Q (F0 m pc ls st0) := by
  have hP' : va_P D vwCl ([] ++ ([] ++ wc)) H := hP
  have hD' : va_D A ([] ++ ([] ++ wc)) := hD
  have hPc := wm_sub hP'
  have hDc := wm_subD hD'
  have hFc := wm_free hD' hS hA
  refine va_calli (va_runSN (As := As) (rest := rest) S0 (hC H.size) cw ⟨ct_blind, ct_use (hK.sub [] rfl) hn hPc hDc⟩ rfl hAs hls hst (lv_room hW) hdg hf) hS (fun q _ h => hFc q h) hFc (fun r u t H1 locs1 ht hvm hw hB hz1 hk1 hS1 => ?_)
  obtain ⟨hP1, hD1⟩ := hB
  rw [ht] at hP1
  obtain ⟨hP2, hD2⟩ := wm_join hP' hD' hk1 hFc hP1 hD1
  exact kk r u H1 locs1 hw hP2 hD2 hS1
end CALLS
end
section
theorem dX0_init_0 : decode cX0_init 0 = .ok (.aload_n 0, 1) := by decide +kernel
theorem dX0_init_1 : decode cX0_init 1 = .ok (.invokespecial 3, 3) := by decide +kernel
theorem dX0_init_4 : decode cX0_init 4 = .ok (.aload_n 0, 1) := by decide +kernel
theorem dX0_init_5 : decode cX0_init 5 = .ok (.bipush 64, 2) := by decide +kernel
theorem dX0_init_7 : decode cX0_init 7 = .ok (.newarray .int, 2) := by decide +kernel
theorem dX0_init_9 : decode cX0_init 9 = .ok (.putfield 9, 3) := by decide +kernel
theorem dX0_init_12 : decode cX0_init 12 = .ok (.aload_n 0, 1) := by decide +kernel
theorem dX0_init_13 : decode cX0_init 13 = .ok (.bipush 64, 2) := by decide +kernel
theorem dX0_init_15 : decode cX0_init 15 = .ok (.newarray .int, 2) := by decide +kernel
theorem dX0_init_17 : decode cX0_init 17 = .ok (.putfield 15, 3) := by decide +kernel
theorem dX0_init_20 : decode cX0_init 20 = .ok (.aload_n 0, 1) := by decide +kernel
theorem dX0_init_21 : decode cX0_init 21 = .ok (.bipush 64, 2) := by decide +kernel
theorem dX0_init_23 : decode cX0_init 23 = .ok (.newarray .int, 2) := by decide +kernel
theorem dX0_init_25 : decode cX0_init 25 = .ok (.putfield 18, 3) := by decide +kernel
theorem dX0_init_28 : decode cX0_init 28 = .ok (.return_, 1) := by decide +kernel
theorem dX0_size_0 : decode cX0_size 0 = .ok (.aload_n 0, 1) := by decide +kernel
theorem dX0_size_1 : decode cX0_size 1 = .ok (.getfield 21, 3) := by decide +kernel
theorem dX0_size_4 : decode cX0_size 4 = .ok (.ireturn, 1) := by decide +kernel
theorem dX0_push_0 : decode cX0_push 0 = .ok (.aload_n 0, 1) := by decide +kernel
theorem dX0_push_1 : decode cX0_push 1 = .ok (.getfield 21, 3) := by decide +kernel
theorem dX0_push_4 : decode cX0_push 4 = .ok (.bipush 64, 2) := by decide +kernel
theorem dX0_push_6 : decode cX0_push 6 = .ok (.if_icmp .ge 43, 3) := by decide +kernel
theorem dX0_push_9 : decode cX0_push 9 = .ok (.aload_n 0, 1) := by decide +kernel
theorem dX0_push_10 : decode cX0_push 10 = .ok (.getfield 9, 3) := by decide +kernel
theorem dX0_push_13 : decode cX0_push 13 = .ok (.aload_n 0, 1) := by decide +kernel
theorem dX0_push_14 : decode cX0_push 14 = .ok (.getfield 21, 3) := by decide +kernel
theorem dX0_push_17 : decode cX0_push 17 = .ok (.iload_n 1, 1) := by decide +kernel
theorem dX0_push_18 : decode cX0_push 18 = .ok (.iastore, 1) := by decide +kernel
theorem dX0_push_19 : decode cX0_push 19 = .ok (.aload_n 0, 1) := by decide +kernel
theorem dX0_push_20 : decode cX0_push 20 = .ok (.getfield 15, 3) := by decide +kernel
theorem dX0_push_23 : decode cX0_push 23 = .ok (.aload_n 0, 1) := by decide +kernel
theorem dX0_push_24 : decode cX0_push 24 = .ok (.getfield 21, 3) := by decide +kernel
theorem dX0_push_27 : decode cX0_push 27 = .ok (.iload_n 2, 1) := by decide +kernel
theorem dX0_push_28 : decode cX0_push 28 = .ok (.iastore, 1) := by decide +kernel
theorem dX0_push_29 : decode cX0_push 29 = .ok (.aload_n 0, 1) := by decide +kernel
theorem dX0_push_30 : decode cX0_push 30 = .ok (.getfield 18, 3) := by decide +kernel
theorem dX0_push_33 : decode cX0_push 33 = .ok (.aload_n 0, 1) := by decide +kernel
theorem dX0_push_34 : decode cX0_push 34 = .ok (.getfield 21, 3) := by decide +kernel
theorem dX0_push_37 : decode cX0_push 37 = .ok (.iload_n 3, 1) := by decide +kernel
theorem dX0_push_38 : decode cX0_push 38 = .ok (.iastore, 1) := by decide +kernel
theorem dX0_push_39 : decode cX0_push 39 = .ok (.aload_n 0, 1) := by decide +kernel
theorem dX0_push_40 : decode cX0_push 40 = .ok (.dup, 1) := by decide +kernel
theorem dX0_push_41 : decode cX0_push 41 = .ok (.getfield 21, 3) := by decide +kernel
theorem dX0_push_44 : decode cX0_push 44 = .ok (.iconst 1, 1) := by decide +kernel
theorem dX0_push_45 : decode cX0_push 45 = .ok (.iadd, 1) := by decide +kernel
theorem dX0_push_46 : decode cX0_push 46 = .ok (.putfield 21, 3) := by decide +kernel
theorem dX0_push_49 : decode cX0_push 49 = .ok (.return_, 1) := by decide +kernel
theorem dX0_pop_0 : decode cX0_pop 0 = .ok (.aload_n 0, 1) := by decide +kernel
theorem dX0_pop_1 : decode cX0_pop 1 = .ok (.getfield 21, 3) := by decide +kernel
theorem dX0_pop_4 : decode cX0_pop 4 = .ok (.ifCond .le 13, 3) := by decide +kernel
theorem dX0_pop_7 : decode cX0_pop 7 = .ok (.aload_n 0, 1) := by decide +kernel
theorem dX0_pop_8 : decode cX0_pop 8 = .ok (.dup, 1) := by decide +kernel
theorem dX0_pop_9 : decode cX0_pop 9 = .ok (.getfield 21, 3) := by decide +kernel
theorem dX0_pop_12 : decode cX0_pop 12 = .ok (.iconst 1, 1) := by decide +kernel
theorem dX0_pop_13 : decode cX0_pop 13 = .ok (.isub, 1) := by decide +kernel
theorem dX0_pop_14 : decode cX0_pop 14 = .ok (.putfield 21, 3) := by decide +kernel
theorem dX0_pop_17 : decode cX0_pop 17 = .ok (.return_, 1) := by decide +kernel
theorem dX0_kind_0 : decode cX0_kind 0 = .ok (.aload_n 0, 1) := by decide +kernel
theorem dX0_kind_1 : decode cX0_kind 1 = .ok (.getfield 21, 3) := by decide +kernel
theorem dX0_kind_4 : decode cX0_kind 4 = .ok (.ifCond .le 17, 3) := by decide +kernel
theorem dX0_kind_7 : decode cX0_kind 7 = .ok (.aload_n 0, 1) := by decide +kernel
theorem dX0_kind_8 : decode cX0_kind 8 = .ok (.getfield 9, 3) := by decide +kernel
theorem dX0_kind_11 : decode cX0_kind 11 = .ok (.aload_n 0, 1) := by decide +kernel
theorem dX0_kind_12 : decode cX0_kind 12 = .ok (.getfield 21, 3) := by decide +kernel
theorem dX0_kind_15 : decode cX0_kind 15 = .ok (.iconst 1, 1) := by decide +kernel
theorem dX0_kind_16 : decode cX0_kind 16 = .ok (.isub, 1) := by decide +kernel
theorem dX0_kind_17 : decode cX0_kind 17 = .ok (.iaload, 1) := by decide +kernel
theorem dX0_kind_18 : decode cX0_kind 18 = .ok (.goto 5, 3) := by decide +kernel
theorem dX0_kind_21 : decode cX0_kind 21 = .ok (.bipush 9, 2) := by decide +kernel
theorem dX0_kind_23 : decode cX0_kind 23 = .ok (.ireturn, 1) := by decide +kernel
theorem dX0_number_0 : decode cX0_number 0 = .ok (.aload_n 0, 1) := by decide +kernel
theorem dX0_number_1 : decode cX0_number 1 = .ok (.getfield 21, 3) := by decide +kernel
theorem dX0_number_4 : decode cX0_number 4 = .ok (.ifCond .le 17, 3) := by decide +kernel
theorem dX0_number_7 : decode cX0_number 7 = .ok (.aload_n 0, 1) := by decide +kernel
theorem dX0_number_8 : decode cX0_number 8 = .ok (.getfield 15, 3) := by decide +kernel
theorem dX0_number_11 : decode cX0_number 11 = .ok (.aload_n 0, 1) := by decide +kernel
theorem dX0_number_12 : decode cX0_number 12 = .ok (.getfield 21, 3) := by decide +kernel
theorem dX0_number_15 : decode cX0_number 15 = .ok (.iconst 1, 1) := by decide +kernel
theorem dX0_number_16 : decode cX0_number 16 = .ok (.isub, 1) := by decide +kernel
theorem dX0_number_17 : decode cX0_number 17 = .ok (.iaload, 1) := by decide +kernel
theorem dX0_number_18 : decode cX0_number 18 = .ok (.goto 4, 3) := by decide +kernel
theorem dX0_number_21 : decode cX0_number 21 = .ok (.iconst 0, 1) := by decide +kernel
theorem dX0_number_22 : decode cX0_number 22 = .ok (.ireturn, 1) := by decide +kernel
theorem dX0_behind_0 : decode cX0_behind 0 = .ok (.aload_n 0, 1) := by decide +kernel
theorem dX0_behind_1 : decode cX0_behind 1 = .ok (.getfield 21, 3) := by decide +kernel
theorem dX0_behind_4 : decode cX0_behind 4 = .ok (.ifCond .le 17, 3) := by decide +kernel
theorem dX0_behind_7 : decode cX0_behind 7 = .ok (.aload_n 0, 1) := by decide +kernel
theorem dX0_behind_8 : decode cX0_behind 8 = .ok (.getfield 18, 3) := by decide +kernel
theorem dX0_behind_11 : decode cX0_behind 11 = .ok (.aload_n 0, 1) := by decide +kernel
theorem dX0_behind_12 : decode cX0_behind 12 = .ok (.getfield 21, 3) := by decide +kernel
theorem dX0_behind_15 : decode cX0_behind 15 = .ok (.iconst 1, 1) := by decide +kernel
theorem dX0_behind_16 : decode cX0_behind 16 = .ok (.isub, 1) := by decide +kernel
theorem dX0_behind_17 : decode cX0_behind 17 = .ok (.iaload, 1) := by decide +kernel
theorem dX0_behind_18 : decode cX0_behind 18 = .ok (.goto 4, 3) := by decide +kernel
theorem dX0_behind_21 : decode cX0_behind 21 = .ok (.iconst 0, 1) := by decide +kernel
theorem dX0_behind_22 : decode cX0_behind 22 = .ok (.ireturn, 1) := by decide +kernel
theorem dX1_init_0 : decode cX1_init 0 = .ok (.aload_n 0, 1) := by decide +kernel
theorem dX1_init_1 : decode cX1_init 1 = .ok (.invokespecial 3, 3) := by decide +kernel
theorem dX1_init_4 : decode cX1_init 4 = .ok (.aload_n 0, 1) := by decide +kernel
theorem dX1_init_5 : decode cX1_init 5 = .ok (.bipush 40, 2) := by decide +kernel
theorem dX1_init_7 : decode cX1_init 7 = .ok (.newarray .int, 2) := by decide +kernel
theorem dX1_init_9 : decode cX1_init 9 = .ok (.putfield 9, 3) := by decide +kernel
theorem dX1_init_12 : decode cX1_init 12 = .ok (.return_, 1) := by decide +kernel
theorem dX1_size_0 : decode cX1_size 0 = .ok (.aload_n 0, 1) := by decide +kernel
theorem dX1_size_1 : decode cX1_size 1 = .ok (.getfield 15, 3) := by decide +kernel
theorem dX1_size_4 : decode cX1_size 4 = .ok (.ireturn, 1) := by decide +kernel
theorem dX1_add_0 : decode cX1_add 0 = .ok (.aload_n 0, 1) := by decide +kernel
theorem dX1_add_1 : decode cX1_add 1 = .ok (.getfield 15, 3) := by decide +kernel
theorem dX1_add_4 : decode cX1_add 4 = .ok (.bipush 40, 2) := by decide +kernel
theorem dX1_add_6 : decode cX1_add 6 = .ok (.if_icmp .lt 6, 3) := by decide +kernel
theorem dX1_add_9 : decode cX1_add 9 = .ok (.bipush (-2), 2) := by decide +kernel
theorem dX1_add_11 : decode cX1_add 11 = .ok (.ireturn, 1) := by decide +kernel
theorem dX1_add_12 : decode cX1_add 12 = .ok (.aload_n 0, 1) := by decide +kernel
theorem dX1_add_13 : decode cX1_add 13 = .ok (.getfield 9, 3) := by decide +kernel
theorem dX1_add_16 : decode cX1_add 16 = .ok (.aload_n 0, 1) := by decide +kernel
theorem dX1_add_17 : decode cX1_add 17 = .ok (.getfield 15, 3) := by decide +kernel
theorem dX1_add_20 : decode cX1_add 20 = .ok (.iload_n 1, 1) := by decide +kernel
theorem dX1_add_21 : decode cX1_add 21 = .ok (.sipush 1000, 3) := by decide +kernel
theorem dX1_add_24 : decode cX1_add 24 = .ok (.imul, 1) := by decide +kernel
theorem dX1_add_25 : decode cX1_add 25 = .ok (.iload_n 2, 1) := by decide +kernel
theorem dX1_add_26 : decode cX1_add 26 = .ok (.bipush 100, 2) := by decide +kernel
theorem dX1_add_28 : decode cX1_add 28 = .ok (.imul, 1) := by decide +kernel
theorem dX1_add_29 : decode cX1_add 29 = .ok (.iadd, 1) := by decide +kernel
theorem dX1_add_30 : decode cX1_add 30 = .ok (.iload_n 3, 1) := by decide +kernel
theorem dX1_add_31 : decode cX1_add 31 = .ok (.bipush 10, 2) := by decide +kernel
theorem dX1_add_33 : decode cX1_add 33 = .ok (.imul, 1) := by decide +kernel
theorem dX1_add_34 : decode cX1_add 34 = .ok (.iadd, 1) := by decide +kernel
theorem dX1_add_35 : decode cX1_add 35 = .ok (.iload 4, 2) := by decide +kernel
theorem dX1_add_37 : decode cX1_add 37 = .ok (.iadd, 1) := by decide +kernel
theorem dX1_add_38 : decode cX1_add 38 = .ok (.iastore, 1) := by decide +kernel
theorem dX1_add_39 : decode cX1_add 39 = .ok (.aload_n 0, 1) := by decide +kernel
theorem dX1_add_40 : decode cX1_add 40 = .ok (.dup, 1) := by decide +kernel
theorem dX1_add_41 : decode cX1_add 41 = .ok (.getfield 15, 3) := by decide +kernel
theorem dX1_add_44 : decode cX1_add 44 = .ok (.iconst 1, 1) := by decide +kernel
theorem dX1_add_45 : decode cX1_add 45 = .ok (.iadd, 1) := by decide +kernel
theorem dX1_add_46 : decode cX1_add 46 = .ok (.putfield 15, 3) := by decide +kernel
theorem dX1_add_49 : decode cX1_add 49 = .ok (.aload_n 0, 1) := by decide +kernel
theorem dX1_add_50 : decode cX1_add 50 = .ok (.getfield 15, 3) := by decide +kernel
theorem dX1_add_53 : decode cX1_add 53 = .ok (.iconst 1, 1) := by decide +kernel
theorem dX1_add_54 : decode cX1_add 54 = .ok (.isub, 1) := by decide +kernel
theorem dX1_add_55 : decode cX1_add 55 = .ok (.ireturn, 1) := by decide +kernel
theorem dX1_empty_0 : decode cX1_empty 0 = .ok (.aload_n 0, 1) := by decide +kernel
theorem dX1_empty_1 : decode cX1_empty 1 = .ok (.getfield 15, 3) := by decide +kernel
theorem dX1_empty_4 : decode cX1_empty 4 = .ok (.istore_n 1, 1) := by decide +kernel
theorem dX1_empty_5 : decode cX1_empty 5 = .ok (.aload_n 0, 1) := by decide +kernel
theorem dX1_empty_6 : decode cX1_empty 6 = .ok (.iconst 0, 1) := by decide +kernel
theorem dX1_empty_7 : decode cX1_empty 7 = .ok (.putfield 15, 3) := by decide +kernel
theorem dX1_empty_10 : decode cX1_empty 10 = .ok (.iload_n 1, 1) := by decide +kernel
theorem dX1_empty_11 : decode cX1_empty 11 = .ok (.ireturn, 1) := by decide +kernel
set_option maxRecDepth 20000 in
theorem ggX1_kindOf_X1_digitsOf : GoodIn wsX1_kindOf wsX1_digitsOf := goodIn_r _ [5, 6, 7, 8, 9] (by decide +kernel) (by decide +kernel)
set_option maxRecDepth 20000 in
theorem gX1_kindOf_X1_digitsOf : GoodIn wsX1_kindOf (wsV RX1 19 RX1 yX1_digitsOf wsX1_digitsOf) := goodIn_app (goodIn_of _ (by decide +kernel)) ggX1_kindOf_X1_digitsOf
theorem dX1_kindOf_0 : decode cX1_kindOf 0 = .ok (.aload_n 0, 1) := by decide +kernel
theorem dX1_kindOf_1 : decode cX1_kindOf 1 = .ok (.iload_n 1, 1) := by decide +kernel
theorem dX1_kindOf_2 : decode cX1_kindOf 2 = .ok (.invokevirtual 19, 3) := by decide +kernel
theorem dX1_kindOf_5 : decode cX1_kindOf 5 = .ok (.sipush 1000, 3) := by decide +kernel
theorem dX1_kindOf_8 : decode cX1_kindOf 8 = .ok (.idiv, 1) := by decide +kernel
theorem dX1_kindOf_9 : decode cX1_kindOf 9 = .ok (.ireturn, 1) := by decide +kernel
set_option maxRecDepth 20000 in
theorem ggX1_aOf_X1_digitsOf : GoodIn wsX1_aOf wsX1_digitsOf := goodIn_r _ [5, 6, 7, 8, 9] (by decide +kernel) (by decide +kernel)
set_option maxRecDepth 20000 in
theorem gX1_aOf_X1_digitsOf : GoodIn wsX1_aOf (wsV RX1 19 RX1 yX1_digitsOf wsX1_digitsOf) := goodIn_app (goodIn_of _ (by decide +kernel)) ggX1_aOf_X1_digitsOf
theorem dX1_aOf_0 : decode cX1_aOf 0 = .ok (.aload_n 0, 1) := by decide +kernel
theorem dX1_aOf_1 : decode cX1_aOf 1 = .ok (.iload_n 1, 1) := by decide +kernel
theorem dX1_aOf_2 : decode cX1_aOf 2 = .ok (.invokevirtual 19, 3) := by decide +kernel
theorem dX1_aOf_5 : decode cX1_aOf 5 = .ok (.bipush 100, 2) := by decide +kernel
theorem dX1_aOf_7 : decode cX1_aOf 7 = .ok (.idiv, 1) := by decide +kernel
theorem dX1_aOf_8 : decode cX1_aOf 8 = .ok (.bipush 10, 2) := by decide +kernel
theorem dX1_aOf_10 : decode cX1_aOf 10 = .ok (.irem, 1) := by decide +kernel
theorem dX1_aOf_11 : decode cX1_aOf 11 = .ok (.ireturn, 1) := by decide +kernel
set_option maxRecDepth 20000 in
theorem ggX1_bOf_X1_digitsOf : GoodIn wsX1_bOf wsX1_digitsOf := goodIn_r _ [5, 6, 7, 8, 9] (by decide +kernel) (by decide +kernel)
set_option maxRecDepth 20000 in
theorem gX1_bOf_X1_digitsOf : GoodIn wsX1_bOf (wsV RX1 19 RX1 yX1_digitsOf wsX1_digitsOf) := goodIn_app (goodIn_of _ (by decide +kernel)) ggX1_bOf_X1_digitsOf
theorem dX1_bOf_0 : decode cX1_bOf 0 = .ok (.aload_n 0, 1) := by decide +kernel
theorem dX1_bOf_1 : decode cX1_bOf 1 = .ok (.iload_n 1, 1) := by decide +kernel
theorem dX1_bOf_2 : decode cX1_bOf 2 = .ok (.invokevirtual 19, 3) := by decide +kernel
theorem dX1_bOf_5 : decode cX1_bOf 5 = .ok (.bipush 10, 2) := by decide +kernel
theorem dX1_bOf_7 : decode cX1_bOf 7 = .ok (.idiv, 1) := by decide +kernel
theorem dX1_bOf_8 : decode cX1_bOf 8 = .ok (.bipush 10, 2) := by decide +kernel
theorem dX1_bOf_10 : decode cX1_bOf 10 = .ok (.irem, 1) := by decide +kernel
theorem dX1_bOf_11 : decode cX1_bOf 11 = .ok (.ireturn, 1) := by decide +kernel
set_option maxRecDepth 20000 in
theorem ggX1_cOf_X1_digitsOf : GoodIn wsX1_cOf wsX1_digitsOf := goodIn_r _ [5, 6, 7, 8, 9] (by decide +kernel) (by decide +kernel)
set_option maxRecDepth 20000 in
theorem gX1_cOf_X1_digitsOf : GoodIn wsX1_cOf (wsV RX1 19 RX1 yX1_digitsOf wsX1_digitsOf) := goodIn_app (goodIn_of _ (by decide +kernel)) ggX1_cOf_X1_digitsOf
theorem dX1_cOf_0 : decode cX1_cOf 0 = .ok (.aload_n 0, 1) := by decide +kernel
theorem dX1_cOf_1 : decode cX1_cOf 1 = .ok (.iload_n 1, 1) := by decide +kernel
theorem dX1_cOf_2 : decode cX1_cOf 2 = .ok (.invokevirtual 19, 3) := by decide +kernel
theorem dX1_cOf_5 : decode cX1_cOf 5 = .ok (.bipush 10, 2) := by decide +kernel
theorem dX1_cOf_7 : decode cX1_cOf 7 = .ok (.irem, 1) := by decide +kernel
theorem dX1_cOf_8 : decode cX1_cOf 8 = .ok (.ireturn, 1) := by decide +kernel
theorem dX1_digitsOf_0 : decode cX1_digitsOf 0 = .ok (.iload_n 1, 1) := by decide +kernel
theorem dX1_digitsOf_1 : decode cX1_digitsOf 1 = .ok (.ifCond .lt 20, 3) := by decide +kernel
theorem dX1_digitsOf_4 : decode cX1_digitsOf 4 = .ok (.iload_n 1, 1) := by decide +kernel
theorem dX1_digitsOf_5 : decode cX1_digitsOf 5 = .ok (.aload_n 0, 1) := by decide +kernel
theorem dX1_digitsOf_6 : decode cX1_digitsOf 6 = .ok (.getfield 15, 3) := by decide +kernel
theorem dX1_digitsOf_9 : decode cX1_digitsOf 9 = .ok (.if_icmp .ge 12, 3) := by decide +kernel
theorem dX1_digitsOf_12 : decode cX1_digitsOf 12 = .ok (.aload_n 0, 1) := by decide +kernel
theorem dX1_digitsOf_13 : decode cX1_digitsOf 13 = .ok (.getfield 9, 3) := by decide +kernel
theorem dX1_digitsOf_16 : decode cX1_digitsOf 16 = .ok (.iload_n 1, 1) := by decide +kernel
theorem dX1_digitsOf_17 : decode cX1_digitsOf 17 = .ok (.iaload, 1) := by decide +kernel
theorem dX1_digitsOf_18 : decode cX1_digitsOf 18 = .ok (.goto 6, 3) := by decide +kernel
theorem dX1_digitsOf_21 : decode cX1_digitsOf 21 = .ok (.sipush 9000, 3) := by decide +kernel
theorem dX1_digitsOf_24 : decode cX1_digitsOf 24 = .ok (.ireturn, 1) := by decide +kernel
set_option maxRecDepth 20000 in
theorem ggX1_isClosed_X1_deeperBy : GoodIn wsX1_isClosed wsX1_deeperBy := goodIn_r _ [6, 7, 8, 9, 5, 10, 11, 12, 13, 14, 1, 15, 16, 17] (by decide +kernel) (by decide +kernel)
set_option maxRecDepth 20000 in
theorem gX1_isClosed_X1_deeperBy : GoodIn wsX1_isClosed (wsV RX1 23 RX1 yX1_deeperBy wsX1_deeperBy) := goodIn_app (goodIn_of _ (by decide +kernel)) ggX1_isClosed_X1_deeperBy
theorem dX1_isClosed_0 : decode cX1_isClosed 0 = .ok (.iconst 0, 1) := by decide +kernel
theorem dX1_isClosed_1 : decode cX1_isClosed 1 = .ok (.istore_n 1, 1) := by decide +kernel
theorem dX1_isClosed_2 : decode cX1_isClosed 2 = .ok (.iconst 0, 1) := by decide +kernel
theorem dX1_isClosed_3 : decode cX1_isClosed 3 = .ok (.istore_n 2, 1) := by decide +kernel
theorem dX1_isClosed_4 : decode cX1_isClosed 4 = .ok (.iload_n 2, 1) := by decide +kernel
theorem dX1_isClosed_5 : decode cX1_isClosed 5 = .ok (.aload_n 0, 1) := by decide +kernel
theorem dX1_isClosed_6 : decode cX1_isClosed 6 = .ok (.getfield 15, 3) := by decide +kernel
theorem dX1_isClosed_9 : decode cX1_isClosed 9 = .ok (.if_icmp .ge 23, 3) := by decide +kernel
theorem dX1_isClosed_12 : decode cX1_isClosed 12 = .ok (.iload_n 1, 1) := by decide +kernel
theorem dX1_isClosed_13 : decode cX1_isClosed 13 = .ok (.aload_n 0, 1) := by decide +kernel
theorem dX1_isClosed_14 : decode cX1_isClosed 14 = .ok (.iload_n 2, 1) := by decide +kernel
theorem dX1_isClosed_15 : decode cX1_isClosed 15 = .ok (.invokevirtual 23, 3) := by decide +kernel
theorem dX1_isClosed_18 : decode cX1_isClosed 18 = .ok (.iadd, 1) := by decide +kernel
theorem dX1_isClosed_19 : decode cX1_isClosed 19 = .ok (.istore_n 1, 1) := by decide +kernel
theorem dX1_isClosed_20 : decode cX1_isClosed 20 = .ok (.iload_n 1, 1) := by decide +kernel
theorem dX1_isClosed_21 : decode cX1_isClosed 21 = .ok (.ifCond .ge 5, 3) := by decide +kernel
theorem dX1_isClosed_24 : decode cX1_isClosed 24 = .ok (.iconst 0, 1) := by decide +kernel
theorem dX1_isClosed_25 : decode cX1_isClosed 25 = .ok (.ireturn, 1) := by decide +kernel
theorem dX1_isClosed_26 : decode cX1_isClosed 26 = .ok (.iinc 2 1, 3) := by decide +kernel
theorem dX1_isClosed_29 : decode cX1_isClosed 29 = .ok (.goto (-25), 3) := by decide +kernel
theorem dX1_isClosed_32 : decode cX1_isClosed 32 = .ok (.iload_n 1, 1) := by decide +kernel
theorem dX1_isClosed_33 : decode cX1_isClosed 33 = .ok (.ifCond .ne 7, 3) := by decide +kernel
theorem dX1_isClosed_36 : decode cX1_isClosed 36 = .ok (.iconst 1, 1) := by decide +kernel
theorem dX1_isClosed_37 : decode cX1_isClosed 37 = .ok (.goto 4, 3) := by decide +kernel
theorem dX1_isClosed_40 : decode cX1_isClosed 40 = .ok (.iconst 0, 1) := by decide +kernel
theorem dX1_isClosed_41 : decode cX1_isClosed 41 = .ok (.ireturn, 1) := by decide +kernel
set_option maxRecDepth 20000 in
theorem ggX1_behindBlock_X1_deeperBy : GoodIn wsX1_behindBlock wsX1_deeperBy := goodIn_r _ [6, 7, 8, 9, 5, 10, 11, 12, 13, 14, 1, 15, 16, 17] (by decide +kernel) (by decide +kernel)
set_option maxRecDepth 20000 in
theorem gX1_behindBlock_X1_deeperBy : GoodIn wsX1_behindBlock (wsV RX1 23 RX1 yX1_deeperBy wsX1_deeperBy) := goodIn_app (goodIn_of _ (by decide +kernel)) ggX1_behindBlock_X1_deeperBy
theorem dX1_behindBlock_0 : decode cX1_behindBlock 0 = .ok (.iconst 0, 1) := by decide +kernel
theorem dX1_behindBlock_1 : decode cX1_behindBlock 1 = .ok (.istore_n 2, 1) := by decide +kernel
theorem dX1_behindBlock_2 : decode cX1_behindBlock 2 = .ok (.iload_n 1, 1) := by decide +kernel
theorem dX1_behindBlock_3 : decode cX1_behindBlock 3 = .ok (.istore_n 3, 1) := by decide +kernel
theorem dX1_behindBlock_4 : decode cX1_behindBlock 4 = .ok (.iload_n 3, 1) := by decide +kernel
theorem dX1_behindBlock_5 : decode cX1_behindBlock 5 = .ok (.aload_n 0, 1) := by decide +kernel
theorem dX1_behindBlock_6 : decode cX1_behindBlock 6 = .ok (.getfield 15, 3) := by decide +kernel
theorem dX1_behindBlock_9 : decode cX1_behindBlock 9 = .ok (.if_icmp .ge 25, 3) := by decide +kernel
theorem dX1_behindBlock_12 : decode cX1_behindBlock 12 = .ok (.iload_n 2, 1) := by decide +kernel
theorem dX1_behindBlock_13 : decode cX1_behindBlock 13 = .ok (.aload_n 0, 1) := by decide +kernel
theorem dX1_behindBlock_14 : decode cX1_behindBlock 14 = .ok (.iload_n 3, 1) := by decide +kernel
theorem dX1_behindBlock_15 : decode cX1_behindBlock 15 = .ok (.invokevirtual 23, 3) := by decide +kernel
theorem dX1_behindBlock_18 : decode cX1_behindBlock 18 = .ok (.iadd, 1) := by decide +kernel
theorem dX1_behindBlock_19 : decode cX1_behindBlock 19 = .ok (.istore_n 2, 1) := by decide +kernel
theorem dX1_behindBlock_20 : decode cX1_behindBlock 20 = .ok (.iload_n 2, 1) := by decide +kernel
theorem dX1_behindBlock_21 : decode cX1_behindBlock 21 = .ok (.ifCond .gt 7, 3) := by decide +kernel
theorem dX1_behindBlock_24 : decode cX1_behindBlock 24 = .ok (.iload_n 3, 1) := by decide +kernel
theorem dX1_behindBlock_25 : decode cX1_behindBlock 25 = .ok (.iconst 1, 1) := by decide +kernel
theorem dX1_behindBlock_26 : decode cX1_behindBlock 26 = .ok (.iadd, 1) := by decide +kernel
theorem dX1_behindBlock_27 : decode cX1_behindBlock 27 = .ok (.ireturn, 1) := by decide +kernel
theorem dX1_behindBlock_28 : decode cX1_behindBlock 28 = .ok (.iinc 3 1, 3) := by decide +kernel
theorem dX1_behindBlock_31 : decode cX1_behindBlock 31 = .ok (.goto (-27), 3) := by decide +kernel
theorem dX1_behindBlock_34 : decode cX1_behindBlock 34 = .ok (.aload_n 0, 1) := by decide +kernel
theorem dX1_behindBlock_35 : decode cX1_behindBlock 35 = .ok (.getfield 15, 3) := by decide +kernel
theorem dX1_behindBlock_38 : decode cX1_behindBlock 38 = .ok (.ireturn, 1) := by decide +kernel
set_option maxRecDepth 20000 in
theorem ggX1_deeperBy_X1_kindOf : GoodIn wsX1_deeperBy wsX1_kindOf := goodIn_r _ [5, 6, 7, 8, 4, 9, 10, 11, 12, 13] (by decide +kernel) (by decide +kernel)
set_option maxRecDepth 20000 in
theorem gX1_deeperBy_X1_kindOf : GoodIn wsX1_deeperBy (wsV RX1 26 RX1 yX1_kindOf wsX1_kindOf) := goodIn_app (goodIn_of _ (by decide +kernel)) ggX1_deeperBy_X1_kindOf
theorem dX1_deeperBy_0 : decode cX1_deeperBy 0 = .ok (.aload_n 0, 1) := by decide +kernel
theorem dX1_deeperBy_1 : decode cX1_deeperBy 1 = .ok (.iload_n 1, 1) := by decide +kernel
theorem dX1_deeperBy_2 : decode cX1_deeperBy 2 = .ok (.invokevirtual 26, 3) := by decide +kernel
theorem dX1_deeperBy_5 : decode cX1_deeperBy 5 = .ok (.istore_n 2, 1) := by decide +kernel
theorem dX1_deeperBy_6 : decode cX1_deeperBy 6 = .ok (.iload_n 2, 1) := by decide +kernel
theorem dX1_deeperBy_7 : decode cX1_deeperBy 7 = .ok (.ifCond .eq 8, 3) := by decide +kernel
theorem dX1_deeperBy_10 : decode cX1_deeperBy 10 = .ok (.iload_n 2, 1) := by decide +kernel
theorem dX1_deeperBy_11 : decode cX1_deeperBy 11 = .ok (.iconst 1, 1) := by decide +kernel
theorem dX1_deeperBy_12 : decode cX1_deeperBy 12 = .ok (.if_icmp .ne 5, 3) := by decide +kernel
theorem dX1_deeperBy_15 : decode cX1_deeperBy 15 = .ok (.iconst 1, 1) := by decide +kernel
theorem dX1_deeperBy_16 : decode cX1_deeperBy 16 = .ok (.ireturn, 1) := by decide +kernel
theorem dX1_deeperBy_17 : decode cX1_deeperBy 17 = .ok (.iload_n 2, 1) := by decide +kernel
theorem dX1_deeperBy_18 : decode cX1_deeperBy 18 = .ok (.iconst 2, 1) := by decide +kernel
theorem dX1_deeperBy_19 : decode cX1_deeperBy 19 = .ok (.if_icmp .ne 7, 3) := by decide +kernel
theorem dX1_deeperBy_22 : decode cX1_deeperBy 22 = .ok (.iconst (-1), 1) := by decide +kernel
theorem dX1_deeperBy_23 : decode cX1_deeperBy 23 = .ok (.goto 4, 3) := by decide +kernel
theorem dX1_deeperBy_26 : decode cX1_deeperBy 26 = .ok (.iconst 0, 1) := by decide +kernel
theorem dX1_deeperBy_27 : decode cX1_deeperBy 27 = .ok (.ireturn, 1) := by decide +kernel
theorem dX2_init_0 : decode cX2_init 0 = .ok (.aload_n 0, 1) := by decide +kernel
theorem dX2_init_1 : decode cX2_init 1 = .ok (.invokespecial 3, 3) := by decide +kernel
theorem dX2_init_4 : decode cX2_init 4 = .ok (.aload_n 0, 1) := by decide +kernel
theorem dX2_init_5 : decode cX2_init 5 = .ok (.bipush 10, 2) := by decide +kernel
theorem dX2_init_7 : decode cX2_init 7 = .ok (.newarray .int, 2) := by decide +kernel
theorem dX2_init_9 : decode cX2_init 9 = .ok (.putfield 9, 3) := by decide +kernel
theorem dX2_init_12 : decode cX2_init 12 = .ok (.aload_n 0, 1) := by decide +kernel
theorem dX2_init_13 : decode cX2_init 13 = .ok (.bipush (-4), 2) := by decide +kernel
theorem dX2_init_15 : decode cX2_init 15 = .ok (.putfield 15, 3) := by decide +kernel
theorem dX2_init_18 : decode cX2_init 18 = .ok (.aload_n 0, 1) := by decide +kernel
theorem dX2_init_19 : decode cX2_init 19 = .ok (.bipush (-4), 2) := by decide +kernel
theorem dX2_init_21 : decode cX2_init 21 = .ok (.putfield 19, 3) := by decide +kernel
theorem dX2_init_24 : decode cX2_init 24 = .ok (.return_, 1) := by decide +kernel
set_option maxRecDepth 20000 in
theorem ggX2_reset_X2_endAt : GoodIn wsX2_reset wsX2_endAt := goodIn_r _ [12, 13, 14, 15, 16, 17, 18, 19, 20, 21, 22, 23, 24, 25] (by decide +kernel) (by decide +kernel)
set_option maxRecDepth 20000 in
theorem gX2_reset_X2_endAt : GoodIn wsX2_reset (wsV RX2 25 RX2 yX2_endAt wsX2_endAt) := goodIn_app (goodIn_of _ (by decide +kernel)) ggX2_reset_X2_endAt
theorem dX2_reset_0 : decode cX2_reset 0 = .ok (.iconst 0, 1) := by decide +kernel
theorem dX2_reset_1 : decode cX2_reset 1 = .ok (.istore_n 1, 1) := by decide +kernel
theorem dX2_reset_2 : decode cX2_reset 2 = .ok (.iload_n 1, 1) := by decide +kernel
theorem dX2_reset_3 : decode cX2_reset 3 = .ok (.bipush 9, 2) := by decide +kernel
theorem dX2_reset_5 : decode cX2_reset 5 = .ok (.if_icmp .gt 16, 3) := by decide +kernel
theorem dX2_reset_8 : decode cX2_reset 8 = .ok (.aload_n 0, 1) := by decide +kernel
theorem dX2_reset_9 : decode cX2_reset 9 = .ok (.getfield 9, 3) := by decide +kernel
theorem dX2_reset_12 : decode cX2_reset 12 = .ok (.iload_n 1, 1) := by decide +kernel
theorem dX2_reset_13 : decode cX2_reset 13 = .ok (.iconst 0, 1) := by decide +kernel
theorem dX2_reset_14 : decode cX2_reset 14 = .ok (.iastore, 1) := by decide +kernel
theorem dX2_reset_15 : decode cX2_reset 15 = .ok (.iinc 1 1, 3) := by decide +kernel
theorem dX2_reset_18 : decode cX2_reset 18 = .ok (.goto (-16), 3) := by decide +kernel
theorem dX2_reset_21 : decode cX2_reset 21 = .ok (.aload_n 0, 1) := by decide +kernel
theorem dX2_reset_22 : decode cX2_reset 22 = .ok (.iconst 0, 1) := by decide +kernel
theorem dX2_reset_23 : decode cX2_reset 23 = .ok (.putfield 22, 3) := by decide +kernel
theorem dX2_reset_26 : decode cX2_reset 26 = .ok (.aload_n 0, 1) := by decide +kernel
theorem dX2_reset_27 : decode cX2_reset 27 = .ok (.iconst 0, 1) := by decide +kernel
theorem dX2_reset_28 : decode cX2_reset 28 = .ok (.bipush (-4), 2) := by decide +kernel
theorem dX2_reset_30 : decode cX2_reset 30 = .ok (.bipush (-4), 2) := by decide +kernel
theorem dX2_reset_32 : decode cX2_reset 32 = .ok (.invokevirtual 25, 3) := by decide +kernel
theorem dX2_reset_35 : decode cX2_reset 35 = .ok (.aload_n 0, 1) := by decide +kernel
theorem dX2_reset_36 : decode cX2_reset 36 = .ok (.iconst 0, 1) := by decide +kernel
theorem dX2_reset_37 : decode cX2_reset 37 = .ok (.putfield 29, 3) := by decide +kernel
theorem dX2_reset_40 : decode cX2_reset 40 = .ok (.aload_n 0, 1) := by decide +kernel
theorem dX2_reset_41 : decode cX2_reset 41 = .ok (.iconst 0, 1) := by decide +kernel
theorem dX2_reset_42 : decode cX2_reset 42 = .ok (.putfield 32, 3) := by decide +kernel
theorem dX2_reset_45 : decode cX2_reset 45 = .ok (.aload_n 0, 1) := by decide +kernel
theorem dX2_reset_46 : decode cX2_reset 46 = .ok (.iconst 0, 1) := by decide +kernel
theorem dX2_reset_47 : decode cX2_reset 47 = .ok (.putfield 35, 3) := by decide +kernel
theorem dX2_reset_50 : decode cX2_reset 50 = .ok (.aload_n 0, 1) := by decide +kernel
theorem dX2_reset_51 : decode cX2_reset 51 = .ok (.iconst 0, 1) := by decide +kernel
theorem dX2_reset_52 : decode cX2_reset 52 = .ok (.putfield 38, 3) := by decide +kernel
theorem dX2_reset_55 : decode cX2_reset 55 = .ok (.aload_n 0, 1) := by decide +kernel
theorem dX2_reset_56 : decode cX2_reset 56 = .ok (.iconst 0, 1) := by decide +kernel
theorem dX2_reset_57 : decode cX2_reset 57 = .ok (.putfield 41, 3) := by decide +kernel
theorem dX2_reset_60 : decode cX2_reset 60 = .ok (.return_, 1) := by decide +kernel
theorem dX2_endAt_0 : decode cX2_endAt 0 = .ok (.aload_n 0, 1) := by decide +kernel
theorem dX2_endAt_1 : decode cX2_endAt 1 = .ok (.iload_n 1, 1) := by decide +kernel
theorem dX2_endAt_2 : decode cX2_endAt 2 = .ok (.putfield 44, 3) := by decide +kernel
theorem dX2_endAt_5 : decode cX2_endAt 5 = .ok (.aload_n 0, 1) := by decide +kernel
theorem dX2_endAt_6 : decode cX2_endAt 6 = .ok (.iload_n 2, 1) := by decide +kernel
theorem dX2_endAt_7 : decode cX2_endAt 7 = .ok (.putfield 15, 3) := by decide +kernel
theorem dX2_endAt_10 : decode cX2_endAt 10 = .ok (.aload_n 0, 1) := by decide +kernel
theorem dX2_endAt_11 : decode cX2_endAt 11 = .ok (.iload_n 3, 1) := by decide +kernel
theorem dX2_endAt_12 : decode cX2_endAt 12 = .ok (.putfield 19, 3) := by decide +kernel
theorem dX2_endAt_15 : decode cX2_endAt 15 = .ok (.return_, 1) := by decide +kernel
theorem dX2_steps_0 : decode cX2_steps 0 = .ok (.aload_n 0, 1) := by decide +kernel
theorem dX2_steps_1 : decode cX2_steps 1 = .ok (.getfield 29, 3) := by decide +kernel
theorem dX2_steps_4 : decode cX2_steps 4 = .ok (.ireturn, 1) := by decide +kernel
theorem dX2_countStep_0 : decode cX2_countStep 0 = .ok (.aload_n 0, 1) := by decide +kernel
theorem dX2_countStep_1 : decode cX2_countStep 1 = .ok (.dup, 1) := by decide +kernel
theorem dX2_countStep_2 : decode cX2_countStep 2 = .ok (.getfield 29, 3) := by decide +kernel
theorem dX2_countStep_5 : decode cX2_countStep 5 = .ok (.iconst 1, 1) := by decide +kernel
theorem dX2_countStep_6 : decode cX2_countStep 6 = .ok (.iadd, 1) := by decide +kernel
theorem dX2_countStep_7 : decode cX2_countStep 7 = .ok (.putfield 29, 3) := by decide +kernel
theorem dX2_countStep_10 : decode cX2_countStep 10 = .ok (.return_, 1) := by decide +kernel
theorem dX2_countCall_0 : decode cX2_countCall 0 = .ok (.aload_n 0, 1) := by decide +kernel
theorem dX2_countCall_1 : decode cX2_countCall 1 = .ok (.dup, 1) := by decide +kernel
theorem dX2_countCall_2 : decode cX2_countCall 2 = .ok (.getfield 41, 3) := by decide +kernel
theorem dX2_countCall_5 : decode cX2_countCall 5 = .ok (.iconst 1, 1) := by decide +kernel
theorem dX2_countCall_6 : decode cX2_countCall 6 = .ok (.iadd, 1) := by decide +kernel
theorem dX2_countCall_7 : decode cX2_countCall 7 = .ok (.putfield 41, 3) := by decide +kernel
theorem dX2_countCall_10 : decode cX2_countCall 10 = .ok (.return_, 1) := by decide +kernel
theorem dX2_openHold_0 : decode cX2_openHold 0 = .ok (.aload_n 0, 1) := by decide +kernel
theorem dX2_openHold_1 : decode cX2_openHold 1 = .ok (.dup, 1) := by decide +kernel
theorem dX2_openHold_2 : decode cX2_openHold 2 = .ok (.getfield 32, 3) := by decide +kernel
theorem dX2_openHold_5 : decode cX2_openHold 5 = .ok (.iconst 1, 1) := by decide +kernel
theorem dX2_openHold_6 : decode cX2_openHold 6 = .ok (.iadd, 1) := by decide +kernel
theorem dX2_openHold_7 : decode cX2_openHold 7 = .ok (.putfield 32, 3) := by decide +kernel
theorem dX2_openHold_10 : decode cX2_openHold 10 = .ok (.aload_n 0, 1) := by decide +kernel
theorem dX2_openHold_11 : decode cX2_openHold 11 = .ok (.dup, 1) := by decide +kernel
theorem dX2_openHold_12 : decode cX2_openHold 12 = .ok (.getfield 35, 3) := by decide +kernel
theorem dX2_openHold_15 : decode cX2_openHold 15 = .ok (.iconst 1, 1) := by decide +kernel
theorem dX2_openHold_16 : decode cX2_openHold 16 = .ok (.iadd, 1) := by decide +kernel
theorem dX2_openHold_17 : decode cX2_openHold 17 = .ok (.putfield 35, 3) := by decide +kernel
theorem dX2_openHold_20 : decode cX2_openHold 20 = .ok (.aload_n 0, 1) := by decide +kernel
theorem dX2_openHold_21 : decode cX2_openHold 21 = .ok (.aload_n 0, 1) := by decide +kernel
theorem dX2_openHold_22 : decode cX2_openHold 22 = .ok (.getfield 38, 3) := by decide +kernel
theorem dX2_openHold_25 : decode cX2_openHold 25 = .ok (.aload_n 0, 1) := by decide +kernel
theorem dX2_openHold_26 : decode cX2_openHold 26 = .ok (.getfield 35, 3) := by decide +kernel
theorem dX2_openHold_29 : decode cX2_openHold 29 = .ok (.invokestatic 47, 3) := by decide +kernel
theorem dX2_openHold_32 : decode cX2_openHold 32 = .ok (.putfield 38, 3) := by decide +kernel
theorem dX2_openHold_35 : decode cX2_openHold 35 = .ok (.return_, 1) := by decide +kernel
theorem dX2_closeHold_0 : decode cX2_closeHold 0 = .ok (.aload_n 0, 1) := by decide +kernel
theorem dX2_closeHold_1 : decode cX2_closeHold 1 = .ok (.dup, 1) := by decide +kernel
theorem dX2_closeHold_2 : decode cX2_closeHold 2 = .ok (.getfield 35, 3) := by decide +kernel
theorem dX2_closeHold_5 : decode cX2_closeHold 5 = .ok (.iconst 1, 1) := by decide +kernel
theorem dX2_closeHold_6 : decode cX2_closeHold 6 = .ok (.isub, 1) := by decide +kernel
theorem dX2_closeHold_7 : decode cX2_closeHold 7 = .ok (.putfield 35, 3) := by decide +kernel
theorem dX2_closeHold_10 : decode cX2_closeHold 10 = .ok (.return_, 1) := by decide +kernel
theorem dX2_countCaught_0 : decode cX2_countCaught 0 = .ok (.iload_n 1, 1) := by decide +kernel
theorem dX2_countCaught_1 : decode cX2_countCaught 1 = .ok (.ifCond .le 29, 3) := by decide +kernel
theorem dX2_countCaught_4 : decode cX2_countCaught 4 = .ok (.iload_n 1, 1) := by decide +kernel
theorem dX2_countCaught_5 : decode cX2_countCaught 5 = .ok (.bipush 9, 2) := by decide +kernel
theorem dX2_countCaught_7 : decode cX2_countCaught 7 = .ok (.if_icmp .gt 23, 3) := by decide +kernel
theorem dX2_countCaught_10 : decode cX2_countCaught 10 = .ok (.aload_n 0, 1) := by decide +kernel
theorem dX2_countCaught_11 : decode cX2_countCaught 11 = .ok (.getfield 9, 3) := by decide +kernel
theorem dX2_countCaught_14 : decode cX2_countCaught 14 = .ok (.iload_n 1, 1) := by decide +kernel
theorem dX2_countCaught_15 : decode cX2_countCaught 15 = .ok (.dup2, 1) := by decide +kernel
theorem dX2_countCaught_16 : decode cX2_countCaught 16 = .ok (.iaload, 1) := by decide +kernel
theorem dX2_countCaught_17 : decode cX2_countCaught 17 = .ok (.iconst 1, 1) := by decide +kernel
theorem dX2_countCaught_18 : decode cX2_countCaught 18 = .ok (.iadd, 1) := by decide +kernel
theorem dX2_countCaught_19 : decode cX2_countCaught 19 = .ok (.iastore, 1) := by decide +kernel
theorem dX2_countCaught_20 : decode cX2_countCaught 20 = .ok (.aload_n 0, 1) := by decide +kernel
theorem dX2_countCaught_21 : decode cX2_countCaught 21 = .ok (.dup, 1) := by decide +kernel
theorem dX2_countCaught_22 : decode cX2_countCaught 22 = .ok (.getfield 22, 3) := by decide +kernel
theorem dX2_countCaught_25 : decode cX2_countCaught 25 = .ok (.iconst 1, 1) := by decide +kernel
theorem dX2_countCaught_26 : decode cX2_countCaught 26 = .ok (.iadd, 1) := by decide +kernel
theorem dX2_countCaught_27 : decode cX2_countCaught 27 = .ok (.putfield 22, 3) := by decide +kernel
theorem dX2_countCaught_30 : decode cX2_countCaught 30 = .ok (.return_, 1) := by decide +kernel
theorem dX2_timesCaught_0 : decode cX2_timesCaught 0 = .ok (.iload_n 1, 1) := by decide +kernel
theorem dX2_timesCaught_1 : decode cX2_timesCaught 1 = .ok (.ifCond .le 18, 3) := by decide +kernel
theorem dX2_timesCaught_4 : decode cX2_timesCaught 4 = .ok (.iload_n 1, 1) := by decide +kernel
theorem dX2_timesCaught_5 : decode cX2_timesCaught 5 = .ok (.bipush 9, 2) := by decide +kernel
theorem dX2_timesCaught_7 : decode cX2_timesCaught 7 = .ok (.if_icmp .gt 12, 3) := by decide +kernel
theorem dX2_timesCaught_10 : decode cX2_timesCaught 10 = .ok (.aload_n 0, 1) := by decide +kernel
theorem dX2_timesCaught_11 : decode cX2_timesCaught 11 = .ok (.getfield 9, 3) := by decide +kernel
theorem dX2_timesCaught_14 : decode cX2_timesCaught 14 = .ok (.iload_n 1, 1) := by decide +kernel
theorem dX2_timesCaught_15 : decode cX2_timesCaught 15 = .ok (.iaload, 1) := by decide +kernel
theorem dX2_timesCaught_16 : decode cX2_timesCaught 16 = .ok (.goto 4, 3) := by decide +kernel
theorem dX2_timesCaught_19 : decode cX2_timesCaught 19 = .ok (.iconst (-1), 1) := by decide +kernel
theorem dX2_timesCaught_20 : decode cX2_timesCaught 20 = .ok (.ireturn, 1) := by decide +kernel
theorem dX2_number_0 : decode cX2_number 0 = .ok (.iload_n 1, 1) := by decide +kernel
theorem dX2_number_1 : decode cX2_number 1 = .ok (.tableswitch 87 0 7 #[47, 52, 57, 62, 67, 72, 77, 82], 47) := by decide +kernel
theorem dX2_number_48 : decode cX2_number 48 = .ok (.aload_n 0, 1) := by decide +kernel
theorem dX2_number_49 : decode cX2_number 49 = .ok (.getfield 44, 3) := by decide +kernel
theorem dX2_number_52 : decode cX2_number 52 = .ok (.ireturn, 1) := by decide +kernel
theorem dX2_number_53 : decode cX2_number 53 = .ok (.aload_n 0, 1) := by decide +kernel
theorem dX2_number_54 : decode cX2_number 54 = .ok (.getfield 15, 3) := by decide +kernel
theorem dX2_number_57 : decode cX2_number 57 = .ok (.ireturn, 1) := by decide +kernel
theorem dX2_number_58 : decode cX2_number 58 = .ok (.aload_n 0, 1) := by decide +kernel
theorem dX2_number_59 : decode cX2_number 59 = .ok (.getfield 19, 3) := by decide +kernel
theorem dX2_number_62 : decode cX2_number 62 = .ok (.ireturn, 1) := by decide +kernel
theorem dX2_number_63 : decode cX2_number 63 = .ok (.aload_n 0, 1) := by decide +kernel
theorem dX2_number_64 : decode cX2_number 64 = .ok (.getfield 29, 3) := by decide +kernel
theorem dX2_number_67 : decode cX2_number 67 = .ok (.ireturn, 1) := by decide +kernel
theorem dX2_number_68 : decode cX2_number 68 = .ok (.aload_n 0, 1) := by decide +kernel
theorem dX2_number_69 : decode cX2_number 69 = .ok (.getfield 32, 3) := by decide +kernel
theorem dX2_number_72 : decode cX2_number 72 = .ok (.ireturn, 1) := by decide +kernel
theorem dX2_number_73 : decode cX2_number 73 = .ok (.aload_n 0, 1) := by decide +kernel
theorem dX2_number_74 : decode cX2_number 74 = .ok (.getfield 38, 3) := by decide +kernel
theorem dX2_number_77 : decode cX2_number 77 = .ok (.ireturn, 1) := by decide +kernel
theorem dX2_number_78 : decode cX2_number 78 = .ok (.aload_n 0, 1) := by decide +kernel
theorem dX2_number_79 : decode cX2_number 79 = .ok (.getfield 22, 3) := by decide +kernel
theorem dX2_number_82 : decode cX2_number 82 = .ok (.ireturn, 1) := by decide +kernel
theorem dX2_number_83 : decode cX2_number 83 = .ok (.aload_n 0, 1) := by decide +kernel
theorem dX2_number_84 : decode cX2_number 84 = .ok (.getfield 41, 3) := by decide +kernel
theorem dX2_number_87 : decode cX2_number 87 = .ok (.ireturn, 1) := by decide +kernel
theorem dX2_number_88 : decode cX2_number 88 = .ok (.iconst (-1), 1) := by decide +kernel
theorem dX2_number_89 : decode cX2_number 89 = .ok (.ireturn, 1) := by decide +kernel
theorem dJ9_max_7cf53_0 : decode cJ9_max_7cf53 0 = .ok (.iload_n 0, 1) := by decide +kernel
theorem dJ9_max_7cf53_1 : decode cJ9_max_7cf53 1 = .ok (.iload_n 1, 1) := by decide +kernel
theorem dJ9_max_7cf53_2 : decode cJ9_max_7cf53 2 = .ok (.if_icmp .lt 7, 3) := by decide +kernel
theorem dJ9_max_7cf53_5 : decode cJ9_max_7cf53 5 = .ok (.iload_n 0, 1) := by decide +kernel
theorem dJ9_max_7cf53_6 : decode cJ9_max_7cf53 6 = .ok (.goto 4, 3) := by decide +kernel
theorem dJ9_max_7cf53_9 : decode cJ9_max_7cf53 9 = .ok (.iload_n 1, 1) := by decide +kernel
theorem dJ9_max_7cf53_10 : decode cJ9_max_7cf53 10 = .ok (.ireturn, 1) := by decide +kernel
end
section
theorem dX3_init_0 : decode cX3_init 0 = .ok (.aload_n 0, 1) := by decide +kernel
theorem dX3_init_1 : decode cX3_init 1 = .ok (.invokespecial 3, 3) := by decide +kernel
theorem dX3_init_4 : decode cX3_init 4 = .ok (.aload_n 0, 1) := by decide +kernel
theorem dX3_init_5 : decode cX3_init 5 = .ok (.bipush 8, 2) := by decide +kernel
theorem dX3_init_7 : decode cX3_init 7 = .ok (.newarray .int, 2) := by decide +kernel
theorem dX3_init_9 : decode cX3_init 9 = .ok (.putfield 9, 3) := by decide +kernel
theorem dX3_init_12 : decode cX3_init 12 = .ok (.aload_n 0, 1) := by decide +kernel
theorem dX3_init_13 : decode cX3_init 13 = .ok (.bipush 8, 2) := by decide +kernel
theorem dX3_init_15 : decode cX3_init 15 = .ok (.newarray .int, 2) := by decide +kernel
theorem dX3_init_17 : decode cX3_init 17 = .ok (.putfield 15, 3) := by decide +kernel
theorem dX3_init_20 : decode cX3_init 20 = .ok (.aload_n 0, 1) := by decide +kernel
theorem dX3_init_21 : decode cX3_init 21 = .ok (.bipush 8, 2) := by decide +kernel
theorem dX3_init_23 : decode cX3_init 23 = .ok (.newarray .int, 2) := by decide +kernel
theorem dX3_init_25 : decode cX3_init 25 = .ok (.putfield 18, 3) := by decide +kernel
theorem dX3_init_28 : decode cX3_init 28 = .ok (.iconst 4, 1) := by decide +kernel
theorem dX3_init_29 : decode cX3_init 29 = .ok (.istore_n 1, 1) := by decide +kernel
theorem dX3_init_30 : decode cX3_init 30 = .ok (.iload_n 1, 1) := by decide +kernel
theorem dX3_init_31 : decode cX3_init 31 = .ok (.bipush 8, 2) := by decide +kernel
theorem dX3_init_33 : decode cX3_init 33 = .ok (.if_icmp .ge 16, 3) := by decide +kernel
theorem dX3_init_36 : decode cX3_init 36 = .ok (.aload_n 0, 1) := by decide +kernel
theorem dX3_init_37 : decode cX3_init 37 = .ok (.getfield 9, 3) := by decide +kernel
theorem dX3_init_40 : decode cX3_init 40 = .ok (.iload_n 1, 1) := by decide +kernel
theorem dX3_init_41 : decode cX3_init 41 = .ok (.iconst (-1), 1) := by decide +kernel
theorem dX3_init_42 : decode cX3_init 42 = .ok (.iastore, 1) := by decide +kernel
theorem dX3_init_43 : decode cX3_init 43 = .ok (.iinc 1 1, 3) := by decide +kernel
theorem dX3_init_46 : decode cX3_init 46 = .ok (.goto (-16), 3) := by decide +kernel
theorem dX3_init_49 : decode cX3_init 49 = .ok (.return_, 1) := by decide +kernel
set_option maxRecDepth 20000 in
theorem ggX3_isThere_X4_isShelf : GoodIn wsX3_isThere wsX4_isShelf := goodIn_r _ [4] (by decide +kernel) (by decide +kernel)
set_option maxRecDepth 20000 in
theorem gX3_isThere_X4_isShelf_n21 : GoodIn wsX3_isThere (wsX4_isShelf) := ggX3_isThere_X4_isShelf
theorem dX3_isThere_0 : decode cX3_isThere 0 = .ok (.iload_n 1, 1) := by decide +kernel
theorem dX3_isThere_1 : decode cX3_isThere 1 = .ok (.invokestatic 21, 3) := by decide +kernel
theorem dX3_isThere_4 : decode cX3_isThere 4 = .ok (.ifCond .eq 17, 3) := by decide +kernel
theorem dX3_isThere_7 : decode cX3_isThere 7 = .ok (.aload_n 0, 1) := by decide +kernel
theorem dX3_isThere_8 : decode cX3_isThere 8 = .ok (.getfield 9, 3) := by decide +kernel
theorem dX3_isThere_11 : decode cX3_isThere 11 = .ok (.iload_n 1, 1) := by decide +kernel
theorem dX3_isThere_12 : decode cX3_isThere 12 = .ok (.iaload, 1) := by decide +kernel
theorem dX3_isThere_13 : decode cX3_isThere 13 = .ok (.iconst (-1), 1) := by decide +kernel
theorem dX3_isThere_14 : decode cX3_isThere 14 = .ok (.if_icmp .eq 7, 3) := by decide +kernel
theorem dX3_isThere_17 : decode cX3_isThere 17 = .ok (.iconst 1, 1) := by decide +kernel
theorem dX3_isThere_18 : decode cX3_isThere 18 = .ok (.goto 4, 3) := by decide +kernel
theorem dX3_isThere_21 : decode cX3_isThere 21 = .ok (.iconst 0, 1) := by decide +kernel
theorem dX3_isThere_22 : decode cX3_isThere 22 = .ok (.ireturn, 1) := by decide +kernel
set_option maxRecDepth 20000 in
theorem ggX3_goodsOf_X3_isThere : GoodIn wsX3_goodsOf wsX3_isThere := goodIn_r _ [6, 1, 7, 8, 9, 10, 11, 12, 13] (by decide +kernel) (by decide +kernel)
set_option maxRecDepth 20000 in
theorem gX3_goodsOf_X3_isThere : GoodIn wsX3_goodsOf (wsV RX3 25 RX3 yX3_isThere wsX3_isThere) := goodIn_app (goodIn_of _ (by decide +kernel)) ggX3_goodsOf_X3_isThere
theorem dX3_goodsOf_0 : decode cX3_goodsOf 0 = .ok (.aload_n 0, 1) := by decide +kernel
theorem dX3_goodsOf_1 : decode cX3_goodsOf 1 = .ok (.iload_n 1, 1) := by decide +kernel
theorem dX3_goodsOf_2 : decode cX3_goodsOf 2 = .ok (.invokevirtual 25, 3) := by decide +kernel
theorem dX3_goodsOf_5 : decode cX3_goodsOf 5 = .ok (.ifCond .eq 12, 3) := by decide +kernel
theorem dX3_goodsOf_8 : decode cX3_goodsOf 8 = .ok (.aload_n 0, 1) := by decide +kernel
theorem dX3_goodsOf_9 : decode cX3_goodsOf 9 = .ok (.getfield 9, 3) := by decide +kernel
theorem dX3_goodsOf_12 : decode cX3_goodsOf 12 = .ok (.iload_n 1, 1) := by decide +kernel
theorem dX3_goodsOf_13 : decode cX3_goodsOf 13 = .ok (.iaload, 1) := by decide +kernel
theorem dX3_goodsOf_14 : decode cX3_goodsOf 14 = .ok (.goto 4, 3) := by decide +kernel
theorem dX3_goodsOf_17 : decode cX3_goodsOf 17 = .ok (.iconst 0, 1) := by decide +kernel
theorem dX3_goodsOf_18 : decode cX3_goodsOf 18 = .ok (.ireturn, 1) := by decide +kernel
set_option maxRecDepth 20000 in
theorem ggX3_leftOf_X3_isThere : GoodIn wsX3_leftOf wsX3_isThere := goodIn_r _ [6, 7, 8, 9, 10, 11, 12, 13, 14] (by decide +kernel) (by decide +kernel)
set_option maxRecDepth 20000 in
theorem gX3_leftOf_X3_isThere : GoodIn wsX3_leftOf (wsV RX3 25 RX3 yX3_isThere wsX3_isThere) := goodIn_app (goodIn_of _ (by decide +kernel)) ggX3_leftOf_X3_isThere
theorem dX3_leftOf_0 : decode cX3_leftOf 0 = .ok (.aload_n 0, 1) := by decide +kernel
theorem dX3_leftOf_1 : decode cX3_leftOf 1 = .ok (.iload_n 1, 1) := by decide +kernel
theorem dX3_leftOf_2 : decode cX3_leftOf 2 = .ok (.invokevirtual 25, 3) := by decide +kernel
theorem dX3_leftOf_5 : decode cX3_leftOf 5 = .ok (.ifCond .eq 12, 3) := by decide +kernel
theorem dX3_leftOf_8 : decode cX3_leftOf 8 = .ok (.aload_n 0, 1) := by decide +kernel
theorem dX3_leftOf_9 : decode cX3_leftOf 9 = .ok (.getfield 15, 3) := by decide +kernel
theorem dX3_leftOf_12 : decode cX3_leftOf 12 = .ok (.iload_n 1, 1) := by decide +kernel
theorem dX3_leftOf_13 : decode cX3_leftOf 13 = .ok (.iaload, 1) := by decide +kernel
theorem dX3_leftOf_14 : decode cX3_leftOf 14 = .ok (.goto 4, 3) := by decide +kernel
theorem dX3_leftOf_17 : decode cX3_leftOf 17 = .ok (.iconst 0, 1) := by decide +kernel
theorem dX3_leftOf_18 : decode cX3_leftOf 18 = .ok (.ireturn, 1) := by decide +kernel
set_option maxRecDepth 20000 in
theorem ggX3_replace_X4_isShelf : GoodIn wsX3_replace wsX4_isShelf := goodIn_r _ [5] (by decide +kernel) (by decide +kernel)
set_option maxRecDepth 20000 in
theorem gX3_replace_X4_isShelf_n21 : GoodIn wsX3_replace (wsX4_isShelf) := ggX3_replace_X4_isShelf
set_option maxRecDepth 20000 in
theorem ggX3_replace_X3_isThere : GoodIn wsX3_replace wsX3_isThere := goodIn_r _ [10, 1, 3, 4, 5, 11, 12, 13, 14] (by decide +kernel) (by decide +kernel)
set_option maxRecDepth 20000 in
theorem gX3_replace_X3_isThere : GoodIn wsX3_replace (wsV RX3 25 RX3 yX3_isThere wsX3_isThere) := goodIn_app (goodIn_of _ (by decide +kernel)) ggX3_replace_X3_isThere
theorem dX3_replace_0 : decode cX3_replace 0 = .ok (.iload_n 1, 1) := by decide +kernel
theorem dX3_replace_1 : decode cX3_replace 1 = .ok (.invokestatic 21, 3) := by decide +kernel
theorem dX3_replace_4 : decode cX3_replace 4 = .ok (.ifCond .ne 5, 3) := by decide +kernel
theorem dX3_replace_7 : decode cX3_replace 7 = .ok (.iconst (-1), 1) := by decide +kernel
theorem dX3_replace_8 : decode cX3_replace 8 = .ok (.ireturn, 1) := by decide +kernel
theorem dX3_replace_9 : decode cX3_replace 9 = .ok (.aload_n 0, 1) := by decide +kernel
theorem dX3_replace_10 : decode cX3_replace 10 = .ok (.iload_n 1, 1) := by decide +kernel
theorem dX3_replace_11 : decode cX3_replace 11 = .ok (.invokevirtual 25, 3) := by decide +kernel
theorem dX3_replace_14 : decode cX3_replace 14 = .ok (.ifCond .eq 12, 3) := by decide +kernel
theorem dX3_replace_17 : decode cX3_replace 17 = .ok (.aload_n 0, 1) := by decide +kernel
theorem dX3_replace_18 : decode cX3_replace 18 = .ok (.getfield 9, 3) := by decide +kernel
theorem dX3_replace_21 : decode cX3_replace 21 = .ok (.iload_n 1, 1) := by decide +kernel
theorem dX3_replace_22 : decode cX3_replace 22 = .ok (.iaload, 1) := by decide +kernel
theorem dX3_replace_23 : decode cX3_replace 23 = .ok (.goto 5, 3) := by decide +kernel
theorem dX3_replace_26 : decode cX3_replace 26 = .ok (.bipush (-4), 2) := by decide +kernel
theorem dX3_replace_28 : decode cX3_replace 28 = .ok (.istore_n 3, 1) := by decide +kernel
theorem dX3_replace_29 : decode cX3_replace 29 = .ok (.aload_n 0, 1) := by decide +kernel
theorem dX3_replace_30 : decode cX3_replace 30 = .ok (.getfield 9, 3) := by decide +kernel
theorem dX3_replace_33 : decode cX3_replace 33 = .ok (.iload_n 1, 1) := by decide +kernel
theorem dX3_replace_34 : decode cX3_replace 34 = .ok (.iload_n 2, 1) := by decide +kernel
theorem dX3_replace_35 : decode cX3_replace 35 = .ok (.iastore, 1) := by decide +kernel
theorem dX3_replace_36 : decode cX3_replace 36 = .ok (.aload_n 0, 1) := by decide +kernel
theorem dX3_replace_37 : decode cX3_replace 37 = .ok (.getfield 15, 3) := by decide +kernel
theorem dX3_replace_40 : decode cX3_replace 40 = .ok (.iload_n 1, 1) := by decide +kernel
theorem dX3_replace_41 : decode cX3_replace 41 = .ok (.iconst 0, 1) := by decide +kernel
theorem dX3_replace_42 : decode cX3_replace 42 = .ok (.iastore, 1) := by decide +kernel
theorem dX3_replace_43 : decode cX3_replace 43 = .ok (.iload_n 3, 1) := by decide +kernel
theorem dX3_replace_44 : decode cX3_replace 44 = .ok (.ireturn, 1) := by decide +kernel
set_option maxRecDepth 20000 in
theorem ggX3_firstWith_X3_isThere : GoodIn wsX3_firstWith wsX3_isThere := goodIn_r _ [6, 1, 7, 8, 9, 10, 11, 12, 13] (by decide +kernel) (by decide +kernel)
set_option maxRecDepth 20000 in
theorem gX3_firstWith_X3_isThere : GoodIn wsX3_firstWith (wsV RX3 25 RX3 yX3_isThere wsX3_isThere) := goodIn_app (goodIn_of _ (by decide +kernel)) ggX3_firstWith_X3_isThere
theorem dX3_firstWith_0 : decode cX3_firstWith 0 = .ok (.iconst 0, 1) := by decide +kernel
theorem dX3_firstWith_1 : decode cX3_firstWith 1 = .ok (.istore_n 2, 1) := by decide +kernel
theorem dX3_firstWith_2 : decode cX3_firstWith 2 = .ok (.iload_n 2, 1) := by decide +kernel
theorem dX3_firstWith_3 : decode cX3_firstWith 3 = .ok (.bipush 8, 2) := by decide +kernel
theorem dX3_firstWith_5 : decode cX3_firstWith 5 = .ok (.if_icmp .ge 29, 3) := by decide +kernel
theorem dX3_firstWith_8 : decode cX3_firstWith 8 = .ok (.aload_n 0, 1) := by decide +kernel
theorem dX3_firstWith_9 : decode cX3_firstWith 9 = .ok (.iload_n 2, 1) := by decide +kernel
theorem dX3_firstWith_10 : decode cX3_firstWith 10 = .ok (.invokevirtual 25, 3) := by decide +kernel
theorem dX3_firstWith_13 : decode cX3_firstWith 13 = .ok (.ifCond .eq 15, 3) := by decide +kernel
theorem dX3_firstWith_16 : decode cX3_firstWith 16 = .ok (.aload_n 0, 1) := by decide +kernel
theorem dX3_firstWith_17 : decode cX3_firstWith 17 = .ok (.getfield 9, 3) := by decide +kernel
theorem dX3_firstWith_20 : decode cX3_firstWith 20 = .ok (.iload_n 2, 1) := by decide +kernel
theorem dX3_firstWith_21 : decode cX3_firstWith 21 = .ok (.iaload, 1) := by decide +kernel
theorem dX3_firstWith_22 : decode cX3_firstWith 22 = .ok (.iload_n 1, 1) := by decide +kernel
theorem dX3_firstWith_23 : decode cX3_firstWith 23 = .ok (.if_icmp .lt 5, 3) := by decide +kernel
theorem dX3_firstWith_26 : decode cX3_firstWith 26 = .ok (.iload_n 2, 1) := by decide +kernel
theorem dX3_firstWith_27 : decode cX3_firstWith 27 = .ok (.ireturn, 1) := by decide +kernel
theorem dX3_firstWith_28 : decode cX3_firstWith 28 = .ok (.iinc 2 1, 3) := by decide +kernel
theorem dX3_firstWith_31 : decode cX3_firstWith 31 = .ok (.goto (-29), 3) := by decide +kernel
theorem dX3_firstWith_34 : decode cX3_firstWith 34 = .ok (.bipush (-4), 2) := by decide +kernel
theorem dX3_firstWith_36 : decode cX3_firstWith 36 = .ok (.ireturn, 1) := by decide +kernel
set_option maxRecDepth 20000 in
theorem ggX3_rowUpTo_X3_isThere : GoodIn wsX3_rowUpTo wsX3_isThere := goodIn_r _ [6, 1, 7, 8, 9, 10, 11, 12, 13] (by decide +kernel) (by decide +kernel)
set_option maxRecDepth 20000 in
theorem gX3_rowUpTo_X3_isThere : GoodIn wsX3_rowUpTo (wsV RX3 25 RX3 yX3_isThere wsX3_isThere) := goodIn_app (goodIn_of _ (by decide +kernel)) ggX3_rowUpTo_X3_isThere
theorem dX3_rowUpTo_0 : decode cX3_rowUpTo 0 = .ok (.iconst 0, 1) := by decide +kernel
theorem dX3_rowUpTo_1 : decode cX3_rowUpTo 1 = .ok (.istore_n 2, 1) := by decide +kernel
theorem dX3_rowUpTo_2 : decode cX3_rowUpTo 2 = .ok (.iload_n 2, 1) := by decide +kernel
theorem dX3_rowUpTo_3 : decode cX3_rowUpTo 3 = .ok (.bipush 8, 2) := by decide +kernel
theorem dX3_rowUpTo_5 : decode cX3_rowUpTo 5 = .ok (.if_icmp .ge 27, 3) := by decide +kernel
theorem dX3_rowUpTo_8 : decode cX3_rowUpTo 8 = .ok (.aload_n 0, 1) := by decide +kernel
theorem dX3_rowUpTo_9 : decode cX3_rowUpTo 9 = .ok (.iload_n 2, 1) := by decide +kernel
theorem dX3_rowUpTo_10 : decode cX3_rowUpTo 10 = .ok (.invokevirtual 25, 3) := by decide +kernel
theorem dX3_rowUpTo_13 : decode cX3_rowUpTo 13 = .ok (.ifCond .eq 19, 3) := by decide +kernel
theorem dX3_rowUpTo_16 : decode cX3_rowUpTo 16 = .ok (.aload_n 0, 1) := by decide +kernel
theorem dX3_rowUpTo_17 : decode cX3_rowUpTo 17 = .ok (.getfield 9, 3) := by decide +kernel
theorem dX3_rowUpTo_20 : decode cX3_rowUpTo 20 = .ok (.iload_n 2, 1) := by decide +kernel
theorem dX3_rowUpTo_21 : decode cX3_rowUpTo 21 = .ok (.iaload, 1) := by decide +kernel
theorem dX3_rowUpTo_22 : decode cX3_rowUpTo 22 = .ok (.iload_n 1, 1) := by decide +kernel
theorem dX3_rowUpTo_23 : decode cX3_rowUpTo 23 = .ok (.if_icmp .gt 9, 3) := by decide +kernel
theorem dX3_rowUpTo_26 : decode cX3_rowUpTo 26 = .ok (.iinc 2 1, 3) := by decide +kernel
theorem dX3_rowUpTo_29 : decode cX3_rowUpTo 29 = .ok (.goto (-27), 3) := by decide +kernel
theorem dX3_rowUpTo_32 : decode cX3_rowUpTo 32 = .ok (.iload_n 2, 1) := by decide +kernel
theorem dX3_rowUpTo_33 : decode cX3_rowUpTo 33 = .ok (.ireturn, 1) := by decide +kernel
theorem dX3_giveRest_0 : decode cX3_giveRest 0 = .ok (.aload_n 0, 1) := by decide +kernel
theorem dX3_giveRest_1 : decode cX3_giveRest 1 = .ok (.getfield 28, 3) := by decide +kernel
theorem dX3_giveRest_4 : decode cX3_giveRest 4 = .ok (.istore_n 1, 1) := by decide +kernel
theorem dX3_giveRest_5 : decode cX3_giveRest 5 = .ok (.aload_n 0, 1) := by decide +kernel
theorem dX3_giveRest_6 : decode cX3_giveRest 6 = .ok (.iconst 0, 1) := by decide +kernel
theorem dX3_giveRest_7 : decode cX3_giveRest 7 = .ok (.putfield 28, 3) := by decide +kernel
theorem dX3_giveRest_10 : decode cX3_giveRest 10 = .ok (.iload_n 1, 1) := by decide +kernel
theorem dX3_giveRest_11 : decode cX3_giveRest 11 = .ok (.ireturn, 1) := by decide +kernel
set_option maxRecDepth 20000 in
theorem ggX3_inAll_X3_goodsOf : GoodIn wsX3_inAll wsX3_goodsOf := goodIn_r _ [5, 6, 7, 8, 9, 4, 10, 11, 12, 13, 14, 15, 16, 17] (by decide +kernel) (by decide +kernel)
set_option maxRecDepth 20000 in
theorem gX3_inAll_X3_goodsOf : GoodIn wsX3_inAll (wsV RX3 32 RX3 yX3_goodsOf wsX3_goodsOf) := goodIn_app (goodIn_of _ (by decide +kernel)) ggX3_inAll_X3_goodsOf
theorem dX3_inAll_0 : decode cX3_inAll 0 = .ok (.iconst 0, 1) := by decide +kernel
theorem dX3_inAll_1 : decode cX3_inAll 1 = .ok (.istore_n 1, 1) := by decide +kernel
theorem dX3_inAll_2 : decode cX3_inAll 2 = .ok (.iconst 0, 1) := by decide +kernel
theorem dX3_inAll_3 : decode cX3_inAll 3 = .ok (.istore_n 2, 1) := by decide +kernel
theorem dX3_inAll_4 : decode cX3_inAll 4 = .ok (.iload_n 2, 1) := by decide +kernel
theorem dX3_inAll_5 : decode cX3_inAll 5 = .ok (.bipush 8, 2) := by decide +kernel
theorem dX3_inAll_7 : decode cX3_inAll 7 = .ok (.if_icmp .ge 17, 3) := by decide +kernel
theorem dX3_inAll_10 : decode cX3_inAll 10 = .ok (.iload_n 1, 1) := by decide +kernel
theorem dX3_inAll_11 : decode cX3_inAll 11 = .ok (.aload_n 0, 1) := by decide +kernel
theorem dX3_inAll_12 : decode cX3_inAll 12 = .ok (.iload_n 2, 1) := by decide +kernel
theorem dX3_inAll_13 : decode cX3_inAll 13 = .ok (.invokevirtual 32, 3) := by decide +kernel
theorem dX3_inAll_16 : decode cX3_inAll 16 = .ok (.iadd, 1) := by decide +kernel
theorem dX3_inAll_17 : decode cX3_inAll 17 = .ok (.istore_n 1, 1) := by decide +kernel
theorem dX3_inAll_18 : decode cX3_inAll 18 = .ok (.iinc 2 1, 3) := by decide +kernel
theorem dX3_inAll_21 : decode cX3_inAll 21 = .ok (.goto (-17), 3) := by decide +kernel
theorem dX3_inAll_24 : decode cX3_inAll 24 = .ok (.iload_n 1, 1) := by decide +kernel
theorem dX3_inAll_25 : decode cX3_inAll 25 = .ok (.ireturn, 1) := by decide +kernel
set_option maxRecDepth 20000 in
theorem ggX3_missing_X4_isShelf : GoodIn wsX3_missing wsX4_isShelf := goodIn_r _ [3] (by decide +kernel) (by decide +kernel)
set_option maxRecDepth 20000 in
theorem gX3_missing_X4_isShelf_n21 : GoodIn wsX3_missing (wsX4_isShelf) := ggX3_missing_X4_isShelf
set_option maxRecDepth 20000 in
theorem ggX3_missing_X3_isThere : GoodIn wsX3_missing wsX3_isThere := goodIn_r _ [8, 9, 1, 2, 3, 10, 11, 12, 13] (by decide +kernel) (by decide +kernel)
set_option maxRecDepth 20000 in
theorem gX3_missing_X3_isThere : GoodIn wsX3_missing (wsV RX3 25 RX3 yX3_isThere wsX3_isThere) := goodIn_app (goodIn_of _ (by decide +kernel)) ggX3_missing_X3_isThere
theorem dX3_missing_0 : decode cX3_missing 0 = .ok (.iload_n 1, 1) := by decide +kernel
theorem dX3_missing_1 : decode cX3_missing 1 = .ok (.invokestatic 21, 3) := by decide +kernel
theorem dX3_missing_4 : decode cX3_missing 4 = .ok (.ifCond .ne 5, 3) := by decide +kernel
theorem dX3_missing_7 : decode cX3_missing 7 = .ok (.iconst 1, 1) := by decide +kernel
theorem dX3_missing_8 : decode cX3_missing 8 = .ok (.ireturn, 1) := by decide +kernel
theorem dX3_missing_9 : decode cX3_missing 9 = .ok (.aload_n 0, 1) := by decide +kernel
theorem dX3_missing_10 : decode cX3_missing 10 = .ok (.iload_n 1, 1) := by decide +kernel
theorem dX3_missing_11 : decode cX3_missing 11 = .ok (.invokevirtual 25, 3) := by decide +kernel
theorem dX3_missing_14 : decode cX3_missing 14 = .ok (.ifCond .eq 7, 3) := by decide +kernel
theorem dX3_missing_17 : decode cX3_missing 17 = .ok (.iconst 0, 1) := by decide +kernel
theorem dX3_missing_18 : decode cX3_missing 18 = .ok (.goto 4, 3) := by decide +kernel
theorem dX3_missing_21 : decode cX3_missing 21 = .ok (.iconst 2, 1) := by decide +kernel
theorem dX3_missing_22 : decode cX3_missing 22 = .ok (.ireturn, 1) := by decide +kernel
set_option maxRecDepth 20000 in
theorem ggX3_holdOnce_X4_isShelf : GoodIn wsX3_holdOnce wsX4_isShelf := goodIn_r _ [4] (by decide +kernel) (by decide +kernel)
set_option maxRecDepth 20000 in
theorem gX3_holdOnce_X4_isShelf_n21 : GoodIn wsX3_holdOnce (wsX4_isShelf) := ggX3_holdOnce_X4_isShelf
theorem dX3_holdOnce_0 : decode cX3_holdOnce 0 = .ok (.iload_n 1, 1) := by decide +kernel
theorem dX3_holdOnce_1 : decode cX3_holdOnce 1 = .ok (.invokestatic 21, 3) := by decide +kernel
theorem dX3_holdOnce_4 : decode cX3_holdOnce 4 = .ok (.ifCond .eq 13, 3) := by decide +kernel
theorem dX3_holdOnce_7 : decode cX3_holdOnce 7 = .ok (.aload_n 0, 1) := by decide +kernel
theorem dX3_holdOnce_8 : decode cX3_holdOnce 8 = .ok (.getfield 18, 3) := by decide +kernel
theorem dX3_holdOnce_11 : decode cX3_holdOnce 11 = .ok (.iload_n 1, 1) := by decide +kernel
theorem dX3_holdOnce_12 : decode cX3_holdOnce 12 = .ok (.dup2, 1) := by decide +kernel
theorem dX3_holdOnce_13 : decode cX3_holdOnce 13 = .ok (.iaload, 1) := by decide +kernel
theorem dX3_holdOnce_14 : decode cX3_holdOnce 14 = .ok (.iconst 1, 1) := by decide +kernel
theorem dX3_holdOnce_15 : decode cX3_holdOnce 15 = .ok (.iadd, 1) := by decide +kernel
theorem dX3_holdOnce_16 : decode cX3_holdOnce 16 = .ok (.iastore, 1) := by decide +kernel
theorem dX3_holdOnce_17 : decode cX3_holdOnce 17 = .ok (.return_, 1) := by decide +kernel
set_option maxRecDepth 20000 in
theorem ggX3_release_X4_isShelf : GoodIn wsX3_release wsX4_isShelf := goodIn_r _ [4] (by decide +kernel) (by decide +kernel)
set_option maxRecDepth 20000 in
theorem gX3_release_X4_isShelf_n21 : GoodIn wsX3_release (wsX4_isShelf) := ggX3_release_X4_isShelf
theorem dX3_release_0 : decode cX3_release 0 = .ok (.iload_n 1, 1) := by decide +kernel
theorem dX3_release_1 : decode cX3_release 1 = .ok (.invokestatic 21, 3) := by decide +kernel
theorem dX3_release_4 : decode cX3_release 4 = .ok (.ifCond .eq 13, 3) := by decide +kernel
theorem dX3_release_7 : decode cX3_release 7 = .ok (.aload_n 0, 1) := by decide +kernel
theorem dX3_release_8 : decode cX3_release 8 = .ok (.getfield 18, 3) := by decide +kernel
theorem dX3_release_11 : decode cX3_release 11 = .ok (.iload_n 1, 1) := by decide +kernel
theorem dX3_release_12 : decode cX3_release 12 = .ok (.dup2, 1) := by decide +kernel
theorem dX3_release_13 : decode cX3_release 13 = .ok (.iaload, 1) := by decide +kernel
theorem dX3_release_14 : decode cX3_release 14 = .ok (.iconst 1, 1) := by decide +kernel
theorem dX3_release_15 : decode cX3_release 15 = .ok (.isub, 1) := by decide +kernel
theorem dX3_release_16 : decode cX3_release 16 = .ok (.iastore, 1) := by decide +kernel
theorem dX3_release_17 : decode cX3_release 17 = .ok (.return_, 1) := by decide +kernel
set_option maxRecDepth 20000 in
theorem ggX3_countLeft_X4_isShelf : GoodIn wsX3_countLeft wsX4_isShelf := goodIn_r _ [4] (by decide +kernel) (by decide +kernel)
set_option maxRecDepth 20000 in
theorem gX3_countLeft_X4_isShelf_n21 : GoodIn wsX3_countLeft (wsX4_isShelf) := ggX3_countLeft_X4_isShelf
theorem dX3_countLeft_0 : decode cX3_countLeft 0 = .ok (.iload_n 1, 1) := by decide +kernel
theorem dX3_countLeft_1 : decode cX3_countLeft 1 = .ok (.invokestatic 21, 3) := by decide +kernel
theorem dX3_countLeft_4 : decode cX3_countLeft 4 = .ok (.ifCond .eq 13, 3) := by decide +kernel
theorem dX3_countLeft_7 : decode cX3_countLeft 7 = .ok (.aload_n 0, 1) := by decide +kernel
theorem dX3_countLeft_8 : decode cX3_countLeft 8 = .ok (.getfield 15, 3) := by decide +kernel
theorem dX3_countLeft_11 : decode cX3_countLeft 11 = .ok (.iload_n 1, 1) := by decide +kernel
theorem dX3_countLeft_12 : decode cX3_countLeft 12 = .ok (.dup2, 1) := by decide +kernel
theorem dX3_countLeft_13 : decode cX3_countLeft 13 = .ok (.iaload, 1) := by decide +kernel
theorem dX3_countLeft_14 : decode cX3_countLeft 14 = .ok (.iconst 1, 1) := by decide +kernel
theorem dX3_countLeft_15 : decode cX3_countLeft 15 = .ok (.iadd, 1) := by decide +kernel
theorem dX3_countLeft_16 : decode cX3_countLeft 16 = .ok (.iastore, 1) := by decide +kernel
theorem dX3_countLeft_17 : decode cX3_countLeft 17 = .ok (.return_, 1) := by decide +kernel
set_option maxRecDepth 20000 in
theorem ggX3_put_X3_missingOrLoose : GoodIn wsX3_put wsX3_missingOrLoose := goodIn_r _ [6, 7, 8, 9, 10, 5, 11, 12, 13, 14, 15, 16, 17, 18, 1, 19, 20, 21, 22] (by decide +kernel) (by decide +kernel)
set_option maxRecDepth 20000 in
theorem gX3_put_X3_missingOrLoose : GoodIn wsX3_put (wsV RX3 36 RX3 yX3_missingOrLoose wsX3_missingOrLoose) := goodIn_app (goodIn_of _ (by decide +kernel)) ggX3_put_X3_missingOrLoose
theorem dX3_put_0 : decode cX3_put 0 = .ok (.aload_n 0, 1) := by decide +kernel
theorem dX3_put_1 : decode cX3_put 1 = .ok (.iload_n 1, 1) := by decide +kernel
theorem dX3_put_2 : decode cX3_put 2 = .ok (.invokevirtual 36, 3) := by decide +kernel
theorem dX3_put_5 : decode cX3_put 5 = .ok (.istore_n 3, 1) := by decide +kernel
theorem dX3_put_6 : decode cX3_put 6 = .ok (.iload_n 3, 1) := by decide +kernel
theorem dX3_put_7 : decode cX3_put 7 = .ok (.ifCond .eq 5, 3) := by decide +kernel
theorem dX3_put_10 : decode cX3_put 10 = .ok (.iload_n 3, 1) := by decide +kernel
theorem dX3_put_11 : decode cX3_put 11 = .ok (.ireturn, 1) := by decide +kernel
theorem dX3_put_12 : decode cX3_put 12 = .ok (.aload_n 0, 1) := by decide +kernel
theorem dX3_put_13 : decode cX3_put 13 = .ok (.getfield 9, 3) := by decide +kernel
theorem dX3_put_16 : decode cX3_put 16 = .ok (.iload_n 1, 1) := by decide +kernel
theorem dX3_put_17 : decode cX3_put 17 = .ok (.iaload, 1) := by decide +kernel
theorem dX3_put_18 : decode cX3_put 18 = .ok (.iload_n 2, 1) := by decide +kernel
theorem dX3_put_19 : decode cX3_put 19 = .ok (.iadd, 1) := by decide +kernel
theorem dX3_put_20 : decode cX3_put 20 = .ok (.sipush 1000, 3) := by decide +kernel
theorem dX3_put_23 : decode cX3_put 23 = .ok (.if_icmp .le 5, 3) := by decide +kernel
theorem dX3_put_26 : decode cX3_put 26 = .ok (.iconst 5, 1) := by decide +kernel
theorem dX3_put_27 : decode cX3_put 27 = .ok (.ireturn, 1) := by decide +kernel
theorem dX3_put_28 : decode cX3_put 28 = .ok (.aload_n 0, 1) := by decide +kernel
theorem dX3_put_29 : decode cX3_put 29 = .ok (.getfield 9, 3) := by decide +kernel
theorem dX3_put_32 : decode cX3_put 32 = .ok (.iload_n 1, 1) := by decide +kernel
theorem dX3_put_33 : decode cX3_put 33 = .ok (.dup2, 1) := by decide +kernel
theorem dX3_put_34 : decode cX3_put 34 = .ok (.iaload, 1) := by decide +kernel
theorem dX3_put_35 : decode cX3_put 35 = .ok (.iload_n 2, 1) := by decide +kernel
theorem dX3_put_36 : decode cX3_put 36 = .ok (.iadd, 1) := by decide +kernel
theorem dX3_put_37 : decode cX3_put 37 = .ok (.iastore, 1) := by decide +kernel
theorem dX3_put_38 : decode cX3_put 38 = .ok (.iconst 0, 1) := by decide +kernel
theorem dX3_put_39 : decode cX3_put 39 = .ok (.ireturn, 1) := by decide +kernel
set_option maxRecDepth 20000 in
theorem ggX3_take_X3_missingOrLoose : GoodIn wsX3_take wsX3_missingOrLoose := goodIn_r _ [6, 7, 8, 9, 10, 5, 11, 12, 13, 14, 15, 16, 17, 18, 1, 19, 20, 21, 22] (by decide +kernel) (by decide +kernel)
set_option maxRecDepth 20000 in
theorem gX3_take_X3_missingOrLoose : GoodIn wsX3_take (wsV RX3 36 RX3 yX3_missingOrLoose wsX3_missingOrLoose) := goodIn_app (goodIn_of _ (by decide +kernel)) ggX3_take_X3_missingOrLoose
theorem dX3_take_0 : decode cX3_take 0 = .ok (.aload_n 0, 1) := by decide +kernel
theorem dX3_take_1 : decode cX3_take 1 = .ok (.iload_n 1, 1) := by decide +kernel
theorem dX3_take_2 : decode cX3_take 2 = .ok (.invokevirtual 36, 3) := by decide +kernel
theorem dX3_take_5 : decode cX3_take 5 = .ok (.istore_n 3, 1) := by decide +kernel
theorem dX3_take_6 : decode cX3_take 6 = .ok (.iload_n 3, 1) := by decide +kernel
theorem dX3_take_7 : decode cX3_take 7 = .ok (.ifCond .eq 5, 3) := by decide +kernel
theorem dX3_take_10 : decode cX3_take 10 = .ok (.iload_n 3, 1) := by decide +kernel
theorem dX3_take_11 : decode cX3_take 11 = .ok (.ireturn, 1) := by decide +kernel
theorem dX3_take_12 : decode cX3_take 12 = .ok (.iload_n 2, 1) := by decide +kernel
theorem dX3_take_13 : decode cX3_take 13 = .ok (.aload_n 0, 1) := by decide +kernel
theorem dX3_take_14 : decode cX3_take 14 = .ok (.getfield 9, 3) := by decide +kernel
theorem dX3_take_17 : decode cX3_take 17 = .ok (.iload_n 1, 1) := by decide +kernel
theorem dX3_take_18 : decode cX3_take 18 = .ok (.iaload, 1) := by decide +kernel
theorem dX3_take_19 : decode cX3_take 19 = .ok (.if_icmp .le 5, 3) := by decide +kernel
theorem dX3_take_22 : decode cX3_take 22 = .ok (.iconst 4, 1) := by decide +kernel
theorem dX3_take_23 : decode cX3_take 23 = .ok (.ireturn, 1) := by decide +kernel
theorem dX3_take_24 : decode cX3_take 24 = .ok (.aload_n 0, 1) := by decide +kernel
theorem dX3_take_25 : decode cX3_take 25 = .ok (.getfield 9, 3) := by decide +kernel
theorem dX3_take_28 : decode cX3_take 28 = .ok (.iload_n 1, 1) := by decide +kernel
theorem dX3_take_29 : decode cX3_take 29 = .ok (.dup2, 1) := by decide +kernel
theorem dX3_take_30 : decode cX3_take 30 = .ok (.iaload, 1) := by decide +kernel
theorem dX3_take_31 : decode cX3_take 31 = .ok (.iload_n 2, 1) := by decide +kernel
theorem dX3_take_32 : decode cX3_take 32 = .ok (.isub, 1) := by decide +kernel
theorem dX3_take_33 : decode cX3_take 33 = .ok (.iastore, 1) := by decide +kernel
theorem dX3_take_34 : decode cX3_take 34 = .ok (.iconst 0, 1) := by decide +kernel
theorem dX3_take_35 : decode cX3_take 35 = .ok (.ireturn, 1) := by decide +kernel
set_option maxRecDepth 20000 in
theorem ggX3_share_X3_missingOrLoose : GoodIn wsX3_share wsX3_missingOrLoose := goodIn_r _ [7, 8, 9, 10, 11, 6, 12, 13, 14, 15, 16, 17, 18, 19, 1, 20, 21, 22, 23] (by decide +kernel) (by decide +kernel)
set_option maxRecDepth 20000 in
theorem gX3_share_X3_missingOrLoose : GoodIn wsX3_share (wsV RX3 36 RX3 yX3_missingOrLoose wsX3_missingOrLoose) := goodIn_app (goodIn_of _ (by decide +kernel)) ggX3_share_X3_missingOrLoose
theorem dX3_share_0 : decode cX3_share 0 = .ok (.aload_n 0, 1) := by decide +kernel
theorem dX3_share_1 : decode cX3_share 1 = .ok (.iload_n 1, 1) := by decide +kernel
theorem dX3_share_2 : decode cX3_share 2 = .ok (.invokevirtual 36, 3) := by decide +kernel
theorem dX3_share_5 : decode cX3_share 5 = .ok (.istore_n 3, 1) := by decide +kernel
theorem dX3_share_6 : decode cX3_share 6 = .ok (.iload_n 3, 1) := by decide +kernel
theorem dX3_share_7 : decode cX3_share 7 = .ok (.ifCond .eq 5, 3) := by decide +kernel
theorem dX3_share_10 : decode cX3_share 10 = .ok (.iload_n 3, 1) := by decide +kernel
theorem dX3_share_11 : decode cX3_share 11 = .ok (.ireturn, 1) := by decide +kernel
theorem dX3_share_12 : decode cX3_share 12 = .ok (.iload_n 2, 1) := by decide +kernel
theorem dX3_share_13 : decode cX3_share 13 = .ok (.ifCond .ne 5, 3) := by decide +kernel
theorem dX3_share_16 : decode cX3_share 16 = .ok (.iconst 3, 1) := by decide +kernel
theorem dX3_share_17 : decode cX3_share 17 = .ok (.ireturn, 1) := by decide +kernel
theorem dX3_share_18 : decode cX3_share 18 = .ok (.aload_n 0, 1) := by decide +kernel
theorem dX3_share_19 : decode cX3_share 19 = .ok (.getfield 9, 3) := by decide +kernel
theorem dX3_share_22 : decode cX3_share 22 = .ok (.iload_n 1, 1) := by decide +kernel
theorem dX3_share_23 : decode cX3_share 23 = .ok (.iaload, 1) := by decide +kernel
theorem dX3_share_24 : decode cX3_share 24 = .ok (.iload_n 2, 1) := by decide +kernel
theorem dX3_share_25 : decode cX3_share 25 = .ok (.idiv, 1) := by decide +kernel
theorem dX3_share_26 : decode cX3_share 26 = .ok (.istore 4, 2) := by decide +kernel
theorem dX3_share_28 : decode cX3_share 28 = .ok (.aload_n 0, 1) := by decide +kernel
theorem dX3_share_29 : decode cX3_share 29 = .ok (.dup, 1) := by decide +kernel
theorem dX3_share_30 : decode cX3_share 30 = .ok (.getfield 28, 3) := by decide +kernel
theorem dX3_share_33 : decode cX3_share 33 = .ok (.aload_n 0, 1) := by decide +kernel
theorem dX3_share_34 : decode cX3_share 34 = .ok (.getfield 9, 3) := by decide +kernel
theorem dX3_share_37 : decode cX3_share 37 = .ok (.iload_n 1, 1) := by decide +kernel
theorem dX3_share_38 : decode cX3_share 38 = .ok (.iaload, 1) := by decide +kernel
theorem dX3_share_39 : decode cX3_share 39 = .ok (.iload 4, 2) := by decide +kernel
theorem dX3_share_41 : decode cX3_share 41 = .ok (.isub, 1) := by decide +kernel
theorem dX3_share_42 : decode cX3_share 42 = .ok (.iadd, 1) := by decide +kernel
theorem dX3_share_43 : decode cX3_share 43 = .ok (.putfield 28, 3) := by decide +kernel
theorem dX3_share_46 : decode cX3_share 46 = .ok (.aload_n 0, 1) := by decide +kernel
theorem dX3_share_47 : decode cX3_share 47 = .ok (.getfield 9, 3) := by decide +kernel
theorem dX3_share_50 : decode cX3_share 50 = .ok (.iload_n 1, 1) := by decide +kernel
theorem dX3_share_51 : decode cX3_share 51 = .ok (.iload 4, 2) := by decide +kernel
theorem dX3_share_53 : decode cX3_share 53 = .ok (.iastore, 1) := by decide +kernel
theorem dX3_share_54 : decode cX3_share 54 = .ok (.iconst 0, 1) := by decide +kernel
theorem dX3_share_55 : decode cX3_share 55 = .ok (.ireturn, 1) := by decide +kernel
set_option maxRecDepth 20000 in
theorem ggX3_move_X4_isShelf : GoodIn wsX3_move wsX4_isShelf := goodIn_r _ [4] (by decide +kernel) (by decide +kernel)
set_option maxRecDepth 20000 in
theorem gX3_move_X4_isShelf_n21 : GoodIn wsX3_move (wsX4_isShelf) := ggX3_move_X4_isShelf
set_option maxRecDepth 20000 in
theorem ggX3_move_X3_isThere : GoodIn wsX3_move wsX3_isThere := goodIn_r _ [9, 1, 2, 3, 4, 10, 11, 12, 13] (by decide +kernel) (by decide +kernel)
set_option maxRecDepth 20000 in
theorem gX3_move_X3_isThere : GoodIn wsX3_move (wsV RX3 25 RX3 yX3_isThere wsX3_isThere) := goodIn_app (goodIn_of _ (by decide +kernel)) ggX3_move_X3_isThere
theorem dX3_move_0 : decode cX3_move 0 = .ok (.iload_n 1, 1) := by decide +kernel
theorem dX3_move_1 : decode cX3_move 1 = .ok (.invokestatic 21, 3) := by decide +kernel
theorem dX3_move_4 : decode cX3_move 4 = .ok (.ifCond .eq 10, 3) := by decide +kernel
theorem dX3_move_7 : decode cX3_move 7 = .ok (.iload_n 2, 1) := by decide +kernel
theorem dX3_move_8 : decode cX3_move 8 = .ok (.invokestatic 21, 3) := by decide +kernel
theorem dX3_move_11 : decode cX3_move 11 = .ok (.ifCond .ne 5, 3) := by decide +kernel
theorem dX3_move_14 : decode cX3_move 14 = .ok (.iconst 1, 1) := by decide +kernel
theorem dX3_move_15 : decode cX3_move 15 = .ok (.ireturn, 1) := by decide +kernel
theorem dX3_move_16 : decode cX3_move 16 = .ok (.aload_n 0, 1) := by decide +kernel
theorem dX3_move_17 : decode cX3_move 17 = .ok (.iload_n 1, 1) := by decide +kernel
theorem dX3_move_18 : decode cX3_move 18 = .ok (.invokevirtual 25, 3) := by decide +kernel
theorem dX3_move_21 : decode cX3_move 21 = .ok (.ifCond .eq 11, 3) := by decide +kernel
theorem dX3_move_24 : decode cX3_move 24 = .ok (.aload_n 0, 1) := by decide +kernel
theorem dX3_move_25 : decode cX3_move 25 = .ok (.iload_n 2, 1) := by decide +kernel
theorem dX3_move_26 : decode cX3_move 26 = .ok (.invokevirtual 25, 3) := by decide +kernel
theorem dX3_move_29 : decode cX3_move 29 = .ok (.ifCond .ne 5, 3) := by decide +kernel
theorem dX3_move_32 : decode cX3_move 32 = .ok (.iconst 2, 1) := by decide +kernel
theorem dX3_move_33 : decode cX3_move 33 = .ok (.ireturn, 1) := by decide +kernel
theorem dX3_move_34 : decode cX3_move 34 = .ok (.iload_n 3, 1) := by decide +kernel
theorem dX3_move_35 : decode cX3_move 35 = .ok (.aload_n 0, 1) := by decide +kernel
theorem dX3_move_36 : decode cX3_move 36 = .ok (.getfield 9, 3) := by decide +kernel
theorem dX3_move_39 : decode cX3_move 39 = .ok (.iload_n 1, 1) := by decide +kernel
theorem dX3_move_40 : decode cX3_move 40 = .ok (.iaload, 1) := by decide +kernel
theorem dX3_move_41 : decode cX3_move 41 = .ok (.if_icmp .le 5, 3) := by decide +kernel
theorem dX3_move_44 : decode cX3_move 44 = .ok (.iconst 4, 1) := by decide +kernel
theorem dX3_move_45 : decode cX3_move 45 = .ok (.ireturn, 1) := by decide +kernel
theorem dX3_move_46 : decode cX3_move 46 = .ok (.iload_n 1, 1) := by decide +kernel
theorem dX3_move_47 : decode cX3_move 47 = .ok (.iload_n 2, 1) := by decide +kernel
theorem dX3_move_48 : decode cX3_move 48 = .ok (.if_icmp .eq 19, 3) := by decide +kernel
theorem dX3_move_51 : decode cX3_move 51 = .ok (.aload_n 0, 1) := by decide +kernel
theorem dX3_move_52 : decode cX3_move 52 = .ok (.getfield 9, 3) := by decide +kernel
theorem dX3_move_55 : decode cX3_move 55 = .ok (.iload_n 2, 1) := by decide +kernel
theorem dX3_move_56 : decode cX3_move 56 = .ok (.iaload, 1) := by decide +kernel
theorem dX3_move_57 : decode cX3_move 57 = .ok (.iload_n 3, 1) := by decide +kernel
theorem dX3_move_58 : decode cX3_move 58 = .ok (.iadd, 1) := by decide +kernel
theorem dX3_move_59 : decode cX3_move 59 = .ok (.sipush 1000, 3) := by decide +kernel
theorem dX3_move_62 : decode cX3_move 62 = .ok (.if_icmp .le 5, 3) := by decide +kernel
theorem dX3_move_65 : decode cX3_move 65 = .ok (.iconst 5, 1) := by decide +kernel
theorem dX3_move_66 : decode cX3_move 66 = .ok (.ireturn, 1) := by decide +kernel
theorem dX3_move_67 : decode cX3_move 67 = .ok (.aload_n 0, 1) := by decide +kernel
theorem dX3_move_68 : decode cX3_move 68 = .ok (.getfield 9, 3) := by decide +kernel
theorem dX3_move_71 : decode cX3_move 71 = .ok (.iload_n 1, 1) := by decide +kernel
theorem dX3_move_72 : decode cX3_move 72 = .ok (.dup2, 1) := by decide +kernel
theorem dX3_move_73 : decode cX3_move 73 = .ok (.iaload, 1) := by decide +kernel
theorem dX3_move_74 : decode cX3_move 74 = .ok (.iload_n 3, 1) := by decide +kernel
theorem dX3_move_75 : decode cX3_move 75 = .ok (.isub, 1) := by decide +kernel
theorem dX3_move_76 : decode cX3_move 76 = .ok (.iastore, 1) := by decide +kernel
theorem dX3_move_77 : decode cX3_move 77 = .ok (.aload_n 0, 1) := by decide +kernel
theorem dX3_move_78 : decode cX3_move 78 = .ok (.getfield 9, 3) := by decide +kernel
theorem dX3_move_81 : decode cX3_move 81 = .ok (.iload_n 2, 1) := by decide +kernel
theorem dX3_move_82 : decode cX3_move 82 = .ok (.dup2, 1) := by decide +kernel
theorem dX3_move_83 : decode cX3_move 83 = .ok (.iaload, 1) := by decide +kernel
theorem dX3_move_84 : decode cX3_move 84 = .ok (.iload_n 3, 1) := by decide +kernel
theorem dX3_move_85 : decode cX3_move 85 = .ok (.iadd, 1) := by decide +kernel
theorem dX3_move_86 : decode cX3_move 86 = .ok (.iastore, 1) := by decide +kernel
theorem dX3_move_87 : decode cX3_move 87 = .ok (.iconst 0, 1) := by decide +kernel
theorem dX3_move_88 : decode cX3_move 88 = .ok (.ireturn, 1) := by decide +kernel
set_option maxRecDepth 20000 in
theorem ggX3_missingOrLoose_X3_missing : GoodIn wsX3_missingOrLoose wsX3_missing := goodIn_r _ [6, 7, 8, 9, 10, 11, 12, 5, 13, 14, 15, 16, 17, 18] (by decide +kernel) (by decide +kernel)
set_option maxRecDepth 20000 in
theorem gX3_missingOrLoose_X3_missing : GoodIn wsX3_missingOrLoose (wsV RX3 39 RX3 yX3_missing wsX3_missing) := goodIn_app (goodIn_of _ (by decide +kernel)) ggX3_missingOrLoose_X3_missing
theorem dX3_missingOrLoose_0 : decode cX3_missingOrLoose 0 = .ok (.aload_n 0, 1) := by decide +kernel
theorem dX3_missingOrLoose_1 : decode cX3_missingOrLoose 1 = .ok (.iload_n 1, 1) := by decide +kernel
theorem dX3_missingOrLoose_2 : decode cX3_missingOrLoose 2 = .ok (.invokevirtual 39, 3) := by decide +kernel
theorem dX3_missingOrLoose_5 : decode cX3_missingOrLoose 5 = .ok (.istore_n 2, 1) := by decide +kernel
theorem dX3_missingOrLoose_6 : decode cX3_missingOrLoose 6 = .ok (.iload_n 2, 1) := by decide +kernel
theorem dX3_missingOrLoose_7 : decode cX3_missingOrLoose 7 = .ok (.ifCond .eq 5, 3) := by decide +kernel
theorem dX3_missingOrLoose_10 : decode cX3_missingOrLoose 10 = .ok (.iload_n 2, 1) := by decide +kernel
theorem dX3_missingOrLoose_11 : decode cX3_missingOrLoose 11 = .ok (.ireturn, 1) := by decide +kernel
theorem dX3_missingOrLoose_12 : decode cX3_missingOrLoose 12 = .ok (.aload_n 0, 1) := by decide +kernel
theorem dX3_missingOrLoose_13 : decode cX3_missingOrLoose 13 = .ok (.getfield 18, 3) := by decide +kernel
theorem dX3_missingOrLoose_16 : decode cX3_missingOrLoose 16 = .ok (.iload_n 1, 1) := by decide +kernel
theorem dX3_missingOrLoose_17 : decode cX3_missingOrLoose 17 = .ok (.iaload, 1) := by decide +kernel
theorem dX3_missingOrLoose_18 : decode cX3_missingOrLoose 18 = .ok (.ifCond .le 7, 3) := by decide +kernel
theorem dX3_missingOrLoose_21 : decode cX3_missingOrLoose 21 = .ok (.iconst 0, 1) := by decide +kernel
theorem dX3_missingOrLoose_22 : decode cX3_missingOrLoose 22 = .ok (.goto 5, 3) := by decide +kernel
theorem dX3_missingOrLoose_25 : decode cX3_missingOrLoose 25 = .ok (.bipush 7, 2) := by decide +kernel
theorem dX3_missingOrLoose_27 : decode cX3_missingOrLoose 27 = .ok (.ireturn, 1) := by decide +kernel
end
section
set_option maxRecDepth 20000 in
theorem ggX4_init_X1_init : GoodIn wsX4_init wsX1_init := goodIn_r _ [22, 23, 2, 3, 24, 25, 54, 55] (by decide +kernel) (by decide +kernel)
set_option maxRecDepth 20000 in
theorem gX4_init_X1_init : GoodIn wsX4_init (wsX1_init) := ggX4_init_X1_init
set_option maxRecDepth 20000 in
theorem ggX4_init_X3_init : GoodIn wsX4_init wsX3_init := goodIn_r _ [28, 29, 2, 3, 24, 30, 31, 32, 56, 57, 58, 59] (by decide +kernel) (by decide +kernel)
set_option maxRecDepth 20000 in
theorem gX4_init_X3_init : GoodIn wsX4_init (wsX3_init) := ggX4_init_X3_init
set_option maxRecDepth 20000 in
theorem ggX4_init_X0_init : GoodIn wsX4_init wsX0_init := goodIn_r _ [35, 36, 2, 3, 24, 37, 38, 39, 60, 61, 62, 63] (by decide +kernel) (by decide +kernel)
set_option maxRecDepth 20000 in
theorem gX4_init_X0_init : GoodIn wsX4_init (wsX0_init) := ggX4_init_X0_init
set_option maxRecDepth 20000 in
theorem ggX4_init_X2_init : GoodIn wsX4_init wsX2_init := goodIn_r _ [42, 43, 2, 3, 24, 44, 45, 46, 64, 65, 66, 67, 68, 69, 70, 71, 72, 73] (by decide +kernel) (by decide +kernel)
set_option maxRecDepth 20000 in
theorem gX4_init_X2_init : GoodIn wsX4_init (wsX2_init) := ggX4_init_X2_init
theorem dX4_init_0 : decode cX4_init 0 = .ok (.aload_n 0, 1) := by decide +kernel
theorem dX4_init_1 : decode cX4_init 1 = .ok (.invokespecial 1, 3) := by decide +kernel
theorem dX4_init_4 : decode cX4_init 4 = .ok (.aload_n 0, 1) := by decide +kernel
theorem dX4_init_5 : decode cX4_init 5 = .ok (.bipush 6, 2) := by decide +kernel
theorem dX4_init_7 : decode cX4_init 7 = .ok (.anewarray 9, 3) := by decide +kernel
theorem dX4_init_10 : decode cX4_init 10 = .ok (.putfield 11, 3) := by decide +kernel
theorem dX4_init_13 : decode cX4_init 13 = .ok (.iconst 0, 1) := by decide +kernel
theorem dX4_init_14 : decode cX4_init 14 = .ok (.istore_n 1, 1) := by decide +kernel
theorem dX4_init_15 : decode cX4_init 15 = .ok (.iload_n 1, 1) := by decide +kernel
theorem dX4_init_16 : decode cX4_init 16 = .ok (.bipush 6, 2) := by decide +kernel
theorem dX4_init_18 : decode cX4_init 18 = .ok (.if_icmp .ge 22, 3) := by decide +kernel
theorem dX4_init_21 : decode cX4_init 21 = .ok (.aload_n 0, 1) := by decide +kernel
theorem dX4_init_22 : decode cX4_init 22 = .ok (.getfield 11, 3) := by decide +kernel
theorem dX4_init_25 : decode cX4_init 25 = .ok (.iload_n 1, 1) := by decide +kernel
theorem dX4_init_26 : decode cX4_init 26 = .ok (.new 9, 3) := by decide +kernel
theorem dX4_init_29 : decode cX4_init 29 = .ok (.dup, 1) := by decide +kernel
theorem dX4_init_30 : decode cX4_init 30 = .ok (.invokespecial 15, 3) := by decide +kernel
theorem dX4_init_33 : decode cX4_init 33 = .ok (.aastore, 1) := by decide +kernel
theorem dX4_init_34 : decode cX4_init 34 = .ok (.iinc 1 1, 3) := by decide +kernel
theorem dX4_init_37 : decode cX4_init 37 = .ok (.goto (-22), 3) := by decide +kernel
theorem dX4_init_40 : decode cX4_init 40 = .ok (.aload_n 0, 1) := by decide +kernel
theorem dX4_init_41 : decode cX4_init 41 = .ok (.new 16, 3) := by decide +kernel
theorem dX4_init_44 : decode cX4_init 44 = .ok (.dup, 1) := by decide +kernel
theorem dX4_init_45 : decode cX4_init 45 = .ok (.invokespecial 18, 3) := by decide +kernel
theorem dX4_init_48 : decode cX4_init 48 = .ok (.putfield 19, 3) := by decide +kernel
theorem dX4_init_51 : decode cX4_init 51 = .ok (.aload_n 0, 1) := by decide +kernel
theorem dX4_init_52 : decode cX4_init 52 = .ok (.new 23, 3) := by decide +kernel
theorem dX4_init_55 : decode cX4_init 55 = .ok (.dup, 1) := by decide +kernel
theorem dX4_init_56 : decode cX4_init 56 = .ok (.invokespecial 25, 3) := by decide +kernel
theorem dX4_init_59 : decode cX4_init 59 = .ok (.putfield 26, 3) := by decide +kernel
theorem dX4_init_62 : decode cX4_init 62 = .ok (.aload_n 0, 1) := by decide +kernel
theorem dX4_init_63 : decode cX4_init 63 = .ok (.new 30, 3) := by decide +kernel
theorem dX4_init_66 : decode cX4_init 66 = .ok (.dup, 1) := by decide +kernel
theorem dX4_init_67 : decode cX4_init 67 = .ok (.invokespecial 32, 3) := by decide +kernel
theorem dX4_init_70 : decode cX4_init 70 = .ok (.putfield 33, 3) := by decide +kernel
theorem dX4_init_73 : decode cX4_init 73 = .ok (.return_, 1) := by decide +kernel
set_option maxRecDepth 20000 in
theorem ggX4_act_X4_isPlan : GoodIn wsX4_act wsX4_isPlan := goodIn_r _ [6] (by decide +kernel) (by decide +kernel)
set_option maxRecDepth 20000 in
theorem gX4_act_X4_isPlan : GoodIn wsX4_act (va_wsS RX4 37 yX4_isPlan wsX4_isPlan) := goodIn_app (goodIn_of _ (by decide +kernel)) ggX4_act_X4_isPlan
set_option maxRecDepth 20000 in
theorem ggX4_act_X4_isDigit : GoodIn wsX4_act wsX4_isDigit := goodIn_r _ [9] (by decide +kernel) (by decide +kernel)
set_option maxRecDepth 20000 in
theorem gX4_act_X4_isDigit : GoodIn wsX4_act (va_wsS RX4 45 yX4_isDigit wsX4_isDigit) := goodIn_app (goodIn_of _ (by decide +kernel)) ggX4_act_X4_isDigit
set_option maxRecDepth 20000 in
theorem ggX4_act_X1_add : GoodIn wsX4_act wsX1_add := goodIn_r _ [14, 15, 16, 24, 25] (by decide +kernel) (by decide +kernel)
set_option maxRecDepth 20000 in
theorem gX4_act_X1_add : GoodIn wsX4_act (wsV RX4 48 RX1 yX1_add wsX1_add) := goodIn_app (goodIn_of _ (by decide +kernel)) ggX4_act_X1_add
theorem dX4_act_0 : decode cX4_act 0 = .ok (.iload_n 1, 1) := by decide +kernel
theorem dX4_act_1 : decode cX4_act 1 = .ok (.invokestatic 37, 3) := by decide +kernel
theorem dX4_act_4 : decode cX4_act 4 = .ok (.ifCond .eq 13, 3) := by decide +kernel
theorem dX4_act_7 : decode cX4_act 7 = .ok (.iload_n 2, 1) := by decide +kernel
theorem dX4_act_8 : decode cX4_act 8 = .ok (.ifCond .lt 9, 3) := by decide +kernel
theorem dX4_act_11 : decode cX4_act 11 = .ok (.iload_n 2, 1) := by decide +kernel
theorem dX4_act_12 : decode cX4_act 12 = .ok (.bipush 9, 2) := by decide +kernel
theorem dX4_act_14 : decode cX4_act 14 = .ok (.if_icmp .le 5, 3) := by decide +kernel
theorem dX4_act_17 : decode cX4_act 17 = .ok (.iconst (-1), 1) := by decide +kernel
theorem dX4_act_18 : decode cX4_act 18 = .ok (.ireturn, 1) := by decide +kernel
theorem dX4_act_19 : decode cX4_act 19 = .ok (.getstatic 41, 3) := by decide +kernel
theorem dX4_act_22 : decode cX4_act 22 = .ok (.iload_n 2, 1) := by decide +kernel
theorem dX4_act_23 : decode cX4_act 23 = .ok (.iaload, 1) := by decide +kernel
theorem dX4_act_24 : decode cX4_act 24 = .ok (.ifCond .le 7, 3) := by decide +kernel
theorem dX4_act_27 : decode cX4_act 27 = .ok (.iload_n 3, 1) := by decide +kernel
theorem dX4_act_28 : decode cX4_act 28 = .ok (.goto 4, 3) := by decide +kernel
theorem dX4_act_31 : decode cX4_act 31 = .ok (.iconst 0, 1) := by decide +kernel
theorem dX4_act_32 : decode cX4_act 32 = .ok (.istore 6, 2) := by decide +kernel
theorem dX4_act_34 : decode cX4_act 34 = .ok (.getstatic 41, 3) := by decide +kernel
theorem dX4_act_37 : decode cX4_act 37 = .ok (.iload_n 2, 1) := by decide +kernel
theorem dX4_act_38 : decode cX4_act 38 = .ok (.iaload, 1) := by decide +kernel
theorem dX4_act_39 : decode cX4_act 39 = .ok (.iconst 1, 1) := by decide +kernel
theorem dX4_act_40 : decode cX4_act 40 = .ok (.if_icmp .le 8, 3) := by decide +kernel
theorem dX4_act_43 : decode cX4_act 43 = .ok (.iload 4, 2) := by decide +kernel
theorem dX4_act_45 : decode cX4_act 45 = .ok (.goto 4, 3) := by decide +kernel
theorem dX4_act_48 : decode cX4_act 48 = .ok (.iconst 0, 1) := by decide +kernel
theorem dX4_act_49 : decode cX4_act 49 = .ok (.istore 7, 2) := by decide +kernel
theorem dX4_act_51 : decode cX4_act 51 = .ok (.getstatic 41, 3) := by decide +kernel
theorem dX4_act_54 : decode cX4_act 54 = .ok (.iload_n 2, 1) := by decide +kernel
theorem dX4_act_55 : decode cX4_act 55 = .ok (.iaload, 1) := by decide +kernel
theorem dX4_act_56 : decode cX4_act 56 = .ok (.iconst 2, 1) := by decide +kernel
theorem dX4_act_57 : decode cX4_act 57 = .ok (.if_icmp .le 8, 3) := by decide +kernel
theorem dX4_act_60 : decode cX4_act 60 = .ok (.iload 5, 2) := by decide +kernel
theorem dX4_act_62 : decode cX4_act 62 = .ok (.goto 4, 3) := by decide +kernel
theorem dX4_act_65 : decode cX4_act 65 = .ok (.iconst 0, 1) := by decide +kernel
theorem dX4_act_66 : decode cX4_act 66 = .ok (.istore 8, 2) := by decide +kernel
theorem dX4_act_68 : decode cX4_act 68 = .ok (.iload 6, 2) := by decide +kernel
theorem dX4_act_70 : decode cX4_act 70 = .ok (.invokestatic 45, 3) := by decide +kernel
theorem dX4_act_73 : decode cX4_act 73 = .ok (.ifCond .eq 19, 3) := by decide +kernel
theorem dX4_act_76 : decode cX4_act 76 = .ok (.iload 7, 2) := by decide +kernel
theorem dX4_act_78 : decode cX4_act 78 = .ok (.invokestatic 45, 3) := by decide +kernel
theorem dX4_act_81 : decode cX4_act 81 = .ok (.ifCond .eq 11, 3) := by decide +kernel
theorem dX4_act_84 : decode cX4_act 84 = .ok (.iload 8, 2) := by decide +kernel
theorem dX4_act_86 : decode cX4_act 86 = .ok (.invokestatic 45, 3) := by decide +kernel
theorem dX4_act_89 : decode cX4_act 89 = .ok (.ifCond .ne 5, 3) := by decide +kernel
theorem dX4_act_92 : decode cX4_act 92 = .ok (.iconst (-1), 1) := by decide +kernel
theorem dX4_act_93 : decode cX4_act 93 = .ok (.ireturn, 1) := by decide +kernel
theorem dX4_act_94 : decode cX4_act 94 = .ok (.iload_n 2, 1) := by decide +kernel
theorem dX4_act_95 : decode cX4_act 95 = .ok (.bipush 7, 2) := by decide +kernel
theorem dX4_act_97 : decode cX4_act 97 = .ok (.if_icmp .ne 12, 3) := by decide +kernel
theorem dX4_act_100 : decode cX4_act 100 = .ok (.iload 6, 2) := by decide +kernel
theorem dX4_act_102 : decode cX4_act 102 = .ok (.bipush 7, 2) := by decide +kernel
theorem dX4_act_104 : decode cX4_act 104 = .ok (.if_icmp .ge 5, 3) := by decide +kernel
theorem dX4_act_107 : decode cX4_act 107 = .ok (.iconst (-1), 1) := by decide +kernel
theorem dX4_act_108 : decode cX4_act 108 = .ok (.ireturn, 1) := by decide +kernel
theorem dX4_act_109 : decode cX4_act 109 = .ok (.aload_n 0, 1) := by decide +kernel
theorem dX4_act_110 : decode cX4_act 110 = .ok (.getfield 11, 3) := by decide +kernel
theorem dX4_act_113 : decode cX4_act 113 = .ok (.iload_n 1, 1) := by decide +kernel
theorem dX4_act_114 : decode cX4_act 114 = .ok (.aaload, 1) := by decide +kernel
theorem dX4_act_115 : decode cX4_act 115 = .ok (.iload_n 2, 1) := by decide +kernel
theorem dX4_act_116 : decode cX4_act 116 = .ok (.iload 6, 2) := by decide +kernel
theorem dX4_act_118 : decode cX4_act 118 = .ok (.iload 7, 2) := by decide +kernel
theorem dX4_act_120 : decode cX4_act 120 = .ok (.iload 8, 2) := by decide +kernel
theorem dX4_act_122 : decode cX4_act 122 = .ok (.invokevirtual 48, 3) := by decide +kernel
theorem dX4_act_125 : decode cX4_act 125 = .ok (.ireturn, 1) := by decide +kernel
set_option maxRecDepth 20000 in
theorem ggX4_clear_X4_isPlan : GoodIn wsX4_clear wsX4_isPlan := goodIn_r _ [5] (by decide +kernel) (by decide +kernel)
set_option maxRecDepth 20000 in
theorem gX4_clear_X4_isPlan : GoodIn wsX4_clear (va_wsS RX4 37 yX4_isPlan wsX4_isPlan) := goodIn_app (goodIn_of _ (by decide +kernel)) ggX4_clear_X4_isPlan
set_option maxRecDepth 20000 in
theorem ggX4_clear_X1_empty : GoodIn wsX4_clear wsX1_empty := goodIn_r _ [10, 11, 19, 20] (by decide +kernel) (by decide +kernel)
set_option maxRecDepth 20000 in
theorem gX4_clear_X1_empty : GoodIn wsX4_clear (wsV RX4 52 RX1 yX1_empty wsX1_empty) := goodIn_app (goodIn_of _ (by decide +kernel)) ggX4_clear_X1_empty
theorem dX4_clear_0 : decode cX4_clear 0 = .ok (.iload_n 1, 1) := by decide +kernel
theorem dX4_clear_1 : decode cX4_clear 1 = .ok (.invokestatic 37, 3) := by decide +kernel
theorem dX4_clear_4 : decode cX4_clear 4 = .ok (.ifCond .eq 15, 3) := by decide +kernel
theorem dX4_clear_7 : decode cX4_clear 7 = .ok (.aload_n 0, 1) := by decide +kernel
theorem dX4_clear_8 : decode cX4_clear 8 = .ok (.getfield 11, 3) := by decide +kernel
theorem dX4_clear_11 : decode cX4_clear 11 = .ok (.iload_n 1, 1) := by decide +kernel
theorem dX4_clear_12 : decode cX4_clear 12 = .ok (.aaload, 1) := by decide +kernel
theorem dX4_clear_13 : decode cX4_clear 13 = .ok (.invokevirtual 52, 3) := by decide +kernel
theorem dX4_clear_16 : decode cX4_clear 16 = .ok (.goto 4, 3) := by decide +kernel
theorem dX4_clear_19 : decode cX4_clear 19 = .ok (.iconst (-1), 1) := by decide +kernel
theorem dX4_clear_20 : decode cX4_clear 20 = .ok (.ireturn, 1) := by decide +kernel
set_option maxRecDepth 20000 in
theorem ggX4_closed_X4_isPlan : GoodIn wsX4_closed wsX4_isPlan := goodIn_r _ [5] (by decide +kernel) (by decide +kernel)
set_option maxRecDepth 20000 in
theorem gX4_closed_X4_isPlan : GoodIn wsX4_closed (va_wsS RX4 37 yX4_isPlan wsX4_isPlan) := goodIn_app (goodIn_of _ (by decide +kernel)) ggX4_closed_X4_isPlan
set_option maxRecDepth 20000 in
theorem ggX4_closed_X1_isClosed : GoodIn wsX4_closed wsX1_isClosed := goodIn_r _ [10, 11, 12, 13, 14, 9, 15, 16, 17, 18, 19, 20, 21, 22, 23, 24, 32, 33] (by decide +kernel) (by decide +kernel)
set_option maxRecDepth 20000 in
theorem gX4_closed_X1_isClosed : GoodIn wsX4_closed (wsV RX4 56 RX1 yX1_isClosed wsX1_isClosed) := goodIn_app (goodIn_of _ (by decide +kernel)) ggX4_closed_X1_isClosed
theorem dX4_closed_0 : decode cX4_closed 0 = .ok (.iload_n 1, 1) := by decide +kernel
theorem dX4_closed_1 : decode cX4_closed 1 = .ok (.invokestatic 37, 3) := by decide +kernel
theorem dX4_closed_4 : decode cX4_closed 4 = .ok (.ifCond .ne 5, 3) := by decide +kernel
theorem dX4_closed_7 : decode cX4_closed 7 = .ok (.iconst (-1), 1) := by decide +kernel
theorem dX4_closed_8 : decode cX4_closed 8 = .ok (.ireturn, 1) := by decide +kernel
theorem dX4_closed_9 : decode cX4_closed 9 = .ok (.aload_n 0, 1) := by decide +kernel
theorem dX4_closed_10 : decode cX4_closed 10 = .ok (.getfield 11, 3) := by decide +kernel
theorem dX4_closed_13 : decode cX4_closed 13 = .ok (.iload_n 1, 1) := by decide +kernel
theorem dX4_closed_14 : decode cX4_closed 14 = .ok (.aaload, 1) := by decide +kernel
theorem dX4_closed_15 : decode cX4_closed 15 = .ok (.invokevirtual 56, 3) := by decide +kernel
theorem dX4_closed_18 : decode cX4_closed 18 = .ok (.ifCond .eq 7, 3) := by decide +kernel
theorem dX4_closed_21 : decode cX4_closed 21 = .ok (.iconst 1, 1) := by decide +kernel
theorem dX4_closed_22 : decode cX4_closed 22 = .ok (.goto 4, 3) := by decide +kernel
theorem dX4_closed_25 : decode cX4_closed 25 = .ok (.iconst 0, 1) := by decide +kernel
theorem dX4_closed_26 : decode cX4_closed 26 = .ok (.ireturn, 1) := by decide +kernel
set_option maxRecDepth 20000 in
theorem ggX4_shelf_X4_isShelf : GoodIn wsX4_shelf wsX4_isShelf := goodIn_r _ [5] (by decide +kernel) (by decide +kernel)
set_option maxRecDepth 20000 in
theorem gX4_shelf_X4_isShelf : GoodIn wsX4_shelf (va_wsS RX4 60 yX4_isShelf wsX4_isShelf) := goodIn_app (goodIn_of _ (by decide +kernel)) ggX4_shelf_X4_isShelf
set_option maxRecDepth 20000 in
theorem ggX4_shelf_X3_replace : GoodIn wsX4_shelf wsX3_replace := goodIn_r _ [10, 11, 12, 3, 4, 5, 13, 14, 15, 9, 16, 24, 25, 26, 27] (by decide +kernel) (by decide +kernel)
set_option maxRecDepth 20000 in
theorem gX4_shelf_X3_replace : GoodIn wsX4_shelf (wsV RX4 63 RX3 yX3_replace wsX3_replace) := goodIn_app (goodIn_of _ (by decide +kernel)) ggX4_shelf_X3_replace
theorem dX4_shelf_0 : decode cX4_shelf 0 = .ok (.iload_n 1, 1) := by decide +kernel
theorem dX4_shelf_1 : decode cX4_shelf 1 = .ok (.invokestatic 60, 3) := by decide +kernel
theorem dX4_shelf_4 : decode cX4_shelf 4 = .ok (.ifCond .eq 15, 3) := by decide +kernel
theorem dX4_shelf_7 : decode cX4_shelf 7 = .ok (.iload_n 2, 1) := by decide +kernel
theorem dX4_shelf_8 : decode cX4_shelf 8 = .ok (.iconst (-1), 1) := by decide +kernel
theorem dX4_shelf_9 : decode cX4_shelf 9 = .ok (.if_icmp .lt 10, 3) := by decide +kernel
theorem dX4_shelf_12 : decode cX4_shelf 12 = .ok (.iload_n 2, 1) := by decide +kernel
theorem dX4_shelf_13 : decode cX4_shelf 13 = .ok (.sipush 1000, 3) := by decide +kernel
theorem dX4_shelf_16 : decode cX4_shelf 16 = .ok (.if_icmp .le 5, 3) := by decide +kernel
theorem dX4_shelf_19 : decode cX4_shelf 19 = .ok (.iconst (-1), 1) := by decide +kernel
theorem dX4_shelf_20 : decode cX4_shelf 20 = .ok (.ireturn, 1) := by decide +kernel
theorem dX4_shelf_21 : decode cX4_shelf 21 = .ok (.aload_n 0, 1) := by decide +kernel
theorem dX4_shelf_22 : decode cX4_shelf 22 = .ok (.getfield 19, 3) := by decide +kernel
theorem dX4_shelf_25 : decode cX4_shelf 25 = .ok (.iload_n 1, 1) := by decide +kernel
theorem dX4_shelf_26 : decode cX4_shelf 26 = .ok (.iload_n 2, 1) := by decide +kernel
theorem dX4_shelf_27 : decode cX4_shelf 27 = .ok (.invokevirtual 63, 3) := by decide +kernel
theorem dX4_shelf_30 : decode cX4_shelf 30 = .ok (.ireturn, 1) := by decide +kernel
set_option maxRecDepth 20000 in
theorem ggX4_run_X4_isPlan : GoodIn wsX4_run wsX4_isPlan := goodIn_r _ [9] (by decide +kernel) (by decide +kernel)
set_option maxRecDepth 20000 in
theorem gX4_run_X4_isPlan : GoodIn wsX4_run (va_wsS RX4 37 yX4_isPlan wsX4_isPlan) := goodIn_app (goodIn_of _ (by decide +kernel)) ggX4_run_X4_isPlan
set_option maxRecDepth 20000 in
theorem ggX4_run_X1_isClosed : GoodIn wsX4_run wsX1_isClosed := goodIn_r _ [14, 15, 16, 17, 18, 13, 19, 20, 21, 22, 23, 24, 25, 26, 27, 28, 228, 229] (by decide +kernel) (by decide +kernel)
set_option maxRecDepth 20000 in
theorem gX4_run_X1_isClosed : GoodIn wsX4_run (wsV RX4 56 RX1 yX1_isClosed wsX1_isClosed) := goodIn_app (goodIn_of _ (by decide +kernel)) ggX4_run_X1_isClosed
set_option maxRecDepth 20000 in
theorem ggX4_run_X2_reset : GoodIn wsX4_run wsX2_reset := goodIn_r _ [33, 34, 35, 36, 37, 38, 39, 40, 41, 42, 43, 32, 44, 45, 46, 47, 230, 231, 232, 233, 234, 235, 236, 237, 238, 239] (by decide +kernel) (by decide +kernel)
set_option maxRecDepth 20000 in
theorem gX4_run_X2_reset : GoodIn wsX4_run (wsV RX4 67 RX2 yX2_reset wsX2_reset) := goodIn_app (goodIn_of _ (by decide +kernel)) ggX4_run_X2_reset
set_option maxRecDepth 20000 in
theorem ggX4_run_X4_doActs : GoodIn wsX4_run wsX4_doActs := goodIn_r _ [51, 4, 1, 3, 5, 2, 52, 53, 54, 13, 55, 15, 56, 57, 58, 8, 59, 60, 61, 62, 63, 64, 65, 66, 67, 68, 69, 70, 71, 72, 73, 74, 75, 76, 77, 78, 79, 32, 80, 36, 81, 82, 83, 84, 85, 42, 43, 44, 45, 46, 47, 86, 87, 88, 89, 90, 91, 92, 93, 94, 95, 96, 97, 98, 99, 100, 101, 102, 103, 104, 105, 106, 107, 108, 109, 110, 111, 112, 113, 114, 115, 116, 117, 118, 119, 38, 120, 121, 122, 123, 124, 125, 126, 127, 128, 129, 130, 131, 132, 34, 35, 133, 134, 135, 136, 137, 138, 139, 140, 141, 142, 143, 144, 145, 146, 147, 148, 24, 25, 26, 27, 28, 149, 150, 151, 152, 153, 21, 22, 23, 154, 155, 156, 157, 158, 159, 160, 161, 162, 163, 164, 165, 166, 167, 168, 169, 170, 171, 172, 173, 174, 37, 39, 175, 176, 177, 178, 179, 180, 181, 182, 183, 184, 185, 186, 16, 17, 18, 19, 20, 187, 188, 189, 190, 191, 192, 193, 194, 195, 196, 197, 198, 199, 200, 201, 202, 203, 204, 205, 206, 207, 208, 209, 210, 211, 212, 213, 214, 215, 216, 6, 7, 9, 10, 11, 12, 14, 217, 218, 219, 220, 40, 221, 222, 223, 224, 225, 226, 227, 228, 229, 240, 241, 242, 243, 230, 231, 232, 233, 234, 235, 236, 237, 238, 239, 244, 245, 246, 247] (by decide +kernel) (by decide +kernel)
set_option maxRecDepth 20000 in
theorem gX4_run_X4_doActs : GoodIn wsX4_run (wsV RX4 80 RX4 yX4_doActs wsX4_doActs) := goodIn_app (goodIn_of _ (by decide +kernel)) ggX4_run_X4_doActs
theorem dX4_run_0 : decode cX4_run 0 = .ok (.iload_n 1, 1) := by decide +kernel
theorem dX4_run_1 : decode cX4_run 1 = .ok (.invokestatic 37, 3) := by decide +kernel
theorem dX4_run_4 : decode cX4_run 4 = .ok (.ifCond .eq 13, 3) := by decide +kernel
theorem dX4_run_7 : decode cX4_run 7 = .ok (.iload_n 2, 1) := by decide +kernel
theorem dX4_run_8 : decode cX4_run 8 = .ok (.ifCond .lt 9, 3) := by decide +kernel
theorem dX4_run_11 : decode cX4_run 11 = .ok (.iload_n 2, 1) := by decide +kernel
theorem dX4_run_12 : decode cX4_run 12 = .ok (.bipush 64, 2) := by decide +kernel
theorem dX4_run_14 : decode cX4_run 14 = .ok (.if_icmp .le 5, 3) := by decide +kernel
theorem dX4_run_17 : decode cX4_run 17 = .ok (.iconst (-1), 1) := by decide +kernel
theorem dX4_run_18 : decode cX4_run 18 = .ok (.ireturn, 1) := by decide +kernel
theorem dX4_run_19 : decode cX4_run 19 = .ok (.aload_n 0, 1) := by decide +kernel
theorem dX4_run_20 : decode cX4_run 20 = .ok (.getfield 11, 3) := by decide +kernel
theorem dX4_run_23 : decode cX4_run 23 = .ok (.iload_n 1, 1) := by decide +kernel
theorem dX4_run_24 : decode cX4_run 24 = .ok (.aaload, 1) := by decide +kernel
theorem dX4_run_25 : decode cX4_run 25 = .ok (.invokevirtual 56, 3) := by decide +kernel
theorem dX4_run_28 : decode cX4_run 28 = .ok (.ifCond .ne 6, 3) := by decide +kernel
theorem dX4_run_31 : decode cX4_run 31 = .ok (.bipush (-3), 2) := by decide +kernel
theorem dX4_run_33 : decode cX4_run 33 = .ok (.ireturn, 1) := by decide +kernel
theorem dX4_run_34 : decode cX4_run 34 = .ok (.aload_n 0, 1) := by decide +kernel
theorem dX4_run_35 : decode cX4_run 35 = .ok (.getfield 33, 3) := by decide +kernel
theorem dX4_run_38 : decode cX4_run 38 = .ok (.invokevirtual 67, 3) := by decide +kernel
theorem dX4_run_41 : decode cX4_run 41 = .ok (.aload_n 0, 1) := by decide +kernel
theorem dX4_run_42 : decode cX4_run 42 = .ok (.iload_n 1, 1) := by decide +kernel
theorem dX4_run_43 : decode cX4_run 43 = .ok (.putfield 70, 3) := by decide +kernel
theorem dX4_run_46 : decode cX4_run 46 = .ok (.aload_n 0, 1) := by decide +kernel
theorem dX4_run_47 : decode cX4_run 47 = .ok (.iconst 0, 1) := by decide +kernel
theorem dX4_run_48 : decode cX4_run 48 = .ok (.putfield 74, 3) := by decide +kernel
theorem dX4_run_51 : decode cX4_run 51 = .ok (.aload_n 0, 1) := by decide +kernel
theorem dX4_run_52 : decode cX4_run 52 = .ok (.iconst 1, 1) := by decide +kernel
theorem dX4_run_53 : decode cX4_run 53 = .ok (.putfield 77, 3) := by decide +kernel
theorem dX4_run_56 : decode cX4_run 56 = .ok (.aload_n 0, 1) := by decide +kernel
theorem dX4_run_57 : decode cX4_run 57 = .ok (.iload_n 2, 1) := by decide +kernel
theorem dX4_run_58 : decode cX4_run 58 = .ok (.invokevirtual 80, 3) := by decide +kernel
theorem dX4_run_61 : decode cX4_run 61 = .ok (.ireturn, 1) := by decide +kernel
set_option maxRecDepth 20000 in
theorem ggX4_told_X2_number : GoodIn wsX4_told wsX2_number := goodIn_r _ [6, 7, 8, 9, 10, 11, 12, 13, 14, 22, 23, 24, 25, 26, 27, 28, 29, 30, 31] (by decide +kernel) (by decide +kernel)
set_option maxRecDepth 20000 in
theorem gX4_told_X2_number : GoodIn wsX4_told (wsV RX4 84 RX2 yX2_number wsX2_number) := goodIn_app (goodIn_of _ (by decide +kernel)) ggX4_told_X2_number
theorem dX4_told_0 : decode cX4_told 0 = .ok (.aload_n 0, 1) := by decide +kernel
theorem dX4_told_1 : decode cX4_told 1 = .ok (.getfield 33, 3) := by decide +kernel
theorem dX4_told_4 : decode cX4_told 4 = .ok (.iload_n 1, 1) := by decide +kernel
theorem dX4_told_5 : decode cX4_told 5 = .ok (.invokevirtual 84, 3) := by decide +kernel
theorem dX4_told_8 : decode cX4_told 8 = .ok (.ireturn, 1) := by decide +kernel
set_option maxRecDepth 20000 in
theorem ggX4_caught_X2_timesCaught : GoodIn wsX4_caught wsX2_timesCaught := goodIn_r _ [6, 7, 15, 16, 17, 18, 19, 20, 21, 22, 23, 24] (by decide +kernel) (by decide +kernel)
set_option maxRecDepth 20000 in
theorem gX4_caught_X2_timesCaught : GoodIn wsX4_caught (wsV RX4 87 RX2 yX2_timesCaught wsX2_timesCaught) := goodIn_app (goodIn_of _ (by decide +kernel)) ggX4_caught_X2_timesCaught
theorem dX4_caught_0 : decode cX4_caught 0 = .ok (.aload_n 0, 1) := by decide +kernel
theorem dX4_caught_1 : decode cX4_caught 1 = .ok (.getfield 33, 3) := by decide +kernel
theorem dX4_caught_4 : decode cX4_caught 4 = .ok (.iload_n 1, 1) := by decide +kernel
theorem dX4_caught_5 : decode cX4_caught 5 = .ok (.invokevirtual 87, 3) := by decide +kernel
theorem dX4_caught_8 : decode cX4_caught 8 = .ok (.ireturn, 1) := by decide +kernel
set_option maxRecDepth 20000 in
theorem ggX4_about_X4_isShelf : GoodIn wsX4_about wsX4_isShelf := goodIn_r _ [5] (by decide +kernel) (by decide +kernel)
set_option maxRecDepth 20000 in
theorem gX4_about_X4_isShelf : GoodIn wsX4_about (va_wsS RX4 60 yX4_isShelf wsX4_isShelf) := goodIn_app (goodIn_of _ (by decide +kernel)) ggX4_about_X4_isShelf
set_option maxRecDepth 20000 in
theorem ggX4_about_X3_isThere : GoodIn wsX4_about wsX3_isThere := goodIn_r _ [10, 11, 3, 4, 5, 29, 30, 31, 32] (by decide +kernel) (by decide +kernel)
set_option maxRecDepth 20000 in
theorem gX4_about_X3_isThere : GoodIn wsX4_about (wsV RX4 90 RX3 yX3_isThere wsX3_isThere) := goodIn_app (goodIn_of _ (by decide +kernel)) ggX4_about_X3_isThere
set_option maxRecDepth 20000 in
theorem ggX4_about_X3_goodsOf : GoodIn wsX4_about wsX3_goodsOf := goodIn_r _ [15, 11, 16, 7, 8, 9, 10, 3, 4, 5, 29, 30, 31, 32] (by decide +kernel) (by decide +kernel)
set_option maxRecDepth 20000 in
theorem gX4_about_X3_goodsOf : GoodIn wsX4_about (wsV RX4 93 RX3 yX3_goodsOf wsX3_goodsOf) := goodIn_app (goodIn_of _ (by decide +kernel)) ggX4_about_X3_goodsOf
set_option maxRecDepth 20000 in
theorem ggX4_about_X3_leftOf : GoodIn wsX4_about wsX3_leftOf := goodIn_r _ [20, 21, 16, 7, 8, 9, 10, 11, 3, 4, 5, 29, 30, 31, 32] (by decide +kernel) (by decide +kernel)
set_option maxRecDepth 20000 in
theorem gX4_about_X3_leftOf : GoodIn wsX4_about (wsV RX4 96 RX3 yX3_leftOf wsX3_leftOf) := goodIn_app (goodIn_of _ (by decide +kernel)) ggX4_about_X3_leftOf
theorem dX4_about_0 : decode cX4_about 0 = .ok (.iload_n 1, 1) := by decide +kernel
theorem dX4_about_1 : decode cX4_about 1 = .ok (.invokestatic 60, 3) := by decide +kernel
theorem dX4_about_4 : decode cX4_about 4 = .ok (.ifCond .eq 12, 3) := by decide +kernel
theorem dX4_about_7 : decode cX4_about 7 = .ok (.iload_n 2, 1) := by decide +kernel
theorem dX4_about_8 : decode cX4_about 8 = .ok (.ifCond .lt 8, 3) := by decide +kernel
theorem dX4_about_11 : decode cX4_about 11 = .ok (.iload_n 2, 1) := by decide +kernel
theorem dX4_about_12 : decode cX4_about 12 = .ok (.iconst 1, 1) := by decide +kernel
theorem dX4_about_13 : decode cX4_about 13 = .ok (.if_icmp .le 5, 3) := by decide +kernel
theorem dX4_about_16 : decode cX4_about 16 = .ok (.iconst (-1), 1) := by decide +kernel
theorem dX4_about_17 : decode cX4_about 17 = .ok (.ireturn, 1) := by decide +kernel
theorem dX4_about_18 : decode cX4_about 18 = .ok (.aload_n 0, 1) := by decide +kernel
theorem dX4_about_19 : decode cX4_about 19 = .ok (.getfield 19, 3) := by decide +kernel
theorem dX4_about_22 : decode cX4_about 22 = .ok (.iload_n 1, 1) := by decide +kernel
theorem dX4_about_23 : decode cX4_about 23 = .ok (.invokevirtual 90, 3) := by decide +kernel
theorem dX4_about_26 : decode cX4_about 26 = .ok (.ifCond .ne 6, 3) := by decide +kernel
theorem dX4_about_29 : decode cX4_about 29 = .ok (.bipush (-3), 2) := by decide +kernel
theorem dX4_about_31 : decode cX4_about 31 = .ok (.ireturn, 1) := by decide +kernel
theorem dX4_about_32 : decode cX4_about 32 = .ok (.iload_n 2, 1) := by decide +kernel
theorem dX4_about_33 : decode cX4_about 33 = .ok (.ifCond .ne 14, 3) := by decide +kernel
theorem dX4_about_36 : decode cX4_about 36 = .ok (.aload_n 0, 1) := by decide +kernel
theorem dX4_about_37 : decode cX4_about 37 = .ok (.getfield 19, 3) := by decide +kernel
theorem dX4_about_40 : decode cX4_about 40 = .ok (.iload_n 1, 1) := by decide +kernel
theorem dX4_about_41 : decode cX4_about 41 = .ok (.invokevirtual 93, 3) := by decide +kernel
theorem dX4_about_44 : decode cX4_about 44 = .ok (.goto 11, 3) := by decide +kernel
theorem dX4_about_47 : decode cX4_about 47 = .ok (.aload_n 0, 1) := by decide +kernel
theorem dX4_about_48 : decode cX4_about 48 = .ok (.getfield 19, 3) := by decide +kernel
theorem dX4_about_51 : decode cX4_about 51 = .ok (.iload_n 1, 1) := by decide +kernel
theorem dX4_about_52 : decode cX4_about 52 = .ok (.invokevirtual 96, 3) := by decide +kernel
theorem dX4_about_55 : decode cX4_about 55 = .ok (.ireturn, 1) := by decide +kernel
set_option maxRecDepth 20000 in
theorem ggX4_first_X3_firstWith : GoodIn wsX4_first wsX3_firstWith := goodIn_r _ [6, 7, 8, 9, 10, 5, 11, 12, 13, 14, 22, 23, 24, 25] (by decide +kernel) (by decide +kernel)
set_option maxRecDepth 20000 in
theorem gX4_first_X3_firstWith : GoodIn wsX4_first (wsV RX4 99 RX3 yX3_firstWith wsX3_firstWith) := goodIn_app (goodIn_of _ (by decide +kernel)) ggX4_first_X3_firstWith
theorem dX4_first_0 : decode cX4_first 0 = .ok (.aload_n 0, 1) := by decide +kernel
theorem dX4_first_1 : decode cX4_first 1 = .ok (.getfield 19, 3) := by decide +kernel
theorem dX4_first_4 : decode cX4_first 4 = .ok (.iload_n 1, 1) := by decide +kernel
theorem dX4_first_5 : decode cX4_first 5 = .ok (.invokevirtual 99, 3) := by decide +kernel
theorem dX4_first_8 : decode cX4_first 8 = .ok (.ireturn, 1) := by decide +kernel
set_option maxRecDepth 20000 in
theorem ggX4_row_X3_rowUpTo : GoodIn wsX4_row wsX3_rowUpTo := goodIn_r _ [6, 7, 8, 9, 10, 5, 11, 12, 13, 14, 22, 23, 24, 25] (by decide +kernel) (by decide +kernel)
set_option maxRecDepth 20000 in
theorem gX4_row_X3_rowUpTo : GoodIn wsX4_row (wsV RX4 102 RX3 yX3_rowUpTo wsX3_rowUpTo) := goodIn_app (goodIn_of _ (by decide +kernel)) ggX4_row_X3_rowUpTo
theorem dX4_row_0 : decode cX4_row 0 = .ok (.aload_n 0, 1) := by decide +kernel
theorem dX4_row_1 : decode cX4_row 1 = .ok (.getfield 19, 3) := by decide +kernel
theorem dX4_row_4 : decode cX4_row 4 = .ok (.iload_n 1, 1) := by decide +kernel
theorem dX4_row_5 : decode cX4_row 5 = .ok (.invokevirtual 102, 3) := by decide +kernel
theorem dX4_row_8 : decode cX4_row 8 = .ok (.ireturn, 1) := by decide +kernel
set_option maxRecDepth 20000 in
theorem ggX4_rest_X3_giveRest : GoodIn wsX4_rest wsX3_giveRest := goodIn_r _ [6, 7, 15, 16, 17, 18] (by decide +kernel) (by decide +kernel)
set_option maxRecDepth 20000 in
theorem gX4_rest_X3_giveRest : GoodIn wsX4_rest (wsV RX4 105 RX3 yX3_giveRest wsX3_giveRest) := goodIn_app (goodIn_of _ (by decide +kernel)) ggX4_rest_X3_giveRest
theorem dX4_rest_0 : decode cX4_rest 0 = .ok (.aload_n 0, 1) := by decide +kernel
theorem dX4_rest_1 : decode cX4_rest 1 = .ok (.getfield 19, 3) := by decide +kernel
theorem dX4_rest_4 : decode cX4_rest 4 = .ok (.invokevirtual 105, 3) := by decide +kernel
theorem dX4_rest_7 : decode cX4_rest 7 = .ok (.ireturn, 1) := by decide +kernel
set_option maxRecDepth 20000 in
theorem ggX4_goods_X3_inAll : GoodIn wsX4_goods wsX3_inAll := goodIn_r _ [6, 7, 8, 9, 5, 10, 11, 12, 13, 14, 15, 16, 17, 18, 26, 27, 28, 29] (by decide +kernel) (by decide +kernel)
set_option maxRecDepth 20000 in
theorem gX4_goods_X3_inAll : GoodIn wsX4_goods (wsV RX4 108 RX3 yX3_inAll wsX3_inAll) := goodIn_app (goodIn_of _ (by decide +kernel)) ggX4_goods_X3_inAll
theorem dX4_goods_0 : decode cX4_goods 0 = .ok (.aload_n 0, 1) := by decide +kernel
theorem dX4_goods_1 : decode cX4_goods 1 = .ok (.getfield 19, 3) := by decide +kernel
theorem dX4_goods_4 : decode cX4_goods 4 = .ok (.invokevirtual 108, 3) := by decide +kernel
theorem dX4_goods_7 : decode cX4_goods 7 = .ok (.ireturn, 1) := by decide +kernel
set_option maxRecDepth 20000 in
theorem ggX4_doActs_X1_size : GoodIn wsX4_doActs wsX1_size := goodIn_r _ [10, 11, 219, 220] (by decide +kernel) (by decide +kernel)
set_option maxRecDepth 20000 in
theorem gX4_doActs_X1_size : GoodIn wsX4_doActs (wsV RX4 111 RX1 yX1_size wsX1_size) := goodIn_app (goodIn_of _ (by decide +kernel)) ggX4_doActs_X1_size
set_option maxRecDepth 20000 in
theorem ggX4_doActs_X4_leaveCall : GoodIn wsX4_doActs wsX4_leaveCall := goodIn_r _ [16, 17, 3, 1, 4, 18, 19, 20, 21, 22, 23, 24, 25, 26, 27, 28, 29, 30, 31, 32, 33, 212, 213, 214, 215, 216, 217, 218, 221, 222, 223, 224] (by decide +kernel) (by decide +kernel)
set_option maxRecDepth 20000 in
theorem gX4_doActs_X4_leaveCall : GoodIn wsX4_doActs (wsV RX4 114 RX4 yX4_leaveCall wsX4_leaveCall) := goodIn_app (goodIn_of _ (by decide +kernel)) ggX4_doActs_X4_leaveCall
set_option maxRecDepth 20000 in
theorem ggX4_doActs_X2_steps : GoodIn wsX4_doActs wsX2_steps := goodIn_r _ [38, 39, 225, 226, 227, 228, 229, 230, 231, 232, 233, 234] (by decide +kernel) (by decide +kernel)
set_option maxRecDepth 20000 in
theorem gX4_doActs_X2_steps : GoodIn wsX4_doActs (wsV RX4 117 RX2 yX2_steps wsX2_steps) := goodIn_app (goodIn_of _ (by decide +kernel)) ggX4_doActs_X2_steps
set_option maxRecDepth 20000 in
theorem ggX4_doActs_X4_stop : GoodIn wsX4_doActs wsX4_stop := goodIn_r _ [43, 5, 3, 1, 44, 45, 46, 37, 47, 48, 49, 50, 51, 52, 53, 15, 54, 17, 55, 56, 57, 21, 58, 23, 59, 60, 61, 62, 63, 12, 13, 14, 16, 4, 18, 19, 20, 22, 24, 25, 26, 27, 28, 29, 30, 31, 32, 33, 64, 65, 66, 67, 68, 69, 70, 71, 72, 73, 74, 75, 76, 77, 78, 79, 80, 81, 82, 83, 84, 85, 86, 87, 88, 89, 90, 91, 92, 93, 94, 95, 96, 97, 98, 99, 100, 212, 213, 214, 215, 216, 217, 218, 225, 226, 227, 228, 229, 230, 231, 232, 233, 234, 221, 222, 223, 224, 235, 236, 237, 238] (by decide +kernel) (by decide +kernel)
set_option maxRecDepth 20000 in
theorem gX4_doActs_X4_stop : GoodIn wsX4_doActs (wsV RX4 120 RX4 yX4_stop wsX4_stop) := goodIn_app (goodIn_of _ (by decide +kernel)) ggX4_doActs_X4_stop
set_option maxRecDepth 20000 in
theorem ggX4_doActs_X4_doStep : GoodIn wsX4_doActs wsX4_doStep := goodIn_r _ [104, 3, 1, 5, 2, 105, 106, 107, 37, 108, 39, 109, 110, 111, 15, 112, 17, 68, 113, 114, 115, 9, 116, 117, 118, 119, 120, 11, 121, 122, 123, 124, 125, 126, 127, 128, 129, 130, 131, 132, 133, 134, 135, 136, 72, 137, 75, 76, 138, 139, 140, 141, 142, 143, 144, 145, 146, 90, 147, 148, 149, 150, 151, 85, 152, 153, 154, 155, 156, 157, 158, 159, 21, 160, 23, 63, 24, 29, 161, 162, 163, 164, 165, 166, 167, 168, 169, 77, 78, 79, 80, 59, 60, 61, 62, 81, 82, 83, 84, 18, 19, 20, 22, 86, 87, 88, 89, 30, 31, 32, 33, 170, 171, 172, 173, 174, 175, 176, 177, 178, 179, 180, 181, 182, 183, 184, 185, 186, 187, 188, 189, 190, 191, 192, 193, 194, 195, 196, 197, 198, 199, 4, 200, 201, 202, 203, 204, 205, 206, 207, 208, 209, 210, 211, 51, 52, 53, 54, 55, 56, 57, 58, 12, 13, 14, 16, 25, 26, 27, 28, 64, 65, 66, 67, 69, 70, 71, 73, 74, 91, 92, 93, 94, 95, 96, 97, 98, 99, 100, 44, 45, 46, 47, 48, 49, 50, 212, 213, 214, 215, 216, 217, 218, 225, 226, 227, 228, 229, 230, 231, 232, 233, 234, 219, 220, 235, 236, 237, 238, 221, 222, 223, 224] (by decide +kernel) (by decide +kernel)
set_option maxRecDepth 20000 in
theorem gX4_doActs_X4_doStep : GoodIn wsX4_doActs (wsV RX4 123 RX4 yX4_doStep wsX4_doStep) := goodIn_app (goodIn_of _ (by decide +kernel)) ggX4_doActs_X4_doStep
theorem dX4_doActs_0 : decode cX4_doActs 0 = .ok (.iconst 0, 1) := by decide +kernel
theorem dX4_doActs_1 : decode cX4_doActs 1 = .ok (.istore_n 2, 1) := by decide +kernel
theorem dX4_doActs_2 : decode cX4_doActs 2 = .ok (.iload_n 2, 1) := by decide +kernel
theorem dX4_doActs_3 : decode cX4_doActs 3 = .ok (.sipush 128, 3) := by decide +kernel
theorem dX4_doActs_6 : decode cX4_doActs 6 = .ok (.if_icmp .gt 70, 3) := by decide +kernel
theorem dX4_doActs_9 : decode cX4_doActs 9 = .ok (.aload_n 0, 1) := by decide +kernel
theorem dX4_doActs_10 : decode cX4_doActs 10 = .ok (.getfield 74, 3) := by decide +kernel
theorem dX4_doActs_13 : decode cX4_doActs 13 = .ok (.aload_n 0, 1) := by decide +kernel
theorem dX4_doActs_14 : decode cX4_doActs 14 = .ok (.getfield 11, 3) := by decide +kernel
theorem dX4_doActs_17 : decode cX4_doActs 17 = .ok (.aload_n 0, 1) := by decide +kernel
theorem dX4_doActs_18 : decode cX4_doActs 18 = .ok (.getfield 70, 3) := by decide +kernel
theorem dX4_doActs_21 : decode cX4_doActs 21 = .ok (.aaload, 1) := by decide +kernel
theorem dX4_doActs_22 : decode cX4_doActs 22 = .ok (.invokevirtual 111, 3) := by decide +kernel
theorem dX4_doActs_25 : decode cX4_doActs 25 = .ok (.if_icmp .lt 20, 3) := by decide +kernel
theorem dX4_doActs_28 : decode cX4_doActs 28 = .ok (.aload_n 0, 1) := by decide +kernel
theorem dX4_doActs_29 : decode cX4_doActs 29 = .ok (.getfield 77, 3) := by decide +kernel
theorem dX4_doActs_32 : decode cX4_doActs 32 = .ok (.iconst 1, 1) := by decide +kernel
theorem dX4_doActs_33 : decode cX4_doActs 33 = .ok (.if_icmp .gt 5, 3) := by decide +kernel
theorem dX4_doActs_36 : decode cX4_doActs 36 = .ok (.iconst 0, 1) := by decide +kernel
theorem dX4_doActs_37 : decode cX4_doActs 37 = .ok (.ireturn, 1) := by decide +kernel
theorem dX4_doActs_38 : decode cX4_doActs 38 = .ok (.aload_n 0, 1) := by decide +kernel
theorem dX4_doActs_39 : decode cX4_doActs 39 = .ok (.invokevirtual 114, 3) := by decide +kernel
theorem dX4_doActs_42 : decode cX4_doActs 42 = .ok (.goto 28, 3) := by decide +kernel
theorem dX4_doActs_45 : decode cX4_doActs 45 = .ok (.aload_n 0, 1) := by decide +kernel
theorem dX4_doActs_46 : decode cX4_doActs 46 = .ok (.getfield 33, 3) := by decide +kernel
theorem dX4_doActs_49 : decode cX4_doActs 49 = .ok (.invokevirtual 117, 3) := by decide +kernel
theorem dX4_doActs_52 : decode cX4_doActs 52 = .ok (.iload_n 1, 1) := by decide +kernel
theorem dX4_doActs_53 : decode cX4_doActs 53 = .ok (.if_icmp .lt 8, 3) := by decide +kernel
theorem dX4_doActs_56 : decode cX4_doActs 56 = .ok (.aload_n 0, 1) := by decide +kernel
theorem dX4_doActs_57 : decode cX4_doActs 57 = .ok (.invokevirtual 120, 3) := by decide +kernel
theorem dX4_doActs_60 : decode cX4_doActs 60 = .ok (.ireturn, 1) := by decide +kernel
theorem dX4_doActs_61 : decode cX4_doActs 61 = .ok (.aload_n 0, 1) := by decide +kernel
theorem dX4_doActs_62 : decode cX4_doActs 62 = .ok (.invokevirtual 123, 3) := by decide +kernel
theorem dX4_doActs_65 : decode cX4_doActs 65 = .ok (.ifCond .ne 5, 3) := by decide +kernel
theorem dX4_doActs_68 : decode cX4_doActs 68 = .ok (.iconst 1, 1) := by decide +kernel
theorem dX4_doActs_69 : decode cX4_doActs 69 = .ok (.ireturn, 1) := by decide +kernel
theorem dX4_doActs_70 : decode cX4_doActs 70 = .ok (.iinc 2 1, 3) := by decide +kernel
theorem dX4_doActs_73 : decode cX4_doActs 73 = .ok (.goto (-71), 3) := by decide +kernel
theorem dX4_doActs_76 : decode cX4_doActs 76 = .ok (.iconst 0, 1) := by decide +kernel
theorem dX4_doActs_77 : decode cX4_doActs 77 = .ok (.ireturn, 1) := by decide +kernel
set_option maxRecDepth 20000 in
theorem ggX4_stop_X2_endAt : GoodIn wsX4_stop wsX2_endAt := goodIn_r _ [8, 9, 10, 11, 92, 93, 94, 95, 96, 97, 98, 99, 100, 101] (by decide +kernel) (by decide +kernel)
set_option maxRecDepth 20000 in
theorem gX4_stop_X2_endAt : GoodIn wsX4_stop (wsV RX4 126 RX2 yX2_endAt wsX2_endAt) := goodIn_app (goodIn_of _ (by decide +kernel)) ggX4_stop_X2_endAt
set_option maxRecDepth 20000 in
theorem ggX4_stop_X4_leaveOpen : GoodIn wsX4_stop wsX4_leaveOpen := goodIn_r _ [16, 17, 18, 19, 20, 21, 22, 23, 24, 25, 26, 27, 28, 29, 30, 31, 15, 32, 2, 3, 33, 34, 35, 36, 37, 38, 39, 40, 41, 42, 43, 44, 45, 46, 47, 48, 49, 50, 51, 52, 53, 54, 55, 56, 57, 58, 59, 60, 61, 62, 63, 64, 1, 65, 66, 67, 7, 68, 69, 70, 71, 72, 73, 74, 75, 76, 77, 78, 79, 80, 81, 82, 83, 84, 85, 86, 87, 88, 89, 90, 91, 102, 103, 104, 105, 106, 107, 108, 109, 92, 93, 94, 95, 96, 97, 98, 99, 100, 101] (by decide +kernel) (by decide +kernel)
set_option maxRecDepth 20000 in
theorem gX4_stop_X4_leaveOpen : GoodIn wsX4_stop (wsV RX4 130 RX4 yX4_leaveOpen wsX4_leaveOpen) := goodIn_app (goodIn_of _ (by decide +kernel)) ggX4_stop_X4_leaveOpen
theorem dX4_stop_0 : decode cX4_stop 0 = .ok (.aload_n 0, 1) := by decide +kernel
theorem dX4_stop_1 : decode cX4_stop 1 = .ok (.getfield 33, 3) := by decide +kernel
theorem dX4_stop_4 : decode cX4_stop 4 = .ok (.iconst 0, 1) := by decide +kernel
theorem dX4_stop_5 : decode cX4_stop 5 = .ok (.aload_n 0, 1) := by decide +kernel
theorem dX4_stop_6 : decode cX4_stop 6 = .ok (.getfield 70, 3) := by decide +kernel
theorem dX4_stop_9 : decode cX4_stop 9 = .ok (.aload_n 0, 1) := by decide +kernel
theorem dX4_stop_10 : decode cX4_stop 10 = .ok (.getfield 74, 3) := by decide +kernel
theorem dX4_stop_13 : decode cX4_stop 13 = .ok (.invokevirtual 126, 3) := by decide +kernel
theorem dX4_stop_16 : decode cX4_stop 16 = .ok (.aload_n 0, 1) := by decide +kernel
theorem dX4_stop_17 : decode cX4_stop 17 = .ok (.iconst 0, 1) := by decide +kernel
theorem dX4_stop_18 : decode cX4_stop 18 = .ok (.invokevirtual 130, 3) := by decide +kernel
theorem dX4_stop_21 : decode cX4_stop 21 = .ok (.pop, 1) := by decide +kernel
theorem dX4_stop_22 : decode cX4_stop 22 = .ok (.iconst 2, 1) := by decide +kernel
theorem dX4_stop_23 : decode cX4_stop 23 = .ok (.ireturn, 1) := by decide +kernel
set_option maxRecDepth 20000 in
theorem ggX4_doStep_X2_countStep : GoodIn wsX4_doStep wsX2_countStep := goodIn_r _ [9, 10, 203, 204, 205, 206, 207, 208, 209, 210, 211, 212] (by decide +kernel) (by decide +kernel)
set_option maxRecDepth 20000 in
theorem gX4_doStep_X2_countStep : GoodIn wsX4_doStep (wsV RX4 133 RX2 yX2_countStep wsX2_countStep) := goodIn_app (goodIn_of _ (by decide +kernel)) ggX4_doStep_X2_countStep
set_option maxRecDepth 20000 in
theorem ggX4_doStep_X4_doAct : GoodIn wsX4_doStep wsX4_doAct := goodIn_r _ [15, 16, 17, 18, 19, 20, 21, 22, 23, 24, 25, 26, 27, 28, 29, 30, 31, 32, 33, 34, 35, 36, 37, 38, 39, 14, 40, 3, 41, 42, 43, 44, 45, 46, 47, 48, 49, 50, 51, 52, 53, 54, 55, 56, 57, 58, 59, 60, 8, 61, 62, 63, 64, 65, 66, 67, 68, 69, 70, 71, 72, 73, 74, 75, 76, 77, 78, 79, 80, 81, 82, 83, 84, 85, 86, 87, 88, 89, 90, 91, 92, 93, 94, 95, 96, 97, 98, 99, 100, 101, 102, 103, 104, 105, 106, 107, 108, 109, 110, 111, 112, 113, 114, 115, 116, 117, 118, 119, 120, 121, 122, 123, 124, 125, 126, 127, 128, 129, 130, 131, 132, 133, 134, 135, 136, 137, 138, 139, 140, 141, 4, 1, 2, 142, 143, 144, 145, 146, 147, 148, 149, 150, 151, 152, 153, 196, 197, 198, 199, 200, 201, 202, 213, 214, 215, 216, 217, 218, 203, 204, 205, 206, 207, 208, 209, 210, 211, 212, 219, 220, 221, 222] (by decide +kernel) (by decide +kernel)
set_option maxRecDepth 20000 in
theorem gX4_doStep_X4_doAct : GoodIn wsX4_doStep (wsV RX4 136 RX4 yX4_doAct wsX4_doAct) := goodIn_app (goodIn_of _ (by decide +kernel)) ggX4_doStep_X4_doAct
set_option maxRecDepth 20000 in
theorem ggX4_doStep_X4_leaveOpen : GoodIn wsX4_doStep wsX4_leaveOpen := goodIn_r _ [157, 16, 158, 159, 160, 72, 161, 74, 91, 92, 93, 94, 75, 162, 163, 164, 14, 165, 1, 2, 141, 99, 100, 101, 102, 76, 166, 167, 168, 169, 77, 107, 108, 109, 110, 170, 171, 172, 173, 17, 174, 175, 176, 44, 177, 178, 46, 47, 87, 88, 89, 90, 3, 95, 96, 97, 8, 98, 63, 103, 104, 105, 106, 57, 179, 180, 181, 182, 183, 184, 185, 186, 187, 188, 196, 197, 198, 199, 200, 201, 202, 219, 220, 221, 222, 215, 216, 217, 218, 203, 204, 205, 206, 207, 208, 209, 210, 211, 212] (by decide +kernel) (by decide +kernel)
set_option maxRecDepth 20000 in
theorem gX4_doStep_X4_leaveOpen : GoodIn wsX4_doStep (wsV RX4 130 RX4 yX4_leaveOpen wsX4_leaveOpen) := goodIn_app (goodIn_of _ (by decide +kernel)) ggX4_doStep_X4_leaveOpen
set_option maxRecDepth 20000 in
theorem ggX4_doStep_X2_endAt : GoodIn wsX4_doStep wsX2_endAt := goodIn_r _ [192, 193, 194, 195, 203, 204, 205, 206, 207, 208, 209, 210, 211, 212] (by decide +kernel) (by decide +kernel)
set_option maxRecDepth 20000 in
theorem gX4_doStep_X2_endAt : GoodIn wsX4_doStep (wsV RX4 126 RX2 yX2_endAt wsX2_endAt) := goodIn_app (goodIn_of _ (by decide +kernel)) ggX4_doStep_X2_endAt
theorem dX4_doStep_0 : decode cX4_doStep 0 = .ok (.aload_n 0, 1) := by decide +kernel
theorem dX4_doStep_1 : decode cX4_doStep 1 = .ok (.getfield 70, 3) := by decide +kernel
theorem dX4_doStep_4 : decode cX4_doStep 4 = .ok (.istore_n 1, 1) := by decide +kernel
theorem dX4_doStep_5 : decode cX4_doStep 5 = .ok (.aload_n 0, 1) := by decide +kernel
theorem dX4_doStep_6 : decode cX4_doStep 6 = .ok (.getfield 74, 3) := by decide +kernel
theorem dX4_doStep_9 : decode cX4_doStep 9 = .ok (.istore_n 2, 1) := by decide +kernel
theorem dX4_doStep_10 : decode cX4_doStep 10 = .ok (.aload_n 0, 1) := by decide +kernel
theorem dX4_doStep_11 : decode cX4_doStep 11 = .ok (.dup, 1) := by decide +kernel
theorem dX4_doStep_12 : decode cX4_doStep 12 = .ok (.getfield 74, 3) := by decide +kernel
theorem dX4_doStep_15 : decode cX4_doStep 15 = .ok (.iconst 1, 1) := by decide +kernel
theorem dX4_doStep_16 : decode cX4_doStep 16 = .ok (.iadd, 1) := by decide +kernel
theorem dX4_doStep_17 : decode cX4_doStep 17 = .ok (.putfield 74, 3) := by decide +kernel
theorem dX4_doStep_20 : decode cX4_doStep 20 = .ok (.aload_n 0, 1) := by decide +kernel
theorem dX4_doStep_21 : decode cX4_doStep 21 = .ok (.getfield 33, 3) := by decide +kernel
theorem dX4_doStep_24 : decode cX4_doStep 24 = .ok (.invokevirtual 133, 3) := by decide +kernel
theorem dX4_doStep_27 : decode cX4_doStep 27 = .ok (.aload_n 0, 1) := by decide +kernel
theorem dX4_doStep_28 : decode cX4_doStep 28 = .ok (.aload_n 0, 1) := by decide +kernel
theorem dX4_doStep_29 : decode cX4_doStep 29 = .ok (.getfield 11, 3) := by decide +kernel
theorem dX4_doStep_32 : decode cX4_doStep 32 = .ok (.iload_n 1, 1) := by decide +kernel
theorem dX4_doStep_33 : decode cX4_doStep 33 = .ok (.aaload, 1) := by decide +kernel
theorem dX4_doStep_34 : decode cX4_doStep 34 = .ok (.iload_n 2, 1) := by decide +kernel
theorem dX4_doStep_35 : decode cX4_doStep 35 = .ok (.invokevirtual 136, 3) := by decide +kernel
theorem dX4_doStep_38 : decode cX4_doStep 38 = .ok (.istore_n 3, 1) := by decide +kernel
theorem dX4_doStep_39 : decode cX4_doStep 39 = .ok (.iload_n 3, 1) := by decide +kernel
theorem dX4_doStep_40 : decode cX4_doStep 40 = .ok (.ifCond .eq 11, 3) := by decide +kernel
theorem dX4_doStep_43 : decode cX4_doStep 43 = .ok (.aload_n 0, 1) := by decide +kernel
theorem dX4_doStep_44 : decode cX4_doStep 44 = .ok (.iload_n 3, 1) := by decide +kernel
theorem dX4_doStep_45 : decode cX4_doStep 45 = .ok (.invokevirtual 130, 3) := by decide +kernel
theorem dX4_doStep_48 : decode cX4_doStep 48 = .ok (.ifCond .eq 5, 3) := by decide +kernel
theorem dX4_doStep_51 : decode cX4_doStep 51 = .ok (.iconst 1, 1) := by decide +kernel
theorem dX4_doStep_52 : decode cX4_doStep 52 = .ok (.ireturn, 1) := by decide +kernel
theorem dX4_doStep_53 : decode cX4_doStep 53 = .ok (.aload_n 0, 1) := by decide +kernel
theorem dX4_doStep_54 : decode cX4_doStep 54 = .ok (.getfield 33, 3) := by decide +kernel
theorem dX4_doStep_57 : decode cX4_doStep 57 = .ok (.iload_n 3, 1) := by decide +kernel
theorem dX4_doStep_58 : decode cX4_doStep 58 = .ok (.iload_n 1, 1) := by decide +kernel
theorem dX4_doStep_59 : decode cX4_doStep 59 = .ok (.iload_n 2, 1) := by decide +kernel
theorem dX4_doStep_60 : decode cX4_doStep 60 = .ok (.invokevirtual 126, 3) := by decide +kernel
theorem dX4_doStep_63 : decode cX4_doStep 63 = .ok (.iconst 0, 1) := by decide +kernel
theorem dX4_doStep_64 : decode cX4_doStep 64 = .ok (.ireturn, 1) := by decide +kernel
set_option maxRecDepth 20000 in
theorem ggX4_doAct_X1_aOf : GoodIn wsX4_doAct wsX1_aOf := goodIn_r _ [7, 8, 9, 10, 6, 11, 12, 13, 152, 153] (by decide +kernel) (by decide +kernel)
set_option maxRecDepth 20000 in
theorem gX4_doAct_X1_aOf : GoodIn wsX4_doAct (wsV RX4 140 RX1 yX1_aOf wsX1_aOf) := goodIn_app (goodIn_of _ (by decide +kernel)) ggX4_doAct_X1_aOf
set_option maxRecDepth 20000 in
theorem ggX4_doAct_X1_bOf : GoodIn wsX4_doAct wsX1_bOf := goodIn_r _ [17, 8, 9, 10, 6, 11, 12, 13, 152, 153] (by decide +kernel) (by decide +kernel)
set_option maxRecDepth 20000 in
theorem gX4_doAct_X1_bOf : GoodIn wsX4_doAct (wsV RX4 143 RX1 yX1_bOf wsX1_bOf) := goodIn_app (goodIn_of _ (by decide +kernel)) ggX4_doAct_X1_bOf
set_option maxRecDepth 20000 in
theorem ggX4_doAct_X1_kindOf : GoodIn wsX4_doAct wsX1_kindOf := goodIn_r _ [21, 8, 9, 10, 6, 11, 12, 13, 152, 153] (by decide +kernel) (by decide +kernel)
set_option maxRecDepth 20000 in
theorem gX4_doAct_X1_kindOf : GoodIn wsX4_doAct (wsV RX4 146 RX1 yX1_kindOf wsX1_kindOf) := goodIn_app (goodIn_of _ (by decide +kernel)) ggX4_doAct_X1_kindOf
set_option maxRecDepth 20000 in
theorem ggX4_doAct_X4_hold : GoodIn wsX4_doAct wsX4_hold := goodIn_r _ [26, 2, 27, 1, 28, 29, 30, 31, 32, 33, 25, 34, 35, 36, 37, 38, 39, 40, 41, 42, 43, 44, 45, 46, 47, 48, 49, 50, 51, 52, 53, 54, 55, 56, 57, 58, 59, 60, 61, 62, 63, 64, 65, 145, 146, 147, 148, 149, 150, 151, 154, 155, 156, 157, 158, 159, 160, 161, 162, 163, 164, 165, 166, 167, 168, 169, 170, 171] (by decide +kernel) (by decide +kernel)
set_option maxRecDepth 20000 in
theorem gX4_doAct_X4_hold : GoodIn wsX4_doAct (wsV RX4 149 RX4 yX4_hold wsX4_hold) := goodIn_app (goodIn_of _ (by decide +kernel)) ggX4_doAct_X4_hold
set_option maxRecDepth 20000 in
theorem ggX4_doAct_X1_behindBlock : GoodIn wsX4_doAct wsX1_behindBlock := goodIn_r _ [69, 12, 70, 71, 72, 6, 73, 74, 19, 20, 21, 8, 9, 10, 11, 13, 152, 153] (by decide +kernel) (by decide +kernel)
set_option maxRecDepth 20000 in
theorem gX4_doAct_X1_behindBlock : GoodIn wsX4_doAct (wsV RX4 152 RX1 yX1_behindBlock wsX1_behindBlock) := goodIn_app (goodIn_of _ (by decide +kernel)) ggX4_doAct_X1_behindBlock
set_option maxRecDepth 20000 in
theorem ggX4_doAct_X0_push : GoodIn wsX4_doAct wsX0_push := goodIn_r _ [61, 62, 63, 64, 65, 168, 169, 170, 171] (by decide +kernel) (by decide +kernel)
set_option maxRecDepth 20000 in
theorem gX4_doAct_X0_push : GoodIn wsX4_doAct (wsV RX4 155 RX0 yX0_push wsX0_push) := goodIn_app (goodIn_of _ (by decide +kernel)) ggX4_doAct_X0_push
set_option maxRecDepth 20000 in
theorem ggX4_doAct_X4_endBlock : GoodIn wsX4_doAct wsX4_endBlock := goodIn_r _ [78, 1, 27, 2, 79, 80, 81, 60, 82, 62, 63, 83, 84, 85, 48, 86, 51, 87, 88, 89, 90, 64, 91, 92, 93, 31, 94, 44, 33, 25, 34, 95, 96, 97, 98, 145, 146, 147, 148, 149, 150, 151, 168, 169, 170, 171, 158, 159, 160, 161, 162, 163, 164, 165, 166, 167, 154, 155, 156, 157] (by decide +kernel) (by decide +kernel)
set_option maxRecDepth 20000 in
theorem gX4_doAct_X4_endBlock : GoodIn wsX4_doAct (wsV RX4 158 RX4 yX4_endBlock wsX4_endBlock) := goodIn_app (goodIn_of _ (by decide +kernel)) ggX4_doAct_X4_endBlock
set_option maxRecDepth 20000 in
theorem ggX4_doAct_X3_put : GoodIn wsX4_doAct wsX3_put := goodIn_r _ [102, 39, 103, 104, 105, 31, 106, 44, 107, 29, 30, 32, 33, 25, 34, 35, 36, 37, 38, 154, 155, 156, 157] (by decide +kernel) (by decide +kernel)
set_option maxRecDepth 20000 in
theorem gX4_doAct_X3_put : GoodIn wsX4_doAct (wsV RX4 161 RX3 yX3_put wsX3_put) := goodIn_app (goodIn_of _ (by decide +kernel)) ggX4_doAct_X3_put
set_option maxRecDepth 20000 in
theorem ggX4_doAct_X3_take : GoodIn wsX4_doAct wsX3_take := goodIn_r _ [111, 39, 103, 104, 105, 31, 106, 44, 107, 29, 30, 32, 33, 25, 34, 35, 36, 37, 38, 154, 155, 156, 157] (by decide +kernel) (by decide +kernel)
set_option maxRecDepth 20000 in
theorem gX4_doAct_X3_take : GoodIn wsX4_doAct (wsV RX4 164 RX3 yX3_take wsX3_take) := goodIn_app (goodIn_of _ (by decide +kernel)) ggX4_doAct_X3_take
set_option maxRecDepth 20000 in
theorem ggX4_doAct_X3_share : GoodIn wsX4_doAct wsX3_share := goodIn_r _ [115, 39, 116, 103, 104, 105, 31, 106, 44, 107, 29, 30, 32, 33, 25, 34, 35, 36, 37, 38, 154, 155, 156, 157] (by decide +kernel) (by decide +kernel)
set_option maxRecDepth 20000 in
theorem gX4_doAct_X3_share : GoodIn wsX4_doAct (wsV RX4 167 RX3 yX3_share wsX3_share) := goodIn_app (goodIn_of _ (by decide +kernel)) ggX4_doAct_X3_share
set_option maxRecDepth 20000 in
theorem ggX4_doAct_X1_cOf : GoodIn wsX4_doAct wsX1_cOf := goodIn_r _ [120, 8, 9, 10, 6, 11, 12, 13, 152, 153] (by decide +kernel) (by decide +kernel)
set_option maxRecDepth 20000 in
theorem gX4_doAct_X1_cOf : GoodIn wsX4_doAct (wsV RX4 170 RX1 yX1_cOf wsX1_cOf) := goodIn_app (goodIn_of _ (by decide +kernel)) ggX4_doAct_X1_cOf
set_option maxRecDepth 20000 in
theorem ggX4_doAct_X3_move : GoodIn wsX4_doAct wsX3_move := goodIn_r _ [124, 39, 33, 25, 34, 35, 36, 37, 31, 38, 154, 155, 156, 157] (by decide +kernel) (by decide +kernel)
set_option maxRecDepth 20000 in
theorem gX4_doAct_X3_move : GoodIn wsX4_doAct (wsV RX4 173 RX3 yX3_move wsX3_move) := goodIn_app (goodIn_of _ (by decide +kernel)) ggX4_doAct_X3_move
set_option maxRecDepth 20000 in
theorem ggX4_doAct_X4_call : GoodIn wsX4_doAct wsX4_call := goodIn_r _ [128, 129, 130, 27, 1, 131, 132, 133, 134, 25, 135, 136, 137, 138, 6, 139, 12, 70, 71, 72, 73, 74, 19, 20, 21, 8, 9, 10, 11, 13, 140, 141, 142, 48, 143, 144, 57, 58, 59, 60, 61, 62, 63, 64, 65, 145, 146, 147, 148, 149, 150, 151, 152, 153, 158, 159, 160, 161, 162, 163, 164, 165, 166, 167, 168, 169, 170, 171] (by decide +kernel) (by decide +kernel)
set_option maxRecDepth 20000 in
theorem gX4_doAct_X4_call : GoodIn wsX4_doAct (wsV RX4 177 RX4 yX4_call wsX4_call) := goodIn_app (goodIn_of _ (by decide +kernel)) ggX4_doAct_X4_call
theorem dX4_doAct_0 : decode cX4_doAct 0 = .ok (.aload_n 1, 1) := by decide +kernel
theorem dX4_doAct_1 : decode cX4_doAct 1 = .ok (.iload_n 2, 1) := by decide +kernel
theorem dX4_doAct_2 : decode cX4_doAct 2 = .ok (.invokevirtual 140, 3) := by decide +kernel
theorem dX4_doAct_5 : decode cX4_doAct 5 = .ok (.istore_n 3, 1) := by decide +kernel
theorem dX4_doAct_6 : decode cX4_doAct 6 = .ok (.aload_n 1, 1) := by decide +kernel
theorem dX4_doAct_7 : decode cX4_doAct 7 = .ok (.iload_n 2, 1) := by decide +kernel
theorem dX4_doAct_8 : decode cX4_doAct 8 = .ok (.invokevirtual 143, 3) := by decide +kernel
theorem dX4_doAct_11 : decode cX4_doAct 11 = .ok (.istore 4, 2) := by decide +kernel
theorem dX4_doAct_13 : decode cX4_doAct 13 = .ok (.aload_n 1, 1) := by decide +kernel
theorem dX4_doAct_14 : decode cX4_doAct 14 = .ok (.iload_n 2, 1) := by decide +kernel
theorem dX4_doAct_15 : decode cX4_doAct 15 = .ok (.invokevirtual 146, 3) := by decide +kernel
theorem dX4_doAct_18 : decode cX4_doAct 18 = .ok (.tableswitch 134 0 8 #[50, 56, 72, 77, 88, 99, 110, 126, 128], 50) := by decide +kernel
theorem dX4_doAct_68 : decode cX4_doAct 68 = .ok (.aload_n 0, 1) := by decide +kernel
theorem dX4_doAct_69 : decode cX4_doAct 69 = .ok (.iload_n 3, 1) := by decide +kernel
theorem dX4_doAct_70 : decode cX4_doAct 70 = .ok (.invokevirtual 149, 3) := by decide +kernel
theorem dX4_doAct_73 : decode cX4_doAct 73 = .ok (.ireturn, 1) := by decide +kernel
theorem dX4_doAct_74 : decode cX4_doAct 74 = .ok (.aload_n 0, 1) := by decide +kernel
theorem dX4_doAct_75 : decode cX4_doAct 75 = .ok (.getfield 26, 3) := by decide +kernel
theorem dX4_doAct_78 : decode cX4_doAct 78 = .ok (.iconst 1, 1) := by decide +kernel
theorem dX4_doAct_79 : decode cX4_doAct 79 = .ok (.iload_n 3, 1) := by decide +kernel
theorem dX4_doAct_80 : decode cX4_doAct 80 = .ok (.aload_n 1, 1) := by decide +kernel
theorem dX4_doAct_81 : decode cX4_doAct 81 = .ok (.iload_n 2, 1) := by decide +kernel
theorem dX4_doAct_82 : decode cX4_doAct 82 = .ok (.invokevirtual 152, 3) := by decide +kernel
theorem dX4_doAct_85 : decode cX4_doAct 85 = .ok (.invokevirtual 155, 3) := by decide +kernel
theorem dX4_doAct_88 : decode cX4_doAct 88 = .ok (.iconst 0, 1) := by decide +kernel
theorem dX4_doAct_89 : decode cX4_doAct 89 = .ok (.ireturn, 1) := by decide +kernel
theorem dX4_doAct_90 : decode cX4_doAct 90 = .ok (.aload_n 0, 1) := by decide +kernel
theorem dX4_doAct_91 : decode cX4_doAct 91 = .ok (.invokevirtual 158, 3) := by decide +kernel
theorem dX4_doAct_94 : decode cX4_doAct 94 = .ok (.ireturn, 1) := by decide +kernel
theorem dX4_doAct_95 : decode cX4_doAct 95 = .ok (.aload_n 0, 1) := by decide +kernel
theorem dX4_doAct_96 : decode cX4_doAct 96 = .ok (.getfield 19, 3) := by decide +kernel
theorem dX4_doAct_99 : decode cX4_doAct 99 = .ok (.iload_n 3, 1) := by decide +kernel
theorem dX4_doAct_100 : decode cX4_doAct 100 = .ok (.iload 4, 2) := by decide +kernel
theorem dX4_doAct_102 : decode cX4_doAct 102 = .ok (.invokevirtual 161, 3) := by decide +kernel
theorem dX4_doAct_105 : decode cX4_doAct 105 = .ok (.ireturn, 1) := by decide +kernel
theorem dX4_doAct_106 : decode cX4_doAct 106 = .ok (.aload_n 0, 1) := by decide +kernel
theorem dX4_doAct_107 : decode cX4_doAct 107 = .ok (.getfield 19, 3) := by decide +kernel
theorem dX4_doAct_110 : decode cX4_doAct 110 = .ok (.iload_n 3, 1) := by decide +kernel
theorem dX4_doAct_111 : decode cX4_doAct 111 = .ok (.iload 4, 2) := by decide +kernel
theorem dX4_doAct_113 : decode cX4_doAct 113 = .ok (.invokevirtual 164, 3) := by decide +kernel
theorem dX4_doAct_116 : decode cX4_doAct 116 = .ok (.ireturn, 1) := by decide +kernel
theorem dX4_doAct_117 : decode cX4_doAct 117 = .ok (.aload_n 0, 1) := by decide +kernel
theorem dX4_doAct_118 : decode cX4_doAct 118 = .ok (.getfield 19, 3) := by decide +kernel
theorem dX4_doAct_121 : decode cX4_doAct 121 = .ok (.iload_n 3, 1) := by decide +kernel
theorem dX4_doAct_122 : decode cX4_doAct 122 = .ok (.iload 4, 2) := by decide +kernel
theorem dX4_doAct_124 : decode cX4_doAct 124 = .ok (.invokevirtual 167, 3) := by decide +kernel
theorem dX4_doAct_127 : decode cX4_doAct 127 = .ok (.ireturn, 1) := by decide +kernel
theorem dX4_doAct_128 : decode cX4_doAct 128 = .ok (.aload_n 0, 1) := by decide +kernel
theorem dX4_doAct_129 : decode cX4_doAct 129 = .ok (.getfield 19, 3) := by decide +kernel
theorem dX4_doAct_132 : decode cX4_doAct 132 = .ok (.iload_n 3, 1) := by decide +kernel
theorem dX4_doAct_133 : decode cX4_doAct 133 = .ok (.iload 4, 2) := by decide +kernel
theorem dX4_doAct_135 : decode cX4_doAct 135 = .ok (.aload_n 1, 1) := by decide +kernel
theorem dX4_doAct_136 : decode cX4_doAct 136 = .ok (.iload_n 2, 1) := by decide +kernel
theorem dX4_doAct_137 : decode cX4_doAct 137 = .ok (.invokevirtual 170, 3) := by decide +kernel
theorem dX4_doAct_140 : decode cX4_doAct 140 = .ok (.invokevirtual 173, 3) := by decide +kernel
theorem dX4_doAct_143 : decode cX4_doAct 143 = .ok (.ireturn, 1) := by decide +kernel
theorem dX4_doAct_144 : decode cX4_doAct 144 = .ok (.iload_n 3, 1) := by decide +kernel
theorem dX4_doAct_145 : decode cX4_doAct 145 = .ok (.ireturn, 1) := by decide +kernel
theorem dX4_doAct_146 : decode cX4_doAct 146 = .ok (.aload_n 0, 1) := by decide +kernel
theorem dX4_doAct_147 : decode cX4_doAct 147 = .ok (.iload_n 3, 1) := by decide +kernel
theorem dX4_doAct_148 : decode cX4_doAct 148 = .ok (.invokevirtual 177, 3) := by decide +kernel
theorem dX4_doAct_151 : decode cX4_doAct 151 = .ok (.ireturn, 1) := by decide +kernel
theorem dX4_doAct_152 : decode cX4_doAct 152 = .ok (.iconst 0, 1) := by decide +kernel
theorem dX4_doAct_153 : decode cX4_doAct 153 = .ok (.ireturn, 1) := by decide +kernel
set_option maxRecDepth 20000 in
theorem ggX4_hold_X3_missing : GoodIn wsX4_hold wsX3_missing := goodIn_r _ [8, 9, 10, 11, 12, 13, 14, 7, 15, 16, 50, 51, 52, 53] (by decide +kernel) (by decide +kernel)
set_option maxRecDepth 20000 in
theorem gX4_hold_X3_missing : GoodIn wsX4_hold (wsV RX4 180 RX3 yX3_missing wsX3_missing) := goodIn_app (goodIn_of _ (by decide +kernel)) ggX4_hold_X3_missing
set_option maxRecDepth 20000 in
theorem ggX4_hold_X3_holdOnce : GoodIn wsX4_hold wsX3_holdOnce := goodIn_r _ [20, 21, 9, 10, 11, 50, 51, 52, 53] (by decide +kernel) (by decide +kernel)
set_option maxRecDepth 20000 in
theorem gX4_hold_X3_holdOnce : GoodIn wsX4_hold (wsV RX4 183 RX3 yX3_holdOnce wsX3_holdOnce) := goodIn_app (goodIn_of _ (by decide +kernel)) ggX4_hold_X3_holdOnce
set_option maxRecDepth 20000 in
theorem ggX4_hold_X2_openHold : GoodIn wsX4_hold wsX2_openHold := goodIn_r _ [26, 27, 28, 29, 30, 31, 32, 33, 54, 55, 56, 57, 58, 59, 60, 61, 62, 63] (by decide +kernel) (by decide +kernel)
set_option maxRecDepth 20000 in
theorem gX4_hold_X2_openHold : GoodIn wsX4_hold (wsV RX4 187 RX2 yX2_openHold wsX2_openHold) := goodIn_app (goodIn_of _ (by decide +kernel)) ggX4_hold_X2_openHold
set_option maxRecDepth 20000 in
theorem ggX4_hold_X0_push : GoodIn wsX4_hold wsX0_push := goodIn_r _ [38, 39, 40, 41, 42, 64, 65, 66, 67] (by decide +kernel) (by decide +kernel)
set_option maxRecDepth 20000 in
theorem gX4_hold_X0_push : GoodIn wsX4_hold (wsV RX4 155 RX0 yX0_push wsX0_push) := goodIn_app (goodIn_of _ (by decide +kernel)) ggX4_hold_X0_push
theorem dX4_hold_0 : decode cX4_hold 0 = .ok (.aload_n 0, 1) := by decide +kernel
theorem dX4_hold_1 : decode cX4_hold 1 = .ok (.getfield 19, 3) := by decide +kernel
theorem dX4_hold_4 : decode cX4_hold 4 = .ok (.iload_n 1, 1) := by decide +kernel
theorem dX4_hold_5 : decode cX4_hold 5 = .ok (.invokevirtual 180, 3) := by decide +kernel
theorem dX4_hold_8 : decode cX4_hold 8 = .ok (.istore_n 2, 1) := by decide +kernel
theorem dX4_hold_9 : decode cX4_hold 9 = .ok (.iload_n 2, 1) := by decide +kernel
theorem dX4_hold_10 : decode cX4_hold 10 = .ok (.ifCond .eq 5, 3) := by decide +kernel
theorem dX4_hold_13 : decode cX4_hold 13 = .ok (.iload_n 2, 1) := by decide +kernel
theorem dX4_hold_14 : decode cX4_hold 14 = .ok (.ireturn, 1) := by decide +kernel
theorem dX4_hold_15 : decode cX4_hold 15 = .ok (.aload_n 0, 1) := by decide +kernel
theorem dX4_hold_16 : decode cX4_hold 16 = .ok (.getfield 19, 3) := by decide +kernel
theorem dX4_hold_19 : decode cX4_hold 19 = .ok (.iload_n 1, 1) := by decide +kernel
theorem dX4_hold_20 : decode cX4_hold 20 = .ok (.invokevirtual 183, 3) := by decide +kernel
theorem dX4_hold_23 : decode cX4_hold 23 = .ok (.aload_n 0, 1) := by decide +kernel
theorem dX4_hold_24 : decode cX4_hold 24 = .ok (.getfield 33, 3) := by decide +kernel
theorem dX4_hold_27 : decode cX4_hold 27 = .ok (.invokevirtual 187, 3) := by decide +kernel
theorem dX4_hold_30 : decode cX4_hold 30 = .ok (.aload_n 0, 1) := by decide +kernel
theorem dX4_hold_31 : decode cX4_hold 31 = .ok (.getfield 26, 3) := by decide +kernel
theorem dX4_hold_34 : decode cX4_hold 34 = .ok (.iconst 0, 1) := by decide +kernel
theorem dX4_hold_35 : decode cX4_hold 35 = .ok (.iload_n 1, 1) := by decide +kernel
theorem dX4_hold_36 : decode cX4_hold 36 = .ok (.iconst 0, 1) := by decide +kernel
theorem dX4_hold_37 : decode cX4_hold 37 = .ok (.invokevirtual 155, 3) := by decide +kernel
theorem dX4_hold_40 : decode cX4_hold 40 = .ok (.iconst 0, 1) := by decide +kernel
theorem dX4_hold_41 : decode cX4_hold 41 = .ok (.ireturn, 1) := by decide +kernel
set_option maxRecDepth 20000 in
theorem ggX4_endBlock_X0_kind : GoodIn wsX4_endBlock wsX0_kind := goodIn_r _ [8, 9, 10, 42, 43, 44, 45] (by decide +kernel) (by decide +kernel)
set_option maxRecDepth 20000 in
theorem gX4_endBlock_X0_kind : GoodIn wsX4_endBlock (wsV RX4 190 RX0 yX0_kind wsX0_kind) := goodIn_app (goodIn_of _ (by decide +kernel)) ggX4_endBlock_X0_kind
set_option maxRecDepth 20000 in
theorem ggX4_endBlock_X2_closeHold : GoodIn wsX4_endBlock wsX2_closeHold := goodIn_r _ [15, 16, 46, 47, 48, 49, 50, 51, 52, 53, 54, 55] (by decide +kernel) (by decide +kernel)
set_option maxRecDepth 20000 in
theorem gX4_endBlock_X2_closeHold : GoodIn wsX4_endBlock (wsV RX4 193 RX2 yX2_closeHold wsX2_closeHold) := goodIn_app (goodIn_of _ (by decide +kernel)) ggX4_endBlock_X2_closeHold
set_option maxRecDepth 20000 in
theorem ggX4_endBlock_X0_number : GoodIn wsX4_endBlock wsX0_number := goodIn_r _ [20, 9, 21, 42, 43, 44, 45] (by decide +kernel) (by decide +kernel)
set_option maxRecDepth 20000 in
theorem gX4_endBlock_X0_number : GoodIn wsX4_endBlock (wsV RX4 196 RX0 yX0_number wsX0_number) := goodIn_app (goodIn_of _ (by decide +kernel)) ggX4_endBlock_X0_number
set_option maxRecDepth 20000 in
theorem ggX4_endBlock_X3_release : GoodIn wsX4_endBlock wsX3_release := goodIn_r _ [26, 27, 28, 29, 30, 56, 57, 58, 59] (by decide +kernel) (by decide +kernel)
set_option maxRecDepth 20000 in
theorem gX4_endBlock_X3_release : GoodIn wsX4_endBlock (wsV RX4 198 RX3 yX3_release wsX3_release) := goodIn_app (goodIn_of _ (by decide +kernel)) ggX4_endBlock_X3_release
set_option maxRecDepth 20000 in
theorem ggX4_endBlock_X0_pop : GoodIn wsX4_endBlock wsX0_pop := goodIn_r _ [34, 9, 42, 43, 44, 45] (by decide +kernel) (by decide +kernel)
set_option maxRecDepth 20000 in
theorem gX4_endBlock_X0_pop : GoodIn wsX4_endBlock (wsV RX4 201 RX0 yX0_pop wsX0_pop) := goodIn_app (goodIn_of _ (by decide +kernel)) ggX4_endBlock_X0_pop
theorem dX4_endBlock_0 : decode cX4_endBlock 0 = .ok (.aload_n 0, 1) := by decide +kernel
theorem dX4_endBlock_1 : decode cX4_endBlock 1 = .ok (.getfield 26, 3) := by decide +kernel
theorem dX4_endBlock_4 : decode cX4_endBlock 4 = .ok (.invokevirtual 190, 3) := by decide +kernel
theorem dX4_endBlock_7 : decode cX4_endBlock 7 = .ok (.ifCond .ne 24, 3) := by decide +kernel
theorem dX4_endBlock_10 : decode cX4_endBlock 10 = .ok (.aload_n 0, 1) := by decide +kernel
theorem dX4_endBlock_11 : decode cX4_endBlock 11 = .ok (.getfield 33, 3) := by decide +kernel
theorem dX4_endBlock_14 : decode cX4_endBlock 14 = .ok (.invokevirtual 193, 3) := by decide +kernel
theorem dX4_endBlock_17 : decode cX4_endBlock 17 = .ok (.aload_n 0, 1) := by decide +kernel
theorem dX4_endBlock_18 : decode cX4_endBlock 18 = .ok (.getfield 19, 3) := by decide +kernel
theorem dX4_endBlock_21 : decode cX4_endBlock 21 = .ok (.aload_n 0, 1) := by decide +kernel
theorem dX4_endBlock_22 : decode cX4_endBlock 22 = .ok (.getfield 26, 3) := by decide +kernel
theorem dX4_endBlock_25 : decode cX4_endBlock 25 = .ok (.invokevirtual 196, 3) := by decide +kernel
theorem dX4_endBlock_28 : decode cX4_endBlock 28 = .ok (.invokevirtual 198, 3) := by decide +kernel
theorem dX4_endBlock_31 : decode cX4_endBlock 31 = .ok (.aload_n 0, 1) := by decide +kernel
theorem dX4_endBlock_32 : decode cX4_endBlock 32 = .ok (.getfield 26, 3) := by decide +kernel
theorem dX4_endBlock_35 : decode cX4_endBlock 35 = .ok (.invokevirtual 201, 3) := by decide +kernel
theorem dX4_endBlock_38 : decode cX4_endBlock 38 = .ok (.iconst 0, 1) := by decide +kernel
theorem dX4_endBlock_39 : decode cX4_endBlock 39 = .ok (.ireturn, 1) := by decide +kernel
set_option maxRecDepth 20000 in
theorem ggX4_call_X4_isPlan : GoodIn wsX4_call wsX4_isPlan := goodIn_r _ [10] (by decide +kernel) (by decide +kernel)
set_option maxRecDepth 20000 in
theorem gX4_call_X4_isPlan : GoodIn wsX4_call (va_wsS RX4 37 yX4_isPlan wsX4_isPlan) := goodIn_app (goodIn_of _ (by decide +kernel)) ggX4_call_X4_isPlan
set_option maxRecDepth 20000 in
theorem ggX4_call_X1_isClosed : GoodIn wsX4_call wsX1_isClosed := goodIn_r _ [15, 16, 17, 18, 19, 14, 20, 21, 22, 23, 24, 25, 26, 27, 28, 29, 52, 53] (by decide +kernel) (by decide +kernel)
set_option maxRecDepth 20000 in
theorem gX4_call_X1_isClosed : GoodIn wsX4_call (wsV RX4 56 RX1 yX1_isClosed wsX1_isClosed) := goodIn_app (goodIn_of _ (by decide +kernel)) ggX4_call_X1_isClosed
set_option maxRecDepth 20000 in
theorem ggX4_call_X2_countCall : GoodIn wsX4_call wsX2_countCall := goodIn_r _ [34, 35, 54, 55, 56, 57, 58, 59, 60, 61, 62, 63] (by decide +kernel) (by decide +kernel)
set_option maxRecDepth 20000 in
theorem gX4_call_X2_countCall : GoodIn wsX4_call (wsV RX4 204 RX2 yX2_countCall wsX2_countCall) := goodIn_app (goodIn_of _ (by decide +kernel)) ggX4_call_X2_countCall
set_option maxRecDepth 20000 in
theorem ggX4_call_X0_push : GoodIn wsX4_call wsX0_push := goodIn_r _ [40, 41, 42, 43, 44, 64, 65, 66, 67] (by decide +kernel) (by decide +kernel)
set_option maxRecDepth 20000 in
theorem gX4_call_X0_push : GoodIn wsX4_call (wsV RX4 155 RX0 yX0_push wsX0_push) := goodIn_app (goodIn_of _ (by decide +kernel)) ggX4_call_X0_push
theorem dX4_call_0 : decode cX4_call 0 = .ok (.iload_n 1, 1) := by decide +kernel
theorem dX4_call_1 : decode cX4_call 1 = .ok (.invokestatic 37, 3) := by decide +kernel
theorem dX4_call_4 : decode cX4_call 4 = .ok (.ifCond .eq 23, 3) := by decide +kernel
theorem dX4_call_7 : decode cX4_call 7 = .ok (.aload_n 0, 1) := by decide +kernel
theorem dX4_call_8 : decode cX4_call 8 = .ok (.getfield 77, 3) := by decide +kernel
theorem dX4_call_11 : decode cX4_call 11 = .ok (.iconst 5, 1) := by decide +kernel
theorem dX4_call_12 : decode cX4_call 12 = .ok (.if_icmp .ge 15, 3) := by decide +kernel
theorem dX4_call_15 : decode cX4_call 15 = .ok (.aload_n 0, 1) := by decide +kernel
theorem dX4_call_16 : decode cX4_call 16 = .ok (.getfield 11, 3) := by decide +kernel
theorem dX4_call_19 : decode cX4_call 19 = .ok (.iload_n 1, 1) := by decide +kernel
theorem dX4_call_20 : decode cX4_call 20 = .ok (.aaload, 1) := by decide +kernel
theorem dX4_call_21 : decode cX4_call 21 = .ok (.invokevirtual 56, 3) := by decide +kernel
theorem dX4_call_24 : decode cX4_call 24 = .ok (.ifCond .ne 6, 3) := by decide +kernel
theorem dX4_call_27 : decode cX4_call 27 = .ok (.bipush 6, 2) := by decide +kernel
theorem dX4_call_29 : decode cX4_call 29 = .ok (.ireturn, 1) := by decide +kernel
theorem dX4_call_30 : decode cX4_call 30 = .ok (.aload_n 0, 1) := by decide +kernel
theorem dX4_call_31 : decode cX4_call 31 = .ok (.getfield 33, 3) := by decide +kernel
theorem dX4_call_34 : decode cX4_call 34 = .ok (.invokevirtual 204, 3) := by decide +kernel
theorem dX4_call_37 : decode cX4_call 37 = .ok (.aload_n 0, 1) := by decide +kernel
theorem dX4_call_38 : decode cX4_call 38 = .ok (.getfield 26, 3) := by decide +kernel
theorem dX4_call_41 : decode cX4_call 41 = .ok (.bipush 8, 2) := by decide +kernel
theorem dX4_call_43 : decode cX4_call 43 = .ok (.aload_n 0, 1) := by decide +kernel
theorem dX4_call_44 : decode cX4_call 44 = .ok (.getfield 70, 3) := by decide +kernel
theorem dX4_call_47 : decode cX4_call 47 = .ok (.aload_n 0, 1) := by decide +kernel
theorem dX4_call_48 : decode cX4_call 48 = .ok (.getfield 74, 3) := by decide +kernel
theorem dX4_call_51 : decode cX4_call 51 = .ok (.invokevirtual 155, 3) := by decide +kernel
theorem dX4_call_54 : decode cX4_call 54 = .ok (.aload_n 0, 1) := by decide +kernel
theorem dX4_call_55 : decode cX4_call 55 = .ok (.iload_n 1, 1) := by decide +kernel
theorem dX4_call_56 : decode cX4_call 56 = .ok (.putfield 70, 3) := by decide +kernel
theorem dX4_call_59 : decode cX4_call 59 = .ok (.aload_n 0, 1) := by decide +kernel
theorem dX4_call_60 : decode cX4_call 60 = .ok (.iconst 0, 1) := by decide +kernel
theorem dX4_call_61 : decode cX4_call 61 = .ok (.putfield 74, 3) := by decide +kernel
theorem dX4_call_64 : decode cX4_call 64 = .ok (.aload_n 0, 1) := by decide +kernel
theorem dX4_call_65 : decode cX4_call 65 = .ok (.dup, 1) := by decide +kernel
theorem dX4_call_66 : decode cX4_call 66 = .ok (.getfield 77, 3) := by decide +kernel
theorem dX4_call_69 : decode cX4_call 69 = .ok (.iconst 1, 1) := by decide +kernel
theorem dX4_call_70 : decode cX4_call 70 = .ok (.iadd, 1) := by decide +kernel
theorem dX4_call_71 : decode cX4_call 71 = .ok (.putfield 77, 3) := by decide +kernel
theorem dX4_call_74 : decode cX4_call 74 = .ok (.iconst 0, 1) := by decide +kernel
theorem dX4_call_75 : decode cX4_call 75 = .ok (.ireturn, 1) := by decide +kernel
set_option maxRecDepth 20000 in
theorem ggX4_leaveCall_X0_number : GoodIn wsX4_leaveCall wsX0_number := goodIn_r _ [9, 10, 11, 28, 29, 30, 31] (by decide +kernel) (by decide +kernel)
set_option maxRecDepth 20000 in
theorem gX4_leaveCall_X0_number : GoodIn wsX4_leaveCall (wsV RX4 196 RX0 yX0_number wsX0_number) := goodIn_app (goodIn_of _ (by decide +kernel)) ggX4_leaveCall_X0_number
set_option maxRecDepth 20000 in
theorem ggX4_leaveCall_X0_behind : GoodIn wsX4_leaveCall wsX0_behind := goodIn_r _ [15, 10, 16, 28, 29, 30, 31] (by decide +kernel) (by decide +kernel)
set_option maxRecDepth 20000 in
theorem gX4_leaveCall_X0_behind : GoodIn wsX4_leaveCall (wsV RX4 207 RX0 yX0_behind wsX0_behind) := goodIn_app (goodIn_of _ (by decide +kernel)) ggX4_leaveCall_X0_behind
set_option maxRecDepth 20000 in
theorem ggX4_leaveCall_X0_pop : GoodIn wsX4_leaveCall wsX0_pop := goodIn_r _ [20, 10, 28, 29, 30, 31] (by decide +kernel) (by decide +kernel)
set_option maxRecDepth 20000 in
theorem gX4_leaveCall_X0_pop : GoodIn wsX4_leaveCall (wsV RX4 201 RX0 yX0_pop wsX0_pop) := goodIn_app (goodIn_of _ (by decide +kernel)) ggX4_leaveCall_X0_pop
theorem dX4_leaveCall_0 : decode cX4_leaveCall 0 = .ok (.aload_n 0, 1) := by decide +kernel
theorem dX4_leaveCall_1 : decode cX4_leaveCall 1 = .ok (.aload_n 0, 1) := by decide +kernel
theorem dX4_leaveCall_2 : decode cX4_leaveCall 2 = .ok (.getfield 26, 3) := by decide +kernel
theorem dX4_leaveCall_5 : decode cX4_leaveCall 5 = .ok (.invokevirtual 196, 3) := by decide +kernel
theorem dX4_leaveCall_8 : decode cX4_leaveCall 8 = .ok (.putfield 70, 3) := by decide +kernel
theorem dX4_leaveCall_11 : decode cX4_leaveCall 11 = .ok (.aload_n 0, 1) := by decide +kernel
theorem dX4_leaveCall_12 : decode cX4_leaveCall 12 = .ok (.aload_n 0, 1) := by decide +kernel
theorem dX4_leaveCall_13 : decode cX4_leaveCall 13 = .ok (.getfield 26, 3) := by decide +kernel
theorem dX4_leaveCall_16 : decode cX4_leaveCall 16 = .ok (.invokevirtual 207, 3) := by decide +kernel
theorem dX4_leaveCall_19 : decode cX4_leaveCall 19 = .ok (.putfield 74, 3) := by decide +kernel
theorem dX4_leaveCall_22 : decode cX4_leaveCall 22 = .ok (.aload_n 0, 1) := by decide +kernel
theorem dX4_leaveCall_23 : decode cX4_leaveCall 23 = .ok (.dup, 1) := by decide +kernel
theorem dX4_leaveCall_24 : decode cX4_leaveCall 24 = .ok (.getfield 77, 3) := by decide +kernel
theorem dX4_leaveCall_27 : decode cX4_leaveCall 27 = .ok (.iconst 1, 1) := by decide +kernel
theorem dX4_leaveCall_28 : decode cX4_leaveCall 28 = .ok (.isub, 1) := by decide +kernel
theorem dX4_leaveCall_29 : decode cX4_leaveCall 29 = .ok (.putfield 77, 3) := by decide +kernel
theorem dX4_leaveCall_32 : decode cX4_leaveCall 32 = .ok (.aload_n 0, 1) := by decide +kernel
theorem dX4_leaveCall_33 : decode cX4_leaveCall 33 = .ok (.getfield 26, 3) := by decide +kernel
theorem dX4_leaveCall_36 : decode cX4_leaveCall 36 = .ok (.invokevirtual 201, 3) := by decide +kernel
theorem dX4_leaveCall_39 : decode cX4_leaveCall 39 = .ok (.return_, 1) := by decide +kernel
set_option maxRecDepth 20000 in
theorem ggX4_leaveOpen_X0_size : GoodIn wsX4_leaveOpen wsX0_size := goodIn_r _ [6, 7, 81, 82, 83, 84] (by decide +kernel) (by decide +kernel)
set_option maxRecDepth 20000 in
theorem gX4_leaveOpen_X0_size : GoodIn wsX4_leaveOpen (wsV RX4 210 RX0 yX0_size wsX0_size) := goodIn_app (goodIn_of _ (by decide +kernel)) ggX4_leaveOpen_X0_size
set_option maxRecDepth 20000 in
theorem ggX4_leaveOpen_X0_kind : GoodIn wsX4_leaveOpen wsX0_kind := goodIn_r _ [11, 7, 12, 81, 82, 83, 84] (by decide +kernel) (by decide +kernel)
set_option maxRecDepth 20000 in
theorem gX4_leaveOpen_X0_kind : GoodIn wsX4_leaveOpen (wsV RX4 190 RX0 yX0_kind wsX0_kind) := goodIn_app (goodIn_of _ (by decide +kernel)) ggX4_leaveOpen_X0_kind
set_option maxRecDepth 20000 in
theorem ggX4_leaveOpen_X4_leaveCall : GoodIn wsX4_leaveOpen wsX4_leaveCall := goodIn_r _ [17, 1, 18, 19, 20, 21, 22, 23, 5, 24, 7, 25, 26, 27, 28, 29, 30, 31, 32, 33, 34, 74, 75, 76, 77, 78, 79, 80, 81, 82, 83, 84] (by decide +kernel) (by decide +kernel)
set_option maxRecDepth 20000 in
theorem gX4_leaveOpen_X4_leaveCall : GoodIn wsX4_leaveOpen (wsV RX4 114 RX4 yX4_leaveCall wsX4_leaveCall) := goodIn_app (goodIn_of _ (by decide +kernel)) ggX4_leaveOpen_X4_leaveCall
set_option maxRecDepth 20000 in
theorem ggX4_leaveOpen_X4_leaveHold : GoodIn wsX4_leaveOpen wsX4_leaveHold := goodIn_r _ [38, 39, 1, 21, 22, 23, 5, 24, 7, 25, 40, 41, 42, 43, 44, 45, 46, 16, 47, 48, 49, 50, 51, 52, 8, 9, 10, 11, 12, 53, 54, 55, 56, 57, 58, 59, 60, 61, 62, 63, 31, 32, 33, 34, 74, 75, 76, 77, 78, 79, 80, 81, 82, 83, 84, 85, 86, 87, 88, 89, 90, 91, 92, 93, 94, 95, 96, 97, 98] (by decide +kernel) (by decide +kernel)
set_option maxRecDepth 20000 in
theorem gX4_leaveOpen_X4_leaveHold : GoodIn wsX4_leaveOpen (wsV RX4 211 RX4 yX4_leaveHold wsX4_leaveHold) := goodIn_app (goodIn_of _ (by decide +kernel)) ggX4_leaveOpen_X4_leaveHold
set_option maxRecDepth 20000 in
theorem ggX4_leaveOpen_X4_leaveGuard : GoodIn wsX4_leaveOpen wsX4_leaveGuard := goodIn_r _ [67, 1, 52, 19, 21, 22, 23, 5, 24, 7, 25, 26, 27, 28, 29, 30, 31, 32, 33, 34, 68, 69, 70, 56, 71, 72, 73, 74, 75, 76, 77, 78, 79, 80, 81, 82, 83, 84, 89, 90, 91, 92, 93, 94, 95, 96, 97, 98] (by decide +kernel) (by decide +kernel)
set_option maxRecDepth 20000 in
theorem gX4_leaveOpen_X4_leaveGuard : GoodIn wsX4_leaveOpen (wsV RX4 214 RX4 yX4_leaveGuard wsX4_leaveGuard) := goodIn_app (goodIn_of _ (by decide +kernel)) ggX4_leaveOpen_X4_leaveGuard
theorem dX4_leaveOpen_0 : decode cX4_leaveOpen 0 = .ok (.aload_n 0, 1) := by decide +kernel
theorem dX4_leaveOpen_1 : decode cX4_leaveOpen 1 = .ok (.getfield 26, 3) := by decide +kernel
theorem dX4_leaveOpen_4 : decode cX4_leaveOpen 4 = .ok (.invokevirtual 210, 3) := by decide +kernel
theorem dX4_leaveOpen_7 : decode cX4_leaveOpen 7 = .ok (.istore_n 2, 1) := by decide +kernel
theorem dX4_leaveOpen_8 : decode cX4_leaveOpen 8 = .ok (.iload_n 2, 1) := by decide +kernel
theorem dX4_leaveOpen_9 : decode cX4_leaveOpen 9 = .ok (.ifCond .le 51, 3) := by decide +kernel
theorem dX4_leaveOpen_12 : decode cX4_leaveOpen 12 = .ok (.aload_n 0, 1) := by decide +kernel
theorem dX4_leaveOpen_13 : decode cX4_leaveOpen 13 = .ok (.getfield 26, 3) := by decide +kernel
theorem dX4_leaveOpen_16 : decode cX4_leaveOpen 16 = .ok (.invokevirtual 190, 3) := by decide +kernel
theorem dX4_leaveOpen_19 : decode cX4_leaveOpen 19 = .ok (.istore_n 3, 1) := by decide +kernel
theorem dX4_leaveOpen_20 : decode cX4_leaveOpen 20 = .ok (.iload_n 3, 1) := by decide +kernel
theorem dX4_leaveOpen_21 : decode cX4_leaveOpen 21 = .ok (.bipush 8, 2) := by decide +kernel
theorem dX4_leaveOpen_23 : decode cX4_leaveOpen 23 = .ok (.if_icmp .ne 10, 3) := by decide +kernel
theorem dX4_leaveOpen_26 : decode cX4_leaveOpen 26 = .ok (.aload_n 0, 1) := by decide +kernel
theorem dX4_leaveOpen_27 : decode cX4_leaveOpen 27 = .ok (.invokevirtual 114, 3) := by decide +kernel
theorem dX4_leaveOpen_30 : decode cX4_leaveOpen 30 = .ok (.goto 24, 3) := by decide +kernel
theorem dX4_leaveOpen_33 : decode cX4_leaveOpen 33 = .ok (.iload_n 3, 1) := by decide +kernel
theorem dX4_leaveOpen_34 : decode cX4_leaveOpen 34 = .ok (.ifCond .ne 10, 3) := by decide +kernel
theorem dX4_leaveOpen_37 : decode cX4_leaveOpen 37 = .ok (.aload_n 0, 1) := by decide +kernel
theorem dX4_leaveOpen_38 : decode cX4_leaveOpen 38 = .ok (.invokevirtual 211, 3) := by decide +kernel
theorem dX4_leaveOpen_41 : decode cX4_leaveOpen 41 = .ok (.goto 13, 3) := by decide +kernel
theorem dX4_leaveOpen_44 : decode cX4_leaveOpen 44 = .ok (.aload_n 0, 1) := by decide +kernel
theorem dX4_leaveOpen_45 : decode cX4_leaveOpen 45 = .ok (.iload_n 1, 1) := by decide +kernel
theorem dX4_leaveOpen_46 : decode cX4_leaveOpen 46 = .ok (.invokevirtual 214, 3) := by decide +kernel
theorem dX4_leaveOpen_49 : decode cX4_leaveOpen 49 = .ok (.ifCond .eq 5, 3) := by decide +kernel
theorem dX4_leaveOpen_52 : decode cX4_leaveOpen 52 = .ok (.iconst 1, 1) := by decide +kernel
theorem dX4_leaveOpen_53 : decode cX4_leaveOpen 53 = .ok (.ireturn, 1) := by decide +kernel
theorem dX4_leaveOpen_54 : decode cX4_leaveOpen 54 = .ok (.iinc 2 (-1), 3) := by decide +kernel
theorem dX4_leaveOpen_57 : decode cX4_leaveOpen 57 = .ok (.goto (-49), 3) := by decide +kernel
theorem dX4_leaveOpen_60 : decode cX4_leaveOpen 60 = .ok (.iconst 0, 1) := by decide +kernel
theorem dX4_leaveOpen_61 : decode cX4_leaveOpen 61 = .ok (.ireturn, 1) := by decide +kernel
set_option maxRecDepth 20000 in
theorem ggX4_leaveHold_X0_number : GoodIn wsX4_leaveHold wsX0_number := goodIn_r _ [7, 8, 9, 51, 52, 53, 54] (by decide +kernel) (by decide +kernel)
set_option maxRecDepth 20000 in
theorem gX4_leaveHold_X0_number : GoodIn wsX4_leaveHold (wsV RX4 196 RX0 yX0_number wsX0_number) := goodIn_app (goodIn_of _ (by decide +kernel)) ggX4_leaveHold_X0_number
set_option maxRecDepth 20000 in
theorem ggX4_leaveHold_X3_countLeft : GoodIn wsX4_leaveHold wsX3_countLeft := goodIn_r _ [14, 15, 16, 17, 18, 55, 56, 57, 58] (by decide +kernel) (by decide +kernel)
set_option maxRecDepth 20000 in
theorem gX4_leaveHold_X3_countLeft : GoodIn wsX4_leaveHold (wsV RX4 217 RX3 yX3_countLeft wsX3_countLeft) := goodIn_app (goodIn_of _ (by decide +kernel)) ggX4_leaveHold_X3_countLeft
set_option maxRecDepth 20000 in
theorem ggX4_leaveHold_X4_endBlock : GoodIn wsX4_leaveHold wsX4_endBlock := goodIn_r _ [22, 2, 23, 1, 24, 25, 26, 6, 27, 8, 28, 29, 30, 31, 32, 33, 34, 3, 4, 5, 7, 9, 35, 36, 37, 13, 38, 39, 16, 17, 18, 40, 41, 42, 43, 44, 45, 46, 47, 48, 49, 50, 51, 52, 53, 54, 59, 60, 61, 62, 63, 64, 65, 66, 67, 68, 55, 56, 57, 58] (by decide +kernel) (by decide +kernel)
set_option maxRecDepth 20000 in
theorem gX4_leaveHold_X4_endBlock : GoodIn wsX4_leaveHold (wsV RX4 158 RX4 yX4_endBlock wsX4_endBlock) := goodIn_app (goodIn_of _ (by decide +kernel)) ggX4_leaveHold_X4_endBlock
theorem dX4_leaveHold_0 : decode cX4_leaveHold 0 = .ok (.aload_n 0, 1) := by decide +kernel
theorem dX4_leaveHold_1 : decode cX4_leaveHold 1 = .ok (.getfield 19, 3) := by decide +kernel
theorem dX4_leaveHold_4 : decode cX4_leaveHold 4 = .ok (.aload_n 0, 1) := by decide +kernel
theorem dX4_leaveHold_5 : decode cX4_leaveHold 5 = .ok (.getfield 26, 3) := by decide +kernel
theorem dX4_leaveHold_8 : decode cX4_leaveHold 8 = .ok (.invokevirtual 196, 3) := by decide +kernel
theorem dX4_leaveHold_11 : decode cX4_leaveHold 11 = .ok (.invokevirtual 217, 3) := by decide +kernel
theorem dX4_leaveHold_14 : decode cX4_leaveHold 14 = .ok (.aload_n 0, 1) := by decide +kernel
theorem dX4_leaveHold_15 : decode cX4_leaveHold 15 = .ok (.invokevirtual 158, 3) := by decide +kernel
theorem dX4_leaveHold_18 : decode cX4_leaveHold 18 = .ok (.pop, 1) := by decide +kernel
theorem dX4_leaveHold_19 : decode cX4_leaveHold 19 = .ok (.return_, 1) := by decide +kernel
set_option maxRecDepth 20000 in
theorem ggX4_leaveGuard_X0_number : GoodIn wsX4_leaveGuard wsX0_number := goodIn_r _ [8, 9, 10, 34, 35, 36, 37] (by decide +kernel) (by decide +kernel)
set_option maxRecDepth 20000 in
theorem gX4_leaveGuard_X0_number : GoodIn wsX4_leaveGuard (wsV RX4 196 RX0 yX0_number wsX0_number) := goodIn_app (goodIn_of _ (by decide +kernel)) ggX4_leaveGuard_X0_number
set_option maxRecDepth 20000 in
theorem ggX4_leaveGuard_X0_behind : GoodIn wsX4_leaveGuard wsX0_behind := goodIn_r _ [14, 9, 15, 34, 35, 36, 37] (by decide +kernel) (by decide +kernel)
set_option maxRecDepth 20000 in
theorem gX4_leaveGuard_X0_behind : GoodIn wsX4_leaveGuard (wsV RX4 207 RX0 yX0_behind wsX0_behind) := goodIn_app (goodIn_of _ (by decide +kernel)) ggX4_leaveGuard_X0_behind
set_option maxRecDepth 20000 in
theorem ggX4_leaveGuard_X0_pop : GoodIn wsX4_leaveGuard wsX0_pop := goodIn_r _ [19, 9, 34, 35, 36, 37] (by decide +kernel) (by decide +kernel)
set_option maxRecDepth 20000 in
theorem gX4_leaveGuard_X0_pop : GoodIn wsX4_leaveGuard (wsV RX4 201 RX0 yX0_pop wsX0_pop) := goodIn_app (goodIn_of _ (by decide +kernel)) ggX4_leaveGuard_X0_pop
set_option maxRecDepth 20000 in
theorem ggX4_leaveGuard_X2_countCaught : GoodIn wsX4_leaveGuard wsX2_countCaught := goodIn_r _ [24, 25, 26, 38, 39, 40, 41, 42, 43, 44, 45, 46, 47] (by decide +kernel) (by decide +kernel)
set_option maxRecDepth 20000 in
theorem gX4_leaveGuard_X2_countCaught : GoodIn wsX4_leaveGuard (wsV RX4 220 RX2 yX2_countCaught wsX2_countCaught) := goodIn_app (goodIn_of _ (by decide +kernel)) ggX4_leaveGuard_X2_countCaught
theorem dX4_leaveGuard_0 : decode cX4_leaveGuard 0 = .ok (.aload_n 0, 1) := by decide +kernel
theorem dX4_leaveGuard_1 : decode cX4_leaveGuard 1 = .ok (.getfield 26, 3) := by decide +kernel
theorem dX4_leaveGuard_4 : decode cX4_leaveGuard 4 = .ok (.invokevirtual 196, 3) := by decide +kernel
theorem dX4_leaveGuard_7 : decode cX4_leaveGuard 7 = .ok (.istore_n 2, 1) := by decide +kernel
theorem dX4_leaveGuard_8 : decode cX4_leaveGuard 8 = .ok (.aload_n 0, 1) := by decide +kernel
theorem dX4_leaveGuard_9 : decode cX4_leaveGuard 9 = .ok (.getfield 26, 3) := by decide +kernel
theorem dX4_leaveGuard_12 : decode cX4_leaveGuard 12 = .ok (.invokevirtual 207, 3) := by decide +kernel
theorem dX4_leaveGuard_15 : decode cX4_leaveGuard 15 = .ok (.istore_n 3, 1) := by decide +kernel
theorem dX4_leaveGuard_16 : decode cX4_leaveGuard 16 = .ok (.aload_n 0, 1) := by decide +kernel
theorem dX4_leaveGuard_17 : decode cX4_leaveGuard 17 = .ok (.getfield 26, 3) := by decide +kernel
theorem dX4_leaveGuard_20 : decode cX4_leaveGuard 20 = .ok (.invokevirtual 201, 3) := by decide +kernel
theorem dX4_leaveGuard_23 : decode cX4_leaveGuard 23 = .ok (.iload_n 1, 1) := by decide +kernel
theorem dX4_leaveGuard_24 : decode cX4_leaveGuard 24 = .ok (.ifCond .eq 12, 3) := by decide +kernel
theorem dX4_leaveGuard_27 : decode cX4_leaveGuard 27 = .ok (.iload_n 2, 1) := by decide +kernel
theorem dX4_leaveGuard_28 : decode cX4_leaveGuard 28 = .ok (.ifCond .eq 10, 3) := by decide +kernel
theorem dX4_leaveGuard_31 : decode cX4_leaveGuard 31 = .ok (.iload_n 2, 1) := by decide +kernel
theorem dX4_leaveGuard_32 : decode cX4_leaveGuard 32 = .ok (.iload_n 1, 1) := by decide +kernel
theorem dX4_leaveGuard_33 : decode cX4_leaveGuard 33 = .ok (.if_icmp .eq 5, 3) := by decide +kernel
theorem dX4_leaveGuard_36 : decode cX4_leaveGuard 36 = .ok (.iconst 0, 1) := by decide +kernel
theorem dX4_leaveGuard_37 : decode cX4_leaveGuard 37 = .ok (.ireturn, 1) := by decide +kernel
theorem dX4_leaveGuard_38 : decode cX4_leaveGuard 38 = .ok (.aload_n 0, 1) := by decide +kernel
theorem dX4_leaveGuard_39 : decode cX4_leaveGuard 39 = .ok (.getfield 33, 3) := by decide +kernel
theorem dX4_leaveGuard_42 : decode cX4_leaveGuard 42 = .ok (.iload_n 1, 1) := by decide +kernel
theorem dX4_leaveGuard_43 : decode cX4_leaveGuard 43 = .ok (.invokevirtual 220, 3) := by decide +kernel
theorem dX4_leaveGuard_46 : decode cX4_leaveGuard 46 = .ok (.aload_n 0, 1) := by decide +kernel
theorem dX4_leaveGuard_47 : decode cX4_leaveGuard 47 = .ok (.iload_n 3, 1) := by decide +kernel
theorem dX4_leaveGuard_48 : decode cX4_leaveGuard 48 = .ok (.putfield 74, 3) := by decide +kernel
theorem dX4_leaveGuard_51 : decode cX4_leaveGuard 51 = .ok (.iconst 1, 1) := by decide +kernel
theorem dX4_leaveGuard_52 : decode cX4_leaveGuard 52 = .ok (.ireturn, 1) := by decide +kernel
theorem dX4_isPlan_0 : decode cX4_isPlan 0 = .ok (.iload_n 0, 1) := by decide +kernel
theorem dX4_isPlan_1 : decode cX4_isPlan 1 = .ok (.ifCond .lt 13, 3) := by decide +kernel
theorem dX4_isPlan_4 : decode cX4_isPlan 4 = .ok (.iload_n 0, 1) := by decide +kernel
theorem dX4_isPlan_5 : decode cX4_isPlan 5 = .ok (.bipush 6, 2) := by decide +kernel
theorem dX4_isPlan_7 : decode cX4_isPlan 7 = .ok (.if_icmp .ge 7, 3) := by decide +kernel
theorem dX4_isPlan_10 : decode cX4_isPlan 10 = .ok (.iconst 1, 1) := by decide +kernel
theorem dX4_isPlan_11 : decode cX4_isPlan 11 = .ok (.goto 4, 3) := by decide +kernel
theorem dX4_isPlan_14 : decode cX4_isPlan 14 = .ok (.iconst 0, 1) := by decide +kernel
theorem dX4_isPlan_15 : decode cX4_isPlan 15 = .ok (.ireturn, 1) := by decide +kernel
theorem dX4_isShelf_0 : decode cX4_isShelf 0 = .ok (.iload_n 0, 1) := by decide +kernel
theorem dX4_isShelf_1 : decode cX4_isShelf 1 = .ok (.ifCond .lt 13, 3) := by decide +kernel
theorem dX4_isShelf_4 : decode cX4_isShelf 4 = .ok (.iload_n 0, 1) := by decide +kernel
theorem dX4_isShelf_5 : decode cX4_isShelf 5 = .ok (.bipush 8, 2) := by decide +kernel
theorem dX4_isShelf_7 : decode cX4_isShelf 7 = .ok (.if_icmp .ge 7, 3) := by decide +kernel
theorem dX4_isShelf_10 : decode cX4_isShelf 10 = .ok (.iconst 1, 1) := by decide +kernel
theorem dX4_isShelf_11 : decode cX4_isShelf 11 = .ok (.goto 4, 3) := by decide +kernel
theorem dX4_isShelf_14 : decode cX4_isShelf 14 = .ok (.iconst 0, 1) := by decide +kernel
theorem dX4_isShelf_15 : decode cX4_isShelf 15 = .ok (.ireturn, 1) := by decide +kernel
theorem dX4_isDigit_0 : decode cX4_isDigit 0 = .ok (.iload_n 0, 1) := by decide +kernel
theorem dX4_isDigit_1 : decode cX4_isDigit 1 = .ok (.ifCond .lt 13, 3) := by decide +kernel
theorem dX4_isDigit_4 : decode cX4_isDigit 4 = .ok (.iload_n 0, 1) := by decide +kernel
theorem dX4_isDigit_5 : decode cX4_isDigit 5 = .ok (.bipush 9, 2) := by decide +kernel
theorem dX4_isDigit_7 : decode cX4_isDigit 7 = .ok (.if_icmp .gt 7, 3) := by decide +kernel
theorem dX4_isDigit_10 : decode cX4_isDigit 10 = .ok (.iconst 1, 1) := by decide +kernel
theorem dX4_isDigit_11 : decode cX4_isDigit 11 = .ok (.goto 4, 3) := by decide +kernel
theorem dX4_isDigit_14 : decode cX4_isDigit 14 = .ok (.iconst 0, 1) := by decide +kernel
theorem dX4_isDigit_15 : decode cX4_isDigit 15 = .ok (.ireturn, 1) := by decide +kernel
end
section
theorem dX5_init_0 : decode cX5_init 0 = .ok (.aload_n 0, 1) := by decide +kernel
theorem dX5_init_1 : decode cX5_init 1 = .ok (.invokespecial 1, 3) := by decide +kernel
theorem dX5_init_4 : decode cX5_init 4 = .ok (.aload_n 0, 1) := by decide +kernel
theorem dX5_init_5 : decode cX5_init 5 = .ok (.bipush 6, 2) := by decide +kernel
theorem dX5_init_7 : decode cX5_init 7 = .ok (.newarray .int, 2) := by decide +kernel
theorem dX5_init_9 : decode cX5_init 9 = .ok (.putfield 7, 3) := by decide +kernel
theorem dX5_init_12 : decode cX5_init 12 = .ok (.aload_n 0, 1) := by decide +kernel
theorem dX5_init_13 : decode cX5_init 13 = .ok (.sipush 240, 3) := by decide +kernel
theorem dX5_init_16 : decode cX5_init 16 = .ok (.newarray .int, 2) := by decide +kernel
theorem dX5_init_18 : decode cX5_init 18 = .ok (.putfield 13, 3) := by decide +kernel
theorem dX5_init_21 : decode cX5_init 21 = .ok (.aload_n 0, 1) := by decide +kernel
theorem dX5_init_22 : decode cX5_init 22 = .ok (.sipush 240, 3) := by decide +kernel
theorem dX5_init_25 : decode cX5_init 25 = .ok (.newarray .int, 2) := by decide +kernel
theorem dX5_init_27 : decode cX5_init 27 = .ok (.putfield 16, 3) := by decide +kernel
theorem dX5_init_30 : decode cX5_init 30 = .ok (.aload_n 0, 1) := by decide +kernel
theorem dX5_init_31 : decode cX5_init 31 = .ok (.sipush 240, 3) := by decide +kernel
theorem dX5_init_34 : decode cX5_init 34 = .ok (.newarray .int, 2) := by decide +kernel
theorem dX5_init_36 : decode cX5_init 36 = .ok (.putfield 19, 3) := by decide +kernel
theorem dX5_init_39 : decode cX5_init 39 = .ok (.aload_n 0, 1) := by decide +kernel
theorem dX5_init_40 : decode cX5_init 40 = .ok (.sipush 240, 3) := by decide +kernel
theorem dX5_init_43 : decode cX5_init 43 = .ok (.newarray .int, 2) := by decide +kernel
theorem dX5_init_45 : decode cX5_init 45 = .ok (.putfield 22, 3) := by decide +kernel
theorem dX5_init_48 : decode cX5_init 48 = .ok (.aload_n 0, 1) := by decide +kernel
theorem dX5_init_49 : decode cX5_init 49 = .ok (.bipush 8, 2) := by decide +kernel
theorem dX5_init_51 : decode cX5_init 51 = .ok (.newarray .boolean, 2) := by decide +kernel
theorem dX5_init_53 : decode cX5_init 53 = .ok (.putfield 25, 3) := by decide +kernel
theorem dX5_init_56 : decode cX5_init 56 = .ok (.aload_n 0, 1) := by decide +kernel
theorem dX5_init_57 : decode cX5_init 57 = .ok (.bipush 8, 2) := by decide +kernel
theorem dX5_init_59 : decode cX5_init 59 = .ok (.newarray .int, 2) := by decide +kernel
theorem dX5_init_61 : decode cX5_init 61 = .ok (.putfield 29, 3) := by decide +kernel
theorem dX5_init_64 : decode cX5_init 64 = .ok (.aload_n 0, 1) := by decide +kernel
theorem dX5_init_65 : decode cX5_init 65 = .ok (.bipush 8, 2) := by decide +kernel
theorem dX5_init_67 : decode cX5_init 67 = .ok (.newarray .int, 2) := by decide +kernel
theorem dX5_init_69 : decode cX5_init 69 = .ok (.putfield 32, 3) := by decide +kernel
theorem dX5_init_72 : decode cX5_init 72 = .ok (.aload_n 0, 1) := by decide +kernel
theorem dX5_init_73 : decode cX5_init 73 = .ok (.bipush 8, 2) := by decide +kernel
theorem dX5_init_75 : decode cX5_init 75 = .ok (.newarray .int, 2) := by decide +kernel
theorem dX5_init_77 : decode cX5_init 77 = .ok (.putfield 35, 3) := by decide +kernel
theorem dX5_init_80 : decode cX5_init 80 = .ok (.aload_n 0, 1) := by decide +kernel
theorem dX5_init_81 : decode cX5_init 81 = .ok (.bipush 8, 2) := by decide +kernel
theorem dX5_init_83 : decode cX5_init 83 = .ok (.newarray .int, 2) := by decide +kernel
theorem dX5_init_85 : decode cX5_init 85 = .ok (.putfield 38, 3) := by decide +kernel
theorem dX5_init_88 : decode cX5_init 88 = .ok (.aload_n 0, 1) := by decide +kernel
theorem dX5_init_89 : decode cX5_init 89 = .ok (.bipush 10, 2) := by decide +kernel
theorem dX5_init_91 : decode cX5_init 91 = .ok (.newarray .int, 2) := by decide +kernel
theorem dX5_init_93 : decode cX5_init 93 = .ok (.putfield 41, 3) := by decide +kernel
theorem dX5_init_96 : decode cX5_init 96 = .ok (.aload_n 0, 1) := by decide +kernel
theorem dX5_init_97 : decode cX5_init 97 = .ok (.iconst 5, 1) := by decide +kernel
theorem dX5_init_98 : decode cX5_init 98 = .ok (.newarray .int, 2) := by decide +kernel
theorem dX5_init_100 : decode cX5_init 100 = .ok (.putfield 44, 3) := by decide +kernel
theorem dX5_init_103 : decode cX5_init 103 = .ok (.aload_n 0, 1) := by decide +kernel
theorem dX5_init_104 : decode cX5_init 104 = .ok (.iconst 5, 1) := by decide +kernel
theorem dX5_init_105 : decode cX5_init 105 = .ok (.newarray .int, 2) := by decide +kernel
theorem dX5_init_107 : decode cX5_init 107 = .ok (.putfield 47, 3) := by decide +kernel
theorem dX5_init_110 : decode cX5_init 110 = .ok (.aload_n 0, 1) := by decide +kernel
theorem dX5_init_111 : decode cX5_init 111 = .ok (.sipush 128, 3) := by decide +kernel
theorem dX5_init_114 : decode cX5_init 114 = .ok (.newarray .int, 2) := by decide +kernel
theorem dX5_init_116 : decode cX5_init 116 = .ok (.putfield 50, 3) := by decide +kernel
theorem dX5_init_119 : decode cX5_init 119 = .ok (.aload_n 0, 1) := by decide +kernel
theorem dX5_init_120 : decode cX5_init 120 = .ok (.sipush 128, 3) := by decide +kernel
theorem dX5_init_123 : decode cX5_init 123 = .ok (.newarray .int, 2) := by decide +kernel
theorem dX5_init_125 : decode cX5_init 125 = .ok (.putfield 53, 3) := by decide +kernel
theorem dX5_init_128 : decode cX5_init 128 = .ok (.aload_n 0, 1) := by decide +kernel
theorem dX5_init_129 : decode cX5_init 129 = .ok (.sipush 128, 3) := by decide +kernel
theorem dX5_init_132 : decode cX5_init 132 = .ok (.newarray .int, 2) := by decide +kernel
theorem dX5_init_134 : decode cX5_init 134 = .ok (.putfield 56, 3) := by decide +kernel
theorem dX5_init_137 : decode cX5_init 137 = .ok (.iconst 0, 1) := by decide +kernel
theorem dX5_init_138 : decode cX5_init 138 = .ok (.istore_n 1, 1) := by decide +kernel
theorem dX5_init_139 : decode cX5_init 139 = .ok (.iload_n 1, 1) := by decide +kernel
theorem dX5_init_140 : decode cX5_init 140 = .ok (.iconst 4, 1) := by decide +kernel
theorem dX5_init_141 : decode cX5_init 141 = .ok (.if_icmp .ge 16, 3) := by decide +kernel
theorem dX5_init_144 : decode cX5_init 144 = .ok (.aload_n 0, 1) := by decide +kernel
theorem dX5_init_145 : decode cX5_init 145 = .ok (.getfield 25, 3) := by decide +kernel
theorem dX5_init_148 : decode cX5_init 148 = .ok (.iload_n 1, 1) := by decide +kernel
theorem dX5_init_149 : decode cX5_init 149 = .ok (.iconst 1, 1) := by decide +kernel
theorem dX5_init_150 : decode cX5_init 150 = .ok (.bastore, 1) := by decide +kernel
theorem dX5_init_151 : decode cX5_init 151 = .ok (.iinc 1 1, 3) := by decide +kernel
theorem dX5_init_154 : decode cX5_init 154 = .ok (.goto (-15), 3) := by decide +kernel
theorem dX5_init_157 : decode cX5_init 157 = .ok (.aload_n 0, 1) := by decide +kernel
theorem dX5_init_158 : decode cX5_init 158 = .ok (.getfield 38, 3) := by decide +kernel
theorem dX5_init_161 : decode cX5_init 161 = .ok (.iconst 1, 1) := by decide +kernel
theorem dX5_init_162 : decode cX5_init 162 = .ok (.bipush (-4), 2) := by decide +kernel
theorem dX5_init_164 : decode cX5_init 164 = .ok (.iastore, 1) := by decide +kernel
theorem dX5_init_165 : decode cX5_init 165 = .ok (.aload_n 0, 1) := by decide +kernel
theorem dX5_init_166 : decode cX5_init 166 = .ok (.getfield 38, 3) := by decide +kernel
theorem dX5_init_169 : decode cX5_init 169 = .ok (.iconst 2, 1) := by decide +kernel
theorem dX5_init_170 : decode cX5_init 170 = .ok (.bipush (-4), 2) := by decide +kernel
theorem dX5_init_172 : decode cX5_init 172 = .ok (.iastore, 1) := by decide +kernel
theorem dX5_init_173 : decode cX5_init 173 = .ok (.return_, 1) := by decide +kernel
theorem dX5_in_0 : decode cX5_in 0 = .ok (.iload_n 0, 1) := by decide +kernel
theorem dX5_in_1 : decode cX5_in 1 = .ok (.iload_n 1, 1) := by decide +kernel
theorem dX5_in_2 : decode cX5_in 2 = .ok (.if_icmp .lt 12, 3) := by decide +kernel
theorem dX5_in_5 : decode cX5_in 5 = .ok (.iload_n 0, 1) := by decide +kernel
theorem dX5_in_6 : decode cX5_in 6 = .ok (.iload_n 2, 1) := by decide +kernel
theorem dX5_in_7 : decode cX5_in 7 = .ok (.if_icmp .gt 7, 3) := by decide +kernel
theorem dX5_in_10 : decode cX5_in 10 = .ok (.iconst 1, 1) := by decide +kernel
theorem dX5_in_11 : decode cX5_in 11 = .ok (.goto 4, 3) := by decide +kernel
theorem dX5_in_14 : decode cX5_in 14 = .ok (.iconst 0, 1) := by decide +kernel
theorem dX5_in_15 : decode cX5_in 15 = .ok (.ireturn, 1) := by decide +kernel
set_option maxRecDepth 20000 in
theorem ggX5_isPlan_X5_in : GoodIn wsX5_isPlan wsX5_in := goodIn_r _ [4] (by decide +kernel) (by decide +kernel)
set_option maxRecDepth 20000 in
theorem gX5_isPlan_X5_in : GoodIn wsX5_isPlan (va_wsS RX5 63 yX5_in wsX5_in) := goodIn_app (goodIn_of _ (by decide +kernel)) ggX5_isPlan_X5_in
theorem dX5_isPlan_0 : decode cX5_isPlan 0 = .ok (.iload_n 0, 1) := by decide +kernel
theorem dX5_isPlan_1 : decode cX5_isPlan 1 = .ok (.iconst 0, 1) := by decide +kernel
theorem dX5_isPlan_2 : decode cX5_isPlan 2 = .ok (.iconst 5, 1) := by decide +kernel
theorem dX5_isPlan_3 : decode cX5_isPlan 3 = .ok (.invokestatic 63, 3) := by decide +kernel
theorem dX5_isPlan_6 : decode cX5_isPlan 6 = .ok (.ireturn, 1) := by decide +kernel
set_option maxRecDepth 20000 in
theorem ggX5_isDigit_X5_in : GoodIn wsX5_isDigit wsX5_in := goodIn_r _ [4] (by decide +kernel) (by decide +kernel)
set_option maxRecDepth 20000 in
theorem gX5_isDigit_X5_in : GoodIn wsX5_isDigit (va_wsS RX5 63 yX5_in wsX5_in) := goodIn_app (goodIn_of _ (by decide +kernel)) ggX5_isDigit_X5_in
theorem dX5_isDigit_0 : decode cX5_isDigit 0 = .ok (.iload_n 0, 1) := by decide +kernel
theorem dX5_isDigit_1 : decode cX5_isDigit 1 = .ok (.iconst 0, 1) := by decide +kernel
theorem dX5_isDigit_2 : decode cX5_isDigit 2 = .ok (.bipush 9, 2) := by decide +kernel
theorem dX5_isDigit_4 : decode cX5_isDigit 4 = .ok (.invokestatic 63, 3) := by decide +kernel
theorem dX5_isDigit_7 : decode cX5_isDigit 7 = .ok (.ireturn, 1) := by decide +kernel
set_option maxRecDepth 20000 in
theorem ggX5_fits_X5_in : GoodIn wsX5_fits wsX5_in := goodIn_r _ [4] (by decide +kernel) (by decide +kernel)
set_option maxRecDepth 20000 in
theorem gX5_fits_X5_in : GoodIn wsX5_fits (va_wsS RX5 63 yX5_in wsX5_in) := goodIn_app (goodIn_of _ (by decide +kernel)) ggX5_fits_X5_in
set_option maxRecDepth 20000 in
theorem ggX5_fits_X5_isDigit : GoodIn wsX5_fits wsX5_isDigit := goodIn_r _ [7, 1, 2, 3, 4] (by decide +kernel) (by decide +kernel)
set_option maxRecDepth 20000 in
theorem gX5_fits_X5_isDigit : GoodIn wsX5_fits (va_wsS RX5 67 yX5_isDigit wsX5_isDigit) := goodIn_app (goodIn_of _ (by decide +kernel)) ggX5_fits_X5_isDigit
theorem dX5_fits_0 : decode cX5_fits 0 = .ok (.iload_n 0, 1) := by decide +kernel
theorem dX5_fits_1 : decode cX5_fits 1 = .ok (.iconst 2, 1) := by decide +kernel
theorem dX5_fits_2 : decode cX5_fits 2 = .ok (.if_icmp .eq 9, 3) := by decide +kernel
theorem dX5_fits_5 : decode cX5_fits 5 = .ok (.iload_n 0, 1) := by decide +kernel
theorem dX5_fits_6 : decode cX5_fits 6 = .ok (.bipush 9, 2) := by decide +kernel
theorem dX5_fits_8 : decode cX5_fits 8 = .ok (.if_icmp .ne 5, 3) := by decide +kernel
theorem dX5_fits_11 : decode cX5_fits 11 = .ok (.iconst 1, 1) := by decide +kernel
theorem dX5_fits_12 : decode cX5_fits 12 = .ok (.ireturn, 1) := by decide +kernel
theorem dX5_fits_13 : decode cX5_fits 13 = .ok (.iload_n 0, 1) := by decide +kernel
theorem dX5_fits_14 : decode cX5_fits 14 = .ok (.bipush 7, 2) := by decide +kernel
theorem dX5_fits_16 : decode cX5_fits 16 = .ok (.if_icmp .ne 12, 3) := by decide +kernel
theorem dX5_fits_19 : decode cX5_fits 19 = .ok (.iload_n 1, 1) := by decide +kernel
theorem dX5_fits_20 : decode cX5_fits 20 = .ok (.bipush 7, 2) := by decide +kernel
theorem dX5_fits_22 : decode cX5_fits 22 = .ok (.bipush 9, 2) := by decide +kernel
theorem dX5_fits_24 : decode cX5_fits 24 = .ok (.invokestatic 63, 3) := by decide +kernel
theorem dX5_fits_27 : decode cX5_fits 27 = .ok (.ireturn, 1) := by decide +kernel
theorem dX5_fits_28 : decode cX5_fits 28 = .ok (.iload_n 0, 1) := by decide +kernel
theorem dX5_fits_29 : decode cX5_fits 29 = .ok (.iconst 3, 1) := by decide +kernel
theorem dX5_fits_30 : decode cX5_fits 30 = .ok (.bipush 6, 2) := by decide +kernel
theorem dX5_fits_32 : decode cX5_fits 32 = .ok (.invokestatic 63, 3) := by decide +kernel
theorem dX5_fits_35 : decode cX5_fits 35 = .ok (.istore 4, 2) := by decide +kernel
theorem dX5_fits_37 : decode cX5_fits 37 = .ok (.iload_n 1, 1) := by decide +kernel
theorem dX5_fits_38 : decode cX5_fits 38 = .ok (.invokestatic 67, 3) := by decide +kernel
theorem dX5_fits_41 : decode cX5_fits 41 = .ok (.ifCond .eq 32, 3) := by decide +kernel
theorem dX5_fits_44 : decode cX5_fits 44 = .ok (.iload 4, 2) := by decide +kernel
theorem dX5_fits_46 : decode cX5_fits 46 = .ok (.ifCond .eq 10, 3) := by decide +kernel
theorem dX5_fits_49 : decode cX5_fits 49 = .ok (.iload_n 2, 1) := by decide +kernel
theorem dX5_fits_50 : decode cX5_fits 50 = .ok (.invokestatic 67, 3) := by decide +kernel
theorem dX5_fits_53 : decode cX5_fits 53 = .ok (.ifCond .eq 20, 3) := by decide +kernel
theorem dX5_fits_56 : decode cX5_fits 56 = .ok (.iload_n 0, 1) := by decide +kernel
theorem dX5_fits_57 : decode cX5_fits 57 = .ok (.bipush 6, 2) := by decide +kernel
theorem dX5_fits_59 : decode cX5_fits 59 = .ok (.if_icmp .ne 10, 3) := by decide +kernel
theorem dX5_fits_62 : decode cX5_fits 62 = .ok (.iload_n 3, 1) := by decide +kernel
theorem dX5_fits_63 : decode cX5_fits 63 = .ok (.invokestatic 67, 3) := by decide +kernel
theorem dX5_fits_66 : decode cX5_fits 66 = .ok (.ifCond .eq 7, 3) := by decide +kernel
theorem dX5_fits_69 : decode cX5_fits 69 = .ok (.iconst 1, 1) := by decide +kernel
theorem dX5_fits_70 : decode cX5_fits 70 = .ok (.goto 4, 3) := by decide +kernel
theorem dX5_fits_73 : decode cX5_fits 73 = .ok (.iconst 0, 1) := by decide +kernel
theorem dX5_fits_74 : decode cX5_fits 74 = .ok (.ireturn, 1) := by decide +kernel
set_option maxRecDepth 20000 in
theorem ggX5_act_X5_isPlan : GoodIn wsX5_act wsX5_isPlan := goodIn_r _ [10, 11, 12, 9, 13] (by decide +kernel) (by decide +kernel)
set_option maxRecDepth 20000 in
theorem gX5_act_X5_isPlan : GoodIn wsX5_act (va_wsS RX5 71 yX5_isPlan wsX5_isPlan) := goodIn_app (goodIn_of _ (by decide +kernel)) ggX5_act_X5_isPlan
set_option maxRecDepth 20000 in
theorem ggX5_act_X5_in : GoodIn wsX5_act wsX5_in := goodIn_r _ [13] (by decide +kernel) (by decide +kernel)
set_option maxRecDepth 20000 in
theorem gX5_act_X5_in : GoodIn wsX5_act (va_wsS RX5 63 yX5_in wsX5_in) := goodIn_app (goodIn_of _ (by decide +kernel)) ggX5_act_X5_in
set_option maxRecDepth 20000 in
theorem ggX5_act_X5_fits : GoodIn wsX5_act wsX5_fits := goodIn_r _ [16, 11, 12, 9, 13, 17, 18, 19] (by decide +kernel) (by decide +kernel)
set_option maxRecDepth 20000 in
theorem gX5_act_X5_fits : GoodIn wsX5_act (va_wsS RX5 74 yX5_fits wsX5_fits) := goodIn_app (goodIn_of _ (by decide +kernel)) ggX5_act_X5_fits
theorem dX5_act_0 : decode cX5_act 0 = .ok (.aload_n 0, 1) := by decide +kernel
theorem dX5_act_1 : decode cX5_act 1 = .ok (.iconst 0, 1) := by decide +kernel
theorem dX5_act_2 : decode cX5_act 2 = .ok (.putfield 59, 3) := by decide +kernel
theorem dX5_act_5 : decode cX5_act 5 = .ok (.iload_n 1, 1) := by decide +kernel
theorem dX5_act_6 : decode cX5_act 6 = .ok (.invokestatic 71, 3) := by decide +kernel
theorem dX5_act_9 : decode cX5_act 9 = .ok (.ifCond .eq 25, 3) := by decide +kernel
theorem dX5_act_12 : decode cX5_act 12 = .ok (.iload_n 2, 1) := by decide +kernel
theorem dX5_act_13 : decode cX5_act 13 = .ok (.iconst 0, 1) := by decide +kernel
theorem dX5_act_14 : decode cX5_act 14 = .ok (.bipush 9, 2) := by decide +kernel
theorem dX5_act_16 : decode cX5_act 16 = .ok (.invokestatic 63, 3) := by decide +kernel
theorem dX5_act_19 : decode cX5_act 19 = .ok (.ifCond .eq 15, 3) := by decide +kernel
theorem dX5_act_22 : decode cX5_act 22 = .ok (.iload_n 2, 1) := by decide +kernel
theorem dX5_act_23 : decode cX5_act 23 = .ok (.iload_n 3, 1) := by decide +kernel
theorem dX5_act_24 : decode cX5_act 24 = .ok (.iload 4, 2) := by decide +kernel
theorem dX5_act_26 : decode cX5_act 26 = .ok (.iload 5, 2) := by decide +kernel
theorem dX5_act_28 : decode cX5_act 28 = .ok (.invokestatic 74, 3) := by decide +kernel
theorem dX5_act_31 : decode cX5_act 31 = .ok (.ifCond .ne 5, 3) := by decide +kernel
theorem dX5_act_34 : decode cX5_act 34 = .ok (.iconst (-1), 1) := by decide +kernel
theorem dX5_act_35 : decode cX5_act 35 = .ok (.ireturn, 1) := by decide +kernel
theorem dX5_act_36 : decode cX5_act 36 = .ok (.aload_n 0, 1) := by decide +kernel
theorem dX5_act_37 : decode cX5_act 37 = .ok (.getfield 7, 3) := by decide +kernel
theorem dX5_act_40 : decode cX5_act 40 = .ok (.iload_n 1, 1) := by decide +kernel
theorem dX5_act_41 : decode cX5_act 41 = .ok (.iaload, 1) := by decide +kernel
theorem dX5_act_42 : decode cX5_act 42 = .ok (.bipush 40, 2) := by decide +kernel
theorem dX5_act_44 : decode cX5_act 44 = .ok (.if_icmp .ne 6, 3) := by decide +kernel
theorem dX5_act_47 : decode cX5_act 47 = .ok (.bipush (-2), 2) := by decide +kernel
theorem dX5_act_49 : decode cX5_act 49 = .ok (.ireturn, 1) := by decide +kernel
theorem dX5_act_50 : decode cX5_act 50 = .ok (.bipush 40, 2) := by decide +kernel
theorem dX5_act_52 : decode cX5_act 52 = .ok (.iload_n 1, 1) := by decide +kernel
theorem dX5_act_53 : decode cX5_act 53 = .ok (.imul, 1) := by decide +kernel
theorem dX5_act_54 : decode cX5_act 54 = .ok (.aload_n 0, 1) := by decide +kernel
theorem dX5_act_55 : decode cX5_act 55 = .ok (.getfield 7, 3) := by decide +kernel
theorem dX5_act_58 : decode cX5_act 58 = .ok (.iload_n 1, 1) := by decide +kernel
theorem dX5_act_59 : decode cX5_act 59 = .ok (.iaload, 1) := by decide +kernel
theorem dX5_act_60 : decode cX5_act 60 = .ok (.iadd, 1) := by decide +kernel
theorem dX5_act_61 : decode cX5_act 61 = .ok (.istore 6, 2) := by decide +kernel
theorem dX5_act_63 : decode cX5_act 63 = .ok (.aload_n 0, 1) := by decide +kernel
theorem dX5_act_64 : decode cX5_act 64 = .ok (.getfield 13, 3) := by decide +kernel
theorem dX5_act_67 : decode cX5_act 67 = .ok (.iload 6, 2) := by decide +kernel
theorem dX5_act_69 : decode cX5_act 69 = .ok (.iload_n 2, 1) := by decide +kernel
theorem dX5_act_70 : decode cX5_act 70 = .ok (.iastore, 1) := by decide +kernel
theorem dX5_act_71 : decode cX5_act 71 = .ok (.aload_n 0, 1) := by decide +kernel
theorem dX5_act_72 : decode cX5_act 72 = .ok (.getfield 16, 3) := by decide +kernel
theorem dX5_act_75 : decode cX5_act 75 = .ok (.iload 6, 2) := by decide +kernel
theorem dX5_act_77 : decode cX5_act 77 = .ok (.iload_n 3, 1) := by decide +kernel
theorem dX5_act_78 : decode cX5_act 78 = .ok (.iastore, 1) := by decide +kernel
theorem dX5_act_79 : decode cX5_act 79 = .ok (.aload_n 0, 1) := by decide +kernel
theorem dX5_act_80 : decode cX5_act 80 = .ok (.getfield 19, 3) := by decide +kernel
theorem dX5_act_83 : decode cX5_act 83 = .ok (.iload 6, 2) := by decide +kernel
theorem dX5_act_85 : decode cX5_act 85 = .ok (.iload 4, 2) := by decide +kernel
theorem dX5_act_87 : decode cX5_act 87 = .ok (.iastore, 1) := by decide +kernel
theorem dX5_act_88 : decode cX5_act 88 = .ok (.aload_n 0, 1) := by decide +kernel
theorem dX5_act_89 : decode cX5_act 89 = .ok (.getfield 22, 3) := by decide +kernel
theorem dX5_act_92 : decode cX5_act 92 = .ok (.iload 6, 2) := by decide +kernel
theorem dX5_act_94 : decode cX5_act 94 = .ok (.iload 5, 2) := by decide +kernel
theorem dX5_act_96 : decode cX5_act 96 = .ok (.iastore, 1) := by decide +kernel
theorem dX5_act_97 : decode cX5_act 97 = .ok (.aload_n 0, 1) := by decide +kernel
theorem dX5_act_98 : decode cX5_act 98 = .ok (.getfield 7, 3) := by decide +kernel
theorem dX5_act_101 : decode cX5_act 101 = .ok (.iload_n 1, 1) := by decide +kernel
theorem dX5_act_102 : decode cX5_act 102 = .ok (.dup2, 1) := by decide +kernel
theorem dX5_act_103 : decode cX5_act 103 = .ok (.iaload, 1) := by decide +kernel
theorem dX5_act_104 : decode cX5_act 104 = .ok (.iconst 1, 1) := by decide +kernel
theorem dX5_act_105 : decode cX5_act 105 = .ok (.iadd, 1) := by decide +kernel
theorem dX5_act_106 : decode cX5_act 106 = .ok (.iastore, 1) := by decide +kernel
theorem dX5_act_107 : decode cX5_act 107 = .ok (.aload_n 0, 1) := by decide +kernel
theorem dX5_act_108 : decode cX5_act 108 = .ok (.getfield 7, 3) := by decide +kernel
theorem dX5_act_111 : decode cX5_act 111 = .ok (.iload_n 1, 1) := by decide +kernel
theorem dX5_act_112 : decode cX5_act 112 = .ok (.iaload, 1) := by decide +kernel
theorem dX5_act_113 : decode cX5_act 113 = .ok (.iconst 1, 1) := by decide +kernel
theorem dX5_act_114 : decode cX5_act 114 = .ok (.isub, 1) := by decide +kernel
theorem dX5_act_115 : decode cX5_act 115 = .ok (.ireturn, 1) := by decide +kernel
set_option maxRecDepth 20000 in
theorem ggX5_clear_X5_isPlan : GoodIn wsX5_clear wsX5_isPlan := goodIn_r _ [6, 7, 8, 5, 9] (by decide +kernel) (by decide +kernel)
set_option maxRecDepth 20000 in
theorem gX5_clear_X5_isPlan : GoodIn wsX5_clear (va_wsS RX5 71 yX5_isPlan wsX5_isPlan) := goodIn_app (goodIn_of _ (by decide +kernel)) ggX5_clear_X5_isPlan
theorem dX5_clear_0 : decode cX5_clear 0 = .ok (.aload_n 0, 1) := by decide +kernel
theorem dX5_clear_1 : decode cX5_clear 1 = .ok (.iconst 0, 1) := by decide +kernel
theorem dX5_clear_2 : decode cX5_clear 2 = .ok (.putfield 59, 3) := by decide +kernel
theorem dX5_clear_5 : decode cX5_clear 5 = .ok (.iload_n 1, 1) := by decide +kernel
theorem dX5_clear_6 : decode cX5_clear 6 = .ok (.invokestatic 71, 3) := by decide +kernel
theorem dX5_clear_9 : decode cX5_clear 9 = .ok (.ifCond .ne 5, 3) := by decide +kernel
theorem dX5_clear_12 : decode cX5_clear 12 = .ok (.iconst (-1), 1) := by decide +kernel
theorem dX5_clear_13 : decode cX5_clear 13 = .ok (.ireturn, 1) := by decide +kernel
theorem dX5_clear_14 : decode cX5_clear 14 = .ok (.aload_n 0, 1) := by decide +kernel
theorem dX5_clear_15 : decode cX5_clear 15 = .ok (.getfield 7, 3) := by decide +kernel
theorem dX5_clear_18 : decode cX5_clear 18 = .ok (.iload_n 1, 1) := by decide +kernel
theorem dX5_clear_19 : decode cX5_clear 19 = .ok (.iaload, 1) := by decide +kernel
theorem dX5_clear_20 : decode cX5_clear 20 = .ok (.istore_n 2, 1) := by decide +kernel
theorem dX5_clear_21 : decode cX5_clear 21 = .ok (.aload_n 0, 1) := by decide +kernel
theorem dX5_clear_22 : decode cX5_clear 22 = .ok (.getfield 7, 3) := by decide +kernel
theorem dX5_clear_25 : decode cX5_clear 25 = .ok (.iload_n 1, 1) := by decide +kernel
theorem dX5_clear_26 : decode cX5_clear 26 = .ok (.iconst 0, 1) := by decide +kernel
theorem dX5_clear_27 : decode cX5_clear 27 = .ok (.iastore, 1) := by decide +kernel
theorem dX5_clear_28 : decode cX5_clear 28 = .ok (.iload_n 2, 1) := by decide +kernel
theorem dX5_clear_29 : decode cX5_clear 29 = .ok (.ireturn, 1) := by decide +kernel
theorem dX5_isClosed_0 : decode cX5_isClosed 0 = .ok (.iconst 0, 1) := by decide +kernel
theorem dX5_isClosed_1 : decode cX5_isClosed 1 = .ok (.istore_n 2, 1) := by decide +kernel
theorem dX5_isClosed_2 : decode cX5_isClosed 2 = .ok (.iconst 0, 1) := by decide +kernel
theorem dX5_isClosed_3 : decode cX5_isClosed 3 = .ok (.istore_n 3, 1) := by decide +kernel
theorem dX5_isClosed_4 : decode cX5_isClosed 4 = .ok (.iload_n 3, 1) := by decide +kernel
theorem dX5_isClosed_5 : decode cX5_isClosed 5 = .ok (.aload_n 0, 1) := by decide +kernel
theorem dX5_isClosed_6 : decode cX5_isClosed 6 = .ok (.getfield 7, 3) := by decide +kernel
theorem dX5_isClosed_9 : decode cX5_isClosed 9 = .ok (.iload_n 1, 1) := by decide +kernel
theorem dX5_isClosed_10 : decode cX5_isClosed 10 = .ok (.iaload, 1) := by decide +kernel
theorem dX5_isClosed_11 : decode cX5_isClosed 11 = .ok (.if_icmp .ge 50, 3) := by decide +kernel
theorem dX5_isClosed_14 : decode cX5_isClosed 14 = .ok (.iload_n 2, 1) := by decide +kernel
theorem dX5_isClosed_15 : decode cX5_isClosed 15 = .ok (.ifCond .lt 46, 3) := by decide +kernel
theorem dX5_isClosed_18 : decode cX5_isClosed 18 = .ok (.aload_n 0, 1) := by decide +kernel
theorem dX5_isClosed_19 : decode cX5_isClosed 19 = .ok (.getfield 13, 3) := by decide +kernel
theorem dX5_isClosed_22 : decode cX5_isClosed 22 = .ok (.bipush 40, 2) := by decide +kernel
theorem dX5_isClosed_24 : decode cX5_isClosed 24 = .ok (.iload_n 1, 1) := by decide +kernel
theorem dX5_isClosed_25 : decode cX5_isClosed 25 = .ok (.imul, 1) := by decide +kernel
theorem dX5_isClosed_26 : decode cX5_isClosed 26 = .ok (.iload_n 3, 1) := by decide +kernel
theorem dX5_isClosed_27 : decode cX5_isClosed 27 = .ok (.iadd, 1) := by decide +kernel
theorem dX5_isClosed_28 : decode cX5_isClosed 28 = .ok (.iaload, 1) := by decide +kernel
theorem dX5_isClosed_29 : decode cX5_isClosed 29 = .ok (.istore 4, 2) := by decide +kernel
theorem dX5_isClosed_31 : decode cX5_isClosed 31 = .ok (.iload_n 2, 1) := by decide +kernel
theorem dX5_isClosed_32 : decode cX5_isClosed 32 = .ok (.iload 4, 2) := by decide +kernel
theorem dX5_isClosed_34 : decode cX5_isClosed 34 = .ok (.iconst 1, 1) := by decide +kernel
theorem dX5_isClosed_35 : decode cX5_isClosed 35 = .ok (.if_icmp .gt 7, 3) := by decide +kernel
theorem dX5_isClosed_38 : decode cX5_isClosed 38 = .ok (.iconst 1, 1) := by decide +kernel
theorem dX5_isClosed_39 : decode cX5_isClosed 39 = .ok (.goto 14, 3) := by decide +kernel
theorem dX5_isClosed_42 : decode cX5_isClosed 42 = .ok (.iload 4, 2) := by decide +kernel
theorem dX5_isClosed_44 : decode cX5_isClosed 44 = .ok (.iconst 2, 1) := by decide +kernel
theorem dX5_isClosed_45 : decode cX5_isClosed 45 = .ok (.if_icmp .ne 7, 3) := by decide +kernel
theorem dX5_isClosed_48 : decode cX5_isClosed 48 = .ok (.iconst (-1), 1) := by decide +kernel
theorem dX5_isClosed_49 : decode cX5_isClosed 49 = .ok (.goto 4, 3) := by decide +kernel
theorem dX5_isClosed_52 : decode cX5_isClosed 52 = .ok (.iconst 0, 1) := by decide +kernel
theorem dX5_isClosed_53 : decode cX5_isClosed 53 = .ok (.iadd, 1) := by decide +kernel
theorem dX5_isClosed_54 : decode cX5_isClosed 54 = .ok (.istore_n 2, 1) := by decide +kernel
theorem dX5_isClosed_55 : decode cX5_isClosed 55 = .ok (.iinc 3 1, 3) := by decide +kernel
theorem dX5_isClosed_58 : decode cX5_isClosed 58 = .ok (.goto (-54), 3) := by decide +kernel
theorem dX5_isClosed_61 : decode cX5_isClosed 61 = .ok (.iload_n 2, 1) := by decide +kernel
theorem dX5_isClosed_62 : decode cX5_isClosed 62 = .ok (.ifCond .ne 7, 3) := by decide +kernel
theorem dX5_isClosed_65 : decode cX5_isClosed 65 = .ok (.iconst 1, 1) := by decide +kernel
theorem dX5_isClosed_66 : decode cX5_isClosed 66 = .ok (.goto 4, 3) := by decide +kernel
theorem dX5_isClosed_69 : decode cX5_isClosed 69 = .ok (.iconst 0, 1) := by decide +kernel
theorem dX5_isClosed_70 : decode cX5_isClosed 70 = .ok (.ireturn, 1) := by decide +kernel
set_option maxRecDepth 20000 in
theorem ggX5_closed_X5_isPlan : GoodIn wsX5_closed wsX5_isPlan := goodIn_r _ [5, 6, 7, 4, 8] (by decide +kernel) (by decide +kernel)
set_option maxRecDepth 20000 in
theorem gX5_closed_X5_isPlan : GoodIn wsX5_closed (va_wsS RX5 71 yX5_isPlan wsX5_isPlan) := goodIn_app (goodIn_of _ (by decide +kernel)) ggX5_closed_X5_isPlan
set_option maxRecDepth 20000 in
theorem ggX5_closed_X5_isClosed : GoodIn wsX5_closed wsX5_isClosed := goodIn_r _ [12, 13, 14, 15, 16, 17, 18, 19, 20, 21, 22, 23, 24, 25, 26, 27, 28, 29, 30, 31, 32, 33, 34, 35] (by decide +kernel) (by decide +kernel)
set_option maxRecDepth 20000 in
theorem gX5_closed_X5_isClosed : GoodIn wsX5_closed (wsV RX5 78 RX5 yX5_isClosed wsX5_isClosed) := goodIn_app (goodIn_of _ (by decide +kernel)) ggX5_closed_X5_isClosed
theorem dX5_closed_0 : decode cX5_closed 0 = .ok (.aload_n 0, 1) := by decide +kernel
theorem dX5_closed_1 : decode cX5_closed 1 = .ok (.iconst 0, 1) := by decide +kernel
theorem dX5_closed_2 : decode cX5_closed 2 = .ok (.putfield 59, 3) := by decide +kernel
theorem dX5_closed_5 : decode cX5_closed 5 = .ok (.iload_n 1, 1) := by decide +kernel
theorem dX5_closed_6 : decode cX5_closed 6 = .ok (.invokestatic 71, 3) := by decide +kernel
theorem dX5_closed_9 : decode cX5_closed 9 = .ok (.ifCond .ne 7, 3) := by decide +kernel
theorem dX5_closed_12 : decode cX5_closed 12 = .ok (.iconst (-1), 1) := by decide +kernel
theorem dX5_closed_13 : decode cX5_closed 13 = .ok (.goto 16, 3) := by decide +kernel
theorem dX5_closed_16 : decode cX5_closed 16 = .ok (.aload_n 0, 1) := by decide +kernel
theorem dX5_closed_17 : decode cX5_closed 17 = .ok (.iload_n 1, 1) := by decide +kernel
theorem dX5_closed_18 : decode cX5_closed 18 = .ok (.invokevirtual 78, 3) := by decide +kernel
theorem dX5_closed_21 : decode cX5_closed 21 = .ok (.ifCond .eq 7, 3) := by decide +kernel
theorem dX5_closed_24 : decode cX5_closed 24 = .ok (.iconst 1, 1) := by decide +kernel
theorem dX5_closed_25 : decode cX5_closed 25 = .ok (.goto 4, 3) := by decide +kernel
theorem dX5_closed_28 : decode cX5_closed 28 = .ok (.iconst 0, 1) := by decide +kernel
theorem dX5_closed_29 : decode cX5_closed 29 = .ok (.ireturn, 1) := by decide +kernel
set_option maxRecDepth 20000 in
theorem ggX5_shelf_X5_in : GoodIn wsX5_shelf wsX5_in := goodIn_r _ [8] (by decide +kernel) (by decide +kernel)
set_option maxRecDepth 20000 in
theorem gX5_shelf_X5_in : GoodIn wsX5_shelf (va_wsS RX5 63 yX5_in wsX5_in) := goodIn_app (goodIn_of _ (by decide +kernel)) ggX5_shelf_X5_in
theorem dX5_shelf_0 : decode cX5_shelf 0 = .ok (.aload_n 0, 1) := by decide +kernel
theorem dX5_shelf_1 : decode cX5_shelf 1 = .ok (.iconst 0, 1) := by decide +kernel
theorem dX5_shelf_2 : decode cX5_shelf 2 = .ok (.putfield 59, 3) := by decide +kernel
theorem dX5_shelf_5 : decode cX5_shelf 5 = .ok (.iload_n 1, 1) := by decide +kernel
theorem dX5_shelf_6 : decode cX5_shelf 6 = .ok (.iconst 0, 1) := by decide +kernel
theorem dX5_shelf_7 : decode cX5_shelf 7 = .ok (.bipush 7, 2) := by decide +kernel
theorem dX5_shelf_9 : decode cX5_shelf 9 = .ok (.invokestatic 63, 3) := by decide +kernel
theorem dX5_shelf_12 : decode cX5_shelf 12 = .ok (.ifCond .eq 14, 3) := by decide +kernel
theorem dX5_shelf_15 : decode cX5_shelf 15 = .ok (.iload_n 2, 1) := by decide +kernel
theorem dX5_shelf_16 : decode cX5_shelf 16 = .ok (.iconst (-1), 1) := by decide +kernel
theorem dX5_shelf_17 : decode cX5_shelf 17 = .ok (.sipush 1000, 3) := by decide +kernel
theorem dX5_shelf_20 : decode cX5_shelf 20 = .ok (.invokestatic 63, 3) := by decide +kernel
theorem dX5_shelf_23 : decode cX5_shelf 23 = .ok (.ifCond .ne 5, 3) := by decide +kernel
theorem dX5_shelf_26 : decode cX5_shelf 26 = .ok (.iconst (-1), 1) := by decide +kernel
theorem dX5_shelf_27 : decode cX5_shelf 27 = .ok (.ireturn, 1) := by decide +kernel
theorem dX5_shelf_28 : decode cX5_shelf 28 = .ok (.aload_n 0, 1) := by decide +kernel
theorem dX5_shelf_29 : decode cX5_shelf 29 = .ok (.getfield 25, 3) := by decide +kernel
theorem dX5_shelf_32 : decode cX5_shelf 32 = .ok (.iload_n 1, 1) := by decide +kernel
theorem dX5_shelf_33 : decode cX5_shelf 33 = .ok (.baload, 1) := by decide +kernel
theorem dX5_shelf_34 : decode cX5_shelf 34 = .ok (.ifCond .eq 12, 3) := by decide +kernel
theorem dX5_shelf_37 : decode cX5_shelf 37 = .ok (.aload_n 0, 1) := by decide +kernel
theorem dX5_shelf_38 : decode cX5_shelf 38 = .ok (.getfield 29, 3) := by decide +kernel
theorem dX5_shelf_41 : decode cX5_shelf 41 = .ok (.iload_n 1, 1) := by decide +kernel
theorem dX5_shelf_42 : decode cX5_shelf 42 = .ok (.iaload, 1) := by decide +kernel
theorem dX5_shelf_43 : decode cX5_shelf 43 = .ok (.goto 5, 3) := by decide +kernel
theorem dX5_shelf_46 : decode cX5_shelf 46 = .ok (.bipush (-4), 2) := by decide +kernel
theorem dX5_shelf_48 : decode cX5_shelf 48 = .ok (.istore_n 3, 1) := by decide +kernel
theorem dX5_shelf_49 : decode cX5_shelf 49 = .ok (.aload_n 0, 1) := by decide +kernel
theorem dX5_shelf_50 : decode cX5_shelf 50 = .ok (.getfield 25, 3) := by decide +kernel
theorem dX5_shelf_53 : decode cX5_shelf 53 = .ok (.iload_n 1, 1) := by decide +kernel
theorem dX5_shelf_54 : decode cX5_shelf 54 = .ok (.iload_n 2, 1) := by decide +kernel
theorem dX5_shelf_55 : decode cX5_shelf 55 = .ok (.ifCond .lt 7, 3) := by decide +kernel
theorem dX5_shelf_58 : decode cX5_shelf 58 = .ok (.iconst 1, 1) := by decide +kernel
theorem dX5_shelf_59 : decode cX5_shelf 59 = .ok (.goto 4, 3) := by decide +kernel
theorem dX5_shelf_62 : decode cX5_shelf 62 = .ok (.iconst 0, 1) := by decide +kernel
theorem dX5_shelf_63 : decode cX5_shelf 63 = .ok (.bastore, 1) := by decide +kernel
theorem dX5_shelf_64 : decode cX5_shelf 64 = .ok (.aload_n 0, 1) := by decide +kernel
theorem dX5_shelf_65 : decode cX5_shelf 65 = .ok (.getfield 29, 3) := by decide +kernel
theorem dX5_shelf_68 : decode cX5_shelf 68 = .ok (.iload_n 1, 1) := by decide +kernel
theorem dX5_shelf_69 : decode cX5_shelf 69 = .ok (.iload_n 2, 1) := by decide +kernel
theorem dX5_shelf_70 : decode cX5_shelf 70 = .ok (.ifCond .ge 7, 3) := by decide +kernel
theorem dX5_shelf_73 : decode cX5_shelf 73 = .ok (.iconst 0, 1) := by decide +kernel
theorem dX5_shelf_74 : decode cX5_shelf 74 = .ok (.goto 4, 3) := by decide +kernel
theorem dX5_shelf_77 : decode cX5_shelf 77 = .ok (.iload_n 2, 1) := by decide +kernel
theorem dX5_shelf_78 : decode cX5_shelf 78 = .ok (.iastore, 1) := by decide +kernel
theorem dX5_shelf_79 : decode cX5_shelf 79 = .ok (.aload_n 0, 1) := by decide +kernel
theorem dX5_shelf_80 : decode cX5_shelf 80 = .ok (.getfield 32, 3) := by decide +kernel
theorem dX5_shelf_83 : decode cX5_shelf 83 = .ok (.iload_n 1, 1) := by decide +kernel
theorem dX5_shelf_84 : decode cX5_shelf 84 = .ok (.iconst 0, 1) := by decide +kernel
theorem dX5_shelf_85 : decode cX5_shelf 85 = .ok (.iastore, 1) := by decide +kernel
theorem dX5_shelf_86 : decode cX5_shelf 86 = .ok (.iload_n 3, 1) := by decide +kernel
theorem dX5_shelf_87 : decode cX5_shelf 87 = .ok (.ireturn, 1) := by decide +kernel
theorem dX5_begins_0 : decode cX5_begins 0 = .ok (.aload_n 0, 1) := by decide +kernel
theorem dX5_begins_1 : decode cX5_begins 1 = .ok (.getfield 50, 3) := by decide +kernel
theorem dX5_begins_4 : decode cX5_begins 4 = .ok (.aload_n 0, 1) := by decide +kernel
theorem dX5_begins_5 : decode cX5_begins 5 = .ok (.getfield 81, 3) := by decide +kernel
theorem dX5_begins_8 : decode cX5_begins 8 = .ok (.iload_n 1, 1) := by decide +kernel
theorem dX5_begins_9 : decode cX5_begins 9 = .ok (.iastore, 1) := by decide +kernel
theorem dX5_begins_10 : decode cX5_begins 10 = .ok (.aload_n 0, 1) := by decide +kernel
theorem dX5_begins_11 : decode cX5_begins 11 = .ok (.getfield 53, 3) := by decide +kernel
theorem dX5_begins_14 : decode cX5_begins 14 = .ok (.aload_n 0, 1) := by decide +kernel
theorem dX5_begins_15 : decode cX5_begins 15 = .ok (.getfield 81, 3) := by decide +kernel
theorem dX5_begins_18 : decode cX5_begins 18 = .ok (.iload_n 2, 1) := by decide +kernel
theorem dX5_begins_19 : decode cX5_begins 19 = .ok (.iastore, 1) := by decide +kernel
theorem dX5_begins_20 : decode cX5_begins 20 = .ok (.aload_n 0, 1) := by decide +kernel
theorem dX5_begins_21 : decode cX5_begins 21 = .ok (.getfield 56, 3) := by decide +kernel
theorem dX5_begins_24 : decode cX5_begins 24 = .ok (.aload_n 0, 1) := by decide +kernel
theorem dX5_begins_25 : decode cX5_begins 25 = .ok (.getfield 81, 3) := by decide +kernel
theorem dX5_begins_28 : decode cX5_begins 28 = .ok (.aload_n 0, 1) := by decide +kernel
theorem dX5_begins_29 : decode cX5_begins 29 = .ok (.getfield 84, 3) := by decide +kernel
theorem dX5_begins_32 : decode cX5_begins 32 = .ok (.iastore, 1) := by decide +kernel
theorem dX5_begins_33 : decode cX5_begins 33 = .ok (.aload_n 0, 1) := by decide +kernel
theorem dX5_begins_34 : decode cX5_begins 34 = .ok (.dup, 1) := by decide +kernel
theorem dX5_begins_35 : decode cX5_begins 35 = .ok (.getfield 81, 3) := by decide +kernel
theorem dX5_begins_38 : decode cX5_begins 38 = .ok (.iconst 1, 1) := by decide +kernel
theorem dX5_begins_39 : decode cX5_begins 39 = .ok (.iadd, 1) := by decide +kernel
theorem dX5_begins_40 : decode cX5_begins 40 = .ok (.putfield 81, 3) := by decide +kernel
theorem dX5_begins_43 : decode cX5_begins 43 = .ok (.return_, 1) := by decide +kernel
theorem dX5_behind_0 : decode cX5_behind 0 = .ok (.iconst 1, 1) := by decide +kernel
theorem dX5_behind_1 : decode cX5_behind 1 = .ok (.istore_n 3, 1) := by decide +kernel
theorem dX5_behind_2 : decode cX5_behind 2 = .ok (.iload_n 2, 1) := by decide +kernel
theorem dX5_behind_3 : decode cX5_behind 3 = .ok (.iconst 1, 1) := by decide +kernel
theorem dX5_behind_4 : decode cX5_behind 4 = .ok (.iadd, 1) := by decide +kernel
theorem dX5_behind_5 : decode cX5_behind 5 = .ok (.istore 4, 2) := by decide +kernel
theorem dX5_behind_7 : decode cX5_behind 7 = .ok (.iload_n 3, 1) := by decide +kernel
theorem dX5_behind_8 : decode cX5_behind 8 = .ok (.ifCond .le 47, 3) := by decide +kernel
theorem dX5_behind_11 : decode cX5_behind 11 = .ok (.aload_n 0, 1) := by decide +kernel
theorem dX5_behind_12 : decode cX5_behind 12 = .ok (.getfield 13, 3) := by decide +kernel
theorem dX5_behind_15 : decode cX5_behind 15 = .ok (.bipush 40, 2) := by decide +kernel
theorem dX5_behind_17 : decode cX5_behind 17 = .ok (.iload_n 1, 1) := by decide +kernel
theorem dX5_behind_18 : decode cX5_behind 18 = .ok (.imul, 1) := by decide +kernel
theorem dX5_behind_19 : decode cX5_behind 19 = .ok (.iload 4, 2) := by decide +kernel
theorem dX5_behind_21 : decode cX5_behind 21 = .ok (.iadd, 1) := by decide +kernel
theorem dX5_behind_22 : decode cX5_behind 22 = .ok (.iaload, 1) := by decide +kernel
theorem dX5_behind_23 : decode cX5_behind 23 = .ok (.istore 5, 2) := by decide +kernel
theorem dX5_behind_25 : decode cX5_behind 25 = .ok (.iload_n 3, 1) := by decide +kernel
theorem dX5_behind_26 : decode cX5_behind 26 = .ok (.iload 5, 2) := by decide +kernel
theorem dX5_behind_28 : decode cX5_behind 28 = .ok (.iconst 1, 1) := by decide +kernel
theorem dX5_behind_29 : decode cX5_behind 29 = .ok (.if_icmp .gt 7, 3) := by decide +kernel
theorem dX5_behind_32 : decode cX5_behind 32 = .ok (.iconst 1, 1) := by decide +kernel
theorem dX5_behind_33 : decode cX5_behind 33 = .ok (.goto 14, 3) := by decide +kernel
theorem dX5_behind_36 : decode cX5_behind 36 = .ok (.iload 5, 2) := by decide +kernel
theorem dX5_behind_38 : decode cX5_behind 38 = .ok (.iconst 2, 1) := by decide +kernel
theorem dX5_behind_39 : decode cX5_behind 39 = .ok (.if_icmp .ne 7, 3) := by decide +kernel
theorem dX5_behind_42 : decode cX5_behind 42 = .ok (.iconst (-1), 1) := by decide +kernel
theorem dX5_behind_43 : decode cX5_behind 43 = .ok (.goto 4, 3) := by decide +kernel
theorem dX5_behind_46 : decode cX5_behind 46 = .ok (.iconst 0, 1) := by decide +kernel
theorem dX5_behind_47 : decode cX5_behind 47 = .ok (.iadd, 1) := by decide +kernel
theorem dX5_behind_48 : decode cX5_behind 48 = .ok (.istore_n 3, 1) := by decide +kernel
theorem dX5_behind_49 : decode cX5_behind 49 = .ok (.iinc 4 1, 3) := by decide +kernel
theorem dX5_behind_52 : decode cX5_behind 52 = .ok (.goto (-45), 3) := by decide +kernel
theorem dX5_behind_55 : decode cX5_behind 55 = .ok (.iload 4, 2) := by decide +kernel
theorem dX5_behind_57 : decode cX5_behind 57 = .ok (.ireturn, 1) := by decide +kernel
theorem dX5_closes_0 : decode cX5_closes 0 = .ok (.aload_n 0, 1) := by decide +kernel
theorem dX5_closes_1 : decode cX5_closes 1 = .ok (.dup, 1) := by decide +kernel
theorem dX5_closes_2 : decode cX5_closes 2 = .ok (.getfield 81, 3) := by decide +kernel
theorem dX5_closes_5 : decode cX5_closes 5 = .ok (.iconst 1, 1) := by decide +kernel
theorem dX5_closes_6 : decode cX5_closes 6 = .ok (.isub, 1) := by decide +kernel
theorem dX5_closes_7 : decode cX5_closes 7 = .ok (.putfield 81, 3) := by decide +kernel
theorem dX5_closes_10 : decode cX5_closes 10 = .ok (.aload_n 0, 1) := by decide +kernel
theorem dX5_closes_11 : decode cX5_closes 11 = .ok (.getfield 50, 3) := by decide +kernel
theorem dX5_closes_14 : decode cX5_closes 14 = .ok (.aload_n 0, 1) := by decide +kernel
theorem dX5_closes_15 : decode cX5_closes 15 = .ok (.getfield 81, 3) := by decide +kernel
theorem dX5_closes_18 : decode cX5_closes 18 = .ok (.iaload, 1) := by decide +kernel
theorem dX5_closes_19 : decode cX5_closes 19 = .ok (.istore_n 2, 1) := by decide +kernel
theorem dX5_closes_20 : decode cX5_closes 20 = .ok (.iload_n 2, 1) := by decide +kernel
theorem dX5_closes_21 : decode cX5_closes 21 = .ok (.bipush 10, 2) := by decide +kernel
theorem dX5_closes_23 : decode cX5_closes 23 = .ok (.if_icmp .ge 41, 3) := by decide +kernel
theorem dX5_closes_26 : decode cX5_closes 26 = .ok (.aload_n 0, 1) := by decide +kernel
theorem dX5_closes_27 : decode cX5_closes 27 = .ok (.getfield 35, 3) := by decide +kernel
theorem dX5_closes_30 : decode cX5_closes 30 = .ok (.iload_n 2, 1) := by decide +kernel
theorem dX5_closes_31 : decode cX5_closes 31 = .ok (.dup2, 1) := by decide +kernel
theorem dX5_closes_32 : decode cX5_closes 32 = .ok (.iaload, 1) := by decide +kernel
theorem dX5_closes_33 : decode cX5_closes 33 = .ok (.iconst 1, 1) := by decide +kernel
theorem dX5_closes_34 : decode cX5_closes 34 = .ok (.isub, 1) := by decide +kernel
theorem dX5_closes_35 : decode cX5_closes 35 = .ok (.iastore, 1) := by decide +kernel
theorem dX5_closes_36 : decode cX5_closes 36 = .ok (.aload_n 0, 1) := by decide +kernel
theorem dX5_closes_37 : decode cX5_closes 37 = .ok (.dup, 1) := by decide +kernel
theorem dX5_closes_38 : decode cX5_closes 38 = .ok (.getfield 87, 3) := by decide +kernel
theorem dX5_closes_41 : decode cX5_closes 41 = .ok (.iconst 1, 1) := by decide +kernel
theorem dX5_closes_42 : decode cX5_closes 42 = .ok (.isub, 1) := by decide +kernel
theorem dX5_closes_43 : decode cX5_closes 43 = .ok (.putfield 87, 3) := by decide +kernel
theorem dX5_closes_46 : decode cX5_closes 46 = .ok (.aload_n 0, 1) := by decide +kernel
theorem dX5_closes_47 : decode cX5_closes 47 = .ok (.getfield 32, 3) := by decide +kernel
theorem dX5_closes_50 : decode cX5_closes 50 = .ok (.iload_n 2, 1) := by decide +kernel
theorem dX5_closes_51 : decode cX5_closes 51 = .ok (.dup2, 1) := by decide +kernel
theorem dX5_closes_52 : decode cX5_closes 52 = .ok (.iaload, 1) := by decide +kernel
theorem dX5_closes_53 : decode cX5_closes 53 = .ok (.iload_n 1, 1) := by decide +kernel
theorem dX5_closes_54 : decode cX5_closes 54 = .ok (.ifCond .eq 7, 3) := by decide +kernel
theorem dX5_closes_57 : decode cX5_closes 57 = .ok (.iconst 1, 1) := by decide +kernel
theorem dX5_closes_58 : decode cX5_closes 58 = .ok (.goto 4, 3) := by decide +kernel
theorem dX5_closes_61 : decode cX5_closes 61 = .ok (.iconst 0, 1) := by decide +kernel
theorem dX5_closes_62 : decode cX5_closes 62 = .ok (.iadd, 1) := by decide +kernel
theorem dX5_closes_63 : decode cX5_closes 63 = .ok (.iastore, 1) := by decide +kernel
theorem dX5_closes_64 : decode cX5_closes 64 = .ok (.return_, 1) := by decide +kernel
theorem dX5_wrongShelf_0 : decode cX5_wrongShelf 0 = .ok (.iload_n 1, 1) := by decide +kernel
theorem dX5_wrongShelf_1 : decode cX5_wrongShelf 1 = .ok (.bipush 7, 2) := by decide +kernel
theorem dX5_wrongShelf_3 : decode cX5_wrongShelf 3 = .ok (.if_icmp .le 7, 3) := by decide +kernel
theorem dX5_wrongShelf_6 : decode cX5_wrongShelf 6 = .ok (.iconst 1, 1) := by decide +kernel
theorem dX5_wrongShelf_7 : decode cX5_wrongShelf 7 = .ok (.goto 17, 3) := by decide +kernel
theorem dX5_wrongShelf_10 : decode cX5_wrongShelf 10 = .ok (.aload_n 0, 1) := by decide +kernel
theorem dX5_wrongShelf_11 : decode cX5_wrongShelf 11 = .ok (.getfield 25, 3) := by decide +kernel
theorem dX5_wrongShelf_14 : decode cX5_wrongShelf 14 = .ok (.iload_n 1, 1) := by decide +kernel
theorem dX5_wrongShelf_15 : decode cX5_wrongShelf 15 = .ok (.baload, 1) := by decide +kernel
theorem dX5_wrongShelf_16 : decode cX5_wrongShelf 16 = .ok (.ifCond .ne 7, 3) := by decide +kernel
theorem dX5_wrongShelf_19 : decode cX5_wrongShelf 19 = .ok (.iconst 2, 1) := by decide +kernel
theorem dX5_wrongShelf_20 : decode cX5_wrongShelf 20 = .ok (.goto 4, 3) := by decide +kernel
theorem dX5_wrongShelf_23 : decode cX5_wrongShelf 23 = .ok (.iconst 0, 1) := by decide +kernel
theorem dX5_wrongShelf_24 : decode cX5_wrongShelf 24 = .ok (.ireturn, 1) := by decide +kernel
set_option maxRecDepth 20000 in
theorem ggX5_hold_X5_wrongShelf : GoodIn wsX5_hold wsX5_wrongShelf := goodIn_r _ [8, 9, 19, 20, 21, 22, 23, 24, 25, 26, 27, 28, 29, 30, 31, 32, 33, 34, 35, 36, 37, 38, 39] (by decide +kernel) (by decide +kernel)
set_option maxRecDepth 20000 in
theorem gX5_hold_X5_wrongShelf : GoodIn wsX5_hold (wsV RX5 90 RX5 yX5_wrongShelf wsX5_wrongShelf) := goodIn_app (goodIn_of _ (by decide +kernel)) ggX5_hold_X5_wrongShelf
set_option maxRecDepth 20000 in
theorem ggX5_hold_X5_begins : GoodIn wsX5_hold wsX5_begins := goodIn_r _ [13, 14, 15, 16, 17, 18, 19, 20, 21, 22, 23, 24, 25, 26, 27, 28, 29, 30, 31, 32, 33, 34, 35, 36, 37, 38, 39] (by decide +kernel) (by decide +kernel)
set_option maxRecDepth 20000 in
theorem gX5_hold_X5_begins : GoodIn wsX5_hold (wsV RX5 94 RX5 yX5_begins wsX5_begins) := goodIn_app (goodIn_of _ (by decide +kernel)) ggX5_hold_X5_begins
theorem dX5_hold_0 : decode cX5_hold 0 = .ok (.aload_n 0, 1) := by decide +kernel
theorem dX5_hold_1 : decode cX5_hold 1 = .ok (.iload_n 1, 1) := by decide +kernel
theorem dX5_hold_2 : decode cX5_hold 2 = .ok (.invokevirtual 90, 3) := by decide +kernel
theorem dX5_hold_5 : decode cX5_hold 5 = .ok (.istore_n 3, 1) := by decide +kernel
theorem dX5_hold_6 : decode cX5_hold 6 = .ok (.iload_n 3, 1) := by decide +kernel
theorem dX5_hold_7 : decode cX5_hold 7 = .ok (.ifCond .ne 71, 3) := by decide +kernel
theorem dX5_hold_10 : decode cX5_hold 10 = .ok (.aload_n 0, 1) := by decide +kernel
theorem dX5_hold_11 : decode cX5_hold 11 = .ok (.iload_n 1, 1) := by decide +kernel
theorem dX5_hold_12 : decode cX5_hold 12 = .ok (.iload_n 2, 1) := by decide +kernel
theorem dX5_hold_13 : decode cX5_hold 13 = .ok (.invokevirtual 94, 3) := by decide +kernel
theorem dX5_hold_16 : decode cX5_hold 16 = .ok (.aload_n 0, 1) := by decide +kernel
theorem dX5_hold_17 : decode cX5_hold 17 = .ok (.getfield 35, 3) := by decide +kernel
theorem dX5_hold_20 : decode cX5_hold 20 = .ok (.iload_n 1, 1) := by decide +kernel
theorem dX5_hold_21 : decode cX5_hold 21 = .ok (.dup2, 1) := by decide +kernel
theorem dX5_hold_22 : decode cX5_hold 22 = .ok (.iaload, 1) := by decide +kernel
theorem dX5_hold_23 : decode cX5_hold 23 = .ok (.iconst 1, 1) := by decide +kernel
theorem dX5_hold_24 : decode cX5_hold 24 = .ok (.iadd, 1) := by decide +kernel
theorem dX5_hold_25 : decode cX5_hold 25 = .ok (.iastore, 1) := by decide +kernel
theorem dX5_hold_26 : decode cX5_hold 26 = .ok (.aload_n 0, 1) := by decide +kernel
theorem dX5_hold_27 : decode cX5_hold 27 = .ok (.dup, 1) := by decide +kernel
theorem dX5_hold_28 : decode cX5_hold 28 = .ok (.getfield 87, 3) := by decide +kernel
theorem dX5_hold_31 : decode cX5_hold 31 = .ok (.iconst 1, 1) := by decide +kernel
theorem dX5_hold_32 : decode cX5_hold 32 = .ok (.iadd, 1) := by decide +kernel
theorem dX5_hold_33 : decode cX5_hold 33 = .ok (.putfield 87, 3) := by decide +kernel
theorem dX5_hold_36 : decode cX5_hold 36 = .ok (.aload_n 0, 1) := by decide +kernel
theorem dX5_hold_37 : decode cX5_hold 37 = .ok (.getfield 38, 3) := by decide +kernel
theorem dX5_hold_40 : decode cX5_hold 40 = .ok (.iconst 4, 1) := by decide +kernel
theorem dX5_hold_41 : decode cX5_hold 41 = .ok (.dup2, 1) := by decide +kernel
theorem dX5_hold_42 : decode cX5_hold 42 = .ok (.iaload, 1) := by decide +kernel
theorem dX5_hold_43 : decode cX5_hold 43 = .ok (.iconst 1, 1) := by decide +kernel
theorem dX5_hold_44 : decode cX5_hold 44 = .ok (.iadd, 1) := by decide +kernel
theorem dX5_hold_45 : decode cX5_hold 45 = .ok (.iastore, 1) := by decide +kernel
theorem dX5_hold_46 : decode cX5_hold 46 = .ok (.aload_n 0, 1) := by decide +kernel
theorem dX5_hold_47 : decode cX5_hold 47 = .ok (.getfield 38, 3) := by decide +kernel
theorem dX5_hold_50 : decode cX5_hold 50 = .ok (.iconst 5, 1) := by decide +kernel
theorem dX5_hold_51 : decode cX5_hold 51 = .ok (.aload_n 0, 1) := by decide +kernel
theorem dX5_hold_52 : decode cX5_hold 52 = .ok (.getfield 87, 3) := by decide +kernel
theorem dX5_hold_55 : decode cX5_hold 55 = .ok (.aload_n 0, 1) := by decide +kernel
theorem dX5_hold_56 : decode cX5_hold 56 = .ok (.getfield 38, 3) := by decide +kernel
theorem dX5_hold_59 : decode cX5_hold 59 = .ok (.iconst 5, 1) := by decide +kernel
theorem dX5_hold_60 : decode cX5_hold 60 = .ok (.iaload, 1) := by decide +kernel
theorem dX5_hold_61 : decode cX5_hold 61 = .ok (.if_icmp .le 10, 3) := by decide +kernel
theorem dX5_hold_64 : decode cX5_hold 64 = .ok (.aload_n 0, 1) := by decide +kernel
theorem dX5_hold_65 : decode cX5_hold 65 = .ok (.getfield 87, 3) := by decide +kernel
theorem dX5_hold_68 : decode cX5_hold 68 = .ok (.goto 9, 3) := by decide +kernel
theorem dX5_hold_71 : decode cX5_hold 71 = .ok (.aload_n 0, 1) := by decide +kernel
theorem dX5_hold_72 : decode cX5_hold 72 = .ok (.getfield 38, 3) := by decide +kernel
theorem dX5_hold_75 : decode cX5_hold 75 = .ok (.iconst 5, 1) := by decide +kernel
theorem dX5_hold_76 : decode cX5_hold 76 = .ok (.iaload, 1) := by decide +kernel
theorem dX5_hold_77 : decode cX5_hold 77 = .ok (.iastore, 1) := by decide +kernel
theorem dX5_hold_78 : decode cX5_hold 78 = .ok (.iload_n 3, 1) := by decide +kernel
theorem dX5_hold_79 : decode cX5_hold 79 = .ok (.ireturn, 1) := by decide +kernel
set_option maxRecDepth 20000 in
theorem ggX5_change_X5_wrongShelf : GoodIn wsX5_change wsX5_wrongShelf := goodIn_r _ [8, 9, 10, 11, 12, 13, 14, 15, 16, 17, 18, 19, 20, 21, 22, 23, 24, 25, 26, 27, 28, 29, 30] (by decide +kernel) (by decide +kernel)
set_option maxRecDepth 20000 in
theorem gX5_change_X5_wrongShelf : GoodIn wsX5_change (wsV RX5 90 RX5 yX5_wrongShelf wsX5_wrongShelf) := goodIn_app (goodIn_of _ (by decide +kernel)) ggX5_change_X5_wrongShelf
theorem dX5_change_0 : decode cX5_change 0 = .ok (.aload_n 0, 1) := by decide +kernel
theorem dX5_change_1 : decode cX5_change 1 = .ok (.iload_n 2, 1) := by decide +kernel
theorem dX5_change_2 : decode cX5_change 2 = .ok (.invokevirtual 90, 3) := by decide +kernel
theorem dX5_change_5 : decode cX5_change 5 = .ok (.istore 4, 2) := by decide +kernel
theorem dX5_change_7 : decode cX5_change 7 = .ok (.iload 4, 2) := by decide +kernel
theorem dX5_change_9 : decode cX5_change 9 = .ok (.ifCond .eq 6, 3) := by decide +kernel
theorem dX5_change_12 : decode cX5_change 12 = .ok (.iload 4, 2) := by decide +kernel
theorem dX5_change_14 : decode cX5_change 14 = .ok (.ireturn, 1) := by decide +kernel
theorem dX5_change_15 : decode cX5_change 15 = .ok (.aload_n 0, 1) := by decide +kernel
theorem dX5_change_16 : decode cX5_change 16 = .ok (.getfield 35, 3) := by decide +kernel
theorem dX5_change_19 : decode cX5_change 19 = .ok (.iload_n 2, 1) := by decide +kernel
theorem dX5_change_20 : decode cX5_change 20 = .ok (.iaload, 1) := by decide +kernel
theorem dX5_change_21 : decode cX5_change 21 = .ok (.ifCond .ne 6, 3) := by decide +kernel
theorem dX5_change_24 : decode cX5_change 24 = .ok (.bipush 7, 2) := by decide +kernel
theorem dX5_change_26 : decode cX5_change 26 = .ok (.ireturn, 1) := by decide +kernel
theorem dX5_change_27 : decode cX5_change 27 = .ok (.iload_n 1, 1) := by decide +kernel
theorem dX5_change_28 : decode cX5_change 28 = .ok (.iconst 5, 1) := by decide +kernel
theorem dX5_change_29 : decode cX5_change 29 = .ok (.if_icmp .ne 47, 3) := by decide +kernel
theorem dX5_change_32 : decode cX5_change 32 = .ok (.iload_n 3, 1) := by decide +kernel
theorem dX5_change_33 : decode cX5_change 33 = .ok (.ifCond .ne 5, 3) := by decide +kernel
theorem dX5_change_36 : decode cX5_change 36 = .ok (.iconst 3, 1) := by decide +kernel
theorem dX5_change_37 : decode cX5_change 37 = .ok (.ireturn, 1) := by decide +kernel
theorem dX5_change_38 : decode cX5_change 38 = .ok (.aload_n 0, 1) := by decide +kernel
theorem dX5_change_39 : decode cX5_change 39 = .ok (.getfield 29, 3) := by decide +kernel
theorem dX5_change_42 : decode cX5_change 42 = .ok (.iload_n 2, 1) := by decide +kernel
theorem dX5_change_43 : decode cX5_change 43 = .ok (.iaload, 1) := by decide +kernel
theorem dX5_change_44 : decode cX5_change 44 = .ok (.iload_n 3, 1) := by decide +kernel
theorem dX5_change_45 : decode cX5_change 45 = .ok (.idiv, 1) := by decide +kernel
theorem dX5_change_46 : decode cX5_change 46 = .ok (.istore 5, 2) := by decide +kernel
theorem dX5_change_48 : decode cX5_change 48 = .ok (.aload_n 0, 1) := by decide +kernel
theorem dX5_change_49 : decode cX5_change 49 = .ok (.dup, 1) := by decide +kernel
theorem dX5_change_50 : decode cX5_change 50 = .ok (.getfield 98, 3) := by decide +kernel
theorem dX5_change_53 : decode cX5_change 53 = .ok (.aload_n 0, 1) := by decide +kernel
theorem dX5_change_54 : decode cX5_change 54 = .ok (.getfield 29, 3) := by decide +kernel
theorem dX5_change_57 : decode cX5_change 57 = .ok (.iload_n 2, 1) := by decide +kernel
theorem dX5_change_58 : decode cX5_change 58 = .ok (.iaload, 1) := by decide +kernel
theorem dX5_change_59 : decode cX5_change 59 = .ok (.iload 5, 2) := by decide +kernel
theorem dX5_change_61 : decode cX5_change 61 = .ok (.isub, 1) := by decide +kernel
theorem dX5_change_62 : decode cX5_change 62 = .ok (.iadd, 1) := by decide +kernel
theorem dX5_change_63 : decode cX5_change 63 = .ok (.putfield 98, 3) := by decide +kernel
theorem dX5_change_66 : decode cX5_change 66 = .ok (.aload_n 0, 1) := by decide +kernel
theorem dX5_change_67 : decode cX5_change 67 = .ok (.getfield 29, 3) := by decide +kernel
theorem dX5_change_70 : decode cX5_change 70 = .ok (.iload_n 2, 1) := by decide +kernel
theorem dX5_change_71 : decode cX5_change 71 = .ok (.iload 5, 2) := by decide +kernel
theorem dX5_change_73 : decode cX5_change 73 = .ok (.iastore, 1) := by decide +kernel
theorem dX5_change_74 : decode cX5_change 74 = .ok (.iconst 0, 1) := by decide +kernel
theorem dX5_change_75 : decode cX5_change 75 = .ok (.ireturn, 1) := by decide +kernel
theorem dX5_change_76 : decode cX5_change 76 = .ok (.iload_n 1, 1) := by decide +kernel
theorem dX5_change_77 : decode cX5_change 77 = .ok (.iconst 3, 1) := by decide +kernel
theorem dX5_change_78 : decode cX5_change 78 = .ok (.if_icmp .ne 14, 3) := by decide +kernel
theorem dX5_change_81 : decode cX5_change 81 = .ok (.aload_n 0, 1) := by decide +kernel
theorem dX5_change_82 : decode cX5_change 82 = .ok (.getfield 29, 3) := by decide +kernel
theorem dX5_change_85 : decode cX5_change 85 = .ok (.iload_n 2, 1) := by decide +kernel
theorem dX5_change_86 : decode cX5_change 86 = .ok (.iaload, 1) := by decide +kernel
theorem dX5_change_87 : decode cX5_change 87 = .ok (.iload_n 3, 1) := by decide +kernel
theorem dX5_change_88 : decode cX5_change 88 = .ok (.iadd, 1) := by decide +kernel
theorem dX5_change_89 : decode cX5_change 89 = .ok (.goto 11, 3) := by decide +kernel
theorem dX5_change_92 : decode cX5_change 92 = .ok (.aload_n 0, 1) := by decide +kernel
theorem dX5_change_93 : decode cX5_change 93 = .ok (.getfield 29, 3) := by decide +kernel
theorem dX5_change_96 : decode cX5_change 96 = .ok (.iload_n 2, 1) := by decide +kernel
theorem dX5_change_97 : decode cX5_change 97 = .ok (.iaload, 1) := by decide +kernel
theorem dX5_change_98 : decode cX5_change 98 = .ok (.iload_n 3, 1) := by decide +kernel
theorem dX5_change_99 : decode cX5_change 99 = .ok (.isub, 1) := by decide +kernel
theorem dX5_change_100 : decode cX5_change 100 = .ok (.istore 5, 2) := by decide +kernel
theorem dX5_change_102 : decode cX5_change 102 = .ok (.iload 5, 2) := by decide +kernel
theorem dX5_change_104 : decode cX5_change 104 = .ok (.ifCond .lt 11, 3) := by decide +kernel
theorem dX5_change_107 : decode cX5_change 107 = .ok (.iload 5, 2) := by decide +kernel
theorem dX5_change_109 : decode cX5_change 109 = .ok (.sipush 1000, 3) := by decide +kernel
theorem dX5_change_112 : decode cX5_change 112 = .ok (.if_icmp .le 14, 3) := by decide +kernel
theorem dX5_change_115 : decode cX5_change 115 = .ok (.iload 5, 2) := by decide +kernel
theorem dX5_change_117 : decode cX5_change 117 = .ok (.ifCond .ge 7, 3) := by decide +kernel
theorem dX5_change_120 : decode cX5_change 120 = .ok (.iconst 4, 1) := by decide +kernel
theorem dX5_change_121 : decode cX5_change 121 = .ok (.goto 4, 3) := by decide +kernel
theorem dX5_change_124 : decode cX5_change 124 = .ok (.iconst 5, 1) := by decide +kernel
theorem dX5_change_125 : decode cX5_change 125 = .ok (.ireturn, 1) := by decide +kernel
theorem dX5_change_126 : decode cX5_change 126 = .ok (.aload_n 0, 1) := by decide +kernel
theorem dX5_change_127 : decode cX5_change 127 = .ok (.getfield 29, 3) := by decide +kernel
theorem dX5_change_130 : decode cX5_change 130 = .ok (.iload_n 2, 1) := by decide +kernel
theorem dX5_change_131 : decode cX5_change 131 = .ok (.iload 5, 2) := by decide +kernel
theorem dX5_change_133 : decode cX5_change 133 = .ok (.iastore, 1) := by decide +kernel
theorem dX5_change_134 : decode cX5_change 134 = .ok (.iconst 0, 1) := by decide +kernel
theorem dX5_change_135 : decode cX5_change 135 = .ok (.ireturn, 1) := by decide +kernel
theorem dX5_move_0 : decode cX5_move 0 = .ok (.iload_n 1, 1) := by decide +kernel
theorem dX5_move_1 : decode cX5_move 1 = .ok (.bipush 7, 2) := by decide +kernel
theorem dX5_move_3 : decode cX5_move 3 = .ok (.if_icmp .gt 9, 3) := by decide +kernel
theorem dX5_move_6 : decode cX5_move 6 = .ok (.iload_n 2, 1) := by decide +kernel
theorem dX5_move_7 : decode cX5_move 7 = .ok (.bipush 7, 2) := by decide +kernel
theorem dX5_move_9 : decode cX5_move 9 = .ok (.if_icmp .le 5, 3) := by decide +kernel
theorem dX5_move_12 : decode cX5_move 12 = .ok (.iconst 1, 1) := by decide +kernel
theorem dX5_move_13 : decode cX5_move 13 = .ok (.ireturn, 1) := by decide +kernel
theorem dX5_move_14 : decode cX5_move 14 = .ok (.aload_n 0, 1) := by decide +kernel
theorem dX5_move_15 : decode cX5_move 15 = .ok (.getfield 25, 3) := by decide +kernel
theorem dX5_move_18 : decode cX5_move 18 = .ok (.iload_n 1, 1) := by decide +kernel
theorem dX5_move_19 : decode cX5_move 19 = .ok (.baload, 1) := by decide +kernel
theorem dX5_move_20 : decode cX5_move 20 = .ok (.ifCond .eq 12, 3) := by decide +kernel
theorem dX5_move_23 : decode cX5_move 23 = .ok (.aload_n 0, 1) := by decide +kernel
theorem dX5_move_24 : decode cX5_move 24 = .ok (.getfield 25, 3) := by decide +kernel
theorem dX5_move_27 : decode cX5_move 27 = .ok (.iload_n 2, 1) := by decide +kernel
theorem dX5_move_28 : decode cX5_move 28 = .ok (.baload, 1) := by decide +kernel
theorem dX5_move_29 : decode cX5_move 29 = .ok (.ifCond .ne 5, 3) := by decide +kernel
theorem dX5_move_32 : decode cX5_move 32 = .ok (.iconst 2, 1) := by decide +kernel
theorem dX5_move_33 : decode cX5_move 33 = .ok (.ireturn, 1) := by decide +kernel
theorem dX5_move_34 : decode cX5_move 34 = .ok (.iload_n 3, 1) := by decide +kernel
theorem dX5_move_35 : decode cX5_move 35 = .ok (.aload_n 0, 1) := by decide +kernel
theorem dX5_move_36 : decode cX5_move 36 = .ok (.getfield 29, 3) := by decide +kernel
theorem dX5_move_39 : decode cX5_move 39 = .ok (.iload_n 1, 1) := by decide +kernel
theorem dX5_move_40 : decode cX5_move 40 = .ok (.iaload, 1) := by decide +kernel
theorem dX5_move_41 : decode cX5_move 41 = .ok (.if_icmp .le 5, 3) := by decide +kernel
theorem dX5_move_44 : decode cX5_move 44 = .ok (.iconst 4, 1) := by decide +kernel
theorem dX5_move_45 : decode cX5_move 45 = .ok (.ireturn, 1) := by decide +kernel
theorem dX5_move_46 : decode cX5_move 46 = .ok (.iload_n 1, 1) := by decide +kernel
theorem dX5_move_47 : decode cX5_move 47 = .ok (.iload_n 2, 1) := by decide +kernel
theorem dX5_move_48 : decode cX5_move 48 = .ok (.if_icmp .eq 19, 3) := by decide +kernel
theorem dX5_move_51 : decode cX5_move 51 = .ok (.aload_n 0, 1) := by decide +kernel
theorem dX5_move_52 : decode cX5_move 52 = .ok (.getfield 29, 3) := by decide +kernel
theorem dX5_move_55 : decode cX5_move 55 = .ok (.iload_n 2, 1) := by decide +kernel
theorem dX5_move_56 : decode cX5_move 56 = .ok (.iaload, 1) := by decide +kernel
theorem dX5_move_57 : decode cX5_move 57 = .ok (.iload_n 3, 1) := by decide +kernel
theorem dX5_move_58 : decode cX5_move 58 = .ok (.iadd, 1) := by decide +kernel
theorem dX5_move_59 : decode cX5_move 59 = .ok (.sipush 1000, 3) := by decide +kernel
theorem dX5_move_62 : decode cX5_move 62 = .ok (.if_icmp .le 5, 3) := by decide +kernel
theorem dX5_move_65 : decode cX5_move 65 = .ok (.iconst 5, 1) := by decide +kernel
theorem dX5_move_66 : decode cX5_move 66 = .ok (.ireturn, 1) := by decide +kernel
theorem dX5_move_67 : decode cX5_move 67 = .ok (.aload_n 0, 1) := by decide +kernel
theorem dX5_move_68 : decode cX5_move 68 = .ok (.getfield 29, 3) := by decide +kernel
theorem dX5_move_71 : decode cX5_move 71 = .ok (.iload_n 1, 1) := by decide +kernel
theorem dX5_move_72 : decode cX5_move 72 = .ok (.dup2, 1) := by decide +kernel
theorem dX5_move_73 : decode cX5_move 73 = .ok (.iaload, 1) := by decide +kernel
theorem dX5_move_74 : decode cX5_move 74 = .ok (.iload_n 3, 1) := by decide +kernel
theorem dX5_move_75 : decode cX5_move 75 = .ok (.isub, 1) := by decide +kernel
theorem dX5_move_76 : decode cX5_move 76 = .ok (.iastore, 1) := by decide +kernel
theorem dX5_move_77 : decode cX5_move 77 = .ok (.aload_n 0, 1) := by decide +kernel
theorem dX5_move_78 : decode cX5_move 78 = .ok (.getfield 29, 3) := by decide +kernel
theorem dX5_move_81 : decode cX5_move 81 = .ok (.iload_n 2, 1) := by decide +kernel
theorem dX5_move_82 : decode cX5_move 82 = .ok (.dup2, 1) := by decide +kernel
theorem dX5_move_83 : decode cX5_move 83 = .ok (.iaload, 1) := by decide +kernel
theorem dX5_move_84 : decode cX5_move 84 = .ok (.iload_n 3, 1) := by decide +kernel
theorem dX5_move_85 : decode cX5_move 85 = .ok (.iadd, 1) := by decide +kernel
theorem dX5_move_86 : decode cX5_move 86 = .ok (.iastore, 1) := by decide +kernel
theorem dX5_move_87 : decode cX5_move 87 = .ok (.iconst 0, 1) := by decide +kernel
theorem dX5_move_88 : decode cX5_move 88 = .ok (.ireturn, 1) := by decide +kernel
set_option maxRecDepth 20000 in
theorem ggX5_call_X5_isPlan : GoodIn wsX5_call wsX5_isPlan := goodIn_r _ [8, 9, 10, 7, 11] (by decide +kernel) (by decide +kernel)
set_option maxRecDepth 20000 in
theorem gX5_call_X5_isPlan : GoodIn wsX5_call (va_wsS RX5 71 yX5_isPlan wsX5_isPlan) := goodIn_app (goodIn_of _ (by decide +kernel)) ggX5_call_X5_isPlan
set_option maxRecDepth 20000 in
theorem ggX5_call_X5_isClosed : GoodIn wsX5_call wsX5_isClosed := goodIn_r _ [15, 16, 17, 18, 19, 20, 21, 22, 23, 24, 25, 26, 27, 28, 29, 30, 31, 32, 33, 34, 35, 36, 37, 38] (by decide +kernel) (by decide +kernel)
set_option maxRecDepth 20000 in
theorem gX5_call_X5_isClosed : GoodIn wsX5_call (wsV RX5 78 RX5 yX5_isClosed wsX5_isClosed) := goodIn_app (goodIn_of _ (by decide +kernel)) ggX5_call_X5_isClosed
theorem dX5_call_0 : decode cX5_call 0 = .ok (.iload_n 1, 1) := by decide +kernel
theorem dX5_call_1 : decode cX5_call 1 = .ok (.invokestatic 71, 3) := by decide +kernel
theorem dX5_call_4 : decode cX5_call 4 = .ok (.ifCond .eq 19, 3) := by decide +kernel
theorem dX5_call_7 : decode cX5_call 7 = .ok (.aload_n 0, 1) := by decide +kernel
theorem dX5_call_8 : decode cX5_call 8 = .ok (.iload_n 1, 1) := by decide +kernel
theorem dX5_call_9 : decode cX5_call 9 = .ok (.invokevirtual 78, 3) := by decide +kernel
theorem dX5_call_12 : decode cX5_call 12 = .ok (.ifCond .eq 11, 3) := by decide +kernel
theorem dX5_call_15 : decode cX5_call 15 = .ok (.aload_n 0, 1) := by decide +kernel
theorem dX5_call_16 : decode cX5_call 16 = .ok (.getfield 84, 3) := by decide +kernel
theorem dX5_call_19 : decode cX5_call 19 = .ok (.iconst 4, 1) := by decide +kernel
theorem dX5_call_20 : decode cX5_call 20 = .ok (.if_icmp .ne 6, 3) := by decide +kernel
theorem dX5_call_23 : decode cX5_call 23 = .ok (.bipush 6, 2) := by decide +kernel
theorem dX5_call_25 : decode cX5_call 25 = .ok (.ireturn, 1) := by decide +kernel
theorem dX5_call_26 : decode cX5_call 26 = .ok (.aload_n 0, 1) := by decide +kernel
theorem dX5_call_27 : decode cX5_call 27 = .ok (.dup, 1) := by decide +kernel
theorem dX5_call_28 : decode cX5_call 28 = .ok (.getfield 84, 3) := by decide +kernel
theorem dX5_call_31 : decode cX5_call 31 = .ok (.iconst 1, 1) := by decide +kernel
theorem dX5_call_32 : decode cX5_call 32 = .ok (.iadd, 1) := by decide +kernel
theorem dX5_call_33 : decode cX5_call 33 = .ok (.putfield 84, 3) := by decide +kernel
theorem dX5_call_36 : decode cX5_call 36 = .ok (.aload_n 0, 1) := by decide +kernel
theorem dX5_call_37 : decode cX5_call 37 = .ok (.getfield 44, 3) := by decide +kernel
theorem dX5_call_40 : decode cX5_call 40 = .ok (.aload_n 0, 1) := by decide +kernel
theorem dX5_call_41 : decode cX5_call 41 = .ok (.getfield 84, 3) := by decide +kernel
theorem dX5_call_44 : decode cX5_call 44 = .ok (.iload_n 1, 1) := by decide +kernel
theorem dX5_call_45 : decode cX5_call 45 = .ok (.iastore, 1) := by decide +kernel
theorem dX5_call_46 : decode cX5_call 46 = .ok (.aload_n 0, 1) := by decide +kernel
theorem dX5_call_47 : decode cX5_call 47 = .ok (.getfield 47, 3) := by decide +kernel
theorem dX5_call_50 : decode cX5_call 50 = .ok (.aload_n 0, 1) := by decide +kernel
theorem dX5_call_51 : decode cX5_call 51 = .ok (.getfield 84, 3) := by decide +kernel
theorem dX5_call_54 : decode cX5_call 54 = .ok (.iconst 0, 1) := by decide +kernel
theorem dX5_call_55 : decode cX5_call 55 = .ok (.iastore, 1) := by decide +kernel
theorem dX5_call_56 : decode cX5_call 56 = .ok (.aload_n 0, 1) := by decide +kernel
theorem dX5_call_57 : decode cX5_call 57 = .ok (.getfield 38, 3) := by decide +kernel
theorem dX5_call_60 : decode cX5_call 60 = .ok (.bipush 7, 2) := by decide +kernel
theorem dX5_call_62 : decode cX5_call 62 = .ok (.dup2, 1) := by decide +kernel
theorem dX5_call_63 : decode cX5_call 63 = .ok (.iaload, 1) := by decide +kernel
theorem dX5_call_64 : decode cX5_call 64 = .ok (.iconst 1, 1) := by decide +kernel
theorem dX5_call_65 : decode cX5_call 65 = .ok (.iadd, 1) := by decide +kernel
theorem dX5_call_66 : decode cX5_call 66 = .ok (.iastore, 1) := by decide +kernel
theorem dX5_call_67 : decode cX5_call 67 = .ok (.iconst 0, 1) := by decide +kernel
theorem dX5_call_68 : decode cX5_call 68 = .ok (.ireturn, 1) := by decide +kernel
set_option maxRecDepth 20000 in
theorem ggX5_does_X5_hold : GoodIn wsX5_does wsX5_hold := goodIn_r _ [9, 10, 11, 12, 13, 14, 15, 8, 16, 17, 18, 19, 20, 21, 22, 23, 24, 25, 26, 59, 60, 61, 62, 63, 64, 65, 66, 67, 68, 69, 70, 71, 72, 73, 74, 75, 76, 77, 78, 79] (by decide +kernel) (by decide +kernel)
set_option maxRecDepth 20000 in
theorem gX5_does_X5_hold : GoodIn wsX5_does (wsV RX5 101 RX5 yX5_hold wsX5_hold) := goodIn_app (goodIn_of _ (by decide +kernel)) ggX5_does_X5_hold
set_option maxRecDepth 20000 in
theorem ggX5_does_X5_begins : GoodIn wsX5_does wsX5_begins := goodIn_r _ [21, 22, 23, 24, 25, 26, 59, 60, 61, 62, 63, 64, 65, 66, 67, 68, 69, 70, 71, 72, 73, 74, 75, 76, 77, 78, 79] (by decide +kernel) (by decide +kernel)
set_option maxRecDepth 20000 in
theorem gX5_does_X5_begins : GoodIn wsX5_does (wsV RX5 94 RX5 yX5_begins wsX5_begins) := goodIn_app (goodIn_of _ (by decide +kernel)) ggX5_does_X5_begins
set_option maxRecDepth 20000 in
theorem ggX5_does_X5_closes : GoodIn wsX5_does wsX5_closes := goodIn_r _ [30, 23, 22, 10, 11, 31, 59, 60, 61, 62, 63, 64, 65, 66, 67, 68, 69, 70, 71, 72, 73, 74, 75, 76, 77, 78, 79] (by decide +kernel) (by decide +kernel)
set_option maxRecDepth 20000 in
theorem gX5_does_X5_closes : GoodIn wsX5_does (wsV RX5 105 RX5 yX5_closes wsX5_closes) := goodIn_app (goodIn_of _ (by decide +kernel)) ggX5_does_X5_closes
set_option maxRecDepth 20000 in
theorem ggX5_does_X5_change : GoodIn wsX5_does wsX5_change := goodIn_r _ [35, 10, 36, 37, 13, 14, 15, 8, 16, 17, 59, 60, 61, 62, 63, 64, 65, 66, 67, 68, 69, 70, 71, 72, 73, 74, 75, 76, 77, 78, 79] (by decide +kernel) (by decide +kernel)
set_option maxRecDepth 20000 in
theorem gX5_does_X5_change : GoodIn wsX5_does (wsV RX5 109 RX5 yX5_change wsX5_change) := goodIn_app (goodIn_of _ (by decide +kernel)) ggX5_does_X5_change
set_option maxRecDepth 20000 in
theorem ggX5_does_X5_move : GoodIn wsX5_does wsX5_move := goodIn_r _ [41, 17, 36, 59, 60, 61, 62, 63, 64, 65, 66, 67, 68, 69, 70, 71, 72, 73, 74, 75, 76, 77, 78, 79] (by decide +kernel) (by decide +kernel)
set_option maxRecDepth 20000 in
theorem gX5_does_X5_move : GoodIn wsX5_does (wsV RX5 113 RX5 yX5_move wsX5_move) := goodIn_app (goodIn_of _ (by decide +kernel)) ggX5_does_X5_move
set_option maxRecDepth 20000 in
theorem ggX5_does_X5_call : GoodIn wsX5_does wsX5_call := goodIn_r _ [45, 26, 46, 47, 12, 48, 49, 8, 50, 51, 52, 53, 54, 55, 56, 57, 58, 2, 59, 60, 61, 62, 63, 64, 65, 66, 67, 68, 69, 70, 71, 72, 73, 74, 75, 76, 77, 78, 79] (by decide +kernel) (by decide +kernel)
set_option maxRecDepth 20000 in
theorem gX5_does_X5_call : GoodIn wsX5_does (wsV RX5 116 RX5 yX5_call wsX5_call) := goodIn_app (goodIn_of _ (by decide +kernel)) ggX5_does_X5_call
theorem dX5_does_0 : decode cX5_does 0 = .ok (.bipush 40, 2) := by decide +kernel
theorem dX5_does_2 : decode cX5_does 2 = .ok (.iload_n 1, 1) := by decide +kernel
theorem dX5_does_3 : decode cX5_does 3 = .ok (.imul, 1) := by decide +kernel
theorem dX5_does_4 : decode cX5_does 4 = .ok (.iload_n 2, 1) := by decide +kernel
theorem dX5_does_5 : decode cX5_does 5 = .ok (.iadd, 1) := by decide +kernel
theorem dX5_does_6 : decode cX5_does 6 = .ok (.istore_n 3, 1) := by decide +kernel
theorem dX5_does_7 : decode cX5_does 7 = .ok (.aload_n 0, 1) := by decide +kernel
theorem dX5_does_8 : decode cX5_does 8 = .ok (.getfield 16, 3) := by decide +kernel
theorem dX5_does_11 : decode cX5_does 11 = .ok (.iload_n 3, 1) := by decide +kernel
theorem dX5_does_12 : decode cX5_does 12 = .ok (.iaload, 1) := by decide +kernel
theorem dX5_does_13 : decode cX5_does 13 = .ok (.istore 4, 2) := by decide +kernel
theorem dX5_does_15 : decode cX5_does 15 = .ok (.aload_n 0, 1) := by decide +kernel
theorem dX5_does_16 : decode cX5_does 16 = .ok (.getfield 13, 3) := by decide +kernel
theorem dX5_does_19 : decode cX5_does 19 = .ok (.iload_n 3, 1) := by decide +kernel
theorem dX5_does_20 : decode cX5_does 20 = .ok (.iaload, 1) := by decide +kernel
theorem dX5_does_21 : decode cX5_does 21 = .ok (.tableswitch 126 0 8 #[51, 59, 71, 78, 78, 78, 97, 116, 119], 51) := by decide +kernel
theorem dX5_does_72 : decode cX5_does 72 = .ok (.aload_n 0, 1) := by decide +kernel
theorem dX5_does_73 : decode cX5_does 73 = .ok (.iload 4, 2) := by decide +kernel
theorem dX5_does_75 : decode cX5_does 75 = .ok (.iload_n 2, 1) := by decide +kernel
theorem dX5_does_76 : decode cX5_does 76 = .ok (.invokevirtual 101, 3) := by decide +kernel
theorem dX5_does_79 : decode cX5_does 79 = .ok (.ireturn, 1) := by decide +kernel
theorem dX5_does_80 : decode cX5_does 80 = .ok (.aload_n 0, 1) := by decide +kernel
theorem dX5_does_81 : decode cX5_does 81 = .ok (.bipush 10, 2) := by decide +kernel
theorem dX5_does_83 : decode cX5_does 83 = .ok (.iload 4, 2) := by decide +kernel
theorem dX5_does_85 : decode cX5_does 85 = .ok (.iadd, 1) := by decide +kernel
theorem dX5_does_86 : decode cX5_does 86 = .ok (.iload_n 2, 1) := by decide +kernel
theorem dX5_does_87 : decode cX5_does 87 = .ok (.invokevirtual 94, 3) := by decide +kernel
theorem dX5_does_90 : decode cX5_does 90 = .ok (.iconst 0, 1) := by decide +kernel
theorem dX5_does_91 : decode cX5_does 91 = .ok (.ireturn, 1) := by decide +kernel
theorem dX5_does_92 : decode cX5_does 92 = .ok (.aload_n 0, 1) := by decide +kernel
theorem dX5_does_93 : decode cX5_does 93 = .ok (.iconst 0, 1) := by decide +kernel
theorem dX5_does_94 : decode cX5_does 94 = .ok (.invokevirtual 105, 3) := by decide +kernel
theorem dX5_does_97 : decode cX5_does 97 = .ok (.iconst 0, 1) := by decide +kernel
theorem dX5_does_98 : decode cX5_does 98 = .ok (.ireturn, 1) := by decide +kernel
theorem dX5_does_99 : decode cX5_does 99 = .ok (.aload_n 0, 1) := by decide +kernel
theorem dX5_does_100 : decode cX5_does 100 = .ok (.aload_n 0, 1) := by decide +kernel
theorem dX5_does_101 : decode cX5_does 101 = .ok (.getfield 13, 3) := by decide +kernel
theorem dX5_does_104 : decode cX5_does 104 = .ok (.iload_n 3, 1) := by decide +kernel
theorem dX5_does_105 : decode cX5_does 105 = .ok (.iaload, 1) := by decide +kernel
theorem dX5_does_106 : decode cX5_does 106 = .ok (.iload 4, 2) := by decide +kernel
theorem dX5_does_108 : decode cX5_does 108 = .ok (.aload_n 0, 1) := by decide +kernel
theorem dX5_does_109 : decode cX5_does 109 = .ok (.getfield 19, 3) := by decide +kernel
theorem dX5_does_112 : decode cX5_does 112 = .ok (.iload_n 3, 1) := by decide +kernel
theorem dX5_does_113 : decode cX5_does 113 = .ok (.iaload, 1) := by decide +kernel
theorem dX5_does_114 : decode cX5_does 114 = .ok (.invokevirtual 109, 3) := by decide +kernel
theorem dX5_does_117 : decode cX5_does 117 = .ok (.ireturn, 1) := by decide +kernel
theorem dX5_does_118 : decode cX5_does 118 = .ok (.aload_n 0, 1) := by decide +kernel
theorem dX5_does_119 : decode cX5_does 119 = .ok (.iload 4, 2) := by decide +kernel
theorem dX5_does_121 : decode cX5_does 121 = .ok (.aload_n 0, 1) := by decide +kernel
theorem dX5_does_122 : decode cX5_does 122 = .ok (.getfield 19, 3) := by decide +kernel
theorem dX5_does_125 : decode cX5_does 125 = .ok (.iload_n 3, 1) := by decide +kernel
theorem dX5_does_126 : decode cX5_does 126 = .ok (.iaload, 1) := by decide +kernel
theorem dX5_does_127 : decode cX5_does 127 = .ok (.aload_n 0, 1) := by decide +kernel
theorem dX5_does_128 : decode cX5_does 128 = .ok (.getfield 22, 3) := by decide +kernel
theorem dX5_does_131 : decode cX5_does 131 = .ok (.iload_n 3, 1) := by decide +kernel
theorem dX5_does_132 : decode cX5_does 132 = .ok (.iaload, 1) := by decide +kernel
theorem dX5_does_133 : decode cX5_does 133 = .ok (.invokevirtual 113, 3) := by decide +kernel
theorem dX5_does_136 : decode cX5_does 136 = .ok (.ireturn, 1) := by decide +kernel
theorem dX5_does_137 : decode cX5_does 137 = .ok (.iload 4, 2) := by decide +kernel
theorem dX5_does_139 : decode cX5_does 139 = .ok (.ireturn, 1) := by decide +kernel
theorem dX5_does_140 : decode cX5_does 140 = .ok (.aload_n 0, 1) := by decide +kernel
theorem dX5_does_141 : decode cX5_does 141 = .ok (.iload 4, 2) := by decide +kernel
theorem dX5_does_143 : decode cX5_does 143 = .ok (.invokevirtual 116, 3) := by decide +kernel
theorem dX5_does_146 : decode cX5_does 146 = .ok (.ireturn, 1) := by decide +kernel
theorem dX5_does_147 : decode cX5_does 147 = .ok (.iconst 0, 1) := by decide +kernel
theorem dX5_does_148 : decode cX5_does 148 = .ok (.ireturn, 1) := by decide +kernel
set_option maxRecDepth 20000 in
theorem ggX5_isCaught_X5_closes : GoodIn wsX5_isCaught wsX5_closes := goodIn_r _ [14, 1, 2, 15, 16, 17, 23, 24, 25, 26, 27, 28, 29, 30, 31, 32, 33, 34, 35, 36, 37, 38, 39, 40, 41, 42, 43] (by decide +kernel) (by decide +kernel)
set_option maxRecDepth 20000 in
theorem gX5_isCaught_X5_closes : GoodIn wsX5_isCaught (wsV RX5 105 RX5 yX5_closes wsX5_closes) := goodIn_app (goodIn_of _ (by decide +kernel)) ggX5_isCaught_X5_closes
set_option maxRecDepth 20000 in
theorem ggX5_isCaught_X5_behind : GoodIn wsX5_isCaught wsX5_behind := goodIn_r _ [21, 22, 23, 24, 25, 26, 27, 28, 29, 30, 31, 32, 33, 34, 35, 36, 37, 38, 39, 40, 41, 42, 43] (by decide +kernel) (by decide +kernel)
set_option maxRecDepth 20000 in
theorem gX5_isCaught_X5_behind : GoodIn wsX5_isCaught (wsV RX5 119 RX5 yX5_behind wsX5_behind) := goodIn_app (goodIn_of _ (by decide +kernel)) ggX5_isCaught_X5_behind
theorem dX5_isCaught_0 : decode cX5_isCaught 0 = .ok (.aload_n 0, 1) := by decide +kernel
theorem dX5_isCaught_1 : decode cX5_isCaught 1 = .ok (.getfield 81, 3) := by decide +kernel
theorem dX5_isCaught_4 : decode cX5_isCaught 4 = .ok (.ifCond .le 104, 3) := by decide +kernel
theorem dX5_isCaught_7 : decode cX5_isCaught 7 = .ok (.aload_n 0, 1) := by decide +kernel
theorem dX5_isCaught_8 : decode cX5_isCaught 8 = .ok (.getfield 50, 3) := by decide +kernel
theorem dX5_isCaught_11 : decode cX5_isCaught 11 = .ok (.aload_n 0, 1) := by decide +kernel
theorem dX5_isCaught_12 : decode cX5_isCaught 12 = .ok (.getfield 81, 3) := by decide +kernel
theorem dX5_isCaught_15 : decode cX5_isCaught 15 = .ok (.iconst 1, 1) := by decide +kernel
theorem dX5_isCaught_16 : decode cX5_isCaught 16 = .ok (.isub, 1) := by decide +kernel
theorem dX5_isCaught_17 : decode cX5_isCaught 17 = .ok (.iaload, 1) := by decide +kernel
theorem dX5_isCaught_18 : decode cX5_isCaught 18 = .ok (.istore_n 2, 1) := by decide +kernel
theorem dX5_isCaught_19 : decode cX5_isCaught 19 = .ok (.aload_n 0, 1) := by decide +kernel
theorem dX5_isCaught_20 : decode cX5_isCaught 20 = .ok (.iconst 1, 1) := by decide +kernel
theorem dX5_isCaught_21 : decode cX5_isCaught 21 = .ok (.invokevirtual 105, 3) := by decide +kernel
theorem dX5_isCaught_24 : decode cX5_isCaught 24 = .ok (.iload_n 2, 1) := by decide +kernel
theorem dX5_isCaught_25 : decode cX5_isCaught 25 = .ok (.bipush 10, 2) := by decide +kernel
theorem dX5_isCaught_27 : decode cX5_isCaught 27 = .ok (.if_icmp .eq 11, 3) := by decide +kernel
theorem dX5_isCaught_30 : decode cX5_isCaught 30 = .ok (.iload_n 2, 1) := by decide +kernel
theorem dX5_isCaught_31 : decode cX5_isCaught 31 = .ok (.bipush 10, 2) := by decide +kernel
theorem dX5_isCaught_33 : decode cX5_isCaught 33 = .ok (.iload_n 1, 1) := by decide +kernel
theorem dX5_isCaught_34 : decode cX5_isCaught 34 = .ok (.iadd, 1) := by decide +kernel
theorem dX5_isCaught_35 : decode cX5_isCaught 35 = .ok (.if_icmp .ne 70, 3) := by decide +kernel
theorem dX5_isCaught_38 : decode cX5_isCaught 38 = .ok (.aload_n 0, 1) := by decide +kernel
theorem dX5_isCaught_39 : decode cX5_isCaught 39 = .ok (.aload_n 0, 1) := by decide +kernel
theorem dX5_isCaught_40 : decode cX5_isCaught 40 = .ok (.getfield 56, 3) := by decide +kernel
theorem dX5_isCaught_43 : decode cX5_isCaught 43 = .ok (.aload_n 0, 1) := by decide +kernel
theorem dX5_isCaught_44 : decode cX5_isCaught 44 = .ok (.getfield 81, 3) := by decide +kernel
theorem dX5_isCaught_47 : decode cX5_isCaught 47 = .ok (.iaload, 1) := by decide +kernel
theorem dX5_isCaught_48 : decode cX5_isCaught 48 = .ok (.putfield 84, 3) := by decide +kernel
theorem dX5_isCaught_51 : decode cX5_isCaught 51 = .ok (.aload_n 0, 1) := by decide +kernel
theorem dX5_isCaught_52 : decode cX5_isCaught 52 = .ok (.getfield 47, 3) := by decide +kernel
theorem dX5_isCaught_55 : decode cX5_isCaught 55 = .ok (.aload_n 0, 1) := by decide +kernel
theorem dX5_isCaught_56 : decode cX5_isCaught 56 = .ok (.getfield 84, 3) := by decide +kernel
theorem dX5_isCaught_59 : decode cX5_isCaught 59 = .ok (.aload_n 0, 1) := by decide +kernel
theorem dX5_isCaught_60 : decode cX5_isCaught 60 = .ok (.aload_n 0, 1) := by decide +kernel
theorem dX5_isCaught_61 : decode cX5_isCaught 61 = .ok (.getfield 44, 3) := by decide +kernel
theorem dX5_isCaught_64 : decode cX5_isCaught 64 = .ok (.aload_n 0, 1) := by decide +kernel
theorem dX5_isCaught_65 : decode cX5_isCaught 65 = .ok (.getfield 84, 3) := by decide +kernel
theorem dX5_isCaught_68 : decode cX5_isCaught 68 = .ok (.iaload, 1) := by decide +kernel
theorem dX5_isCaught_69 : decode cX5_isCaught 69 = .ok (.aload_n 0, 1) := by decide +kernel
theorem dX5_isCaught_70 : decode cX5_isCaught 70 = .ok (.getfield 53, 3) := by decide +kernel
theorem dX5_isCaught_73 : decode cX5_isCaught 73 = .ok (.aload_n 0, 1) := by decide +kernel
theorem dX5_isCaught_74 : decode cX5_isCaught 74 = .ok (.getfield 81, 3) := by decide +kernel
theorem dX5_isCaught_77 : decode cX5_isCaught 77 = .ok (.iaload, 1) := by decide +kernel
theorem dX5_isCaught_78 : decode cX5_isCaught 78 = .ok (.invokevirtual 119, 3) := by decide +kernel
theorem dX5_isCaught_81 : decode cX5_isCaught 81 = .ok (.iastore, 1) := by decide +kernel
theorem dX5_isCaught_82 : decode cX5_isCaught 82 = .ok (.aload_n 0, 1) := by decide +kernel
theorem dX5_isCaught_83 : decode cX5_isCaught 83 = .ok (.getfield 41, 3) := by decide +kernel
theorem dX5_isCaught_86 : decode cX5_isCaught 86 = .ok (.iload_n 1, 1) := by decide +kernel
theorem dX5_isCaught_87 : decode cX5_isCaught 87 = .ok (.dup2, 1) := by decide +kernel
theorem dX5_isCaught_88 : decode cX5_isCaught 88 = .ok (.iaload, 1) := by decide +kernel
theorem dX5_isCaught_89 : decode cX5_isCaught 89 = .ok (.iconst 1, 1) := by decide +kernel
theorem dX5_isCaught_90 : decode cX5_isCaught 90 = .ok (.iadd, 1) := by decide +kernel
theorem dX5_isCaught_91 : decode cX5_isCaught 91 = .ok (.iastore, 1) := by decide +kernel
theorem dX5_isCaught_92 : decode cX5_isCaught 92 = .ok (.aload_n 0, 1) := by decide +kernel
theorem dX5_isCaught_93 : decode cX5_isCaught 93 = .ok (.getfield 38, 3) := by decide +kernel
theorem dX5_isCaught_96 : decode cX5_isCaught 96 = .ok (.bipush 6, 2) := by decide +kernel
theorem dX5_isCaught_98 : decode cX5_isCaught 98 = .ok (.dup2, 1) := by decide +kernel
theorem dX5_isCaught_99 : decode cX5_isCaught 99 = .ok (.iaload, 1) := by decide +kernel
theorem dX5_isCaught_100 : decode cX5_isCaught 100 = .ok (.iconst 1, 1) := by decide +kernel
theorem dX5_isCaught_101 : decode cX5_isCaught 101 = .ok (.iadd, 1) := by decide +kernel
theorem dX5_isCaught_102 : decode cX5_isCaught 102 = .ok (.iastore, 1) := by decide +kernel
theorem dX5_isCaught_103 : decode cX5_isCaught 103 = .ok (.iconst 1, 1) := by decide +kernel
theorem dX5_isCaught_104 : decode cX5_isCaught 104 = .ok (.ireturn, 1) := by decide +kernel
theorem dX5_isCaught_105 : decode cX5_isCaught 105 = .ok (.goto (-105), 3) := by decide +kernel
theorem dX5_isCaught_108 : decode cX5_isCaught 108 = .ok (.iconst 0, 1) := by decide +kernel
theorem dX5_isCaught_109 : decode cX5_isCaught 109 = .ok (.ireturn, 1) := by decide +kernel
set_option maxRecDepth 20000 in
theorem ggX5_ends_X5_closes : GoodIn wsX5_ends wsX5_closes := goodIn_r _ [7, 1, 8, 9, 10, 11, 12, 13, 14, 15, 16, 17, 18, 19, 20, 21, 22, 23, 24, 25, 26, 27, 28, 29, 30, 31, 32] (by decide +kernel) (by decide +kernel)
set_option maxRecDepth 20000 in
theorem gX5_ends_X5_closes : GoodIn wsX5_ends (wsV RX5 105 RX5 yX5_closes wsX5_closes) := goodIn_app (goodIn_of _ (by decide +kernel)) ggX5_ends_X5_closes
theorem dX5_ends_0 : decode cX5_ends 0 = .ok (.aload_n 0, 1) := by decide +kernel
theorem dX5_ends_1 : decode cX5_ends 1 = .ok (.getfield 81, 3) := by decide +kernel
theorem dX5_ends_4 : decode cX5_ends 4 = .ok (.ifCond .le 11, 3) := by decide +kernel
theorem dX5_ends_7 : decode cX5_ends 7 = .ok (.aload_n 0, 1) := by decide +kernel
theorem dX5_ends_8 : decode cX5_ends 8 = .ok (.iconst 1, 1) := by decide +kernel
theorem dX5_ends_9 : decode cX5_ends 9 = .ok (.invokevirtual 105, 3) := by decide +kernel
theorem dX5_ends_12 : decode cX5_ends 12 = .ok (.goto (-12), 3) := by decide +kernel
theorem dX5_ends_15 : decode cX5_ends 15 = .ok (.aload_n 0, 1) := by decide +kernel
theorem dX5_ends_16 : decode cX5_ends 16 = .ok (.getfield 38, 3) := by decide +kernel
theorem dX5_ends_19 : decode cX5_ends 19 = .ok (.iconst 0, 1) := by decide +kernel
theorem dX5_ends_20 : decode cX5_ends 20 = .ok (.iload_n 3, 1) := by decide +kernel
theorem dX5_ends_21 : decode cX5_ends 21 = .ok (.iastore, 1) := by decide +kernel
theorem dX5_ends_22 : decode cX5_ends 22 = .ok (.aload_n 0, 1) := by decide +kernel
theorem dX5_ends_23 : decode cX5_ends 23 = .ok (.getfield 38, 3) := by decide +kernel
theorem dX5_ends_26 : decode cX5_ends 26 = .ok (.iconst 1, 1) := by decide +kernel
theorem dX5_ends_27 : decode cX5_ends 27 = .ok (.iload_n 1, 1) := by decide +kernel
theorem dX5_ends_28 : decode cX5_ends 28 = .ok (.iastore, 1) := by decide +kernel
theorem dX5_ends_29 : decode cX5_ends 29 = .ok (.aload_n 0, 1) := by decide +kernel
theorem dX5_ends_30 : decode cX5_ends 30 = .ok (.getfield 38, 3) := by decide +kernel
theorem dX5_ends_33 : decode cX5_ends 33 = .ok (.iconst 2, 1) := by decide +kernel
theorem dX5_ends_34 : decode cX5_ends 34 = .ok (.iload_n 2, 1) := by decide +kernel
theorem dX5_ends_35 : decode cX5_ends 35 = .ok (.iastore, 1) := by decide +kernel
theorem dX5_ends_36 : decode cX5_ends 36 = .ok (.iload_n 3, 1) := by decide +kernel
theorem dX5_ends_37 : decode cX5_ends 37 = .ok (.ifCond .le 7, 3) := by decide +kernel
theorem dX5_ends_40 : decode cX5_ends 40 = .ok (.iconst 1, 1) := by decide +kernel
theorem dX5_ends_41 : decode cX5_ends 41 = .ok (.goto 4, 3) := by decide +kernel
theorem dX5_ends_44 : decode cX5_ends 44 = .ok (.iconst 2, 1) := by decide +kernel
theorem dX5_ends_45 : decode cX5_ends 45 = .ok (.ireturn, 1) := by decide +kernel
set_option maxRecDepth 20000 in
theorem ggX5_run_X5_isPlan : GoodIn wsX5_run wsX5_isPlan := goodIn_r _ [13, 14, 15, 12, 16] (by decide +kernel) (by decide +kernel)
set_option maxRecDepth 20000 in
theorem gX5_run_X5_isPlan : GoodIn wsX5_run (va_wsS RX5 71 yX5_isPlan wsX5_isPlan) := goodIn_app (goodIn_of _ (by decide +kernel)) ggX5_run_X5_isPlan
set_option maxRecDepth 20000 in
theorem ggX5_run_X5_in : GoodIn wsX5_run wsX5_in := goodIn_r _ [16] (by decide +kernel) (by decide +kernel)
set_option maxRecDepth 20000 in
theorem gX5_run_X5_in : GoodIn wsX5_run (va_wsS RX5 63 yX5_in wsX5_in) := goodIn_app (goodIn_of _ (by decide +kernel)) ggX5_run_X5_in
set_option maxRecDepth 20000 in
theorem ggX5_run_X5_isClosed : GoodIn wsX5_run wsX5_isClosed := goodIn_r _ [20, 9, 21, 77, 78, 79, 80, 81, 82, 83, 84, 85, 86, 87, 88, 89, 90, 91, 92, 93, 94, 95, 96, 97] (by decide +kernel) (by decide +kernel)
set_option maxRecDepth 20000 in
theorem gX5_run_X5_isClosed : GoodIn wsX5_run (wsV RX5 78 RX5 yX5_isClosed wsX5_isClosed) := goodIn_app (goodIn_of _ (by decide +kernel)) ggX5_run_X5_isClosed
set_option maxRecDepth 20000 in
theorem ggX5_run_X5_ends : GoodIn wsX5_run wsX5_ends := goodIn_r _ [25, 7, 3, 26, 27, 28, 12, 29, 30, 31, 8, 32, 77, 78, 79, 80, 81, 82, 83, 84, 85, 86, 87, 88, 89, 90, 91, 92, 93, 94, 95, 96, 97] (by decide +kernel) (by decide +kernel)
set_option maxRecDepth 20000 in
theorem gX5_run_X5_ends : GoodIn wsX5_run (wsV RX5 122 RX5 yX5_ends wsX5_ends) := goodIn_app (goodIn_of _ (by decide +kernel)) ggX5_run_X5_ends
set_option maxRecDepth 20000 in
theorem ggX5_run_X5_does : GoodIn wsX5_run wsX5_does := goodIn_r _ [36, 37, 21, 38, 39, 40, 41, 42, 12, 43, 31, 8, 3, 44, 45, 46, 47, 48, 49, 50, 51, 52, 30, 7, 53, 54, 4, 26, 27, 28, 29, 32, 55, 56, 57, 58, 59, 60, 61, 62, 63, 64, 65, 66, 67, 68, 5, 6, 10, 11, 13, 14, 15, 16, 17, 18, 19, 20, 9, 77, 78, 79, 80, 81, 82, 83, 84, 85, 86, 87, 88, 89, 90, 91, 92, 93, 94, 95, 96, 97] (by decide +kernel) (by decide +kernel)
set_option maxRecDepth 20000 in
theorem gX5_run_X5_does : GoodIn wsX5_run (wsV RX5 125 RX5 yX5_does wsX5_does) := goodIn_app (goodIn_of _ (by decide +kernel)) ggX5_run_X5_does
set_option maxRecDepth 20000 in
theorem ggX5_run_X5_isCaught : GoodIn wsX5_run wsX5_isCaught := goodIn_r _ [72, 7, 30, 54, 4, 6, 5, 53, 2, 3, 26, 27, 28, 12, 29, 31, 8, 32, 73, 74, 75, 76, 21, 77, 78, 79, 80, 81, 82, 83, 84, 85, 86, 87, 88, 89, 90, 91, 92, 93, 94, 95, 96, 97] (by decide +kernel) (by decide +kernel)
set_option maxRecDepth 20000 in
theorem gX5_run_X5_isCaught : GoodIn wsX5_run (wsV RX5 128 RX5 yX5_isCaught wsX5_isCaught) := goodIn_app (goodIn_of _ (by decide +kernel)) ggX5_run_X5_isCaught
theorem dX5_run_0 : decode cX5_run 0 = .ok (.aload_n 0, 1) := by decide +kernel
theorem dX5_run_1 : decode cX5_run 1 = .ok (.iconst 0, 1) := by decide +kernel
theorem dX5_run_2 : decode cX5_run 2 = .ok (.putfield 59, 3) := by decide +kernel
theorem dX5_run_5 : decode cX5_run 5 = .ok (.iload_n 1, 1) := by decide +kernel
theorem dX5_run_6 : decode cX5_run 6 = .ok (.invokestatic 71, 3) := by decide +kernel
theorem dX5_run_9 : decode cX5_run 9 = .ok (.ifCond .eq 13, 3) := by decide +kernel
theorem dX5_run_12 : decode cX5_run 12 = .ok (.iload_n 2, 1) := by decide +kernel
theorem dX5_run_13 : decode cX5_run 13 = .ok (.iconst 0, 1) := by decide +kernel
theorem dX5_run_14 : decode cX5_run 14 = .ok (.bipush 64, 2) := by decide +kernel
theorem dX5_run_16 : decode cX5_run 16 = .ok (.invokestatic 63, 3) := by decide +kernel
theorem dX5_run_19 : decode cX5_run 19 = .ok (.ifCond .ne 5, 3) := by decide +kernel
theorem dX5_run_22 : decode cX5_run 22 = .ok (.iconst (-1), 1) := by decide +kernel
theorem dX5_run_23 : decode cX5_run 23 = .ok (.ireturn, 1) := by decide +kernel
theorem dX5_run_24 : decode cX5_run 24 = .ok (.aload_n 0, 1) := by decide +kernel
theorem dX5_run_25 : decode cX5_run 25 = .ok (.iload_n 1, 1) := by decide +kernel
theorem dX5_run_26 : decode cX5_run 26 = .ok (.invokevirtual 78, 3) := by decide +kernel
theorem dX5_run_29 : decode cX5_run 29 = .ok (.ifCond .ne 6, 3) := by decide +kernel
theorem dX5_run_32 : decode cX5_run 32 = .ok (.bipush (-3), 2) := by decide +kernel
theorem dX5_run_34 : decode cX5_run 34 = .ok (.ireturn, 1) := by decide +kernel
theorem dX5_run_35 : decode cX5_run 35 = .ok (.iconst 0, 1) := by decide +kernel
theorem dX5_run_36 : decode cX5_run 36 = .ok (.istore_n 3, 1) := by decide +kernel
theorem dX5_run_37 : decode cX5_run 37 = .ok (.iload_n 3, 1) := by decide +kernel
theorem dX5_run_38 : decode cX5_run 38 = .ok (.bipush 10, 2) := by decide +kernel
theorem dX5_run_40 : decode cX5_run 40 = .ok (.if_icmp .ge 16, 3) := by decide +kernel
theorem dX5_run_43 : decode cX5_run 43 = .ok (.aload_n 0, 1) := by decide +kernel
theorem dX5_run_44 : decode cX5_run 44 = .ok (.getfield 41, 3) := by decide +kernel
theorem dX5_run_47 : decode cX5_run 47 = .ok (.iload_n 3, 1) := by decide +kernel
theorem dX5_run_48 : decode cX5_run 48 = .ok (.iconst 0, 1) := by decide +kernel
theorem dX5_run_49 : decode cX5_run 49 = .ok (.iastore, 1) := by decide +kernel
theorem dX5_run_50 : decode cX5_run 50 = .ok (.iinc 3 1, 3) := by decide +kernel
theorem dX5_run_53 : decode cX5_run 53 = .ok (.goto (-16), 3) := by decide +kernel
theorem dX5_run_56 : decode cX5_run 56 = .ok (.iconst 0, 1) := by decide +kernel
theorem dX5_run_57 : decode cX5_run 57 = .ok (.istore_n 3, 1) := by decide +kernel
theorem dX5_run_58 : decode cX5_run 58 = .ok (.iload_n 3, 1) := by decide +kernel
theorem dX5_run_59 : decode cX5_run 59 = .ok (.bipush 8, 2) := by decide +kernel
theorem dX5_run_61 : decode cX5_run 61 = .ok (.if_icmp .ge 31, 3) := by decide +kernel
theorem dX5_run_64 : decode cX5_run 64 = .ok (.aload_n 0, 1) := by decide +kernel
theorem dX5_run_65 : decode cX5_run 65 = .ok (.getfield 38, 3) := by decide +kernel
theorem dX5_run_68 : decode cX5_run 68 = .ok (.iload_n 3, 1) := by decide +kernel
theorem dX5_run_69 : decode cX5_run 69 = .ok (.iload_n 3, 1) := by decide +kernel
theorem dX5_run_70 : decode cX5_run 70 = .ok (.iconst 1, 1) := by decide +kernel
theorem dX5_run_71 : decode cX5_run 71 = .ok (.if_icmp .eq 8, 3) := by decide +kernel
theorem dX5_run_74 : decode cX5_run 74 = .ok (.iload_n 3, 1) := by decide +kernel
theorem dX5_run_75 : decode cX5_run 75 = .ok (.iconst 2, 1) := by decide +kernel
theorem dX5_run_76 : decode cX5_run 76 = .ok (.if_icmp .ne 8, 3) := by decide +kernel
theorem dX5_run_79 : decode cX5_run 79 = .ok (.bipush (-4), 2) := by decide +kernel
theorem dX5_run_81 : decode cX5_run 81 = .ok (.goto 4, 3) := by decide +kernel
theorem dX5_run_84 : decode cX5_run 84 = .ok (.iconst 0, 1) := by decide +kernel
theorem dX5_run_85 : decode cX5_run 85 = .ok (.iastore, 1) := by decide +kernel
theorem dX5_run_86 : decode cX5_run 86 = .ok (.iinc 3 1, 3) := by decide +kernel
theorem dX5_run_89 : decode cX5_run 89 = .ok (.goto (-31), 3) := by decide +kernel
theorem dX5_run_92 : decode cX5_run 92 = .ok (.aload_n 0, 1) := by decide +kernel
theorem dX5_run_93 : decode cX5_run 93 = .ok (.iconst 0, 1) := by decide +kernel
theorem dX5_run_94 : decode cX5_run 94 = .ok (.putfield 84, 3) := by decide +kernel
theorem dX5_run_97 : decode cX5_run 97 = .ok (.aload_n 0, 1) := by decide +kernel
theorem dX5_run_98 : decode cX5_run 98 = .ok (.getfield 44, 3) := by decide +kernel
theorem dX5_run_101 : decode cX5_run 101 = .ok (.iconst 0, 1) := by decide +kernel
theorem dX5_run_102 : decode cX5_run 102 = .ok (.iload_n 1, 1) := by decide +kernel
theorem dX5_run_103 : decode cX5_run 103 = .ok (.iastore, 1) := by decide +kernel
theorem dX5_run_104 : decode cX5_run 104 = .ok (.aload_n 0, 1) := by decide +kernel
theorem dX5_run_105 : decode cX5_run 105 = .ok (.getfield 47, 3) := by decide +kernel
theorem dX5_run_108 : decode cX5_run 108 = .ok (.iconst 0, 1) := by decide +kernel
theorem dX5_run_109 : decode cX5_run 109 = .ok (.iconst 0, 1) := by decide +kernel
theorem dX5_run_110 : decode cX5_run 110 = .ok (.iastore, 1) := by decide +kernel
theorem dX5_run_111 : decode cX5_run 111 = .ok (.aload_n 0, 1) := by decide +kernel
theorem dX5_run_112 : decode cX5_run 112 = .ok (.iconst 0, 1) := by decide +kernel
theorem dX5_run_113 : decode cX5_run 113 = .ok (.putfield 81, 3) := by decide +kernel
theorem dX5_run_116 : decode cX5_run 116 = .ok (.aload_n 0, 1) := by decide +kernel
theorem dX5_run_117 : decode cX5_run 117 = .ok (.iconst 0, 1) := by decide +kernel
theorem dX5_run_118 : decode cX5_run 118 = .ok (.putfield 87, 3) := by decide +kernel
theorem dX5_run_121 : decode cX5_run 121 = .ok (.aload_n 0, 1) := by decide +kernel
theorem dX5_run_122 : decode cX5_run 122 = .ok (.getfield 84, 3) := by decide +kernel
theorem dX5_run_125 : decode cX5_run 125 = .ok (.ifCond .gt 18, 3) := by decide +kernel
theorem dX5_run_128 : decode cX5_run 128 = .ok (.aload_n 0, 1) := by decide +kernel
theorem dX5_run_129 : decode cX5_run 129 = .ok (.getfield 47, 3) := by decide +kernel
theorem dX5_run_132 : decode cX5_run 132 = .ok (.iconst 0, 1) := by decide +kernel
theorem dX5_run_133 : decode cX5_run 133 = .ok (.iaload, 1) := by decide +kernel
theorem dX5_run_134 : decode cX5_run 134 = .ok (.aload_n 0, 1) := by decide +kernel
theorem dX5_run_135 : decode cX5_run 135 = .ok (.getfield 7, 3) := by decide +kernel
theorem dX5_run_138 : decode cX5_run 138 = .ok (.iload_n 1, 1) := by decide +kernel
theorem dX5_run_139 : decode cX5_run 139 = .ok (.iaload, 1) := by decide +kernel
theorem dX5_run_140 : decode cX5_run 140 = .ok (.if_icmp .ge 126, 3) := by decide +kernel
theorem dX5_run_143 : decode cX5_run 143 = .ok (.aload_n 0, 1) := by decide +kernel
theorem dX5_run_144 : decode cX5_run 144 = .ok (.getfield 44, 3) := by decide +kernel
theorem dX5_run_147 : decode cX5_run 147 = .ok (.aload_n 0, 1) := by decide +kernel
theorem dX5_run_148 : decode cX5_run 148 = .ok (.getfield 84, 3) := by decide +kernel
theorem dX5_run_151 : decode cX5_run 151 = .ok (.iaload, 1) := by decide +kernel
theorem dX5_run_152 : decode cX5_run 152 = .ok (.istore_n 3, 1) := by decide +kernel
theorem dX5_run_153 : decode cX5_run 153 = .ok (.aload_n 0, 1) := by decide +kernel
theorem dX5_run_154 : decode cX5_run 154 = .ok (.getfield 47, 3) := by decide +kernel
theorem dX5_run_157 : decode cX5_run 157 = .ok (.aload_n 0, 1) := by decide +kernel
theorem dX5_run_158 : decode cX5_run 158 = .ok (.getfield 84, 3) := by decide +kernel
theorem dX5_run_161 : decode cX5_run 161 = .ok (.iaload, 1) := by decide +kernel
theorem dX5_run_162 : decode cX5_run 162 = .ok (.istore 4, 2) := by decide +kernel
theorem dX5_run_164 : decode cX5_run 164 = .ok (.iload 4, 2) := by decide +kernel
theorem dX5_run_166 : decode cX5_run 166 = .ok (.aload_n 0, 1) := by decide +kernel
theorem dX5_run_167 : decode cX5_run 167 = .ok (.getfield 7, 3) := by decide +kernel
theorem dX5_run_170 : decode cX5_run 170 = .ok (.iload_n 3, 1) := by decide +kernel
theorem dX5_run_171 : decode cX5_run 171 = .ok (.iaload, 1) := by decide +kernel
theorem dX5_run_172 : decode cX5_run 172 = .ok (.if_icmp .ne 16, 3) := by decide +kernel
theorem dX5_run_175 : decode cX5_run 175 = .ok (.aload_n 0, 1) := by decide +kernel
theorem dX5_run_176 : decode cX5_run 176 = .ok (.dup, 1) := by decide +kernel
theorem dX5_run_177 : decode cX5_run 177 = .ok (.getfield 84, 3) := by decide +kernel
theorem dX5_run_180 : decode cX5_run 180 = .ok (.iconst 1, 1) := by decide +kernel
theorem dX5_run_181 : decode cX5_run 181 = .ok (.isub, 1) := by decide +kernel
theorem dX5_run_182 : decode cX5_run 182 = .ok (.putfield 84, 3) := by decide +kernel
theorem dX5_run_185 : decode cX5_run 185 = .ok (.goto 78, 3) := by decide +kernel
theorem dX5_run_188 : decode cX5_run 188 = .ok (.aload_n 0, 1) := by decide +kernel
theorem dX5_run_189 : decode cX5_run 189 = .ok (.getfield 38, 3) := by decide +kernel
theorem dX5_run_192 : decode cX5_run 192 = .ok (.iconst 3, 1) := by decide +kernel
theorem dX5_run_193 : decode cX5_run 193 = .ok (.iaload, 1) := by decide +kernel
theorem dX5_run_194 : decode cX5_run 194 = .ok (.iload_n 2, 1) := by decide +kernel
theorem dX5_run_195 : decode cX5_run 195 = .ok (.if_icmp .ne 12, 3) := by decide +kernel
theorem dX5_run_198 : decode cX5_run 198 = .ok (.aload_n 0, 1) := by decide +kernel
theorem dX5_run_199 : decode cX5_run 199 = .ok (.iload_n 3, 1) := by decide +kernel
theorem dX5_run_200 : decode cX5_run 200 = .ok (.iload 4, 2) := by decide +kernel
theorem dX5_run_202 : decode cX5_run 202 = .ok (.iconst 0, 1) := by decide +kernel
theorem dX5_run_203 : decode cX5_run 203 = .ok (.invokevirtual 122, 3) := by decide +kernel
theorem dX5_run_206 : decode cX5_run 206 = .ok (.ireturn, 1) := by decide +kernel
theorem dX5_run_207 : decode cX5_run 207 = .ok (.aload_n 0, 1) := by decide +kernel
theorem dX5_run_208 : decode cX5_run 208 = .ok (.getfield 38, 3) := by decide +kernel
theorem dX5_run_211 : decode cX5_run 211 = .ok (.iconst 3, 1) := by decide +kernel
theorem dX5_run_212 : decode cX5_run 212 = .ok (.dup2, 1) := by decide +kernel
theorem dX5_run_213 : decode cX5_run 213 = .ok (.iaload, 1) := by decide +kernel
theorem dX5_run_214 : decode cX5_run 214 = .ok (.iconst 1, 1) := by decide +kernel
theorem dX5_run_215 : decode cX5_run 215 = .ok (.iadd, 1) := by decide +kernel
theorem dX5_run_216 : decode cX5_run 216 = .ok (.iastore, 1) := by decide +kernel
theorem dX5_run_217 : decode cX5_run 217 = .ok (.aload_n 0, 1) := by decide +kernel
theorem dX5_run_218 : decode cX5_run 218 = .ok (.getfield 47, 3) := by decide +kernel
theorem dX5_run_221 : decode cX5_run 221 = .ok (.aload_n 0, 1) := by decide +kernel
theorem dX5_run_222 : decode cX5_run 222 = .ok (.getfield 84, 3) := by decide +kernel
theorem dX5_run_225 : decode cX5_run 225 = .ok (.iload 4, 2) := by decide +kernel
theorem dX5_run_227 : decode cX5_run 227 = .ok (.iconst 1, 1) := by decide +kernel
theorem dX5_run_228 : decode cX5_run 228 = .ok (.iadd, 1) := by decide +kernel
theorem dX5_run_229 : decode cX5_run 229 = .ok (.iastore, 1) := by decide +kernel
theorem dX5_run_230 : decode cX5_run 230 = .ok (.aload_n 0, 1) := by decide +kernel
theorem dX5_run_231 : decode cX5_run 231 = .ok (.iload_n 3, 1) := by decide +kernel
theorem dX5_run_232 : decode cX5_run 232 = .ok (.iload 4, 2) := by decide +kernel
theorem dX5_run_234 : decode cX5_run 234 = .ok (.invokevirtual 125, 3) := by decide +kernel
theorem dX5_run_237 : decode cX5_run 237 = .ok (.istore 5, 2) := by decide +kernel
theorem dX5_run_239 : decode cX5_run 239 = .ok (.iload 5, 2) := by decide +kernel
theorem dX5_run_241 : decode cX5_run 241 = .ok (.ifCond .le 22, 3) := by decide +kernel
theorem dX5_run_244 : decode cX5_run 244 = .ok (.aload_n 0, 1) := by decide +kernel
theorem dX5_run_245 : decode cX5_run 245 = .ok (.iload 5, 2) := by decide +kernel
theorem dX5_run_247 : decode cX5_run 247 = .ok (.invokevirtual 128, 3) := by decide +kernel
theorem dX5_run_250 : decode cX5_run 250 = .ok (.ifCond .ne 13, 3) := by decide +kernel
theorem dX5_run_253 : decode cX5_run 253 = .ok (.aload_n 0, 1) := by decide +kernel
theorem dX5_run_254 : decode cX5_run 254 = .ok (.iload_n 3, 1) := by decide +kernel
theorem dX5_run_255 : decode cX5_run 255 = .ok (.iload 4, 2) := by decide +kernel
theorem dX5_run_257 : decode cX5_run 257 = .ok (.iload 5, 2) := by decide +kernel
theorem dX5_run_259 : decode cX5_run 259 = .ok (.invokevirtual 122, 3) := by decide +kernel
theorem dX5_run_262 : decode cX5_run 262 = .ok (.ireturn, 1) := by decide +kernel
theorem dX5_run_263 : decode cX5_run 263 = .ok (.goto (-142), 3) := by decide +kernel
theorem dX5_run_266 : decode cX5_run 266 = .ok (.iconst 0, 1) := by decide +kernel
theorem dX5_run_267 : decode cX5_run 267 = .ok (.ireturn, 1) := by decide +kernel
set_option maxRecDepth 20000 in
theorem ggX5_told_X5_in : GoodIn wsX5_told wsX5_in := goodIn_r _ [6] (by decide +kernel) (by decide +kernel)
set_option maxRecDepth 20000 in
theorem gX5_told_X5_in : GoodIn wsX5_told (va_wsS RX5 63 yX5_in wsX5_in) := goodIn_app (goodIn_of _ (by decide +kernel)) ggX5_told_X5_in
theorem dX5_told_0 : decode cX5_told 0 = .ok (.aload_n 0, 1) := by decide +kernel
theorem dX5_told_1 : decode cX5_told 1 = .ok (.iconst 0, 1) := by decide +kernel
theorem dX5_told_2 : decode cX5_told 2 = .ok (.putfield 59, 3) := by decide +kernel
theorem dX5_told_5 : decode cX5_told 5 = .ok (.iload_n 1, 1) := by decide +kernel
theorem dX5_told_6 : decode cX5_told 6 = .ok (.iconst 0, 1) := by decide +kernel
theorem dX5_told_7 : decode cX5_told 7 = .ok (.bipush 7, 2) := by decide +kernel
theorem dX5_told_9 : decode cX5_told 9 = .ok (.invokestatic 63, 3) := by decide +kernel
theorem dX5_told_12 : decode cX5_told 12 = .ok (.ifCond .eq 12, 3) := by decide +kernel
theorem dX5_told_15 : decode cX5_told 15 = .ok (.aload_n 0, 1) := by decide +kernel
theorem dX5_told_16 : decode cX5_told 16 = .ok (.getfield 38, 3) := by decide +kernel
theorem dX5_told_19 : decode cX5_told 19 = .ok (.iload_n 1, 1) := by decide +kernel
theorem dX5_told_20 : decode cX5_told 20 = .ok (.iaload, 1) := by decide +kernel
theorem dX5_told_21 : decode cX5_told 21 = .ok (.goto 4, 3) := by decide +kernel
theorem dX5_told_24 : decode cX5_told 24 = .ok (.iconst (-1), 1) := by decide +kernel
theorem dX5_told_25 : decode cX5_told 25 = .ok (.ireturn, 1) := by decide +kernel
set_option maxRecDepth 20000 in
theorem ggX5_caught_X5_in : GoodIn wsX5_caught wsX5_in := goodIn_r _ [6] (by decide +kernel) (by decide +kernel)
set_option maxRecDepth 20000 in
theorem gX5_caught_X5_in : GoodIn wsX5_caught (va_wsS RX5 63 yX5_in wsX5_in) := goodIn_app (goodIn_of _ (by decide +kernel)) ggX5_caught_X5_in
theorem dX5_caught_0 : decode cX5_caught 0 = .ok (.aload_n 0, 1) := by decide +kernel
theorem dX5_caught_1 : decode cX5_caught 1 = .ok (.iconst 0, 1) := by decide +kernel
theorem dX5_caught_2 : decode cX5_caught 2 = .ok (.putfield 59, 3) := by decide +kernel
theorem dX5_caught_5 : decode cX5_caught 5 = .ok (.iload_n 1, 1) := by decide +kernel
theorem dX5_caught_6 : decode cX5_caught 6 = .ok (.iconst 1, 1) := by decide +kernel
theorem dX5_caught_7 : decode cX5_caught 7 = .ok (.bipush 9, 2) := by decide +kernel
theorem dX5_caught_9 : decode cX5_caught 9 = .ok (.invokestatic 63, 3) := by decide +kernel
theorem dX5_caught_12 : decode cX5_caught 12 = .ok (.ifCond .eq 12, 3) := by decide +kernel
theorem dX5_caught_15 : decode cX5_caught 15 = .ok (.aload_n 0, 1) := by decide +kernel
theorem dX5_caught_16 : decode cX5_caught 16 = .ok (.getfield 41, 3) := by decide +kernel
theorem dX5_caught_19 : decode cX5_caught 19 = .ok (.iload_n 1, 1) := by decide +kernel
theorem dX5_caught_20 : decode cX5_caught 20 = .ok (.iaload, 1) := by decide +kernel
theorem dX5_caught_21 : decode cX5_caught 21 = .ok (.goto 4, 3) := by decide +kernel
theorem dX5_caught_24 : decode cX5_caught 24 = .ok (.iconst (-1), 1) := by decide +kernel
theorem dX5_caught_25 : decode cX5_caught 25 = .ok (.ireturn, 1) := by decide +kernel
set_option maxRecDepth 20000 in
theorem ggX5_about_X5_in : GoodIn wsX5_about wsX5_in := goodIn_r _ [8] (by decide +kernel) (by decide +kernel)
set_option maxRecDepth 20000 in
theorem gX5_about_X5_in : GoodIn wsX5_about (va_wsS RX5 63 yX5_in wsX5_in) := goodIn_app (goodIn_of _ (by decide +kernel)) ggX5_about_X5_in
theorem dX5_about_0 : decode cX5_about 0 = .ok (.aload_n 0, 1) := by decide +kernel
theorem dX5_about_1 : decode cX5_about 1 = .ok (.iconst 0, 1) := by decide +kernel
theorem dX5_about_2 : decode cX5_about 2 = .ok (.putfield 59, 3) := by decide +kernel
theorem dX5_about_5 : decode cX5_about 5 = .ok (.iload_n 1, 1) := by decide +kernel
theorem dX5_about_6 : decode cX5_about 6 = .ok (.iconst 0, 1) := by decide +kernel
theorem dX5_about_7 : decode cX5_about 7 = .ok (.bipush 7, 2) := by decide +kernel
theorem dX5_about_9 : decode cX5_about 9 = .ok (.invokestatic 63, 3) := by decide +kernel
theorem dX5_about_12 : decode cX5_about 12 = .ok (.ifCond .eq 12, 3) := by decide +kernel
theorem dX5_about_15 : decode cX5_about 15 = .ok (.iload_n 2, 1) := by decide +kernel
theorem dX5_about_16 : decode cX5_about 16 = .ok (.iconst 0, 1) := by decide +kernel
theorem dX5_about_17 : decode cX5_about 17 = .ok (.iconst 1, 1) := by decide +kernel
theorem dX5_about_18 : decode cX5_about 18 = .ok (.invokestatic 63, 3) := by decide +kernel
theorem dX5_about_21 : decode cX5_about 21 = .ok (.ifCond .ne 5, 3) := by decide +kernel
theorem dX5_about_24 : decode cX5_about 24 = .ok (.iconst (-1), 1) := by decide +kernel
theorem dX5_about_25 : decode cX5_about 25 = .ok (.ireturn, 1) := by decide +kernel
theorem dX5_about_26 : decode cX5_about 26 = .ok (.aload_n 0, 1) := by decide +kernel
theorem dX5_about_27 : decode cX5_about 27 = .ok (.getfield 25, 3) := by decide +kernel
theorem dX5_about_30 : decode cX5_about 30 = .ok (.iload_n 1, 1) := by decide +kernel
theorem dX5_about_31 : decode cX5_about 31 = .ok (.baload, 1) := by decide +kernel
theorem dX5_about_32 : decode cX5_about 32 = .ok (.ifCond .ne 8, 3) := by decide +kernel
theorem dX5_about_35 : decode cX5_about 35 = .ok (.bipush (-3), 2) := by decide +kernel
theorem dX5_about_37 : decode cX5_about 37 = .ok (.goto 22, 3) := by decide +kernel
theorem dX5_about_40 : decode cX5_about 40 = .ok (.iload_n 2, 1) := by decide +kernel
theorem dX5_about_41 : decode cX5_about 41 = .ok (.ifCond .ne 12, 3) := by decide +kernel
theorem dX5_about_44 : decode cX5_about 44 = .ok (.aload_n 0, 1) := by decide +kernel
theorem dX5_about_45 : decode cX5_about 45 = .ok (.getfield 29, 3) := by decide +kernel
theorem dX5_about_48 : decode cX5_about 48 = .ok (.iload_n 1, 1) := by decide +kernel
theorem dX5_about_49 : decode cX5_about 49 = .ok (.iaload, 1) := by decide +kernel
theorem dX5_about_50 : decode cX5_about 50 = .ok (.goto 9, 3) := by decide +kernel
theorem dX5_about_53 : decode cX5_about 53 = .ok (.aload_n 0, 1) := by decide +kernel
theorem dX5_about_54 : decode cX5_about 54 = .ok (.getfield 32, 3) := by decide +kernel
theorem dX5_about_57 : decode cX5_about 57 = .ok (.iload_n 1, 1) := by decide +kernel
theorem dX5_about_58 : decode cX5_about 58 = .ok (.iaload, 1) := by decide +kernel
theorem dX5_about_59 : decode cX5_about 59 = .ok (.ireturn, 1) := by decide +kernel
theorem dX5_first_0 : decode cX5_first 0 = .ok (.aload_n 0, 1) := by decide +kernel
theorem dX5_first_1 : decode cX5_first 1 = .ok (.iconst 0, 1) := by decide +kernel
theorem dX5_first_2 : decode cX5_first 2 = .ok (.putfield 59, 3) := by decide +kernel
theorem dX5_first_5 : decode cX5_first 5 = .ok (.iconst 0, 1) := by decide +kernel
theorem dX5_first_6 : decode cX5_first 6 = .ok (.istore_n 2, 1) := by decide +kernel
theorem dX5_first_7 : decode cX5_first 7 = .ok (.iload_n 2, 1) := by decide +kernel
theorem dX5_first_8 : decode cX5_first 8 = .ok (.bipush 8, 2) := by decide +kernel
theorem dX5_first_10 : decode cX5_first 10 = .ok (.if_icmp .ge 30, 3) := by decide +kernel
theorem dX5_first_13 : decode cX5_first 13 = .ok (.aload_n 0, 1) := by decide +kernel
theorem dX5_first_14 : decode cX5_first 14 = .ok (.getfield 25, 3) := by decide +kernel
theorem dX5_first_17 : decode cX5_first 17 = .ok (.iload_n 2, 1) := by decide +kernel
theorem dX5_first_18 : decode cX5_first 18 = .ok (.baload, 1) := by decide +kernel
theorem dX5_first_19 : decode cX5_first 19 = .ok (.ifCond .eq 15, 3) := by decide +kernel
theorem dX5_first_22 : decode cX5_first 22 = .ok (.aload_n 0, 1) := by decide +kernel
theorem dX5_first_23 : decode cX5_first 23 = .ok (.getfield 29, 3) := by decide +kernel
theorem dX5_first_26 : decode cX5_first 26 = .ok (.iload_n 2, 1) := by decide +kernel
theorem dX5_first_27 : decode cX5_first 27 = .ok (.iaload, 1) := by decide +kernel
theorem dX5_first_28 : decode cX5_first 28 = .ok (.iload_n 1, 1) := by decide +kernel
theorem dX5_first_29 : decode cX5_first 29 = .ok (.if_icmp .lt 5, 3) := by decide +kernel
theorem dX5_first_32 : decode cX5_first 32 = .ok (.iload_n 2, 1) := by decide +kernel
theorem dX5_first_33 : decode cX5_first 33 = .ok (.ireturn, 1) := by decide +kernel
theorem dX5_first_34 : decode cX5_first 34 = .ok (.iinc 2 1, 3) := by decide +kernel
theorem dX5_first_37 : decode cX5_first 37 = .ok (.goto (-30), 3) := by decide +kernel
theorem dX5_first_40 : decode cX5_first 40 = .ok (.bipush (-4), 2) := by decide +kernel
theorem dX5_first_42 : decode cX5_first 42 = .ok (.ireturn, 1) := by decide +kernel
theorem dX5_row_0 : decode cX5_row 0 = .ok (.aload_n 0, 1) := by decide +kernel
theorem dX5_row_1 : decode cX5_row 1 = .ok (.iconst 0, 1) := by decide +kernel
theorem dX5_row_2 : decode cX5_row 2 = .ok (.putfield 59, 3) := by decide +kernel
theorem dX5_row_5 : decode cX5_row 5 = .ok (.iconst 0, 1) := by decide +kernel
theorem dX5_row_6 : decode cX5_row 6 = .ok (.istore_n 2, 1) := by decide +kernel
theorem dX5_row_7 : decode cX5_row 7 = .ok (.iload_n 2, 1) := by decide +kernel
theorem dX5_row_8 : decode cX5_row 8 = .ok (.bipush 8, 2) := by decide +kernel
theorem dX5_row_10 : decode cX5_row 10 = .ok (.if_icmp .ge 28, 3) := by decide +kernel
theorem dX5_row_13 : decode cX5_row 13 = .ok (.aload_n 0, 1) := by decide +kernel
theorem dX5_row_14 : decode cX5_row 14 = .ok (.getfield 25, 3) := by decide +kernel
theorem dX5_row_17 : decode cX5_row 17 = .ok (.iload_n 2, 1) := by decide +kernel
theorem dX5_row_18 : decode cX5_row 18 = .ok (.baload, 1) := by decide +kernel
theorem dX5_row_19 : decode cX5_row 19 = .ok (.ifCond .eq 19, 3) := by decide +kernel
theorem dX5_row_22 : decode cX5_row 22 = .ok (.aload_n 0, 1) := by decide +kernel
theorem dX5_row_23 : decode cX5_row 23 = .ok (.getfield 29, 3) := by decide +kernel
theorem dX5_row_26 : decode cX5_row 26 = .ok (.iload_n 2, 1) := by decide +kernel
theorem dX5_row_27 : decode cX5_row 27 = .ok (.iaload, 1) := by decide +kernel
theorem dX5_row_28 : decode cX5_row 28 = .ok (.iload_n 1, 1) := by decide +kernel
theorem dX5_row_29 : decode cX5_row 29 = .ok (.if_icmp .gt 9, 3) := by decide +kernel
theorem dX5_row_32 : decode cX5_row 32 = .ok (.iinc 2 1, 3) := by decide +kernel
theorem dX5_row_35 : decode cX5_row 35 = .ok (.goto (-28), 3) := by decide +kernel
theorem dX5_row_38 : decode cX5_row 38 = .ok (.iload_n 2, 1) := by decide +kernel
theorem dX5_row_39 : decode cX5_row 39 = .ok (.ireturn, 1) := by decide +kernel
theorem dX5_rest_0 : decode cX5_rest 0 = .ok (.aload_n 0, 1) := by decide +kernel
theorem dX5_rest_1 : decode cX5_rest 1 = .ok (.iconst 0, 1) := by decide +kernel
theorem dX5_rest_2 : decode cX5_rest 2 = .ok (.putfield 59, 3) := by decide +kernel
theorem dX5_rest_5 : decode cX5_rest 5 = .ok (.aload_n 0, 1) := by decide +kernel
theorem dX5_rest_6 : decode cX5_rest 6 = .ok (.getfield 98, 3) := by decide +kernel
theorem dX5_rest_9 : decode cX5_rest 9 = .ok (.istore_n 1, 1) := by decide +kernel
theorem dX5_rest_10 : decode cX5_rest 10 = .ok (.aload_n 0, 1) := by decide +kernel
theorem dX5_rest_11 : decode cX5_rest 11 = .ok (.iconst 0, 1) := by decide +kernel
theorem dX5_rest_12 : decode cX5_rest 12 = .ok (.putfield 98, 3) := by decide +kernel
theorem dX5_rest_15 : decode cX5_rest 15 = .ok (.iload_n 1, 1) := by decide +kernel
theorem dX5_rest_16 : decode cX5_rest 16 = .ok (.ireturn, 1) := by decide +kernel
theorem dX5_goods_0 : decode cX5_goods 0 = .ok (.aload_n 0, 1) := by decide +kernel
theorem dX5_goods_1 : decode cX5_goods 1 = .ok (.iconst 0, 1) := by decide +kernel
theorem dX5_goods_2 : decode cX5_goods 2 = .ok (.putfield 59, 3) := by decide +kernel
theorem dX5_goods_5 : decode cX5_goods 5 = .ok (.iconst 0, 1) := by decide +kernel
theorem dX5_goods_6 : decode cX5_goods 6 = .ok (.istore_n 1, 1) := by decide +kernel
theorem dX5_goods_7 : decode cX5_goods 7 = .ok (.iconst 0, 1) := by decide +kernel
theorem dX5_goods_8 : decode cX5_goods 8 = .ok (.istore_n 2, 1) := by decide +kernel
theorem dX5_goods_9 : decode cX5_goods 9 = .ok (.iload_n 2, 1) := by decide +kernel
theorem dX5_goods_10 : decode cX5_goods 10 = .ok (.bipush 8, 2) := by decide +kernel
theorem dX5_goods_12 : decode cX5_goods 12 = .ok (.if_icmp .ge 31, 3) := by decide +kernel
theorem dX5_goods_15 : decode cX5_goods 15 = .ok (.iload_n 1, 1) := by decide +kernel
theorem dX5_goods_16 : decode cX5_goods 16 = .ok (.aload_n 0, 1) := by decide +kernel
theorem dX5_goods_17 : decode cX5_goods 17 = .ok (.getfield 25, 3) := by decide +kernel
theorem dX5_goods_20 : decode cX5_goods 20 = .ok (.iload_n 2, 1) := by decide +kernel
theorem dX5_goods_21 : decode cX5_goods 21 = .ok (.baload, 1) := by decide +kernel
theorem dX5_goods_22 : decode cX5_goods 22 = .ok (.ifCond .eq 12, 3) := by decide +kernel
theorem dX5_goods_25 : decode cX5_goods 25 = .ok (.aload_n 0, 1) := by decide +kernel
theorem dX5_goods_26 : decode cX5_goods 26 = .ok (.getfield 29, 3) := by decide +kernel
theorem dX5_goods_29 : decode cX5_goods 29 = .ok (.iload_n 2, 1) := by decide +kernel
theorem dX5_goods_30 : decode cX5_goods 30 = .ok (.iaload, 1) := by decide +kernel
theorem dX5_goods_31 : decode cX5_goods 31 = .ok (.goto 4, 3) := by decide +kernel
theorem dX5_goods_34 : decode cX5_goods 34 = .ok (.iconst 0, 1) := by decide +kernel
theorem dX5_goods_35 : decode cX5_goods 35 = .ok (.iadd, 1) := by decide +kernel
theorem dX5_goods_36 : decode cX5_goods 36 = .ok (.istore_n 1, 1) := by decide +kernel
theorem dX5_goods_37 : decode cX5_goods 37 = .ok (.iinc 2 1, 3) := by decide +kernel
theorem dX5_goods_40 : decode cX5_goods 40 = .ok (.goto (-31), 3) := by decide +kernel
theorem dX5_goods_43 : decode cX5_goods 43 = .ok (.iload_n 1, 1) := by decide +kernel
theorem dX5_goods_44 : decode cX5_goods 44 = .ok (.ireturn, 1) := by decide +kernel
end
section
/-! rows of my own: arrays by a number's place; the top of the stack by another name; words for the state -/
section XR
variable {p : Program} {l : Launch} {e : Env} {R : Room} {s : State} {m : MethodId} {args : Array Value} {below : List Frame} {meth : Method} {c : Code} {H : Heap} {locs : List Loc} {cells slots : Nat} {Q : State → Prop}
variable {cc : ByteArray} {pc : Nat} {ls : Array Slot} {rest : List Value} {D : va_G} {A : Nat → Prop} {a : Nat} {tys : List (ClassId × FieldType)} {ws : va_W} {H0 : Heap}
theorem xi_ald (hexec : p.tables.exec = Jvm.exec) (hb : c.code = cc) (hK : va_K D vwCl tys s) (hP : va_P D vwCl ws H) (q0 t0 : Nat) {cA : ClassId} {n : Nat} {f : Nat → Int32} (ha : ws[q0]? = some (a, .inl (cA, n, .inl f))) (ht : tys[t0]? = some (cA, .int)) {k : Nat} (hk : k < n) (hn : n < 2 ^ 31) (hdg : decode cc pc = .ok (.iaload, 1))
    (kk : W p l e R s m args below meth c H locs cells slots Q (F0 m (pc + 1) ls (.int (f k) :: rest))) : W p l e R s m args below meth c H locs cells slots Q (F0 m pc ls (.int (nI k) :: .ref a :: rest)) :=
  va_iald hexec hb hK hP q0 t0 ha ht (vp_in_nI hk hn) hdg (by rw [nI_clamp (Nat.lt_trans hk hn)]; exact kk)
theorem xz_ald (hexec : p.tables.exec = Jvm.exec) (hb : c.code = cc) (hK : va_K D vwCl tys s) (hP : va_P D vwCl ws H) (q0 t0 : Nat) {cA : ClassId} {n : Nat} {f : Nat → Int32} (ha : ws[q0]? = some (a, .inl (cA, n, .inl f))) (ht : tys[t0]? = some (cA, .boolean)) {k : Nat} (hk : k < n) (hn : n < 2 ^ 31) (hdg : decode cc pc = .ok (.baload, 1))
    (kk : W p l e R s m args below meth c H locs cells slots Q (F0 m (pc + 1) ls (.int (f k) :: rest))) : W p l e R s m args below meth c H locs cells slots Q (F0 m pc ls (.int (nI k) :: .ref a :: rest)) :=
  va_zald hexec hb hK hP q0 t0 ha ht (vp_in_nI hk hn) hdg (by rw [nI_clamp (Nat.lt_trans hk hn)]; exact kk)
theorem xi_ast (hexec : p.tables.exec = Jvm.exec) (hb : c.code = cc) (hK : va_K D vwCl tys s) (hP : va_P D vwCl ws H) (hD : va_D A ws) (hS : va_S A H0 H locs) (q0 t0 : Nat) {cA : ClassId} {n : Nat} {f : Nat → Int32} (ha : ws[q0]? = some (a, .inl (cA, n, .inl f))) (ht : tys[t0]? = some (cA, .int)) {k : Nat} {x : Int32} (hk : k < n) (hn : n < 2 ^ 31) (hdg : decode cc pc = .ok (.iastore, 1))
    (kk : ∀ (H1 : Heap) (locs1 : List Loc), va_P D vwCl (ws.set q0 (a, .inl (cA, n, .inl (upd f k x)))) H1 → va_D A (ws.set q0 (a, .inl (cA, n, .inl (upd f k x)))) → va_S A H0 H1 locs1 → W p l e R s m args below meth c H1 locs1 cells slots Q (F0 m (pc + 1) ls rest)) : W p l e R s m args below meth c H locs cells slots Q (F0 m pc ls (.int x :: .int (nI k) :: .ref a :: rest)) :=
  va_iast hexec hb hK hP hD hS q0 t0 ha ht (vp_in_nI hk hn) hdg (by rw [nI_clamp (Nat.lt_trans hk hn)]; exact kk)
theorem xz_ast (hexec : p.tables.exec = Jvm.exec) (hb : c.code = cc) (hK : va_K D vwCl tys s) (hP : va_P D vwCl ws H) (hD : va_D A ws) (hS : va_S A H0 H locs) (q0 t0 : Nat) {cA : ClassId} {n : Nat} {f : Nat → Int32} (ha : ws[q0]? = some (a, .inl (cA, n, .inl f))) (ht : tys[t0]? = some (cA, .boolean)) {k : Nat} {x : Int32} (hx1 : vp_nar .boolean x = x) (hk : k < n) (hn : n < 2 ^ 31) (hdg : decode cc pc = .ok (.bastore, 1))
    (kk : ∀ (H1 : Heap) (locs1 : List Loc), va_P D vwCl (ws.set q0 (a, .inl (cA, n, .inl (upd f k x)))) H1 → va_D A (ws.set q0 (a, .inl (cA, n, .inl (upd f k x)))) → va_S A H0 H1 locs1 → W p l e R s m args below meth c H1 locs1 cells slots Q (F0 m (pc + 1) ls rest)) : W p l e R s m args below meth c H locs cells slots Q (F0 m pc ls (.int x :: .int (nI k) :: .ref a :: rest)) :=
  va_zast hexec hb hK hP hD hS q0 t0 ha ht (vp_in_nI hk hn) hdg (by rw [nI_clamp (Nat.lt_trans hk hn), hx1]; exact kk)
theorem xa_ald (hexec : p.tables.exec = Jvm.exec) (hb : c.code = cc) (hK : va_K D vwCl tys s) (hP : va_P D vwCl ws H) (q0 t0 : Nat) {cA : ClassId} {C : String} {n : Nat} {f : Nat → Option Nat} (ha : ws[q0]? = some (a, .inl (cA, n, .inr (.inr (.inr (.inr f)))))) (ht : tys[t0]? = some (cA, .object C)) {k v : Nat} (hv : f k = some v) (hk : k < n) (hn : n < 2 ^ 31) (hdg : decode cc pc = .ok (.aaload, 1))
    (kk : W p l e R s m args below meth c H locs cells slots Q (F0 m (pc + 1) ls (.ref v :: rest))) : W p l e R s m args below meth c H locs cells slots Q (F0 m pc ls (.int (nI k) :: .ref a :: rest)) :=
  va_aldq hexec hb hK hP q0 t0 ha ht (vp_in_nI hk hn) hdg (by rw [nI_clamp (Nat.lt_trans hk hn), hv]; exact kk)
theorem tp {x y : Int32} (h : x = y) (k : W p l e R s m args below meth c H locs cells slots Q (F0 m pc ls (.int y :: rest))) : W p l e R s m args below meth c H locs cells slots Q (F0 m pc ls (.int x :: rest)) := by
  rw [h]; exact k
end XR
theorem i_le {x y : Int32} : x ≤ y ↔ x.toInt ≤ y.toInt := Int32.le_iff_toInt_le
theorem i_lt {x y : Int32} : x < y ↔ x.toInt < y.toInt := Int32.lt_iff_toInt_lt
theorem i_eq {x y : Int32} : x = y ↔ x.toInt = y.toInt := Int32.toInt_inj.symm
theorem i_nI {n : Nat} (h : n < 2147483648) : (nI n).toInt = (n : Int) := nI_toInt h
/-- a number is a place of n -/
def inN (x : Int32) (n : Nat) : Prop := ∃ k : Nat, k < n ∧ x = nI k
theorem inN_lo {x : Int32} {n : Nat} (hn : n < 2147483648) (h : inN x n) : ¬ x < 0 := by
  obtain ⟨k, h1, rfl⟩ := h
  exact nI_pos (by omega)
theorem inN_of {x y : Int32} {n : Nat} (hn : n < 2147483648) (hy : y = nI n) (h0 : ¬ x < 0) (h1 : x < y) : inN x n := by
  obtain ⟨j, hj, rfl⟩ := nI_of h0
  refine ⟨j, ?_, rfl⟩
  rw [hy] at h1
  exact (nI_ltI (by omega) (by omega)).mp h1
theorem inN_hi {x y : Int32} {n : Nat} (hn : n < 2147483648) (hy : y = nI n) (h : inN x n) : x < y := by
  obtain ⟨k, h1, rfl⟩ := h
  rw [hy]
  exact nI_lt h1 hn
theorem inN_nI {k n : Nat} (hk : k < 2147483648) (hn : n < 2147483648) : inN (nI k) n ↔ k < n := by
  constructor
  · rintro ⟨j, h1, h2⟩
    rw [(nI_eq (by omega) (by omega)).mp h2]; exact h1
  · intro h; exact ⟨k, h, rfl⟩
/-! the state in numbers: shelves -/
def gI (t : Bool) (g : Nat) : Int32 := if t then nI g else -1
def gok (g : Nat → Int32) (th : Nat → Bool) (go : Nat → Nat) : Prop := ∀ s, s < 8 → g s = gI (th s) (go s) ∧ go s ≤ 1000
def hok (h : Nat → Int32) (hd : Nat → Nat) : Prop := ∀ s, s < 8 → h s = nI (hd s) ∧ hd s ≤ 1000
def mis (th : Nat → Bool) (s : Nat) : Nat := if 8 ≤ s then 1 else if th s then 0 else 2
def mol (th : Nat → Bool) (hd : Nat → Nat) (s : Nat) : Nat := if mis th s = 0 then (if hd s = 0 then 7 else 0) else mis th s
theorem gI_ne {t : Bool} {g : Nat} (h : g ≤ 1000) : gI t g = -1 ↔ t = false := by
  cases t
  · simp [gI]
  · simp only [gI, if_true]
    constructor
    · intro e
      have := congrArg Int32.toInt e
      rw [nI_toInt (by omega)] at this
      have h2 : (-1 : Int32).toInt = -1 := by decide
      omega
    · intro e; cases e
/-! plans -/
def dk (k : Nat) : Int := if k ≤ 1 then 1 else if k = 2 then -1 else 0
def dp (cd : Nat → Nat) : Nat → Int
  | 0 => 0
  | i + 1 => dp cd i + dk (cd i / 1000)
def clo (n : Nat) (cd : Nat → Nat) : Prop := (∀ i, i ≤ n → 0 ≤ dp cd i) ∧ dp cd n = 0
def isBeh (cd : Nat → Nat) (b k : Nat) : Prop := b < k ∧ dp cd k = dp cd b ∧ ∀ j, b < j → j < k → dp cd b < dp cd j
def pok (f : Nat → Int32) (n : Nat) (cd : Nat → Nat) : Prop := n ≤ 40 ∧ ∀ i, i < n → f i = nI (cd i) ∧ cd i < 10000
/-! worlds of the small objects -/
abbrev wOp (a : Nat → Nat) (cI : ClassId) (k n b : Nat → Int32) (c : Int32) : va_W := [(a 0, .inr (0, [.ref (a 1), .ref (a 2), .ref (a 3), .int c])), (a 1, .inl (cI, 64, .inl k)), (a 2, .inl (cI, 64, .inl n)), (a 3, .inl (cI, 64, .inl b))]
abbrev wPl (a0 a1 : Nat) (cI : ClassId) (f : Nat → Int32) (n : Int32) : va_W := [(a0, .inr (1, [.ref a1, .int n])), (a1, .inl (cI, 40, .inl f))]
abbrev wRp (a : Nat → Nat) (cI : ClassId) (ct td : Nat → Int32) (op : Int32) : va_W := [(a 0, .inr (2, [.ref (a 1), .int (td 6), .int (td 0), .int (td 1), .int (td 2), .int (td 3), .int (td 4), .int op, .int (td 5), .int (td 7)])), (a 1, .inl (cI, 10, .inl ct))]
abbrev wSt (a : Nat → Nat) (cI : ClassId) (g lf h : Nat → Int32) (r : Int32) : va_W := [(a 0, .inr (3, [.ref (a 1), .ref (a 2), .ref (a 3), .int r])), (a 1, .inl (cI, 8, .inl g)), (a 2, .inl (cI, 8, .inl lf)), (a 3, .inl (cI, 8, .inl h))]
theorem dp_step {cd : Nat → Nat} {i d : Nat} {z : Int} {r : Int32} (hd : (d : Int) = dp cd i - z) (hw : (r = 1 ∧ dp cd (i + 1) = dp cd i + 1) ∨ (r = -1 ∧ dp cd (i + 1) = dp cd i - 1) ∨ (r = 0 ∧ dp cd (i + 1) = dp cd i)) : (∃ e : Nat, nI d + r = nI e ∧ (e : Int) = dp cd (i + 1) - z ∧ e ≤ d + 1) ∨ (nI d + r = -1 ∧ dp cd (i + 1) - z = -1 ∧ d = 0) := by
  rcases hw with ⟨rfl, h⟩ | ⟨rfl, h⟩ | ⟨rfl, h⟩
  · exact Or.inl ⟨d + 1, nI_1 d, by omega, by omega⟩
  · cases d with
    | zero => exact Or.inr ⟨rfl, by omega, rfl⟩
    | succ e => exact Or.inl ⟨e, pk_m1 e, by omega, by omega⟩
  · exact Or.inl ⟨d, by rw [Int32.add_zero], by omega, by omega⟩
def tcv (ct : Nat → Int32) (x : Int32) : Int32 := if x ≤ 0 then -1 else if 9 < x then -1 else ct x.toNatClampNeg
theorem tcv_le {ct : Nat → Int32} {x : Int32} (h : x ≤ 0) : tcv ct x = -1 := by simp [tcv, h]
theorem tcv_gt {ct : Nat → Int32} {x : Int32} (h : 9 < x) : tcv ct x = -1 := by simp [tcv, h]
theorem tcv_in {ct : Nat → Int32} {j : Nat} (h : ¬ nI j ≤ 0) (hj : j < 10) : tcv ct (nI j) = ct j := by
  have h2 : ¬ (9 : Int32) < nI j := by rw [show (9 : Int32) = nI 9 from rfl, nI_ltI (by omega) (by omega)]; omega
  rw [tcv, if_neg h, if_neg h2, nI_clamp (by omega)]
def tdv (td : Nat → Int32) (x : Int32) : Int32 := if 0 ≤ x.toInt ∧ x.toInt ≤ 7 then td x.toInt.toNat else -1
theorem tdv_cases (td : Nat → Int32) (x : Int32) : (x = 0 ∧ tdv td x = td 0) ∨ (x = 1 ∧ tdv td x = td 1) ∨ (x = 2 ∧ tdv td x = td 2) ∨ (x = 3 ∧ tdv td x = td 3) ∨ (x = 4 ∧ tdv td x = td 4) ∨ (x = 5 ∧ tdv td x = td 5) ∨ (x = 6 ∧ tdv td x = td 6) ∨ (x = 7 ∧ tdv td x = td 7) ∨ ((x.toInt < 0 ∨ 7 < x.toInt) ∧ tdv td x = -1) := by
  by_cases h : 0 ≤ x.toInt ∧ x.toInt ≤ 7
  · have hx : x.toInt = 0 ∨ x.toInt = 1 ∨ x.toInt = 2 ∨ x.toInt = 3 ∨ x.toInt = 4 ∨ x.toInt = 5 ∨ x.toInt = 6 ∨ x.toInt = 7 := by omega
    have e : tdv td x = td x.toInt.toNat := by rw [tdv, if_pos h]
    rcases hx with q | q | q | q | q | q | q | q <;> rw [q] at e
    · exact Or.inl ⟨Int32.toInt_inj.mp q, e⟩
    · exact Or.inr (Or.inl ⟨Int32.toInt_inj.mp q, e⟩)
    · exact Or.inr (Or.inr (Or.inl ⟨Int32.toInt_inj.mp q, e⟩))
    · exact Or.inr (Or.inr (Or.inr (Or.inl ⟨Int32.toInt_inj.mp q, e⟩)))
    · exact Or.inr (Or.inr (Or.inr (Or.inr (Or.inl ⟨Int32.toInt_inj.mp q, e⟩))))
    · exact Or.inr (Or.inr (Or.inr (Or.inr (Or.inr (Or.inl ⟨Int32.toInt_inj.mp q, e⟩)))))
    · exact Or.inr (Or.inr (Or.inr (Or.inr (Or.inr (Or.inr (Or.inl ⟨Int32.toInt_inj.mp q, e⟩))))))
    · exact Or.inr (Or.inr (Or.inr (Or.inr (Or.inr (Or.inr (Or.inr (Or.inl ⟨Int32.toInt_inj.mp q, e⟩)))))))
  · exact Or.inr (Or.inr (Or.inr (Or.inr (Or.inr (Or.inr (Or.inr (Or.inr ⟨by omega, by rw [tdv, if_neg h]⟩)))))))
end
section
set_option maxHeartbeats 4000000 in
set_option maxRecDepth 100000 in
theorem c_X0_size (l : Launch) (D : va_G) (cI : ClassId) (a : Nat → Nat) (k n b : Nat → Int32) (j : Nat) : Ci l D [(cI, .int)] yX0_size wsX0_size ({ frames := 0, cells := 0, slots := 0, locals := 0 }) [.ref (a 0)] (wOp a cI k n b (nI j)) (S := Unit) (fun v _ => v = nI j) (fun _ => wOp a cI k n b (nI j)) := by
  refine Ci.mk (cc := cX0_size) (maxL := 1) (ret := (some .int)) (by decide +kernel) rfl (Nat.le_of_ble_eq_true rfl) ?_
  intro pg e s m below meth c A ls hx hb hml hr hown hts hlocks hK hns hA hP hD hS hl
  have hl : lv_has ls 1 [(0, .ref (a 0))] := hl
  have fl21 := hts (.fieldLink RX0 21 "HeldShelves$OpenRow" "count" "I") (List.mem_of_getElem? (i := 1) rfl)
  have inX0 : ∀ w ∈ wsX00, w ∈ wsX0_size := fun _ h => List.mem_cons_of_mem _ (List.mem_append_right _ h)
  have hP : va_P D vwCl [(a 0, .inr (0, [.ref (a 1), .ref (a 2), .ref (a 3), .int (nI j)])), (a 1, .inl (cI, 64, .inl k)), (a 2, .inl (cI, 64, .inl n)), (a 3, .inl (cI, 64, .inl b))] s.heap := hP
  have hD : va_D A [(a 0, .inr (0, [.ref (a 1), .ref (a 2), .ref (a 3), .int (nI j)])), (a 1, .inl (cI, 64, .inl k)), (a 2, .inl (cI, 64, .inl n)), (a 3, .inl (cI, 64, .inl b))] := hD
  refine lv_aload_n hx hb dX0_size_0 rfl (lv_at hl 0 rfl) ?_
  refine va_get (D := D) (ci := 0) (v := .int (nI j)) (C := RX0) (T := TX0) (N := 4) hx hb hts inX0 hown hK hP 0 rfl rfl 3 (by decide) fl21 (fun _ h9 => h9) rfl dX0_size_1 ?_
  exact Ri (D := D) () hx hb hr rfl hlocks hP hD hS rfl dX0_size_4

set_option maxHeartbeats 4000000 in
set_option maxRecDepth 100000 in
theorem c_X0_push (l : Launch) (D : va_G) (cI : ClassId) (a : Nat → Nat) (k n b : Nat → Int32) (j : Nat) (hj : j < 64) (x y z : Int32) : Cv l D [(cI, .int)] yX0_push wsX0_push ({ frames := 0, cells := 0, slots := 0, locals := 0 }) [.ref (a 0), .int x, .int y, .int z] (wOp a cI k n b (nI j)) (S := Unit) (fun _ => True) (fun _ => wOp a cI (upd k j x) (upd n j y) (upd b j z) (nI (j + 1))) := by
  refine Cv.mk (cc := cX0_push) (maxL := 4) (ret := none) (by decide +kernel) rfl (Nat.le_of_ble_eq_true rfl) ?_
  intro pg e s m below meth c A ls hx hb hml hr hown hts hlocks hK hns hA hP hD hS hl
  have hl : lv_has ls 4 [(0, .ref (a 0)), (1, .int x), (2, .int y), (3, .int z)] := hl
  have fl21 := hts (.fieldLink RX0 21 "HeldShelves$OpenRow" "count" "I") (List.mem_of_getElem? (i := 1) rfl)
  have inX0 : ∀ w ∈ wsX00, w ∈ wsX0_push := fun _ h => List.mem_cons_of_mem _ (List.mem_append_right _ h)
  have fl9 := hts (.fieldLink RX0 9 "HeldShelves$OpenRow" "kinds" "[I") (List.mem_of_getElem? (i := 2) rfl)
  have fl15 := hts (.fieldLink RX0 15 "HeldShelves$OpenRow" "numbers" "[I") (List.mem_of_getElem? (i := 3) rfl)
  have fl18 := hts (.fieldLink RX0 18 "HeldShelves$OpenRow" "behinds" "[I") (List.mem_of_getElem? (i := 4) rfl)
  have hP : va_P D vwCl [(a 0, .inr (0, [.ref (a 1), .ref (a 2), .ref (a 3), .int (nI j)])), (a 1, .inl (cI, 64, .inl k)), (a 2, .inl (cI, 64, .inl n)), (a 3, .inl (cI, 64, .inl b))] s.heap := hP
  have hD : va_D A [(a 0, .inr (0, [.ref (a 1), .ref (a 2), .ref (a 3), .int (nI j)])), (a 1, .inl (cI, 64, .inl k)), (a 2, .inl (cI, 64, .inl n)), (a 3, .inl (cI, 64, .inl b))] := hD
  refine lv_aload_n hx hb dX0_push_0 rfl (lv_at hl 0 rfl) ?_
  refine va_get (D := D) (ci := 0) (v := .int (nI j)) (C := RX0) (T := TX0) (N := 4) hx hb hts inX0 hown hK hP 0 rfl rfl 3 (by decide) fl21 (fun _ h9 => h9) rfl dX0_push_1 ?_
  refine lv_bipush (v := 64) hx hb dX0_push_4 (by decide) ?_
  refine lv_icmp_ge (tgt := 49) hx hb dX0_push_6 (by decide) (fun c_6 => ?_) (fun c_6 => ?_)
  · have c_6 : 64 ≤ j := (nI_leI (a := 64) (b := j) (by omega) (by omega)).mp c_6
    exact absurd c_6 (by omega)
  · have c_6 : ¬ (64 ≤ j) := fun h => c_6 ((nI_leI (a := 64) (b := j) (by omega) (by omega)).mpr h)
    refine lv_aload_n hx hb dX0_push_9 rfl (lv_at hl 0 rfl) ?_
    refine va_get (D := D) (ci := 0) (v := .ref (a 1)) (C := RX0) (T := TX0) (N := 4) hx hb hts inX0 hown hK hP 0 rfl rfl 0 (by decide) fl9 (fun _ h9 => h9) rfl dX0_push_10 ?_
    refine lv_aload_n hx hb dX0_push_13 rfl (lv_at hl 0 rfl) ?_
    refine va_get (D := D) (ci := 0) (v := .int (nI j)) (C := RX0) (T := TX0) (N := 4) hx hb hts inX0 hown hK hP 0 rfl rfl 3 (by decide) fl21 (fun _ h9 => h9) rfl dX0_push_14 ?_
    refine lv_iload_n hx hb dX0_push_17 rfl (lv_at hl 1 rfl) ?_
    refine xi_ast hx hb hK hP hD hS 1 0 rfl rfl (k := j) (x := x) (by omega) (by decide) dX0_push_18 (fun H locs hP hD hS => ?_)
    have hP : va_P D vwCl [(a 0, .inr (0, [.ref (a 1), .ref (a 2), .ref (a 3), .int (nI j)])), (a 1, .inl (cI, 64, .inl (upd k j x))), (a 2, .inl (cI, 64, .inl n)), (a 3, .inl (cI, 64, .inl b))] H := hP
    have hD : va_D A [(a 0, .inr (0, [.ref (a 1), .ref (a 2), .ref (a 3), .int (nI j)])), (a 1, .inl (cI, 64, .inl (upd k j x))), (a 2, .inl (cI, 64, .inl n)), (a 3, .inl (cI, 64, .inl b))] := hD
    refine lv_aload_n hx hb dX0_push_19 rfl (lv_at hl 0 rfl) ?_
    refine va_get (D := D) (ci := 0) (v := .ref (a 2)) (C := RX0) (T := TX0) (N := 4) hx hb hts inX0 hown hK hP 0 rfl rfl 1 (by decide) fl15 (fun _ h9 => h9) rfl dX0_push_20 ?_
    refine lv_aload_n hx hb dX0_push_23 rfl (lv_at hl 0 rfl) ?_
    refine va_get (D := D) (ci := 0) (v := .int (nI j)) (C := RX0) (T := TX0) (N := 4) hx hb hts inX0 hown hK hP 0 rfl rfl 3 (by decide) fl21 (fun _ h9 => h9) rfl dX0_push_24 ?_
    refine lv_iload_n hx hb dX0_push_27 rfl (lv_at hl 2 rfl) ?_
    refine xi_ast hx hb hK hP hD hS 2 0 rfl rfl (k := j) (x := y) (by omega) (by decide) dX0_push_28 (fun H locs hP hD hS => ?_)
    have hP : va_P D vwCl [(a 0, .inr (0, [.ref (a 1), .ref (a 2), .ref (a 3), .int (nI j)])), (a 1, .inl (cI, 64, .inl (upd k j x))), (a 2, .inl (cI, 64, .inl (upd n j y))), (a 3, .inl (cI, 64, .inl b))] H := hP
    have hD : va_D A [(a 0, .inr (0, [.ref (a 1), .ref (a 2), .ref (a 3), .int (nI j)])), (a 1, .inl (cI, 64, .inl (upd k j x))), (a 2, .inl (cI, 64, .inl (upd n j y))), (a 3, .inl (cI, 64, .inl b))] := hD
    refine lv_aload_n hx hb dX0_push_29 rfl (lv_at hl 0 rfl) ?_
    refine va_get (D := D) (ci := 0) (v := .ref (a 3)) (C := RX0) (T := TX0) (N := 4) hx hb hts inX0 hown hK hP 0 rfl rfl 2 (by decide) fl18 (fun _ h9 => h9) rfl dX0_push_30 ?_
    refine lv_aload_n hx hb dX0_push_33 rfl (lv_at hl 0 rfl) ?_
    refine va_get (D := D) (ci := 0) (v := .int (nI j)) (C := RX0) (T := TX0) (N := 4) hx hb hts inX0 hown hK hP 0 rfl rfl 3 (by decide) fl21 (fun _ h9 => h9) rfl dX0_push_34 ?_
    refine lv_iload_n hx hb dX0_push_37 rfl (lv_at hl 3 rfl) ?_
    refine xi_ast hx hb hK hP hD hS 3 0 rfl rfl (k := j) (x := z) (by omega) (by decide) dX0_push_38 (fun H locs hP hD hS => ?_)
    have hP : va_P D vwCl [(a 0, .inr (0, [.ref (a 1), .ref (a 2), .ref (a 3), .int (nI j)])), (a 1, .inl (cI, 64, .inl (upd k j x))), (a 2, .inl (cI, 64, .inl (upd n j y))), (a 3, .inl (cI, 64, .inl (upd b j z)))] H := hP
    have hD : va_D A [(a 0, .inr (0, [.ref (a 1), .ref (a 2), .ref (a 3), .int (nI j)])), (a 1, .inl (cI, 64, .inl (upd k j x))), (a 2, .inl (cI, 64, .inl (upd n j y))), (a 3, .inl (cI, 64, .inl (upd b j z)))] := hD
    refine lv_aload_n hx hb dX0_push_39 rfl (lv_at hl 0 rfl) ?_
    refine lv_dup hx hb dX0_push_40 rfl ?_
    refine va_get (D := D) (ci := 0) (v := .int (nI j)) (C := RX0) (T := TX0) (N := 4) hx hb hts inX0 hown hK hP 0 rfl rfl 3 (by decide) fl21 (fun _ h9 => h9) rfl dX0_push_41 ?_
    refine lv_iconst (v := 1) hx hb dX0_push_44 (by decide) ?_
    refine lv_iadd hx hb dX0_push_45 ?_
    refine tp (y := nI (j + 1)) (nI_1 j) ?_
    refine va_put (D := D) (ci := 0) (v := .int (nI (j + 1))) (ty := .int) (C := RX0) (T := TX0) (N := 4) hx hb hts inX0 tyX0 tyX0_ok nmX0 hown hK hP hD hS 0 rfl rfl 3 (by decide) fl21 (fun _ h9 => h9) rfl (by decide +kernel) rfl rfl (Nat.le_of_ble_eq_true rfl) dX0_push_46 (fun H locs hP hD hS => ?_)
    have hP : va_P D vwCl [(a 0, .inr (0, [.ref (a 1), .ref (a 2), .ref (a 3), .int (nI (j + 1))])), (a 1, .inl (cI, 64, .inl (upd k j x))), (a 2, .inl (cI, 64, .inl (upd n j y))), (a 3, .inl (cI, 64, .inl (upd b j z)))] H := hP
    have hD : va_D A [(a 0, .inr (0, [.ref (a 1), .ref (a 2), .ref (a 3), .int (nI (j + 1))])), (a 1, .inl (cI, 64, .inl (upd k j x))), (a 2, .inl (cI, 64, .inl (upd n j y))), (a 3, .inl (cI, 64, .inl (upd b j z)))] := hD
    exact Rv (D := D) () hx hb hr hlocks hP hD hS trivial dX0_push_49

set_option maxHeartbeats 4000000 in
set_option maxRecDepth 100000 in
theorem c_X0_pop (l : Launch) (D : va_G) (cI : ClassId) (a : Nat → Nat) (k n b : Nat → Int32) (j : Nat) (hj : j < 64) : Cv l D [(cI, .int)] yX0_pop wsX0_pop ({ frames := 0, cells := 0, slots := 0, locals := 0 }) [.ref (a 0)] (wOp a cI k n b (nI (j + 1))) (S := Unit) (fun _ => True) (fun _ => wOp a cI k n b (nI j)) := by
  refine Cv.mk (cc := cX0_pop) (maxL := 1) (ret := none) (by decide +kernel) rfl (Nat.le_of_ble_eq_true rfl) ?_
  intro pg e s m below meth c A ls hx hb hml hr hown hts hlocks hK hns hA hP hD hS hl
  have hl : lv_has ls 1 [(0, .ref (a 0))] := hl
  have fl21 := hts (.fieldLink RX0 21 "HeldShelves$OpenRow" "count" "I") (List.mem_of_getElem? (i := 1) rfl)
  have inX0 : ∀ w ∈ wsX00, w ∈ wsX0_pop := fun _ h => List.mem_cons_of_mem _ (List.mem_append_right _ h)
  have hP : va_P D vwCl [(a 0, .inr (0, [.ref (a 1), .ref (a 2), .ref (a 3), .int (nI (j + 1))])), (a 1, .inl (cI, 64, .inl k)), (a 2, .inl (cI, 64, .inl n)), (a 3, .inl (cI, 64, .inl b))] s.heap := hP
  have hD : va_D A [(a 0, .inr (0, [.ref (a 1), .ref (a 2), .ref (a 3), .int (nI (j + 1))])), (a 1, .inl (cI, 64, .inl k)), (a 2, .inl (cI, 64, .inl n)), (a 3, .inl (cI, 64, .inl b))] := hD
  refine lv_aload_n hx hb dX0_pop_0 rfl (lv_at hl 0 rfl) ?_
  refine va_get (D := D) (ci := 0) (v := .int (nI (j + 1))) (C := RX0) (T := TX0) (N := 4) hx hb hts inX0 hown hK hP 0 rfl rfl 3 (by decide) fl21 (fun _ h9 => h9) rfl dX0_pop_1 ?_
  refine lv_if_le (tgt := 17) hx hb dX0_pop_4 (by decide) (fun c_4 => ?_) (fun c_4 => ?_)
  · have c_4 : (j + 1) ≤ 0 := (nI_leI (a := (j + 1)) (b := 0) (by omega) (by omega)).mp c_4
    exact absurd c_4 (by omega)
  · have c_4 : ¬ ((j + 1) ≤ 0) := fun h => c_4 ((nI_leI (a := (j + 1)) (b := 0) (by omega) (by omega)).mpr h)
    refine lv_aload_n hx hb dX0_pop_7 rfl (lv_at hl 0 rfl) ?_
    refine lv_dup hx hb dX0_pop_8 rfl ?_
    refine va_get (D := D) (ci := 0) (v := .int (nI (j + 1))) (C := RX0) (T := TX0) (N := 4) hx hb hts inX0 hown hK hP 0 rfl rfl 3 (by decide) fl21 (fun _ h9 => h9) rfl dX0_pop_9 ?_
    refine lv_iconst (v := 1) hx hb dX0_pop_12 (by decide) ?_
    refine lv_isub hx hb dX0_pop_13 ?_
    refine tp (y := nI j) (nI_pred j) ?_
    refine va_put (D := D) (ci := 0) (v := .int (nI j)) (ty := .int) (C := RX0) (T := TX0) (N := 4) hx hb hts inX0 tyX0 tyX0_ok nmX0 hown hK hP hD hS 0 rfl rfl 3 (by decide) fl21 (fun _ h9 => h9) rfl (by decide +kernel) rfl rfl (Nat.le_of_ble_eq_true rfl) dX0_pop_14 (fun H locs hP hD hS => ?_)
    have hP : va_P D vwCl [(a 0, .inr (0, [.ref (a 1), .ref (a 2), .ref (a 3), .int (nI j)])), (a 1, .inl (cI, 64, .inl k)), (a 2, .inl (cI, 64, .inl n)), (a 3, .inl (cI, 64, .inl b))] H := hP
    have hD : va_D A [(a 0, .inr (0, [.ref (a 1), .ref (a 2), .ref (a 3), .int (nI j)])), (a 1, .inl (cI, 64, .inl k)), (a 2, .inl (cI, 64, .inl n)), (a 3, .inl (cI, 64, .inl b))] := hD
    exact Rv (D := D) () hx hb hr hlocks hP hD hS trivial dX0_pop_17

set_option maxHeartbeats 4000000 in
set_option maxRecDepth 100000 in
theorem c_X0_kind (l : Launch) (D : va_G) (cI : ClassId) (a : Nat → Nat) (k n b : Nat → Int32) (j : Nat) (hj : j < 64) : Ci l D [(cI, .int)] yX0_kind wsX0_kind ({ frames := 0, cells := 0, slots := 0, locals := 0 }) [.ref (a 0)] (wOp a cI k n b (nI (j + 1))) (S := Unit) (fun v _ => v = k j) (fun _ => wOp a cI k n b (nI (j + 1))) := by
  refine Ci.mk (cc := cX0_kind) (maxL := 1) (ret := (some .int)) (by decide +kernel) rfl (Nat.le_of_ble_eq_true rfl) ?_
  intro pg e s m below meth c A ls hx hb hml hr hown hts hlocks hK hns hA hP hD hS hl
  have hl : lv_has ls 1 [(0, .ref (a 0))] := hl
  have fl21 := hts (.fieldLink RX0 21 "HeldShelves$OpenRow" "count" "I") (List.mem_of_getElem? (i := 1) rfl)
  have inX0 : ∀ w ∈ wsX00, w ∈ wsX0_kind := fun _ h => List.mem_cons_of_mem _ (List.mem_append_right _ h)
  have fl9 := hts (.fieldLink RX0 9 "HeldShelves$OpenRow" "kinds" "[I") (List.mem_of_getElem? (i := 2) rfl)
  have hP : va_P D vwCl [(a 0, .inr (0, [.ref (a 1), .ref (a 2), .ref (a 3), .int (nI (j + 1))])), (a 1, .inl (cI, 64, .inl k)), (a 2, .inl (cI, 64, .inl n)), (a 3, .inl (cI, 64, .inl b))] s.heap := hP
  have hD : va_D A [(a 0, .inr (0, [.ref (a 1), .ref (a 2), .ref (a 3), .int (nI (j + 1))])), (a 1, .inl (cI, 64, .inl k)), (a 2, .inl (cI, 64, .inl n)), (a 3, .inl (cI, 64, .inl b))] := hD
  refine lv_aload_n hx hb dX0_kind_0 rfl (lv_at hl 0 rfl) ?_
  refine va_get (D := D) (ci := 0) (v := .int (nI (j + 1))) (C := RX0) (T := TX0) (N := 4) hx hb hts inX0 hown hK hP 0 rfl rfl 3 (by decide) fl21 (fun _ h9 => h9) rfl dX0_kind_1 ?_
  refine lv_if_le (tgt := 21) hx hb dX0_kind_4 (by decide) (fun c_4 => ?_) (fun c_4 => ?_)
  · have c_4 : (j + 1) ≤ 0 := (nI_leI (a := (j + 1)) (b := 0) (by omega) (by omega)).mp c_4
    exact absurd c_4 (by omega)
  · have c_4 : ¬ ((j + 1) ≤ 0) := fun h => c_4 ((nI_leI (a := (j + 1)) (b := 0) (by omega) (by omega)).mpr h)
    refine lv_aload_n hx hb dX0_kind_7 rfl (lv_at hl 0 rfl) ?_
    refine va_get (D := D) (ci := 0) (v := .ref (a 1)) (C := RX0) (T := TX0) (N := 4) hx hb hts inX0 hown hK hP 0 rfl rfl 0 (by decide) fl9 (fun _ h9 => h9) rfl dX0_kind_8 ?_
    refine lv_aload_n hx hb dX0_kind_11 rfl (lv_at hl 0 rfl) ?_
    refine va_get (D := D) (ci := 0) (v := .int (nI (j + 1))) (C := RX0) (T := TX0) (N := 4) hx hb hts inX0 hown hK hP 0 rfl rfl 3 (by decide) fl21 (fun _ h9 => h9) rfl dX0_kind_12 ?_
    refine lv_iconst (v := 1) hx hb dX0_kind_15 (by decide) ?_
    refine lv_isub hx hb dX0_kind_16 ?_
    refine tp (y := nI j) (nI_pred j) ?_
    refine xi_ald hx hb hK hP 1 0 rfl rfl (k := j) (by omega) (by decide) dX0_kind_17 ?_
    refine lv_goto (tgt := 23) hx hb dX0_kind_18 (by decide) ?_
    exact Ri (D := D) () hx hb hr rfl hlocks hP hD hS rfl dX0_kind_23

set_option maxHeartbeats 4000000 in
set_option maxRecDepth 100000 in
theorem c_X0_number (l : Launch) (D : va_G) (cI : ClassId) (a : Nat → Nat) (k n b : Nat → Int32) (j : Nat) (hj : j < 64) : Ci l D [(cI, .int)] yX0_number wsX0_number ({ frames := 0, cells := 0, slots := 0, locals := 0 }) [.ref (a 0)] (wOp a cI k n b (nI (j + 1))) (S := Unit) (fun v _ => v = n j) (fun _ => wOp a cI k n b (nI (j + 1))) := by
  refine Ci.mk (cc := cX0_number) (maxL := 1) (ret := (some .int)) (by decide +kernel) rfl (Nat.le_of_ble_eq_true rfl) ?_
  intro pg e s m below meth c A ls hx hb hml hr hown hts hlocks hK hns hA hP hD hS hl
  have hl : lv_has ls 1 [(0, .ref (a 0))] := hl
  have fl21 := hts (.fieldLink RX0 21 "HeldShelves$OpenRow" "count" "I") (List.mem_of_getElem? (i := 1) rfl)
  have inX0 : ∀ w ∈ wsX00, w ∈ wsX0_number := fun _ h => List.mem_cons_of_mem _ (List.mem_append_right _ h)
  have fl15 := hts (.fieldLink RX0 15 "HeldShelves$OpenRow" "numbers" "[I") (List.mem_of_getElem? (i := 2) rfl)
  have hP : va_P D vwCl [(a 0, .inr (0, [.ref (a 1), .ref (a 2), .ref (a 3), .int (nI (j + 1))])), (a 1, .inl (cI, 64, .inl k)), (a 2, .inl (cI, 64, .inl n)), (a 3, .inl (cI, 64, .inl b))] s.heap := hP
  have hD : va_D A [(a 0, .inr (0, [.ref (a 1), .ref (a 2), .ref (a 3), .int (nI (j + 1))])), (a 1, .inl (cI, 64, .inl k)), (a 2, .inl (cI, 64, .inl n)), (a 3, .inl (cI, 64, .inl b))] := hD
  refine lv_aload_n hx hb dX0_number_0 rfl (lv_at hl 0 rfl) ?_
  refine va_get (D := D) (ci := 0) (v := .int (nI (j + 1))) (C := RX0) (T := TX0) (N := 4) hx hb hts inX0 hown hK hP 0 rfl rfl 3 (by decide) fl21 (fun _ h9 => h9) rfl dX0_number_1 ?_
  refine lv_if_le (tgt := 21) hx hb dX0_number_4 (by decide) (fun c_4 => ?_) (fun c_4 => ?_)
  · have c_4 : (j + 1) ≤ 0 := (nI_leI (a := (j + 1)) (b := 0) (by omega) (by omega)).mp c_4
    exact absurd c_4 (by omega)
  · have c_4 : ¬ ((j + 1) ≤ 0) := fun h => c_4 ((nI_leI (a := (j + 1)) (b := 0) (by omega) (by omega)).mpr h)
    refine lv_aload_n hx hb dX0_number_7 rfl (lv_at hl 0 rfl) ?_
    refine va_get (D := D) (ci := 0) (v := .ref (a 2)) (C := RX0) (T := TX0) (N := 4) hx hb hts inX0 hown hK hP 0 rfl rfl 1 (by decide) fl15 (fun _ h9 => h9) rfl dX0_number_8 ?_
    refine lv_aload_n hx hb dX0_number_11 rfl (lv_at hl 0 rfl) ?_
    refine va_get (D := D) (ci := 0) (v := .int (nI (j + 1))) (C := RX0) (T := TX0) (N := 4) hx hb hts inX0 hown hK hP 0 rfl rfl 3 (by decide) fl21 (fun _ h9 => h9) rfl dX0_number_12 ?_
    refine lv_iconst (v := 1) hx hb dX0_number_15 (by decide) ?_
    refine lv_isub hx hb dX0_number_16 ?_
    refine tp (y := nI j) (nI_pred j) ?_
    refine xi_ald hx hb hK hP 2 0 rfl rfl (k := j) (by omega) (by decide) dX0_number_17 ?_
    refine lv_goto (tgt := 22) hx hb dX0_number_18 (by decide) ?_
    exact Ri (D := D) () hx hb hr rfl hlocks hP hD hS rfl dX0_number_22

set_option maxHeartbeats 4000000 in
set_option maxRecDepth 100000 in
theorem c_X0_behind (l : Launch) (D : va_G) (cI : ClassId) (a : Nat → Nat) (k n b : Nat → Int32) (j : Nat) (hj : j < 64) : Ci l D [(cI, .int)] yX0_behind wsX0_behind ({ frames := 0, cells := 0, slots := 0, locals := 0 }) [.ref (a 0)] (wOp a cI k n b (nI (j + 1))) (S := Unit) (fun v _ => v = b j) (fun _ => wOp a cI k n b (nI (j + 1))) := by
  refine Ci.mk (cc := cX0_behind) (maxL := 1) (ret := (some .int)) (by decide +kernel) rfl (Nat.le_of_ble_eq_true rfl) ?_
  intro pg e s m below meth c A ls hx hb hml hr hown hts hlocks hK hns hA hP hD hS hl
  have hl : lv_has ls 1 [(0, .ref (a 0))] := hl
  have fl21 := hts (.fieldLink RX0 21 "HeldShelves$OpenRow" "count" "I") (List.mem_of_getElem? (i := 1) rfl)
  have inX0 : ∀ w ∈ wsX00, w ∈ wsX0_behind := fun _ h => List.mem_cons_of_mem _ (List.mem_append_right _ h)
  have fl18 := hts (.fieldLink RX0 18 "HeldShelves$OpenRow" "behinds" "[I") (List.mem_of_getElem? (i := 2) rfl)
  have hP : va_P D vwCl [(a 0, .inr (0, [.ref (a 1), .ref (a 2), .ref (a 3), .int (nI (j + 1))])), (a 1, .inl (cI, 64, .inl k)), (a 2, .inl (cI, 64, .inl n)), (a 3, .inl (cI, 64, .inl b))] s.heap := hP
  have hD : va_D A [(a 0, .inr (0, [.ref (a 1), .ref (a 2), .ref (a 3), .int (nI (j + 1))])), (a 1, .inl (cI, 64, .inl k)), (a 2, .inl (cI, 64, .inl n)), (a 3, .inl (cI, 64, .inl b))] := hD
  refine lv_aload_n hx hb dX0_behind_0 rfl (lv_at hl 0 rfl) ?_
  refine va_get (D := D) (ci := 0) (v := .int (nI (j + 1))) (C := RX0) (T := TX0) (N := 4) hx hb hts inX0 hown hK hP 0 rfl rfl 3 (by decide) fl21 (fun _ h9 => h9) rfl dX0_behind_1 ?_
  refine lv_if_le (tgt := 21) hx hb dX0_behind_4 (by decide) (fun c_4 => ?_) (fun c_4 => ?_)
  · have c_4 : (j + 1) ≤ 0 := (nI_leI (a := (j + 1)) (b := 0) (by omega) (by omega)).mp c_4
    exact absurd c_4 (by omega)
  · have c_4 : ¬ ((j + 1) ≤ 0) := fun h => c_4 ((nI_leI (a := (j + 1)) (b := 0) (by omega) (by omega)).mpr h)
    refine lv_aload_n hx hb dX0_behind_7 rfl (lv_at hl 0 rfl) ?_
    refine va_get (D := D) (ci := 0) (v := .ref (a 3)) (C := RX0) (T := TX0) (N := 4) hx hb hts inX0 hown hK hP 0 rfl rfl 2 (by decide) fl18 (fun _ h9 => h9) rfl dX0_behind_8 ?_
    refine lv_aload_n hx hb dX0_behind_11 rfl (lv_at hl 0 rfl) ?_
    refine va_get (D := D) (ci := 0) (v := .int (nI (j + 1))) (C := RX0) (T := TX0) (N := 4) hx hb hts inX0 hown hK hP 0 rfl rfl 3 (by decide) fl21 (fun _ h9 => h9) rfl dX0_behind_12 ?_
    refine lv_iconst (v := 1) hx hb dX0_behind_15 (by decide) ?_
    refine lv_isub hx hb dX0_behind_16 ?_
    refine tp (y := nI j) (nI_pred j) ?_
    refine xi_ald hx hb hK hP 3 0 rfl rfl (k := j) (by omega) (by decide) dX0_behind_17 ?_
    refine lv_goto (tgt := 22) hx hb dX0_behind_18 (by decide) ?_
    exact Ri (D := D) () hx hb hr rfl hlocks hP hD hS rfl dX0_behind_22

set_option maxHeartbeats 4000000 in
set_option maxRecDepth 100000 in
theorem c_X1_size (l : Launch) (D : va_G) (cI : ClassId) (a0 a1 : Nat) (f : Nat → Int32) (n : Nat) : Ci l D [(cI, .int)] yX1_size wsX1_size ({ frames := 0, cells := 0, slots := 0, locals := 0 }) [.ref a0] (wPl a0 a1 cI f (nI n)) (S := Unit) (fun v _ => v = nI n) (fun _ => wPl a0 a1 cI f (nI n)) := by
  refine Ci.mk (cc := cX1_size) (maxL := 1) (ret := (some .int)) (by decide +kernel) rfl (Nat.le_of_ble_eq_true rfl) ?_
  intro pg e s m below meth c A ls hx hb hml hr hown hts hlocks hK hns hA hP hD hS hl
  have hl : lv_has ls 1 [(0, .ref a0)] := hl
  have fl15 := hts (.fieldLink RX1 15 "HeldShelves$Plan" "count" "I") (List.mem_of_getElem? (i := 1) rfl)
  have inX1 : ∀ w ∈ wsX10, w ∈ wsX1_size := fun _ h => List.mem_cons_of_mem _ (List.mem_append_right _ h)
  have hP : va_P D vwCl [(a0, .inr (1, [.ref a1, .int (nI n)])), (a1, .inl (cI, 40, .inl f))] s.heap := hP
  have hD : va_D A [(a0, .inr (1, [.ref a1, .int (nI n)])), (a1, .inl (cI, 40, .inl f))] := hD
  refine lv_aload_n hx hb dX1_size_0 rfl (lv_at hl 0 rfl) ?_
  refine va_get (D := D) (ci := 1) (v := .int (nI n)) (C := RX1) (T := TX1) (N := 2) hx hb hts inX1 hown hK hP 0 rfl rfl 1 (by decide) fl15 (fun _ h9 => h9) rfl dX1_size_1 ?_
  exact Ri (D := D) () hx hb hr rfl hlocks hP hD hS rfl dX1_size_4

set_option maxHeartbeats 4000000 in
set_option maxRecDepth 100000 in
theorem c_X1_add (l : Launch) (D : va_G) (cI : ClassId) (a0 a1 : Nat) (f : Nat → Int32) (n : Nat) (hn0 : n ≤ 40) (x y z t : Int32) : Ci l D [(cI, .int)] yX1_add wsX1_add ({ frames := 0, cells := 0, slots := 0, locals := 0 }) [.ref a0, .int x, .int y, .int z, .int t] (wPl a0 a1 cI f (nI n)) (S := (Nat → Int32) × Int32) (fun v u => (n = 40 ∧ v = -2 ∧ u = (f, nI n)) ∨ (n < 40 ∧ v = nI n ∧ u = (upd f n (x * 1000 + y * 100 + z * 10 + t), nI (n + 1)))) (fun u => wPl a0 a1 cI u.1 u.2) := by
  refine Ci.mk (cc := cX1_add) (maxL := 5) (ret := (some .int)) (by decide +kernel) rfl (Nat.le_of_ble_eq_true rfl) ?_
  intro pg e s m below meth c A ls hx hb hml hr hown hts hlocks hK hns hA hP hD hS hl
  have hl : lv_has ls 5 [(0, .ref a0), (1, .int x), (2, .int y), (3, .int z), (4, .int t)] := hl
  have fl15 := hts (.fieldLink RX1 15 "HeldShelves$Plan" "count" "I") (List.mem_of_getElem? (i := 1) rfl)
  have inX1 : ∀ w ∈ wsX10, w ∈ wsX1_add := fun _ h => List.mem_cons_of_mem _ (List.mem_append_right _ h)
  have fl9 := hts (.fieldLink RX1 9 "HeldShelves$Plan" "acts" "[I") (List.mem_of_getElem? (i := 2) rfl)
  have hP : va_P D vwCl [(a0, .inr (1, [.ref a1, .int (nI n)])), (a1, .inl (cI, 40, .inl f))] s.heap := hP
  have hD : va_D A [(a0, .inr (1, [.ref a1, .int (nI n)])), (a1, .inl (cI, 40, .inl f))] := hD
  refine lv_aload_n hx hb dX1_add_0 rfl (lv_at hl 0 rfl) ?_
  refine va_get (D := D) (ci := 1) (v := .int (nI n)) (C := RX1) (T := TX1) (N := 2) hx hb hts inX1 hown hK hP 0 rfl rfl 1 (by decide) fl15 (fun _ h9 => h9) rfl dX1_add_1 ?_
  refine lv_bipush (v := 40) hx hb dX1_add_4 (by decide) ?_
  refine lv_icmp_lt (tgt := 12) hx hb dX1_add_6 (by decide) (fun c_6 => ?_) (fun c_6 => ?_)
  · have c_6 : n < 40 := (nI_ltI (a := n) (b := 40) (by omega) (by omega)).mp c_6
    refine lv_aload_n hx hb dX1_add_12 rfl (lv_at hl 0 rfl) ?_
    refine va_get (D := D) (ci := 1) (v := .ref a1) (C := RX1) (T := TX1) (N := 2) hx hb hts inX1 hown hK hP 0 rfl rfl 0 (by decide) fl9 (fun _ h9 => h9) rfl dX1_add_13 ?_
    refine lv_aload_n hx hb dX1_add_16 rfl (lv_at hl 0 rfl) ?_
    refine va_get (D := D) (ci := 1) (v := .int (nI n)) (C := RX1) (T := TX1) (N := 2) hx hb hts inX1 hown hK hP 0 rfl rfl 1 (by decide) fl15 (fun _ h9 => h9) rfl dX1_add_17 ?_
    refine lv_iload_n hx hb dX1_add_20 rfl (lv_at hl 1 rfl) ?_
    refine lv_sipush (v := 1000) hx hb dX1_add_21 (by decide) ?_
    refine lv_imul hx hb dX1_add_24 ?_
    refine lv_iload_n hx hb dX1_add_25 rfl (lv_at hl 2 rfl) ?_
    refine lv_bipush (v := 100) hx hb dX1_add_26 (by decide) ?_
    refine lv_imul hx hb dX1_add_28 ?_
    refine lv_iadd hx hb dX1_add_29 ?_
    refine lv_iload_n hx hb dX1_add_30 rfl (lv_at hl 3 rfl) ?_
    refine lv_bipush (v := 10) hx hb dX1_add_31 (by decide) ?_
    refine lv_imul hx hb dX1_add_33 ?_
    refine lv_iadd hx hb dX1_add_34 ?_
    refine lv_iload hx hb dX1_add_35 (lv_at hl 4 rfl) ?_
    refine lv_iadd hx hb dX1_add_37 ?_
    refine xi_ast hx hb hK hP hD hS 1 0 rfl rfl (k := n) (x := ((((x * 1000) + (y * 100)) + (z * 10)) + t)) (by omega) (by decide) dX1_add_38 (fun H locs hP hD hS => ?_)
    have hP : va_P D vwCl [(a0, .inr (1, [.ref a1, .int (nI n)])), (a1, .inl (cI, 40, .inl (upd f n ((((x * 1000) + (y * 100)) + (z * 10)) + t))))] H := hP
    have hD : va_D A [(a0, .inr (1, [.ref a1, .int (nI n)])), (a1, .inl (cI, 40, .inl (upd f n ((((x * 1000) + (y * 100)) + (z * 10)) + t))))] := hD
    refine lv_aload_n hx hb dX1_add_39 rfl (lv_at hl 0 rfl) ?_
    refine lv_dup hx hb dX1_add_40 rfl ?_
    refine va_get (D := D) (ci := 1) (v := .int (nI n)) (C := RX1) (T := TX1) (N := 2) hx hb hts inX1 hown hK hP 0 rfl rfl 1 (by decide) fl15 (fun _ h9 => h9) rfl dX1_add_41 ?_
    refine lv_iconst (v := 1) hx hb dX1_add_44 (by decide) ?_
    refine lv_iadd hx hb dX1_add_45 ?_
    refine tp (y := nI (n + 1)) (nI_1 n) ?_
    refine va_put (D := D) (ci := 1) (v := .int (nI (n + 1))) (ty := .int) (C := RX1) (T := TX1) (N := 2) hx hb hts inX1 tyX1 tyX1_ok nmX1 hown hK hP hD hS 0 rfl rfl 1 (by decide) fl15 (fun _ h9 => h9) rfl (by decide +kernel) rfl rfl (Nat.le_of_ble_eq_true rfl) dX1_add_46 (fun H locs hP hD hS => ?_)
    have hP : va_P D vwCl [(a0, .inr (1, [.ref a1, .int (nI (n + 1))])), (a1, .inl (cI, 40, .inl (upd f n ((((x * 1000) + (y * 100)) + (z * 10)) + t))))] H := hP
    have hD : va_D A [(a0, .inr (1, [.ref a1, .int (nI (n + 1))])), (a1, .inl (cI, 40, .inl (upd f n ((((x * 1000) + (y * 100)) + (z * 10)) + t))))] := hD
    refine lv_aload_n hx hb dX1_add_49 rfl (lv_at hl 0 rfl) ?_
    refine va_get (D := D) (ci := 1) (v := .int (nI (n + 1))) (C := RX1) (T := TX1) (N := 2) hx hb hts inX1 hown hK hP 0 rfl rfl 1 (by decide) fl15 (fun _ h9 => h9) rfl dX1_add_50 ?_
    refine lv_iconst (v := 1) hx hb dX1_add_53 (by decide) ?_
    refine lv_isub hx hb dX1_add_54 ?_
    refine tp (y := nI n) (nI_pred n) ?_
    exact Ri (D := D) (upd f n (x * 1000 + y * 100 + z * 10 + t), nI (n + 1)) hx hb hr rfl hlocks hP hD hS (Or.inr ⟨by omega, rfl, rfl⟩) dX1_add_55
  · have c_6 : ¬ (n < 40) := fun h => c_6 ((nI_ltI (a := n) (b := 40) (by omega) (by omega)).mpr h)
    refine lv_bipush (v := (-2)) hx hb dX1_add_9 (by decide) ?_
    exact Ri (D := D) (f, nI n) hx hb hr rfl hlocks hP hD hS (Or.inl ⟨by omega, rfl, rfl⟩) dX1_add_11

set_option maxHeartbeats 4000000 in
set_option maxRecDepth 100000 in
theorem c_X1_empty (l : Launch) (D : va_G) (cI : ClassId) (a0 a1 : Nat) (f : Nat → Int32) (n : Nat) : Ci l D [(cI, .int)] yX1_empty wsX1_empty ({ frames := 0, cells := 0, slots := 0, locals := 0 }) [.ref a0] (wPl a0 a1 cI f (nI n)) (S := Unit) (fun v _ => v = nI n) (fun _ => wPl a0 a1 cI f 0) := by
  refine Ci.mk (cc := cX1_empty) (maxL := 2) (ret := (some .int)) (by decide +kernel) rfl (Nat.le_of_ble_eq_true rfl) ?_
  intro pg e s m below meth c A ls hx hb hml hr hown hts hlocks hK hns hA hP hD hS hl
  have hl : lv_has ls 2 [(0, .ref a0)] := hl
  have fl15 := hts (.fieldLink RX1 15 "HeldShelves$Plan" "count" "I") (List.mem_of_getElem? (i := 1) rfl)
  have inX1 : ∀ w ∈ wsX10, w ∈ wsX1_empty := fun _ h => List.mem_cons_of_mem _ (List.mem_append_right _ h)
  have hP : va_P D vwCl [(a0, .inr (1, [.ref a1, .int (nI n)])), (a1, .inl (cI, 40, .inl f))] s.heap := hP
  have hD : va_D A [(a0, .inr (1, [.ref a1, .int (nI n)])), (a1, .inl (cI, 40, .inl f))] := hD
  refine lv_aload_n hx hb dX1_empty_0 rfl (lv_at hl 0 rfl) ?_
  refine va_get (D := D) (ci := 1) (v := .int (nI n)) (C := RX1) (T := TX1) (N := 2) hx hb hts inX1 hown hK hP 0 rfl rfl 1 (by decide) fl15 (fun _ h9 => h9) rfl dX1_empty_1 ?_
  refine lv_istore_n (lv' := [(1, .int (nI n)), (0, .ref a0)]) hx hb dX1_empty_4 rfl hl (by decide) rfl (fun ls hl => ?_)
  refine lv_aload_n hx hb dX1_empty_5 rfl (lv_at hl 1 rfl) ?_
  refine lv_iconst (v := 0) hx hb dX1_empty_6 (by decide) ?_
  refine va_put (D := D) (ci := 1) (v := .int 0) (ty := .int) (C := RX1) (T := TX1) (N := 2) hx hb hts inX1 tyX1 tyX1_ok nmX1 hown hK hP hD hS 0 rfl rfl 1 (by decide) fl15 (fun _ h9 => h9) rfl (by decide +kernel) rfl rfl (Nat.le_of_ble_eq_true rfl) dX1_empty_7 (fun H locs hP hD hS => ?_)
  have hP : va_P D vwCl [(a0, .inr (1, [.ref a1, .int 0])), (a1, .inl (cI, 40, .inl f))] H := hP
  have hD : va_D A [(a0, .inr (1, [.ref a1, .int 0])), (a1, .inl (cI, 40, .inl f))] := hD
  refine lv_iload_n hx hb dX1_empty_10 rfl (lv_at hl 0 rfl) ?_
  exact Ri (D := D) () hx hb hr rfl hlocks hP hD hS rfl dX1_empty_11

set_option maxHeartbeats 4000000 in
set_option maxRecDepth 100000 in
theorem c_X1_digitsOf (l : Launch) (D : va_G) (cI : ClassId) (a0 a1 : Nat) (f : Nat → Int32) (n : Nat) (cd : Nat → Nat) (hf : pok f n cd) (i : Nat) (hi : i < n) : Ci l D [(cI, .int)] yX1_digitsOf wsX1_digitsOf ({ frames := 0, cells := 0, slots := 0, locals := 0 }) [.ref a0, .int (nI i)] (wPl a0 a1 cI f (nI n)) (S := Unit) (fun v _ => v = nI (cd i)) (fun _ => wPl a0 a1 cI f (nI n)) := by
  refine Ci.mk (cc := cX1_digitsOf) (maxL := 2) (ret := (some .int)) (by decide +kernel) rfl (Nat.le_of_ble_eq_true rfl) ?_
  intro pg e s m below meth c A ls hx hb hml hr hown hts hlocks hK hns hA hP hD hS hl
  have hl : lv_has ls 2 [(0, .ref a0), (1, .int (nI i))] := hl
  have fl15 := hts (.fieldLink RX1 15 "HeldShelves$Plan" "count" "I") (List.mem_of_getElem? (i := 1) rfl)
  have inX1 : ∀ w ∈ wsX10, w ∈ wsX1_digitsOf := fun _ h => List.mem_cons_of_mem _ (List.mem_append_right _ h)
  have fl9 := hts (.fieldLink RX1 9 "HeldShelves$Plan" "acts" "[I") (List.mem_of_getElem? (i := 2) rfl)
  have hP : va_P D vwCl [(a0, .inr (1, [.ref a1, .int (nI n)])), (a1, .inl (cI, 40, .inl f))] s.heap := hP
  have hD : va_D A [(a0, .inr (1, [.ref a1, .int (nI n)])), (a1, .inl (cI, 40, .inl f))] := hD
  have hn40 := hf.1
  refine lv_iload_n hx hb dX1_digitsOf_0 rfl (lv_at hl 1 rfl) ?_
  refine lv_if_lt (tgt := 21) hx hb dX1_digitsOf_1 (by decide) (fun c_1 => ?_) (fun c_1 => ?_)
  · have c_1 : i < 0 := (nI_ltI (a := i) (b := 0) (by omega) (by omega)).mp c_1
    exact absurd c_1 (by omega)
  · have c_1 : ¬ (i < 0) := fun h => c_1 ((nI_ltI (a := i) (b := 0) (by omega) (by omega)).mpr h)
    refine lv_iload_n hx hb dX1_digitsOf_4 rfl (lv_at hl 1 rfl) ?_
    refine lv_aload_n hx hb dX1_digitsOf_5 rfl (lv_at hl 0 rfl) ?_
    refine va_get (D := D) (ci := 1) (v := .int (nI n)) (C := RX1) (T := TX1) (N := 2) hx hb hts inX1 hown hK hP 0 rfl rfl 1 (by decide) fl15 (fun _ h9 => h9) rfl dX1_digitsOf_6 ?_
    refine lv_icmp_ge (tgt := 21) hx hb dX1_digitsOf_9 (by decide) (fun c_9 => ?_) (fun c_9 => ?_)
    · have c_9 : n ≤ i := (nI_leI (a := n) (b := i) (by omega) (by omega)).mp c_9
      exact absurd c_9 (by omega)
    · have c_9 : ¬ (n ≤ i) := fun h => c_9 ((nI_leI (a := n) (b := i) (by omega) (by omega)).mpr h)
      refine lv_aload_n hx hb dX1_digitsOf_12 rfl (lv_at hl 0 rfl) ?_
      refine va_get (D := D) (ci := 1) (v := .ref a1) (C := RX1) (T := TX1) (N := 2) hx hb hts inX1 hown hK hP 0 rfl rfl 0 (by decide) fl9 (fun _ h9 => h9) rfl dX1_digitsOf_13 ?_
      refine lv_iload_n hx hb dX1_digitsOf_16 rfl (lv_at hl 1 rfl) ?_
      refine xi_ald hx hb hK hP 1 0 rfl rfl (k := i) (by omega) (by decide) dX1_digitsOf_17 ?_
      refine lv_goto (tgt := 24) hx hb dX1_digitsOf_18 (by decide) ?_
      exact Ri (D := D) () hx hb hr rfl hlocks hP hD hS (hf.2 i hi).1 dX1_digitsOf_24

set_option maxHeartbeats 4000000 in
set_option maxRecDepth 100000 in
theorem c_X1_kindOf (l : Launch) (D : va_G) (cI : ClassId) (a0 a1 : Nat) (f : Nat → Int32) (n : Nat) (cd : Nat → Nat) (hf : pok f n cd) (i : Nat) (hi : i < n) : Ci l D [(cI, .int)] yX1_kindOf wsX1_kindOf ({ frames := 1, cells := 0, slots := 0, locals := 21 }) [.ref a0, .int (nI i)] (wPl a0 a1 cI f (nI n)) (S := Unit) (fun v _ => v = nI (cd i / 1000)) (fun _ => wPl a0 a1 cI f (nI n)) := by
  refine Ci.mk (cc := cX1_kindOf) (maxL := 2) (ret := (some .int)) (by decide +kernel) rfl (Nat.le_of_ble_eq_true rfl) ?_
  intro pg e s m below meth c A ls hx hb hml hr hown hts hlocks hK hns hA hP hD hS hl
  have hl : lv_has ls 2 [(0, .ref a0), (1, .int (nI i))] := hl
  have hP : va_P D vwCl [(a0, .inr (1, [.ref a1, .int (nI n)])), (a1, .inl (cI, 40, .inl f))] s.heap := hP
  have hD : va_D A [(a0, .inr (1, [.ref a1, .int (nI n)])), (a1, .inl (cI, 40, .inl f))] := hD
  have hn40 := hf.1
  refine lv_aload_n hx hb dX1_kindOf_0 rfl (lv_at hl 0 rfl) ?_
  refine lv_iload_n hx hb dX1_kindOf_1 rfl (lv_at hl 1 rfl) ?_
  refine cl_Vi ([]) ([]) (As := [.int (nI i)]) (rest := []) (c_X1_digitsOf l D cI a0 a1 f n cd hf i hi) ⟨hx, hb, hml, hown, hts⟩ (cwV 1 hts gX1_kindOf_X1_digitsOf rfl rfl rfl (by decide +kernel) ⟨Nat.le_of_ble_eq_true rfl, Nat.le_of_ble_eq_true rfl⟩) hK hns hP hD hS hA rfl (T := TX1) (N := 2) rfl rfl hl.1 rfl (Nat.le_of_ble_eq_true rfl) dX1_kindOf_2 ⟨Nat.zero_le _, Nat.zero_le _⟩ (fun r2 u2 H locs hw2 hP hD hS => ?_)
  have hP : va_P D vwCl [(a0, .inr (1, [.ref a1, .int (nI n)])), (a1, .inl (cI, 40, .inl f))] H := hP
  have hD : va_D A [(a0, .inr (1, [.ref a1, .int (nI n)])), (a1, .inl (cI, 40, .inl f))] := hD
  subst hw2
  refine lv_sipush (v := 1000) hx hb dX1_kindOf_5 (by decide) ?_
  refine lv_idiv hx hb dX1_kindOf_8 (by decide) ?_
  refine tp (y := nI (cd i / 1000)) (pk_div (d := 1000) (by have := (hf.2 i hi).2; omega) (by decide) (by decide)) ?_
  exact Ri (D := D) () hx hb hr rfl hlocks hP hD hS rfl dX1_kindOf_9

set_option maxHeartbeats 4000000 in
set_option maxRecDepth 100000 in
theorem c_X1_aOf (l : Launch) (D : va_G) (cI : ClassId) (a0 a1 : Nat) (f : Nat → Int32) (n : Nat) (cd : Nat → Nat) (hf : pok f n cd) (i : Nat) (hi : i < n) : Ci l D [(cI, .int)] yX1_aOf wsX1_aOf ({ frames := 1, cells := 0, slots := 0, locals := 21 }) [.ref a0, .int (nI i)] (wPl a0 a1 cI f (nI n)) (S := Unit) (fun v _ => v = nI (cd i / 100 % 10)) (fun _ => wPl a0 a1 cI f (nI n)) := by
  refine Ci.mk (cc := cX1_aOf) (maxL := 2) (ret := (some .int)) (by decide +kernel) rfl (Nat.le_of_ble_eq_true rfl) ?_
  intro pg e s m below meth c A ls hx hb hml hr hown hts hlocks hK hns hA hP hD hS hl
  have hl : lv_has ls 2 [(0, .ref a0), (1, .int (nI i))] := hl
  have hP : va_P D vwCl [(a0, .inr (1, [.ref a1, .int (nI n)])), (a1, .inl (cI, 40, .inl f))] s.heap := hP
  have hD : va_D A [(a0, .inr (1, [.ref a1, .int (nI n)])), (a1, .inl (cI, 40, .inl f))] := hD
  have hn40 := hf.1
  refine lv_aload_n hx hb dX1_aOf_0 rfl (lv_at hl 0 rfl) ?_
  refine lv_iload_n hx hb dX1_aOf_1 rfl (lv_at hl 1 rfl) ?_
  refine cl_Vi ([]) ([]) (As := [.int (nI i)]) (rest := []) (c_X1_digitsOf l D cI a0 a1 f n cd hf i hi) ⟨hx, hb, hml, hown, hts⟩ (cwV 1 hts gX1_aOf_X1_digitsOf rfl rfl rfl (by decide +kernel) ⟨Nat.le_of_ble_eq_true rfl, Nat.le_of_ble_eq_true rfl⟩) hK hns hP hD hS hA rfl (T := TX1) (N := 2) rfl rfl hl.1 rfl (Nat.le_of_ble_eq_true rfl) dX1_aOf_2 ⟨Nat.zero_le _, Nat.zero_le _⟩ (fun r2 u2 H locs hw2 hP hD hS => ?_)
  have hP : va_P D vwCl [(a0, .inr (1, [.ref a1, .int (nI n)])), (a1, .inl (cI, 40, .inl f))] H := hP
  have hD : va_D A [(a0, .inr (1, [.ref a1, .int (nI n)])), (a1, .inl (cI, 40, .inl f))] := hD
  subst hw2
  refine lv_bipush (v := 100) hx hb dX1_aOf_5 (by decide) ?_
  refine lv_idiv hx hb dX1_aOf_7 (by decide) ?_
  refine tp (y := nI (cd i / 100)) (pk_div (d := 100) (by have := (hf.2 i hi).2; omega) (by decide) (by decide)) ?_
  refine lv_bipush (v := 10) hx hb dX1_aOf_8 (by decide) ?_
  refine lv_irem hx hb dX1_aOf_10 (by decide) ?_
  refine tp (y := nI (cd i / 100 % 10)) (pk_rem (d := 10) (by have := (hf.2 i hi).2; omega) (by decide) (by decide)) ?_
  exact Ri (D := D) () hx hb hr rfl hlocks hP hD hS rfl dX1_aOf_11

set_option maxHeartbeats 4000000 in
set_option maxRecDepth 100000 in
theorem c_X1_bOf (l : Launch) (D : va_G) (cI : ClassId) (a0 a1 : Nat) (f : Nat → Int32) (n : Nat) (cd : Nat → Nat) (hf : pok f n cd) (i : Nat) (hi : i < n) : Ci l D [(cI, .int)] yX1_bOf wsX1_bOf ({ frames := 1, cells := 0, slots := 0, locals := 21 }) [.ref a0, .int (nI i)] (wPl a0 a1 cI f (nI n)) (S := Unit) (fun v _ => v = nI (cd i / 10 % 10)) (fun _ => wPl a0 a1 cI f (nI n)) := by
  refine Ci.mk (cc := cX1_bOf) (maxL := 2) (ret := (some .int)) (by decide +kernel) rfl (Nat.le_of_ble_eq_true rfl) ?_
  intro pg e s m below meth c A ls hx hb hml hr hown hts hlocks hK hns hA hP hD hS hl
  have hl : lv_has ls 2 [(0, .ref a0), (1, .int (nI i))] := hl
  have hP : va_P D vwCl [(a0, .inr (1, [.ref a1, .int (nI n)])), (a1, .inl (cI, 40, .inl f))] s.heap := hP
  have hD : va_D A [(a0, .inr (1, [.ref a1, .int (nI n)])), (a1, .inl (cI, 40, .inl f))] := hD
  have hn40 := hf.1
  refine lv_aload_n hx hb dX1_bOf_0 rfl (lv_at hl 0 rfl) ?_
  refine lv_iload_n hx hb dX1_bOf_1 rfl (lv_at hl 1 rfl) ?_
  refine cl_Vi ([]) ([]) (As := [.int (nI i)]) (rest := []) (c_X1_digitsOf l D cI a0 a1 f n cd hf i hi) ⟨hx, hb, hml, hown, hts⟩ (cwV 1 hts gX1_bOf_X1_digitsOf rfl rfl rfl (by decide +kernel) ⟨Nat.le_of_ble_eq_true rfl, Nat.le_of_ble_eq_true rfl⟩) hK hns hP hD hS hA rfl (T := TX1) (N := 2) rfl rfl hl.1 rfl (Nat.le_of_ble_eq_true rfl) dX1_bOf_2 ⟨Nat.zero_le _, Nat.zero_le _⟩ (fun r2 u2 H locs hw2 hP hD hS => ?_)
  have hP : va_P D vwCl [(a0, .inr (1, [.ref a1, .int (nI n)])), (a1, .inl (cI, 40, .inl f))] H := hP
  have hD : va_D A [(a0, .inr (1, [.ref a1, .int (nI n)])), (a1, .inl (cI, 40, .inl f))] := hD
  subst hw2
  refine lv_bipush (v := 10) hx hb dX1_bOf_5 (by decide) ?_
  refine lv_idiv hx hb dX1_bOf_7 (by decide) ?_
  refine tp (y := nI (cd i / 10)) (pk_div (d := 10) (by have := (hf.2 i hi).2; omega) (by decide) (by decide)) ?_
  refine lv_bipush (v := 10) hx hb dX1_bOf_8 (by decide) ?_
  refine lv_irem hx hb dX1_bOf_10 (by decide) ?_
  refine tp (y := nI (cd i / 10 % 10)) (pk_rem (d := 10) (by have := (hf.2 i hi).2; omega) (by decide) (by decide)) ?_
  exact Ri (D := D) () hx hb hr rfl hlocks hP hD hS rfl dX1_bOf_11

set_option maxHeartbeats 4000000 in
set_option maxRecDepth 100000 in
theorem c_X1_cOf (l : Launch) (D : va_G) (cI : ClassId) (a0 a1 : Nat) (f : Nat → Int32) (n : Nat) (cd : Nat → Nat) (hf : pok f n cd) (i : Nat) (hi : i < n) : Ci l D [(cI, .int)] yX1_cOf wsX1_cOf ({ frames := 1, cells := 0, slots := 0, locals := 21 }) [.ref a0, .int (nI i)] (wPl a0 a1 cI f (nI n)) (S := Unit) (fun v _ => v = nI (cd i % 10)) (fun _ => wPl a0 a1 cI f (nI n)) := by
  refine Ci.mk (cc := cX1_cOf) (maxL := 2) (ret := (some .int)) (by decide +kernel) rfl (Nat.le_of_ble_eq_true rfl) ?_
  intro pg e s m below meth c A ls hx hb hml hr hown hts hlocks hK hns hA hP hD hS hl
  have hl : lv_has ls 2 [(0, .ref a0), (1, .int (nI i))] := hl
  have hP : va_P D vwCl [(a0, .inr (1, [.ref a1, .int (nI n)])), (a1, .inl (cI, 40, .inl f))] s.heap := hP
  have hD : va_D A [(a0, .inr (1, [.ref a1, .int (nI n)])), (a1, .inl (cI, 40, .inl f))] := hD
  have hn40 := hf.1
  refine lv_aload_n hx hb dX1_cOf_0 rfl (lv_at hl 0 rfl) ?_
  refine lv_iload_n hx hb dX1_cOf_1 rfl (lv_at hl 1 rfl) ?_
  refine cl_Vi ([]) ([]) (As := [.int (nI i)]) (rest := []) (c_X1_digitsOf l D cI a0 a1 f n cd hf i hi) ⟨hx, hb, hml, hown, hts⟩ (cwV 1 hts gX1_cOf_X1_digitsOf rfl rfl rfl (by decide +kernel) ⟨Nat.le_of_ble_eq_true rfl, Nat.le_of_ble_eq_true rfl⟩) hK hns hP hD hS hA rfl (T := TX1) (N := 2) rfl rfl hl.1 rfl (Nat.le_of_ble_eq_true rfl) dX1_cOf_2 ⟨Nat.zero_le _, Nat.zero_le _⟩ (fun r2 u2 H locs hw2 hP hD hS => ?_)
  have hP : va_P D vwCl [(a0, .inr (1, [.ref a1, .int (nI n)])), (a1, .inl (cI, 40, .inl f))] H := hP
  have hD : va_D A [(a0, .inr (1, [.ref a1, .int (nI n)])), (a1, .inl (cI, 40, .inl f))] := hD
  subst hw2
  refine lv_bipush (v := 10) hx hb dX1_cOf_5 (by decide) ?_
  refine lv_irem hx hb dX1_cOf_7 (by decide) ?_
  refine tp (y := nI (cd i % 10)) (pk_rem (d := 10) (by have := (hf.2 i hi).2; omega) (by decide) (by decide)) ?_
  exact Ri (D := D) () hx hb hr rfl hlocks hP hD hS rfl dX1_cOf_8

set_option maxHeartbeats 4000000 in
set_option maxRecDepth 100000 in
theorem c_X1_deeperBy (l : Launch) (D : va_G) (cI : ClassId) (a0 a1 : Nat) (f : Nat → Int32) (n : Nat) (cd : Nat → Nat) (hf : pok f n cd) (i : Nat) (hi : i < n) : Ci l D [(cI, .int)] yX1_deeperBy wsX1_deeperBy ({ frames := 2, cells := 0, slots := 0, locals := 42 }) [.ref a0, .int (nI i)] (wPl a0 a1 cI f (nI n)) (S := Unit) (fun v _ => (v = 1 ∧ dp cd (i + 1) = dp cd i + 1) ∨ (v = -1 ∧ dp cd (i + 1) = dp cd i - 1) ∨ (v = 0 ∧ dp cd (i + 1) = dp cd i)) (fun _ => wPl a0 a1 cI f (nI n)) := by
  refine Ci.mk (cc := cX1_deeperBy) (maxL := 3) (ret := (some .int)) (by decide +kernel) rfl (Nat.le_of_ble_eq_true rfl) ?_
  intro pg e s m below meth c A ls hx hb hml hr hown hts hlocks hK hns hA hP hD hS hl
  have hl : lv_has ls 3 [(0, .ref a0), (1, .int (nI i))] := hl
  have hP : va_P D vwCl [(a0, .inr (1, [.ref a1, .int (nI n)])), (a1, .inl (cI, 40, .inl f))] s.heap := hP
  have hD : va_D A [(a0, .inr (1, [.ref a1, .int (nI n)])), (a1, .inl (cI, 40, .inl f))] := hD
  have hn40 := hf.1
  have hc4 : cd i / 1000 < 10 := by have := (hf.2 i hi).2; omega
  refine lv_aload_n hx hb dX1_deeperBy_0 rfl (lv_at hl 0 rfl) ?_
  refine lv_iload_n hx hb dX1_deeperBy_1 rfl (lv_at hl 1 rfl) ?_
  refine cl_Vi ([]) ([]) (As := [.int (nI i)]) (rest := []) (c_X1_kindOf l D cI a0 a1 f n cd hf i hi) ⟨hx, hb, hml, hown, hts⟩ (cwV 1 hts gX1_deeperBy_X1_kindOf rfl rfl rfl (by decide +kernel) ⟨Nat.le_of_ble_eq_true rfl, Nat.le_of_ble_eq_true rfl⟩) hK hns hP hD hS hA rfl (T := TX1) (N := 2) rfl rfl hl.1 rfl (Nat.le_of_ble_eq_true rfl) dX1_deeperBy_2 ⟨Nat.zero_le _, Nat.zero_le _⟩ (fun r2 u2 H locs hw2 hP hD hS => ?_)
  have hP : va_P D vwCl [(a0, .inr (1, [.ref a1, .int (nI n)])), (a1, .inl (cI, 40, .inl f))] H := hP
  have hD : va_D A [(a0, .inr (1, [.ref a1, .int (nI n)])), (a1, .inl (cI, 40, .inl f))] := hD
  subst hw2
  refine lv_istore_n (lv' := [(2, .int (nI (cd i / 1000))), (0, .ref a0), (1, .int (nI i))]) hx hb dX1_deeperBy_5 rfl hl (by decide) rfl (fun ls hl => ?_)
  refine lv_iload_n hx hb dX1_deeperBy_6 rfl (lv_at hl 0 rfl) ?_
  refine lv_if_eq (tgt := 15) hx hb dX1_deeperBy_7 (by decide) (fun c_7 => ?_) (fun c_7 => ?_)
  · have c_7 : (cd i / 1000) = 0 := (nI_eq (a := (cd i / 1000)) (b := 0) (by omega) (by omega)).mp c_7
    refine lv_iconst (v := 1) hx hb dX1_deeperBy_15 (by decide) ?_
    exact Ri (D := D) () hx hb hr rfl hlocks hP hD hS (Or.inl ⟨rfl, by simp only [dp, dk]; rw [if_pos (by omega)]⟩) dX1_deeperBy_16
  · have c_7 : ¬ ((cd i / 1000) = 0) := fun h => c_7 ((nI_eq (a := (cd i / 1000)) (b := 0) (by omega) (by omega)).mpr h)
    refine lv_iload_n hx hb dX1_deeperBy_10 rfl (lv_at hl 0 rfl) ?_
    refine lv_iconst (v := 1) hx hb dX1_deeperBy_11 (by decide) ?_
    refine lv_icmp_ne (tgt := 17) hx hb dX1_deeperBy_12 (by decide) (fun c_12 => ?_) (fun c_12 => ?_)
    · have c_12 : ¬ ((cd i / 1000) = 1) := fun h => c_12 ((nI_eq (a := (cd i / 1000)) (b := 1) (by omega) (by omega)).mpr h)
      refine lv_iload_n hx hb dX1_deeperBy_17 rfl (lv_at hl 0 rfl) ?_
      refine lv_iconst (v := 2) hx hb dX1_deeperBy_18 (by decide) ?_
      refine lv_icmp_ne (tgt := 26) hx hb dX1_deeperBy_19 (by decide) (fun c_19 => ?_) (fun c_19 => ?_)
      · have c_19 : ¬ ((cd i / 1000) = 2) := fun h => c_19 ((nI_eq (a := (cd i / 1000)) (b := 2) (by omega) (by omega)).mpr h)
        refine lv_iconst (v := 0) hx hb dX1_deeperBy_26 (by decide) ?_
        exact Ri (D := D) () hx hb hr rfl hlocks hP hD hS (Or.inr (Or.inr ⟨rfl, by simp only [dp, dk]; rw [if_neg (by omega), if_neg (by omega)]; omega⟩)) dX1_deeperBy_27
      · have c_19 : (cd i / 1000) = 2 := (nI_eq (a := (cd i / 1000)) (b := 2) (by omega) (by omega)).mp c_19
        refine lv_iconst (v := (-1)) hx hb dX1_deeperBy_22 (by decide) ?_
        refine lv_goto (tgt := 27) hx hb dX1_deeperBy_23 (by decide) ?_
        exact Ri (D := D) () hx hb hr rfl hlocks hP hD hS (Or.inr (Or.inl ⟨rfl, by simp only [dp, dk]; rw [if_neg (by omega), if_pos (by omega)]; rfl⟩)) dX1_deeperBy_27
    · have c_12 : (cd i / 1000) = 1 := (nI_eq (a := (cd i / 1000)) (b := 1) (by omega) (by omega)).mp c_12
      refine lv_iconst (v := 1) hx hb dX1_deeperBy_15 (by decide) ?_
      exact Ri (D := D) () hx hb hr rfl hlocks hP hD hS (Or.inl ⟨rfl, by simp only [dp, dk]; rw [if_pos (by omega)]⟩) dX1_deeperBy_16

set_option maxHeartbeats 4000000 in
set_option maxRecDepth 100000 in
theorem c_X1_isClosed (l : Launch) (D : va_G) (cI : ClassId) (a0 a1 : Nat) (f : Nat → Int32) (n : Nat) (cd : Nat → Nat) (hf : pok f n cd) : Ci l D [(cI, .int)] yX1_isClosed wsX1_isClosed ({ frames := 3, cells := 0, slots := 0, locals := 64 }) [.ref a0] (wPl a0 a1 cI f (nI n)) (S := Unit) (fun v _ => (v = 1 ∧ clo n cd) ∨ (v = 0 ∧ ¬ clo n cd)) (fun _ => wPl a0 a1 cI f (nI n)) := by
  refine Ci.mk (cc := cX1_isClosed) (maxL := 3) (ret := (some .boolean)) (by decide +kernel) rfl (Nat.le_of_ble_eq_true rfl) ?_
  intro pg e s m below meth c A ls hx hb hml hr hown hts hlocks hK hns hA hP hD hS hl
  have hl : lv_has ls 3 [(0, .ref a0)] := hl
  have fl15 := hts (.fieldLink RX1 15 "HeldShelves$Plan" "count" "I") (List.mem_of_getElem? (i := 1) rfl)
  have inX1 : ∀ w ∈ wsX10, w ∈ wsX1_isClosed := fun _ h => List.mem_cons_of_mem _ (List.mem_append_right _ h)
  have hP : va_P D vwCl [(a0, .inr (1, [.ref a1, .int (nI n)])), (a1, .inl (cI, 40, .inl f))] s.heap := hP
  have hD : va_D A [(a0, .inr (1, [.ref a1, .int (nI n)])), (a1, .inl (cI, 40, .inl f))] := hD
  have hn40 := hf.1
  refine lv_iconst (v := 0) hx hb dX1_isClosed_0 (by decide) ?_
  refine lv_istore_n (lv' := [(1, .int 0), (0, .ref a0)]) hx hb dX1_isClosed_1 rfl hl (by decide) rfl (fun ls hl => ?_)
  refine lv_iconst (v := 0) hx hb dX1_isClosed_2 (by decide) ?_
  refine lv_istore_n (lv' := [(2, .int 0), (1, .int 0), (0, .ref a0)]) hx hb dX1_isClosed_3 rfl hl (by decide) rfl (fun ls hl => ?_)
  have loop4 : ∀ (k : Nat) (i : Nat) (d : Nat), n + 1 ≤ i + k → i ≤ n → (d : Int) = dp cd i → (∀ j, j ≤ i → 0 ≤ dp cd j) → d ≤ i → ∀ (H : Heap) (locs : List Loc), va_P D vwCl [(a0, .inr (1, [.ref a1, .int (nI n)])), (a1, .inl (cI, 40, .inl f))] H → va_D A [(a0, .inr (1, [.ref a1, .int (nI n)])), (a1, .inl (cI, 40, .inl f))] → va_S A s.heap H locs → ∀ (ls : Array Slot), lv_has ls 3 [(0, .ref a0), (2, .int (nI i)), (1, .int (nI d))] → W pg l e ({ frames := 3, cells := 0, slots := 0, locals := 64 } : Room) s m ([.ref a0] : List Value).toArray below meth c H locs 0 0 (Qi D below ([.ref a0] : List Value).toArray s A (S := Unit) (fun v _ => (v = 1 ∧ clo n cd) ∨ (v = 0 ∧ ¬ clo n cd)) (fun _ => wPl a0 a1 cI f (nI n))) (F0 m 4 ls []) := by
    intro k
    induction k with
    | zero => intro i d hk hi hd hall hdi; exact absurd hk (by omega)
    | succ k ih =>
      intro i d hk hi hd hall hdi H locs hP hD hS ls hl
      refine lv_iload_n hx hb dX1_isClosed_4 rfl (lv_at hl 1 rfl) ?_
      refine lv_aload_n hx hb dX1_isClosed_5 rfl (lv_at hl 0 rfl) ?_
      refine va_get (D := D) (ci := 1) (v := .int (nI n)) (C := RX1) (T := TX1) (N := 2) hx hb hts inX1 hown hK hP 0 rfl rfl 1 (by decide) fl15 (fun _ h9 => h9) rfl dX1_isClosed_6 ?_
      refine lv_icmp_ge (tgt := 32) hx hb dX1_isClosed_9 (by decide) (fun c_9 => ?_) (fun c_9 => ?_)
      · have c_9 : n ≤ i := (nI_leI (a := n) (b := i) (by omega) (by omega)).mp c_9
        refine lv_iload_n hx hb dX1_isClosed_32 rfl (lv_at hl 2 rfl) ?_
        refine lv_if_ne (tgt := 40) hx hb dX1_isClosed_33 (by decide) (fun c_33 => ?_) (fun c_33 => ?_)
        · have c_33 : ¬ (d = 0) := fun h => c_33 ((nI_eq (a := d) (b := 0) (by omega) (by omega)).mpr h)
          refine lv_iconst (v := 0) hx hb dX1_isClosed_40 (by decide) ?_
          exact Ri (D := D) () hx hb hr (by decide) hlocks hP hD hS (Or.inr ⟨rfl, fun hc => by have h9 := hc.2; rw [show n = i by omega] at h9; omega⟩) dX1_isClosed_41
        · have c_33 : d = 0 := (nI_eq (a := d) (b := 0) (by omega) (by omega)).mp c_33
          refine lv_iconst (v := 1) hx hb dX1_isClosed_36 (by decide) ?_
          refine lv_goto (tgt := 41) hx hb dX1_isClosed_37 (by decide) ?_
          exact Ri (D := D) () hx hb hr (by decide) hlocks hP hD hS (Or.inl ⟨rfl, ⟨fun j hj => hall j (by omega), by rw [show n = i by omega]; omega⟩⟩) dX1_isClosed_41
      · have c_9 : ¬ (n ≤ i) := fun h => c_9 ((nI_leI (a := n) (b := i) (by omega) (by omega)).mpr h)
        have c_9 : i < n := by omega
        refine lv_iload_n hx hb dX1_isClosed_12 rfl (lv_at hl 2 rfl) ?_
        refine lv_aload_n hx hb dX1_isClosed_13 rfl (lv_at hl 0 rfl) ?_
        refine lv_iload_n hx hb dX1_isClosed_14 rfl (lv_at hl 1 rfl) ?_
        refine cl_Vi ([]) ([]) (As := [.int (nI i)]) (rest := [.int (nI d)]) (c_X1_deeperBy l D cI a0 a1 f n cd hf i c_9) ⟨hx, hb, hml, hown, hts⟩ (cwV 1 hts gX1_isClosed_X1_deeperBy rfl rfl rfl (by decide +kernel) ⟨Nat.le_of_ble_eq_true rfl, Nat.le_of_ble_eq_true rfl⟩) hK hns hP hD hS hA rfl (T := TX1) (N := 2) rfl rfl hl.1 rfl (Nat.le_of_ble_eq_true rfl) dX1_isClosed_15 ⟨Nat.zero_le _, Nat.zero_le _⟩ (fun r15 u15 H locs hw15 hP hD hS => ?_)
        have hP : va_P D vwCl [(a0, .inr (1, [.ref a1, .int (nI n)])), (a1, .inl (cI, 40, .inl f))] H := hP
        have hD : va_D A [(a0, .inr (1, [.ref a1, .int (nI n)])), (a1, .inl (cI, 40, .inl f))] := hD
        refine lv_iadd hx hb dX1_isClosed_18 ?_
        rcases dp_step (d := d) (z := 0) (by omega) hw15 with ⟨e, he1, he2, he3⟩ | ⟨he1, he2, he3⟩
        · refine tp (y := nI e) (he1) ?_
          refine lv_istore_n (lv' := [(1, .int (nI e)), (0, .ref a0), (2, .int (nI i))]) hx hb dX1_isClosed_19 rfl hl (by decide) rfl (fun ls hl => ?_)
          refine lv_iload_n hx hb dX1_isClosed_20 rfl (lv_at hl 0 rfl) ?_
          refine lv_if_ge (tgt := 26) hx hb dX1_isClosed_21 (by decide) (fun c_21 => ?_) (fun c_21 => ?_)
          · have c_21 : 0 ≤ e := (nI_leI (a := 0) (b := e) (by omega) (by omega)).mp c_21
            refine lv_iinc (v := (nI (i + 1))) (lv' := [(2, .int (nI (i + 1))), (1, .int (nI e)), (0, .ref a0)]) hx hb dX1_isClosed_26 hl (k := 2) rfl (nI_1 i) (by decide) rfl (fun ls hl => ?_)
            refine lv_goto (tgt := 4) hx hb dX1_isClosed_29 (by decide) ?_
            exact ih (i + 1) e (by omega) (by omega) (by omega) (fun j hj => (Nat.lt_or_ge i j).elim (fun q => by rw [show j = i + 1 by omega]; omega) (fun q => hall j q)) (by omega) _ _ hP hD hS ls (lv_sub hl [2, 0, 1] rfl)
          · have c_21 : ¬ (0 ≤ e) := fun h => c_21 ((nI_leI (a := 0) (b := e) (by omega) (by omega)).mpr h)
            exact absurd c_21 (by omega)
        · refine tp (y := (-1)) (he1) ?_
          refine lv_istore_n (lv' := [(1, .int (-1)), (0, .ref a0), (2, .int (nI i))]) hx hb dX1_isClosed_19 rfl hl (by decide) rfl (fun ls hl => ?_)
          refine lv_iload_n hx hb dX1_isClosed_20 rfl (lv_at hl 0 rfl) ?_
          refine lv_if_ge (tgt := 26) hx hb dX1_isClosed_21 (by decide) (fun c9 => absurd c9 (by decide)) (fun _ => ?_)
          refine lv_iconst (v := 0) hx hb dX1_isClosed_24 (by decide) ?_
          exact Ri (D := D) () hx hb hr (by decide) hlocks hP hD hS (Or.inr ⟨rfl, fun hc => by have := hc.1 (i + 1) (by omega); omega⟩) dX1_isClosed_25
  exact loop4 (n + 1) 0 0 (by omega) (by omega) rfl (fun j hj => by rw [Nat.le_zero.mp hj]; exact Int.le_refl _) (Nat.le_refl _) _ _ hP hD hS ls (lv_sub hl [2, 0, 1] rfl)

set_option maxHeartbeats 4000000 in
set_option maxRecDepth 100000 in
theorem c_X1_behindBlock (l : Launch) (D : va_G) (cI : ClassId) (a0 a1 : Nat) (f : Nat → Int32) (n : Nat) (cd : Nat → Nat) (hf : pok f n cd) (bg : Nat) (hbg : bg < n) (hkd : cd bg / 1000 ≤ 1) (hcl : clo n cd) : Ci l D [(cI, .int)] yX1_behindBlock wsX1_behindBlock ({ frames := 3, cells := 0, slots := 0, locals := 64 }) [.ref a0, .int (nI bg)] (wPl a0 a1 cI f (nI n)) (S := Unit) (fun v _ => ∃ k, v = nI k ∧ isBeh cd bg k ∧ k ≤ n) (fun _ => wPl a0 a1 cI f (nI n)) := by
  refine Ci.mk (cc := cX1_behindBlock) (maxL := 4) (ret := (some .int)) (by decide +kernel) rfl (Nat.le_of_ble_eq_true rfl) ?_
  intro pg e s m below meth c A ls hx hb hml hr hown hts hlocks hK hns hA hP hD hS hl
  have hl : lv_has ls 4 [(0, .ref a0), (1, .int (nI bg))] := hl
  have fl15 := hts (.fieldLink RX1 15 "HeldShelves$Plan" "count" "I") (List.mem_of_getElem? (i := 1) rfl)
  have inX1 : ∀ w ∈ wsX10, w ∈ wsX1_behindBlock := fun _ h => List.mem_cons_of_mem _ (List.mem_append_right _ h)
  have hP : va_P D vwCl [(a0, .inr (1, [.ref a1, .int (nI n)])), (a1, .inl (cI, 40, .inl f))] s.heap := hP
  have hD : va_D A [(a0, .inr (1, [.ref a1, .int (nI n)])), (a1, .inl (cI, 40, .inl f))] := hD
  have hn40 := hf.1
  have hst : dp cd (bg + 1) = dp cd bg + 1 := by simp only [dp, dk]; rw [if_pos hkd]
  refine lv_iconst (v := 0) hx hb dX1_behindBlock_0 (by decide) ?_
  refine lv_istore_n (lv' := [(2, .int 0), (0, .ref a0), (1, .int (nI bg))]) hx hb dX1_behindBlock_1 rfl hl (by decide) rfl (fun ls hl => ?_)
  refine lv_iload_n hx hb dX1_behindBlock_2 rfl (lv_at hl 2 rfl) ?_
  refine lv_istore_n (lv' := [(3, .int (nI bg)), (2, .int 0), (0, .ref a0), (1, .int (nI bg))]) hx hb dX1_behindBlock_3 rfl hl (by decide) rfl (fun ls hl => ?_)
  have loop4 : ∀ (k : Nat) (i : Nat) (d : Nat), n + 1 ≤ i + k → bg ≤ i → i ≤ n → (d : Int) = dp cd i - dp cd bg → (i = bg ∨ 0 < d) → (∀ j, bg < j → j ≤ i → dp cd bg < dp cd j) → d ≤ i → ∀ (H : Heap) (locs : List Loc), va_P D vwCl [(a0, .inr (1, [.ref a1, .int (nI n)])), (a1, .inl (cI, 40, .inl f))] H → va_D A [(a0, .inr (1, [.ref a1, .int (nI n)])), (a1, .inl (cI, 40, .inl f))] → va_S A s.heap H locs → ∀ (ls : Array Slot), lv_has ls 4 [(0, .ref a0), (1, .int (nI bg)), (3, .int (nI i)), (2, .int (nI d))] → W pg l e ({ frames := 3, cells := 0, slots := 0, locals := 64 } : Room) s m ([.ref a0, .int (nI bg)] : List Value).toArray below meth c H locs 0 0 (Qi D below ([.ref a0, .int (nI bg)] : List Value).toArray s A (S := Unit) (fun v _ => ∃ k, v = nI k ∧ isBeh cd bg k ∧ k ≤ n) (fun _ => wPl a0 a1 cI f (nI n))) (F0 m 4 ls []) := by
    intro k
    induction k with
    | zero => intro i d hk hi hi2 hd hpos hall hdi; exact absurd hk (by omega)
    | succ k ih =>
      intro i d hk hi hi2 hd hpos hall hdi H locs hP hD hS ls hl
      refine lv_iload_n hx hb dX1_behindBlock_4 rfl (lv_at hl 2 rfl) ?_
      refine lv_aload_n hx hb dX1_behindBlock_5 rfl (lv_at hl 0 rfl) ?_
      refine va_get (D := D) (ci := 1) (v := .int (nI n)) (C := RX1) (T := TX1) (N := 2) hx hb hts inX1 hown hK hP 0 rfl rfl 1 (by decide) fl15 (fun _ h9 => h9) rfl dX1_behindBlock_6 ?_
      refine lv_icmp_ge (tgt := 34) hx hb dX1_behindBlock_9 (by decide) (fun c_9 => ?_) (fun c_9 => ?_)
      · have c_9 : n ≤ i := (nI_leI (a := n) (b := i) (by omega) (by omega)).mp c_9
        exact absurd hpos (fun q => q.elim (fun q => by omega) (fun q => by have h8 := hcl.2; have h9 := hcl.1 bg (by omega); rw [show n = i by omega] at h8; omega))
      · have c_9 : ¬ (n ≤ i) := fun h => c_9 ((nI_leI (a := n) (b := i) (by omega) (by omega)).mpr h)
        have c_9 : i < n := by omega
        refine lv_iload_n hx hb dX1_behindBlock_12 rfl (lv_at hl 3 rfl) ?_
        refine lv_aload_n hx hb dX1_behindBlock_13 rfl (lv_at hl 0 rfl) ?_
        refine lv_iload_n hx hb dX1_behindBlock_14 rfl (lv_at hl 2 rfl) ?_
        refine cl_Vi ([]) ([]) (As := [.int (nI i)]) (rest := [.int (nI d)]) (c_X1_deeperBy l D cI a0 a1 f n cd hf i c_9) ⟨hx, hb, hml, hown, hts⟩ (cwV 1 hts gX1_behindBlock_X1_deeperBy rfl rfl rfl (by decide +kernel) ⟨Nat.le_of_ble_eq_true rfl, Nat.le_of_ble_eq_true rfl⟩) hK hns hP hD hS hA rfl (T := TX1) (N := 2) rfl rfl hl.1 rfl (Nat.le_of_ble_eq_true rfl) dX1_behindBlock_15 ⟨Nat.zero_le _, Nat.zero_le _⟩ (fun r15 u15 H locs hw15 hP hD hS => ?_)
        have hP : va_P D vwCl [(a0, .inr (1, [.ref a1, .int (nI n)])), (a1, .inl (cI, 40, .inl f))] H := hP
        have hD : va_D A [(a0, .inr (1, [.ref a1, .int (nI n)])), (a1, .inl (cI, 40, .inl f))] := hD
        refine lv_iadd hx hb dX1_behindBlock_18 ?_
        rcases dp_step (d := d) (z := dp cd bg) hd hw15 with ⟨e, he1, he2, he3⟩ | ⟨he1, he2, he3⟩
        · refine tp (y := nI e) (he1) ?_
          refine lv_istore_n (lv' := [(2, .int (nI e)), (0, .ref a0), (1, .int (nI bg)), (3, .int (nI i))]) hx hb dX1_behindBlock_19 rfl hl (by decide) rfl (fun ls hl => ?_)
          refine lv_iload_n hx hb dX1_behindBlock_20 rfl (lv_at hl 0 rfl) ?_
          refine lv_if_gt (tgt := 28) hx hb dX1_behindBlock_21 (by decide) (fun c_21 => ?_) (fun c_21 => ?_)
          · have c_21 : 0 < e := (nI_ltI (a := 0) (b := e) (by omega) (by omega)).mp c_21
            refine lv_iinc (v := (nI (i + 1))) (lv' := [(3, .int (nI (i + 1))), (2, .int (nI e)), (0, .ref a0), (1, .int (nI bg))]) hx hb dX1_behindBlock_28 hl (k := 3) rfl (nI_1 i) (by decide) rfl (fun ls hl => ?_)
            refine lv_goto (tgt := 4) hx hb dX1_behindBlock_31 (by decide) ?_
            exact ih (i + 1) e (by omega) (by omega) (by omega) (by omega) (Or.inr (by omega)) (fun j h1 h2 => (Nat.lt_or_ge i j).elim (fun q => by rw [show j = i + 1 by omega]; omega) (fun q => hall j h1 q)) (by omega) _ _ hP hD hS ls (lv_sub hl [2, 3, 0, 1] rfl)
          · have c_21 : ¬ (0 < e) := fun h => c_21 ((nI_ltI (a := 0) (b := e) (by omega) (by omega)).mpr h)
            refine lv_iload_n hx hb dX1_behindBlock_24 rfl (lv_at hl 3 rfl) ?_
            refine lv_iconst (v := 1) hx hb dX1_behindBlock_25 (by decide) ?_
            refine lv_iadd hx hb dX1_behindBlock_26 ?_
            refine tp (y := nI (i + 1)) (nI_1 i) ?_
            exact Ri (D := D) () hx hb hr rfl hlocks hP hD hS ⟨i + 1, rfl, ⟨by omega, by omega, fun j h1 h2 => hall j h1 (by omega)⟩, by omega⟩ dX1_behindBlock_27
        · exact absurd hpos (fun q => q.elim (fun q => by rw [q] at he2; omega) (fun q => by omega))
  exact loop4 (n + 1) bg 0 (by omega) (Nat.le_refl _) (by omega) (by omega) (Or.inl rfl) (fun j h1 h2 => absurd h1 (by omega)) (by omega) _ _ hP hD hS ls (lv_sub hl [2, 3, 0, 1] rfl)

set_option maxHeartbeats 4000000 in
set_option maxRecDepth 100000 in
theorem c_X2_steps (l : Launch) (D : va_G) (cI : ClassId) (a : Nat → Nat) (ct td : Nat → Int32) (op : Int32) : Ci l D [(cI, .int)] yX2_steps wsX2_steps ({ frames := 0, cells := 0, slots := 0, locals := 0 }) [.ref (a 0)] (wRp a cI ct td op) (S := Unit) (fun v _ => v = td 3) (fun _ => wRp a cI ct td op) := by
  refine Ci.mk (cc := cX2_steps) (maxL := 1) (ret := (some .int)) (by decide +kernel) rfl (Nat.le_of_ble_eq_true rfl) ?_
  intro pg e s m below meth c A ls hx hb hml hr hown hts hlocks hK hns hA hP hD hS hl
  have hl : lv_has ls 1 [(0, .ref (a 0))] := hl
  have fl29 := hts (.fieldLink RX2 29 "HeldShelves$Report" "steps" "I") (List.mem_of_getElem? (i := 1) rfl)
  have inX2 : ∀ w ∈ wsX20, w ∈ wsX2_steps := fun _ h => List.mem_cons_of_mem _ (List.mem_append_right _ h)
  have hP : va_P D vwCl [(a 0, .inr (2, [.ref (a 1), .int (td 6), .int (td 0), .int (td 1), .int (td 2), .int (td 3), .int (td 4), .int op, .int (td 5), .int (td 7)])), (a 1, .inl (cI, 10, .inl ct))] s.heap := hP
  have hD : va_D A [(a 0, .inr (2, [.ref (a 1), .int (td 6), .int (td 0), .int (td 1), .int (td 2), .int (td 3), .int (td 4), .int op, .int (td 5), .int (td 7)])), (a 1, .inl (cI, 10, .inl ct))] := hD
  refine lv_aload_n hx hb dX2_steps_0 rfl (lv_at hl 0 rfl) ?_
  refine va_get (D := D) (ci := 2) (v := .int (td 3)) (C := RX2) (T := TX2) (N := 10) hx hb hts inX2 hown hK hP 0 rfl rfl 5 (by decide) fl29 (fun _ h9 => h9) rfl dX2_steps_1 ?_
  exact Ri (D := D) () hx hb hr rfl hlocks hP hD hS rfl dX2_steps_4

set_option maxHeartbeats 4000000 in
set_option maxRecDepth 100000 in
theorem c_X2_countStep (l : Launch) (D : va_G) (cI : ClassId) (a : Nat → Nat) (ct td : Nat → Int32) (op : Int32) : Cv l D [(cI, .int)] yX2_countStep wsX2_countStep ({ frames := 0, cells := 0, slots := 0, locals := 0 }) [.ref (a 0)] (wRp a cI ct td op) (S := Unit) (fun _ => True) (fun _ => wRp a cI ct (upd td 3 (td 3 + 1)) op) := by
  refine Cv.mk (cc := cX2_countStep) (maxL := 1) (ret := none) (by decide +kernel) rfl (Nat.le_of_ble_eq_true rfl) ?_
  intro pg e s m below meth c A ls hx hb hml hr hown hts hlocks hK hns hA hP hD hS hl
  have hl : lv_has ls 1 [(0, .ref (a 0))] := hl
  have fl29 := hts (.fieldLink RX2 29 "HeldShelves$Report" "steps" "I") (List.mem_of_getElem? (i := 1) rfl)
  have inX2 : ∀ w ∈ wsX20, w ∈ wsX2_countStep := fun _ h => List.mem_cons_of_mem _ (List.mem_append_right _ h)
  have hP : va_P D vwCl [(a 0, .inr (2, [.ref (a 1), .int (td 6), .int (td 0), .int (td 1), .int (td 2), .int (td 3), .int (td 4), .int op, .int (td 5), .int (td 7)])), (a 1, .inl (cI, 10, .inl ct))] s.heap := hP
  have hD : va_D A [(a 0, .inr (2, [.ref (a 1), .int (td 6), .int (td 0), .int (td 1), .int (td 2), .int (td 3), .int (td 4), .int op, .int (td 5), .int (td 7)])), (a 1, .inl (cI, 10, .inl ct))] := hD
  refine lv_aload_n hx hb dX2_countStep_0 rfl (lv_at hl 0 rfl) ?_
  refine lv_dup hx hb dX2_countStep_1 rfl ?_
  refine va_get (D := D) (ci := 2) (v := .int (td 3)) (C := RX2) (T := TX2) (N := 10) hx hb hts inX2 hown hK hP 0 rfl rfl 5 (by decide) fl29 (fun _ h9 => h9) rfl dX2_countStep_2 ?_
  refine lv_iconst (v := 1) hx hb dX2_countStep_5 (by decide) ?_
  refine lv_iadd hx hb dX2_countStep_6 ?_
  refine va_put (D := D) (ci := 2) (v := .int ((td 3) + 1)) (ty := .int) (C := RX2) (T := TX2) (N := 10) hx hb hts inX2 tyX2 tyX2_ok nmX2 hown hK hP hD hS 0 rfl rfl 5 (by decide) fl29 (fun _ h9 => h9) rfl (by decide +kernel) rfl rfl (Nat.le_of_ble_eq_true rfl) dX2_countStep_7 (fun H locs hP hD hS => ?_)
  have hP : va_P D vwCl [(a 0, .inr (2, [.ref (a 1), .int (td 6), .int (td 0), .int (td 1), .int (td 2), .int ((td 3) + 1), .int (td 4), .int op, .int (td 5), .int (td 7)])), (a 1, .inl (cI, 10, .inl ct))] H := hP
  have hD : va_D A [(a 0, .inr (2, [.ref (a 1), .int (td 6), .int (td 0), .int (td 1), .int (td 2), .int ((td 3) + 1), .int (td 4), .int op, .int (td 5), .int (td 7)])), (a 1, .inl (cI, 10, .inl ct))] := hD
  exact Rv (D := D) () hx hb hr hlocks hP hD hS trivial dX2_countStep_10

set_option maxHeartbeats 4000000 in
set_option maxRecDepth 100000 in
theorem c_X2_countCall (l : Launch) (D : va_G) (cI : ClassId) (a : Nat → Nat) (ct td : Nat → Int32) (op : Int32) : Cv l D [(cI, .int)] yX2_countCall wsX2_countCall ({ frames := 0, cells := 0, slots := 0, locals := 0 }) [.ref (a 0)] (wRp a cI ct td op) (S := Unit) (fun _ => True) (fun _ => wRp a cI ct (upd td 7 (td 7 + 1)) op) := by
  refine Cv.mk (cc := cX2_countCall) (maxL := 1) (ret := none) (by decide +kernel) rfl (Nat.le_of_ble_eq_true rfl) ?_
  intro pg e s m below meth c A ls hx hb hml hr hown hts hlocks hK hns hA hP hD hS hl
  have hl : lv_has ls 1 [(0, .ref (a 0))] := hl
  have fl41 := hts (.fieldLink RX2 41 "HeldShelves$Report" "calls" "I") (List.mem_of_getElem? (i := 1) rfl)
  have inX2 : ∀ w ∈ wsX20, w ∈ wsX2_countCall := fun _ h => List.mem_cons_of_mem _ (List.mem_append_right _ h)
  have hP : va_P D vwCl [(a 0, .inr (2, [.ref (a 1), .int (td 6), .int (td 0), .int (td 1), .int (td 2), .int (td 3), .int (td 4), .int op, .int (td 5), .int (td 7)])), (a 1, .inl (cI, 10, .inl ct))] s.heap := hP
  have hD : va_D A [(a 0, .inr (2, [.ref (a 1), .int (td 6), .int (td 0), .int (td 1), .int (td 2), .int (td 3), .int (td 4), .int op, .int (td 5), .int (td 7)])), (a 1, .inl (cI, 10, .inl ct))] := hD
  refine lv_aload_n hx hb dX2_countCall_0 rfl (lv_at hl 0 rfl) ?_
  refine lv_dup hx hb dX2_countCall_1 rfl ?_
  refine va_get (D := D) (ci := 2) (v := .int (td 7)) (C := RX2) (T := TX2) (N := 10) hx hb hts inX2 hown hK hP 0 rfl rfl 9 (by decide) fl41 (fun _ h9 => h9) rfl dX2_countCall_2 ?_
  refine lv_iconst (v := 1) hx hb dX2_countCall_5 (by decide) ?_
  refine lv_iadd hx hb dX2_countCall_6 ?_
  refine va_put (D := D) (ci := 2) (v := .int ((td 7) + 1)) (ty := .int) (C := RX2) (T := TX2) (N := 10) hx hb hts inX2 tyX2 tyX2_ok nmX2 hown hK hP hD hS 0 rfl rfl 9 (by decide) fl41 (fun _ h9 => h9) rfl (by decide +kernel) rfl rfl (Nat.le_of_ble_eq_true rfl) dX2_countCall_7 (fun H locs hP hD hS => ?_)
  have hP : va_P D vwCl [(a 0, .inr (2, [.ref (a 1), .int (td 6), .int (td 0), .int (td 1), .int (td 2), .int (td 3), .int (td 4), .int op, .int (td 5), .int ((td 7) + 1)])), (a 1, .inl (cI, 10, .inl ct))] H := hP
  have hD : va_D A [(a 0, .inr (2, [.ref (a 1), .int (td 6), .int (td 0), .int (td 1), .int (td 2), .int (td 3), .int (td 4), .int op, .int (td 5), .int ((td 7) + 1)])), (a 1, .inl (cI, 10, .inl ct))] := hD
  exact Rv (D := D) () hx hb hr hlocks hP hD hS trivial dX2_countCall_10

set_option maxHeartbeats 4000000 in
set_option maxRecDepth 100000 in
theorem c_X2_closeHold (l : Launch) (D : va_G) (cI : ClassId) (a : Nat → Nat) (ct td : Nat → Int32) (op : Int32) : Cv l D [(cI, .int)] yX2_closeHold wsX2_closeHold ({ frames := 0, cells := 0, slots := 0, locals := 0 }) [.ref (a 0)] (wRp a cI ct td op) (S := Unit) (fun _ => True) (fun _ => wRp a cI ct td (op - 1)) := by
  refine Cv.mk (cc := cX2_closeHold) (maxL := 1) (ret := none) (by decide +kernel) rfl (Nat.le_of_ble_eq_true rfl) ?_
  intro pg e s m below meth c A ls hx hb hml hr hown hts hlocks hK hns hA hP hD hS hl
  have hl : lv_has ls 1 [(0, .ref (a 0))] := hl
  have fl35 := hts (.fieldLink RX2 35 "HeldShelves$Report" "holdsOpen" "I") (List.mem_of_getElem? (i := 1) rfl)
  have inX2 : ∀ w ∈ wsX20, w ∈ wsX2_closeHold := fun _ h => List.mem_cons_of_mem _ (List.mem_append_right _ h)
  have hP : va_P D vwCl [(a 0, .inr (2, [.ref (a 1), .int (td 6), .int (td 0), .int (td 1), .int (td 2), .int (td 3), .int (td 4), .int op, .int (td 5), .int (td 7)])), (a 1, .inl (cI, 10, .inl ct))] s.heap := hP
  have hD : va_D A [(a 0, .inr (2, [.ref (a 1), .int (td 6), .int (td 0), .int (td 1), .int (td 2), .int (td 3), .int (td 4), .int op, .int (td 5), .int (td 7)])), (a 1, .inl (cI, 10, .inl ct))] := hD
  refine lv_aload_n hx hb dX2_closeHold_0 rfl (lv_at hl 0 rfl) ?_
  refine lv_dup hx hb dX2_closeHold_1 rfl ?_
  refine va_get (D := D) (ci := 2) (v := .int op) (C := RX2) (T := TX2) (N := 10) hx hb hts inX2 hown hK hP 0 rfl rfl 7 (by decide) fl35 (fun _ h9 => h9) rfl dX2_closeHold_2 ?_
  refine lv_iconst (v := 1) hx hb dX2_closeHold_5 (by decide) ?_
  refine lv_isub hx hb dX2_closeHold_6 ?_
  refine va_put (D := D) (ci := 2) (v := .int (op - 1)) (ty := .int) (C := RX2) (T := TX2) (N := 10) hx hb hts inX2 tyX2 tyX2_ok nmX2 hown hK hP hD hS 0 rfl rfl 7 (by decide) fl35 (fun _ h9 => h9) rfl (by decide +kernel) rfl rfl (Nat.le_of_ble_eq_true rfl) dX2_closeHold_7 (fun H locs hP hD hS => ?_)
  have hP : va_P D vwCl [(a 0, .inr (2, [.ref (a 1), .int (td 6), .int (td 0), .int (td 1), .int (td 2), .int (td 3), .int (td 4), .int (op - 1), .int (td 5), .int (td 7)])), (a 1, .inl (cI, 10, .inl ct))] H := hP
  have hD : va_D A [(a 0, .inr (2, [.ref (a 1), .int (td 6), .int (td 0), .int (td 1), .int (td 2), .int (td 3), .int (td 4), .int (op - 1), .int (td 5), .int (td 7)])), (a 1, .inl (cI, 10, .inl ct))] := hD
  exact Rv (D := D) () hx hb hr hlocks hP hD hS trivial dX2_closeHold_10

set_option maxHeartbeats 4000000 in
set_option maxRecDepth 100000 in
theorem c_X2_endAt (l : Launch) (D : va_G) (cI : ClassId) (a : Nat → Nat) (ct td : Nat → Int32) (op : Int32) (x y z : Int32) : Cv l D [(cI, .int)] yX2_endAt wsX2_endAt ({ frames := 0, cells := 0, slots := 0, locals := 0 }) [.ref (a 0), .int x, .int y, .int z] (wRp a cI ct td op) (S := Unit) (fun _ => True) (fun _ => wRp a cI ct (upd (upd (upd td 0 x) 1 y) 2 z) op) := by
  refine Cv.mk (cc := cX2_endAt) (maxL := 4) (ret := none) (by decide +kernel) rfl (Nat.le_of_ble_eq_true rfl) ?_
  intro pg e s m below meth c A ls hx hb hml hr hown hts hlocks hK hns hA hP hD hS hl
  have hl : lv_has ls 4 [(0, .ref (a 0)), (1, .int x), (2, .int y), (3, .int z)] := hl
  have fl44 := hts (.fieldLink RX2 44 "HeldShelves$Report" "failure" "I") (List.mem_of_getElem? (i := 1) rfl)
  have inX2 : ∀ w ∈ wsX20, w ∈ wsX2_endAt := fun _ h => List.mem_cons_of_mem _ (List.mem_append_right _ h)
  have fl15 := hts (.fieldLink RX2 15 "HeldShelves$Report" "plan" "I") (List.mem_of_getElem? (i := 2) rfl)
  have fl19 := hts (.fieldLink RX2 19 "HeldShelves$Report" "act" "I") (List.mem_of_getElem? (i := 3) rfl)
  have hP : va_P D vwCl [(a 0, .inr (2, [.ref (a 1), .int (td 6), .int (td 0), .int (td 1), .int (td 2), .int (td 3), .int (td 4), .int op, .int (td 5), .int (td 7)])), (a 1, .inl (cI, 10, .inl ct))] s.heap := hP
  have hD : va_D A [(a 0, .inr (2, [.ref (a 1), .int (td 6), .int (td 0), .int (td 1), .int (td 2), .int (td 3), .int (td 4), .int op, .int (td 5), .int (td 7)])), (a 1, .inl (cI, 10, .inl ct))] := hD
  refine lv_aload_n hx hb dX2_endAt_0 rfl (lv_at hl 0 rfl) ?_
  refine lv_iload_n hx hb dX2_endAt_1 rfl (lv_at hl 1 rfl) ?_
  refine va_put (D := D) (ci := 2) (v := .int x) (ty := .int) (C := RX2) (T := TX2) (N := 10) hx hb hts inX2 tyX2 tyX2_ok nmX2 hown hK hP hD hS 0 rfl rfl 2 (by decide) fl44 (fun _ h9 => h9) rfl (by decide +kernel) rfl rfl (Nat.le_of_ble_eq_true rfl) dX2_endAt_2 (fun H locs hP hD hS => ?_)
  have hP : va_P D vwCl [(a 0, .inr (2, [.ref (a 1), .int (td 6), .int x, .int (td 1), .int (td 2), .int (td 3), .int (td 4), .int op, .int (td 5), .int (td 7)])), (a 1, .inl (cI, 10, .inl ct))] H := hP
  have hD : va_D A [(a 0, .inr (2, [.ref (a 1), .int (td 6), .int x, .int (td 1), .int (td 2), .int (td 3), .int (td 4), .int op, .int (td 5), .int (td 7)])), (a 1, .inl (cI, 10, .inl ct))] := hD
  refine lv_aload_n hx hb dX2_endAt_5 rfl (lv_at hl 0 rfl) ?_
  refine lv_iload_n hx hb dX2_endAt_6 rfl (lv_at hl 2 rfl) ?_
  refine va_put (D := D) (ci := 2) (v := .int y) (ty := .int) (C := RX2) (T := TX2) (N := 10) hx hb hts inX2 tyX2 tyX2_ok nmX2 hown hK hP hD hS 0 rfl rfl 3 (by decide) fl15 (fun _ h9 => h9) rfl (by decide +kernel) rfl rfl (Nat.le_of_ble_eq_true rfl) dX2_endAt_7 (fun H locs hP hD hS => ?_)
  have hP : va_P D vwCl [(a 0, .inr (2, [.ref (a 1), .int (td 6), .int x, .int y, .int (td 2), .int (td 3), .int (td 4), .int op, .int (td 5), .int (td 7)])), (a 1, .inl (cI, 10, .inl ct))] H := hP
  have hD : va_D A [(a 0, .inr (2, [.ref (a 1), .int (td 6), .int x, .int y, .int (td 2), .int (td 3), .int (td 4), .int op, .int (td 5), .int (td 7)])), (a 1, .inl (cI, 10, .inl ct))] := hD
  refine lv_aload_n hx hb dX2_endAt_10 rfl (lv_at hl 0 rfl) ?_
  refine lv_iload_n hx hb dX2_endAt_11 rfl (lv_at hl 3 rfl) ?_
  refine va_put (D := D) (ci := 2) (v := .int z) (ty := .int) (C := RX2) (T := TX2) (N := 10) hx hb hts inX2 tyX2 tyX2_ok nmX2 hown hK hP hD hS 0 rfl rfl 4 (by decide) fl19 (fun _ h9 => h9) rfl (by decide +kernel) rfl rfl (Nat.le_of_ble_eq_true rfl) dX2_endAt_12 (fun H locs hP hD hS => ?_)
  have hP : va_P D vwCl [(a 0, .inr (2, [.ref (a 1), .int (td 6), .int x, .int y, .int z, .int (td 3), .int (td 4), .int op, .int (td 5), .int (td 7)])), (a 1, .inl (cI, 10, .inl ct))] H := hP
  have hD : va_D A [(a 0, .inr (2, [.ref (a 1), .int (td 6), .int x, .int y, .int z, .int (td 3), .int (td 4), .int op, .int (td 5), .int (td 7)])), (a 1, .inl (cI, 10, .inl ct))] := hD
  exact Rv (D := D) () hx hb hr hlocks hP hD hS trivial dX2_endAt_15

set_option maxHeartbeats 4000000 in
set_option maxRecDepth 100000 in
theorem c_X2_openHold (l : Launch) (D : va_G) (cI : ClassId) (a : Nat → Nat) (ct td : Nat → Int32) (op : Int32) : Cv l D [(cI, .int)] yX2_openHold wsX2_openHold ({ frames := 1, cells := 0, slots := 0, locals := 21 }) [.ref (a 0)] (wRp a cI ct td op) (S := Unit) (fun _ => True) (fun _ => wRp a cI ct (upd (upd td 4 (td 4 + 1)) 5 (if td 5 < op + 1 then op + 1 else td 5)) (op + 1)) := by
  refine Cv.mk (cc := cX2_openHold) (maxL := 1) (ret := none) (by decide +kernel) rfl (Nat.le_of_ble_eq_true rfl) ?_
  intro pg e s m below meth c A ls hx hb hml hr hown hts hlocks hK hns hA hP hD hS hl
  have hl : lv_has ls 1 [(0, .ref (a 0))] := hl
  have fl32 := hts (.fieldLink RX2 32 "HeldShelves$Report" "holds" "I") (List.mem_of_getElem? (i := 1) rfl)
  have inX2 : ∀ w ∈ wsX20, w ∈ wsX2_openHold := fun _ h => List.mem_cons_of_mem _ (List.mem_append_right _ h)
  have fl35 := hts (.fieldLink RX2 35 "HeldShelves$Report" "holdsOpen" "I") (List.mem_of_getElem? (i := 2) rfl)
  have fl38 := hts (.fieldLink RX2 38 "HeldShelves$Report" "mostOpen" "I") (List.mem_of_getElem? (i := 3) rfl)
  have hP : va_P D vwCl [(a 0, .inr (2, [.ref (a 1), .int (td 6), .int (td 0), .int (td 1), .int (td 2), .int (td 3), .int (td 4), .int op, .int (td 5), .int (td 7)])), (a 1, .inl (cI, 10, .inl ct))] s.heap := hP
  have hD : va_D A [(a 0, .inr (2, [.ref (a 1), .int (td 6), .int (td 0), .int (td 1), .int (td 2), .int (td 3), .int (td 4), .int op, .int (td 5), .int (td 7)])), (a 1, .inl (cI, 10, .inl ct))] := hD
  refine lv_aload_n hx hb dX2_openHold_0 rfl (lv_at hl 0 rfl) ?_
  refine lv_dup hx hb dX2_openHold_1 rfl ?_
  refine va_get (D := D) (ci := 2) (v := .int (td 4)) (C := RX2) (T := TX2) (N := 10) hx hb hts inX2 hown hK hP 0 rfl rfl 6 (by decide) fl32 (fun _ h9 => h9) rfl dX2_openHold_2 ?_
  refine lv_iconst (v := 1) hx hb dX2_openHold_5 (by decide) ?_
  refine lv_iadd hx hb dX2_openHold_6 ?_
  refine va_put (D := D) (ci := 2) (v := .int ((td 4) + 1)) (ty := .int) (C := RX2) (T := TX2) (N := 10) hx hb hts inX2 tyX2 tyX2_ok nmX2 hown hK hP hD hS 0 rfl rfl 6 (by decide) fl32 (fun _ h9 => h9) rfl (by decide +kernel) rfl rfl (Nat.le_of_ble_eq_true rfl) dX2_openHold_7 (fun H locs hP hD hS => ?_)
  have hP : va_P D vwCl [(a 0, .inr (2, [.ref (a 1), .int (td 6), .int (td 0), .int (td 1), .int (td 2), .int (td 3), .int ((td 4) + 1), .int op, .int (td 5), .int (td 7)])), (a 1, .inl (cI, 10, .inl ct))] H := hP
  have hD : va_D A [(a 0, .inr (2, [.ref (a 1), .int (td 6), .int (td 0), .int (td 1), .int (td 2), .int (td 3), .int ((td 4) + 1), .int op, .int (td 5), .int (td 7)])), (a 1, .inl (cI, 10, .inl ct))] := hD
  refine lv_aload_n hx hb dX2_openHold_10 rfl (lv_at hl 0 rfl) ?_
  refine lv_dup hx hb dX2_openHold_11 rfl ?_
  refine va_get (D := D) (ci := 2) (v := .int op) (C := RX2) (T := TX2) (N := 10) hx hb hts inX2 hown hK hP 0 rfl rfl 7 (by decide) fl35 (fun _ h9 => h9) rfl dX2_openHold_12 ?_
  refine lv_iconst (v := 1) hx hb dX2_openHold_15 (by decide) ?_
  refine lv_iadd hx hb dX2_openHold_16 ?_
  refine va_put (D := D) (ci := 2) (v := .int (op + 1)) (ty := .int) (C := RX2) (T := TX2) (N := 10) hx hb hts inX2 tyX2 tyX2_ok nmX2 hown hK hP hD hS 0 rfl rfl 7 (by decide) fl35 (fun _ h9 => h9) rfl (by decide +kernel) rfl rfl (Nat.le_of_ble_eq_true rfl) dX2_openHold_17 (fun H locs hP hD hS => ?_)
  have hP : va_P D vwCl [(a 0, .inr (2, [.ref (a 1), .int (td 6), .int (td 0), .int (td 1), .int (td 2), .int (td 3), .int ((td 4) + 1), .int (op + 1), .int (td 5), .int (td 7)])), (a 1, .inl (cI, 10, .inl ct))] H := hP
  have hD : va_D A [(a 0, .inr (2, [.ref (a 1), .int (td 6), .int (td 0), .int (td 1), .int (td 2), .int (td 3), .int ((td 4) + 1), .int (op + 1), .int (td 5), .int (td 7)])), (a 1, .inl (cI, 10, .inl ct))] := hD
  refine lv_aload_n hx hb dX2_openHold_20 rfl (lv_at hl 0 rfl) ?_
  refine lv_aload_n hx hb dX2_openHold_21 rfl (lv_at hl 0 rfl) ?_
  refine va_get (D := D) (ci := 2) (v := .int (td 5)) (C := RX2) (T := TX2) (N := 10) hx hb hts inX2 hown hK hP 0 rfl rfl 8 (by decide) fl38 (fun _ h9 => h9) rfl dX2_openHold_22 ?_
  refine lv_aload_n hx hb dX2_openHold_25 rfl (lv_at hl 0 rfl) ?_
  refine va_get (D := D) (ci := 2) (v := .int (op + 1)) (C := RX2) (T := TX2) (N := 10) hx hb hts inX2 hown hK hP 0 rfl rfl 7 (by decide) fl35 (fun _ h9 => h9) rfl dX2_openHold_26 ?_
  refine va_mmax hx hb (by rw [hml]; exact hl.1.symm) hown (hts (.methodLink RX2 47 Lib.Math.max.name) (List.mem_of_getElem? (i := 4) rfl)) (hts (.static Lib.Math.max.name) (by decide +kernel)) (hts (.initialized "java/lang/Math") (by decide +kernel)) (hts (.code Lib.Math.max.name Lib.Math.max.code 2 (some .int)) (List.mem_of_getElem? (i := 7) rfl)) (Nat.le_of_ble_eq_true rfl) (Nat.le_of_ble_eq_true rfl) (Nat.le_of_ble_eq_true rfl) (Nat.le_of_ble_eq_true rfl) dX2_openHold_29 ?_
  refine va_put (D := D) (ci := 2) (v := .int (if td 5 < (op + 1) then (op + 1) else td 5)) (ty := .int) (C := RX2) (T := TX2) (N := 10) hx hb hts inX2 tyX2 tyX2_ok nmX2 hown hK hP hD hS 0 rfl rfl 8 (by decide) fl38 (fun _ h9 => h9) rfl (by decide +kernel) rfl rfl (Nat.le_of_ble_eq_true rfl) dX2_openHold_32 (fun H locs hP hD hS => ?_)
  have hP : va_P D vwCl [(a 0, .inr (2, [.ref (a 1), .int (td 6), .int (td 0), .int (td 1), .int (td 2), .int (td 3), .int ((td 4) + 1), .int (op + 1), .int (if td 5 < (op + 1) then (op + 1) else td 5), .int (td 7)])), (a 1, .inl (cI, 10, .inl ct))] H := hP
  have hD : va_D A [(a 0, .inr (2, [.ref (a 1), .int (td 6), .int (td 0), .int (td 1), .int (td 2), .int (td 3), .int ((td 4) + 1), .int (op + 1), .int (if td 5 < (op + 1) then (op + 1) else td 5), .int (td 7)])), (a 1, .inl (cI, 10, .inl ct))] := hD
  exact Rv (D := D) () hx hb hr hlocks hP hD hS trivial dX2_openHold_35

set_option maxHeartbeats 4000000 in
set_option maxRecDepth 100000 in
theorem c_X2_countCaught (l : Launch) (D : va_G) (cI : ClassId) (a : Nat → Nat) (ct td : Nat → Int32) (op : Int32) (f : Nat) (h0 : 0 < f) (h9 : f ≤ 9) : Cv l D [(cI, .int)] yX2_countCaught wsX2_countCaught ({ frames := 0, cells := 0, slots := 0, locals := 0 }) [.ref (a 0), .int (nI f)] (wRp a cI ct td op) (S := Unit) (fun _ => True) (fun _ => wRp a cI (upd ct f (ct f + 1)) (upd td 6 (td 6 + 1)) op) := by
  refine Cv.mk (cc := cX2_countCaught) (maxL := 2) (ret := none) (by decide +kernel) rfl (Nat.le_of_ble_eq_true rfl) ?_
  intro pg e s m below meth c A ls hx hb hml hr hown hts hlocks hK hns hA hP hD hS hl
  have hl : lv_has ls 2 [(0, .ref (a 0)), (1, .int (nI f))] := hl
  have fl9 := hts (.fieldLink RX2 9 "HeldShelves$Report" "caughtOf" "[I") (List.mem_of_getElem? (i := 1) rfl)
  have inX2 : ∀ w ∈ wsX20, w ∈ wsX2_countCaught := fun _ h => List.mem_cons_of_mem _ (List.mem_append_right _ h)
  have fl22 := hts (.fieldLink RX2 22 "HeldShelves$Report" "caughtInAll" "I") (List.mem_of_getElem? (i := 2) rfl)
  have hP : va_P D vwCl [(a 0, .inr (2, [.ref (a 1), .int (td 6), .int (td 0), .int (td 1), .int (td 2), .int (td 3), .int (td 4), .int op, .int (td 5), .int (td 7)])), (a 1, .inl (cI, 10, .inl ct))] s.heap := hP
  have hD : va_D A [(a 0, .inr (2, [.ref (a 1), .int (td 6), .int (td 0), .int (td 1), .int (td 2), .int (td 3), .int (td 4), .int op, .int (td 5), .int (td 7)])), (a 1, .inl (cI, 10, .inl ct))] := hD
  refine lv_iload_n hx hb dX2_countCaught_0 rfl (lv_at hl 1 rfl) ?_
  refine lv_if_le (tgt := 30) hx hb dX2_countCaught_1 (by decide) (fun c_1 => ?_) (fun c_1 => ?_)
  · have c_1 : f ≤ 0 := (nI_leI (a := f) (b := 0) (by omega) (by omega)).mp c_1
    exact absurd c_1 (by omega)
  · have c_1 : ¬ (f ≤ 0) := fun h => c_1 ((nI_leI (a := f) (b := 0) (by omega) (by omega)).mpr h)
    refine lv_iload_n hx hb dX2_countCaught_4 rfl (lv_at hl 1 rfl) ?_
    refine lv_bipush (v := 9) hx hb dX2_countCaught_5 (by decide) ?_
    refine lv_icmp_gt (tgt := 30) hx hb dX2_countCaught_7 (by decide) (fun c_7 => ?_) (fun c_7 => ?_)
    · have c_7 : 9 < f := (nI_ltI (a := 9) (b := f) (by omega) (by omega)).mp c_7
      exact absurd c_7 (by omega)
    · have c_7 : ¬ (9 < f) := fun h => c_7 ((nI_ltI (a := 9) (b := f) (by omega) (by omega)).mpr h)
      refine lv_aload_n hx hb dX2_countCaught_10 rfl (lv_at hl 0 rfl) ?_
      refine va_get (D := D) (ci := 2) (v := .ref (a 1)) (C := RX2) (T := TX2) (N := 10) hx hb hts inX2 hown hK hP 0 rfl rfl 0 (by decide) fl9 (fun _ h9 => h9) rfl dX2_countCaught_11 ?_
      refine lv_iload_n hx hb dX2_countCaught_14 rfl (lv_at hl 1 rfl) ?_
      refine lv_dup2_11 hx hb dX2_countCaught_15 rfl rfl ?_
      refine xi_ald hx hb hK hP 1 0 rfl rfl (k := f) (by omega) (by decide) dX2_countCaught_16 ?_
      refine lv_iconst (v := 1) hx hb dX2_countCaught_17 (by decide) ?_
      refine lv_iadd hx hb dX2_countCaught_18 ?_
      refine xi_ast hx hb hK hP hD hS 1 0 rfl rfl (k := f) (x := ((ct f) + 1)) (by omega) (by decide) dX2_countCaught_19 (fun H locs hP hD hS => ?_)
      have hP : va_P D vwCl [(a 0, .inr (2, [.ref (a 1), .int (td 6), .int (td 0), .int (td 1), .int (td 2), .int (td 3), .int (td 4), .int op, .int (td 5), .int (td 7)])), (a 1, .inl (cI, 10, .inl (upd ct f ((ct f) + 1))))] H := hP
      have hD : va_D A [(a 0, .inr (2, [.ref (a 1), .int (td 6), .int (td 0), .int (td 1), .int (td 2), .int (td 3), .int (td 4), .int op, .int (td 5), .int (td 7)])), (a 1, .inl (cI, 10, .inl (upd ct f ((ct f) + 1))))] := hD
      refine lv_aload_n hx hb dX2_countCaught_20 rfl (lv_at hl 0 rfl) ?_
      refine lv_dup hx hb dX2_countCaught_21 rfl ?_
      refine va_get (D := D) (ci := 2) (v := .int (td 6)) (C := RX2) (T := TX2) (N := 10) hx hb hts inX2 hown hK hP 0 rfl rfl 1 (by decide) fl22 (fun _ h9 => h9) rfl dX2_countCaught_22 ?_
      refine lv_iconst (v := 1) hx hb dX2_countCaught_25 (by decide) ?_
      refine lv_iadd hx hb dX2_countCaught_26 ?_
      refine va_put (D := D) (ci := 2) (v := .int ((td 6) + 1)) (ty := .int) (C := RX2) (T := TX2) (N := 10) hx hb hts inX2 tyX2 tyX2_ok nmX2 hown hK hP hD hS 0 rfl rfl 1 (by decide) fl22 (fun _ h9 => h9) rfl (by decide +kernel) rfl rfl (Nat.le_of_ble_eq_true rfl) dX2_countCaught_27 (fun H locs hP hD hS => ?_)
      have hP : va_P D vwCl [(a 0, .inr (2, [.ref (a 1), .int ((td 6) + 1), .int (td 0), .int (td 1), .int (td 2), .int (td 3), .int (td 4), .int op, .int (td 5), .int (td 7)])), (a 1, .inl (cI, 10, .inl (upd ct f ((ct f) + 1))))] H := hP
      have hD : va_D A [(a 0, .inr (2, [.ref (a 1), .int ((td 6) + 1), .int (td 0), .int (td 1), .int (td 2), .int (td 3), .int (td 4), .int op, .int (td 5), .int (td 7)])), (a 1, .inl (cI, 10, .inl (upd ct f ((ct f) + 1))))] := hD
      exact Rv (D := D) () hx hb hr hlocks hP hD hS trivial dX2_countCaught_30

set_option maxHeartbeats 4000000 in
set_option maxRecDepth 100000 in
theorem c_X2_timesCaught (l : Launch) (D : va_G) (cI : ClassId) (a : Nat → Nat) (ct td : Nat → Int32) (op : Int32) (x : Int32) : Ci l D [(cI, .int)] yX2_timesCaught wsX2_timesCaught ({ frames := 0, cells := 0, slots := 0, locals := 0 }) [.ref (a 0), .int x] (wRp a cI ct td op) (S := Unit) (fun v _ => v = tcv ct x) (fun _ => wRp a cI ct td op) := by
  refine Ci.mk (cc := cX2_timesCaught) (maxL := 2) (ret := (some .int)) (by decide +kernel) rfl (Nat.le_of_ble_eq_true rfl) ?_
  intro pg e s m below meth c A ls hx hb hml hr hown hts hlocks hK hns hA hP hD hS hl
  have hl : lv_has ls 2 [(0, .ref (a 0)), (1, .int x)] := hl
  have fl9 := hts (.fieldLink RX2 9 "HeldShelves$Report" "caughtOf" "[I") (List.mem_of_getElem? (i := 1) rfl)
  have inX2 : ∀ w ∈ wsX20, w ∈ wsX2_timesCaught := fun _ h => List.mem_cons_of_mem _ (List.mem_append_right _ h)
  have hP : va_P D vwCl [(a 0, .inr (2, [.ref (a 1), .int (td 6), .int (td 0), .int (td 1), .int (td 2), .int (td 3), .int (td 4), .int op, .int (td 5), .int (td 7)])), (a 1, .inl (cI, 10, .inl ct))] s.heap := hP
  have hD : va_D A [(a 0, .inr (2, [.ref (a 1), .int (td 6), .int (td 0), .int (td 1), .int (td 2), .int (td 3), .int (td 4), .int op, .int (td 5), .int (td 7)])), (a 1, .inl (cI, 10, .inl ct))] := hD
  refine lv_iload_n hx hb dX2_timesCaught_0 rfl (lv_at hl 1 rfl) ?_
  refine lv_if_le (tgt := 19) hx hb dX2_timesCaught_1 (by decide) (fun c_1 => ?_) (fun c_1 => ?_)
  · refine lv_iconst (v := (-1)) hx hb dX2_timesCaught_19 (by decide) ?_
    exact Ri (D := D) () hx hb hr rfl hlocks hP hD hS (tcv_le c_1).symm dX2_timesCaught_20
  · refine lv_iload_n hx hb dX2_timesCaught_4 rfl (lv_at hl 1 rfl) ?_
    refine lv_bipush (v := 9) hx hb dX2_timesCaught_5 (by decide) ?_
    refine lv_icmp_gt (tgt := 19) hx hb dX2_timesCaught_7 (by decide) (fun c_7 => ?_) (fun c_7 => ?_)
    · refine lv_iconst (v := (-1)) hx hb dX2_timesCaught_19 (by decide) ?_
      exact Ri (D := D) () hx hb hr rfl hlocks hP hD hS (tcv_gt c_7).symm dX2_timesCaught_20
    · obtain ⟨j, hj, rfl⟩ : ∃ j : Nat, j < 10 ∧ x = nI j := by
        obtain ⟨j, hj1, hj2⟩ := nI_of (x := x) (fun h => c_1 (by rw [i_lt] at h; rw [i_le]; exact Int.le_of_lt h))
        refine ⟨j, ?_, hj2⟩
        rw [hj2, show (9 : Int32) = nI 9 from rfl, nI_ltI (by omega) (by omega)] at c_7
        omega
      refine lv_aload_n hx hb dX2_timesCaught_10 rfl (lv_at hl 0 rfl) ?_
      refine va_get (D := D) (ci := 2) (v := .ref (a 1)) (C := RX2) (T := TX2) (N := 10) hx hb hts inX2 hown hK hP 0 rfl rfl 0 (by decide) fl9 (fun _ h9 => h9) rfl dX2_timesCaught_11 ?_
      refine lv_iload_n hx hb dX2_timesCaught_14 rfl (lv_at hl 1 rfl) ?_
      refine xi_ald hx hb hK hP 1 0 rfl rfl (k := j) (by omega) (by decide) dX2_timesCaught_15 ?_
      refine lv_goto (tgt := 20) hx hb dX2_timesCaught_16 (by decide) ?_
      exact Ri (D := D) () hx hb hr rfl hlocks hP hD hS (tcv_in c_1 hj).symm dX2_timesCaught_20

set_option maxHeartbeats 4000000 in
set_option maxRecDepth 100000 in
theorem c_X2_number (l : Launch) (D : va_G) (cI : ClassId) (a : Nat → Nat) (ct td : Nat → Int32) (op : Int32) (x : Int32) : Ci l D [(cI, .int)] yX2_number wsX2_number ({ frames := 0, cells := 0, slots := 0, locals := 0 }) [.ref (a 0), .int x] (wRp a cI ct td op) (S := Unit) (fun v _ => v = tdv td x) (fun _ => wRp a cI ct td op) := by
  refine Ci.mk (cc := cX2_number) (maxL := 2) (ret := (some .int)) (by decide +kernel) rfl (Nat.le_of_ble_eq_true rfl) ?_
  intro pg e s m below meth c A ls hx hb hml hr hown hts hlocks hK hns hA hP hD hS hl
  have hl : lv_has ls 2 [(0, .ref (a 0)), (1, .int x)] := hl
  have fl44 := hts (.fieldLink RX2 44 "HeldShelves$Report" "failure" "I") (List.mem_of_getElem? (i := 1) rfl)
  have inX2 : ∀ w ∈ wsX20, w ∈ wsX2_number := fun _ h => List.mem_cons_of_mem _ (List.mem_append_right _ h)
  have fl15 := hts (.fieldLink RX2 15 "HeldShelves$Report" "plan" "I") (List.mem_of_getElem? (i := 2) rfl)
  have fl19 := hts (.fieldLink RX2 19 "HeldShelves$Report" "act" "I") (List.mem_of_getElem? (i := 3) rfl)
  have fl29 := hts (.fieldLink RX2 29 "HeldShelves$Report" "steps" "I") (List.mem_of_getElem? (i := 4) rfl)
  have fl32 := hts (.fieldLink RX2 32 "HeldShelves$Report" "holds" "I") (List.mem_of_getElem? (i := 5) rfl)
  have fl38 := hts (.fieldLink RX2 38 "HeldShelves$Report" "mostOpen" "I") (List.mem_of_getElem? (i := 6) rfl)
  have fl22 := hts (.fieldLink RX2 22 "HeldShelves$Report" "caughtInAll" "I") (List.mem_of_getElem? (i := 7) rfl)
  have fl41 := hts (.fieldLink RX2 41 "HeldShelves$Report" "calls" "I") (List.mem_of_getElem? (i := 8) rfl)
  have hP : va_P D vwCl [(a 0, .inr (2, [.ref (a 1), .int (td 6), .int (td 0), .int (td 1), .int (td 2), .int (td 3), .int (td 4), .int op, .int (td 5), .int (td 7)])), (a 1, .inl (cI, 10, .inl ct))] s.heap := hP
  have hD : va_D A [(a 0, .inr (2, [.ref (a 1), .int (td 6), .int (td 0), .int (td 1), .int (td 2), .int (td 3), .int (td 4), .int op, .int (td 5), .int (td 7)])), (a 1, .inl (cI, 10, .inl ct))] := hD
  refine lv_iload_n hx hb dX2_number_0 rfl (lv_at hl 1 rfl) ?_
  rcases tdv_cases td x with ⟨rfl, ht⟩ | ⟨rfl, ht⟩ | ⟨rfl, ht⟩ | ⟨rfl, ht⟩ | ⟨rfl, ht⟩ | ⟨rfl, ht⟩ | ⟨rfl, ht⟩ | ⟨rfl, ht⟩ | ⟨hx0, ht⟩
  · refine lv_tableIn (off := 47) (tgt := 48) hx hb dX2_number_1 (by decide) (by decide) (by decide) (by decide) ?_
    refine lv_aload_n hx hb dX2_number_48 rfl (lv_at hl 0 rfl) ?_
    refine va_get (D := D) (ci := 2) (v := .int (td 0)) (C := RX2) (T := TX2) (N := 10) hx hb hts inX2 hown hK hP 0 rfl rfl 2 (by decide) fl44 (fun _ h9 => h9) rfl dX2_number_49 ?_
    exact Ri (D := D) () hx hb hr rfl hlocks hP hD hS ht.symm dX2_number_52
  · refine lv_tableIn (off := 52) (tgt := 53) hx hb dX2_number_1 (by decide) (by decide) (by decide) (by decide) ?_
    refine lv_aload_n hx hb dX2_number_53 rfl (lv_at hl 0 rfl) ?_
    refine va_get (D := D) (ci := 2) (v := .int (td 1)) (C := RX2) (T := TX2) (N := 10) hx hb hts inX2 hown hK hP 0 rfl rfl 3 (by decide) fl15 (fun _ h9 => h9) rfl dX2_number_54 ?_
    exact Ri (D := D) () hx hb hr rfl hlocks hP hD hS ht.symm dX2_number_57
  · refine lv_tableIn (off := 57) (tgt := 58) hx hb dX2_number_1 (by decide) (by decide) (by decide) (by decide) ?_
    refine lv_aload_n hx hb dX2_number_58 rfl (lv_at hl 0 rfl) ?_
    refine va_get (D := D) (ci := 2) (v := .int (td 2)) (C := RX2) (T := TX2) (N := 10) hx hb hts inX2 hown hK hP 0 rfl rfl 4 (by decide) fl19 (fun _ h9 => h9) rfl dX2_number_59 ?_
    exact Ri (D := D) () hx hb hr rfl hlocks hP hD hS ht.symm dX2_number_62
  · refine lv_tableIn (off := 62) (tgt := 63) hx hb dX2_number_1 (by decide) (by decide) (by decide) (by decide) ?_
    refine lv_aload_n hx hb dX2_number_63 rfl (lv_at hl 0 rfl) ?_
    refine va_get (D := D) (ci := 2) (v := .int (td 3)) (C := RX2) (T := TX2) (N := 10) hx hb hts inX2 hown hK hP 0 rfl rfl 5 (by decide) fl29 (fun _ h9 => h9) rfl dX2_number_64 ?_
    exact Ri (D := D) () hx hb hr rfl hlocks hP hD hS ht.symm dX2_number_67
  · refine lv_tableIn (off := 67) (tgt := 68) hx hb dX2_number_1 (by decide) (by decide) (by decide) (by decide) ?_
    refine lv_aload_n hx hb dX2_number_68 rfl (lv_at hl 0 rfl) ?_
    refine va_get (D := D) (ci := 2) (v := .int (td 4)) (C := RX2) (T := TX2) (N := 10) hx hb hts inX2 hown hK hP 0 rfl rfl 6 (by decide) fl32 (fun _ h9 => h9) rfl dX2_number_69 ?_
    exact Ri (D := D) () hx hb hr rfl hlocks hP hD hS ht.symm dX2_number_72
  · refine lv_tableIn (off := 72) (tgt := 73) hx hb dX2_number_1 (by decide) (by decide) (by decide) (by decide) ?_
    refine lv_aload_n hx hb dX2_number_73 rfl (lv_at hl 0 rfl) ?_
    refine va_get (D := D) (ci := 2) (v := .int (td 5)) (C := RX2) (T := TX2) (N := 10) hx hb hts inX2 hown hK hP 0 rfl rfl 8 (by decide) fl38 (fun _ h9 => h9) rfl dX2_number_74 ?_
    exact Ri (D := D) () hx hb hr rfl hlocks hP hD hS ht.symm dX2_number_77
  · refine lv_tableIn (off := 77) (tgt := 78) hx hb dX2_number_1 (by decide) (by decide) (by decide) (by decide) ?_
    refine lv_aload_n hx hb dX2_number_78 rfl (lv_at hl 0 rfl) ?_
    refine va_get (D := D) (ci := 2) (v := .int (td 6)) (C := RX2) (T := TX2) (N := 10) hx hb hts inX2 hown hK hP 0 rfl rfl 1 (by decide) fl22 (fun _ h9 => h9) rfl dX2_number_79 ?_
    exact Ri (D := D) () hx hb hr rfl hlocks hP hD hS ht.symm dX2_number_82
  · refine lv_tableIn (off := 82) (tgt := 83) hx hb dX2_number_1 (by decide) (by decide) (by decide) (by decide) ?_
    refine lv_aload_n hx hb dX2_number_83 rfl (lv_at hl 0 rfl) ?_
    refine va_get (D := D) (ci := 2) (v := .int (td 7)) (C := RX2) (T := TX2) (N := 10) hx hb hts inX2 hown hK hP 0 rfl rfl 9 (by decide) fl41 (fun _ h9 => h9) rfl dX2_number_84 ?_
    exact Ri (D := D) () hx hb hr rfl hlocks hP hD hS ht.symm dX2_number_87
  · refine lv_tableOut (tgt := 88) hx hb dX2_number_1 (hx0) (by decide) ?_
    refine lv_iconst (v := (-1)) hx hb dX2_number_88 (by decide) ?_
    exact Ri (D := D) () hx hb hr rfl hlocks hP hD hS ht.symm dX2_number_89
end
section
/-! numbers of the shelves: what the acts do -/
def td0 : Nat → Int32 := fun k => match k with
  | 1 => -4
  | 2 => -4
  | _ => 0
theorem gok_v {g : Nat → Int32} {th : Nat → Bool} {go : Nat → Nat} {s : Nat} (h : gok g th go) (hs : s < 8) (ht : th s = true) : g s = nI (go s) := by
  rw [(h s hs).1, ht]; rfl
theorem gok_up {g : Nat → Int32} {th : Nat → Bool} {go : Nat → Nat} {x v : Nat} (h : gok g th go) (ht : th x = true) (hv : v ≤ 1000) : gok (upd g x (nI v)) th (va_up go x v) := by
  intro s hs
  by_cases e : s = x
  · subst e
    simp only [upd, va_up, if_true]
    rw [ht]
    exact ⟨rfl, hv⟩
  · simp only [upd, va_up, e, if_false]
    exact h s hs
def fwd (th : Nat → Bool) (go : Nat → Nat) (y : Int32) : Nat → Int32
  | 0 => -4
  | r + 1 => if th (7 - r) = true ∧ y ≤ nI (go (7 - r)) then nI (7 - r) else fwd th go y r
theorem fwd_no {th : Nat → Bool} {go : Nat → Nat} {y : Int32} {i : Nat} (hi : i < 8) (hn : ¬ (th i = true ∧ y ≤ nI (go i))) : fwd th go y (8 - i) = fwd th go y (8 - (i + 1)) := by
  have e1 : 8 - i = (8 - (i + 1)) + 1 := by omega
  have e2 : 7 - (8 - (i + 1)) = i := by omega
  rw [e1, fwd, e2, if_neg hn]
theorem fwd_yes {th : Nat → Bool} {go : Nat → Nat} {y : Int32} {i : Nat} (hi : i < 8) (ht : th i = true) (hy : y ≤ nI (go i)) : fwd th go y (8 - i) = nI i := by
  have e1 : 8 - i = (8 - (i + 1)) + 1 := by omega
  have e2 : 7 - (8 - (i + 1)) = i := by omega
  rw [e1, fwd, e2, if_pos ⟨ht, hy⟩]
def rwd (th : Nat → Bool) (go : Nat → Nat) (y : Int32) : Nat → Int32
  | 0 => 8
  | r + 1 => if th (7 - r) = true ∧ nI (go (7 - r)) ≤ y then rwd th go y r else nI (7 - r)
theorem rwd_yes {th : Nat → Bool} {go : Nat → Nat} {y : Int32} {i : Nat} (hi : i < 8) (ht : th i = true) (hy : nI (go i) ≤ y) : rwd th go y (8 - i) = rwd th go y (8 - (i + 1)) := by
  have e1 : 8 - i = (8 - (i + 1)) + 1 := by omega
  have e2 : 7 - (8 - (i + 1)) = i := by omega
  rw [e1, rwd, e2, if_pos ⟨ht, hy⟩]
theorem rwd_no {th : Nat → Bool} {go : Nat → Nat} {y : Int32} {i : Nat} (hi : i < 8) (hn : ¬ (th i = true ∧ nI (go i) ≤ y)) : rwd th go y (8 - i) = nI i := by
  have e1 : 8 - i = (8 - (i + 1)) + 1 := by omega
  have e2 : 7 - (8 - (i + 1)) = i := by omega
  rw [e1, rwd, e2, if_neg hn]
def sm (th : Nat → Bool) (go : Nat → Nat) : Nat → Int32
  | 0 => 0
  | i + 1 => sm th go i + (if th i then nI (go i) else 0)
theorem mis_le {th : Nat → Bool} {s : Nat} : mis th s ≤ 2 := by
  unfold mis; split
  · omega
  · split <;> omega
theorem mis_0 {th : Nat → Bool} {s : Nat} (h : mis th s = 0) : s < 8 ∧ th s = true := by
  unfold mis at h
  split at h
  · omega
  · split at h
    · rename_i h1 h2; exact ⟨by omega, h2⟩
    · omega
theorem mol_le {th : Nat → Bool} {hd : Nat → Nat} {s : Nat} : mol th hd s ≤ 7 := by
  unfold mol
  have := mis_le (th := th) (s := s)
  split
  · split <;> omega
  · omega
theorem mol_0 {th : Nat → Bool} {hd : Nat → Nat} {s : Nat} (h : mol th hd s = 0) : s < 8 ∧ th s = true ∧ hd s ≠ 0 := by
  unfold mol at h
  split at h
  · rename_i h1
    split at h
    · omega
    · rename_i h2; exact ⟨(mis_0 h1).1, (mis_0 h1).2, h2⟩
  · rename_i h1; exact absurd h h1
def A_put (th : Nat → Bool) (go hd : Nat → Nat) (x n : Nat) : Nat × (Nat → Nat) :=
  if mol th hd x = 0 then (if 1000 < go x + n then (5, go) else (0, va_up go x (go x + n))) else (mol th hd x, go)
def A_take (th : Nat → Bool) (go hd : Nat → Nat) (x n : Nat) : Nat × (Nat → Nat) :=
  if mol th hd x = 0 then (if go x < n then (4, go) else (0, va_up go x (go x - n))) else (mol th hd x, go)
def A_share (th : Nat → Bool) (go hd : Nat → Nat) (r : Int32) (x n : Nat) : Nat × (Nat → Nat) × Int32 :=
  if mol th hd x = 0 then (if n = 0 then (3, go, r) else (0, va_up go x (go x / n), r + nI (go x - go x / n))) else (mol th hd x, go, r)
def A_move (th : Nat → Bool) (go : Nat → Nat) (x y n : Nat) : Nat × (Nat → Nat) :=
  if 8 ≤ x ∨ 8 ≤ y then (1, go) else if th x = false ∨ th y = false then (2, go) else if go x < n then (4, go) else if x ≠ y ∧ 1000 < go y + n then (5, go)
  else (0, va_up (va_up go x (go x - n)) y (va_up go x (go x - n) y + n))
theorem A_mv {th : Nat → Bool} {x y : Nat} (h1 : th x = true) (h2 : th y = true) : ¬ (th x = false ∨ th y = false) := by
  rintro (h | h)
  · rw [h1] at h; cases h
  · rw [h2] at h; cases h
theorem A_mvb {go : Nat → Nat} {x y n : Nat} (h1 : go x ≤ 1000) (h2 : n ≤ go x) (h3 : x = y ∨ go y + n ≤ 1000) : va_up go x (go x - n) y + n ≤ 1000 := by
  by_cases e : y = x
  · subst e; simp only [va_up, if_true]; omega
  · simp only [va_up, e, if_false]; omega
end
section
set_option maxHeartbeats 4000000 in
set_option maxRecDepth 100000 in
theorem c_X2_reset (l : Launch) (D : va_G) (cI : ClassId) (a : Nat → Nat) (ct td : Nat → Int32) (op : Int32) : Cv l D [(cI, .int)] yX2_reset wsX2_reset ({ frames := 1, cells := 0, slots := 0, locals := 23 }) [.ref (a 0)] (wRp a cI ct td op) (S := Nat → Int32) (fun u => ∀ j, j < 10 → u j = 0) (fun u => wRp a cI u td0 0) := by
  refine Cv.mk (cc := cX2_reset) (maxL := 2) (ret := none) (by decide +kernel) rfl (Nat.le_of_ble_eq_true rfl) ?_
  intro pg e s m below meth c A ls hx hb hml hr hown hts hlocks hK hns hA hP hD hS hl
  have hl : lv_has ls 2 [(0, .ref (a 0))] := hl
  have fl22 := hts (.fieldLink RX2 22 "HeldShelves$Report" "caughtInAll" "I") (List.mem_of_getElem? (i := 2) rfl)
  have inX2 : ∀ w ∈ wsX20, w ∈ wsX2_reset := fun _ h => List.mem_cons_of_mem _ (List.mem_append_right _ h)
  have fl29 := hts (.fieldLink RX2 29 "HeldShelves$Report" "steps" "I") (List.mem_of_getElem? (i := 3) rfl)
  have fl32 := hts (.fieldLink RX2 32 "HeldShelves$Report" "holds" "I") (List.mem_of_getElem? (i := 4) rfl)
  have fl35 := hts (.fieldLink RX2 35 "HeldShelves$Report" "holdsOpen" "I") (List.mem_of_getElem? (i := 5) rfl)
  have fl38 := hts (.fieldLink RX2 38 "HeldShelves$Report" "mostOpen" "I") (List.mem_of_getElem? (i := 6) rfl)
  have fl41 := hts (.fieldLink RX2 41 "HeldShelves$Report" "calls" "I") (List.mem_of_getElem? (i := 7) rfl)
  have fl9 := hts (.fieldLink RX2 9 "HeldShelves$Report" "caughtOf" "[I") (List.mem_of_getElem? (i := 1) rfl)
  have hP : va_P D vwCl [(a 0, .inr (2, [.ref (a 1), .int (td 6), .int (td 0), .int (td 1), .int (td 2), .int (td 3), .int (td 4), .int op, .int (td 5), .int (td 7)])), (a 1, .inl (cI, 10, .inl ct))] s.heap := hP
  have hD : va_D A [(a 0, .inr (2, [.ref (a 1), .int (td 6), .int (td 0), .int (td 1), .int (td 2), .int (td 3), .int (td 4), .int op, .int (td 5), .int (td 7)])), (a 1, .inl (cI, 10, .inl ct))] := hD
  refine lv_iconst (v := 0) hx hb dX2_reset_0 (by decide) ?_
  refine lv_istore_n (lv' := [(1, .int 0), (0, .ref (a 0))]) hx hb dX2_reset_1 rfl hl (by decide) rfl (fun ls hl => ?_)
  have loop2 : ∀ (k : Nat) (i : Nat) (ct' : Nat → Int32), 10 + 1 ≤ i + k → i ≤ 10 → (∀ j, j < i → ct' j = 0) → ∀ (H : Heap) (locs : List Loc), va_P D vwCl [(a 0, .inr (2, [.ref (a 1), .int (td 6), .int (td 0), .int (td 1), .int (td 2), .int (td 3), .int (td 4), .int op, .int (td 5), .int (td 7)])), (a 1, .inl (cI, 10, .inl ct'))] H → va_D A [(a 0, .inr (2, [.ref (a 1), .int (td 6), .int (td 0), .int (td 1), .int (td 2), .int (td 3), .int (td 4), .int op, .int (td 5), .int (td 7)])), (a 1, .inl (cI, 10, .inl ct'))] → va_S A s.heap H locs → ∀ (ls : Array Slot), lv_has ls 2 [(0, .ref (a 0)), (1, .int (nI i))] → W pg l e ({ frames := 1, cells := 0, slots := 0, locals := 23 } : Room) s m ([.ref (a 0)] : List Value).toArray below meth c H locs 0 0 (Qv D below ([.ref (a 0)] : List Value).toArray s A (S := Nat → Int32) (fun u => ∀ j, j < 10 → u j = 0) (fun u => wRp a cI u td0 0)) (F0 m 2 ls []) := by
    intro k
    induction k with
    | zero => intro i ct' hk hi hz; exact absurd hk (by omega)
    | succ k ih =>
      intro i ct' hk hi hz H locs hP hD hS ls hl
      refine lv_iload_n hx hb dX2_reset_2 rfl (lv_at hl 1 rfl) ?_
      refine lv_bipush (v := 9) hx hb dX2_reset_3 (by decide) ?_
      refine lv_icmp_gt (tgt := 21) hx hb dX2_reset_5 (by decide) (fun c_5 => ?_) (fun c_5 => ?_)
      · have c_5 : 9 < i := (nI_ltI (a := 9) (b := i) (by omega) (by omega)).mp c_5
        refine lv_aload_n hx hb dX2_reset_21 rfl (lv_at hl 0 rfl) ?_
        refine lv_iconst (v := 0) hx hb dX2_reset_22 (by decide) ?_
        refine va_put (D := D) (ci := 2) (v := .int 0) (ty := .int) (C := RX2) (T := TX2) (N := 10) hx hb hts inX2 tyX2 tyX2_ok nmX2 hown hK hP hD hS 0 rfl rfl 1 (by decide) fl22 (fun _ h9 => h9) rfl (by decide +kernel) rfl rfl (Nat.le_of_ble_eq_true rfl) dX2_reset_23 (fun H locs hP hD hS => ?_)
        have hP : va_P D vwCl [(a 0, .inr (2, [.ref (a 1), .int 0, .int (td 0), .int (td 1), .int (td 2), .int (td 3), .int (td 4), .int op, .int (td 5), .int (td 7)])), (a 1, .inl (cI, 10, .inl ct'))] H := hP
        have hD : va_D A [(a 0, .inr (2, [.ref (a 1), .int 0, .int (td 0), .int (td 1), .int (td 2), .int (td 3), .int (td 4), .int op, .int (td 5), .int (td 7)])), (a 1, .inl (cI, 10, .inl ct'))] := hD
        refine lv_aload_n hx hb dX2_reset_26 rfl (lv_at hl 0 rfl) ?_
        refine lv_iconst (v := 0) hx hb dX2_reset_27 (by decide) ?_
        refine lv_bipush (v := (-4)) hx hb dX2_reset_28 (by decide) ?_
        refine lv_bipush (v := (-4)) hx hb dX2_reset_30 (by decide) ?_
        refine cl_Vv ([]) ([]) (As := [.int 0, .int (-4), .int (-4)]) (rest := []) (c_X2_endAt l D cI a ct' (upd td 6 0) op 0 (-4) (-4)) ⟨hx, hb, hml, hown, hts⟩ (cwV 3 hts gX2_reset_X2_endAt rfl rfl rfl (by decide +kernel) ⟨Nat.le_of_ble_eq_true rfl, Nat.le_of_ble_eq_true rfl⟩) hK hns hP hD hS hA rfl (T := TX2) (N := 10) rfl rfl hl.1 rfl (Nat.le_of_ble_eq_true rfl) dX2_reset_32 ⟨Nat.zero_le _, Nat.zero_le _⟩ (fun u32 H locs hw32 hP hD hS => ?_)
        have hP : va_P D vwCl [(a 0, .inr (2, [.ref (a 1), .int 0, .int 0, .int (-4), .int (-4), .int (td 3), .int (td 4), .int op, .int (td 5), .int (td 7)])), (a 1, .inl (cI, 10, .inl ct'))] H := hP
        have hD : va_D A [(a 0, .inr (2, [.ref (a 1), .int 0, .int 0, .int (-4), .int (-4), .int (td 3), .int (td 4), .int op, .int (td 5), .int (td 7)])), (a 1, .inl (cI, 10, .inl ct'))] := hD
        refine lv_aload_n hx hb dX2_reset_35 rfl (lv_at hl 0 rfl) ?_
        refine lv_iconst (v := 0) hx hb dX2_reset_36 (by decide) ?_
        refine va_put (D := D) (ci := 2) (v := .int 0) (ty := .int) (C := RX2) (T := TX2) (N := 10) hx hb hts inX2 tyX2 tyX2_ok nmX2 hown hK hP hD hS 0 rfl rfl 5 (by decide) fl29 (fun _ h9 => h9) rfl (by decide +kernel) rfl rfl (Nat.le_of_ble_eq_true rfl) dX2_reset_37 (fun H locs hP hD hS => ?_)
        have hP : va_P D vwCl [(a 0, .inr (2, [.ref (a 1), .int 0, .int 0, .int (-4), .int (-4), .int 0, .int (td 4), .int op, .int (td 5), .int (td 7)])), (a 1, .inl (cI, 10, .inl ct'))] H := hP
        have hD : va_D A [(a 0, .inr (2, [.ref (a 1), .int 0, .int 0, .int (-4), .int (-4), .int 0, .int (td 4), .int op, .int (td 5), .int (td 7)])), (a 1, .inl (cI, 10, .inl ct'))] := hD
        refine lv_aload_n hx hb dX2_reset_40 rfl (lv_at hl 0 rfl) ?_
        refine lv_iconst (v := 0) hx hb dX2_reset_41 (by decide) ?_
        refine va_put (D := D) (ci := 2) (v := .int 0) (ty := .int) (C := RX2) (T := TX2) (N := 10) hx hb hts inX2 tyX2 tyX2_ok nmX2 hown hK hP hD hS 0 rfl rfl 6 (by decide) fl32 (fun _ h9 => h9) rfl (by decide +kernel) rfl rfl (Nat.le_of_ble_eq_true rfl) dX2_reset_42 (fun H locs hP hD hS => ?_)
        have hP : va_P D vwCl [(a 0, .inr (2, [.ref (a 1), .int 0, .int 0, .int (-4), .int (-4), .int 0, .int 0, .int op, .int (td 5), .int (td 7)])), (a 1, .inl (cI, 10, .inl ct'))] H := hP
        have hD : va_D A [(a 0, .inr (2, [.ref (a 1), .int 0, .int 0, .int (-4), .int (-4), .int 0, .int 0, .int op, .int (td 5), .int (td 7)])), (a 1, .inl (cI, 10, .inl ct'))] := hD
        refine lv_aload_n hx hb dX2_reset_45 rfl (lv_at hl 0 rfl) ?_
        refine lv_iconst (v := 0) hx hb dX2_reset_46 (by decide) ?_
        refine va_put (D := D) (ci := 2) (v := .int 0) (ty := .int) (C := RX2) (T := TX2) (N := 10) hx hb hts inX2 tyX2 tyX2_ok nmX2 hown hK hP hD hS 0 rfl rfl 7 (by decide) fl35 (fun _ h9 => h9) rfl (by decide +kernel) rfl rfl (Nat.le_of_ble_eq_true rfl) dX2_reset_47 (fun H locs hP hD hS => ?_)
        have hP : va_P D vwCl [(a 0, .inr (2, [.ref (a 1), .int 0, .int 0, .int (-4), .int (-4), .int 0, .int 0, .int 0, .int (td 5), .int (td 7)])), (a 1, .inl (cI, 10, .inl ct'))] H := hP
        have hD : va_D A [(a 0, .inr (2, [.ref (a 1), .int 0, .int 0, .int (-4), .int (-4), .int 0, .int 0, .int 0, .int (td 5), .int (td 7)])), (a 1, .inl (cI, 10, .inl ct'))] := hD
        refine lv_aload_n hx hb dX2_reset_50 rfl (lv_at hl 0 rfl) ?_
        refine lv_iconst (v := 0) hx hb dX2_reset_51 (by decide) ?_
        refine va_put (D := D) (ci := 2) (v := .int 0) (ty := .int) (C := RX2) (T := TX2) (N := 10) hx hb hts inX2 tyX2 tyX2_ok nmX2 hown hK hP hD hS 0 rfl rfl 8 (by decide) fl38 (fun _ h9 => h9) rfl (by decide +kernel) rfl rfl (Nat.le_of_ble_eq_true rfl) dX2_reset_52 (fun H locs hP hD hS => ?_)
        have hP : va_P D vwCl [(a 0, .inr (2, [.ref (a 1), .int 0, .int 0, .int (-4), .int (-4), .int 0, .int 0, .int 0, .int 0, .int (td 7)])), (a 1, .inl (cI, 10, .inl ct'))] H := hP
        have hD : va_D A [(a 0, .inr (2, [.ref (a 1), .int 0, .int 0, .int (-4), .int (-4), .int 0, .int 0, .int 0, .int 0, .int (td 7)])), (a 1, .inl (cI, 10, .inl ct'))] := hD
        refine lv_aload_n hx hb dX2_reset_55 rfl (lv_at hl 0 rfl) ?_
        refine lv_iconst (v := 0) hx hb dX2_reset_56 (by decide) ?_
        refine va_put (D := D) (ci := 2) (v := .int 0) (ty := .int) (C := RX2) (T := TX2) (N := 10) hx hb hts inX2 tyX2 tyX2_ok nmX2 hown hK hP hD hS 0 rfl rfl 9 (by decide) fl41 (fun _ h9 => h9) rfl (by decide +kernel) rfl rfl (Nat.le_of_ble_eq_true rfl) dX2_reset_57 (fun H locs hP hD hS => ?_)
        have hP : va_P D vwCl [(a 0, .inr (2, [.ref (a 1), .int 0, .int 0, .int (-4), .int (-4), .int 0, .int 0, .int 0, .int 0, .int 0])), (a 1, .inl (cI, 10, .inl ct'))] H := hP
        have hD : va_D A [(a 0, .inr (2, [.ref (a 1), .int 0, .int 0, .int (-4), .int (-4), .int 0, .int 0, .int 0, .int 0, .int 0])), (a 1, .inl (cI, 10, .inl ct'))] := hD
        exact Rv (D := D) ct' hx hb hr hlocks hP hD hS (fun j h => hz j (by omega)) dX2_reset_60
      · have c_5 : ¬ (9 < i) := fun h => c_5 ((nI_ltI (a := 9) (b := i) (by omega) (by omega)).mpr h)
        refine lv_aload_n hx hb dX2_reset_8 rfl (lv_at hl 0 rfl) ?_
        refine va_get (D := D) (ci := 2) (v := .ref (a 1)) (C := RX2) (T := TX2) (N := 10) hx hb hts inX2 hown hK hP 0 rfl rfl 0 (by decide) fl9 (fun _ h9 => h9) rfl dX2_reset_9 ?_
        refine lv_iload_n hx hb dX2_reset_12 rfl (lv_at hl 1 rfl) ?_
        refine lv_iconst (v := 0) hx hb dX2_reset_13 (by decide) ?_
        refine xi_ast hx hb hK hP hD hS 1 0 rfl rfl (k := i) (x := 0) (by omega) (by decide) dX2_reset_14 (fun H locs hP hD hS => ?_)
        have hP : va_P D vwCl [(a 0, .inr (2, [.ref (a 1), .int (td 6), .int (td 0), .int (td 1), .int (td 2), .int (td 3), .int (td 4), .int op, .int (td 5), .int (td 7)])), (a 1, .inl (cI, 10, .inl (upd ct' i 0)))] H := hP
        have hD : va_D A [(a 0, .inr (2, [.ref (a 1), .int (td 6), .int (td 0), .int (td 1), .int (td 2), .int (td 3), .int (td 4), .int op, .int (td 5), .int (td 7)])), (a 1, .inl (cI, 10, .inl (upd ct' i 0)))] := hD
        refine lv_iinc (v := (nI (i + 1))) (lv' := [(1, .int (nI (i + 1))), (0, .ref (a 0))]) hx hb dX2_reset_15 hl (k := 1) rfl (nI_1 i) (by decide) rfl (fun ls hl => ?_)
        refine lv_goto (tgt := 2) hx hb dX2_reset_18 (by decide) ?_
        exact ih (i + 1) (upd ct' i 0) (by omega) (by omega) (fun j h => by by_cases e : j = i <;> simp only [upd, e, if_true, if_false] <;> first | rfl | exact hz j (by omega)) _ _ hP hD hS ls (lv_sub hl [1, 0] rfl)
  exact loop2 11 0 ct (by omega) (by omega) (fun j h => absurd h (by omega)) _ _ hP hD hS ls (lv_sub hl [1, 0] rfl)

set_option maxHeartbeats 4000000 in
set_option maxRecDepth 100000 in
theorem c_X4_isPlan (l : Launch) (D : va_G) (x : Int32) : Ci l D [] yX4_isPlan wsX4_isPlan ({ frames := 0, cells := 0, slots := 0, locals := 0 }) [.int x] ([]) (S := Unit) (fun v _ => (v = 1 ∧ inN x 6) ∨ (v = 0 ∧ ¬ inN x 6)) (fun _ => []) := by
  refine Ci.mk (cc := cX4_isPlan) (maxL := 1) (ret := (some .boolean)) (by decide +kernel) rfl (Nat.le_of_ble_eq_true rfl) ?_
  intro pg e s m below meth c A ls hx hb hml hr hown hts hlocks hK hns hA hP hD hS hl
  have hl : lv_has ls 1 [(0, .int x)] := hl
  refine lv_iload_n hx hb dX4_isPlan_0 rfl (lv_at hl 0 rfl) ?_
  refine lv_if_lt (tgt := 14) hx hb dX4_isPlan_1 (by decide) (fun c_1 => ?_) (fun c_1 => ?_)
  · refine lv_iconst (v := 0) hx hb dX4_isPlan_14 (by decide) ?_
    exact Ri (D := D) () hx hb hr (by decide) hlocks hP hD hS (Or.inr ⟨rfl, fun h => inN_lo (by decide) h c_1⟩) dX4_isPlan_15
  · refine lv_iload_n hx hb dX4_isPlan_4 rfl (lv_at hl 0 rfl) ?_
    refine lv_bipush (v := 6) hx hb dX4_isPlan_5 (by decide) ?_
    refine lv_icmp_ge (tgt := 14) hx hb dX4_isPlan_7 (by decide) (fun c_7 => ?_) (fun c_7 => ?_)
    · refine lv_iconst (v := 0) hx hb dX4_isPlan_14 (by decide) ?_
      exact Ri (D := D) () hx hb hr (by decide) hlocks hP hD hS (Or.inr ⟨rfl, fun h => by have h2 := inN_hi (y := 6) (n := 6) (by decide) rfl h; have q1 : (6 : Int32).toInt = 6 := (by decide); rw [i_le] at c_7; rw [i_lt] at h2; omega⟩) dX4_isPlan_15
    · refine lv_iconst (v := 1) hx hb dX4_isPlan_10 (by decide) ?_
      refine lv_goto (tgt := 15) hx hb dX4_isPlan_11 (by decide) ?_
      exact Ri (D := D) () hx hb hr (by decide) hlocks hP hD hS (Or.inl ⟨rfl, inN_of (y := 6) (by decide) rfl c_1 (by have q1 : (6 : Int32).toInt = 6 := (by decide); rw [i_le] at c_7; rw [i_lt]; omega)⟩) dX4_isPlan_15

set_option maxHeartbeats 4000000 in
set_option maxRecDepth 100000 in
theorem c_X4_isShelf (l : Launch) (D : va_G) (x : Int32) : Ci l D [] yX4_isShelf wsX4_isShelf ({ frames := 0, cells := 0, slots := 0, locals := 0 }) [.int x] ([]) (S := Unit) (fun v _ => (v = 1 ∧ inN x 8) ∨ (v = 0 ∧ ¬ inN x 8)) (fun _ => []) := by
  refine Ci.mk (cc := cX4_isShelf) (maxL := 1) (ret := (some .boolean)) (by decide +kernel) rfl (Nat.le_of_ble_eq_true rfl) ?_
  intro pg e s m below meth c A ls hx hb hml hr hown hts hlocks hK hns hA hP hD hS hl
  have hl : lv_has ls 1 [(0, .int x)] := hl
  refine lv_iload_n hx hb dX4_isShelf_0 rfl (lv_at hl 0 rfl) ?_
  refine lv_if_lt (tgt := 14) hx hb dX4_isShelf_1 (by decide) (fun c_1 => ?_) (fun c_1 => ?_)
  · refine lv_iconst (v := 0) hx hb dX4_isShelf_14 (by decide) ?_
    exact Ri (D := D) () hx hb hr (by decide) hlocks hP hD hS (Or.inr ⟨rfl, fun h => inN_lo (by decide) h c_1⟩) dX4_isShelf_15
  · refine lv_iload_n hx hb dX4_isShelf_4 rfl (lv_at hl 0 rfl) ?_
    refine lv_bipush (v := 8) hx hb dX4_isShelf_5 (by decide) ?_
    refine lv_icmp_ge (tgt := 14) hx hb dX4_isShelf_7 (by decide) (fun c_7 => ?_) (fun c_7 => ?_)
    · refine lv_iconst (v := 0) hx hb dX4_isShelf_14 (by decide) ?_
      exact Ri (D := D) () hx hb hr (by decide) hlocks hP hD hS (Or.inr ⟨rfl, fun h => by have h2 := inN_hi (y := 8) (n := 8) (by decide) rfl h; have q1 : (8 : Int32).toInt = 8 := (by decide); rw [i_le] at c_7; rw [i_lt] at h2; omega⟩) dX4_isShelf_15
    · refine lv_iconst (v := 1) hx hb dX4_isShelf_10 (by decide) ?_
      refine lv_goto (tgt := 15) hx hb dX4_isShelf_11 (by decide) ?_
      exact Ri (D := D) () hx hb hr (by decide) hlocks hP hD hS (Or.inl ⟨rfl, inN_of (y := 8) (by decide) rfl c_1 (by have q1 : (8 : Int32).toInt = 8 := (by decide); rw [i_le] at c_7; rw [i_lt]; omega)⟩) dX4_isShelf_15

set_option maxHeartbeats 4000000 in
set_option maxRecDepth 100000 in
theorem c_X4_isDigit (l : Launch) (D : va_G) (x : Int32) : Ci l D [] yX4_isDigit wsX4_isDigit ({ frames := 0, cells := 0, slots := 0, locals := 0 }) [.int x] ([]) (S := Unit) (fun v _ => (v = 1 ∧ inN x 10) ∨ (v = 0 ∧ ¬ inN x 10)) (fun _ => []) := by
  refine Ci.mk (cc := cX4_isDigit) (maxL := 1) (ret := (some .boolean)) (by decide +kernel) rfl (Nat.le_of_ble_eq_true rfl) ?_
  intro pg e s m below meth c A ls hx hb hml hr hown hts hlocks hK hns hA hP hD hS hl
  have hl : lv_has ls 1 [(0, .int x)] := hl
  refine lv_iload_n hx hb dX4_isDigit_0 rfl (lv_at hl 0 rfl) ?_
  refine lv_if_lt (tgt := 14) hx hb dX4_isDigit_1 (by decide) (fun c_1 => ?_) (fun c_1 => ?_)
  · refine lv_iconst (v := 0) hx hb dX4_isDigit_14 (by decide) ?_
    exact Ri (D := D) () hx hb hr (by decide) hlocks hP hD hS (Or.inr ⟨rfl, fun h => inN_lo (by decide) h c_1⟩) dX4_isDigit_15
  · refine lv_iload_n hx hb dX4_isDigit_4 rfl (lv_at hl 0 rfl) ?_
    refine lv_bipush (v := 9) hx hb dX4_isDigit_5 (by decide) ?_
    refine lv_icmp_gt (tgt := 14) hx hb dX4_isDigit_7 (by decide) (fun c_7 => ?_) (fun c_7 => ?_)
    · refine lv_iconst (v := 0) hx hb dX4_isDigit_14 (by decide) ?_
      exact Ri (D := D) () hx hb hr (by decide) hlocks hP hD hS (Or.inr ⟨rfl, fun h => by have h2 := inN_hi (y := 10) (n := 10) (by decide) rfl h; have q1 : (10 : Int32).toInt = 10 := (by decide); have q2 : (9 : Int32).toInt = 9 := (by decide); rw [i_lt] at c_7; rw [i_lt] at h2; omega⟩) dX4_isDigit_15
    · refine lv_iconst (v := 1) hx hb dX4_isDigit_10 (by decide) ?_
      refine lv_goto (tgt := 15) hx hb dX4_isDigit_11 (by decide) ?_
      exact Ri (D := D) () hx hb hr (by decide) hlocks hP hD hS (Or.inl ⟨rfl, inN_of (y := 10) (by decide) rfl c_1 (by have q1 : (10 : Int32).toInt = 10 := (by decide); have q2 : (9 : Int32).toInt = 9 := (by decide); rw [i_lt] at c_7; rw [i_lt]; omega)⟩) dX4_isDigit_15

set_option maxHeartbeats 4000000 in
set_option maxRecDepth 100000 in
theorem c_X3_isThere (l : Launch) (D : va_G) (cI : ClassId) (a : Nat → Nat) (g lf h : Nat → Int32) (r : Int32) (th : Nat → Bool) (go : Nat → Nat) (hg : gok g th go) (x : Nat) (hx16 : x < 16) : Ci l D [(cI, .int)] yX3_isThere wsX3_isThere ({ frames := 1, cells := 0, slots := 0, locals := 20 }) [.ref (a 0), .int (nI x)] (wSt a cI g lf h r) (S := Unit) (fun v _ => (v = 1 ∧ x < 8 ∧ th x = true) ∨ (v = 0 ∧ ¬ (x < 8 ∧ th x = true))) (fun _ => wSt a cI g lf h r) := by
  refine Ci.mk (cc := cX3_isThere) (maxL := 2) (ret := (some .boolean)) (by decide +kernel) rfl (Nat.le_of_ble_eq_true rfl) ?_
  intro pg e s m below meth c A ls hx hb hml hr hown hts hlocks hK hns hA hP hD hS hl
  have hl : lv_has ls 2 [(0, .ref (a 0)), (1, .int (nI x))] := hl
  have fl9 := hts (.fieldLink RX3 9 "HeldShelves$Stock" "goods" "[I") (List.mem_of_getElem? (i := 1) rfl)
  have inX3 : ∀ w ∈ wsX30, w ∈ wsX3_isThere := fun _ h => List.mem_cons_of_mem _ (List.mem_append_right _ h)
  have hP : va_P D vwCl [(a 0, .inr (3, [.ref (a 1), .ref (a 2), .ref (a 3), .int r])), (a 1, .inl (cI, 8, .inl g)), (a 2, .inl (cI, 8, .inl lf)), (a 3, .inl (cI, 8, .inl h))] s.heap := hP
  have hD : va_D A [(a 0, .inr (3, [.ref (a 1), .ref (a 2), .ref (a 3), .int r])), (a 1, .inl (cI, 8, .inl g)), (a 2, .inl (cI, 8, .inl lf)), (a 3, .inl (cI, 8, .inl h))] := hD
  refine lv_iload_n hx hb dX3_isThere_0 rfl (lv_at hl 1 rfl) ?_
  refine cl_SNi (As := [.int (nI x)]) (rest := []) (c_X4_isShelf l D (nI x)) ⟨hx, hb, hml, hown, hts⟩ ⟨va_cnB 1 hts gX3_isThere_X4_isShelf_n21 rfl rfl rfl hns (hts (.initialized RX4) (by decide +kernel)) (by decide +kernel) ⟨Nat.le_of_ble_eq_true rfl, Nat.le_of_ble_eq_true rfl⟩, hts (.static yX4_isShelf) (by decide +kernel), trivial⟩ hK hns hP hD hS hA rfl hl.1 rfl (Nat.le_of_ble_eq_true rfl) dX3_isThere_1 ⟨Nat.zero_le _, Nat.zero_le _⟩ (fun r1 u1 H locs hw1 hP hD hS => ?_)
  rcases hw1 with ⟨rfl, hs1⟩ | ⟨rfl, hs1⟩
  · have hs1 : x < 8 := (inN_nI (by omega) (by omega)).mp hs1
    refine lv_if_eq (tgt := 21) hx hb dX3_isThere_4 (by decide) (fun c9 => absurd c9 (by decide)) (fun _ => ?_)
    refine lv_aload_n hx hb dX3_isThere_7 rfl (lv_at hl 0 rfl) ?_
    refine va_get (D := D) (ci := 3) (v := .ref (a 1)) (C := RX3) (T := TX3) (N := 4) hx hb hts inX3 hown hK hP 0 rfl rfl 0 (by decide) fl9 (fun _ h9 => h9) rfl dX3_isThere_8 ?_
    refine lv_iload_n hx hb dX3_isThere_11 rfl (lv_at hl 1 rfl) ?_
    refine xi_ald hx hb hK hP 1 0 rfl rfl (k := x) (by omega) (by decide) dX3_isThere_12 ?_
    refine tp (y := gI (th x) (go x)) ((hg x hs1).1) ?_
    refine lv_iconst (v := (-1)) hx hb dX3_isThere_13 (by decide) ?_
    refine lv_icmp_eq (tgt := 21) hx hb dX3_isThere_14 (by decide) (fun c_14 => ?_) (fun c_14 => ?_)
    · refine lv_iconst (v := 0) hx hb dX3_isThere_21 (by decide) ?_
      exact Ri (D := D) () hx hb hr (by decide) hlocks hP hD hS (Or.inr ⟨rfl, fun q => by have := (gI_ne (hg x hs1).2).mp c_14; rw [this] at q; exact absurd q.2 (by decide)⟩) dX3_isThere_22
    · refine lv_iconst (v := 1) hx hb dX3_isThere_17 (by decide) ?_
      refine lv_goto (tgt := 22) hx hb dX3_isThere_18 (by decide) ?_
      exact Ri (D := D) () hx hb hr (by decide) hlocks hP hD hS (Or.inl ⟨rfl, hs1, by have := (gI_ne (t := th x) (hg x hs1).2); exact Bool.of_not_eq_false (fun hq => c_14 (this.mpr hq))⟩) dX3_isThere_22
  · have hs1 : ¬ x < 8 := fun h => hs1 ((inN_nI (by omega) (by omega)).mpr h)
    refine lv_if_eq (tgt := 21) hx hb dX3_isThere_4 (by decide) (fun _ => ?_) (fun c9 => absurd (by decide) c9)
    refine lv_iconst (v := 0) hx hb dX3_isThere_21 (by decide) ?_
    exact Ri (D := D) () hx hb hr (by decide) hlocks hP hD hS (Or.inr ⟨rfl, fun q => hs1 q.1⟩) dX3_isThere_22

set_option maxHeartbeats 4000000 in
set_option maxRecDepth 100000 in
theorem c_X3_goodsOf (l : Launch) (D : va_G) (cI : ClassId) (a : Nat → Nat) (g lf h : Nat → Int32) (r : Int32) (th : Nat → Bool) (go : Nat → Nat) (hg : gok g th go) (x : Nat) (hx8 : x < 8) : Ci l D [(cI, .int)] yX3_goodsOf wsX3_goodsOf ({ frames := 2, cells := 0, slots := 0, locals := 41 }) [.ref (a 0), .int (nI x)] (wSt a cI g lf h r) (S := Unit) (fun v _ => v = (if th x then nI (go x) else 0)) (fun _ => wSt a cI g lf h r) := by
  refine Ci.mk (cc := cX3_goodsOf) (maxL := 2) (ret := (some .int)) (by decide +kernel) rfl (Nat.le_of_ble_eq_true rfl) ?_
  intro pg e s m below meth c A ls hx hb hml hr hown hts hlocks hK hns hA hP hD hS hl
  have hl : lv_has ls 2 [(0, .ref (a 0)), (1, .int (nI x))] := hl
  have fl9 := hts (.fieldLink RX3 9 "HeldShelves$Stock" "goods" "[I") (List.mem_of_getElem? (i := 1) rfl)
  have inX3 : ∀ w ∈ wsX30, w ∈ wsX3_goodsOf := fun _ h => List.mem_cons_of_mem _ (List.mem_append_right _ h)
  have hP : va_P D vwCl [(a 0, .inr (3, [.ref (a 1), .ref (a 2), .ref (a 3), .int r])), (a 1, .inl (cI, 8, .inl g)), (a 2, .inl (cI, 8, .inl lf)), (a 3, .inl (cI, 8, .inl h))] s.heap := hP
  have hD : va_D A [(a 0, .inr (3, [.ref (a 1), .ref (a 2), .ref (a 3), .int r])), (a 1, .inl (cI, 8, .inl g)), (a 2, .inl (cI, 8, .inl lf)), (a 3, .inl (cI, 8, .inl h))] := hD
  refine lv_aload_n hx hb dX3_goodsOf_0 rfl (lv_at hl 0 rfl) ?_
  refine lv_iload_n hx hb dX3_goodsOf_1 rfl (lv_at hl 1 rfl) ?_
  refine cl_Vi ([]) ([]) (As := [.int (nI x)]) (rest := []) (c_X3_isThere l D cI a g lf h r th go hg x (by omega)) ⟨hx, hb, hml, hown, hts⟩ (cwV 1 hts gX3_goodsOf_X3_isThere rfl rfl rfl (by decide +kernel) ⟨Nat.le_of_ble_eq_true rfl, Nat.le_of_ble_eq_true rfl⟩) hK hns hP hD hS hA rfl (T := TX3) (N := 4) rfl rfl hl.1 rfl (Nat.le_of_ble_eq_true rfl) dX3_goodsOf_2 ⟨Nat.zero_le _, Nat.zero_le _⟩ (fun r2 u2 H locs hw2 hP hD hS => ?_)
  have hP : va_P D vwCl [(a 0, .inr (3, [.ref (a 1), .ref (a 2), .ref (a 3), .int r])), (a 1, .inl (cI, 8, .inl g)), (a 2, .inl (cI, 8, .inl lf)), (a 3, .inl (cI, 8, .inl h))] H := hP
  have hD : va_D A [(a 0, .inr (3, [.ref (a 1), .ref (a 2), .ref (a 3), .int r])), (a 1, .inl (cI, 8, .inl g)), (a 2, .inl (cI, 8, .inl lf)), (a 3, .inl (cI, 8, .inl h))] := hD
  rcases hw2 with ⟨rfl, ht2⟩ | ⟨rfl, ht2⟩
  · refine lv_if_eq (tgt := 17) hx hb dX3_goodsOf_5 (by decide) (fun c9 => absurd c9 (by decide)) (fun _ => ?_)
    refine lv_aload_n hx hb dX3_goodsOf_8 rfl (lv_at hl 0 rfl) ?_
    refine va_get (D := D) (ci := 3) (v := .ref (a 1)) (C := RX3) (T := TX3) (N := 4) hx hb hts inX3 hown hK hP 0 rfl rfl 0 (by decide) fl9 (fun _ h9 => h9) rfl dX3_goodsOf_9 ?_
    refine lv_iload_n hx hb dX3_goodsOf_12 rfl (lv_at hl 1 rfl) ?_
    refine xi_ald hx hb hK hP 1 0 rfl rfl (k := x) (by omega) (by decide) dX3_goodsOf_13 ?_
    refine lv_goto (tgt := 18) hx hb dX3_goodsOf_14 (by decide) ?_
    exact Ri (D := D) () hx hb hr rfl hlocks hP hD hS (by rw [ht2.2, if_pos rfl]; exact gok_v hg ht2.1 ht2.2) dX3_goodsOf_18
  · refine lv_if_eq (tgt := 17) hx hb dX3_goodsOf_5 (by decide) (fun _ => ?_) (fun c9 => absurd (by decide) c9)
    refine lv_iconst (v := 0) hx hb dX3_goodsOf_17 (by decide) ?_
    exact Ri (D := D) () hx hb hr rfl hlocks hP hD hS (by rw [if_neg (fun q => ht2 ⟨hx8, q⟩)]) dX3_goodsOf_18

set_option maxHeartbeats 4000000 in
set_option maxRecDepth 100000 in
theorem c_X3_leftOf (l : Launch) (D : va_G) (cI : ClassId) (a : Nat → Nat) (g lf h : Nat → Int32) (r : Int32) (th : Nat → Bool) (go : Nat → Nat) (hg : gok g th go) (x : Nat) (hx8 : x < 8) : Ci l D [(cI, .int)] yX3_leftOf wsX3_leftOf ({ frames := 2, cells := 0, slots := 0, locals := 41 }) [.ref (a 0), .int (nI x)] (wSt a cI g lf h r) (S := Unit) (fun v _ => v = (if th x then lf x else 0)) (fun _ => wSt a cI g lf h r) := by
  refine Ci.mk (cc := cX3_leftOf) (maxL := 2) (ret := (some .int)) (by decide +kernel) rfl (Nat.le_of_ble_eq_true rfl) ?_
  intro pg e s m below meth c A ls hx hb hml hr hown hts hlocks hK hns hA hP hD hS hl
  have hl : lv_has ls 2 [(0, .ref (a 0)), (1, .int (nI x))] := hl
  have fl15 := hts (.fieldLink RX3 15 "HeldShelves$Stock" "left" "[I") (List.mem_of_getElem? (i := 1) rfl)
  have inX3 : ∀ w ∈ wsX30, w ∈ wsX3_leftOf := fun _ h => List.mem_cons_of_mem _ (List.mem_append_right _ h)
  have hP : va_P D vwCl [(a 0, .inr (3, [.ref (a 1), .ref (a 2), .ref (a 3), .int r])), (a 1, .inl (cI, 8, .inl g)), (a 2, .inl (cI, 8, .inl lf)), (a 3, .inl (cI, 8, .inl h))] s.heap := hP
  have hD : va_D A [(a 0, .inr (3, [.ref (a 1), .ref (a 2), .ref (a 3), .int r])), (a 1, .inl (cI, 8, .inl g)), (a 2, .inl (cI, 8, .inl lf)), (a 3, .inl (cI, 8, .inl h))] := hD
  refine lv_aload_n hx hb dX3_leftOf_0 rfl (lv_at hl 0 rfl) ?_
  refine lv_iload_n hx hb dX3_leftOf_1 rfl (lv_at hl 1 rfl) ?_
  refine cl_Vi ([]) ([]) (As := [.int (nI x)]) (rest := []) (c_X3_isThere l D cI a g lf h r th go hg x (by omega)) ⟨hx, hb, hml, hown, hts⟩ (cwV 1 hts gX3_leftOf_X3_isThere rfl rfl rfl (by decide +kernel) ⟨Nat.le_of_ble_eq_true rfl, Nat.le_of_ble_eq_true rfl⟩) hK hns hP hD hS hA rfl (T := TX3) (N := 4) rfl rfl hl.1 rfl (Nat.le_of_ble_eq_true rfl) dX3_leftOf_2 ⟨Nat.zero_le _, Nat.zero_le _⟩ (fun r2 u2 H locs hw2 hP hD hS => ?_)
  have hP : va_P D vwCl [(a 0, .inr (3, [.ref (a 1), .ref (a 2), .ref (a 3), .int r])), (a 1, .inl (cI, 8, .inl g)), (a 2, .inl (cI, 8, .inl lf)), (a 3, .inl (cI, 8, .inl h))] H := hP
  have hD : va_D A [(a 0, .inr (3, [.ref (a 1), .ref (a 2), .ref (a 3), .int r])), (a 1, .inl (cI, 8, .inl g)), (a 2, .inl (cI, 8, .inl lf)), (a 3, .inl (cI, 8, .inl h))] := hD
  rcases hw2 with ⟨rfl, ht2⟩ | ⟨rfl, ht2⟩
  · refine lv_if_eq (tgt := 17) hx hb dX3_leftOf_5 (by decide) (fun c9 => absurd c9 (by decide)) (fun _ => ?_)
    refine lv_aload_n hx hb dX3_leftOf_8 rfl (lv_at hl 0 rfl) ?_
    refine va_get (D := D) (ci := 3) (v := .ref (a 2)) (C := RX3) (T := TX3) (N := 4) hx hb hts inX3 hown hK hP 0 rfl rfl 1 (by decide) fl15 (fun _ h9 => h9) rfl dX3_leftOf_9 ?_
    refine lv_iload_n hx hb dX3_leftOf_12 rfl (lv_at hl 1 rfl) ?_
    refine xi_ald hx hb hK hP 2 0 rfl rfl (k := x) (by omega) (by decide) dX3_leftOf_13 ?_
    refine lv_goto (tgt := 18) hx hb dX3_leftOf_14 (by decide) ?_
    exact Ri (D := D) () hx hb hr rfl hlocks hP hD hS (by rw [ht2.2, if_pos rfl]) dX3_leftOf_18
  · refine lv_if_eq (tgt := 17) hx hb dX3_leftOf_5 (by decide) (fun _ => ?_) (fun c9 => absurd (by decide) c9)
    refine lv_iconst (v := 0) hx hb dX3_leftOf_17 (by decide) ?_
    exact Ri (D := D) () hx hb hr rfl hlocks hP hD hS (by rw [if_neg (fun q => ht2 ⟨hx8, q⟩)]) dX3_leftOf_18

set_option maxHeartbeats 4000000 in
set_option maxRecDepth 100000 in
theorem c_X3_replace (l : Launch) (D : va_G) (cI : ClassId) (a : Nat → Nat) (g lf h : Nat → Int32) (r : Int32) (th : Nat → Bool) (go : Nat → Nat) (hg : gok g th go) (x : Nat) (hx8 : x < 8) (y : Int32) : Ci l D [(cI, .int)] yX3_replace wsX3_replace ({ frames := 2, cells := 0, slots := 0, locals := 41 }) [.ref (a 0), .int (nI x), .int y] (wSt a cI g lf h r) (S := Unit) (fun v _ => v = (if th x then nI (go x) else -4)) (fun _ => wSt a cI (upd g x y) (upd lf x 0) h r) := by
  refine Ci.mk (cc := cX3_replace) (maxL := 4) (ret := (some .int)) (by decide +kernel) rfl (Nat.le_of_ble_eq_true rfl) ?_
  intro pg e s m below meth c A ls hx hb hml hr hown hts hlocks hK hns hA hP hD hS hl
  have hl : lv_has ls 4 [(0, .ref (a 0)), (1, .int (nI x)), (2, .int y)] := hl
  have fl9 := hts (.fieldLink RX3 9 "HeldShelves$Stock" "goods" "[I") (List.mem_of_getElem? (i := 1) rfl)
  have inX3 : ∀ w ∈ wsX30, w ∈ wsX3_replace := fun _ h => List.mem_cons_of_mem _ (List.mem_append_right _ h)
  have fl15 := hts (.fieldLink RX3 15 "HeldShelves$Stock" "left" "[I") (List.mem_of_getElem? (i := 2) rfl)
  have hP : va_P D vwCl [(a 0, .inr (3, [.ref (a 1), .ref (a 2), .ref (a 3), .int r])), (a 1, .inl (cI, 8, .inl g)), (a 2, .inl (cI, 8, .inl lf)), (a 3, .inl (cI, 8, .inl h))] s.heap := hP
  have hD : va_D A [(a 0, .inr (3, [.ref (a 1), .ref (a 2), .ref (a 3), .int r])), (a 1, .inl (cI, 8, .inl g)), (a 2, .inl (cI, 8, .inl lf)), (a 3, .inl (cI, 8, .inl h))] := hD
  refine lv_iload_n hx hb dX3_replace_0 rfl (lv_at hl 1 rfl) ?_
  refine cl_SNi (As := [.int (nI x)]) (rest := []) (c_X4_isShelf l D (nI x)) ⟨hx, hb, hml, hown, hts⟩ ⟨va_cnB 1 hts gX3_replace_X4_isShelf_n21 rfl rfl rfl hns (hts (.initialized RX4) (by decide +kernel)) (by decide +kernel) ⟨Nat.le_of_ble_eq_true rfl, Nat.le_of_ble_eq_true rfl⟩, hts (.static yX4_isShelf) (by decide +kernel), trivial⟩ hK hns hP hD hS hA rfl hl.1 rfl (Nat.le_of_ble_eq_true rfl) dX3_replace_1 ⟨Nat.zero_le _, Nat.zero_le _⟩ (fun r1 u1 H locs hw1 hP hD hS => ?_)
  rcases hw1 with ⟨rfl, hs1⟩ | ⟨rfl, hs1⟩
  · have hs1 : x < 8 := (inN_nI (by omega) (by omega)).mp hs1
    refine lv_if_ne (tgt := 9) hx hb dX3_replace_4 (by decide) (fun _ => ?_) (fun c9 => absurd c9 (by decide))
    refine lv_aload_n hx hb dX3_replace_9 rfl (lv_at hl 0 rfl) ?_
    refine lv_iload_n hx hb dX3_replace_10 rfl (lv_at hl 1 rfl) ?_
    refine cl_Vi ([]) ([]) (As := [.int (nI x)]) (rest := []) (c_X3_isThere l D cI a g lf h r th go hg x (by omega)) ⟨hx, hb, hml, hown, hts⟩ (cwV 1 hts gX3_replace_X3_isThere rfl rfl rfl (by decide +kernel) ⟨Nat.le_of_ble_eq_true rfl, Nat.le_of_ble_eq_true rfl⟩) hK hns hP hD hS hA rfl (T := TX3) (N := 4) rfl rfl hl.1 rfl (Nat.le_of_ble_eq_true rfl) dX3_replace_11 ⟨Nat.zero_le _, Nat.zero_le _⟩ (fun r11 u11 H locs hw11 hP hD hS => ?_)
    have hP : va_P D vwCl [(a 0, .inr (3, [.ref (a 1), .ref (a 2), .ref (a 3), .int r])), (a 1, .inl (cI, 8, .inl g)), (a 2, .inl (cI, 8, .inl lf)), (a 3, .inl (cI, 8, .inl h))] H := hP
    have hD : va_D A [(a 0, .inr (3, [.ref (a 1), .ref (a 2), .ref (a 3), .int r])), (a 1, .inl (cI, 8, .inl g)), (a 2, .inl (cI, 8, .inl lf)), (a 3, .inl (cI, 8, .inl h))] := hD
    rcases hw11 with ⟨rfl, ht11⟩ | ⟨rfl, ht11⟩
    · refine lv_if_eq (tgt := 26) hx hb dX3_replace_14 (by decide) (fun c9 => absurd c9 (by decide)) (fun _ => ?_)
      refine lv_aload_n hx hb dX3_replace_17 rfl (lv_at hl 0 rfl) ?_
      refine va_get (D := D) (ci := 3) (v := .ref (a 1)) (C := RX3) (T := TX3) (N := 4) hx hb hts inX3 hown hK hP 0 rfl rfl 0 (by decide) fl9 (fun _ h9 => h9) rfl dX3_replace_18 ?_
      refine lv_iload_n hx hb dX3_replace_21 rfl (lv_at hl 1 rfl) ?_
      refine xi_ald hx hb hK hP 1 0 rfl rfl (k := x) (by omega) (by decide) dX3_replace_22 ?_
      refine lv_goto (tgt := 28) hx hb dX3_replace_23 (by decide) ?_
      refine lv_istore_n (lv' := [(3, .int (g x)), (0, .ref (a 0)), (1, .int (nI x)), (2, .int y)]) hx hb dX3_replace_28 rfl hl (by decide) rfl (fun ls hl => ?_)
      refine lv_aload_n hx hb dX3_replace_29 rfl (lv_at hl 1 rfl) ?_
      refine va_get (D := D) (ci := 3) (v := .ref (a 1)) (C := RX3) (T := TX3) (N := 4) hx hb hts inX3 hown hK hP 0 rfl rfl 0 (by decide) fl9 (fun _ h9 => h9) rfl dX3_replace_30 ?_
      refine lv_iload_n hx hb dX3_replace_33 rfl (lv_at hl 2 rfl) ?_
      refine lv_iload_n hx hb dX3_replace_34 rfl (lv_at hl 3 rfl) ?_
      refine xi_ast hx hb hK hP hD hS 1 0 rfl rfl (k := x) (x := y) (by omega) (by decide) dX3_replace_35 (fun H locs hP hD hS => ?_)
      have hP : va_P D vwCl [(a 0, .inr (3, [.ref (a 1), .ref (a 2), .ref (a 3), .int r])), (a 1, .inl (cI, 8, .inl (upd g x y))), (a 2, .inl (cI, 8, .inl lf)), (a 3, .inl (cI, 8, .inl h))] H := hP
      have hD : va_D A [(a 0, .inr (3, [.ref (a 1), .ref (a 2), .ref (a 3), .int r])), (a 1, .inl (cI, 8, .inl (upd g x y))), (a 2, .inl (cI, 8, .inl lf)), (a 3, .inl (cI, 8, .inl h))] := hD
      refine lv_aload_n hx hb dX3_replace_36 rfl (lv_at hl 1 rfl) ?_
      refine va_get (D := D) (ci := 3) (v := .ref (a 2)) (C := RX3) (T := TX3) (N := 4) hx hb hts inX3 hown hK hP 0 rfl rfl 1 (by decide) fl15 (fun _ h9 => h9) rfl dX3_replace_37 ?_
      refine lv_iload_n hx hb dX3_replace_40 rfl (lv_at hl 2 rfl) ?_
      refine lv_iconst (v := 0) hx hb dX3_replace_41 (by decide) ?_
      refine xi_ast hx hb hK hP hD hS 2 0 rfl rfl (k := x) (x := 0) (by omega) (by decide) dX3_replace_42 (fun H locs hP hD hS => ?_)
      have hP : va_P D vwCl [(a 0, .inr (3, [.ref (a 1), .ref (a 2), .ref (a 3), .int r])), (a 1, .inl (cI, 8, .inl (upd g x y))), (a 2, .inl (cI, 8, .inl (upd lf x 0))), (a 3, .inl (cI, 8, .inl h))] H := hP
      have hD : va_D A [(a 0, .inr (3, [.ref (a 1), .ref (a 2), .ref (a 3), .int r])), (a 1, .inl (cI, 8, .inl (upd g x y))), (a 2, .inl (cI, 8, .inl (upd lf x 0))), (a 3, .inl (cI, 8, .inl h))] := hD
      refine lv_iload_n hx hb dX3_replace_43 rfl (lv_at hl 0 rfl) ?_
      exact Ri (D := D) () hx hb hr rfl hlocks hP hD hS (by rw [ht11.2, if_pos rfl]; exact gok_v hg ht11.1 ht11.2) dX3_replace_44
    · refine lv_if_eq (tgt := 26) hx hb dX3_replace_14 (by decide) (fun _ => ?_) (fun c9 => absurd (by decide) c9)
      refine lv_bipush (v := (-4)) hx hb dX3_replace_26 (by decide) ?_
      refine lv_istore_n (lv' := [(3, .int (-4)), (0, .ref (a 0)), (1, .int (nI x)), (2, .int y)]) hx hb dX3_replace_28 rfl hl (by decide) rfl (fun ls hl => ?_)
      refine lv_aload_n hx hb dX3_replace_29 rfl (lv_at hl 1 rfl) ?_
      refine va_get (D := D) (ci := 3) (v := .ref (a 1)) (C := RX3) (T := TX3) (N := 4) hx hb hts inX3 hown hK hP 0 rfl rfl 0 (by decide) fl9 (fun _ h9 => h9) rfl dX3_replace_30 ?_
      refine lv_iload_n hx hb dX3_replace_33 rfl (lv_at hl 2 rfl) ?_
      refine lv_iload_n hx hb dX3_replace_34 rfl (lv_at hl 3 rfl) ?_
      refine xi_ast hx hb hK hP hD hS 1 0 rfl rfl (k := x) (x := y) (by omega) (by decide) dX3_replace_35 (fun H locs hP hD hS => ?_)
      have hP : va_P D vwCl [(a 0, .inr (3, [.ref (a 1), .ref (a 2), .ref (a 3), .int r])), (a 1, .inl (cI, 8, .inl (upd g x y))), (a 2, .inl (cI, 8, .inl lf)), (a 3, .inl (cI, 8, .inl h))] H := hP
      have hD : va_D A [(a 0, .inr (3, [.ref (a 1), .ref (a 2), .ref (a 3), .int r])), (a 1, .inl (cI, 8, .inl (upd g x y))), (a 2, .inl (cI, 8, .inl lf)), (a 3, .inl (cI, 8, .inl h))] := hD
      refine lv_aload_n hx hb dX3_replace_36 rfl (lv_at hl 1 rfl) ?_
      refine va_get (D := D) (ci := 3) (v := .ref (a 2)) (C := RX3) (T := TX3) (N := 4) hx hb hts inX3 hown hK hP 0 rfl rfl 1 (by decide) fl15 (fun _ h9 => h9) rfl dX3_replace_37 ?_
      refine lv_iload_n hx hb dX3_replace_40 rfl (lv_at hl 2 rfl) ?_
      refine lv_iconst (v := 0) hx hb dX3_replace_41 (by decide) ?_
      refine xi_ast hx hb hK hP hD hS 2 0 rfl rfl (k := x) (x := 0) (by omega) (by decide) dX3_replace_42 (fun H locs hP hD hS => ?_)
      have hP : va_P D vwCl [(a 0, .inr (3, [.ref (a 1), .ref (a 2), .ref (a 3), .int r])), (a 1, .inl (cI, 8, .inl (upd g x y))), (a 2, .inl (cI, 8, .inl (upd lf x 0))), (a 3, .inl (cI, 8, .inl h))] H := hP
      have hD : va_D A [(a 0, .inr (3, [.ref (a 1), .ref (a 2), .ref (a 3), .int r])), (a 1, .inl (cI, 8, .inl (upd g x y))), (a 2, .inl (cI, 8, .inl (upd lf x 0))), (a 3, .inl (cI, 8, .inl h))] := hD
      refine lv_iload_n hx hb dX3_replace_43 rfl (lv_at hl 0 rfl) ?_
      exact Ri (D := D) () hx hb hr rfl hlocks hP hD hS (by rw [if_neg (fun q => ht11 ⟨hx8, q⟩)]) dX3_replace_44
  · have hs1 : ¬ x < 8 := fun h => hs1 ((inN_nI (by omega) (by omega)).mpr h)
    refine lv_if_ne (tgt := 9) hx hb dX3_replace_4 (by decide) (fun c9 => absurd rfl c9) (fun _ => ?_)
    exact absurd hx8 hs1

set_option maxHeartbeats 4000000 in
set_option maxRecDepth 100000 in
theorem c_X3_firstWith (l : Launch) (D : va_G) (cI : ClassId) (a : Nat → Nat) (g lf h : Nat → Int32) (r : Int32) (th : Nat → Bool) (go : Nat → Nat) (hg : gok g th go) (y : Int32) : Ci l D [(cI, .int)] yX3_firstWith wsX3_firstWith ({ frames := 2, cells := 0, slots := 0, locals := 41 }) [.ref (a 0), .int y] (wSt a cI g lf h r) (S := Unit) (fun v _ => v = fwd th go y 8) (fun _ => wSt a cI g lf h r) := by
  refine Ci.mk (cc := cX3_firstWith) (maxL := 3) (ret := (some .int)) (by decide +kernel) rfl (Nat.le_of_ble_eq_true rfl) ?_
  intro pg e s m below meth c A ls hx hb hml hr hown hts hlocks hK hns hA hP hD hS hl
  have hl : lv_has ls 3 [(0, .ref (a 0)), (1, .int y)] := hl
  have fl9 := hts (.fieldLink RX3 9 "HeldShelves$Stock" "goods" "[I") (List.mem_of_getElem? (i := 1) rfl)
  have inX3 : ∀ w ∈ wsX30, w ∈ wsX3_firstWith := fun _ h => List.mem_cons_of_mem _ (List.mem_append_right _ h)
  have hP : va_P D vwCl [(a 0, .inr (3, [.ref (a 1), .ref (a 2), .ref (a 3), .int r])), (a 1, .inl (cI, 8, .inl g)), (a 2, .inl (cI, 8, .inl lf)), (a 3, .inl (cI, 8, .inl h))] s.heap := hP
  have hD : va_D A [(a 0, .inr (3, [.ref (a 1), .ref (a 2), .ref (a 3), .int r])), (a 1, .inl (cI, 8, .inl g)), (a 2, .inl (cI, 8, .inl lf)), (a 3, .inl (cI, 8, .inl h))] := hD
  refine lv_iconst (v := 0) hx hb dX3_firstWith_0 (by decide) ?_
  refine lv_istore_n (lv' := [(2, .int 0), (0, .ref (a 0)), (1, .int y)]) hx hb dX3_firstWith_1 rfl hl (by decide) rfl (fun ls hl => ?_)
  have loop2 : ∀ (k : Nat) (i : Nat), 9 ≤ i + k → i ≤ 8 → fwd th go y 8 = fwd th go y (8 - i) → ∀ (H : Heap) (locs : List Loc), va_P D vwCl [(a 0, .inr (3, [.ref (a 1), .ref (a 2), .ref (a 3), .int r])), (a 1, .inl (cI, 8, .inl g)), (a 2, .inl (cI, 8, .inl lf)), (a 3, .inl (cI, 8, .inl h))] H → va_D A [(a 0, .inr (3, [.ref (a 1), .ref (a 2), .ref (a 3), .int r])), (a 1, .inl (cI, 8, .inl g)), (a 2, .inl (cI, 8, .inl lf)), (a 3, .inl (cI, 8, .inl h))] → va_S A s.heap H locs → ∀ (ls : Array Slot), lv_has ls 3 [(0, .ref (a 0)), (1, .int y), (2, .int (nI i))] → W pg l e ({ frames := 2, cells := 0, slots := 0, locals := 41 } : Room) s m ([.ref (a 0), .int y] : List Value).toArray below meth c H locs 0 0 (Qi D below ([.ref (a 0), .int y] : List Value).toArray s A (S := Unit) (fun v _ => v = fwd th go y 8) (fun _ => wSt a cI g lf h r)) (F0 m 2 ls []) := by
    intro k
    induction k with
    | zero => intro i hk hi hv; exact absurd hk (by omega)
    | succ k ih =>
      intro i hk hi hv H locs hP hD hS ls hl
      refine lv_iload_n hx hb dX3_firstWith_2 rfl (lv_at hl 2 rfl) ?_
      refine lv_bipush (v := 8) hx hb dX3_firstWith_3 (by decide) ?_
      refine lv_icmp_ge (tgt := 34) hx hb dX3_firstWith_5 (by decide) (fun c_5 => ?_) (fun c_5 => ?_)
      · have c_5 : 8 ≤ i := (nI_leI (a := 8) (b := i) (by omega) (by omega)).mp c_5
        refine lv_bipush (v := (-4)) hx hb dX3_firstWith_34 (by decide) ?_
        exact Ri (D := D) () hx hb hr rfl hlocks hP hD hS (by rw [hv, show 8 - i = 0 by omega]; rfl) dX3_firstWith_36
      · have c_5 : ¬ (8 ≤ i) := fun h => c_5 ((nI_leI (a := 8) (b := i) (by omega) (by omega)).mpr h)
        refine lv_aload_n hx hb dX3_firstWith_8 rfl (lv_at hl 0 rfl) ?_
        refine lv_iload_n hx hb dX3_firstWith_9 rfl (lv_at hl 2 rfl) ?_
        refine cl_Vi ([]) ([]) (As := [.int (nI i)]) (rest := []) (c_X3_isThere l D cI a g lf h r th go hg i (by omega)) ⟨hx, hb, hml, hown, hts⟩ (cwV 1 hts gX3_firstWith_X3_isThere rfl rfl rfl (by decide +kernel) ⟨Nat.le_of_ble_eq_true rfl, Nat.le_of_ble_eq_true rfl⟩) hK hns hP hD hS hA rfl (T := TX3) (N := 4) rfl rfl hl.1 rfl (Nat.le_of_ble_eq_true rfl) dX3_firstWith_10 ⟨Nat.zero_le _, Nat.zero_le _⟩ (fun r10 u10 H locs hw10 hP hD hS => ?_)
        have hP : va_P D vwCl [(a 0, .inr (3, [.ref (a 1), .ref (a 2), .ref (a 3), .int r])), (a 1, .inl (cI, 8, .inl g)), (a 2, .inl (cI, 8, .inl lf)), (a 3, .inl (cI, 8, .inl h))] H := hP
        have hD : va_D A [(a 0, .inr (3, [.ref (a 1), .ref (a 2), .ref (a 3), .int r])), (a 1, .inl (cI, 8, .inl g)), (a 2, .inl (cI, 8, .inl lf)), (a 3, .inl (cI, 8, .inl h))] := hD
        rcases hw10 with ⟨rfl, ht10⟩ | ⟨rfl, ht10⟩
        · refine lv_if_eq (tgt := 28) hx hb dX3_firstWith_13 (by decide) (fun c9 => absurd c9 (by decide)) (fun _ => ?_)
          refine lv_aload_n hx hb dX3_firstWith_16 rfl (lv_at hl 0 rfl) ?_
          refine va_get (D := D) (ci := 3) (v := .ref (a 1)) (C := RX3) (T := TX3) (N := 4) hx hb hts inX3 hown hK hP 0 rfl rfl 0 (by decide) fl9 (fun _ h9 => h9) rfl dX3_firstWith_17 ?_
          refine lv_iload_n hx hb dX3_firstWith_20 rfl (lv_at hl 2 rfl) ?_
          refine xi_ald hx hb hK hP 1 0 rfl rfl (k := i) (by omega) (by decide) dX3_firstWith_21 ?_
          refine tp (y := nI (go i)) (gok_v hg ht10.1 ht10.2) ?_
          refine lv_iload_n hx hb dX3_firstWith_22 rfl (lv_at hl 1 rfl) ?_
          refine lv_icmp_lt (tgt := 28) hx hb dX3_firstWith_23 (by decide) (fun c_23 => ?_) (fun c_23 => ?_)
          · refine lv_iinc (v := (nI (i + 1))) (lv' := [(2, .int (nI (i + 1))), (0, .ref (a 0)), (1, .int y)]) hx hb dX3_firstWith_28 hl (k := 2) rfl (nI_1 i) (by decide) rfl (fun ls hl => ?_)
            refine lv_goto (tgt := 2) hx hb dX3_firstWith_31 (by decide) ?_
            exact ih (i + 1) (by omega) (by omega) (hv.trans (fwd_no (by omega) (fun q => absurd c_23 (Int32.not_lt.mpr q.2)))) _ _ hP hD hS ls (lv_sub hl [1, 2, 0] rfl)
          · refine lv_iload_n hx hb dX3_firstWith_26 rfl (lv_at hl 2 rfl) ?_
            exact Ri (D := D) () hx hb hr rfl hlocks hP hD hS (by rw [hv]; exact (fwd_yes (by omega) ht10.2 (Int32.not_lt.mp c_23)).symm) dX3_firstWith_27
        · refine lv_if_eq (tgt := 28) hx hb dX3_firstWith_13 (by decide) (fun _ => ?_) (fun c9 => absurd (by decide) c9)
          refine lv_iinc (v := (nI (i + 1))) (lv' := [(2, .int (nI (i + 1))), (0, .ref (a 0)), (1, .int y)]) hx hb dX3_firstWith_28 hl (k := 2) rfl (nI_1 i) (by decide) rfl (fun ls hl => ?_)
          refine lv_goto (tgt := 2) hx hb dX3_firstWith_31 (by decide) ?_
          exact ih (i + 1) (by omega) (by omega) (hv.trans (fwd_no (by omega) (fun q => ht10 ⟨by omega, q.1⟩))) _ _ hP hD hS ls (lv_sub hl [1, 2, 0] rfl)
  exact loop2 9 0 (by omega) (by omega) rfl _ _ hP hD hS ls (lv_sub hl [1, 2, 0] rfl)

set_option maxHeartbeats 4000000 in
set_option maxRecDepth 100000 in
theorem c_X3_rowUpTo (l : Launch) (D : va_G) (cI : ClassId) (a : Nat → Nat) (g lf h : Nat → Int32) (r : Int32) (th : Nat → Bool) (go : Nat → Nat) (hg : gok g th go) (y : Int32) : Ci l D [(cI, .int)] yX3_rowUpTo wsX3_rowUpTo ({ frames := 2, cells := 0, slots := 0, locals := 41 }) [.ref (a 0), .int y] (wSt a cI g lf h r) (S := Unit) (fun v _ => v = rwd th go y 8) (fun _ => wSt a cI g lf h r) := by
  refine Ci.mk (cc := cX3_rowUpTo) (maxL := 3) (ret := (some .int)) (by decide +kernel) rfl (Nat.le_of_ble_eq_true rfl) ?_
  intro pg e s m below meth c A ls hx hb hml hr hown hts hlocks hK hns hA hP hD hS hl
  have hl : lv_has ls 3 [(0, .ref (a 0)), (1, .int y)] := hl
  have fl9 := hts (.fieldLink RX3 9 "HeldShelves$Stock" "goods" "[I") (List.mem_of_getElem? (i := 1) rfl)
  have inX3 : ∀ w ∈ wsX30, w ∈ wsX3_rowUpTo := fun _ h => List.mem_cons_of_mem _ (List.mem_append_right _ h)
  have hP : va_P D vwCl [(a 0, .inr (3, [.ref (a 1), .ref (a 2), .ref (a 3), .int r])), (a 1, .inl (cI, 8, .inl g)), (a 2, .inl (cI, 8, .inl lf)), (a 3, .inl (cI, 8, .inl h))] s.heap := hP
  have hD : va_D A [(a 0, .inr (3, [.ref (a 1), .ref (a 2), .ref (a 3), .int r])), (a 1, .inl (cI, 8, .inl g)), (a 2, .inl (cI, 8, .inl lf)), (a 3, .inl (cI, 8, .inl h))] := hD
  refine lv_iconst (v := 0) hx hb dX3_rowUpTo_0 (by decide) ?_
  refine lv_istore_n (lv' := [(2, .int 0), (0, .ref (a 0)), (1, .int y)]) hx hb dX3_rowUpTo_1 rfl hl (by decide) rfl (fun ls hl => ?_)
  have loop2 : ∀ (k : Nat) (i : Nat), 9 ≤ i + k → i ≤ 8 → rwd th go y 8 = rwd th go y (8 - i) → ∀ (H : Heap) (locs : List Loc), va_P D vwCl [(a 0, .inr (3, [.ref (a 1), .ref (a 2), .ref (a 3), .int r])), (a 1, .inl (cI, 8, .inl g)), (a 2, .inl (cI, 8, .inl lf)), (a 3, .inl (cI, 8, .inl h))] H → va_D A [(a 0, .inr (3, [.ref (a 1), .ref (a 2), .ref (a 3), .int r])), (a 1, .inl (cI, 8, .inl g)), (a 2, .inl (cI, 8, .inl lf)), (a 3, .inl (cI, 8, .inl h))] → va_S A s.heap H locs → ∀ (ls : Array Slot), lv_has ls 3 [(0, .ref (a 0)), (1, .int y), (2, .int (nI i))] → W pg l e ({ frames := 2, cells := 0, slots := 0, locals := 41 } : Room) s m ([.ref (a 0), .int y] : List Value).toArray below meth c H locs 0 0 (Qi D below ([.ref (a 0), .int y] : List Value).toArray s A (S := Unit) (fun v _ => v = rwd th go y 8) (fun _ => wSt a cI g lf h r)) (F0 m 2 ls []) := by
    intro k
    induction k with
    | zero => intro i hk hi hv; exact absurd hk (by omega)
    | succ k ih =>
      intro i hk hi hv H locs hP hD hS ls hl
      refine lv_iload_n hx hb dX3_rowUpTo_2 rfl (lv_at hl 2 rfl) ?_
      refine lv_bipush (v := 8) hx hb dX3_rowUpTo_3 (by decide) ?_
      refine lv_icmp_ge (tgt := 32) hx hb dX3_rowUpTo_5 (by decide) (fun c_5 => ?_) (fun c_5 => ?_)
      · have c_5 : 8 ≤ i := (nI_leI (a := 8) (b := i) (by omega) (by omega)).mp c_5
        refine lv_iload_n hx hb dX3_rowUpTo_32 rfl (lv_at hl 2 rfl) ?_
        exact Ri (D := D) () hx hb hr rfl hlocks hP hD hS (by rw [hv, show i = 8 by omega]; rfl) dX3_rowUpTo_33
      · have c_5 : ¬ (8 ≤ i) := fun h => c_5 ((nI_leI (a := 8) (b := i) (by omega) (by omega)).mpr h)
        refine lv_aload_n hx hb dX3_rowUpTo_8 rfl (lv_at hl 0 rfl) ?_
        refine lv_iload_n hx hb dX3_rowUpTo_9 rfl (lv_at hl 2 rfl) ?_
        refine cl_Vi ([]) ([]) (As := [.int (nI i)]) (rest := []) (c_X3_isThere l D cI a g lf h r th go hg i (by omega)) ⟨hx, hb, hml, hown, hts⟩ (cwV 1 hts gX3_rowUpTo_X3_isThere rfl rfl rfl (by decide +kernel) ⟨Nat.le_of_ble_eq_true rfl, Nat.le_of_ble_eq_true rfl⟩) hK hns hP hD hS hA rfl (T := TX3) (N := 4) rfl rfl hl.1 rfl (Nat.le_of_ble_eq_true rfl) dX3_rowUpTo_10 ⟨Nat.zero_le _, Nat.zero_le _⟩ (fun r10 u10 H locs hw10 hP hD hS => ?_)
        have hP : va_P D vwCl [(a 0, .inr (3, [.ref (a 1), .ref (a 2), .ref (a 3), .int r])), (a 1, .inl (cI, 8, .inl g)), (a 2, .inl (cI, 8, .inl lf)), (a 3, .inl (cI, 8, .inl h))] H := hP
        have hD : va_D A [(a 0, .inr (3, [.ref (a 1), .ref (a 2), .ref (a 3), .int r])), (a 1, .inl (cI, 8, .inl g)), (a 2, .inl (cI, 8, .inl lf)), (a 3, .inl (cI, 8, .inl h))] := hD
        rcases hw10 with ⟨rfl, ht10⟩ | ⟨rfl, ht10⟩
        · refine lv_if_eq (tgt := 32) hx hb dX3_rowUpTo_13 (by decide) (fun c9 => absurd c9 (by decide)) (fun _ => ?_)
          refine lv_aload_n hx hb dX3_rowUpTo_16 rfl (lv_at hl 0 rfl) ?_
          refine va_get (D := D) (ci := 3) (v := .ref (a 1)) (C := RX3) (T := TX3) (N := 4) hx hb hts inX3 hown hK hP 0 rfl rfl 0 (by decide) fl9 (fun _ h9 => h9) rfl dX3_rowUpTo_17 ?_
          refine lv_iload_n hx hb dX3_rowUpTo_20 rfl (lv_at hl 2 rfl) ?_
          refine xi_ald hx hb hK hP 1 0 rfl rfl (k := i) (by omega) (by decide) dX3_rowUpTo_21 ?_
          refine tp (y := nI (go i)) (gok_v hg ht10.1 ht10.2) ?_
          refine lv_iload_n hx hb dX3_rowUpTo_22 rfl (lv_at hl 1 rfl) ?_
          refine lv_icmp_gt (tgt := 32) hx hb dX3_rowUpTo_23 (by decide) (fun c_23 => ?_) (fun c_23 => ?_)
          · refine lv_iload_n hx hb dX3_rowUpTo_32 rfl (lv_at hl 2 rfl) ?_
            exact Ri (D := D) () hx hb hr rfl hlocks hP hD hS (by rw [hv]; exact (rwd_no (by omega) (fun q => absurd c_23 (Int32.not_lt.mpr q.2))).symm) dX3_rowUpTo_33
          · refine lv_iinc (v := (nI (i + 1))) (lv' := [(2, .int (nI (i + 1))), (0, .ref (a 0)), (1, .int y)]) hx hb dX3_rowUpTo_26 hl (k := 2) rfl (nI_1 i) (by decide) rfl (fun ls hl => ?_)
            refine lv_goto (tgt := 2) hx hb dX3_rowUpTo_29 (by decide) ?_
            exact ih (i + 1) (by omega) (by omega) (hv.trans (rwd_yes (by omega) ht10.2 (Int32.not_lt.mp c_23))) _ _ hP hD hS ls (lv_sub hl [1, 2, 0] rfl)
        · refine lv_if_eq (tgt := 32) hx hb dX3_rowUpTo_13 (by decide) (fun _ => ?_) (fun c9 => absurd (by decide) c9)
          refine lv_iload_n hx hb dX3_rowUpTo_32 rfl (lv_at hl 2 rfl) ?_
          exact Ri (D := D) () hx hb hr rfl hlocks hP hD hS (by rw [hv]; exact (rwd_no (by omega) (fun q => ht10 ⟨by omega, q.1⟩)).symm) dX3_rowUpTo_33
  exact loop2 9 0 (by omega) (by omega) rfl _ _ hP hD hS ls (lv_sub hl [1, 2, 0] rfl)

set_option maxHeartbeats 4000000 in
set_option maxRecDepth 100000 in
theorem c_X3_giveRest (l : Launch) (D : va_G) (cI : ClassId) (a : Nat → Nat) (g lf h : Nat → Int32) (r : Int32) : Ci l D [(cI, .int)] yX3_giveRest wsX3_giveRest ({ frames := 0, cells := 0, slots := 0, locals := 0 }) [.ref (a 0)] (wSt a cI g lf h r) (S := Unit) (fun v _ => v = r) (fun _ => wSt a cI g lf h 0) := by
  refine Ci.mk (cc := cX3_giveRest) (maxL := 2) (ret := (some .int)) (by decide +kernel) rfl (Nat.le_of_ble_eq_true rfl) ?_
  intro pg e s m below meth c A ls hx hb hml hr hown hts hlocks hK hns hA hP hD hS hl
  have hl : lv_has ls 2 [(0, .ref (a 0))] := hl
  have fl28 := hts (.fieldLink RX3 28 "HeldShelves$Stock" "rest" "I") (List.mem_of_getElem? (i := 1) rfl)
  have inX3 : ∀ w ∈ wsX30, w ∈ wsX3_giveRest := fun _ h => List.mem_cons_of_mem _ (List.mem_append_right _ h)
  have hP : va_P D vwCl [(a 0, .inr (3, [.ref (a 1), .ref (a 2), .ref (a 3), .int r])), (a 1, .inl (cI, 8, .inl g)), (a 2, .inl (cI, 8, .inl lf)), (a 3, .inl (cI, 8, .inl h))] s.heap := hP
  have hD : va_D A [(a 0, .inr (3, [.ref (a 1), .ref (a 2), .ref (a 3), .int r])), (a 1, .inl (cI, 8, .inl g)), (a 2, .inl (cI, 8, .inl lf)), (a 3, .inl (cI, 8, .inl h))] := hD
  refine lv_aload_n hx hb dX3_giveRest_0 rfl (lv_at hl 0 rfl) ?_
  refine va_get (D := D) (ci := 3) (v := .int r) (C := RX3) (T := TX3) (N := 4) hx hb hts inX3 hown hK hP 0 rfl rfl 3 (by decide) fl28 (fun _ h9 => h9) rfl dX3_giveRest_1 ?_
  refine lv_istore_n (lv' := [(1, .int r), (0, .ref (a 0))]) hx hb dX3_giveRest_4 rfl hl (by decide) rfl (fun ls hl => ?_)
  refine lv_aload_n hx hb dX3_giveRest_5 rfl (lv_at hl 1 rfl) ?_
  refine lv_iconst (v := 0) hx hb dX3_giveRest_6 (by decide) ?_
  refine va_put (D := D) (ci := 3) (v := .int 0) (ty := .int) (C := RX3) (T := TX3) (N := 4) hx hb hts inX3 tyX3 tyX3_ok nmX3 hown hK hP hD hS 0 rfl rfl 3 (by decide) fl28 (fun _ h9 => h9) rfl (by decide +kernel) rfl rfl (Nat.le_of_ble_eq_true rfl) dX3_giveRest_7 (fun H locs hP hD hS => ?_)
  have hP : va_P D vwCl [(a 0, .inr (3, [.ref (a 1), .ref (a 2), .ref (a 3), .int 0])), (a 1, .inl (cI, 8, .inl g)), (a 2, .inl (cI, 8, .inl lf)), (a 3, .inl (cI, 8, .inl h))] H := hP
  have hD : va_D A [(a 0, .inr (3, [.ref (a 1), .ref (a 2), .ref (a 3), .int 0])), (a 1, .inl (cI, 8, .inl g)), (a 2, .inl (cI, 8, .inl lf)), (a 3, .inl (cI, 8, .inl h))] := hD
  refine lv_iload_n hx hb dX3_giveRest_10 rfl (lv_at hl 0 rfl) ?_
  exact Ri (D := D) () hx hb hr rfl hlocks hP hD hS rfl dX3_giveRest_11

set_option maxHeartbeats 4000000 in
set_option maxRecDepth 100000 in
theorem c_X3_inAll (l : Launch) (D : va_G) (cI : ClassId) (a : Nat → Nat) (g lf h : Nat → Int32) (r : Int32) (th : Nat → Bool) (go : Nat → Nat) (hg : gok g th go) : Ci l D [(cI, .int)] yX3_inAll wsX3_inAll ({ frames := 3, cells := 0, slots := 0, locals := 62 }) [.ref (a 0)] (wSt a cI g lf h r) (S := Unit) (fun v _ => v = sm th go 8) (fun _ => wSt a cI g lf h r) := by
  refine Ci.mk (cc := cX3_inAll) (maxL := 3) (ret := (some .int)) (by decide +kernel) rfl (Nat.le_of_ble_eq_true rfl) ?_
  intro pg e s m below meth c A ls hx hb hml hr hown hts hlocks hK hns hA hP hD hS hl
  have hl : lv_has ls 3 [(0, .ref (a 0))] := hl
  have hP : va_P D vwCl [(a 0, .inr (3, [.ref (a 1), .ref (a 2), .ref (a 3), .int r])), (a 1, .inl (cI, 8, .inl g)), (a 2, .inl (cI, 8, .inl lf)), (a 3, .inl (cI, 8, .inl h))] s.heap := hP
  have hD : va_D A [(a 0, .inr (3, [.ref (a 1), .ref (a 2), .ref (a 3), .int r])), (a 1, .inl (cI, 8, .inl g)), (a 2, .inl (cI, 8, .inl lf)), (a 3, .inl (cI, 8, .inl h))] := hD
  refine lv_iconst (v := 0) hx hb dX3_inAll_0 (by decide) ?_
  refine lv_istore_n (lv' := [(1, .int 0), (0, .ref (a 0))]) hx hb dX3_inAll_1 rfl hl (by decide) rfl (fun ls hl => ?_)
  refine lv_iconst (v := 0) hx hb dX3_inAll_2 (by decide) ?_
  refine lv_istore_n (lv' := [(2, .int 0), (1, .int 0), (0, .ref (a 0))]) hx hb dX3_inAll_3 rfl hl (by decide) rfl (fun ls hl => ?_)
  have loop4 : ∀ (k : Nat) (i : Nat), 9 ≤ i + k → i ≤ 8 → ∀ (H : Heap) (locs : List Loc), va_P D vwCl [(a 0, .inr (3, [.ref (a 1), .ref (a 2), .ref (a 3), .int r])), (a 1, .inl (cI, 8, .inl g)), (a 2, .inl (cI, 8, .inl lf)), (a 3, .inl (cI, 8, .inl h))] H → va_D A [(a 0, .inr (3, [.ref (a 1), .ref (a 2), .ref (a 3), .int r])), (a 1, .inl (cI, 8, .inl g)), (a 2, .inl (cI, 8, .inl lf)), (a 3, .inl (cI, 8, .inl h))] → va_S A s.heap H locs → ∀ (ls : Array Slot), lv_has ls 3 [(0, .ref (a 0)), (1, .int (sm th go i)), (2, .int (nI i))] → W pg l e ({ frames := 3, cells := 0, slots := 0, locals := 62 } : Room) s m ([.ref (a 0)] : List Value).toArray below meth c H locs 0 0 (Qi D below ([.ref (a 0)] : List Value).toArray s A (S := Unit) (fun v _ => v = sm th go 8) (fun _ => wSt a cI g lf h r)) (F0 m 4 ls []) := by
    intro k
    induction k with
    | zero => intro i hk hi; exact absurd hk (by omega)
    | succ k ih =>
      intro i hk hi H locs hP hD hS ls hl
      refine lv_iload_n hx hb dX3_inAll_4 rfl (lv_at hl 2 rfl) ?_
      refine lv_bipush (v := 8) hx hb dX3_inAll_5 (by decide) ?_
      refine lv_icmp_ge (tgt := 24) hx hb dX3_inAll_7 (by decide) (fun c_7 => ?_) (fun c_7 => ?_)
      · have c_7 : 8 ≤ i := (nI_leI (a := 8) (b := i) (by omega) (by omega)).mp c_7
        refine lv_iload_n hx hb dX3_inAll_24 rfl (lv_at hl 1 rfl) ?_
        exact Ri (D := D) () hx hb hr rfl hlocks hP hD hS (by rw [show i = 8 by omega]) dX3_inAll_25
      · have c_7 : ¬ (8 ≤ i) := fun h => c_7 ((nI_leI (a := 8) (b := i) (by omega) (by omega)).mpr h)
        refine lv_iload_n hx hb dX3_inAll_10 rfl (lv_at hl 1 rfl) ?_
        refine lv_aload_n hx hb dX3_inAll_11 rfl (lv_at hl 0 rfl) ?_
        refine lv_iload_n hx hb dX3_inAll_12 rfl (lv_at hl 2 rfl) ?_
        refine cl_Vi ([]) ([]) (As := [.int (nI i)]) (rest := [.int (sm th go i)]) (c_X3_goodsOf l D cI a g lf h r th go hg i (by omega)) ⟨hx, hb, hml, hown, hts⟩ (cwV 1 hts gX3_inAll_X3_goodsOf rfl rfl rfl (by decide +kernel) ⟨Nat.le_of_ble_eq_true rfl, Nat.le_of_ble_eq_true rfl⟩) hK hns hP hD hS hA rfl (T := TX3) (N := 4) rfl rfl hl.1 rfl (Nat.le_of_ble_eq_true rfl) dX3_inAll_13 ⟨Nat.zero_le _, Nat.zero_le _⟩ (fun r13 u13 H locs hw13 hP hD hS => ?_)
        have hP : va_P D vwCl [(a 0, .inr (3, [.ref (a 1), .ref (a 2), .ref (a 3), .int r])), (a 1, .inl (cI, 8, .inl g)), (a 2, .inl (cI, 8, .inl lf)), (a 3, .inl (cI, 8, .inl h))] H := hP
        have hD : va_D A [(a 0, .inr (3, [.ref (a 1), .ref (a 2), .ref (a 3), .int r])), (a 1, .inl (cI, 8, .inl g)), (a 2, .inl (cI, 8, .inl lf)), (a 3, .inl (cI, 8, .inl h))] := hD
        subst hw13
        refine lv_iadd hx hb dX3_inAll_16 ?_
        refine lv_istore_n (lv' := [(1, .int ((sm th go i) + (if th i then nI (go i) else 0))), (0, .ref (a 0)), (2, .int (nI i))]) hx hb dX3_inAll_17 rfl hl (by decide) rfl (fun ls hl => ?_)
        refine lv_iinc (v := (nI (i + 1))) (lv' := [(2, .int (nI (i + 1))), (1, .int ((sm th go i) + (if th i then nI (go i) else 0))), (0, .ref (a 0))]) hx hb dX3_inAll_18 hl (k := 2) rfl (nI_1 i) (by decide) rfl (fun ls hl => ?_)
        refine lv_goto (tgt := 4) hx hb dX3_inAll_21 (by decide) ?_
        exact ih (i + 1) (by omega) (by omega) _ _ hP hD hS ls (lv_sub hl [2, 1, 0] rfl)
  exact loop4 9 0 (by omega) (by omega) _ _ hP hD hS ls (lv_sub hl [2, 1, 0] rfl)

set_option maxHeartbeats 4000000 in
set_option maxRecDepth 100000 in
theorem c_X3_missing (l : Launch) (D : va_G) (cI : ClassId) (a : Nat → Nat) (g lf h : Nat → Int32) (r : Int32) (th : Nat → Bool) (go : Nat → Nat) (hg : gok g th go) (x : Nat) (hx16 : x < 16) : Ci l D [(cI, .int)] yX3_missing wsX3_missing ({ frames := 2, cells := 0, slots := 0, locals := 41 }) [.ref (a 0), .int (nI x)] (wSt a cI g lf h r) (S := Unit) (fun v _ => v = nI (mis th x)) (fun _ => wSt a cI g lf h r) := by
  refine Ci.mk (cc := cX3_missing) (maxL := 2) (ret := (some .int)) (by decide +kernel) rfl (Nat.le_of_ble_eq_true rfl) ?_
  intro pg e s m below meth c A ls hx hb hml hr hown hts hlocks hK hns hA hP hD hS hl
  have hl : lv_has ls 2 [(0, .ref (a 0)), (1, .int (nI x))] := hl
  have hP : va_P D vwCl [(a 0, .inr (3, [.ref (a 1), .ref (a 2), .ref (a 3), .int r])), (a 1, .inl (cI, 8, .inl g)), (a 2, .inl (cI, 8, .inl lf)), (a 3, .inl (cI, 8, .inl h))] s.heap := hP
  have hD : va_D A [(a 0, .inr (3, [.ref (a 1), .ref (a 2), .ref (a 3), .int r])), (a 1, .inl (cI, 8, .inl g)), (a 2, .inl (cI, 8, .inl lf)), (a 3, .inl (cI, 8, .inl h))] := hD
  refine lv_iload_n hx hb dX3_missing_0 rfl (lv_at hl 1 rfl) ?_
  refine cl_SNi (As := [.int (nI x)]) (rest := []) (c_X4_isShelf l D (nI x)) ⟨hx, hb, hml, hown, hts⟩ ⟨va_cnB 1 hts gX3_missing_X4_isShelf_n21 rfl rfl rfl hns (hts (.initialized RX4) (by decide +kernel)) (by decide +kernel) ⟨Nat.le_of_ble_eq_true rfl, Nat.le_of_ble_eq_true rfl⟩, hts (.static yX4_isShelf) (by decide +kernel), trivial⟩ hK hns hP hD hS hA rfl hl.1 rfl (Nat.le_of_ble_eq_true rfl) dX3_missing_1 ⟨Nat.zero_le _, Nat.zero_le _⟩ (fun r1 u1 H locs hw1 hP hD hS => ?_)
  rcases hw1 with ⟨rfl, hs1⟩ | ⟨rfl, hs1⟩
  · have hs1 : x < 8 := (inN_nI (by omega) (by omega)).mp hs1
    refine lv_if_ne (tgt := 9) hx hb dX3_missing_4 (by decide) (fun _ => ?_) (fun c9 => absurd c9 (by decide))
    refine lv_aload_n hx hb dX3_missing_9 rfl (lv_at hl 0 rfl) ?_
    refine lv_iload_n hx hb dX3_missing_10 rfl (lv_at hl 1 rfl) ?_
    refine cl_Vi ([]) ([]) (As := [.int (nI x)]) (rest := []) (c_X3_isThere l D cI a g lf h r th go hg x (by omega)) ⟨hx, hb, hml, hown, hts⟩ (cwV 1 hts gX3_missing_X3_isThere rfl rfl rfl (by decide +kernel) ⟨Nat.le_of_ble_eq_true rfl, Nat.le_of_ble_eq_true rfl⟩) hK hns hP hD hS hA rfl (T := TX3) (N := 4) rfl rfl hl.1 rfl (Nat.le_of_ble_eq_true rfl) dX3_missing_11 ⟨Nat.zero_le _, Nat.zero_le _⟩ (fun r11 u11 H locs hw11 hP hD hS => ?_)
    have hP : va_P D vwCl [(a 0, .inr (3, [.ref (a 1), .ref (a 2), .ref (a 3), .int r])), (a 1, .inl (cI, 8, .inl g)), (a 2, .inl (cI, 8, .inl lf)), (a 3, .inl (cI, 8, .inl h))] H := hP
    have hD : va_D A [(a 0, .inr (3, [.ref (a 1), .ref (a 2), .ref (a 3), .int r])), (a 1, .inl (cI, 8, .inl g)), (a 2, .inl (cI, 8, .inl lf)), (a 3, .inl (cI, 8, .inl h))] := hD
    rcases hw11 with ⟨rfl, ht11⟩ | ⟨rfl, ht11⟩
    · refine lv_if_eq (tgt := 21) hx hb dX3_missing_14 (by decide) (fun c9 => absurd c9 (by decide)) (fun _ => ?_)
      refine lv_iconst (v := 0) hx hb dX3_missing_17 (by decide) ?_
      refine lv_goto (tgt := 22) hx hb dX3_missing_18 (by decide) ?_
      exact Ri (D := D) () hx hb hr rfl hlocks hP hD hS (by rw [mis, if_neg (by omega), if_pos ht11.2]; rfl) dX3_missing_22
    · refine lv_if_eq (tgt := 21) hx hb dX3_missing_14 (by decide) (fun _ => ?_) (fun c9 => absurd (by decide) c9)
      refine lv_iconst (v := 2) hx hb dX3_missing_21 (by decide) ?_
      exact Ri (D := D) () hx hb hr rfl hlocks hP hD hS (by rw [mis, if_neg (by omega), if_neg (fun q => ht11 ⟨hs1, q⟩)]; rfl) dX3_missing_22
  · have hs1 : ¬ x < 8 := fun h => hs1 ((inN_nI (by omega) (by omega)).mpr h)
    refine lv_if_ne (tgt := 9) hx hb dX3_missing_4 (by decide) (fun c9 => absurd rfl c9) (fun _ => ?_)
    refine lv_iconst (v := 1) hx hb dX3_missing_7 (by decide) ?_
    exact Ri (D := D) () hx hb hr rfl hlocks hP hD hS (by rw [mis, if_pos (by omega)]; rfl) dX3_missing_8

set_option maxHeartbeats 4000000 in
set_option maxRecDepth 100000 in
theorem c_X3_holdOnce (l : Launch) (D : va_G) (cI : ClassId) (a : Nat → Nat) (g lf h : Nat → Int32) (r : Int32) (x : Nat) (hx8 : x < 8) : Cv l D [(cI, .int)] yX3_holdOnce wsX3_holdOnce ({ frames := 1, cells := 0, slots := 0, locals := 20 }) [.ref (a 0), .int (nI x)] (wSt a cI g lf h r) (S := Unit) (fun _ => True) (fun _ => wSt a cI g lf (upd h x (h x + 1)) r) := by
  refine Cv.mk (cc := cX3_holdOnce) (maxL := 2) (ret := none) (by decide +kernel) rfl (Nat.le_of_ble_eq_true rfl) ?_
  intro pg e s m below meth c A ls hx hb hml hr hown hts hlocks hK hns hA hP hD hS hl
  have hl : lv_has ls 2 [(0, .ref (a 0)), (1, .int (nI x))] := hl
  have fl18 := hts (.fieldLink RX3 18 "HeldShelves$Stock" "held" "[I") (List.mem_of_getElem? (i := 1) rfl)
  have inX3 : ∀ w ∈ wsX30, w ∈ wsX3_holdOnce := fun _ h => List.mem_cons_of_mem _ (List.mem_append_right _ h)
  have hP : va_P D vwCl [(a 0, .inr (3, [.ref (a 1), .ref (a 2), .ref (a 3), .int r])), (a 1, .inl (cI, 8, .inl g)), (a 2, .inl (cI, 8, .inl lf)), (a 3, .inl (cI, 8, .inl h))] s.heap := hP
  have hD : va_D A [(a 0, .inr (3, [.ref (a 1), .ref (a 2), .ref (a 3), .int r])), (a 1, .inl (cI, 8, .inl g)), (a 2, .inl (cI, 8, .inl lf)), (a 3, .inl (cI, 8, .inl h))] := hD
  refine lv_iload_n hx hb dX3_holdOnce_0 rfl (lv_at hl 1 rfl) ?_
  refine cl_SNi (As := [.int (nI x)]) (rest := []) (c_X4_isShelf l D (nI x)) ⟨hx, hb, hml, hown, hts⟩ ⟨va_cnB 1 hts gX3_holdOnce_X4_isShelf_n21 rfl rfl rfl hns (hts (.initialized RX4) (by decide +kernel)) (by decide +kernel) ⟨Nat.le_of_ble_eq_true rfl, Nat.le_of_ble_eq_true rfl⟩, hts (.static yX4_isShelf) (by decide +kernel), trivial⟩ hK hns hP hD hS hA rfl hl.1 rfl (Nat.le_of_ble_eq_true rfl) dX3_holdOnce_1 ⟨Nat.zero_le _, Nat.zero_le _⟩ (fun r1 u1 H locs hw1 hP hD hS => ?_)
  rcases hw1 with ⟨rfl, hs1⟩ | ⟨rfl, hs1⟩
  · have hs1 : x < 8 := (inN_nI (by omega) (by omega)).mp hs1
    refine lv_if_eq (tgt := 17) hx hb dX3_holdOnce_4 (by decide) (fun c9 => absurd c9 (by decide)) (fun _ => ?_)
    refine lv_aload_n hx hb dX3_holdOnce_7 rfl (lv_at hl 0 rfl) ?_
    refine va_get (D := D) (ci := 3) (v := .ref (a 3)) (C := RX3) (T := TX3) (N := 4) hx hb hts inX3 hown hK hP 0 rfl rfl 2 (by decide) fl18 (fun _ h9 => h9) rfl dX3_holdOnce_8 ?_
    refine lv_iload_n hx hb dX3_holdOnce_11 rfl (lv_at hl 1 rfl) ?_
    refine lv_dup2_11 hx hb dX3_holdOnce_12 rfl rfl ?_
    refine xi_ald hx hb hK hP 3 0 rfl rfl (k := x) (by omega) (by decide) dX3_holdOnce_13 ?_
    refine lv_iconst (v := 1) hx hb dX3_holdOnce_14 (by decide) ?_
    refine lv_iadd hx hb dX3_holdOnce_15 ?_
    refine xi_ast hx hb hK hP hD hS 3 0 rfl rfl (k := x) (x := ((h x) + 1)) (by omega) (by decide) dX3_holdOnce_16 (fun H locs hP hD hS => ?_)
    have hP : va_P D vwCl [(a 0, .inr (3, [.ref (a 1), .ref (a 2), .ref (a 3), .int r])), (a 1, .inl (cI, 8, .inl g)), (a 2, .inl (cI, 8, .inl lf)), (a 3, .inl (cI, 8, .inl (upd h x ((h x) + 1))))] H := hP
    have hD : va_D A [(a 0, .inr (3, [.ref (a 1), .ref (a 2), .ref (a 3), .int r])), (a 1, .inl (cI, 8, .inl g)), (a 2, .inl (cI, 8, .inl lf)), (a 3, .inl (cI, 8, .inl (upd h x ((h x) + 1))))] := hD
    exact Rv (D := D) () hx hb hr hlocks hP hD hS trivial dX3_holdOnce_17
  · have hs1 : ¬ x < 8 := fun h => hs1 ((inN_nI (by omega) (by omega)).mpr h)
    refine lv_if_eq (tgt := 17) hx hb dX3_holdOnce_4 (by decide) (fun _ => ?_) (fun c9 => absurd (by decide) c9)
    exact absurd hx8 hs1

set_option maxHeartbeats 4000000 in
set_option maxRecDepth 100000 in
theorem c_X3_release (l : Launch) (D : va_G) (cI : ClassId) (a : Nat → Nat) (g lf h : Nat → Int32) (r : Int32) (x : Nat) (hx8 : x < 8) : Cv l D [(cI, .int)] yX3_release wsX3_release ({ frames := 1, cells := 0, slots := 0, locals := 20 }) [.ref (a 0), .int (nI x)] (wSt a cI g lf h r) (S := Unit) (fun _ => True) (fun _ => wSt a cI g lf (upd h x (h x - 1)) r) := by
  refine Cv.mk (cc := cX3_release) (maxL := 2) (ret := none) (by decide +kernel) rfl (Nat.le_of_ble_eq_true rfl) ?_
  intro pg e s m below meth c A ls hx hb hml hr hown hts hlocks hK hns hA hP hD hS hl
  have hl : lv_has ls 2 [(0, .ref (a 0)), (1, .int (nI x))] := hl
  have fl18 := hts (.fieldLink RX3 18 "HeldShelves$Stock" "held" "[I") (List.mem_of_getElem? (i := 1) rfl)
  have inX3 : ∀ w ∈ wsX30, w ∈ wsX3_release := fun _ h => List.mem_cons_of_mem _ (List.mem_append_right _ h)
  have hP : va_P D vwCl [(a 0, .inr (3, [.ref (a 1), .ref (a 2), .ref (a 3), .int r])), (a 1, .inl (cI, 8, .inl g)), (a 2, .inl (cI, 8, .inl lf)), (a 3, .inl (cI, 8, .inl h))] s.heap := hP
  have hD : va_D A [(a 0, .inr (3, [.ref (a 1), .ref (a 2), .ref (a 3), .int r])), (a 1, .inl (cI, 8, .inl g)), (a 2, .inl (cI, 8, .inl lf)), (a 3, .inl (cI, 8, .inl h))] := hD
  refine lv_iload_n hx hb dX3_release_0 rfl (lv_at hl 1 rfl) ?_
  refine cl_SNi (As := [.int (nI x)]) (rest := []) (c_X4_isShelf l D (nI x)) ⟨hx, hb, hml, hown, hts⟩ ⟨va_cnB 1 hts gX3_release_X4_isShelf_n21 rfl rfl rfl hns (hts (.initialized RX4) (by decide +kernel)) (by decide +kernel) ⟨Nat.le_of_ble_eq_true rfl, Nat.le_of_ble_eq_true rfl⟩, hts (.static yX4_isShelf) (by decide +kernel), trivial⟩ hK hns hP hD hS hA rfl hl.1 rfl (Nat.le_of_ble_eq_true rfl) dX3_release_1 ⟨Nat.zero_le _, Nat.zero_le _⟩ (fun r1 u1 H locs hw1 hP hD hS => ?_)
  rcases hw1 with ⟨rfl, hs1⟩ | ⟨rfl, hs1⟩
  · have hs1 : x < 8 := (inN_nI (by omega) (by omega)).mp hs1
    refine lv_if_eq (tgt := 17) hx hb dX3_release_4 (by decide) (fun c9 => absurd c9 (by decide)) (fun _ => ?_)
    refine lv_aload_n hx hb dX3_release_7 rfl (lv_at hl 0 rfl) ?_
    refine va_get (D := D) (ci := 3) (v := .ref (a 3)) (C := RX3) (T := TX3) (N := 4) hx hb hts inX3 hown hK hP 0 rfl rfl 2 (by decide) fl18 (fun _ h9 => h9) rfl dX3_release_8 ?_
    refine lv_iload_n hx hb dX3_release_11 rfl (lv_at hl 1 rfl) ?_
    refine lv_dup2_11 hx hb dX3_release_12 rfl rfl ?_
    refine xi_ald hx hb hK hP 3 0 rfl rfl (k := x) (by omega) (by decide) dX3_release_13 ?_
    refine lv_iconst (v := 1) hx hb dX3_release_14 (by decide) ?_
    refine lv_isub hx hb dX3_release_15 ?_
    refine xi_ast hx hb hK hP hD hS 3 0 rfl rfl (k := x) (x := ((h x) - 1)) (by omega) (by decide) dX3_release_16 (fun H locs hP hD hS => ?_)
    have hP : va_P D vwCl [(a 0, .inr (3, [.ref (a 1), .ref (a 2), .ref (a 3), .int r])), (a 1, .inl (cI, 8, .inl g)), (a 2, .inl (cI, 8, .inl lf)), (a 3, .inl (cI, 8, .inl (upd h x ((h x) - 1))))] H := hP
    have hD : va_D A [(a 0, .inr (3, [.ref (a 1), .ref (a 2), .ref (a 3), .int r])), (a 1, .inl (cI, 8, .inl g)), (a 2, .inl (cI, 8, .inl lf)), (a 3, .inl (cI, 8, .inl (upd h x ((h x) - 1))))] := hD
    exact Rv (D := D) () hx hb hr hlocks hP hD hS trivial dX3_release_17
  · have hs1 : ¬ x < 8 := fun h => hs1 ((inN_nI (by omega) (by omega)).mpr h)
    refine lv_if_eq (tgt := 17) hx hb dX3_release_4 (by decide) (fun _ => ?_) (fun c9 => absurd (by decide) c9)
    exact absurd hx8 hs1

set_option maxHeartbeats 4000000 in
set_option maxRecDepth 100000 in
theorem c_X3_countLeft (l : Launch) (D : va_G) (cI : ClassId) (a : Nat → Nat) (g lf h : Nat → Int32) (r : Int32) (x : Nat) (hx8 : x < 8) : Cv l D [(cI, .int)] yX3_countLeft wsX3_countLeft ({ frames := 1, cells := 0, slots := 0, locals := 20 }) [.ref (a 0), .int (nI x)] (wSt a cI g lf h r) (S := Unit) (fun _ => True) (fun _ => wSt a cI g (upd lf x (lf x + 1)) h r) := by
  refine Cv.mk (cc := cX3_countLeft) (maxL := 2) (ret := none) (by decide +kernel) rfl (Nat.le_of_ble_eq_true rfl) ?_
  intro pg e s m below meth c A ls hx hb hml hr hown hts hlocks hK hns hA hP hD hS hl
  have hl : lv_has ls 2 [(0, .ref (a 0)), (1, .int (nI x))] := hl
  have fl15 := hts (.fieldLink RX3 15 "HeldShelves$Stock" "left" "[I") (List.mem_of_getElem? (i := 1) rfl)
  have inX3 : ∀ w ∈ wsX30, w ∈ wsX3_countLeft := fun _ h => List.mem_cons_of_mem _ (List.mem_append_right _ h)
  have hP : va_P D vwCl [(a 0, .inr (3, [.ref (a 1), .ref (a 2), .ref (a 3), .int r])), (a 1, .inl (cI, 8, .inl g)), (a 2, .inl (cI, 8, .inl lf)), (a 3, .inl (cI, 8, .inl h))] s.heap := hP
  have hD : va_D A [(a 0, .inr (3, [.ref (a 1), .ref (a 2), .ref (a 3), .int r])), (a 1, .inl (cI, 8, .inl g)), (a 2, .inl (cI, 8, .inl lf)), (a 3, .inl (cI, 8, .inl h))] := hD
  refine lv_iload_n hx hb dX3_countLeft_0 rfl (lv_at hl 1 rfl) ?_
  refine cl_SNi (As := [.int (nI x)]) (rest := []) (c_X4_isShelf l D (nI x)) ⟨hx, hb, hml, hown, hts⟩ ⟨va_cnB 1 hts gX3_countLeft_X4_isShelf_n21 rfl rfl rfl hns (hts (.initialized RX4) (by decide +kernel)) (by decide +kernel) ⟨Nat.le_of_ble_eq_true rfl, Nat.le_of_ble_eq_true rfl⟩, hts (.static yX4_isShelf) (by decide +kernel), trivial⟩ hK hns hP hD hS hA rfl hl.1 rfl (Nat.le_of_ble_eq_true rfl) dX3_countLeft_1 ⟨Nat.zero_le _, Nat.zero_le _⟩ (fun r1 u1 H locs hw1 hP hD hS => ?_)
  rcases hw1 with ⟨rfl, hs1⟩ | ⟨rfl, hs1⟩
  · have hs1 : x < 8 := (inN_nI (by omega) (by omega)).mp hs1
    refine lv_if_eq (tgt := 17) hx hb dX3_countLeft_4 (by decide) (fun c9 => absurd c9 (by decide)) (fun _ => ?_)
    refine lv_aload_n hx hb dX3_countLeft_7 rfl (lv_at hl 0 rfl) ?_
    refine va_get (D := D) (ci := 3) (v := .ref (a 2)) (C := RX3) (T := TX3) (N := 4) hx hb hts inX3 hown hK hP 0 rfl rfl 1 (by decide) fl15 (fun _ h9 => h9) rfl dX3_countLeft_8 ?_
    refine lv_iload_n hx hb dX3_countLeft_11 rfl (lv_at hl 1 rfl) ?_
    refine lv_dup2_11 hx hb dX3_countLeft_12 rfl rfl ?_
    refine xi_ald hx hb hK hP 2 0 rfl rfl (k := x) (by omega) (by decide) dX3_countLeft_13 ?_
    refine lv_iconst (v := 1) hx hb dX3_countLeft_14 (by decide) ?_
    refine lv_iadd hx hb dX3_countLeft_15 ?_
    refine xi_ast hx hb hK hP hD hS 2 0 rfl rfl (k := x) (x := ((lf x) + 1)) (by omega) (by decide) dX3_countLeft_16 (fun H locs hP hD hS => ?_)
    have hP : va_P D vwCl [(a 0, .inr (3, [.ref (a 1), .ref (a 2), .ref (a 3), .int r])), (a 1, .inl (cI, 8, .inl g)), (a 2, .inl (cI, 8, .inl (upd lf x ((lf x) + 1)))), (a 3, .inl (cI, 8, .inl h))] H := hP
    have hD : va_D A [(a 0, .inr (3, [.ref (a 1), .ref (a 2), .ref (a 3), .int r])), (a 1, .inl (cI, 8, .inl g)), (a 2, .inl (cI, 8, .inl (upd lf x ((lf x) + 1)))), (a 3, .inl (cI, 8, .inl h))] := hD
    exact Rv (D := D) () hx hb hr hlocks hP hD hS trivial dX3_countLeft_17
  · have hs1 : ¬ x < 8 := fun h => hs1 ((inN_nI (by omega) (by omega)).mpr h)
    refine lv_if_eq (tgt := 17) hx hb dX3_countLeft_4 (by decide) (fun _ => ?_) (fun c9 => absurd (by decide) c9)
    exact absurd hx8 hs1

set_option maxHeartbeats 4000000 in
set_option maxRecDepth 100000 in
theorem c_X3_missingOrLoose (l : Launch) (D : va_G) (cI : ClassId) (a : Nat → Nat) (g lf h : Nat → Int32) (r : Int32) (th : Nat → Bool) (go : Nat → Nat) (hg : gok g th go) (hd : Nat → Nat) (hh : hok h hd) (x : Nat) (hx16 : x < 16) : Ci l D [(cI, .int)] yX3_missingOrLoose wsX3_missingOrLoose ({ frames := 3, cells := 0, slots := 0, locals := 62 }) [.ref (a 0), .int (nI x)] (wSt a cI g lf h r) (S := Unit) (fun v _ => v = nI (mol th hd x)) (fun _ => wSt a cI g lf h r) := by
  refine Ci.mk (cc := cX3_missingOrLoose) (maxL := 3) (ret := (some .int)) (by decide +kernel) rfl (Nat.le_of_ble_eq_true rfl) ?_
  intro pg e s m below meth c A ls hx hb hml hr hown hts hlocks hK hns hA hP hD hS hl
  have hl : lv_has ls 3 [(0, .ref (a 0)), (1, .int (nI x))] := hl
  have fl18 := hts (.fieldLink RX3 18 "HeldShelves$Stock" "held" "[I") (List.mem_of_getElem? (i := 1) rfl)
  have inX3 : ∀ w ∈ wsX30, w ∈ wsX3_missingOrLoose := fun _ h => List.mem_cons_of_mem _ (List.mem_append_right _ h)
  have hP : va_P D vwCl [(a 0, .inr (3, [.ref (a 1), .ref (a 2), .ref (a 3), .int r])), (a 1, .inl (cI, 8, .inl g)), (a 2, .inl (cI, 8, .inl lf)), (a 3, .inl (cI, 8, .inl h))] s.heap := hP
  have hD : va_D A [(a 0, .inr (3, [.ref (a 1), .ref (a 2), .ref (a 3), .int r])), (a 1, .inl (cI, 8, .inl g)), (a 2, .inl (cI, 8, .inl lf)), (a 3, .inl (cI, 8, .inl h))] := hD
  have hm := mis_le (th := th) (s := x)
  refine lv_aload_n hx hb dX3_missingOrLoose_0 rfl (lv_at hl 0 rfl) ?_
  refine lv_iload_n hx hb dX3_missingOrLoose_1 rfl (lv_at hl 1 rfl) ?_
  refine cl_Vi ([]) ([]) (As := [.int (nI x)]) (rest := []) (c_X3_missing l D cI a g lf h r th go hg x hx16) ⟨hx, hb, hml, hown, hts⟩ (cwV 1 hts gX3_missingOrLoose_X3_missing rfl rfl rfl (by decide +kernel) ⟨Nat.le_of_ble_eq_true rfl, Nat.le_of_ble_eq_true rfl⟩) hK hns hP hD hS hA rfl (T := TX3) (N := 4) rfl rfl hl.1 rfl (Nat.le_of_ble_eq_true rfl) dX3_missingOrLoose_2 ⟨Nat.zero_le _, Nat.zero_le _⟩ (fun r2 u2 H locs hw2 hP hD hS => ?_)
  have hP : va_P D vwCl [(a 0, .inr (3, [.ref (a 1), .ref (a 2), .ref (a 3), .int r])), (a 1, .inl (cI, 8, .inl g)), (a 2, .inl (cI, 8, .inl lf)), (a 3, .inl (cI, 8, .inl h))] H := hP
  have hD : va_D A [(a 0, .inr (3, [.ref (a 1), .ref (a 2), .ref (a 3), .int r])), (a 1, .inl (cI, 8, .inl g)), (a 2, .inl (cI, 8, .inl lf)), (a 3, .inl (cI, 8, .inl h))] := hD
  subst hw2
  refine lv_istore_n (lv' := [(2, .int (nI (mis th x))), (0, .ref (a 0)), (1, .int (nI x))]) hx hb dX3_missingOrLoose_5 rfl hl (by decide) rfl (fun ls hl => ?_)
  refine lv_iload_n hx hb dX3_missingOrLoose_6 rfl (lv_at hl 0 rfl) ?_
  refine lv_if_eq (tgt := 12) hx hb dX3_missingOrLoose_7 (by decide) (fun c_7 => ?_) (fun c_7 => ?_)
  · have c_7 : (mis th x) = 0 := (nI_eq (a := (mis th x)) (b := 0) (by omega) (by omega)).mp c_7
    have h8 := mis_0 c_7
    refine lv_aload_n hx hb dX3_missingOrLoose_12 rfl (lv_at hl 1 rfl) ?_
    refine va_get (D := D) (ci := 3) (v := .ref (a 3)) (C := RX3) (T := TX3) (N := 4) hx hb hts inX3 hown hK hP 0 rfl rfl 2 (by decide) fl18 (fun _ h9 => h9) rfl dX3_missingOrLoose_13 ?_
    refine lv_iload_n hx hb dX3_missingOrLoose_16 rfl (lv_at hl 2 rfl) ?_
    refine xi_ald hx hb hK hP 3 0 rfl rfl (k := x) (by omega) (by decide) dX3_missingOrLoose_17 ?_
    have h1000 := (hh x h8.1).2
    refine tp (y := nI (hd x)) ((hh x h8.1).1) ?_
    refine lv_if_le (tgt := 25) hx hb dX3_missingOrLoose_18 (by decide) (fun c_18 => ?_) (fun c_18 => ?_)
    · have c_18 : (hd x) ≤ 0 := (nI_leI (a := (hd x)) (b := 0) (by omega) (by omega)).mp c_18
      refine lv_bipush (v := 7) hx hb dX3_missingOrLoose_25 (by decide) ?_
      exact Ri (D := D) () hx hb hr rfl hlocks hP hD hS (by rw [mol, if_pos c_7, if_pos (by omega)]; rfl) dX3_missingOrLoose_27
    · have c_18 : ¬ ((hd x) ≤ 0) := fun h => c_18 ((nI_leI (a := (hd x)) (b := 0) (by omega) (by omega)).mpr h)
      refine lv_iconst (v := 0) hx hb dX3_missingOrLoose_21 (by decide) ?_
      refine lv_goto (tgt := 27) hx hb dX3_missingOrLoose_22 (by decide) ?_
      exact Ri (D := D) () hx hb hr rfl hlocks hP hD hS (by rw [mol, if_pos c_7, if_neg (by omega)]; rfl) dX3_missingOrLoose_27
  · have c_7 : ¬ ((mis th x) = 0) := fun h => c_7 ((nI_eq (a := (mis th x)) (b := 0) (by omega) (by omega)).mpr h)
    refine lv_iload_n hx hb dX3_missingOrLoose_10 rfl (lv_at hl 0 rfl) ?_
    exact Ri (D := D) () hx hb hr rfl hlocks hP hD hS (by rw [mol, if_neg c_7]) dX3_missingOrLoose_11

set_option maxHeartbeats 4000000 in
set_option maxRecDepth 100000 in
theorem c_X3_put (l : Launch) (D : va_G) (cI : ClassId) (a : Nat → Nat) (g lf h : Nat → Int32) (r : Int32) (th : Nat → Bool) (go : Nat → Nat) (hg : gok g th go) (hd : Nat → Nat) (hh : hok h hd) (x : Nat) (hx16 : x < 16) (n : Nat) (hn16 : n < 16) : Ci l D [(cI, .int)] yX3_put wsX3_put ({ frames := 4, cells := 0, slots := 0, locals := 84 }) [.ref (a 0), .int (nI x), .int (nI n)] (wSt a cI g lf h r) (S := Nat → Int32) (fun v u => v = nI (A_put th go hd x n).1 ∧ gok u th (A_put th go hd x n).2) (fun u => wSt a cI u lf h r) := by
  refine Ci.mk (cc := cX3_put) (maxL := 4) (ret := (some .int)) (by decide +kernel) rfl (Nat.le_of_ble_eq_true rfl) ?_
  intro pg e s m below meth c A ls hx hb hml hr hown hts hlocks hK hns hA hP hD hS hl
  have hl : lv_has ls 4 [(0, .ref (a 0)), (1, .int (nI x)), (2, .int (nI n))] := hl
  have fl9 := hts (.fieldLink RX3 9 "HeldShelves$Stock" "goods" "[I") (List.mem_of_getElem? (i := 1) rfl)
  have inX3 : ∀ w ∈ wsX30, w ∈ wsX3_put := fun _ h => List.mem_cons_of_mem _ (List.mem_append_right _ h)
  have hP : va_P D vwCl [(a 0, .inr (3, [.ref (a 1), .ref (a 2), .ref (a 3), .int r])), (a 1, .inl (cI, 8, .inl g)), (a 2, .inl (cI, 8, .inl lf)), (a 3, .inl (cI, 8, .inl h))] s.heap := hP
  have hD : va_D A [(a 0, .inr (3, [.ref (a 1), .ref (a 2), .ref (a 3), .int r])), (a 1, .inl (cI, 8, .inl g)), (a 2, .inl (cI, 8, .inl lf)), (a 3, .inl (cI, 8, .inl h))] := hD
  have hm := mol_le (th := th) (hd := hd) (s := x)
  refine lv_aload_n hx hb dX3_put_0 rfl (lv_at hl 0 rfl) ?_
  refine lv_iload_n hx hb dX3_put_1 rfl (lv_at hl 1 rfl) ?_
  refine cl_Vi ([]) ([]) (As := [.int (nI x)]) (rest := []) (c_X3_missingOrLoose l D cI a g lf h r th go hg hd hh x hx16) ⟨hx, hb, hml, hown, hts⟩ (cwV 1 hts gX3_put_X3_missingOrLoose rfl rfl rfl (by decide +kernel) ⟨Nat.le_of_ble_eq_true rfl, Nat.le_of_ble_eq_true rfl⟩) hK hns hP hD hS hA rfl (T := TX3) (N := 4) rfl rfl hl.1 rfl (Nat.le_of_ble_eq_true rfl) dX3_put_2 ⟨Nat.zero_le _, Nat.zero_le _⟩ (fun r2 u2 H locs hw2 hP hD hS => ?_)
  have hP : va_P D vwCl [(a 0, .inr (3, [.ref (a 1), .ref (a 2), .ref (a 3), .int r])), (a 1, .inl (cI, 8, .inl g)), (a 2, .inl (cI, 8, .inl lf)), (a 3, .inl (cI, 8, .inl h))] H := hP
  have hD : va_D A [(a 0, .inr (3, [.ref (a 1), .ref (a 2), .ref (a 3), .int r])), (a 1, .inl (cI, 8, .inl g)), (a 2, .inl (cI, 8, .inl lf)), (a 3, .inl (cI, 8, .inl h))] := hD
  subst hw2
  refine lv_istore_n (lv' := [(3, .int (nI (mol th hd x))), (0, .ref (a 0)), (1, .int (nI x)), (2, .int (nI n))]) hx hb dX3_put_5 rfl hl (by decide) rfl (fun ls hl => ?_)
  refine lv_iload_n hx hb dX3_put_6 rfl (lv_at hl 0 rfl) ?_
  refine lv_if_eq (tgt := 12) hx hb dX3_put_7 (by decide) (fun c_7 => ?_) (fun c_7 => ?_)
  · have c_7 : (mol th hd x) = 0 := (nI_eq (a := (mol th hd x)) (b := 0) (by omega) (by omega)).mp c_7
    have h8 := mol_0 c_7
    have hgv := gok_v hg h8.1 h8.2.1
    have h1000 := (hg x h8.1).2
    refine lv_aload_n hx hb dX3_put_12 rfl (lv_at hl 1 rfl) ?_
    refine va_get (D := D) (ci := 3) (v := .ref (a 1)) (C := RX3) (T := TX3) (N := 4) hx hb hts inX3 hown hK hP 0 rfl rfl 0 (by decide) fl9 (fun _ h9 => h9) rfl dX3_put_13 ?_
    refine lv_iload_n hx hb dX3_put_16 rfl (lv_at hl 2 rfl) ?_
    refine xi_ald hx hb hK hP 1 0 rfl rfl (k := x) (by omega) (by decide) dX3_put_17 ?_
    refine tp (y := nI (go x)) (hgv) ?_
    refine lv_iload_n hx hb dX3_put_18 rfl (lv_at hl 3 rfl) ?_
    refine lv_iadd hx hb dX3_put_19 ?_
    refine tp (y := nI (go x + n)) (nI_add _ _) ?_
    refine lv_sipush (v := 1000) hx hb dX3_put_20 (by decide) ?_
    refine lv_icmp_le (tgt := 28) hx hb dX3_put_23 (by decide) (fun c_23 => ?_) (fun c_23 => ?_)
    · have c_23 : (go x + n) ≤ 1000 := (nI_leI (a := (go x + n)) (b := 1000) (by omega) (by omega)).mp c_23
      refine lv_aload_n hx hb dX3_put_28 rfl (lv_at hl 1 rfl) ?_
      refine va_get (D := D) (ci := 3) (v := .ref (a 1)) (C := RX3) (T := TX3) (N := 4) hx hb hts inX3 hown hK hP 0 rfl rfl 0 (by decide) fl9 (fun _ h9 => h9) rfl dX3_put_29 ?_
      refine lv_iload_n hx hb dX3_put_32 rfl (lv_at hl 2 rfl) ?_
      refine lv_dup2_11 hx hb dX3_put_33 rfl rfl ?_
      refine xi_ald hx hb hK hP 1 0 rfl rfl (k := x) (by omega) (by decide) dX3_put_34 ?_
      refine tp (y := nI (go x)) (hgv) ?_
      refine lv_iload_n hx hb dX3_put_35 rfl (lv_at hl 3 rfl) ?_
      refine lv_iadd hx hb dX3_put_36 ?_
      refine tp (y := nI (go x + n)) (nI_add _ _) ?_
      refine xi_ast hx hb hK hP hD hS 1 0 rfl rfl (k := x) (x := (nI (go x + n))) (by omega) (by decide) dX3_put_37 (fun H locs hP hD hS => ?_)
      have hP : va_P D vwCl [(a 0, .inr (3, [.ref (a 1), .ref (a 2), .ref (a 3), .int r])), (a 1, .inl (cI, 8, .inl (upd g x (nI (go x + n))))), (a 2, .inl (cI, 8, .inl lf)), (a 3, .inl (cI, 8, .inl h))] H := hP
      have hD : va_D A [(a 0, .inr (3, [.ref (a 1), .ref (a 2), .ref (a 3), .int r])), (a 1, .inl (cI, 8, .inl (upd g x (nI (go x + n))))), (a 2, .inl (cI, 8, .inl lf)), (a 3, .inl (cI, 8, .inl h))] := hD
      refine lv_iconst (v := 0) hx hb dX3_put_38 (by decide) ?_
      exact Ri (D := D) (upd g x (nI (go x + n))) hx hb hr rfl hlocks hP hD hS (by rw [A_put, if_pos c_7, if_neg (by omega)]; exact ⟨rfl, gok_up hg h8.2.1 (by omega)⟩) dX3_put_39
    · have c_23 : ¬ ((go x + n) ≤ 1000) := fun h => c_23 ((nI_leI (a := (go x + n)) (b := 1000) (by omega) (by omega)).mpr h)
      refine lv_iconst (v := 5) hx hb dX3_put_26 (by decide) ?_
      exact Ri (D := D) g hx hb hr rfl hlocks hP hD hS (by rw [A_put, if_pos c_7, if_pos (by omega)]; exact ⟨rfl, hg⟩) dX3_put_27
  · have c_7 : ¬ ((mol th hd x) = 0) := fun h => c_7 ((nI_eq (a := (mol th hd x)) (b := 0) (by omega) (by omega)).mpr h)
    refine lv_iload_n hx hb dX3_put_10 rfl (lv_at hl 0 rfl) ?_
    exact Ri (D := D) g hx hb hr rfl hlocks hP hD hS (by rw [A_put, if_neg c_7]; exact ⟨rfl, hg⟩) dX3_put_11

set_option maxHeartbeats 4000000 in
set_option maxRecDepth 100000 in
theorem c_X3_take (l : Launch) (D : va_G) (cI : ClassId) (a : Nat → Nat) (g lf h : Nat → Int32) (r : Int32) (th : Nat → Bool) (go : Nat → Nat) (hg : gok g th go) (hd : Nat → Nat) (hh : hok h hd) (x : Nat) (hx16 : x < 16) (n : Nat) (hn16 : n < 16) : Ci l D [(cI, .int)] yX3_take wsX3_take ({ frames := 4, cells := 0, slots := 0, locals := 84 }) [.ref (a 0), .int (nI x), .int (nI n)] (wSt a cI g lf h r) (S := Nat → Int32) (fun v u => v = nI (A_take th go hd x n).1 ∧ gok u th (A_take th go hd x n).2) (fun u => wSt a cI u lf h r) := by
  refine Ci.mk (cc := cX3_take) (maxL := 4) (ret := (some .int)) (by decide +kernel) rfl (Nat.le_of_ble_eq_true rfl) ?_
  intro pg e s m below meth c A ls hx hb hml hr hown hts hlocks hK hns hA hP hD hS hl
  have hl : lv_has ls 4 [(0, .ref (a 0)), (1, .int (nI x)), (2, .int (nI n))] := hl
  have fl9 := hts (.fieldLink RX3 9 "HeldShelves$Stock" "goods" "[I") (List.mem_of_getElem? (i := 1) rfl)
  have inX3 : ∀ w ∈ wsX30, w ∈ wsX3_take := fun _ h => List.mem_cons_of_mem _ (List.mem_append_right _ h)
  have hP : va_P D vwCl [(a 0, .inr (3, [.ref (a 1), .ref (a 2), .ref (a 3), .int r])), (a 1, .inl (cI, 8, .inl g)), (a 2, .inl (cI, 8, .inl lf)), (a 3, .inl (cI, 8, .inl h))] s.heap := hP
  have hD : va_D A [(a 0, .inr (3, [.ref (a 1), .ref (a 2), .ref (a 3), .int r])), (a 1, .inl (cI, 8, .inl g)), (a 2, .inl (cI, 8, .inl lf)), (a 3, .inl (cI, 8, .inl h))] := hD
  have hm := mol_le (th := th) (hd := hd) (s := x)
  refine lv_aload_n hx hb dX3_take_0 rfl (lv_at hl 0 rfl) ?_
  refine lv_iload_n hx hb dX3_take_1 rfl (lv_at hl 1 rfl) ?_
  refine cl_Vi ([]) ([]) (As := [.int (nI x)]) (rest := []) (c_X3_missingOrLoose l D cI a g lf h r th go hg hd hh x hx16) ⟨hx, hb, hml, hown, hts⟩ (cwV 1 hts gX3_take_X3_missingOrLoose rfl rfl rfl (by decide +kernel) ⟨Nat.le_of_ble_eq_true rfl, Nat.le_of_ble_eq_true rfl⟩) hK hns hP hD hS hA rfl (T := TX3) (N := 4) rfl rfl hl.1 rfl (Nat.le_of_ble_eq_true rfl) dX3_take_2 ⟨Nat.zero_le _, Nat.zero_le _⟩ (fun r2 u2 H locs hw2 hP hD hS => ?_)
  have hP : va_P D vwCl [(a 0, .inr (3, [.ref (a 1), .ref (a 2), .ref (a 3), .int r])), (a 1, .inl (cI, 8, .inl g)), (a 2, .inl (cI, 8, .inl lf)), (a 3, .inl (cI, 8, .inl h))] H := hP
  have hD : va_D A [(a 0, .inr (3, [.ref (a 1), .ref (a 2), .ref (a 3), .int r])), (a 1, .inl (cI, 8, .inl g)), (a 2, .inl (cI, 8, .inl lf)), (a 3, .inl (cI, 8, .inl h))] := hD
  subst hw2
  refine lv_istore_n (lv' := [(3, .int (nI (mol th hd x))), (0, .ref (a 0)), (1, .int (nI x)), (2, .int (nI n))]) hx hb dX3_take_5 rfl hl (by decide) rfl (fun ls hl => ?_)
  refine lv_iload_n hx hb dX3_take_6 rfl (lv_at hl 0 rfl) ?_
  refine lv_if_eq (tgt := 12) hx hb dX3_take_7 (by decide) (fun c_7 => ?_) (fun c_7 => ?_)
  · have c_7 : (mol th hd x) = 0 := (nI_eq (a := (mol th hd x)) (b := 0) (by omega) (by omega)).mp c_7
    have h8 := mol_0 c_7
    have hgv := gok_v hg h8.1 h8.2.1
    have h1000 := (hg x h8.1).2
    refine lv_iload_n hx hb dX3_take_12 rfl (lv_at hl 3 rfl) ?_
    refine lv_aload_n hx hb dX3_take_13 rfl (lv_at hl 1 rfl) ?_
    refine va_get (D := D) (ci := 3) (v := .ref (a 1)) (C := RX3) (T := TX3) (N := 4) hx hb hts inX3 hown hK hP 0 rfl rfl 0 (by decide) fl9 (fun _ h9 => h9) rfl dX3_take_14 ?_
    refine lv_iload_n hx hb dX3_take_17 rfl (lv_at hl 2 rfl) ?_
    refine xi_ald hx hb hK hP 1 0 rfl rfl (k := x) (by omega) (by decide) dX3_take_18 ?_
    refine tp (y := nI (go x)) (hgv) ?_
    refine lv_icmp_le (tgt := 24) hx hb dX3_take_19 (by decide) (fun c_19 => ?_) (fun c_19 => ?_)
    · have c_19 : n ≤ (go x) := (nI_leI (a := n) (b := (go x)) (by omega) (by omega)).mp c_19
      refine lv_aload_n hx hb dX3_take_24 rfl (lv_at hl 1 rfl) ?_
      refine va_get (D := D) (ci := 3) (v := .ref (a 1)) (C := RX3) (T := TX3) (N := 4) hx hb hts inX3 hown hK hP 0 rfl rfl 0 (by decide) fl9 (fun _ h9 => h9) rfl dX3_take_25 ?_
      refine lv_iload_n hx hb dX3_take_28 rfl (lv_at hl 2 rfl) ?_
      refine lv_dup2_11 hx hb dX3_take_29 rfl rfl ?_
      refine xi_ald hx hb hK hP 1 0 rfl rfl (k := x) (by omega) (by decide) dX3_take_30 ?_
      refine tp (y := nI (go x)) (hgv) ?_
      refine lv_iload_n hx hb dX3_take_31 rfl (lv_at hl 3 rfl) ?_
      refine lv_isub hx hb dX3_take_32 ?_
      refine tp (y := nI (go x - n)) (pk_sub (by omega)) ?_
      refine xi_ast hx hb hK hP hD hS 1 0 rfl rfl (k := x) (x := (nI (go x - n))) (by omega) (by decide) dX3_take_33 (fun H locs hP hD hS => ?_)
      have hP : va_P D vwCl [(a 0, .inr (3, [.ref (a 1), .ref (a 2), .ref (a 3), .int r])), (a 1, .inl (cI, 8, .inl (upd g x (nI (go x - n))))), (a 2, .inl (cI, 8, .inl lf)), (a 3, .inl (cI, 8, .inl h))] H := hP
      have hD : va_D A [(a 0, .inr (3, [.ref (a 1), .ref (a 2), .ref (a 3), .int r])), (a 1, .inl (cI, 8, .inl (upd g x (nI (go x - n))))), (a 2, .inl (cI, 8, .inl lf)), (a 3, .inl (cI, 8, .inl h))] := hD
      refine lv_iconst (v := 0) hx hb dX3_take_34 (by decide) ?_
      exact Ri (D := D) (upd g x (nI (go x - n))) hx hb hr rfl hlocks hP hD hS (by rw [A_take, if_pos c_7, if_neg (by omega)]; exact ⟨rfl, gok_up hg h8.2.1 (by omega)⟩) dX3_take_35
    · have c_19 : ¬ (n ≤ (go x)) := fun h => c_19 ((nI_leI (a := n) (b := (go x)) (by omega) (by omega)).mpr h)
      refine lv_iconst (v := 4) hx hb dX3_take_22 (by decide) ?_
      exact Ri (D := D) g hx hb hr rfl hlocks hP hD hS (by rw [A_take, if_pos c_7, if_pos (by omega)]; exact ⟨rfl, hg⟩) dX3_take_23
  · have c_7 : ¬ ((mol th hd x) = 0) := fun h => c_7 ((nI_eq (a := (mol th hd x)) (b := 0) (by omega) (by omega)).mpr h)
    refine lv_iload_n hx hb dX3_take_10 rfl (lv_at hl 0 rfl) ?_
    exact Ri (D := D) g hx hb hr rfl hlocks hP hD hS (by rw [A_take, if_neg c_7]; exact ⟨rfl, hg⟩) dX3_take_11

set_option maxHeartbeats 4000000 in
set_option maxRecDepth 100000 in
theorem c_X3_share (l : Launch) (D : va_G) (cI : ClassId) (a : Nat → Nat) (g lf h : Nat → Int32) (r : Int32) (th : Nat → Bool) (go : Nat → Nat) (hg : gok g th go) (hd : Nat → Nat) (hh : hok h hd) (x : Nat) (hx16 : x < 16) (n : Nat) (hn16 : n < 16) : Ci l D [(cI, .int)] yX3_share wsX3_share ({ frames := 4, cells := 0, slots := 0, locals := 84 }) [.ref (a 0), .int (nI x), .int (nI n)] (wSt a cI g lf h r) (S := (Nat → Int32) × Int32) (fun v u => v = nI (A_share th go hd r x n).1 ∧ gok u.1 th (A_share th go hd r x n).2.1 ∧ u.2 = (A_share th go hd r x n).2.2) (fun u => wSt a cI u.1 lf h u.2) := by
  refine Ci.mk (cc := cX3_share) (maxL := 5) (ret := (some .int)) (by decide +kernel) rfl (Nat.le_of_ble_eq_true rfl) ?_
  intro pg e s m below meth c A ls hx hb hml hr hown hts hlocks hK hns hA hP hD hS hl
  have hl : lv_has ls 5 [(0, .ref (a 0)), (1, .int (nI x)), (2, .int (nI n))] := hl
  have fl9 := hts (.fieldLink RX3 9 "HeldShelves$Stock" "goods" "[I") (List.mem_of_getElem? (i := 1) rfl)
  have inX3 : ∀ w ∈ wsX30, w ∈ wsX3_share := fun _ h => List.mem_cons_of_mem _ (List.mem_append_right _ h)
  have fl28 := hts (.fieldLink RX3 28 "HeldShelves$Stock" "rest" "I") (List.mem_of_getElem? (i := 2) rfl)
  have hP : va_P D vwCl [(a 0, .inr (3, [.ref (a 1), .ref (a 2), .ref (a 3), .int r])), (a 1, .inl (cI, 8, .inl g)), (a 2, .inl (cI, 8, .inl lf)), (a 3, .inl (cI, 8, .inl h))] s.heap := hP
  have hD : va_D A [(a 0, .inr (3, [.ref (a 1), .ref (a 2), .ref (a 3), .int r])), (a 1, .inl (cI, 8, .inl g)), (a 2, .inl (cI, 8, .inl lf)), (a 3, .inl (cI, 8, .inl h))] := hD
  have hm := mol_le (th := th) (hd := hd) (s := x)
  refine lv_aload_n hx hb dX3_share_0 rfl (lv_at hl 0 rfl) ?_
  refine lv_iload_n hx hb dX3_share_1 rfl (lv_at hl 1 rfl) ?_
  refine cl_Vi ([]) ([]) (As := [.int (nI x)]) (rest := []) (c_X3_missingOrLoose l D cI a g lf h r th go hg hd hh x hx16) ⟨hx, hb, hml, hown, hts⟩ (cwV 1 hts gX3_share_X3_missingOrLoose rfl rfl rfl (by decide +kernel) ⟨Nat.le_of_ble_eq_true rfl, Nat.le_of_ble_eq_true rfl⟩) hK hns hP hD hS hA rfl (T := TX3) (N := 4) rfl rfl hl.1 rfl (Nat.le_of_ble_eq_true rfl) dX3_share_2 ⟨Nat.zero_le _, Nat.zero_le _⟩ (fun r2 u2 H locs hw2 hP hD hS => ?_)
  have hP : va_P D vwCl [(a 0, .inr (3, [.ref (a 1), .ref (a 2), .ref (a 3), .int r])), (a 1, .inl (cI, 8, .inl g)), (a 2, .inl (cI, 8, .inl lf)), (a 3, .inl (cI, 8, .inl h))] H := hP
  have hD : va_D A [(a 0, .inr (3, [.ref (a 1), .ref (a 2), .ref (a 3), .int r])), (a 1, .inl (cI, 8, .inl g)), (a 2, .inl (cI, 8, .inl lf)), (a 3, .inl (cI, 8, .inl h))] := hD
  subst hw2
  refine lv_istore_n (lv' := [(3, .int (nI (mol th hd x))), (0, .ref (a 0)), (1, .int (nI x)), (2, .int (nI n))]) hx hb dX3_share_5 rfl hl (by decide) rfl (fun ls hl => ?_)
  refine lv_iload_n hx hb dX3_share_6 rfl (lv_at hl 0 rfl) ?_
  refine lv_if_eq (tgt := 12) hx hb dX3_share_7 (by decide) (fun c_7 => ?_) (fun c_7 => ?_)
  · have c_7 : (mol th hd x) = 0 := (nI_eq (a := (mol th hd x)) (b := 0) (by omega) (by omega)).mp c_7
    have h8 := mol_0 c_7
    have hgv := gok_v hg h8.1 h8.2.1
    have h1000 := (hg x h8.1).2
    refine lv_iload_n hx hb dX3_share_12 rfl (lv_at hl 3 rfl) ?_
    refine lv_if_ne (tgt := 18) hx hb dX3_share_13 (by decide) (fun c_13 => ?_) (fun c_13 => ?_)
    · have c_13 : ¬ (n = 0) := fun h => c_13 ((nI_eq (a := n) (b := 0) (by omega) (by omega)).mpr h)
      refine lv_aload_n hx hb dX3_share_18 rfl (lv_at hl 1 rfl) ?_
      refine va_get (D := D) (ci := 3) (v := .ref (a 1)) (C := RX3) (T := TX3) (N := 4) hx hb hts inX3 hown hK hP 0 rfl rfl 0 (by decide) fl9 (fun _ h9 => h9) rfl dX3_share_19 ?_
      refine lv_iload_n hx hb dX3_share_22 rfl (lv_at hl 2 rfl) ?_
      refine xi_ald hx hb hK hP 1 0 rfl rfl (k := x) (by omega) (by decide) dX3_share_23 ?_
      refine tp (y := nI (go x)) (hgv) ?_
      refine lv_iload_n hx hb dX3_share_24 rfl (lv_at hl 3 rfl) ?_
      refine lv_idiv hx hb dX3_share_25 (fun q => c_13 ((nI_eq (a := n) (b := 0) (by omega) (by omega)).mp q)) ?_
      have hdl : go x / n ≤ go x := Nat.div_le_self _ _
      refine tp (y := nI (go x / n)) (pk_div (by omega) (by omega) (by omega)) ?_
      refine lv_istore (lv' := [(4, .int (nI (go x / n))), (3, .int (nI (mol th hd x))), (0, .ref (a 0)), (1, .int (nI x)), (2, .int (nI n))]) hx hb dX3_share_26 hl (by decide) rfl (fun ls hl => ?_)
      refine lv_aload_n hx hb dX3_share_28 rfl (lv_at hl 2 rfl) ?_
      refine lv_dup hx hb dX3_share_29 rfl ?_
      refine va_get (D := D) (ci := 3) (v := .int r) (C := RX3) (T := TX3) (N := 4) hx hb hts inX3 hown hK hP 0 rfl rfl 3 (by decide) fl28 (fun _ h9 => h9) rfl dX3_share_30 ?_
      refine lv_aload_n hx hb dX3_share_33 rfl (lv_at hl 2 rfl) ?_
      refine va_get (D := D) (ci := 3) (v := .ref (a 1)) (C := RX3) (T := TX3) (N := 4) hx hb hts inX3 hown hK hP 0 rfl rfl 0 (by decide) fl9 (fun _ h9 => h9) rfl dX3_share_34 ?_
      refine lv_iload_n hx hb dX3_share_37 rfl (lv_at hl 3 rfl) ?_
      refine xi_ald hx hb hK hP 1 0 rfl rfl (k := x) (by omega) (by decide) dX3_share_38 ?_
      refine tp (y := nI (go x)) (hgv) ?_
      refine lv_iload hx hb dX3_share_39 (lv_at hl 0 rfl) ?_
      refine lv_isub hx hb dX3_share_41 ?_
      refine tp (y := nI (go x - go x / n)) (pk_sub (by omega)) ?_
      refine lv_iadd hx hb dX3_share_42 ?_
      refine va_put (D := D) (ci := 3) (v := .int (r + (nI (go x - go x / n)))) (ty := .int) (C := RX3) (T := TX3) (N := 4) hx hb hts inX3 tyX3 tyX3_ok nmX3 hown hK hP hD hS 0 rfl rfl 3 (by decide) fl28 (fun _ h9 => h9) rfl (by decide +kernel) rfl rfl (Nat.le_of_ble_eq_true rfl) dX3_share_43 (fun H locs hP hD hS => ?_)
      have hP : va_P D vwCl [(a 0, .inr (3, [.ref (a 1), .ref (a 2), .ref (a 3), .int (r + (nI (go x - go x / n)))])), (a 1, .inl (cI, 8, .inl g)), (a 2, .inl (cI, 8, .inl lf)), (a 3, .inl (cI, 8, .inl h))] H := hP
      have hD : va_D A [(a 0, .inr (3, [.ref (a 1), .ref (a 2), .ref (a 3), .int (r + (nI (go x - go x / n)))])), (a 1, .inl (cI, 8, .inl g)), (a 2, .inl (cI, 8, .inl lf)), (a 3, .inl (cI, 8, .inl h))] := hD
      refine lv_aload_n hx hb dX3_share_46 rfl (lv_at hl 2 rfl) ?_
      refine va_get (D := D) (ci := 3) (v := .ref (a 1)) (C := RX3) (T := TX3) (N := 4) hx hb hts inX3 hown hK hP 0 rfl rfl 0 (by decide) fl9 (fun _ h9 => h9) rfl dX3_share_47 ?_
      refine lv_iload_n hx hb dX3_share_50 rfl (lv_at hl 3 rfl) ?_
      refine lv_iload hx hb dX3_share_51 (lv_at hl 0 rfl) ?_
      refine xi_ast hx hb hK hP hD hS 1 0 rfl rfl (k := x) (x := (nI (go x / n))) (by omega) (by decide) dX3_share_53 (fun H locs hP hD hS => ?_)
      have hP : va_P D vwCl [(a 0, .inr (3, [.ref (a 1), .ref (a 2), .ref (a 3), .int (r + (nI (go x - go x / n)))])), (a 1, .inl (cI, 8, .inl (upd g x (nI (go x / n))))), (a 2, .inl (cI, 8, .inl lf)), (a 3, .inl (cI, 8, .inl h))] H := hP
      have hD : va_D A [(a 0, .inr (3, [.ref (a 1), .ref (a 2), .ref (a 3), .int (r + (nI (go x - go x / n)))])), (a 1, .inl (cI, 8, .inl (upd g x (nI (go x / n))))), (a 2, .inl (cI, 8, .inl lf)), (a 3, .inl (cI, 8, .inl h))] := hD
      refine lv_iconst (v := 0) hx hb dX3_share_54 (by decide) ?_
      exact Ri (D := D) (upd g x (nI (go x / n)), r + nI (go x - go x / n)) hx hb hr rfl hlocks hP hD hS (by rw [A_share, if_pos c_7, if_neg c_13]; exact ⟨rfl, gok_up hg h8.2.1 (by omega), rfl⟩) dX3_share_55
    · have c_13 : n = 0 := (nI_eq (a := n) (b := 0) (by omega) (by omega)).mp c_13
      refine lv_iconst (v := 3) hx hb dX3_share_16 (by decide) ?_
      exact Ri (D := D) (g, r) hx hb hr rfl hlocks hP hD hS (by rw [A_share, if_pos c_7, if_pos c_13]; exact ⟨rfl, hg, rfl⟩) dX3_share_17
  · have c_7 : ¬ ((mol th hd x) = 0) := fun h => c_7 ((nI_eq (a := (mol th hd x)) (b := 0) (by omega) (by omega)).mpr h)
    refine lv_iload_n hx hb dX3_share_10 rfl (lv_at hl 0 rfl) ?_
    exact Ri (D := D) (g, r) hx hb hr rfl hlocks hP hD hS (by rw [A_share, if_neg c_7]; exact ⟨rfl, hg, rfl⟩) dX3_share_11

set_option maxHeartbeats 4000000 in
set_option maxRecDepth 100000 in
theorem c_X3_move (l : Launch) (D : va_G) (cI : ClassId) (a : Nat → Nat) (g lf h : Nat → Int32) (r : Int32) (th : Nat → Bool) (go : Nat → Nat) (hg : gok g th go) (x y n : Nat) (hx16 : x < 16) (hy16 : y < 16) (hn16 : n < 16) : Ci l D [(cI, .int)] yX3_move wsX3_move ({ frames := 2, cells := 0, slots := 0, locals := 41 }) [.ref (a 0), .int (nI x), .int (nI y), .int (nI n)] (wSt a cI g lf h r) (S := Nat → Int32) (fun v u => v = nI (A_move th go x y n).1 ∧ gok u th (A_move th go x y n).2) (fun u => wSt a cI u lf h r) := by
  refine Ci.mk (cc := cX3_move) (maxL := 4) (ret := (some .int)) (by decide +kernel) rfl (Nat.le_of_ble_eq_true rfl) ?_
  intro pg e s m below meth c A ls hx hb hml hr hown hts hlocks hK hns hA hP hD hS hl
  have hl : lv_has ls 4 [(0, .ref (a 0)), (1, .int (nI x)), (2, .int (nI y)), (3, .int (nI n))] := hl
  have fl9 := hts (.fieldLink RX3 9 "HeldShelves$Stock" "goods" "[I") (List.mem_of_getElem? (i := 1) rfl)
  have inX3 : ∀ w ∈ wsX30, w ∈ wsX3_move := fun _ h => List.mem_cons_of_mem _ (List.mem_append_right _ h)
  have hP : va_P D vwCl [(a 0, .inr (3, [.ref (a 1), .ref (a 2), .ref (a 3), .int r])), (a 1, .inl (cI, 8, .inl g)), (a 2, .inl (cI, 8, .inl lf)), (a 3, .inl (cI, 8, .inl h))] s.heap := hP
  have hD : va_D A [(a 0, .inr (3, [.ref (a 1), .ref (a 2), .ref (a 3), .int r])), (a 1, .inl (cI, 8, .inl g)), (a 2, .inl (cI, 8, .inl lf)), (a 3, .inl (cI, 8, .inl h))] := hD
  refine lv_iload_n hx hb dX3_move_0 rfl (lv_at hl 1 rfl) ?_
  refine cl_SNi (As := [.int (nI x)]) (rest := []) (c_X4_isShelf l D (nI x)) ⟨hx, hb, hml, hown, hts⟩ ⟨va_cnB 1 hts gX3_move_X4_isShelf_n21 rfl rfl rfl hns (hts (.initialized RX4) (by decide +kernel)) (by decide +kernel) ⟨Nat.le_of_ble_eq_true rfl, Nat.le_of_ble_eq_true rfl⟩, hts (.static yX4_isShelf) (by decide +kernel), trivial⟩ hK hns hP hD hS hA rfl hl.1 rfl (Nat.le_of_ble_eq_true rfl) dX3_move_1 ⟨Nat.zero_le _, Nat.zero_le _⟩ (fun r1 u1 H locs hw1 hP hD hS => ?_)
  rcases hw1 with ⟨rfl, hs1⟩ | ⟨rfl, hs1⟩
  · have hs1 : x < 8 := (inN_nI (by omega) (by omega)).mp hs1
    refine lv_if_eq (tgt := 14) hx hb dX3_move_4 (by decide) (fun c9 => absurd c9 (by decide)) (fun _ => ?_)
    refine lv_iload_n hx hb dX3_move_7 rfl (lv_at hl 2 rfl) ?_
    refine cl_SNi (As := [.int (nI y)]) (rest := []) (c_X4_isShelf l D (nI y)) ⟨hx, hb, hml, hown, hts⟩ ⟨va_cnB 1 hts gX3_move_X4_isShelf_n21 rfl rfl rfl hns (hts (.initialized RX4) (by decide +kernel)) (by decide +kernel) ⟨Nat.le_of_ble_eq_true rfl, Nat.le_of_ble_eq_true rfl⟩, hts (.static yX4_isShelf) (by decide +kernel), trivial⟩ hK hns hP hD hS hA rfl hl.1 rfl (Nat.le_of_ble_eq_true rfl) dX3_move_8 ⟨Nat.zero_le _, Nat.zero_le _⟩ (fun r8 u8 H locs hw8 hP hD hS => ?_)
    rcases hw8 with ⟨rfl, hs8⟩ | ⟨rfl, hs8⟩
    · have hs8 : y < 8 := (inN_nI (by omega) (by omega)).mp hs8
      refine lv_if_ne (tgt := 16) hx hb dX3_move_11 (by decide) (fun _ => ?_) (fun c9 => absurd c9 (by decide))
      refine lv_aload_n hx hb dX3_move_16 rfl (lv_at hl 0 rfl) ?_
      refine lv_iload_n hx hb dX3_move_17 rfl (lv_at hl 1 rfl) ?_
      refine cl_Vi ([]) ([]) (As := [.int (nI x)]) (rest := []) (c_X3_isThere l D cI a g lf h r th go hg x (by omega)) ⟨hx, hb, hml, hown, hts⟩ (cwV 1 hts gX3_move_X3_isThere rfl rfl rfl (by decide +kernel) ⟨Nat.le_of_ble_eq_true rfl, Nat.le_of_ble_eq_true rfl⟩) hK hns hP hD hS hA rfl (T := TX3) (N := 4) rfl rfl hl.1 rfl (Nat.le_of_ble_eq_true rfl) dX3_move_18 ⟨Nat.zero_le _, Nat.zero_le _⟩ (fun r18 u18 H locs hw18 hP hD hS => ?_)
      have hP : va_P D vwCl [(a 0, .inr (3, [.ref (a 1), .ref (a 2), .ref (a 3), .int r])), (a 1, .inl (cI, 8, .inl g)), (a 2, .inl (cI, 8, .inl lf)), (a 3, .inl (cI, 8, .inl h))] H := hP
      have hD : va_D A [(a 0, .inr (3, [.ref (a 1), .ref (a 2), .ref (a 3), .int r])), (a 1, .inl (cI, 8, .inl g)), (a 2, .inl (cI, 8, .inl lf)), (a 3, .inl (cI, 8, .inl h))] := hD
      rcases hw18 with ⟨rfl, ht18⟩ | ⟨rfl, ht18⟩
      · refine lv_if_eq (tgt := 32) hx hb dX3_move_21 (by decide) (fun c9 => absurd c9 (by decide)) (fun _ => ?_)
        refine lv_aload_n hx hb dX3_move_24 rfl (lv_at hl 0 rfl) ?_
        refine lv_iload_n hx hb dX3_move_25 rfl (lv_at hl 2 rfl) ?_
        refine cl_Vi ([]) ([]) (As := [.int (nI y)]) (rest := []) (c_X3_isThere l D cI a g lf h r th go hg y (by omega)) ⟨hx, hb, hml, hown, hts⟩ (cwV 1 hts gX3_move_X3_isThere rfl rfl rfl (by decide +kernel) ⟨Nat.le_of_ble_eq_true rfl, Nat.le_of_ble_eq_true rfl⟩) hK hns hP hD hS hA rfl (T := TX3) (N := 4) rfl rfl hl.1 rfl (Nat.le_of_ble_eq_true rfl) dX3_move_26 ⟨Nat.zero_le _, Nat.zero_le _⟩ (fun r26 u26 H locs hw26 hP hD hS => ?_)
        have hP : va_P D vwCl [(a 0, .inr (3, [.ref (a 1), .ref (a 2), .ref (a 3), .int r])), (a 1, .inl (cI, 8, .inl g)), (a 2, .inl (cI, 8, .inl lf)), (a 3, .inl (cI, 8, .inl h))] H := hP
        have hD : va_D A [(a 0, .inr (3, [.ref (a 1), .ref (a 2), .ref (a 3), .int r])), (a 1, .inl (cI, 8, .inl g)), (a 2, .inl (cI, 8, .inl lf)), (a 3, .inl (cI, 8, .inl h))] := hD
        rcases hw26 with ⟨rfl, ht26⟩ | ⟨rfl, ht26⟩
        · refine lv_if_ne (tgt := 34) hx hb dX3_move_29 (by decide) (fun _ => ?_) (fun c9 => absurd c9 (by decide))
          refine lv_iload_n hx hb dX3_move_34 rfl (lv_at hl 3 rfl) ?_
          refine lv_aload_n hx hb dX3_move_35 rfl (lv_at hl 0 rfl) ?_
          refine va_get (D := D) (ci := 3) (v := .ref (a 1)) (C := RX3) (T := TX3) (N := 4) hx hb hts inX3 hown hK hP 0 rfl rfl 0 (by decide) fl9 (fun _ h9 => h9) rfl dX3_move_36 ?_
          refine lv_iload_n hx hb dX3_move_39 rfl (lv_at hl 1 rfl) ?_
          refine xi_ald hx hb hK hP 1 0 rfl rfl (k := x) (by omega) (by decide) dX3_move_40 ?_
          have h1x := (hg x hs1).2
          have h1y := (hg y hs8).2
          refine tp (y := nI (go x)) (gok_v hg ht18.1 ht18.2) ?_
          refine lv_icmp_le (tgt := 46) hx hb dX3_move_41 (by decide) (fun c_41 => ?_) (fun c_41 => ?_)
          · have c_41 : n ≤ (go x) := (nI_leI (a := n) (b := (go x)) (by omega) (by omega)).mp c_41
            refine lv_iload_n hx hb dX3_move_46 rfl (lv_at hl 1 rfl) ?_
            refine lv_iload_n hx hb dX3_move_47 rfl (lv_at hl 2 rfl) ?_
            refine lv_icmp_eq (tgt := 67) hx hb dX3_move_48 (by decide) (fun c_48 => ?_) (fun c_48 => ?_)
            · have c_48 : x = y := (nI_eq (a := x) (b := y) (by omega) (by omega)).mp c_48
              refine lv_aload_n hx hb dX3_move_67 rfl (lv_at hl 0 rfl) ?_
              refine va_get (D := D) (ci := 3) (v := .ref (a 1)) (C := RX3) (T := TX3) (N := 4) hx hb hts inX3 hown hK hP 0 rfl rfl 0 (by decide) fl9 (fun _ h9 => h9) rfl dX3_move_68 ?_
              refine lv_iload_n hx hb dX3_move_71 rfl (lv_at hl 1 rfl) ?_
              refine lv_dup2_11 hx hb dX3_move_72 rfl rfl ?_
              refine xi_ald hx hb hK hP 1 0 rfl rfl (k := x) (by omega) (by decide) dX3_move_73 ?_
              refine tp (y := nI (go x)) (gok_v hg ht18.1 ht18.2) ?_
              refine lv_iload_n hx hb dX3_move_74 rfl (lv_at hl 3 rfl) ?_
              refine lv_isub hx hb dX3_move_75 ?_
              refine tp (y := nI (go x - n)) (pk_sub (by omega)) ?_
              refine xi_ast hx hb hK hP hD hS 1 0 rfl rfl (k := x) (x := (nI (go x - n))) (by omega) (by decide) dX3_move_76 (fun H locs hP hD hS => ?_)
              have hP : va_P D vwCl [(a 0, .inr (3, [.ref (a 1), .ref (a 2), .ref (a 3), .int r])), (a 1, .inl (cI, 8, .inl (upd g x (nI (go x - n))))), (a 2, .inl (cI, 8, .inl lf)), (a 3, .inl (cI, 8, .inl h))] H := hP
              have hD : va_D A [(a 0, .inr (3, [.ref (a 1), .ref (a 2), .ref (a 3), .int r])), (a 1, .inl (cI, 8, .inl (upd g x (nI (go x - n))))), (a 2, .inl (cI, 8, .inl lf)), (a 3, .inl (cI, 8, .inl h))] := hD
              have hg2 : gok (upd g x (nI (go x - n))) th (va_up go x (go x - n)) := gok_up hg ht18.2 (by omega)
              refine lv_aload_n hx hb dX3_move_77 rfl (lv_at hl 0 rfl) ?_
              refine va_get (D := D) (ci := 3) (v := .ref (a 1)) (C := RX3) (T := TX3) (N := 4) hx hb hts inX3 hown hK hP 0 rfl rfl 0 (by decide) fl9 (fun _ h9 => h9) rfl dX3_move_78 ?_
              refine lv_iload_n hx hb dX3_move_81 rfl (lv_at hl 2 rfl) ?_
              refine lv_dup2_11 hx hb dX3_move_82 rfl rfl ?_
              refine xi_ald hx hb hK hP 1 0 rfl rfl (k := y) (by omega) (by decide) dX3_move_83 ?_
              refine tp (y := nI (va_up go x (go x - n) y)) (gok_v hg2 ht26.1 ht26.2) ?_
              refine lv_iload_n hx hb dX3_move_84 rfl (lv_at hl 3 rfl) ?_
              refine lv_iadd hx hb dX3_move_85 ?_
              refine tp (y := nI (va_up go x (go x - n) y + n)) (nI_add _ _) ?_
              refine xi_ast hx hb hK hP hD hS 1 0 rfl rfl (k := y) (x := (nI (va_up go x (go x - n) y + n))) (by omega) (by decide) dX3_move_86 (fun H locs hP hD hS => ?_)
              have hP : va_P D vwCl [(a 0, .inr (3, [.ref (a 1), .ref (a 2), .ref (a 3), .int r])), (a 1, .inl (cI, 8, .inl (upd (upd g x (nI (go x - n))) y (nI (va_up go x (go x - n) y + n))))), (a 2, .inl (cI, 8, .inl lf)), (a 3, .inl (cI, 8, .inl h))] H := hP
              have hD : va_D A [(a 0, .inr (3, [.ref (a 1), .ref (a 2), .ref (a 3), .int r])), (a 1, .inl (cI, 8, .inl (upd (upd g x (nI (go x - n))) y (nI (va_up go x (go x - n) y + n))))), (a 2, .inl (cI, 8, .inl lf)), (a 3, .inl (cI, 8, .inl h))] := hD
              refine lv_iconst (v := 0) hx hb dX3_move_87 (by decide) ?_
              exact Ri (D := D) (upd (upd g x (nI (go x - n))) y (nI (va_up go x (go x - n) y + n))) hx hb hr rfl hlocks hP hD hS (by rw [A_move, if_neg (by omega), if_neg (A_mv ht18.2 ht26.2), if_neg (by omega), if_neg (by omega)]; exact ⟨rfl, gok_up hg2 ht26.2 (A_mvb (by omega) (by omega) (by omega))⟩) dX3_move_88
            · have c_48 : ¬ (x = y) := fun h => c_48 ((nI_eq (a := x) (b := y) (by omega) (by omega)).mpr h)
              refine lv_aload_n hx hb dX3_move_51 rfl (lv_at hl 0 rfl) ?_
              refine va_get (D := D) (ci := 3) (v := .ref (a 1)) (C := RX3) (T := TX3) (N := 4) hx hb hts inX3 hown hK hP 0 rfl rfl 0 (by decide) fl9 (fun _ h9 => h9) rfl dX3_move_52 ?_
              refine lv_iload_n hx hb dX3_move_55 rfl (lv_at hl 2 rfl) ?_
              refine xi_ald hx hb hK hP 1 0 rfl rfl (k := y) (by omega) (by decide) dX3_move_56 ?_
              refine tp (y := nI (go y)) (gok_v hg ht26.1 ht26.2) ?_
              refine lv_iload_n hx hb dX3_move_57 rfl (lv_at hl 3 rfl) ?_
              refine lv_iadd hx hb dX3_move_58 ?_
              refine tp (y := nI (go y + n)) (nI_add _ _) ?_
              refine lv_sipush (v := 1000) hx hb dX3_move_59 (by decide) ?_
              refine lv_icmp_le (tgt := 67) hx hb dX3_move_62 (by decide) (fun c_62 => ?_) (fun c_62 => ?_)
              · have c_62 : (go y + n) ≤ 1000 := (nI_leI (a := (go y + n)) (b := 1000) (by omega) (by omega)).mp c_62
                refine lv_aload_n hx hb dX3_move_67 rfl (lv_at hl 0 rfl) ?_
                refine va_get (D := D) (ci := 3) (v := .ref (a 1)) (C := RX3) (T := TX3) (N := 4) hx hb hts inX3 hown hK hP 0 rfl rfl 0 (by decide) fl9 (fun _ h9 => h9) rfl dX3_move_68 ?_
                refine lv_iload_n hx hb dX3_move_71 rfl (lv_at hl 1 rfl) ?_
                refine lv_dup2_11 hx hb dX3_move_72 rfl rfl ?_
                refine xi_ald hx hb hK hP 1 0 rfl rfl (k := x) (by omega) (by decide) dX3_move_73 ?_
                refine tp (y := nI (go x)) (gok_v hg ht18.1 ht18.2) ?_
                refine lv_iload_n hx hb dX3_move_74 rfl (lv_at hl 3 rfl) ?_
                refine lv_isub hx hb dX3_move_75 ?_
                refine tp (y := nI (go x - n)) (pk_sub (by omega)) ?_
                refine xi_ast hx hb hK hP hD hS 1 0 rfl rfl (k := x) (x := (nI (go x - n))) (by omega) (by decide) dX3_move_76 (fun H locs hP hD hS => ?_)
                have hP : va_P D vwCl [(a 0, .inr (3, [.ref (a 1), .ref (a 2), .ref (a 3), .int r])), (a 1, .inl (cI, 8, .inl (upd g x (nI (go x - n))))), (a 2, .inl (cI, 8, .inl lf)), (a 3, .inl (cI, 8, .inl h))] H := hP
                have hD : va_D A [(a 0, .inr (3, [.ref (a 1), .ref (a 2), .ref (a 3), .int r])), (a 1, .inl (cI, 8, .inl (upd g x (nI (go x - n))))), (a 2, .inl (cI, 8, .inl lf)), (a 3, .inl (cI, 8, .inl h))] := hD
                have hg2 : gok (upd g x (nI (go x - n))) th (va_up go x (go x - n)) := gok_up hg ht18.2 (by omega)
                refine lv_aload_n hx hb dX3_move_77 rfl (lv_at hl 0 rfl) ?_
                refine va_get (D := D) (ci := 3) (v := .ref (a 1)) (C := RX3) (T := TX3) (N := 4) hx hb hts inX3 hown hK hP 0 rfl rfl 0 (by decide) fl9 (fun _ h9 => h9) rfl dX3_move_78 ?_
                refine lv_iload_n hx hb dX3_move_81 rfl (lv_at hl 2 rfl) ?_
                refine lv_dup2_11 hx hb dX3_move_82 rfl rfl ?_
                refine xi_ald hx hb hK hP 1 0 rfl rfl (k := y) (by omega) (by decide) dX3_move_83 ?_
                refine tp (y := nI (va_up go x (go x - n) y)) (gok_v hg2 ht26.1 ht26.2) ?_
                refine lv_iload_n hx hb dX3_move_84 rfl (lv_at hl 3 rfl) ?_
                refine lv_iadd hx hb dX3_move_85 ?_
                refine tp (y := nI (va_up go x (go x - n) y + n)) (nI_add _ _) ?_
                refine xi_ast hx hb hK hP hD hS 1 0 rfl rfl (k := y) (x := (nI (va_up go x (go x - n) y + n))) (by omega) (by decide) dX3_move_86 (fun H locs hP hD hS => ?_)
                have hP : va_P D vwCl [(a 0, .inr (3, [.ref (a 1), .ref (a 2), .ref (a 3), .int r])), (a 1, .inl (cI, 8, .inl (upd (upd g x (nI (go x - n))) y (nI (va_up go x (go x - n) y + n))))), (a 2, .inl (cI, 8, .inl lf)), (a 3, .inl (cI, 8, .inl h))] H := hP
                have hD : va_D A [(a 0, .inr (3, [.ref (a 1), .ref (a 2), .ref (a 3), .int r])), (a 1, .inl (cI, 8, .inl (upd (upd g x (nI (go x - n))) y (nI (va_up go x (go x - n) y + n))))), (a 2, .inl (cI, 8, .inl lf)), (a 3, .inl (cI, 8, .inl h))] := hD
                refine lv_iconst (v := 0) hx hb dX3_move_87 (by decide) ?_
                exact Ri (D := D) (upd (upd g x (nI (go x - n))) y (nI (va_up go x (go x - n) y + n))) hx hb hr rfl hlocks hP hD hS (by rw [A_move, if_neg (by omega), if_neg (A_mv ht18.2 ht26.2), if_neg (by omega), if_neg (by omega)]; exact ⟨rfl, gok_up hg2 ht26.2 (A_mvb (by omega) (by omega) (by omega))⟩) dX3_move_88
              · have c_62 : ¬ ((go y + n) ≤ 1000) := fun h => c_62 ((nI_leI (a := (go y + n)) (b := 1000) (by omega) (by omega)).mpr h)
                refine lv_iconst (v := 5) hx hb dX3_move_65 (by decide) ?_
                exact Ri (D := D) g hx hb hr rfl hlocks hP hD hS (by rw [A_move, if_neg (by omega), if_neg (A_mv ht18.2 ht26.2), if_neg (by omega), if_pos (by omega)]; exact ⟨rfl, hg⟩) dX3_move_66
          · have c_41 : ¬ (n ≤ (go x)) := fun h => c_41 ((nI_leI (a := n) (b := (go x)) (by omega) (by omega)).mpr h)
            refine lv_iconst (v := 4) hx hb dX3_move_44 (by decide) ?_
            exact Ri (D := D) g hx hb hr rfl hlocks hP hD hS (by rw [A_move, if_neg (by omega), if_neg (A_mv ht18.2 ht26.2), if_pos (by omega)]; exact ⟨rfl, hg⟩) dX3_move_45
        · refine lv_if_ne (tgt := 34) hx hb dX3_move_29 (by decide) (fun c9 => absurd rfl c9) (fun _ => ?_)
          refine lv_iconst (v := 2) hx hb dX3_move_32 (by decide) ?_
          exact Ri (D := D) g hx hb hr rfl hlocks hP hD hS (by rw [A_move, if_neg (by omega), if_pos (by first | exact Or.inl (Bool.eq_false_iff.mpr (fun q => ht18 ⟨hs1, q⟩)) | exact Or.inr (Bool.eq_false_iff.mpr (fun q => ht26 ⟨hs8, q⟩)))]; exact ⟨rfl, hg⟩) dX3_move_33
      · refine lv_if_eq (tgt := 32) hx hb dX3_move_21 (by decide) (fun _ => ?_) (fun c9 => absurd (by decide) c9)
        refine lv_iconst (v := 2) hx hb dX3_move_32 (by decide) ?_
        exact Ri (D := D) g hx hb hr rfl hlocks hP hD hS (by rw [A_move, if_neg (by omega), if_pos (by first | exact Or.inl (Bool.eq_false_iff.mpr (fun q => ht18 ⟨hs1, q⟩)) | exact Or.inr (Bool.eq_false_iff.mpr (fun q => ht26 ⟨hs8, q⟩)))]; exact ⟨rfl, hg⟩) dX3_move_33
    · have hs8 : ¬ y < 8 := fun h => hs8 ((inN_nI (by omega) (by omega)).mpr h)
      refine lv_if_ne (tgt := 16) hx hb dX3_move_11 (by decide) (fun c9 => absurd rfl c9) (fun _ => ?_)
      refine lv_iconst (v := 1) hx hb dX3_move_14 (by decide) ?_
      exact Ri (D := D) g hx hb hr rfl hlocks hP hD hS (by rw [A_move, if_pos (by omega)]; exact ⟨rfl, hg⟩) dX3_move_15
  · have hs1 : ¬ x < 8 := fun h => hs1 ((inN_nI (by omega) (by omega)).mpr h)
    refine lv_if_eq (tgt := 14) hx hb dX3_move_4 (by decide) (fun _ => ?_) (fun c9 => absurd (by decide) c9)
    refine lv_iconst (v := 1) hx hb dX3_move_14 (by decide) ?_
    exact Ri (D := D) g hx hb hr rfl hlocks hP hD hS (by rw [A_move, if_pos (by omega)]; exact ⟨rfl, hg⟩) dX3_move_15
end
section
/-! the machine in numbers. K: what is open, the innermost first: (0, shelf, 0) a HOLD, (1, failure, act) a TRY, (8, plan, act to come) a CALL -/
abbrev KL : Type := List (Nat × Nat × Nat)
abbrev GP : Type := (Nat → Nat) × (Nat → Nat → Nat) × (Nat → Bool)
/-- goods, left, rest, told, caught, steps, plan, act to come, open -/
abbrev CF : Type := (Nat → Nat) × (Nat → Int32) × Int32 × (Nat → Int32) × (Nat → Int32) × Nat × Nat × Nat × KL
def cnt : KL → Nat → Nat
  | [], _ => 0
  | e :: K, s => cnt K s + (if e.1 = 0 ∧ e.2.1 = s then 1 else 0)
def hn : KL → Nat
  | [] => 0
  | e :: K => hn K + (if e.1 = 0 then 1 else 0)
def lvl : KL → Nat
  | [] => 0
  | e :: K => lvl K + (if e.1 = 8 then 1 else 0)
def bl : KL → Nat
  | [] => 0
  | e :: K => bl K + (if e.1 = 8 then 0 else 1)
theorem cnt_le : ∀ (K : KL) (s : Nat), cnt K s ≤ K.length
  | [], _ => Nat.le_refl _
  | e :: K, s => by
    have := cnt_le K s
    simp only [cnt, List.length_cons]
    split <;> omega
theorem hn_le : ∀ K : KL, hn K ≤ K.length
  | [] => Nat.le_refl _
  | e :: K => by
    have := hn_le K
    simp only [hn, List.length_cons]
    split <;> omega
theorem bl_le : ∀ K : KL, bl K ≤ K.length
  | [] => Nat.le_refl _
  | e :: K => by
    have := bl_le K
    simp only [bl, List.length_cons]
    split <;> omega
theorem isBeh_u {cd : Nat → Nat} {b k k2 : Nat} (h : isBeh cd b k) (h2 : isBeh cd b k2) : k = k2 := by
  rcases Nat.lt_trichotomy k k2 with q | q | q
  · have := h2.2.2 k h.1 q; have := h.2.1; omega
  · exact q
  · have := h.2.2 k2 h2.1 q; have := h2.2.1; omega
noncomputable def beh (cd : Nat → Nat) (b : Nat) : Nat := Classical.epsilon (fun k => isBeh cd b k)
theorem beh_eq {cd : Nat → Nat} {b k : Nat} (h : isBeh cd b k) : beh cd b = k := isBeh_u (Classical.epsilon_spec (p := fun k => isBeh cd b k) ⟨k, h⟩) h
theorem dk_lo (k : Nat) : -1 ≤ dk k := by
  unfold dk
  split
  · omega
  · split <;> omega
theorem beh_ex {n : Nat} {cd : Nat → Nat} {b : Nat} (hc : clo n cd) (hb : b < n) (hk : cd b / 1000 ≤ 1) : ∃ k, k ≤ n ∧ isBeh cd b k := by
  obtain ⟨k, ⟨h1, h2⟩, h3⟩ := pk_least (fun k => b < k ∧ dp cd k ≤ dp cd b) ⟨n, hb, by rw [hc.2]; exact hc.1 b (by omega)⟩
  have hkn : k ≤ n := by
    rcases Nat.lt_or_ge n k with q | q
    · exact absurd (⟨hb, by rw [hc.2]; exact hc.1 b (by omega)⟩ : b < n ∧ dp cd n ≤ dp cd b) (h3 n q)
    · exact q
  refine ⟨k, hkn, h1, ?_, fun j q1 q2 => ?_⟩
  · obtain ⟨j, rfl⟩ : ∃ j, k = j + 1 := ⟨k - 1, by omega⟩
    have hs : dp cd (b + 1) = dp cd b + 1 := by simp only [dp, dk]; rw [if_pos hk]
    rcases Nat.lt_or_ge b j with q | q
    · have h4 : ¬ (b < j ∧ dp cd j ≤ dp cd b) := h3 j (by omega)
      have h5 : dp cd (j + 1) = dp cd j + dk (cd j / 1000) := rfl
      have h6 := dk_lo (cd j / 1000)
      omega
    · have : j = b := by omega
      subst this
      omega
  · have := h3 j q2
    omega
/-- what is open stands as the plans have it -/
def WF (G : GP) : Nat → Int → KL → Prop
  | _, d, [] => d = 0
  | p, d, e :: K => (e.1 = 0 ∧ e.2.1 < 8 ∧ WF G p (d - 1) K) ∨ (e.1 = 1 ∧ e.2.1 < 10 ∧ e.2.2 < G.1 p ∧ G.2.1 p e.2.2 / 1000 ≤ 1 ∧ dp (G.2.1 p) e.2.2 = d - 1 ∧ WF G p (d - 1) K) ∨ (e.1 = 8 ∧ d = 0 ∧ e.2.1 < 6 ∧ clo (G.1 e.2.1) (G.2.1 e.2.1) ∧ e.2.2 ≤ G.1 e.2.1 ∧ WF G e.2.1 (dp (G.2.1 e.2.1) e.2.2) K)
theorem WF_pos {G : GP} : ∀ {K : KL} {p : Nat} {d : Int}, WF G p d K → 0 ≤ d
  | [], p, d, h => by have h : d = 0 := h; omega
  | e :: K, p, d, h => by
    rcases h with ⟨_, _, h⟩ | ⟨_, _, _, _, _, h⟩ | ⟨_, h, _⟩
    · have := WF_pos h; omega
    · have := WF_pos h; omega
    · omega
def a_hold (G : GP) : CF → Nat → Nat × CF
  | (go, lf, rs, td, ct, st, p, nx, K), a => if mis G.2.2 a = 0 then (0, (go, lf, rs, upd (upd td 4 (td 4 + 1)) 5 (if td 5 < nI (hn K) + 1 then nI (hn K) + 1 else td 5), ct, st, p, nx, (0, a, 0) :: K)) else (mis G.2.2 a, (go, lf, rs, td, ct, st, p, nx, K))
noncomputable def a_call (G : GP) : CF → Nat → Nat × CF
  | (go, lf, rs, td, ct, st, p, nx, K), a =>
    haveI := Classical.propDecidable (clo (G.1 a) (G.2.1 a))
    if a < 6 ∧ lvl K < 4 ∧ clo (G.1 a) (G.2.1 a) then (0, (go, lf, rs, upd td 7 (td 7 + 1), ct, st, a, 0, (8, p, nx) :: K)) else (6, (go, lf, rs, td, ct, st, p, nx, K))
noncomputable def a_does (G : GP) : CF → Nat → Nat × CF
  | (go, lf, rs, td, ct, st, p, nx, K), act =>
    match G.2.1 p act / 1000 with
    | 0 => a_hold G (go, lf, rs, td, ct, st, p, nx, K) (G.2.1 p act / 100 % 10)
    | 1 => (0, (go, lf, rs, td, ct, st, p, nx, (1, G.2.1 p act / 100 % 10, act) :: K))
    | 2 => (0, (go, lf, rs, td, ct, st, p, nx, K.tail))
    | 3 => ((A_put G.2.2 go (cnt K) (G.2.1 p act / 100 % 10) (G.2.1 p act / 10 % 10)).1, ((A_put G.2.2 go (cnt K) (G.2.1 p act / 100 % 10) (G.2.1 p act / 10 % 10)).2, lf, rs, td, ct, st, p, nx, K))
    | 4 => ((A_take G.2.2 go (cnt K) (G.2.1 p act / 100 % 10) (G.2.1 p act / 10 % 10)).1, ((A_take G.2.2 go (cnt K) (G.2.1 p act / 100 % 10) (G.2.1 p act / 10 % 10)).2, lf, rs, td, ct, st, p, nx, K))
    | 5 => ((A_share G.2.2 go (cnt K) rs (G.2.1 p act / 100 % 10) (G.2.1 p act / 10 % 10)).1, ((A_share G.2.2 go (cnt K) rs (G.2.1 p act / 100 % 10) (G.2.1 p act / 10 % 10)).2.1, lf, (A_share G.2.2 go (cnt K) rs (G.2.1 p act / 100 % 10) (G.2.1 p act / 10 % 10)).2.2, td, ct, st, p, nx, K))
    | 6 => ((A_move G.2.2 go (G.2.1 p act / 100 % 10) (G.2.1 p act / 10 % 10) (G.2.1 p act % 10)).1, ((A_move G.2.2 go (G.2.1 p act / 100 % 10) (G.2.1 p act / 10 % 10) (G.2.1 p act % 10)).2, lf, rs, td, ct, st, p, nx, K))
    | 7 => (G.2.1 p act / 100 % 10, (go, lf, rs, td, ct, st, p, nx, K))
    | 8 => a_call G (go, lf, rs, td, ct, st, p, nx, K) (G.2.1 p act / 100 % 10)
    | _ => (0, (go, lf, rs, td, ct, st, p, nx, K))
/-- a failure f (0: the stop) goes outwards: whether it is caught, and what is then: left, told, caught, plan, act to come, open -/
noncomputable def unw (G : GP) (f : Nat) : KL → (Nat → Int32) → (Nat → Int32) → (Nat → Int32) → Nat → Nat → Bool × (Nat → Int32) × (Nat → Int32) × (Nat → Int32) × Nat × Nat × KL
  | [], lf, td, ct, p, nx => (false, lf, td, ct, p, nx, [])
  | e :: K, lf, td, ct, p, nx =>
    if e.1 = 8 then unw G f K lf td ct e.2.1 e.2.2
    else if e.1 = 0 then unw G f K (upd lf e.2.1 (lf e.2.1 + 1)) td ct p nx
    else if f ≠ 0 ∧ (e.2.1 = 0 ∨ e.2.1 = f) then (true, lf, upd td 6 (td 6 + 1), upd ct f (ct f + 1), p, beh (G.2.1 p) e.2.2, K)
    else unw G f K lf td ct p nx
theorem unw_no {G : GP} {f : Nat} : ∀ {K : KL} {lf td ct : Nat → Int32} {p nx : Nat}, (unw G f K lf td ct p nx).1 = false → (unw G f K lf td ct p nx).2.2.1 = td ∧ (unw G f K lf td ct p nx).2.2.2.1 = ct ∧ (unw G f K lf td ct p nx).2.2.2.2.2.2 = []
  | [], lf, td, ct, p, nx, h => ⟨rfl, rfl, rfl⟩
  | e :: K, lf, td, ct, p, nx, h => by
    unfold unw at h ⊢
    split
    · rename_i h1; rw [if_pos h1] at h; exact unw_no h
    · rename_i h1; rw [if_neg h1] at h
      split
      · rename_i h2; rw [if_pos h2] at h; exact unw_no h
      · rename_i h2; rw [if_neg h2] at h
        split
        · rename_i h3; rw [if_pos h3] at h; cases h
        · rename_i h3; rw [if_neg h3] at h; exact unw_no h
theorem unw_0 {G : GP} : ∀ {K : KL} {lf td ct : Nat → Int32} {p nx : Nat}, (unw G 0 K lf td ct p nx).1 = false
  | [], lf, td, ct, p, nx => rfl
  | e :: K, lf, td, ct, p, nx => by
    unfold unw
    split
    · exact unw_0
    · split
      · exact unw_0
      · split
        · rename_i h; exact absurd rfl h.1
        · exact unw_0
/-- the failure f of an act: as it is caught, or the run's end -/
noncomputable def a_fail (G : GP) (f q act : Nat) : CF → Bool × CF
  | (go, lf, rs, td, ct, st, p, nx, K) =>
    match unw G f K lf td ct p nx with
    | (true, lf', td', ct', p', nx', K') => (true, (go, lf', rs, td', ct', st, p', nx', K'))
    | (false, lf', td', ct', p', nx', K') => (false, (go, lf', rs, upd (upd (upd td' 0 (nI f)) 1 (nI q)) 2 (nI act), ct', st, p', nx', K'))
noncomputable def a_step (G : GP) : CF → Bool × CF
  | (go, lf, rs, td, ct, st, p, nx, K) =>
    match a_does G (go, lf, rs, upd td 3 (td 3 + 1), ct, st + 1, p, nx + 1, K) nx with
    | (0, X) => (true, X)
    | (f + 1, X) => a_fail G (f + 1) p nx X
noncomputable def a_run (G : GP) (steps : Nat) : Nat → CF → Nat × CF
  | 0, X => (0, X)
  | F + 1, (go, lf, rs, td, ct, st, p, nx, K) =>
    if G.1 p ≤ nx then
      match K with
      | (8, q, n) :: K' => a_run G steps F (go, lf, rs, td, ct, st, q, n, K')
      | _ => (0, (go, lf, rs, td, ct, st, p, nx, K))
    else if steps ≤ st then (2, (a_fail G 0 p nx (go, lf, rs, td, ct, st, p, nx, K)).2)
    else match a_step G (go, lf, rs, td, ct, st, p, nx, K) with
      | (true, X) => a_run G steps F X
      | (false, X) => (1, X)
/-- what holds whenever an act is to come -/
def Inv (G : GP) : CF → Prop
  | (go, lf, rs, td, ct, st, p, nx, K) => p < 6 ∧ clo (G.1 p) (G.2.1 p) ∧ nx ≤ G.1 p ∧ WF G p (dp (G.2.1 p) nx) K ∧ K.length ≤ st ∧ st ≤ 64 ∧ lvl K ≤ 4 ∧ td 3 = nI st
end
section
/-! the reference's world and words -/
abbrev wM (a : Nat → Nat) (cI cZ : ClassId) (v : Nat → Nat → Int32) (t r lv b o : Int32) : va_W := [(a 0, .inr (5, [.int t, .ref (a 1), .ref (a 2), .ref (a 3), .ref (a 4), .ref (a 5), .ref (a 6), .ref (a 7), .ref (a 8), .ref (a 9), .int r, .ref (a 11), .ref (a 12), .ref (a 13), .ref (a 14), .int lv, .ref (a 16), .ref (a 17), .ref (a 18), .int b, .int o])), (a 1, .inl (cI, 6, .inl (v 1))), (a 2, .inl (cI, 240, .inl (v 2))), (a 3, .inl (cI, 240, .inl (v 3))), (a 4, .inl (cI, 240, .inl (v 4))), (a 5, .inl (cI, 240, .inl (v 5))), (a 6, .inl (cZ, 8, .inl (v 6))), (a 7, .inl (cI, 8, .inl (v 7))), (a 8, .inl (cI, 8, .inl (v 8))), (a 9, .inl (cI, 8, .inl (v 9))), (a 11, .inl (cI, 8, .inl (v 11))), (a 12, .inl (cI, 10, .inl (v 12))), (a 13, .inl (cI, 5, .inl (v 13))), (a 14, .inl (cI, 5, .inl (v 14))), (a 16, .inl (cI, 128, .inl (v 16))), (a 17, .inl (cI, 128, .inl (v 17))), (a 18, .inl (cI, 128, .inl (v 18)))]
def rpl (v : Nat → Nat → Int32) (pn : Nat → Nat) (cd : Nat → Nat → Nat) : Prop := ∀ p, p < 6 → v 1 p = nI (pn p) ∧ pn p ≤ 40 ∧ ∀ i, i < pn p → v 2 (40 * p + i) = nI (cd p i / 1000) ∧ cd p i < 10000 ∧ (cd p i / 1000 ≠ 2 → cd p i / 1000 ≠ 9 → v 3 (40 * p + i) = nI (cd p i / 100 % 10)) ∧ (3 ≤ cd p i / 1000 → cd p i / 1000 ≤ 6 → v 4 (40 * p + i) = nI (cd p i / 10 % 10)) ∧ (cd p i / 1000 = 6 → v 5 (40 * p + i) = nI (cd p i % 10))
def gk (g : Nat → Int32) (go : Nat → Nat) : Prop := ∀ s, s < 8 → g s = nI (go s) ∧ go s ≤ 1000
def zk (z : Nat → Int32) (th : Nat → Bool) : Prop := ∀ s, s < 8 → z s = (if th s then 1 else 0)
theorem zk_1 {z : Nat → Int32} {th : Nat → Bool} {s : Nat} (h : zk z th) (hs : s < 8) (c : ¬ z s = 0) : th s = true := by
  rw [h s hs] at c
  cases q : th s
  · rw [q] at c; exact absurd rfl c
  · rfl
theorem zk_0 {z : Nat → Int32} {th : Nat → Bool} {s : Nat} (h : zk z th) (hs : s < 8) (c : z s = 0) : th s = false := by
  rw [h s hs] at c
  cases q : th s
  · rfl
  · rw [q] at c; exact absurd c (by decide)
theorem gk_up {g : Nat → Int32} {go : Nat → Nat} {x v : Nat} (h : gk g go) (hv : v ≤ 1000) : gk (upd g x (nI v)) (va_up go x v) := by
  intro s hs
  by_cases e : s = x
  · subst e
    simp only [upd, va_up, if_true]
    exact ⟨trivial, hv⟩
  · simp only [upd, va_up, e, if_false]
    exact h s hs
theorem ix40 (p k : Nat) : (40 : Int32) * nI p + nI k = nI (40 * p + k) := by
  rw [show (40 : Int32) = nI 40 from rfl, pk_mul, nI_add]
theorem dp_k1 {cd : Nat → Nat} {i : Nat} (h : cd i / 1000 ≤ 1) : dp cd (i + 1) = dp cd i + 1 := by
  simp only [dp, dk]; rw [if_pos h]
theorem dp_k2 {cd : Nat → Nat} {i : Nat} (h : cd i / 1000 = 2) : dp cd (i + 1) = dp cd i - 1 := by
  simp only [dp, dk]; rw [if_neg (by omega), if_pos h]; rfl
theorem dp_k0 {cd : Nat → Nat} {i : Nat} (h : 3 ≤ cd i / 1000) : dp cd (i + 1) = dp cd i := by
  simp only [dp, dk]; rw [if_neg (by omega), if_neg (by omega)]; omega
theorem mis_z {th : Nat → Bool} {x : Nat} (hx : x < 8) (h : th x = true) : mis th x = 0 := by
  rw [mis, if_neg (by omega), if_pos h]
theorem mis_n {th : Nat → Bool} {x : Nat} (hx : x < 8) (h : th x = false) : mis th x = 2 := by
  rw [mis, if_neg (by omega), if_neg (by rw [h]; decide)]
theorem mol_m {th : Nat → Bool} {hd : Nat → Nat} {x : Nat} (h : mis th x ≠ 0) : mol th hd x = mis th x := by rw [mol, if_neg h]
theorem mol_l {th : Nat → Bool} {hd : Nat → Nat} {x : Nat} (h : mis th x = 0) (h2 : hd x = 0) : mol th hd x = 7 := by rw [mol, if_pos h, if_pos h2]
theorem mol_z {th : Nat → Bool} {hd : Nat → Nat} {x : Nat} (h : mis th x = 0) (h2 : hd x ≠ 0) : mol th hd x = 0 := by rw [mol, if_pos h, if_neg h2]
theorem inN_c {x y : Int32} {m : Nat} (hm : m < 2147483647) (hy : y = nI m) (h0 : 0 ≤ x) (h1 : x ≤ y) : inN x (m + 1) := by
  obtain ⟨j, hj, rfl⟩ := nI_of (Int32.not_lt.mpr h0)
  refine ⟨j, ?_, rfl⟩
  rw [hy] at h1
  have := (nI_leI (a := j) (b := m) (by omega) (by omega)).mp h1
  omega
theorem inN_d {x y : Int32} {m : Nat} (hm : m < 2147483647) (hy : y = nI m) (h : inN x (m + 1)) : 0 ≤ x ∧ x ≤ y := by
  obtain ⟨k, h1, rfl⟩ := h
  exact ⟨nI_pos' (by omega), by rw [hy]; exact nI_le (by omega) (by omega)⟩
end
section
set_option maxHeartbeats 4000000 in
set_option maxRecDepth 100000 in
theorem c_X5_in (l : Launch) (D : va_G) (x lo hi : Int32) : Ci l D [] yX5_in wsX5_in ({ frames := 0, cells := 0, slots := 0, locals := 0 }) [.int x, .int lo, .int hi] ([]) (S := Unit) (fun w _ => (w = 1 ∧ lo ≤ x ∧ x ≤ hi) ∨ (w = 0 ∧ ¬ (lo ≤ x ∧ x ≤ hi))) (fun _ => []) := by
  refine Ci.mk (cc := cX5_in) (maxL := 3) (ret := (some .boolean)) (by decide +kernel) rfl (Nat.le_of_ble_eq_true rfl) ?_
  intro pg e s m below meth c A ls hx hb hml hr hown hts hlocks hK hns hA hP hD hS hl
  have hl : lv_has ls 3 [(0, .int x), (1, .int lo), (2, .int hi)] := hl
  refine lv_iload_n hx hb dX5_in_0 rfl (lv_at hl 0 rfl) ?_
  refine lv_iload_n hx hb dX5_in_1 rfl (lv_at hl 1 rfl) ?_
  refine lv_icmp_lt (tgt := 14) hx hb dX5_in_2 (by decide) (fun c_2 => ?_) (fun c_2 => ?_)
  · refine lv_iconst (v := 0) hx hb dX5_in_14 (by decide) ?_
    exact Ri (D := D) () hx hb hr (by decide) hlocks hP hD hS (Or.inr ⟨rfl, fun h => absurd c_2 (Int32.not_lt.mpr h.1)⟩) dX5_in_15
  · refine lv_iload_n hx hb dX5_in_5 rfl (lv_at hl 0 rfl) ?_
    refine lv_iload_n hx hb dX5_in_6 rfl (lv_at hl 2 rfl) ?_
    refine lv_icmp_gt (tgt := 14) hx hb dX5_in_7 (by decide) (fun c_7 => ?_) (fun c_7 => ?_)
    · refine lv_iconst (v := 0) hx hb dX5_in_14 (by decide) ?_
      exact Ri (D := D) () hx hb hr (by decide) hlocks hP hD hS (Or.inr ⟨rfl, fun h => absurd c_7 (Int32.not_lt.mpr h.2)⟩) dX5_in_15
    · refine lv_iconst (v := 1) hx hb dX5_in_10 (by decide) ?_
      refine lv_goto (tgt := 15) hx hb dX5_in_11 (by decide) ?_
      exact Ri (D := D) () hx hb hr (by decide) hlocks hP hD hS (Or.inl ⟨rfl, Int32.not_lt.mp c_2, Int32.not_lt.mp c_7⟩) dX5_in_15

set_option maxHeartbeats 4000000 in
set_option maxRecDepth 100000 in
theorem c_X5_isPlan (l : Launch) (D : va_G) (x : Int32) : Ci l D [] yX5_isPlan wsX5_isPlan ({ frames := 1, cells := 0, slots := 0, locals := 22 }) [.int x] ([]) (S := Unit) (fun w _ => (w = 1 ∧ inN x 6) ∨ (w = 0 ∧ ¬ inN x 6)) (fun _ => []) := by
  refine Ci.mk (cc := cX5_isPlan) (maxL := 1) (ret := (some .boolean)) (by decide +kernel) rfl (Nat.le_of_ble_eq_true rfl) ?_
  intro pg e s m below meth c A ls hx hb hml hr hown hts hlocks hK hns hA hP hD hS hl
  have hl : lv_has ls 1 [(0, .int x)] := hl
  refine lv_iload_n hx hb dX5_isPlan_0 rfl (lv_at hl 0 rfl) ?_
  refine lv_iconst (v := 0) hx hb dX5_isPlan_1 (by decide) ?_
  refine lv_iconst (v := 5) hx hb dX5_isPlan_2 (by decide) ?_
  refine cl_Si (As := [.int x, .int 0, .int 5]) (rest := []) (c_X5_in l D x 0 5) ⟨hx, hb, hml, hown, hts⟩ (cwS 3 hts gX5_isPlan_X5_in rfl rfl rfl (by decide +kernel) ⟨Nat.le_of_ble_eq_true rfl, Nat.le_of_ble_eq_true rfl⟩) hK hns hP hD hS hA rfl hl.1 rfl (Nat.le_of_ble_eq_true rfl) dX5_isPlan_3 ⟨Nat.zero_le _, Nat.zero_le _⟩ (fun r3 u3 H locs hw3 hP hD hS => ?_)
  rcases hw3 with ⟨rfl, hi3⟩ | ⟨rfl, hi3⟩
  · exact Ri (D := D) () hx hb hr (by decide) hlocks hP hD hS (Or.inl ⟨rfl, inN_c (m := 5) (by decide) rfl hi3.1 hi3.2⟩) dX5_isPlan_6
  · exact Ri (D := D) () hx hb hr (by decide) hlocks hP hD hS (Or.inr ⟨rfl, fun h => hi3 (inN_d (m := 5) (by decide) rfl h)⟩) dX5_isPlan_6

set_option maxHeartbeats 4000000 in
set_option maxRecDepth 100000 in
theorem c_X5_isDigit (l : Launch) (D : va_G) (x : Int32) : Ci l D [] yX5_isDigit wsX5_isDigit ({ frames := 1, cells := 0, slots := 0, locals := 22 }) [.int x] ([]) (S := Unit) (fun w _ => (w = 1 ∧ inN x 10) ∨ (w = 0 ∧ ¬ inN x 10)) (fun _ => []) := by
  refine Ci.mk (cc := cX5_isDigit) (maxL := 1) (ret := (some .boolean)) (by decide +kernel) rfl (Nat.le_of_ble_eq_true rfl) ?_
  intro pg e s m below meth c A ls hx hb hml hr hown hts hlocks hK hns hA hP hD hS hl
  have hl : lv_has ls 1 [(0, .int x)] := hl
  refine lv_iload_n hx hb dX5_isDigit_0 rfl (lv_at hl 0 rfl) ?_
  refine lv_iconst (v := 0) hx hb dX5_isDigit_1 (by decide) ?_
  refine lv_bipush (v := 9) hx hb dX5_isDigit_2 (by decide) ?_
  refine cl_Si (As := [.int x, .int 0, .int 9]) (rest := []) (c_X5_in l D x 0 9) ⟨hx, hb, hml, hown, hts⟩ (cwS 3 hts gX5_isDigit_X5_in rfl rfl rfl (by decide +kernel) ⟨Nat.le_of_ble_eq_true rfl, Nat.le_of_ble_eq_true rfl⟩) hK hns hP hD hS hA rfl hl.1 rfl (Nat.le_of_ble_eq_true rfl) dX5_isDigit_4 ⟨Nat.zero_le _, Nat.zero_le _⟩ (fun r4 u4 H locs hw4 hP hD hS => ?_)
  rcases hw4 with ⟨rfl, hi4⟩ | ⟨rfl, hi4⟩
  · exact Ri (D := D) () hx hb hr (by decide) hlocks hP hD hS (Or.inl ⟨rfl, inN_c (m := 9) (by decide) rfl hi4.1 hi4.2⟩) dX5_isDigit_7
  · exact Ri (D := D) () hx hb hr (by decide) hlocks hP hD hS (Or.inr ⟨rfl, fun h => hi4 (inN_d (m := 9) (by decide) rfl h)⟩) dX5_isDigit_7

set_option maxHeartbeats 4000000 in
set_option maxRecDepth 100000 in
theorem c_X5_isClosed (l : Launch) (D : va_G) (cI cZ : ClassId) (a : Nat → Nat) (v : Nat → Nat → Int32) (t r lv b o : Int32) (pn : Nat → Nat) (cd : Nat → Nat → Nat) (hp : rpl v pn cd) (q : Nat) (hq : q < 6) : Ci l D [(cI, .int), (cZ, .boolean)] yX5_isClosed wsX5_isClosed ({ frames := 0, cells := 0, slots := 0, locals := 0 }) [.ref (a 0), .int (nI q)] (wM a cI cZ v t r lv b o) (S := Unit) (fun w _ => (w = 1 ∧ clo (pn q) (cd q)) ∨ (w = 0 ∧ ¬ clo (pn q) (cd q))) (fun _ => wM a cI cZ v t r lv b o) := by
  refine Ci.mk (cc := cX5_isClosed) (maxL := 5) (ret := (some .boolean)) (by decide +kernel) rfl (Nat.le_of_ble_eq_true rfl) ?_
  intro pg e s m below meth c A ls hx hb hml hr hown hts hlocks hK hns hA hP hD hS hl
  have hl : lv_has ls 5 [(0, .ref (a 0)), (1, .int (nI q))] := hl
  have fl7 := hts (.fieldLink RX5 7 "HeldShelvesModel" "many" "[I") (List.mem_of_getElem? (i := 1) rfl)
  have inX5 : ∀ w ∈ wsX50, w ∈ wsX5_isClosed := fun _ h => List.mem_cons_of_mem _ (List.mem_append_right _ h)
  have fl13 := hts (.fieldLink RX5 13 "HeldShelvesModel" "kinds" "[I") (List.mem_of_getElem? (i := 2) rfl)
  have hP : va_P D vwCl [(a 0, .inr (5, [.int t, .ref (a 1), .ref (a 2), .ref (a 3), .ref (a 4), .ref (a 5), .ref (a 6), .ref (a 7), .ref (a 8), .ref (a 9), .int r, .ref (a 11), .ref (a 12), .ref (a 13), .ref (a 14), .int lv, .ref (a 16), .ref (a 17), .ref (a 18), .int b, .int o])), (a 1, .inl (cI, 6, .inl (v 1))), (a 2, .inl (cI, 240, .inl (v 2))), (a 3, .inl (cI, 240, .inl (v 3))), (a 4, .inl (cI, 240, .inl (v 4))), (a 5, .inl (cI, 240, .inl (v 5))), (a 6, .inl (cZ, 8, .inl (v 6))), (a 7, .inl (cI, 8, .inl (v 7))), (a 8, .inl (cI, 8, .inl (v 8))), (a 9, .inl (cI, 8, .inl (v 9))), (a 11, .inl (cI, 8, .inl (v 11))), (a 12, .inl (cI, 10, .inl (v 12))), (a 13, .inl (cI, 5, .inl (v 13))), (a 14, .inl (cI, 5, .inl (v 14))), (a 16, .inl (cI, 128, .inl (v 16))), (a 17, .inl (cI, 128, .inl (v 17))), (a 18, .inl (cI, 128, .inl (v 18)))] s.heap := hP
  have hD : va_D A [(a 0, .inr (5, [.int t, .ref (a 1), .ref (a 2), .ref (a 3), .ref (a 4), .ref (a 5), .ref (a 6), .ref (a 7), .ref (a 8), .ref (a 9), .int r, .ref (a 11), .ref (a 12), .ref (a 13), .ref (a 14), .int lv, .ref (a 16), .ref (a 17), .ref (a 18), .int b, .int o])), (a 1, .inl (cI, 6, .inl (v 1))), (a 2, .inl (cI, 240, .inl (v 2))), (a 3, .inl (cI, 240, .inl (v 3))), (a 4, .inl (cI, 240, .inl (v 4))), (a 5, .inl (cI, 240, .inl (v 5))), (a 6, .inl (cZ, 8, .inl (v 6))), (a 7, .inl (cI, 8, .inl (v 7))), (a 8, .inl (cI, 8, .inl (v 8))), (a 9, .inl (cI, 8, .inl (v 9))), (a 11, .inl (cI, 8, .inl (v 11))), (a 12, .inl (cI, 10, .inl (v 12))), (a 13, .inl (cI, 5, .inl (v 13))), (a 14, .inl (cI, 5, .inl (v 14))), (a 16, .inl (cI, 128, .inl (v 16))), (a 17, .inl (cI, 128, .inl (v 17))), (a 18, .inl (cI, 128, .inl (v 18)))] := hD
  have hq1 := hp q hq
  have hn40 := hq1.2.1
  refine lv_iconst (v := 0) hx hb dX5_isClosed_0 (by decide) ?_
  refine lv_istore_n (lv' := [(2, .int 0), (0, .ref (a 0)), (1, .int (nI q))]) hx hb dX5_isClosed_1 rfl hl (by decide) rfl (fun ls hl => ?_)
  refine lv_iconst (v := 0) hx hb dX5_isClosed_2 (by decide) ?_
  refine lv_istore_n (lv' := [(3, .int 0), (2, .int 0), (0, .ref (a 0)), (1, .int (nI q))]) hx hb dX5_isClosed_3 rfl hl (by decide) rfl (fun ls hl => ?_)
  have loop4 : ∀ (k : Nat) (k0 : Nat) (d : Nat), pn q + 1 ≤ k0 + k → k0 ≤ pn q → (d : Int) = dp (cd q) k0 → (∀ j, j ≤ k0 → 0 ≤ dp (cd q) j) → d ≤ k0 → ∀ (H : Heap) (locs : List Loc), va_P D vwCl [(a 0, .inr (5, [.int t, .ref (a 1), .ref (a 2), .ref (a 3), .ref (a 4), .ref (a 5), .ref (a 6), .ref (a 7), .ref (a 8), .ref (a 9), .int r, .ref (a 11), .ref (a 12), .ref (a 13), .ref (a 14), .int lv, .ref (a 16), .ref (a 17), .ref (a 18), .int b, .int o])), (a 1, .inl (cI, 6, .inl (v 1))), (a 2, .inl (cI, 240, .inl (v 2))), (a 3, .inl (cI, 240, .inl (v 3))), (a 4, .inl (cI, 240, .inl (v 4))), (a 5, .inl (cI, 240, .inl (v 5))), (a 6, .inl (cZ, 8, .inl (v 6))), (a 7, .inl (cI, 8, .inl (v 7))), (a 8, .inl (cI, 8, .inl (v 8))), (a 9, .inl (cI, 8, .inl (v 9))), (a 11, .inl (cI, 8, .inl (v 11))), (a 12, .inl (cI, 10, .inl (v 12))), (a 13, .inl (cI, 5, .inl (v 13))), (a 14, .inl (cI, 5, .inl (v 14))), (a 16, .inl (cI, 128, .inl (v 16))), (a 17, .inl (cI, 128, .inl (v 17))), (a 18, .inl (cI, 128, .inl (v 18)))] H → va_D A [(a 0, .inr (5, [.int t, .ref (a 1), .ref (a 2), .ref (a 3), .ref (a 4), .ref (a 5), .ref (a 6), .ref (a 7), .ref (a 8), .ref (a 9), .int r, .ref (a 11), .ref (a 12), .ref (a 13), .ref (a 14), .int lv, .ref (a 16), .ref (a 17), .ref (a 18), .int b, .int o])), (a 1, .inl (cI, 6, .inl (v 1))), (a 2, .inl (cI, 240, .inl (v 2))), (a 3, .inl (cI, 240, .inl (v 3))), (a 4, .inl (cI, 240, .inl (v 4))), (a 5, .inl (cI, 240, .inl (v 5))), (a 6, .inl (cZ, 8, .inl (v 6))), (a 7, .inl (cI, 8, .inl (v 7))), (a 8, .inl (cI, 8, .inl (v 8))), (a 9, .inl (cI, 8, .inl (v 9))), (a 11, .inl (cI, 8, .inl (v 11))), (a 12, .inl (cI, 10, .inl (v 12))), (a 13, .inl (cI, 5, .inl (v 13))), (a 14, .inl (cI, 5, .inl (v 14))), (a 16, .inl (cI, 128, .inl (v 16))), (a 17, .inl (cI, 128, .inl (v 17))), (a 18, .inl (cI, 128, .inl (v 18)))] → va_S A s.heap H locs → ∀ (ls : Array Slot), lv_has ls 5 [(0, .ref (a 0)), (1, .int (nI q)), (3, .int (nI k0)), (2, .int (nI d))] → W pg l e ({ frames := 0, cells := 0, slots := 0, locals := 0 } : Room) s m ([.ref (a 0), .int (nI q)] : List Value).toArray below meth c H locs 0 0 (Qi D below ([.ref (a 0), .int (nI q)] : List Value).toArray s A (S := Unit) (fun w _ => (w = 1 ∧ clo (pn q) (cd q)) ∨ (w = 0 ∧ ¬ clo (pn q) (cd q))) (fun _ => wM a cI cZ v t r lv b o)) (F0 m 4 ls []) := by
    intro k
    induction k with
    | zero => intro k0 d hk hi hd hall hdi; exact absurd hk (by omega)
    | succ k ih =>
      intro k0 d hk hi hd hall hdi H locs hP hD hS ls hl
      refine lv_iload_n hx hb dX5_isClosed_4 rfl (lv_at hl 2 rfl) ?_
      refine lv_aload_n hx hb dX5_isClosed_5 rfl (lv_at hl 0 rfl) ?_
      refine va_get (D := D) (ci := 5) (v := .ref (a 1)) (C := RX5) (T := TX5) (N := 21) hx hb hts inX5 hown hK hP 0 rfl rfl 1 (by decide) fl7 (fun _ h9 => h9) rfl dX5_isClosed_6 ?_
      refine lv_iload_n hx hb dX5_isClosed_9 rfl (lv_at hl 1 rfl) ?_
      refine xi_ald hx hb hK hP 1 0 rfl rfl (k := q) (by omega) (by decide) dX5_isClosed_10 ?_
      refine tp (y := nI (pn q)) (hq1.1) ?_
      refine lv_icmp_ge (tgt := 61) hx hb dX5_isClosed_11 (by decide) (fun c_11 => ?_) (fun c_11 => ?_)
      · have c_11 : (pn q) ≤ k0 := (nI_leI (a := (pn q)) (b := k0) (by omega) (by omega)).mp c_11
        refine lv_iload_n hx hb dX5_isClosed_61 rfl (lv_at hl 3 rfl) ?_
        refine lv_if_ne (tgt := 69) hx hb dX5_isClosed_62 (by decide) (fun c_62 => ?_) (fun c_62 => ?_)
        · have c_62 : ¬ (d = 0) := fun h => c_62 ((nI_eq (a := d) (b := 0) (by omega) (by omega)).mpr h)
          refine lv_iconst (v := 0) hx hb dX5_isClosed_69 (by decide) ?_
          exact Ri (D := D) () hx hb hr (by decide) hlocks hP hD hS (Or.inr ⟨rfl, fun hc => by have h9 := hc.2; rw [show pn q = k0 by omega] at h9; omega⟩) dX5_isClosed_70
        · have c_62 : d = 0 := (nI_eq (a := d) (b := 0) (by omega) (by omega)).mp c_62
          refine lv_iconst (v := 1) hx hb dX5_isClosed_65 (by decide) ?_
          refine lv_goto (tgt := 70) hx hb dX5_isClosed_66 (by decide) ?_
          exact Ri (D := D) () hx hb hr (by decide) hlocks hP hD hS (Or.inl ⟨rfl, ⟨fun j hj => hall j (by omega), by rw [show pn q = k0 by omega]; omega⟩⟩) dX5_isClosed_70
      · have c_11 : ¬ ((pn q) ≤ k0) := fun h => c_11 ((nI_leI (a := (pn q)) (b := k0) (by omega) (by omega)).mpr h)
        have c_11 : k0 < pn q := by omega
        refine lv_iload_n hx hb dX5_isClosed_14 rfl (lv_at hl 3 rfl) ?_
        refine lv_if_lt (tgt := 61) hx hb dX5_isClosed_15 (by decide) (fun c_15 => ?_) (fun c_15 => ?_)
        · have c_15 : d < 0 := (nI_ltI (a := d) (b := 0) (by omega) (by omega)).mp c_15
          exact absurd c_15 (by omega)
        · have c_15 : ¬ (d < 0) := fun h => c_15 ((nI_ltI (a := d) (b := 0) (by omega) (by omega)).mpr h)
          refine lv_aload_n hx hb dX5_isClosed_18 rfl (lv_at hl 0 rfl) ?_
          refine va_get (D := D) (ci := 5) (v := .ref (a 2)) (C := RX5) (T := TX5) (N := 21) hx hb hts inX5 hown hK hP 0 rfl rfl 2 (by decide) fl13 (fun _ h9 => h9) rfl dX5_isClosed_19 ?_
          refine lv_bipush (v := 40) hx hb dX5_isClosed_22 (by decide) ?_
          refine lv_iload_n hx hb dX5_isClosed_24 rfl (lv_at hl 1 rfl) ?_
          refine lv_imul hx hb dX5_isClosed_25 ?_
          refine lv_iload_n hx hb dX5_isClosed_26 rfl (lv_at hl 2 rfl) ?_
          refine lv_iadd hx hb dX5_isClosed_27 ?_
          refine tp (y := nI (40 * q + k0)) (ix40 q k0) ?_
          refine xi_ald hx hb hK hP 2 0 rfl rfl (k := (40 * q + k0)) (by omega) (by decide) dX5_isClosed_28 ?_
          have hki := hq1.2.2 k0 c_11
          have hkc : cd q k0 / 1000 < 10 := by have := hki.2.1; omega
          refine tp (y := nI (cd q k0 / 1000)) (hki.1) ?_
          refine lv_istore (lv' := [(4, .int (nI (cd q k0 / 1000))), (0, .ref (a 0)), (1, .int (nI q)), (3, .int (nI k0)), (2, .int (nI d))]) hx hb dX5_isClosed_29 hl (by decide) rfl (fun ls hl => ?_)
          refine lv_iload_n hx hb dX5_isClosed_31 rfl (lv_at hl 4 rfl) ?_
          refine lv_iload hx hb dX5_isClosed_32 (lv_at hl 0 rfl) ?_
          refine lv_iconst (v := 1) hx hb dX5_isClosed_34 (by decide) ?_
          refine lv_icmp_gt (tgt := 42) hx hb dX5_isClosed_35 (by decide) (fun c_35 => ?_) (fun c_35 => ?_)
          · have c_35 : 1 < (cd q k0 / 1000) := (nI_ltI (a := 1) (b := (cd q k0 / 1000)) (by omega) (by omega)).mp c_35
            refine lv_iload hx hb dX5_isClosed_42 (lv_at hl 0 rfl) ?_
            refine lv_iconst (v := 2) hx hb dX5_isClosed_44 (by decide) ?_
            refine lv_icmp_ne (tgt := 52) hx hb dX5_isClosed_45 (by decide) (fun c_45 => ?_) (fun c_45 => ?_)
            · have c_45 : ¬ ((cd q k0 / 1000) = 2) := fun h => c_45 ((nI_eq (a := (cd q k0 / 1000)) (b := 2) (by omega) (by omega)).mpr h)
              refine lv_iconst (v := 0) hx hb dX5_isClosed_52 (by decide) ?_
              refine lv_iadd hx hb dX5_isClosed_53 ?_
              rcases dp_step (cd := cd q) (i := k0) (d := d) (z := 0) (by omega) (Or.inr (Or.inr ⟨rfl, dp_k0 (by omega)⟩)) with ⟨e, he1, he2, he3⟩ | ⟨he1, he2, he3⟩
              · refine tp (y := nI e) (he1) ?_
                refine lv_istore_n (lv' := [(2, .int (nI e)), (4, .int (nI (cd q k0 / 1000))), (0, .ref (a 0)), (1, .int (nI q)), (3, .int (nI k0))]) hx hb dX5_isClosed_54 rfl hl (by decide) rfl (fun ls hl => ?_)
                refine lv_iinc (v := (nI (k0 + 1))) (lv' := [(3, .int (nI (k0 + 1))), (2, .int (nI e)), (4, .int (nI (cd q k0 / 1000))), (0, .ref (a 0)), (1, .int (nI q))]) hx hb dX5_isClosed_55 hl (k := 4) rfl (nI_1 k0) (by decide) rfl (fun ls hl => ?_)
                refine lv_goto (tgt := 4) hx hb dX5_isClosed_58 (by decide) ?_
                exact ih (k0 + 1) e (by omega) (by omega) (by omega) (fun j hj => (Nat.lt_or_ge k0 j).elim (fun q => by rw [show j = k0 + 1 by omega]; omega) (fun q => hall j q)) (by omega) _ _ hP hD hS ls (lv_sub hl [3, 4, 0, 1] rfl)
              · refine tp (y := (-1)) (he1) ?_
                refine lv_istore_n (lv' := [(2, .int (-1)), (4, .int (nI (cd q k0 / 1000))), (0, .ref (a 0)), (1, .int (nI q)), (3, .int (nI k0))]) hx hb dX5_isClosed_54 rfl hl (by decide) rfl (fun ls hl => ?_)
                refine lv_iinc (v := (nI (k0 + 1))) (lv' := [(3, .int (nI (k0 + 1))), (2, .int (-1)), (4, .int (nI (cd q k0 / 1000))), (0, .ref (a 0)), (1, .int (nI q))]) hx hb dX5_isClosed_55 hl (k := 4) rfl (nI_1 k0) (by decide) rfl (fun ls hl => ?_)
                refine lv_goto (tgt := 4) hx hb dX5_isClosed_58 (by decide) ?_
                have hk1 : k0 < pn q := c_11
                refine lv_iload_n hx hb dX5_isClosed_4 rfl (lv_at hl 0 rfl) ?_
                refine lv_aload_n hx hb dX5_isClosed_5 rfl (lv_at hl 3 rfl) ?_
                refine va_get (D := D) (ci := 5) (v := .ref (a 1)) (C := RX5) (T := TX5) (N := 21) hx hb hts inX5 hown hK hP 0 rfl rfl 1 (by decide) fl7 (fun _ h9 => h9) rfl dX5_isClosed_6 ?_
                refine lv_iload_n hx hb dX5_isClosed_9 rfl (lv_at hl 4 rfl) ?_
                refine xi_ald hx hb hK hP 1 0 rfl rfl (k := q) (by omega) (by decide) dX5_isClosed_10 ?_
                refine tp (y := nI (pn q)) (hq1.1) ?_
                refine lv_icmp_ge (tgt := 61) hx hb dX5_isClosed_11 (by decide) (fun c_11 => ?_) (fun c_11 => ?_)
                · have c_11 : (pn q) ≤ (k0 + 1) := (nI_leI (a := (pn q)) (b := (k0 + 1)) (by omega) (by omega)).mp c_11
                  refine lv_iload_n hx hb dX5_isClosed_61 rfl (lv_at hl 1 rfl) ?_
                  refine lv_if_ne (tgt := 69) hx hb dX5_isClosed_62 (by decide) (fun _ => ?_) (fun c9 => absurd c9 (by decide))
                  refine lv_iconst (v := 0) hx hb dX5_isClosed_69 (by decide) ?_
                  exact Ri (D := D) () hx hb hr (by decide) hlocks hP hD hS (Or.inr ⟨rfl, fun hc => by have := hc.1 (k0 + 1) (by omega); omega⟩) dX5_isClosed_70
                · have c_11 : ¬ ((pn q) ≤ (k0 + 1)) := fun h => c_11 ((nI_leI (a := (pn q)) (b := (k0 + 1)) (by omega) (by omega)).mpr h)
                  have c_11 : k0 < pn q := by omega
                  refine lv_iload_n hx hb dX5_isClosed_14 rfl (lv_at hl 1 rfl) ?_
                  refine lv_if_lt (tgt := 61) hx hb dX5_isClosed_15 (by decide) (fun _ => ?_) (fun c9 => absurd (by decide) c9)
                  refine lv_iload_n hx hb dX5_isClosed_61 rfl (lv_at hl 1 rfl) ?_
                  refine lv_if_ne (tgt := 69) hx hb dX5_isClosed_62 (by decide) (fun _ => ?_) (fun c9 => absurd c9 (by decide))
                  refine lv_iconst (v := 0) hx hb dX5_isClosed_69 (by decide) ?_
                  exact Ri (D := D) () hx hb hr (by decide) hlocks hP hD hS (Or.inr ⟨rfl, fun hc => by have := hc.1 (k0 + 1) (by omega); omega⟩) dX5_isClosed_70
            · have c_45 : (cd q k0 / 1000) = 2 := (nI_eq (a := (cd q k0 / 1000)) (b := 2) (by omega) (by omega)).mp c_45
              refine lv_iconst (v := (-1)) hx hb dX5_isClosed_48 (by decide) ?_
              refine lv_goto (tgt := 53) hx hb dX5_isClosed_49 (by decide) ?_
              refine lv_iadd hx hb dX5_isClosed_53 ?_
              rcases dp_step (cd := cd q) (i := k0) (d := d) (z := 0) (by omega) (Or.inr (Or.inl ⟨rfl, dp_k2 c_45⟩)) with ⟨e, he1, he2, he3⟩ | ⟨he1, he2, he3⟩
              · refine tp (y := nI e) (he1) ?_
                refine lv_istore_n (lv' := [(2, .int (nI e)), (4, .int (nI (cd q k0 / 1000))), (0, .ref (a 0)), (1, .int (nI q)), (3, .int (nI k0))]) hx hb dX5_isClosed_54 rfl hl (by decide) rfl (fun ls hl => ?_)
                refine lv_iinc (v := (nI (k0 + 1))) (lv' := [(3, .int (nI (k0 + 1))), (2, .int (nI e)), (4, .int (nI (cd q k0 / 1000))), (0, .ref (a 0)), (1, .int (nI q))]) hx hb dX5_isClosed_55 hl (k := 4) rfl (nI_1 k0) (by decide) rfl (fun ls hl => ?_)
                refine lv_goto (tgt := 4) hx hb dX5_isClosed_58 (by decide) ?_
                exact ih (k0 + 1) e (by omega) (by omega) (by omega) (fun j hj => (Nat.lt_or_ge k0 j).elim (fun q => by rw [show j = k0 + 1 by omega]; omega) (fun q => hall j q)) (by omega) _ _ hP hD hS ls (lv_sub hl [3, 4, 0, 1] rfl)
              · refine tp (y := (-1)) (he1) ?_
                refine lv_istore_n (lv' := [(2, .int (-1)), (4, .int (nI (cd q k0 / 1000))), (0, .ref (a 0)), (1, .int (nI q)), (3, .int (nI k0))]) hx hb dX5_isClosed_54 rfl hl (by decide) rfl (fun ls hl => ?_)
                refine lv_iinc (v := (nI (k0 + 1))) (lv' := [(3, .int (nI (k0 + 1))), (2, .int (-1)), (4, .int (nI (cd q k0 / 1000))), (0, .ref (a 0)), (1, .int (nI q))]) hx hb dX5_isClosed_55 hl (k := 4) rfl (nI_1 k0) (by decide) rfl (fun ls hl => ?_)
                refine lv_goto (tgt := 4) hx hb dX5_isClosed_58 (by decide) ?_
                have hk1 : k0 < pn q := c_11
                refine lv_iload_n hx hb dX5_isClosed_4 rfl (lv_at hl 0 rfl) ?_
                refine lv_aload_n hx hb dX5_isClosed_5 rfl (lv_at hl 3 rfl) ?_
                refine va_get (D := D) (ci := 5) (v := .ref (a 1)) (C := RX5) (T := TX5) (N := 21) hx hb hts inX5 hown hK hP 0 rfl rfl 1 (by decide) fl7 (fun _ h9 => h9) rfl dX5_isClosed_6 ?_
                refine lv_iload_n hx hb dX5_isClosed_9 rfl (lv_at hl 4 rfl) ?_
                refine xi_ald hx hb hK hP 1 0 rfl rfl (k := q) (by omega) (by decide) dX5_isClosed_10 ?_
                refine tp (y := nI (pn q)) (hq1.1) ?_
                refine lv_icmp_ge (tgt := 61) hx hb dX5_isClosed_11 (by decide) (fun c_11 => ?_) (fun c_11 => ?_)
                · have c_11 : (pn q) ≤ (k0 + 1) := (nI_leI (a := (pn q)) (b := (k0 + 1)) (by omega) (by omega)).mp c_11
                  refine lv_iload_n hx hb dX5_isClosed_61 rfl (lv_at hl 1 rfl) ?_
                  refine lv_if_ne (tgt := 69) hx hb dX5_isClosed_62 (by decide) (fun _ => ?_) (fun c9 => absurd c9 (by decide))
                  refine lv_iconst (v := 0) hx hb dX5_isClosed_69 (by decide) ?_
                  exact Ri (D := D) () hx hb hr (by decide) hlocks hP hD hS (Or.inr ⟨rfl, fun hc => by have := hc.1 (k0 + 1) (by omega); omega⟩) dX5_isClosed_70
                · have c_11 : ¬ ((pn q) ≤ (k0 + 1)) := fun h => c_11 ((nI_leI (a := (pn q)) (b := (k0 + 1)) (by omega) (by omega)).mpr h)
                  have c_11 : k0 < pn q := by omega
                  refine lv_iload_n hx hb dX5_isClosed_14 rfl (lv_at hl 1 rfl) ?_
                  refine lv_if_lt (tgt := 61) hx hb dX5_isClosed_15 (by decide) (fun _ => ?_) (fun c9 => absurd (by decide) c9)
                  refine lv_iload_n hx hb dX5_isClosed_61 rfl (lv_at hl 1 rfl) ?_
                  refine lv_if_ne (tgt := 69) hx hb dX5_isClosed_62 (by decide) (fun _ => ?_) (fun c9 => absurd c9 (by decide))
                  refine lv_iconst (v := 0) hx hb dX5_isClosed_69 (by decide) ?_
                  exact Ri (D := D) () hx hb hr (by decide) hlocks hP hD hS (Or.inr ⟨rfl, fun hc => by have := hc.1 (k0 + 1) (by omega); omega⟩) dX5_isClosed_70
          · have c_35 : ¬ (1 < (cd q k0 / 1000)) := fun h => c_35 ((nI_ltI (a := 1) (b := (cd q k0 / 1000)) (by omega) (by omega)).mpr h)
            refine lv_iconst (v := 1) hx hb dX5_isClosed_38 (by decide) ?_
            refine lv_goto (tgt := 53) hx hb dX5_isClosed_39 (by decide) ?_
            refine lv_iadd hx hb dX5_isClosed_53 ?_
            rcases dp_step (cd := cd q) (i := k0) (d := d) (z := 0) (by omega) (Or.inl ⟨rfl, dp_k1 (Nat.not_lt.mp c_35)⟩) with ⟨e, he1, he2, he3⟩ | ⟨he1, he2, he3⟩
            · refine tp (y := nI e) (he1) ?_
              refine lv_istore_n (lv' := [(2, .int (nI e)), (4, .int (nI (cd q k0 / 1000))), (0, .ref (a 0)), (1, .int (nI q)), (3, .int (nI k0))]) hx hb dX5_isClosed_54 rfl hl (by decide) rfl (fun ls hl => ?_)
              refine lv_iinc (v := (nI (k0 + 1))) (lv' := [(3, .int (nI (k0 + 1))), (2, .int (nI e)), (4, .int (nI (cd q k0 / 1000))), (0, .ref (a 0)), (1, .int (nI q))]) hx hb dX5_isClosed_55 hl (k := 4) rfl (nI_1 k0) (by decide) rfl (fun ls hl => ?_)
              refine lv_goto (tgt := 4) hx hb dX5_isClosed_58 (by decide) ?_
              exact ih (k0 + 1) e (by omega) (by omega) (by omega) (fun j hj => (Nat.lt_or_ge k0 j).elim (fun q => by rw [show j = k0 + 1 by omega]; omega) (fun q => hall j q)) (by omega) _ _ hP hD hS ls (lv_sub hl [3, 4, 0, 1] rfl)
            · refine tp (y := (-1)) (he1) ?_
              refine lv_istore_n (lv' := [(2, .int (-1)), (4, .int (nI (cd q k0 / 1000))), (0, .ref (a 0)), (1, .int (nI q)), (3, .int (nI k0))]) hx hb dX5_isClosed_54 rfl hl (by decide) rfl (fun ls hl => ?_)
              refine lv_iinc (v := (nI (k0 + 1))) (lv' := [(3, .int (nI (k0 + 1))), (2, .int (-1)), (4, .int (nI (cd q k0 / 1000))), (0, .ref (a 0)), (1, .int (nI q))]) hx hb dX5_isClosed_55 hl (k := 4) rfl (nI_1 k0) (by decide) rfl (fun ls hl => ?_)
              refine lv_goto (tgt := 4) hx hb dX5_isClosed_58 (by decide) ?_
              have hk1 : k0 < pn q := c_11
              refine lv_iload_n hx hb dX5_isClosed_4 rfl (lv_at hl 0 rfl) ?_
              refine lv_aload_n hx hb dX5_isClosed_5 rfl (lv_at hl 3 rfl) ?_
              refine va_get (D := D) (ci := 5) (v := .ref (a 1)) (C := RX5) (T := TX5) (N := 21) hx hb hts inX5 hown hK hP 0 rfl rfl 1 (by decide) fl7 (fun _ h9 => h9) rfl dX5_isClosed_6 ?_
              refine lv_iload_n hx hb dX5_isClosed_9 rfl (lv_at hl 4 rfl) ?_
              refine xi_ald hx hb hK hP 1 0 rfl rfl (k := q) (by omega) (by decide) dX5_isClosed_10 ?_
              refine tp (y := nI (pn q)) (hq1.1) ?_
              refine lv_icmp_ge (tgt := 61) hx hb dX5_isClosed_11 (by decide) (fun c_11 => ?_) (fun c_11 => ?_)
              · have c_11 : (pn q) ≤ (k0 + 1) := (nI_leI (a := (pn q)) (b := (k0 + 1)) (by omega) (by omega)).mp c_11
                refine lv_iload_n hx hb dX5_isClosed_61 rfl (lv_at hl 1 rfl) ?_
                refine lv_if_ne (tgt := 69) hx hb dX5_isClosed_62 (by decide) (fun _ => ?_) (fun c9 => absurd c9 (by decide))
                refine lv_iconst (v := 0) hx hb dX5_isClosed_69 (by decide) ?_
                exact Ri (D := D) () hx hb hr (by decide) hlocks hP hD hS (Or.inr ⟨rfl, fun hc => by have := hc.1 (k0 + 1) (by omega); omega⟩) dX5_isClosed_70
              · have c_11 : ¬ ((pn q) ≤ (k0 + 1)) := fun h => c_11 ((nI_leI (a := (pn q)) (b := (k0 + 1)) (by omega) (by omega)).mpr h)
                have c_11 : k0 < pn q := by omega
                refine lv_iload_n hx hb dX5_isClosed_14 rfl (lv_at hl 1 rfl) ?_
                refine lv_if_lt (tgt := 61) hx hb dX5_isClosed_15 (by decide) (fun _ => ?_) (fun c9 => absurd (by decide) c9)
                refine lv_iload_n hx hb dX5_isClosed_61 rfl (lv_at hl 1 rfl) ?_
                refine lv_if_ne (tgt := 69) hx hb dX5_isClosed_62 (by decide) (fun _ => ?_) (fun c9 => absurd c9 (by decide))
                refine lv_iconst (v := 0) hx hb dX5_isClosed_69 (by decide) ?_
                exact Ri (D := D) () hx hb hr (by decide) hlocks hP hD hS (Or.inr ⟨rfl, fun hc => by have := hc.1 (k0 + 1) (by omega); omega⟩) dX5_isClosed_70
  exact loop4 (pn q + 1) 0 0 (by omega) (by omega) rfl (fun j hj => by rw [Nat.le_zero.mp hj]; exact Int.le_refl _) (Nat.le_refl _) _ _ hP hD hS ls (lv_sub hl [2, 3, 0, 1] rfl)

set_option maxHeartbeats 4000000 in
set_option maxRecDepth 100000 in
theorem c_X5_behind (l : Launch) (D : va_G) (cI cZ : ClassId) (a : Nat → Nat) (v : Nat → Nat → Int32) (t r lv b o : Int32) (pn : Nat → Nat) (cd : Nat → Nat → Nat) (hp : rpl v pn cd) (q : Nat) (hq : q < 6) (bg : Nat) (hbg : bg < pn q) (hkd : cd q bg / 1000 ≤ 1) (hcl : clo (pn q) (cd q)) : Ci l D [(cI, .int), (cZ, .boolean)] yX5_behind wsX5_behind ({ frames := 0, cells := 0, slots := 0, locals := 0 }) [.ref (a 0), .int (nI q), .int (nI bg)] (wM a cI cZ v t r lv b o) (S := Unit) (fun w _ => w = nI (beh (cd q) bg)) (fun _ => wM a cI cZ v t r lv b o) := by
  refine Ci.mk (cc := cX5_behind) (maxL := 6) (ret := (some .int)) (by decide +kernel) rfl (Nat.le_of_ble_eq_true rfl) ?_
  intro pg e s m below meth c A ls hx hb hml hr hown hts hlocks hK hns hA hP hD hS hl
  have hl : lv_has ls 6 [(0, .ref (a 0)), (1, .int (nI q)), (2, .int (nI bg))] := hl
  have fl13 := hts (.fieldLink RX5 13 "HeldShelvesModel" "kinds" "[I") (List.mem_of_getElem? (i := 1) rfl)
  have inX5 : ∀ w ∈ wsX50, w ∈ wsX5_behind := fun _ h => List.mem_cons_of_mem _ (List.mem_append_right _ h)
  have hP : va_P D vwCl [(a 0, .inr (5, [.int t, .ref (a 1), .ref (a 2), .ref (a 3), .ref (a 4), .ref (a 5), .ref (a 6), .ref (a 7), .ref (a 8), .ref (a 9), .int r, .ref (a 11), .ref (a 12), .ref (a 13), .ref (a 14), .int lv, .ref (a 16), .ref (a 17), .ref (a 18), .int b, .int o])), (a 1, .inl (cI, 6, .inl (v 1))), (a 2, .inl (cI, 240, .inl (v 2))), (a 3, .inl (cI, 240, .inl (v 3))), (a 4, .inl (cI, 240, .inl (v 4))), (a 5, .inl (cI, 240, .inl (v 5))), (a 6, .inl (cZ, 8, .inl (v 6))), (a 7, .inl (cI, 8, .inl (v 7))), (a 8, .inl (cI, 8, .inl (v 8))), (a 9, .inl (cI, 8, .inl (v 9))), (a 11, .inl (cI, 8, .inl (v 11))), (a 12, .inl (cI, 10, .inl (v 12))), (a 13, .inl (cI, 5, .inl (v 13))), (a 14, .inl (cI, 5, .inl (v 14))), (a 16, .inl (cI, 128, .inl (v 16))), (a 17, .inl (cI, 128, .inl (v 17))), (a 18, .inl (cI, 128, .inl (v 18)))] s.heap := hP
  have hD : va_D A [(a 0, .inr (5, [.int t, .ref (a 1), .ref (a 2), .ref (a 3), .ref (a 4), .ref (a 5), .ref (a 6), .ref (a 7), .ref (a 8), .ref (a 9), .int r, .ref (a 11), .ref (a 12), .ref (a 13), .ref (a 14), .int lv, .ref (a 16), .ref (a 17), .ref (a 18), .int b, .int o])), (a 1, .inl (cI, 6, .inl (v 1))), (a 2, .inl (cI, 240, .inl (v 2))), (a 3, .inl (cI, 240, .inl (v 3))), (a 4, .inl (cI, 240, .inl (v 4))), (a 5, .inl (cI, 240, .inl (v 5))), (a 6, .inl (cZ, 8, .inl (v 6))), (a 7, .inl (cI, 8, .inl (v 7))), (a 8, .inl (cI, 8, .inl (v 8))), (a 9, .inl (cI, 8, .inl (v 9))), (a 11, .inl (cI, 8, .inl (v 11))), (a 12, .inl (cI, 10, .inl (v 12))), (a 13, .inl (cI, 5, .inl (v 13))), (a 14, .inl (cI, 5, .inl (v 14))), (a 16, .inl (cI, 128, .inl (v 16))), (a 17, .inl (cI, 128, .inl (v 17))), (a 18, .inl (cI, 128, .inl (v 18)))] := hD
  have hq1 := hp q hq
  have hn40 := hq1.2.1
  obtain ⟨kk, hkk, hbh⟩ := beh_ex hcl hbg hkd
  have hb1 := hbh.1
  have hb2 := hbh.2.1
  have hst := dp_k1 (cd := cd q) (i := bg) hkd
  refine lv_iconst (v := 1) hx hb dX5_behind_0 (by decide) ?_
  refine lv_istore_n (lv' := [(3, .int 1), (0, .ref (a 0)), (1, .int (nI q)), (2, .int (nI bg))]) hx hb dX5_behind_1 rfl hl (by decide) rfl (fun ls hl => ?_)
  refine lv_iload_n hx hb dX5_behind_2 rfl (lv_at hl 3 rfl) ?_
  refine lv_iconst (v := 1) hx hb dX5_behind_3 (by decide) ?_
  refine lv_iadd hx hb dX5_behind_4 ?_
  refine tp (y := nI (bg + 1)) (nI_1 bg) ?_
  refine lv_istore (lv' := [(4, .int (nI (bg + 1))), (3, .int 1), (0, .ref (a 0)), (1, .int (nI q)), (2, .int (nI bg))]) hx hb dX5_behind_5 hl (by decide) rfl (fun ls hl => ?_)
  have loop7 : ∀ (k : Nat) (k0 : Nat) (d : Nat), kk + 1 ≤ k0 + k → bg < k0 → k0 ≤ kk → (d : Int) = dp (cd q) k0 - dp (cd q) bg → d ≤ k0 → ∀ (H : Heap) (locs : List Loc), va_P D vwCl [(a 0, .inr (5, [.int t, .ref (a 1), .ref (a 2), .ref (a 3), .ref (a 4), .ref (a 5), .ref (a 6), .ref (a 7), .ref (a 8), .ref (a 9), .int r, .ref (a 11), .ref (a 12), .ref (a 13), .ref (a 14), .int lv, .ref (a 16), .ref (a 17), .ref (a 18), .int b, .int o])), (a 1, .inl (cI, 6, .inl (v 1))), (a 2, .inl (cI, 240, .inl (v 2))), (a 3, .inl (cI, 240, .inl (v 3))), (a 4, .inl (cI, 240, .inl (v 4))), (a 5, .inl (cI, 240, .inl (v 5))), (a 6, .inl (cZ, 8, .inl (v 6))), (a 7, .inl (cI, 8, .inl (v 7))), (a 8, .inl (cI, 8, .inl (v 8))), (a 9, .inl (cI, 8, .inl (v 9))), (a 11, .inl (cI, 8, .inl (v 11))), (a 12, .inl (cI, 10, .inl (v 12))), (a 13, .inl (cI, 5, .inl (v 13))), (a 14, .inl (cI, 5, .inl (v 14))), (a 16, .inl (cI, 128, .inl (v 16))), (a 17, .inl (cI, 128, .inl (v 17))), (a 18, .inl (cI, 128, .inl (v 18)))] H → va_D A [(a 0, .inr (5, [.int t, .ref (a 1), .ref (a 2), .ref (a 3), .ref (a 4), .ref (a 5), .ref (a 6), .ref (a 7), .ref (a 8), .ref (a 9), .int r, .ref (a 11), .ref (a 12), .ref (a 13), .ref (a 14), .int lv, .ref (a 16), .ref (a 17), .ref (a 18), .int b, .int o])), (a 1, .inl (cI, 6, .inl (v 1))), (a 2, .inl (cI, 240, .inl (v 2))), (a 3, .inl (cI, 240, .inl (v 3))), (a 4, .inl (cI, 240, .inl (v 4))), (a 5, .inl (cI, 240, .inl (v 5))), (a 6, .inl (cZ, 8, .inl (v 6))), (a 7, .inl (cI, 8, .inl (v 7))), (a 8, .inl (cI, 8, .inl (v 8))), (a 9, .inl (cI, 8, .inl (v 9))), (a 11, .inl (cI, 8, .inl (v 11))), (a 12, .inl (cI, 10, .inl (v 12))), (a 13, .inl (cI, 5, .inl (v 13))), (a 14, .inl (cI, 5, .inl (v 14))), (a 16, .inl (cI, 128, .inl (v 16))), (a 17, .inl (cI, 128, .inl (v 17))), (a 18, .inl (cI, 128, .inl (v 18)))] → va_S A s.heap H locs → ∀ (ls : Array Slot), lv_has ls 6 [(0, .ref (a 0)), (1, .int (nI q)), (2, .int (nI bg)), (4, .int (nI k0)), (3, .int (nI d))] → W pg l e ({ frames := 0, cells := 0, slots := 0, locals := 0 } : Room) s m ([.ref (a 0), .int (nI q), .int (nI bg)] : List Value).toArray below meth c H locs 0 0 (Qi D below ([.ref (a 0), .int (nI q), .int (nI bg)] : List Value).toArray s A (S := Unit) (fun w _ => w = nI (beh (cd q) bg)) (fun _ => wM a cI cZ v t r lv b o)) (F0 m 7 ls []) := by
    intro k
    induction k with
    | zero => intro k0 d hk hi hi2 hd hdi; exact absurd hk (by omega)
    | succ k ih =>
      intro k0 d hk hi hi2 hd hdi H locs hP hD hS ls hl
      refine lv_iload_n hx hb dX5_behind_7 rfl (lv_at hl 4 rfl) ?_
      refine lv_if_le (tgt := 55) hx hb dX5_behind_8 (by decide) (fun c_8 => ?_) (fun c_8 => ?_)
      · have c_8 : d ≤ 0 := (nI_leI (a := d) (b := 0) (by omega) (by omega)).mp c_8
        refine lv_iload hx hb dX5_behind_55 (lv_at hl 3 rfl) ?_
        exact Ri (D := D) () hx hb hr rfl hlocks hP hD hS (by rw [beh_eq hbh]; rcases Nat.lt_or_ge k0 kk with q | q; exact absurd (hbh.2.2 k0 hi q) (by omega); rw [show k0 = kk by omega]) dX5_behind_57
      · have c_8 : ¬ (d ≤ 0) := fun h => c_8 ((nI_leI (a := d) (b := 0) (by omega) (by omega)).mpr h)
        refine lv_aload_n hx hb dX5_behind_11 rfl (lv_at hl 0 rfl) ?_
        refine va_get (D := D) (ci := 5) (v := .ref (a 2)) (C := RX5) (T := TX5) (N := 21) hx hb hts inX5 hown hK hP 0 rfl rfl 2 (by decide) fl13 (fun _ h9 => h9) rfl dX5_behind_12 ?_
        refine lv_bipush (v := 40) hx hb dX5_behind_15 (by decide) ?_
        refine lv_iload_n hx hb dX5_behind_17 rfl (lv_at hl 1 rfl) ?_
        refine lv_imul hx hb dX5_behind_18 ?_
        refine lv_iload hx hb dX5_behind_19 (lv_at hl 3 rfl) ?_
        refine lv_iadd hx hb dX5_behind_21 ?_
        have hlt : k0 < kk := Nat.lt_of_le_of_ne hi2 (fun q => by rw [q] at hd; omega)
        refine tp (y := nI (40 * q + k0)) (ix40 q k0) ?_
        refine xi_ald hx hb hK hP 2 0 rfl rfl (k := (40 * q + k0)) (by omega) (by decide) dX5_behind_22 ?_
        have hki := hq1.2.2 k0 (by omega)
        have hkc : cd q k0 / 1000 < 10 := by have := hki.2.1; omega
        refine tp (y := nI (cd q k0 / 1000)) (hki.1) ?_
        refine lv_istore (lv' := [(5, .int (nI (cd q k0 / 1000))), (0, .ref (a 0)), (1, .int (nI q)), (2, .int (nI bg)), (4, .int (nI k0)), (3, .int (nI d))]) hx hb dX5_behind_23 hl (by decide) rfl (fun ls hl => ?_)
        refine lv_iload_n hx hb dX5_behind_25 rfl (lv_at hl 5 rfl) ?_
        refine lv_iload hx hb dX5_behind_26 (lv_at hl 0 rfl) ?_
        refine lv_iconst (v := 1) hx hb dX5_behind_28 (by decide) ?_
        refine lv_icmp_gt (tgt := 36) hx hb dX5_behind_29 (by decide) (fun c_29 => ?_) (fun c_29 => ?_)
        · have c_29 : 1 < (cd q k0 / 1000) := (nI_ltI (a := 1) (b := (cd q k0 / 1000)) (by omega) (by omega)).mp c_29
          refine lv_iload hx hb dX5_behind_36 (lv_at hl 0 rfl) ?_
          refine lv_iconst (v := 2) hx hb dX5_behind_38 (by decide) ?_
          refine lv_icmp_ne (tgt := 46) hx hb dX5_behind_39 (by decide) (fun c_39 => ?_) (fun c_39 => ?_)
          · have c_39 : ¬ ((cd q k0 / 1000) = 2) := fun h => c_39 ((nI_eq (a := (cd q k0 / 1000)) (b := 2) (by omega) (by omega)).mpr h)
            refine lv_iconst (v := 0) hx hb dX5_behind_46 (by decide) ?_
            refine lv_iadd hx hb dX5_behind_47 ?_
            rcases dp_step (d := d) (z := dp (cd q) bg) hd (Or.inr (Or.inr ⟨rfl, dp_k0 (by omega)⟩)) with ⟨e, he1, he2, he3⟩ | ⟨he1, he2, he3⟩
            · refine tp (y := nI e) (he1) ?_
              refine lv_istore_n (lv' := [(3, .int (nI e)), (5, .int (nI (cd q k0 / 1000))), (0, .ref (a 0)), (1, .int (nI q)), (2, .int (nI bg)), (4, .int (nI k0))]) hx hb dX5_behind_48 rfl hl (by decide) rfl (fun ls hl => ?_)
              refine lv_iinc (v := (nI (k0 + 1))) (lv' := [(4, .int (nI (k0 + 1))), (3, .int (nI e)), (5, .int (nI (cd q k0 / 1000))), (0, .ref (a 0)), (1, .int (nI q)), (2, .int (nI bg))]) hx hb dX5_behind_49 hl (k := 5) rfl (nI_1 k0) (by decide) rfl (fun ls hl => ?_)
              refine lv_goto (tgt := 7) hx hb dX5_behind_52 (by decide) ?_
              exact ih (k0 + 1) e (by omega) (by omega) (by omega) (by omega) (by omega) _ _ hP hD hS ls (lv_sub hl [3, 4, 5, 0, 1] rfl)
            · exact absurd he3 (by omega)
          · have c_39 : (cd q k0 / 1000) = 2 := (nI_eq (a := (cd q k0 / 1000)) (b := 2) (by omega) (by omega)).mp c_39
            refine lv_iconst (v := (-1)) hx hb dX5_behind_42 (by decide) ?_
            refine lv_goto (tgt := 47) hx hb dX5_behind_43 (by decide) ?_
            refine lv_iadd hx hb dX5_behind_47 ?_
            rcases dp_step (d := d) (z := dp (cd q) bg) hd (Or.inr (Or.inl ⟨rfl, dp_k2 c_39⟩)) with ⟨e, he1, he2, he3⟩ | ⟨he1, he2, he3⟩
            · refine tp (y := nI e) (he1) ?_
              refine lv_istore_n (lv' := [(3, .int (nI e)), (5, .int (nI (cd q k0 / 1000))), (0, .ref (a 0)), (1, .int (nI q)), (2, .int (nI bg)), (4, .int (nI k0))]) hx hb dX5_behind_48 rfl hl (by decide) rfl (fun ls hl => ?_)
              refine lv_iinc (v := (nI (k0 + 1))) (lv' := [(4, .int (nI (k0 + 1))), (3, .int (nI e)), (5, .int (nI (cd q k0 / 1000))), (0, .ref (a 0)), (1, .int (nI q)), (2, .int (nI bg))]) hx hb dX5_behind_49 hl (k := 5) rfl (nI_1 k0) (by decide) rfl (fun ls hl => ?_)
              refine lv_goto (tgt := 7) hx hb dX5_behind_52 (by decide) ?_
              exact ih (k0 + 1) e (by omega) (by omega) (by omega) (by omega) (by omega) _ _ hP hD hS ls (lv_sub hl [3, 4, 5, 0, 1] rfl)
            · exact absurd he3 (by omega)
        · have c_29 : ¬ (1 < (cd q k0 / 1000)) := fun h => c_29 ((nI_ltI (a := 1) (b := (cd q k0 / 1000)) (by omega) (by omega)).mpr h)
          refine lv_iconst (v := 1) hx hb dX5_behind_32 (by decide) ?_
          refine lv_goto (tgt := 47) hx hb dX5_behind_33 (by decide) ?_
          refine lv_iadd hx hb dX5_behind_47 ?_
          rcases dp_step (d := d) (z := dp (cd q) bg) hd (Or.inl ⟨rfl, dp_k1 (Nat.not_lt.mp c_29)⟩) with ⟨e, he1, he2, he3⟩ | ⟨he1, he2, he3⟩
          · refine tp (y := nI e) (he1) ?_
            refine lv_istore_n (lv' := [(3, .int (nI e)), (5, .int (nI (cd q k0 / 1000))), (0, .ref (a 0)), (1, .int (nI q)), (2, .int (nI bg)), (4, .int (nI k0))]) hx hb dX5_behind_48 rfl hl (by decide) rfl (fun ls hl => ?_)
            refine lv_iinc (v := (nI (k0 + 1))) (lv' := [(4, .int (nI (k0 + 1))), (3, .int (nI e)), (5, .int (nI (cd q k0 / 1000))), (0, .ref (a 0)), (1, .int (nI q)), (2, .int (nI bg))]) hx hb dX5_behind_49 hl (k := 5) rfl (nI_1 k0) (by decide) rfl (fun ls hl => ?_)
            refine lv_goto (tgt := 7) hx hb dX5_behind_52 (by decide) ?_
            exact ih (k0 + 1) e (by omega) (by omega) (by omega) (by omega) (by omega) _ _ hP hD hS ls (lv_sub hl [3, 4, 5, 0, 1] rfl)
          · exact absurd he3 (by omega)
  exact loop7 (kk + 1) (bg + 1) 1 (by omega) (by omega) (by omega) (by omega) (by omega) _ _ hP hD hS ls (lv_sub hl [2, 3, 4, 0, 1] rfl)

set_option maxHeartbeats 4000000 in
set_option maxRecDepth 100000 in
theorem c_X5_begins (l : Launch) (D : va_G) (cI cZ : ClassId) (a : Nat → Nat) (v : Nat → Nat → Int32) (t r lv o : Int32) (b0 : Nat) (hb0 : b0 < 128) (x y : Int32) : Cv l D [(cI, .int), (cZ, .boolean)] yX5_begins wsX5_begins ({ frames := 0, cells := 0, slots := 0, locals := 0 }) [.ref (a 0), .int x, .int y] (wM a cI cZ v t r lv (nI b0) o) (S := Unit) (fun _ => True) (fun _ => wM a cI cZ (va_up (va_up (va_up v 16 (upd (v 16) b0 x)) 17 (upd (v 17) b0 y)) 18 (upd (v 18) b0 lv)) t r lv (nI (b0 + 1)) o) := by
  refine Cv.mk (cc := cX5_begins) (maxL := 3) (ret := none) (by decide +kernel) rfl (Nat.le_of_ble_eq_true rfl) ?_
  intro pg e s m below meth c A ls hx hb hml hr hown hts hlocks hK hns hA hP hD hS hl
  have hl : lv_has ls 3 [(0, .ref (a 0)), (1, .int x), (2, .int y)] := hl
  have fl50 := hts (.fieldLink RX5 50 "HeldShelvesModel" "block" "[I") (List.mem_of_getElem? (i := 1) rfl)
  have inX5 : ∀ w ∈ wsX50, w ∈ wsX5_begins := fun _ h => List.mem_cons_of_mem _ (List.mem_append_right _ h)
  have fl81 := hts (.fieldLink RX5 81 "HeldShelvesModel" "blocks" "I") (List.mem_of_getElem? (i := 2) rfl)
  have fl53 := hts (.fieldLink RX5 53 "HeldShelvesModel" "blockAct" "[I") (List.mem_of_getElem? (i := 3) rfl)
  have fl56 := hts (.fieldLink RX5 56 "HeldShelvesModel" "blockLevel" "[I") (List.mem_of_getElem? (i := 4) rfl)
  have fl84 := hts (.fieldLink RX5 84 "HeldShelvesModel" "level" "I") (List.mem_of_getElem? (i := 5) rfl)
  have hP : va_P D vwCl [(a 0, .inr (5, [.int t, .ref (a 1), .ref (a 2), .ref (a 3), .ref (a 4), .ref (a 5), .ref (a 6), .ref (a 7), .ref (a 8), .ref (a 9), .int r, .ref (a 11), .ref (a 12), .ref (a 13), .ref (a 14), .int lv, .ref (a 16), .ref (a 17), .ref (a 18), .int (nI b0), .int o])), (a 1, .inl (cI, 6, .inl (v 1))), (a 2, .inl (cI, 240, .inl (v 2))), (a 3, .inl (cI, 240, .inl (v 3))), (a 4, .inl (cI, 240, .inl (v 4))), (a 5, .inl (cI, 240, .inl (v 5))), (a 6, .inl (cZ, 8, .inl (v 6))), (a 7, .inl (cI, 8, .inl (v 7))), (a 8, .inl (cI, 8, .inl (v 8))), (a 9, .inl (cI, 8, .inl (v 9))), (a 11, .inl (cI, 8, .inl (v 11))), (a 12, .inl (cI, 10, .inl (v 12))), (a 13, .inl (cI, 5, .inl (v 13))), (a 14, .inl (cI, 5, .inl (v 14))), (a 16, .inl (cI, 128, .inl (v 16))), (a 17, .inl (cI, 128, .inl (v 17))), (a 18, .inl (cI, 128, .inl (v 18)))] s.heap := hP
  have hD : va_D A [(a 0, .inr (5, [.int t, .ref (a 1), .ref (a 2), .ref (a 3), .ref (a 4), .ref (a 5), .ref (a 6), .ref (a 7), .ref (a 8), .ref (a 9), .int r, .ref (a 11), .ref (a 12), .ref (a 13), .ref (a 14), .int lv, .ref (a 16), .ref (a 17), .ref (a 18), .int (nI b0), .int o])), (a 1, .inl (cI, 6, .inl (v 1))), (a 2, .inl (cI, 240, .inl (v 2))), (a 3, .inl (cI, 240, .inl (v 3))), (a 4, .inl (cI, 240, .inl (v 4))), (a 5, .inl (cI, 240, .inl (v 5))), (a 6, .inl (cZ, 8, .inl (v 6))), (a 7, .inl (cI, 8, .inl (v 7))), (a 8, .inl (cI, 8, .inl (v 8))), (a 9, .inl (cI, 8, .inl (v 9))), (a 11, .inl (cI, 8, .inl (v 11))), (a 12, .inl (cI, 10, .inl (v 12))), (a 13, .inl (cI, 5, .inl (v 13))), (a 14, .inl (cI, 5, .inl (v 14))), (a 16, .inl (cI, 128, .inl (v 16))), (a 17, .inl (cI, 128, .inl (v 17))), (a 18, .inl (cI, 128, .inl (v 18)))] := hD
  refine lv_aload_n hx hb dX5_begins_0 rfl (lv_at hl 0 rfl) ?_
  refine va_get (D := D) (ci := 5) (v := .ref (a 16)) (C := RX5) (T := TX5) (N := 21) hx hb hts inX5 hown hK hP 0 rfl rfl 16 (by decide) fl50 (fun _ h9 => h9) rfl dX5_begins_1 ?_
  refine lv_aload_n hx hb dX5_begins_4 rfl (lv_at hl 0 rfl) ?_
  refine va_get (D := D) (ci := 5) (v := .int (nI b0)) (C := RX5) (T := TX5) (N := 21) hx hb hts inX5 hown hK hP 0 rfl rfl 19 (by decide) fl81 (fun _ h9 => h9) rfl dX5_begins_5 ?_
  refine lv_iload_n hx hb dX5_begins_8 rfl (lv_at hl 1 rfl) ?_
  refine xi_ast hx hb hK hP hD hS 14 0 rfl rfl (k := b0) (x := x) (by omega) (by decide) dX5_begins_9 (fun H locs hP hD hS => ?_)
  have hP : va_P D vwCl [(a 0, .inr (5, [.int t, .ref (a 1), .ref (a 2), .ref (a 3), .ref (a 4), .ref (a 5), .ref (a 6), .ref (a 7), .ref (a 8), .ref (a 9), .int r, .ref (a 11), .ref (a 12), .ref (a 13), .ref (a 14), .int lv, .ref (a 16), .ref (a 17), .ref (a 18), .int (nI b0), .int o])), (a 1, .inl (cI, 6, .inl (v 1))), (a 2, .inl (cI, 240, .inl (v 2))), (a 3, .inl (cI, 240, .inl (v 3))), (a 4, .inl (cI, 240, .inl (v 4))), (a 5, .inl (cI, 240, .inl (v 5))), (a 6, .inl (cZ, 8, .inl (v 6))), (a 7, .inl (cI, 8, .inl (v 7))), (a 8, .inl (cI, 8, .inl (v 8))), (a 9, .inl (cI, 8, .inl (v 9))), (a 11, .inl (cI, 8, .inl (v 11))), (a 12, .inl (cI, 10, .inl (v 12))), (a 13, .inl (cI, 5, .inl (v 13))), (a 14, .inl (cI, 5, .inl (v 14))), (a 16, .inl (cI, 128, .inl (upd (v 16) b0 x))), (a 17, .inl (cI, 128, .inl (v 17))), (a 18, .inl (cI, 128, .inl (v 18)))] H := hP
  have hD : va_D A [(a 0, .inr (5, [.int t, .ref (a 1), .ref (a 2), .ref (a 3), .ref (a 4), .ref (a 5), .ref (a 6), .ref (a 7), .ref (a 8), .ref (a 9), .int r, .ref (a 11), .ref (a 12), .ref (a 13), .ref (a 14), .int lv, .ref (a 16), .ref (a 17), .ref (a 18), .int (nI b0), .int o])), (a 1, .inl (cI, 6, .inl (v 1))), (a 2, .inl (cI, 240, .inl (v 2))), (a 3, .inl (cI, 240, .inl (v 3))), (a 4, .inl (cI, 240, .inl (v 4))), (a 5, .inl (cI, 240, .inl (v 5))), (a 6, .inl (cZ, 8, .inl (v 6))), (a 7, .inl (cI, 8, .inl (v 7))), (a 8, .inl (cI, 8, .inl (v 8))), (a 9, .inl (cI, 8, .inl (v 9))), (a 11, .inl (cI, 8, .inl (v 11))), (a 12, .inl (cI, 10, .inl (v 12))), (a 13, .inl (cI, 5, .inl (v 13))), (a 14, .inl (cI, 5, .inl (v 14))), (a 16, .inl (cI, 128, .inl (upd (v 16) b0 x))), (a 17, .inl (cI, 128, .inl (v 17))), (a 18, .inl (cI, 128, .inl (v 18)))] := hD
  refine lv_aload_n hx hb dX5_begins_10 rfl (lv_at hl 0 rfl) ?_
  refine va_get (D := D) (ci := 5) (v := .ref (a 17)) (C := RX5) (T := TX5) (N := 21) hx hb hts inX5 hown hK hP 0 rfl rfl 17 (by decide) fl53 (fun _ h9 => h9) rfl dX5_begins_11 ?_
  refine lv_aload_n hx hb dX5_begins_14 rfl (lv_at hl 0 rfl) ?_
  refine va_get (D := D) (ci := 5) (v := .int (nI b0)) (C := RX5) (T := TX5) (N := 21) hx hb hts inX5 hown hK hP 0 rfl rfl 19 (by decide) fl81 (fun _ h9 => h9) rfl dX5_begins_15 ?_
  refine lv_iload_n hx hb dX5_begins_18 rfl (lv_at hl 2 rfl) ?_
  refine xi_ast hx hb hK hP hD hS 15 0 rfl rfl (k := b0) (x := y) (by omega) (by decide) dX5_begins_19 (fun H locs hP hD hS => ?_)
  have hP : va_P D vwCl [(a 0, .inr (5, [.int t, .ref (a 1), .ref (a 2), .ref (a 3), .ref (a 4), .ref (a 5), .ref (a 6), .ref (a 7), .ref (a 8), .ref (a 9), .int r, .ref (a 11), .ref (a 12), .ref (a 13), .ref (a 14), .int lv, .ref (a 16), .ref (a 17), .ref (a 18), .int (nI b0), .int o])), (a 1, .inl (cI, 6, .inl (v 1))), (a 2, .inl (cI, 240, .inl (v 2))), (a 3, .inl (cI, 240, .inl (v 3))), (a 4, .inl (cI, 240, .inl (v 4))), (a 5, .inl (cI, 240, .inl (v 5))), (a 6, .inl (cZ, 8, .inl (v 6))), (a 7, .inl (cI, 8, .inl (v 7))), (a 8, .inl (cI, 8, .inl (v 8))), (a 9, .inl (cI, 8, .inl (v 9))), (a 11, .inl (cI, 8, .inl (v 11))), (a 12, .inl (cI, 10, .inl (v 12))), (a 13, .inl (cI, 5, .inl (v 13))), (a 14, .inl (cI, 5, .inl (v 14))), (a 16, .inl (cI, 128, .inl (upd (v 16) b0 x))), (a 17, .inl (cI, 128, .inl (upd (v 17) b0 y))), (a 18, .inl (cI, 128, .inl (v 18)))] H := hP
  have hD : va_D A [(a 0, .inr (5, [.int t, .ref (a 1), .ref (a 2), .ref (a 3), .ref (a 4), .ref (a 5), .ref (a 6), .ref (a 7), .ref (a 8), .ref (a 9), .int r, .ref (a 11), .ref (a 12), .ref (a 13), .ref (a 14), .int lv, .ref (a 16), .ref (a 17), .ref (a 18), .int (nI b0), .int o])), (a 1, .inl (cI, 6, .inl (v 1))), (a 2, .inl (cI, 240, .inl (v 2))), (a 3, .inl (cI, 240, .inl (v 3))), (a 4, .inl (cI, 240, .inl (v 4))), (a 5, .inl (cI, 240, .inl (v 5))), (a 6, .inl (cZ, 8, .inl (v 6))), (a 7, .inl (cI, 8, .inl (v 7))), (a 8, .inl (cI, 8, .inl (v 8))), (a 9, .inl (cI, 8, .inl (v 9))), (a 11, .inl (cI, 8, .inl (v 11))), (a 12, .inl (cI, 10, .inl (v 12))), (a 13, .inl (cI, 5, .inl (v 13))), (a 14, .inl (cI, 5, .inl (v 14))), (a 16, .inl (cI, 128, .inl (upd (v 16) b0 x))), (a 17, .inl (cI, 128, .inl (upd (v 17) b0 y))), (a 18, .inl (cI, 128, .inl (v 18)))] := hD
  refine lv_aload_n hx hb dX5_begins_20 rfl (lv_at hl 0 rfl) ?_
  refine va_get (D := D) (ci := 5) (v := .ref (a 18)) (C := RX5) (T := TX5) (N := 21) hx hb hts inX5 hown hK hP 0 rfl rfl 18 (by decide) fl56 (fun _ h9 => h9) rfl dX5_begins_21 ?_
  refine lv_aload_n hx hb dX5_begins_24 rfl (lv_at hl 0 rfl) ?_
  refine va_get (D := D) (ci := 5) (v := .int (nI b0)) (C := RX5) (T := TX5) (N := 21) hx hb hts inX5 hown hK hP 0 rfl rfl 19 (by decide) fl81 (fun _ h9 => h9) rfl dX5_begins_25 ?_
  refine lv_aload_n hx hb dX5_begins_28 rfl (lv_at hl 0 rfl) ?_
  refine va_get (D := D) (ci := 5) (v := .int lv) (C := RX5) (T := TX5) (N := 21) hx hb hts inX5 hown hK hP 0 rfl rfl 15 (by decide) fl84 (fun _ h9 => h9) rfl dX5_begins_29 ?_
  refine xi_ast hx hb hK hP hD hS 16 0 rfl rfl (k := b0) (x := lv) (by omega) (by decide) dX5_begins_32 (fun H locs hP hD hS => ?_)
  have hP : va_P D vwCl [(a 0, .inr (5, [.int t, .ref (a 1), .ref (a 2), .ref (a 3), .ref (a 4), .ref (a 5), .ref (a 6), .ref (a 7), .ref (a 8), .ref (a 9), .int r, .ref (a 11), .ref (a 12), .ref (a 13), .ref (a 14), .int lv, .ref (a 16), .ref (a 17), .ref (a 18), .int (nI b0), .int o])), (a 1, .inl (cI, 6, .inl (v 1))), (a 2, .inl (cI, 240, .inl (v 2))), (a 3, .inl (cI, 240, .inl (v 3))), (a 4, .inl (cI, 240, .inl (v 4))), (a 5, .inl (cI, 240, .inl (v 5))), (a 6, .inl (cZ, 8, .inl (v 6))), (a 7, .inl (cI, 8, .inl (v 7))), (a 8, .inl (cI, 8, .inl (v 8))), (a 9, .inl (cI, 8, .inl (v 9))), (a 11, .inl (cI, 8, .inl (v 11))), (a 12, .inl (cI, 10, .inl (v 12))), (a 13, .inl (cI, 5, .inl (v 13))), (a 14, .inl (cI, 5, .inl (v 14))), (a 16, .inl (cI, 128, .inl (upd (v 16) b0 x))), (a 17, .inl (cI, 128, .inl (upd (v 17) b0 y))), (a 18, .inl (cI, 128, .inl (upd (v 18) b0 lv)))] H := hP
  have hD : va_D A [(a 0, .inr (5, [.int t, .ref (a 1), .ref (a 2), .ref (a 3), .ref (a 4), .ref (a 5), .ref (a 6), .ref (a 7), .ref (a 8), .ref (a 9), .int r, .ref (a 11), .ref (a 12), .ref (a 13), .ref (a 14), .int lv, .ref (a 16), .ref (a 17), .ref (a 18), .int (nI b0), .int o])), (a 1, .inl (cI, 6, .inl (v 1))), (a 2, .inl (cI, 240, .inl (v 2))), (a 3, .inl (cI, 240, .inl (v 3))), (a 4, .inl (cI, 240, .inl (v 4))), (a 5, .inl (cI, 240, .inl (v 5))), (a 6, .inl (cZ, 8, .inl (v 6))), (a 7, .inl (cI, 8, .inl (v 7))), (a 8, .inl (cI, 8, .inl (v 8))), (a 9, .inl (cI, 8, .inl (v 9))), (a 11, .inl (cI, 8, .inl (v 11))), (a 12, .inl (cI, 10, .inl (v 12))), (a 13, .inl (cI, 5, .inl (v 13))), (a 14, .inl (cI, 5, .inl (v 14))), (a 16, .inl (cI, 128, .inl (upd (v 16) b0 x))), (a 17, .inl (cI, 128, .inl (upd (v 17) b0 y))), (a 18, .inl (cI, 128, .inl (upd (v 18) b0 lv)))] := hD
  refine lv_aload_n hx hb dX5_begins_33 rfl (lv_at hl 0 rfl) ?_
  refine lv_dup hx hb dX5_begins_34 rfl ?_
  refine va_get (D := D) (ci := 5) (v := .int (nI b0)) (C := RX5) (T := TX5) (N := 21) hx hb hts inX5 hown hK hP 0 rfl rfl 19 (by decide) fl81 (fun _ h9 => h9) rfl dX5_begins_35 ?_
  refine lv_iconst (v := 1) hx hb dX5_begins_38 (by decide) ?_
  refine lv_iadd hx hb dX5_begins_39 ?_
  refine tp (y := nI (b0 + 1)) (nI_1 b0) ?_
  refine va_put (D := D) (ci := 5) (v := .int (nI (b0 + 1))) (ty := .int) (C := RX5) (T := TX5) (N := 21) hx hb hts inX5 tyX5 tyX5_ok nmX5 hown hK hP hD hS 0 rfl rfl 19 (by decide) fl81 (fun _ h9 => h9) rfl (by decide +kernel) rfl rfl (Nat.le_of_ble_eq_true rfl) dX5_begins_40 (fun H locs hP hD hS => ?_)
  have hP : va_P D vwCl [(a 0, .inr (5, [.int t, .ref (a 1), .ref (a 2), .ref (a 3), .ref (a 4), .ref (a 5), .ref (a 6), .ref (a 7), .ref (a 8), .ref (a 9), .int r, .ref (a 11), .ref (a 12), .ref (a 13), .ref (a 14), .int lv, .ref (a 16), .ref (a 17), .ref (a 18), .int (nI (b0 + 1)), .int o])), (a 1, .inl (cI, 6, .inl (v 1))), (a 2, .inl (cI, 240, .inl (v 2))), (a 3, .inl (cI, 240, .inl (v 3))), (a 4, .inl (cI, 240, .inl (v 4))), (a 5, .inl (cI, 240, .inl (v 5))), (a 6, .inl (cZ, 8, .inl (v 6))), (a 7, .inl (cI, 8, .inl (v 7))), (a 8, .inl (cI, 8, .inl (v 8))), (a 9, .inl (cI, 8, .inl (v 9))), (a 11, .inl (cI, 8, .inl (v 11))), (a 12, .inl (cI, 10, .inl (v 12))), (a 13, .inl (cI, 5, .inl (v 13))), (a 14, .inl (cI, 5, .inl (v 14))), (a 16, .inl (cI, 128, .inl (upd (v 16) b0 x))), (a 17, .inl (cI, 128, .inl (upd (v 17) b0 y))), (a 18, .inl (cI, 128, .inl (upd (v 18) b0 lv)))] H := hP
  have hD : va_D A [(a 0, .inr (5, [.int t, .ref (a 1), .ref (a 2), .ref (a 3), .ref (a 4), .ref (a 5), .ref (a 6), .ref (a 7), .ref (a 8), .ref (a 9), .int r, .ref (a 11), .ref (a 12), .ref (a 13), .ref (a 14), .int lv, .ref (a 16), .ref (a 17), .ref (a 18), .int (nI (b0 + 1)), .int o])), (a 1, .inl (cI, 6, .inl (v 1))), (a 2, .inl (cI, 240, .inl (v 2))), (a 3, .inl (cI, 240, .inl (v 3))), (a 4, .inl (cI, 240, .inl (v 4))), (a 5, .inl (cI, 240, .inl (v 5))), (a 6, .inl (cZ, 8, .inl (v 6))), (a 7, .inl (cI, 8, .inl (v 7))), (a 8, .inl (cI, 8, .inl (v 8))), (a 9, .inl (cI, 8, .inl (v 9))), (a 11, .inl (cI, 8, .inl (v 11))), (a 12, .inl (cI, 10, .inl (v 12))), (a 13, .inl (cI, 5, .inl (v 13))), (a 14, .inl (cI, 5, .inl (v 14))), (a 16, .inl (cI, 128, .inl (upd (v 16) b0 x))), (a 17, .inl (cI, 128, .inl (upd (v 17) b0 y))), (a 18, .inl (cI, 128, .inl (upd (v 18) b0 lv)))] := hD
  exact Rv (D := D) () hx hb hr hlocks hP hD hS trivial dX5_begins_43

set_option maxHeartbeats 4000000 in
set_option maxRecDepth 100000 in
theorem c_X5_closes0H (l : Launch) (D : va_G) (cI cZ : ClassId) (a : Nat → Nat) (v : Nat → Nat → Int32) (t r lv o : Int32) (b0 : Nat) (hb0 : b0 < 128) (x : Nat) (hx8 : x < 8) (hbx : v 16 b0 = nI x) : Cv l D [(cI, .int), (cZ, .boolean)] yX5_closes wsX5_closes ({ frames := 0, cells := 0, slots := 0, locals := 0 }) [.ref (a 0), .int 0] (wM a cI cZ v t r lv (nI (b0 + 1)) o) (S := Unit) (fun _ => True) (fun _ => wM a cI cZ (va_up (va_up v 9 (upd (v 9) x (v 9 x - 1))) 8 (upd (v 8) x (v 8 x + 0))) t r lv (nI b0) (o - 1)) := by
  refine Cv.mk (cc := cX5_closes) (maxL := 3) (ret := none) (by decide +kernel) rfl (Nat.le_of_ble_eq_true rfl) ?_
  intro pg e s m below meth c A ls hx hb hml hr hown hts hlocks hK hns hA hP hD hS hl
  have hl : lv_has ls 3 [(0, .ref (a 0)), (1, .int 0)] := hl
  have fl81 := hts (.fieldLink RX5 81 "HeldShelvesModel" "blocks" "I") (List.mem_of_getElem? (i := 1) rfl)
  have inX5 : ∀ w ∈ wsX50, w ∈ wsX5_closes := fun _ h => List.mem_cons_of_mem _ (List.mem_append_right _ h)
  have fl50 := hts (.fieldLink RX5 50 "HeldShelvesModel" "block" "[I") (List.mem_of_getElem? (i := 2) rfl)
  have fl35 := hts (.fieldLink RX5 35 "HeldShelvesModel" "held" "[I") (List.mem_of_getElem? (i := 3) rfl)
  have fl87 := hts (.fieldLink RX5 87 "HeldShelvesModel" "open" "I") (List.mem_of_getElem? (i := 4) rfl)
  have fl32 := hts (.fieldLink RX5 32 "HeldShelvesModel" "left" "[I") (List.mem_of_getElem? (i := 5) rfl)
  have hP : va_P D vwCl [(a 0, .inr (5, [.int t, .ref (a 1), .ref (a 2), .ref (a 3), .ref (a 4), .ref (a 5), .ref (a 6), .ref (a 7), .ref (a 8), .ref (a 9), .int r, .ref (a 11), .ref (a 12), .ref (a 13), .ref (a 14), .int lv, .ref (a 16), .ref (a 17), .ref (a 18), .int (nI (b0 + 1)), .int o])), (a 1, .inl (cI, 6, .inl (v 1))), (a 2, .inl (cI, 240, .inl (v 2))), (a 3, .inl (cI, 240, .inl (v 3))), (a 4, .inl (cI, 240, .inl (v 4))), (a 5, .inl (cI, 240, .inl (v 5))), (a 6, .inl (cZ, 8, .inl (v 6))), (a 7, .inl (cI, 8, .inl (v 7))), (a 8, .inl (cI, 8, .inl (v 8))), (a 9, .inl (cI, 8, .inl (v 9))), (a 11, .inl (cI, 8, .inl (v 11))), (a 12, .inl (cI, 10, .inl (v 12))), (a 13, .inl (cI, 5, .inl (v 13))), (a 14, .inl (cI, 5, .inl (v 14))), (a 16, .inl (cI, 128, .inl (v 16))), (a 17, .inl (cI, 128, .inl (v 17))), (a 18, .inl (cI, 128, .inl (v 18)))] s.heap := hP
  have hD : va_D A [(a 0, .inr (5, [.int t, .ref (a 1), .ref (a 2), .ref (a 3), .ref (a 4), .ref (a 5), .ref (a 6), .ref (a 7), .ref (a 8), .ref (a 9), .int r, .ref (a 11), .ref (a 12), .ref (a 13), .ref (a 14), .int lv, .ref (a 16), .ref (a 17), .ref (a 18), .int (nI (b0 + 1)), .int o])), (a 1, .inl (cI, 6, .inl (v 1))), (a 2, .inl (cI, 240, .inl (v 2))), (a 3, .inl (cI, 240, .inl (v 3))), (a 4, .inl (cI, 240, .inl (v 4))), (a 5, .inl (cI, 240, .inl (v 5))), (a 6, .inl (cZ, 8, .inl (v 6))), (a 7, .inl (cI, 8, .inl (v 7))), (a 8, .inl (cI, 8, .inl (v 8))), (a 9, .inl (cI, 8, .inl (v 9))), (a 11, .inl (cI, 8, .inl (v 11))), (a 12, .inl (cI, 10, .inl (v 12))), (a 13, .inl (cI, 5, .inl (v 13))), (a 14, .inl (cI, 5, .inl (v 14))), (a 16, .inl (cI, 128, .inl (v 16))), (a 17, .inl (cI, 128, .inl (v 17))), (a 18, .inl (cI, 128, .inl (v 18)))] := hD
  refine lv_aload_n hx hb dX5_closes_0 rfl (lv_at hl 0 rfl) ?_
  refine lv_dup hx hb dX5_closes_1 rfl ?_
  refine va_get (D := D) (ci := 5) (v := .int (nI (b0 + 1))) (C := RX5) (T := TX5) (N := 21) hx hb hts inX5 hown hK hP 0 rfl rfl 19 (by decide) fl81 (fun _ h9 => h9) rfl dX5_closes_2 ?_
  refine lv_iconst (v := 1) hx hb dX5_closes_5 (by decide) ?_
  refine lv_isub hx hb dX5_closes_6 ?_
  refine tp (y := nI b0) (nI_pred b0) ?_
  refine va_put (D := D) (ci := 5) (v := .int (nI b0)) (ty := .int) (C := RX5) (T := TX5) (N := 21) hx hb hts inX5 tyX5 tyX5_ok nmX5 hown hK hP hD hS 0 rfl rfl 19 (by decide) fl81 (fun _ h9 => h9) rfl (by decide +kernel) rfl rfl (Nat.le_of_ble_eq_true rfl) dX5_closes_7 (fun H locs hP hD hS => ?_)
  have hP : va_P D vwCl [(a 0, .inr (5, [.int t, .ref (a 1), .ref (a 2), .ref (a 3), .ref (a 4), .ref (a 5), .ref (a 6), .ref (a 7), .ref (a 8), .ref (a 9), .int r, .ref (a 11), .ref (a 12), .ref (a 13), .ref (a 14), .int lv, .ref (a 16), .ref (a 17), .ref (a 18), .int (nI b0), .int o])), (a 1, .inl (cI, 6, .inl (v 1))), (a 2, .inl (cI, 240, .inl (v 2))), (a 3, .inl (cI, 240, .inl (v 3))), (a 4, .inl (cI, 240, .inl (v 4))), (a 5, .inl (cI, 240, .inl (v 5))), (a 6, .inl (cZ, 8, .inl (v 6))), (a 7, .inl (cI, 8, .inl (v 7))), (a 8, .inl (cI, 8, .inl (v 8))), (a 9, .inl (cI, 8, .inl (v 9))), (a 11, .inl (cI, 8, .inl (v 11))), (a 12, .inl (cI, 10, .inl (v 12))), (a 13, .inl (cI, 5, .inl (v 13))), (a 14, .inl (cI, 5, .inl (v 14))), (a 16, .inl (cI, 128, .inl (v 16))), (a 17, .inl (cI, 128, .inl (v 17))), (a 18, .inl (cI, 128, .inl (v 18)))] H := hP
  have hD : va_D A [(a 0, .inr (5, [.int t, .ref (a 1), .ref (a 2), .ref (a 3), .ref (a 4), .ref (a 5), .ref (a 6), .ref (a 7), .ref (a 8), .ref (a 9), .int r, .ref (a 11), .ref (a 12), .ref (a 13), .ref (a 14), .int lv, .ref (a 16), .ref (a 17), .ref (a 18), .int (nI b0), .int o])), (a 1, .inl (cI, 6, .inl (v 1))), (a 2, .inl (cI, 240, .inl (v 2))), (a 3, .inl (cI, 240, .inl (v 3))), (a 4, .inl (cI, 240, .inl (v 4))), (a 5, .inl (cI, 240, .inl (v 5))), (a 6, .inl (cZ, 8, .inl (v 6))), (a 7, .inl (cI, 8, .inl (v 7))), (a 8, .inl (cI, 8, .inl (v 8))), (a 9, .inl (cI, 8, .inl (v 9))), (a 11, .inl (cI, 8, .inl (v 11))), (a 12, .inl (cI, 10, .inl (v 12))), (a 13, .inl (cI, 5, .inl (v 13))), (a 14, .inl (cI, 5, .inl (v 14))), (a 16, .inl (cI, 128, .inl (v 16))), (a 17, .inl (cI, 128, .inl (v 17))), (a 18, .inl (cI, 128, .inl (v 18)))] := hD
  refine lv_aload_n hx hb dX5_closes_10 rfl (lv_at hl 0 rfl) ?_
  refine va_get (D := D) (ci := 5) (v := .ref (a 16)) (C := RX5) (T := TX5) (N := 21) hx hb hts inX5 hown hK hP 0 rfl rfl 16 (by decide) fl50 (fun _ h9 => h9) rfl dX5_closes_11 ?_
  refine lv_aload_n hx hb dX5_closes_14 rfl (lv_at hl 0 rfl) ?_
  refine va_get (D := D) (ci := 5) (v := .int (nI b0)) (C := RX5) (T := TX5) (N := 21) hx hb hts inX5 hown hK hP 0 rfl rfl 19 (by decide) fl81 (fun _ h9 => h9) rfl dX5_closes_15 ?_
  refine xi_ald hx hb hK hP 14 0 rfl rfl (k := b0) (by omega) (by decide) dX5_closes_18 ?_
  refine tp (y := nI x) (hbx) ?_
  refine lv_istore_n (lv' := [(2, .int (nI x)), (0, .ref (a 0)), (1, .int 0)]) hx hb dX5_closes_19 rfl hl (by decide) rfl (fun ls hl => ?_)
  refine lv_iload_n hx hb dX5_closes_20 rfl (lv_at hl 0 rfl) ?_
  refine lv_bipush (v := 10) hx hb dX5_closes_21 (by decide) ?_
  refine lv_icmp_ge (tgt := 64) hx hb dX5_closes_23 (by decide) (fun c_23 => ?_) (fun c_23 => ?_)
  · have c_23 : 10 ≤ x := (nI_leI (a := 10) (b := x) (by omega) (by omega)).mp c_23
    exact absurd c_23 (by omega)
  · have c_23 : ¬ (10 ≤ x) := fun h => c_23 ((nI_leI (a := 10) (b := x) (by omega) (by omega)).mpr h)
    refine lv_aload_n hx hb dX5_closes_26 rfl (lv_at hl 1 rfl) ?_
    refine va_get (D := D) (ci := 5) (v := .ref (a 9)) (C := RX5) (T := TX5) (N := 21) hx hb hts inX5 hown hK hP 0 rfl rfl 9 (by decide) fl35 (fun _ h9 => h9) rfl dX5_closes_27 ?_
    refine lv_iload_n hx hb dX5_closes_30 rfl (lv_at hl 0 rfl) ?_
    refine lv_dup2_11 hx hb dX5_closes_31 rfl rfl ?_
    refine xi_ald hx hb hK hP 9 0 rfl rfl (k := x) (by omega) (by decide) dX5_closes_32 ?_
    refine lv_iconst (v := 1) hx hb dX5_closes_33 (by decide) ?_
    refine lv_isub hx hb dX5_closes_34 ?_
    refine xi_ast hx hb hK hP hD hS 9 0 rfl rfl (k := x) (x := (((v 9) x) - 1)) (by omega) (by decide) dX5_closes_35 (fun H locs hP hD hS => ?_)
    have hP : va_P D vwCl [(a 0, .inr (5, [.int t, .ref (a 1), .ref (a 2), .ref (a 3), .ref (a 4), .ref (a 5), .ref (a 6), .ref (a 7), .ref (a 8), .ref (a 9), .int r, .ref (a 11), .ref (a 12), .ref (a 13), .ref (a 14), .int lv, .ref (a 16), .ref (a 17), .ref (a 18), .int (nI b0), .int o])), (a 1, .inl (cI, 6, .inl (v 1))), (a 2, .inl (cI, 240, .inl (v 2))), (a 3, .inl (cI, 240, .inl (v 3))), (a 4, .inl (cI, 240, .inl (v 4))), (a 5, .inl (cI, 240, .inl (v 5))), (a 6, .inl (cZ, 8, .inl (v 6))), (a 7, .inl (cI, 8, .inl (v 7))), (a 8, .inl (cI, 8, .inl (v 8))), (a 9, .inl (cI, 8, .inl (upd (v 9) x (((v 9) x) - 1)))), (a 11, .inl (cI, 8, .inl (v 11))), (a 12, .inl (cI, 10, .inl (v 12))), (a 13, .inl (cI, 5, .inl (v 13))), (a 14, .inl (cI, 5, .inl (v 14))), (a 16, .inl (cI, 128, .inl (v 16))), (a 17, .inl (cI, 128, .inl (v 17))), (a 18, .inl (cI, 128, .inl (v 18)))] H := hP
    have hD : va_D A [(a 0, .inr (5, [.int t, .ref (a 1), .ref (a 2), .ref (a 3), .ref (a 4), .ref (a 5), .ref (a 6), .ref (a 7), .ref (a 8), .ref (a 9), .int r, .ref (a 11), .ref (a 12), .ref (a 13), .ref (a 14), .int lv, .ref (a 16), .ref (a 17), .ref (a 18), .int (nI b0), .int o])), (a 1, .inl (cI, 6, .inl (v 1))), (a 2, .inl (cI, 240, .inl (v 2))), (a 3, .inl (cI, 240, .inl (v 3))), (a 4, .inl (cI, 240, .inl (v 4))), (a 5, .inl (cI, 240, .inl (v 5))), (a 6, .inl (cZ, 8, .inl (v 6))), (a 7, .inl (cI, 8, .inl (v 7))), (a 8, .inl (cI, 8, .inl (v 8))), (a 9, .inl (cI, 8, .inl (upd (v 9) x (((v 9) x) - 1)))), (a 11, .inl (cI, 8, .inl (v 11))), (a 12, .inl (cI, 10, .inl (v 12))), (a 13, .inl (cI, 5, .inl (v 13))), (a 14, .inl (cI, 5, .inl (v 14))), (a 16, .inl (cI, 128, .inl (v 16))), (a 17, .inl (cI, 128, .inl (v 17))), (a 18, .inl (cI, 128, .inl (v 18)))] := hD
    refine lv_aload_n hx hb dX5_closes_36 rfl (lv_at hl 1 rfl) ?_
    refine lv_dup hx hb dX5_closes_37 rfl ?_
    refine va_get (D := D) (ci := 5) (v := .int o) (C := RX5) (T := TX5) (N := 21) hx hb hts inX5 hown hK hP 0 rfl rfl 20 (by decide) fl87 (fun _ h9 => h9) rfl dX5_closes_38 ?_
    refine lv_iconst (v := 1) hx hb dX5_closes_41 (by decide) ?_
    refine lv_isub hx hb dX5_closes_42 ?_
    refine va_put (D := D) (ci := 5) (v := .int (o - 1)) (ty := .int) (C := RX5) (T := TX5) (N := 21) hx hb hts inX5 tyX5 tyX5_ok nmX5 hown hK hP hD hS 0 rfl rfl 20 (by decide) fl87 (fun _ h9 => h9) rfl (by decide +kernel) rfl rfl (Nat.le_of_ble_eq_true rfl) dX5_closes_43 (fun H locs hP hD hS => ?_)
    have hP : va_P D vwCl [(a 0, .inr (5, [.int t, .ref (a 1), .ref (a 2), .ref (a 3), .ref (a 4), .ref (a 5), .ref (a 6), .ref (a 7), .ref (a 8), .ref (a 9), .int r, .ref (a 11), .ref (a 12), .ref (a 13), .ref (a 14), .int lv, .ref (a 16), .ref (a 17), .ref (a 18), .int (nI b0), .int (o - 1)])), (a 1, .inl (cI, 6, .inl (v 1))), (a 2, .inl (cI, 240, .inl (v 2))), (a 3, .inl (cI, 240, .inl (v 3))), (a 4, .inl (cI, 240, .inl (v 4))), (a 5, .inl (cI, 240, .inl (v 5))), (a 6, .inl (cZ, 8, .inl (v 6))), (a 7, .inl (cI, 8, .inl (v 7))), (a 8, .inl (cI, 8, .inl (v 8))), (a 9, .inl (cI, 8, .inl (upd (v 9) x (((v 9) x) - 1)))), (a 11, .inl (cI, 8, .inl (v 11))), (a 12, .inl (cI, 10, .inl (v 12))), (a 13, .inl (cI, 5, .inl (v 13))), (a 14, .inl (cI, 5, .inl (v 14))), (a 16, .inl (cI, 128, .inl (v 16))), (a 17, .inl (cI, 128, .inl (v 17))), (a 18, .inl (cI, 128, .inl (v 18)))] H := hP
    have hD : va_D A [(a 0, .inr (5, [.int t, .ref (a 1), .ref (a 2), .ref (a 3), .ref (a 4), .ref (a 5), .ref (a 6), .ref (a 7), .ref (a 8), .ref (a 9), .int r, .ref (a 11), .ref (a 12), .ref (a 13), .ref (a 14), .int lv, .ref (a 16), .ref (a 17), .ref (a 18), .int (nI b0), .int (o - 1)])), (a 1, .inl (cI, 6, .inl (v 1))), (a 2, .inl (cI, 240, .inl (v 2))), (a 3, .inl (cI, 240, .inl (v 3))), (a 4, .inl (cI, 240, .inl (v 4))), (a 5, .inl (cI, 240, .inl (v 5))), (a 6, .inl (cZ, 8, .inl (v 6))), (a 7, .inl (cI, 8, .inl (v 7))), (a 8, .inl (cI, 8, .inl (v 8))), (a 9, .inl (cI, 8, .inl (upd (v 9) x (((v 9) x) - 1)))), (a 11, .inl (cI, 8, .inl (v 11))), (a 12, .inl (cI, 10, .inl (v 12))), (a 13, .inl (cI, 5, .inl (v 13))), (a 14, .inl (cI, 5, .inl (v 14))), (a 16, .inl (cI, 128, .inl (v 16))), (a 17, .inl (cI, 128, .inl (v 17))), (a 18, .inl (cI, 128, .inl (v 18)))] := hD
    refine lv_aload_n hx hb dX5_closes_46 rfl (lv_at hl 1 rfl) ?_
    refine va_get (D := D) (ci := 5) (v := .ref (a 8)) (C := RX5) (T := TX5) (N := 21) hx hb hts inX5 hown hK hP 0 rfl rfl 8 (by decide) fl32 (fun _ h9 => h9) rfl dX5_closes_47 ?_
    refine lv_iload_n hx hb dX5_closes_50 rfl (lv_at hl 0 rfl) ?_
    refine lv_dup2_11 hx hb dX5_closes_51 rfl rfl ?_
    refine xi_ald hx hb hK hP 8 0 rfl rfl (k := x) (by omega) (by decide) dX5_closes_52 ?_
    refine lv_iload_n hx hb dX5_closes_53 rfl (lv_at hl 2 rfl) ?_
    refine lv_if_eq (tgt := 61) hx hb dX5_closes_54 (by decide) (fun _ => ?_) (fun c9 => absurd (by decide) c9)
    refine lv_iconst (v := 0) hx hb dX5_closes_61 (by decide) ?_
    refine lv_iadd hx hb dX5_closes_62 ?_
    refine xi_ast hx hb hK hP hD hS 8 0 rfl rfl (k := x) (x := (((v 8) x) + 0)) (by omega) (by decide) dX5_closes_63 (fun H locs hP hD hS => ?_)
    have hP : va_P D vwCl [(a 0, .inr (5, [.int t, .ref (a 1), .ref (a 2), .ref (a 3), .ref (a 4), .ref (a 5), .ref (a 6), .ref (a 7), .ref (a 8), .ref (a 9), .int r, .ref (a 11), .ref (a 12), .ref (a 13), .ref (a 14), .int lv, .ref (a 16), .ref (a 17), .ref (a 18), .int (nI b0), .int (o - 1)])), (a 1, .inl (cI, 6, .inl (v 1))), (a 2, .inl (cI, 240, .inl (v 2))), (a 3, .inl (cI, 240, .inl (v 3))), (a 4, .inl (cI, 240, .inl (v 4))), (a 5, .inl (cI, 240, .inl (v 5))), (a 6, .inl (cZ, 8, .inl (v 6))), (a 7, .inl (cI, 8, .inl (v 7))), (a 8, .inl (cI, 8, .inl (upd (v 8) x (((v 8) x) + 0)))), (a 9, .inl (cI, 8, .inl (upd (v 9) x (((v 9) x) - 1)))), (a 11, .inl (cI, 8, .inl (v 11))), (a 12, .inl (cI, 10, .inl (v 12))), (a 13, .inl (cI, 5, .inl (v 13))), (a 14, .inl (cI, 5, .inl (v 14))), (a 16, .inl (cI, 128, .inl (v 16))), (a 17, .inl (cI, 128, .inl (v 17))), (a 18, .inl (cI, 128, .inl (v 18)))] H := hP
    have hD : va_D A [(a 0, .inr (5, [.int t, .ref (a 1), .ref (a 2), .ref (a 3), .ref (a 4), .ref (a 5), .ref (a 6), .ref (a 7), .ref (a 8), .ref (a 9), .int r, .ref (a 11), .ref (a 12), .ref (a 13), .ref (a 14), .int lv, .ref (a 16), .ref (a 17), .ref (a 18), .int (nI b0), .int (o - 1)])), (a 1, .inl (cI, 6, .inl (v 1))), (a 2, .inl (cI, 240, .inl (v 2))), (a 3, .inl (cI, 240, .inl (v 3))), (a 4, .inl (cI, 240, .inl (v 4))), (a 5, .inl (cI, 240, .inl (v 5))), (a 6, .inl (cZ, 8, .inl (v 6))), (a 7, .inl (cI, 8, .inl (v 7))), (a 8, .inl (cI, 8, .inl (upd (v 8) x (((v 8) x) + 0)))), (a 9, .inl (cI, 8, .inl (upd (v 9) x (((v 9) x) - 1)))), (a 11, .inl (cI, 8, .inl (v 11))), (a 12, .inl (cI, 10, .inl (v 12))), (a 13, .inl (cI, 5, .inl (v 13))), (a 14, .inl (cI, 5, .inl (v 14))), (a 16, .inl (cI, 128, .inl (v 16))), (a 17, .inl (cI, 128, .inl (v 17))), (a 18, .inl (cI, 128, .inl (v 18)))] := hD
    exact Rv (D := D) () hx hb hr hlocks hP hD hS trivial dX5_closes_64

set_option maxHeartbeats 4000000 in
set_option maxRecDepth 100000 in
theorem c_X5_closes0T (l : Launch) (D : va_G) (cI cZ : ClassId) (a : Nat → Nat) (v : Nat → Nat → Int32) (t r lv o : Int32) (b0 : Nat) (hb0 : b0 < 128) (x : Nat) (hx10 : x < 10) (hbx : v 16 b0 = nI (10 + x)) : Cv l D [(cI, .int), (cZ, .boolean)] yX5_closes wsX5_closes ({ frames := 0, cells := 0, slots := 0, locals := 0 }) [.ref (a 0), .int 0] (wM a cI cZ v t r lv (nI (b0 + 1)) o) (S := Unit) (fun _ => True) (fun _ => wM a cI cZ v t r lv (nI b0) o) := by
  refine Cv.mk (cc := cX5_closes) (maxL := 3) (ret := none) (by decide +kernel) rfl (Nat.le_of_ble_eq_true rfl) ?_
  intro pg e s m below meth c A ls hx hb hml hr hown hts hlocks hK hns hA hP hD hS hl
  have hl : lv_has ls 3 [(0, .ref (a 0)), (1, .int 0)] := hl
  have fl81 := hts (.fieldLink RX5 81 "HeldShelvesModel" "blocks" "I") (List.mem_of_getElem? (i := 1) rfl)
  have inX5 : ∀ w ∈ wsX50, w ∈ wsX5_closes := fun _ h => List.mem_cons_of_mem _ (List.mem_append_right _ h)
  have fl50 := hts (.fieldLink RX5 50 "HeldShelvesModel" "block" "[I") (List.mem_of_getElem? (i := 2) rfl)
  have hP : va_P D vwCl [(a 0, .inr (5, [.int t, .ref (a 1), .ref (a 2), .ref (a 3), .ref (a 4), .ref (a 5), .ref (a 6), .ref (a 7), .ref (a 8), .ref (a 9), .int r, .ref (a 11), .ref (a 12), .ref (a 13), .ref (a 14), .int lv, .ref (a 16), .ref (a 17), .ref (a 18), .int (nI (b0 + 1)), .int o])), (a 1, .inl (cI, 6, .inl (v 1))), (a 2, .inl (cI, 240, .inl (v 2))), (a 3, .inl (cI, 240, .inl (v 3))), (a 4, .inl (cI, 240, .inl (v 4))), (a 5, .inl (cI, 240, .inl (v 5))), (a 6, .inl (cZ, 8, .inl (v 6))), (a 7, .inl (cI, 8, .inl (v 7))), (a 8, .inl (cI, 8, .inl (v 8))), (a 9, .inl (cI, 8, .inl (v 9))), (a 11, .inl (cI, 8, .inl (v 11))), (a 12, .inl (cI, 10, .inl (v 12))), (a 13, .inl (cI, 5, .inl (v 13))), (a 14, .inl (cI, 5, .inl (v 14))), (a 16, .inl (cI, 128, .inl (v 16))), (a 17, .inl (cI, 128, .inl (v 17))), (a 18, .inl (cI, 128, .inl (v 18)))] s.heap := hP
  have hD : va_D A [(a 0, .inr (5, [.int t, .ref (a 1), .ref (a 2), .ref (a 3), .ref (a 4), .ref (a 5), .ref (a 6), .ref (a 7), .ref (a 8), .ref (a 9), .int r, .ref (a 11), .ref (a 12), .ref (a 13), .ref (a 14), .int lv, .ref (a 16), .ref (a 17), .ref (a 18), .int (nI (b0 + 1)), .int o])), (a 1, .inl (cI, 6, .inl (v 1))), (a 2, .inl (cI, 240, .inl (v 2))), (a 3, .inl (cI, 240, .inl (v 3))), (a 4, .inl (cI, 240, .inl (v 4))), (a 5, .inl (cI, 240, .inl (v 5))), (a 6, .inl (cZ, 8, .inl (v 6))), (a 7, .inl (cI, 8, .inl (v 7))), (a 8, .inl (cI, 8, .inl (v 8))), (a 9, .inl (cI, 8, .inl (v 9))), (a 11, .inl (cI, 8, .inl (v 11))), (a 12, .inl (cI, 10, .inl (v 12))), (a 13, .inl (cI, 5, .inl (v 13))), (a 14, .inl (cI, 5, .inl (v 14))), (a 16, .inl (cI, 128, .inl (v 16))), (a 17, .inl (cI, 128, .inl (v 17))), (a 18, .inl (cI, 128, .inl (v 18)))] := hD
  refine lv_aload_n hx hb dX5_closes_0 rfl (lv_at hl 0 rfl) ?_
  refine lv_dup hx hb dX5_closes_1 rfl ?_
  refine va_get (D := D) (ci := 5) (v := .int (nI (b0 + 1))) (C := RX5) (T := TX5) (N := 21) hx hb hts inX5 hown hK hP 0 rfl rfl 19 (by decide) fl81 (fun _ h9 => h9) rfl dX5_closes_2 ?_
  refine lv_iconst (v := 1) hx hb dX5_closes_5 (by decide) ?_
  refine lv_isub hx hb dX5_closes_6 ?_
  refine tp (y := nI b0) (nI_pred b0) ?_
  refine va_put (D := D) (ci := 5) (v := .int (nI b0)) (ty := .int) (C := RX5) (T := TX5) (N := 21) hx hb hts inX5 tyX5 tyX5_ok nmX5 hown hK hP hD hS 0 rfl rfl 19 (by decide) fl81 (fun _ h9 => h9) rfl (by decide +kernel) rfl rfl (Nat.le_of_ble_eq_true rfl) dX5_closes_7 (fun H locs hP hD hS => ?_)
  have hP : va_P D vwCl [(a 0, .inr (5, [.int t, .ref (a 1), .ref (a 2), .ref (a 3), .ref (a 4), .ref (a 5), .ref (a 6), .ref (a 7), .ref (a 8), .ref (a 9), .int r, .ref (a 11), .ref (a 12), .ref (a 13), .ref (a 14), .int lv, .ref (a 16), .ref (a 17), .ref (a 18), .int (nI b0), .int o])), (a 1, .inl (cI, 6, .inl (v 1))), (a 2, .inl (cI, 240, .inl (v 2))), (a 3, .inl (cI, 240, .inl (v 3))), (a 4, .inl (cI, 240, .inl (v 4))), (a 5, .inl (cI, 240, .inl (v 5))), (a 6, .inl (cZ, 8, .inl (v 6))), (a 7, .inl (cI, 8, .inl (v 7))), (a 8, .inl (cI, 8, .inl (v 8))), (a 9, .inl (cI, 8, .inl (v 9))), (a 11, .inl (cI, 8, .inl (v 11))), (a 12, .inl (cI, 10, .inl (v 12))), (a 13, .inl (cI, 5, .inl (v 13))), (a 14, .inl (cI, 5, .inl (v 14))), (a 16, .inl (cI, 128, .inl (v 16))), (a 17, .inl (cI, 128, .inl (v 17))), (a 18, .inl (cI, 128, .inl (v 18)))] H := hP
  have hD : va_D A [(a 0, .inr (5, [.int t, .ref (a 1), .ref (a 2), .ref (a 3), .ref (a 4), .ref (a 5), .ref (a 6), .ref (a 7), .ref (a 8), .ref (a 9), .int r, .ref (a 11), .ref (a 12), .ref (a 13), .ref (a 14), .int lv, .ref (a 16), .ref (a 17), .ref (a 18), .int (nI b0), .int o])), (a 1, .inl (cI, 6, .inl (v 1))), (a 2, .inl (cI, 240, .inl (v 2))), (a 3, .inl (cI, 240, .inl (v 3))), (a 4, .inl (cI, 240, .inl (v 4))), (a 5, .inl (cI, 240, .inl (v 5))), (a 6, .inl (cZ, 8, .inl (v 6))), (a 7, .inl (cI, 8, .inl (v 7))), (a 8, .inl (cI, 8, .inl (v 8))), (a 9, .inl (cI, 8, .inl (v 9))), (a 11, .inl (cI, 8, .inl (v 11))), (a 12, .inl (cI, 10, .inl (v 12))), (a 13, .inl (cI, 5, .inl (v 13))), (a 14, .inl (cI, 5, .inl (v 14))), (a 16, .inl (cI, 128, .inl (v 16))), (a 17, .inl (cI, 128, .inl (v 17))), (a 18, .inl (cI, 128, .inl (v 18)))] := hD
  refine lv_aload_n hx hb dX5_closes_10 rfl (lv_at hl 0 rfl) ?_
  refine va_get (D := D) (ci := 5) (v := .ref (a 16)) (C := RX5) (T := TX5) (N := 21) hx hb hts inX5 hown hK hP 0 rfl rfl 16 (by decide) fl50 (fun _ h9 => h9) rfl dX5_closes_11 ?_
  refine lv_aload_n hx hb dX5_closes_14 rfl (lv_at hl 0 rfl) ?_
  refine va_get (D := D) (ci := 5) (v := .int (nI b0)) (C := RX5) (T := TX5) (N := 21) hx hb hts inX5 hown hK hP 0 rfl rfl 19 (by decide) fl81 (fun _ h9 => h9) rfl dX5_closes_15 ?_
  refine xi_ald hx hb hK hP 14 0 rfl rfl (k := b0) (by omega) (by decide) dX5_closes_18 ?_
  refine tp (y := nI (10 + x)) (hbx) ?_
  refine lv_istore_n (lv' := [(2, .int (nI (10 + x))), (0, .ref (a 0)), (1, .int 0)]) hx hb dX5_closes_19 rfl hl (by decide) rfl (fun ls hl => ?_)
  refine lv_iload_n hx hb dX5_closes_20 rfl (lv_at hl 0 rfl) ?_
  refine lv_bipush (v := 10) hx hb dX5_closes_21 (by decide) ?_
  refine lv_icmp_ge (tgt := 64) hx hb dX5_closes_23 (by decide) (fun c_23 => ?_) (fun c_23 => ?_)
  · have c_23 : 10 ≤ (10 + x) := (nI_leI (a := 10) (b := (10 + x)) (by omega) (by omega)).mp c_23
    exact Rv (D := D) () hx hb hr hlocks hP hD hS trivial dX5_closes_64
  · have c_23 : ¬ (10 ≤ (10 + x)) := fun h => c_23 ((nI_leI (a := 10) (b := (10 + x)) (by omega) (by omega)).mpr h)
    exact absurd c_23 (by omega)

set_option maxHeartbeats 4000000 in
set_option maxRecDepth 100000 in
theorem c_X5_closes1H (l : Launch) (D : va_G) (cI cZ : ClassId) (a : Nat → Nat) (v : Nat → Nat → Int32) (t r lv o : Int32) (b0 : Nat) (hb0 : b0 < 128) (x : Nat) (hx8 : x < 8) (hbx : v 16 b0 = nI x) : Cv l D [(cI, .int), (cZ, .boolean)] yX5_closes wsX5_closes ({ frames := 0, cells := 0, slots := 0, locals := 0 }) [.ref (a 0), .int 1] (wM a cI cZ v t r lv (nI (b0 + 1)) o) (S := Unit) (fun _ => True) (fun _ => wM a cI cZ (va_up (va_up v 9 (upd (v 9) x (v 9 x - 1))) 8 (upd (v 8) x (v 8 x + 1))) t r lv (nI b0) (o - 1)) := by
  refine Cv.mk (cc := cX5_closes) (maxL := 3) (ret := none) (by decide +kernel) rfl (Nat.le_of_ble_eq_true rfl) ?_
  intro pg e s m below meth c A ls hx hb hml hr hown hts hlocks hK hns hA hP hD hS hl
  have hl : lv_has ls 3 [(0, .ref (a 0)), (1, .int 1)] := hl
  have fl81 := hts (.fieldLink RX5 81 "HeldShelvesModel" "blocks" "I") (List.mem_of_getElem? (i := 1) rfl)
  have inX5 : ∀ w ∈ wsX50, w ∈ wsX5_closes := fun _ h => List.mem_cons_of_mem _ (List.mem_append_right _ h)
  have fl50 := hts (.fieldLink RX5 50 "HeldShelvesModel" "block" "[I") (List.mem_of_getElem? (i := 2) rfl)
  have fl35 := hts (.fieldLink RX5 35 "HeldShelvesModel" "held" "[I") (List.mem_of_getElem? (i := 3) rfl)
  have fl87 := hts (.fieldLink RX5 87 "HeldShelvesModel" "open" "I") (List.mem_of_getElem? (i := 4) rfl)
  have fl32 := hts (.fieldLink RX5 32 "HeldShelvesModel" "left" "[I") (List.mem_of_getElem? (i := 5) rfl)
  have hP : va_P D vwCl [(a 0, .inr (5, [.int t, .ref (a 1), .ref (a 2), .ref (a 3), .ref (a 4), .ref (a 5), .ref (a 6), .ref (a 7), .ref (a 8), .ref (a 9), .int r, .ref (a 11), .ref (a 12), .ref (a 13), .ref (a 14), .int lv, .ref (a 16), .ref (a 17), .ref (a 18), .int (nI (b0 + 1)), .int o])), (a 1, .inl (cI, 6, .inl (v 1))), (a 2, .inl (cI, 240, .inl (v 2))), (a 3, .inl (cI, 240, .inl (v 3))), (a 4, .inl (cI, 240, .inl (v 4))), (a 5, .inl (cI, 240, .inl (v 5))), (a 6, .inl (cZ, 8, .inl (v 6))), (a 7, .inl (cI, 8, .inl (v 7))), (a 8, .inl (cI, 8, .inl (v 8))), (a 9, .inl (cI, 8, .inl (v 9))), (a 11, .inl (cI, 8, .inl (v 11))), (a 12, .inl (cI, 10, .inl (v 12))), (a 13, .inl (cI, 5, .inl (v 13))), (a 14, .inl (cI, 5, .inl (v 14))), (a 16, .inl (cI, 128, .inl (v 16))), (a 17, .inl (cI, 128, .inl (v 17))), (a 18, .inl (cI, 128, .inl (v 18)))] s.heap := hP
  have hD : va_D A [(a 0, .inr (5, [.int t, .ref (a 1), .ref (a 2), .ref (a 3), .ref (a 4), .ref (a 5), .ref (a 6), .ref (a 7), .ref (a 8), .ref (a 9), .int r, .ref (a 11), .ref (a 12), .ref (a 13), .ref (a 14), .int lv, .ref (a 16), .ref (a 17), .ref (a 18), .int (nI (b0 + 1)), .int o])), (a 1, .inl (cI, 6, .inl (v 1))), (a 2, .inl (cI, 240, .inl (v 2))), (a 3, .inl (cI, 240, .inl (v 3))), (a 4, .inl (cI, 240, .inl (v 4))), (a 5, .inl (cI, 240, .inl (v 5))), (a 6, .inl (cZ, 8, .inl (v 6))), (a 7, .inl (cI, 8, .inl (v 7))), (a 8, .inl (cI, 8, .inl (v 8))), (a 9, .inl (cI, 8, .inl (v 9))), (a 11, .inl (cI, 8, .inl (v 11))), (a 12, .inl (cI, 10, .inl (v 12))), (a 13, .inl (cI, 5, .inl (v 13))), (a 14, .inl (cI, 5, .inl (v 14))), (a 16, .inl (cI, 128, .inl (v 16))), (a 17, .inl (cI, 128, .inl (v 17))), (a 18, .inl (cI, 128, .inl (v 18)))] := hD
  refine lv_aload_n hx hb dX5_closes_0 rfl (lv_at hl 0 rfl) ?_
  refine lv_dup hx hb dX5_closes_1 rfl ?_
  refine va_get (D := D) (ci := 5) (v := .int (nI (b0 + 1))) (C := RX5) (T := TX5) (N := 21) hx hb hts inX5 hown hK hP 0 rfl rfl 19 (by decide) fl81 (fun _ h9 => h9) rfl dX5_closes_2 ?_
  refine lv_iconst (v := 1) hx hb dX5_closes_5 (by decide) ?_
  refine lv_isub hx hb dX5_closes_6 ?_
  refine tp (y := nI b0) (nI_pred b0) ?_
  refine va_put (D := D) (ci := 5) (v := .int (nI b0)) (ty := .int) (C := RX5) (T := TX5) (N := 21) hx hb hts inX5 tyX5 tyX5_ok nmX5 hown hK hP hD hS 0 rfl rfl 19 (by decide) fl81 (fun _ h9 => h9) rfl (by decide +kernel) rfl rfl (Nat.le_of_ble_eq_true rfl) dX5_closes_7 (fun H locs hP hD hS => ?_)
  have hP : va_P D vwCl [(a 0, .inr (5, [.int t, .ref (a 1), .ref (a 2), .ref (a 3), .ref (a 4), .ref (a 5), .ref (a 6), .ref (a 7), .ref (a 8), .ref (a 9), .int r, .ref (a 11), .ref (a 12), .ref (a 13), .ref (a 14), .int lv, .ref (a 16), .ref (a 17), .ref (a 18), .int (nI b0), .int o])), (a 1, .inl (cI, 6, .inl (v 1))), (a 2, .inl (cI, 240, .inl (v 2))), (a 3, .inl (cI, 240, .inl (v 3))), (a 4, .inl (cI, 240, .inl (v 4))), (a 5, .inl (cI, 240, .inl (v 5))), (a 6, .inl (cZ, 8, .inl (v 6))), (a 7, .inl (cI, 8, .inl (v 7))), (a 8, .inl (cI, 8, .inl (v 8))), (a 9, .inl (cI, 8, .inl (v 9))), (a 11, .inl (cI, 8, .inl (v 11))), (a 12, .inl (cI, 10, .inl (v 12))), (a 13, .inl (cI, 5, .inl (v 13))), (a 14, .inl (cI, 5, .inl (v 14))), (a 16, .inl (cI, 128, .inl (v 16))), (a 17, .inl (cI, 128, .inl (v 17))), (a 18, .inl (cI, 128, .inl (v 18)))] H := hP
  have hD : va_D A [(a 0, .inr (5, [.int t, .ref (a 1), .ref (a 2), .ref (a 3), .ref (a 4), .ref (a 5), .ref (a 6), .ref (a 7), .ref (a 8), .ref (a 9), .int r, .ref (a 11), .ref (a 12), .ref (a 13), .ref (a 14), .int lv, .ref (a 16), .ref (a 17), .ref (a 18), .int (nI b0), .int o])), (a 1, .inl (cI, 6, .inl (v 1))), (a 2, .inl (cI, 240, .inl (v 2))), (a 3, .inl (cI, 240, .inl (v 3))), (a 4, .inl (cI, 240, .inl (v 4))), (a 5, .inl (cI, 240, .inl (v 5))), (a 6, .inl (cZ, 8, .inl (v 6))), (a 7, .inl (cI, 8, .inl (v 7))), (a 8, .inl (cI, 8, .inl (v 8))), (a 9, .inl (cI, 8, .inl (v 9))), (a 11, .inl (cI, 8, .inl (v 11))), (a 12, .inl (cI, 10, .inl (v 12))), (a 13, .inl (cI, 5, .inl (v 13))), (a 14, .inl (cI, 5, .inl (v 14))), (a 16, .inl (cI, 128, .inl (v 16))), (a 17, .inl (cI, 128, .inl (v 17))), (a 18, .inl (cI, 128, .inl (v 18)))] := hD
  refine lv_aload_n hx hb dX5_closes_10 rfl (lv_at hl 0 rfl) ?_
  refine va_get (D := D) (ci := 5) (v := .ref (a 16)) (C := RX5) (T := TX5) (N := 21) hx hb hts inX5 hown hK hP 0 rfl rfl 16 (by decide) fl50 (fun _ h9 => h9) rfl dX5_closes_11 ?_
  refine lv_aload_n hx hb dX5_closes_14 rfl (lv_at hl 0 rfl) ?_
  refine va_get (D := D) (ci := 5) (v := .int (nI b0)) (C := RX5) (T := TX5) (N := 21) hx hb hts inX5 hown hK hP 0 rfl rfl 19 (by decide) fl81 (fun _ h9 => h9) rfl dX5_closes_15 ?_
  refine xi_ald hx hb hK hP 14 0 rfl rfl (k := b0) (by omega) (by decide) dX5_closes_18 ?_
  refine tp (y := nI x) (hbx) ?_
  refine lv_istore_n (lv' := [(2, .int (nI x)), (0, .ref (a 0)), (1, .int 1)]) hx hb dX5_closes_19 rfl hl (by decide) rfl (fun ls hl => ?_)
  refine lv_iload_n hx hb dX5_closes_20 rfl (lv_at hl 0 rfl) ?_
  refine lv_bipush (v := 10) hx hb dX5_closes_21 (by decide) ?_
  refine lv_icmp_ge (tgt := 64) hx hb dX5_closes_23 (by decide) (fun c_23 => ?_) (fun c_23 => ?_)
  · have c_23 : 10 ≤ x := (nI_leI (a := 10) (b := x) (by omega) (by omega)).mp c_23
    exact absurd c_23 (by omega)
  · have c_23 : ¬ (10 ≤ x) := fun h => c_23 ((nI_leI (a := 10) (b := x) (by omega) (by omega)).mpr h)
    refine lv_aload_n hx hb dX5_closes_26 rfl (lv_at hl 1 rfl) ?_
    refine va_get (D := D) (ci := 5) (v := .ref (a 9)) (C := RX5) (T := TX5) (N := 21) hx hb hts inX5 hown hK hP 0 rfl rfl 9 (by decide) fl35 (fun _ h9 => h9) rfl dX5_closes_27 ?_
    refine lv_iload_n hx hb dX5_closes_30 rfl (lv_at hl 0 rfl) ?_
    refine lv_dup2_11 hx hb dX5_closes_31 rfl rfl ?_
    refine xi_ald hx hb hK hP 9 0 rfl rfl (k := x) (by omega) (by decide) dX5_closes_32 ?_
    refine lv_iconst (v := 1) hx hb dX5_closes_33 (by decide) ?_
    refine lv_isub hx hb dX5_closes_34 ?_
    refine xi_ast hx hb hK hP hD hS 9 0 rfl rfl (k := x) (x := (((v 9) x) - 1)) (by omega) (by decide) dX5_closes_35 (fun H locs hP hD hS => ?_)
    have hP : va_P D vwCl [(a 0, .inr (5, [.int t, .ref (a 1), .ref (a 2), .ref (a 3), .ref (a 4), .ref (a 5), .ref (a 6), .ref (a 7), .ref (a 8), .ref (a 9), .int r, .ref (a 11), .ref (a 12), .ref (a 13), .ref (a 14), .int lv, .ref (a 16), .ref (a 17), .ref (a 18), .int (nI b0), .int o])), (a 1, .inl (cI, 6, .inl (v 1))), (a 2, .inl (cI, 240, .inl (v 2))), (a 3, .inl (cI, 240, .inl (v 3))), (a 4, .inl (cI, 240, .inl (v 4))), (a 5, .inl (cI, 240, .inl (v 5))), (a 6, .inl (cZ, 8, .inl (v 6))), (a 7, .inl (cI, 8, .inl (v 7))), (a 8, .inl (cI, 8, .inl (v 8))), (a 9, .inl (cI, 8, .inl (upd (v 9) x (((v 9) x) - 1)))), (a 11, .inl (cI, 8, .inl (v 11))), (a 12, .inl (cI, 10, .inl (v 12))), (a 13, .inl (cI, 5, .inl (v 13))), (a 14, .inl (cI, 5, .inl (v 14))), (a 16, .inl (cI, 128, .inl (v 16))), (a 17, .inl (cI, 128, .inl (v 17))), (a 18, .inl (cI, 128, .inl (v 18)))] H := hP
    have hD : va_D A [(a 0, .inr (5, [.int t, .ref (a 1), .ref (a 2), .ref (a 3), .ref (a 4), .ref (a 5), .ref (a 6), .ref (a 7), .ref (a 8), .ref (a 9), .int r, .ref (a 11), .ref (a 12), .ref (a 13), .ref (a 14), .int lv, .ref (a 16), .ref (a 17), .ref (a 18), .int (nI b0), .int o])), (a 1, .inl (cI, 6, .inl (v 1))), (a 2, .inl (cI, 240, .inl (v 2))), (a 3, .inl (cI, 240, .inl (v 3))), (a 4, .inl (cI, 240, .inl (v 4))), (a 5, .inl (cI, 240, .inl (v 5))), (a 6, .inl (cZ, 8, .inl (v 6))), (a 7, .inl (cI, 8, .inl (v 7))), (a 8, .inl (cI, 8, .inl (v 8))), (a 9, .inl (cI, 8, .inl (upd (v 9) x (((v 9) x) - 1)))), (a 11, .inl (cI, 8, .inl (v 11))), (a 12, .inl (cI, 10, .inl (v 12))), (a 13, .inl (cI, 5, .inl (v 13))), (a 14, .inl (cI, 5, .inl (v 14))), (a 16, .inl (cI, 128, .inl (v 16))), (a 17, .inl (cI, 128, .inl (v 17))), (a 18, .inl (cI, 128, .inl (v 18)))] := hD
    refine lv_aload_n hx hb dX5_closes_36 rfl (lv_at hl 1 rfl) ?_
    refine lv_dup hx hb dX5_closes_37 rfl ?_
    refine va_get (D := D) (ci := 5) (v := .int o) (C := RX5) (T := TX5) (N := 21) hx hb hts inX5 hown hK hP 0 rfl rfl 20 (by decide) fl87 (fun _ h9 => h9) rfl dX5_closes_38 ?_
    refine lv_iconst (v := 1) hx hb dX5_closes_41 (by decide) ?_
    refine lv_isub hx hb dX5_closes_42 ?_
    refine va_put (D := D) (ci := 5) (v := .int (o - 1)) (ty := .int) (C := RX5) (T := TX5) (N := 21) hx hb hts inX5 tyX5 tyX5_ok nmX5 hown hK hP hD hS 0 rfl rfl 20 (by decide) fl87 (fun _ h9 => h9) rfl (by decide +kernel) rfl rfl (Nat.le_of_ble_eq_true rfl) dX5_closes_43 (fun H locs hP hD hS => ?_)
    have hP : va_P D vwCl [(a 0, .inr (5, [.int t, .ref (a 1), .ref (a 2), .ref (a 3), .ref (a 4), .ref (a 5), .ref (a 6), .ref (a 7), .ref (a 8), .ref (a 9), .int r, .ref (a 11), .ref (a 12), .ref (a 13), .ref (a 14), .int lv, .ref (a 16), .ref (a 17), .ref (a 18), .int (nI b0), .int (o - 1)])), (a 1, .inl (cI, 6, .inl (v 1))), (a 2, .inl (cI, 240, .inl (v 2))), (a 3, .inl (cI, 240, .inl (v 3))), (a 4, .inl (cI, 240, .inl (v 4))), (a 5, .inl (cI, 240, .inl (v 5))), (a 6, .inl (cZ, 8, .inl (v 6))), (a 7, .inl (cI, 8, .inl (v 7))), (a 8, .inl (cI, 8, .inl (v 8))), (a 9, .inl (cI, 8, .inl (upd (v 9) x (((v 9) x) - 1)))), (a 11, .inl (cI, 8, .inl (v 11))), (a 12, .inl (cI, 10, .inl (v 12))), (a 13, .inl (cI, 5, .inl (v 13))), (a 14, .inl (cI, 5, .inl (v 14))), (a 16, .inl (cI, 128, .inl (v 16))), (a 17, .inl (cI, 128, .inl (v 17))), (a 18, .inl (cI, 128, .inl (v 18)))] H := hP
    have hD : va_D A [(a 0, .inr (5, [.int t, .ref (a 1), .ref (a 2), .ref (a 3), .ref (a 4), .ref (a 5), .ref (a 6), .ref (a 7), .ref (a 8), .ref (a 9), .int r, .ref (a 11), .ref (a 12), .ref (a 13), .ref (a 14), .int lv, .ref (a 16), .ref (a 17), .ref (a 18), .int (nI b0), .int (o - 1)])), (a 1, .inl (cI, 6, .inl (v 1))), (a 2, .inl (cI, 240, .inl (v 2))), (a 3, .inl (cI, 240, .inl (v 3))), (a 4, .inl (cI, 240, .inl (v 4))), (a 5, .inl (cI, 240, .inl (v 5))), (a 6, .inl (cZ, 8, .inl (v 6))), (a 7, .inl (cI, 8, .inl (v 7))), (a 8, .inl (cI, 8, .inl (v 8))), (a 9, .inl (cI, 8, .inl (upd (v 9) x (((v 9) x) - 1)))), (a 11, .inl (cI, 8, .inl (v 11))), (a 12, .inl (cI, 10, .inl (v 12))), (a 13, .inl (cI, 5, .inl (v 13))), (a 14, .inl (cI, 5, .inl (v 14))), (a 16, .inl (cI, 128, .inl (v 16))), (a 17, .inl (cI, 128, .inl (v 17))), (a 18, .inl (cI, 128, .inl (v 18)))] := hD
    refine lv_aload_n hx hb dX5_closes_46 rfl (lv_at hl 1 rfl) ?_
    refine va_get (D := D) (ci := 5) (v := .ref (a 8)) (C := RX5) (T := TX5) (N := 21) hx hb hts inX5 hown hK hP 0 rfl rfl 8 (by decide) fl32 (fun _ h9 => h9) rfl dX5_closes_47 ?_
    refine lv_iload_n hx hb dX5_closes_50 rfl (lv_at hl 0 rfl) ?_
    refine lv_dup2_11 hx hb dX5_closes_51 rfl rfl ?_
    refine xi_ald hx hb hK hP 8 0 rfl rfl (k := x) (by omega) (by decide) dX5_closes_52 ?_
    refine lv_iload_n hx hb dX5_closes_53 rfl (lv_at hl 2 rfl) ?_
    refine lv_if_eq (tgt := 61) hx hb dX5_closes_54 (by decide) (fun c9 => absurd c9 (by decide)) (fun _ => ?_)
    refine lv_iconst (v := 1) hx hb dX5_closes_57 (by decide) ?_
    refine lv_goto (tgt := 62) hx hb dX5_closes_58 (by decide) ?_
    refine lv_iadd hx hb dX5_closes_62 ?_
    refine xi_ast hx hb hK hP hD hS 8 0 rfl rfl (k := x) (x := (((v 8) x) + 1)) (by omega) (by decide) dX5_closes_63 (fun H locs hP hD hS => ?_)
    have hP : va_P D vwCl [(a 0, .inr (5, [.int t, .ref (a 1), .ref (a 2), .ref (a 3), .ref (a 4), .ref (a 5), .ref (a 6), .ref (a 7), .ref (a 8), .ref (a 9), .int r, .ref (a 11), .ref (a 12), .ref (a 13), .ref (a 14), .int lv, .ref (a 16), .ref (a 17), .ref (a 18), .int (nI b0), .int (o - 1)])), (a 1, .inl (cI, 6, .inl (v 1))), (a 2, .inl (cI, 240, .inl (v 2))), (a 3, .inl (cI, 240, .inl (v 3))), (a 4, .inl (cI, 240, .inl (v 4))), (a 5, .inl (cI, 240, .inl (v 5))), (a 6, .inl (cZ, 8, .inl (v 6))), (a 7, .inl (cI, 8, .inl (v 7))), (a 8, .inl (cI, 8, .inl (upd (v 8) x (((v 8) x) + 1)))), (a 9, .inl (cI, 8, .inl (upd (v 9) x (((v 9) x) - 1)))), (a 11, .inl (cI, 8, .inl (v 11))), (a 12, .inl (cI, 10, .inl (v 12))), (a 13, .inl (cI, 5, .inl (v 13))), (a 14, .inl (cI, 5, .inl (v 14))), (a 16, .inl (cI, 128, .inl (v 16))), (a 17, .inl (cI, 128, .inl (v 17))), (a 18, .inl (cI, 128, .inl (v 18)))] H := hP
    have hD : va_D A [(a 0, .inr (5, [.int t, .ref (a 1), .ref (a 2), .ref (a 3), .ref (a 4), .ref (a 5), .ref (a 6), .ref (a 7), .ref (a 8), .ref (a 9), .int r, .ref (a 11), .ref (a 12), .ref (a 13), .ref (a 14), .int lv, .ref (a 16), .ref (a 17), .ref (a 18), .int (nI b0), .int (o - 1)])), (a 1, .inl (cI, 6, .inl (v 1))), (a 2, .inl (cI, 240, .inl (v 2))), (a 3, .inl (cI, 240, .inl (v 3))), (a 4, .inl (cI, 240, .inl (v 4))), (a 5, .inl (cI, 240, .inl (v 5))), (a 6, .inl (cZ, 8, .inl (v 6))), (a 7, .inl (cI, 8, .inl (v 7))), (a 8, .inl (cI, 8, .inl (upd (v 8) x (((v 8) x) + 1)))), (a 9, .inl (cI, 8, .inl (upd (v 9) x (((v 9) x) - 1)))), (a 11, .inl (cI, 8, .inl (v 11))), (a 12, .inl (cI, 10, .inl (v 12))), (a 13, .inl (cI, 5, .inl (v 13))), (a 14, .inl (cI, 5, .inl (v 14))), (a 16, .inl (cI, 128, .inl (v 16))), (a 17, .inl (cI, 128, .inl (v 17))), (a 18, .inl (cI, 128, .inl (v 18)))] := hD
    exact Rv (D := D) () hx hb hr hlocks hP hD hS trivial dX5_closes_64

set_option maxHeartbeats 4000000 in
set_option maxRecDepth 100000 in
theorem c_X5_closes1T (l : Launch) (D : va_G) (cI cZ : ClassId) (a : Nat → Nat) (v : Nat → Nat → Int32) (t r lv o : Int32) (b0 : Nat) (hb0 : b0 < 128) (x : Nat) (hx10 : x < 10) (hbx : v 16 b0 = nI (10 + x)) : Cv l D [(cI, .int), (cZ, .boolean)] yX5_closes wsX5_closes ({ frames := 0, cells := 0, slots := 0, locals := 0 }) [.ref (a 0), .int 1] (wM a cI cZ v t r lv (nI (b0 + 1)) o) (S := Unit) (fun _ => True) (fun _ => wM a cI cZ v t r lv (nI b0) o) := by
  refine Cv.mk (cc := cX5_closes) (maxL := 3) (ret := none) (by decide +kernel) rfl (Nat.le_of_ble_eq_true rfl) ?_
  intro pg e s m below meth c A ls hx hb hml hr hown hts hlocks hK hns hA hP hD hS hl
  have hl : lv_has ls 3 [(0, .ref (a 0)), (1, .int 1)] := hl
  have fl81 := hts (.fieldLink RX5 81 "HeldShelvesModel" "blocks" "I") (List.mem_of_getElem? (i := 1) rfl)
  have inX5 : ∀ w ∈ wsX50, w ∈ wsX5_closes := fun _ h => List.mem_cons_of_mem _ (List.mem_append_right _ h)
  have fl50 := hts (.fieldLink RX5 50 "HeldShelvesModel" "block" "[I") (List.mem_of_getElem? (i := 2) rfl)
  have hP : va_P D vwCl [(a 0, .inr (5, [.int t, .ref (a 1), .ref (a 2), .ref (a 3), .ref (a 4), .ref (a 5), .ref (a 6), .ref (a 7), .ref (a 8), .ref (a 9), .int r, .ref (a 11), .ref (a 12), .ref (a 13), .ref (a 14), .int lv, .ref (a 16), .ref (a 17), .ref (a 18), .int (nI (b0 + 1)), .int o])), (a 1, .inl (cI, 6, .inl (v 1))), (a 2, .inl (cI, 240, .inl (v 2))), (a 3, .inl (cI, 240, .inl (v 3))), (a 4, .inl (cI, 240, .inl (v 4))), (a 5, .inl (cI, 240, .inl (v 5))), (a 6, .inl (cZ, 8, .inl (v 6))), (a 7, .inl (cI, 8, .inl (v 7))), (a 8, .inl (cI, 8, .inl (v 8))), (a 9, .inl (cI, 8, .inl (v 9))), (a 11, .inl (cI, 8, .inl (v 11))), (a 12, .inl (cI, 10, .inl (v 12))), (a 13, .inl (cI, 5, .inl (v 13))), (a 14, .inl (cI, 5, .inl (v 14))), (a 16, .inl (cI, 128, .inl (v 16))), (a 17, .inl (cI, 128, .inl (v 17))), (a 18, .inl (cI, 128, .inl (v 18)))] s.heap := hP
  have hD : va_D A [(a 0, .inr (5, [.int t, .ref (a 1), .ref (a 2), .ref (a 3), .ref (a 4), .ref (a 5), .ref (a 6), .ref (a 7), .ref (a 8), .ref (a 9), .int r, .ref (a 11), .ref (a 12), .ref (a 13), .ref (a 14), .int lv, .ref (a 16), .ref (a 17), .ref (a 18), .int (nI (b0 + 1)), .int o])), (a 1, .inl (cI, 6, .inl (v 1))), (a 2, .inl (cI, 240, .inl (v 2))), (a 3, .inl (cI, 240, .inl (v 3))), (a 4, .inl (cI, 240, .inl (v 4))), (a 5, .inl (cI, 240, .inl (v 5))), (a 6, .inl (cZ, 8, .inl (v 6))), (a 7, .inl (cI, 8, .inl (v 7))), (a 8, .inl (cI, 8, .inl (v 8))), (a 9, .inl (cI, 8, .inl (v 9))), (a 11, .inl (cI, 8, .inl (v 11))), (a 12, .inl (cI, 10, .inl (v 12))), (a 13, .inl (cI, 5, .inl (v 13))), (a 14, .inl (cI, 5, .inl (v 14))), (a 16, .inl (cI, 128, .inl (v 16))), (a 17, .inl (cI, 128, .inl (v 17))), (a 18, .inl (cI, 128, .inl (v 18)))] := hD
  refine lv_aload_n hx hb dX5_closes_0 rfl (lv_at hl 0 rfl) ?_
  refine lv_dup hx hb dX5_closes_1 rfl ?_
  refine va_get (D := D) (ci := 5) (v := .int (nI (b0 + 1))) (C := RX5) (T := TX5) (N := 21) hx hb hts inX5 hown hK hP 0 rfl rfl 19 (by decide) fl81 (fun _ h9 => h9) rfl dX5_closes_2 ?_
  refine lv_iconst (v := 1) hx hb dX5_closes_5 (by decide) ?_
  refine lv_isub hx hb dX5_closes_6 ?_
  refine tp (y := nI b0) (nI_pred b0) ?_
  refine va_put (D := D) (ci := 5) (v := .int (nI b0)) (ty := .int) (C := RX5) (T := TX5) (N := 21) hx hb hts inX5 tyX5 tyX5_ok nmX5 hown hK hP hD hS 0 rfl rfl 19 (by decide) fl81 (fun _ h9 => h9) rfl (by decide +kernel) rfl rfl (Nat.le_of_ble_eq_true rfl) dX5_closes_7 (fun H locs hP hD hS => ?_)
  have hP : va_P D vwCl [(a 0, .inr (5, [.int t, .ref (a 1), .ref (a 2), .ref (a 3), .ref (a 4), .ref (a 5), .ref (a 6), .ref (a 7), .ref (a 8), .ref (a 9), .int r, .ref (a 11), .ref (a 12), .ref (a 13), .ref (a 14), .int lv, .ref (a 16), .ref (a 17), .ref (a 18), .int (nI b0), .int o])), (a 1, .inl (cI, 6, .inl (v 1))), (a 2, .inl (cI, 240, .inl (v 2))), (a 3, .inl (cI, 240, .inl (v 3))), (a 4, .inl (cI, 240, .inl (v 4))), (a 5, .inl (cI, 240, .inl (v 5))), (a 6, .inl (cZ, 8, .inl (v 6))), (a 7, .inl (cI, 8, .inl (v 7))), (a 8, .inl (cI, 8, .inl (v 8))), (a 9, .inl (cI, 8, .inl (v 9))), (a 11, .inl (cI, 8, .inl (v 11))), (a 12, .inl (cI, 10, .inl (v 12))), (a 13, .inl (cI, 5, .inl (v 13))), (a 14, .inl (cI, 5, .inl (v 14))), (a 16, .inl (cI, 128, .inl (v 16))), (a 17, .inl (cI, 128, .inl (v 17))), (a 18, .inl (cI, 128, .inl (v 18)))] H := hP
  have hD : va_D A [(a 0, .inr (5, [.int t, .ref (a 1), .ref (a 2), .ref (a 3), .ref (a 4), .ref (a 5), .ref (a 6), .ref (a 7), .ref (a 8), .ref (a 9), .int r, .ref (a 11), .ref (a 12), .ref (a 13), .ref (a 14), .int lv, .ref (a 16), .ref (a 17), .ref (a 18), .int (nI b0), .int o])), (a 1, .inl (cI, 6, .inl (v 1))), (a 2, .inl (cI, 240, .inl (v 2))), (a 3, .inl (cI, 240, .inl (v 3))), (a 4, .inl (cI, 240, .inl (v 4))), (a 5, .inl (cI, 240, .inl (v 5))), (a 6, .inl (cZ, 8, .inl (v 6))), (a 7, .inl (cI, 8, .inl (v 7))), (a 8, .inl (cI, 8, .inl (v 8))), (a 9, .inl (cI, 8, .inl (v 9))), (a 11, .inl (cI, 8, .inl (v 11))), (a 12, .inl (cI, 10, .inl (v 12))), (a 13, .inl (cI, 5, .inl (v 13))), (a 14, .inl (cI, 5, .inl (v 14))), (a 16, .inl (cI, 128, .inl (v 16))), (a 17, .inl (cI, 128, .inl (v 17))), (a 18, .inl (cI, 128, .inl (v 18)))] := hD
  refine lv_aload_n hx hb dX5_closes_10 rfl (lv_at hl 0 rfl) ?_
  refine va_get (D := D) (ci := 5) (v := .ref (a 16)) (C := RX5) (T := TX5) (N := 21) hx hb hts inX5 hown hK hP 0 rfl rfl 16 (by decide) fl50 (fun _ h9 => h9) rfl dX5_closes_11 ?_
  refine lv_aload_n hx hb dX5_closes_14 rfl (lv_at hl 0 rfl) ?_
  refine va_get (D := D) (ci := 5) (v := .int (nI b0)) (C := RX5) (T := TX5) (N := 21) hx hb hts inX5 hown hK hP 0 rfl rfl 19 (by decide) fl81 (fun _ h9 => h9) rfl dX5_closes_15 ?_
  refine xi_ald hx hb hK hP 14 0 rfl rfl (k := b0) (by omega) (by decide) dX5_closes_18 ?_
  refine tp (y := nI (10 + x)) (hbx) ?_
  refine lv_istore_n (lv' := [(2, .int (nI (10 + x))), (0, .ref (a 0)), (1, .int 1)]) hx hb dX5_closes_19 rfl hl (by decide) rfl (fun ls hl => ?_)
  refine lv_iload_n hx hb dX5_closes_20 rfl (lv_at hl 0 rfl) ?_
  refine lv_bipush (v := 10) hx hb dX5_closes_21 (by decide) ?_
  refine lv_icmp_ge (tgt := 64) hx hb dX5_closes_23 (by decide) (fun c_23 => ?_) (fun c_23 => ?_)
  · have c_23 : 10 ≤ (10 + x) := (nI_leI (a := 10) (b := (10 + x)) (by omega) (by omega)).mp c_23
    exact Rv (D := D) () hx hb hr hlocks hP hD hS trivial dX5_closes_64
  · have c_23 : ¬ (10 ≤ (10 + x)) := fun h => c_23 ((nI_leI (a := 10) (b := (10 + x)) (by omega) (by omega)).mpr h)
    exact absurd c_23 (by omega)

set_option maxHeartbeats 4000000 in
set_option maxRecDepth 100000 in
theorem c_X5_wrongShelf (l : Launch) (D : va_G) (cI cZ : ClassId) (a : Nat → Nat) (v : Nat → Nat → Int32) (t r lv b o : Int32) (th : Nat → Bool) (hz : zk (v 6) th) (x : Nat) (hx16 : x < 16) : Ci l D [(cI, .int), (cZ, .boolean)] yX5_wrongShelf wsX5_wrongShelf ({ frames := 0, cells := 0, slots := 0, locals := 0 }) [.ref (a 0), .int (nI x)] (wM a cI cZ v t r lv b o) (S := Unit) (fun w _ => w = nI (mis th x)) (fun _ => wM a cI cZ v t r lv b o) := by
  refine Ci.mk (cc := cX5_wrongShelf) (maxL := 2) (ret := (some .int)) (by decide +kernel) rfl (Nat.le_of_ble_eq_true rfl) ?_
  intro pg e s m below meth c A ls hx hb hml hr hown hts hlocks hK hns hA hP hD hS hl
  have hl : lv_has ls 2 [(0, .ref (a 0)), (1, .int (nI x))] := hl
  have fl25 := hts (.fieldLink RX5 25 "HeldShelvesModel" "isThere" "[Z") (List.mem_of_getElem? (i := 1) rfl)
  have inX5 : ∀ w ∈ wsX50, w ∈ wsX5_wrongShelf := fun _ h => List.mem_cons_of_mem _ (List.mem_append_right _ h)
  have hP : va_P D vwCl [(a 0, .inr (5, [.int t, .ref (a 1), .ref (a 2), .ref (a 3), .ref (a 4), .ref (a 5), .ref (a 6), .ref (a 7), .ref (a 8), .ref (a 9), .int r, .ref (a 11), .ref (a 12), .ref (a 13), .ref (a 14), .int lv, .ref (a 16), .ref (a 17), .ref (a 18), .int b, .int o])), (a 1, .inl (cI, 6, .inl (v 1))), (a 2, .inl (cI, 240, .inl (v 2))), (a 3, .inl (cI, 240, .inl (v 3))), (a 4, .inl (cI, 240, .inl (v 4))), (a 5, .inl (cI, 240, .inl (v 5))), (a 6, .inl (cZ, 8, .inl (v 6))), (a 7, .inl (cI, 8, .inl (v 7))), (a 8, .inl (cI, 8, .inl (v 8))), (a 9, .inl (cI, 8, .inl (v 9))), (a 11, .inl (cI, 8, .inl (v 11))), (a 12, .inl (cI, 10, .inl (v 12))), (a 13, .inl (cI, 5, .inl (v 13))), (a 14, .inl (cI, 5, .inl (v 14))), (a 16, .inl (cI, 128, .inl (v 16))), (a 17, .inl (cI, 128, .inl (v 17))), (a 18, .inl (cI, 128, .inl (v 18)))] s.heap := hP
  have hD : va_D A [(a 0, .inr (5, [.int t, .ref (a 1), .ref (a 2), .ref (a 3), .ref (a 4), .ref (a 5), .ref (a 6), .ref (a 7), .ref (a 8), .ref (a 9), .int r, .ref (a 11), .ref (a 12), .ref (a 13), .ref (a 14), .int lv, .ref (a 16), .ref (a 17), .ref (a 18), .int b, .int o])), (a 1, .inl (cI, 6, .inl (v 1))), (a 2, .inl (cI, 240, .inl (v 2))), (a 3, .inl (cI, 240, .inl (v 3))), (a 4, .inl (cI, 240, .inl (v 4))), (a 5, .inl (cI, 240, .inl (v 5))), (a 6, .inl (cZ, 8, .inl (v 6))), (a 7, .inl (cI, 8, .inl (v 7))), (a 8, .inl (cI, 8, .inl (v 8))), (a 9, .inl (cI, 8, .inl (v 9))), (a 11, .inl (cI, 8, .inl (v 11))), (a 12, .inl (cI, 10, .inl (v 12))), (a 13, .inl (cI, 5, .inl (v 13))), (a 14, .inl (cI, 5, .inl (v 14))), (a 16, .inl (cI, 128, .inl (v 16))), (a 17, .inl (cI, 128, .inl (v 17))), (a 18, .inl (cI, 128, .inl (v 18)))] := hD
  refine lv_iload_n hx hb dX5_wrongShelf_0 rfl (lv_at hl 1 rfl) ?_
  refine lv_bipush (v := 7) hx hb dX5_wrongShelf_1 (by decide) ?_
  refine lv_icmp_le (tgt := 10) hx hb dX5_wrongShelf_3 (by decide) (fun c_3 => ?_) (fun c_3 => ?_)
  · have c_3 : x ≤ 7 := (nI_leI (a := x) (b := 7) (by omega) (by omega)).mp c_3
    refine lv_aload_n hx hb dX5_wrongShelf_10 rfl (lv_at hl 0 rfl) ?_
    refine va_get (D := D) (ci := 5) (v := .ref (a 6)) (C := RX5) (T := TX5) (N := 21) hx hb hts inX5 hown hK hP 0 rfl rfl 6 (by decide) fl25 (fun _ h9 => h9) rfl dX5_wrongShelf_11 ?_
    refine lv_iload_n hx hb dX5_wrongShelf_14 rfl (lv_at hl 1 rfl) ?_
    refine xz_ald hx hb hK hP 6 1 rfl rfl (k := x) (by omega) (by decide) dX5_wrongShelf_15 ?_
    refine lv_if_ne (tgt := 23) hx hb dX5_wrongShelf_16 (by decide) (fun c_16 => ?_) (fun c_16 => ?_)
    · refine lv_iconst (v := 0) hx hb dX5_wrongShelf_23 (by decide) ?_
      exact Ri (D := D) () hx hb hr rfl hlocks hP hD hS (by rw [mis_z (by omega) (zk_1 hz (by omega) c_16)]; rfl) dX5_wrongShelf_24
    · refine lv_iconst (v := 2) hx hb dX5_wrongShelf_19 (by decide) ?_
      refine lv_goto (tgt := 24) hx hb dX5_wrongShelf_20 (by decide) ?_
      exact Ri (D := D) () hx hb hr rfl hlocks hP hD hS (by rw [mis_n (by omega) (zk_0 hz (by omega) c_16)]; rfl) dX5_wrongShelf_24
  · have c_3 : ¬ (x ≤ 7) := fun h => c_3 ((nI_leI (a := x) (b := 7) (by omega) (by omega)).mpr h)
    refine lv_iconst (v := 1) hx hb dX5_wrongShelf_6 (by decide) ?_
    refine lv_goto (tgt := 24) hx hb dX5_wrongShelf_7 (by decide) ?_
    exact Ri (D := D) () hx hb hr rfl hlocks hP hD hS (by rw [mis, if_pos (by omega)]; rfl) dX5_wrongShelf_24

set_option maxHeartbeats 4000000 in
set_option maxRecDepth 100000 in
theorem c_X5_hold (l : Launch) (D : va_G) (cI cZ : ClassId) (a : Nat → Nat) (v : Nat → Nat → Int32) (t r lv o : Int32) (b0 : Nat) (hb0 : b0 < 128) (th : Nat → Bool) (hz : zk (v 6) th) (x : Nat) (hx16 : x < 16) (y : Int32) : Ci l D [(cI, .int), (cZ, .boolean)] yX5_hold wsX5_hold ({ frames := 1, cells := 0, slots := 0, locals := 22 }) [.ref (a 0), .int (nI x), .int y] (wM a cI cZ v t r lv (nI b0) o) (S := (Nat → Nat → Int32) × Int32 × Int32) (fun w u => (mis th x ≠ 0 ∧ w = nI (mis th x) ∧ u = (v, nI b0, o)) ∨ (mis th x = 0 ∧ w = 0 ∧ u = ((va_up (va_up (va_up (va_up (va_up v 16 (upd (v 16) b0 (nI x))) 17 (upd (v 17) b0 y)) 18 (upd (v 18) b0 lv)) 9 (upd (v 9) x (v 9 x + 1))) 11 (upd (upd (v 11) 4 (v 11 4 + 1)) 5 (if v 11 5 < o + 1 then o + 1 else v 11 5))), nI (b0 + 1), o + 1))) (fun u => wM a cI cZ u.1 t r lv u.2.1 u.2.2) := by
  refine Ci.mk (cc := cX5_hold) (maxL := 4) (ret := (some .int)) (by decide +kernel) rfl (Nat.le_of_ble_eq_true rfl) ?_
  intro pg e s m below meth c A ls hx hb hml hr hown hts hlocks hK hns hA hP hD hS hl
  have hl : lv_has ls 4 [(0, .ref (a 0)), (1, .int (nI x)), (2, .int y)] := hl
  have fl35 := hts (.fieldLink RX5 35 "HeldShelvesModel" "held" "[I") (List.mem_of_getElem? (i := 1) rfl)
  have inX5 : ∀ w ∈ wsX50, w ∈ wsX5_hold := fun _ h => List.mem_cons_of_mem _ (List.mem_append_right _ h)
  have fl87 := hts (.fieldLink RX5 87 "HeldShelvesModel" "open" "I") (List.mem_of_getElem? (i := 2) rfl)
  have fl38 := hts (.fieldLink RX5 38 "HeldShelvesModel" "told" "[I") (List.mem_of_getElem? (i := 3) rfl)
  have hP : va_P D vwCl [(a 0, .inr (5, [.int t, .ref (a 1), .ref (a 2), .ref (a 3), .ref (a 4), .ref (a 5), .ref (a 6), .ref (a 7), .ref (a 8), .ref (a 9), .int r, .ref (a 11), .ref (a 12), .ref (a 13), .ref (a 14), .int lv, .ref (a 16), .ref (a 17), .ref (a 18), .int (nI b0), .int o])), (a 1, .inl (cI, 6, .inl (v 1))), (a 2, .inl (cI, 240, .inl (v 2))), (a 3, .inl (cI, 240, .inl (v 3))), (a 4, .inl (cI, 240, .inl (v 4))), (a 5, .inl (cI, 240, .inl (v 5))), (a 6, .inl (cZ, 8, .inl (v 6))), (a 7, .inl (cI, 8, .inl (v 7))), (a 8, .inl (cI, 8, .inl (v 8))), (a 9, .inl (cI, 8, .inl (v 9))), (a 11, .inl (cI, 8, .inl (v 11))), (a 12, .inl (cI, 10, .inl (v 12))), (a 13, .inl (cI, 5, .inl (v 13))), (a 14, .inl (cI, 5, .inl (v 14))), (a 16, .inl (cI, 128, .inl (v 16))), (a 17, .inl (cI, 128, .inl (v 17))), (a 18, .inl (cI, 128, .inl (v 18)))] s.heap := hP
  have hD : va_D A [(a 0, .inr (5, [.int t, .ref (a 1), .ref (a 2), .ref (a 3), .ref (a 4), .ref (a 5), .ref (a 6), .ref (a 7), .ref (a 8), .ref (a 9), .int r, .ref (a 11), .ref (a 12), .ref (a 13), .ref (a 14), .int lv, .ref (a 16), .ref (a 17), .ref (a 18), .int (nI b0), .int o])), (a 1, .inl (cI, 6, .inl (v 1))), (a 2, .inl (cI, 240, .inl (v 2))), (a 3, .inl (cI, 240, .inl (v 3))), (a 4, .inl (cI, 240, .inl (v 4))), (a 5, .inl (cI, 240, .inl (v 5))), (a 6, .inl (cZ, 8, .inl (v 6))), (a 7, .inl (cI, 8, .inl (v 7))), (a 8, .inl (cI, 8, .inl (v 8))), (a 9, .inl (cI, 8, .inl (v 9))), (a 11, .inl (cI, 8, .inl (v 11))), (a 12, .inl (cI, 10, .inl (v 12))), (a 13, .inl (cI, 5, .inl (v 13))), (a 14, .inl (cI, 5, .inl (v 14))), (a 16, .inl (cI, 128, .inl (v 16))), (a 17, .inl (cI, 128, .inl (v 17))), (a 18, .inl (cI, 128, .inl (v 18)))] := hD
  have hm := mis_le (th := th) (s := x)
  refine lv_aload_n hx hb dX5_hold_0 rfl (lv_at hl 0 rfl) ?_
  refine lv_iload_n hx hb dX5_hold_1 rfl (lv_at hl 1 rfl) ?_
  refine cl_Vi ([]) ([]) (As := [.int (nI x)]) (rest := []) (c_X5_wrongShelf l D cI cZ a v t r lv (nI b0) o th hz x hx16) ⟨hx, hb, hml, hown, hts⟩ (cwV 1 hts gX5_hold_X5_wrongShelf rfl rfl rfl (by decide +kernel) ⟨Nat.le_of_ble_eq_true rfl, Nat.le_of_ble_eq_true rfl⟩) hK hns hP hD hS hA rfl (T := TX5) (N := 21) rfl rfl hl.1 rfl (Nat.le_of_ble_eq_true rfl) dX5_hold_2 ⟨Nat.zero_le _, Nat.zero_le _⟩ (fun r2 u2 H locs hw2 hP hD hS => ?_)
  have hP : va_P D vwCl [(a 0, .inr (5, [.int t, .ref (a 1), .ref (a 2), .ref (a 3), .ref (a 4), .ref (a 5), .ref (a 6), .ref (a 7), .ref (a 8), .ref (a 9), .int r, .ref (a 11), .ref (a 12), .ref (a 13), .ref (a 14), .int lv, .ref (a 16), .ref (a 17), .ref (a 18), .int (nI b0), .int o])), (a 1, .inl (cI, 6, .inl (v 1))), (a 2, .inl (cI, 240, .inl (v 2))), (a 3, .inl (cI, 240, .inl (v 3))), (a 4, .inl (cI, 240, .inl (v 4))), (a 5, .inl (cI, 240, .inl (v 5))), (a 6, .inl (cZ, 8, .inl (v 6))), (a 7, .inl (cI, 8, .inl (v 7))), (a 8, .inl (cI, 8, .inl (v 8))), (a 9, .inl (cI, 8, .inl (v 9))), (a 11, .inl (cI, 8, .inl (v 11))), (a 12, .inl (cI, 10, .inl (v 12))), (a 13, .inl (cI, 5, .inl (v 13))), (a 14, .inl (cI, 5, .inl (v 14))), (a 16, .inl (cI, 128, .inl (v 16))), (a 17, .inl (cI, 128, .inl (v 17))), (a 18, .inl (cI, 128, .inl (v 18)))] H := hP
  have hD : va_D A [(a 0, .inr (5, [.int t, .ref (a 1), .ref (a 2), .ref (a 3), .ref (a 4), .ref (a 5), .ref (a 6), .ref (a 7), .ref (a 8), .ref (a 9), .int r, .ref (a 11), .ref (a 12), .ref (a 13), .ref (a 14), .int lv, .ref (a 16), .ref (a 17), .ref (a 18), .int (nI b0), .int o])), (a 1, .inl (cI, 6, .inl (v 1))), (a 2, .inl (cI, 240, .inl (v 2))), (a 3, .inl (cI, 240, .inl (v 3))), (a 4, .inl (cI, 240, .inl (v 4))), (a 5, .inl (cI, 240, .inl (v 5))), (a 6, .inl (cZ, 8, .inl (v 6))), (a 7, .inl (cI, 8, .inl (v 7))), (a 8, .inl (cI, 8, .inl (v 8))), (a 9, .inl (cI, 8, .inl (v 9))), (a 11, .inl (cI, 8, .inl (v 11))), (a 12, .inl (cI, 10, .inl (v 12))), (a 13, .inl (cI, 5, .inl (v 13))), (a 14, .inl (cI, 5, .inl (v 14))), (a 16, .inl (cI, 128, .inl (v 16))), (a 17, .inl (cI, 128, .inl (v 17))), (a 18, .inl (cI, 128, .inl (v 18)))] := hD
  subst hw2
  refine lv_istore_n (lv' := [(3, .int (nI (mis th x))), (0, .ref (a 0)), (1, .int (nI x)), (2, .int y)]) hx hb dX5_hold_5 rfl hl (by decide) rfl (fun ls hl => ?_)
  refine lv_iload_n hx hb dX5_hold_6 rfl (lv_at hl 0 rfl) ?_
  refine lv_if_ne (tgt := 78) hx hb dX5_hold_7 (by decide) (fun c_7 => ?_) (fun c_7 => ?_)
  · have c_7 : ¬ ((mis th x) = 0) := fun h => c_7 ((nI_eq (a := (mis th x)) (b := 0) (by omega) (by omega)).mpr h)
    refine lv_iload_n hx hb dX5_hold_78 rfl (lv_at hl 0 rfl) ?_
    exact Ri (D := D) (v, nI b0, o) hx hb hr rfl hlocks hP hD hS (Or.inl ⟨c_7, rfl, rfl⟩) dX5_hold_79
  · have c_7 : (mis th x) = 0 := (nI_eq (a := (mis th x)) (b := 0) (by omega) (by omega)).mp c_7
    have h8 := mis_0 c_7
    refine lv_aload_n hx hb dX5_hold_10 rfl (lv_at hl 1 rfl) ?_
    refine lv_iload_n hx hb dX5_hold_11 rfl (lv_at hl 2 rfl) ?_
    refine lv_iload_n hx hb dX5_hold_12 rfl (lv_at hl 3 rfl) ?_
    refine cl_Vv ([]) ([]) (As := [.int (nI x), .int y]) (rest := []) (c_X5_begins l D cI cZ a v t r lv o b0 hb0 (nI x) y) ⟨hx, hb, hml, hown, hts⟩ (cwV 2 hts gX5_hold_X5_begins rfl rfl rfl (by decide +kernel) ⟨Nat.le_of_ble_eq_true rfl, Nat.le_of_ble_eq_true rfl⟩) hK hns hP hD hS hA rfl (T := TX5) (N := 21) rfl rfl hl.1 rfl (Nat.le_of_ble_eq_true rfl) dX5_hold_13 ⟨Nat.zero_le _, Nat.zero_le _⟩ (fun u13 H locs hw13 hP hD hS => ?_)
    have hP : va_P D vwCl [(a 0, .inr (5, [.int t, .ref (a 1), .ref (a 2), .ref (a 3), .ref (a 4), .ref (a 5), .ref (a 6), .ref (a 7), .ref (a 8), .ref (a 9), .int r, .ref (a 11), .ref (a 12), .ref (a 13), .ref (a 14), .int lv, .ref (a 16), .ref (a 17), .ref (a 18), .int (nI (b0 + 1)), .int o])), (a 1, .inl (cI, 6, .inl (v 1))), (a 2, .inl (cI, 240, .inl (v 2))), (a 3, .inl (cI, 240, .inl (v 3))), (a 4, .inl (cI, 240, .inl (v 4))), (a 5, .inl (cI, 240, .inl (v 5))), (a 6, .inl (cZ, 8, .inl (v 6))), (a 7, .inl (cI, 8, .inl (v 7))), (a 8, .inl (cI, 8, .inl (v 8))), (a 9, .inl (cI, 8, .inl (v 9))), (a 11, .inl (cI, 8, .inl (v 11))), (a 12, .inl (cI, 10, .inl (v 12))), (a 13, .inl (cI, 5, .inl (v 13))), (a 14, .inl (cI, 5, .inl (v 14))), (a 16, .inl (cI, 128, .inl (upd (v 16) b0 (nI x)))), (a 17, .inl (cI, 128, .inl (upd (v 17) b0 y))), (a 18, .inl (cI, 128, .inl (upd (v 18) b0 lv)))] H := hP
    have hD : va_D A [(a 0, .inr (5, [.int t, .ref (a 1), .ref (a 2), .ref (a 3), .ref (a 4), .ref (a 5), .ref (a 6), .ref (a 7), .ref (a 8), .ref (a 9), .int r, .ref (a 11), .ref (a 12), .ref (a 13), .ref (a 14), .int lv, .ref (a 16), .ref (a 17), .ref (a 18), .int (nI (b0 + 1)), .int o])), (a 1, .inl (cI, 6, .inl (v 1))), (a 2, .inl (cI, 240, .inl (v 2))), (a 3, .inl (cI, 240, .inl (v 3))), (a 4, .inl (cI, 240, .inl (v 4))), (a 5, .inl (cI, 240, .inl (v 5))), (a 6, .inl (cZ, 8, .inl (v 6))), (a 7, .inl (cI, 8, .inl (v 7))), (a 8, .inl (cI, 8, .inl (v 8))), (a 9, .inl (cI, 8, .inl (v 9))), (a 11, .inl (cI, 8, .inl (v 11))), (a 12, .inl (cI, 10, .inl (v 12))), (a 13, .inl (cI, 5, .inl (v 13))), (a 14, .inl (cI, 5, .inl (v 14))), (a 16, .inl (cI, 128, .inl (upd (v 16) b0 (nI x)))), (a 17, .inl (cI, 128, .inl (upd (v 17) b0 y))), (a 18, .inl (cI, 128, .inl (upd (v 18) b0 lv)))] := hD
    refine lv_aload_n hx hb dX5_hold_16 rfl (lv_at hl 1 rfl) ?_
    refine va_get (D := D) (ci := 5) (v := .ref (a 9)) (C := RX5) (T := TX5) (N := 21) hx hb hts inX5 hown hK hP 0 rfl rfl 9 (by decide) fl35 (fun _ h9 => h9) rfl dX5_hold_17 ?_
    refine lv_iload_n hx hb dX5_hold_20 rfl (lv_at hl 2 rfl) ?_
    refine lv_dup2_11 hx hb dX5_hold_21 rfl rfl ?_
    refine xi_ald hx hb hK hP 9 0 rfl rfl (k := x) (by omega) (by decide) dX5_hold_22 ?_
    refine lv_iconst (v := 1) hx hb dX5_hold_23 (by decide) ?_
    refine lv_iadd hx hb dX5_hold_24 ?_
    refine xi_ast hx hb hK hP hD hS 9 0 rfl rfl (k := x) (x := (((v 9) x) + 1)) (by omega) (by decide) dX5_hold_25 (fun H locs hP hD hS => ?_)
    have hP : va_P D vwCl [(a 0, .inr (5, [.int t, .ref (a 1), .ref (a 2), .ref (a 3), .ref (a 4), .ref (a 5), .ref (a 6), .ref (a 7), .ref (a 8), .ref (a 9), .int r, .ref (a 11), .ref (a 12), .ref (a 13), .ref (a 14), .int lv, .ref (a 16), .ref (a 17), .ref (a 18), .int (nI (b0 + 1)), .int o])), (a 1, .inl (cI, 6, .inl (v 1))), (a 2, .inl (cI, 240, .inl (v 2))), (a 3, .inl (cI, 240, .inl (v 3))), (a 4, .inl (cI, 240, .inl (v 4))), (a 5, .inl (cI, 240, .inl (v 5))), (a 6, .inl (cZ, 8, .inl (v 6))), (a 7, .inl (cI, 8, .inl (v 7))), (a 8, .inl (cI, 8, .inl (v 8))), (a 9, .inl (cI, 8, .inl (upd (v 9) x (((v 9) x) + 1)))), (a 11, .inl (cI, 8, .inl (v 11))), (a 12, .inl (cI, 10, .inl (v 12))), (a 13, .inl (cI, 5, .inl (v 13))), (a 14, .inl (cI, 5, .inl (v 14))), (a 16, .inl (cI, 128, .inl (upd (v 16) b0 (nI x)))), (a 17, .inl (cI, 128, .inl (upd (v 17) b0 y))), (a 18, .inl (cI, 128, .inl (upd (v 18) b0 lv)))] H := hP
    have hD : va_D A [(a 0, .inr (5, [.int t, .ref (a 1), .ref (a 2), .ref (a 3), .ref (a 4), .ref (a 5), .ref (a 6), .ref (a 7), .ref (a 8), .ref (a 9), .int r, .ref (a 11), .ref (a 12), .ref (a 13), .ref (a 14), .int lv, .ref (a 16), .ref (a 17), .ref (a 18), .int (nI (b0 + 1)), .int o])), (a 1, .inl (cI, 6, .inl (v 1))), (a 2, .inl (cI, 240, .inl (v 2))), (a 3, .inl (cI, 240, .inl (v 3))), (a 4, .inl (cI, 240, .inl (v 4))), (a 5, .inl (cI, 240, .inl (v 5))), (a 6, .inl (cZ, 8, .inl (v 6))), (a 7, .inl (cI, 8, .inl (v 7))), (a 8, .inl (cI, 8, .inl (v 8))), (a 9, .inl (cI, 8, .inl (upd (v 9) x (((v 9) x) + 1)))), (a 11, .inl (cI, 8, .inl (v 11))), (a 12, .inl (cI, 10, .inl (v 12))), (a 13, .inl (cI, 5, .inl (v 13))), (a 14, .inl (cI, 5, .inl (v 14))), (a 16, .inl (cI, 128, .inl (upd (v 16) b0 (nI x)))), (a 17, .inl (cI, 128, .inl (upd (v 17) b0 y))), (a 18, .inl (cI, 128, .inl (upd (v 18) b0 lv)))] := hD
    refine lv_aload_n hx hb dX5_hold_26 rfl (lv_at hl 1 rfl) ?_
    refine lv_dup hx hb dX5_hold_27 rfl ?_
    refine va_get (D := D) (ci := 5) (v := .int o) (C := RX5) (T := TX5) (N := 21) hx hb hts inX5 hown hK hP 0 rfl rfl 20 (by decide) fl87 (fun _ h9 => h9) rfl dX5_hold_28 ?_
    refine lv_iconst (v := 1) hx hb dX5_hold_31 (by decide) ?_
    refine lv_iadd hx hb dX5_hold_32 ?_
    refine va_put (D := D) (ci := 5) (v := .int (o + 1)) (ty := .int) (C := RX5) (T := TX5) (N := 21) hx hb hts inX5 tyX5 tyX5_ok nmX5 hown hK hP hD hS 0 rfl rfl 20 (by decide) fl87 (fun _ h9 => h9) rfl (by decide +kernel) rfl rfl (Nat.le_of_ble_eq_true rfl) dX5_hold_33 (fun H locs hP hD hS => ?_)
    have hP : va_P D vwCl [(a 0, .inr (5, [.int t, .ref (a 1), .ref (a 2), .ref (a 3), .ref (a 4), .ref (a 5), .ref (a 6), .ref (a 7), .ref (a 8), .ref (a 9), .int r, .ref (a 11), .ref (a 12), .ref (a 13), .ref (a 14), .int lv, .ref (a 16), .ref (a 17), .ref (a 18), .int (nI (b0 + 1)), .int (o + 1)])), (a 1, .inl (cI, 6, .inl (v 1))), (a 2, .inl (cI, 240, .inl (v 2))), (a 3, .inl (cI, 240, .inl (v 3))), (a 4, .inl (cI, 240, .inl (v 4))), (a 5, .inl (cI, 240, .inl (v 5))), (a 6, .inl (cZ, 8, .inl (v 6))), (a 7, .inl (cI, 8, .inl (v 7))), (a 8, .inl (cI, 8, .inl (v 8))), (a 9, .inl (cI, 8, .inl (upd (v 9) x (((v 9) x) + 1)))), (a 11, .inl (cI, 8, .inl (v 11))), (a 12, .inl (cI, 10, .inl (v 12))), (a 13, .inl (cI, 5, .inl (v 13))), (a 14, .inl (cI, 5, .inl (v 14))), (a 16, .inl (cI, 128, .inl (upd (v 16) b0 (nI x)))), (a 17, .inl (cI, 128, .inl (upd (v 17) b0 y))), (a 18, .inl (cI, 128, .inl (upd (v 18) b0 lv)))] H := hP
    have hD : va_D A [(a 0, .inr (5, [.int t, .ref (a 1), .ref (a 2), .ref (a 3), .ref (a 4), .ref (a 5), .ref (a 6), .ref (a 7), .ref (a 8), .ref (a 9), .int r, .ref (a 11), .ref (a 12), .ref (a 13), .ref (a 14), .int lv, .ref (a 16), .ref (a 17), .ref (a 18), .int (nI (b0 + 1)), .int (o + 1)])), (a 1, .inl (cI, 6, .inl (v 1))), (a 2, .inl (cI, 240, .inl (v 2))), (a 3, .inl (cI, 240, .inl (v 3))), (a 4, .inl (cI, 240, .inl (v 4))), (a 5, .inl (cI, 240, .inl (v 5))), (a 6, .inl (cZ, 8, .inl (v 6))), (a 7, .inl (cI, 8, .inl (v 7))), (a 8, .inl (cI, 8, .inl (v 8))), (a 9, .inl (cI, 8, .inl (upd (v 9) x (((v 9) x) + 1)))), (a 11, .inl (cI, 8, .inl (v 11))), (a 12, .inl (cI, 10, .inl (v 12))), (a 13, .inl (cI, 5, .inl (v 13))), (a 14, .inl (cI, 5, .inl (v 14))), (a 16, .inl (cI, 128, .inl (upd (v 16) b0 (nI x)))), (a 17, .inl (cI, 128, .inl (upd (v 17) b0 y))), (a 18, .inl (cI, 128, .inl (upd (v 18) b0 lv)))] := hD
    refine lv_aload_n hx hb dX5_hold_36 rfl (lv_at hl 1 rfl) ?_
    refine va_get (D := D) (ci := 5) (v := .ref (a 11)) (C := RX5) (T := TX5) (N := 21) hx hb hts inX5 hown hK hP 0 rfl rfl 11 (by decide) fl38 (fun _ h9 => h9) rfl dX5_hold_37 ?_
    refine lv_iconst (v := 4) hx hb dX5_hold_40 (by decide) ?_
    refine lv_dup2_11 hx hb dX5_hold_41 rfl rfl ?_
    refine xi_ald hx hb hK hP 10 0 rfl rfl (k := 4) (by omega) (by decide) dX5_hold_42 ?_
    refine lv_iconst (v := 1) hx hb dX5_hold_43 (by decide) ?_
    refine lv_iadd hx hb dX5_hold_44 ?_
    refine xi_ast hx hb hK hP hD hS 10 0 rfl rfl (k := 4) (x := (((v 11) 4) + 1)) (by omega) (by decide) dX5_hold_45 (fun H locs hP hD hS => ?_)
    have hP : va_P D vwCl [(a 0, .inr (5, [.int t, .ref (a 1), .ref (a 2), .ref (a 3), .ref (a 4), .ref (a 5), .ref (a 6), .ref (a 7), .ref (a 8), .ref (a 9), .int r, .ref (a 11), .ref (a 12), .ref (a 13), .ref (a 14), .int lv, .ref (a 16), .ref (a 17), .ref (a 18), .int (nI (b0 + 1)), .int (o + 1)])), (a 1, .inl (cI, 6, .inl (v 1))), (a 2, .inl (cI, 240, .inl (v 2))), (a 3, .inl (cI, 240, .inl (v 3))), (a 4, .inl (cI, 240, .inl (v 4))), (a 5, .inl (cI, 240, .inl (v 5))), (a 6, .inl (cZ, 8, .inl (v 6))), (a 7, .inl (cI, 8, .inl (v 7))), (a 8, .inl (cI, 8, .inl (v 8))), (a 9, .inl (cI, 8, .inl (upd (v 9) x (((v 9) x) + 1)))), (a 11, .inl (cI, 8, .inl (upd (v 11) 4 (((v 11) 4) + 1)))), (a 12, .inl (cI, 10, .inl (v 12))), (a 13, .inl (cI, 5, .inl (v 13))), (a 14, .inl (cI, 5, .inl (v 14))), (a 16, .inl (cI, 128, .inl (upd (v 16) b0 (nI x)))), (a 17, .inl (cI, 128, .inl (upd (v 17) b0 y))), (a 18, .inl (cI, 128, .inl (upd (v 18) b0 lv)))] H := hP
    have hD : va_D A [(a 0, .inr (5, [.int t, .ref (a 1), .ref (a 2), .ref (a 3), .ref (a 4), .ref (a 5), .ref (a 6), .ref (a 7), .ref (a 8), .ref (a 9), .int r, .ref (a 11), .ref (a 12), .ref (a 13), .ref (a 14), .int lv, .ref (a 16), .ref (a 17), .ref (a 18), .int (nI (b0 + 1)), .int (o + 1)])), (a 1, .inl (cI, 6, .inl (v 1))), (a 2, .inl (cI, 240, .inl (v 2))), (a 3, .inl (cI, 240, .inl (v 3))), (a 4, .inl (cI, 240, .inl (v 4))), (a 5, .inl (cI, 240, .inl (v 5))), (a 6, .inl (cZ, 8, .inl (v 6))), (a 7, .inl (cI, 8, .inl (v 7))), (a 8, .inl (cI, 8, .inl (v 8))), (a 9, .inl (cI, 8, .inl (upd (v 9) x (((v 9) x) + 1)))), (a 11, .inl (cI, 8, .inl (upd (v 11) 4 (((v 11) 4) + 1)))), (a 12, .inl (cI, 10, .inl (v 12))), (a 13, .inl (cI, 5, .inl (v 13))), (a 14, .inl (cI, 5, .inl (v 14))), (a 16, .inl (cI, 128, .inl (upd (v 16) b0 (nI x)))), (a 17, .inl (cI, 128, .inl (upd (v 17) b0 y))), (a 18, .inl (cI, 128, .inl (upd (v 18) b0 lv)))] := hD
    refine lv_aload_n hx hb dX5_hold_46 rfl (lv_at hl 1 rfl) ?_
    refine va_get (D := D) (ci := 5) (v := .ref (a 11)) (C := RX5) (T := TX5) (N := 21) hx hb hts inX5 hown hK hP 0 rfl rfl 11 (by decide) fl38 (fun _ h9 => h9) rfl dX5_hold_47 ?_
    refine lv_iconst (v := 5) hx hb dX5_hold_50 (by decide) ?_
    refine lv_aload_n hx hb dX5_hold_51 rfl (lv_at hl 1 rfl) ?_
    refine va_get (D := D) (ci := 5) (v := .int (o + 1)) (C := RX5) (T := TX5) (N := 21) hx hb hts inX5 hown hK hP 0 rfl rfl 20 (by decide) fl87 (fun _ h9 => h9) rfl dX5_hold_52 ?_
    refine lv_aload_n hx hb dX5_hold_55 rfl (lv_at hl 1 rfl) ?_
    refine va_get (D := D) (ci := 5) (v := .ref (a 11)) (C := RX5) (T := TX5) (N := 21) hx hb hts inX5 hown hK hP 0 rfl rfl 11 (by decide) fl38 (fun _ h9 => h9) rfl dX5_hold_56 ?_
    refine lv_iconst (v := 5) hx hb dX5_hold_59 (by decide) ?_
    refine xi_ald hx hb hK hP 10 0 rfl rfl (k := 5) (by omega) (by decide) dX5_hold_60 ?_
    refine tp (y := (v 11 5)) (pk_un (by decide)) ?_
    refine lv_icmp_le (tgt := 71) hx hb dX5_hold_61 (by decide) (fun c_61 => ?_) (fun c_61 => ?_)
    · refine lv_aload_n hx hb dX5_hold_71 rfl (lv_at hl 1 rfl) ?_
      refine va_get (D := D) (ci := 5) (v := .ref (a 11)) (C := RX5) (T := TX5) (N := 21) hx hb hts inX5 hown hK hP 0 rfl rfl 11 (by decide) fl38 (fun _ h9 => h9) rfl dX5_hold_72 ?_
      refine lv_iconst (v := 5) hx hb dX5_hold_75 (by decide) ?_
      refine xi_ald hx hb hK hP 10 0 rfl rfl (k := 5) (by omega) (by decide) dX5_hold_76 ?_
      refine tp (y := (if v 11 5 < o + 1 then o + 1 else v 11 5)) ((pk_un (by decide)).trans (if_neg (Int32.not_lt.mpr c_61)).symm) ?_
      refine xi_ast hx hb hK hP hD hS 10 0 rfl rfl (k := 5) (x := (if v 11 5 < o + 1 then o + 1 else v 11 5)) (by omega) (by decide) dX5_hold_77 (fun H locs hP hD hS => ?_)
      have hP : va_P D vwCl [(a 0, .inr (5, [.int t, .ref (a 1), .ref (a 2), .ref (a 3), .ref (a 4), .ref (a 5), .ref (a 6), .ref (a 7), .ref (a 8), .ref (a 9), .int r, .ref (a 11), .ref (a 12), .ref (a 13), .ref (a 14), .int lv, .ref (a 16), .ref (a 17), .ref (a 18), .int (nI (b0 + 1)), .int (o + 1)])), (a 1, .inl (cI, 6, .inl (v 1))), (a 2, .inl (cI, 240, .inl (v 2))), (a 3, .inl (cI, 240, .inl (v 3))), (a 4, .inl (cI, 240, .inl (v 4))), (a 5, .inl (cI, 240, .inl (v 5))), (a 6, .inl (cZ, 8, .inl (v 6))), (a 7, .inl (cI, 8, .inl (v 7))), (a 8, .inl (cI, 8, .inl (v 8))), (a 9, .inl (cI, 8, .inl (upd (v 9) x (((v 9) x) + 1)))), (a 11, .inl (cI, 8, .inl (upd (upd (v 11) 4 (((v 11) 4) + 1)) 5 (if v 11 5 < o + 1 then o + 1 else v 11 5)))), (a 12, .inl (cI, 10, .inl (v 12))), (a 13, .inl (cI, 5, .inl (v 13))), (a 14, .inl (cI, 5, .inl (v 14))), (a 16, .inl (cI, 128, .inl (upd (v 16) b0 (nI x)))), (a 17, .inl (cI, 128, .inl (upd (v 17) b0 y))), (a 18, .inl (cI, 128, .inl (upd (v 18) b0 lv)))] H := hP
      have hD : va_D A [(a 0, .inr (5, [.int t, .ref (a 1), .ref (a 2), .ref (a 3), .ref (a 4), .ref (a 5), .ref (a 6), .ref (a 7), .ref (a 8), .ref (a 9), .int r, .ref (a 11), .ref (a 12), .ref (a 13), .ref (a 14), .int lv, .ref (a 16), .ref (a 17), .ref (a 18), .int (nI (b0 + 1)), .int (o + 1)])), (a 1, .inl (cI, 6, .inl (v 1))), (a 2, .inl (cI, 240, .inl (v 2))), (a 3, .inl (cI, 240, .inl (v 3))), (a 4, .inl (cI, 240, .inl (v 4))), (a 5, .inl (cI, 240, .inl (v 5))), (a 6, .inl (cZ, 8, .inl (v 6))), (a 7, .inl (cI, 8, .inl (v 7))), (a 8, .inl (cI, 8, .inl (v 8))), (a 9, .inl (cI, 8, .inl (upd (v 9) x (((v 9) x) + 1)))), (a 11, .inl (cI, 8, .inl (upd (upd (v 11) 4 (((v 11) 4) + 1)) 5 (if v 11 5 < o + 1 then o + 1 else v 11 5)))), (a 12, .inl (cI, 10, .inl (v 12))), (a 13, .inl (cI, 5, .inl (v 13))), (a 14, .inl (cI, 5, .inl (v 14))), (a 16, .inl (cI, 128, .inl (upd (v 16) b0 (nI x)))), (a 17, .inl (cI, 128, .inl (upd (v 17) b0 y))), (a 18, .inl (cI, 128, .inl (upd (v 18) b0 lv)))] := hD
      refine lv_iload_n hx hb dX5_hold_78 rfl (lv_at hl 0 rfl) ?_
      exact Ri (D := D) ((va_up (va_up (va_up (va_up (va_up v 16 (upd (v 16) b0 (nI x))) 17 (upd (v 17) b0 y)) 18 (upd (v 18) b0 lv)) 9 (upd (v 9) x (v 9 x + 1))) 11 (upd (upd (v 11) 4 (v 11 4 + 1)) 5 (if v 11 5 < o + 1 then o + 1 else v 11 5))), nI (b0 + 1), o + 1) hx hb hr rfl hlocks hP hD hS (Or.inr ⟨c_7, by rw [c_7]; rfl, rfl⟩) dX5_hold_79
    · refine lv_aload_n hx hb dX5_hold_64 rfl (lv_at hl 1 rfl) ?_
      refine va_get (D := D) (ci := 5) (v := .int (o + 1)) (C := RX5) (T := TX5) (N := 21) hx hb hts inX5 hown hK hP 0 rfl rfl 20 (by decide) fl87 (fun _ h9 => h9) rfl dX5_hold_65 ?_
      refine lv_goto (tgt := 77) hx hb dX5_hold_68 (by decide) ?_
      refine tp (y := (if v 11 5 < o + 1 then o + 1 else v 11 5)) ((if_pos (Int32.not_le.mp c_61)).symm) ?_
      refine xi_ast hx hb hK hP hD hS 10 0 rfl rfl (k := 5) (x := (if v 11 5 < o + 1 then o + 1 else v 11 5)) (by omega) (by decide) dX5_hold_77 (fun H locs hP hD hS => ?_)
      have hP : va_P D vwCl [(a 0, .inr (5, [.int t, .ref (a 1), .ref (a 2), .ref (a 3), .ref (a 4), .ref (a 5), .ref (a 6), .ref (a 7), .ref (a 8), .ref (a 9), .int r, .ref (a 11), .ref (a 12), .ref (a 13), .ref (a 14), .int lv, .ref (a 16), .ref (a 17), .ref (a 18), .int (nI (b0 + 1)), .int (o + 1)])), (a 1, .inl (cI, 6, .inl (v 1))), (a 2, .inl (cI, 240, .inl (v 2))), (a 3, .inl (cI, 240, .inl (v 3))), (a 4, .inl (cI, 240, .inl (v 4))), (a 5, .inl (cI, 240, .inl (v 5))), (a 6, .inl (cZ, 8, .inl (v 6))), (a 7, .inl (cI, 8, .inl (v 7))), (a 8, .inl (cI, 8, .inl (v 8))), (a 9, .inl (cI, 8, .inl (upd (v 9) x (((v 9) x) + 1)))), (a 11, .inl (cI, 8, .inl (upd (upd (v 11) 4 (((v 11) 4) + 1)) 5 (if v 11 5 < o + 1 then o + 1 else v 11 5)))), (a 12, .inl (cI, 10, .inl (v 12))), (a 13, .inl (cI, 5, .inl (v 13))), (a 14, .inl (cI, 5, .inl (v 14))), (a 16, .inl (cI, 128, .inl (upd (v 16) b0 (nI x)))), (a 17, .inl (cI, 128, .inl (upd (v 17) b0 y))), (a 18, .inl (cI, 128, .inl (upd (v 18) b0 lv)))] H := hP
      have hD : va_D A [(a 0, .inr (5, [.int t, .ref (a 1), .ref (a 2), .ref (a 3), .ref (a 4), .ref (a 5), .ref (a 6), .ref (a 7), .ref (a 8), .ref (a 9), .int r, .ref (a 11), .ref (a 12), .ref (a 13), .ref (a 14), .int lv, .ref (a 16), .ref (a 17), .ref (a 18), .int (nI (b0 + 1)), .int (o + 1)])), (a 1, .inl (cI, 6, .inl (v 1))), (a 2, .inl (cI, 240, .inl (v 2))), (a 3, .inl (cI, 240, .inl (v 3))), (a 4, .inl (cI, 240, .inl (v 4))), (a 5, .inl (cI, 240, .inl (v 5))), (a 6, .inl (cZ, 8, .inl (v 6))), (a 7, .inl (cI, 8, .inl (v 7))), (a 8, .inl (cI, 8, .inl (v 8))), (a 9, .inl (cI, 8, .inl (upd (v 9) x (((v 9) x) + 1)))), (a 11, .inl (cI, 8, .inl (upd (upd (v 11) 4 (((v 11) 4) + 1)) 5 (if v 11 5 < o + 1 then o + 1 else v 11 5)))), (a 12, .inl (cI, 10, .inl (v 12))), (a 13, .inl (cI, 5, .inl (v 13))), (a 14, .inl (cI, 5, .inl (v 14))), (a 16, .inl (cI, 128, .inl (upd (v 16) b0 (nI x)))), (a 17, .inl (cI, 128, .inl (upd (v 17) b0 y))), (a 18, .inl (cI, 128, .inl (upd (v 18) b0 lv)))] := hD
      refine lv_iload_n hx hb dX5_hold_78 rfl (lv_at hl 0 rfl) ?_
      exact Ri (D := D) ((va_up (va_up (va_up (va_up (va_up v 16 (upd (v 16) b0 (nI x))) 17 (upd (v 17) b0 y)) 18 (upd (v 18) b0 lv)) 9 (upd (v 9) x (v 9 x + 1))) 11 (upd (upd (v 11) 4 (v 11 4 + 1)) 5 (if v 11 5 < o + 1 then o + 1 else v 11 5))), nI (b0 + 1), o + 1) hx hb hr rfl hlocks hP hD hS (Or.inr ⟨c_7, by rw [c_7]; rfl, rfl⟩) dX5_hold_79

set_option maxHeartbeats 4000000 in
set_option maxRecDepth 100000 in
theorem c_X5_changeP (l : Launch) (D : va_G) (cI cZ : ClassId) (a : Nat → Nat) (v : Nat → Nat → Int32) (t r lv b o : Int32) (th : Nat → Bool) (hz : zk (v 6) th) (go hd : Nat → Nat) (hg : gk (v 7) go) (hh : hok (v 9) hd) (x : Nat) (hx16 : x < 16) (n : Nat) (hn16 : n < 16) : Ci l D [(cI, .int), (cZ, .boolean)] yX5_change wsX5_change ({ frames := 1, cells := 0, slots := 0, locals := 21 }) [.ref (a 0), .int 3, .int (nI x), .int (nI n)] (wM a cI cZ v t r lv b o) (S := Nat → Int32) (fun w u => w = nI (A_put th go hd x n).1 ∧ gk u (A_put th go hd x n).2) (fun u => wM a cI cZ (va_up v 7 u) t r lv b o) := by
  refine Ci.mk (cc := cX5_change) (maxL := 6) (ret := (some .int)) (by decide +kernel) rfl (Nat.le_of_ble_eq_true rfl) ?_
  intro pg e s m below meth c A ls hx hb hml hr hown hts hlocks hK hns hA hP hD hS hl
  have hl : lv_has ls 6 [(0, .ref (a 0)), (1, .int 3), (2, .int (nI x)), (3, .int (nI n))] := hl
  have fl35 := hts (.fieldLink RX5 35 "HeldShelvesModel" "held" "[I") (List.mem_of_getElem? (i := 1) rfl)
  have inX5 : ∀ w ∈ wsX50, w ∈ wsX5_change := fun _ h => List.mem_cons_of_mem _ (List.mem_append_right _ h)
  have fl29 := hts (.fieldLink RX5 29 "HeldShelvesModel" "goods" "[I") (List.mem_of_getElem? (i := 2) rfl)
  have hP : va_P D vwCl [(a 0, .inr (5, [.int t, .ref (a 1), .ref (a 2), .ref (a 3), .ref (a 4), .ref (a 5), .ref (a 6), .ref (a 7), .ref (a 8), .ref (a 9), .int r, .ref (a 11), .ref (a 12), .ref (a 13), .ref (a 14), .int lv, .ref (a 16), .ref (a 17), .ref (a 18), .int b, .int o])), (a 1, .inl (cI, 6, .inl (v 1))), (a 2, .inl (cI, 240, .inl (v 2))), (a 3, .inl (cI, 240, .inl (v 3))), (a 4, .inl (cI, 240, .inl (v 4))), (a 5, .inl (cI, 240, .inl (v 5))), (a 6, .inl (cZ, 8, .inl (v 6))), (a 7, .inl (cI, 8, .inl (v 7))), (a 8, .inl (cI, 8, .inl (v 8))), (a 9, .inl (cI, 8, .inl (v 9))), (a 11, .inl (cI, 8, .inl (v 11))), (a 12, .inl (cI, 10, .inl (v 12))), (a 13, .inl (cI, 5, .inl (v 13))), (a 14, .inl (cI, 5, .inl (v 14))), (a 16, .inl (cI, 128, .inl (v 16))), (a 17, .inl (cI, 128, .inl (v 17))), (a 18, .inl (cI, 128, .inl (v 18)))] s.heap := hP
  have hD : va_D A [(a 0, .inr (5, [.int t, .ref (a 1), .ref (a 2), .ref (a 3), .ref (a 4), .ref (a 5), .ref (a 6), .ref (a 7), .ref (a 8), .ref (a 9), .int r, .ref (a 11), .ref (a 12), .ref (a 13), .ref (a 14), .int lv, .ref (a 16), .ref (a 17), .ref (a 18), .int b, .int o])), (a 1, .inl (cI, 6, .inl (v 1))), (a 2, .inl (cI, 240, .inl (v 2))), (a 3, .inl (cI, 240, .inl (v 3))), (a 4, .inl (cI, 240, .inl (v 4))), (a 5, .inl (cI, 240, .inl (v 5))), (a 6, .inl (cZ, 8, .inl (v 6))), (a 7, .inl (cI, 8, .inl (v 7))), (a 8, .inl (cI, 8, .inl (v 8))), (a 9, .inl (cI, 8, .inl (v 9))), (a 11, .inl (cI, 8, .inl (v 11))), (a 12, .inl (cI, 10, .inl (v 12))), (a 13, .inl (cI, 5, .inl (v 13))), (a 14, .inl (cI, 5, .inl (v 14))), (a 16, .inl (cI, 128, .inl (v 16))), (a 17, .inl (cI, 128, .inl (v 17))), (a 18, .inl (cI, 128, .inl (v 18)))] := hD
  have hm := mis_le (th := th) (s := x)
  refine lv_aload_n hx hb dX5_change_0 rfl (lv_at hl 0 rfl) ?_
  refine lv_iload_n hx hb dX5_change_1 rfl (lv_at hl 2 rfl) ?_
  refine cl_Vi ([]) ([]) (As := [.int (nI x)]) (rest := []) (c_X5_wrongShelf l D cI cZ a v t r lv b o th hz x hx16) ⟨hx, hb, hml, hown, hts⟩ (cwV 1 hts gX5_change_X5_wrongShelf rfl rfl rfl (by decide +kernel) ⟨Nat.le_of_ble_eq_true rfl, Nat.le_of_ble_eq_true rfl⟩) hK hns hP hD hS hA rfl (T := TX5) (N := 21) rfl rfl hl.1 rfl (Nat.le_of_ble_eq_true rfl) dX5_change_2 ⟨Nat.zero_le _, Nat.zero_le _⟩ (fun r2 u2 H locs hw2 hP hD hS => ?_)
  have hP : va_P D vwCl [(a 0, .inr (5, [.int t, .ref (a 1), .ref (a 2), .ref (a 3), .ref (a 4), .ref (a 5), .ref (a 6), .ref (a 7), .ref (a 8), .ref (a 9), .int r, .ref (a 11), .ref (a 12), .ref (a 13), .ref (a 14), .int lv, .ref (a 16), .ref (a 17), .ref (a 18), .int b, .int o])), (a 1, .inl (cI, 6, .inl (v 1))), (a 2, .inl (cI, 240, .inl (v 2))), (a 3, .inl (cI, 240, .inl (v 3))), (a 4, .inl (cI, 240, .inl (v 4))), (a 5, .inl (cI, 240, .inl (v 5))), (a 6, .inl (cZ, 8, .inl (v 6))), (a 7, .inl (cI, 8, .inl (v 7))), (a 8, .inl (cI, 8, .inl (v 8))), (a 9, .inl (cI, 8, .inl (v 9))), (a 11, .inl (cI, 8, .inl (v 11))), (a 12, .inl (cI, 10, .inl (v 12))), (a 13, .inl (cI, 5, .inl (v 13))), (a 14, .inl (cI, 5, .inl (v 14))), (a 16, .inl (cI, 128, .inl (v 16))), (a 17, .inl (cI, 128, .inl (v 17))), (a 18, .inl (cI, 128, .inl (v 18)))] H := hP
  have hD : va_D A [(a 0, .inr (5, [.int t, .ref (a 1), .ref (a 2), .ref (a 3), .ref (a 4), .ref (a 5), .ref (a 6), .ref (a 7), .ref (a 8), .ref (a 9), .int r, .ref (a 11), .ref (a 12), .ref (a 13), .ref (a 14), .int lv, .ref (a 16), .ref (a 17), .ref (a 18), .int b, .int o])), (a 1, .inl (cI, 6, .inl (v 1))), (a 2, .inl (cI, 240, .inl (v 2))), (a 3, .inl (cI, 240, .inl (v 3))), (a 4, .inl (cI, 240, .inl (v 4))), (a 5, .inl (cI, 240, .inl (v 5))), (a 6, .inl (cZ, 8, .inl (v 6))), (a 7, .inl (cI, 8, .inl (v 7))), (a 8, .inl (cI, 8, .inl (v 8))), (a 9, .inl (cI, 8, .inl (v 9))), (a 11, .inl (cI, 8, .inl (v 11))), (a 12, .inl (cI, 10, .inl (v 12))), (a 13, .inl (cI, 5, .inl (v 13))), (a 14, .inl (cI, 5, .inl (v 14))), (a 16, .inl (cI, 128, .inl (v 16))), (a 17, .inl (cI, 128, .inl (v 17))), (a 18, .inl (cI, 128, .inl (v 18)))] := hD
  subst hw2
  refine lv_istore (lv' := [(4, .int (nI (mis th x))), (0, .ref (a 0)), (1, .int 3), (2, .int (nI x)), (3, .int (nI n))]) hx hb dX5_change_5 hl (by decide) rfl (fun ls hl => ?_)
  refine lv_iload hx hb dX5_change_7 (lv_at hl 0 rfl) ?_
  refine lv_if_eq (tgt := 15) hx hb dX5_change_9 (by decide) (fun c_9 => ?_) (fun c_9 => ?_)
  · have c_9 : (mis th x) = 0 := (nI_eq (a := (mis th x)) (b := 0) (by omega) (by omega)).mp c_9
    have h8 := mis_0 c_9
    have hgv := hg x h8.1
    have hhv := hh x h8.1
    refine lv_aload_n hx hb dX5_change_15 rfl (lv_at hl 1 rfl) ?_
    refine va_get (D := D) (ci := 5) (v := .ref (a 9)) (C := RX5) (T := TX5) (N := 21) hx hb hts inX5 hown hK hP 0 rfl rfl 9 (by decide) fl35 (fun _ h9 => h9) rfl dX5_change_16 ?_
    refine lv_iload_n hx hb dX5_change_19 rfl (lv_at hl 3 rfl) ?_
    refine xi_ald hx hb hK hP 9 0 rfl rfl (k := x) (by omega) (by decide) dX5_change_20 ?_
    refine tp (y := nI (hd x)) (hhv.1) ?_
    refine lv_if_ne (tgt := 27) hx hb dX5_change_21 (by decide) (fun c_21 => ?_) (fun c_21 => ?_)
    · have c_21 : ¬ ((hd x) = 0) := fun h => c_21 ((nI_eq (a := (hd x)) (b := 0) (by omega) (by omega)).mpr h)
      have hml0 := mol_z (th := th) (hd := hd) c_9 c_21
      refine lv_iload_n hx hb dX5_change_27 rfl (lv_at hl 2 rfl) ?_
      refine lv_iconst (v := 5) hx hb dX5_change_28 (by decide) ?_
      refine lv_icmp_ne (tgt := 76) hx hb dX5_change_29 (by decide) (fun _ => ?_) (fun c9 => absurd c9 (by decide))
      refine lv_iload_n hx hb dX5_change_76 rfl (lv_at hl 2 rfl) ?_
      refine lv_iconst (v := 3) hx hb dX5_change_77 (by decide) ?_
      refine lv_icmp_ne (tgt := 92) hx hb dX5_change_78 (by decide) (fun c9 => absurd rfl c9) (fun _ => ?_)
      refine lv_aload_n hx hb dX5_change_81 rfl (lv_at hl 1 rfl) ?_
      refine va_get (D := D) (ci := 5) (v := .ref (a 7)) (C := RX5) (T := TX5) (N := 21) hx hb hts inX5 hown hK hP 0 rfl rfl 7 (by decide) fl29 (fun _ h9 => h9) rfl dX5_change_82 ?_
      refine lv_iload_n hx hb dX5_change_85 rfl (lv_at hl 3 rfl) ?_
      refine xi_ald hx hb hK hP 7 0 rfl rfl (k := x) (by omega) (by decide) dX5_change_86 ?_
      refine tp (y := nI (go x)) (hgv.1) ?_
      refine lv_iload_n hx hb dX5_change_87 rfl (lv_at hl 4 rfl) ?_
      refine lv_iadd hx hb dX5_change_88 ?_
      refine lv_goto (tgt := 100) hx hb dX5_change_89 (by decide) ?_
      refine tp (y := nI (go x + n)) (nI_add _ _) ?_
      refine lv_istore (lv' := [(5, .int (nI (go x + n))), (4, .int (nI (mis th x))), (0, .ref (a 0)), (1, .int 3), (2, .int (nI x)), (3, .int (nI n))]) hx hb dX5_change_100 hl (by decide) rfl (fun ls hl => ?_)
      refine lv_iload hx hb dX5_change_102 (lv_at hl 0 rfl) ?_
      refine lv_if_lt (tgt := 115) hx hb dX5_change_104 (by decide) (fun c_104 => ?_) (fun c_104 => ?_)
      · have c_104 : (go x + n) < 0 := (nI_ltI (a := (go x + n)) (b := 0) (by omega) (by omega)).mp c_104
        exact absurd c_104 (by omega)
      · have c_104 : ¬ ((go x + n) < 0) := fun h => c_104 ((nI_ltI (a := (go x + n)) (b := 0) (by omega) (by omega)).mpr h)
        refine lv_iload hx hb dX5_change_107 (lv_at hl 0 rfl) ?_
        refine lv_sipush (v := 1000) hx hb dX5_change_109 (by decide) ?_
        refine lv_icmp_le (tgt := 126) hx hb dX5_change_112 (by decide) (fun c_112 => ?_) (fun c_112 => ?_)
        · have c_112 : (go x + n) ≤ 1000 := (nI_leI (a := (go x + n)) (b := 1000) (by omega) (by omega)).mp c_112
          refine lv_aload_n hx hb dX5_change_126 rfl (lv_at hl 2 rfl) ?_
          refine va_get (D := D) (ci := 5) (v := .ref (a 7)) (C := RX5) (T := TX5) (N := 21) hx hb hts inX5 hown hK hP 0 rfl rfl 7 (by decide) fl29 (fun _ h9 => h9) rfl dX5_change_127 ?_
          refine lv_iload_n hx hb dX5_change_130 rfl (lv_at hl 4 rfl) ?_
          refine lv_iload hx hb dX5_change_131 (lv_at hl 0 rfl) ?_
          refine xi_ast hx hb hK hP hD hS 7 0 rfl rfl (k := x) (x := (nI (go x + n))) (by omega) (by decide) dX5_change_133 (fun H locs hP hD hS => ?_)
          have hP : va_P D vwCl [(a 0, .inr (5, [.int t, .ref (a 1), .ref (a 2), .ref (a 3), .ref (a 4), .ref (a 5), .ref (a 6), .ref (a 7), .ref (a 8), .ref (a 9), .int r, .ref (a 11), .ref (a 12), .ref (a 13), .ref (a 14), .int lv, .ref (a 16), .ref (a 17), .ref (a 18), .int b, .int o])), (a 1, .inl (cI, 6, .inl (v 1))), (a 2, .inl (cI, 240, .inl (v 2))), (a 3, .inl (cI, 240, .inl (v 3))), (a 4, .inl (cI, 240, .inl (v 4))), (a 5, .inl (cI, 240, .inl (v 5))), (a 6, .inl (cZ, 8, .inl (v 6))), (a 7, .inl (cI, 8, .inl (upd (v 7) x (nI (go x + n))))), (a 8, .inl (cI, 8, .inl (v 8))), (a 9, .inl (cI, 8, .inl (v 9))), (a 11, .inl (cI, 8, .inl (v 11))), (a 12, .inl (cI, 10, .inl (v 12))), (a 13, .inl (cI, 5, .inl (v 13))), (a 14, .inl (cI, 5, .inl (v 14))), (a 16, .inl (cI, 128, .inl (v 16))), (a 17, .inl (cI, 128, .inl (v 17))), (a 18, .inl (cI, 128, .inl (v 18)))] H := hP
          have hD : va_D A [(a 0, .inr (5, [.int t, .ref (a 1), .ref (a 2), .ref (a 3), .ref (a 4), .ref (a 5), .ref (a 6), .ref (a 7), .ref (a 8), .ref (a 9), .int r, .ref (a 11), .ref (a 12), .ref (a 13), .ref (a 14), .int lv, .ref (a 16), .ref (a 17), .ref (a 18), .int b, .int o])), (a 1, .inl (cI, 6, .inl (v 1))), (a 2, .inl (cI, 240, .inl (v 2))), (a 3, .inl (cI, 240, .inl (v 3))), (a 4, .inl (cI, 240, .inl (v 4))), (a 5, .inl (cI, 240, .inl (v 5))), (a 6, .inl (cZ, 8, .inl (v 6))), (a 7, .inl (cI, 8, .inl (upd (v 7) x (nI (go x + n))))), (a 8, .inl (cI, 8, .inl (v 8))), (a 9, .inl (cI, 8, .inl (v 9))), (a 11, .inl (cI, 8, .inl (v 11))), (a 12, .inl (cI, 10, .inl (v 12))), (a 13, .inl (cI, 5, .inl (v 13))), (a 14, .inl (cI, 5, .inl (v 14))), (a 16, .inl (cI, 128, .inl (v 16))), (a 17, .inl (cI, 128, .inl (v 17))), (a 18, .inl (cI, 128, .inl (v 18)))] := hD
          refine lv_iconst (v := 0) hx hb dX5_change_134 (by decide) ?_
          exact Ri (D := D) (upd (v 7) x (nI (go x + n))) hx hb hr rfl hlocks hP hD hS (by rw [A_put, if_pos hml0, if_neg (by omega)]; exact ⟨rfl, gk_up hg (by omega)⟩) dX5_change_135
        · have c_112 : ¬ ((go x + n) ≤ 1000) := fun h => c_112 ((nI_leI (a := (go x + n)) (b := 1000) (by omega) (by omega)).mpr h)
          refine lv_iload hx hb dX5_change_115 (lv_at hl 0 rfl) ?_
          refine lv_if_ge (tgt := 124) hx hb dX5_change_117 (by decide) (fun c_117 => ?_) (fun c_117 => ?_)
          · have c_117 : 0 ≤ (go x + n) := (nI_leI (a := 0) (b := (go x + n)) (by omega) (by omega)).mp c_117
            refine lv_iconst (v := 5) hx hb dX5_change_124 (by decide) ?_
            exact Ri (D := D) (v 7) hx hb hr rfl hlocks hP hD hS (by rw [A_put, if_pos hml0, if_pos (by omega)]; exact ⟨rfl, hg⟩) dX5_change_125
          · have c_117 : ¬ (0 ≤ (go x + n)) := fun h => c_117 ((nI_leI (a := 0) (b := (go x + n)) (by omega) (by omega)).mpr h)
            exact absurd c_117 (by omega)
    · have c_21 : (hd x) = 0 := (nI_eq (a := (hd x)) (b := 0) (by omega) (by omega)).mp c_21
      refine lv_bipush (v := 7) hx hb dX5_change_24 (by decide) ?_
      exact Ri (D := D) (v 7) hx hb hr rfl hlocks hP hD hS (by rw [A_put, mol_l c_9 c_21, if_neg (by decide)]; exact ⟨rfl, hg⟩) dX5_change_26
  · have c_9 : ¬ ((mis th x) = 0) := fun h => c_9 ((nI_eq (a := (mis th x)) (b := 0) (by omega) (by omega)).mpr h)
    refine lv_iload hx hb dX5_change_12 (lv_at hl 0 rfl) ?_
    exact Ri (D := D) (v 7) hx hb hr rfl hlocks hP hD hS (by rw [A_put, mol_m c_9, if_neg c_9]; exact ⟨rfl, hg⟩) dX5_change_14

set_option maxHeartbeats 4000000 in
set_option maxRecDepth 100000 in
theorem c_X5_changeT (l : Launch) (D : va_G) (cI cZ : ClassId) (a : Nat → Nat) (v : Nat → Nat → Int32) (t r lv b o : Int32) (th : Nat → Bool) (hz : zk (v 6) th) (go hd : Nat → Nat) (hg : gk (v 7) go) (hh : hok (v 9) hd) (x : Nat) (hx16 : x < 16) (n : Nat) (hn16 : n < 16) : Ci l D [(cI, .int), (cZ, .boolean)] yX5_change wsX5_change ({ frames := 1, cells := 0, slots := 0, locals := 21 }) [.ref (a 0), .int 4, .int (nI x), .int (nI n)] (wM a cI cZ v t r lv b o) (S := Nat → Int32) (fun w u => w = nI (A_take th go hd x n).1 ∧ gk u (A_take th go hd x n).2) (fun u => wM a cI cZ (va_up v 7 u) t r lv b o) := by
  refine Ci.mk (cc := cX5_change) (maxL := 6) (ret := (some .int)) (by decide +kernel) rfl (Nat.le_of_ble_eq_true rfl) ?_
  intro pg e s m below meth c A ls hx hb hml hr hown hts hlocks hK hns hA hP hD hS hl
  have hl : lv_has ls 6 [(0, .ref (a 0)), (1, .int 4), (2, .int (nI x)), (3, .int (nI n))] := hl
  have fl35 := hts (.fieldLink RX5 35 "HeldShelvesModel" "held" "[I") (List.mem_of_getElem? (i := 1) rfl)
  have inX5 : ∀ w ∈ wsX50, w ∈ wsX5_change := fun _ h => List.mem_cons_of_mem _ (List.mem_append_right _ h)
  have fl29 := hts (.fieldLink RX5 29 "HeldShelvesModel" "goods" "[I") (List.mem_of_getElem? (i := 2) rfl)
  have hP : va_P D vwCl [(a 0, .inr (5, [.int t, .ref (a 1), .ref (a 2), .ref (a 3), .ref (a 4), .ref (a 5), .ref (a 6), .ref (a 7), .ref (a 8), .ref (a 9), .int r, .ref (a 11), .ref (a 12), .ref (a 13), .ref (a 14), .int lv, .ref (a 16), .ref (a 17), .ref (a 18), .int b, .int o])), (a 1, .inl (cI, 6, .inl (v 1))), (a 2, .inl (cI, 240, .inl (v 2))), (a 3, .inl (cI, 240, .inl (v 3))), (a 4, .inl (cI, 240, .inl (v 4))), (a 5, .inl (cI, 240, .inl (v 5))), (a 6, .inl (cZ, 8, .inl (v 6))), (a 7, .inl (cI, 8, .inl (v 7))), (a 8, .inl (cI, 8, .inl (v 8))), (a 9, .inl (cI, 8, .inl (v 9))), (a 11, .inl (cI, 8, .inl (v 11))), (a 12, .inl (cI, 10, .inl (v 12))), (a 13, .inl (cI, 5, .inl (v 13))), (a 14, .inl (cI, 5, .inl (v 14))), (a 16, .inl (cI, 128, .inl (v 16))), (a 17, .inl (cI, 128, .inl (v 17))), (a 18, .inl (cI, 128, .inl (v 18)))] s.heap := hP
  have hD : va_D A [(a 0, .inr (5, [.int t, .ref (a 1), .ref (a 2), .ref (a 3), .ref (a 4), .ref (a 5), .ref (a 6), .ref (a 7), .ref (a 8), .ref (a 9), .int r, .ref (a 11), .ref (a 12), .ref (a 13), .ref (a 14), .int lv, .ref (a 16), .ref (a 17), .ref (a 18), .int b, .int o])), (a 1, .inl (cI, 6, .inl (v 1))), (a 2, .inl (cI, 240, .inl (v 2))), (a 3, .inl (cI, 240, .inl (v 3))), (a 4, .inl (cI, 240, .inl (v 4))), (a 5, .inl (cI, 240, .inl (v 5))), (a 6, .inl (cZ, 8, .inl (v 6))), (a 7, .inl (cI, 8, .inl (v 7))), (a 8, .inl (cI, 8, .inl (v 8))), (a 9, .inl (cI, 8, .inl (v 9))), (a 11, .inl (cI, 8, .inl (v 11))), (a 12, .inl (cI, 10, .inl (v 12))), (a 13, .inl (cI, 5, .inl (v 13))), (a 14, .inl (cI, 5, .inl (v 14))), (a 16, .inl (cI, 128, .inl (v 16))), (a 17, .inl (cI, 128, .inl (v 17))), (a 18, .inl (cI, 128, .inl (v 18)))] := hD
  have hm := mis_le (th := th) (s := x)
  refine lv_aload_n hx hb dX5_change_0 rfl (lv_at hl 0 rfl) ?_
  refine lv_iload_n hx hb dX5_change_1 rfl (lv_at hl 2 rfl) ?_
  refine cl_Vi ([]) ([]) (As := [.int (nI x)]) (rest := []) (c_X5_wrongShelf l D cI cZ a v t r lv b o th hz x hx16) ⟨hx, hb, hml, hown, hts⟩ (cwV 1 hts gX5_change_X5_wrongShelf rfl rfl rfl (by decide +kernel) ⟨Nat.le_of_ble_eq_true rfl, Nat.le_of_ble_eq_true rfl⟩) hK hns hP hD hS hA rfl (T := TX5) (N := 21) rfl rfl hl.1 rfl (Nat.le_of_ble_eq_true rfl) dX5_change_2 ⟨Nat.zero_le _, Nat.zero_le _⟩ (fun r2 u2 H locs hw2 hP hD hS => ?_)
  have hP : va_P D vwCl [(a 0, .inr (5, [.int t, .ref (a 1), .ref (a 2), .ref (a 3), .ref (a 4), .ref (a 5), .ref (a 6), .ref (a 7), .ref (a 8), .ref (a 9), .int r, .ref (a 11), .ref (a 12), .ref (a 13), .ref (a 14), .int lv, .ref (a 16), .ref (a 17), .ref (a 18), .int b, .int o])), (a 1, .inl (cI, 6, .inl (v 1))), (a 2, .inl (cI, 240, .inl (v 2))), (a 3, .inl (cI, 240, .inl (v 3))), (a 4, .inl (cI, 240, .inl (v 4))), (a 5, .inl (cI, 240, .inl (v 5))), (a 6, .inl (cZ, 8, .inl (v 6))), (a 7, .inl (cI, 8, .inl (v 7))), (a 8, .inl (cI, 8, .inl (v 8))), (a 9, .inl (cI, 8, .inl (v 9))), (a 11, .inl (cI, 8, .inl (v 11))), (a 12, .inl (cI, 10, .inl (v 12))), (a 13, .inl (cI, 5, .inl (v 13))), (a 14, .inl (cI, 5, .inl (v 14))), (a 16, .inl (cI, 128, .inl (v 16))), (a 17, .inl (cI, 128, .inl (v 17))), (a 18, .inl (cI, 128, .inl (v 18)))] H := hP
  have hD : va_D A [(a 0, .inr (5, [.int t, .ref (a 1), .ref (a 2), .ref (a 3), .ref (a 4), .ref (a 5), .ref (a 6), .ref (a 7), .ref (a 8), .ref (a 9), .int r, .ref (a 11), .ref (a 12), .ref (a 13), .ref (a 14), .int lv, .ref (a 16), .ref (a 17), .ref (a 18), .int b, .int o])), (a 1, .inl (cI, 6, .inl (v 1))), (a 2, .inl (cI, 240, .inl (v 2))), (a 3, .inl (cI, 240, .inl (v 3))), (a 4, .inl (cI, 240, .inl (v 4))), (a 5, .inl (cI, 240, .inl (v 5))), (a 6, .inl (cZ, 8, .inl (v 6))), (a 7, .inl (cI, 8, .inl (v 7))), (a 8, .inl (cI, 8, .inl (v 8))), (a 9, .inl (cI, 8, .inl (v 9))), (a 11, .inl (cI, 8, .inl (v 11))), (a 12, .inl (cI, 10, .inl (v 12))), (a 13, .inl (cI, 5, .inl (v 13))), (a 14, .inl (cI, 5, .inl (v 14))), (a 16, .inl (cI, 128, .inl (v 16))), (a 17, .inl (cI, 128, .inl (v 17))), (a 18, .inl (cI, 128, .inl (v 18)))] := hD
  subst hw2
  refine lv_istore (lv' := [(4, .int (nI (mis th x))), (0, .ref (a 0)), (1, .int 4), (2, .int (nI x)), (3, .int (nI n))]) hx hb dX5_change_5 hl (by decide) rfl (fun ls hl => ?_)
  refine lv_iload hx hb dX5_change_7 (lv_at hl 0 rfl) ?_
  refine lv_if_eq (tgt := 15) hx hb dX5_change_9 (by decide) (fun c_9 => ?_) (fun c_9 => ?_)
  · have c_9 : (mis th x) = 0 := (nI_eq (a := (mis th x)) (b := 0) (by omega) (by omega)).mp c_9
    have h8 := mis_0 c_9
    have hgv := hg x h8.1
    have hhv := hh x h8.1
    refine lv_aload_n hx hb dX5_change_15 rfl (lv_at hl 1 rfl) ?_
    refine va_get (D := D) (ci := 5) (v := .ref (a 9)) (C := RX5) (T := TX5) (N := 21) hx hb hts inX5 hown hK hP 0 rfl rfl 9 (by decide) fl35 (fun _ h9 => h9) rfl dX5_change_16 ?_
    refine lv_iload_n hx hb dX5_change_19 rfl (lv_at hl 3 rfl) ?_
    refine xi_ald hx hb hK hP 9 0 rfl rfl (k := x) (by omega) (by decide) dX5_change_20 ?_
    refine tp (y := nI (hd x)) (hhv.1) ?_
    refine lv_if_ne (tgt := 27) hx hb dX5_change_21 (by decide) (fun c_21 => ?_) (fun c_21 => ?_)
    · have c_21 : ¬ ((hd x) = 0) := fun h => c_21 ((nI_eq (a := (hd x)) (b := 0) (by omega) (by omega)).mpr h)
      have hml0 := mol_z (th := th) (hd := hd) c_9 c_21
      refine lv_iload_n hx hb dX5_change_27 rfl (lv_at hl 2 rfl) ?_
      refine lv_iconst (v := 5) hx hb dX5_change_28 (by decide) ?_
      refine lv_icmp_ne (tgt := 76) hx hb dX5_change_29 (by decide) (fun _ => ?_) (fun c9 => absurd c9 (by decide))
      refine lv_iload_n hx hb dX5_change_76 rfl (lv_at hl 2 rfl) ?_
      refine lv_iconst (v := 3) hx hb dX5_change_77 (by decide) ?_
      refine lv_icmp_ne (tgt := 92) hx hb dX5_change_78 (by decide) (fun _ => ?_) (fun c9 => absurd c9 (by decide))
      refine lv_aload_n hx hb dX5_change_92 rfl (lv_at hl 1 rfl) ?_
      refine va_get (D := D) (ci := 5) (v := .ref (a 7)) (C := RX5) (T := TX5) (N := 21) hx hb hts inX5 hown hK hP 0 rfl rfl 7 (by decide) fl29 (fun _ h9 => h9) rfl dX5_change_93 ?_
      refine lv_iload_n hx hb dX5_change_96 rfl (lv_at hl 3 rfl) ?_
      refine xi_ald hx hb hK hP 7 0 rfl rfl (k := x) (by omega) (by decide) dX5_change_97 ?_
      refine tp (y := nI (go x)) (hgv.1) ?_
      refine lv_iload_n hx hb dX5_change_98 rfl (lv_at hl 4 rfl) ?_
      refine lv_isub hx hb dX5_change_99 ?_
      rcases Nat.lt_or_ge (go x) n with hlt | hge
      · refine lv_istore (lv' := [(5, .int ((nI (go x)) - (nI n))), (4, .int (nI (mis th x))), (0, .ref (a 0)), (1, .int 4), (2, .int (nI x)), (3, .int (nI n))]) hx hb dX5_change_100 hl (by decide) rfl (fun ls hl => ?_)
        refine lv_iload hx hb dX5_change_102 (lv_at hl 0 rfl) ?_
        refine lv_if_lt (tgt := 115) hx hb dX5_change_104 (by decide) (fun c_104 => ?_) (fun c_104 => ?_)
        · refine lv_iload hx hb dX5_change_115 (lv_at hl 0 rfl) ?_
          refine lv_if_ge (tgt := 124) hx hb dX5_change_117 (by decide) (fun c_117 => ?_) (fun c_117 => ?_)
          · exact absurd (pk_sneg (by omega) hlt) (Int32.not_lt.mpr c_117)
          · refine lv_iconst (v := 4) hx hb dX5_change_120 (by decide) ?_
            refine lv_goto (tgt := 125) hx hb dX5_change_121 (by decide) ?_
            exact Ri (D := D) (v 7) hx hb hr rfl hlocks hP hD hS (by rw [A_take, if_pos hml0, if_pos hlt]; exact ⟨rfl, hg⟩) dX5_change_125
        · exact absurd (pk_sneg (by omega) hlt) c_104
      · refine tp (y := nI (go x - n)) (pk_sub hge) ?_
        refine lv_istore (lv' := [(5, .int (nI (go x - n))), (4, .int (nI (mis th x))), (0, .ref (a 0)), (1, .int 4), (2, .int (nI x)), (3, .int (nI n))]) hx hb dX5_change_100 hl (by decide) rfl (fun ls hl => ?_)
        refine lv_iload hx hb dX5_change_102 (lv_at hl 0 rfl) ?_
        refine lv_if_lt (tgt := 115) hx hb dX5_change_104 (by decide) (fun c_104 => ?_) (fun c_104 => ?_)
        · have c_104 : (go x - n) < 0 := (nI_ltI (a := (go x - n)) (b := 0) (by omega) (by omega)).mp c_104
          exact absurd c_104 (by omega)
        · have c_104 : ¬ ((go x - n) < 0) := fun h => c_104 ((nI_ltI (a := (go x - n)) (b := 0) (by omega) (by omega)).mpr h)
          refine lv_iload hx hb dX5_change_107 (lv_at hl 0 rfl) ?_
          refine lv_sipush (v := 1000) hx hb dX5_change_109 (by decide) ?_
          refine lv_icmp_le (tgt := 126) hx hb dX5_change_112 (by decide) (fun c_112 => ?_) (fun c_112 => ?_)
          · have c_112 : (go x - n) ≤ 1000 := (nI_leI (a := (go x - n)) (b := 1000) (by omega) (by omega)).mp c_112
            refine lv_aload_n hx hb dX5_change_126 rfl (lv_at hl 2 rfl) ?_
            refine va_get (D := D) (ci := 5) (v := .ref (a 7)) (C := RX5) (T := TX5) (N := 21) hx hb hts inX5 hown hK hP 0 rfl rfl 7 (by decide) fl29 (fun _ h9 => h9) rfl dX5_change_127 ?_
            refine lv_iload_n hx hb dX5_change_130 rfl (lv_at hl 4 rfl) ?_
            refine lv_iload hx hb dX5_change_131 (lv_at hl 0 rfl) ?_
            refine xi_ast hx hb hK hP hD hS 7 0 rfl rfl (k := x) (x := (nI (go x - n))) (by omega) (by decide) dX5_change_133 (fun H locs hP hD hS => ?_)
            have hP : va_P D vwCl [(a 0, .inr (5, [.int t, .ref (a 1), .ref (a 2), .ref (a 3), .ref (a 4), .ref (a 5), .ref (a 6), .ref (a 7), .ref (a 8), .ref (a 9), .int r, .ref (a 11), .ref (a 12), .ref (a 13), .ref (a 14), .int lv, .ref (a 16), .ref (a 17), .ref (a 18), .int b, .int o])), (a 1, .inl (cI, 6, .inl (v 1))), (a 2, .inl (cI, 240, .inl (v 2))), (a 3, .inl (cI, 240, .inl (v 3))), (a 4, .inl (cI, 240, .inl (v 4))), (a 5, .inl (cI, 240, .inl (v 5))), (a 6, .inl (cZ, 8, .inl (v 6))), (a 7, .inl (cI, 8, .inl (upd (v 7) x (nI (go x - n))))), (a 8, .inl (cI, 8, .inl (v 8))), (a 9, .inl (cI, 8, .inl (v 9))), (a 11, .inl (cI, 8, .inl (v 11))), (a 12, .inl (cI, 10, .inl (v 12))), (a 13, .inl (cI, 5, .inl (v 13))), (a 14, .inl (cI, 5, .inl (v 14))), (a 16, .inl (cI, 128, .inl (v 16))), (a 17, .inl (cI, 128, .inl (v 17))), (a 18, .inl (cI, 128, .inl (v 18)))] H := hP
            have hD : va_D A [(a 0, .inr (5, [.int t, .ref (a 1), .ref (a 2), .ref (a 3), .ref (a 4), .ref (a 5), .ref (a 6), .ref (a 7), .ref (a 8), .ref (a 9), .int r, .ref (a 11), .ref (a 12), .ref (a 13), .ref (a 14), .int lv, .ref (a 16), .ref (a 17), .ref (a 18), .int b, .int o])), (a 1, .inl (cI, 6, .inl (v 1))), (a 2, .inl (cI, 240, .inl (v 2))), (a 3, .inl (cI, 240, .inl (v 3))), (a 4, .inl (cI, 240, .inl (v 4))), (a 5, .inl (cI, 240, .inl (v 5))), (a 6, .inl (cZ, 8, .inl (v 6))), (a 7, .inl (cI, 8, .inl (upd (v 7) x (nI (go x - n))))), (a 8, .inl (cI, 8, .inl (v 8))), (a 9, .inl (cI, 8, .inl (v 9))), (a 11, .inl (cI, 8, .inl (v 11))), (a 12, .inl (cI, 10, .inl (v 12))), (a 13, .inl (cI, 5, .inl (v 13))), (a 14, .inl (cI, 5, .inl (v 14))), (a 16, .inl (cI, 128, .inl (v 16))), (a 17, .inl (cI, 128, .inl (v 17))), (a 18, .inl (cI, 128, .inl (v 18)))] := hD
            refine lv_iconst (v := 0) hx hb dX5_change_134 (by decide) ?_
            exact Ri (D := D) (upd (v 7) x (nI (go x - n))) hx hb hr rfl hlocks hP hD hS (by rw [A_take, if_pos hml0, if_neg (by omega)]; exact ⟨rfl, gk_up hg (by omega)⟩) dX5_change_135
          · have c_112 : ¬ ((go x - n) ≤ 1000) := fun h => c_112 ((nI_leI (a := (go x - n)) (b := 1000) (by omega) (by omega)).mpr h)
            exact absurd c_112 (by omega)
    · have c_21 : (hd x) = 0 := (nI_eq (a := (hd x)) (b := 0) (by omega) (by omega)).mp c_21
      refine lv_bipush (v := 7) hx hb dX5_change_24 (by decide) ?_
      exact Ri (D := D) (v 7) hx hb hr rfl hlocks hP hD hS (by rw [A_take, mol_l c_9 c_21, if_neg (by decide)]; exact ⟨rfl, hg⟩) dX5_change_26
  · have c_9 : ¬ ((mis th x) = 0) := fun h => c_9 ((nI_eq (a := (mis th x)) (b := 0) (by omega) (by omega)).mpr h)
    refine lv_iload hx hb dX5_change_12 (lv_at hl 0 rfl) ?_
    exact Ri (D := D) (v 7) hx hb hr rfl hlocks hP hD hS (by rw [A_take, mol_m c_9, if_neg c_9]; exact ⟨rfl, hg⟩) dX5_change_14

set_option maxHeartbeats 4000000 in
set_option maxRecDepth 100000 in
theorem c_X5_changeS (l : Launch) (D : va_G) (cI cZ : ClassId) (a : Nat → Nat) (v : Nat → Nat → Int32) (t r lv b o : Int32) (th : Nat → Bool) (hz : zk (v 6) th) (go hd : Nat → Nat) (hg : gk (v 7) go) (hh : hok (v 9) hd) (x : Nat) (hx16 : x < 16) (n : Nat) (hn16 : n < 16) : Ci l D [(cI, .int), (cZ, .boolean)] yX5_change wsX5_change ({ frames := 1, cells := 0, slots := 0, locals := 21 }) [.ref (a 0), .int 5, .int (nI x), .int (nI n)] (wM a cI cZ v t r lv b o) (S := (Nat → Int32) × Int32) (fun w u => w = nI (A_share th go hd r x n).1 ∧ gk u.1 (A_share th go hd r x n).2.1 ∧ u.2 = (A_share th go hd r x n).2.2) (fun u => wM a cI cZ (va_up v 7 u.1) t u.2 lv b o) := by
  refine Ci.mk (cc := cX5_change) (maxL := 6) (ret := (some .int)) (by decide +kernel) rfl (Nat.le_of_ble_eq_true rfl) ?_
  intro pg e s m below meth c A ls hx hb hml hr hown hts hlocks hK hns hA hP hD hS hl
  have hl : lv_has ls 6 [(0, .ref (a 0)), (1, .int 5), (2, .int (nI x)), (3, .int (nI n))] := hl
  have fl35 := hts (.fieldLink RX5 35 "HeldShelvesModel" "held" "[I") (List.mem_of_getElem? (i := 1) rfl)
  have inX5 : ∀ w ∈ wsX50, w ∈ wsX5_change := fun _ h => List.mem_cons_of_mem _ (List.mem_append_right _ h)
  have fl29 := hts (.fieldLink RX5 29 "HeldShelvesModel" "goods" "[I") (List.mem_of_getElem? (i := 2) rfl)
  have fl98 := hts (.fieldLink RX5 98 "HeldShelvesModel" "rest" "I") (List.mem_of_getElem? (i := 3) rfl)
  have hP : va_P D vwCl [(a 0, .inr (5, [.int t, .ref (a 1), .ref (a 2), .ref (a 3), .ref (a 4), .ref (a 5), .ref (a 6), .ref (a 7), .ref (a 8), .ref (a 9), .int r, .ref (a 11), .ref (a 12), .ref (a 13), .ref (a 14), .int lv, .ref (a 16), .ref (a 17), .ref (a 18), .int b, .int o])), (a 1, .inl (cI, 6, .inl (v 1))), (a 2, .inl (cI, 240, .inl (v 2))), (a 3, .inl (cI, 240, .inl (v 3))), (a 4, .inl (cI, 240, .inl (v 4))), (a 5, .inl (cI, 240, .inl (v 5))), (a 6, .inl (cZ, 8, .inl (v 6))), (a 7, .inl (cI, 8, .inl (v 7))), (a 8, .inl (cI, 8, .inl (v 8))), (a 9, .inl (cI, 8, .inl (v 9))), (a 11, .inl (cI, 8, .inl (v 11))), (a 12, .inl (cI, 10, .inl (v 12))), (a 13, .inl (cI, 5, .inl (v 13))), (a 14, .inl (cI, 5, .inl (v 14))), (a 16, .inl (cI, 128, .inl (v 16))), (a 17, .inl (cI, 128, .inl (v 17))), (a 18, .inl (cI, 128, .inl (v 18)))] s.heap := hP
  have hD : va_D A [(a 0, .inr (5, [.int t, .ref (a 1), .ref (a 2), .ref (a 3), .ref (a 4), .ref (a 5), .ref (a 6), .ref (a 7), .ref (a 8), .ref (a 9), .int r, .ref (a 11), .ref (a 12), .ref (a 13), .ref (a 14), .int lv, .ref (a 16), .ref (a 17), .ref (a 18), .int b, .int o])), (a 1, .inl (cI, 6, .inl (v 1))), (a 2, .inl (cI, 240, .inl (v 2))), (a 3, .inl (cI, 240, .inl (v 3))), (a 4, .inl (cI, 240, .inl (v 4))), (a 5, .inl (cI, 240, .inl (v 5))), (a 6, .inl (cZ, 8, .inl (v 6))), (a 7, .inl (cI, 8, .inl (v 7))), (a 8, .inl (cI, 8, .inl (v 8))), (a 9, .inl (cI, 8, .inl (v 9))), (a 11, .inl (cI, 8, .inl (v 11))), (a 12, .inl (cI, 10, .inl (v 12))), (a 13, .inl (cI, 5, .inl (v 13))), (a 14, .inl (cI, 5, .inl (v 14))), (a 16, .inl (cI, 128, .inl (v 16))), (a 17, .inl (cI, 128, .inl (v 17))), (a 18, .inl (cI, 128, .inl (v 18)))] := hD
  have hm := mis_le (th := th) (s := x)
  refine lv_aload_n hx hb dX5_change_0 rfl (lv_at hl 0 rfl) ?_
  refine lv_iload_n hx hb dX5_change_1 rfl (lv_at hl 2 rfl) ?_
  refine cl_Vi ([]) ([]) (As := [.int (nI x)]) (rest := []) (c_X5_wrongShelf l D cI cZ a v t r lv b o th hz x hx16) ⟨hx, hb, hml, hown, hts⟩ (cwV 1 hts gX5_change_X5_wrongShelf rfl rfl rfl (by decide +kernel) ⟨Nat.le_of_ble_eq_true rfl, Nat.le_of_ble_eq_true rfl⟩) hK hns hP hD hS hA rfl (T := TX5) (N := 21) rfl rfl hl.1 rfl (Nat.le_of_ble_eq_true rfl) dX5_change_2 ⟨Nat.zero_le _, Nat.zero_le _⟩ (fun r2 u2 H locs hw2 hP hD hS => ?_)
  have hP : va_P D vwCl [(a 0, .inr (5, [.int t, .ref (a 1), .ref (a 2), .ref (a 3), .ref (a 4), .ref (a 5), .ref (a 6), .ref (a 7), .ref (a 8), .ref (a 9), .int r, .ref (a 11), .ref (a 12), .ref (a 13), .ref (a 14), .int lv, .ref (a 16), .ref (a 17), .ref (a 18), .int b, .int o])), (a 1, .inl (cI, 6, .inl (v 1))), (a 2, .inl (cI, 240, .inl (v 2))), (a 3, .inl (cI, 240, .inl (v 3))), (a 4, .inl (cI, 240, .inl (v 4))), (a 5, .inl (cI, 240, .inl (v 5))), (a 6, .inl (cZ, 8, .inl (v 6))), (a 7, .inl (cI, 8, .inl (v 7))), (a 8, .inl (cI, 8, .inl (v 8))), (a 9, .inl (cI, 8, .inl (v 9))), (a 11, .inl (cI, 8, .inl (v 11))), (a 12, .inl (cI, 10, .inl (v 12))), (a 13, .inl (cI, 5, .inl (v 13))), (a 14, .inl (cI, 5, .inl (v 14))), (a 16, .inl (cI, 128, .inl (v 16))), (a 17, .inl (cI, 128, .inl (v 17))), (a 18, .inl (cI, 128, .inl (v 18)))] H := hP
  have hD : va_D A [(a 0, .inr (5, [.int t, .ref (a 1), .ref (a 2), .ref (a 3), .ref (a 4), .ref (a 5), .ref (a 6), .ref (a 7), .ref (a 8), .ref (a 9), .int r, .ref (a 11), .ref (a 12), .ref (a 13), .ref (a 14), .int lv, .ref (a 16), .ref (a 17), .ref (a 18), .int b, .int o])), (a 1, .inl (cI, 6, .inl (v 1))), (a 2, .inl (cI, 240, .inl (v 2))), (a 3, .inl (cI, 240, .inl (v 3))), (a 4, .inl (cI, 240, .inl (v 4))), (a 5, .inl (cI, 240, .inl (v 5))), (a 6, .inl (cZ, 8, .inl (v 6))), (a 7, .inl (cI, 8, .inl (v 7))), (a 8, .inl (cI, 8, .inl (v 8))), (a 9, .inl (cI, 8, .inl (v 9))), (a 11, .inl (cI, 8, .inl (v 11))), (a 12, .inl (cI, 10, .inl (v 12))), (a 13, .inl (cI, 5, .inl (v 13))), (a 14, .inl (cI, 5, .inl (v 14))), (a 16, .inl (cI, 128, .inl (v 16))), (a 17, .inl (cI, 128, .inl (v 17))), (a 18, .inl (cI, 128, .inl (v 18)))] := hD
  subst hw2
  refine lv_istore (lv' := [(4, .int (nI (mis th x))), (0, .ref (a 0)), (1, .int 5), (2, .int (nI x)), (3, .int (nI n))]) hx hb dX5_change_5 hl (by decide) rfl (fun ls hl => ?_)
  refine lv_iload hx hb dX5_change_7 (lv_at hl 0 rfl) ?_
  refine lv_if_eq (tgt := 15) hx hb dX5_change_9 (by decide) (fun c_9 => ?_) (fun c_9 => ?_)
  · have c_9 : (mis th x) = 0 := (nI_eq (a := (mis th x)) (b := 0) (by omega) (by omega)).mp c_9
    have h8 := mis_0 c_9
    have hgv := hg x h8.1
    have hhv := hh x h8.1
    refine lv_aload_n hx hb dX5_change_15 rfl (lv_at hl 1 rfl) ?_
    refine va_get (D := D) (ci := 5) (v := .ref (a 9)) (C := RX5) (T := TX5) (N := 21) hx hb hts inX5 hown hK hP 0 rfl rfl 9 (by decide) fl35 (fun _ h9 => h9) rfl dX5_change_16 ?_
    refine lv_iload_n hx hb dX5_change_19 rfl (lv_at hl 3 rfl) ?_
    refine xi_ald hx hb hK hP 9 0 rfl rfl (k := x) (by omega) (by decide) dX5_change_20 ?_
    refine tp (y := nI (hd x)) (hhv.1) ?_
    refine lv_if_ne (tgt := 27) hx hb dX5_change_21 (by decide) (fun c_21 => ?_) (fun c_21 => ?_)
    · have c_21 : ¬ ((hd x) = 0) := fun h => c_21 ((nI_eq (a := (hd x)) (b := 0) (by omega) (by omega)).mpr h)
      have hml0 := mol_z (th := th) (hd := hd) c_9 c_21
      refine lv_iload_n hx hb dX5_change_27 rfl (lv_at hl 2 rfl) ?_
      refine lv_iconst (v := 5) hx hb dX5_change_28 (by decide) ?_
      refine lv_icmp_ne (tgt := 76) hx hb dX5_change_29 (by decide) (fun c9 => absurd rfl c9) (fun _ => ?_)
      refine lv_iload_n hx hb dX5_change_32 rfl (lv_at hl 4 rfl) ?_
      refine lv_if_ne (tgt := 38) hx hb dX5_change_33 (by decide) (fun c_33 => ?_) (fun c_33 => ?_)
      · have c_33 : ¬ (n = 0) := fun h => c_33 ((nI_eq (a := n) (b := 0) (by omega) (by omega)).mpr h)
        refine lv_aload_n hx hb dX5_change_38 rfl (lv_at hl 1 rfl) ?_
        refine va_get (D := D) (ci := 5) (v := .ref (a 7)) (C := RX5) (T := TX5) (N := 21) hx hb hts inX5 hown hK hP 0 rfl rfl 7 (by decide) fl29 (fun _ h9 => h9) rfl dX5_change_39 ?_
        refine lv_iload_n hx hb dX5_change_42 rfl (lv_at hl 3 rfl) ?_
        refine xi_ald hx hb hK hP 7 0 rfl rfl (k := x) (by omega) (by decide) dX5_change_43 ?_
        refine tp (y := nI (go x)) (hgv.1) ?_
        refine lv_iload_n hx hb dX5_change_44 rfl (lv_at hl 4 rfl) ?_
        refine lv_idiv hx hb dX5_change_45 (fun q => c_33 ((nI_eq (a := n) (b := 0) (by omega) (by omega)).mp q)) ?_
        have hdl : go x / n ≤ go x := Nat.div_le_self _ _
        refine tp (y := nI (go x / n)) (pk_div (by omega) (by omega) (by omega)) ?_
        refine lv_istore (lv' := [(5, .int (nI (go x / n))), (4, .int (nI (mis th x))), (0, .ref (a 0)), (1, .int 5), (2, .int (nI x)), (3, .int (nI n))]) hx hb dX5_change_46 hl (by decide) rfl (fun ls hl => ?_)
        refine lv_aload_n hx hb dX5_change_48 rfl (lv_at hl 2 rfl) ?_
        refine lv_dup hx hb dX5_change_49 rfl ?_
        refine va_get (D := D) (ci := 5) (v := .int r) (C := RX5) (T := TX5) (N := 21) hx hb hts inX5 hown hK hP 0 rfl rfl 10 (by decide) fl98 (fun _ h9 => h9) rfl dX5_change_50 ?_
        refine lv_aload_n hx hb dX5_change_53 rfl (lv_at hl 2 rfl) ?_
        refine va_get (D := D) (ci := 5) (v := .ref (a 7)) (C := RX5) (T := TX5) (N := 21) hx hb hts inX5 hown hK hP 0 rfl rfl 7 (by decide) fl29 (fun _ h9 => h9) rfl dX5_change_54 ?_
        refine lv_iload_n hx hb dX5_change_57 rfl (lv_at hl 4 rfl) ?_
        refine xi_ald hx hb hK hP 7 0 rfl rfl (k := x) (by omega) (by decide) dX5_change_58 ?_
        refine tp (y := nI (go x)) (hgv.1) ?_
        refine lv_iload hx hb dX5_change_59 (lv_at hl 0 rfl) ?_
        refine lv_isub hx hb dX5_change_61 ?_
        refine tp (y := nI (go x - go x / n)) (pk_sub (by omega)) ?_
        refine lv_iadd hx hb dX5_change_62 ?_
        refine va_put (D := D) (ci := 5) (v := .int (r + (nI (go x - go x / n)))) (ty := .int) (C := RX5) (T := TX5) (N := 21) hx hb hts inX5 tyX5 tyX5_ok nmX5 hown hK hP hD hS 0 rfl rfl 10 (by decide) fl98 (fun _ h9 => h9) rfl (by decide +kernel) rfl rfl (Nat.le_of_ble_eq_true rfl) dX5_change_63 (fun H locs hP hD hS => ?_)
        have hP : va_P D vwCl [(a 0, .inr (5, [.int t, .ref (a 1), .ref (a 2), .ref (a 3), .ref (a 4), .ref (a 5), .ref (a 6), .ref (a 7), .ref (a 8), .ref (a 9), .int (r + (nI (go x - go x / n))), .ref (a 11), .ref (a 12), .ref (a 13), .ref (a 14), .int lv, .ref (a 16), .ref (a 17), .ref (a 18), .int b, .int o])), (a 1, .inl (cI, 6, .inl (v 1))), (a 2, .inl (cI, 240, .inl (v 2))), (a 3, .inl (cI, 240, .inl (v 3))), (a 4, .inl (cI, 240, .inl (v 4))), (a 5, .inl (cI, 240, .inl (v 5))), (a 6, .inl (cZ, 8, .inl (v 6))), (a 7, .inl (cI, 8, .inl (v 7))), (a 8, .inl (cI, 8, .inl (v 8))), (a 9, .inl (cI, 8, .inl (v 9))), (a 11, .inl (cI, 8, .inl (v 11))), (a 12, .inl (cI, 10, .inl (v 12))), (a 13, .inl (cI, 5, .inl (v 13))), (a 14, .inl (cI, 5, .inl (v 14))), (a 16, .inl (cI, 128, .inl (v 16))), (a 17, .inl (cI, 128, .inl (v 17))), (a 18, .inl (cI, 128, .inl (v 18)))] H := hP
        have hD : va_D A [(a 0, .inr (5, [.int t, .ref (a 1), .ref (a 2), .ref (a 3), .ref (a 4), .ref (a 5), .ref (a 6), .ref (a 7), .ref (a 8), .ref (a 9), .int (r + (nI (go x - go x / n))), .ref (a 11), .ref (a 12), .ref (a 13), .ref (a 14), .int lv, .ref (a 16), .ref (a 17), .ref (a 18), .int b, .int o])), (a 1, .inl (cI, 6, .inl (v 1))), (a 2, .inl (cI, 240, .inl (v 2))), (a 3, .inl (cI, 240, .inl (v 3))), (a 4, .inl (cI, 240, .inl (v 4))), (a 5, .inl (cI, 240, .inl (v 5))), (a 6, .inl (cZ, 8, .inl (v 6))), (a 7, .inl (cI, 8, .inl (v 7))), (a 8, .inl (cI, 8, .inl (v 8))), (a 9, .inl (cI, 8, .inl (v 9))), (a 11, .inl (cI, 8, .inl (v 11))), (a 12, .inl (cI, 10, .inl (v 12))), (a 13, .inl (cI, 5, .inl (v 13))), (a 14, .inl (cI, 5, .inl (v 14))), (a 16, .inl (cI, 128, .inl (v 16))), (a 17, .inl (cI, 128, .inl (v 17))), (a 18, .inl (cI, 128, .inl (v 18)))] := hD
        refine lv_aload_n hx hb dX5_change_66 rfl (lv_at hl 2 rfl) ?_
        refine va_get (D := D) (ci := 5) (v := .ref (a 7)) (C := RX5) (T := TX5) (N := 21) hx hb hts inX5 hown hK hP 0 rfl rfl 7 (by decide) fl29 (fun _ h9 => h9) rfl dX5_change_67 ?_
        refine lv_iload_n hx hb dX5_change_70 rfl (lv_at hl 4 rfl) ?_
        refine lv_iload hx hb dX5_change_71 (lv_at hl 0 rfl) ?_
        refine xi_ast hx hb hK hP hD hS 7 0 rfl rfl (k := x) (x := (nI (go x / n))) (by omega) (by decide) dX5_change_73 (fun H locs hP hD hS => ?_)
        have hP : va_P D vwCl [(a 0, .inr (5, [.int t, .ref (a 1), .ref (a 2), .ref (a 3), .ref (a 4), .ref (a 5), .ref (a 6), .ref (a 7), .ref (a 8), .ref (a 9), .int (r + (nI (go x - go x / n))), .ref (a 11), .ref (a 12), .ref (a 13), .ref (a 14), .int lv, .ref (a 16), .ref (a 17), .ref (a 18), .int b, .int o])), (a 1, .inl (cI, 6, .inl (v 1))), (a 2, .inl (cI, 240, .inl (v 2))), (a 3, .inl (cI, 240, .inl (v 3))), (a 4, .inl (cI, 240, .inl (v 4))), (a 5, .inl (cI, 240, .inl (v 5))), (a 6, .inl (cZ, 8, .inl (v 6))), (a 7, .inl (cI, 8, .inl (upd (v 7) x (nI (go x / n))))), (a 8, .inl (cI, 8, .inl (v 8))), (a 9, .inl (cI, 8, .inl (v 9))), (a 11, .inl (cI, 8, .inl (v 11))), (a 12, .inl (cI, 10, .inl (v 12))), (a 13, .inl (cI, 5, .inl (v 13))), (a 14, .inl (cI, 5, .inl (v 14))), (a 16, .inl (cI, 128, .inl (v 16))), (a 17, .inl (cI, 128, .inl (v 17))), (a 18, .inl (cI, 128, .inl (v 18)))] H := hP
        have hD : va_D A [(a 0, .inr (5, [.int t, .ref (a 1), .ref (a 2), .ref (a 3), .ref (a 4), .ref (a 5), .ref (a 6), .ref (a 7), .ref (a 8), .ref (a 9), .int (r + (nI (go x - go x / n))), .ref (a 11), .ref (a 12), .ref (a 13), .ref (a 14), .int lv, .ref (a 16), .ref (a 17), .ref (a 18), .int b, .int o])), (a 1, .inl (cI, 6, .inl (v 1))), (a 2, .inl (cI, 240, .inl (v 2))), (a 3, .inl (cI, 240, .inl (v 3))), (a 4, .inl (cI, 240, .inl (v 4))), (a 5, .inl (cI, 240, .inl (v 5))), (a 6, .inl (cZ, 8, .inl (v 6))), (a 7, .inl (cI, 8, .inl (upd (v 7) x (nI (go x / n))))), (a 8, .inl (cI, 8, .inl (v 8))), (a 9, .inl (cI, 8, .inl (v 9))), (a 11, .inl (cI, 8, .inl (v 11))), (a 12, .inl (cI, 10, .inl (v 12))), (a 13, .inl (cI, 5, .inl (v 13))), (a 14, .inl (cI, 5, .inl (v 14))), (a 16, .inl (cI, 128, .inl (v 16))), (a 17, .inl (cI, 128, .inl (v 17))), (a 18, .inl (cI, 128, .inl (v 18)))] := hD
        refine lv_iconst (v := 0) hx hb dX5_change_74 (by decide) ?_
        exact Ri (D := D) (upd (v 7) x (nI (go x / n)), r + nI (go x - go x / n)) hx hb hr rfl hlocks hP hD hS (by rw [A_share, if_pos hml0, if_neg c_33]; exact ⟨rfl, gk_up hg (by omega), rfl⟩) dX5_change_75
      · have c_33 : n = 0 := (nI_eq (a := n) (b := 0) (by omega) (by omega)).mp c_33
        refine lv_iconst (v := 3) hx hb dX5_change_36 (by decide) ?_
        exact Ri (D := D) (v 7, r) hx hb hr rfl hlocks hP hD hS (by rw [A_share, if_pos hml0, if_pos c_33]; exact ⟨rfl, hg, rfl⟩) dX5_change_37
    · have c_21 : (hd x) = 0 := (nI_eq (a := (hd x)) (b := 0) (by omega) (by omega)).mp c_21
      refine lv_bipush (v := 7) hx hb dX5_change_24 (by decide) ?_
      exact Ri (D := D) (v 7, r) hx hb hr rfl hlocks hP hD hS (by rw [A_share, mol_l c_9 c_21, if_neg (by decide)]; exact ⟨rfl, hg, rfl⟩) dX5_change_26
  · have c_9 : ¬ ((mis th x) = 0) := fun h => c_9 ((nI_eq (a := (mis th x)) (b := 0) (by omega) (by omega)).mpr h)
    refine lv_iload hx hb dX5_change_12 (lv_at hl 0 rfl) ?_
    exact Ri (D := D) (v 7, r) hx hb hr rfl hlocks hP hD hS (by rw [A_share, mol_m c_9, if_neg c_9]; exact ⟨rfl, hg, rfl⟩) dX5_change_14

set_option maxHeartbeats 4000000 in
set_option maxRecDepth 100000 in
theorem c_X5_move (l : Launch) (D : va_G) (cI cZ : ClassId) (a : Nat → Nat) (v : Nat → Nat → Int32) (t r lv b o : Int32) (th : Nat → Bool) (hz : zk (v 6) th) (go : Nat → Nat) (hg : gk (v 7) go) (x y n : Nat) (hx16 : x < 16) (hy16 : y < 16) (hn16 : n < 16) : Ci l D [(cI, .int), (cZ, .boolean)] yX5_move wsX5_move ({ frames := 0, cells := 0, slots := 0, locals := 0 }) [.ref (a 0), .int (nI x), .int (nI y), .int (nI n)] (wM a cI cZ v t r lv b o) (S := Nat → Int32) (fun w u => w = nI (A_move th go x y n).1 ∧ gk u (A_move th go x y n).2) (fun u => wM a cI cZ (va_up v 7 u) t r lv b o) := by
  refine Ci.mk (cc := cX5_move) (maxL := 4) (ret := (some .int)) (by decide +kernel) rfl (Nat.le_of_ble_eq_true rfl) ?_
  intro pg e s m below meth c A ls hx hb hml hr hown hts hlocks hK hns hA hP hD hS hl
  have hl : lv_has ls 4 [(0, .ref (a 0)), (1, .int (nI x)), (2, .int (nI y)), (3, .int (nI n))] := hl
  have fl25 := hts (.fieldLink RX5 25 "HeldShelvesModel" "isThere" "[Z") (List.mem_of_getElem? (i := 1) rfl)
  have inX5 : ∀ w ∈ wsX50, w ∈ wsX5_move := fun _ h => List.mem_cons_of_mem _ (List.mem_append_right _ h)
  have fl29 := hts (.fieldLink RX5 29 "HeldShelvesModel" "goods" "[I") (List.mem_of_getElem? (i := 2) rfl)
  have hP : va_P D vwCl [(a 0, .inr (5, [.int t, .ref (a 1), .ref (a 2), .ref (a 3), .ref (a 4), .ref (a 5), .ref (a 6), .ref (a 7), .ref (a 8), .ref (a 9), .int r, .ref (a 11), .ref (a 12), .ref (a 13), .ref (a 14), .int lv, .ref (a 16), .ref (a 17), .ref (a 18), .int b, .int o])), (a 1, .inl (cI, 6, .inl (v 1))), (a 2, .inl (cI, 240, .inl (v 2))), (a 3, .inl (cI, 240, .inl (v 3))), (a 4, .inl (cI, 240, .inl (v 4))), (a 5, .inl (cI, 240, .inl (v 5))), (a 6, .inl (cZ, 8, .inl (v 6))), (a 7, .inl (cI, 8, .inl (v 7))), (a 8, .inl (cI, 8, .inl (v 8))), (a 9, .inl (cI, 8, .inl (v 9))), (a 11, .inl (cI, 8, .inl (v 11))), (a 12, .inl (cI, 10, .inl (v 12))), (a 13, .inl (cI, 5, .inl (v 13))), (a 14, .inl (cI, 5, .inl (v 14))), (a 16, .inl (cI, 128, .inl (v 16))), (a 17, .inl (cI, 128, .inl (v 17))), (a 18, .inl (cI, 128, .inl (v 18)))] s.heap := hP
  have hD : va_D A [(a 0, .inr (5, [.int t, .ref (a 1), .ref (a 2), .ref (a 3), .ref (a 4), .ref (a 5), .ref (a 6), .ref (a 7), .ref (a 8), .ref (a 9), .int r, .ref (a 11), .ref (a 12), .ref (a 13), .ref (a 14), .int lv, .ref (a 16), .ref (a 17), .ref (a 18), .int b, .int o])), (a 1, .inl (cI, 6, .inl (v 1))), (a 2, .inl (cI, 240, .inl (v 2))), (a 3, .inl (cI, 240, .inl (v 3))), (a 4, .inl (cI, 240, .inl (v 4))), (a 5, .inl (cI, 240, .inl (v 5))), (a 6, .inl (cZ, 8, .inl (v 6))), (a 7, .inl (cI, 8, .inl (v 7))), (a 8, .inl (cI, 8, .inl (v 8))), (a 9, .inl (cI, 8, .inl (v 9))), (a 11, .inl (cI, 8, .inl (v 11))), (a 12, .inl (cI, 10, .inl (v 12))), (a 13, .inl (cI, 5, .inl (v 13))), (a 14, .inl (cI, 5, .inl (v 14))), (a 16, .inl (cI, 128, .inl (v 16))), (a 17, .inl (cI, 128, .inl (v 17))), (a 18, .inl (cI, 128, .inl (v 18)))] := hD
  refine lv_iload_n hx hb dX5_move_0 rfl (lv_at hl 1 rfl) ?_
  refine lv_bipush (v := 7) hx hb dX5_move_1 (by decide) ?_
  refine lv_icmp_gt (tgt := 12) hx hb dX5_move_3 (by decide) (fun c_3 => ?_) (fun c_3 => ?_)
  · have c_3 : 7 < x := (nI_ltI (a := 7) (b := x) (by omega) (by omega)).mp c_3
    refine lv_iconst (v := 1) hx hb dX5_move_12 (by decide) ?_
    exact Ri (D := D) (v 7) hx hb hr rfl hlocks hP hD hS (by rw [A_move, if_pos (by omega)]; exact ⟨rfl, hg⟩) dX5_move_13
  · have c_3 : ¬ (7 < x) := fun h => c_3 ((nI_ltI (a := 7) (b := x) (by omega) (by omega)).mpr h)
    refine lv_iload_n hx hb dX5_move_6 rfl (lv_at hl 2 rfl) ?_
    refine lv_bipush (v := 7) hx hb dX5_move_7 (by decide) ?_
    refine lv_icmp_le (tgt := 14) hx hb dX5_move_9 (by decide) (fun c_9 => ?_) (fun c_9 => ?_)
    · have c_9 : y ≤ 7 := (nI_leI (a := y) (b := 7) (by omega) (by omega)).mp c_9
      refine lv_aload_n hx hb dX5_move_14 rfl (lv_at hl 0 rfl) ?_
      refine va_get (D := D) (ci := 5) (v := .ref (a 6)) (C := RX5) (T := TX5) (N := 21) hx hb hts inX5 hown hK hP 0 rfl rfl 6 (by decide) fl25 (fun _ h9 => h9) rfl dX5_move_15 ?_
      refine lv_iload_n hx hb dX5_move_18 rfl (lv_at hl 1 rfl) ?_
      refine xz_ald hx hb hK hP 6 1 rfl rfl (k := x) (by omega) (by decide) dX5_move_19 ?_
      refine lv_if_eq (tgt := 32) hx hb dX5_move_20 (by decide) (fun c_20 => ?_) (fun c_20 => ?_)
      · have t1 := zk_0 hz (by omega) c_20
        refine lv_iconst (v := 2) hx hb dX5_move_32 (by decide) ?_
        exact Ri (D := D) (v 7) hx hb hr rfl hlocks hP hD hS (by rw [A_move, if_neg (by omega), if_pos (Or.inl t1)]; exact ⟨rfl, hg⟩) dX5_move_33
      · have t1 := zk_1 hz (by omega) c_20
        refine lv_aload_n hx hb dX5_move_23 rfl (lv_at hl 0 rfl) ?_
        refine va_get (D := D) (ci := 5) (v := .ref (a 6)) (C := RX5) (T := TX5) (N := 21) hx hb hts inX5 hown hK hP 0 rfl rfl 6 (by decide) fl25 (fun _ h9 => h9) rfl dX5_move_24 ?_
        refine lv_iload_n hx hb dX5_move_27 rfl (lv_at hl 2 rfl) ?_
        refine xz_ald hx hb hK hP 6 1 rfl rfl (k := y) (by omega) (by decide) dX5_move_28 ?_
        refine lv_if_ne (tgt := 34) hx hb dX5_move_29 (by decide) (fun c_29 => ?_) (fun c_29 => ?_)
        · have t2 := zk_1 hz (by omega) c_29
          refine lv_iload_n hx hb dX5_move_34 rfl (lv_at hl 3 rfl) ?_
          refine lv_aload_n hx hb dX5_move_35 rfl (lv_at hl 0 rfl) ?_
          refine va_get (D := D) (ci := 5) (v := .ref (a 7)) (C := RX5) (T := TX5) (N := 21) hx hb hts inX5 hown hK hP 0 rfl rfl 7 (by decide) fl29 (fun _ h9 => h9) rfl dX5_move_36 ?_
          refine lv_iload_n hx hb dX5_move_39 rfl (lv_at hl 1 rfl) ?_
          refine xi_ald hx hb hK hP 7 0 rfl rfl (k := x) (by omega) (by decide) dX5_move_40 ?_
          have h1x := hg x (by omega)
          have h1y := hg y (by omega)
          refine tp (y := nI (go x)) (h1x.1) ?_
          refine lv_icmp_le (tgt := 46) hx hb dX5_move_41 (by decide) (fun c_41 => ?_) (fun c_41 => ?_)
          · have c_41 : n ≤ (go x) := (nI_leI (a := n) (b := (go x)) (by omega) (by omega)).mp c_41
            refine lv_iload_n hx hb dX5_move_46 rfl (lv_at hl 1 rfl) ?_
            refine lv_iload_n hx hb dX5_move_47 rfl (lv_at hl 2 rfl) ?_
            refine lv_icmp_eq (tgt := 67) hx hb dX5_move_48 (by decide) (fun c_48 => ?_) (fun c_48 => ?_)
            · have c_48 : x = y := (nI_eq (a := x) (b := y) (by omega) (by omega)).mp c_48
              refine lv_aload_n hx hb dX5_move_67 rfl (lv_at hl 0 rfl) ?_
              refine va_get (D := D) (ci := 5) (v := .ref (a 7)) (C := RX5) (T := TX5) (N := 21) hx hb hts inX5 hown hK hP 0 rfl rfl 7 (by decide) fl29 (fun _ h9 => h9) rfl dX5_move_68 ?_
              refine lv_iload_n hx hb dX5_move_71 rfl (lv_at hl 1 rfl) ?_
              refine lv_dup2_11 hx hb dX5_move_72 rfl rfl ?_
              refine xi_ald hx hb hK hP 7 0 rfl rfl (k := x) (by omega) (by decide) dX5_move_73 ?_
              refine tp (y := nI (go x)) (h1x.1) ?_
              refine lv_iload_n hx hb dX5_move_74 rfl (lv_at hl 3 rfl) ?_
              refine lv_isub hx hb dX5_move_75 ?_
              refine tp (y := nI (go x - n)) (pk_sub (by omega)) ?_
              refine xi_ast hx hb hK hP hD hS 7 0 rfl rfl (k := x) (x := (nI (go x - n))) (by omega) (by decide) dX5_move_76 (fun H locs hP hD hS => ?_)
              have hP : va_P D vwCl [(a 0, .inr (5, [.int t, .ref (a 1), .ref (a 2), .ref (a 3), .ref (a 4), .ref (a 5), .ref (a 6), .ref (a 7), .ref (a 8), .ref (a 9), .int r, .ref (a 11), .ref (a 12), .ref (a 13), .ref (a 14), .int lv, .ref (a 16), .ref (a 17), .ref (a 18), .int b, .int o])), (a 1, .inl (cI, 6, .inl (v 1))), (a 2, .inl (cI, 240, .inl (v 2))), (a 3, .inl (cI, 240, .inl (v 3))), (a 4, .inl (cI, 240, .inl (v 4))), (a 5, .inl (cI, 240, .inl (v 5))), (a 6, .inl (cZ, 8, .inl (v 6))), (a 7, .inl (cI, 8, .inl (upd (v 7) x (nI (go x - n))))), (a 8, .inl (cI, 8, .inl (v 8))), (a 9, .inl (cI, 8, .inl (v 9))), (a 11, .inl (cI, 8, .inl (v 11))), (a 12, .inl (cI, 10, .inl (v 12))), (a 13, .inl (cI, 5, .inl (v 13))), (a 14, .inl (cI, 5, .inl (v 14))), (a 16, .inl (cI, 128, .inl (v 16))), (a 17, .inl (cI, 128, .inl (v 17))), (a 18, .inl (cI, 128, .inl (v 18)))] H := hP
              have hD : va_D A [(a 0, .inr (5, [.int t, .ref (a 1), .ref (a 2), .ref (a 3), .ref (a 4), .ref (a 5), .ref (a 6), .ref (a 7), .ref (a 8), .ref (a 9), .int r, .ref (a 11), .ref (a 12), .ref (a 13), .ref (a 14), .int lv, .ref (a 16), .ref (a 17), .ref (a 18), .int b, .int o])), (a 1, .inl (cI, 6, .inl (v 1))), (a 2, .inl (cI, 240, .inl (v 2))), (a 3, .inl (cI, 240, .inl (v 3))), (a 4, .inl (cI, 240, .inl (v 4))), (a 5, .inl (cI, 240, .inl (v 5))), (a 6, .inl (cZ, 8, .inl (v 6))), (a 7, .inl (cI, 8, .inl (upd (v 7) x (nI (go x - n))))), (a 8, .inl (cI, 8, .inl (v 8))), (a 9, .inl (cI, 8, .inl (v 9))), (a 11, .inl (cI, 8, .inl (v 11))), (a 12, .inl (cI, 10, .inl (v 12))), (a 13, .inl (cI, 5, .inl (v 13))), (a 14, .inl (cI, 5, .inl (v 14))), (a 16, .inl (cI, 128, .inl (v 16))), (a 17, .inl (cI, 128, .inl (v 17))), (a 18, .inl (cI, 128, .inl (v 18)))] := hD
              have hg2 : gk (upd (v 7) x (nI (go x - n))) (va_up go x (go x - n)) := gk_up hg (by omega)
              refine lv_aload_n hx hb dX5_move_77 rfl (lv_at hl 0 rfl) ?_
              refine va_get (D := D) (ci := 5) (v := .ref (a 7)) (C := RX5) (T := TX5) (N := 21) hx hb hts inX5 hown hK hP 0 rfl rfl 7 (by decide) fl29 (fun _ h9 => h9) rfl dX5_move_78 ?_
              refine lv_iload_n hx hb dX5_move_81 rfl (lv_at hl 2 rfl) ?_
              refine lv_dup2_11 hx hb dX5_move_82 rfl rfl ?_
              refine xi_ald hx hb hK hP 7 0 rfl rfl (k := y) (by omega) (by decide) dX5_move_83 ?_
              refine tp (y := nI (va_up go x (go x - n) y)) ((hg2 y (by omega)).1) ?_
              refine lv_iload_n hx hb dX5_move_84 rfl (lv_at hl 3 rfl) ?_
              refine lv_iadd hx hb dX5_move_85 ?_
              refine tp (y := nI (va_up go x (go x - n) y + n)) (nI_add _ _) ?_
              refine xi_ast hx hb hK hP hD hS 7 0 rfl rfl (k := y) (x := (nI (va_up go x (go x - n) y + n))) (by omega) (by decide) dX5_move_86 (fun H locs hP hD hS => ?_)
              have hP : va_P D vwCl [(a 0, .inr (5, [.int t, .ref (a 1), .ref (a 2), .ref (a 3), .ref (a 4), .ref (a 5), .ref (a 6), .ref (a 7), .ref (a 8), .ref (a 9), .int r, .ref (a 11), .ref (a 12), .ref (a 13), .ref (a 14), .int lv, .ref (a 16), .ref (a 17), .ref (a 18), .int b, .int o])), (a 1, .inl (cI, 6, .inl (v 1))), (a 2, .inl (cI, 240, .inl (v 2))), (a 3, .inl (cI, 240, .inl (v 3))), (a 4, .inl (cI, 240, .inl (v 4))), (a 5, .inl (cI, 240, .inl (v 5))), (a 6, .inl (cZ, 8, .inl (v 6))), (a 7, .inl (cI, 8, .inl (upd (upd (v 7) x (nI (go x - n))) y (nI (va_up go x (go x - n) y + n))))), (a 8, .inl (cI, 8, .inl (v 8))), (a 9, .inl (cI, 8, .inl (v 9))), (a 11, .inl (cI, 8, .inl (v 11))), (a 12, .inl (cI, 10, .inl (v 12))), (a 13, .inl (cI, 5, .inl (v 13))), (a 14, .inl (cI, 5, .inl (v 14))), (a 16, .inl (cI, 128, .inl (v 16))), (a 17, .inl (cI, 128, .inl (v 17))), (a 18, .inl (cI, 128, .inl (v 18)))] H := hP
              have hD : va_D A [(a 0, .inr (5, [.int t, .ref (a 1), .ref (a 2), .ref (a 3), .ref (a 4), .ref (a 5), .ref (a 6), .ref (a 7), .ref (a 8), .ref (a 9), .int r, .ref (a 11), .ref (a 12), .ref (a 13), .ref (a 14), .int lv, .ref (a 16), .ref (a 17), .ref (a 18), .int b, .int o])), (a 1, .inl (cI, 6, .inl (v 1))), (a 2, .inl (cI, 240, .inl (v 2))), (a 3, .inl (cI, 240, .inl (v 3))), (a 4, .inl (cI, 240, .inl (v 4))), (a 5, .inl (cI, 240, .inl (v 5))), (a 6, .inl (cZ, 8, .inl (v 6))), (a 7, .inl (cI, 8, .inl (upd (upd (v 7) x (nI (go x - n))) y (nI (va_up go x (go x - n) y + n))))), (a 8, .inl (cI, 8, .inl (v 8))), (a 9, .inl (cI, 8, .inl (v 9))), (a 11, .inl (cI, 8, .inl (v 11))), (a 12, .inl (cI, 10, .inl (v 12))), (a 13, .inl (cI, 5, .inl (v 13))), (a 14, .inl (cI, 5, .inl (v 14))), (a 16, .inl (cI, 128, .inl (v 16))), (a 17, .inl (cI, 128, .inl (v 17))), (a 18, .inl (cI, 128, .inl (v 18)))] := hD
              refine lv_iconst (v := 0) hx hb dX5_move_87 (by decide) ?_
              exact Ri (D := D) (upd (upd (v 7) x (nI (go x - n))) y (nI (va_up go x (go x - n) y + n))) hx hb hr rfl hlocks hP hD hS (by rw [A_move, if_neg (by omega), if_neg (A_mv t1 t2), if_neg (by omega), if_neg (by omega)]; exact ⟨rfl, gk_up hg2 (A_mvb h1x.2 (by omega) (by omega))⟩) dX5_move_88
            · have c_48 : ¬ (x = y) := fun h => c_48 ((nI_eq (a := x) (b := y) (by omega) (by omega)).mpr h)
              refine lv_aload_n hx hb dX5_move_51 rfl (lv_at hl 0 rfl) ?_
              refine va_get (D := D) (ci := 5) (v := .ref (a 7)) (C := RX5) (T := TX5) (N := 21) hx hb hts inX5 hown hK hP 0 rfl rfl 7 (by decide) fl29 (fun _ h9 => h9) rfl dX5_move_52 ?_
              refine lv_iload_n hx hb dX5_move_55 rfl (lv_at hl 2 rfl) ?_
              refine xi_ald hx hb hK hP 7 0 rfl rfl (k := y) (by omega) (by decide) dX5_move_56 ?_
              refine tp (y := nI (go y)) (h1y.1) ?_
              refine lv_iload_n hx hb dX5_move_57 rfl (lv_at hl 3 rfl) ?_
              refine lv_iadd hx hb dX5_move_58 ?_
              refine tp (y := nI (go y + n)) (nI_add _ _) ?_
              refine lv_sipush (v := 1000) hx hb dX5_move_59 (by decide) ?_
              refine lv_icmp_le (tgt := 67) hx hb dX5_move_62 (by decide) (fun c_62 => ?_) (fun c_62 => ?_)
              · have c_62 : (go y + n) ≤ 1000 := (nI_leI (a := (go y + n)) (b := 1000) (by omega) (by omega)).mp c_62
                refine lv_aload_n hx hb dX5_move_67 rfl (lv_at hl 0 rfl) ?_
                refine va_get (D := D) (ci := 5) (v := .ref (a 7)) (C := RX5) (T := TX5) (N := 21) hx hb hts inX5 hown hK hP 0 rfl rfl 7 (by decide) fl29 (fun _ h9 => h9) rfl dX5_move_68 ?_
                refine lv_iload_n hx hb dX5_move_71 rfl (lv_at hl 1 rfl) ?_
                refine lv_dup2_11 hx hb dX5_move_72 rfl rfl ?_
                refine xi_ald hx hb hK hP 7 0 rfl rfl (k := x) (by omega) (by decide) dX5_move_73 ?_
                refine tp (y := nI (go x)) (h1x.1) ?_
                refine lv_iload_n hx hb dX5_move_74 rfl (lv_at hl 3 rfl) ?_
                refine lv_isub hx hb dX5_move_75 ?_
                refine tp (y := nI (go x - n)) (pk_sub (by omega)) ?_
                refine xi_ast hx hb hK hP hD hS 7 0 rfl rfl (k := x) (x := (nI (go x - n))) (by omega) (by decide) dX5_move_76 (fun H locs hP hD hS => ?_)
                have hP : va_P D vwCl [(a 0, .inr (5, [.int t, .ref (a 1), .ref (a 2), .ref (a 3), .ref (a 4), .ref (a 5), .ref (a 6), .ref (a 7), .ref (a 8), .ref (a 9), .int r, .ref (a 11), .ref (a 12), .ref (a 13), .ref (a 14), .int lv, .ref (a 16), .ref (a 17), .ref (a 18), .int b, .int o])), (a 1, .inl (cI, 6, .inl (v 1))), (a 2, .inl (cI, 240, .inl (v 2))), (a 3, .inl (cI, 240, .inl (v 3))), (a 4, .inl (cI, 240, .inl (v 4))), (a 5, .inl (cI, 240, .inl (v 5))), (a 6, .inl (cZ, 8, .inl (v 6))), (a 7, .inl (cI, 8, .inl (upd (v 7) x (nI (go x - n))))), (a 8, .inl (cI, 8, .inl (v 8))), (a 9, .inl (cI, 8, .inl (v 9))), (a 11, .inl (cI, 8, .inl (v 11))), (a 12, .inl (cI, 10, .inl (v 12))), (a 13, .inl (cI, 5, .inl (v 13))), (a 14, .inl (cI, 5, .inl (v 14))), (a 16, .inl (cI, 128, .inl (v 16))), (a 17, .inl (cI, 128, .inl (v 17))), (a 18, .inl (cI, 128, .inl (v 18)))] H := hP
                have hD : va_D A [(a 0, .inr (5, [.int t, .ref (a 1), .ref (a 2), .ref (a 3), .ref (a 4), .ref (a 5), .ref (a 6), .ref (a 7), .ref (a 8), .ref (a 9), .int r, .ref (a 11), .ref (a 12), .ref (a 13), .ref (a 14), .int lv, .ref (a 16), .ref (a 17), .ref (a 18), .int b, .int o])), (a 1, .inl (cI, 6, .inl (v 1))), (a 2, .inl (cI, 240, .inl (v 2))), (a 3, .inl (cI, 240, .inl (v 3))), (a 4, .inl (cI, 240, .inl (v 4))), (a 5, .inl (cI, 240, .inl (v 5))), (a 6, .inl (cZ, 8, .inl (v 6))), (a 7, .inl (cI, 8, .inl (upd (v 7) x (nI (go x - n))))), (a 8, .inl (cI, 8, .inl (v 8))), (a 9, .inl (cI, 8, .inl (v 9))), (a 11, .inl (cI, 8, .inl (v 11))), (a 12, .inl (cI, 10, .inl (v 12))), (a 13, .inl (cI, 5, .inl (v 13))), (a 14, .inl (cI, 5, .inl (v 14))), (a 16, .inl (cI, 128, .inl (v 16))), (a 17, .inl (cI, 128, .inl (v 17))), (a 18, .inl (cI, 128, .inl (v 18)))] := hD
                have hg2 : gk (upd (v 7) x (nI (go x - n))) (va_up go x (go x - n)) := gk_up hg (by omega)
                refine lv_aload_n hx hb dX5_move_77 rfl (lv_at hl 0 rfl) ?_
                refine va_get (D := D) (ci := 5) (v := .ref (a 7)) (C := RX5) (T := TX5) (N := 21) hx hb hts inX5 hown hK hP 0 rfl rfl 7 (by decide) fl29 (fun _ h9 => h9) rfl dX5_move_78 ?_
                refine lv_iload_n hx hb dX5_move_81 rfl (lv_at hl 2 rfl) ?_
                refine lv_dup2_11 hx hb dX5_move_82 rfl rfl ?_
                refine xi_ald hx hb hK hP 7 0 rfl rfl (k := y) (by omega) (by decide) dX5_move_83 ?_
                refine tp (y := nI (va_up go x (go x - n) y)) ((hg2 y (by omega)).1) ?_
                refine lv_iload_n hx hb dX5_move_84 rfl (lv_at hl 3 rfl) ?_
                refine lv_iadd hx hb dX5_move_85 ?_
                refine tp (y := nI (va_up go x (go x - n) y + n)) (nI_add _ _) ?_
                refine xi_ast hx hb hK hP hD hS 7 0 rfl rfl (k := y) (x := (nI (va_up go x (go x - n) y + n))) (by omega) (by decide) dX5_move_86 (fun H locs hP hD hS => ?_)
                have hP : va_P D vwCl [(a 0, .inr (5, [.int t, .ref (a 1), .ref (a 2), .ref (a 3), .ref (a 4), .ref (a 5), .ref (a 6), .ref (a 7), .ref (a 8), .ref (a 9), .int r, .ref (a 11), .ref (a 12), .ref (a 13), .ref (a 14), .int lv, .ref (a 16), .ref (a 17), .ref (a 18), .int b, .int o])), (a 1, .inl (cI, 6, .inl (v 1))), (a 2, .inl (cI, 240, .inl (v 2))), (a 3, .inl (cI, 240, .inl (v 3))), (a 4, .inl (cI, 240, .inl (v 4))), (a 5, .inl (cI, 240, .inl (v 5))), (a 6, .inl (cZ, 8, .inl (v 6))), (a 7, .inl (cI, 8, .inl (upd (upd (v 7) x (nI (go x - n))) y (nI (va_up go x (go x - n) y + n))))), (a 8, .inl (cI, 8, .inl (v 8))), (a 9, .inl (cI, 8, .inl (v 9))), (a 11, .inl (cI, 8, .inl (v 11))), (a 12, .inl (cI, 10, .inl (v 12))), (a 13, .inl (cI, 5, .inl (v 13))), (a 14, .inl (cI, 5, .inl (v 14))), (a 16, .inl (cI, 128, .inl (v 16))), (a 17, .inl (cI, 128, .inl (v 17))), (a 18, .inl (cI, 128, .inl (v 18)))] H := hP
                have hD : va_D A [(a 0, .inr (5, [.int t, .ref (a 1), .ref (a 2), .ref (a 3), .ref (a 4), .ref (a 5), .ref (a 6), .ref (a 7), .ref (a 8), .ref (a 9), .int r, .ref (a 11), .ref (a 12), .ref (a 13), .ref (a 14), .int lv, .ref (a 16), .ref (a 17), .ref (a 18), .int b, .int o])), (a 1, .inl (cI, 6, .inl (v 1))), (a 2, .inl (cI, 240, .inl (v 2))), (a 3, .inl (cI, 240, .inl (v 3))), (a 4, .inl (cI, 240, .inl (v 4))), (a 5, .inl (cI, 240, .inl (v 5))), (a 6, .inl (cZ, 8, .inl (v 6))), (a 7, .inl (cI, 8, .inl (upd (upd (v 7) x (nI (go x - n))) y (nI (va_up go x (go x - n) y + n))))), (a 8, .inl (cI, 8, .inl (v 8))), (a 9, .inl (cI, 8, .inl (v 9))), (a 11, .inl (cI, 8, .inl (v 11))), (a 12, .inl (cI, 10, .inl (v 12))), (a 13, .inl (cI, 5, .inl (v 13))), (a 14, .inl (cI, 5, .inl (v 14))), (a 16, .inl (cI, 128, .inl (v 16))), (a 17, .inl (cI, 128, .inl (v 17))), (a 18, .inl (cI, 128, .inl (v 18)))] := hD
                refine lv_iconst (v := 0) hx hb dX5_move_87 (by decide) ?_
                exact Ri (D := D) (upd (upd (v 7) x (nI (go x - n))) y (nI (va_up go x (go x - n) y + n))) hx hb hr rfl hlocks hP hD hS (by rw [A_move, if_neg (by omega), if_neg (A_mv t1 t2), if_neg (by omega), if_neg (by omega)]; exact ⟨rfl, gk_up hg2 (A_mvb h1x.2 (by omega) (by omega))⟩) dX5_move_88
              · have c_62 : ¬ ((go y + n) ≤ 1000) := fun h => c_62 ((nI_leI (a := (go y + n)) (b := 1000) (by omega) (by omega)).mpr h)
                refine lv_iconst (v := 5) hx hb dX5_move_65 (by decide) ?_
                exact Ri (D := D) (v 7) hx hb hr rfl hlocks hP hD hS (by rw [A_move, if_neg (by omega), if_neg (A_mv t1 t2), if_neg (by omega), if_pos (by omega)]; exact ⟨rfl, hg⟩) dX5_move_66
          · have c_41 : ¬ (n ≤ (go x)) := fun h => c_41 ((nI_leI (a := n) (b := (go x)) (by omega) (by omega)).mpr h)
            refine lv_iconst (v := 4) hx hb dX5_move_44 (by decide) ?_
            exact Ri (D := D) (v 7) hx hb hr rfl hlocks hP hD hS (by rw [A_move, if_neg (by omega), if_neg (A_mv t1 t2), if_pos (by omega)]; exact ⟨rfl, hg⟩) dX5_move_45
        · have t2 := zk_0 hz (by omega) c_29
          refine lv_iconst (v := 2) hx hb dX5_move_32 (by decide) ?_
          exact Ri (D := D) (v 7) hx hb hr rfl hlocks hP hD hS (by rw [A_move, if_neg (by omega), if_pos (Or.inr t2)]; exact ⟨rfl, hg⟩) dX5_move_33
    · have c_9 : ¬ (y ≤ 7) := fun h => c_9 ((nI_leI (a := y) (b := 7) (by omega) (by omega)).mpr h)
      refine lv_iconst (v := 1) hx hb dX5_move_12 (by decide) ?_
      exact Ri (D := D) (v 7) hx hb hr rfl hlocks hP hD hS (by rw [A_move, if_pos (by omega)]; exact ⟨rfl, hg⟩) dX5_move_13

set_option maxHeartbeats 4000000 in
set_option maxRecDepth 100000 in
theorem c_X5_call (l : Launch) (D : va_G) (cI cZ : ClassId) (a : Nat → Nat) (v : Nat → Nat → Int32) (t r b o : Int32) (L : Nat) (hL : L ≤ 4) (pn : Nat → Nat) (cd : Nat → Nat → Nat) (hp : rpl v pn cd) (x : Nat) (hx16 : x < 16) : Ci l D [(cI, .int), (cZ, .boolean)] yX5_call wsX5_call ({ frames := 2, cells := 0, slots := 0, locals := 42 }) [.ref (a 0), .int (nI x)] (wM a cI cZ v t r (nI L) b o) (S := (Nat → Nat → Int32) × Int32) (fun w u => ((x < 6 ∧ L < 4 ∧ clo (pn x) (cd x)) ∧ w = 0 ∧ u = ((va_up (va_up (va_up v 13 (upd (v 13) (L + 1) (nI x))) 14 (upd (v 14) (L + 1) 0)) 11 (upd (v 11) 7 (v 11 7 + 1))), nI (L + 1))) ∨ (¬ (x < 6 ∧ L < 4 ∧ clo (pn x) (cd x)) ∧ w = 6 ∧ u = (v, nI L))) (fun u => wM a cI cZ u.1 t r u.2 b o) := by
  refine Ci.mk (cc := cX5_call) (maxL := 2) (ret := (some .int)) (by decide +kernel) rfl (Nat.le_of_ble_eq_true rfl) ?_
  intro pg e s m below meth c A ls hx hb hml hr hown hts hlocks hK hns hA hP hD hS hl
  have hl : lv_has ls 2 [(0, .ref (a 0)), (1, .int (nI x))] := hl
  have fl84 := hts (.fieldLink RX5 84 "HeldShelvesModel" "level" "I") (List.mem_of_getElem? (i := 1) rfl)
  have inX5 : ∀ w ∈ wsX50, w ∈ wsX5_call := fun _ h => List.mem_cons_of_mem _ (List.mem_append_right _ h)
  have fl44 := hts (.fieldLink RX5 44 "HeldShelvesModel" "planAt" "[I") (List.mem_of_getElem? (i := 2) rfl)
  have fl47 := hts (.fieldLink RX5 47 "HeldShelvesModel" "actAt" "[I") (List.mem_of_getElem? (i := 3) rfl)
  have fl38 := hts (.fieldLink RX5 38 "HeldShelvesModel" "told" "[I") (List.mem_of_getElem? (i := 4) rfl)
  have hP : va_P D vwCl [(a 0, .inr (5, [.int t, .ref (a 1), .ref (a 2), .ref (a 3), .ref (a 4), .ref (a 5), .ref (a 6), .ref (a 7), .ref (a 8), .ref (a 9), .int r, .ref (a 11), .ref (a 12), .ref (a 13), .ref (a 14), .int (nI L), .ref (a 16), .ref (a 17), .ref (a 18), .int b, .int o])), (a 1, .inl (cI, 6, .inl (v 1))), (a 2, .inl (cI, 240, .inl (v 2))), (a 3, .inl (cI, 240, .inl (v 3))), (a 4, .inl (cI, 240, .inl (v 4))), (a 5, .inl (cI, 240, .inl (v 5))), (a 6, .inl (cZ, 8, .inl (v 6))), (a 7, .inl (cI, 8, .inl (v 7))), (a 8, .inl (cI, 8, .inl (v 8))), (a 9, .inl (cI, 8, .inl (v 9))), (a 11, .inl (cI, 8, .inl (v 11))), (a 12, .inl (cI, 10, .inl (v 12))), (a 13, .inl (cI, 5, .inl (v 13))), (a 14, .inl (cI, 5, .inl (v 14))), (a 16, .inl (cI, 128, .inl (v 16))), (a 17, .inl (cI, 128, .inl (v 17))), (a 18, .inl (cI, 128, .inl (v 18)))] s.heap := hP
  have hD : va_D A [(a 0, .inr (5, [.int t, .ref (a 1), .ref (a 2), .ref (a 3), .ref (a 4), .ref (a 5), .ref (a 6), .ref (a 7), .ref (a 8), .ref (a 9), .int r, .ref (a 11), .ref (a 12), .ref (a 13), .ref (a 14), .int (nI L), .ref (a 16), .ref (a 17), .ref (a 18), .int b, .int o])), (a 1, .inl (cI, 6, .inl (v 1))), (a 2, .inl (cI, 240, .inl (v 2))), (a 3, .inl (cI, 240, .inl (v 3))), (a 4, .inl (cI, 240, .inl (v 4))), (a 5, .inl (cI, 240, .inl (v 5))), (a 6, .inl (cZ, 8, .inl (v 6))), (a 7, .inl (cI, 8, .inl (v 7))), (a 8, .inl (cI, 8, .inl (v 8))), (a 9, .inl (cI, 8, .inl (v 9))), (a 11, .inl (cI, 8, .inl (v 11))), (a 12, .inl (cI, 10, .inl (v 12))), (a 13, .inl (cI, 5, .inl (v 13))), (a 14, .inl (cI, 5, .inl (v 14))), (a 16, .inl (cI, 128, .inl (v 16))), (a 17, .inl (cI, 128, .inl (v 17))), (a 18, .inl (cI, 128, .inl (v 18)))] := hD
  refine lv_iload_n hx hb dX5_call_0 rfl (lv_at hl 1 rfl) ?_
  refine cl_Si (As := [.int (nI x)]) (rest := []) (c_X5_isPlan l D (nI x)) ⟨hx, hb, hml, hown, hts⟩ (cwS 1 hts gX5_call_X5_isPlan rfl rfl rfl (by decide +kernel) ⟨Nat.le_of_ble_eq_true rfl, Nat.le_of_ble_eq_true rfl⟩) hK hns hP hD hS hA rfl hl.1 rfl (Nat.le_of_ble_eq_true rfl) dX5_call_1 ⟨Nat.zero_le _, Nat.zero_le _⟩ (fun r1 u1 H locs hw1 hP hD hS => ?_)
  rcases hw1 with ⟨rfl, hp1⟩ | ⟨rfl, hp1⟩
  · have hp1 : x < 6 := (inN_nI (by omega) (by omega)).mp hp1
    refine lv_if_eq (tgt := 23) hx hb dX5_call_4 (by decide) (fun c9 => absurd c9 (by decide)) (fun _ => ?_)
    refine lv_aload_n hx hb dX5_call_7 rfl (lv_at hl 0 rfl) ?_
    refine lv_iload_n hx hb dX5_call_8 rfl (lv_at hl 1 rfl) ?_
    refine cl_Vi ([]) ([]) (As := [.int (nI x)]) (rest := []) (c_X5_isClosed l D cI cZ a v t r (nI L) b o pn cd hp x hp1) ⟨hx, hb, hml, hown, hts⟩ (cwV 1 hts gX5_call_X5_isClosed rfl rfl rfl (by decide +kernel) ⟨Nat.le_of_ble_eq_true rfl, Nat.le_of_ble_eq_true rfl⟩) hK hns hP hD hS hA rfl (T := TX5) (N := 21) rfl rfl hl.1 rfl (Nat.le_of_ble_eq_true rfl) dX5_call_9 ⟨Nat.zero_le _, Nat.zero_le _⟩ (fun r9 u9 H locs hw9 hP hD hS => ?_)
    have hP : va_P D vwCl [(a 0, .inr (5, [.int t, .ref (a 1), .ref (a 2), .ref (a 3), .ref (a 4), .ref (a 5), .ref (a 6), .ref (a 7), .ref (a 8), .ref (a 9), .int r, .ref (a 11), .ref (a 12), .ref (a 13), .ref (a 14), .int (nI L), .ref (a 16), .ref (a 17), .ref (a 18), .int b, .int o])), (a 1, .inl (cI, 6, .inl (v 1))), (a 2, .inl (cI, 240, .inl (v 2))), (a 3, .inl (cI, 240, .inl (v 3))), (a 4, .inl (cI, 240, .inl (v 4))), (a 5, .inl (cI, 240, .inl (v 5))), (a 6, .inl (cZ, 8, .inl (v 6))), (a 7, .inl (cI, 8, .inl (v 7))), (a 8, .inl (cI, 8, .inl (v 8))), (a 9, .inl (cI, 8, .inl (v 9))), (a 11, .inl (cI, 8, .inl (v 11))), (a 12, .inl (cI, 10, .inl (v 12))), (a 13, .inl (cI, 5, .inl (v 13))), (a 14, .inl (cI, 5, .inl (v 14))), (a 16, .inl (cI, 128, .inl (v 16))), (a 17, .inl (cI, 128, .inl (v 17))), (a 18, .inl (cI, 128, .inl (v 18)))] H := hP
    have hD : va_D A [(a 0, .inr (5, [.int t, .ref (a 1), .ref (a 2), .ref (a 3), .ref (a 4), .ref (a 5), .ref (a 6), .ref (a 7), .ref (a 8), .ref (a 9), .int r, .ref (a 11), .ref (a 12), .ref (a 13), .ref (a 14), .int (nI L), .ref (a 16), .ref (a 17), .ref (a 18), .int b, .int o])), (a 1, .inl (cI, 6, .inl (v 1))), (a 2, .inl (cI, 240, .inl (v 2))), (a 3, .inl (cI, 240, .inl (v 3))), (a 4, .inl (cI, 240, .inl (v 4))), (a 5, .inl (cI, 240, .inl (v 5))), (a 6, .inl (cZ, 8, .inl (v 6))), (a 7, .inl (cI, 8, .inl (v 7))), (a 8, .inl (cI, 8, .inl (v 8))), (a 9, .inl (cI, 8, .inl (v 9))), (a 11, .inl (cI, 8, .inl (v 11))), (a 12, .inl (cI, 10, .inl (v 12))), (a 13, .inl (cI, 5, .inl (v 13))), (a 14, .inl (cI, 5, .inl (v 14))), (a 16, .inl (cI, 128, .inl (v 16))), (a 17, .inl (cI, 128, .inl (v 17))), (a 18, .inl (cI, 128, .inl (v 18)))] := hD
    rcases hw9 with ⟨rfl, hc9⟩ | ⟨rfl, hc9⟩
    · refine lv_if_eq (tgt := 23) hx hb dX5_call_12 (by decide) (fun c9 => absurd c9 (by decide)) (fun _ => ?_)
      refine lv_aload_n hx hb dX5_call_15 rfl (lv_at hl 0 rfl) ?_
      refine va_get (D := D) (ci := 5) (v := .int (nI L)) (C := RX5) (T := TX5) (N := 21) hx hb hts inX5 hown hK hP 0 rfl rfl 15 (by decide) fl84 (fun _ h9 => h9) rfl dX5_call_16 ?_
      refine lv_iconst (v := 4) hx hb dX5_call_19 (by decide) ?_
      refine lv_icmp_ne (tgt := 26) hx hb dX5_call_20 (by decide) (fun c_20 => ?_) (fun c_20 => ?_)
      · have c_20 : ¬ (L = 4) := fun h => c_20 ((nI_eq (a := L) (b := 4) (by omega) (by omega)).mpr h)
        refine lv_aload_n hx hb dX5_call_26 rfl (lv_at hl 0 rfl) ?_
        refine lv_dup hx hb dX5_call_27 rfl ?_
        refine va_get (D := D) (ci := 5) (v := .int (nI L)) (C := RX5) (T := TX5) (N := 21) hx hb hts inX5 hown hK hP 0 rfl rfl 15 (by decide) fl84 (fun _ h9 => h9) rfl dX5_call_28 ?_
        refine lv_iconst (v := 1) hx hb dX5_call_31 (by decide) ?_
        refine lv_iadd hx hb dX5_call_32 ?_
        refine tp (y := nI (L + 1)) (nI_1 L) ?_
        refine va_put (D := D) (ci := 5) (v := .int (nI (L + 1))) (ty := .int) (C := RX5) (T := TX5) (N := 21) hx hb hts inX5 tyX5 tyX5_ok nmX5 hown hK hP hD hS 0 rfl rfl 15 (by decide) fl84 (fun _ h9 => h9) rfl (by decide +kernel) rfl rfl (Nat.le_of_ble_eq_true rfl) dX5_call_33 (fun H locs hP hD hS => ?_)
        have hP : va_P D vwCl [(a 0, .inr (5, [.int t, .ref (a 1), .ref (a 2), .ref (a 3), .ref (a 4), .ref (a 5), .ref (a 6), .ref (a 7), .ref (a 8), .ref (a 9), .int r, .ref (a 11), .ref (a 12), .ref (a 13), .ref (a 14), .int (nI (L + 1)), .ref (a 16), .ref (a 17), .ref (a 18), .int b, .int o])), (a 1, .inl (cI, 6, .inl (v 1))), (a 2, .inl (cI, 240, .inl (v 2))), (a 3, .inl (cI, 240, .inl (v 3))), (a 4, .inl (cI, 240, .inl (v 4))), (a 5, .inl (cI, 240, .inl (v 5))), (a 6, .inl (cZ, 8, .inl (v 6))), (a 7, .inl (cI, 8, .inl (v 7))), (a 8, .inl (cI, 8, .inl (v 8))), (a 9, .inl (cI, 8, .inl (v 9))), (a 11, .inl (cI, 8, .inl (v 11))), (a 12, .inl (cI, 10, .inl (v 12))), (a 13, .inl (cI, 5, .inl (v 13))), (a 14, .inl (cI, 5, .inl (v 14))), (a 16, .inl (cI, 128, .inl (v 16))), (a 17, .inl (cI, 128, .inl (v 17))), (a 18, .inl (cI, 128, .inl (v 18)))] H := hP
        have hD : va_D A [(a 0, .inr (5, [.int t, .ref (a 1), .ref (a 2), .ref (a 3), .ref (a 4), .ref (a 5), .ref (a 6), .ref (a 7), .ref (a 8), .ref (a 9), .int r, .ref (a 11), .ref (a 12), .ref (a 13), .ref (a 14), .int (nI (L + 1)), .ref (a 16), .ref (a 17), .ref (a 18), .int b, .int o])), (a 1, .inl (cI, 6, .inl (v 1))), (a 2, .inl (cI, 240, .inl (v 2))), (a 3, .inl (cI, 240, .inl (v 3))), (a 4, .inl (cI, 240, .inl (v 4))), (a 5, .inl (cI, 240, .inl (v 5))), (a 6, .inl (cZ, 8, .inl (v 6))), (a 7, .inl (cI, 8, .inl (v 7))), (a 8, .inl (cI, 8, .inl (v 8))), (a 9, .inl (cI, 8, .inl (v 9))), (a 11, .inl (cI, 8, .inl (v 11))), (a 12, .inl (cI, 10, .inl (v 12))), (a 13, .inl (cI, 5, .inl (v 13))), (a 14, .inl (cI, 5, .inl (v 14))), (a 16, .inl (cI, 128, .inl (v 16))), (a 17, .inl (cI, 128, .inl (v 17))), (a 18, .inl (cI, 128, .inl (v 18)))] := hD
        refine lv_aload_n hx hb dX5_call_36 rfl (lv_at hl 0 rfl) ?_
        refine va_get (D := D) (ci := 5) (v := .ref (a 13)) (C := RX5) (T := TX5) (N := 21) hx hb hts inX5 hown hK hP 0 rfl rfl 13 (by decide) fl44 (fun _ h9 => h9) rfl dX5_call_37 ?_
        refine lv_aload_n hx hb dX5_call_40 rfl (lv_at hl 0 rfl) ?_
        refine va_get (D := D) (ci := 5) (v := .int (nI (L + 1))) (C := RX5) (T := TX5) (N := 21) hx hb hts inX5 hown hK hP 0 rfl rfl 15 (by decide) fl84 (fun _ h9 => h9) rfl dX5_call_41 ?_
        refine lv_iload_n hx hb dX5_call_44 rfl (lv_at hl 1 rfl) ?_
        refine xi_ast hx hb hK hP hD hS 12 0 rfl rfl (k := (L + 1)) (x := (nI x)) (by omega) (by decide) dX5_call_45 (fun H locs hP hD hS => ?_)
        have hP : va_P D vwCl [(a 0, .inr (5, [.int t, .ref (a 1), .ref (a 2), .ref (a 3), .ref (a 4), .ref (a 5), .ref (a 6), .ref (a 7), .ref (a 8), .ref (a 9), .int r, .ref (a 11), .ref (a 12), .ref (a 13), .ref (a 14), .int (nI (L + 1)), .ref (a 16), .ref (a 17), .ref (a 18), .int b, .int o])), (a 1, .inl (cI, 6, .inl (v 1))), (a 2, .inl (cI, 240, .inl (v 2))), (a 3, .inl (cI, 240, .inl (v 3))), (a 4, .inl (cI, 240, .inl (v 4))), (a 5, .inl (cI, 240, .inl (v 5))), (a 6, .inl (cZ, 8, .inl (v 6))), (a 7, .inl (cI, 8, .inl (v 7))), (a 8, .inl (cI, 8, .inl (v 8))), (a 9, .inl (cI, 8, .inl (v 9))), (a 11, .inl (cI, 8, .inl (v 11))), (a 12, .inl (cI, 10, .inl (v 12))), (a 13, .inl (cI, 5, .inl (upd (v 13) (L + 1) (nI x)))), (a 14, .inl (cI, 5, .inl (v 14))), (a 16, .inl (cI, 128, .inl (v 16))), (a 17, .inl (cI, 128, .inl (v 17))), (a 18, .inl (cI, 128, .inl (v 18)))] H := hP
        have hD : va_D A [(a 0, .inr (5, [.int t, .ref (a 1), .ref (a 2), .ref (a 3), .ref (a 4), .ref (a 5), .ref (a 6), .ref (a 7), .ref (a 8), .ref (a 9), .int r, .ref (a 11), .ref (a 12), .ref (a 13), .ref (a 14), .int (nI (L + 1)), .ref (a 16), .ref (a 17), .ref (a 18), .int b, .int o])), (a 1, .inl (cI, 6, .inl (v 1))), (a 2, .inl (cI, 240, .inl (v 2))), (a 3, .inl (cI, 240, .inl (v 3))), (a 4, .inl (cI, 240, .inl (v 4))), (a 5, .inl (cI, 240, .inl (v 5))), (a 6, .inl (cZ, 8, .inl (v 6))), (a 7, .inl (cI, 8, .inl (v 7))), (a 8, .inl (cI, 8, .inl (v 8))), (a 9, .inl (cI, 8, .inl (v 9))), (a 11, .inl (cI, 8, .inl (v 11))), (a 12, .inl (cI, 10, .inl (v 12))), (a 13, .inl (cI, 5, .inl (upd (v 13) (L + 1) (nI x)))), (a 14, .inl (cI, 5, .inl (v 14))), (a 16, .inl (cI, 128, .inl (v 16))), (a 17, .inl (cI, 128, .inl (v 17))), (a 18, .inl (cI, 128, .inl (v 18)))] := hD
        refine lv_aload_n hx hb dX5_call_46 rfl (lv_at hl 0 rfl) ?_
        refine va_get (D := D) (ci := 5) (v := .ref (a 14)) (C := RX5) (T := TX5) (N := 21) hx hb hts inX5 hown hK hP 0 rfl rfl 14 (by decide) fl47 (fun _ h9 => h9) rfl dX5_call_47 ?_
        refine lv_aload_n hx hb dX5_call_50 rfl (lv_at hl 0 rfl) ?_
        refine va_get (D := D) (ci := 5) (v := .int (nI (L + 1))) (C := RX5) (T := TX5) (N := 21) hx hb hts inX5 hown hK hP 0 rfl rfl 15 (by decide) fl84 (fun _ h9 => h9) rfl dX5_call_51 ?_
        refine lv_iconst (v := 0) hx hb dX5_call_54 (by decide) ?_
        refine xi_ast hx hb hK hP hD hS 13 0 rfl rfl (k := (L + 1)) (x := 0) (by omega) (by decide) dX5_call_55 (fun H locs hP hD hS => ?_)
        have hP : va_P D vwCl [(a 0, .inr (5, [.int t, .ref (a 1), .ref (a 2), .ref (a 3), .ref (a 4), .ref (a 5), .ref (a 6), .ref (a 7), .ref (a 8), .ref (a 9), .int r, .ref (a 11), .ref (a 12), .ref (a 13), .ref (a 14), .int (nI (L + 1)), .ref (a 16), .ref (a 17), .ref (a 18), .int b, .int o])), (a 1, .inl (cI, 6, .inl (v 1))), (a 2, .inl (cI, 240, .inl (v 2))), (a 3, .inl (cI, 240, .inl (v 3))), (a 4, .inl (cI, 240, .inl (v 4))), (a 5, .inl (cI, 240, .inl (v 5))), (a 6, .inl (cZ, 8, .inl (v 6))), (a 7, .inl (cI, 8, .inl (v 7))), (a 8, .inl (cI, 8, .inl (v 8))), (a 9, .inl (cI, 8, .inl (v 9))), (a 11, .inl (cI, 8, .inl (v 11))), (a 12, .inl (cI, 10, .inl (v 12))), (a 13, .inl (cI, 5, .inl (upd (v 13) (L + 1) (nI x)))), (a 14, .inl (cI, 5, .inl (upd (v 14) (L + 1) 0))), (a 16, .inl (cI, 128, .inl (v 16))), (a 17, .inl (cI, 128, .inl (v 17))), (a 18, .inl (cI, 128, .inl (v 18)))] H := hP
        have hD : va_D A [(a 0, .inr (5, [.int t, .ref (a 1), .ref (a 2), .ref (a 3), .ref (a 4), .ref (a 5), .ref (a 6), .ref (a 7), .ref (a 8), .ref (a 9), .int r, .ref (a 11), .ref (a 12), .ref (a 13), .ref (a 14), .int (nI (L + 1)), .ref (a 16), .ref (a 17), .ref (a 18), .int b, .int o])), (a 1, .inl (cI, 6, .inl (v 1))), (a 2, .inl (cI, 240, .inl (v 2))), (a 3, .inl (cI, 240, .inl (v 3))), (a 4, .inl (cI, 240, .inl (v 4))), (a 5, .inl (cI, 240, .inl (v 5))), (a 6, .inl (cZ, 8, .inl (v 6))), (a 7, .inl (cI, 8, .inl (v 7))), (a 8, .inl (cI, 8, .inl (v 8))), (a 9, .inl (cI, 8, .inl (v 9))), (a 11, .inl (cI, 8, .inl (v 11))), (a 12, .inl (cI, 10, .inl (v 12))), (a 13, .inl (cI, 5, .inl (upd (v 13) (L + 1) (nI x)))), (a 14, .inl (cI, 5, .inl (upd (v 14) (L + 1) 0))), (a 16, .inl (cI, 128, .inl (v 16))), (a 17, .inl (cI, 128, .inl (v 17))), (a 18, .inl (cI, 128, .inl (v 18)))] := hD
        refine lv_aload_n hx hb dX5_call_56 rfl (lv_at hl 0 rfl) ?_
        refine va_get (D := D) (ci := 5) (v := .ref (a 11)) (C := RX5) (T := TX5) (N := 21) hx hb hts inX5 hown hK hP 0 rfl rfl 11 (by decide) fl38 (fun _ h9 => h9) rfl dX5_call_57 ?_
        refine lv_bipush (v := 7) hx hb dX5_call_60 (by decide) ?_
        refine lv_dup2_11 hx hb dX5_call_62 rfl rfl ?_
        refine xi_ald hx hb hK hP 10 0 rfl rfl (k := 7) (by omega) (by decide) dX5_call_63 ?_
        refine lv_iconst (v := 1) hx hb dX5_call_64 (by decide) ?_
        refine lv_iadd hx hb dX5_call_65 ?_
        refine xi_ast hx hb hK hP hD hS 10 0 rfl rfl (k := 7) (x := (((v 11) 7) + 1)) (by omega) (by decide) dX5_call_66 (fun H locs hP hD hS => ?_)
        have hP : va_P D vwCl [(a 0, .inr (5, [.int t, .ref (a 1), .ref (a 2), .ref (a 3), .ref (a 4), .ref (a 5), .ref (a 6), .ref (a 7), .ref (a 8), .ref (a 9), .int r, .ref (a 11), .ref (a 12), .ref (a 13), .ref (a 14), .int (nI (L + 1)), .ref (a 16), .ref (a 17), .ref (a 18), .int b, .int o])), (a 1, .inl (cI, 6, .inl (v 1))), (a 2, .inl (cI, 240, .inl (v 2))), (a 3, .inl (cI, 240, .inl (v 3))), (a 4, .inl (cI, 240, .inl (v 4))), (a 5, .inl (cI, 240, .inl (v 5))), (a 6, .inl (cZ, 8, .inl (v 6))), (a 7, .inl (cI, 8, .inl (v 7))), (a 8, .inl (cI, 8, .inl (v 8))), (a 9, .inl (cI, 8, .inl (v 9))), (a 11, .inl (cI, 8, .inl (upd (v 11) 7 (((v 11) 7) + 1)))), (a 12, .inl (cI, 10, .inl (v 12))), (a 13, .inl (cI, 5, .inl (upd (v 13) (L + 1) (nI x)))), (a 14, .inl (cI, 5, .inl (upd (v 14) (L + 1) 0))), (a 16, .inl (cI, 128, .inl (v 16))), (a 17, .inl (cI, 128, .inl (v 17))), (a 18, .inl (cI, 128, .inl (v 18)))] H := hP
        have hD : va_D A [(a 0, .inr (5, [.int t, .ref (a 1), .ref (a 2), .ref (a 3), .ref (a 4), .ref (a 5), .ref (a 6), .ref (a 7), .ref (a 8), .ref (a 9), .int r, .ref (a 11), .ref (a 12), .ref (a 13), .ref (a 14), .int (nI (L + 1)), .ref (a 16), .ref (a 17), .ref (a 18), .int b, .int o])), (a 1, .inl (cI, 6, .inl (v 1))), (a 2, .inl (cI, 240, .inl (v 2))), (a 3, .inl (cI, 240, .inl (v 3))), (a 4, .inl (cI, 240, .inl (v 4))), (a 5, .inl (cI, 240, .inl (v 5))), (a 6, .inl (cZ, 8, .inl (v 6))), (a 7, .inl (cI, 8, .inl (v 7))), (a 8, .inl (cI, 8, .inl (v 8))), (a 9, .inl (cI, 8, .inl (v 9))), (a 11, .inl (cI, 8, .inl (upd (v 11) 7 (((v 11) 7) + 1)))), (a 12, .inl (cI, 10, .inl (v 12))), (a 13, .inl (cI, 5, .inl (upd (v 13) (L + 1) (nI x)))), (a 14, .inl (cI, 5, .inl (upd (v 14) (L + 1) 0))), (a 16, .inl (cI, 128, .inl (v 16))), (a 17, .inl (cI, 128, .inl (v 17))), (a 18, .inl (cI, 128, .inl (v 18)))] := hD
        refine lv_iconst (v := 0) hx hb dX5_call_67 (by decide) ?_
        exact Ri (D := D) ((va_up (va_up (va_up v 13 (upd (v 13) (L + 1) (nI x))) 14 (upd (v 14) (L + 1) 0)) 11 (upd (v 11) 7 (v 11 7 + 1))), nI (L + 1)) hx hb hr rfl hlocks hP hD hS (Or.inl ⟨⟨hp1, by omega, hc9⟩, rfl, rfl⟩) dX5_call_68
      · have c_20 : L = 4 := (nI_eq (a := L) (b := 4) (by omega) (by omega)).mp c_20
        refine lv_bipush (v := 6) hx hb dX5_call_23 (by decide) ?_
        exact Ri (D := D) (v, nI L) hx hb hr rfl hlocks hP hD hS (Or.inr ⟨fun h => by first | exact hp1 h.1 | exact hc9 h.2.2 | omega, rfl, rfl⟩) dX5_call_25
    · refine lv_if_eq (tgt := 23) hx hb dX5_call_12 (by decide) (fun _ => ?_) (fun c9 => absurd (by decide) c9)
      refine lv_bipush (v := 6) hx hb dX5_call_23 (by decide) ?_
      exact Ri (D := D) (v, nI L) hx hb hr rfl hlocks hP hD hS (Or.inr ⟨fun h => by first | exact hp1 h.1 | exact hc9 h.2.2 | omega, rfl, rfl⟩) dX5_call_25
  · have hp1 : ¬ x < 6 := fun h => hp1 ((inN_nI (by omega) (by omega)).mpr h)
    refine lv_if_eq (tgt := 23) hx hb dX5_call_4 (by decide) (fun _ => ?_) (fun c9 => absurd (by decide) c9)
    refine lv_bipush (v := 6) hx hb dX5_call_23 (by decide) ?_
    exact Ri (D := D) (v, nI L) hx hb hr rfl hlocks hP hD hS (Or.inr ⟨fun h => by first | exact hp1 h.1 | exact hc9 h.2.2 | omega, rfl, rfl⟩) dX5_call_25
end
section
/-! how the reference holds the machine -/
def Rst (v : Nat → Nat → Int32) : KL → Prop
  | [] => True
  | e :: K => (e.1 = 8 → v 13 (lvl K) = nI e.2.1 ∧ v 14 (lvl K) = nI e.2.2) ∧ (e.1 = 0 → v 16 (bl K) = nI e.2.1) ∧ (e.1 = 1 → v 16 (bl K) = nI (10 + e.2.1) ∧ v 17 (bl K) = nI e.2.2 ∧ v 18 (bl K) = nI (lvl K)) ∧ Rst v K
theorem Rst_frame {v w : Nat → Nat → Int32} : ∀ {K : KL}, (∀ j, j < bl K → w 16 j = v 16 j ∧ w 17 j = v 17 j ∧ w 18 j = v 18 j) → (∀ j, j < lvl K → w 13 j = v 13 j ∧ w 14 j = v 14 j) → Rst v K → Rst w K
  | [], _, _, _ => trivial
  | e :: K, h1, h2, h => by
    obtain ⟨q1, q2, q3, q4⟩ := h
    have hb : bl K ≤ bl (e :: K) := by simp only [bl]; omega
    have hl : lvl K ≤ lvl (e :: K) := by simp only [lvl]; omega
    refine ⟨fun he => ?_, fun he => ?_, fun he => ?_, Rst_frame (fun j hj => h1 j (by omega)) (fun j hj => h2 j (by omega)) q4⟩
    · have h3 : lvl K < lvl (e :: K) := by simp only [lvl]; rw [if_pos he]; omega
      obtain ⟨a1, a2⟩ := h2 _ h3
      rw [a1, a2]; exact q1 he
    · have h3 : bl K < bl (e :: K) := by simp only [bl]; rw [if_neg (by omega)]; omega
      rw [(h1 _ h3).1]; exact q2 he
    · have h3 : bl K < bl (e :: K) := by simp only [bl]; rw [if_neg (by omega)]; omega
      obtain ⟨a1, a2, a3⟩ := h1 _ h3
      rw [a1, a2, a3]; exact q3 he
theorem upd_le {f g : Nat → Int32} {n j : Nat} {x y : Int32} (h : ∀ k, k < n → f k = g k) (e : x = y) : ∀ k, k < n → upd f j x k = upd g j y k := by
  intro k hk
  by_cases q : k = j
  · simp only [upd, q, if_true]; exact e
  · simp only [upd, q, if_false]; exact h k hk
theorem upd_out {f : Nat → Int32} {j k : Nat} {x : Int32} (h : k < j) : upd f j x k = f k := by
  simp only [upd]; rw [if_neg (by omega)]
theorem hok_push {h : Nat → Int32} {K : KL} {x y : Nat} (hh : hok h (cnt K)) (hK : K.length < 1000) : hok (upd h x (h x + 1)) (cnt ((0, x, y) :: K)) := by
  intro s hs
  have h1 := cnt_le K s
  by_cases e : s = x
  · subst e
    simp only [upd, cnt, if_true, and_self]
    rw [(hh s hs).1]
    exact ⟨nI_1 _, by omega⟩
  · simp only [upd, cnt, e, if_false]
    rw [if_neg (fun q => e q.2.symm)]
    exact ⟨(hh s hs).1, by omega⟩
theorem hok_pop {h : Nat → Int32} {K : KL} {x y : Nat} (hh : hok h (cnt ((0, x, y) :: K))) (hK : K.length < 1000) : hok (upd h x (h x - 1)) (cnt K) := by
  intro s hs
  have h1 := cnt_le K s
  have h2 := hh s hs
  by_cases e : s = x
  · subst e
    simp only [upd, cnt, if_true, and_self] at h2 ⊢
    rw [h2.1]
    exact ⟨nI_pred _, by omega⟩
  · simp only [upd, cnt, e, if_false] at h2 ⊢
    rw [if_neg (fun q => e q.2.symm)] at h2
    exact h2
theorem hok_same {h : Nat → Int32} {K : KL} {e : Nat × Nat × Nat} (he : e.1 ≠ 0) : hok h (cnt (e :: K)) ↔ hok h (cnt K) := by
  have : cnt (e :: K) = cnt K := by
    funext s; simp only [cnt]; rw [if_neg (fun q => he q.1)]; rfl
  rw [this]
def Rp (G : GP) (go : Nat → Nat) (lf : Nat → Int32) (rs : Int32) (td ct : Nat → Int32) (hd : Nat → Nat) (v : Nat → Nat → Int32) (r : Int32) : Prop :=
  rpl v G.1 G.2.1 ∧ zk (v 6) G.2.2 ∧ gk (v 7) go ∧ (∀ s, s < 8 → v 8 s = lf s) ∧ hok (v 9) hd ∧ (∀ k, k < 8 → v 11 k = td k) ∧ (∀ k, k < 10 → v 12 k = ct k) ∧ r = rs
def Rq (G : GP) : CF → (Nat → Nat → Int32) → Int32 → Prop
  | (go, lf, rs, td, ct, st, p, nx, K), v, r => Rp G go lf rs td ct (cnt K) v r ∧ Rst v K ∧ v 13 (lvl K) = nI p ∧ v 14 (lvl K) = nI nx
abbrev RS : Type := (Nat → Nat → Int32) × Int32 × Int32 × Int32 × Int32
def Rr (G : GP) (X : CF) (u : RS) : Prop := Rq G X u.1 u.2.1 ∧ u.2.2.1 = nI (lvl X.2.2.2.2.2.2.2.2) ∧ u.2.2.2.1 = nI (bl X.2.2.2.2.2.2.2.2) ∧ u.2.2.2.2 = nI (hn X.2.2.2.2.2.2.2.2)
section DOES
variable {G : GP} {go : Nat → Nat} {lf : Nat → Int32} {rs : Int32} {td ct : Nat → Int32} {st p nx act : Nat} {K : KL}
theorem a_does_0 (h : G.2.1 p act / 1000 = 0) : a_does G (go, lf, rs, td, ct, st, p, nx, K) act = a_hold G (go, lf, rs, td, ct, st, p, nx, K) (G.2.1 p act / 100 % 10) := by simp only [a_does, h]
theorem a_does_1 (h : G.2.1 p act / 1000 = 1) : a_does G (go, lf, rs, td, ct, st, p, nx, K) act = (0, (go, lf, rs, td, ct, st, p, nx, (1, G.2.1 p act / 100 % 10, act) :: K)) := by simp only [a_does, h]
theorem a_does_2 (h : G.2.1 p act / 1000 = 2) : a_does G (go, lf, rs, td, ct, st, p, nx, K) act = (0, (go, lf, rs, td, ct, st, p, nx, K.tail)) := by simp only [a_does, h]
theorem a_does_3 (h : G.2.1 p act / 1000 = 3) : a_does G (go, lf, rs, td, ct, st, p, nx, K) act = ((A_put G.2.2 go (cnt K) (G.2.1 p act / 100 % 10) (G.2.1 p act / 10 % 10)).1, ((A_put G.2.2 go (cnt K) (G.2.1 p act / 100 % 10) (G.2.1 p act / 10 % 10)).2, lf, rs, td, ct, st, p, nx, K)) := by simp only [a_does, h]
theorem a_does_4 (h : G.2.1 p act / 1000 = 4) : a_does G (go, lf, rs, td, ct, st, p, nx, K) act = ((A_take G.2.2 go (cnt K) (G.2.1 p act / 100 % 10) (G.2.1 p act / 10 % 10)).1, ((A_take G.2.2 go (cnt K) (G.2.1 p act / 100 % 10) (G.2.1 p act / 10 % 10)).2, lf, rs, td, ct, st, p, nx, K)) := by simp only [a_does, h]
theorem a_does_5 (h : G.2.1 p act / 1000 = 5) : a_does G (go, lf, rs, td, ct, st, p, nx, K) act = ((A_share G.2.2 go (cnt K) rs (G.2.1 p act / 100 % 10) (G.2.1 p act / 10 % 10)).1, ((A_share G.2.2 go (cnt K) rs (G.2.1 p act / 100 % 10) (G.2.1 p act / 10 % 10)).2.1, lf, (A_share G.2.2 go (cnt K) rs (G.2.1 p act / 100 % 10) (G.2.1 p act / 10 % 10)).2.2, td, ct, st, p, nx, K)) := by simp only [a_does, h]
theorem a_does_6 (h : G.2.1 p act / 1000 = 6) : a_does G (go, lf, rs, td, ct, st, p, nx, K) act = ((A_move G.2.2 go (G.2.1 p act / 100 % 10) (G.2.1 p act / 10 % 10) (G.2.1 p act % 10)).1, ((A_move G.2.2 go (G.2.1 p act / 100 % 10) (G.2.1 p act / 10 % 10) (G.2.1 p act % 10)).2, lf, rs, td, ct, st, p, nx, K)) := by simp only [a_does, h]
theorem a_does_7 (h : G.2.1 p act / 1000 = 7) : a_does G (go, lf, rs, td, ct, st, p, nx, K) act = (G.2.1 p act / 100 % 10, (go, lf, rs, td, ct, st, p, nx, K)) := by simp only [a_does, h]
theorem a_does_8 (h : G.2.1 p act / 1000 = 8) : a_does G (go, lf, rs, td, ct, st, p, nx, K) act = a_call G (go, lf, rs, td, ct, st, p, nx, K) (G.2.1 p act / 100 % 10) := by simp only [a_does, h]
theorem a_does_9 (h : G.2.1 p act / 1000 = 9) : a_does G (go, lf, rs, td, ct, st, p, nx, K) act = (0, (go, lf, rs, td, ct, st, p, nx, K)) := by simp only [a_does, h]
variable {v : Nat → Nat → Int32} {r : Int32}
theorem R_try {x y : Nat} {lv : Int32} (hl : lv = nI (lvl K)) (h : Rq G (go, lf, rs, td, ct, st, p, nx, K) v r) :
    Rr G (go, lf, rs, td, ct, st, p, nx, (1, x, y) :: K) (va_up (va_up (va_up v 16 (upd (v 16) (bl K) (nI (10 + x)))) 17 (upd (v 17) (bl K) (nI y))) 18 (upd (v 18) (bl K) lv), r, lv, nI (bl K + 1), nI (hn K)) := by
  obtain ⟨⟨h1, h2, h3, h4, h5, h6, h7, h8⟩, hR, hp, hx⟩ := h
  refine ⟨⟨⟨h1, h2, h3, h4, (hok_same (by simp)).mpr h5, h6, h7, h8⟩, ⟨fun q => absurd q (by simp), fun q => absurd q (by simp), fun _ => ⟨pk_us, pk_us, ?_⟩, ?_⟩, hp, hx⟩, hl, rfl, rfl⟩
  · show upd (v 18) (bl K) lv (bl K) = _
    rw [pk_us]; exact hl
  · exact Rst_frame (v := v) (fun j hj => ⟨upd_out hj, upd_out hj, upd_out hj⟩) (fun j hj => ⟨rfl, rfl⟩) hR
theorem R_holdP {x : Nat} {y lv : Int32} (hK : K.length < 1000) (hl : lv = nI (lvl K)) (h : Rq G (go, lf, rs, td, ct, st, p, nx, K) v r) :
    Rr G (go, lf, rs, upd (upd td 4 (td 4 + 1)) 5 (if td 5 < nI (hn K) + 1 then nI (hn K) + 1 else td 5), ct, st, p, nx, (0, x, 0) :: K) (va_up (va_up (va_up (va_up (va_up v 16 (upd (v 16) (bl K) (nI x))) 17 (upd (v 17) (bl K) y)) 18 (upd (v 18) (bl K) lv)) 9 (upd (v 9) x (v 9 x + 1))) 11 (upd (upd (v 11) 4 (v 11 4 + 1)) 5 (if v 11 5 < nI (hn K) + 1 then nI (hn K) + 1 else v 11 5)), r, lv, nI (bl K + 1), nI (hn K) + 1) := by
  obtain ⟨⟨h1, h2, h3, h4, h5, h6, h7, h8⟩, hR, hp, hx⟩ := h
  refine ⟨⟨⟨h1, h2, h3, h4, hok_push h5 hK, ?_, h7, h8⟩, ⟨fun q => absurd q (by simp), fun _ => pk_us, fun q => absurd q (by simp), ?_⟩, hp, hx⟩, hl, rfl, nI_1 _⟩
  · exact upd_le (upd_le h6 (by rw [h6 4 (by decide)])) (by rw [h6 5 (by decide)])
  · exact Rst_frame (v := v) (fun j hj => ⟨upd_out hj, upd_out hj, upd_out hj⟩) (fun j hj => ⟨rfl, rfl⟩) hR
theorem R_hold {x : Nat} {y lv w : Int32} {u : (Nat → Nat → Int32) × Int32 × Int32} (hK : K.length < 1000) (hl : lv = nI (lvl K)) (h : Rq G (go, lf, rs, td, ct, st, p, nx, K) v r)
    (hw : (mis G.2.2 x ≠ 0 ∧ w = nI (mis G.2.2 x) ∧ u = (v, nI (bl K), nI (hn K))) ∨ (mis G.2.2 x = 0 ∧ w = 0 ∧ u = (va_up (va_up (va_up (va_up (va_up v 16 (upd (v 16) (bl K) (nI x))) 17 (upd (v 17) (bl K) y)) 18 (upd (v 18) (bl K) lv)) 9 (upd (v 9) x (v 9 x + 1))) 11 (upd (upd (v 11) 4 (v 11 4 + 1)) 5 (if v 11 5 < nI (hn K) + 1 then nI (hn K) + 1 else v 11 5)), nI (bl K + 1), nI (hn K) + 1))) :
    w = nI (a_hold G (go, lf, rs, td, ct, st, p, nx, K) x).1 ∧ Rr G (a_hold G (go, lf, rs, td, ct, st, p, nx, K) x).2 (u.1, r, lv, u.2.1, u.2.2) := by
  rcases hw with ⟨hm, rfl, rfl⟩ | ⟨hm, rfl, rfl⟩
  · simp only [a_hold, hm, if_false]
    exact ⟨trivial, h, hl, rfl, rfl⟩
  · simp only [a_hold, hm, if_true]
    exact ⟨rfl, R_holdP hK hl h⟩
theorem R_call {x : Nat} {lv w : Int32} {u : (Nat → Nat → Int32) × Int32} (hl : lv = nI (lvl K)) (h : Rq G (go, lf, rs, td, ct, st, p, nx, K) v r)
    (hw : ((x < 6 ∧ lvl K < 4 ∧ clo (G.1 x) (G.2.1 x)) ∧ w = 0 ∧ u = (va_up (va_up (va_up v 13 (upd (v 13) (lvl K + 1) (nI x))) 14 (upd (v 14) (lvl K + 1) 0)) 11 (upd (v 11) 7 (v 11 7 + 1)), nI (lvl K + 1))) ∨ (¬ (x < 6 ∧ lvl K < 4 ∧ clo (G.1 x) (G.2.1 x)) ∧ w = 6 ∧ u = (v, nI (lvl K)))) :
    w = nI (a_call G (go, lf, rs, td, ct, st, p, nx, K) x).1 ∧ Rr G (a_call G (go, lf, rs, td, ct, st, p, nx, K) x).2 (u.1, r, u.2, nI (bl K), nI (hn K)) := by
  rcases hw with ⟨hm, rfl, rfl⟩ | ⟨hm, rfl, rfl⟩
  · simp only [a_call]
    rw [if_pos hm]
    obtain ⟨⟨h1, h2, h3, h4, h5, h6, h7, h8⟩, hR, hp, hx⟩ := h
    refine ⟨rfl, ⟨⟨h1, h2, h3, h4, (hok_same (by simp)).mpr h5, ?_, h7, h8⟩, ⟨fun _ => ⟨?_, ?_⟩, fun q => absurd q (by simp), fun q => absurd q (by simp), ?_⟩, ?_, ?_⟩, rfl, rfl, rfl⟩
    · exact upd_le h6 (by rw [h6 7 (by decide)])
    · show upd (v 13) (lvl K + 1) (nI x) (lvl K) = nI p
      rw [upd_out (by omega)]; exact hp
    · show upd (v 14) (lvl K + 1) 0 (lvl K) = nI nx
      rw [upd_out (by omega)]; exact hx
    · exact Rst_frame (v := v) (fun j hj => ⟨rfl, rfl, rfl⟩) (fun j hj => ⟨upd_out (by omega), upd_out (by omega)⟩) hR
    · exact pk_us
    · exact pk_us
  · simp only [a_call]
    rw [if_neg hm]
    exact ⟨rfl, h, rfl, rfl, rfl⟩
theorem R_end {e : Nat × Nat × Nat} {lv : Int32} (hK : K.length < 1000) (hl : lv = nI (lvl (e :: K))) (h : Rq G (go, lf, rs, td, ct, st, p, nx, e :: K) v r) (he : e.1 = 0) :
    Rr G (go, lf, rs, td, ct, st, p, nx, K) (va_up (va_up v 9 (upd (v 9) e.2.1 (v 9 e.2.1 - 1))) 8 (upd (v 8) e.2.1 (v 8 e.2.1 + 0)), r, lv, nI (bl K), nI (hn (e :: K)) - 1) := by
  obtain ⟨e0, e1, e2⟩ := e
  simp only at he
  subst he
  obtain ⟨⟨h1, h2, h3, h4, h5, h6, h7, h8⟩, ⟨_, _, _, hR⟩, hp, hx⟩ := h
  refine ⟨⟨⟨h1, h2, h3, ?_, hok_pop h5 hK, h6, h7, h8⟩, Rst_frame (v := v) (fun j hj => ⟨rfl, rfl, rfl⟩) (fun j hj => ⟨rfl, rfl⟩) hR, hp, hx⟩, hl, rfl, nI_pred _⟩
  intro s hs
  show upd (v 8) e1 (v 8 e1 + 0) s = lf s
  rw [Int32.add_zero]
  by_cases q : s = e1
  · subst q; rw [pk_us]; exact h4 _ hs
  · rw [pk_un q]; exact h4 _ hs
theorem R_endT {e : Nat × Nat × Nat} {lv : Int32} (hl : lv = nI (lvl (e :: K))) (h : Rq G (go, lf, rs, td, ct, st, p, nx, e :: K) v r) (he : e.1 = 1) :
    Rr G (go, lf, rs, td, ct, st, p, nx, K) (v, r, lv, nI (bl K), nI (hn (e :: K))) := by
  obtain ⟨e0, e1, e2⟩ := e
  simp only at he
  subst he
  obtain ⟨⟨h1, h2, h3, h4, h5, h6, h7, h8⟩, ⟨_, _, _, hR⟩, hp, hx⟩ := h
  exact ⟨⟨⟨h1, h2, h3, h4, (hok_same (by simp)).mp h5, h6, h7, h8⟩, hR, hp, hx⟩, hl, rfl, rfl⟩
theorem R_go {go' : Nat → Nat} {g : Nat → Int32} (h : Rq G (go, lf, rs, td, ct, st, p, nx, K) v r) (hg : gk g go') : Rr G (go', lf, rs, td, ct, st, p, nx, K) (va_up v 7 g, r, nI (lvl K), nI (bl K), nI (hn K)) := by
  obtain ⟨⟨h1, h2, h3, h4, h5, h6, h7, h8⟩, hR, hp, hx⟩ := h
  exact ⟨⟨⟨h1, h2, hg, h4, h5, h6, h7, h8⟩, Rst_frame (v := v) (fun j hj => ⟨rfl, rfl, rfl⟩) (fun j hj => ⟨rfl, rfl⟩) hR, hp, hx⟩, rfl, rfl, rfl⟩
theorem R_goS {go' : Nat → Nat} {g : Nat → Int32} {r' rs' : Int32} (h : Rq G (go, lf, rs, td, ct, st, p, nx, K) v r) (hg : gk g go') (hr : r' = rs') : Rr G (go', lf, rs', td, ct, st, p, nx, K) (va_up v 7 g, r', nI (lvl K), nI (bl K), nI (hn K)) := by
  obtain ⟨⟨h1, h2, h3, h4, h5, h6, h7, h8⟩, hR, hp, hx⟩ := h
  exact ⟨⟨⟨h1, h2, hg, h4, h5, h6, h7, hr⟩, Rst_frame (v := v) (fun j hj => ⟨rfl, rfl, rfl⟩) (fun j hj => ⟨rfl, rfl⟩) hR, hp, hx⟩, rfl, rfl, rfl⟩
end DOES
theorem k10 {c : Nat} (h : c < 10000) : c / 1000 = 0 ∨ c / 1000 = 1 ∨ c / 1000 = 2 ∨ c / 1000 = 3 ∨ c / 1000 = 4 ∨ c / 1000 = 5 ∨ c / 1000 = 6 ∨ c / 1000 = 7 ∨ c / 1000 = 8 ∨ c / 1000 = 9 := by omega
theorem WF_end {G : GP} {p : Nat} {K : KL} {d : Int} (h : WF G p d K) (hd : 1 ≤ d) : ∃ (e : Nat × Nat × Nat) (K' : KL), K = e :: K' ∧ ((e.1 = 0 ∧ e.2.1 < 8) ∨ (e.1 = 1 ∧ e.2.1 < 10)) ∧ WF G p (d - 1) K' := by
  cases K with
  | nil => have h : d = 0 := h; omega
  | cons e K' =>
    rcases h with ⟨h1, h2, h3⟩ | ⟨h1, h2, _, _, _, h3⟩ | ⟨_, h2, _⟩
    · exact ⟨e, K', rfl, Or.inl ⟨h1, h2⟩, h3⟩
    · exact ⟨e, K', rfl, Or.inr ⟨h1, h2⟩, h3⟩
    · omega
theorem unw_8 {G : GP} {f : Nat} {K : KL} {lf td ct : Nat → Int32} {p nx : Nat} (x y : Nat) : unw G f ((8, x, y) :: K) lf td ct p nx = unw G f K lf td ct x y := by
  rw [unw, if_pos rfl]
theorem unw_h {G : GP} {f : Nat} {K : KL} {lf td ct : Nat → Int32} {p nx : Nat} (x y : Nat) : unw G f ((0, x, y) :: K) lf td ct p nx = unw G f K (upd lf x (lf x + 1)) td ct p nx := by
  rw [unw, if_neg (by simp), if_pos rfl]
theorem unw_t {G : GP} {f : Nat} {K : KL} {lf td ct : Nat → Int32} {p nx x y : Nat} (h : ¬ (f ≠ 0 ∧ (x = 0 ∨ x = f))) : unw G f ((1, x, y) :: K) lf td ct p nx = unw G f K lf td ct p nx := by
  rw [unw, if_neg (by simp), if_neg (by simp), if_neg h]
theorem unw_c {G : GP} {f : Nat} {K : KL} {lf td ct : Nat → Int32} {p nx x y : Nat} (h0 : f ≠ 0) (h : x = 0 ∨ x = f) : unw G f ((1, x, y) :: K) lf td ct p nx = (true, lf, upd td 6 (td 6 + 1), upd ct f (ct f + 1), p, beh (G.2.1 p) y, K) := by
  rw [unw, if_neg (by simp), if_neg (by simp), if_pos ⟨h0, h⟩]
theorem Rp_same {G : GP} {go : Nat → Nat} {lf : Nat → Int32} {rs : Int32} {td ct : Nat → Int32} {v : Nat → Nat → Int32} {r : Int32} {K : KL} {e : Nat × Nat × Nat} (he : e.1 ≠ 0) : Rp G go lf rs td ct (cnt (e :: K)) v r ↔ Rp G go lf rs td ct (cnt K) v r := by
  have : cnt (e :: K) = cnt K := by
    funext s; simp only [cnt]; rw [if_neg (fun q => he q.1)]; rfl
  rw [this]
theorem Rp_pop {G : GP} {go : Nat → Nat} {lf : Nat → Int32} {rs : Int32} {td ct : Nat → Int32} {v : Nat → Nat → Int32} {r : Int32} {K : KL} {x y : Nat} (hK : K.length < 1000) (h : Rp G go lf rs td ct (cnt ((0, x, y) :: K)) v r) :
    Rp G go (upd lf x (lf x + 1)) rs td ct (cnt K) (va_up (va_up v 9 (upd (v 9) x (v 9 x - 1))) 8 (upd (v 8) x (v 8 x + 1))) r := by
  obtain ⟨h1, h2, h3, h4, h5, h6, h7, h8⟩ := h
  refine ⟨h1, h2, h3, ?_, hok_pop h5 hK, h6, h7, h8⟩
  intro s hs
  show upd (v 8) x (v 8 x + 1) s = upd lf x (lf x + 1) s
  by_cases q : s = x
  · subst q; rw [pk_us, pk_us, h4 _ hs]
  · rw [pk_un q, pk_un q]; exact h4 _ hs
theorem R_caught {G : GP} {go : Nat → Nat} {lf : Nat → Int32} {rs : Int32} {td ct : Nat → Int32} {st p nx f x y : Nat} {v : Nat → Nat → Int32} {r : Int32} {K : KL} (hf : f < 10) (hR : Rp G go lf rs td ct (cnt ((1, x, y) :: K)) v r) (hsK : Rst v K) (hvp : v 13 (lvl K) = nI p) :
    Rr G (go, lf, rs, upd td 6 (td 6 + 1), upd ct f (ct f + 1), st, p, nx, K) (va_up (va_up (va_up v 14 (upd (v 14) (lvl K) (nI nx))) 12 (upd (v 12) f (v 12 f + 1))) 11 (upd (v 11) 6 (v 11 6 + 1)), r, nI (lvl K), nI (bl K), nI (hn K)) := by
  obtain ⟨h1, h2, h3, h4, h5, h6, h7, h8⟩ := (Rp_same (by simp)).mp hR
  refine ⟨⟨⟨h1, h2, h3, h4, h5, ?_, ?_, h8⟩, Rst_frame (v := v) (fun j hj => ⟨rfl, rfl, rfl⟩) (fun j hj => ⟨rfl, ?_⟩) hsK, hvp, pk_us⟩, rfl, rfl, rfl⟩
  · exact upd_le h6 (by rw [h6 6 (by decide)])
  · exact upd_le h7 (by rw [h7 f hf])
  · show upd (v 14) (lvl K) (nI nx) j = v 14 j
    exact upd_out hj
theorem R_ends {G : GP} {go : Nat → Nat} {lf : Nat → Int32} {rs : Int32} {td ct : Nat → Int32} {v : Nat → Nat → Int32} {r x y z : Int32} {hd : Nat → Nat} (hR : Rp G go lf rs td ct hd v r) :
    Rp G go lf rs (upd (upd (upd td 0 x) 1 y) 2 z) ct hd (va_up v 11 (upd (upd (upd (v 11) 0 x) 1 y) 2 z)) r := by
  obtain ⟨h1, h2, h3, h4, h5, h6, h7, h8⟩ := hR
  exact ⟨h1, h2, h3, h4, h5, upd_le (upd_le (upd_le h6 rfl) rfl) rfl, h7, h8⟩
end
section
set_option maxHeartbeats 4000000 in
set_option maxRecDepth 100000 in
theorem c_X5_does (l : Launch) (D : va_G) (cI cZ : ClassId) (a : Nat → Nat) (v : Nat → Nat → Int32) (t r : Int32) (G : GP) (go : Nat → Nat) (lf : Nat → Int32) (rs : Int32) (td ct : Nat → Int32) (st p nx : Nat) (K : KL) (hR : Rq G (go, lf, rs, td, ct, st, p, nx, K) v r) (act : Nat) (hp6 : p < 6) (ha : act < G.1 p) (hcl : clo (G.1 p) (G.2.1 p)) (hwf : WF G p (dp (G.2.1 p) act) K) (hKl : K.length < 64) (hlv : lvl K ≤ 4) : Ci l D [(cI, .int), (cZ, .boolean)] yX5_does wsX5_does ({ frames := 3, cells := 0, slots := 0, locals := 63 }) [.ref (a 0), .int (nI p), .int (nI act)] (wM a cI cZ v t r (nI (lvl K)) (nI (bl K)) (nI (hn K))) (S := RS) (fun w u => w = nI (a_does G (go, lf, rs, td, ct, st, p, nx, K) act).1 ∧ Rr G (a_does G (go, lf, rs, td, ct, st, p, nx, K) act).2 u) (fun u => wM a cI cZ u.1 t u.2.1 u.2.2.1 u.2.2.2.1 u.2.2.2.2) := by
  refine Ci.mk (cc := cX5_does) (maxL := 5) (ret := (some .int)) (by decide +kernel) rfl (Nat.le_of_ble_eq_true rfl) ?_
  intro pg e s m below meth c A ls hx hb hml hr hown hts hlocks hK hns hA hP hD hS hl
  have hl : lv_has ls 5 [(0, .ref (a 0)), (1, .int (nI p)), (2, .int (nI act))] := hl
  have fl16 := hts (.fieldLink RX5 16 "HeldShelvesModel" "first" "[I") (List.mem_of_getElem? (i := 1) rfl)
  have inX5 : ∀ w ∈ wsX50, w ∈ wsX5_does := fun _ h => List.mem_cons_of_mem _ (List.mem_append_right _ h)
  have fl13 := hts (.fieldLink RX5 13 "HeldShelvesModel" "kinds" "[I") (List.mem_of_getElem? (i := 2) rfl)
  have fl19 := hts (.fieldLink RX5 19 "HeldShelvesModel" "second" "[I") (List.mem_of_getElem? (i := 3) rfl)
  have fl22 := hts (.fieldLink RX5 22 "HeldShelvesModel" "third" "[I") (List.mem_of_getElem? (i := 4) rfl)
  have hP : va_P D vwCl [(a 0, .inr (5, [.int t, .ref (a 1), .ref (a 2), .ref (a 3), .ref (a 4), .ref (a 5), .ref (a 6), .ref (a 7), .ref (a 8), .ref (a 9), .int r, .ref (a 11), .ref (a 12), .ref (a 13), .ref (a 14), .int (nI (lvl K)), .ref (a 16), .ref (a 17), .ref (a 18), .int (nI (bl K)), .int (nI (hn K))])), (a 1, .inl (cI, 6, .inl (v 1))), (a 2, .inl (cI, 240, .inl (v 2))), (a 3, .inl (cI, 240, .inl (v 3))), (a 4, .inl (cI, 240, .inl (v 4))), (a 5, .inl (cI, 240, .inl (v 5))), (a 6, .inl (cZ, 8, .inl (v 6))), (a 7, .inl (cI, 8, .inl (v 7))), (a 8, .inl (cI, 8, .inl (v 8))), (a 9, .inl (cI, 8, .inl (v 9))), (a 11, .inl (cI, 8, .inl (v 11))), (a 12, .inl (cI, 10, .inl (v 12))), (a 13, .inl (cI, 5, .inl (v 13))), (a 14, .inl (cI, 5, .inl (v 14))), (a 16, .inl (cI, 128, .inl (v 16))), (a 17, .inl (cI, 128, .inl (v 17))), (a 18, .inl (cI, 128, .inl (v 18)))] s.heap := hP
  have hD : va_D A [(a 0, .inr (5, [.int t, .ref (a 1), .ref (a 2), .ref (a 3), .ref (a 4), .ref (a 5), .ref (a 6), .ref (a 7), .ref (a 8), .ref (a 9), .int r, .ref (a 11), .ref (a 12), .ref (a 13), .ref (a 14), .int (nI (lvl K)), .ref (a 16), .ref (a 17), .ref (a 18), .int (nI (bl K)), .int (nI (hn K))])), (a 1, .inl (cI, 6, .inl (v 1))), (a 2, .inl (cI, 240, .inl (v 2))), (a 3, .inl (cI, 240, .inl (v 3))), (a 4, .inl (cI, 240, .inl (v 4))), (a 5, .inl (cI, 240, .inl (v 5))), (a 6, .inl (cZ, 8, .inl (v 6))), (a 7, .inl (cI, 8, .inl (v 7))), (a 8, .inl (cI, 8, .inl (v 8))), (a 9, .inl (cI, 8, .inl (v 9))), (a 11, .inl (cI, 8, .inl (v 11))), (a 12, .inl (cI, 10, .inl (v 12))), (a 13, .inl (cI, 5, .inl (v 13))), (a 14, .inl (cI, 5, .inl (v 14))), (a 16, .inl (cI, 128, .inl (v 16))), (a 17, .inl (cI, 128, .inl (v 17))), (a 18, .inl (cI, 128, .inl (v 18)))] := hD
  obtain ⟨⟨h1, h2, h3, h4, h5, h6, h7, h8⟩, hst, hvp, hvn⟩ := id hR
  subst h8
  have hq1 := h1 p hp6
  have hn40 := hq1.2.1
  have hki := hq1.2.2 act ha
  have hc := hki.2.1
  have hbl := bl_le K
  have hda : G.2.1 p act / 100 % 10 < 10 := Nat.mod_lt _ (by decide)
  have hdb : G.2.1 p act / 10 % 10 < 10 := Nat.mod_lt _ (by decide)
  have hdc : G.2.1 p act % 10 < 10 := Nat.mod_lt _ (by decide)
  refine lv_bipush (v := 40) hx hb dX5_does_0 (by decide) ?_
  refine lv_iload_n hx hb dX5_does_2 rfl (lv_at hl 1 rfl) ?_
  refine lv_imul hx hb dX5_does_3 ?_
  refine lv_iload_n hx hb dX5_does_4 rfl (lv_at hl 2 rfl) ?_
  refine lv_iadd hx hb dX5_does_5 ?_
  refine tp (y := nI (40 * p + act)) (ix40 p act) ?_
  refine lv_istore_n (lv' := [(3, .int (nI (40 * p + act))), (0, .ref (a 0)), (1, .int (nI p)), (2, .int (nI act))]) hx hb dX5_does_6 rfl hl (by decide) rfl (fun ls hl => ?_)
  refine lv_aload_n hx hb dX5_does_7 rfl (lv_at hl 1 rfl) ?_
  refine va_get (D := D) (ci := 5) (v := .ref (a 3)) (C := RX5) (T := TX5) (N := 21) hx hb hts inX5 hown hK hP 0 rfl rfl 3 (by decide) fl16 (fun _ h9 => h9) rfl dX5_does_8 ?_
  refine lv_iload_n hx hb dX5_does_11 rfl (lv_at hl 0 rfl) ?_
  refine xi_ald hx hb hK hP 3 0 rfl rfl (k := (40 * p + act)) (by omega) (by decide) dX5_does_12 ?_
  refine lv_istore (lv' := [(4, .int ((v 3) (40 * p + act))), (3, .int (nI (40 * p + act))), (0, .ref (a 0)), (1, .int (nI p)), (2, .int (nI act))]) hx hb dX5_does_13 hl (by decide) rfl (fun ls hl => ?_)
  refine lv_aload_n hx hb dX5_does_15 rfl (lv_at hl 2 rfl) ?_
  refine va_get (D := D) (ci := 5) (v := .ref (a 2)) (C := RX5) (T := TX5) (N := 21) hx hb hts inX5 hown hK hP 0 rfl rfl 2 (by decide) fl13 (fun _ h9 => h9) rfl dX5_does_16 ?_
  refine lv_iload_n hx hb dX5_does_19 rfl (lv_at hl 1 rfl) ?_
  refine xi_ald hx hb hK hP 2 0 rfl rfl (k := (40 * p + act)) (by omega) (by decide) dX5_does_20 ?_
  refine tp (y := nI (G.2.1 p act / 1000)) (hki.1) ?_
  rcases k10 hc with hk | hk | hk | hk | hk | hk | hk | hk | hk | hk
  · refine tp (y := 0) (by rw [hk]; rfl) ?_
    refine lv_tableIn (off := 51) (tgt := 72) hx hb dX5_does_21 (by decide) (by decide) (by decide) (by decide) ?_
    refine lv_aload_n hx hb dX5_does_72 rfl (lv_at hl 2 rfl) ?_
    refine lv_iload hx hb dX5_does_73 (lv_at hl 0 rfl) ?_
    refine tp (y := nI (G.2.1 p act / 100 % 10)) (hki.2.2.1 (by omega) (by omega)) ?_
    refine lv_iload_n hx hb dX5_does_75 rfl (lv_at hl 4 rfl) ?_
    refine cl_Vi ([]) ([]) (As := [.int (nI (G.2.1 p act / 100 % 10)), .int (nI act)]) (rest := []) (c_X5_hold l D cI cZ a v t r (nI (lvl K)) (nI (hn K)) (bl K) (by omega) G.2.2 h2 (G.2.1 p act / 100 % 10) (by omega) (nI act)) ⟨hx, hb, hml, hown, hts⟩ (cwV 2 hts gX5_does_X5_hold rfl rfl rfl (by decide +kernel) ⟨Nat.le_of_ble_eq_true rfl, Nat.le_of_ble_eq_true rfl⟩) hK hns hP hD hS hA rfl (T := TX5) (N := 21) rfl rfl hl.1 rfl (Nat.le_of_ble_eq_true rfl) dX5_does_76 ⟨Nat.zero_le _, Nat.zero_le _⟩ (fun r76 u76 H locs hw76 hP hD hS => ?_)
    have hP : va_P D vwCl [(a 0, .inr (5, [.int t, .ref (a 1), .ref (a 2), .ref (a 3), .ref (a 4), .ref (a 5), .ref (a 6), .ref (a 7), .ref (a 8), .ref (a 9), .int r, .ref (a 11), .ref (a 12), .ref (a 13), .ref (a 14), .int (nI (lvl K)), .ref (a 16), .ref (a 17), .ref (a 18), .int u76.2.1, .int u76.2.2])), (a 1, .inl (cI, 6, .inl (u76.1 1))), (a 2, .inl (cI, 240, .inl (u76.1 2))), (a 3, .inl (cI, 240, .inl (u76.1 3))), (a 4, .inl (cI, 240, .inl (u76.1 4))), (a 5, .inl (cI, 240, .inl (u76.1 5))), (a 6, .inl (cZ, 8, .inl (u76.1 6))), (a 7, .inl (cI, 8, .inl (u76.1 7))), (a 8, .inl (cI, 8, .inl (u76.1 8))), (a 9, .inl (cI, 8, .inl (u76.1 9))), (a 11, .inl (cI, 8, .inl (u76.1 11))), (a 12, .inl (cI, 10, .inl (u76.1 12))), (a 13, .inl (cI, 5, .inl (u76.1 13))), (a 14, .inl (cI, 5, .inl (u76.1 14))), (a 16, .inl (cI, 128, .inl (u76.1 16))), (a 17, .inl (cI, 128, .inl (u76.1 17))), (a 18, .inl (cI, 128, .inl (u76.1 18)))] H := hP
    have hD : va_D A [(a 0, .inr (5, [.int t, .ref (a 1), .ref (a 2), .ref (a 3), .ref (a 4), .ref (a 5), .ref (a 6), .ref (a 7), .ref (a 8), .ref (a 9), .int r, .ref (a 11), .ref (a 12), .ref (a 13), .ref (a 14), .int (nI (lvl K)), .ref (a 16), .ref (a 17), .ref (a 18), .int u76.2.1, .int u76.2.2])), (a 1, .inl (cI, 6, .inl (u76.1 1))), (a 2, .inl (cI, 240, .inl (u76.1 2))), (a 3, .inl (cI, 240, .inl (u76.1 3))), (a 4, .inl (cI, 240, .inl (u76.1 4))), (a 5, .inl (cI, 240, .inl (u76.1 5))), (a 6, .inl (cZ, 8, .inl (u76.1 6))), (a 7, .inl (cI, 8, .inl (u76.1 7))), (a 8, .inl (cI, 8, .inl (u76.1 8))), (a 9, .inl (cI, 8, .inl (u76.1 9))), (a 11, .inl (cI, 8, .inl (u76.1 11))), (a 12, .inl (cI, 10, .inl (u76.1 12))), (a 13, .inl (cI, 5, .inl (u76.1 13))), (a 14, .inl (cI, 5, .inl (u76.1 14))), (a 16, .inl (cI, 128, .inl (u76.1 16))), (a 17, .inl (cI, 128, .inl (u76.1 17))), (a 18, .inl (cI, 128, .inl (u76.1 18)))] := hD
    exact Ri (D := D) (u76.1, r, nI (lvl K), u76.2.1, u76.2.2) hx hb hr rfl hlocks hP hD hS (by rw [a_does_0 hk]; exact R_hold (by omega) rfl hR hw76) dX5_does_79
  · refine tp (y := 1) (by rw [hk]; rfl) ?_
    refine lv_tableIn (off := 59) (tgt := 80) hx hb dX5_does_21 (by decide) (by decide) (by decide) (by decide) ?_
    refine lv_aload_n hx hb dX5_does_80 rfl (lv_at hl 2 rfl) ?_
    refine lv_bipush (v := 10) hx hb dX5_does_81 (by decide) ?_
    refine lv_iload hx hb dX5_does_83 (lv_at hl 0 rfl) ?_
    refine tp (y := nI (G.2.1 p act / 100 % 10)) (hki.2.2.1 (by omega) (by omega)) ?_
    refine lv_iadd hx hb dX5_does_85 ?_
    refine tp (y := nI (10 + (G.2.1 p act / 100 % 10))) (nI_add 10 _) ?_
    refine lv_iload_n hx hb dX5_does_86 rfl (lv_at hl 4 rfl) ?_
    refine cl_Vv ([]) ([]) (As := [.int (nI (10 + (G.2.1 p act / 100 % 10))), .int (nI act)]) (rest := []) (c_X5_begins l D cI cZ a v t r (nI (lvl K)) (nI (hn K)) (bl K) (by omega) (nI (10 + (G.2.1 p act / 100 % 10))) (nI act)) ⟨hx, hb, hml, hown, hts⟩ (cwV 2 hts gX5_does_X5_begins rfl rfl rfl (by decide +kernel) ⟨Nat.le_of_ble_eq_true rfl, Nat.le_of_ble_eq_true rfl⟩) hK hns hP hD hS hA rfl (T := TX5) (N := 21) rfl rfl hl.1 rfl (Nat.le_of_ble_eq_true rfl) dX5_does_87 ⟨Nat.zero_le _, Nat.zero_le _⟩ (fun u87 H locs hw87 hP hD hS => ?_)
    have hP : va_P D vwCl [(a 0, .inr (5, [.int t, .ref (a 1), .ref (a 2), .ref (a 3), .ref (a 4), .ref (a 5), .ref (a 6), .ref (a 7), .ref (a 8), .ref (a 9), .int r, .ref (a 11), .ref (a 12), .ref (a 13), .ref (a 14), .int (nI (lvl K)), .ref (a 16), .ref (a 17), .ref (a 18), .int (nI (bl K + 1)), .int (nI (hn K))])), (a 1, .inl (cI, 6, .inl (v 1))), (a 2, .inl (cI, 240, .inl (v 2))), (a 3, .inl (cI, 240, .inl (v 3))), (a 4, .inl (cI, 240, .inl (v 4))), (a 5, .inl (cI, 240, .inl (v 5))), (a 6, .inl (cZ, 8, .inl (v 6))), (a 7, .inl (cI, 8, .inl (v 7))), (a 8, .inl (cI, 8, .inl (v 8))), (a 9, .inl (cI, 8, .inl (v 9))), (a 11, .inl (cI, 8, .inl (v 11))), (a 12, .inl (cI, 10, .inl (v 12))), (a 13, .inl (cI, 5, .inl (v 13))), (a 14, .inl (cI, 5, .inl (v 14))), (a 16, .inl (cI, 128, .inl (upd (v 16) (bl K) (nI (10 + (G.2.1 p act / 100 % 10)))))), (a 17, .inl (cI, 128, .inl (upd (v 17) (bl K) (nI act)))), (a 18, .inl (cI, 128, .inl (upd (v 18) (bl K) (nI (lvl K)))))] H := hP
    have hD : va_D A [(a 0, .inr (5, [.int t, .ref (a 1), .ref (a 2), .ref (a 3), .ref (a 4), .ref (a 5), .ref (a 6), .ref (a 7), .ref (a 8), .ref (a 9), .int r, .ref (a 11), .ref (a 12), .ref (a 13), .ref (a 14), .int (nI (lvl K)), .ref (a 16), .ref (a 17), .ref (a 18), .int (nI (bl K + 1)), .int (nI (hn K))])), (a 1, .inl (cI, 6, .inl (v 1))), (a 2, .inl (cI, 240, .inl (v 2))), (a 3, .inl (cI, 240, .inl (v 3))), (a 4, .inl (cI, 240, .inl (v 4))), (a 5, .inl (cI, 240, .inl (v 5))), (a 6, .inl (cZ, 8, .inl (v 6))), (a 7, .inl (cI, 8, .inl (v 7))), (a 8, .inl (cI, 8, .inl (v 8))), (a 9, .inl (cI, 8, .inl (v 9))), (a 11, .inl (cI, 8, .inl (v 11))), (a 12, .inl (cI, 10, .inl (v 12))), (a 13, .inl (cI, 5, .inl (v 13))), (a 14, .inl (cI, 5, .inl (v 14))), (a 16, .inl (cI, 128, .inl (upd (v 16) (bl K) (nI (10 + (G.2.1 p act / 100 % 10)))))), (a 17, .inl (cI, 128, .inl (upd (v 17) (bl K) (nI act)))), (a 18, .inl (cI, 128, .inl (upd (v 18) (bl K) (nI (lvl K)))))] := hD
    refine lv_iconst (v := 0) hx hb dX5_does_90 (by decide) ?_
    exact Ri (D := D) ((va_up (va_up (va_up v 16 (upd (v 16) (bl K) (nI (10 + (G.2.1 p act / 100 % 10))))) 17 (upd (v 17) (bl K) (nI act))) 18 (upd (v 18) (bl K) (nI (lvl K)))), r, nI (lvl K), nI (bl K + 1), nI (hn K)) hx hb hr rfl hlocks hP hD hS (by rw [a_does_1 hk]; exact ⟨rfl, R_try rfl hR⟩) dX5_does_91
  · refine tp (y := 2) (by rw [hk]; rfl) ?_
    refine lv_tableIn (off := 71) (tgt := 92) hx hb dX5_does_21 (by decide) (by decide) (by decide) (by decide) ?_
    have hd1 : 1 ≤ dp (G.2.1 p) act := by have q1 := hcl.1 (act + 1) (by omega); have q2 := dp_k2 (cd := G.2.1 p) (i := act) hk; omega
    obtain ⟨e, K', rfl, he, hw'⟩ := WF_end hwf hd1
    obtain ⟨_, hs0, hs1, _⟩ := id hst
    have hKl : K'.length + 1 < 64 := hKl
    have hbl2 := bl_le K'
    rcases he with ⟨he0, he8⟩ | ⟨he0, he10⟩
    · have hbl1 : bl (e :: K') = bl K' + 1 := by simp only [bl]; rw [if_neg (by omega)]
      rw [hbl1] at hP hD
      refine lv_aload_n hx hb dX5_does_92 rfl (lv_at hl 2 rfl) ?_
      refine lv_iconst (v := 0) hx hb dX5_does_93 (by decide) ?_
      refine cl_Vv ([]) ([]) (As := [.int 0]) (rest := []) (c_X5_closes0H l D cI cZ a v t r (nI (lvl (e :: K'))) (nI (hn (e :: K'))) (bl K') (by omega) e.2.1 he8 (hs0 he0)) ⟨hx, hb, hml, hown, hts⟩ (cwV 1 hts gX5_does_X5_closes rfl rfl rfl (by decide +kernel) ⟨Nat.le_of_ble_eq_true rfl, Nat.le_of_ble_eq_true rfl⟩) hK hns hP hD hS hA rfl (T := TX5) (N := 21) rfl rfl hl.1 rfl (Nat.le_of_ble_eq_true rfl) dX5_does_94 ⟨Nat.zero_le _, Nat.zero_le _⟩ (fun u94 H locs hw94 hP hD hS => ?_)
      have hP : va_P D vwCl [(a 0, .inr (5, [.int t, .ref (a 1), .ref (a 2), .ref (a 3), .ref (a 4), .ref (a 5), .ref (a 6), .ref (a 7), .ref (a 8), .ref (a 9), .int r, .ref (a 11), .ref (a 12), .ref (a 13), .ref (a 14), .int (nI (lvl (e :: K'))), .ref (a 16), .ref (a 17), .ref (a 18), .int (nI (bl K')), .int (nI (hn (e :: K')) - 1)])), (a 1, .inl (cI, 6, .inl (v 1))), (a 2, .inl (cI, 240, .inl (v 2))), (a 3, .inl (cI, 240, .inl (v 3))), (a 4, .inl (cI, 240, .inl (v 4))), (a 5, .inl (cI, 240, .inl (v 5))), (a 6, .inl (cZ, 8, .inl (v 6))), (a 7, .inl (cI, 8, .inl (v 7))), (a 8, .inl (cI, 8, .inl (upd (v 8) e.2.1 (v 8 e.2.1 + 0)))), (a 9, .inl (cI, 8, .inl (upd (v 9) e.2.1 (v 9 e.2.1 - 1)))), (a 11, .inl (cI, 8, .inl (v 11))), (a 12, .inl (cI, 10, .inl (v 12))), (a 13, .inl (cI, 5, .inl (v 13))), (a 14, .inl (cI, 5, .inl (v 14))), (a 16, .inl (cI, 128, .inl (v 16))), (a 17, .inl (cI, 128, .inl (v 17))), (a 18, .inl (cI, 128, .inl (v 18)))] H := hP
      have hD : va_D A [(a 0, .inr (5, [.int t, .ref (a 1), .ref (a 2), .ref (a 3), .ref (a 4), .ref (a 5), .ref (a 6), .ref (a 7), .ref (a 8), .ref (a 9), .int r, .ref (a 11), .ref (a 12), .ref (a 13), .ref (a 14), .int (nI (lvl (e :: K'))), .ref (a 16), .ref (a 17), .ref (a 18), .int (nI (bl K')), .int (nI (hn (e :: K')) - 1)])), (a 1, .inl (cI, 6, .inl (v 1))), (a 2, .inl (cI, 240, .inl (v 2))), (a 3, .inl (cI, 240, .inl (v 3))), (a 4, .inl (cI, 240, .inl (v 4))), (a 5, .inl (cI, 240, .inl (v 5))), (a 6, .inl (cZ, 8, .inl (v 6))), (a 7, .inl (cI, 8, .inl (v 7))), (a 8, .inl (cI, 8, .inl (upd (v 8) e.2.1 (v 8 e.2.1 + 0)))), (a 9, .inl (cI, 8, .inl (upd (v 9) e.2.1 (v 9 e.2.1 - 1)))), (a 11, .inl (cI, 8, .inl (v 11))), (a 12, .inl (cI, 10, .inl (v 12))), (a 13, .inl (cI, 5, .inl (v 13))), (a 14, .inl (cI, 5, .inl (v 14))), (a 16, .inl (cI, 128, .inl (v 16))), (a 17, .inl (cI, 128, .inl (v 17))), (a 18, .inl (cI, 128, .inl (v 18)))] := hD
      refine lv_iconst (v := 0) hx hb dX5_does_97 (by decide) ?_
      exact Ri (D := D) (va_up (va_up v 9 (upd (v 9) e.2.1 (v 9 e.2.1 - 1))) 8 (upd (v 8) e.2.1 (v 8 e.2.1 + 0)), r, nI (lvl (e :: K')), nI (bl K'), nI (hn (e :: K')) - 1) hx hb hr rfl hlocks hP hD hS (by rw [a_does_2 hk]; exact ⟨rfl, R_end (K := K') (by omega) rfl hR he0⟩) dX5_does_98
    · have hbl1 : bl (e :: K') = bl K' + 1 := by simp only [bl]; rw [if_neg (by omega)]
      rw [hbl1] at hP hD
      refine lv_aload_n hx hb dX5_does_92 rfl (lv_at hl 2 rfl) ?_
      refine lv_iconst (v := 0) hx hb dX5_does_93 (by decide) ?_
      refine cl_Vv ([]) ([]) (As := [.int 0]) (rest := []) (c_X5_closes0T l D cI cZ a v t r (nI (lvl (e :: K'))) (nI (hn (e :: K'))) (bl K') (by omega) e.2.1 he10 (hs1 he0).1) ⟨hx, hb, hml, hown, hts⟩ (cwV 1 hts gX5_does_X5_closes rfl rfl rfl (by decide +kernel) ⟨Nat.le_of_ble_eq_true rfl, Nat.le_of_ble_eq_true rfl⟩) hK hns hP hD hS hA rfl (T := TX5) (N := 21) rfl rfl hl.1 rfl (Nat.le_of_ble_eq_true rfl) dX5_does_94 ⟨Nat.zero_le _, Nat.zero_le _⟩ (fun u94 H locs hw94 hP hD hS => ?_)
      have hP : va_P D vwCl [(a 0, .inr (5, [.int t, .ref (a 1), .ref (a 2), .ref (a 3), .ref (a 4), .ref (a 5), .ref (a 6), .ref (a 7), .ref (a 8), .ref (a 9), .int r, .ref (a 11), .ref (a 12), .ref (a 13), .ref (a 14), .int (nI (lvl (e :: K'))), .ref (a 16), .ref (a 17), .ref (a 18), .int (nI (bl K')), .int (nI (hn (e :: K')))])), (a 1, .inl (cI, 6, .inl (v 1))), (a 2, .inl (cI, 240, .inl (v 2))), (a 3, .inl (cI, 240, .inl (v 3))), (a 4, .inl (cI, 240, .inl (v 4))), (a 5, .inl (cI, 240, .inl (v 5))), (a 6, .inl (cZ, 8, .inl (v 6))), (a 7, .inl (cI, 8, .inl (v 7))), (a 8, .inl (cI, 8, .inl (v 8))), (a 9, .inl (cI, 8, .inl (v 9))), (a 11, .inl (cI, 8, .inl (v 11))), (a 12, .inl (cI, 10, .inl (v 12))), (a 13, .inl (cI, 5, .inl (v 13))), (a 14, .inl (cI, 5, .inl (v 14))), (a 16, .inl (cI, 128, .inl (v 16))), (a 17, .inl (cI, 128, .inl (v 17))), (a 18, .inl (cI, 128, .inl (v 18)))] H := hP
      have hD : va_D A [(a 0, .inr (5, [.int t, .ref (a 1), .ref (a 2), .ref (a 3), .ref (a 4), .ref (a 5), .ref (a 6), .ref (a 7), .ref (a 8), .ref (a 9), .int r, .ref (a 11), .ref (a 12), .ref (a 13), .ref (a 14), .int (nI (lvl (e :: K'))), .ref (a 16), .ref (a 17), .ref (a 18), .int (nI (bl K')), .int (nI (hn (e :: K')))])), (a 1, .inl (cI, 6, .inl (v 1))), (a 2, .inl (cI, 240, .inl (v 2))), (a 3, .inl (cI, 240, .inl (v 3))), (a 4, .inl (cI, 240, .inl (v 4))), (a 5, .inl (cI, 240, .inl (v 5))), (a 6, .inl (cZ, 8, .inl (v 6))), (a 7, .inl (cI, 8, .inl (v 7))), (a 8, .inl (cI, 8, .inl (v 8))), (a 9, .inl (cI, 8, .inl (v 9))), (a 11, .inl (cI, 8, .inl (v 11))), (a 12, .inl (cI, 10, .inl (v 12))), (a 13, .inl (cI, 5, .inl (v 13))), (a 14, .inl (cI, 5, .inl (v 14))), (a 16, .inl (cI, 128, .inl (v 16))), (a 17, .inl (cI, 128, .inl (v 17))), (a 18, .inl (cI, 128, .inl (v 18)))] := hD
      refine lv_iconst (v := 0) hx hb dX5_does_97 (by decide) ?_
      exact Ri (D := D) (v, r, nI (lvl (e :: K')), nI (bl K'), nI (hn (e :: K'))) hx hb hr rfl hlocks hP hD hS (by rw [a_does_2 hk]; exact ⟨rfl, R_endT rfl hR he0⟩) dX5_does_98
  · refine tp (y := 3) (by rw [hk]; rfl) ?_
    refine lv_tableIn (off := 78) (tgt := 99) hx hb dX5_does_21 (by decide) (by decide) (by decide) (by decide) ?_
    refine lv_aload_n hx hb dX5_does_99 rfl (lv_at hl 2 rfl) ?_
    refine lv_aload_n hx hb dX5_does_100 rfl (lv_at hl 2 rfl) ?_
    refine va_get (D := D) (ci := 5) (v := .ref (a 2)) (C := RX5) (T := TX5) (N := 21) hx hb hts inX5 hown hK hP 0 rfl rfl 2 (by decide) fl13 (fun _ h9 => h9) rfl dX5_does_101 ?_
    refine lv_iload_n hx hb dX5_does_104 rfl (lv_at hl 1 rfl) ?_
    refine xi_ald hx hb hK hP 2 0 rfl rfl (k := (40 * p + act)) (by omega) (by decide) dX5_does_105 ?_
    refine tp (y := 3) (hki.1.trans (by rw [hk]; rfl)) ?_
    refine lv_iload hx hb dX5_does_106 (lv_at hl 0 rfl) ?_
    refine tp (y := nI (G.2.1 p act / 100 % 10)) (hki.2.2.1 (by omega) (by omega)) ?_
    refine lv_aload_n hx hb dX5_does_108 rfl (lv_at hl 2 rfl) ?_
    refine va_get (D := D) (ci := 5) (v := .ref (a 4)) (C := RX5) (T := TX5) (N := 21) hx hb hts inX5 hown hK hP 0 rfl rfl 4 (by decide) fl19 (fun _ h9 => h9) rfl dX5_does_109 ?_
    refine lv_iload_n hx hb dX5_does_112 rfl (lv_at hl 1 rfl) ?_
    refine xi_ald hx hb hK hP 4 0 rfl rfl (k := (40 * p + act)) (by omega) (by decide) dX5_does_113 ?_
    refine tp (y := nI (G.2.1 p act / 10 % 10)) (hki.2.2.2.1 (by omega) (by omega)) ?_
    refine cl_Vi ([]) ([]) (As := [.int 3, .int (nI (G.2.1 p act / 100 % 10)), .int (nI (G.2.1 p act / 10 % 10))]) (rest := []) (c_X5_changeP l D cI cZ a v t r (nI (lvl K)) (nI (bl K)) (nI (hn K)) G.2.2 h2 go (cnt K) h3 h5 (G.2.1 p act / 100 % 10) (by omega) (G.2.1 p act / 10 % 10) (by omega)) ⟨hx, hb, hml, hown, hts⟩ (cwV 3 hts gX5_does_X5_change rfl rfl rfl (by decide +kernel) ⟨Nat.le_of_ble_eq_true rfl, Nat.le_of_ble_eq_true rfl⟩) hK hns hP hD hS hA rfl (T := TX5) (N := 21) rfl rfl hl.1 rfl (Nat.le_of_ble_eq_true rfl) dX5_does_114 ⟨Nat.zero_le _, Nat.zero_le _⟩ (fun r114 u114 H locs hw114 hP hD hS => ?_)
    have hP : va_P D vwCl [(a 0, .inr (5, [.int t, .ref (a 1), .ref (a 2), .ref (a 3), .ref (a 4), .ref (a 5), .ref (a 6), .ref (a 7), .ref (a 8), .ref (a 9), .int r, .ref (a 11), .ref (a 12), .ref (a 13), .ref (a 14), .int (nI (lvl K)), .ref (a 16), .ref (a 17), .ref (a 18), .int (nI (bl K)), .int (nI (hn K))])), (a 1, .inl (cI, 6, .inl (v 1))), (a 2, .inl (cI, 240, .inl (v 2))), (a 3, .inl (cI, 240, .inl (v 3))), (a 4, .inl (cI, 240, .inl (v 4))), (a 5, .inl (cI, 240, .inl (v 5))), (a 6, .inl (cZ, 8, .inl (v 6))), (a 7, .inl (cI, 8, .inl u114)), (a 8, .inl (cI, 8, .inl (v 8))), (a 9, .inl (cI, 8, .inl (v 9))), (a 11, .inl (cI, 8, .inl (v 11))), (a 12, .inl (cI, 10, .inl (v 12))), (a 13, .inl (cI, 5, .inl (v 13))), (a 14, .inl (cI, 5, .inl (v 14))), (a 16, .inl (cI, 128, .inl (v 16))), (a 17, .inl (cI, 128, .inl (v 17))), (a 18, .inl (cI, 128, .inl (v 18)))] H := hP
    have hD : va_D A [(a 0, .inr (5, [.int t, .ref (a 1), .ref (a 2), .ref (a 3), .ref (a 4), .ref (a 5), .ref (a 6), .ref (a 7), .ref (a 8), .ref (a 9), .int r, .ref (a 11), .ref (a 12), .ref (a 13), .ref (a 14), .int (nI (lvl K)), .ref (a 16), .ref (a 17), .ref (a 18), .int (nI (bl K)), .int (nI (hn K))])), (a 1, .inl (cI, 6, .inl (v 1))), (a 2, .inl (cI, 240, .inl (v 2))), (a 3, .inl (cI, 240, .inl (v 3))), (a 4, .inl (cI, 240, .inl (v 4))), (a 5, .inl (cI, 240, .inl (v 5))), (a 6, .inl (cZ, 8, .inl (v 6))), (a 7, .inl (cI, 8, .inl u114)), (a 8, .inl (cI, 8, .inl (v 8))), (a 9, .inl (cI, 8, .inl (v 9))), (a 11, .inl (cI, 8, .inl (v 11))), (a 12, .inl (cI, 10, .inl (v 12))), (a 13, .inl (cI, 5, .inl (v 13))), (a 14, .inl (cI, 5, .inl (v 14))), (a 16, .inl (cI, 128, .inl (v 16))), (a 17, .inl (cI, 128, .inl (v 17))), (a 18, .inl (cI, 128, .inl (v 18)))] := hD
    exact Ri (D := D) (va_up v 7 u114, r, nI (lvl K), nI (bl K), nI (hn K)) hx hb hr rfl hlocks hP hD hS (by rw [a_does_3 hk]; exact ⟨hw114.1, R_go hR hw114.2⟩) dX5_does_117
  · refine tp (y := 4) (by rw [hk]; rfl) ?_
    refine lv_tableIn (off := 78) (tgt := 99) hx hb dX5_does_21 (by decide) (by decide) (by decide) (by decide) ?_
    refine lv_aload_n hx hb dX5_does_99 rfl (lv_at hl 2 rfl) ?_
    refine lv_aload_n hx hb dX5_does_100 rfl (lv_at hl 2 rfl) ?_
    refine va_get (D := D) (ci := 5) (v := .ref (a 2)) (C := RX5) (T := TX5) (N := 21) hx hb hts inX5 hown hK hP 0 rfl rfl 2 (by decide) fl13 (fun _ h9 => h9) rfl dX5_does_101 ?_
    refine lv_iload_n hx hb dX5_does_104 rfl (lv_at hl 1 rfl) ?_
    refine xi_ald hx hb hK hP 2 0 rfl rfl (k := (40 * p + act)) (by omega) (by decide) dX5_does_105 ?_
    refine tp (y := 4) (hki.1.trans (by rw [hk]; rfl)) ?_
    refine lv_iload hx hb dX5_does_106 (lv_at hl 0 rfl) ?_
    refine tp (y := nI (G.2.1 p act / 100 % 10)) (hki.2.2.1 (by omega) (by omega)) ?_
    refine lv_aload_n hx hb dX5_does_108 rfl (lv_at hl 2 rfl) ?_
    refine va_get (D := D) (ci := 5) (v := .ref (a 4)) (C := RX5) (T := TX5) (N := 21) hx hb hts inX5 hown hK hP 0 rfl rfl 4 (by decide) fl19 (fun _ h9 => h9) rfl dX5_does_109 ?_
    refine lv_iload_n hx hb dX5_does_112 rfl (lv_at hl 1 rfl) ?_
    refine xi_ald hx hb hK hP 4 0 rfl rfl (k := (40 * p + act)) (by omega) (by decide) dX5_does_113 ?_
    refine tp (y := nI (G.2.1 p act / 10 % 10)) (hki.2.2.2.1 (by omega) (by omega)) ?_
    refine cl_Vi ([]) ([]) (As := [.int 4, .int (nI (G.2.1 p act / 100 % 10)), .int (nI (G.2.1 p act / 10 % 10))]) (rest := []) (c_X5_changeT l D cI cZ a v t r (nI (lvl K)) (nI (bl K)) (nI (hn K)) G.2.2 h2 go (cnt K) h3 h5 (G.2.1 p act / 100 % 10) (by omega) (G.2.1 p act / 10 % 10) (by omega)) ⟨hx, hb, hml, hown, hts⟩ (cwV 3 hts gX5_does_X5_change rfl rfl rfl (by decide +kernel) ⟨Nat.le_of_ble_eq_true rfl, Nat.le_of_ble_eq_true rfl⟩) hK hns hP hD hS hA rfl (T := TX5) (N := 21) rfl rfl hl.1 rfl (Nat.le_of_ble_eq_true rfl) dX5_does_114 ⟨Nat.zero_le _, Nat.zero_le _⟩ (fun r114 u114 H locs hw114 hP hD hS => ?_)
    have hP : va_P D vwCl [(a 0, .inr (5, [.int t, .ref (a 1), .ref (a 2), .ref (a 3), .ref (a 4), .ref (a 5), .ref (a 6), .ref (a 7), .ref (a 8), .ref (a 9), .int r, .ref (a 11), .ref (a 12), .ref (a 13), .ref (a 14), .int (nI (lvl K)), .ref (a 16), .ref (a 17), .ref (a 18), .int (nI (bl K)), .int (nI (hn K))])), (a 1, .inl (cI, 6, .inl (v 1))), (a 2, .inl (cI, 240, .inl (v 2))), (a 3, .inl (cI, 240, .inl (v 3))), (a 4, .inl (cI, 240, .inl (v 4))), (a 5, .inl (cI, 240, .inl (v 5))), (a 6, .inl (cZ, 8, .inl (v 6))), (a 7, .inl (cI, 8, .inl u114)), (a 8, .inl (cI, 8, .inl (v 8))), (a 9, .inl (cI, 8, .inl (v 9))), (a 11, .inl (cI, 8, .inl (v 11))), (a 12, .inl (cI, 10, .inl (v 12))), (a 13, .inl (cI, 5, .inl (v 13))), (a 14, .inl (cI, 5, .inl (v 14))), (a 16, .inl (cI, 128, .inl (v 16))), (a 17, .inl (cI, 128, .inl (v 17))), (a 18, .inl (cI, 128, .inl (v 18)))] H := hP
    have hD : va_D A [(a 0, .inr (5, [.int t, .ref (a 1), .ref (a 2), .ref (a 3), .ref (a 4), .ref (a 5), .ref (a 6), .ref (a 7), .ref (a 8), .ref (a 9), .int r, .ref (a 11), .ref (a 12), .ref (a 13), .ref (a 14), .int (nI (lvl K)), .ref (a 16), .ref (a 17), .ref (a 18), .int (nI (bl K)), .int (nI (hn K))])), (a 1, .inl (cI, 6, .inl (v 1))), (a 2, .inl (cI, 240, .inl (v 2))), (a 3, .inl (cI, 240, .inl (v 3))), (a 4, .inl (cI, 240, .inl (v 4))), (a 5, .inl (cI, 240, .inl (v 5))), (a 6, .inl (cZ, 8, .inl (v 6))), (a 7, .inl (cI, 8, .inl u114)), (a 8, .inl (cI, 8, .inl (v 8))), (a 9, .inl (cI, 8, .inl (v 9))), (a 11, .inl (cI, 8, .inl (v 11))), (a 12, .inl (cI, 10, .inl (v 12))), (a 13, .inl (cI, 5, .inl (v 13))), (a 14, .inl (cI, 5, .inl (v 14))), (a 16, .inl (cI, 128, .inl (v 16))), (a 17, .inl (cI, 128, .inl (v 17))), (a 18, .inl (cI, 128, .inl (v 18)))] := hD
    exact Ri (D := D) (va_up v 7 u114, r, nI (lvl K), nI (bl K), nI (hn K)) hx hb hr rfl hlocks hP hD hS (by rw [a_does_4 hk]; exact ⟨hw114.1, R_go hR hw114.2⟩) dX5_does_117
  · refine tp (y := 5) (by rw [hk]; rfl) ?_
    refine lv_tableIn (off := 78) (tgt := 99) hx hb dX5_does_21 (by decide) (by decide) (by decide) (by decide) ?_
    refine lv_aload_n hx hb dX5_does_99 rfl (lv_at hl 2 rfl) ?_
    refine lv_aload_n hx hb dX5_does_100 rfl (lv_at hl 2 rfl) ?_
    refine va_get (D := D) (ci := 5) (v := .ref (a 2)) (C := RX5) (T := TX5) (N := 21) hx hb hts inX5 hown hK hP 0 rfl rfl 2 (by decide) fl13 (fun _ h9 => h9) rfl dX5_does_101 ?_
    refine lv_iload_n hx hb dX5_does_104 rfl (lv_at hl 1 rfl) ?_
    refine xi_ald hx hb hK hP 2 0 rfl rfl (k := (40 * p + act)) (by omega) (by decide) dX5_does_105 ?_
    refine tp (y := 5) (hki.1.trans (by rw [hk]; rfl)) ?_
    refine lv_iload hx hb dX5_does_106 (lv_at hl 0 rfl) ?_
    refine tp (y := nI (G.2.1 p act / 100 % 10)) (hki.2.2.1 (by omega) (by omega)) ?_
    refine lv_aload_n hx hb dX5_does_108 rfl (lv_at hl 2 rfl) ?_
    refine va_get (D := D) (ci := 5) (v := .ref (a 4)) (C := RX5) (T := TX5) (N := 21) hx hb hts inX5 hown hK hP 0 rfl rfl 4 (by decide) fl19 (fun _ h9 => h9) rfl dX5_does_109 ?_
    refine lv_iload_n hx hb dX5_does_112 rfl (lv_at hl 1 rfl) ?_
    refine xi_ald hx hb hK hP 4 0 rfl rfl (k := (40 * p + act)) (by omega) (by decide) dX5_does_113 ?_
    refine tp (y := nI (G.2.1 p act / 10 % 10)) (hki.2.2.2.1 (by omega) (by omega)) ?_
    refine cl_Vi ([]) ([]) (As := [.int 5, .int (nI (G.2.1 p act / 100 % 10)), .int (nI (G.2.1 p act / 10 % 10))]) (rest := []) (c_X5_changeS l D cI cZ a v t r (nI (lvl K)) (nI (bl K)) (nI (hn K)) G.2.2 h2 go (cnt K) h3 h5 (G.2.1 p act / 100 % 10) (by omega) (G.2.1 p act / 10 % 10) (by omega)) ⟨hx, hb, hml, hown, hts⟩ (cwV 3 hts gX5_does_X5_change rfl rfl rfl (by decide +kernel) ⟨Nat.le_of_ble_eq_true rfl, Nat.le_of_ble_eq_true rfl⟩) hK hns hP hD hS hA rfl (T := TX5) (N := 21) rfl rfl hl.1 rfl (Nat.le_of_ble_eq_true rfl) dX5_does_114 ⟨Nat.zero_le _, Nat.zero_le _⟩ (fun r114 u114 H locs hw114 hP hD hS => ?_)
    have hP : va_P D vwCl [(a 0, .inr (5, [.int t, .ref (a 1), .ref (a 2), .ref (a 3), .ref (a 4), .ref (a 5), .ref (a 6), .ref (a 7), .ref (a 8), .ref (a 9), .int u114.2, .ref (a 11), .ref (a 12), .ref (a 13), .ref (a 14), .int (nI (lvl K)), .ref (a 16), .ref (a 17), .ref (a 18), .int (nI (bl K)), .int (nI (hn K))])), (a 1, .inl (cI, 6, .inl (v 1))), (a 2, .inl (cI, 240, .inl (v 2))), (a 3, .inl (cI, 240, .inl (v 3))), (a 4, .inl (cI, 240, .inl (v 4))), (a 5, .inl (cI, 240, .inl (v 5))), (a 6, .inl (cZ, 8, .inl (v 6))), (a 7, .inl (cI, 8, .inl u114.1)), (a 8, .inl (cI, 8, .inl (v 8))), (a 9, .inl (cI, 8, .inl (v 9))), (a 11, .inl (cI, 8, .inl (v 11))), (a 12, .inl (cI, 10, .inl (v 12))), (a 13, .inl (cI, 5, .inl (v 13))), (a 14, .inl (cI, 5, .inl (v 14))), (a 16, .inl (cI, 128, .inl (v 16))), (a 17, .inl (cI, 128, .inl (v 17))), (a 18, .inl (cI, 128, .inl (v 18)))] H := hP
    have hD : va_D A [(a 0, .inr (5, [.int t, .ref (a 1), .ref (a 2), .ref (a 3), .ref (a 4), .ref (a 5), .ref (a 6), .ref (a 7), .ref (a 8), .ref (a 9), .int u114.2, .ref (a 11), .ref (a 12), .ref (a 13), .ref (a 14), .int (nI (lvl K)), .ref (a 16), .ref (a 17), .ref (a 18), .int (nI (bl K)), .int (nI (hn K))])), (a 1, .inl (cI, 6, .inl (v 1))), (a 2, .inl (cI, 240, .inl (v 2))), (a 3, .inl (cI, 240, .inl (v 3))), (a 4, .inl (cI, 240, .inl (v 4))), (a 5, .inl (cI, 240, .inl (v 5))), (a 6, .inl (cZ, 8, .inl (v 6))), (a 7, .inl (cI, 8, .inl u114.1)), (a 8, .inl (cI, 8, .inl (v 8))), (a 9, .inl (cI, 8, .inl (v 9))), (a 11, .inl (cI, 8, .inl (v 11))), (a 12, .inl (cI, 10, .inl (v 12))), (a 13, .inl (cI, 5, .inl (v 13))), (a 14, .inl (cI, 5, .inl (v 14))), (a 16, .inl (cI, 128, .inl (v 16))), (a 17, .inl (cI, 128, .inl (v 17))), (a 18, .inl (cI, 128, .inl (v 18)))] := hD
    exact Ri (D := D) (va_up v 7 u114.1, u114.2, nI (lvl K), nI (bl K), nI (hn K)) hx hb hr rfl hlocks hP hD hS (by rw [a_does_5 hk]; exact ⟨hw114.1, R_goS hR hw114.2.1 hw114.2.2⟩) dX5_does_117
  · refine tp (y := 6) (by rw [hk]; rfl) ?_
    refine lv_tableIn (off := 97) (tgt := 118) hx hb dX5_does_21 (by decide) (by decide) (by decide) (by decide) ?_
    refine lv_aload_n hx hb dX5_does_118 rfl (lv_at hl 2 rfl) ?_
    refine lv_iload hx hb dX5_does_119 (lv_at hl 0 rfl) ?_
    refine tp (y := nI (G.2.1 p act / 100 % 10)) (hki.2.2.1 (by omega) (by omega)) ?_
    refine lv_aload_n hx hb dX5_does_121 rfl (lv_at hl 2 rfl) ?_
    refine va_get (D := D) (ci := 5) (v := .ref (a 4)) (C := RX5) (T := TX5) (N := 21) hx hb hts inX5 hown hK hP 0 rfl rfl 4 (by decide) fl19 (fun _ h9 => h9) rfl dX5_does_122 ?_
    refine lv_iload_n hx hb dX5_does_125 rfl (lv_at hl 1 rfl) ?_
    refine xi_ald hx hb hK hP 4 0 rfl rfl (k := (40 * p + act)) (by omega) (by decide) dX5_does_126 ?_
    refine tp (y := nI (G.2.1 p act / 10 % 10)) (hki.2.2.2.1 (by omega) (by omega)) ?_
    refine lv_aload_n hx hb dX5_does_127 rfl (lv_at hl 2 rfl) ?_
    refine va_get (D := D) (ci := 5) (v := .ref (a 5)) (C := RX5) (T := TX5) (N := 21) hx hb hts inX5 hown hK hP 0 rfl rfl 5 (by decide) fl22 (fun _ h9 => h9) rfl dX5_does_128 ?_
    refine lv_iload_n hx hb dX5_does_131 rfl (lv_at hl 1 rfl) ?_
    refine xi_ald hx hb hK hP 5 0 rfl rfl (k := (40 * p + act)) (by omega) (by decide) dX5_does_132 ?_
    refine tp (y := nI (G.2.1 p act % 10)) (hki.2.2.2.2 hk) ?_
    refine cl_Vi ([]) ([]) (As := [.int (nI (G.2.1 p act / 100 % 10)), .int (nI (G.2.1 p act / 10 % 10)), .int (nI (G.2.1 p act % 10))]) (rest := []) (c_X5_move l D cI cZ a v t r (nI (lvl K)) (nI (bl K)) (nI (hn K)) G.2.2 h2 go h3 (G.2.1 p act / 100 % 10) (G.2.1 p act / 10 % 10) (G.2.1 p act % 10) (by omega) (by omega) (by omega)) ⟨hx, hb, hml, hown, hts⟩ (cwV 3 hts gX5_does_X5_move rfl rfl rfl (by decide +kernel) ⟨Nat.le_of_ble_eq_true rfl, Nat.le_of_ble_eq_true rfl⟩) hK hns hP hD hS hA rfl (T := TX5) (N := 21) rfl rfl hl.1 rfl (Nat.le_of_ble_eq_true rfl) dX5_does_133 ⟨Nat.zero_le _, Nat.zero_le _⟩ (fun r133 u133 H locs hw133 hP hD hS => ?_)
    have hP : va_P D vwCl [(a 0, .inr (5, [.int t, .ref (a 1), .ref (a 2), .ref (a 3), .ref (a 4), .ref (a 5), .ref (a 6), .ref (a 7), .ref (a 8), .ref (a 9), .int r, .ref (a 11), .ref (a 12), .ref (a 13), .ref (a 14), .int (nI (lvl K)), .ref (a 16), .ref (a 17), .ref (a 18), .int (nI (bl K)), .int (nI (hn K))])), (a 1, .inl (cI, 6, .inl (v 1))), (a 2, .inl (cI, 240, .inl (v 2))), (a 3, .inl (cI, 240, .inl (v 3))), (a 4, .inl (cI, 240, .inl (v 4))), (a 5, .inl (cI, 240, .inl (v 5))), (a 6, .inl (cZ, 8, .inl (v 6))), (a 7, .inl (cI, 8, .inl u133)), (a 8, .inl (cI, 8, .inl (v 8))), (a 9, .inl (cI, 8, .inl (v 9))), (a 11, .inl (cI, 8, .inl (v 11))), (a 12, .inl (cI, 10, .inl (v 12))), (a 13, .inl (cI, 5, .inl (v 13))), (a 14, .inl (cI, 5, .inl (v 14))), (a 16, .inl (cI, 128, .inl (v 16))), (a 17, .inl (cI, 128, .inl (v 17))), (a 18, .inl (cI, 128, .inl (v 18)))] H := hP
    have hD : va_D A [(a 0, .inr (5, [.int t, .ref (a 1), .ref (a 2), .ref (a 3), .ref (a 4), .ref (a 5), .ref (a 6), .ref (a 7), .ref (a 8), .ref (a 9), .int r, .ref (a 11), .ref (a 12), .ref (a 13), .ref (a 14), .int (nI (lvl K)), .ref (a 16), .ref (a 17), .ref (a 18), .int (nI (bl K)), .int (nI (hn K))])), (a 1, .inl (cI, 6, .inl (v 1))), (a 2, .inl (cI, 240, .inl (v 2))), (a 3, .inl (cI, 240, .inl (v 3))), (a 4, .inl (cI, 240, .inl (v 4))), (a 5, .inl (cI, 240, .inl (v 5))), (a 6, .inl (cZ, 8, .inl (v 6))), (a 7, .inl (cI, 8, .inl u133)), (a 8, .inl (cI, 8, .inl (v 8))), (a 9, .inl (cI, 8, .inl (v 9))), (a 11, .inl (cI, 8, .inl (v 11))), (a 12, .inl (cI, 10, .inl (v 12))), (a 13, .inl (cI, 5, .inl (v 13))), (a 14, .inl (cI, 5, .inl (v 14))), (a 16, .inl (cI, 128, .inl (v 16))), (a 17, .inl (cI, 128, .inl (v 17))), (a 18, .inl (cI, 128, .inl (v 18)))] := hD
    exact Ri (D := D) (va_up v 7 u133, r, nI (lvl K), nI (bl K), nI (hn K)) hx hb hr rfl hlocks hP hD hS (by rw [a_does_6 hk]; exact ⟨hw133.1, R_go hR hw133.2⟩) dX5_does_136
  · refine tp (y := 7) (by rw [hk]; rfl) ?_
    refine lv_tableIn (off := 116) (tgt := 137) hx hb dX5_does_21 (by decide) (by decide) (by decide) (by decide) ?_
    refine lv_iload hx hb dX5_does_137 (lv_at hl 0 rfl) ?_
    refine tp (y := nI (G.2.1 p act / 100 % 10)) (hki.2.2.1 (by omega) (by omega)) ?_
    exact Ri (D := D) (v, r, nI (lvl K), nI (bl K), nI (hn K)) hx hb hr rfl hlocks hP hD hS (by rw [a_does_7 hk]; exact ⟨rfl, hR, rfl, rfl, rfl⟩) dX5_does_139
  · refine tp (y := 8) (by rw [hk]; rfl) ?_
    refine lv_tableIn (off := 119) (tgt := 140) hx hb dX5_does_21 (by decide) (by decide) (by decide) (by decide) ?_
    refine lv_aload_n hx hb dX5_does_140 rfl (lv_at hl 2 rfl) ?_
    refine lv_iload hx hb dX5_does_141 (lv_at hl 0 rfl) ?_
    refine tp (y := nI (G.2.1 p act / 100 % 10)) (hki.2.2.1 (by omega) (by omega)) ?_
    refine cl_Vi ([]) ([]) (As := [.int (nI (G.2.1 p act / 100 % 10))]) (rest := []) (c_X5_call l D cI cZ a v t r (nI (bl K)) (nI (hn K)) (lvl K) hlv G.1 G.2.1 h1 (G.2.1 p act / 100 % 10) (by omega)) ⟨hx, hb, hml, hown, hts⟩ (cwV 1 hts gX5_does_X5_call rfl rfl rfl (by decide +kernel) ⟨Nat.le_of_ble_eq_true rfl, Nat.le_of_ble_eq_true rfl⟩) hK hns hP hD hS hA rfl (T := TX5) (N := 21) rfl rfl hl.1 rfl (Nat.le_of_ble_eq_true rfl) dX5_does_143 ⟨Nat.zero_le _, Nat.zero_le _⟩ (fun r143 u143 H locs hw143 hP hD hS => ?_)
    have hP : va_P D vwCl [(a 0, .inr (5, [.int t, .ref (a 1), .ref (a 2), .ref (a 3), .ref (a 4), .ref (a 5), .ref (a 6), .ref (a 7), .ref (a 8), .ref (a 9), .int r, .ref (a 11), .ref (a 12), .ref (a 13), .ref (a 14), .int u143.2, .ref (a 16), .ref (a 17), .ref (a 18), .int (nI (bl K)), .int (nI (hn K))])), (a 1, .inl (cI, 6, .inl (u143.1 1))), (a 2, .inl (cI, 240, .inl (u143.1 2))), (a 3, .inl (cI, 240, .inl (u143.1 3))), (a 4, .inl (cI, 240, .inl (u143.1 4))), (a 5, .inl (cI, 240, .inl (u143.1 5))), (a 6, .inl (cZ, 8, .inl (u143.1 6))), (a 7, .inl (cI, 8, .inl (u143.1 7))), (a 8, .inl (cI, 8, .inl (u143.1 8))), (a 9, .inl (cI, 8, .inl (u143.1 9))), (a 11, .inl (cI, 8, .inl (u143.1 11))), (a 12, .inl (cI, 10, .inl (u143.1 12))), (a 13, .inl (cI, 5, .inl (u143.1 13))), (a 14, .inl (cI, 5, .inl (u143.1 14))), (a 16, .inl (cI, 128, .inl (u143.1 16))), (a 17, .inl (cI, 128, .inl (u143.1 17))), (a 18, .inl (cI, 128, .inl (u143.1 18)))] H := hP
    have hD : va_D A [(a 0, .inr (5, [.int t, .ref (a 1), .ref (a 2), .ref (a 3), .ref (a 4), .ref (a 5), .ref (a 6), .ref (a 7), .ref (a 8), .ref (a 9), .int r, .ref (a 11), .ref (a 12), .ref (a 13), .ref (a 14), .int u143.2, .ref (a 16), .ref (a 17), .ref (a 18), .int (nI (bl K)), .int (nI (hn K))])), (a 1, .inl (cI, 6, .inl (u143.1 1))), (a 2, .inl (cI, 240, .inl (u143.1 2))), (a 3, .inl (cI, 240, .inl (u143.1 3))), (a 4, .inl (cI, 240, .inl (u143.1 4))), (a 5, .inl (cI, 240, .inl (u143.1 5))), (a 6, .inl (cZ, 8, .inl (u143.1 6))), (a 7, .inl (cI, 8, .inl (u143.1 7))), (a 8, .inl (cI, 8, .inl (u143.1 8))), (a 9, .inl (cI, 8, .inl (u143.1 9))), (a 11, .inl (cI, 8, .inl (u143.1 11))), (a 12, .inl (cI, 10, .inl (u143.1 12))), (a 13, .inl (cI, 5, .inl (u143.1 13))), (a 14, .inl (cI, 5, .inl (u143.1 14))), (a 16, .inl (cI, 128, .inl (u143.1 16))), (a 17, .inl (cI, 128, .inl (u143.1 17))), (a 18, .inl (cI, 128, .inl (u143.1 18)))] := hD
    exact Ri (D := D) (u143.1, r, u143.2, nI (bl K), nI (hn K)) hx hb hr rfl hlocks hP hD hS (by rw [a_does_8 hk]; exact R_call rfl hR hw143) dX5_does_146
  · refine tp (y := 9) (by rw [hk]; rfl) ?_
    refine lv_tableOut (tgt := 147) hx hb dX5_does_21 (by decide) (by decide) ?_
    refine lv_iconst (v := 0) hx hb dX5_does_147 (by decide) ?_
    exact Ri (D := D) (v, r, nI (lvl K), nI (bl K), nI (hn K)) hx hb hr rfl hlocks hP hD hS (by rw [a_does_9 hk]; exact ⟨rfl, hR, rfl, rfl, rfl⟩) dX5_does_148

set_option maxHeartbeats 4000000 in
set_option maxRecDepth 100000 in
theorem c_X5_isCaught (l : Launch) (D : va_G) (cI cZ : ClassId) (a : Nat → Nat) (v0 : Nat → Nat → Int32) (t r lv : Int32) (G : GP) (go : Nat → Nat) (lf0 : Nat → Int32) (rs : Int32) (td0' ct0 : Nat → Int32) (st p0 nx0 : Nat) (K0 : KL) (d0 : Int) (f : Nat) (hf0 : 0 < f) (hf9 : f ≤ 9) (hR0 : Rp G go lf0 rs td0' ct0 (cnt K0) v0 r) (hst0 : Rst v0 K0) (hvp0 : v0 13 (lvl K0) = nI p0) (hp60 : p0 < 6) (hcl0 : clo (G.1 p0) (G.2.1 p0)) (hwf0 : WF G p0 d0 K0) (hKl0 : K0.length ≤ 64) (hlv0 : lvl K0 ≤ 4) : Ci l D [(cI, .int), (cZ, .boolean)] yX5_isCaught wsX5_isCaught ({ frames := 1, cells := 0, slots := 0, locals := 25 }) [.ref (a 0), .int (nI f)] (wM a cI cZ v0 t r lv (nI (bl K0)) (nI (hn K0))) (S := RS) (fun w u => ((unw G f K0 lf0 td0' ct0 p0 nx0).1 = true ∧ w = 1 ∧ Rr G (go, (unw G f K0 lf0 td0' ct0 p0 nx0).2.1, rs, (unw G f K0 lf0 td0' ct0 p0 nx0).2.2.1, (unw G f K0 lf0 td0' ct0 p0 nx0).2.2.2.1, st, (unw G f K0 lf0 td0' ct0 p0 nx0).2.2.2.2.1, (unw G f K0 lf0 td0' ct0 p0 nx0).2.2.2.2.2.1, (unw G f K0 lf0 td0' ct0 p0 nx0).2.2.2.2.2.2) u) ∨ ((unw G f K0 lf0 td0' ct0 p0 nx0).1 = false ∧ w = 0 ∧ Rp G go (unw G f K0 lf0 td0' ct0 p0 nx0).2.1 rs (unw G f K0 lf0 td0' ct0 p0 nx0).2.2.1 (unw G f K0 lf0 td0' ct0 p0 nx0).2.2.2.1 (cnt []) u.1 u.2.1 ∧ u.2.2.2.1 = nI 0 ∧ u.2.2.2.2 = nI 0)) (fun u => wM a cI cZ u.1 t u.2.1 u.2.2.1 u.2.2.2.1 u.2.2.2.2) := by
  refine Ci.mk (cc := cX5_isCaught) (maxL := 3) (ret := (some .boolean)) (by decide +kernel) rfl (Nat.le_of_ble_eq_true rfl) ?_
  intro pg e s m below meth c A ls hx hb hml hr hown hts hlocks hK hns hA hP hD hS hl
  have hl : lv_has ls 3 [(0, .ref (a 0)), (1, .int (nI f))] := hl
  have fl81 := hts (.fieldLink RX5 81 "HeldShelvesModel" "blocks" "I") (List.mem_of_getElem? (i := 1) rfl)
  have inX5 : ∀ w ∈ wsX50, w ∈ wsX5_isCaught := fun _ h => List.mem_cons_of_mem _ (List.mem_append_right _ h)
  have fl50 := hts (.fieldLink RX5 50 "HeldShelvesModel" "block" "[I") (List.mem_of_getElem? (i := 2) rfl)
  have fl56 := hts (.fieldLink RX5 56 "HeldShelvesModel" "blockLevel" "[I") (List.mem_of_getElem? (i := 3) rfl)
  have fl84 := hts (.fieldLink RX5 84 "HeldShelvesModel" "level" "I") (List.mem_of_getElem? (i := 4) rfl)
  have fl47 := hts (.fieldLink RX5 47 "HeldShelvesModel" "actAt" "[I") (List.mem_of_getElem? (i := 5) rfl)
  have fl44 := hts (.fieldLink RX5 44 "HeldShelvesModel" "planAt" "[I") (List.mem_of_getElem? (i := 6) rfl)
  have fl53 := hts (.fieldLink RX5 53 "HeldShelvesModel" "blockAct" "[I") (List.mem_of_getElem? (i := 7) rfl)
  have fl41 := hts (.fieldLink RX5 41 "HeldShelvesModel" "caught" "[I") (List.mem_of_getElem? (i := 8) rfl)
  have fl38 := hts (.fieldLink RX5 38 "HeldShelvesModel" "told" "[I") (List.mem_of_getElem? (i := 9) rfl)
  have hP : va_P D vwCl [(a 0, .inr (5, [.int t, .ref (a 1), .ref (a 2), .ref (a 3), .ref (a 4), .ref (a 5), .ref (a 6), .ref (a 7), .ref (a 8), .ref (a 9), .int r, .ref (a 11), .ref (a 12), .ref (a 13), .ref (a 14), .int lv, .ref (a 16), .ref (a 17), .ref (a 18), .int (nI (bl K0)), .int (nI (hn K0))])), (a 1, .inl (cI, 6, .inl (v0 1))), (a 2, .inl (cI, 240, .inl (v0 2))), (a 3, .inl (cI, 240, .inl (v0 3))), (a 4, .inl (cI, 240, .inl (v0 4))), (a 5, .inl (cI, 240, .inl (v0 5))), (a 6, .inl (cZ, 8, .inl (v0 6))), (a 7, .inl (cI, 8, .inl (v0 7))), (a 8, .inl (cI, 8, .inl (v0 8))), (a 9, .inl (cI, 8, .inl (v0 9))), (a 11, .inl (cI, 8, .inl (v0 11))), (a 12, .inl (cI, 10, .inl (v0 12))), (a 13, .inl (cI, 5, .inl (v0 13))), (a 14, .inl (cI, 5, .inl (v0 14))), (a 16, .inl (cI, 128, .inl (v0 16))), (a 17, .inl (cI, 128, .inl (v0 17))), (a 18, .inl (cI, 128, .inl (v0 18)))] s.heap := hP
  have hD : va_D A [(a 0, .inr (5, [.int t, .ref (a 1), .ref (a 2), .ref (a 3), .ref (a 4), .ref (a 5), .ref (a 6), .ref (a 7), .ref (a 8), .ref (a 9), .int r, .ref (a 11), .ref (a 12), .ref (a 13), .ref (a 14), .int lv, .ref (a 16), .ref (a 17), .ref (a 18), .int (nI (bl K0)), .int (nI (hn K0))])), (a 1, .inl (cI, 6, .inl (v0 1))), (a 2, .inl (cI, 240, .inl (v0 2))), (a 3, .inl (cI, 240, .inl (v0 3))), (a 4, .inl (cI, 240, .inl (v0 4))), (a 5, .inl (cI, 240, .inl (v0 5))), (a 6, .inl (cZ, 8, .inl (v0 6))), (a 7, .inl (cI, 8, .inl (v0 7))), (a 8, .inl (cI, 8, .inl (v0 8))), (a 9, .inl (cI, 8, .inl (v0 9))), (a 11, .inl (cI, 8, .inl (v0 11))), (a 12, .inl (cI, 10, .inl (v0 12))), (a 13, .inl (cI, 5, .inl (v0 13))), (a 14, .inl (cI, 5, .inl (v0 14))), (a 16, .inl (cI, 128, .inl (v0 16))), (a 17, .inl (cI, 128, .inl (v0 17))), (a 18, .inl (cI, 128, .inl (v0 18)))] := hD
  have loop0 : ∀ (K : KL) (lf td ct : Nat → Int32) (p nx : Nat) (d : Int) (v : Nat → Nat → Int32), unw G f K0 lf0 td0' ct0 p0 nx0 = unw G f K lf td ct p nx → Rp G go lf rs td ct (cnt K) v r → Rst v K → v 13 (lvl K) = nI p → p < 6 → clo (G.1 p) (G.2.1 p) → WF G p d K → K.length ≤ 64 → lvl K ≤ 4 → ∀ (H : Heap) (locs : List Loc), va_P D vwCl (wM a cI cZ v t r lv (nI (bl K)) (nI (hn K))) H → va_D A (wM a cI cZ v t r lv (nI (bl K)) (nI (hn K))) → va_S A s.heap H locs → ∀ (ls : Array Slot), lv_has ls 3 [(0, .ref (a 0)), (1, .int (nI f))] → W pg l e ({ frames := 1, cells := 0, slots := 0, locals := 25 } : Room) s m ([.ref (a 0), .int (nI f)] : List Value).toArray below meth c H locs 0 0 (Qi D below ([.ref (a 0), .int (nI f)] : List Value).toArray s A (S := RS) (fun w u => ((unw G f K0 lf0 td0' ct0 p0 nx0).1 = true ∧ w = 1 ∧ Rr G (go, (unw G f K0 lf0 td0' ct0 p0 nx0).2.1, rs, (unw G f K0 lf0 td0' ct0 p0 nx0).2.2.1, (unw G f K0 lf0 td0' ct0 p0 nx0).2.2.2.1, st, (unw G f K0 lf0 td0' ct0 p0 nx0).2.2.2.2.1, (unw G f K0 lf0 td0' ct0 p0 nx0).2.2.2.2.2.1, (unw G f K0 lf0 td0' ct0 p0 nx0).2.2.2.2.2.2) u) ∨ ((unw G f K0 lf0 td0' ct0 p0 nx0).1 = false ∧ w = 0 ∧ Rp G go (unw G f K0 lf0 td0' ct0 p0 nx0).2.1 rs (unw G f K0 lf0 td0' ct0 p0 nx0).2.2.1 (unw G f K0 lf0 td0' ct0 p0 nx0).2.2.2.1 (cnt []) u.1 u.2.1 ∧ u.2.2.2.1 = nI 0 ∧ u.2.2.2.2 = nI 0)) (fun u => wM a cI cZ u.1 t u.2.1 u.2.2.1 u.2.2.2.1 u.2.2.2.2)) (F0 m 0 ls []) := by
    intro K
    induction K with
    | nil =>
      intro lf td ct p nx d v hu hR hst hvp hp6 hcl hwf hKl hlv H locs hP hD hS ls hl
      have hP : va_P D vwCl [(a 0, .inr (5, [.int t, .ref (a 1), .ref (a 2), .ref (a 3), .ref (a 4), .ref (a 5), .ref (a 6), .ref (a 7), .ref (a 8), .ref (a 9), .int r, .ref (a 11), .ref (a 12), .ref (a 13), .ref (a 14), .int lv, .ref (a 16), .ref (a 17), .ref (a 18), .int (nI 0), .int (nI 0)])), (a 1, .inl (cI, 6, .inl (v 1))), (a 2, .inl (cI, 240, .inl (v 2))), (a 3, .inl (cI, 240, .inl (v 3))), (a 4, .inl (cI, 240, .inl (v 4))), (a 5, .inl (cI, 240, .inl (v 5))), (a 6, .inl (cZ, 8, .inl (v 6))), (a 7, .inl (cI, 8, .inl (v 7))), (a 8, .inl (cI, 8, .inl (v 8))), (a 9, .inl (cI, 8, .inl (v 9))), (a 11, .inl (cI, 8, .inl (v 11))), (a 12, .inl (cI, 10, .inl (v 12))), (a 13, .inl (cI, 5, .inl (v 13))), (a 14, .inl (cI, 5, .inl (v 14))), (a 16, .inl (cI, 128, .inl (v 16))), (a 17, .inl (cI, 128, .inl (v 17))), (a 18, .inl (cI, 128, .inl (v 18)))] H := hP
      have hD : va_D A [(a 0, .inr (5, [.int t, .ref (a 1), .ref (a 2), .ref (a 3), .ref (a 4), .ref (a 5), .ref (a 6), .ref (a 7), .ref (a 8), .ref (a 9), .int r, .ref (a 11), .ref (a 12), .ref (a 13), .ref (a 14), .int lv, .ref (a 16), .ref (a 17), .ref (a 18), .int (nI 0), .int (nI 0)])), (a 1, .inl (cI, 6, .inl (v 1))), (a 2, .inl (cI, 240, .inl (v 2))), (a 3, .inl (cI, 240, .inl (v 3))), (a 4, .inl (cI, 240, .inl (v 4))), (a 5, .inl (cI, 240, .inl (v 5))), (a 6, .inl (cZ, 8, .inl (v 6))), (a 7, .inl (cI, 8, .inl (v 7))), (a 8, .inl (cI, 8, .inl (v 8))), (a 9, .inl (cI, 8, .inl (v 9))), (a 11, .inl (cI, 8, .inl (v 11))), (a 12, .inl (cI, 10, .inl (v 12))), (a 13, .inl (cI, 5, .inl (v 13))), (a 14, .inl (cI, 5, .inl (v 14))), (a 16, .inl (cI, 128, .inl (v 16))), (a 17, .inl (cI, 128, .inl (v 17))), (a 18, .inl (cI, 128, .inl (v 18)))] := hD
      refine lv_aload_n hx hb dX5_isCaught_0 rfl (lv_at hl 0 rfl) ?_
      refine va_get (D := D) (ci := 5) (v := .int (nI 0)) (C := RX5) (T := TX5) (N := 21) hx hb hts inX5 hown hK hP 0 rfl rfl 19 (by decide) fl81 (fun _ h9 => h9) rfl dX5_isCaught_1 ?_
      refine lv_if_le (tgt := 108) hx hb dX5_isCaught_4 (by decide) (fun c_4 => ?_) (fun c_4 => ?_)
      · have c_4 : 0 ≤ 0 := (nI_leI (a := 0) (b := 0) (by omega) (by omega)).mp c_4
        refine lv_iconst (v := 0) hx hb dX5_isCaught_108 (by decide) ?_
        exact Ri (D := D) (v, r, lv, nI 0, nI 0) hx hb hr (by decide) hlocks hP hD hS (Or.inr (by rw [hu]; exact ⟨rfl, rfl, hR, rfl, rfl⟩)) dX5_isCaught_109
      · have c_4 : ¬ (0 ≤ 0) := fun h => c_4 ((nI_leI (a := 0) (b := 0) (by omega) (by omega)).mpr h)
        exact absurd c_4 (by omega)
    | cons e K ih =>
      intro lf td ct p nx d v hu hR hst hvp hp6 hcl hwf hKl hlv H locs hP hD hS ls hl
      obtain ⟨e0, e1, e2⟩ := e
      obtain ⟨hs8, hs0, hs1, hsK⟩ := hst
      have hKl : K.length + 1 ≤ 64 := hKl
      have hbl := bl_le K
      have hlK : lvl K ≤ 4 := by simp only [lvl] at hlv; omega
      rcases hwf with ⟨he, hx8, hw⟩ | ⟨he, hx10, hact, hkd, hdp, hw⟩ | ⟨he, hd0, hq6, hqc, hqn, hw⟩
      · simp only at he; subst he
        have hx8 : e1 < 8 := hx8
        have hP : va_P D vwCl [(a 0, .inr (5, [.int t, .ref (a 1), .ref (a 2), .ref (a 3), .ref (a 4), .ref (a 5), .ref (a 6), .ref (a 7), .ref (a 8), .ref (a 9), .int r, .ref (a 11), .ref (a 12), .ref (a 13), .ref (a 14), .int lv, .ref (a 16), .ref (a 17), .ref (a 18), .int (nI (bl K + 1)), .int (nI (hn K + 1))])), (a 1, .inl (cI, 6, .inl (v 1))), (a 2, .inl (cI, 240, .inl (v 2))), (a 3, .inl (cI, 240, .inl (v 3))), (a 4, .inl (cI, 240, .inl (v 4))), (a 5, .inl (cI, 240, .inl (v 5))), (a 6, .inl (cZ, 8, .inl (v 6))), (a 7, .inl (cI, 8, .inl (v 7))), (a 8, .inl (cI, 8, .inl (v 8))), (a 9, .inl (cI, 8, .inl (v 9))), (a 11, .inl (cI, 8, .inl (v 11))), (a 12, .inl (cI, 10, .inl (v 12))), (a 13, .inl (cI, 5, .inl (v 13))), (a 14, .inl (cI, 5, .inl (v 14))), (a 16, .inl (cI, 128, .inl (v 16))), (a 17, .inl (cI, 128, .inl (v 17))), (a 18, .inl (cI, 128, .inl (v 18)))] H := hP
        have hD : va_D A [(a 0, .inr (5, [.int t, .ref (a 1), .ref (a 2), .ref (a 3), .ref (a 4), .ref (a 5), .ref (a 6), .ref (a 7), .ref (a 8), .ref (a 9), .int r, .ref (a 11), .ref (a 12), .ref (a 13), .ref (a 14), .int lv, .ref (a 16), .ref (a 17), .ref (a 18), .int (nI (bl K + 1)), .int (nI (hn K + 1))])), (a 1, .inl (cI, 6, .inl (v 1))), (a 2, .inl (cI, 240, .inl (v 2))), (a 3, .inl (cI, 240, .inl (v 3))), (a 4, .inl (cI, 240, .inl (v 4))), (a 5, .inl (cI, 240, .inl (v 5))), (a 6, .inl (cZ, 8, .inl (v 6))), (a 7, .inl (cI, 8, .inl (v 7))), (a 8, .inl (cI, 8, .inl (v 8))), (a 9, .inl (cI, 8, .inl (v 9))), (a 11, .inl (cI, 8, .inl (v 11))), (a 12, .inl (cI, 10, .inl (v 12))), (a 13, .inl (cI, 5, .inl (v 13))), (a 14, .inl (cI, 5, .inl (v 14))), (a 16, .inl (cI, 128, .inl (v 16))), (a 17, .inl (cI, 128, .inl (v 17))), (a 18, .inl (cI, 128, .inl (v 18)))] := hD
        refine lv_aload_n hx hb dX5_isCaught_0 rfl (lv_at hl 0 rfl) ?_
        refine va_get (D := D) (ci := 5) (v := .int (nI (bl K + 1))) (C := RX5) (T := TX5) (N := 21) hx hb hts inX5 hown hK hP 0 rfl rfl 19 (by decide) fl81 (fun _ h9 => h9) rfl dX5_isCaught_1 ?_
        refine lv_if_le (tgt := 108) hx hb dX5_isCaught_4 (by decide) (fun c_4 => ?_) (fun c_4 => ?_)
        · have c_4 : (bl K + 1) ≤ 0 := (nI_leI (a := (bl K + 1)) (b := 0) (by omega) (by omega)).mp c_4
          exact absurd c_4 (by omega)
        · have c_4 : ¬ ((bl K + 1) ≤ 0) := fun h => c_4 ((nI_leI (a := (bl K + 1)) (b := 0) (by omega) (by omega)).mpr h)
          refine lv_aload_n hx hb dX5_isCaught_7 rfl (lv_at hl 0 rfl) ?_
          refine va_get (D := D) (ci := 5) (v := .ref (a 16)) (C := RX5) (T := TX5) (N := 21) hx hb hts inX5 hown hK hP 0 rfl rfl 16 (by decide) fl50 (fun _ h9 => h9) rfl dX5_isCaught_8 ?_
          refine lv_aload_n hx hb dX5_isCaught_11 rfl (lv_at hl 0 rfl) ?_
          refine va_get (D := D) (ci := 5) (v := .int (nI (bl K + 1))) (C := RX5) (T := TX5) (N := 21) hx hb hts inX5 hown hK hP 0 rfl rfl 19 (by decide) fl81 (fun _ h9 => h9) rfl dX5_isCaught_12 ?_
          refine lv_iconst (v := 1) hx hb dX5_isCaught_15 (by decide) ?_
          refine lv_isub hx hb dX5_isCaught_16 ?_
          refine tp (y := nI (bl K)) (nI_pred _) ?_
          refine xi_ald hx hb hK hP 14 0 rfl rfl (k := (bl K)) (by omega) (by decide) dX5_isCaught_17 ?_
          refine tp (y := nI e1) (hs0 rfl) ?_
          refine lv_istore_n (lv' := [(2, .int (nI e1)), (0, .ref (a 0)), (1, .int (nI f))]) hx hb dX5_isCaught_18 rfl hl (by decide) rfl (fun ls hl => ?_)
          refine lv_aload_n hx hb dX5_isCaught_19 rfl (lv_at hl 1 rfl) ?_
          refine lv_iconst (v := 1) hx hb dX5_isCaught_20 (by decide) ?_
          refine cl_Vv ([]) ([]) (As := [.int 1]) (rest := []) (c_X5_closes1H l D cI cZ a v t r lv (nI (hn K + 1)) (bl K) (by omega) e1 hx8 (hs0 rfl)) ⟨hx, hb, hml, hown, hts⟩ (cwV 1 hts gX5_isCaught_X5_closes rfl rfl rfl (by decide +kernel) ⟨Nat.le_of_ble_eq_true rfl, Nat.le_of_ble_eq_true rfl⟩) hK hns hP hD hS hA rfl (T := TX5) (N := 21) rfl rfl hl.1 rfl (Nat.le_of_ble_eq_true rfl) dX5_isCaught_21 ⟨Nat.zero_le _, Nat.zero_le _⟩ (fun u21 H locs hw21 hP hD hS => ?_)
          have hP : va_P D vwCl [(a 0, .inr (5, [.int t, .ref (a 1), .ref (a 2), .ref (a 3), .ref (a 4), .ref (a 5), .ref (a 6), .ref (a 7), .ref (a 8), .ref (a 9), .int r, .ref (a 11), .ref (a 12), .ref (a 13), .ref (a 14), .int lv, .ref (a 16), .ref (a 17), .ref (a 18), .int (nI (bl K)), .int (nI (hn K + 1) - 1)])), (a 1, .inl (cI, 6, .inl (v 1))), (a 2, .inl (cI, 240, .inl (v 2))), (a 3, .inl (cI, 240, .inl (v 3))), (a 4, .inl (cI, 240, .inl (v 4))), (a 5, .inl (cI, 240, .inl (v 5))), (a 6, .inl (cZ, 8, .inl (v 6))), (a 7, .inl (cI, 8, .inl (v 7))), (a 8, .inl (cI, 8, .inl (upd (v 8) e1 (v 8 e1 + 1)))), (a 9, .inl (cI, 8, .inl (upd (v 9) e1 (v 9 e1 - 1)))), (a 11, .inl (cI, 8, .inl (v 11))), (a 12, .inl (cI, 10, .inl (v 12))), (a 13, .inl (cI, 5, .inl (v 13))), (a 14, .inl (cI, 5, .inl (v 14))), (a 16, .inl (cI, 128, .inl (v 16))), (a 17, .inl (cI, 128, .inl (v 17))), (a 18, .inl (cI, 128, .inl (v 18)))] H := hP
          have hD : va_D A [(a 0, .inr (5, [.int t, .ref (a 1), .ref (a 2), .ref (a 3), .ref (a 4), .ref (a 5), .ref (a 6), .ref (a 7), .ref (a 8), .ref (a 9), .int r, .ref (a 11), .ref (a 12), .ref (a 13), .ref (a 14), .int lv, .ref (a 16), .ref (a 17), .ref (a 18), .int (nI (bl K)), .int (nI (hn K + 1) - 1)])), (a 1, .inl (cI, 6, .inl (v 1))), (a 2, .inl (cI, 240, .inl (v 2))), (a 3, .inl (cI, 240, .inl (v 3))), (a 4, .inl (cI, 240, .inl (v 4))), (a 5, .inl (cI, 240, .inl (v 5))), (a 6, .inl (cZ, 8, .inl (v 6))), (a 7, .inl (cI, 8, .inl (v 7))), (a 8, .inl (cI, 8, .inl (upd (v 8) e1 (v 8 e1 + 1)))), (a 9, .inl (cI, 8, .inl (upd (v 9) e1 (v 9 e1 - 1)))), (a 11, .inl (cI, 8, .inl (v 11))), (a 12, .inl (cI, 10, .inl (v 12))), (a 13, .inl (cI, 5, .inl (v 13))), (a 14, .inl (cI, 5, .inl (v 14))), (a 16, .inl (cI, 128, .inl (v 16))), (a 17, .inl (cI, 128, .inl (v 17))), (a 18, .inl (cI, 128, .inl (v 18)))] := hD
          rw [nI_pred] at hP hD
          refine lv_iload_n hx hb dX5_isCaught_24 rfl (lv_at hl 0 rfl) ?_
          refine lv_bipush (v := 10) hx hb dX5_isCaught_25 (by decide) ?_
          refine lv_icmp_eq (tgt := 38) hx hb dX5_isCaught_27 (by decide) (fun c_27 => ?_) (fun c_27 => ?_)
          · have c_27 : e1 = 10 := (nI_eq (a := e1) (b := 10) (by omega) (by omega)).mp c_27
            exact absurd c_27 (by omega)
          · have c_27 : ¬ (e1 = 10) := fun h => c_27 ((nI_eq (a := e1) (b := 10) (by omega) (by omega)).mpr h)
            refine lv_iload_n hx hb dX5_isCaught_30 rfl (lv_at hl 0 rfl) ?_
            refine lv_bipush (v := 10) hx hb dX5_isCaught_31 (by decide) ?_
            refine lv_iload_n hx hb dX5_isCaught_33 rfl (lv_at hl 2 rfl) ?_
            refine lv_iadd hx hb dX5_isCaught_34 ?_
            refine tp (y := nI (10 + f)) (nI_add 10 f) ?_
            refine lv_icmp_ne (tgt := 105) hx hb dX5_isCaught_35 (by decide) (fun c_35 => ?_) (fun c_35 => ?_)
            · have c_35 : ¬ (e1 = (10 + f)) := fun h => c_35 ((nI_eq (a := e1) (b := (10 + f)) (by omega) (by omega)).mpr h)
              refine lv_goto (tgt := 0) hx hb dX5_isCaught_105 (by decide) ?_
              exact ih (upd lf e1 (lf e1 + 1)) td ct p nx _ _ (hu.trans (unw_h e1 e2)) (Rp_pop (by omega) hR) (Rst_frame (v := v) (fun j hj => ⟨rfl, rfl, rfl⟩) (fun j hj => ⟨rfl, rfl⟩) hsK) hvp hp6 hcl hw (by omega) hlK _ _ hP hD hS ls (lv_sub hl [1, 2] rfl)
            · have c_35 : e1 = (10 + f) := (nI_eq (a := e1) (b := (10 + f)) (by omega) (by omega)).mp c_35
              exact absurd c_35 (by omega)
      · simp only at he; subst he
        have hx10 : e1 < 10 := hx10
        have hact : e2 < G.1 p := hact
        have hkd : G.2.1 p e2 / 1000 ≤ 1 := hkd
        have hP : va_P D vwCl [(a 0, .inr (5, [.int t, .ref (a 1), .ref (a 2), .ref (a 3), .ref (a 4), .ref (a 5), .ref (a 6), .ref (a 7), .ref (a 8), .ref (a 9), .int r, .ref (a 11), .ref (a 12), .ref (a 13), .ref (a 14), .int lv, .ref (a 16), .ref (a 17), .ref (a 18), .int (nI (bl K + 1)), .int (nI (hn K))])), (a 1, .inl (cI, 6, .inl (v 1))), (a 2, .inl (cI, 240, .inl (v 2))), (a 3, .inl (cI, 240, .inl (v 3))), (a 4, .inl (cI, 240, .inl (v 4))), (a 5, .inl (cI, 240, .inl (v 5))), (a 6, .inl (cZ, 8, .inl (v 6))), (a 7, .inl (cI, 8, .inl (v 7))), (a 8, .inl (cI, 8, .inl (v 8))), (a 9, .inl (cI, 8, .inl (v 9))), (a 11, .inl (cI, 8, .inl (v 11))), (a 12, .inl (cI, 10, .inl (v 12))), (a 13, .inl (cI, 5, .inl (v 13))), (a 14, .inl (cI, 5, .inl (v 14))), (a 16, .inl (cI, 128, .inl (v 16))), (a 17, .inl (cI, 128, .inl (v 17))), (a 18, .inl (cI, 128, .inl (v 18)))] H := hP
        have hD : va_D A [(a 0, .inr (5, [.int t, .ref (a 1), .ref (a 2), .ref (a 3), .ref (a 4), .ref (a 5), .ref (a 6), .ref (a 7), .ref (a 8), .ref (a 9), .int r, .ref (a 11), .ref (a 12), .ref (a 13), .ref (a 14), .int lv, .ref (a 16), .ref (a 17), .ref (a 18), .int (nI (bl K + 1)), .int (nI (hn K))])), (a 1, .inl (cI, 6, .inl (v 1))), (a 2, .inl (cI, 240, .inl (v 2))), (a 3, .inl (cI, 240, .inl (v 3))), (a 4, .inl (cI, 240, .inl (v 4))), (a 5, .inl (cI, 240, .inl (v 5))), (a 6, .inl (cZ, 8, .inl (v 6))), (a 7, .inl (cI, 8, .inl (v 7))), (a 8, .inl (cI, 8, .inl (v 8))), (a 9, .inl (cI, 8, .inl (v 9))), (a 11, .inl (cI, 8, .inl (v 11))), (a 12, .inl (cI, 10, .inl (v 12))), (a 13, .inl (cI, 5, .inl (v 13))), (a 14, .inl (cI, 5, .inl (v 14))), (a 16, .inl (cI, 128, .inl (v 16))), (a 17, .inl (cI, 128, .inl (v 17))), (a 18, .inl (cI, 128, .inl (v 18)))] := hD
        refine lv_aload_n hx hb dX5_isCaught_0 rfl (lv_at hl 0 rfl) ?_
        refine va_get (D := D) (ci := 5) (v := .int (nI (bl K + 1))) (C := RX5) (T := TX5) (N := 21) hx hb hts inX5 hown hK hP 0 rfl rfl 19 (by decide) fl81 (fun _ h9 => h9) rfl dX5_isCaught_1 ?_
        refine lv_if_le (tgt := 108) hx hb dX5_isCaught_4 (by decide) (fun c_4 => ?_) (fun c_4 => ?_)
        · have c_4 : (bl K + 1) ≤ 0 := (nI_leI (a := (bl K + 1)) (b := 0) (by omega) (by omega)).mp c_4
          exact absurd c_4 (by omega)
        · have c_4 : ¬ ((bl K + 1) ≤ 0) := fun h => c_4 ((nI_leI (a := (bl K + 1)) (b := 0) (by omega) (by omega)).mpr h)
          refine lv_aload_n hx hb dX5_isCaught_7 rfl (lv_at hl 0 rfl) ?_
          refine va_get (D := D) (ci := 5) (v := .ref (a 16)) (C := RX5) (T := TX5) (N := 21) hx hb hts inX5 hown hK hP 0 rfl rfl 16 (by decide) fl50 (fun _ h9 => h9) rfl dX5_isCaught_8 ?_
          refine lv_aload_n hx hb dX5_isCaught_11 rfl (lv_at hl 0 rfl) ?_
          refine va_get (D := D) (ci := 5) (v := .int (nI (bl K + 1))) (C := RX5) (T := TX5) (N := 21) hx hb hts inX5 hown hK hP 0 rfl rfl 19 (by decide) fl81 (fun _ h9 => h9) rfl dX5_isCaught_12 ?_
          refine lv_iconst (v := 1) hx hb dX5_isCaught_15 (by decide) ?_
          refine lv_isub hx hb dX5_isCaught_16 ?_
          refine tp (y := nI (bl K)) (nI_pred _) ?_
          refine xi_ald hx hb hK hP 14 0 rfl rfl (k := (bl K)) (by omega) (by decide) dX5_isCaught_17 ?_
          refine tp (y := nI (10 + e1)) ((hs1 rfl).1) ?_
          refine lv_istore_n (lv' := [(2, .int (nI (10 + e1))), (0, .ref (a 0)), (1, .int (nI f))]) hx hb dX5_isCaught_18 rfl hl (by decide) rfl (fun ls hl => ?_)
          refine lv_aload_n hx hb dX5_isCaught_19 rfl (lv_at hl 1 rfl) ?_
          refine lv_iconst (v := 1) hx hb dX5_isCaught_20 (by decide) ?_
          refine cl_Vv ([]) ([]) (As := [.int 1]) (rest := []) (c_X5_closes1T l D cI cZ a v t r lv (nI (hn K)) (bl K) (by omega) e1 hx10 (hs1 rfl).1) ⟨hx, hb, hml, hown, hts⟩ (cwV 1 hts gX5_isCaught_X5_closes rfl rfl rfl (by decide +kernel) ⟨Nat.le_of_ble_eq_true rfl, Nat.le_of_ble_eq_true rfl⟩) hK hns hP hD hS hA rfl (T := TX5) (N := 21) rfl rfl hl.1 rfl (Nat.le_of_ble_eq_true rfl) dX5_isCaught_21 ⟨Nat.zero_le _, Nat.zero_le _⟩ (fun u21 H locs hw21 hP hD hS => ?_)
          have hP : va_P D vwCl [(a 0, .inr (5, [.int t, .ref (a 1), .ref (a 2), .ref (a 3), .ref (a 4), .ref (a 5), .ref (a 6), .ref (a 7), .ref (a 8), .ref (a 9), .int r, .ref (a 11), .ref (a 12), .ref (a 13), .ref (a 14), .int lv, .ref (a 16), .ref (a 17), .ref (a 18), .int (nI (bl K)), .int (nI (hn K))])), (a 1, .inl (cI, 6, .inl (v 1))), (a 2, .inl (cI, 240, .inl (v 2))), (a 3, .inl (cI, 240, .inl (v 3))), (a 4, .inl (cI, 240, .inl (v 4))), (a 5, .inl (cI, 240, .inl (v 5))), (a 6, .inl (cZ, 8, .inl (v 6))), (a 7, .inl (cI, 8, .inl (v 7))), (a 8, .inl (cI, 8, .inl (v 8))), (a 9, .inl (cI, 8, .inl (v 9))), (a 11, .inl (cI, 8, .inl (v 11))), (a 12, .inl (cI, 10, .inl (v 12))), (a 13, .inl (cI, 5, .inl (v 13))), (a 14, .inl (cI, 5, .inl (v 14))), (a 16, .inl (cI, 128, .inl (v 16))), (a 17, .inl (cI, 128, .inl (v 17))), (a 18, .inl (cI, 128, .inl (v 18)))] H := hP
          have hD : va_D A [(a 0, .inr (5, [.int t, .ref (a 1), .ref (a 2), .ref (a 3), .ref (a 4), .ref (a 5), .ref (a 6), .ref (a 7), .ref (a 8), .ref (a 9), .int r, .ref (a 11), .ref (a 12), .ref (a 13), .ref (a 14), .int lv, .ref (a 16), .ref (a 17), .ref (a 18), .int (nI (bl K)), .int (nI (hn K))])), (a 1, .inl (cI, 6, .inl (v 1))), (a 2, .inl (cI, 240, .inl (v 2))), (a 3, .inl (cI, 240, .inl (v 3))), (a 4, .inl (cI, 240, .inl (v 4))), (a 5, .inl (cI, 240, .inl (v 5))), (a 6, .inl (cZ, 8, .inl (v 6))), (a 7, .inl (cI, 8, .inl (v 7))), (a 8, .inl (cI, 8, .inl (v 8))), (a 9, .inl (cI, 8, .inl (v 9))), (a 11, .inl (cI, 8, .inl (v 11))), (a 12, .inl (cI, 10, .inl (v 12))), (a 13, .inl (cI, 5, .inl (v 13))), (a 14, .inl (cI, 5, .inl (v 14))), (a 16, .inl (cI, 128, .inl (v 16))), (a 17, .inl (cI, 128, .inl (v 17))), (a 18, .inl (cI, 128, .inl (v 18)))] := hD
          refine lv_iload_n hx hb dX5_isCaught_24 rfl (lv_at hl 0 rfl) ?_
          refine lv_bipush (v := 10) hx hb dX5_isCaught_25 (by decide) ?_
          refine lv_icmp_eq (tgt := 38) hx hb dX5_isCaught_27 (by decide) (fun c_27 => ?_) (fun c_27 => ?_)
          · have c_27 : (10 + e1) = 10 := (nI_eq (a := (10 + e1)) (b := 10) (by omega) (by omega)).mp c_27
            refine lv_aload_n hx hb dX5_isCaught_38 rfl (lv_at hl 1 rfl) ?_
            refine lv_aload_n hx hb dX5_isCaught_39 rfl (lv_at hl 1 rfl) ?_
            refine va_get (D := D) (ci := 5) (v := .ref (a 18)) (C := RX5) (T := TX5) (N := 21) hx hb hts inX5 hown hK hP 0 rfl rfl 18 (by decide) fl56 (fun _ h9 => h9) rfl dX5_isCaught_40 ?_
            refine lv_aload_n hx hb dX5_isCaught_43 rfl (lv_at hl 1 rfl) ?_
            refine va_get (D := D) (ci := 5) (v := .int (nI (bl K))) (C := RX5) (T := TX5) (N := 21) hx hb hts inX5 hown hK hP 0 rfl rfl 19 (by decide) fl81 (fun _ h9 => h9) rfl dX5_isCaught_44 ?_
            refine xi_ald hx hb hK hP 16 0 rfl rfl (k := (bl K)) (by omega) (by decide) dX5_isCaught_47 ?_
            refine tp (y := nI (lvl K)) ((hs1 rfl).2.2) ?_
            refine va_put (D := D) (ci := 5) (v := .int (nI (lvl K))) (ty := .int) (C := RX5) (T := TX5) (N := 21) hx hb hts inX5 tyX5 tyX5_ok nmX5 hown hK hP hD hS 0 rfl rfl 15 (by decide) fl84 (fun _ h9 => h9) rfl (by decide +kernel) rfl rfl (Nat.le_of_ble_eq_true rfl) dX5_isCaught_48 (fun H locs hP hD hS => ?_)
            have hP : va_P D vwCl [(a 0, .inr (5, [.int t, .ref (a 1), .ref (a 2), .ref (a 3), .ref (a 4), .ref (a 5), .ref (a 6), .ref (a 7), .ref (a 8), .ref (a 9), .int r, .ref (a 11), .ref (a 12), .ref (a 13), .ref (a 14), .int (nI (lvl K)), .ref (a 16), .ref (a 17), .ref (a 18), .int (nI (bl K)), .int (nI (hn K))])), (a 1, .inl (cI, 6, .inl (v 1))), (a 2, .inl (cI, 240, .inl (v 2))), (a 3, .inl (cI, 240, .inl (v 3))), (a 4, .inl (cI, 240, .inl (v 4))), (a 5, .inl (cI, 240, .inl (v 5))), (a 6, .inl (cZ, 8, .inl (v 6))), (a 7, .inl (cI, 8, .inl (v 7))), (a 8, .inl (cI, 8, .inl (v 8))), (a 9, .inl (cI, 8, .inl (v 9))), (a 11, .inl (cI, 8, .inl (v 11))), (a 12, .inl (cI, 10, .inl (v 12))), (a 13, .inl (cI, 5, .inl (v 13))), (a 14, .inl (cI, 5, .inl (v 14))), (a 16, .inl (cI, 128, .inl (v 16))), (a 17, .inl (cI, 128, .inl (v 17))), (a 18, .inl (cI, 128, .inl (v 18)))] H := hP
            have hD : va_D A [(a 0, .inr (5, [.int t, .ref (a 1), .ref (a 2), .ref (a 3), .ref (a 4), .ref (a 5), .ref (a 6), .ref (a 7), .ref (a 8), .ref (a 9), .int r, .ref (a 11), .ref (a 12), .ref (a 13), .ref (a 14), .int (nI (lvl K)), .ref (a 16), .ref (a 17), .ref (a 18), .int (nI (bl K)), .int (nI (hn K))])), (a 1, .inl (cI, 6, .inl (v 1))), (a 2, .inl (cI, 240, .inl (v 2))), (a 3, .inl (cI, 240, .inl (v 3))), (a 4, .inl (cI, 240, .inl (v 4))), (a 5, .inl (cI, 240, .inl (v 5))), (a 6, .inl (cZ, 8, .inl (v 6))), (a 7, .inl (cI, 8, .inl (v 7))), (a 8, .inl (cI, 8, .inl (v 8))), (a 9, .inl (cI, 8, .inl (v 9))), (a 11, .inl (cI, 8, .inl (v 11))), (a 12, .inl (cI, 10, .inl (v 12))), (a 13, .inl (cI, 5, .inl (v 13))), (a 14, .inl (cI, 5, .inl (v 14))), (a 16, .inl (cI, 128, .inl (v 16))), (a 17, .inl (cI, 128, .inl (v 17))), (a 18, .inl (cI, 128, .inl (v 18)))] := hD
            refine lv_aload_n hx hb dX5_isCaught_51 rfl (lv_at hl 1 rfl) ?_
            refine va_get (D := D) (ci := 5) (v := .ref (a 14)) (C := RX5) (T := TX5) (N := 21) hx hb hts inX5 hown hK hP 0 rfl rfl 14 (by decide) fl47 (fun _ h9 => h9) rfl dX5_isCaught_52 ?_
            refine lv_aload_n hx hb dX5_isCaught_55 rfl (lv_at hl 1 rfl) ?_
            refine va_get (D := D) (ci := 5) (v := .int (nI (lvl K))) (C := RX5) (T := TX5) (N := 21) hx hb hts inX5 hown hK hP 0 rfl rfl 15 (by decide) fl84 (fun _ h9 => h9) rfl dX5_isCaught_56 ?_
            refine lv_aload_n hx hb dX5_isCaught_59 rfl (lv_at hl 1 rfl) ?_
            refine lv_aload_n hx hb dX5_isCaught_60 rfl (lv_at hl 1 rfl) ?_
            refine va_get (D := D) (ci := 5) (v := .ref (a 13)) (C := RX5) (T := TX5) (N := 21) hx hb hts inX5 hown hK hP 0 rfl rfl 13 (by decide) fl44 (fun _ h9 => h9) rfl dX5_isCaught_61 ?_
            refine lv_aload_n hx hb dX5_isCaught_64 rfl (lv_at hl 1 rfl) ?_
            refine va_get (D := D) (ci := 5) (v := .int (nI (lvl K))) (C := RX5) (T := TX5) (N := 21) hx hb hts inX5 hown hK hP 0 rfl rfl 15 (by decide) fl84 (fun _ h9 => h9) rfl dX5_isCaught_65 ?_
            refine xi_ald hx hb hK hP 12 0 rfl rfl (k := (lvl K)) (by omega) (by decide) dX5_isCaught_68 ?_
            refine tp (y := nI p) (hvp) ?_
            refine lv_aload_n hx hb dX5_isCaught_69 rfl (lv_at hl 1 rfl) ?_
            refine va_get (D := D) (ci := 5) (v := .ref (a 17)) (C := RX5) (T := TX5) (N := 21) hx hb hts inX5 hown hK hP 0 rfl rfl 17 (by decide) fl53 (fun _ h9 => h9) rfl dX5_isCaught_70 ?_
            refine lv_aload_n hx hb dX5_isCaught_73 rfl (lv_at hl 1 rfl) ?_
            refine va_get (D := D) (ci := 5) (v := .int (nI (bl K))) (C := RX5) (T := TX5) (N := 21) hx hb hts inX5 hown hK hP 0 rfl rfl 19 (by decide) fl81 (fun _ h9 => h9) rfl dX5_isCaught_74 ?_
            refine xi_ald hx hb hK hP 15 0 rfl rfl (k := (bl K)) (by omega) (by decide) dX5_isCaught_77 ?_
            refine tp (y := nI e2) ((hs1 rfl).2.1) ?_
            refine cl_Vi ([]) ([]) (As := [.int (nI p), .int (nI e2)]) (rest := [.int (nI (lvl K)), .ref (a 14)]) (c_X5_behind l D cI cZ a v t r (nI (lvl K)) (nI (bl K)) (nI (hn K)) G.1 G.2.1 hR.1 p hp6 e2 hact hkd hcl) ⟨hx, hb, hml, hown, hts⟩ (cwV 2 hts gX5_isCaught_X5_behind rfl rfl rfl (by decide +kernel) ⟨Nat.le_of_ble_eq_true rfl, Nat.le_of_ble_eq_true rfl⟩) hK hns hP hD hS hA rfl (T := TX5) (N := 21) rfl rfl hl.1 rfl (Nat.le_of_ble_eq_true rfl) dX5_isCaught_78 ⟨Nat.zero_le _, Nat.zero_le _⟩ (fun r78 u78 H locs hw78 hP hD hS => ?_)
            have hP : va_P D vwCl [(a 0, .inr (5, [.int t, .ref (a 1), .ref (a 2), .ref (a 3), .ref (a 4), .ref (a 5), .ref (a 6), .ref (a 7), .ref (a 8), .ref (a 9), .int r, .ref (a 11), .ref (a 12), .ref (a 13), .ref (a 14), .int (nI (lvl K)), .ref (a 16), .ref (a 17), .ref (a 18), .int (nI (bl K)), .int (nI (hn K))])), (a 1, .inl (cI, 6, .inl (v 1))), (a 2, .inl (cI, 240, .inl (v 2))), (a 3, .inl (cI, 240, .inl (v 3))), (a 4, .inl (cI, 240, .inl (v 4))), (a 5, .inl (cI, 240, .inl (v 5))), (a 6, .inl (cZ, 8, .inl (v 6))), (a 7, .inl (cI, 8, .inl (v 7))), (a 8, .inl (cI, 8, .inl (v 8))), (a 9, .inl (cI, 8, .inl (v 9))), (a 11, .inl (cI, 8, .inl (v 11))), (a 12, .inl (cI, 10, .inl (v 12))), (a 13, .inl (cI, 5, .inl (v 13))), (a 14, .inl (cI, 5, .inl (v 14))), (a 16, .inl (cI, 128, .inl (v 16))), (a 17, .inl (cI, 128, .inl (v 17))), (a 18, .inl (cI, 128, .inl (v 18)))] H := hP
            have hD : va_D A [(a 0, .inr (5, [.int t, .ref (a 1), .ref (a 2), .ref (a 3), .ref (a 4), .ref (a 5), .ref (a 6), .ref (a 7), .ref (a 8), .ref (a 9), .int r, .ref (a 11), .ref (a 12), .ref (a 13), .ref (a 14), .int (nI (lvl K)), .ref (a 16), .ref (a 17), .ref (a 18), .int (nI (bl K)), .int (nI (hn K))])), (a 1, .inl (cI, 6, .inl (v 1))), (a 2, .inl (cI, 240, .inl (v 2))), (a 3, .inl (cI, 240, .inl (v 3))), (a 4, .inl (cI, 240, .inl (v 4))), (a 5, .inl (cI, 240, .inl (v 5))), (a 6, .inl (cZ, 8, .inl (v 6))), (a 7, .inl (cI, 8, .inl (v 7))), (a 8, .inl (cI, 8, .inl (v 8))), (a 9, .inl (cI, 8, .inl (v 9))), (a 11, .inl (cI, 8, .inl (v 11))), (a 12, .inl (cI, 10, .inl (v 12))), (a 13, .inl (cI, 5, .inl (v 13))), (a 14, .inl (cI, 5, .inl (v 14))), (a 16, .inl (cI, 128, .inl (v 16))), (a 17, .inl (cI, 128, .inl (v 17))), (a 18, .inl (cI, 128, .inl (v 18)))] := hD
            subst hw78
            refine xi_ast hx hb hK hP hD hS 13 0 rfl rfl (k := (lvl K)) (x := (nI (beh (G.2.1 p) e2))) (by omega) (by decide) dX5_isCaught_81 (fun H locs hP hD hS => ?_)
            have hP : va_P D vwCl [(a 0, .inr (5, [.int t, .ref (a 1), .ref (a 2), .ref (a 3), .ref (a 4), .ref (a 5), .ref (a 6), .ref (a 7), .ref (a 8), .ref (a 9), .int r, .ref (a 11), .ref (a 12), .ref (a 13), .ref (a 14), .int (nI (lvl K)), .ref (a 16), .ref (a 17), .ref (a 18), .int (nI (bl K)), .int (nI (hn K))])), (a 1, .inl (cI, 6, .inl (v 1))), (a 2, .inl (cI, 240, .inl (v 2))), (a 3, .inl (cI, 240, .inl (v 3))), (a 4, .inl (cI, 240, .inl (v 4))), (a 5, .inl (cI, 240, .inl (v 5))), (a 6, .inl (cZ, 8, .inl (v 6))), (a 7, .inl (cI, 8, .inl (v 7))), (a 8, .inl (cI, 8, .inl (v 8))), (a 9, .inl (cI, 8, .inl (v 9))), (a 11, .inl (cI, 8, .inl (v 11))), (a 12, .inl (cI, 10, .inl (v 12))), (a 13, .inl (cI, 5, .inl (v 13))), (a 14, .inl (cI, 5, .inl (upd (v 14) (lvl K) (nI (beh (G.2.1 p) e2))))), (a 16, .inl (cI, 128, .inl (v 16))), (a 17, .inl (cI, 128, .inl (v 17))), (a 18, .inl (cI, 128, .inl (v 18)))] H := hP
            have hD : va_D A [(a 0, .inr (5, [.int t, .ref (a 1), .ref (a 2), .ref (a 3), .ref (a 4), .ref (a 5), .ref (a 6), .ref (a 7), .ref (a 8), .ref (a 9), .int r, .ref (a 11), .ref (a 12), .ref (a 13), .ref (a 14), .int (nI (lvl K)), .ref (a 16), .ref (a 17), .ref (a 18), .int (nI (bl K)), .int (nI (hn K))])), (a 1, .inl (cI, 6, .inl (v 1))), (a 2, .inl (cI, 240, .inl (v 2))), (a 3, .inl (cI, 240, .inl (v 3))), (a 4, .inl (cI, 240, .inl (v 4))), (a 5, .inl (cI, 240, .inl (v 5))), (a 6, .inl (cZ, 8, .inl (v 6))), (a 7, .inl (cI, 8, .inl (v 7))), (a 8, .inl (cI, 8, .inl (v 8))), (a 9, .inl (cI, 8, .inl (v 9))), (a 11, .inl (cI, 8, .inl (v 11))), (a 12, .inl (cI, 10, .inl (v 12))), (a 13, .inl (cI, 5, .inl (v 13))), (a 14, .inl (cI, 5, .inl (upd (v 14) (lvl K) (nI (beh (G.2.1 p) e2))))), (a 16, .inl (cI, 128, .inl (v 16))), (a 17, .inl (cI, 128, .inl (v 17))), (a 18, .inl (cI, 128, .inl (v 18)))] := hD
            refine lv_aload_n hx hb dX5_isCaught_82 rfl (lv_at hl 1 rfl) ?_
            refine va_get (D := D) (ci := 5) (v := .ref (a 12)) (C := RX5) (T := TX5) (N := 21) hx hb hts inX5 hown hK hP 0 rfl rfl 12 (by decide) fl41 (fun _ h9 => h9) rfl dX5_isCaught_83 ?_
            refine lv_iload_n hx hb dX5_isCaught_86 rfl (lv_at hl 2 rfl) ?_
            refine lv_dup2_11 hx hb dX5_isCaught_87 rfl rfl ?_
            refine xi_ald hx hb hK hP 11 0 rfl rfl (k := f) (by omega) (by decide) dX5_isCaught_88 ?_
            refine lv_iconst (v := 1) hx hb dX5_isCaught_89 (by decide) ?_
            refine lv_iadd hx hb dX5_isCaught_90 ?_
            refine xi_ast hx hb hK hP hD hS 11 0 rfl rfl (k := f) (x := (((v 12) f) + 1)) (by omega) (by decide) dX5_isCaught_91 (fun H locs hP hD hS => ?_)
            have hP : va_P D vwCl [(a 0, .inr (5, [.int t, .ref (a 1), .ref (a 2), .ref (a 3), .ref (a 4), .ref (a 5), .ref (a 6), .ref (a 7), .ref (a 8), .ref (a 9), .int r, .ref (a 11), .ref (a 12), .ref (a 13), .ref (a 14), .int (nI (lvl K)), .ref (a 16), .ref (a 17), .ref (a 18), .int (nI (bl K)), .int (nI (hn K))])), (a 1, .inl (cI, 6, .inl (v 1))), (a 2, .inl (cI, 240, .inl (v 2))), (a 3, .inl (cI, 240, .inl (v 3))), (a 4, .inl (cI, 240, .inl (v 4))), (a 5, .inl (cI, 240, .inl (v 5))), (a 6, .inl (cZ, 8, .inl (v 6))), (a 7, .inl (cI, 8, .inl (v 7))), (a 8, .inl (cI, 8, .inl (v 8))), (a 9, .inl (cI, 8, .inl (v 9))), (a 11, .inl (cI, 8, .inl (v 11))), (a 12, .inl (cI, 10, .inl (upd (v 12) f (((v 12) f) + 1)))), (a 13, .inl (cI, 5, .inl (v 13))), (a 14, .inl (cI, 5, .inl (upd (v 14) (lvl K) (nI (beh (G.2.1 p) e2))))), (a 16, .inl (cI, 128, .inl (v 16))), (a 17, .inl (cI, 128, .inl (v 17))), (a 18, .inl (cI, 128, .inl (v 18)))] H := hP
            have hD : va_D A [(a 0, .inr (5, [.int t, .ref (a 1), .ref (a 2), .ref (a 3), .ref (a 4), .ref (a 5), .ref (a 6), .ref (a 7), .ref (a 8), .ref (a 9), .int r, .ref (a 11), .ref (a 12), .ref (a 13), .ref (a 14), .int (nI (lvl K)), .ref (a 16), .ref (a 17), .ref (a 18), .int (nI (bl K)), .int (nI (hn K))])), (a 1, .inl (cI, 6, .inl (v 1))), (a 2, .inl (cI, 240, .inl (v 2))), (a 3, .inl (cI, 240, .inl (v 3))), (a 4, .inl (cI, 240, .inl (v 4))), (a 5, .inl (cI, 240, .inl (v 5))), (a 6, .inl (cZ, 8, .inl (v 6))), (a 7, .inl (cI, 8, .inl (v 7))), (a 8, .inl (cI, 8, .inl (v 8))), (a 9, .inl (cI, 8, .inl (v 9))), (a 11, .inl (cI, 8, .inl (v 11))), (a 12, .inl (cI, 10, .inl (upd (v 12) f (((v 12) f) + 1)))), (a 13, .inl (cI, 5, .inl (v 13))), (a 14, .inl (cI, 5, .inl (upd (v 14) (lvl K) (nI (beh (G.2.1 p) e2))))), (a 16, .inl (cI, 128, .inl (v 16))), (a 17, .inl (cI, 128, .inl (v 17))), (a 18, .inl (cI, 128, .inl (v 18)))] := hD
            refine lv_aload_n hx hb dX5_isCaught_92 rfl (lv_at hl 1 rfl) ?_
            refine va_get (D := D) (ci := 5) (v := .ref (a 11)) (C := RX5) (T := TX5) (N := 21) hx hb hts inX5 hown hK hP 0 rfl rfl 11 (by decide) fl38 (fun _ h9 => h9) rfl dX5_isCaught_93 ?_
            refine lv_bipush (v := 6) hx hb dX5_isCaught_96 (by decide) ?_
            refine lv_dup2_11 hx hb dX5_isCaught_98 rfl rfl ?_
            refine xi_ald hx hb hK hP 10 0 rfl rfl (k := 6) (by omega) (by decide) dX5_isCaught_99 ?_
            refine lv_iconst (v := 1) hx hb dX5_isCaught_100 (by decide) ?_
            refine lv_iadd hx hb dX5_isCaught_101 ?_
            refine xi_ast hx hb hK hP hD hS 10 0 rfl rfl (k := 6) (x := (((v 11) 6) + 1)) (by omega) (by decide) dX5_isCaught_102 (fun H locs hP hD hS => ?_)
            have hP : va_P D vwCl [(a 0, .inr (5, [.int t, .ref (a 1), .ref (a 2), .ref (a 3), .ref (a 4), .ref (a 5), .ref (a 6), .ref (a 7), .ref (a 8), .ref (a 9), .int r, .ref (a 11), .ref (a 12), .ref (a 13), .ref (a 14), .int (nI (lvl K)), .ref (a 16), .ref (a 17), .ref (a 18), .int (nI (bl K)), .int (nI (hn K))])), (a 1, .inl (cI, 6, .inl (v 1))), (a 2, .inl (cI, 240, .inl (v 2))), (a 3, .inl (cI, 240, .inl (v 3))), (a 4, .inl (cI, 240, .inl (v 4))), (a 5, .inl (cI, 240, .inl (v 5))), (a 6, .inl (cZ, 8, .inl (v 6))), (a 7, .inl (cI, 8, .inl (v 7))), (a 8, .inl (cI, 8, .inl (v 8))), (a 9, .inl (cI, 8, .inl (v 9))), (a 11, .inl (cI, 8, .inl (upd (v 11) 6 (((v 11) 6) + 1)))), (a 12, .inl (cI, 10, .inl (upd (v 12) f (((v 12) f) + 1)))), (a 13, .inl (cI, 5, .inl (v 13))), (a 14, .inl (cI, 5, .inl (upd (v 14) (lvl K) (nI (beh (G.2.1 p) e2))))), (a 16, .inl (cI, 128, .inl (v 16))), (a 17, .inl (cI, 128, .inl (v 17))), (a 18, .inl (cI, 128, .inl (v 18)))] H := hP
            have hD : va_D A [(a 0, .inr (5, [.int t, .ref (a 1), .ref (a 2), .ref (a 3), .ref (a 4), .ref (a 5), .ref (a 6), .ref (a 7), .ref (a 8), .ref (a 9), .int r, .ref (a 11), .ref (a 12), .ref (a 13), .ref (a 14), .int (nI (lvl K)), .ref (a 16), .ref (a 17), .ref (a 18), .int (nI (bl K)), .int (nI (hn K))])), (a 1, .inl (cI, 6, .inl (v 1))), (a 2, .inl (cI, 240, .inl (v 2))), (a 3, .inl (cI, 240, .inl (v 3))), (a 4, .inl (cI, 240, .inl (v 4))), (a 5, .inl (cI, 240, .inl (v 5))), (a 6, .inl (cZ, 8, .inl (v 6))), (a 7, .inl (cI, 8, .inl (v 7))), (a 8, .inl (cI, 8, .inl (v 8))), (a 9, .inl (cI, 8, .inl (v 9))), (a 11, .inl (cI, 8, .inl (upd (v 11) 6 (((v 11) 6) + 1)))), (a 12, .inl (cI, 10, .inl (upd (v 12) f (((v 12) f) + 1)))), (a 13, .inl (cI, 5, .inl (v 13))), (a 14, .inl (cI, 5, .inl (upd (v 14) (lvl K) (nI (beh (G.2.1 p) e2))))), (a 16, .inl (cI, 128, .inl (v 16))), (a 17, .inl (cI, 128, .inl (v 17))), (a 18, .inl (cI, 128, .inl (v 18)))] := hD
            refine lv_iconst (v := 1) hx hb dX5_isCaught_103 (by decide) ?_
            exact Ri (D := D) ((va_up (va_up (va_up v 14 (upd (v 14) (lvl K) (nI (beh (G.2.1 p) e2)))) 12 (upd (v 12) f (v 12 f + 1))) 11 (upd (v 11) 6 (v 11 6 + 1))), r, nI (lvl K), nI (bl K), nI (hn K)) hx hb hr (by decide) hlocks hP hD hS (Or.inl (by rw [hu, unw_c (by omega) (by omega)]; exact ⟨rfl, rfl, R_caught (by omega) hR hsK hvp⟩)) dX5_isCaught_104
          · have c_27 : ¬ ((10 + e1) = 10) := fun h => c_27 ((nI_eq (a := (10 + e1)) (b := 10) (by omega) (by omega)).mpr h)
            refine lv_iload_n hx hb dX5_isCaught_30 rfl (lv_at hl 0 rfl) ?_
            refine lv_bipush (v := 10) hx hb dX5_isCaught_31 (by decide) ?_
            refine lv_iload_n hx hb dX5_isCaught_33 rfl (lv_at hl 2 rfl) ?_
            refine lv_iadd hx hb dX5_isCaught_34 ?_
            refine tp (y := nI (10 + f)) (nI_add 10 f) ?_
            refine lv_icmp_ne (tgt := 105) hx hb dX5_isCaught_35 (by decide) (fun c_35 => ?_) (fun c_35 => ?_)
            · have c_35 : ¬ ((10 + e1) = (10 + f)) := fun h => c_35 ((nI_eq (a := (10 + e1)) (b := (10 + f)) (by omega) (by omega)).mpr h)
              refine lv_goto (tgt := 0) hx hb dX5_isCaught_105 (by decide) ?_
              exact ih lf td ct p nx _ v (hu.trans (unw_t (fun q => by omega))) ((Rp_same (by simp)).mp hR) hsK hvp hp6 hcl hw (by omega) hlK _ _ hP hD hS ls (lv_sub hl [1, 2] rfl)
            · have c_35 : (10 + e1) = (10 + f) := (nI_eq (a := (10 + e1)) (b := (10 + f)) (by omega) (by omega)).mp c_35
              refine lv_aload_n hx hb dX5_isCaught_38 rfl (lv_at hl 1 rfl) ?_
              refine lv_aload_n hx hb dX5_isCaught_39 rfl (lv_at hl 1 rfl) ?_
              refine va_get (D := D) (ci := 5) (v := .ref (a 18)) (C := RX5) (T := TX5) (N := 21) hx hb hts inX5 hown hK hP 0 rfl rfl 18 (by decide) fl56 (fun _ h9 => h9) rfl dX5_isCaught_40 ?_
              refine lv_aload_n hx hb dX5_isCaught_43 rfl (lv_at hl 1 rfl) ?_
              refine va_get (D := D) (ci := 5) (v := .int (nI (bl K))) (C := RX5) (T := TX5) (N := 21) hx hb hts inX5 hown hK hP 0 rfl rfl 19 (by decide) fl81 (fun _ h9 => h9) rfl dX5_isCaught_44 ?_
              refine xi_ald hx hb hK hP 16 0 rfl rfl (k := (bl K)) (by omega) (by decide) dX5_isCaught_47 ?_
              refine tp (y := nI (lvl K)) ((hs1 rfl).2.2) ?_
              refine va_put (D := D) (ci := 5) (v := .int (nI (lvl K))) (ty := .int) (C := RX5) (T := TX5) (N := 21) hx hb hts inX5 tyX5 tyX5_ok nmX5 hown hK hP hD hS 0 rfl rfl 15 (by decide) fl84 (fun _ h9 => h9) rfl (by decide +kernel) rfl rfl (Nat.le_of_ble_eq_true rfl) dX5_isCaught_48 (fun H locs hP hD hS => ?_)
              have hP : va_P D vwCl [(a 0, .inr (5, [.int t, .ref (a 1), .ref (a 2), .ref (a 3), .ref (a 4), .ref (a 5), .ref (a 6), .ref (a 7), .ref (a 8), .ref (a 9), .int r, .ref (a 11), .ref (a 12), .ref (a 13), .ref (a 14), .int (nI (lvl K)), .ref (a 16), .ref (a 17), .ref (a 18), .int (nI (bl K)), .int (nI (hn K))])), (a 1, .inl (cI, 6, .inl (v 1))), (a 2, .inl (cI, 240, .inl (v 2))), (a 3, .inl (cI, 240, .inl (v 3))), (a 4, .inl (cI, 240, .inl (v 4))), (a 5, .inl (cI, 240, .inl (v 5))), (a 6, .inl (cZ, 8, .inl (v 6))), (a 7, .inl (cI, 8, .inl (v 7))), (a 8, .inl (cI, 8, .inl (v 8))), (a 9, .inl (cI, 8, .inl (v 9))), (a 11, .inl (cI, 8, .inl (v 11))), (a 12, .inl (cI, 10, .inl (v 12))), (a 13, .inl (cI, 5, .inl (v 13))), (a 14, .inl (cI, 5, .inl (v 14))), (a 16, .inl (cI, 128, .inl (v 16))), (a 17, .inl (cI, 128, .inl (v 17))), (a 18, .inl (cI, 128, .inl (v 18)))] H := hP
              have hD : va_D A [(a 0, .inr (5, [.int t, .ref (a 1), .ref (a 2), .ref (a 3), .ref (a 4), .ref (a 5), .ref (a 6), .ref (a 7), .ref (a 8), .ref (a 9), .int r, .ref (a 11), .ref (a 12), .ref (a 13), .ref (a 14), .int (nI (lvl K)), .ref (a 16), .ref (a 17), .ref (a 18), .int (nI (bl K)), .int (nI (hn K))])), (a 1, .inl (cI, 6, .inl (v 1))), (a 2, .inl (cI, 240, .inl (v 2))), (a 3, .inl (cI, 240, .inl (v 3))), (a 4, .inl (cI, 240, .inl (v 4))), (a 5, .inl (cI, 240, .inl (v 5))), (a 6, .inl (cZ, 8, .inl (v 6))), (a 7, .inl (cI, 8, .inl (v 7))), (a 8, .inl (cI, 8, .inl (v 8))), (a 9, .inl (cI, 8, .inl (v 9))), (a 11, .inl (cI, 8, .inl (v 11))), (a 12, .inl (cI, 10, .inl (v 12))), (a 13, .inl (cI, 5, .inl (v 13))), (a 14, .inl (cI, 5, .inl (v 14))), (a 16, .inl (cI, 128, .inl (v 16))), (a 17, .inl (cI, 128, .inl (v 17))), (a 18, .inl (cI, 128, .inl (v 18)))] := hD
              refine lv_aload_n hx hb dX5_isCaught_51 rfl (lv_at hl 1 rfl) ?_
              refine va_get (D := D) (ci := 5) (v := .ref (a 14)) (C := RX5) (T := TX5) (N := 21) hx hb hts inX5 hown hK hP 0 rfl rfl 14 (by decide) fl47 (fun _ h9 => h9) rfl dX5_isCaught_52 ?_
              refine lv_aload_n hx hb dX5_isCaught_55 rfl (lv_at hl 1 rfl) ?_
              refine va_get (D := D) (ci := 5) (v := .int (nI (lvl K))) (C := RX5) (T := TX5) (N := 21) hx hb hts inX5 hown hK hP 0 rfl rfl 15 (by decide) fl84 (fun _ h9 => h9) rfl dX5_isCaught_56 ?_
              refine lv_aload_n hx hb dX5_isCaught_59 rfl (lv_at hl 1 rfl) ?_
              refine lv_aload_n hx hb dX5_isCaught_60 rfl (lv_at hl 1 rfl) ?_
              refine va_get (D := D) (ci := 5) (v := .ref (a 13)) (C := RX5) (T := TX5) (N := 21) hx hb hts inX5 hown hK hP 0 rfl rfl 13 (by decide) fl44 (fun _ h9 => h9) rfl dX5_isCaught_61 ?_
              refine lv_aload_n hx hb dX5_isCaught_64 rfl (lv_at hl 1 rfl) ?_
              refine va_get (D := D) (ci := 5) (v := .int (nI (lvl K))) (C := RX5) (T := TX5) (N := 21) hx hb hts inX5 hown hK hP 0 rfl rfl 15 (by decide) fl84 (fun _ h9 => h9) rfl dX5_isCaught_65 ?_
              refine xi_ald hx hb hK hP 12 0 rfl rfl (k := (lvl K)) (by omega) (by decide) dX5_isCaught_68 ?_
              refine tp (y := nI p) (hvp) ?_
              refine lv_aload_n hx hb dX5_isCaught_69 rfl (lv_at hl 1 rfl) ?_
              refine va_get (D := D) (ci := 5) (v := .ref (a 17)) (C := RX5) (T := TX5) (N := 21) hx hb hts inX5 hown hK hP 0 rfl rfl 17 (by decide) fl53 (fun _ h9 => h9) rfl dX5_isCaught_70 ?_
              refine lv_aload_n hx hb dX5_isCaught_73 rfl (lv_at hl 1 rfl) ?_
              refine va_get (D := D) (ci := 5) (v := .int (nI (bl K))) (C := RX5) (T := TX5) (N := 21) hx hb hts inX5 hown hK hP 0 rfl rfl 19 (by decide) fl81 (fun _ h9 => h9) rfl dX5_isCaught_74 ?_
              refine xi_ald hx hb hK hP 15 0 rfl rfl (k := (bl K)) (by omega) (by decide) dX5_isCaught_77 ?_
              refine tp (y := nI e2) ((hs1 rfl).2.1) ?_
              refine cl_Vi ([]) ([]) (As := [.int (nI p), .int (nI e2)]) (rest := [.int (nI (lvl K)), .ref (a 14)]) (c_X5_behind l D cI cZ a v t r (nI (lvl K)) (nI (bl K)) (nI (hn K)) G.1 G.2.1 hR.1 p hp6 e2 hact hkd hcl) ⟨hx, hb, hml, hown, hts⟩ (cwV 2 hts gX5_isCaught_X5_behind rfl rfl rfl (by decide +kernel) ⟨Nat.le_of_ble_eq_true rfl, Nat.le_of_ble_eq_true rfl⟩) hK hns hP hD hS hA rfl (T := TX5) (N := 21) rfl rfl hl.1 rfl (Nat.le_of_ble_eq_true rfl) dX5_isCaught_78 ⟨Nat.zero_le _, Nat.zero_le _⟩ (fun r78 u78 H locs hw78 hP hD hS => ?_)
              have hP : va_P D vwCl [(a 0, .inr (5, [.int t, .ref (a 1), .ref (a 2), .ref (a 3), .ref (a 4), .ref (a 5), .ref (a 6), .ref (a 7), .ref (a 8), .ref (a 9), .int r, .ref (a 11), .ref (a 12), .ref (a 13), .ref (a 14), .int (nI (lvl K)), .ref (a 16), .ref (a 17), .ref (a 18), .int (nI (bl K)), .int (nI (hn K))])), (a 1, .inl (cI, 6, .inl (v 1))), (a 2, .inl (cI, 240, .inl (v 2))), (a 3, .inl (cI, 240, .inl (v 3))), (a 4, .inl (cI, 240, .inl (v 4))), (a 5, .inl (cI, 240, .inl (v 5))), (a 6, .inl (cZ, 8, .inl (v 6))), (a 7, .inl (cI, 8, .inl (v 7))), (a 8, .inl (cI, 8, .inl (v 8))), (a 9, .inl (cI, 8, .inl (v 9))), (a 11, .inl (cI, 8, .inl (v 11))), (a 12, .inl (cI, 10, .inl (v 12))), (a 13, .inl (cI, 5, .inl (v 13))), (a 14, .inl (cI, 5, .inl (v 14))), (a 16, .inl (cI, 128, .inl (v 16))), (a 17, .inl (cI, 128, .inl (v 17))), (a 18, .inl (cI, 128, .inl (v 18)))] H := hP
              have hD : va_D A [(a 0, .inr (5, [.int t, .ref (a 1), .ref (a 2), .ref (a 3), .ref (a 4), .ref (a 5), .ref (a 6), .ref (a 7), .ref (a 8), .ref (a 9), .int r, .ref (a 11), .ref (a 12), .ref (a 13), .ref (a 14), .int (nI (lvl K)), .ref (a 16), .ref (a 17), .ref (a 18), .int (nI (bl K)), .int (nI (hn K))])), (a 1, .inl (cI, 6, .inl (v 1))), (a 2, .inl (cI, 240, .inl (v 2))), (a 3, .inl (cI, 240, .inl (v 3))), (a 4, .inl (cI, 240, .inl (v 4))), (a 5, .inl (cI, 240, .inl (v 5))), (a 6, .inl (cZ, 8, .inl (v 6))), (a 7, .inl (cI, 8, .inl (v 7))), (a 8, .inl (cI, 8, .inl (v 8))), (a 9, .inl (cI, 8, .inl (v 9))), (a 11, .inl (cI, 8, .inl (v 11))), (a 12, .inl (cI, 10, .inl (v 12))), (a 13, .inl (cI, 5, .inl (v 13))), (a 14, .inl (cI, 5, .inl (v 14))), (a 16, .inl (cI, 128, .inl (v 16))), (a 17, .inl (cI, 128, .inl (v 17))), (a 18, .inl (cI, 128, .inl (v 18)))] := hD
              subst hw78
              refine xi_ast hx hb hK hP hD hS 13 0 rfl rfl (k := (lvl K)) (x := (nI (beh (G.2.1 p) e2))) (by omega) (by decide) dX5_isCaught_81 (fun H locs hP hD hS => ?_)
              have hP : va_P D vwCl [(a 0, .inr (5, [.int t, .ref (a 1), .ref (a 2), .ref (a 3), .ref (a 4), .ref (a 5), .ref (a 6), .ref (a 7), .ref (a 8), .ref (a 9), .int r, .ref (a 11), .ref (a 12), .ref (a 13), .ref (a 14), .int (nI (lvl K)), .ref (a 16), .ref (a 17), .ref (a 18), .int (nI (bl K)), .int (nI (hn K))])), (a 1, .inl (cI, 6, .inl (v 1))), (a 2, .inl (cI, 240, .inl (v 2))), (a 3, .inl (cI, 240, .inl (v 3))), (a 4, .inl (cI, 240, .inl (v 4))), (a 5, .inl (cI, 240, .inl (v 5))), (a 6, .inl (cZ, 8, .inl (v 6))), (a 7, .inl (cI, 8, .inl (v 7))), (a 8, .inl (cI, 8, .inl (v 8))), (a 9, .inl (cI, 8, .inl (v 9))), (a 11, .inl (cI, 8, .inl (v 11))), (a 12, .inl (cI, 10, .inl (v 12))), (a 13, .inl (cI, 5, .inl (v 13))), (a 14, .inl (cI, 5, .inl (upd (v 14) (lvl K) (nI (beh (G.2.1 p) e2))))), (a 16, .inl (cI, 128, .inl (v 16))), (a 17, .inl (cI, 128, .inl (v 17))), (a 18, .inl (cI, 128, .inl (v 18)))] H := hP
              have hD : va_D A [(a 0, .inr (5, [.int t, .ref (a 1), .ref (a 2), .ref (a 3), .ref (a 4), .ref (a 5), .ref (a 6), .ref (a 7), .ref (a 8), .ref (a 9), .int r, .ref (a 11), .ref (a 12), .ref (a 13), .ref (a 14), .int (nI (lvl K)), .ref (a 16), .ref (a 17), .ref (a 18), .int (nI (bl K)), .int (nI (hn K))])), (a 1, .inl (cI, 6, .inl (v 1))), (a 2, .inl (cI, 240, .inl (v 2))), (a 3, .inl (cI, 240, .inl (v 3))), (a 4, .inl (cI, 240, .inl (v 4))), (a 5, .inl (cI, 240, .inl (v 5))), (a 6, .inl (cZ, 8, .inl (v 6))), (a 7, .inl (cI, 8, .inl (v 7))), (a 8, .inl (cI, 8, .inl (v 8))), (a 9, .inl (cI, 8, .inl (v 9))), (a 11, .inl (cI, 8, .inl (v 11))), (a 12, .inl (cI, 10, .inl (v 12))), (a 13, .inl (cI, 5, .inl (v 13))), (a 14, .inl (cI, 5, .inl (upd (v 14) (lvl K) (nI (beh (G.2.1 p) e2))))), (a 16, .inl (cI, 128, .inl (v 16))), (a 17, .inl (cI, 128, .inl (v 17))), (a 18, .inl (cI, 128, .inl (v 18)))] := hD
              refine lv_aload_n hx hb dX5_isCaught_82 rfl (lv_at hl 1 rfl) ?_
              refine va_get (D := D) (ci := 5) (v := .ref (a 12)) (C := RX5) (T := TX5) (N := 21) hx hb hts inX5 hown hK hP 0 rfl rfl 12 (by decide) fl41 (fun _ h9 => h9) rfl dX5_isCaught_83 ?_
              refine lv_iload_n hx hb dX5_isCaught_86 rfl (lv_at hl 2 rfl) ?_
              refine lv_dup2_11 hx hb dX5_isCaught_87 rfl rfl ?_
              refine xi_ald hx hb hK hP 11 0 rfl rfl (k := f) (by omega) (by decide) dX5_isCaught_88 ?_
              refine lv_iconst (v := 1) hx hb dX5_isCaught_89 (by decide) ?_
              refine lv_iadd hx hb dX5_isCaught_90 ?_
              refine xi_ast hx hb hK hP hD hS 11 0 rfl rfl (k := f) (x := (((v 12) f) + 1)) (by omega) (by decide) dX5_isCaught_91 (fun H locs hP hD hS => ?_)
              have hP : va_P D vwCl [(a 0, .inr (5, [.int t, .ref (a 1), .ref (a 2), .ref (a 3), .ref (a 4), .ref (a 5), .ref (a 6), .ref (a 7), .ref (a 8), .ref (a 9), .int r, .ref (a 11), .ref (a 12), .ref (a 13), .ref (a 14), .int (nI (lvl K)), .ref (a 16), .ref (a 17), .ref (a 18), .int (nI (bl K)), .int (nI (hn K))])), (a 1, .inl (cI, 6, .inl (v 1))), (a 2, .inl (cI, 240, .inl (v 2))), (a 3, .inl (cI, 240, .inl (v 3))), (a 4, .inl (cI, 240, .inl (v 4))), (a 5, .inl (cI, 240, .inl (v 5))), (a 6, .inl (cZ, 8, .inl (v 6))), (a 7, .inl (cI, 8, .inl (v 7))), (a 8, .inl (cI, 8, .inl (v 8))), (a 9, .inl (cI, 8, .inl (v 9))), (a 11, .inl (cI, 8, .inl (v 11))), (a 12, .inl (cI, 10, .inl (upd (v 12) f (((v 12) f) + 1)))), (a 13, .inl (cI, 5, .inl (v 13))), (a 14, .inl (cI, 5, .inl (upd (v 14) (lvl K) (nI (beh (G.2.1 p) e2))))), (a 16, .inl (cI, 128, .inl (v 16))), (a 17, .inl (cI, 128, .inl (v 17))), (a 18, .inl (cI, 128, .inl (v 18)))] H := hP
              have hD : va_D A [(a 0, .inr (5, [.int t, .ref (a 1), .ref (a 2), .ref (a 3), .ref (a 4), .ref (a 5), .ref (a 6), .ref (a 7), .ref (a 8), .ref (a 9), .int r, .ref (a 11), .ref (a 12), .ref (a 13), .ref (a 14), .int (nI (lvl K)), .ref (a 16), .ref (a 17), .ref (a 18), .int (nI (bl K)), .int (nI (hn K))])), (a 1, .inl (cI, 6, .inl (v 1))), (a 2, .inl (cI, 240, .inl (v 2))), (a 3, .inl (cI, 240, .inl (v 3))), (a 4, .inl (cI, 240, .inl (v 4))), (a 5, .inl (cI, 240, .inl (v 5))), (a 6, .inl (cZ, 8, .inl (v 6))), (a 7, .inl (cI, 8, .inl (v 7))), (a 8, .inl (cI, 8, .inl (v 8))), (a 9, .inl (cI, 8, .inl (v 9))), (a 11, .inl (cI, 8, .inl (v 11))), (a 12, .inl (cI, 10, .inl (upd (v 12) f (((v 12) f) + 1)))), (a 13, .inl (cI, 5, .inl (v 13))), (a 14, .inl (cI, 5, .inl (upd (v 14) (lvl K) (nI (beh (G.2.1 p) e2))))), (a 16, .inl (cI, 128, .inl (v 16))), (a 17, .inl (cI, 128, .inl (v 17))), (a 18, .inl (cI, 128, .inl (v 18)))] := hD
              refine lv_aload_n hx hb dX5_isCaught_92 rfl (lv_at hl 1 rfl) ?_
              refine va_get (D := D) (ci := 5) (v := .ref (a 11)) (C := RX5) (T := TX5) (N := 21) hx hb hts inX5 hown hK hP 0 rfl rfl 11 (by decide) fl38 (fun _ h9 => h9) rfl dX5_isCaught_93 ?_
              refine lv_bipush (v := 6) hx hb dX5_isCaught_96 (by decide) ?_
              refine lv_dup2_11 hx hb dX5_isCaught_98 rfl rfl ?_
              refine xi_ald hx hb hK hP 10 0 rfl rfl (k := 6) (by omega) (by decide) dX5_isCaught_99 ?_
              refine lv_iconst (v := 1) hx hb dX5_isCaught_100 (by decide) ?_
              refine lv_iadd hx hb dX5_isCaught_101 ?_
              refine xi_ast hx hb hK hP hD hS 10 0 rfl rfl (k := 6) (x := (((v 11) 6) + 1)) (by omega) (by decide) dX5_isCaught_102 (fun H locs hP hD hS => ?_)
              have hP : va_P D vwCl [(a 0, .inr (5, [.int t, .ref (a 1), .ref (a 2), .ref (a 3), .ref (a 4), .ref (a 5), .ref (a 6), .ref (a 7), .ref (a 8), .ref (a 9), .int r, .ref (a 11), .ref (a 12), .ref (a 13), .ref (a 14), .int (nI (lvl K)), .ref (a 16), .ref (a 17), .ref (a 18), .int (nI (bl K)), .int (nI (hn K))])), (a 1, .inl (cI, 6, .inl (v 1))), (a 2, .inl (cI, 240, .inl (v 2))), (a 3, .inl (cI, 240, .inl (v 3))), (a 4, .inl (cI, 240, .inl (v 4))), (a 5, .inl (cI, 240, .inl (v 5))), (a 6, .inl (cZ, 8, .inl (v 6))), (a 7, .inl (cI, 8, .inl (v 7))), (a 8, .inl (cI, 8, .inl (v 8))), (a 9, .inl (cI, 8, .inl (v 9))), (a 11, .inl (cI, 8, .inl (upd (v 11) 6 (((v 11) 6) + 1)))), (a 12, .inl (cI, 10, .inl (upd (v 12) f (((v 12) f) + 1)))), (a 13, .inl (cI, 5, .inl (v 13))), (a 14, .inl (cI, 5, .inl (upd (v 14) (lvl K) (nI (beh (G.2.1 p) e2))))), (a 16, .inl (cI, 128, .inl (v 16))), (a 17, .inl (cI, 128, .inl (v 17))), (a 18, .inl (cI, 128, .inl (v 18)))] H := hP
              have hD : va_D A [(a 0, .inr (5, [.int t, .ref (a 1), .ref (a 2), .ref (a 3), .ref (a 4), .ref (a 5), .ref (a 6), .ref (a 7), .ref (a 8), .ref (a 9), .int r, .ref (a 11), .ref (a 12), .ref (a 13), .ref (a 14), .int (nI (lvl K)), .ref (a 16), .ref (a 17), .ref (a 18), .int (nI (bl K)), .int (nI (hn K))])), (a 1, .inl (cI, 6, .inl (v 1))), (a 2, .inl (cI, 240, .inl (v 2))), (a 3, .inl (cI, 240, .inl (v 3))), (a 4, .inl (cI, 240, .inl (v 4))), (a 5, .inl (cI, 240, .inl (v 5))), (a 6, .inl (cZ, 8, .inl (v 6))), (a 7, .inl (cI, 8, .inl (v 7))), (a 8, .inl (cI, 8, .inl (v 8))), (a 9, .inl (cI, 8, .inl (v 9))), (a 11, .inl (cI, 8, .inl (upd (v 11) 6 (((v 11) 6) + 1)))), (a 12, .inl (cI, 10, .inl (upd (v 12) f (((v 12) f) + 1)))), (a 13, .inl (cI, 5, .inl (v 13))), (a 14, .inl (cI, 5, .inl (upd (v 14) (lvl K) (nI (beh (G.2.1 p) e2))))), (a 16, .inl (cI, 128, .inl (v 16))), (a 17, .inl (cI, 128, .inl (v 17))), (a 18, .inl (cI, 128, .inl (v 18)))] := hD
              refine lv_iconst (v := 1) hx hb dX5_isCaught_103 (by decide) ?_
              exact Ri (D := D) ((va_up (va_up (va_up v 14 (upd (v 14) (lvl K) (nI (beh (G.2.1 p) e2)))) 12 (upd (v 12) f (v 12 f + 1))) 11 (upd (v 11) 6 (v 11 6 + 1))), r, nI (lvl K), nI (bl K), nI (hn K)) hx hb hr (by decide) hlocks hP hD hS (Or.inl (by rw [hu, unw_c (by omega) (by omega)]; exact ⟨rfl, rfl, R_caught (by omega) hR hsK hvp⟩)) dX5_isCaught_104
      · simp only at he; subst he
        exact ih lf td ct e1 e2 _ v (hu.trans (unw_8 e1 e2)) ((Rp_same (by simp)).mp hR) hsK (hs8 rfl).1 hq6 hqc hw (by omega) hlK H locs hP hD hS ls hl
  exact loop0 K0 lf0 td0' ct0 p0 nx0 d0 v0 rfl hR0 hst0 hvp0 hp60 hcl0 hwf0 hKl0 hlv0 _ _ hP hD hS ls hl

set_option maxHeartbeats 4000000 in
set_option maxRecDepth 100000 in
theorem c_X5_ends (l : Launch) (D : va_G) (cI cZ : ClassId) (a : Nat → Nat) (v0 : Nat → Nat → Int32) (t r lv : Int32) (G : GP) (go : Nat → Nat) (lf0 : Nat → Int32) (rs : Int32) (td ct : Nat → Int32) (p0 nx0 : Nat) (K0 : KL) (d0 : Int) (q act f : Nat) (hf9 : f ≤ 9) (hR0 : Rp G go lf0 rs td ct (cnt K0) v0 r) (hst0 : Rst v0 K0) (hwf0 : WF G p0 d0 K0) (hKl0 : K0.length ≤ 64) : Ci l D [(cI, .int), (cZ, .boolean)] yX5_ends wsX5_ends ({ frames := 1, cells := 0, slots := 0, locals := 22 }) [.ref (a 0), .int (nI q), .int (nI act), .int (nI f)] (wM a cI cZ v0 t r lv (nI (bl K0)) (nI (hn K0))) (S := RS) (fun w u => w = (if f = 0 then 2 else 1) ∧ Rp G go (unw G 0 K0 lf0 td ct p0 nx0).2.1 rs (upd (upd (upd td 0 (nI f)) 1 (nI q)) 2 (nI act)) ct (cnt []) u.1 u.2.1) (fun u => wM a cI cZ u.1 t u.2.1 u.2.2.1 u.2.2.2.1 u.2.2.2.2) := by
  refine Ci.mk (cc := cX5_ends) (maxL := 4) (ret := (some .int)) (by decide +kernel) rfl (Nat.le_of_ble_eq_true rfl) ?_
  intro pg e s m below meth c A ls hx hb hml hr hown hts hlocks hK hns hA hP hD hS hl
  have hl : lv_has ls 4 [(0, .ref (a 0)), (1, .int (nI q)), (2, .int (nI act)), (3, .int (nI f))] := hl
  have fl81 := hts (.fieldLink RX5 81 "HeldShelvesModel" "blocks" "I") (List.mem_of_getElem? (i := 1) rfl)
  have inX5 : ∀ w ∈ wsX50, w ∈ wsX5_ends := fun _ h => List.mem_cons_of_mem _ (List.mem_append_right _ h)
  have fl38 := hts (.fieldLink RX5 38 "HeldShelvesModel" "told" "[I") (List.mem_of_getElem? (i := 2) rfl)
  have hP : va_P D vwCl [(a 0, .inr (5, [.int t, .ref (a 1), .ref (a 2), .ref (a 3), .ref (a 4), .ref (a 5), .ref (a 6), .ref (a 7), .ref (a 8), .ref (a 9), .int r, .ref (a 11), .ref (a 12), .ref (a 13), .ref (a 14), .int lv, .ref (a 16), .ref (a 17), .ref (a 18), .int (nI (bl K0)), .int (nI (hn K0))])), (a 1, .inl (cI, 6, .inl (v0 1))), (a 2, .inl (cI, 240, .inl (v0 2))), (a 3, .inl (cI, 240, .inl (v0 3))), (a 4, .inl (cI, 240, .inl (v0 4))), (a 5, .inl (cI, 240, .inl (v0 5))), (a 6, .inl (cZ, 8, .inl (v0 6))), (a 7, .inl (cI, 8, .inl (v0 7))), (a 8, .inl (cI, 8, .inl (v0 8))), (a 9, .inl (cI, 8, .inl (v0 9))), (a 11, .inl (cI, 8, .inl (v0 11))), (a 12, .inl (cI, 10, .inl (v0 12))), (a 13, .inl (cI, 5, .inl (v0 13))), (a 14, .inl (cI, 5, .inl (v0 14))), (a 16, .inl (cI, 128, .inl (v0 16))), (a 17, .inl (cI, 128, .inl (v0 17))), (a 18, .inl (cI, 128, .inl (v0 18)))] s.heap := hP
  have hD : va_D A [(a 0, .inr (5, [.int t, .ref (a 1), .ref (a 2), .ref (a 3), .ref (a 4), .ref (a 5), .ref (a 6), .ref (a 7), .ref (a 8), .ref (a 9), .int r, .ref (a 11), .ref (a 12), .ref (a 13), .ref (a 14), .int lv, .ref (a 16), .ref (a 17), .ref (a 18), .int (nI (bl K0)), .int (nI (hn K0))])), (a 1, .inl (cI, 6, .inl (v0 1))), (a 2, .inl (cI, 240, .inl (v0 2))), (a 3, .inl (cI, 240, .inl (v0 3))), (a 4, .inl (cI, 240, .inl (v0 4))), (a 5, .inl (cI, 240, .inl (v0 5))), (a 6, .inl (cZ, 8, .inl (v0 6))), (a 7, .inl (cI, 8, .inl (v0 7))), (a 8, .inl (cI, 8, .inl (v0 8))), (a 9, .inl (cI, 8, .inl (v0 9))), (a 11, .inl (cI, 8, .inl (v0 11))), (a 12, .inl (cI, 10, .inl (v0 12))), (a 13, .inl (cI, 5, .inl (v0 13))), (a 14, .inl (cI, 5, .inl (v0 14))), (a 16, .inl (cI, 128, .inl (v0 16))), (a 17, .inl (cI, 128, .inl (v0 17))), (a 18, .inl (cI, 128, .inl (v0 18)))] := hD
  have loop0 : ∀ (K : KL) (lf : Nat → Int32) (p nx : Nat) (d : Int) (v : Nat → Nat → Int32), unw G 0 K0 lf0 td ct p0 nx0 = unw G 0 K lf td ct p nx → Rp G go lf rs td ct (cnt K) v r → Rst v K → WF G p d K → K.length ≤ 64 → ∀ (H : Heap) (locs : List Loc), va_P D vwCl (wM a cI cZ v t r lv (nI (bl K)) (nI (hn K))) H → va_D A (wM a cI cZ v t r lv (nI (bl K)) (nI (hn K))) → va_S A s.heap H locs → ∀ (ls : Array Slot), lv_has ls 4 [(0, .ref (a 0)), (1, .int (nI q)), (2, .int (nI act)), (3, .int (nI f))] → W pg l e ({ frames := 1, cells := 0, slots := 0, locals := 22 } : Room) s m ([.ref (a 0), .int (nI q), .int (nI act), .int (nI f)] : List Value).toArray below meth c H locs 0 0 (Qi D below ([.ref (a 0), .int (nI q), .int (nI act), .int (nI f)] : List Value).toArray s A (S := RS) (fun w u => w = (if f = 0 then 2 else 1) ∧ Rp G go (unw G 0 K0 lf0 td ct p0 nx0).2.1 rs (upd (upd (upd td 0 (nI f)) 1 (nI q)) 2 (nI act)) ct (cnt []) u.1 u.2.1) (fun u => wM a cI cZ u.1 t u.2.1 u.2.2.1 u.2.2.2.1 u.2.2.2.2)) (F0 m 0 ls []) := by
    intro K
    induction K with
    | nil =>
      intro lf p nx d v hu hR hst hwf hKl H locs hP hD hS ls hl
      have hP : va_P D vwCl [(a 0, .inr (5, [.int t, .ref (a 1), .ref (a 2), .ref (a 3), .ref (a 4), .ref (a 5), .ref (a 6), .ref (a 7), .ref (a 8), .ref (a 9), .int r, .ref (a 11), .ref (a 12), .ref (a 13), .ref (a 14), .int lv, .ref (a 16), .ref (a 17), .ref (a 18), .int (nI 0), .int (nI 0)])), (a 1, .inl (cI, 6, .inl (v 1))), (a 2, .inl (cI, 240, .inl (v 2))), (a 3, .inl (cI, 240, .inl (v 3))), (a 4, .inl (cI, 240, .inl (v 4))), (a 5, .inl (cI, 240, .inl (v 5))), (a 6, .inl (cZ, 8, .inl (v 6))), (a 7, .inl (cI, 8, .inl (v 7))), (a 8, .inl (cI, 8, .inl (v 8))), (a 9, .inl (cI, 8, .inl (v 9))), (a 11, .inl (cI, 8, .inl (v 11))), (a 12, .inl (cI, 10, .inl (v 12))), (a 13, .inl (cI, 5, .inl (v 13))), (a 14, .inl (cI, 5, .inl (v 14))), (a 16, .inl (cI, 128, .inl (v 16))), (a 17, .inl (cI, 128, .inl (v 17))), (a 18, .inl (cI, 128, .inl (v 18)))] H := hP
      have hD : va_D A [(a 0, .inr (5, [.int t, .ref (a 1), .ref (a 2), .ref (a 3), .ref (a 4), .ref (a 5), .ref (a 6), .ref (a 7), .ref (a 8), .ref (a 9), .int r, .ref (a 11), .ref (a 12), .ref (a 13), .ref (a 14), .int lv, .ref (a 16), .ref (a 17), .ref (a 18), .int (nI 0), .int (nI 0)])), (a 1, .inl (cI, 6, .inl (v 1))), (a 2, .inl (cI, 240, .inl (v 2))), (a 3, .inl (cI, 240, .inl (v 3))), (a 4, .inl (cI, 240, .inl (v 4))), (a 5, .inl (cI, 240, .inl (v 5))), (a 6, .inl (cZ, 8, .inl (v 6))), (a 7, .inl (cI, 8, .inl (v 7))), (a 8, .inl (cI, 8, .inl (v 8))), (a 9, .inl (cI, 8, .inl (v 9))), (a 11, .inl (cI, 8, .inl (v 11))), (a 12, .inl (cI, 10, .inl (v 12))), (a 13, .inl (cI, 5, .inl (v 13))), (a 14, .inl (cI, 5, .inl (v 14))), (a 16, .inl (cI, 128, .inl (v 16))), (a 17, .inl (cI, 128, .inl (v 17))), (a 18, .inl (cI, 128, .inl (v 18)))] := hD
      refine lv_aload_n hx hb dX5_ends_0 rfl (lv_at hl 0 rfl) ?_
      refine va_get (D := D) (ci := 5) (v := .int (nI 0)) (C := RX5) (T := TX5) (N := 21) hx hb hts inX5 hown hK hP 0 rfl rfl 19 (by decide) fl81 (fun _ h9 => h9) rfl dX5_ends_1 ?_
      refine lv_if_le (tgt := 15) hx hb dX5_ends_4 (by decide) (fun c_4 => ?_) (fun c_4 => ?_)
      · have c_4 : 0 ≤ 0 := (nI_leI (a := 0) (b := 0) (by omega) (by omega)).mp c_4
        refine lv_aload_n hx hb dX5_ends_15 rfl (lv_at hl 0 rfl) ?_
        refine va_get (D := D) (ci := 5) (v := .ref (a 11)) (C := RX5) (T := TX5) (N := 21) hx hb hts inX5 hown hK hP 0 rfl rfl 11 (by decide) fl38 (fun _ h9 => h9) rfl dX5_ends_16 ?_
        refine lv_iconst (v := 0) hx hb dX5_ends_19 (by decide) ?_
        refine lv_iload_n hx hb dX5_ends_20 rfl (lv_at hl 3 rfl) ?_
        refine xi_ast hx hb hK hP hD hS 10 0 rfl rfl (k := 0) (x := (nI f)) (by omega) (by decide) dX5_ends_21 (fun H locs hP hD hS => ?_)
        have hP : va_P D vwCl [(a 0, .inr (5, [.int t, .ref (a 1), .ref (a 2), .ref (a 3), .ref (a 4), .ref (a 5), .ref (a 6), .ref (a 7), .ref (a 8), .ref (a 9), .int r, .ref (a 11), .ref (a 12), .ref (a 13), .ref (a 14), .int lv, .ref (a 16), .ref (a 17), .ref (a 18), .int (nI 0), .int (nI 0)])), (a 1, .inl (cI, 6, .inl (v 1))), (a 2, .inl (cI, 240, .inl (v 2))), (a 3, .inl (cI, 240, .inl (v 3))), (a 4, .inl (cI, 240, .inl (v 4))), (a 5, .inl (cI, 240, .inl (v 5))), (a 6, .inl (cZ, 8, .inl (v 6))), (a 7, .inl (cI, 8, .inl (v 7))), (a 8, .inl (cI, 8, .inl (v 8))), (a 9, .inl (cI, 8, .inl (v 9))), (a 11, .inl (cI, 8, .inl (upd (v 11) 0 (nI f)))), (a 12, .inl (cI, 10, .inl (v 12))), (a 13, .inl (cI, 5, .inl (v 13))), (a 14, .inl (cI, 5, .inl (v 14))), (a 16, .inl (cI, 128, .inl (v 16))), (a 17, .inl (cI, 128, .inl (v 17))), (a 18, .inl (cI, 128, .inl (v 18)))] H := hP
        have hD : va_D A [(a 0, .inr (5, [.int t, .ref (a 1), .ref (a 2), .ref (a 3), .ref (a 4), .ref (a 5), .ref (a 6), .ref (a 7), .ref (a 8), .ref (a 9), .int r, .ref (a 11), .ref (a 12), .ref (a 13), .ref (a 14), .int lv, .ref (a 16), .ref (a 17), .ref (a 18), .int (nI 0), .int (nI 0)])), (a 1, .inl (cI, 6, .inl (v 1))), (a 2, .inl (cI, 240, .inl (v 2))), (a 3, .inl (cI, 240, .inl (v 3))), (a 4, .inl (cI, 240, .inl (v 4))), (a 5, .inl (cI, 240, .inl (v 5))), (a 6, .inl (cZ, 8, .inl (v 6))), (a 7, .inl (cI, 8, .inl (v 7))), (a 8, .inl (cI, 8, .inl (v 8))), (a 9, .inl (cI, 8, .inl (v 9))), (a 11, .inl (cI, 8, .inl (upd (v 11) 0 (nI f)))), (a 12, .inl (cI, 10, .inl (v 12))), (a 13, .inl (cI, 5, .inl (v 13))), (a 14, .inl (cI, 5, .inl (v 14))), (a 16, .inl (cI, 128, .inl (v 16))), (a 17, .inl (cI, 128, .inl (v 17))), (a 18, .inl (cI, 128, .inl (v 18)))] := hD
        refine lv_aload_n hx hb dX5_ends_22 rfl (lv_at hl 0 rfl) ?_
        refine va_get (D := D) (ci := 5) (v := .ref (a 11)) (C := RX5) (T := TX5) (N := 21) hx hb hts inX5 hown hK hP 0 rfl rfl 11 (by decide) fl38 (fun _ h9 => h9) rfl dX5_ends_23 ?_
        refine lv_iconst (v := 1) hx hb dX5_ends_26 (by decide) ?_
        refine lv_iload_n hx hb dX5_ends_27 rfl (lv_at hl 1 rfl) ?_
        refine xi_ast hx hb hK hP hD hS 10 0 rfl rfl (k := 1) (x := (nI q)) (by omega) (by decide) dX5_ends_28 (fun H locs hP hD hS => ?_)
        have hP : va_P D vwCl [(a 0, .inr (5, [.int t, .ref (a 1), .ref (a 2), .ref (a 3), .ref (a 4), .ref (a 5), .ref (a 6), .ref (a 7), .ref (a 8), .ref (a 9), .int r, .ref (a 11), .ref (a 12), .ref (a 13), .ref (a 14), .int lv, .ref (a 16), .ref (a 17), .ref (a 18), .int (nI 0), .int (nI 0)])), (a 1, .inl (cI, 6, .inl (v 1))), (a 2, .inl (cI, 240, .inl (v 2))), (a 3, .inl (cI, 240, .inl (v 3))), (a 4, .inl (cI, 240, .inl (v 4))), (a 5, .inl (cI, 240, .inl (v 5))), (a 6, .inl (cZ, 8, .inl (v 6))), (a 7, .inl (cI, 8, .inl (v 7))), (a 8, .inl (cI, 8, .inl (v 8))), (a 9, .inl (cI, 8, .inl (v 9))), (a 11, .inl (cI, 8, .inl (upd (upd (v 11) 0 (nI f)) 1 (nI q)))), (a 12, .inl (cI, 10, .inl (v 12))), (a 13, .inl (cI, 5, .inl (v 13))), (a 14, .inl (cI, 5, .inl (v 14))), (a 16, .inl (cI, 128, .inl (v 16))), (a 17, .inl (cI, 128, .inl (v 17))), (a 18, .inl (cI, 128, .inl (v 18)))] H := hP
        have hD : va_D A [(a 0, .inr (5, [.int t, .ref (a 1), .ref (a 2), .ref (a 3), .ref (a 4), .ref (a 5), .ref (a 6), .ref (a 7), .ref (a 8), .ref (a 9), .int r, .ref (a 11), .ref (a 12), .ref (a 13), .ref (a 14), .int lv, .ref (a 16), .ref (a 17), .ref (a 18), .int (nI 0), .int (nI 0)])), (a 1, .inl (cI, 6, .inl (v 1))), (a 2, .inl (cI, 240, .inl (v 2))), (a 3, .inl (cI, 240, .inl (v 3))), (a 4, .inl (cI, 240, .inl (v 4))), (a 5, .inl (cI, 240, .inl (v 5))), (a 6, .inl (cZ, 8, .inl (v 6))), (a 7, .inl (cI, 8, .inl (v 7))), (a 8, .inl (cI, 8, .inl (v 8))), (a 9, .inl (cI, 8, .inl (v 9))), (a 11, .inl (cI, 8, .inl (upd (upd (v 11) 0 (nI f)) 1 (nI q)))), (a 12, .inl (cI, 10, .inl (v 12))), (a 13, .inl (cI, 5, .inl (v 13))), (a 14, .inl (cI, 5, .inl (v 14))), (a 16, .inl (cI, 128, .inl (v 16))), (a 17, .inl (cI, 128, .inl (v 17))), (a 18, .inl (cI, 128, .inl (v 18)))] := hD
        refine lv_aload_n hx hb dX5_ends_29 rfl (lv_at hl 0 rfl) ?_
        refine va_get (D := D) (ci := 5) (v := .ref (a 11)) (C := RX5) (T := TX5) (N := 21) hx hb hts inX5 hown hK hP 0 rfl rfl 11 (by decide) fl38 (fun _ h9 => h9) rfl dX5_ends_30 ?_
        refine lv_iconst (v := 2) hx hb dX5_ends_33 (by decide) ?_
        refine lv_iload_n hx hb dX5_ends_34 rfl (lv_at hl 2 rfl) ?_
        refine xi_ast hx hb hK hP hD hS 10 0 rfl rfl (k := 2) (x := (nI act)) (by omega) (by decide) dX5_ends_35 (fun H locs hP hD hS => ?_)
        have hP : va_P D vwCl [(a 0, .inr (5, [.int t, .ref (a 1), .ref (a 2), .ref (a 3), .ref (a 4), .ref (a 5), .ref (a 6), .ref (a 7), .ref (a 8), .ref (a 9), .int r, .ref (a 11), .ref (a 12), .ref (a 13), .ref (a 14), .int lv, .ref (a 16), .ref (a 17), .ref (a 18), .int (nI 0), .int (nI 0)])), (a 1, .inl (cI, 6, .inl (v 1))), (a 2, .inl (cI, 240, .inl (v 2))), (a 3, .inl (cI, 240, .inl (v 3))), (a 4, .inl (cI, 240, .inl (v 4))), (a 5, .inl (cI, 240, .inl (v 5))), (a 6, .inl (cZ, 8, .inl (v 6))), (a 7, .inl (cI, 8, .inl (v 7))), (a 8, .inl (cI, 8, .inl (v 8))), (a 9, .inl (cI, 8, .inl (v 9))), (a 11, .inl (cI, 8, .inl (upd (upd (upd (v 11) 0 (nI f)) 1 (nI q)) 2 (nI act)))), (a 12, .inl (cI, 10, .inl (v 12))), (a 13, .inl (cI, 5, .inl (v 13))), (a 14, .inl (cI, 5, .inl (v 14))), (a 16, .inl (cI, 128, .inl (v 16))), (a 17, .inl (cI, 128, .inl (v 17))), (a 18, .inl (cI, 128, .inl (v 18)))] H := hP
        have hD : va_D A [(a 0, .inr (5, [.int t, .ref (a 1), .ref (a 2), .ref (a 3), .ref (a 4), .ref (a 5), .ref (a 6), .ref (a 7), .ref (a 8), .ref (a 9), .int r, .ref (a 11), .ref (a 12), .ref (a 13), .ref (a 14), .int lv, .ref (a 16), .ref (a 17), .ref (a 18), .int (nI 0), .int (nI 0)])), (a 1, .inl (cI, 6, .inl (v 1))), (a 2, .inl (cI, 240, .inl (v 2))), (a 3, .inl (cI, 240, .inl (v 3))), (a 4, .inl (cI, 240, .inl (v 4))), (a 5, .inl (cI, 240, .inl (v 5))), (a 6, .inl (cZ, 8, .inl (v 6))), (a 7, .inl (cI, 8, .inl (v 7))), (a 8, .inl (cI, 8, .inl (v 8))), (a 9, .inl (cI, 8, .inl (v 9))), (a 11, .inl (cI, 8, .inl (upd (upd (upd (v 11) 0 (nI f)) 1 (nI q)) 2 (nI act)))), (a 12, .inl (cI, 10, .inl (v 12))), (a 13, .inl (cI, 5, .inl (v 13))), (a 14, .inl (cI, 5, .inl (v 14))), (a 16, .inl (cI, 128, .inl (v 16))), (a 17, .inl (cI, 128, .inl (v 17))), (a 18, .inl (cI, 128, .inl (v 18)))] := hD
        refine lv_iload_n hx hb dX5_ends_36 rfl (lv_at hl 3 rfl) ?_
        refine lv_if_le (tgt := 44) hx hb dX5_ends_37 (by decide) (fun c_37 => ?_) (fun c_37 => ?_)
        · have c_37 : f ≤ 0 := (nI_leI (a := f) (b := 0) (by omega) (by omega)).mp c_37
          refine lv_iconst (v := 2) hx hb dX5_ends_44 (by decide) ?_
          exact Ri (D := D) (va_up v 11 (upd (upd (upd (v 11) 0 (nI f)) 1 (nI q)) 2 (nI act)), r, lv, nI 0, nI 0) hx hb hr rfl hlocks hP hD hS (by rw [hu]; exact ⟨(if_pos (by omega)).symm, R_ends hR⟩) dX5_ends_45
        · have c_37 : ¬ (f ≤ 0) := fun h => c_37 ((nI_leI (a := f) (b := 0) (by omega) (by omega)).mpr h)
          refine lv_iconst (v := 1) hx hb dX5_ends_40 (by decide) ?_
          refine lv_goto (tgt := 45) hx hb dX5_ends_41 (by decide) ?_
          exact Ri (D := D) (va_up v 11 (upd (upd (upd (v 11) 0 (nI f)) 1 (nI q)) 2 (nI act)), r, lv, nI 0, nI 0) hx hb hr rfl hlocks hP hD hS (by rw [hu]; exact ⟨(if_neg (by omega)).symm, R_ends hR⟩) dX5_ends_45
      · have c_4 : ¬ (0 ≤ 0) := fun h => c_4 ((nI_leI (a := 0) (b := 0) (by omega) (by omega)).mpr h)
        exact absurd c_4 (by omega)
    | cons e K ih =>
      intro lf p nx d v hu hR hst hwf hKl H locs hP hD hS ls hl
      obtain ⟨e0, e1, e2⟩ := e
      obtain ⟨hs8, hs0, hs1, hsK⟩ := hst
      have hKl : K.length + 1 ≤ 64 := hKl
      have hbl := bl_le K
      rcases hwf with ⟨he, hx8, hw⟩ | ⟨he, hx10, hact, hkd, hdp, hw⟩ | ⟨he, hd0, hq6, hqc, hqn, hw⟩
      · simp only at he; subst he
        have hx8 : e1 < 8 := hx8
        have hP : va_P D vwCl [(a 0, .inr (5, [.int t, .ref (a 1), .ref (a 2), .ref (a 3), .ref (a 4), .ref (a 5), .ref (a 6), .ref (a 7), .ref (a 8), .ref (a 9), .int r, .ref (a 11), .ref (a 12), .ref (a 13), .ref (a 14), .int lv, .ref (a 16), .ref (a 17), .ref (a 18), .int (nI (bl K + 1)), .int (nI (hn K + 1))])), (a 1, .inl (cI, 6, .inl (v 1))), (a 2, .inl (cI, 240, .inl (v 2))), (a 3, .inl (cI, 240, .inl (v 3))), (a 4, .inl (cI, 240, .inl (v 4))), (a 5, .inl (cI, 240, .inl (v 5))), (a 6, .inl (cZ, 8, .inl (v 6))), (a 7, .inl (cI, 8, .inl (v 7))), (a 8, .inl (cI, 8, .inl (v 8))), (a 9, .inl (cI, 8, .inl (v 9))), (a 11, .inl (cI, 8, .inl (v 11))), (a 12, .inl (cI, 10, .inl (v 12))), (a 13, .inl (cI, 5, .inl (v 13))), (a 14, .inl (cI, 5, .inl (v 14))), (a 16, .inl (cI, 128, .inl (v 16))), (a 17, .inl (cI, 128, .inl (v 17))), (a 18, .inl (cI, 128, .inl (v 18)))] H := hP
        have hD : va_D A [(a 0, .inr (5, [.int t, .ref (a 1), .ref (a 2), .ref (a 3), .ref (a 4), .ref (a 5), .ref (a 6), .ref (a 7), .ref (a 8), .ref (a 9), .int r, .ref (a 11), .ref (a 12), .ref (a 13), .ref (a 14), .int lv, .ref (a 16), .ref (a 17), .ref (a 18), .int (nI (bl K + 1)), .int (nI (hn K + 1))])), (a 1, .inl (cI, 6, .inl (v 1))), (a 2, .inl (cI, 240, .inl (v 2))), (a 3, .inl (cI, 240, .inl (v 3))), (a 4, .inl (cI, 240, .inl (v 4))), (a 5, .inl (cI, 240, .inl (v 5))), (a 6, .inl (cZ, 8, .inl (v 6))), (a 7, .inl (cI, 8, .inl (v 7))), (a 8, .inl (cI, 8, .inl (v 8))), (a 9, .inl (cI, 8, .inl (v 9))), (a 11, .inl (cI, 8, .inl (v 11))), (a 12, .inl (cI, 10, .inl (v 12))), (a 13, .inl (cI, 5, .inl (v 13))), (a 14, .inl (cI, 5, .inl (v 14))), (a 16, .inl (cI, 128, .inl (v 16))), (a 17, .inl (cI, 128, .inl (v 17))), (a 18, .inl (cI, 128, .inl (v 18)))] := hD
        refine lv_aload_n hx hb dX5_ends_0 rfl (lv_at hl 0 rfl) ?_
        refine va_get (D := D) (ci := 5) (v := .int (nI (bl K + 1))) (C := RX5) (T := TX5) (N := 21) hx hb hts inX5 hown hK hP 0 rfl rfl 19 (by decide) fl81 (fun _ h9 => h9) rfl dX5_ends_1 ?_
        refine lv_if_le (tgt := 15) hx hb dX5_ends_4 (by decide) (fun c_4 => ?_) (fun c_4 => ?_)
        · have c_4 : (bl K + 1) ≤ 0 := (nI_leI (a := (bl K + 1)) (b := 0) (by omega) (by omega)).mp c_4
          exact absurd c_4 (by omega)
        · have c_4 : ¬ ((bl K + 1) ≤ 0) := fun h => c_4 ((nI_leI (a := (bl K + 1)) (b := 0) (by omega) (by omega)).mpr h)
          refine lv_aload_n hx hb dX5_ends_7 rfl (lv_at hl 0 rfl) ?_
          refine lv_iconst (v := 1) hx hb dX5_ends_8 (by decide) ?_
          refine cl_Vv ([]) ([]) (As := [.int 1]) (rest := []) (c_X5_closes1H l D cI cZ a v t r lv (nI (hn K + 1)) (bl K) (by omega) e1 hx8 (hs0 rfl)) ⟨hx, hb, hml, hown, hts⟩ (cwV 1 hts gX5_ends_X5_closes rfl rfl rfl (by decide +kernel) ⟨Nat.le_of_ble_eq_true rfl, Nat.le_of_ble_eq_true rfl⟩) hK hns hP hD hS hA rfl (T := TX5) (N := 21) rfl rfl hl.1 rfl (Nat.le_of_ble_eq_true rfl) dX5_ends_9 ⟨Nat.zero_le _, Nat.zero_le _⟩ (fun u9 H locs hw9 hP hD hS => ?_)
          have hP : va_P D vwCl [(a 0, .inr (5, [.int t, .ref (a 1), .ref (a 2), .ref (a 3), .ref (a 4), .ref (a 5), .ref (a 6), .ref (a 7), .ref (a 8), .ref (a 9), .int r, .ref (a 11), .ref (a 12), .ref (a 13), .ref (a 14), .int lv, .ref (a 16), .ref (a 17), .ref (a 18), .int (nI (bl K)), .int (nI (hn K + 1) - 1)])), (a 1, .inl (cI, 6, .inl (v 1))), (a 2, .inl (cI, 240, .inl (v 2))), (a 3, .inl (cI, 240, .inl (v 3))), (a 4, .inl (cI, 240, .inl (v 4))), (a 5, .inl (cI, 240, .inl (v 5))), (a 6, .inl (cZ, 8, .inl (v 6))), (a 7, .inl (cI, 8, .inl (v 7))), (a 8, .inl (cI, 8, .inl (upd (v 8) e1 (v 8 e1 + 1)))), (a 9, .inl (cI, 8, .inl (upd (v 9) e1 (v 9 e1 - 1)))), (a 11, .inl (cI, 8, .inl (v 11))), (a 12, .inl (cI, 10, .inl (v 12))), (a 13, .inl (cI, 5, .inl (v 13))), (a 14, .inl (cI, 5, .inl (v 14))), (a 16, .inl (cI, 128, .inl (v 16))), (a 17, .inl (cI, 128, .inl (v 17))), (a 18, .inl (cI, 128, .inl (v 18)))] H := hP
          have hD : va_D A [(a 0, .inr (5, [.int t, .ref (a 1), .ref (a 2), .ref (a 3), .ref (a 4), .ref (a 5), .ref (a 6), .ref (a 7), .ref (a 8), .ref (a 9), .int r, .ref (a 11), .ref (a 12), .ref (a 13), .ref (a 14), .int lv, .ref (a 16), .ref (a 17), .ref (a 18), .int (nI (bl K)), .int (nI (hn K + 1) - 1)])), (a 1, .inl (cI, 6, .inl (v 1))), (a 2, .inl (cI, 240, .inl (v 2))), (a 3, .inl (cI, 240, .inl (v 3))), (a 4, .inl (cI, 240, .inl (v 4))), (a 5, .inl (cI, 240, .inl (v 5))), (a 6, .inl (cZ, 8, .inl (v 6))), (a 7, .inl (cI, 8, .inl (v 7))), (a 8, .inl (cI, 8, .inl (upd (v 8) e1 (v 8 e1 + 1)))), (a 9, .inl (cI, 8, .inl (upd (v 9) e1 (v 9 e1 - 1)))), (a 11, .inl (cI, 8, .inl (v 11))), (a 12, .inl (cI, 10, .inl (v 12))), (a 13, .inl (cI, 5, .inl (v 13))), (a 14, .inl (cI, 5, .inl (v 14))), (a 16, .inl (cI, 128, .inl (v 16))), (a 17, .inl (cI, 128, .inl (v 17))), (a 18, .inl (cI, 128, .inl (v 18)))] := hD
          rw [nI_pred] at hP hD
          refine lv_goto (tgt := 0) hx hb dX5_ends_12 (by decide) ?_
          exact ih (upd lf e1 (lf e1 + 1)) p nx _ _ (hu.trans (unw_h e1 e2)) (Rp_pop (by omega) hR) (Rst_frame (v := v) (fun j hj => ⟨rfl, rfl, rfl⟩) (fun j hj => ⟨rfl, rfl⟩) hsK) hw (by omega) _ _ hP hD hS ls (lv_sub hl [0, 1, 2, 3] rfl)
      · simp only at he; subst he
        have hx10 : e1 < 10 := hx10
        have hP : va_P D vwCl [(a 0, .inr (5, [.int t, .ref (a 1), .ref (a 2), .ref (a 3), .ref (a 4), .ref (a 5), .ref (a 6), .ref (a 7), .ref (a 8), .ref (a 9), .int r, .ref (a 11), .ref (a 12), .ref (a 13), .ref (a 14), .int lv, .ref (a 16), .ref (a 17), .ref (a 18), .int (nI (bl K + 1)), .int (nI (hn K))])), (a 1, .inl (cI, 6, .inl (v 1))), (a 2, .inl (cI, 240, .inl (v 2))), (a 3, .inl (cI, 240, .inl (v 3))), (a 4, .inl (cI, 240, .inl (v 4))), (a 5, .inl (cI, 240, .inl (v 5))), (a 6, .inl (cZ, 8, .inl (v 6))), (a 7, .inl (cI, 8, .inl (v 7))), (a 8, .inl (cI, 8, .inl (v 8))), (a 9, .inl (cI, 8, .inl (v 9))), (a 11, .inl (cI, 8, .inl (v 11))), (a 12, .inl (cI, 10, .inl (v 12))), (a 13, .inl (cI, 5, .inl (v 13))), (a 14, .inl (cI, 5, .inl (v 14))), (a 16, .inl (cI, 128, .inl (v 16))), (a 17, .inl (cI, 128, .inl (v 17))), (a 18, .inl (cI, 128, .inl (v 18)))] H := hP
        have hD : va_D A [(a 0, .inr (5, [.int t, .ref (a 1), .ref (a 2), .ref (a 3), .ref (a 4), .ref (a 5), .ref (a 6), .ref (a 7), .ref (a 8), .ref (a 9), .int r, .ref (a 11), .ref (a 12), .ref (a 13), .ref (a 14), .int lv, .ref (a 16), .ref (a 17), .ref (a 18), .int (nI (bl K + 1)), .int (nI (hn K))])), (a 1, .inl (cI, 6, .inl (v 1))), (a 2, .inl (cI, 240, .inl (v 2))), (a 3, .inl (cI, 240, .inl (v 3))), (a 4, .inl (cI, 240, .inl (v 4))), (a 5, .inl (cI, 240, .inl (v 5))), (a 6, .inl (cZ, 8, .inl (v 6))), (a 7, .inl (cI, 8, .inl (v 7))), (a 8, .inl (cI, 8, .inl (v 8))), (a 9, .inl (cI, 8, .inl (v 9))), (a 11, .inl (cI, 8, .inl (v 11))), (a 12, .inl (cI, 10, .inl (v 12))), (a 13, .inl (cI, 5, .inl (v 13))), (a 14, .inl (cI, 5, .inl (v 14))), (a 16, .inl (cI, 128, .inl (v 16))), (a 17, .inl (cI, 128, .inl (v 17))), (a 18, .inl (cI, 128, .inl (v 18)))] := hD
        refine lv_aload_n hx hb dX5_ends_0 rfl (lv_at hl 0 rfl) ?_
        refine va_get (D := D) (ci := 5) (v := .int (nI (bl K + 1))) (C := RX5) (T := TX5) (N := 21) hx hb hts inX5 hown hK hP 0 rfl rfl 19 (by decide) fl81 (fun _ h9 => h9) rfl dX5_ends_1 ?_
        refine lv_if_le (tgt := 15) hx hb dX5_ends_4 (by decide) (fun c_4 => ?_) (fun c_4 => ?_)
        · have c_4 : (bl K + 1) ≤ 0 := (nI_leI (a := (bl K + 1)) (b := 0) (by omega) (by omega)).mp c_4
          exact absurd c_4 (by omega)
        · have c_4 : ¬ ((bl K + 1) ≤ 0) := fun h => c_4 ((nI_leI (a := (bl K + 1)) (b := 0) (by omega) (by omega)).mpr h)
          refine lv_aload_n hx hb dX5_ends_7 rfl (lv_at hl 0 rfl) ?_
          refine lv_iconst (v := 1) hx hb dX5_ends_8 (by decide) ?_
          refine cl_Vv ([]) ([]) (As := [.int 1]) (rest := []) (c_X5_closes1T l D cI cZ a v t r lv (nI (hn K)) (bl K) (by omega) e1 hx10 (hs1 rfl).1) ⟨hx, hb, hml, hown, hts⟩ (cwV 1 hts gX5_ends_X5_closes rfl rfl rfl (by decide +kernel) ⟨Nat.le_of_ble_eq_true rfl, Nat.le_of_ble_eq_true rfl⟩) hK hns hP hD hS hA rfl (T := TX5) (N := 21) rfl rfl hl.1 rfl (Nat.le_of_ble_eq_true rfl) dX5_ends_9 ⟨Nat.zero_le _, Nat.zero_le _⟩ (fun u9 H locs hw9 hP hD hS => ?_)
          have hP : va_P D vwCl [(a 0, .inr (5, [.int t, .ref (a 1), .ref (a 2), .ref (a 3), .ref (a 4), .ref (a 5), .ref (a 6), .ref (a 7), .ref (a 8), .ref (a 9), .int r, .ref (a 11), .ref (a 12), .ref (a 13), .ref (a 14), .int lv, .ref (a 16), .ref (a 17), .ref (a 18), .int (nI (bl K)), .int (nI (hn K))])), (a 1, .inl (cI, 6, .inl (v 1))), (a 2, .inl (cI, 240, .inl (v 2))), (a 3, .inl (cI, 240, .inl (v 3))), (a 4, .inl (cI, 240, .inl (v 4))), (a 5, .inl (cI, 240, .inl (v 5))), (a 6, .inl (cZ, 8, .inl (v 6))), (a 7, .inl (cI, 8, .inl (v 7))), (a 8, .inl (cI, 8, .inl (v 8))), (a 9, .inl (cI, 8, .inl (v 9))), (a 11, .inl (cI, 8, .inl (v 11))), (a 12, .inl (cI, 10, .inl (v 12))), (a 13, .inl (cI, 5, .inl (v 13))), (a 14, .inl (cI, 5, .inl (v 14))), (a 16, .inl (cI, 128, .inl (v 16))), (a 17, .inl (cI, 128, .inl (v 17))), (a 18, .inl (cI, 128, .inl (v 18)))] H := hP
          have hD : va_D A [(a 0, .inr (5, [.int t, .ref (a 1), .ref (a 2), .ref (a 3), .ref (a 4), .ref (a 5), .ref (a 6), .ref (a 7), .ref (a 8), .ref (a 9), .int r, .ref (a 11), .ref (a 12), .ref (a 13), .ref (a 14), .int lv, .ref (a 16), .ref (a 17), .ref (a 18), .int (nI (bl K)), .int (nI (hn K))])), (a 1, .inl (cI, 6, .inl (v 1))), (a 2, .inl (cI, 240, .inl (v 2))), (a 3, .inl (cI, 240, .inl (v 3))), (a 4, .inl (cI, 240, .inl (v 4))), (a 5, .inl (cI, 240, .inl (v 5))), (a 6, .inl (cZ, 8, .inl (v 6))), (a 7, .inl (cI, 8, .inl (v 7))), (a 8, .inl (cI, 8, .inl (v 8))), (a 9, .inl (cI, 8, .inl (v 9))), (a 11, .inl (cI, 8, .inl (v 11))), (a 12, .inl (cI, 10, .inl (v 12))), (a 13, .inl (cI, 5, .inl (v 13))), (a 14, .inl (cI, 5, .inl (v 14))), (a 16, .inl (cI, 128, .inl (v 16))), (a 17, .inl (cI, 128, .inl (v 17))), (a 18, .inl (cI, 128, .inl (v 18)))] := hD
          refine lv_goto (tgt := 0) hx hb dX5_ends_12 (by decide) ?_
          exact ih lf p nx _ v (hu.trans (unw_t (fun q => absurd rfl q.1))) ((Rp_same (by simp)).mp hR) hsK hw (by omega) _ _ hP hD hS ls (lv_sub hl [0, 1, 2, 3] rfl)
      · simp only at he; subst he
        exact ih lf e1 e2 _ v (hu.trans (unw_8 e1 e2)) ((Rp_same (by simp)).mp hR) hsK hw (by omega) H locs hP hD hS ls hl
  exact loop0 K0 lf0 p0 nx0 d0 v0 rfl hR0 hst0 hwf0 hKl0 _ _ hP hD hS ls hl
end
