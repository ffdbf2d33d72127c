set_option maxHeartbeats 4000000 in
set_option maxRecDepth 100000 in
theorem c_X2_reset (l : Launch) (D : va_G) (cI : ClassId) (a : Nat → Nat) (ct td : Nat → Int32) (op : Int32) : Cv l D [(cI, .int)] yX2_reset wsX2_reset ({ frames := 1, cells := 0, slots := 0, locals := 23 }) [.ref (a 0)] (wRp a cI ct td op) (S := Nat → Int32) (fun u => ∀ j, j < 10 → u j = 0) (fun u => wRp a cI u td0 0) := by
  refine Cv.mk (cc := cX2_reset) (maxL := 2) (ret := none) (by decide +kernel) rfl (Nat.le_of_ble_eq_true rfl) ?_
  intro pg e s m below meth c A ls hx hb hml hr hown hts hlocks hK hns hA hP hD hS hl
  have hl : lv_has ls 2 [(0, .ref (a 0))] := hl
  have fl22 := hts (.fieldLink RX2 22 "HeldShelves$Report" "caughtInAll" "I") (List.mem_of_getElem? (i := 2) rfl)
  have inX2 : ∀ w ∈ wsX20, w ∈ wsX2_reset := fun _ h => List.mem_cons_of_mem _ (List.mem_append_right _ h)
  have fl29 := hts (.fieldLink RX2 29 "HeldShelves$Report" "steps" "I") (List.mem_of_getElem? (i := 3) rfl)
  have fl32 := hts (.fieldLink RX2 32 "HeldShelves$Report" "holds" "I") (List.mem_of_getElem? (i := 4) rfl)
  have fl35 := hts (.fieldLink RX2 35 "HeldShelves$Report" "holdsOpen" "I") (List.mem_of_getElem? (i := 5) rfl)
  have fl38 := hts (.fieldLink RX2 38 "HeldShelves$Report" "mostOpen" "I") (List.mem_of_getElem? (i := 6) rfl)
  have fl41 := hts (.fieldLink RX2 41 "HeldShelves$Report" "calls" "I") (List.mem_of_getElem? (i := 7) rfl)
  have fl9 := hts (.fieldLink RX2 9 "HeldShelves$Report" "caughtOf" "[I") (List.mem_of_getElem? (i := 1) rfl)
  have hP : va_P D vwCl [(a 0, .inr (2, [.ref (a 1), .int (td 6), .int (td 0), .int (td 1), .int (td 2), .int (td 3), .int (td 4), .int op, .int (td 5), .int (td 7)])), (a 1, .inl (cI, 10, .inl ct))] s.heap := hP
  have hD : va_D A [(a 0, .inr (2, [.ref (a 1), .int (td 6), .int (td 0), .int (td 1), .int (td 2), .int (td 3), .int (td 4), .int op, .int (td 5), .int (td 7)])), (a 1, .inl (cI, 10, .inl ct))] := hD
  refine lv_iconst (v := 0) hx hb dX2_reset_0 (by decide) ?_
  refine lv_istore_n (lv' := [(1, .int 0), (0, .ref (a 0))]) hx hb dX2_reset_1 rfl hl (by decide) rfl (fun ls hl => ?_)
  have loop2 : ∀ (k : Nat) (i : Nat) (ct' : Nat → Int32), 10 + 1 ≤ i + k → i ≤ 10 → (∀ j, j < i → ct' j = 0) → ∀ (H : Heap) (locs : List Loc), va_P D vwCl [(a 0, .inr (2, [.ref (a 1), .int (td 6), .int (td 0), .int (td 1), .int (td 2), .int (td 3), .int (td 4), .int op, .int (td 5), .int (td 7)])), (a 1, .inl (cI, 10, .inl ct'))] H → va_D A [(a 0, .inr (2, [.ref (a 1), .int (td 6), .int (td 0), .int (td 1), .int (td 2), .int (td 3), .int (td 4), .int op, .int (td 5), .int (td 7)])), (a 1, .inl (cI, 10, .inl ct'))] → va_S A s.heap H locs → ∀ (ls : Array Slot), lv_has ls 2 [(0, .ref (a 0)), (1, .int (nI i))] → W pg l e ({ frames := 1, cells := 0, slots := 0, locals := 23 } : Room) s m ([.ref (a 0)] : List Value).toArray below meth c H locs 0 0 (Qv D below ([.ref (a 0)] : List Value).toArray s A (S := Nat → Int32) (fun u => ∀ j, j < 10 → u j = 0) (fun u => wRp a cI u td0 0)) (F0 m 2 ls []) := by
    intro k
    induction k with
    | zero => intro i ct' hk hi hz; exact absurd hk (by omega)
    | succ k ih =>
      intro i ct' hk hi hz H locs hP hD hS ls hl
      refine lv_iload_n hx hb dX2_reset_2 rfl (lv_at hl 1 rfl) ?_
      refine lv_bipush (v := 9) hx hb dX2_reset_3 (by decide) ?_
      refine lv_icmp_gt (tgt := 21) hx hb dX2_reset_5 (by decide) (fun c_5 => ?_) (fun c_5 => ?_)
      · have c_5 : 9 < i := (nI_ltI (a := 9) (b := i) (by omega) (by omega)).mp c_5
        refine lv_aload_n hx hb dX2_reset_21 rfl (lv_at hl 0 rfl) ?_
        refine lv_iconst (v := 0) hx hb dX2_reset_22 (by decide) ?_
        refine va_put (D := D) (ci := 2) (v := .int 0) (ty := .int) (C := RX2) (T := TX2) (N := 10) hx hb hts inX2 tyX2 tyX2_ok nmX2 hown hK hP hD hS 0 rfl rfl 1 (by decide) fl22 (fun _ h9 => h9) rfl (by decide +kernel) rfl rfl (Nat.le_of_ble_eq_true rfl) dX2_reset_23 (fun H locs hP hD hS => ?_)
        have hP : va_P D vwCl [(a 0, .inr (2, [.ref (a 1), .int 0, .int (td 0), .int (td 1), .int (td 2), .int (td 3), .int (td 4), .int op, .int (td 5), .int (td 7)])), (a 1, .inl (cI, 10, .inl ct'))] H := hP
        have hD : va_D A [(a 0, .inr (2, [.ref (a 1), .int 0, .int (td 0), .int (td 1), .int (td 2), .int (td 3), .int (td 4), .int op, .int (td 5), .int (td 7)])), (a 1, .inl (cI, 10, .inl ct'))] := hD
        refine lv_aload_n hx hb dX2_reset_26 rfl (lv_at hl 0 rfl) ?_
        refine lv_iconst (v := 0) hx hb dX2_reset_27 (by decide) ?_
        refine lv_bipush (v := (-4)) hx hb dX2_reset_28 (by decide) ?_
        refine lv_bipush (v := (-4)) hx hb dX2_reset_30 (by decide) ?_
        refine cl_Vv ([]) ([]) (As := [.int 0, .int (-4), .int (-4)]) (rest := []) (c_X2_endAt l D cI a ct' (upd td 6 0) op 0 (-4) (-4)) ⟨hx, hb, hml, hown, hts⟩ (cwV 3 hts gX2_reset_X2_endAt rfl rfl rfl (by decide +kernel) ⟨Nat.le_of_ble_eq_true rfl, Nat.le_of_ble_eq_true rfl⟩) hK hns hP hD hS hA rfl (T := TX2) (N := 10) rfl rfl hl.1 rfl (Nat.le_of_ble_eq_true rfl) dX2_reset_32 ⟨Nat.zero_le _, Nat.zero_le _⟩ (fun u32 H locs hw32 hP hD hS => ?_)
        have hP : va_P D vwCl [(a 0, .inr (2, [.ref (a 1), .int 0, .int 0, .int (-4), .int (-4), .int (td 3), .int (td 4), .int op, .int (td 5), .int (td 7)])), (a 1, .inl (cI, 10, .inl ct'))] H := hP
        have hD : va_D A [(a 0, .inr (2, [.ref (a 1), .int 0, .int 0, .int (-4), .int (-4), .int (td 3), .int (td 4), .int op, .int (td 5), .int (td 7)])), (a 1, .inl (cI, 10, .inl ct'))] := hD
        refine lv_aload_n hx hb dX2_reset_35 rfl (lv_at hl 0 rfl) ?_
        refine lv_iconst (v := 0) hx hb dX2_reset_36 (by decide) ?_
        refine va_put (D := D) (ci := 2) (v := .int 0) (ty := .int) (C := RX2) (T := TX2) (N := 10) hx hb hts inX2 tyX2 tyX2_ok nmX2 hown hK hP hD hS 0 rfl rfl 5 (by decide) fl29 (fun _ h9 => h9) rfl (by decide +kernel) rfl rfl (Nat.le_of_ble_eq_true rfl) dX2_reset_37 (fun H locs hP hD hS => ?_)
        have hP : va_P D vwCl [(a 0, .inr (2, [.ref (a 1), .int 0, .int 0, .int (-4), .int (-4), .int 0, .int (td 4), .int op, .int (td 5), .int (td 7)])), (a 1, .inl (cI, 10, .inl ct'))] H := hP
        have hD : va_D A [(a 0, .inr (2, [.ref (a 1), .int 0, .int 0, .int (-4), .int (-4), .int 0, .int (td 4), .int op, .int (td 5), .int (td 7)])), (a 1, .inl (cI, 10, .inl ct'))] := hD
        refine lv_aload_n hx hb dX2_reset_40 rfl (lv_at hl 0 rfl) ?_
        refine lv_iconst (v := 0) hx hb dX2_reset_41 (by decide) ?_
        refine va_put (D := D) (ci := 2) (v := .int 0) (ty := .int) (C := RX2) (T := TX2) (N := 10) hx hb hts inX2 tyX2 tyX2_ok nmX2 hown hK hP hD hS 0 rfl rfl 6 (by decide) fl32 (fun _ h9 => h9) rfl (by decide +kernel) rfl rfl (Nat.le_of_ble_eq_true rfl) dX2_reset_42 (fun H locs hP hD hS => ?_)
        have hP : va_P D vwCl [(a 0, .inr (2, [.ref (a 1), .int 0, .int 0, .int (-4), .int (-4), .int 0, .int 0, .int op, .int (td 5), .int (td 7)])), (a 1, .inl (cI, 10, .inl ct'))] H := hP
        have hD : va_D A [(a 0, .inr (2, [.ref (a 1), .int 0, .int 0, .int (-4), .int (-4), .int 0, .int 0, .int op, .int (td 5), .int (td 7)])), (a 1, .inl (cI, 10, .inl ct'))] := hD
        refine lv_aload_n hx hb dX2_reset_45 rfl (lv_at hl 0 rfl) ?_
        refine lv_iconst (v := 0) hx hb dX2_reset_46 (by decide) ?_
        refine va_put (D := D) (ci := 2) (v := .int 0) (ty := .int) (C := RX2) (T := TX2) (N := 10) hx hb hts inX2 tyX2 tyX2_ok nmX2 hown hK hP hD hS 0 rfl rfl 7 (by decide) fl35 (fun _ h9 => h9) rfl (by decide +kernel) rfl rfl (Nat.le_of_ble_eq_true rfl) dX2_reset_47 (fun H locs hP hD hS => ?_)
        have hP : va_P D vwCl [(a 0, .inr (2, [.ref (a 1), .int 0, .int 0, .int (-4), .int (-4), .int 0, .int 0, .int 0, .int (td 5), .int (td 7)])), (a 1, .inl (cI, 10, .inl ct'))] H := hP
        have hD : va_D A [(a 0, .inr (2, [.ref (a 1), .int 0, .int 0, .int (-4), .int (-4), .int 0, .int 0, .int 0, .int (td 5), .int (td 7)])), (a 1, .inl (cI, 10, .inl ct'))] := hD
        refine lv_aload_n hx hb dX2_reset_50 rfl (lv_at hl 0 rfl) ?_
        refine lv_iconst (v := 0) hx hb dX2_reset_51 (by decide) ?_
        refine va_put (D := D) (ci := 2) (v := .int 0) (ty := .int) (C := RX2) (T := TX2) (N := 10) hx hb hts inX2 tyX2 tyX2_ok nmX2 hown hK hP hD hS 0 rfl rfl 8 (by decide) fl38 (fun _ h9 => h9) rfl (by decide +kernel) rfl rfl (Nat.le_of_ble_eq_true rfl) dX2_reset_52 (fun H locs hP hD hS => ?_)
        have hP : va_P D vwCl [(a 0, .inr (2, [.ref (a 1), .int 0, .int 0, .int (-4), .int (-4), .int 0, .int 0, .int 0, .int 0, .int (td 7)])), (a 1, .inl (cI, 10, .inl ct'))] H := hP
        have hD : va_D A [(a 0, .inr (2, [.ref (a 1), .int 0, .int 0, .int (-4), .int (-4), .int 0, .int 0, .int 0, .int 0, .int (td 7)])), (a 1, .inl (cI, 10, .inl ct'))] := hD
        refine lv_aload_n hx hb dX2_reset_55 rfl (lv_at hl 0 rfl) ?_
        refine lv_iconst (v := 0) hx hb dX2_reset_56 (by decide) ?_
        refine va_put (D := D) (ci := 2) (v := .int 0) (ty := .int) (C := RX2) (T := TX2) (N := 10) hx hb hts inX2 tyX2 tyX2_ok nmX2 hown hK hP hD hS 0 rfl rfl 9 (by decide) fl41 (fun _ h9 => h9) rfl (by decide +kernel) rfl rfl (Nat.le_of_ble_eq_true rfl) dX2_reset_57 (fun H locs hP hD hS => ?_)
        have hP : va_P D vwCl [(a 0, .inr (2, [.ref (a 1), .int 0, .int 0, .int (-4), .int (-4), .int 0, .int 0, .int 0, .int 0, .int 0])), (a 1, .inl (cI, 10, .inl ct'))] H := hP
        have hD : va_D A [(a 0, .inr (2, [.ref (a 1), .int 0, .int 0, .int (-4), .int (-4), .int 0, .int 0, .int 0, .int 0, .int 0])), (a 1, .inl (cI, 10, .inl ct'))] := hD
        exact Rv (D := D) ct' hx hb hr hlocks hP hD hS (fun j h => hz j (by omega)) dX2_reset_60
      · have c_5 : ¬ (9 < i) := fun h => c_5 ((nI_ltI (a := 9) (b := i) (by omega) (by omega)).mpr h)
        refine lv_aload_n hx hb dX2_reset_8 rfl (lv_at hl 0 rfl) ?_
        refine va_get (D := D) (ci := 2) (v := .ref (a 1)) (C := RX2) (T := TX2) (N := 10) hx hb hts inX2 hown hK hP 0 rfl rfl 0 (by decide) fl9 (fun _ h9 => h9) rfl dX2_reset_9 ?_
        refine lv_iload_n hx hb dX2_reset_12 rfl (lv_at hl 1 rfl) ?_
        refine lv_iconst (v := 0) hx hb dX2_reset_13 (by decide) ?_
        refine xi_ast hx hb hK hP hD hS 1 0 rfl rfl (k := i) (x := 0) (by omega) (by decide) dX2_reset_14 (fun H locs hP hD hS => ?_)
        have hP : va_P D vwCl [(a 0, .inr (2, [.ref (a 1), .int (td 6), .int (td 0), .int (td 1), .int (td 2), .int (td 3), .int (td 4), .int op, .int (td 5), .int (td 7)])), (a 1, .inl (cI, 10, .inl (upd ct' i 0)))] H := hP
        have hD : va_D A [(a 0, .inr (2, [.ref (a 1), .int (td 6), .int (td 0), .int (td 1), .int (td 2), .int (td 3), .int (td 4), .int op, .int (td 5), .int (td 7)])), (a 1, .inl (cI, 10, .inl (upd ct' i 0)))] := hD
        refine lv_iinc (v := (nI (i + 1))) (lv' := [(1, .int (nI (i + 1))), (0, .ref (a 0))]) hx hb dX2_reset_15 hl (k := 1) rfl (nI_1 i) (by decide) rfl (fun ls hl => ?_)
        refine lv_goto (tgt := 2) hx hb dX2_reset_18 (by decide) ?_
        exact ih (i + 1) (upd ct' i 0) (by omega) (by omega) (fun j h => by by_cases e : j = i <;> simp only [upd, e, if_true, if_false] <;> first | rfl | exact hz j (by omega)) _ _ hP hD hS ls (lv_sub hl [1, 0] rfl)
  exact loop2 11 0 ct (by omega) (by omega) (fun j h => absurd h (by omega)) _ _ hP hD hS ls (lv_sub hl [1, 0] rfl)

set_option maxHeartbeats 4000000 in
set_option maxRecDepth 100000 in
theorem c_X4_isPlan (l : Launch) (D : va_G) (x : Int32) : Ci l D [] yX4_isPlan wsX4_isPlan ({ frames := 0, cells := 0, slots := 0, locals := 0 }) [.int x] ([]) (S := Unit) (fun v _ => (v = 1 ∧ inN x 6) ∨ (v = 0 ∧ ¬ inN x 6)) (fun _ => []) := by
  refine Ci.mk (cc := cX4_isPlan) (maxL := 1) (ret := (some .boolean)) (by decide +kernel) rfl (Nat.le_of_ble_eq_true rfl) ?_
  intro pg e s m below meth c A ls hx hb hml hr hown hts hlocks hK hns hA hP hD hS hl
  have hl : lv_has ls 1 [(0, .int x)] := hl
  refine lv_iload_n hx hb dX4_isPlan_0 rfl (lv_at hl 0 rfl) ?_
  refine lv_if_lt (tgt := 14) hx hb dX4_isPlan_1 (by decide) (fun c_1 => ?_) (fun c_1 => ?_)
  · refine lv_iconst (v := 0) hx hb dX4_isPlan_14 (by decide) ?_
    exact Ri (D := D) () hx hb hr (by decide) hlocks hP hD hS (Or.inr ⟨rfl, fun h => inN_lo (by decide) h c_1⟩) dX4_isPlan_15
  · refine lv_iload_n hx hb dX4_isPlan_4 rfl (lv_at hl 0 rfl) ?_
    refine lv_bipush (v := 6) hx hb dX4_isPlan_5 (by decide) ?_
    refine lv_icmp_ge (tgt := 14) hx hb dX4_isPlan_7 (by decide) (fun c_7 => ?_) (fun c_7 => ?_)
    · refine lv_iconst (v := 0) hx hb dX4_isPlan_14 (by decide) ?_
      exact Ri (D := D) () hx hb hr (by decide) hlocks hP hD hS (Or.inr ⟨rfl, fun h => by have h2 := inN_hi (y := 6) (n := 6) (by decide) rfl h; have q1 : (6 : Int32).toInt = 6 := (by decide); rw [i_le] at c_7; rw [i_lt] at h2; omega⟩) dX4_isPlan_15
    · refine lv_iconst (v := 1) hx hb dX4_isPlan_10 (by decide) ?_
      refine lv_goto (tgt := 15) hx hb dX4_isPlan_11 (by decide) ?_
      exact Ri (D := D) () hx hb hr (by decide) hlocks hP hD hS (Or.inl ⟨rfl, inN_of (y := 6) (by decide) rfl c_1 (by have q1 : (6 : Int32).toInt = 6 := (by decide); rw [i_le] at c_7; rw [i_lt]; omega)⟩) dX4_isPlan_15

set_option maxHeartbeats 4000000 in
set_option maxRecDepth 100000 in
theorem c_X4_isShelf (l : Launch) (D : va_G) (x : Int32) : Ci l D [] yX4_isShelf wsX4_isShelf ({ frames := 0, cells := 0, slots := 0, locals := 0 }) [.int x] ([]) (S := Unit) (fun v _ => (v = 1 ∧ inN x 8) ∨ (v = 0 ∧ ¬ inN x 8)) (fun _ => []) := by
  refine Ci.mk (cc := cX4_isShelf) (maxL := 1) (ret := (some .boolean)) (by decide +kernel) rfl (Nat.le_of_ble_eq_true rfl) ?_
  intro pg e s m below meth c A ls hx hb hml hr hown hts hlocks hK hns hA hP hD hS hl
  have hl : lv_has ls 1 [(0, .int x)] := hl
  refine lv_iload_n hx hb dX4_isShelf_0 rfl (lv_at hl 0 rfl) ?_
  refine lv_if_lt (tgt := 14) hx hb dX4_isShelf_1 (by decide) (fun c_1 => ?_) (fun c_1 => ?_)
  · refine lv_iconst (v := 0) hx hb dX4_isShelf_14 (by decide) ?_
    exact Ri (D := D) () hx hb hr (by decide) hlocks hP hD hS (Or.inr ⟨rfl, fun h => inN_lo (by decide) h c_1⟩) dX4_isShelf_15
  · refine lv_iload_n hx hb dX4_isShelf_4 rfl (lv_at hl 0 rfl) ?_
    refine lv_bipush (v := 8) hx hb dX4_isShelf_5 (by decide) ?_
    refine lv_icmp_ge (tgt := 14) hx hb dX4_isShelf_7 (by decide) (fun c_7 => ?_) (fun c_7 => ?_)
    · refine lv_iconst (v := 0) hx hb dX4_isShelf_14 (by decide) ?_
      exact Ri (D := D) () hx hb hr (by decide) hlocks hP hD hS (Or.inr ⟨rfl, fun h => by have h2 := inN_hi (y := 8) (n := 8) (by decide) rfl h; have q1 : (8 : Int32).toInt = 8 := (by decide); rw [i_le] at c_7; rw [i_lt] at h2; omega⟩) dX4_isShelf_15
    · refine lv_iconst (v := 1) hx hb dX4_isShelf_10 (by decide) ?_
      refine lv_goto (tgt := 15) hx hb dX4_isShelf_11 (by decide) ?_
      exact Ri (D := D) () hx hb hr (by decide) hlocks hP hD hS (Or.inl ⟨rfl, inN_of (y := 8) (by decide) rfl c_1 (by have q1 : (8 : Int32).toInt = 8 := (by decide); rw [i_le] at c_7; rw [i_lt]; omega)⟩) dX4_isShelf_15

set_option maxHeartbeats 4000000 in
set_option maxRecDepth 100000 in
theorem c_X4_isDigit (l : Launch) (D : va_G) (x : Int32) : Ci l D [] yX4_isDigit wsX4_isDigit ({ frames := 0, cells := 0, slots := 0, locals := 0 }) [.int x] ([]) (S := Unit) (fun v _ => (v = 1 ∧ inN x 10) ∨ (v = 0 ∧ ¬ inN x 10)) (fun _ => []) := by
  refine Ci.mk (cc := cX4_isDigit) (maxL := 1) (ret := (some .boolean)) (by decide +kernel) rfl (Nat.le_of_ble_eq_true rfl) ?_
  intro pg e s m below meth c A ls hx hb hml hr hown hts hlocks hK hns hA hP hD hS hl
  have hl : lv_has ls 1 [(0, .int x)] := hl
  refine lv_iload_n hx hb dX4_isDigit_0 rfl (lv_at hl 0 rfl) ?_
  refine lv_if_lt (tgt := 14) hx hb dX4_isDigit_1 (by decide) (fun c_1 => ?_) (fun c_1 => ?_)
  · refine lv_iconst (v := 0) hx hb dX4_isDigit_14 (by decide) ?_
    exact Ri (D := D) () hx hb hr (by decide) hlocks hP hD hS (Or.inr ⟨rfl, fun h => inN_lo (by decide) h c_1⟩) dX4_isDigit_15
  · refine lv_iload_n hx hb dX4_isDigit_4 rfl (lv_at hl 0 rfl) ?_
    refine lv_bipush (v := 9) hx hb dX4_isDigit_5 (by decide) ?_
    refine lv_icmp_gt (tgt := 14) hx hb dX4_isDigit_7 (by decide) (fun c_7 => ?_) (fun c_7 => ?_)
    · refine lv_iconst (v := 0) hx hb dX4_isDigit_14 (by decide) ?_
      exact Ri (D := D) () hx hb hr (by decide) hlocks hP hD hS (Or.inr ⟨rfl, fun h => by have h2 := inN_hi (y := 10) (n := 10) (by decide) rfl h; have q1 : (10 : Int32).toInt = 10 := (by decide); have q2 : (9 : Int32).toInt = 9 := (by decide); rw [i_lt] at c_7; rw [i_lt] at h2; omega⟩) dX4_isDigit_15
    · refine lv_iconst (v := 1) hx hb dX4_isDigit_10 (by decide) ?_
      refine lv_goto (tgt := 15) hx hb dX4_isDigit_11 (by decide) ?_
      exact Ri (D := D) () hx hb hr (by decide) hlocks hP hD hS (Or.inl ⟨rfl, inN_of (y := 10) (by decide) rfl c_1 (by have q1 : (10 : Int32).toInt = 10 := (by decide); have q2 : (9 : Int32).toInt = 9 := (by decide); rw [i_lt] at c_7; rw [i_lt]; omega)⟩) dX4_isDigit_15

set_option maxHeartbeats 4000000 in
set_option maxRecDepth 100000 in
theorem c_X3_isThere (l : Launch) (D : va_G) (cI : ClassId) (a : Nat → Nat) (g lf h : Nat → Int32) (r : Int32) (th : Nat → Bool) (go : Nat → Nat) (hg : gok g th go) (x : Nat) (hx16 : x < 16) : Ci l D [(cI, .int)] yX3_isThere wsX3_isThere ({ frames := 1, cells := 0, slots := 0, locals := 20 }) [.ref (a 0), .int (nI x)] (wSt a cI g lf h r) (S := Unit) (fun v _ => (v = 1 ∧ x < 8 ∧ th x = true) ∨ (v = 0 ∧ ¬ (x < 8 ∧ th x = true))) (fun _ => wSt a cI g lf h r) := by
  refine Ci.mk (cc := cX3_isThere) (maxL := 2) (ret := (some .boolean)) (by decide +kernel) rfl (Nat.le_of_ble_eq_true rfl) ?_
  intro pg e s m below meth c A ls hx hb hml hr hown hts hlocks hK hns hA hP hD hS hl
  have hl : lv_has ls 2 [(0, .ref (a 0)), (1, .int (nI x))] := hl
  have fl9 := hts (.fieldLink RX3 9 "HeldShelves$Stock" "goods" "[I") (List.mem_of_getElem? (i := 1) rfl)
  have inX3 : ∀ w ∈ wsX30, w ∈ wsX3_isThere := fun _ h => List.mem_cons_of_mem _ (List.mem_append_right _ h)
  have hP : va_P D vwCl [(a 0, .inr (3, [.ref (a 1), .ref (a 2), .ref (a 3), .int r])), (a 1, .inl (cI, 8, .inl g)), (a 2, .inl (cI, 8, .inl lf)), (a 3, .inl (cI, 8, .inl h))] s.heap := hP
  have hD : va_D A [(a 0, .inr (3, [.ref (a 1), .ref (a 2), .ref (a 3), .int r])), (a 1, .inl (cI, 8, .inl g)), (a 2, .inl (cI, 8, .inl lf)), (a 3, .inl (cI, 8, .inl h))] := hD
  refine lv_iload_n hx hb dX3_isThere_0 rfl (lv_at hl 1 rfl) ?_
  refine cl_SNi (As := [.int (nI x)]) (rest := []) (c_X4_isShelf l D (nI x)) ⟨hx, hb, hml, hown, hts⟩ ⟨va_cnB 1 hts gX3_isThere_X4_isShelf_n21 rfl rfl rfl hns (hts (.initialized RX4) (by decide +kernel)) (by decide +kernel) ⟨Nat.le_of_ble_eq_true rfl, Nat.le_of_ble_eq_true rfl⟩, hts (.static yX4_isShelf) (by decide +kernel), trivial⟩ hK hns hP hD hS hA rfl hl.1 rfl (Nat.le_of_ble_eq_true rfl) dX3_isThere_1 ⟨Nat.zero_le _, Nat.zero_le _⟩ (fun r1 u1 H locs hw1 hP hD hS => ?_)
  rcases hw1 with ⟨rfl, hs1⟩ | ⟨rfl, hs1⟩
  · have hs1 : x < 8 := (inN_nI (by omega) (by omega)).mp hs1
    refine lv_if_eq (tgt := 21) hx hb dX3_isThere_4 (by decide) (fun c9 => absurd c9 (by decide)) (fun _ => ?_)
    refine lv_aload_n hx hb dX3_isThere_7 rfl (lv_at hl 0 rfl) ?_
    refine va_get (D := D) (ci := 3) (v := .ref (a 1)) (C := RX3) (T := TX3) (N := 4) hx hb hts inX3 hown hK hP 0 rfl rfl 0 (by decide) fl9 (fun _ h9 => h9) rfl dX3_isThere_8 ?_
    refine lv_iload_n hx hb dX3_isThere_11 rfl (lv_at hl 1 rfl) ?_
    refine xi_ald hx hb hK hP 1 0 rfl rfl (k := x) (by omega) (by decide) dX3_isThere_12 ?_
    refine tp (y := gI (th x) (go x)) ((hg x hs1).1) ?_
    refine lv_iconst (v := (-1)) hx hb dX3_isThere_13 (by decide) ?_
    refine lv_icmp_eq (tgt := 21) hx hb dX3_isThere_14 (by decide) (fun c_14 => ?_) (fun c_14 => ?_)
    · refine lv_iconst (v := 0) hx hb dX3_isThere_21 (by decide) ?_
      exact Ri (D := D) () hx hb hr (by decide) hlocks hP hD hS (Or.inr ⟨rfl, fun q => by have := (gI_ne (hg x hs1).2).mp c_14; rw [this] at q; exact absurd q.2 (by decide)⟩) dX3_isThere_22
    · refine lv_iconst (v := 1) hx hb dX3_isThere_17 (by decide) ?_
      refine lv_goto (tgt := 22) hx hb dX3_isThere_18 (by decide) ?_
      exact Ri (D := D) () hx hb hr (by decide) hlocks hP hD hS (Or.inl ⟨rfl, hs1, by have := (gI_ne (t := th x) (hg x hs1).2); exact Bool.of_not_eq_false (fun hq => c_14 (this.mpr hq))⟩) dX3_isThere_22
  · have hs1 : ¬ x < 8 := fun h => hs1 ((inN_nI (by omega) (by omega)).mpr h)
    refine lv_if_eq (tgt := 21) hx hb dX3_isThere_4 (by decide) (fun _ => ?_) (fun c9 => absurd (by decide) c9)
    refine lv_iconst (v := 0) hx hb dX3_isThere_21 (by decide) ?_
    exact Ri (D := D) () hx hb hr (by decide) hlocks hP hD hS (Or.inr ⟨rfl, fun q => hs1 q.1⟩) dX3_isThere_22

set_option maxHeartbeats 4000000 in
set_option maxRecDepth 100000 in
theorem c_X3_goodsOf (l : Launch) (D : va_G) (cI : ClassId) (a : Nat → Nat) (g lf h : Nat → Int32) (r : Int32) (th : Nat → Bool) (go : Nat → Nat) (hg : gok g th go) (x : Nat) (hx8 : x < 8) : Ci l D [(cI, .int)] yX3_goodsOf wsX3_goodsOf ({ frames := 2, cells := 0, slots := 0, locals := 41 }) [.ref (a 0), .int (nI x)] (wSt a cI g lf h r) (S := Unit) (fun v _ => v = (if th x then nI (go x) else 0)) (fun _ => wSt a cI g lf h r) := by
  refine Ci.mk (cc := cX3_goodsOf) (maxL := 2) (ret := (some .int)) (by decide +kernel) rfl (Nat.le_of_ble_eq_true rfl) ?_
  intro pg e s m below meth c A ls hx hb hml hr hown hts hlocks hK hns hA hP hD hS hl
  have hl : lv_has ls 2 [(0, .ref (a 0)), (1, .int (nI x))] := hl
  have fl9 := hts (.fieldLink RX3 9 "HeldShelves$Stock" "goods" "[I") (List.mem_of_getElem? (i := 1) rfl)
  have inX3 : ∀ w ∈ wsX30, w ∈ wsX3_goodsOf := fun _ h => List.mem_cons_of_mem _ (List.mem_append_right _ h)
  have hP : va_P D vwCl [(a 0, .inr (3, [.ref (a 1), .ref (a 2), .ref (a 3), .int r])), (a 1, .inl (cI, 8, .inl g)), (a 2, .inl (cI, 8, .inl lf)), (a 3, .inl (cI, 8, .inl h))] s.heap := hP
  have hD : va_D A [(a 0, .inr (3, [.ref (a 1), .ref (a 2), .ref (a 3), .int r])), (a 1, .inl (cI, 8, .inl g)), (a 2, .inl (cI, 8, .inl lf)), (a 3, .inl (cI, 8, .inl h))] := hD
  refine lv_aload_n hx hb dX3_goodsOf_0 rfl (lv_at hl 0 rfl) ?_
  refine lv_iload_n hx hb dX3_goodsOf_1 rfl (lv_at hl 1 rfl) ?_
  refine cl_Vi ([]) ([]) (As := [.int (nI x)]) (rest := []) (c_X3_isThere l D cI a g lf h r th go hg x (by omega)) ⟨hx, hb, hml, hown, hts⟩ (cwV 1 hts gX3_goodsOf_X3_isThere rfl rfl rfl (by decide +kernel) ⟨Nat.le_of_ble_eq_true rfl, Nat.le_of_ble_eq_true rfl⟩) hK hns hP hD hS hA rfl (T := TX3) (N := 4) rfl rfl hl.1 rfl (Nat.le_of_ble_eq_true rfl) dX3_goodsOf_2 ⟨Nat.zero_le _, Nat.zero_le _⟩ (fun r2 u2 H locs hw2 hP hD hS => ?_)
  have hP : va_P D vwCl [(a 0, .inr (3, [.ref (a 1), .ref (a 2), .ref (a 3), .int r])), (a 1, .inl (cI, 8, .inl g)), (a 2, .inl (cI, 8, .inl lf)), (a 3, .inl (cI, 8, .inl h))] H := hP
  have hD : va_D A [(a 0, .inr (3, [.ref (a 1), .ref (a 2), .ref (a 3), .int r])), (a 1, .inl (cI, 8, .inl g)), (a 2, .inl (cI, 8, .inl lf)), (a 3, .inl (cI, 8, .inl h))] := hD
  rcases hw2 with ⟨rfl, ht2⟩ | ⟨rfl, ht2⟩
  · refine lv_if_eq (tgt := 17) hx hb dX3_goodsOf_5 (by decide) (fun c9 => absurd c9 (by decide)) (fun _ => ?_)
    refine lv_aload_n hx hb dX3_goodsOf_8 rfl (lv_at hl 0 rfl) ?_
    refine va_get (D := D) (ci := 3) (v := .ref (a 1)) (C := RX3) (T := TX3) (N := 4) hx hb hts inX3 hown hK hP 0 rfl rfl 0 (by decide) fl9 (fun _ h9 => h9) rfl dX3_goodsOf_9 ?_
    refine lv_iload_n hx hb dX3_goodsOf_12 rfl (lv_at hl 1 rfl) ?_
    refine xi_ald hx hb hK hP 1 0 rfl rfl (k := x) (by omega) (by decide) dX3_goodsOf_13 ?_
    refine lv_goto (tgt := 18) hx hb dX3_goodsOf_14 (by decide) ?_
    exact Ri (D := D) () hx hb hr rfl hlocks hP hD hS (by rw [ht2.2, if_pos rfl]; exact gok_v hg ht2.1 ht2.2) dX3_goodsOf_18
  · refine lv_if_eq (tgt := 17) hx hb dX3_goodsOf_5 (by decide) (fun _ => ?_) (fun c9 => absurd (by decide) c9)
    refine lv_iconst (v := 0) hx hb dX3_goodsOf_17 (by decide) ?_
    exact Ri (D := D) () hx hb hr rfl hlocks hP hD hS (by rw [if_neg (fun q => ht2 ⟨hx8, q⟩)]) dX3_goodsOf_18

set_option maxHeartbeats 4000000 in
set_option maxRecDepth 100000 in
theorem c_X3_leftOf (l : Launch) (D : va_G) (cI : ClassId) (a : Nat → Nat) (g lf h : Nat → Int32) (r : Int32) (th : Nat → Bool) (go : Nat → Nat) (hg : gok g th go) (x : Nat) (hx8 : x < 8) : Ci l D [(cI, .int)] yX3_leftOf wsX3_leftOf ({ frames := 2, cells := 0, slots := 0, locals := 41 }) [.ref (a 0), .int (nI x)] (wSt a cI g lf h r) (S := Unit) (fun v _ => v = (if th x then lf x else 0)) (fun _ => wSt a cI g lf h r) := by
  refine Ci.mk (cc := cX3_leftOf) (maxL := 2) (ret := (some .int)) (by decide +kernel) rfl (Nat.le_of_ble_eq_true rfl) ?_
  intro pg e s m below meth c A ls hx hb hml hr hown hts hlocks hK hns hA hP hD hS hl
  have hl : lv_has ls 2 [(0, .ref (a 0)), (1, .int (nI x))] := hl
  have fl15 := hts (.fieldLink RX3 15 "HeldShelves$Stock" "left" "[I") (List.mem_of_getElem? (i := 1) rfl)
  have inX3 : ∀ w ∈ wsX30, w ∈ wsX3_leftOf := fun _ h => List.mem_cons_of_mem _ (List.mem_append_right _ h)
  have hP : va_P D vwCl [(a 0, .inr (3, [.ref (a 1), .ref (a 2), .ref (a 3), .int r])), (a 1, .inl (cI, 8, .inl g)), (a 2, .inl (cI, 8, .inl lf)), (a 3, .inl (cI, 8, .inl h))] s.heap := hP
  have hD : va_D A [(a 0, .inr (3, [.ref (a 1), .ref (a 2), .ref (a 3), .int r])), (a 1, .inl (cI, 8, .inl g)), (a 2, .inl (cI, 8, .inl lf)), (a 3, .inl (cI, 8, .inl h))] := hD
  refine lv_aload_n hx hb dX3_leftOf_0 rfl (lv_at hl 0 rfl) ?_
  refine lv_iload_n hx hb dX3_leftOf_1 rfl (lv_at hl 1 rfl) ?_
  refine cl_Vi ([]) ([]) (As := [.int (nI x)]) (rest := []) (c_X3_isThere l D cI a g lf h r th go hg x (by omega)) ⟨hx, hb, hml, hown, hts⟩ (cwV 1 hts gX3_leftOf_X3_isThere rfl rfl rfl (by decide +kernel) ⟨Nat.le_of_ble_eq_true rfl, Nat.le_of_ble_eq_true rfl⟩) hK hns hP hD hS hA rfl (T := TX3) (N := 4) rfl rfl hl.1 rfl (Nat.le_of_ble_eq_true rfl) dX3_leftOf_2 ⟨Nat.zero_le _, Nat.zero_le _⟩ (fun r2 u2 H locs hw2 hP hD hS => ?_)
  have hP : va_P D vwCl [(a 0, .inr (3, [.ref (a 1), .ref (a 2), .ref (a 3), .int r])), (a 1, .inl (cI, 8, .inl g)), (a 2, .inl (cI, 8, .inl lf)), (a 3, .inl (cI, 8, .inl h))] H := hP
  have hD : va_D A [(a 0, .inr (3, [.ref (a 1), .ref (a 2), .ref (a 3), .int r])), (a 1, .inl (cI, 8, .inl g)), (a 2, .inl (cI, 8, .inl lf)), (a 3, .inl (cI, 8, .inl h))] := hD
  rcases hw2 with ⟨rfl, ht2⟩ | ⟨rfl, ht2⟩
  · refine lv_if_eq (tgt := 17) hx hb dX3_leftOf_5 (by decide) (fun c9 => absurd c9 (by decide)) (fun _ => ?_)
    refine lv_aload_n hx hb dX3_leftOf_8 rfl (lv_at hl 0 rfl) ?_
    refine va_get (D := D) (ci := 3) (v := .ref (a 2)) (C := RX3) (T := TX3) (N := 4) hx hb hts inX3 hown hK hP 0 rfl rfl 1 (by decide) fl15 (fun _ h9 => h9) rfl dX3_leftOf_9 ?_
    refine lv_iload_n hx hb dX3_leftOf_12 rfl (lv_at hl 1 rfl) ?_
    refine xi_ald hx hb hK hP 2 0 rfl rfl (k := x) (by omega) (by decide) dX3_leftOf_13 ?_
    refine lv_goto (tgt := 18) hx hb dX3_leftOf_14 (by decide) ?_
    exact Ri (D := D) () hx hb hr rfl hlocks hP hD hS (by rw [ht2.2, if_pos rfl]) dX3_leftOf_18
  · refine lv_if_eq (tgt := 17) hx hb dX3_leftOf_5 (by decide) (fun _ => ?_) (fun c9 => absurd (by decide) c9)
    refine lv_iconst (v := 0) hx hb dX3_leftOf_17 (by decide) ?_
    exact Ri (D := D) () hx hb hr rfl hlocks hP hD hS (by rw [if_neg (fun q => ht2 ⟨hx8, q⟩)]) dX3_leftOf_18

set_option maxHeartbeats 4000000 in
set_option maxRecDepth 100000 in
theorem c_X3_replace (l : Launch) (D : va_G) (cI : ClassId) (a : Nat → Nat) (g lf h : Nat → Int32) (r : Int32) (th : Nat → Bool) (go : Nat → Nat) (hg : gok g th go) (x : Nat) (hx8 : x < 8) (y : Int32) : Ci l D [(cI, .int)] yX3_replace wsX3_replace ({ frames := 2, cells := 0, slots := 0, locals := 41 }) [.ref (a 0), .int (nI x), .int y] (wSt a cI g lf h r) (S := Unit) (fun v _ => v = (if th x then nI (go x) else -4)) (fun _ => wSt a cI (upd g x y) (upd lf x 0) h r) := by
  refine Ci.mk (cc := cX3_replace) (maxL := 4) (ret := (some .int)) (by decide +kernel) rfl (Nat.le_of_ble_eq_true rfl) ?_
  intro pg e s m below meth c A ls hx hb hml hr hown hts hlocks hK hns hA hP hD hS hl
  have hl : lv_has ls 4 [(0, .ref (a 0)), (1, .int (nI x)), (2, .int y)] := hl
  have fl9 := hts (.fieldLink RX3 9 "HeldShelves$Stock" "goods" "[I") (List.mem_of_getElem? (i := 1) rfl)
  have inX3 : ∀ w ∈ wsX30, w ∈ wsX3_replace := fun _ h => List.mem_cons_of_mem _ (List.mem_append_right _ h)
  have fl15 := hts (.fieldLink RX3 15 "HeldShelves$Stock" "left" "[I") (List.mem_of_getElem? (i := 2) rfl)
  have hP : va_P D vwCl [(a 0, .inr (3, [.ref (a 1), .ref (a 2), .ref (a 3), .int r])), (a 1, .inl (cI, 8, .inl g)), (a 2, .inl (cI, 8, .inl lf)), (a 3, .inl (cI, 8, .inl h))] s.heap := hP
  have hD : va_D A [(a 0, .inr (3, [.ref (a 1), .ref (a 2), .ref (a 3), .int r])), (a 1, .inl (cI, 8, .inl g)), (a 2, .inl (cI, 8, .inl lf)), (a 3, .inl (cI, 8, .inl h))] := hD
  refine lv_iload_n hx hb dX3_replace_0 rfl (lv_at hl 1 rfl) ?_
  refine cl_SNi (As := [.int (nI x)]) (rest := []) (c_X4_isShelf l D (nI x)) ⟨hx, hb, hml, hown, hts⟩ ⟨va_cnB 1 hts gX3_replace_X4_isShelf_n21 rfl rfl rfl hns (hts (.initialized RX4) (by decide +kernel)) (by decide +kernel) ⟨Nat.le_of_ble_eq_true rfl, Nat.le_of_ble_eq_true rfl⟩, hts (.static yX4_isShelf) (by decide +kernel), trivial⟩ hK hns hP hD hS hA rfl hl.1 rfl (Nat.le_of_ble_eq_true rfl) dX3_replace_1 ⟨Nat.zero_le _, Nat.zero_le _⟩ (fun r1 u1 H locs hw1 hP hD hS => ?_)
  rcases hw1 with ⟨rfl, hs1⟩ | ⟨rfl, hs1⟩
  · have hs1 : x < 8 := (inN_nI (by omega) (by omega)).mp hs1
    refine lv_if_ne (tgt := 9) hx hb dX3_replace_4 (by decide) (fun _ => ?_) (fun c9 => absurd c9 (by decide))
    refine lv_aload_n hx hb dX3_replace_9 rfl (lv_at hl 0 rfl) ?_
    refine lv_iload_n hx hb dX3_replace_10 rfl (lv_at hl 1 rfl) ?_
    refine cl_Vi ([]) ([]) (As := [.int (nI x)]) (rest := []) (c_X3_isThere l D cI a g lf h r th go hg x (by omega)) ⟨hx, hb, hml, hown, hts⟩ (cwV 1 hts gX3_replace_X3_isThere rfl rfl rfl (by decide +kernel) ⟨Nat.le_of_ble_eq_true rfl, Nat.le_of_ble_eq_true rfl⟩) hK hns hP hD hS hA rfl (T := TX3) (N := 4) rfl rfl hl.1 rfl (Nat.le_of_ble_eq_true rfl) dX3_replace_11 ⟨Nat.zero_le _, Nat.zero_le _⟩ (fun r11 u11 H locs hw11 hP hD hS => ?_)
    have hP : va_P D vwCl [(a 0, .inr (3, [.ref (a 1), .ref (a 2), .ref (a 3), .int r])), (a 1, .inl (cI, 8, .inl g)), (a 2, .inl (cI, 8, .inl lf)), (a 3, .inl (cI, 8, .inl h))] H := hP
    have hD : va_D A [(a 0, .inr (3, [.ref (a 1), .ref (a 2), .ref (a 3), .int r])), (a 1, .inl (cI, 8, .inl g)), (a 2, .inl (cI, 8, .inl lf)), (a 3, .inl (cI, 8, .inl h))] := hD
    rcases hw11 with ⟨rfl, ht11⟩ | ⟨rfl, ht11⟩
    · refine lv_if_eq (tgt := 26) hx hb dX3_replace_14 (by decide) (fun c9 => absurd c9 (by decide)) (fun _ => ?_)
      refine lv_aload_n hx hb dX3_replace_17 rfl (lv_at hl 0 rfl) ?_
      refine va_get (D := D) (ci := 3) (v := .ref (a 1)) (C := RX3) (T := TX3) (N := 4) hx hb hts inX3 hown hK hP 0 rfl rfl 0 (by decide) fl9 (fun _ h9 => h9) rfl dX3_replace_18 ?_
      refine lv_iload_n hx hb dX3_replace_21 rfl (lv_at hl 1 rfl) ?_
      refine xi_ald hx hb hK hP 1 0 rfl rfl (k := x) (by omega) (by decide) dX3_replace_22 ?_
      refine lv_goto (tgt := 28) hx hb dX3_replace_23 (by decide) ?_
      refine lv_istore_n (lv' := [(3, .int (g x)), (0, .ref (a 0)), (1, .int (nI x)), (2, .int y)]) hx hb dX3_replace_28 rfl hl (by decide) rfl (fun ls hl => ?_)
      refine lv_aload_n hx hb dX3_replace_29 rfl (lv_at hl 1 rfl) ?_
      refine va_get (D := D) (ci := 3) (v := .ref (a 1)) (C := RX3) (T := TX3) (N := 4) hx hb hts inX3 hown hK hP 0 rfl rfl 0 (by decide) fl9 (fun _ h9 => h9) rfl dX3_replace_30 ?_
      refine lv_iload_n hx hb dX3_replace_33 rfl (lv_at hl 2 rfl) ?_
      refine lv_iload_n hx hb dX3_replace_34 rfl (lv_at hl 3 rfl) ?_
      refine xi_ast hx hb hK hP hD hS 1 0 rfl rfl (k := x) (x := y) (by omega) (by decide) dX3_replace_35 (fun H locs hP hD hS => ?_)
      have hP : va_P D vwCl [(a 0, .inr (3, [.ref (a 1), .ref (a 2), .ref (a 3), .int r])), (a 1, .inl (cI, 8, .inl (upd g x y))), (a 2, .inl (cI, 8, .inl lf)), (a 3, .inl (cI, 8, .inl h))] H := hP
      have hD : va_D A [(a 0, .inr (3, [.ref (a 1), .ref (a 2), .ref (a 3), .int r])), (a 1, .inl (cI, 8, .inl (upd g x y))), (a 2, .inl (cI, 8, .inl lf)), (a 3, .inl (cI, 8, .inl h))] := hD
      refine lv_aload_n hx hb dX3_replace_36 rfl (lv_at hl 1 rfl) ?_
      refine va_get (D := D) (ci := 3) (v := .ref (a 2)) (C := RX3) (T := TX3) (N := 4) hx hb hts inX3 hown hK hP 0 rfl rfl 1 (by decide) fl15 (fun _ h9 => h9) rfl dX3_replace_37 ?_
      refine lv_iload_n hx hb dX3_replace_40 rfl (lv_at hl 2 rfl) ?_
      refine lv_iconst (v := 0) hx hb dX3_replace_41 (by decide) ?_
      refine xi_ast hx hb hK hP hD hS 2 0 rfl rfl (k := x) (x := 0) (by omega) (by decide) dX3_replace_42 (fun H locs hP hD hS => ?_)
      have hP : va_P D vwCl [(a 0, .inr (3, [.ref (a 1), .ref (a 2), .ref (a 3), .int r])), (a 1, .inl (cI, 8, .inl (upd g x y))), (a 2, .inl (cI, 8, .inl (upd lf x 0))), (a 3, .inl (cI, 8, .inl h))] H := hP
      have hD : va_D A [(a 0, .inr (3, [.ref (a 1), .ref (a 2), .ref (a 3), .int r])), (a 1, .inl (cI, 8, .inl (upd g x y))), (a 2, .inl (cI, 8, .inl (upd lf x 0))), (a 3, .inl (cI, 8, .inl h))] := hD
      refine lv_iload_n hx hb dX3_replace_43 rfl (lv_at hl 0 rfl) ?_
      exact Ri (D := D) () hx hb hr rfl hlocks hP hD hS (by rw [ht11.2, if_pos rfl]; exact gok_v hg ht11.1 ht11.2) dX3_replace_44
    · refine lv_if_eq (tgt := 26) hx hb dX3_replace_14 (by decide) (fun _ => ?_) (fun c9 => absurd (by decide) c9)
      refine lv_bipush (v := (-4)) hx hb dX3_replace_26 (by decide) ?_
      refine lv_istore_n (lv' := [(3, .int (-4)), (0, .ref (a 0)), (1, .int (nI x)), (2, .int y)]) hx hb dX3_replace_28 rfl hl (by decide) rfl (fun ls hl => ?_)
      refine lv_aload_n hx hb dX3_replace_29 rfl (lv_at hl 1 rfl) ?_
      refine va_get (D := D) (ci := 3) (v := .ref (a 1)) (C := RX3) (T := TX3) (N := 4) hx hb hts inX3 hown hK hP 0 rfl rfl 0 (by decide) fl9 (fun _ h9 => h9) rfl dX3_replace_30 ?_
      refine lv_iload_n hx hb dX3_replace_33 rfl (lv_at hl 2 rfl) ?_
      refine lv_iload_n hx hb dX3_replace_34 rfl (lv_at hl 3 rfl) ?_
      refine xi_ast hx hb hK hP hD hS 1 0 rfl rfl (k := x) (x := y) (by omega) (by decide) dX3_replace_35 (fun H locs hP hD hS => ?_)
      have hP : va_P D vwCl [(a 0, .inr (3, [.ref (a 1), .ref (a 2), .ref (a 3), .int r])), (a 1, .inl (cI, 8, .inl (upd g x y))), (a 2, .inl (cI, 8, .inl lf)), (a 3, .inl (cI, 8, .inl h))] H := hP
      have hD : va_D A [(a 0, .inr (3, [.ref (a 1), .ref (a 2), .ref (a 3), .int r])), (a 1, .inl (cI, 8, .inl (upd g x y))), (a 2, .inl (cI, 8, .inl lf)), (a 3, .inl (cI, 8, .inl h))] := hD
      refine lv_aload_n hx hb dX3_replace_36 rfl (lv_at hl 1 rfl) ?_
      refine va_get (D := D) (ci := 3) (v := .ref (a 2)) (C := RX3) (T := TX3) (N := 4) hx hb hts inX3 hown hK hP 0 rfl rfl 1 (by decide) fl15 (fun _ h9 => h9) rfl dX3_replace_37 ?_
      refine lv_iload_n hx hb dX3_replace_40 rfl (lv_at hl 2 rfl) ?_
      refine lv_iconst (v := 0) hx hb dX3_replace_41 (by decide) ?_
      refine xi_ast hx hb hK hP hD hS 2 0 rfl rfl (k := x) (x := 0) (by omega) (by decide) dX3_replace_42 (fun H locs hP hD hS => ?_)
      have hP : va_P D vwCl [(a 0, .inr (3, [.ref (a 1), .ref (a 2), .ref (a 3), .int r])), (a 1, .inl (cI, 8, .inl (upd g x y))), (a 2, .inl (cI, 8, .inl (upd lf x 0))), (a 3, .inl (cI, 8, .inl h))] H := hP
      have hD : va_D A [(a 0, .inr (3, [.ref (a 1), .ref (a 2), .ref (a 3), .int r])), (a 1, .inl (cI, 8, .inl (upd g x y))), (a 2, .inl (cI, 8, .inl (upd lf x 0))), (a 3, .inl (cI, 8, .inl h))] := hD
      refine lv_iload_n hx hb dX3_replace_43 rfl (lv_at hl 0 rfl) ?_
      exact Ri (D := D) () hx hb hr rfl hlocks hP hD hS (by rw [if_neg (fun q => ht11 ⟨hx8, q⟩)]) dX3_replace_44
  · have hs1 : ¬ x < 8 := fun h => hs1 ((inN_nI (by omega) (by omega)).mpr h)
    refine lv_if_ne (tgt := 9) hx hb dX3_replace_4 (by decide) (fun c9 => absurd rfl c9) (fun _ => ?_)
    exact absurd hx8 hs1

set_option maxHeartbeats 4000000 in
set_option maxRecDepth 100000 in
theorem c_X3_firstWith (l : Launch) (D : va_G) (cI : ClassId) (a : Nat → Nat) (g lf h : Nat → Int32) (r : Int32) (th : Nat → Bool) (go : Nat → Nat) (hg : gok g th go) (y : Int32) : Ci l D [(cI, .int)] yX3_firstWith wsX3_firstWith ({ frames := 2, cells := 0, slots := 0, locals := 41 }) [.ref (a 0), .int y] (wSt a cI g lf h r) (S := Unit) (fun v _ => v = fwd th go y 8) (fun _ => wSt a cI g lf h r) := by
  refine Ci.mk (cc := cX3_firstWith) (maxL := 3) (ret := (some .int)) (by decide +kernel) rfl (Nat.le_of_ble_eq_true rfl) ?_
  intro pg e s m below meth c A ls hx hb hml hr hown hts hlocks hK hns hA hP hD hS hl
  have hl : lv_has ls 3 [(0, .ref (a 0)), (1, .int y)] := hl
  have fl9 := hts (.fieldLink RX3 9 "HeldShelves$Stock" "goods" "[I") (List.mem_of_getElem? (i := 1) rfl)
  have inX3 : ∀ w ∈ wsX30, w ∈ wsX3_firstWith := fun _ h => List.mem_cons_of_mem _ (List.mem_append_right _ h)
  have hP : va_P D vwCl [(a 0, .inr (3, [.ref (a 1), .ref (a 2), .ref (a 3), .int r])), (a 1, .inl (cI, 8, .inl g)), (a 2, .inl (cI, 8, .inl lf)), (a 3, .inl (cI, 8, .inl h))] s.heap := hP
  have hD : va_D A [(a 0, .inr (3, [.ref (a 1), .ref (a 2), .ref (a 3), .int r])), (a 1, .inl (cI, 8, .inl g)), (a 2, .inl (cI, 8, .inl lf)), (a 3, .inl (cI, 8, .inl h))] := hD
  refine lv_iconst (v := 0) hx hb dX3_firstWith_0 (by decide) ?_
  refine lv_istore_n (lv' := [(2, .int 0), (0, .ref (a 0)), (1, .int y)]) hx hb dX3_firstWith_1 rfl hl (by decide) rfl (fun ls hl => ?_)
  have loop2 : ∀ (k : Nat) (i : Nat), 9 ≤ i + k → i ≤ 8 → fwd th go y 8 = fwd th go y (8 - i) → ∀ (H : Heap) (locs : List Loc), va_P D vwCl [(a 0, .inr (3, [.ref (a 1), .ref (a 2), .ref (a 3), .int r])), (a 1, .inl (cI, 8, .inl g)), (a 2, .inl (cI, 8, .inl lf)), (a 3, .inl (cI, 8, .inl h))] H → va_D A [(a 0, .inr (3, [.ref (a 1), .ref (a 2), .ref (a 3), .int r])), (a 1, .inl (cI, 8, .inl g)), (a 2, .inl (cI, 8, .inl lf)), (a 3, .inl (cI, 8, .inl h))] → va_S A s.heap H locs → ∀ (ls : Array Slot), lv_has ls 3 [(0, .ref (a 0)), (1, .int y), (2, .int (nI i))] → W pg l e ({ frames := 2, cells := 0, slots := 0, locals := 41 } : Room) s m ([.ref (a 0), .int y] : List Value).toArray below meth c H locs 0 0 (Qi D below ([.ref (a 0), .int y] : List Value).toArray s A (S := Unit) (fun v _ => v = fwd th go y 8) (fun _ => wSt a cI g lf h r)) (F0 m 2 ls []) := by
    intro k
    induction k with
    | zero => intro i hk hi hv; exact absurd hk (by omega)
    | succ k ih =>
      intro i hk hi hv H locs hP hD hS ls hl
      refine lv_iload_n hx hb dX3_firstWith_2 rfl (lv_at hl 2 rfl) ?_
      refine lv_bipush (v := 8) hx hb dX3_firstWith_3 (by decide) ?_
      refine lv_icmp_ge (tgt := 34) hx hb dX3_firstWith_5 (by decide) (fun c_5 => ?_) (fun c_5 => ?_)
      · have c_5 : 8 ≤ i := (nI_leI (a := 8) (b := i) (by omega) (by omega)).mp c_5
        refine lv_bipush (v := (-4)) hx hb dX3_firstWith_34 (by decide) ?_
        exact Ri (D := D) () hx hb hr rfl hlocks hP hD hS (by rw [hv, show 8 - i = 0 by omega]; rfl) dX3_firstWith_36
      · have c_5 : ¬ (8 ≤ i) := fun h => c_5 ((nI_leI (a := 8) (b := i) (by omega) (by omega)).mpr h)
        refine lv_aload_n hx hb dX3_firstWith_8 rfl (lv_at hl 0 rfl) ?_
        refine lv_iload_n hx hb dX3_firstWith_9 rfl (lv_at hl 2 rfl) ?_
        refine cl_Vi ([]) ([]) (As := [.int (nI i)]) (rest := []) (c_X3_isThere l D cI a g lf h r th go hg i (by omega)) ⟨hx, hb, hml, hown, hts⟩ (cwV 1 hts gX3_firstWith_X3_isThere rfl rfl rfl (by decide +kernel) ⟨Nat.le_of_ble_eq_true rfl, Nat.le_of_ble_eq_true rfl⟩) hK hns hP hD hS hA rfl (T := TX3) (N := 4) rfl rfl hl.1 rfl (Nat.le_of_ble_eq_true rfl) dX3_firstWith_10 ⟨Nat.zero_le _, Nat.zero_le _⟩ (fun r10 u10 H locs hw10 hP hD hS => ?_)
        have hP : va_P D vwCl [(a 0, .inr (3, [.ref (a 1), .ref (a 2), .ref (a 3), .int r])), (a 1, .inl (cI, 8, .inl g)), (a 2, .inl (cI, 8, .inl lf)), (a 3, .inl (cI, 8, .inl h))] H := hP
        have hD : va_D A [(a 0, .inr (3, [.ref (a 1), .ref (a 2), .ref (a 3), .int r])), (a 1, .inl (cI, 8, .inl g)), (a 2, .inl (cI, 8, .inl lf)), (a 3, .inl (cI, 8, .inl h))] := hD
        rcases hw10 with ⟨rfl, ht10⟩ | ⟨rfl, ht10⟩
        · refine lv_if_eq (tgt := 28) hx hb dX3_firstWith_13 (by decide) (fun c9 => absurd c9 (by decide)) (fun _ => ?_)
          refine lv_aload_n hx hb dX3_firstWith_16 rfl (lv_at hl 0 rfl) ?_
          refine va_get (D := D) (ci := 3) (v := .ref (a 1)) (C := RX3) (T := TX3) (N := 4) hx hb hts inX3 hown hK hP 0 rfl rfl 0 (by decide) fl9 (fun _ h9 => h9) rfl dX3_firstWith_17 ?_
          refine lv_iload_n hx hb dX3_firstWith_20 rfl (lv_at hl 2 rfl) ?_
          refine xi_ald hx hb hK hP 1 0 rfl rfl (k := i) (by omega) (by decide) dX3_firstWith_21 ?_
          refine tp (y := nI (go i)) (gok_v hg ht10.1 ht10.2) ?_
          refine lv_iload_n hx hb dX3_firstWith_22 rfl (lv_at hl 1 rfl) ?_
          refine lv_icmp_lt (tgt := 28) hx hb dX3_firstWith_23 (by decide) (fun c_23 => ?_) (fun c_23 => ?_)
          · refine lv_iinc (v := (nI (i + 1))) (lv' := [(2, .int (nI (i + 1))), (0, .ref (a 0)), (1, .int y)]) hx hb dX3_firstWith_28 hl (k := 2) rfl (nI_1 i) (by decide) rfl (fun ls hl => ?_)
            refine lv_goto (tgt := 2) hx hb dX3_firstWith_31 (by decide) ?_
            exact ih (i + 1) (by omega) (by omega) (hv.trans (fwd_no (by omega) (fun q => absurd c_23 (Int32.not_lt.mpr q.2)))) _ _ hP hD hS ls (lv_sub hl [1, 2, 0] rfl)
          · refine lv_iload_n hx hb dX3_firstWith_26 rfl (lv_at hl 2 rfl) ?_
            exact Ri (D := D) () hx hb hr rfl hlocks hP hD hS (by rw [hv]; exact (fwd_yes (by omega) ht10.2 (Int32.not_lt.mp c_23)).symm) dX3_firstWith_27
        · refine lv_if_eq (tgt := 28) hx hb dX3_firstWith_13 (by decide) (fun _ => ?_) (fun c9 => absurd (by decide) c9)
          refine lv_iinc (v := (nI (i + 1))) (lv' := [(2, .int (nI (i + 1))), (0, .ref (a 0)), (1, .int y)]) hx hb dX3_firstWith_28 hl (k := 2) rfl (nI_1 i) (by decide) rfl (fun ls hl => ?_)
          refine lv_goto (tgt := 2) hx hb dX3_firstWith_31 (by decide) ?_
          exact ih (i + 1) (by omega) (by omega) (hv.trans (fwd_no (by omega) (fun q => ht10 ⟨by omega, q.1⟩))) _ _ hP hD hS ls (lv_sub hl [1, 2, 0] rfl)
  exact loop2 9 0 (by omega) (by omega) rfl _ _ hP hD hS ls (lv_sub hl [1, 2, 0] rfl)

set_option maxHeartbeats 4000000 in
set_option maxRecDepth 100000 in
theorem c_X3_rowUpTo (l : Launch) (D : va_G) (cI : ClassId) (a : Nat → Nat) (g lf h : Nat → Int32) (r : Int32) (th : Nat → Bool) (go : Nat → Nat) (hg : gok g th go) (y : Int32) : Ci l D [(cI, .int)] yX3_rowUpTo wsX3_rowUpTo ({ frames := 2, cells := 0, slots := 0, locals := 41 }) [.ref (a 0), .int y] (wSt a cI g lf h r) (S := Unit) (fun v _ => v = rwd th go y 8) (fun _ => wSt a cI g lf h r) := by
  refine Ci.mk (cc := cX3_rowUpTo) (maxL := 3) (ret := (some .int)) (by decide +kernel) rfl (Nat.le_of_ble_eq_true rfl) ?_
  intro pg e s m below meth c A ls hx hb hml hr hown hts hlocks hK hns hA hP hD hS hl
  have hl : lv_has ls 3 [(0, .ref (a 0)), (1, .int y)] := hl
  have fl9 := hts (.fieldLink RX3 9 "HeldShelves$Stock" "goods" "[I") (List.mem_of_getElem? (i := 1) rfl)
  have inX3 : ∀ w ∈ wsX30, w ∈ wsX3_rowUpTo := fun _ h => List.mem_cons_of_mem _ (List.mem_append_right _ h)
  have hP : va_P D vwCl [(a 0, .inr (3, [.ref (a 1), .ref (a 2), .ref (a 3), .int r])), (a 1, .inl (cI, 8, .inl g)), (a 2, .inl (cI, 8, .inl lf)), (a 3, .inl (cI, 8, .inl h))] s.heap := hP
  have hD : va_D A [(a 0, .inr (3, [.ref (a 1), .ref (a 2), .ref (a 3), .int r])), (a 1, .inl (cI, 8, .inl g)), (a 2, .inl (cI, 8, .inl lf)), (a 3, .inl (cI, 8, .inl h))] := hD
  refine lv_iconst (v := 0) hx hb dX3_rowUpTo_0 (by decide) ?_
  refine lv_istore_n (lv' := [(2, .int 0), (0, .ref (a 0)), (1, .int y)]) hx hb dX3_rowUpTo_1 rfl hl (by decide) rfl (fun ls hl => ?_)
  have loop2 : ∀ (k : Nat) (i : Nat), 9 ≤ i + k → i ≤ 8 → rwd th go y 8 = rwd th go y (8 - i) → ∀ (H : Heap) (locs : List Loc), va_P D vwCl [(a 0, .inr (3, [.ref (a 1), .ref (a 2), .ref (a 3), .int r])), (a 1, .inl (cI, 8, .inl g)), (a 2, .inl (cI, 8, .inl lf)), (a 3, .inl (cI, 8, .inl h))] H → va_D A [(a 0, .inr (3, [.ref (a 1), .ref (a 2), .ref (a 3), .int r])), (a 1, .inl (cI, 8, .inl g)), (a 2, .inl (cI, 8, .inl lf)), (a 3, .inl (cI, 8, .inl h))] → va_S A s.heap H locs → ∀ (ls : Array Slot), lv_has ls 3 [(0, .ref (a 0)), (1, .int y), (2, .int (nI i))] → W pg l e ({ frames := 2, cells := 0, slots := 0, locals := 41 } : Room) s m ([.ref (a 0), .int y] : List Value).toArray below meth c H locs 0 0 (Qi D below ([.ref (a 0), .int y] : List Value).toArray s A (S := Unit) (fun v _ => v = rwd th go y 8) (fun _ => wSt a cI g lf h r)) (F0 m 2 ls []) := by
    intro k
    induction k with
    | zero => intro i hk hi hv; exact absurd hk (by omega)
    | succ k ih =>
      intro i hk hi hv H locs hP hD hS ls hl
      refine lv_iload_n hx hb dX3_rowUpTo_2 rfl (lv_at hl 2 rfl) ?_
      refine lv_bipush (v := 8) hx hb dX3_rowUpTo_3 (by decide) ?_
      refine lv_icmp_ge (tgt := 32) hx hb dX3_rowUpTo_5 (by decide) (fun c_5 => ?_) (fun c_5 => ?_)
      · have c_5 : 8 ≤ i := (nI_leI (a := 8) (b := i) (by omega) (by omega)).mp c_5
        refine lv_iload_n hx hb dX3_rowUpTo_32 rfl (lv_at hl 2 rfl) ?_
        exact Ri (D := D) () hx hb hr rfl hlocks hP hD hS (by rw [hv, show i = 8 by omega]; rfl) dX3_rowUpTo_33
      · have c_5 : ¬ (8 ≤ i) := fun h => c_5 ((nI_leI (a := 8) (b := i) (by omega) (by omega)).mpr h)
        refine lv_aload_n hx hb dX3_rowUpTo_8 rfl (lv_at hl 0 rfl) ?_
        refine lv_iload_n hx hb dX3_rowUpTo_9 rfl (lv_at hl 2 rfl) ?_
        refine cl_Vi ([]) ([]) (As := [.int (nI i)]) (rest := []) (c_X3_isThere l D cI a g lf h r th go hg i (by omega)) ⟨hx, hb, hml, hown, hts⟩ (cwV 1 hts gX3_rowUpTo_X3_isThere rfl rfl rfl (by decide +kernel) ⟨Nat.le_of_ble_eq_true rfl, Nat.le_of_ble_eq_true rfl⟩) hK hns hP hD hS hA rfl (T := TX3) (N := 4) rfl rfl hl.1 rfl (Nat.le_of_ble_eq_true rfl) dX3_rowUpTo_10 ⟨Nat.zero_le _, Nat.zero_le _⟩ (fun r10 u10 H locs hw10 hP hD hS => ?_)
        have hP : va_P D vwCl [(a 0, .inr (3, [.ref (a 1), .ref (a 2), .ref (a 3), .int r])), (a 1, .inl (cI, 8, .inl g)), (a 2, .inl (cI, 8, .inl lf)), (a 3, .inl (cI, 8, .inl h))] H := hP
        have hD : va_D A [(a 0, .inr (3, [.ref (a 1), .ref (a 2), .ref (a 3), .int r])), (a 1, .inl (cI, 8, .inl g)), (a 2, .inl (cI, 8, .inl lf)), (a 3, .inl (cI, 8, .inl h))] := hD
        rcases hw10 with ⟨rfl, ht10⟩ | ⟨rfl, ht10⟩
        · refine lv_if_eq (tgt := 32) hx hb dX3_rowUpTo_13 (by decide) (fun c9 => absurd c9 (by decide)) (fun _ => ?_)
          refine lv_aload_n hx hb dX3_rowUpTo_16 rfl (lv_at hl 0 rfl) ?_
          refine va_get (D := D) (ci := 3) (v := .ref (a 1)) (C := RX3) (T := TX3) (N := 4) hx hb hts inX3 hown hK hP 0 rfl rfl 0 (by decide) fl9 (fun _ h9 => h9) rfl dX3_rowUpTo_17 ?_
          refine lv_iload_n hx hb dX3_rowUpTo_20 rfl (lv_at hl 2 rfl) ?_
          refine xi_ald hx hb hK hP 1 0 rfl rfl (k := i) (by omega) (by decide) dX3_rowUpTo_21 ?_
          refine tp (y := nI (go i)) (gok_v hg ht10.1 ht10.2) ?_
          refine lv_iload_n hx hb dX3_rowUpTo_22 rfl (lv_at hl 1 rfl) ?_
          refine lv_icmp_gt (tgt := 32) hx hb dX3_rowUpTo_23 (by decide) (fun c_23 => ?_) (fun c_23 => ?_)
          · refine lv_iload_n hx hb dX3_rowUpTo_32 rfl (lv_at hl 2 rfl) ?_
            exact Ri (D := D) () hx hb hr rfl hlocks hP hD hS (by rw [hv]; exact (rwd_no (by omega) (fun q => absurd c_23 (Int32.not_lt.mpr q.2))).symm) dX3_rowUpTo_33
          · refine lv_iinc (v := (nI (i + 1))) (lv' := [(2, .int (nI (i + 1))), (0, .ref (a 0)), (1, .int y)]) hx hb dX3_rowUpTo_26 hl (k := 2) rfl (nI_1 i) (by decide) rfl (fun ls hl => ?_)
            refine lv_goto (tgt := 2) hx hb dX3_rowUpTo_29 (by decide) ?_
            exact ih (i + 1) (by omega) (by omega) (hv.trans (rwd_yes (by omega) ht10.2 (Int32.not_lt.mp c_23))) _ _ hP hD hS ls (lv_sub hl [1, 2, 0] rfl)
        · refine lv_if_eq (tgt := 32) hx hb dX3_rowUpTo_13 (by decide) (fun _ => ?_) (fun c9 => absurd (by decide) c9)
          refine lv_iload_n hx hb dX3_rowUpTo_32 rfl (lv_at hl 2 rfl) ?_
          exact Ri (D := D) () hx hb hr rfl hlocks hP hD hS (by rw [hv]; exact (rwd_no (by omega) (fun q => ht10 ⟨by omega, q.1⟩)).symm) dX3_rowUpTo_33
  exact loop2 9 0 (by omega) (by omega) rfl _ _ hP hD hS ls (lv_sub hl [1, 2, 0] rfl)

set_option maxHeartbeats 4000000 in
set_option maxRecDepth 100000 in
theorem c_X3_giveRest (l : Launch) (D : va_G) (cI : ClassId) (a : Nat → Nat) (g lf h : Nat → Int32) (r : Int32) : Ci l D [(cI, .int)] yX3_giveRest wsX3_giveRest ({ frames := 0, cells := 0, slots := 0, locals := 0 }) [.ref (a 0)] (wSt a cI g lf h r) (S := Unit) (fun v _ => v = r) (fun _ => wSt a cI g lf h 0) := by
  refine Ci.mk (cc := cX3_giveRest) (maxL := 2) (ret := (some .int)) (by decide +kernel) rfl (Nat.le_of_ble_eq_true rfl) ?_
  intro pg e s m below meth c A ls hx hb hml hr hown hts hlocks hK hns hA hP hD hS hl
  have hl : lv_has ls 2 [(0, .ref (a 0))] := hl
  have fl28 := hts (.fieldLink RX3 28 "HeldShelves$Stock" "rest" "I") (List.mem_of_getElem? (i := 1) rfl)
  have inX3 : ∀ w ∈ wsX30, w ∈ wsX3_giveRest := fun _ h => List.mem_cons_of_mem _ (List.mem_append_right _ h)
  have hP : va_P D vwCl [(a 0, .inr (3, [.ref (a 1), .ref (a 2), .ref (a 3), .int r])), (a 1, .inl (cI, 8, .inl g)), (a 2, .inl (cI, 8, .inl lf)), (a 3, .inl (cI, 8, .inl h))] s.heap := hP
  have hD : va_D A [(a 0, .inr (3, [.ref (a 1), .ref (a 2), .ref (a 3), .int r])), (a 1, .inl (cI, 8, .inl g)), (a 2, .inl (cI, 8, .inl lf)), (a 3, .inl (cI, 8, .inl h))] := hD
  refine lv_aload_n hx hb dX3_giveRest_0 rfl (lv_at hl 0 rfl) ?_
  refine va_get (D := D) (ci := 3) (v := .int r) (C := RX3) (T := TX3) (N := 4) hx hb hts inX3 hown hK hP 0 rfl rfl 3 (by decide) fl28 (fun _ h9 => h9) rfl dX3_giveRest_1 ?_
  refine lv_istore_n (lv' := [(1, .int r), (0, .ref (a 0))]) hx hb dX3_giveRest_4 rfl hl (by decide) rfl (fun ls hl => ?_)
  refine lv_aload_n hx hb dX3_giveRest_5 rfl (lv_at hl 1 rfl) ?_
  refine lv_iconst (v := 0) hx hb dX3_giveRest_6 (by decide) ?_
  refine va_put (D := D) (ci := 3) (v := .int 0) (ty := .int) (C := RX3) (T := TX3) (N := 4) hx hb hts inX3 tyX3 tyX3_ok nmX3 hown hK hP hD hS 0 rfl rfl 3 (by decide) fl28 (fun _ h9 => h9) rfl (by decide +kernel) rfl rfl (Nat.le_of_ble_eq_true rfl) dX3_giveRest_7 (fun H locs hP hD hS => ?_)
  have hP : va_P D vwCl [(a 0, .inr (3, [.ref (a 1), .ref (a 2), .ref (a 3), .int 0])), (a 1, .inl (cI, 8, .inl g)), (a 2, .inl (cI, 8, .inl lf)), (a 3, .inl (cI, 8, .inl h))] H := hP
  have hD : va_D A [(a 0, .inr (3, [.ref (a 1), .ref (a 2), .ref (a 3), .int 0])), (a 1, .inl (cI, 8, .inl g)), (a 2, .inl (cI, 8, .inl lf)), (a 3, .inl (cI, 8, .inl h))] := hD
  refine lv_iload_n hx hb dX3_giveRest_10 rfl (lv_at hl 0 rfl) ?_
  exact Ri (D := D) () hx hb hr rfl hlocks hP hD hS rfl dX3_giveRest_11

set_option maxHeartbeats 4000000 in
set_option maxRecDepth 100000 in
theorem c_X3_inAll (l : Launch) (D : va_G) (cI : ClassId) (a : Nat → Nat) (g lf h : Nat → Int32) (r : Int32) (th : Nat → Bool) (go : Nat → Nat) (hg : gok g th go) : Ci l D [(cI, .int)] yX3_inAll wsX3_inAll ({ frames := 3, cells := 0, slots := 0, locals := 62 }) [.ref (a 0)] (wSt a cI g lf h r) (S := Unit) (fun v _ => v = sm th go 8) (fun _ => wSt a cI g lf h r) := by
  refine Ci.mk (cc := cX3_inAll) (maxL := 3) (ret := (some .int)) (by decide +kernel) rfl (Nat.le_of_ble_eq_true rfl) ?_
  intro pg e s m below meth c A ls hx hb hml hr hown hts hlocks hK hns hA hP hD hS hl
  have hl : lv_has ls 3 [(0, .ref (a 0))] := hl
  have hP : va_P D vwCl [(a 0, .inr (3, [.ref (a 1), .ref (a 2), .ref (a 3), .int r])), (a 1, .inl (cI, 8, .inl g)), (a 2, .inl (cI, 8, .inl lf)), (a 3, .inl (cI, 8, .inl h))] s.heap := hP
  have hD : va_D A [(a 0, .inr (3, [.ref (a 1), .ref (a 2), .ref (a 3), .int r])), (a 1, .inl (cI, 8, .inl g)), (a 2, .inl (cI, 8, .inl lf)), (a 3, .inl (cI, 8, .inl h))] := hD
  refine lv_iconst (v := 0) hx hb dX3_inAll_0 (by decide) ?_
  refine lv_istore_n (lv' := [(1, .int 0), (0, .ref (a 0))]) hx hb dX3_inAll_1 rfl hl (by decide) rfl (fun ls hl => ?_)
  refine lv_iconst (v := 0) hx hb dX3_inAll_2 (by decide) ?_
  refine lv_istore_n (lv' := [(2, .int 0), (1, .int 0), (0, .ref (a 0))]) hx hb dX3_inAll_3 rfl hl (by decide) rfl (fun ls hl => ?_)
  have loop4 : ∀ (k : Nat) (i : Nat), 9 ≤ i + k → i ≤ 8 → ∀ (H : Heap) (locs : List Loc), va_P D vwCl [(a 0, .inr (3, [.ref (a 1), .ref (a 2), .ref (a 3), .int r])), (a 1, .inl (cI, 8, .inl g)), (a 2, .inl (cI, 8, .inl lf)), (a 3, .inl (cI, 8, .inl h))] H → va_D A [(a 0, .inr (3, [.ref (a 1), .ref (a 2), .ref (a 3), .int r])), (a 1, .inl (cI, 8, .inl g)), (a 2, .inl (cI, 8, .inl lf)), (a 3, .inl (cI, 8, .inl h))] → va_S A s.heap H locs → ∀ (ls : Array Slot), lv_has ls 3 [(0, .ref (a 0)), (1, .int (sm th go i)), (2, .int (nI i))] → W pg l e ({ frames := 3, cells := 0, slots := 0, locals := 62 } : Room) s m ([.ref (a 0)] : List Value).toArray below meth c H locs 0 0 (Qi D below ([.ref (a 0)] : List Value).toArray s A (S := Unit) (fun v _ => v = sm th go 8) (fun _ => wSt a cI g lf h r)) (F0 m 4 ls []) := by
    intro k
    induction k with
    | zero => intro i hk hi; exact absurd hk (by omega)
    | succ k ih =>
      intro i hk hi H locs hP hD hS ls hl
      refine lv_iload_n hx hb dX3_inAll_4 rfl (lv_at hl 2 rfl) ?_
      refine lv_bipush (v := 8) hx hb dX3_inAll_5 (by decide) ?_
      refine lv_icmp_ge (tgt := 24) hx hb dX3_inAll_7 (by decide) (fun c_7 => ?_) (fun c_7 => ?_)
      · have c_7 : 8 ≤ i := (nI_leI (a := 8) (b := i) (by omega) (by omega)).mp c_7
        refine lv_iload_n hx hb dX3_inAll_24 rfl (lv_at hl 1 rfl) ?_
        exact Ri (D := D) () hx hb hr rfl hlocks hP hD hS (by rw [show i = 8 by omega]) dX3_inAll_25
      · have c_7 : ¬ (8 ≤ i) := fun h => c_7 ((nI_leI (a := 8) (b := i) (by omega) (by omega)).mpr h)
        refine lv_iload_n hx hb dX3_inAll_10 rfl (lv_at hl 1 rfl) ?_
        refine lv_aload_n hx hb dX3_inAll_11 rfl (lv_at hl 0 rfl) ?_
        refine lv_iload_n hx hb dX3_inAll_12 rfl (lv_at hl 2 rfl) ?_
        refine cl_Vi ([]) ([]) (As := [.int (nI i)]) (rest := [.int (sm th go i)]) (c_X3_goodsOf l D cI a g lf h r th go hg i (by omega)) ⟨hx, hb, hml, hown, hts⟩ (cwV 1 hts gX3_inAll_X3_goodsOf rfl rfl rfl (by decide +kernel) ⟨Nat.le_of_ble_eq_true rfl, Nat.le_of_ble_eq_true rfl⟩) hK hns hP hD hS hA rfl (T := TX3) (N := 4) rfl rfl hl.1 rfl (Nat.le_of_ble_eq_true rfl) dX3_inAll_13 ⟨Nat.zero_le _, Nat.zero_le _⟩ (fun r13 u13 H locs hw13 hP hD hS => ?_)
        have hP : va_P D vwCl [(a 0, .inr (3, [.ref (a 1), .ref (a 2), .ref (a 3), .int r])), (a 1, .inl (cI, 8, .inl g)), (a 2, .inl (cI, 8, .inl lf)), (a 3, .inl (cI, 8, .inl h))] H := hP
        have hD : va_D A [(a 0, .inr (3, [.ref (a 1), .ref (a 2), .ref (a 3), .int r])), (a 1, .inl (cI, 8, .inl g)), (a 2, .inl (cI, 8, .inl lf)), (a 3, .inl (cI, 8, .inl h))] := hD
        subst hw13
        refine lv_iadd hx hb dX3_inAll_16 ?_
        refine lv_istore_n (lv' := [(1, .int ((sm th go i) + (if th i then nI (go i) else 0))), (0, .ref (a 0)), (2, .int (nI i))]) hx hb dX3_inAll_17 rfl hl (by decide) rfl (fun ls hl => ?_)
        refine lv_iinc (v := (nI (i + 1))) (lv' := [(2, .int (nI (i + 1))), (1, .int ((sm th go i) + (if th i then nI (go i) else 0))), (0, .ref (a 0))]) hx hb dX3_inAll_18 hl (k := 2) rfl (nI_1 i) (by decide) rfl (fun ls hl => ?_)
        refine lv_goto (tgt := 4) hx hb dX3_inAll_21 (by decide) ?_
        exact ih (i + 1) (by omega) (by omega) _ _ hP hD hS ls (lv_sub hl [2, 1, 0] rfl)
  exact loop4 9 0 (by omega) (by omega) _ _ hP hD hS ls (lv_sub hl [2, 1, 0] rfl)

set_option maxHeartbeats 4000000 in
set_option maxRecDepth 100000 in
theorem c_X3_missing (l : Launch) (D : va_G) (cI : ClassId) (a : Nat → Nat) (g lf h : Nat → Int32) (r : Int32) (th : Nat → Bool) (go : Nat → Nat) (hg : gok g th go) (x : Nat) (hx16 : x < 16) : Ci l D [(cI, .int)] yX3_missing wsX3_missing ({ frames := 1, cells := 0, slots := 0, locals := 20 }) [.ref (a 0), .int (nI x)] (wSt a cI g lf h r) (S := Unit) (fun v _ => v = nI (mis th x)) (fun _ => wSt a cI g lf h r) := by
  refine Ci.mk (cc := cX3_missing) (maxL := 2) (ret := (some .int)) (by decide +kernel) rfl (Nat.le_of_ble_eq_true rfl) ?_
  intro pg e s m below meth c A ls hx hb hml hr hown hts hlocks hK hns hA hP hD hS hl
  have hl : lv_has ls 2 [(0, .ref (a 0)), (1, .int (nI x))] := hl
  have fl9 := hts (.fieldLink RX3 9 "HeldShelves$Stock" "goods" "[I") (List.mem_of_getElem? (i := 1) rfl)
  have inX3 : ∀ w ∈ wsX30, w ∈ wsX3_missing := fun _ h => List.mem_cons_of_mem _ (List.mem_append_right _ h)
  have hP : va_P D vwCl [(a 0, .inr (3, [.ref (a 1), .ref (a 2), .ref (a 3), .int r])), (a 1, .inl (cI, 8, .inl g)), (a 2, .inl (cI, 8, .inl lf)), (a 3, .inl (cI, 8, .inl h))] s.heap := hP
  have hD : va_D A [(a 0, .inr (3, [.ref (a 1), .ref (a 2), .ref (a 3), .int r])), (a 1, .inl (cI, 8, .inl g)), (a 2, .inl (cI, 8, .inl lf)), (a 3, .inl (cI, 8, .inl h))] := hD
  refine lv_iload_n hx hb dX3_missing_0 rfl (lv_at hl 1 rfl) ?_
  refine cl_SNi (As := [.int (nI x)]) (rest := []) (c_X4_isShelf l D (nI x)) ⟨hx, hb, hml, hown, hts⟩ ⟨va_cnB 1 hts gX3_missing_X4_isShelf_n21 rfl rfl rfl hns (hts (.initialized RX4) (by decide +kernel)) (by decide +kernel) ⟨Nat.le_of_ble_eq_true rfl, Nat.le_of_ble_eq_true rfl⟩, hts (.static yX4_isShelf) (by decide +kernel), trivial⟩ hK hns hP hD hS hA rfl hl.1 rfl (Nat.le_of_ble_eq_true rfl) dX3_missing_1 ⟨Nat.zero_le _, Nat.zero_le _⟩ (fun r1 u1 H locs hw1 hP hD hS => ?_)
  rcases hw1 with ⟨rfl, hs1⟩ | ⟨rfl, hs1⟩
  · have hs1 : x < 8 := (inN_nI (by omega) (by omega)).mp hs1
    refine lv_if_ne (tgt := 9) hx hb dX3_missing_4 (by decide) (fun _ => ?_) (fun c9 => absurd c9 (by decide))
    refine lv_aload_n hx hb dX3_missing_9 rfl (lv_at hl 0 rfl) ?_
    refine va_get (D := D) (ci := 3) (v := .ref (a 1)) (C := RX3) (T := TX3) (N := 4) hx hb hts inX3 hown hK hP 0 rfl rfl 0 (by decide) fl9 (fun _ h9 => h9) rfl dX3_missing_10 ?_
    refine lv_iload_n hx hb dX3_missing_13 rfl (lv_at hl 1 rfl) ?_
    refine xi_ald hx hb hK hP 1 0 rfl rfl (k := x) (by omega) (by decide) dX3_missing_14 ?_
    refine tp (y := gI (th x) (go x)) ((hg x hs1).1) ?_
    refine lv_iconst (v := (-1)) hx hb dX3_missing_15 (by decide) ?_
    refine lv_icmp_eq (tgt := 23) hx hb dX3_missing_16 (by decide) (fun c_16 => ?_) (fun c_16 => ?_)
    · refine lv_iconst (v := 2) hx hb dX3_missing_23 (by decide) ?_
      exact Ri (D := D) () hx hb hr rfl hlocks hP hD hS (by rw [mis, if_neg (by omega), if_neg (fun q => by have := (gI_ne (hg x hs1).2).mp c_16; rw [this] at q; exact absurd q (by decide))]; rfl) dX3_missing_24
    · refine lv_iconst (v := 0) hx hb dX3_missing_19 (by decide) ?_
      refine lv_goto (tgt := 24) hx hb dX3_missing_20 (by decide) ?_
      exact Ri (D := D) () hx hb hr rfl hlocks hP hD hS (by rw [mis, if_neg (by omega), if_pos (Bool.of_not_eq_false (fun hq => c_16 ((gI_ne (t := th x) (hg x hs1).2).mpr hq)))]; rfl) dX3_missing_24
  · have hs1 : ¬ x < 8 := fun h => hs1 ((inN_nI (by omega) (by omega)).mpr h)
    refine lv_if_ne (tgt := 9) hx hb dX3_missing_4 (by decide) (fun c9 => absurd rfl c9) (fun _ => ?_)
    refine lv_iconst (v := 1) hx hb dX3_missing_7 (by decide) ?_
    exact Ri (D := D) () hx hb hr rfl hlocks hP hD hS (by rw [mis, if_pos (by omega)]; rfl) dX3_missing_8

set_option maxHeartbeats 4000000 in
set_option maxRecDepth 100000 in
theorem c_X3_holdOnce (l : Launch) (D : va_G) (cI : ClassId) (a : Nat → Nat) (g lf h : Nat → Int32) (r : Int32) (x : Nat) (hx8 : x < 8) : Cv l D [(cI, .int)] yX3_holdOnce wsX3_holdOnce ({ frames := 1, cells := 0, slots := 0, locals := 20 }) [.ref (a 0), .int (nI x)] (wSt a cI g lf h r) (S := Unit) (fun _ => True) (fun _ => wSt a cI g lf (upd h x (h x + 1)) r) := by
  refine Cv.mk (cc := cX3_holdOnce) (maxL := 2) (ret := none) (by decide +kernel) rfl (Nat.le_of_ble_eq_true rfl) ?_
  intro pg e s m below meth c A ls hx hb hml hr hown hts hlocks hK hns hA hP hD hS hl
  have hl : lv_has ls 2 [(0, .ref (a 0)), (1, .int (nI x))] := hl
  have fl18 := hts (.fieldLink RX3 18 "HeldShelves$Stock" "held" "[I") (List.mem_of_getElem? (i := 1) rfl)
  have inX3 : ∀ w ∈ wsX30, w ∈ wsX3_holdOnce := fun _ h => List.mem_cons_of_mem _ (List.mem_append_right _ h)
  have hP : va_P D vwCl [(a 0, .inr (3, [.ref (a 1), .ref (a 2), .ref (a 3), .int r])), (a 1, .inl (cI, 8, .inl g)), (a 2, .inl (cI, 8, .inl lf)), (a 3, .inl (cI, 8, .inl h))] s.heap := hP
  have hD : va_D A [(a 0, .inr (3, [.ref (a 1), .ref (a 2), .ref (a 3), .int r])), (a 1, .inl (cI, 8, .inl g)), (a 2, .inl (cI, 8, .inl lf)), (a 3, .inl (cI, 8, .inl h))] := hD
  refine lv_iload_n hx hb dX3_holdOnce_0 rfl (lv_at hl 1 rfl) ?_
  refine cl_SNi (As := [.int (nI x)]) (rest := []) (c_X4_isShelf l D (nI x)) ⟨hx, hb, hml, hown, hts⟩ ⟨va_cnB 1 hts gX3_holdOnce_X4_isShelf_n21 rfl rfl rfl hns (hts (.initialized RX4) (by decide +kernel)) (by decide +kernel) ⟨Nat.le_of_ble_eq_true rfl, Nat.le_of_ble_eq_true rfl⟩, hts (.static yX4_isShelf) (by decide +kernel), trivial⟩ hK hns hP hD hS hA rfl hl.1 rfl (Nat.le_of_ble_eq_true rfl) dX3_holdOnce_1 ⟨Nat.zero_le _, Nat.zero_le _⟩ (fun r1 u1 H locs hw1 hP hD hS => ?_)
  rcases hw1 with ⟨rfl, hs1⟩ | ⟨rfl, hs1⟩
  · have hs1 : x < 8 := (inN_nI (by omega) (by omega)).mp hs1
    refine lv_if_eq (tgt := 17) hx hb dX3_holdOnce_4 (by decide) (fun c9 => absurd c9 (by decide)) (fun _ => ?_)
    refine lv_aload_n hx hb dX3_holdOnce_7 rfl (lv_at hl 0 rfl) ?_
    refine va_get (D := D) (ci := 3) (v := .ref (a 3)) (C := RX3) (T := TX3) (N := 4) hx hb hts inX3 hown hK hP 0 rfl rfl 2 (by decide) fl18 (fun _ h9 => h9) rfl dX3_holdOnce_8 ?_
    refine lv_iload_n hx hb dX3_holdOnce_11 rfl (lv_at hl 1 rfl) ?_
    refine lv_dup2_11 hx hb dX3_holdOnce_12 rfl rfl ?_
    refine xi_ald hx hb hK hP 3 0 rfl rfl (k := x) (by omega) (by decide) dX3_holdOnce_13 ?_
    refine lv_iconst (v := 1) hx hb dX3_holdOnce_14 (by decide) ?_
    refine lv_iadd hx hb dX3_holdOnce_15 ?_
    refine xi_ast hx hb hK hP hD hS 3 0 rfl rfl (k := x) (x := ((h x) + 1)) (by omega) (by decide) dX3_holdOnce_16 (fun H locs hP hD hS => ?_)
    have hP : va_P D vwCl [(a 0, .inr (3, [.ref (a 1), .ref (a 2), .ref (a 3), .int r])), (a 1, .inl (cI, 8, .inl g)), (a 2, .inl (cI, 8, .inl lf)), (a 3, .inl (cI, 8, .inl (upd h x ((h x) + 1))))] H := hP
    have hD : va_D A [(a 0, .inr (3, [.ref (a 1), .ref (a 2), .ref (a 3), .int r])), (a 1, .inl (cI, 8, .inl g)), (a 2, .inl (cI, 8, .inl lf)), (a 3, .inl (cI, 8, .inl (upd h x ((h x) + 1))))] := hD
    exact Rv (D := D) () hx hb hr hlocks hP hD hS trivial dX3_holdOnce_17
  · have hs1 : ¬ x < 8 := fun h => hs1 ((inN_nI (by omega) (by omega)).mpr h)
    refine lv_if_eq (tgt := 17) hx hb dX3_holdOnce_4 (by decide) (fun _ => ?_) (fun c9 => absurd (by decide) c9)
    exact absurd hx8 hs1

set_option maxHeartbeats 4000000 in
set_option maxRecDepth 100000 in
theorem c_X3_release (l : Launch) (D : va_G) (cI : ClassId) (a : Nat → Nat) (g lf h : Nat → Int32) (r : Int32) (x : Nat) (hx8 : x < 8) : Cv l D [(cI, .int)] yX3_release wsX3_release ({ frames := 1, cells := 0, slots := 0, locals := 20 }) [.ref (a 0), .int (nI x)] (wSt a cI g lf h r) (S := Unit) (fun _ => True) (fun _ => wSt a cI g lf (upd h x (h x - 1)) r) := by
  refine Cv.mk (cc := cX3_release) (maxL := 2) (ret := none) (by decide +kernel) rfl (Nat.le_of_ble_eq_true rfl) ?_
  intro pg e s m below meth c A ls hx hb hml hr hown hts hlocks hK hns hA hP hD hS hl
  have hl : lv_has ls 2 [(0, .ref (a 0)), (1, .int (nI x))] := hl
  have fl18 := hts (.fieldLink RX3 18 "HeldShelves$Stock" "held" "[I") (List.mem_of_getElem? (i := 1) rfl)
  have inX3 : ∀ w ∈ wsX30, w ∈ wsX3_release := fun _ h => List.mem_cons_of_mem _ (List.mem_append_right _ h)
  have hP : va_P D vwCl [(a 0, .inr (3, [.ref (a 1), .ref (a 2), .ref (a 3), .int r])), (a 1, .inl (cI, 8, .inl g)), (a 2, .inl (cI, 8, .inl lf)), (a 3, .inl (cI, 8, .inl h))] s.heap := hP
  have hD : va_D A [(a 0, .inr (3, [.ref (a 1), .ref (a 2), .ref (a 3), .int r])), (a 1, .inl (cI, 8, .inl g)), (a 2, .inl (cI, 8, .inl lf)), (a 3, .inl (cI, 8, .inl h))] := hD
  refine lv_iload_n hx hb dX3_release_0 rfl (lv_at hl 1 rfl) ?_
  refine cl_SNi (As := [.int (nI x)]) (rest := []) (c_X4_isShelf l D (nI x)) ⟨hx, hb, hml, hown, hts⟩ ⟨va_cnB 1 hts gX3_release_X4_isShelf_n21 rfl rfl rfl hns (hts (.initialized RX4) (by decide +kernel)) (by decide +kernel) ⟨Nat.le_of_ble_eq_true rfl, Nat.le_of_ble_eq_true rfl⟩, hts (.static yX4_isShelf) (by decide +kernel), trivial⟩ hK hns hP hD hS hA rfl hl.1 rfl (Nat.le_of_ble_eq_true rfl) dX3_release_1 ⟨Nat.zero_le _, Nat.zero_le _⟩ (fun r1 u1 H locs hw1 hP hD hS => ?_)
  rcases hw1 with ⟨rfl, hs1⟩ | ⟨rfl, hs1⟩
  · have hs1 : x < 8 := (inN_nI (by omega) (by omega)).mp hs1
    refine lv_if_eq (tgt := 17) hx hb dX3_release_4 (by decide) (fun c9 => absurd c9 (by decide)) (fun _ => ?_)
    refine lv_aload_n hx hb dX3_release_7 rfl (lv_at hl 0 rfl) ?_
    refine va_get (D := D) (ci := 3) (v := .ref (a 3)) (C := RX3) (T := TX3) (N := 4) hx hb hts inX3 hown hK hP 0 rfl rfl 2 (by decide) fl18 (fun _ h9 => h9) rfl dX3_release_8 ?_
    refine lv_iload_n hx hb dX3_release_11 rfl (lv_at hl 1 rfl) ?_
    refine lv_dup2_11 hx hb dX3_release_12 rfl rfl ?_
    refine xi_ald hx hb hK hP 3 0 rfl rfl (k := x) (by omega) (by decide) dX3_release_13 ?_
    refine lv_iconst (v := 1) hx hb dX3_release_14 (by decide) ?_
    refine lv_isub hx hb dX3_release_15 ?_
    refine xi_ast hx hb hK hP hD hS 3 0 rfl rfl (k := x) (x := ((h x) - 1)) (by omega) (by decide) dX3_release_16 (fun H locs hP hD hS => ?_)
    have hP : va_P D vwCl [(a 0, .inr (3, [.ref (a 1), .ref (a 2), .ref (a 3), .int r])), (a 1, .inl (cI, 8, .inl g)), (a 2, .inl (cI, 8, .inl lf)), (a 3, .inl (cI, 8, .inl (upd h x ((h x) - 1))))] H := hP
    have hD : va_D A [(a 0, .inr (3, [.ref (a 1), .ref (a 2), .ref (a 3), .int r])), (a 1, .inl (cI, 8, .inl g)), (a 2, .inl (cI, 8, .inl lf)), (a 3, .inl (cI, 8, .inl (upd h x ((h x) - 1))))] := hD
    exact Rv (D := D) () hx hb hr hlocks hP hD hS trivial dX3_release_17
  · have hs1 : ¬ x < 8 := fun h => hs1 ((inN_nI (by omega) (by omega)).mpr h)
    refine lv_if_eq (tgt := 17) hx hb dX3_release_4 (by decide) (fun _ => ?_) (fun c9 => absurd (by decide) c9)
    exact absurd hx8 hs1

set_option maxHeartbeats 4000000 in
set_option maxRecDepth 100000 in
theorem c_X3_countLeft (l : Launch) (D : va_G) (cI : ClassId) (a : Nat → Nat) (g lf h : Nat → Int32) (r : Int32) (x : Nat) (hx8 : x < 8) : Cv l D [(cI, .int)] yX3_countLeft wsX3_countLeft ({ frames := 1, cells := 0, slots := 0, locals := 20 }) [.ref (a 0), .int (nI x)] (wSt a cI g lf h r) (S := Unit) (fun _ => True) (fun _ => wSt a cI g (upd lf x (lf x + 1)) h r) := by
  refine Cv.mk (cc := cX3_countLeft) (maxL := 2) (ret := none) (by decide +kernel) rfl (Nat.le_of_ble_eq_true rfl) ?_
  intro pg e s m below meth c A ls hx hb hml hr hown hts hlocks hK hns hA hP hD hS hl
  have hl : lv_has ls 2 [(0, .ref (a 0)), (1, .int (nI x))] := hl
  have fl15 := hts (.fieldLink RX3 15 "HeldShelves$Stock" "left" "[I") (List.mem_of_getElem? (i := 1) rfl)
  have inX3 : ∀ w ∈ wsX30, w ∈ wsX3_countLeft := fun _ h => List.mem_cons_of_mem _ (List.mem_append_right _ h)
  have hP : va_P D vwCl [(a 0, .inr (3, [.ref (a 1), .ref (a 2), .ref (a 3), .int r])), (a 1, .inl (cI, 8, .inl g)), (a 2, .inl (cI, 8, .inl lf)), (a 3, .inl (cI, 8, .inl h))] s.heap := hP
  have hD : va_D A [(a 0, .inr (3, [.ref (a 1), .ref (a 2), .ref (a 3), .int r])), (a 1, .inl (cI, 8, .inl g)), (a 2, .inl (cI, 8, .inl lf)), (a 3, .inl (cI, 8, .inl h))] := hD
  refine lv_iload_n hx hb dX3_countLeft_0 rfl (lv_at hl 1 rfl) ?_
  refine cl_SNi (As := [.int (nI x)]) (rest := []) (c_X4_isShelf l D (nI x)) ⟨hx, hb, hml, hown, hts⟩ ⟨va_cnB 1 hts gX3_countLeft_X4_isShelf_n21 rfl rfl rfl hns (hts (.initialized RX4) (by decide +kernel)) (by decide +kernel) ⟨Nat.le_of_ble_eq_true rfl, Nat.le_of_ble_eq_true rfl⟩, hts (.static yX4_isShelf) (by decide +kernel), trivial⟩ hK hns hP hD hS hA rfl hl.1 rfl (Nat.le_of_ble_eq_true rfl) dX3_countLeft_1 ⟨Nat.zero_le _, Nat.zero_le _⟩ (fun r1 u1 H locs hw1 hP hD hS => ?_)
  rcases hw1 with ⟨rfl, hs1⟩ | ⟨rfl, hs1⟩
  · have hs1 : x < 8 := (inN_nI (by omega) (by omega)).mp hs1
    refine lv_if_eq (tgt := 17) hx hb dX3_countLeft_4 (by decide) (fun c9 => absurd c9 (by decide)) (fun _ => ?_)
    refine lv_aload_n hx hb dX3_countLeft_7 rfl (lv_at hl 0 rfl) ?_
    refine va_get (D := D) (ci := 3) (v := .ref (a 2)) (C := RX3) (T := TX3) (N := 4) hx hb hts inX3 hown hK hP 0 rfl rfl 1 (by decide) fl15 (fun _ h9 => h9) rfl dX3_countLeft_8 ?_
    refine lv_iload_n hx hb dX3_countLeft_11 rfl (lv_at hl 1 rfl) ?_
    refine lv_dup2_11 hx hb dX3_countLeft_12 rfl rfl ?_
    refine xi_ald hx hb hK hP 2 0 rfl rfl (k := x) (by omega) (by decide) dX3_countLeft_13 ?_
    refine lv_iconst (v := 1) hx hb dX3_countLeft_14 (by decide) ?_
    refine lv_iadd hx hb dX3_countLeft_15 ?_
    refine xi_ast hx hb hK hP hD hS 2 0 rfl rfl (k := x) (x := ((lf x) + 1)) (by omega) (by decide) dX3_countLeft_16 (fun H locs hP hD hS => ?_)
    have hP : va_P D vwCl [(a 0, .inr (3, [.ref (a 1), .ref (a 2), .ref (a 3), .int r])), (a 1, .inl (cI, 8, .inl g)), (a 2, .inl (cI, 8, .inl (upd lf x ((lf x) + 1)))), (a 3, .inl (cI, 8, .inl h))] H := hP
    have hD : va_D A [(a 0, .inr (3, [.ref (a 1), .ref (a 2), .ref (a 3), .int r])), (a 1, .inl (cI, 8, .inl g)), (a 2, .inl (cI, 8, .inl (upd lf x ((lf x) + 1)))), (a 3, .inl (cI, 8, .inl h))] := hD
    exact Rv (D := D) () hx hb hr hlocks hP hD hS trivial dX3_countLeft_17
  · have hs1 : ¬ x < 8 := fun h => hs1 ((inN_nI (by omega) (by omega)).mpr h)
    refine lv_if_eq (tgt := 17) hx hb dX3_countLeft_4 (by decide) (fun _ => ?_) (fun c9 => absurd (by decide) c9)
    exact absurd hx8 hs1

set_option maxHeartbeats 4000000 in
set_option maxRecDepth 100000 in
theorem c_X3_missingOrLoose (l : Launch) (D : va_G) (cI : ClassId) (a : Nat → Nat) (g lf h : Nat → Int32) (r : Int32) (th : Nat → Bool) (go : Nat → Nat) (hg : gok g th go) (hd : Nat → Nat) (hh : hok h hd) (x : Nat) (hx16 : x < 16) : Ci l D [(cI, .int)] yX3_missingOrLoose wsX3_missingOrLoose ({ frames := 2, cells := 0, slots := 0, locals := 41 }) [.ref (a 0), .int (nI x)] (wSt a cI g lf h r) (S := Unit) (fun v _ => v = nI (mol th hd x)) (fun _ => wSt a cI g lf h r) := by
  refine Ci.mk (cc := cX3_missingOrLoose) (maxL := 3) (ret := (some .int)) (by decide +kernel) rfl (Nat.le_of_ble_eq_true rfl) ?_
  intro pg e s m below meth c A ls hx hb hml hr hown hts hlocks hK hns hA hP hD hS hl
  have hl : lv_has ls 3 [(0, .ref (a 0)), (1, .int (nI x))] := hl
  have fl18 := hts (.fieldLink RX3 18 "HeldShelves$Stock" "held" "[I") (List.mem_of_getElem? (i := 1) rfl)
  have inX3 : ∀ w ∈ wsX30, w ∈ wsX3_missingOrLoose := fun _ h => List.mem_cons_of_mem _ (List.mem_append_right _ h)
  have hP : va_P D vwCl [(a 0, .inr (3, [.ref (a 1), .ref (a 2), .ref (a 3), .int r])), (a 1, .inl (cI, 8, .inl g)), (a 2, .inl (cI, 8, .inl lf)), (a 3, .inl (cI, 8, .inl h))] s.heap := hP
  have hD : va_D A [(a 0, .inr (3, [.ref (a 1), .ref (a 2), .ref (a 3), .int r])), (a 1, .inl (cI, 8, .inl g)), (a 2, .inl (cI, 8, .inl lf)), (a 3, .inl (cI, 8, .inl h))] := hD
  have hm := mis_le (th := th) (s := x)
  refine lv_aload_n hx hb dX3_missingOrLoose_0 rfl (lv_at hl 0 rfl) ?_
  refine lv_iload_n hx hb dX3_missingOrLoose_1 rfl (lv_at hl 1 rfl) ?_
  refine cl_Vi ([]) ([]) (As := [.int (nI x)]) (rest := []) (c_X3_missing l D cI a g lf h r th go hg x hx16) ⟨hx, hb, hml, hown, hts⟩ (cwV 1 hts gX3_missingOrLoose_X3_missing rfl rfl rfl (by decide +kernel) ⟨Nat.le_of_ble_eq_true rfl, Nat.le_of_ble_eq_true rfl⟩) hK hns hP hD hS hA rfl (T := TX3) (N := 4) rfl rfl hl.1 rfl (Nat.le_of_ble_eq_true rfl) dX3_missingOrLoose_2 ⟨Nat.zero_le _, Nat.zero_le _⟩ (fun r2 u2 H locs hw2 hP hD hS => ?_)
  have hP : va_P D vwCl [(a 0, .inr (3, [.ref (a 1), .ref (a 2), .ref (a 3), .int r])), (a 1, .inl (cI, 8, .inl g)), (a 2, .inl (cI, 8, .inl lf)), (a 3, .inl (cI, 8, .inl h))] H := hP
  have hD : va_D A [(a 0, .inr (3, [.ref (a 1), .ref (a 2), .ref (a 3), .int r])), (a 1, .inl (cI, 8, .inl g)), (a 2, .inl (cI, 8, .inl lf)), (a 3, .inl (cI, 8, .inl h))] := hD
  subst hw2
  refine lv_istore_n (lv' := [(2, .int (nI (mis th x))), (0, .ref (a 0)), (1, .int (nI x))]) hx hb dX3_missingOrLoose_5 rfl hl (by decide) rfl (fun ls hl => ?_)
  refine lv_iload_n hx hb dX3_missingOrLoose_6 rfl (lv_at hl 0 rfl) ?_
  refine lv_if_eq (tgt := 12) hx hb dX3_missingOrLoose_7 (by decide) (fun c_7 => ?_) (fun c_7 => ?_)
  · have c_7 : (mis th x) = 0 := (nI_eq (a := (mis th x)) (b := 0) (by omega) (by omega)).mp c_7
    have h8 := mis_0 c_7
    refine lv_aload_n hx hb dX3_missingOrLoose_12 rfl (lv_at hl 1 rfl) ?_
    refine va_get (D := D) (ci := 3) (v := .ref (a 3)) (C := RX3) (T := TX3) (N := 4) hx hb hts inX3 hown hK hP 0 rfl rfl 2 (by decide) fl18 (fun _ h9 => h9) rfl dX3_missingOrLoose_13 ?_
    refine lv_iload_n hx hb dX3_missingOrLoose_16 rfl (lv_at hl 2 rfl) ?_
    refine xi_ald hx hb hK hP 3 0 rfl rfl (k := x) (by omega) (by decide) dX3_missingOrLoose_17 ?_
    have h1000 := (hh x h8.1).2
    refine tp (y := nI (hd x)) ((hh x h8.1).1) ?_
    refine lv_if_le (tgt := 25) hx hb dX3_missingOrLoose_18 (by decide) (fun c_18 => ?_) (fun c_18 => ?_)
    · have c_18 : (hd x) ≤ 0 := (nI_leI (a := (hd x)) (b := 0) (by omega) (by omega)).mp c_18
      refine lv_bipush (v := 7) hx hb dX3_missingOrLoose_25 (by decide) ?_
      exact Ri (D := D) () hx hb hr rfl hlocks hP hD hS (by rw [mol, if_pos c_7, if_pos (by omega)]; rfl) dX3_missingOrLoose_27
    · have c_18 : ¬ ((hd x) ≤ 0) := fun h => c_18 ((nI_leI (a := (hd x)) (b := 0) (by omega) (by omega)).mpr h)
      refine lv_iconst (v := 0) hx hb dX3_missingOrLoose_21 (by decide) ?_
      refine lv_goto (tgt := 27) hx hb dX3_missingOrLoose_22 (by decide) ?_
      exact Ri (D := D) () hx hb hr rfl hlocks hP hD hS (by rw [mol, if_pos c_7, if_neg (by omega)]; rfl) dX3_missingOrLoose_27
  · have c_7 : ¬ ((mis th x) = 0) := fun h => c_7 ((nI_eq (a := (mis th x)) (b := 0) (by omega) (by omega)).mpr h)
    refine lv_iload_n hx hb dX3_missingOrLoose_10 rfl (lv_at hl 0 rfl) ?_
    exact Ri (D := D) () hx hb hr rfl hlocks hP hD hS (by rw [mol, if_neg c_7]) dX3_missingOrLoose_11

set_option maxHeartbeats 4000000 in
set_option maxRecDepth 100000 in
theorem c_X3_put (l : Launch) (D : va_G) (cI : ClassId) (a : Nat → Nat) (g lf h : Nat → Int32) (r : Int32) (th : Nat → Bool) (go : Nat → Nat) (hg : gok g th go) (hd : Nat → Nat) (hh : hok h hd) (x : Nat) (hx16 : x < 16) (n : Nat) (hn16 : n < 16) : Ci l D [(cI, .int)] yX3_put wsX3_put ({ frames := 3, cells := 0, slots := 0, locals := 63 }) [.ref (a 0), .int (nI x), .int (nI n)] (wSt a cI g lf h r) (S := Nat → Int32) (fun v u => v = nI (A_put th go hd x n).1 ∧ gok u th (A_put th go hd x n).2) (fun u => wSt a cI u lf h r) := by
  refine Ci.mk (cc := cX3_put) (maxL := 4) (ret := (some .int)) (by decide +kernel) rfl (Nat.le_of_ble_eq_true rfl) ?_
  intro pg e s m below meth c A ls hx hb hml hr hown hts hlocks hK hns hA hP hD hS hl
  have hl : lv_has ls 4 [(0, .ref (a 0)), (1, .int (nI x)), (2, .int (nI n))] := hl
  have fl9 := hts (.fieldLink RX3 9 "HeldShelves$Stock" "goods" "[I") (List.mem_of_getElem? (i := 1) rfl)
  have inX3 : ∀ w ∈ wsX30, w ∈ wsX3_put := fun _ h => List.mem_cons_of_mem _ (List.mem_append_right _ h)
  have hP : va_P D vwCl [(a 0, .inr (3, [.ref (a 1), .ref (a 2), .ref (a 3), .int r])), (a 1, .inl (cI, 8, .inl g)), (a 2, .inl (cI, 8, .inl lf)), (a 3, .inl (cI, 8, .inl h))] s.heap := hP
  have hD : va_D A [(a 0, .inr (3, [.ref (a 1), .ref (a 2), .ref (a 3), .int r])), (a 1, .inl (cI, 8, .inl g)), (a 2, .inl (cI, 8, .inl lf)), (a 3, .inl (cI, 8, .inl h))] := hD
  have hm := mol_le (th := th) (hd := hd) (s := x)
  refine lv_aload_n hx hb dX3_put_0 rfl (lv_at hl 0 rfl) ?_
  refine lv_iload_n hx hb dX3_put_1 rfl (lv_at hl 1 rfl) ?_
  refine cl_Vi ([]) ([]) (As := [.int (nI x)]) (rest := []) (c_X3_missingOrLoose l D cI a g lf h r th go hg hd hh x hx16) ⟨hx, hb, hml, hown, hts⟩ (cwV 1 hts gX3_put_X3_missingOrLoose rfl rfl rfl (by decide +kernel) ⟨Nat.le_of_ble_eq_true rfl, Nat.le_of_ble_eq_true rfl⟩) hK hns hP hD hS hA rfl (T := TX3) (N := 4) rfl rfl hl.1 rfl (Nat.le_of_ble_eq_true rfl) dX3_put_2 ⟨Nat.zero_le _, Nat.zero_le _⟩ (fun r2 u2 H locs hw2 hP hD hS => ?_)
  have hP : va_P D vwCl [(a 0, .inr (3, [.ref (a 1), .ref (a 2), .ref (a 3), .int r])), (a 1, .inl (cI, 8, .inl g)), (a 2, .inl (cI, 8, .inl lf)), (a 3, .inl (cI, 8, .inl h))] H := hP
  have hD : va_D A [(a 0, .inr (3, [.ref (a 1), .ref (a 2), .ref (a 3), .int r])), (a 1, .inl (cI, 8, .inl g)), (a 2, .inl (cI, 8, .inl lf)), (a 3, .inl (cI, 8, .inl h))] := hD
  subst hw2
  refine lv_istore_n (lv' := [(3, .int (nI (mol th hd x))), (0, .ref (a 0)), (1, .int (nI x)), (2, .int (nI n))]) hx hb dX3_put_5 rfl hl (by decide) rfl (fun ls hl => ?_)
  refine lv_iload_n hx hb dX3_put_6 rfl (lv_at hl 0 rfl) ?_
  refine lv_if_eq (tgt := 12) hx hb dX3_put_7 (by decide) (fun c_7 => ?_) (fun c_7 => ?_)
  · have c_7 : (mol th hd x) = 0 := (nI_eq (a := (mol th hd x)) (b := 0) (by omega) (by omega)).mp c_7
    have h8 := mol_0 c_7
    have hgv := gok_v hg h8.1 h8.2.1
    have h1000 := (hg x h8.1).2
    refine lv_aload_n hx hb dX3_put_12 rfl (lv_at hl 1 rfl) ?_
    refine va_get (D := D) (ci := 3) (v := .ref (a 1)) (C := RX3) (T := TX3) (N := 4) hx hb hts inX3 hown hK hP 0 rfl rfl 0 (by decide) fl9 (fun _ h9 => h9) rfl dX3_put_13 ?_
    refine lv_iload_n hx hb dX3_put_16 rfl (lv_at hl 2 rfl) ?_
    refine xi_ald hx hb hK hP 1 0 rfl rfl (k := x) (by omega) (by decide) dX3_put_17 ?_
    refine tp (y := nI (go x)) (hgv) ?_
    refine lv_iload_n hx hb dX3_put_18 rfl (lv_at hl 3 rfl) ?_
    refine lv_iadd hx hb dX3_put_19 ?_
    refine tp (y := nI (go x + n)) (nI_add _ _) ?_
    refine lv_sipush (v := 1000) hx hb dX3_put_20 (by decide) ?_
    refine lv_icmp_le (tgt := 28) hx hb dX3_put_23 (by decide) (fun c_23 => ?_) (fun c_23 => ?_)
    · have c_23 : (go x + n) ≤ 1000 := (nI_leI (a := (go x + n)) (b := 1000) (by omega) (by omega)).mp c_23
      refine lv_aload_n hx hb dX3_put_28 rfl (lv_at hl 1 rfl) ?_
      refine va_get (D := D) (ci := 3) (v := .ref (a 1)) (C := RX3) (T := TX3) (N := 4) hx hb hts inX3 hown hK hP 0 rfl rfl 0 (by decide) fl9 (fun _ h9 => h9) rfl dX3_put_29 ?_
      refine lv_iload_n hx hb dX3_put_32 rfl (lv_at hl 2 rfl) ?_
      refine lv_dup2_11 hx hb dX3_put_33 rfl rfl ?_
      refine xi_ald hx hb hK hP 1 0 rfl rfl (k := x) (by omega) (by decide) dX3_put_34 ?_
      refine tp (y := nI (go x)) (hgv) ?_
      refine lv_iload_n hx hb dX3_put_35 rfl (lv_at hl 3 rfl) ?_
      refine lv_iadd hx hb dX3_put_36 ?_
      refine tp (y := nI (go x + n)) (nI_add _ _) ?_
      refine xi_ast hx hb hK hP hD hS 1 0 rfl rfl (k := x) (x := (nI (go x + n))) (by omega) (by decide) dX3_put_37 (fun H locs hP hD hS => ?_)
      have hP : va_P D vwCl [(a 0, .inr (3, [.ref (a 1), .ref (a 2), .ref (a 3), .int r])), (a 1, .inl (cI, 8, .inl (upd g x (nI (go x + n))))), (a 2, .inl (cI, 8, .inl lf)), (a 3, .inl (cI, 8, .inl h))] H := hP
      have hD : va_D A [(a 0, .inr (3, [.ref (a 1), .ref (a 2), .ref (a 3), .int r])), (a 1, .inl (cI, 8, .inl (upd g x (nI (go x + n))))), (a 2, .inl (cI, 8, .inl lf)), (a 3, .inl (cI, 8, .inl h))] := hD
      refine lv_iconst (v := 0) hx hb dX3_put_38 (by decide) ?_
      exact Ri (D := D) (upd g x (nI (go x + n))) hx hb hr rfl hlocks hP hD hS (by rw [A_put, if_pos c_7, if_neg (by omega)]; exact ⟨rfl, gok_up hg h8.2.1 (by omega)⟩) dX3_put_39
    · have c_23 : ¬ ((go x + n) ≤ 1000) := fun h => c_23 ((nI_leI (a := (go x + n)) (b := 1000) (by omega) (by omega)).mpr h)
      refine lv_iconst (v := 5) hx hb dX3_put_26 (by decide) ?_
      exact Ri (D := D) g hx hb hr rfl hlocks hP hD hS (by rw [A_put, if_pos c_7, if_pos (by omega)]; exact ⟨rfl, hg⟩) dX3_put_27
  · have c_7 : ¬ ((mol th hd x) = 0) := fun h => c_7 ((nI_eq (a := (mol th hd x)) (b := 0) (by omega) (by omega)).mpr h)
    refine lv_iload_n hx hb dX3_put_10 rfl (lv_at hl 0 rfl) ?_
    exact Ri (D := D) g hx hb hr rfl hlocks hP hD hS (by rw [A_put, if_neg c_7]; exact ⟨rfl, hg⟩) dX3_put_11

set_option maxHeartbeats 4000000 in
set_option maxRecDepth 100000 in
theorem c_X3_take (l : Launch) (D : va_G) (cI : ClassId) (a : Nat → Nat) (g lf h : Nat → Int32) (r : Int32) (th : Nat → Bool) (go : Nat → Nat) (hg : gok g th go) (hd : Nat → Nat) (hh : hok h hd) (x : Nat) (hx16 : x < 16) (n : Nat) (hn16 : n < 16) : Ci l D [(cI, .int)] yX3_take wsX3_take ({ frames := 3, cells := 0, slots := 0, locals := 63 }) [.ref (a 0), .int (nI x), .int (nI n)] (wSt a cI g lf h r) (S := Nat → Int32) (fun v u => v = nI (A_take th go hd x n).1 ∧ gok u th (A_take th go hd x n).2) (fun u => wSt a cI u lf h r) := by
  refine Ci.mk (cc := cX3_take) (maxL := 4) (ret := (some .int)) (by decide +kernel) rfl (Nat.le_of_ble_eq_true rfl) ?_
  intro pg e s m below meth c A ls hx hb hml hr hown hts hlocks hK hns hA hP hD hS hl
  have hl : lv_has ls 4 [(0, .ref (a 0)), (1, .int (nI x)), (2, .int (nI n))] := hl
  have fl9 := hts (.fieldLink RX3 9 "HeldShelves$Stock" "goods" "[I") (List.mem_of_getElem? (i := 1) rfl)
  have inX3 : ∀ w ∈ wsX30, w ∈ wsX3_take := fun _ h => List.mem_cons_of_mem _ (List.mem_append_right _ h)
  have hP : va_P D vwCl [(a 0, .inr (3, [.ref (a 1), .ref (a 2), .ref (a 3), .int r])), (a 1, .inl (cI, 8, .inl g)), (a 2, .inl (cI, 8, .inl lf)), (a 3, .inl (cI, 8, .inl h))] s.heap := hP
  have hD : va_D A [(a 0, .inr (3, [.ref (a 1), .ref (a 2), .ref (a 3), .int r])), (a 1, .inl (cI, 8, .inl g)), (a 2, .inl (cI, 8, .inl lf)), (a 3, .inl (cI, 8, .inl h))] := hD
  have hm := mol_le (th := th) (hd := hd) (s := x)
  refine lv_aload_n hx hb dX3_take_0 rfl (lv_at hl 0 rfl) ?_
  refine lv_iload_n hx hb dX3_take_1 rfl (lv_at hl 1 rfl) ?_
  refine cl_Vi ([]) ([]) (As := [.int (nI x)]) (rest := []) (c_X3_missingOrLoose l D cI a g lf h r th go hg hd hh x hx16) ⟨hx, hb, hml, hown, hts⟩ (cwV 1 hts gX3_take_X3_missingOrLoose rfl rfl rfl (by decide +kernel) ⟨Nat.le_of_ble_eq_true rfl, Nat.le_of_ble_eq_true rfl⟩) hK hns hP hD hS hA rfl (T := TX3) (N := 4) rfl rfl hl.1 rfl (Nat.le_of_ble_eq_true rfl) dX3_take_2 ⟨Nat.zero_le _, Nat.zero_le _⟩ (fun r2 u2 H locs hw2 hP hD hS => ?_)
  have hP : va_P D vwCl [(a 0, .inr (3, [.ref (a 1), .ref (a 2), .ref (a 3), .int r])), (a 1, .inl (cI, 8, .inl g)), (a 2, .inl (cI, 8, .inl lf)), (a 3, .inl (cI, 8, .inl h))] H := hP
  have hD : va_D A [(a 0, .inr (3, [.ref (a 1), .ref (a 2), .ref (a 3), .int r])), (a 1, .inl (cI, 8, .inl g)), (a 2, .inl (cI, 8, .inl lf)), (a 3, .inl (cI, 8, .inl h))] := hD
  subst hw2
  refine lv_istore_n (lv' := [(3, .int (nI (mol th hd x))), (0, .ref (a 0)), (1, .int (nI x)), (2, .int (nI n))]) hx hb dX3_take_5 rfl hl (by decide) rfl (fun ls hl => ?_)
  refine lv_iload_n hx hb dX3_take_6 rfl (lv_at hl 0 rfl) ?_
  refine lv_if_eq (tgt := 12) hx hb dX3_take_7 (by decide) (fun c_7 => ?_) (fun c_7 => ?_)
  · have c_7 : (mol th hd x) = 0 := (nI_eq (a := (mol th hd x)) (b := 0) (by omega) (by omega)).mp c_7
    have h8 := mol_0 c_7
    have hgv := gok_v hg h8.1 h8.2.1
    have h1000 := (hg x h8.1).2
    refine lv_iload_n hx hb dX3_take_12 rfl (lv_at hl 3 rfl) ?_
    refine lv_aload_n hx hb dX3_take_13 rfl (lv_at hl 1 rfl) ?_
    refine va_get (D := D) (ci := 3) (v := .ref (a 1)) (C := RX3) (T := TX3) (N := 4) hx hb hts inX3 hown hK hP 0 rfl rfl 0 (by decide) fl9 (fun _ h9 => h9) rfl dX3_take_14 ?_
    refine lv_iload_n hx hb dX3_take_17 rfl (lv_at hl 2 rfl) ?_
    refine xi_ald hx hb hK hP 1 0 rfl rfl (k := x) (by omega) (by decide) dX3_take_18 ?_
    refine tp (y := nI (go x)) (hgv) ?_
    refine lv_icmp_le (tgt := 24) hx hb dX3_take_19 (by decide) (fun c_19 => ?_) (fun c_19 => ?_)
    · have c_19 : n ≤ (go x) := (nI_leI (a := n) (b := (go x)) (by omega) (by omega)).mp c_19
      refine lv_aload_n hx hb dX3_take_24 rfl (lv_at hl 1 rfl) ?_
      refine va_get (D := D) (ci := 3) (v := .ref (a 1)) (C := RX3) (T := TX3) (N := 4) hx hb hts inX3 hown hK hP 0 rfl rfl 0 (by decide) fl9 (fun _ h9 => h9) rfl dX3_take_25 ?_
      refine lv_iload_n hx hb dX3_take_28 rfl (lv_at hl 2 rfl) ?_
      refine lv_dup2_11 hx hb dX3_take_29 rfl rfl ?_
      refine xi_ald hx hb hK hP 1 0 rfl rfl (k := x) (by omega) (by decide) dX3_take_30 ?_
      refine tp (y := nI (go x)) (hgv) ?_
      refine lv_iload_n hx hb dX3_take_31 rfl (lv_at hl 3 rfl) ?_
      refine lv_isub hx hb dX3_take_32 ?_
      refine tp (y := nI (go x - n)) (pk_sub (by omega)) ?_
      refine xi_ast hx hb hK hP hD hS 1 0 rfl rfl (k := x) (x := (nI (go x - n))) (by omega) (by decide) dX3_take_33 (fun H locs hP hD hS => ?_)
      have hP : va_P D vwCl [(a 0, .inr (3, [.ref (a 1), .ref (a 2), .ref (a 3), .int r])), (a 1, .inl (cI, 8, .inl (upd g x (nI (go x - n))))), (a 2, .inl (cI, 8, .inl lf)), (a 3, .inl (cI, 8, .inl h))] H := hP
      have hD : va_D A [(a 0, .inr (3, [.ref (a 1), .ref (a 2), .ref (a 3), .int r])), (a 1, .inl (cI, 8, .inl (upd g x (nI (go x - n))))), (a 2, .inl (cI, 8, .inl lf)), (a 3, .inl (cI, 8, .inl h))] := hD
      refine lv_iconst (v := 0) hx hb dX3_take_34 (by decide) ?_
      exact Ri (D := D) (upd g x (nI (go x - n))) hx hb hr rfl hlocks hP hD hS (by rw [A_take, if_pos c_7, if_neg (by omega)]; exact ⟨rfl, gok_up hg h8.2.1 (by omega)⟩) dX3_take_35
    · have c_19 : ¬ (n ≤ (go x)) := fun h => c_19 ((nI_leI (a := n) (b := (go x)) (by omega) (by omega)).mpr h)
      refine lv_iconst (v := 4) hx hb dX3_take_22 (by decide) ?_
      exact Ri (D := D) g hx hb hr rfl hlocks hP hD hS (by rw [A_take, if_pos c_7, if_pos (by omega)]; exact ⟨rfl, hg⟩) dX3_take_23
  · have c_7 : ¬ ((mol th hd x) = 0) := fun h => c_7 ((nI_eq (a := (mol th hd x)) (b := 0) (by omega) (by omega)).mpr h)
    refine lv_iload_n hx hb dX3_take_10 rfl (lv_at hl 0 rfl) ?_
    exact Ri (D := D) g hx hb hr rfl hlocks hP hD hS (by rw [A_take, if_neg c_7]; exact ⟨rfl, hg⟩) dX3_take_11

set_option maxHeartbeats 4000000 in
set_option maxRecDepth 100000 in
theorem c_X3_share (l : Launch) (D : va_G) (cI : ClassId) (a : Nat → Nat) (g lf h : Nat → Int32) (r : Int32) (th : Nat → Bool) (go : Nat → Nat) (hg : gok g th go) (hd : Nat → Nat) (hh : hok h hd) (x : Nat) (hx16 : x < 16) (n : Nat) (hn16 : n < 16) : Ci l D [(cI, .int)] yX3_share wsX3_share ({ frames := 3, cells := 0, slots := 0, locals := 63 }) [.ref (a 0), .int (nI x), .int (nI n)] (wSt a cI g lf h r) (S := (Nat → Int32) × Int32) (fun v u => v = nI (A_share th go hd r x n).1 ∧ gok u.1 th (A_share th go hd r x n).2.1 ∧ u.2 = (A_share th go hd r x n).2.2) (fun u => wSt a cI u.1 lf h u.2) := by
  refine Ci.mk (cc := cX3_share) (maxL := 5) (ret := (some .int)) (by decide +kernel) rfl (Nat.le_of_ble_eq_true rfl) ?_
  intro pg e s m below meth c A ls hx hb hml hr hown hts hlocks hK hns hA hP hD hS hl
  have hl : lv_has ls 5 [(0, .ref (a 0)), (1, .int (nI x)), (2, .int (nI n))] := hl
  have fl9 := hts (.fieldLink RX3 9 "HeldShelves$Stock" "goods" "[I") (List.mem_of_getElem? (i := 1) rfl)
  have inX3 : ∀ w ∈ wsX30, w ∈ wsX3_share := fun _ h => List.mem_cons_of_mem _ (List.mem_append_right _ h)
  have fl28 := hts (.fieldLink RX3 28 "HeldShelves$Stock" "rest" "I") (List.mem_of_getElem? (i := 2) rfl)
  have hP : va_P D vwCl [(a 0, .inr (3, [.ref (a 1), .ref (a 2), .ref (a 3), .int r])), (a 1, .inl (cI, 8, .inl g)), (a 2, .inl (cI, 8, .inl lf)), (a 3, .inl (cI, 8, .inl h))] s.heap := hP
  have hD : va_D A [(a 0, .inr (3, [.ref (a 1), .ref (a 2), .ref (a 3), .int r])), (a 1, .inl (cI, 8, .inl g)), (a 2, .inl (cI, 8, .inl lf)), (a 3, .inl (cI, 8, .inl h))] := hD
  have hm := mol_le (th := th) (hd := hd) (s := x)
  refine lv_aload_n hx hb dX3_share_0 rfl (lv_at hl 0 rfl) ?_
  refine lv_iload_n hx hb dX3_share_1 rfl (lv_at hl 1 rfl) ?_
  refine cl_Vi ([]) ([]) (As := [.int (nI x)]) (rest := []) (c_X3_missingOrLoose l D cI a g lf h r th go hg hd hh x hx16) ⟨hx, hb, hml, hown, hts⟩ (cwV 1 hts gX3_share_X3_missingOrLoose rfl rfl rfl (by decide +kernel) ⟨Nat.le_of_ble_eq_true rfl, Nat.le_of_ble_eq_true rfl⟩) hK hns hP hD hS hA rfl (T := TX3) (N := 4) rfl rfl hl.1 rfl (Nat.le_of_ble_eq_true rfl) dX3_share_2 ⟨Nat.zero_le _, Nat.zero_le _⟩ (fun r2 u2 H locs hw2 hP hD hS => ?_)
  have hP : va_P D vwCl [(a 0, .inr (3, [.ref (a 1), .ref (a 2), .ref (a 3), .int r])), (a 1, .inl (cI, 8, .inl g)), (a 2, .inl (cI, 8, .inl lf)), (a 3, .inl (cI, 8, .inl h))] H := hP
  have hD : va_D A [(a 0, .inr (3, [.ref (a 1), .ref (a 2), .ref (a 3), .int r])), (a 1, .inl (cI, 8, .inl g)), (a 2, .inl (cI, 8, .inl lf)), (a 3, .inl (cI, 8, .inl h))] := hD
  subst hw2
  refine lv_istore_n (lv' := [(3, .int (nI (mol th hd x))), (0, .ref (a 0)), (1, .int (nI x)), (2, .int (nI n))]) hx hb dX3_share_5 rfl hl (by decide) rfl (fun ls hl => ?_)
  refine lv_iload_n hx hb dX3_share_6 rfl (lv_at hl 0 rfl) ?_
  refine lv_if_eq (tgt := 12) hx hb dX3_share_7 (by decide) (fun c_7 => ?_) (fun c_7 => ?_)
  · have c_7 : (mol th hd x) = 0 := (nI_eq (a := (mol th hd x)) (b := 0) (by omega) (by omega)).mp c_7
    have h8 := mol_0 c_7
    have hgv := gok_v hg h8.1 h8.2.1
    have h1000 := (hg x h8.1).2
    refine lv_iload_n hx hb dX3_share_12 rfl (lv_at hl 3 rfl) ?_
    refine lv_if_ne (tgt := 18) hx hb dX3_share_13 (by decide) (fun c_13 => ?_) (fun c_13 => ?_)
    · have c_13 : ¬ (n = 0) := fun h => c_13 ((nI_eq (a := n) (b := 0) (by omega) (by omega)).mpr h)
      refine lv_aload_n hx hb dX3_share_18 rfl (lv_at hl 1 rfl) ?_
      refine va_get (D := D) (ci := 3) (v := .ref (a 1)) (C := RX3) (T := TX3) (N := 4) hx hb hts inX3 hown hK hP 0 rfl rfl 0 (by decide) fl9 (fun _ h9 => h9) rfl dX3_share_19 ?_
      refine lv_iload_n hx hb dX3_share_22 rfl (lv_at hl 2 rfl) ?_
      refine xi_ald hx hb hK hP 1 0 rfl rfl (k := x) (by omega) (by decide) dX3_share_23 ?_
      refine tp (y := nI (go x)) (hgv) ?_
      refine lv_iload_n hx hb dX3_share_24 rfl (lv_at hl 3 rfl) ?_
      refine lv_idiv hx hb dX3_share_25 (fun q => c_13 ((nI_eq (a := n) (b := 0) (by omega) (by omega)).mp q)) ?_
      have hdl : go x / n ≤ go x := Nat.div_le_self _ _
      refine tp (y := nI (go x / n)) (pk_div (by omega) (by omega) (by omega)) ?_
      refine lv_istore (lv' := [(4, .int (nI (go x / n))), (3, .int (nI (mol th hd x))), (0, .ref (a 0)), (1, .int (nI x)), (2, .int (nI n))]) hx hb dX3_share_26 hl (by decide) rfl (fun ls hl => ?_)
      refine lv_aload_n hx hb dX3_share_28 rfl (lv_at hl 2 rfl) ?_
      refine lv_dup hx hb dX3_share_29 rfl ?_
      refine va_get (D := D) (ci := 3) (v := .int r) (C := RX3) (T := TX3) (N := 4) hx hb hts inX3 hown hK hP 0 rfl rfl 3 (by decide) fl28 (fun _ h9 => h9) rfl dX3_share_30 ?_
      refine lv_aload_n hx hb dX3_share_33 rfl (lv_at hl 2 rfl) ?_
      refine va_get (D := D) (ci := 3) (v := .ref (a 1)) (C := RX3) (T := TX3) (N := 4) hx hb hts inX3 hown hK hP 0 rfl rfl 0 (by decide) fl9 (fun _ h9 => h9) rfl dX3_share_34 ?_
      refine lv_iload_n hx hb dX3_share_37 rfl (lv_at hl 3 rfl) ?_
      refine xi_ald hx hb hK hP 1 0 rfl rfl (k := x) (by omega) (by decide) dX3_share_38 ?_
      refine tp (y := nI (go x)) (hgv) ?_
      refine lv_iload hx hb dX3_share_39 (lv_at hl 0 rfl) ?_
      refine lv_isub hx hb dX3_share_41 ?_
      refine tp (y := nI (go x - go x / n)) (pk_sub (by omega)) ?_
      refine lv_iadd hx hb dX3_share_42 ?_
      refine va_put (D := D) (ci := 3) (v := .int (r + (nI (go x - go x / n)))) (ty := .int) (C := RX3) (T := TX3) (N := 4) hx hb hts inX3 tyX3 tyX3_ok nmX3 hown hK hP hD hS 0 rfl rfl 3 (by decide) fl28 (fun _ h9 => h9) rfl (by decide +kernel) rfl rfl (Nat.le_of_ble_eq_true rfl) dX3_share_43 (fun H locs hP hD hS => ?_)
      have hP : va_P D vwCl [(a 0, .inr (3, [.ref (a 1), .ref (a 2), .ref (a 3), .int (r + (nI (go x - go x / n)))])), (a 1, .inl (cI, 8, .inl g)), (a 2, .inl (cI, 8, .inl lf)), (a 3, .inl (cI, 8, .inl h))] H := hP
      have hD : va_D A [(a 0, .inr (3, [.ref (a 1), .ref (a 2), .ref (a 3), .int (r + (nI (go x - go x / n)))])), (a 1, .inl (cI, 8, .inl g)), (a 2, .inl (cI, 8, .inl lf)), (a 3, .inl (cI, 8, .inl h))] := hD
      refine lv_aload_n hx hb dX3_share_46 rfl (lv_at hl 2 rfl) ?_
      refine va_get (D := D) (ci := 3) (v := .ref (a 1)) (C := RX3) (T := TX3) (N := 4) hx hb hts inX3 hown hK hP 0 rfl rfl 0 (by decide) fl9 (fun _ h9 => h9) rfl dX3_share_47 ?_
      refine lv_iload_n hx hb dX3_share_50 rfl (lv_at hl 3 rfl) ?_
      refine lv_iload hx hb dX3_share_51 (lv_at hl 0 rfl) ?_
      refine xi_ast hx hb hK hP hD hS 1 0 rfl rfl (k := x) (x := (nI (go x / n))) (by omega) (by decide) dX3_share_53 (fun H locs hP hD hS => ?_)
      have hP : va_P D vwCl [(a 0, .inr (3, [.ref (a 1), .ref (a 2), .ref (a 3), .int (r + (nI (go x - go x / n)))])), (a 1, .inl (cI, 8, .inl (upd g x (nI (go x / n))))), (a 2, .inl (cI, 8, .inl lf)), (a 3, .inl (cI, 8, .inl h))] H := hP
      have hD : va_D A [(a 0, .inr (3, [.ref (a 1), .ref (a 2), .ref (a 3), .int (r + (nI (go x - go x / n)))])), (a 1, .inl (cI, 8, .inl (upd g x (nI (go x / n))))), (a 2, .inl (cI, 8, .inl lf)), (a 3, .inl (cI, 8, .inl h))] := hD
      refine lv_iconst (v := 0) hx hb dX3_share_54 (by decide) ?_
      exact Ri (D := D) (upd g x (nI (go x / n)), r + nI (go x - go x / n)) hx hb hr rfl hlocks hP hD hS (by rw [A_share, if_pos c_7, if_neg c_13]; exact ⟨rfl, gok_up hg h8.2.1 (by omega), rfl⟩) dX3_share_55
    · have c_13 : n = 0 := (nI_eq (a := n) (b := 0) (by omega) (by omega)).mp c_13
      refine lv_iconst (v := 3) hx hb dX3_share_16 (by decide) ?_
      exact Ri (D := D) (g, r) hx hb hr rfl hlocks hP hD hS (by rw [A_share, if_pos c_7, if_pos c_13]; exact ⟨rfl, hg, rfl⟩) dX3_share_17
  · have c_7 : ¬ ((mol th hd x) = 0) := fun h => c_7 ((nI_eq (a := (mol th hd x)) (b := 0) (by omega) (by omega)).mpr h)
    refine lv_iload_n hx hb dX3_share_10 rfl (lv_at hl 0 rfl) ?_
    exact Ri (D := D) (g, r) hx hb hr rfl hlocks hP hD hS (by rw [A_share, if_neg c_7]; exact ⟨rfl, hg, rfl⟩) dX3_share_11

set_option maxHeartbeats 4000000 in
set_option maxRecDepth 100000 in
theorem c_X3_move (l : Launch) (D : va_G) (cI : ClassId) (a : Nat → Nat) (g lf h : Nat → Int32) (r : Int32) (th : Nat → Bool) (go : Nat → Nat) (hg : gok g th go) (x y n : Nat) (hx16 : x < 16) (hy16 : y < 16) (hn16 : n < 16) : Ci l D [(cI, .int)] yX3_move wsX3_move ({ frames := 2, cells := 0, slots := 0, locals := 41 }) [.ref (a 0), .int (nI x), .int (nI y), .int (nI n)] (wSt a cI g lf h r) (S := Nat → Int32) (fun v u => v = nI (A_move th go x y n).1 ∧ gok u th (A_move th go x y n).2) (fun u => wSt a cI u lf h r) := by
  refine Ci.mk (cc := cX3_move) (maxL := 4) (ret := (some .int)) (by decide +kernel) rfl (Nat.le_of_ble_eq_true rfl) ?_
  intro pg e s m below meth c A ls hx hb hml hr hown hts hlocks hK hns hA hP hD hS hl
  have hl : lv_has ls 4 [(0, .ref (a 0)), (1, .int (nI x)), (2, .int (nI y)), (3, .int (nI n))] := hl
  have fl9 := hts (.fieldLink RX3 9 "HeldShelves$Stock" "goods" "[I") (List.mem_of_getElem? (i := 1) rfl)
  have inX3 : ∀ w ∈ wsX30, w ∈ wsX3_move := fun _ h => List.mem_cons_of_mem _ (List.mem_append_right _ h)
  have hP : va_P D vwCl [(a 0, .inr (3, [.ref (a 1), .ref (a 2), .ref (a 3), .int r])), (a 1, .inl (cI, 8, .inl g)), (a 2, .inl (cI, 8, .inl lf)), (a 3, .inl (cI, 8, .inl h))] s.heap := hP
  have hD : va_D A [(a 0, .inr (3, [.ref (a 1), .ref (a 2), .ref (a 3), .int r])), (a 1, .inl (cI, 8, .inl g)), (a 2, .inl (cI, 8, .inl lf)), (a 3, .inl (cI, 8, .inl h))] := hD
  refine lv_iload_n hx hb dX3_move_0 rfl (lv_at hl 1 rfl) ?_
  refine cl_SNi (As := [.int (nI x)]) (rest := []) (c_X4_isShelf l D (nI x)) ⟨hx, hb, hml, hown, hts⟩ ⟨va_cnB 1 hts gX3_move_X4_isShelf_n21 rfl rfl rfl hns (hts (.initialized RX4) (by decide +kernel)) (by decide +kernel) ⟨Nat.le_of_ble_eq_true rfl, Nat.le_of_ble_eq_true rfl⟩, hts (.static yX4_isShelf) (by decide +kernel), trivial⟩ hK hns hP hD hS hA rfl hl.1 rfl (Nat.le_of_ble_eq_true rfl) dX3_move_1 ⟨Nat.zero_le _, Nat.zero_le _⟩ (fun r1 u1 H locs hw1 hP hD hS => ?_)
  rcases hw1 with ⟨rfl, hs1⟩ | ⟨rfl, hs1⟩
  · have hs1 : x < 8 := (inN_nI (by omega) (by omega)).mp hs1
    refine lv_if_eq (tgt := 14) hx hb dX3_move_4 (by decide) (fun c9 => absurd c9 (by decide)) (fun _ => ?_)
    refine lv_iload_n hx hb dX3_move_7 rfl (lv_at hl 2 rfl) ?_
    refine cl_SNi (As := [.int (nI y)]) (rest := []) (c_X4_isShelf l D (nI y)) ⟨hx, hb, hml, hown, hts⟩ ⟨va_cnB 1 hts gX3_move_X4_isShelf_n21 rfl rfl rfl hns (hts (.initialized RX4) (by decide +kernel)) (by decide +kernel) ⟨Nat.le_of_ble_eq_true rfl, Nat.le_of_ble_eq_true rfl⟩, hts (.static yX4_isShelf) (by decide +kernel), trivial⟩ hK hns hP hD hS hA rfl hl.1 rfl (Nat.le_of_ble_eq_true rfl) dX3_move_8 ⟨Nat.zero_le _, Nat.zero_le _⟩ (fun r8 u8 H locs hw8 hP hD hS => ?_)
    rcases hw8 with ⟨rfl, hs8⟩ | ⟨rfl, hs8⟩
    · have hs8 : y < 8 := (inN_nI (by omega) (by omega)).mp hs8
      refine lv_if_ne (tgt := 16) hx hb dX3_move_11 (by decide) (fun _ => ?_) (fun c9 => absurd c9 (by decide))
      refine lv_aload_n hx hb dX3_move_16 rfl (lv_at hl 0 rfl) ?_
      refine lv_iload_n hx hb dX3_move_17 rfl (lv_at hl 1 rfl) ?_
      refine cl_Vi ([]) ([]) (As := [.int (nI x)]) (rest := []) (c_X3_isThere l D cI a g lf h r th go hg x (by omega)) ⟨hx, hb, hml, hown, hts⟩ (cwV 1 hts gX3_move_X3_isThere rfl rfl rfl (by decide +kernel) ⟨Nat.le_of_ble_eq_true rfl, Nat.le_of_ble_eq_true rfl⟩) hK hns hP hD hS hA rfl (T := TX3) (N := 4) rfl rfl hl.1 rfl (Nat.le_of_ble_eq_true rfl) dX3_move_18 ⟨Nat.zero_le _, Nat.zero_le _⟩ (fun r18 u18 H locs hw18 hP hD hS => ?_)
      have hP : va_P D vwCl [(a 0, .inr (3, [.ref (a 1), .ref (a 2), .ref (a 3), .int r])), (a 1, .inl (cI, 8, .inl g)), (a 2, .inl (cI, 8, .inl lf)), (a 3, .inl (cI, 8, .inl h))] H := hP
      have hD : va_D A [(a 0, .inr (3, [.ref (a 1), .ref (a 2), .ref (a 3), .int r])), (a 1, .inl (cI, 8, .inl g)), (a 2, .inl (cI, 8, .inl lf)), (a 3, .inl (cI, 8, .inl h))] := hD
      rcases hw18 with ⟨rfl, ht18⟩ | ⟨rfl, ht18⟩
      · refine lv_if_eq (tgt := 32) hx hb dX3_move_21 (by decide) (fun c9 => absurd c9 (by decide)) (fun _ => ?_)
        refine lv_aload_n hx hb dX3_move_24 rfl (lv_at hl 0 rfl) ?_
        refine lv_iload_n hx hb dX3_move_25 rfl (lv_at hl 2 rfl) ?_
        refine cl_Vi ([]) ([]) (As := [.int (nI y)]) (rest := []) (c_X3_isThere l D cI a g lf h r th go hg y (by omega)) ⟨hx, hb, hml, hown, hts⟩ (cwV 1 hts gX3_move_X3_isThere rfl rfl rfl (by decide +kernel) ⟨Nat.le_of_ble_eq_true rfl, Nat.le_of_ble_eq_true rfl⟩) hK hns hP hD hS hA rfl (T := TX3) (N := 4) rfl rfl hl.1 rfl (Nat.le_of_ble_eq_true rfl) dX3_move_26 ⟨Nat.zero_le _, Nat.zero_le _⟩ (fun r26 u26 H locs hw26 hP hD hS => ?_)
        have hP : va_P D vwCl [(a 0, .inr (3, [.ref (a 1), .ref (a 2), .ref (a 3), .int r])), (a 1, .inl (cI, 8, .inl g)), (a 2, .inl (cI, 8, .inl lf)), (a 3, .inl (cI, 8, .inl h))] H := hP
        have hD : va_D A [(a 0, .inr (3, [.ref (a 1), .ref (a 2), .ref (a 3), .int r])), (a 1, .inl (cI, 8, .inl g)), (a 2, .inl (cI, 8, .inl lf)), (a 3, .inl (cI, 8, .inl h))] := hD
        rcases hw26 with ⟨rfl, ht26⟩ | ⟨rfl, ht26⟩
        · refine lv_if_ne (tgt := 34) hx hb dX3_move_29 (by decide) (fun _ => ?_) (fun c9 => absurd c9 (by decide))
          refine lv_iload_n hx hb dX3_move_34 rfl (lv_at hl 3 rfl) ?_
          refine lv_aload_n hx hb dX3_move_35 rfl (lv_at hl 0 rfl) ?_
          refine va_get (D := D) (ci := 3) (v := .ref (a 1)) (C := RX3) (T := TX3) (N := 4) hx hb hts inX3 hown hK hP 0 rfl rfl 0 (by decide) fl9 (fun _ h9 => h9) rfl dX3_move_36 ?_
          refine lv_iload_n hx hb dX3_move_39 rfl (lv_at hl 1 rfl) ?_
          refine xi_ald hx hb hK hP 1 0 rfl rfl (k := x) (by omega) (by decide) dX3_move_40 ?_
          have h1x := (hg x hs1).2
          have h1y := (hg y hs8).2
          refine tp (y := nI (go x)) (gok_v hg ht18.1 ht18.2) ?_
          refine lv_icmp_le (tgt := 46) hx hb dX3_move_41 (by decide) (fun c_41 => ?_) (fun c_41 => ?_)
          · have c_41 : n ≤ (go x) := (nI_leI (a := n) (b := (go x)) (by omega) (by omega)).mp c_41
            refine lv_iload_n hx hb dX3_move_46 rfl (lv_at hl 1 rfl) ?_
            refine lv_iload_n hx hb dX3_move_47 rfl (lv_at hl 2 rfl) ?_
            refine lv_icmp_eq (tgt := 67) hx hb dX3_move_48 (by decide) (fun c_48 => ?_) (fun c_48 => ?_)
            · have c_48 : x = y := (nI_eq (a := x) (b := y) (by omega) (by omega)).mp c_48
              refine lv_aload_n hx hb dX3_move_67 rfl (lv_at hl 0 rfl) ?_
              refine va_get (D := D) (ci := 3) (v := .ref (a 1)) (C := RX3) (T := TX3) (N := 4) hx hb hts inX3 hown hK hP 0 rfl rfl 0 (by decide) fl9 (fun _ h9 => h9) rfl dX3_move_68 ?_
              refine lv_iload_n hx hb dX3_move_71 rfl (lv_at hl 1 rfl) ?_
              refine lv_dup2_11 hx hb dX3_move_72 rfl rfl ?_
              refine xi_ald hx hb hK hP 1 0 rfl rfl (k := x) (by omega) (by decide) dX3_move_73 ?_
              refine tp (y := nI (go x)) (gok_v hg ht18.1 ht18.2) ?_
              refine lv_iload_n hx hb dX3_move_74 rfl (lv_at hl 3 rfl) ?_
              refine lv_isub hx hb dX3_move_75 ?_
              refine tp (y := nI (go x - n)) (pk_sub (by omega)) ?_
              refine xi_ast hx hb hK hP hD hS 1 0 rfl rfl (k := x) (x := (nI (go x - n))) (by omega) (by decide) dX3_move_76 (fun H locs hP hD hS => ?_)
              have hP : va_P D vwCl [(a 0, .inr (3, [.ref (a 1), .ref (a 2), .ref (a 3), .int r])), (a 1, .inl (cI, 8, .inl (upd g x (nI (go x - n))))), (a 2, .inl (cI, 8, .inl lf)), (a 3, .inl (cI, 8, .inl h))] H := hP
              have hD : va_D A [(a 0, .inr (3, [.ref (a 1), .ref (a 2), .ref (a 3), .int r])), (a 1, .inl (cI, 8, .inl (upd g x (nI (go x - n))))), (a 2, .inl (cI, 8, .inl lf)), (a 3, .inl (cI, 8, .inl h))] := hD
              have hg2 : gok (upd g x (nI (go x - n))) th (va_up go x (go x - n)) := gok_up hg ht18.2 (by omega)
              refine lv_aload_n hx hb dX3_move_77 rfl (lv_at hl 0 rfl) ?_
              refine va_get (D := D) (ci := 3) (v := .ref (a 1)) (C := RX3) (T := TX3) (N := 4) hx hb hts inX3 hown hK hP 0 rfl rfl 0 (by decide) fl9 (fun _ h9 => h9) rfl dX3_move_78 ?_
              refine lv_iload_n hx hb dX3_move_81 rfl (lv_at hl 2 rfl) ?_
              refine lv_dup2_11 hx hb dX3_move_82 rfl rfl ?_
              refine xi_ald hx hb hK hP 1 0 rfl rfl (k := y) (by omega) (by decide) dX3_move_83 ?_
              refine tp (y := nI (va_up go x (go x - n) y)) (gok_v hg2 ht26.1 ht26.2) ?_
              refine lv_iload_n hx hb dX3_move_84 rfl (lv_at hl 3 rfl) ?_
              refine lv_iadd hx hb dX3_move_85 ?_
              refine tp (y := nI (va_up go x (go x - n) y + n)) (nI_add _ _) ?_
              refine xi_ast hx hb hK hP hD hS 1 0 rfl rfl (k := y) (x := (nI (va_up go x (go x - n) y + n))) (by omega) (by decide) dX3_move_86 (fun H locs hP hD hS => ?_)
              have hP : va_P D vwCl [(a 0, .inr (3, [.ref (a 1), .ref (a 2), .ref (a 3), .int r])), (a 1, .inl (cI, 8, .inl (upd (upd g x (nI (go x - n))) y (nI (va_up go x (go x - n) y + n))))), (a 2, .inl (cI, 8, .inl lf)), (a 3, .inl (cI, 8, .inl h))] H := hP
              have hD : va_D A [(a 0, .inr (3, [.ref (a 1), .ref (a 2), .ref (a 3), .int r])), (a 1, .inl (cI, 8, .inl (upd (upd g x (nI (go x - n))) y (nI (va_up go x (go x - n) y + n))))), (a 2, .inl (cI, 8, .inl lf)), (a 3, .inl (cI, 8, .inl h))] := hD
              refine lv_iconst (v := 0) hx hb dX3_move_87 (by decide) ?_
              exact Ri (D := D) (upd (upd g x (nI (go x - n))) y (nI (va_up go x (go x - n) y + n))) hx hb hr rfl hlocks hP hD hS (by rw [A_move, if_neg (by omega), if_neg (A_mv ht18.2 ht26.2), if_neg (by omega), if_neg (by omega)]; exact ⟨rfl, gok_up hg2 ht26.2 (A_mvb (by omega) (by omega) (by omega))⟩) dX3_move_88
            · have c_48 : ¬ (x = y) := fun h => c_48 ((nI_eq (a := x) (b := y) (by omega) (by omega)).mpr h)
              refine lv_aload_n hx hb dX3_move_51 rfl (lv_at hl 0 rfl) ?_
              refine va_get (D := D) (ci := 3) (v := .ref (a 1)) (C := RX3) (T := TX3) (N := 4) hx hb hts inX3 hown hK hP 0 rfl rfl 0 (by decide) fl9 (fun _ h9 => h9) rfl dX3_move_52 ?_
              refine lv_iload_n hx hb dX3_move_55 rfl (lv_at hl 2 rfl) ?_
              refine xi_ald hx hb hK hP 1 0 rfl rfl (k := y) (by omega) (by decide) dX3_move_56 ?_
              refine tp (y := nI (go y)) (gok_v hg ht26.1 ht26.2) ?_
              refine lv_iload_n hx hb dX3_move_57 rfl (lv_at hl 3 rfl) ?_
              refine lv_iadd hx hb dX3_move_58 ?_
              refine tp (y := nI (go y + n)) (nI_add _ _) ?_
              refine lv_sipush (v := 1000) hx hb dX3_move_59 (by decide) ?_
              refine lv_icmp_le (tgt := 67) hx hb dX3_move_62 (by decide) (fun c_62 => ?_) (fun c_62 => ?_)
              · have c_62 : (go y + n) ≤ 1000 := (nI_leI (a := (go y + n)) (b := 1000) (by omega) (by omega)).mp c_62
                refine lv_aload_n hx hb dX3_move_67 rfl (lv_at hl 0 rfl) ?_
                refine va_get (D := D) (ci := 3) (v := .ref (a 1)) (C := RX3) (T := TX3) (N := 4) hx hb hts inX3 hown hK hP 0 rfl rfl 0 (by decide) fl9 (fun _ h9 => h9) rfl dX3_move_68 ?_
                refine lv_iload_n hx hb dX3_move_71 rfl (lv_at hl 1 rfl) ?_
                refine lv_dup2_11 hx hb dX3_move_72 rfl rfl ?_
                refine xi_ald hx hb hK hP 1 0 rfl rfl (k := x) (by omega) (by decide) dX3_move_73 ?_
                refine tp (y := nI (go x)) (gok_v hg ht18.1 ht18.2) ?_
                refine lv_iload_n hx hb dX3_move_74 rfl (lv_at hl 3 rfl) ?_
                refine lv_isub hx hb dX3_move_75 ?_
                refine tp (y := nI (go x - n)) (pk_sub (by omega)) ?_
                refine xi_ast hx hb hK hP hD hS 1 0 rfl rfl (k := x) (x := (nI (go x - n))) (by omega) (by decide) dX3_move_76 (fun H locs hP hD hS => ?_)
                have hP : va_P D vwCl [(a 0, .inr (3, [.ref (a 1), .ref (a 2), .ref (a 3), .int r])), (a 1, .inl (cI, 8, .inl (upd g x (nI (go x - n))))), (a 2, .inl (cI, 8, .inl lf)), (a 3, .inl (cI, 8, .inl h))] H := hP
                have hD : va_D A [(a 0, .inr (3, [.ref (a 1), .ref (a 2), .ref (a 3), .int r])), (a 1, .inl (cI, 8, .inl (upd g x (nI (go x - n))))), (a 2, .inl (cI, 8, .inl lf)), (a 3, .inl (cI, 8, .inl h))] := hD
                have hg2 : gok (upd g x (nI (go x - n))) th (va_up go x (go x - n)) := gok_up hg ht18.2 (by omega)
                refine lv_aload_n hx hb dX3_move_77 rfl (lv_at hl 0 rfl) ?_
                refine va_get (D := D) (ci := 3) (v := .ref (a 1)) (C := RX3) (T := TX3) (N := 4) hx hb hts inX3 hown hK hP 0 rfl rfl 0 (by decide) fl9 (fun _ h9 => h9) rfl dX3_move_78 ?_
                refine lv_iload_n hx hb dX3_move_81 rfl (lv_at hl 2 rfl) ?_
                refine lv_dup2_11 hx hb dX3_move_82 rfl rfl ?_
                refine xi_ald hx hb hK hP 1 0 rfl rfl (k := y) (by omega) (by decide) dX3_move_83 ?_
                refine tp (y := nI (va_up go x (go x - n) y)) (gok_v hg2 ht26.1 ht26.2) ?_
                refine lv_iload_n hx hb dX3_move_84 rfl (lv_at hl 3 rfl) ?_
                refine lv_iadd hx hb dX3_move_85 ?_
                refine tp (y := nI (va_up go x (go x - n) y + n)) (nI_add _ _) ?_
                refine xi_ast hx hb hK hP hD hS 1 0 rfl rfl (k := y) (x := (nI (va_up go x (go x - n) y + n))) (by omega) (by decide) dX3_move_86 (fun H locs hP hD hS => ?_)
                have hP : va_P D vwCl [(a 0, .inr (3, [.ref (a 1), .ref (a 2), .ref (a 3), .int r])), (a 1, .inl (cI, 8, .inl (upd (upd g x (nI (go x - n))) y (nI (va_up go x (go x - n) y + n))))), (a 2, .inl (cI, 8, .inl lf)), (a 3, .inl (cI, 8, .inl h))] H := hP
                have hD : va_D A [(a 0, .inr (3, [.ref (a 1), .ref (a 2), .ref (a 3), .int r])), (a 1, .inl (cI, 8, .inl (upd (upd g x (nI (go x - n))) y (nI (va_up go x (go x - n) y + n))))), (a 2, .inl (cI, 8, .inl lf)), (a 3, .inl (cI, 8, .inl h))] := hD
                refine lv_iconst (v := 0) hx hb dX3_move_87 (by decide) ?_
                exact Ri (D := D) (upd (upd g x (nI (go x - n))) y (nI (va_up go x (go x - n) y + n))) hx hb hr rfl hlocks hP hD hS (by rw [A_move, if_neg (by omega), if_neg (A_mv ht18.2 ht26.2), if_neg (by omega), if_neg (by omega)]; exact ⟨rfl, gok_up hg2 ht26.2 (A_mvb (by omega) (by omega) (by omega))⟩) dX3_move_88
              · have c_62 : ¬ ((go y + n) ≤ 1000) := fun h => c_62 ((nI_leI (a := (go y + n)) (b := 1000) (by omega) (by omega)).mpr h)
                refine lv_iconst (v := 5) hx hb dX3_move_65 (by decide) ?_
                exact Ri (D := D) g hx hb hr rfl hlocks hP hD hS (by rw [A_move, if_neg (by omega), if_neg (A_mv ht18.2 ht26.2), if_neg (by omega), if_pos (by omega)]; exact ⟨rfl, hg⟩) dX3_move_66
          · have c_41 : ¬ (n ≤ (go x)) := fun h => c_41 ((nI_leI (a := n) (b := (go x)) (by omega) (by omega)).mpr h)
            refine lv_iconst (v := 4) hx hb dX3_move_44 (by decide) ?_
            exact Ri (D := D) g hx hb hr rfl hlocks hP hD hS (by rw [A_move, if_neg (by omega), if_neg (A_mv ht18.2 ht26.2), if_pos (by omega)]; exact ⟨rfl, hg⟩) dX3_move_45
        · refine lv_if_ne (tgt := 34) hx hb dX3_move_29 (by decide) (fun c9 => absurd rfl c9) (fun _ => ?_)
          refine lv_iconst (v := 2) hx hb dX3_move_32 (by decide) ?_
          exact Ri (D := D) g hx hb hr rfl hlocks hP hD hS (by rw [A_move, if_neg (by omega), if_pos (by first | exact Or.inl (Bool.eq_false_iff.mpr (fun q => ht18 ⟨hs1, q⟩)) | exact Or.inr (Bool.eq_false_iff.mpr (fun q => ht26 ⟨hs8, q⟩)))]; exact ⟨rfl, hg⟩) dX3_move_33
      · refine lv_if_eq (tgt := 32) hx hb dX3_move_21 (by decide) (fun _ => ?_) (fun c9 => absurd (by decide) c9)
        refine lv_iconst (v := 2) hx hb dX3_move_32 (by decide) ?_
        exact Ri (D := D) g hx hb hr rfl hlocks hP hD hS (by rw [A_move, if_neg (by omega), if_pos (by first | exact Or.inl (Bool.eq_false_iff.mpr (fun q => ht18 ⟨hs1, q⟩)) | exact Or.inr (Bool.eq_false_iff.mpr (fun q => ht26 ⟨hs8, q⟩)))]; exact ⟨rfl, hg⟩) dX3_move_33
    · have hs8 : ¬ y < 8 := fun h => hs8 ((inN_nI (by omega) (by omega)).mpr h)
      refine lv_if_ne (tgt := 16) hx hb dX3_move_11 (by decide) (fun c9 => absurd rfl c9) (fun _ => ?_)
      refine lv_iconst (v := 1) hx hb dX3_move_14 (by decide) ?_
      exact Ri (D := D) g hx hb hr rfl hlocks hP hD hS (by rw [A_move, if_pos (by omega)]; exact ⟨rfl, hg⟩) dX3_move_15
  · have hs1 : ¬ x < 8 := fun h => hs1 ((inN_nI (by omega) (by omega)).mpr h)
    refine lv_if_eq (tgt := 14) hx hb dX3_move_4 (by decide) (fun _ => ?_) (fun c9 => absurd (by decide) c9)
    refine lv_iconst (v := 1) hx hb dX3_move_14 (by decide) ?_
    exact Ri (D := D) g hx hb hr rfl hlocks hP hD hS (by rw [A_move, if_pos (by omega)]; exact ⟨rfl, hg⟩) dX3_move_15
