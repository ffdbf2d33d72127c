set_option maxHeartbeats 4000000 in
set_option maxRecDepth 100000 in
theorem c_X0_size (l : Launch) (D : va_G) (cI : ClassId) (a : Nat → Nat) (k n b : Nat → Int32) (j : Nat) : Ci l D [(cI, .int)] yX0_size wsX0_size ({ frames := 0, cells := 0, slots := 0, locals := 0 }) [.ref (a 0)] (wOp a cI k n b (nI j)) (S := Unit) (fun v _ => v = nI j) (fun _ => wOp a cI k n b (nI j)) := by
  refine Ci.mk (cc := cX0_size) (maxL := 1) (ret := (some .int)) (by decide +kernel) rfl (Nat.le_of_ble_eq_true rfl) ?_
  intro pg e s m below meth c A ls hx hb hml hr hown hts hlocks hK hns hA hP hD hS hl
  have hl : lv_has ls 1 [(0, .ref (a 0))] := hl
  have fl21 := hts (.fieldLink RX0 21 "HeldShelves$OpenRow" "count" "I") (List.mem_of_getElem? (i := 1) rfl)
  have inX0 : ∀ w ∈ wsX00, w ∈ wsX0_size := fun _ h => List.mem_cons_of_mem _ (List.mem_append_right _ h)
  have hP : va_P D vwCl [(a 0, .inr (0, [.ref (a 1), .ref (a 2), .ref (a 3), .int (nI j)])), (a 1, .inl (cI, 64, .inl k)), (a 2, .inl (cI, 64, .inl n)), (a 3, .inl (cI, 64, .inl b))] s.heap := hP
  have hD : va_D A [(a 0, .inr (0, [.ref (a 1), .ref (a 2), .ref (a 3), .int (nI j)])), (a 1, .inl (cI, 64, .inl k)), (a 2, .inl (cI, 64, .inl n)), (a 3, .inl (cI, 64, .inl b))] := hD
  refine lv_aload_n hx hb dX0_size_0 rfl (lv_at hl 0 rfl) ?_
  refine va_get (D := D) (ci := 0) (v := .int (nI j)) (C := RX0) (T := TX0) (N := 4) hx hb hts inX0 hown hK hP 0 rfl rfl 3 (by decide) fl21 (fun _ h9 => h9) rfl dX0_size_1 ?_
  exact Ri (D := D) () hx hb hr rfl hlocks hP hD hS rfl dX0_size_4

set_option maxHeartbeats 4000000 in
set_option maxRecDepth 100000 in
theorem c_X0_push (l : Launch) (D : va_G) (cI : ClassId) (a : Nat → Nat) (k n b : Nat → Int32) (j : Nat) (hj : j < 64) (x y z : Int32) : Cv l D [(cI, .int)] yX0_push wsX0_push ({ frames := 0, cells := 0, slots := 0, locals := 0 }) [.ref (a 0), .int x, .int y, .int z] (wOp a cI k n b (nI j)) (S := Unit) (fun _ => True) (fun _ => wOp a cI (upd k j x) (upd n j y) (upd b j z) (nI (j + 1))) := by
  refine Cv.mk (cc := cX0_push) (maxL := 4) (ret := none) (by decide +kernel) rfl (Nat.le_of_ble_eq_true rfl) ?_
  intro pg e s m below meth c A ls hx hb hml hr hown hts hlocks hK hns hA hP hD hS hl
  have hl : lv_has ls 4 [(0, .ref (a 0)), (1, .int x), (2, .int y), (3, .int z)] := hl
  have fl21 := hts (.fieldLink RX0 21 "HeldShelves$OpenRow" "count" "I") (List.mem_of_getElem? (i := 1) rfl)
  have inX0 : ∀ w ∈ wsX00, w ∈ wsX0_push := fun _ h => List.mem_cons_of_mem _ (List.mem_append_right _ h)
  have fl9 := hts (.fieldLink RX0 9 "HeldShelves$OpenRow" "kinds" "[I") (List.mem_of_getElem? (i := 2) rfl)
  have fl15 := hts (.fieldLink RX0 15 "HeldShelves$OpenRow" "numbers" "[I") (List.mem_of_getElem? (i := 3) rfl)
  have fl18 := hts (.fieldLink RX0 18 "HeldShelves$OpenRow" "behinds" "[I") (List.mem_of_getElem? (i := 4) rfl)
  have hP : va_P D vwCl [(a 0, .inr (0, [.ref (a 1), .ref (a 2), .ref (a 3), .int (nI j)])), (a 1, .inl (cI, 64, .inl k)), (a 2, .inl (cI, 64, .inl n)), (a 3, .inl (cI, 64, .inl b))] s.heap := hP
  have hD : va_D A [(a 0, .inr (0, [.ref (a 1), .ref (a 2), .ref (a 3), .int (nI j)])), (a 1, .inl (cI, 64, .inl k)), (a 2, .inl (cI, 64, .inl n)), (a 3, .inl (cI, 64, .inl b))] := hD
  refine lv_aload_n hx hb dX0_push_0 rfl (lv_at hl 0 rfl) ?_
  refine va_get (D := D) (ci := 0) (v := .int (nI j)) (C := RX0) (T := TX0) (N := 4) hx hb hts inX0 hown hK hP 0 rfl rfl 3 (by decide) fl21 (fun _ h9 => h9) rfl dX0_push_1 ?_
  refine lv_bipush (v := 64) hx hb dX0_push_4 (by decide) ?_
  refine lv_icmp_ge (tgt := 49) hx hb dX0_push_6 (by decide) (fun c_6 => ?_) (fun c_6 => ?_)
  · have c_6 : 64 ≤ j := (nI_leI (a := 64) (b := j) (by omega) (by omega)).mp c_6
    exact absurd c_6 (by omega)
  · have c_6 : ¬ (64 ≤ j) := fun h => c_6 ((nI_leI (a := 64) (b := j) (by omega) (by omega)).mpr h)
    refine lv_aload_n hx hb dX0_push_9 rfl (lv_at hl 0 rfl) ?_
    refine va_get (D := D) (ci := 0) (v := .ref (a 1)) (C := RX0) (T := TX0) (N := 4) hx hb hts inX0 hown hK hP 0 rfl rfl 0 (by decide) fl9 (fun _ h9 => h9) rfl dX0_push_10 ?_
    refine lv_aload_n hx hb dX0_push_13 rfl (lv_at hl 0 rfl) ?_
    refine va_get (D := D) (ci := 0) (v := .int (nI j)) (C := RX0) (T := TX0) (N := 4) hx hb hts inX0 hown hK hP 0 rfl rfl 3 (by decide) fl21 (fun _ h9 => h9) rfl dX0_push_14 ?_
    refine lv_iload_n hx hb dX0_push_17 rfl (lv_at hl 1 rfl) ?_
    refine xi_ast hx hb hK hP hD hS 1 0 rfl rfl (k := j) (x := x) (by omega) (by decide) dX0_push_18 (fun H locs hP hD hS => ?_)
    have hP : va_P D vwCl [(a 0, .inr (0, [.ref (a 1), .ref (a 2), .ref (a 3), .int (nI j)])), (a 1, .inl (cI, 64, .inl (upd k j x))), (a 2, .inl (cI, 64, .inl n)), (a 3, .inl (cI, 64, .inl b))] H := hP
    have hD : va_D A [(a 0, .inr (0, [.ref (a 1), .ref (a 2), .ref (a 3), .int (nI j)])), (a 1, .inl (cI, 64, .inl (upd k j x))), (a 2, .inl (cI, 64, .inl n)), (a 3, .inl (cI, 64, .inl b))] := hD
    refine lv_aload_n hx hb dX0_push_19 rfl (lv_at hl 0 rfl) ?_
    refine va_get (D := D) (ci := 0) (v := .ref (a 2)) (C := RX0) (T := TX0) (N := 4) hx hb hts inX0 hown hK hP 0 rfl rfl 1 (by decide) fl15 (fun _ h9 => h9) rfl dX0_push_20 ?_
    refine lv_aload_n hx hb dX0_push_23 rfl (lv_at hl 0 rfl) ?_
    refine va_get (D := D) (ci := 0) (v := .int (nI j)) (C := RX0) (T := TX0) (N := 4) hx hb hts inX0 hown hK hP 0 rfl rfl 3 (by decide) fl21 (fun _ h9 => h9) rfl dX0_push_24 ?_
    refine lv_iload_n hx hb dX0_push_27 rfl (lv_at hl 2 rfl) ?_
    refine xi_ast hx hb hK hP hD hS 2 0 rfl rfl (k := j) (x := y) (by omega) (by decide) dX0_push_28 (fun H locs hP hD hS => ?_)
    have hP : va_P D vwCl [(a 0, .inr (0, [.ref (a 1), .ref (a 2), .ref (a 3), .int (nI j)])), (a 1, .inl (cI, 64, .inl (upd k j x))), (a 2, .inl (cI, 64, .inl (upd n j y))), (a 3, .inl (cI, 64, .inl b))] H := hP
    have hD : va_D A [(a 0, .inr (0, [.ref (a 1), .ref (a 2), .ref (a 3), .int (nI j)])), (a 1, .inl (cI, 64, .inl (upd k j x))), (a 2, .inl (cI, 64, .inl (upd n j y))), (a 3, .inl (cI, 64, .inl b))] := hD
    refine lv_aload_n hx hb dX0_push_29 rfl (lv_at hl 0 rfl) ?_
    refine va_get (D := D) (ci := 0) (v := .ref (a 3)) (C := RX0) (T := TX0) (N := 4) hx hb hts inX0 hown hK hP 0 rfl rfl 2 (by decide) fl18 (fun _ h9 => h9) rfl dX0_push_30 ?_
    refine lv_aload_n hx hb dX0_push_33 rfl (lv_at hl 0 rfl) ?_
    refine va_get (D := D) (ci := 0) (v := .int (nI j)) (C := RX0) (T := TX0) (N := 4) hx hb hts inX0 hown hK hP 0 rfl rfl 3 (by decide) fl21 (fun _ h9 => h9) rfl dX0_push_34 ?_
    refine lv_iload_n hx hb dX0_push_37 rfl (lv_at hl 3 rfl) ?_
    refine xi_ast hx hb hK hP hD hS 3 0 rfl rfl (k := j) (x := z) (by omega) (by decide) dX0_push_38 (fun H locs hP hD hS => ?_)
    have hP : va_P D vwCl [(a 0, .inr (0, [.ref (a 1), .ref (a 2), .ref (a 3), .int (nI j)])), (a 1, .inl (cI, 64, .inl (upd k j x))), (a 2, .inl (cI, 64, .inl (upd n j y))), (a 3, .inl (cI, 64, .inl (upd b j z)))] H := hP
    have hD : va_D A [(a 0, .inr (0, [.ref (a 1), .ref (a 2), .ref (a 3), .int (nI j)])), (a 1, .inl (cI, 64, .inl (upd k j x))), (a 2, .inl (cI, 64, .inl (upd n j y))), (a 3, .inl (cI, 64, .inl (upd b j z)))] := hD
    refine lv_aload_n hx hb dX0_push_39 rfl (lv_at hl 0 rfl) ?_
    refine lv_dup hx hb dX0_push_40 rfl ?_
    refine va_get (D := D) (ci := 0) (v := .int (nI j)) (C := RX0) (T := TX0) (N := 4) hx hb hts inX0 hown hK hP 0 rfl rfl 3 (by decide) fl21 (fun _ h9 => h9) rfl dX0_push_41 ?_
    refine lv_iconst (v := 1) hx hb dX0_push_44 (by decide) ?_
    refine lv_iadd hx hb dX0_push_45 ?_
    refine tp (y := nI (j + 1)) (nI_1 j) ?_
    refine va_put (D := D) (ci := 0) (v := .int (nI (j + 1))) (ty := .int) (C := RX0) (T := TX0) (N := 4) hx hb hts inX0 tyX0 tyX0_ok nmX0 hown hK hP hD hS 0 rfl rfl 3 (by decide) fl21 (fun _ h9 => h9) rfl (by decide +kernel) rfl rfl (Nat.le_of_ble_eq_true rfl) dX0_push_46 (fun H locs hP hD hS => ?_)
    have hP : va_P D vwCl [(a 0, .inr (0, [.ref (a 1), .ref (a 2), .ref (a 3), .int (nI (j + 1))])), (a 1, .inl (cI, 64, .inl (upd k j x))), (a 2, .inl (cI, 64, .inl (upd n j y))), (a 3, .inl (cI, 64, .inl (upd b j z)))] H := hP
    have hD : va_D A [(a 0, .inr (0, [.ref (a 1), .ref (a 2), .ref (a 3), .int (nI (j + 1))])), (a 1, .inl (cI, 64, .inl (upd k j x))), (a 2, .inl (cI, 64, .inl (upd n j y))), (a 3, .inl (cI, 64, .inl (upd b j z)))] := hD
    exact Rv (D := D) () hx hb hr hlocks hP hD hS trivial dX0_push_49

set_option maxHeartbeats 4000000 in
set_option maxRecDepth 100000 in
theorem c_X0_pop (l : Launch) (D : va_G) (cI : ClassId) (a : Nat → Nat) (k n b : Nat → Int32) (j : Nat) (hj : j < 64) : Cv l D [(cI, .int)] yX0_pop wsX0_pop ({ frames := 0, cells := 0, slots := 0, locals := 0 }) [.ref (a 0)] (wOp a cI k n b (nI (j + 1))) (S := Unit) (fun _ => True) (fun _ => wOp a cI k n b (nI j)) := by
  refine Cv.mk (cc := cX0_pop) (maxL := 1) (ret := none) (by decide +kernel) rfl (Nat.le_of_ble_eq_true rfl) ?_
  intro pg e s m below meth c A ls hx hb hml hr hown hts hlocks hK hns hA hP hD hS hl
  have hl : lv_has ls 1 [(0, .ref (a 0))] := hl
  have fl21 := hts (.fieldLink RX0 21 "HeldShelves$OpenRow" "count" "I") (List.mem_of_getElem? (i := 1) rfl)
  have inX0 : ∀ w ∈ wsX00, w ∈ wsX0_pop := fun _ h => List.mem_cons_of_mem _ (List.mem_append_right _ h)
  have hP : va_P D vwCl [(a 0, .inr (0, [.ref (a 1), .ref (a 2), .ref (a 3), .int (nI (j + 1))])), (a 1, .inl (cI, 64, .inl k)), (a 2, .inl (cI, 64, .inl n)), (a 3, .inl (cI, 64, .inl b))] s.heap := hP
  have hD : va_D A [(a 0, .inr (0, [.ref (a 1), .ref (a 2), .ref (a 3), .int (nI (j + 1))])), (a 1, .inl (cI, 64, .inl k)), (a 2, .inl (cI, 64, .inl n)), (a 3, .inl (cI, 64, .inl b))] := hD
  refine lv_aload_n hx hb dX0_pop_0 rfl (lv_at hl 0 rfl) ?_
  refine va_get (D := D) (ci := 0) (v := .int (nI (j + 1))) (C := RX0) (T := TX0) (N := 4) hx hb hts inX0 hown hK hP 0 rfl rfl 3 (by decide) fl21 (fun _ h9 => h9) rfl dX0_pop_1 ?_
  refine lv_if_le (tgt := 17) hx hb dX0_pop_4 (by decide) (fun c_4 => ?_) (fun c_4 => ?_)
  · have c_4 : (j + 1) ≤ 0 := (nI_leI (a := (j + 1)) (b := 0) (by omega) (by omega)).mp c_4
    exact absurd c_4 (by omega)
  · have c_4 : ¬ ((j + 1) ≤ 0) := fun h => c_4 ((nI_leI (a := (j + 1)) (b := 0) (by omega) (by omega)).mpr h)
    refine lv_aload_n hx hb dX0_pop_7 rfl (lv_at hl 0 rfl) ?_
    refine lv_dup hx hb dX0_pop_8 rfl ?_
    refine va_get (D := D) (ci := 0) (v := .int (nI (j + 1))) (C := RX0) (T := TX0) (N := 4) hx hb hts inX0 hown hK hP 0 rfl rfl 3 (by decide) fl21 (fun _ h9 => h9) rfl dX0_pop_9 ?_
    refine lv_iconst (v := 1) hx hb dX0_pop_12 (by decide) ?_
    refine lv_isub hx hb dX0_pop_13 ?_
    refine tp (y := nI j) (nI_pred j) ?_
    refine va_put (D := D) (ci := 0) (v := .int (nI j)) (ty := .int) (C := RX0) (T := TX0) (N := 4) hx hb hts inX0 tyX0 tyX0_ok nmX0 hown hK hP hD hS 0 rfl rfl 3 (by decide) fl21 (fun _ h9 => h9) rfl (by decide +kernel) rfl rfl (Nat.le_of_ble_eq_true rfl) dX0_pop_14 (fun H locs hP hD hS => ?_)
    have hP : va_P D vwCl [(a 0, .inr (0, [.ref (a 1), .ref (a 2), .ref (a 3), .int (nI j)])), (a 1, .inl (cI, 64, .inl k)), (a 2, .inl (cI, 64, .inl n)), (a 3, .inl (cI, 64, .inl b))] H := hP
    have hD : va_D A [(a 0, .inr (0, [.ref (a 1), .ref (a 2), .ref (a 3), .int (nI j)])), (a 1, .inl (cI, 64, .inl k)), (a 2, .inl (cI, 64, .inl n)), (a 3, .inl (cI, 64, .inl b))] := hD
    exact Rv (D := D) () hx hb hr hlocks hP hD hS trivial dX0_pop_17

set_option maxHeartbeats 4000000 in
set_option maxRecDepth 100000 in
theorem c_X0_kind (l : Launch) (D : va_G) (cI : ClassId) (a : Nat → Nat) (k n b : Nat → Int32) (j : Nat) (hj : j < 64) : Ci l D [(cI, .int)] yX0_kind wsX0_kind ({ frames := 0, cells := 0, slots := 0, locals := 0 }) [.ref (a 0)] (wOp a cI k n b (nI (j + 1))) (S := Unit) (fun v _ => v = k j) (fun _ => wOp a cI k n b (nI (j + 1))) := by
  refine Ci.mk (cc := cX0_kind) (maxL := 1) (ret := (some .int)) (by decide +kernel) rfl (Nat.le_of_ble_eq_true rfl) ?_
  intro pg e s m below meth c A ls hx hb hml hr hown hts hlocks hK hns hA hP hD hS hl
  have hl : lv_has ls 1 [(0, .ref (a 0))] := hl
  have fl21 := hts (.fieldLink RX0 21 "HeldShelves$OpenRow" "count" "I") (List.mem_of_getElem? (i := 1) rfl)
  have inX0 : ∀ w ∈ wsX00, w ∈ wsX0_kind := fun _ h => List.mem_cons_of_mem _ (List.mem_append_right _ h)
  have fl9 := hts (.fieldLink RX0 9 "HeldShelves$OpenRow" "kinds" "[I") (List.mem_of_getElem? (i := 2) rfl)
  have hP : va_P D vwCl [(a 0, .inr (0, [.ref (a 1), .ref (a 2), .ref (a 3), .int (nI (j + 1))])), (a 1, .inl (cI, 64, .inl k)), (a 2, .inl (cI, 64, .inl n)), (a 3, .inl (cI, 64, .inl b))] s.heap := hP
  have hD : va_D A [(a 0, .inr (0, [.ref (a 1), .ref (a 2), .ref (a 3), .int (nI (j + 1))])), (a 1, .inl (cI, 64, .inl k)), (a 2, .inl (cI, 64, .inl n)), (a 3, .inl (cI, 64, .inl b))] := hD
  refine lv_aload_n hx hb dX0_kind_0 rfl (lv_at hl 0 rfl) ?_
  refine va_get (D := D) (ci := 0) (v := .int (nI (j + 1))) (C := RX0) (T := TX0) (N := 4) hx hb hts inX0 hown hK hP 0 rfl rfl 3 (by decide) fl21 (fun _ h9 => h9) rfl dX0_kind_1 ?_
  refine lv_if_le (tgt := 21) hx hb dX0_kind_4 (by decide) (fun c_4 => ?_) (fun c_4 => ?_)
  · have c_4 : (j + 1) ≤ 0 := (nI_leI (a := (j + 1)) (b := 0) (by omega) (by omega)).mp c_4
    exact absurd c_4 (by omega)
  · have c_4 : ¬ ((j + 1) ≤ 0) := fun h => c_4 ((nI_leI (a := (j + 1)) (b := 0) (by omega) (by omega)).mpr h)
    refine lv_aload_n hx hb dX0_kind_7 rfl (lv_at hl 0 rfl) ?_
    refine va_get (D := D) (ci := 0) (v := .ref (a 1)) (C := RX0) (T := TX0) (N := 4) hx hb hts inX0 hown hK hP 0 rfl rfl 0 (by decide) fl9 (fun _ h9 => h9) rfl dX0_kind_8 ?_
    refine lv_aload_n hx hb dX0_kind_11 rfl (lv_at hl 0 rfl) ?_
    refine va_get (D := D) (ci := 0) (v := .int (nI (j + 1))) (C := RX0) (T := TX0) (N := 4) hx hb hts inX0 hown hK hP 0 rfl rfl 3 (by decide) fl21 (fun _ h9 => h9) rfl dX0_kind_12 ?_
    refine lv_iconst (v := 1) hx hb dX0_kind_15 (by decide) ?_
    refine lv_isub hx hb dX0_kind_16 ?_
    refine tp (y := nI j) (nI_pred j) ?_
    refine xi_ald hx hb hK hP 1 0 rfl rfl (k := j) (by omega) (by decide) dX0_kind_17 ?_
    refine lv_goto (tgt := 23) hx hb dX0_kind_18 (by decide) ?_
    exact Ri (D := D) () hx hb hr rfl hlocks hP hD hS rfl dX0_kind_23

set_option maxHeartbeats 4000000 in
set_option maxRecDepth 100000 in
theorem c_X0_number (l : Launch) (D : va_G) (cI : ClassId) (a : Nat → Nat) (k n b : Nat → Int32) (j : Nat) (hj : j < 64) : Ci l D [(cI, .int)] yX0_number wsX0_number ({ frames := 0, cells := 0, slots := 0, locals := 0 }) [.ref (a 0)] (wOp a cI k n b (nI (j + 1))) (S := Unit) (fun v _ => v = n j) (fun _ => wOp a cI k n b (nI (j + 1))) := by
  refine Ci.mk (cc := cX0_number) (maxL := 1) (ret := (some .int)) (by decide +kernel) rfl (Nat.le_of_ble_eq_true rfl) ?_
  intro pg e s m below meth c A ls hx hb hml hr hown hts hlocks hK hns hA hP hD hS hl
  have hl : lv_has ls 1 [(0, .ref (a 0))] := hl
  have fl21 := hts (.fieldLink RX0 21 "HeldShelves$OpenRow" "count" "I") (List.mem_of_getElem? (i := 1) rfl)
  have inX0 : ∀ w ∈ wsX00, w ∈ wsX0_number := fun _ h => List.mem_cons_of_mem _ (List.mem_append_right _ h)
  have fl15 := hts (.fieldLink RX0 15 "HeldShelves$OpenRow" "numbers" "[I") (List.mem_of_getElem? (i := 2) rfl)
  have hP : va_P D vwCl [(a 0, .inr (0, [.ref (a 1), .ref (a 2), .ref (a 3), .int (nI (j + 1))])), (a 1, .inl (cI, 64, .inl k)), (a 2, .inl (cI, 64, .inl n)), (a 3, .inl (cI, 64, .inl b))] s.heap := hP
  have hD : va_D A [(a 0, .inr (0, [.ref (a 1), .ref (a 2), .ref (a 3), .int (nI (j + 1))])), (a 1, .inl (cI, 64, .inl k)), (a 2, .inl (cI, 64, .inl n)), (a 3, .inl (cI, 64, .inl b))] := hD
  refine lv_aload_n hx hb dX0_number_0 rfl (lv_at hl 0 rfl) ?_
  refine va_get (D := D) (ci := 0) (v := .int (nI (j + 1))) (C := RX0) (T := TX0) (N := 4) hx hb hts inX0 hown hK hP 0 rfl rfl 3 (by decide) fl21 (fun _ h9 => h9) rfl dX0_number_1 ?_
  refine lv_if_le (tgt := 21) hx hb dX0_number_4 (by decide) (fun c_4 => ?_) (fun c_4 => ?_)
  · have c_4 : (j + 1) ≤ 0 := (nI_leI (a := (j + 1)) (b := 0) (by omega) (by omega)).mp c_4
    exact absurd c_4 (by omega)
  · have c_4 : ¬ ((j + 1) ≤ 0) := fun h => c_4 ((nI_leI (a := (j + 1)) (b := 0) (by omega) (by omega)).mpr h)
    refine lv_aload_n hx hb dX0_number_7 rfl (lv_at hl 0 rfl) ?_
    refine va_get (D := D) (ci := 0) (v := .ref (a 2)) (C := RX0) (T := TX0) (N := 4) hx hb hts inX0 hown hK hP 0 rfl rfl 1 (by decide) fl15 (fun _ h9 => h9) rfl dX0_number_8 ?_
    refine lv_aload_n hx hb dX0_number_11 rfl (lv_at hl 0 rfl) ?_
    refine va_get (D := D) (ci := 0) (v := .int (nI (j + 1))) (C := RX0) (T := TX0) (N := 4) hx hb hts inX0 hown hK hP 0 rfl rfl 3 (by decide) fl21 (fun _ h9 => h9) rfl dX0_number_12 ?_
    refine lv_iconst (v := 1) hx hb dX0_number_15 (by decide) ?_
    refine lv_isub hx hb dX0_number_16 ?_
    refine tp (y := nI j) (nI_pred j) ?_
    refine xi_ald hx hb hK hP 2 0 rfl rfl (k := j) (by omega) (by decide) dX0_number_17 ?_
    refine lv_goto (tgt := 22) hx hb dX0_number_18 (by decide) ?_
    exact Ri (D := D) () hx hb hr rfl hlocks hP hD hS rfl dX0_number_22

set_option maxHeartbeats 4000000 in
set_option maxRecDepth 100000 in
theorem c_X0_behind (l : Launch) (D : va_G) (cI : ClassId) (a : Nat → Nat) (k n b : Nat → Int32) (j : Nat) (hj : j < 64) : Ci l D [(cI, .int)] yX0_behind wsX0_behind ({ frames := 0, cells := 0, slots := 0, locals := 0 }) [.ref (a 0)] (wOp a cI k n b (nI (j + 1))) (S := Unit) (fun v _ => v = b j) (fun _ => wOp a cI k n b (nI (j + 1))) := by
  refine Ci.mk (cc := cX0_behind) (maxL := 1) (ret := (some .int)) (by decide +kernel) rfl (Nat.le_of_ble_eq_true rfl) ?_
  intro pg e s m below meth c A ls hx hb hml hr hown hts hlocks hK hns hA hP hD hS hl
  have hl : lv_has ls 1 [(0, .ref (a 0))] := hl
  have fl21 := hts (.fieldLink RX0 21 "HeldShelves$OpenRow" "count" "I") (List.mem_of_getElem? (i := 1) rfl)
  have inX0 : ∀ w ∈ wsX00, w ∈ wsX0_behind := fun _ h => List.mem_cons_of_mem _ (List.mem_append_right _ h)
  have fl18 := hts (.fieldLink RX0 18 "HeldShelves$OpenRow" "behinds" "[I") (List.mem_of_getElem? (i := 2) rfl)
  have hP : va_P D vwCl [(a 0, .inr (0, [.ref (a 1), .ref (a 2), .ref (a 3), .int (nI (j + 1))])), (a 1, .inl (cI, 64, .inl k)), (a 2, .inl (cI, 64, .inl n)), (a 3, .inl (cI, 64, .inl b))] s.heap := hP
  have hD : va_D A [(a 0, .inr (0, [.ref (a 1), .ref (a 2), .ref (a 3), .int (nI (j + 1))])), (a 1, .inl (cI, 64, .inl k)), (a 2, .inl (cI, 64, .inl n)), (a 3, .inl (cI, 64, .inl b))] := hD
  refine lv_aload_n hx hb dX0_behind_0 rfl (lv_at hl 0 rfl) ?_
  refine va_get (D := D) (ci := 0) (v := .int (nI (j + 1))) (C := RX0) (T := TX0) (N := 4) hx hb hts inX0 hown hK hP 0 rfl rfl 3 (by decide) fl21 (fun _ h9 => h9) rfl dX0_behind_1 ?_
  refine lv_if_le (tgt := 21) hx hb dX0_behind_4 (by decide) (fun c_4 => ?_) (fun c_4 => ?_)
  · have c_4 : (j + 1) ≤ 0 := (nI_leI (a := (j + 1)) (b := 0) (by omega) (by omega)).mp c_4
    exact absurd c_4 (by omega)
  · have c_4 : ¬ ((j + 1) ≤ 0) := fun h => c_4 ((nI_leI (a := (j + 1)) (b := 0) (by omega) (by omega)).mpr h)
    refine lv_aload_n hx hb dX0_behind_7 rfl (lv_at hl 0 rfl) ?_
    refine va_get (D := D) (ci := 0) (v := .ref (a 3)) (C := RX0) (T := TX0) (N := 4) hx hb hts inX0 hown hK hP 0 rfl rfl 2 (by decide) fl18 (fun _ h9 => h9) rfl dX0_behind_8 ?_
    refine lv_aload_n hx hb dX0_behind_11 rfl (lv_at hl 0 rfl) ?_
    refine va_get (D := D) (ci := 0) (v := .int (nI (j + 1))) (C := RX0) (T := TX0) (N := 4) hx hb hts inX0 hown hK hP 0 rfl rfl 3 (by decide) fl21 (fun _ h9 => h9) rfl dX0_behind_12 ?_
    refine lv_iconst (v := 1) hx hb dX0_behind_15 (by decide) ?_
    refine lv_isub hx hb dX0_behind_16 ?_
    refine tp (y := nI j) (nI_pred j) ?_
    refine xi_ald hx hb hK hP 3 0 rfl rfl (k := j) (by omega) (by decide) dX0_behind_17 ?_
    refine lv_goto (tgt := 22) hx hb dX0_behind_18 (by decide) ?_
    exact Ri (D := D) () hx hb hr rfl hlocks hP hD hS rfl dX0_behind_22

set_option maxHeartbeats 4000000 in
set_option maxRecDepth 100000 in
theorem c_X1_size (l : Launch) (D : va_G) (cI : ClassId) (a0 a1 : Nat) (f : Nat → Int32) (n : Nat) : Ci l D [(cI, .int)] yX1_size wsX1_size ({ frames := 0, cells := 0, slots := 0, locals := 0 }) [.ref a0] (wPl a0 a1 cI f (nI n)) (S := Unit) (fun v _ => v = nI n) (fun _ => wPl a0 a1 cI f (nI n)) := by
  refine Ci.mk (cc := cX1_size) (maxL := 1) (ret := (some .int)) (by decide +kernel) rfl (Nat.le_of_ble_eq_true rfl) ?_
  intro pg e s m below meth c A ls hx hb hml hr hown hts hlocks hK hns hA hP hD hS hl
  have hl : lv_has ls 1 [(0, .ref a0)] := hl
  have fl15 := hts (.fieldLink RX1 15 "HeldShelves$Plan" "count" "I") (List.mem_of_getElem? (i := 1) rfl)
  have inX1 : ∀ w ∈ wsX10, w ∈ wsX1_size := fun _ h => List.mem_cons_of_mem _ (List.mem_append_right _ h)
  have hP : va_P D vwCl [(a0, .inr (1, [.ref a1, .int (nI n)])), (a1, .inl (cI, 40, .inl f))] s.heap := hP
  have hD : va_D A [(a0, .inr (1, [.ref a1, .int (nI n)])), (a1, .inl (cI, 40, .inl f))] := hD
  refine lv_aload_n hx hb dX1_size_0 rfl (lv_at hl 0 rfl) ?_
  refine va_get (D := D) (ci := 1) (v := .int (nI n)) (C := RX1) (T := TX1) (N := 2) hx hb hts inX1 hown hK hP 0 rfl rfl 1 (by decide) fl15 (fun _ h9 => h9) rfl dX1_size_1 ?_
  exact Ri (D := D) () hx hb hr rfl hlocks hP hD hS rfl dX1_size_4

set_option maxHeartbeats 4000000 in
set_option maxRecDepth 100000 in
theorem c_X1_add (l : Launch) (D : va_G) (cI : ClassId) (a0 a1 : Nat) (f : Nat → Int32) (n : Nat) (hn0 : n ≤ 40) (x y z t : Int32) : Ci l D [(cI, .int)] yX1_add wsX1_add ({ frames := 0, cells := 0, slots := 0, locals := 0 }) [.ref a0, .int x, .int y, .int z, .int t] (wPl a0 a1 cI f (nI n)) (S := (Nat → Int32) × Int32) (fun v u => (n = 40 ∧ v = -2 ∧ u = (f, nI n)) ∨ (n < 40 ∧ v = nI n ∧ u = (upd f n (x * 1000 + y * 100 + z * 10 + t), nI (n + 1)))) (fun u => wPl a0 a1 cI u.1 u.2) := by
  refine Ci.mk (cc := cX1_add) (maxL := 5) (ret := (some .int)) (by decide +kernel) rfl (Nat.le_of_ble_eq_true rfl) ?_
  intro pg e s m below meth c A ls hx hb hml hr hown hts hlocks hK hns hA hP hD hS hl
  have hl : lv_has ls 5 [(0, .ref a0), (1, .int x), (2, .int y), (3, .int z), (4, .int t)] := hl
  have fl15 := hts (.fieldLink RX1 15 "HeldShelves$Plan" "count" "I") (List.mem_of_getElem? (i := 1) rfl)
  have inX1 : ∀ w ∈ wsX10, w ∈ wsX1_add := fun _ h => List.mem_cons_of_mem _ (List.mem_append_right _ h)
  have fl9 := hts (.fieldLink RX1 9 "HeldShelves$Plan" "acts" "[I") (List.mem_of_getElem? (i := 2) rfl)
  have hP : va_P D vwCl [(a0, .inr (1, [.ref a1, .int (nI n)])), (a1, .inl (cI, 40, .inl f))] s.heap := hP
  have hD : va_D A [(a0, .inr (1, [.ref a1, .int (nI n)])), (a1, .inl (cI, 40, .inl f))] := hD
  refine lv_aload_n hx hb dX1_add_0 rfl (lv_at hl 0 rfl) ?_
  refine va_get (D := D) (ci := 1) (v := .int (nI n)) (C := RX1) (T := TX1) (N := 2) hx hb hts inX1 hown hK hP 0 rfl rfl 1 (by decide) fl15 (fun _ h9 => h9) rfl dX1_add_1 ?_
  refine lv_bipush (v := 40) hx hb dX1_add_4 (by decide) ?_
  refine lv_icmp_lt (tgt := 12) hx hb dX1_add_6 (by decide) (fun c_6 => ?_) (fun c_6 => ?_)
  · have c_6 : n < 40 := (nI_ltI (a := n) (b := 40) (by omega) (by omega)).mp c_6
    refine lv_aload_n hx hb dX1_add_12 rfl (lv_at hl 0 rfl) ?_
    refine va_get (D := D) (ci := 1) (v := .ref a1) (C := RX1) (T := TX1) (N := 2) hx hb hts inX1 hown hK hP 0 rfl rfl 0 (by decide) fl9 (fun _ h9 => h9) rfl dX1_add_13 ?_
    refine lv_aload_n hx hb dX1_add_16 rfl (lv_at hl 0 rfl) ?_
    refine va_get (D := D) (ci := 1) (v := .int (nI n)) (C := RX1) (T := TX1) (N := 2) hx hb hts inX1 hown hK hP 0 rfl rfl 1 (by decide) fl15 (fun _ h9 => h9) rfl dX1_add_17 ?_
    refine lv_iload_n hx hb dX1_add_20 rfl (lv_at hl 1 rfl) ?_
    refine lv_sipush (v := 1000) hx hb dX1_add_21 (by decide) ?_
    refine lv_imul hx hb dX1_add_24 ?_
    refine lv_iload_n hx hb dX1_add_25 rfl (lv_at hl 2 rfl) ?_
    refine lv_bipush (v := 100) hx hb dX1_add_26 (by decide) ?_
    refine lv_imul hx hb dX1_add_28 ?_
    refine lv_iadd hx hb dX1_add_29 ?_
    refine lv_iload_n hx hb dX1_add_30 rfl (lv_at hl 3 rfl) ?_
    refine lv_bipush (v := 10) hx hb dX1_add_31 (by decide) ?_
    refine lv_imul hx hb dX1_add_33 ?_
    refine lv_iadd hx hb dX1_add_34 ?_
    refine lv_iload hx hb dX1_add_35 (lv_at hl 4 rfl) ?_
    refine lv_iadd hx hb dX1_add_37 ?_
    refine xi_ast hx hb hK hP hD hS 1 0 rfl rfl (k := n) (x := ((((x * 1000) + (y * 100)) + (z * 10)) + t)) (by omega) (by decide) dX1_add_38 (fun H locs hP hD hS => ?_)
    have hP : va_P D vwCl [(a0, .inr (1, [.ref a1, .int (nI n)])), (a1, .inl (cI, 40, .inl (upd f n ((((x * 1000) + (y * 100)) + (z * 10)) + t))))] H := hP
    have hD : va_D A [(a0, .inr (1, [.ref a1, .int (nI n)])), (a1, .inl (cI, 40, .inl (upd f n ((((x * 1000) + (y * 100)) + (z * 10)) + t))))] := hD
    refine lv_aload_n hx hb dX1_add_39 rfl (lv_at hl 0 rfl) ?_
    refine lv_dup hx hb dX1_add_40 rfl ?_
    refine va_get (D := D) (ci := 1) (v := .int (nI n)) (C := RX1) (T := TX1) (N := 2) hx hb hts inX1 hown hK hP 0 rfl rfl 1 (by decide) fl15 (fun _ h9 => h9) rfl dX1_add_41 ?_
    refine lv_iconst (v := 1) hx hb dX1_add_44 (by decide) ?_
    refine lv_iadd hx hb dX1_add_45 ?_
    refine tp (y := nI (n + 1)) (nI_1 n) ?_
    refine va_put (D := D) (ci := 1) (v := .int (nI (n + 1))) (ty := .int) (C := RX1) (T := TX1) (N := 2) hx hb hts inX1 tyX1 tyX1_ok nmX1 hown hK hP hD hS 0 rfl rfl 1 (by decide) fl15 (fun _ h9 => h9) rfl (by decide +kernel) rfl rfl (Nat.le_of_ble_eq_true rfl) dX1_add_46 (fun H locs hP hD hS => ?_)
    have hP : va_P D vwCl [(a0, .inr (1, [.ref a1, .int (nI (n + 1))])), (a1, .inl (cI, 40, .inl (upd f n ((((x * 1000) + (y * 100)) + (z * 10)) + t))))] H := hP
    have hD : va_D A [(a0, .inr (1, [.ref a1, .int (nI (n + 1))])), (a1, .inl (cI, 40, .inl (upd f n ((((x * 1000) + (y * 100)) + (z * 10)) + t))))] := hD
    refine lv_aload_n hx hb dX1_add_49 rfl (lv_at hl 0 rfl) ?_
    refine va_get (D := D) (ci := 1) (v := .int (nI (n + 1))) (C := RX1) (T := TX1) (N := 2) hx hb hts inX1 hown hK hP 0 rfl rfl 1 (by decide) fl15 (fun _ h9 => h9) rfl dX1_add_50 ?_
    refine lv_iconst (v := 1) hx hb dX1_add_53 (by decide) ?_
    refine lv_isub hx hb dX1_add_54 ?_
    refine tp (y := nI n) (nI_pred n) ?_
    exact Ri (D := D) (upd f n (x * 1000 + y * 100 + z * 10 + t), nI (n + 1)) hx hb hr rfl hlocks hP hD hS (Or.inr ⟨by omega, rfl, rfl⟩) dX1_add_55
  · have c_6 : ¬ (n < 40) := fun h => c_6 ((nI_ltI (a := n) (b := 40) (by omega) (by omega)).mpr h)
    refine lv_bipush (v := (-2)) hx hb dX1_add_9 (by decide) ?_
    exact Ri (D := D) (f, nI n) hx hb hr rfl hlocks hP hD hS (Or.inl ⟨by omega, rfl, rfl⟩) dX1_add_11

set_option maxHeartbeats 4000000 in
set_option maxRecDepth 100000 in
theorem c_X1_empty (l : Launch) (D : va_G) (cI : ClassId) (a0 a1 : Nat) (f : Nat → Int32) (n : Nat) : Ci l D [(cI, .int)] yX1_empty wsX1_empty ({ frames := 0, cells := 0, slots := 0, locals := 0 }) [.ref a0] (wPl a0 a1 cI f (nI n)) (S := Unit) (fun v _ => v = nI n) (fun _ => wPl a0 a1 cI f 0) := by
  refine Ci.mk (cc := cX1_empty) (maxL := 2) (ret := (some .int)) (by decide +kernel) rfl (Nat.le_of_ble_eq_true rfl) ?_
  intro pg e s m below meth c A ls hx hb hml hr hown hts hlocks hK hns hA hP hD hS hl
  have hl : lv_has ls 2 [(0, .ref a0)] := hl
  have fl15 := hts (.fieldLink RX1 15 "HeldShelves$Plan" "count" "I") (List.mem_of_getElem? (i := 1) rfl)
  have inX1 : ∀ w ∈ wsX10, w ∈ wsX1_empty := fun _ h => List.mem_cons_of_mem _ (List.mem_append_right _ h)
  have hP : va_P D vwCl [(a0, .inr (1, [.ref a1, .int (nI n)])), (a1, .inl (cI, 40, .inl f))] s.heap := hP
  have hD : va_D A [(a0, .inr (1, [.ref a1, .int (nI n)])), (a1, .inl (cI, 40, .inl f))] := hD
  refine lv_aload_n hx hb dX1_empty_0 rfl (lv_at hl 0 rfl) ?_
  refine va_get (D := D) (ci := 1) (v := .int (nI n)) (C := RX1) (T := TX1) (N := 2) hx hb hts inX1 hown hK hP 0 rfl rfl 1 (by decide) fl15 (fun _ h9 => h9) rfl dX1_empty_1 ?_
  refine lv_istore_n (lv' := [(1, .int (nI n)), (0, .ref a0)]) hx hb dX1_empty_4 rfl hl (by decide) rfl (fun ls hl => ?_)
  refine lv_aload_n hx hb dX1_empty_5 rfl (lv_at hl 1 rfl) ?_
  refine lv_iconst (v := 0) hx hb dX1_empty_6 (by decide) ?_
  refine va_put (D := D) (ci := 1) (v := .int 0) (ty := .int) (C := RX1) (T := TX1) (N := 2) hx hb hts inX1 tyX1 tyX1_ok nmX1 hown hK hP hD hS 0 rfl rfl 1 (by decide) fl15 (fun _ h9 => h9) rfl (by decide +kernel) rfl rfl (Nat.le_of_ble_eq_true rfl) dX1_empty_7 (fun H locs hP hD hS => ?_)
  have hP : va_P D vwCl [(a0, .inr (1, [.ref a1, .int 0])), (a1, .inl (cI, 40, .inl f))] H := hP
  have hD : va_D A [(a0, .inr (1, [.ref a1, .int 0])), (a1, .inl (cI, 40, .inl f))] := hD
  refine lv_iload_n hx hb dX1_empty_10 rfl (lv_at hl 0 rfl) ?_
  exact Ri (D := D) () hx hb hr rfl hlocks hP hD hS rfl dX1_empty_11

set_option maxHeartbeats 4000000 in
set_option maxRecDepth 100000 in
theorem c_X1_digitsOf (l : Launch) (D : va_G) (cI : ClassId) (a0 a1 : Nat) (f : Nat → Int32) (n : Nat) (cd : Nat → Nat) (hf : pok f n cd) (i : Nat) (hi : i < n) : Ci l D [(cI, .int)] yX1_digitsOf wsX1_digitsOf ({ frames := 0, cells := 0, slots := 0, locals := 0 }) [.ref a0, .int (nI i)] (wPl a0 a1 cI f (nI n)) (S := Unit) (fun v _ => v = nI (cd i)) (fun _ => wPl a0 a1 cI f (nI n)) := by
  refine Ci.mk (cc := cX1_digitsOf) (maxL := 2) (ret := (some .int)) (by decide +kernel) rfl (Nat.le_of_ble_eq_true rfl) ?_
  intro pg e s m below meth c A ls hx hb hml hr hown hts hlocks hK hns hA hP hD hS hl
  have hl : lv_has ls 2 [(0, .ref a0), (1, .int (nI i))] := hl
  have fl15 := hts (.fieldLink RX1 15 "HeldShelves$Plan" "count" "I") (List.mem_of_getElem? (i := 1) rfl)
  have inX1 : ∀ w ∈ wsX10, w ∈ wsX1_digitsOf := fun _ h => List.mem_cons_of_mem _ (List.mem_append_right _ h)
  have fl9 := hts (.fieldLink RX1 9 "HeldShelves$Plan" "acts" "[I") (List.mem_of_getElem? (i := 2) rfl)
  have hP : va_P D vwCl [(a0, .inr (1, [.ref a1, .int (nI n)])), (a1, .inl (cI, 40, .inl f))] s.heap := hP
  have hD : va_D A [(a0, .inr (1, [.ref a1, .int (nI n)])), (a1, .inl (cI, 40, .inl f))] := hD
  have hn40 := hf.1
  refine lv_iload_n hx hb dX1_digitsOf_0 rfl (lv_at hl 1 rfl) ?_
  refine lv_if_lt (tgt := 21) hx hb dX1_digitsOf_1 (by decide) (fun c_1 => ?_) (fun c_1 => ?_)
  · have c_1 : i < 0 := (nI_ltI (a := i) (b := 0) (by omega) (by omega)).mp c_1
    exact absurd c_1 (by omega)
  · have c_1 : ¬ (i < 0) := fun h => c_1 ((nI_ltI (a := i) (b := 0) (by omega) (by omega)).mpr h)
    refine lv_iload_n hx hb dX1_digitsOf_4 rfl (lv_at hl 1 rfl) ?_
    refine lv_aload_n hx hb dX1_digitsOf_5 rfl (lv_at hl 0 rfl) ?_
    refine va_get (D := D) (ci := 1) (v := .int (nI n)) (C := RX1) (T := TX1) (N := 2) hx hb hts inX1 hown hK hP 0 rfl rfl 1 (by decide) fl15 (fun _ h9 => h9) rfl dX1_digitsOf_6 ?_
    refine lv_icmp_ge (tgt := 21) hx hb dX1_digitsOf_9 (by decide) (fun c_9 => ?_) (fun c_9 => ?_)
    · have c_9 : n ≤ i := (nI_leI (a := n) (b := i) (by omega) (by omega)).mp c_9
      exact absurd c_9 (by omega)
    · have c_9 : ¬ (n ≤ i) := fun h => c_9 ((nI_leI (a := n) (b := i) (by omega) (by omega)).mpr h)
      refine lv_aload_n hx hb dX1_digitsOf_12 rfl (lv_at hl 0 rfl) ?_
      refine va_get (D := D) (ci := 1) (v := .ref a1) (C := RX1) (T := TX1) (N := 2) hx hb hts inX1 hown hK hP 0 rfl rfl 0 (by decide) fl9 (fun _ h9 => h9) rfl dX1_digitsOf_13 ?_
      refine lv_iload_n hx hb dX1_digitsOf_16 rfl (lv_at hl 1 rfl) ?_
      refine xi_ald hx hb hK hP 1 0 rfl rfl (k := i) (by omega) (by decide) dX1_digitsOf_17 ?_
      refine lv_goto (tgt := 22) hx hb dX1_digitsOf_18 (by decide) ?_
      exact Ri (D := D) () hx hb hr rfl hlocks hP hD hS (hf.2 i hi).1 dX1_digitsOf_22

set_option maxHeartbeats 4000000 in
set_option maxRecDepth 100000 in
theorem c_X1_kindOf (l : Launch) (D : va_G) (cI : ClassId) (a0 a1 : Nat) (f : Nat → Int32) (n : Nat) (cd : Nat → Nat) (hf : pok f n cd) (i : Nat) (hi : i < n) : Ci l D [(cI, .int)] yX1_kindOf wsX1_kindOf ({ frames := 0, cells := 0, slots := 0, locals := 0 }) [.ref a0, .int (nI i)] (wPl a0 a1 cI f (nI n)) (S := Unit) (fun v _ => v = nI (cd i / 1000)) (fun _ => wPl a0 a1 cI f (nI n)) := by
  refine Ci.mk (cc := cX1_kindOf) (maxL := 2) (ret := (some .int)) (by decide +kernel) rfl (Nat.le_of_ble_eq_true rfl) ?_
  intro pg e s m below meth c A ls hx hb hml hr hown hts hlocks hK hns hA hP hD hS hl
  have hl : lv_has ls 2 [(0, .ref a0), (1, .int (nI i))] := hl
  have fl15 := hts (.fieldLink RX1 15 "HeldShelves$Plan" "count" "I") (List.mem_of_getElem? (i := 1) rfl)
  have inX1 : ∀ w ∈ wsX10, w ∈ wsX1_kindOf := fun _ h => List.mem_cons_of_mem _ (List.mem_append_right _ h)
  have fl9 := hts (.fieldLink RX1 9 "HeldShelves$Plan" "acts" "[I") (List.mem_of_getElem? (i := 2) rfl)
  have hP : va_P D vwCl [(a0, .inr (1, [.ref a1, .int (nI n)])), (a1, .inl (cI, 40, .inl f))] s.heap := hP
  have hD : va_D A [(a0, .inr (1, [.ref a1, .int (nI n)])), (a1, .inl (cI, 40, .inl f))] := hD
  have hn40 := hf.1
  refine lv_iload_n hx hb dX1_kindOf_0 rfl (lv_at hl 1 rfl) ?_
  refine lv_if_lt (tgt := 25) hx hb dX1_kindOf_1 (by decide) (fun c_1 => ?_) (fun c_1 => ?_)
  · have c_1 : i < 0 := (nI_ltI (a := i) (b := 0) (by omega) (by omega)).mp c_1
    exact absurd c_1 (by omega)
  · have c_1 : ¬ (i < 0) := fun h => c_1 ((nI_ltI (a := i) (b := 0) (by omega) (by omega)).mpr h)
    refine lv_iload_n hx hb dX1_kindOf_4 rfl (lv_at hl 1 rfl) ?_
    refine lv_aload_n hx hb dX1_kindOf_5 rfl (lv_at hl 0 rfl) ?_
    refine va_get (D := D) (ci := 1) (v := .int (nI n)) (C := RX1) (T := TX1) (N := 2) hx hb hts inX1 hown hK hP 0 rfl rfl 1 (by decide) fl15 (fun _ h9 => h9) rfl dX1_kindOf_6 ?_
    refine lv_icmp_ge (tgt := 25) hx hb dX1_kindOf_9 (by decide) (fun c_9 => ?_) (fun c_9 => ?_)
    · have c_9 : n ≤ i := (nI_leI (a := n) (b := i) (by omega) (by omega)).mp c_9
      exact absurd c_9 (by omega)
    · have c_9 : ¬ (n ≤ i) := fun h => c_9 ((nI_leI (a := n) (b := i) (by omega) (by omega)).mpr h)
      refine lv_aload_n hx hb dX1_kindOf_12 rfl (lv_at hl 0 rfl) ?_
      refine va_get (D := D) (ci := 1) (v := .ref a1) (C := RX1) (T := TX1) (N := 2) hx hb hts inX1 hown hK hP 0 rfl rfl 0 (by decide) fl9 (fun _ h9 => h9) rfl dX1_kindOf_13 ?_
      refine lv_iload_n hx hb dX1_kindOf_16 rfl (lv_at hl 1 rfl) ?_
      refine xi_ald hx hb hK hP 1 0 rfl rfl (k := i) (by omega) (by decide) dX1_kindOf_17 ?_
      refine tp (y := nI (cd i)) ((hf.2 i hi).1) ?_
      refine lv_sipush (v := 1000) hx hb dX1_kindOf_18 (by decide) ?_
      refine lv_idiv hx hb dX1_kindOf_21 (by decide) ?_
      refine tp (y := nI (cd i / 1000)) (pk_div (d := 1000) (by have := (hf.2 i hi).2; omega) (by decide) (by decide)) ?_
      refine lv_goto (tgt := 27) hx hb dX1_kindOf_22 (by decide) ?_
      exact Ri (D := D) () hx hb hr rfl hlocks hP hD hS rfl dX1_kindOf_27

set_option maxHeartbeats 4000000 in
set_option maxRecDepth 100000 in
theorem c_X1_aOf (l : Launch) (D : va_G) (cI : ClassId) (a0 a1 : Nat) (f : Nat → Int32) (n : Nat) (cd : Nat → Nat) (hf : pok f n cd) (i : Nat) (hi : i < n) : Ci l D [(cI, .int)] yX1_aOf wsX1_aOf ({ frames := 1, cells := 0, slots := 0, locals := 21 }) [.ref a0, .int (nI i)] (wPl a0 a1 cI f (nI n)) (S := Unit) (fun v _ => v = nI (cd i / 100 % 10)) (fun _ => wPl a0 a1 cI f (nI n)) := by
  refine Ci.mk (cc := cX1_aOf) (maxL := 2) (ret := (some .int)) (by decide +kernel) rfl (Nat.le_of_ble_eq_true rfl) ?_
  intro pg e s m below meth c A ls hx hb hml hr hown hts hlocks hK hns hA hP hD hS hl
  have hl : lv_has ls 2 [(0, .ref a0), (1, .int (nI i))] := hl
  have hP : va_P D vwCl [(a0, .inr (1, [.ref a1, .int (nI n)])), (a1, .inl (cI, 40, .inl f))] s.heap := hP
  have hD : va_D A [(a0, .inr (1, [.ref a1, .int (nI n)])), (a1, .inl (cI, 40, .inl f))] := hD
  have hn40 := hf.1
  refine lv_aload_n hx hb dX1_aOf_0 rfl (lv_at hl 0 rfl) ?_
  refine lv_iload_n hx hb dX1_aOf_1 rfl (lv_at hl 1 rfl) ?_
  refine cl_Vi ([]) ([]) (As := [.int (nI i)]) (rest := []) (c_X1_digitsOf l D cI a0 a1 f n cd hf i hi) ⟨hx, hb, hml, hown, hts⟩ (cwV 1 hts gX1_aOf_X1_digitsOf rfl rfl rfl (by decide +kernel) ⟨Nat.le_of_ble_eq_true rfl, Nat.le_of_ble_eq_true rfl⟩) hK hns hP hD hS hA rfl (T := TX1) (N := 2) rfl rfl hl.1 rfl (Nat.le_of_ble_eq_true rfl) dX1_aOf_2 ⟨Nat.zero_le _, Nat.zero_le _⟩ (fun r2 u2 H locs hw2 hP hD hS => ?_)
  have hP : va_P D vwCl [(a0, .inr (1, [.ref a1, .int (nI n)])), (a1, .inl (cI, 40, .inl f))] H := hP
  have hD : va_D A [(a0, .inr (1, [.ref a1, .int (nI n)])), (a1, .inl (cI, 40, .inl f))] := hD
  subst hw2
  refine lv_bipush (v := 100) hx hb dX1_aOf_5 (by decide) ?_
  refine lv_idiv hx hb dX1_aOf_7 (by decide) ?_
  refine tp (y := nI (cd i / 100)) (pk_div (d := 100) (by have := (hf.2 i hi).2; omega) (by decide) (by decide)) ?_
  refine lv_bipush (v := 10) hx hb dX1_aOf_8 (by decide) ?_
  refine lv_irem hx hb dX1_aOf_10 (by decide) ?_
  refine tp (y := nI (cd i / 100 % 10)) (pk_rem (d := 10) (by have := (hf.2 i hi).2; omega) (by decide) (by decide)) ?_
  exact Ri (D := D) () hx hb hr rfl hlocks hP hD hS rfl dX1_aOf_11

set_option maxHeartbeats 4000000 in
set_option maxRecDepth 100000 in
theorem c_X1_bOf (l : Launch) (D : va_G) (cI : ClassId) (a0 a1 : Nat) (f : Nat → Int32) (n : Nat) (cd : Nat → Nat) (hf : pok f n cd) (i : Nat) (hi : i < n) : Ci l D [(cI, .int)] yX1_bOf wsX1_bOf ({ frames := 1, cells := 0, slots := 0, locals := 21 }) [.ref a0, .int (nI i)] (wPl a0 a1 cI f (nI n)) (S := Unit) (fun v _ => v = nI (cd i / 10 % 10)) (fun _ => wPl a0 a1 cI f (nI n)) := by
  refine Ci.mk (cc := cX1_bOf) (maxL := 2) (ret := (some .int)) (by decide +kernel) rfl (Nat.le_of_ble_eq_true rfl) ?_
  intro pg e s m below meth c A ls hx hb hml hr hown hts hlocks hK hns hA hP hD hS hl
  have hl : lv_has ls 2 [(0, .ref a0), (1, .int (nI i))] := hl
  have hP : va_P D vwCl [(a0, .inr (1, [.ref a1, .int (nI n)])), (a1, .inl (cI, 40, .inl f))] s.heap := hP
  have hD : va_D A [(a0, .inr (1, [.ref a1, .int (nI n)])), (a1, .inl (cI, 40, .inl f))] := hD
  have hn40 := hf.1
  refine lv_aload_n hx hb dX1_bOf_0 rfl (lv_at hl 0 rfl) ?_
  refine lv_iload_n hx hb dX1_bOf_1 rfl (lv_at hl 1 rfl) ?_
  refine cl_Vi ([]) ([]) (As := [.int (nI i)]) (rest := []) (c_X1_digitsOf l D cI a0 a1 f n cd hf i hi) ⟨hx, hb, hml, hown, hts⟩ (cwV 1 hts gX1_bOf_X1_digitsOf rfl rfl rfl (by decide +kernel) ⟨Nat.le_of_ble_eq_true rfl, Nat.le_of_ble_eq_true rfl⟩) hK hns hP hD hS hA rfl (T := TX1) (N := 2) rfl rfl hl.1 rfl (Nat.le_of_ble_eq_true rfl) dX1_bOf_2 ⟨Nat.zero_le _, Nat.zero_le _⟩ (fun r2 u2 H locs hw2 hP hD hS => ?_)
  have hP : va_P D vwCl [(a0, .inr (1, [.ref a1, .int (nI n)])), (a1, .inl (cI, 40, .inl f))] H := hP
  have hD : va_D A [(a0, .inr (1, [.ref a1, .int (nI n)])), (a1, .inl (cI, 40, .inl f))] := hD
  subst hw2
  refine lv_bipush (v := 10) hx hb dX1_bOf_5 (by decide) ?_
  refine lv_idiv hx hb dX1_bOf_7 (by decide) ?_
  refine tp (y := nI (cd i / 10)) (pk_div (d := 10) (by have := (hf.2 i hi).2; omega) (by decide) (by decide)) ?_
  refine lv_bipush (v := 10) hx hb dX1_bOf_8 (by decide) ?_
  refine lv_irem hx hb dX1_bOf_10 (by decide) ?_
  refine tp (y := nI (cd i / 10 % 10)) (pk_rem (d := 10) (by have := (hf.2 i hi).2; omega) (by decide) (by decide)) ?_
  exact Ri (D := D) () hx hb hr rfl hlocks hP hD hS rfl dX1_bOf_11

set_option maxHeartbeats 4000000 in
set_option maxRecDepth 100000 in
theorem c_X1_cOf (l : Launch) (D : va_G) (cI : ClassId) (a0 a1 : Nat) (f : Nat → Int32) (n : Nat) (cd : Nat → Nat) (hf : pok f n cd) (i : Nat) (hi : i < n) : Ci l D [(cI, .int)] yX1_cOf wsX1_cOf ({ frames := 1, cells := 0, slots := 0, locals := 21 }) [.ref a0, .int (nI i)] (wPl a0 a1 cI f (nI n)) (S := Unit) (fun v _ => v = nI (cd i % 10)) (fun _ => wPl a0 a1 cI f (nI n)) := by
  refine Ci.mk (cc := cX1_cOf) (maxL := 2) (ret := (some .int)) (by decide +kernel) rfl (Nat.le_of_ble_eq_true rfl) ?_
  intro pg e s m below meth c A ls hx hb hml hr hown hts hlocks hK hns hA hP hD hS hl
  have hl : lv_has ls 2 [(0, .ref a0), (1, .int (nI i))] := hl
  have hP : va_P D vwCl [(a0, .inr (1, [.ref a1, .int (nI n)])), (a1, .inl (cI, 40, .inl f))] s.heap := hP
  have hD : va_D A [(a0, .inr (1, [.ref a1, .int (nI n)])), (a1, .inl (cI, 40, .inl f))] := hD
  have hn40 := hf.1
  refine lv_aload_n hx hb dX1_cOf_0 rfl (lv_at hl 0 rfl) ?_
  refine lv_iload_n hx hb dX1_cOf_1 rfl (lv_at hl 1 rfl) ?_
  refine cl_Vi ([]) ([]) (As := [.int (nI i)]) (rest := []) (c_X1_digitsOf l D cI a0 a1 f n cd hf i hi) ⟨hx, hb, hml, hown, hts⟩ (cwV 1 hts gX1_cOf_X1_digitsOf rfl rfl rfl (by decide +kernel) ⟨Nat.le_of_ble_eq_true rfl, Nat.le_of_ble_eq_true rfl⟩) hK hns hP hD hS hA rfl (T := TX1) (N := 2) rfl rfl hl.1 rfl (Nat.le_of_ble_eq_true rfl) dX1_cOf_2 ⟨Nat.zero_le _, Nat.zero_le _⟩ (fun r2 u2 H locs hw2 hP hD hS => ?_)
  have hP : va_P D vwCl [(a0, .inr (1, [.ref a1, .int (nI n)])), (a1, .inl (cI, 40, .inl f))] H := hP
  have hD : va_D A [(a0, .inr (1, [.ref a1, .int (nI n)])), (a1, .inl (cI, 40, .inl f))] := hD
  subst hw2
  refine lv_bipush (v := 10) hx hb dX1_cOf_5 (by decide) ?_
  refine lv_irem hx hb dX1_cOf_7 (by decide) ?_
  refine tp (y := nI (cd i % 10)) (pk_rem (d := 10) (by have := (hf.2 i hi).2; omega) (by decide) (by decide)) ?_
  exact Ri (D := D) () hx hb hr rfl hlocks hP hD hS rfl dX1_cOf_8

set_option maxHeartbeats 4000000 in
set_option maxRecDepth 100000 in
theorem c_X1_deeperBy (l : Launch) (D : va_G) (cI : ClassId) (a0 a1 : Nat) (f : Nat → Int32) (n : Nat) (cd : Nat → Nat) (hf : pok f n cd) (i : Nat) (hi : i < n) : Ci l D [(cI, .int)] yX1_deeperBy wsX1_deeperBy ({ frames := 1, cells := 0, slots := 0, locals := 21 }) [.ref a0, .int (nI i)] (wPl a0 a1 cI f (nI n)) (S := Unit) (fun v _ => (v = 1 ∧ dp cd (i + 1) = dp cd i + 1) ∨ (v = -1 ∧ dp cd (i + 1) = dp cd i - 1) ∨ (v = 0 ∧ dp cd (i + 1) = dp cd i)) (fun _ => wPl a0 a1 cI f (nI n)) := by
  refine Ci.mk (cc := cX1_deeperBy) (maxL := 3) (ret := (some .int)) (by decide +kernel) rfl (Nat.le_of_ble_eq_true rfl) ?_
  intro pg e s m below meth c A ls hx hb hml hr hown hts hlocks hK hns hA hP hD hS hl
  have hl : lv_has ls 3 [(0, .ref a0), (1, .int (nI i))] := hl
  have hP : va_P D vwCl [(a0, .inr (1, [.ref a1, .int (nI n)])), (a1, .inl (cI, 40, .inl f))] s.heap := hP
  have hD : va_D A [(a0, .inr (1, [.ref a1, .int (nI n)])), (a1, .inl (cI, 40, .inl f))] := hD
  have hn40 := hf.1
  have hc4 : cd i / 1000 < 10 := by have := (hf.2 i hi).2; omega
  refine lv_aload_n hx hb dX1_deeperBy_0 rfl (lv_at hl 0 rfl) ?_
  refine lv_iload_n hx hb dX1_deeperBy_1 rfl (lv_at hl 1 rfl) ?_
  refine cl_Vi ([]) ([]) (As := [.int (nI i)]) (rest := []) (c_X1_kindOf l D cI a0 a1 f n cd hf i hi) ⟨hx, hb, hml, hown, hts⟩ (cwV 1 hts gX1_deeperBy_X1_kindOf rfl rfl rfl (by decide +kernel) ⟨Nat.le_of_ble_eq_true rfl, Nat.le_of_ble_eq_true rfl⟩) hK hns hP hD hS hA rfl (T := TX1) (N := 2) rfl rfl hl.1 rfl (Nat.le_of_ble_eq_true rfl) dX1_deeperBy_2 ⟨Nat.zero_le _, Nat.zero_le _⟩ (fun r2 u2 H locs hw2 hP hD hS => ?_)
  have hP : va_P D vwCl [(a0, .inr (1, [.ref a1, .int (nI n)])), (a1, .inl (cI, 40, .inl f))] H := hP
  have hD : va_D A [(a0, .inr (1, [.ref a1, .int (nI n)])), (a1, .inl (cI, 40, .inl f))] := hD
  subst hw2
  refine lv_istore_n (lv' := [(2, .int (nI (cd i / 1000))), (0, .ref a0), (1, .int (nI i))]) hx hb dX1_deeperBy_5 rfl hl (by decide) rfl (fun ls hl => ?_)
  refine lv_iload_n hx hb dX1_deeperBy_6 rfl (lv_at hl 0 rfl) ?_
  refine lv_if_eq (tgt := 15) hx hb dX1_deeperBy_7 (by decide) (fun c_7 => ?_) (fun c_7 => ?_)
  · have c_7 : (cd i / 1000) = 0 := (nI_eq (a := (cd i / 1000)) (b := 0) (by omega) (by omega)).mp c_7
    refine lv_iconst (v := 1) hx hb dX1_deeperBy_15 (by decide) ?_
    exact Ri (D := D) () hx hb hr rfl hlocks hP hD hS (Or.inl ⟨rfl, by simp only [dp, dk]; rw [if_pos (by omega)]⟩) dX1_deeperBy_16
  · have c_7 : ¬ ((cd i / 1000) = 0) := fun h => c_7 ((nI_eq (a := (cd i / 1000)) (b := 0) (by omega) (by omega)).mpr h)
    refine lv_iload_n hx hb dX1_deeperBy_10 rfl (lv_at hl 0 rfl) ?_
    refine lv_iconst (v := 1) hx hb dX1_deeperBy_11 (by decide) ?_
    refine lv_icmp_ne (tgt := 17) hx hb dX1_deeperBy_12 (by decide) (fun c_12 => ?_) (fun c_12 => ?_)
    · have c_12 : ¬ ((cd i / 1000) = 1) := fun h => c_12 ((nI_eq (a := (cd i / 1000)) (b := 1) (by omega) (by omega)).mpr h)
      refine lv_iload_n hx hb dX1_deeperBy_17 rfl (lv_at hl 0 rfl) ?_
      refine lv_iconst (v := 2) hx hb dX1_deeperBy_18 (by decide) ?_
      refine lv_icmp_ne (tgt := 26) hx hb dX1_deeperBy_19 (by decide) (fun c_19 => ?_) (fun c_19 => ?_)
      · have c_19 : ¬ ((cd i / 1000) = 2) := fun h => c_19 ((nI_eq (a := (cd i / 1000)) (b := 2) (by omega) (by omega)).mpr h)
        refine lv_iconst (v := 0) hx hb dX1_deeperBy_26 (by decide) ?_
        exact Ri (D := D) () hx hb hr rfl hlocks hP hD hS (Or.inr (Or.inr ⟨rfl, by simp only [dp, dk]; rw [if_neg (by omega), if_neg (by omega)]; omega⟩)) dX1_deeperBy_27
      · have c_19 : (cd i / 1000) = 2 := (nI_eq (a := (cd i / 1000)) (b := 2) (by omega) (by omega)).mp c_19
        refine lv_iconst (v := (-1)) hx hb dX1_deeperBy_22 (by decide) ?_
        refine lv_goto (tgt := 27) hx hb dX1_deeperBy_23 (by decide) ?_
        exact Ri (D := D) () hx hb hr rfl hlocks hP hD hS (Or.inr (Or.inl ⟨rfl, by simp only [dp, dk]; rw [if_neg (by omega), if_pos (by omega)]; rfl⟩)) dX1_deeperBy_27
    · have c_12 : (cd i / 1000) = 1 := (nI_eq (a := (cd i / 1000)) (b := 1) (by omega) (by omega)).mp c_12
      refine lv_iconst (v := 1) hx hb dX1_deeperBy_15 (by decide) ?_
      exact Ri (D := D) () hx hb hr rfl hlocks hP hD hS (Or.inl ⟨rfl, by simp only [dp, dk]; rw [if_pos (by omega)]⟩) dX1_deeperBy_16

set_option maxHeartbeats 4000000 in
set_option maxRecDepth 100000 in
theorem c_X1_isClosed (l : Launch) (D : va_G) (cI : ClassId) (a0 a1 : Nat) (f : Nat → Int32) (n : Nat) (cd : Nat → Nat) (hf : pok f n cd) : Ci l D [(cI, .int)] yX1_isClosed wsX1_isClosed ({ frames := 2, cells := 0, slots := 0, locals := 43 }) [.ref a0] (wPl a0 a1 cI f (nI n)) (S := Unit) (fun v _ => (v = 1 ∧ clo n cd) ∨ (v = 0 ∧ ¬ clo n cd)) (fun _ => wPl a0 a1 cI f (nI n)) := by
  refine Ci.mk (cc := cX1_isClosed) (maxL := 3) (ret := (some .boolean)) (by decide +kernel) rfl (Nat.le_of_ble_eq_true rfl) ?_
  intro pg e s m below meth c A ls hx hb hml hr hown hts hlocks hK hns hA hP hD hS hl
  have hl : lv_has ls 3 [(0, .ref a0)] := hl
  have fl15 := hts (.fieldLink RX1 15 "HeldShelves$Plan" "count" "I") (List.mem_of_getElem? (i := 1) rfl)
  have inX1 : ∀ w ∈ wsX10, w ∈ wsX1_isClosed := fun _ h => List.mem_cons_of_mem _ (List.mem_append_right _ h)
  have hP : va_P D vwCl [(a0, .inr (1, [.ref a1, .int (nI n)])), (a1, .inl (cI, 40, .inl f))] s.heap := hP
  have hD : va_D A [(a0, .inr (1, [.ref a1, .int (nI n)])), (a1, .inl (cI, 40, .inl f))] := hD
  have hn40 := hf.1
  refine lv_iconst (v := 0) hx hb dX1_isClosed_0 (by decide) ?_
  refine lv_istore_n (lv' := [(1, .int 0), (0, .ref a0)]) hx hb dX1_isClosed_1 rfl hl (by decide) rfl (fun ls hl => ?_)
  refine lv_iconst (v := 0) hx hb dX1_isClosed_2 (by decide) ?_
  refine lv_istore_n (lv' := [(2, .int 0), (1, .int 0), (0, .ref a0)]) hx hb dX1_isClosed_3 rfl hl (by decide) rfl (fun ls hl => ?_)
  have loop4 : ∀ (k : Nat) (i : Nat) (d : Nat), n + 1 ≤ i + k → i ≤ n → (d : Int) = dp cd i → (∀ j, j ≤ i → 0 ≤ dp cd j) → d ≤ i → ∀ (H : Heap) (locs : List Loc), va_P D vwCl [(a0, .inr (1, [.ref a1, .int (nI n)])), (a1, .inl (cI, 40, .inl f))] H → va_D A [(a0, .inr (1, [.ref a1, .int (nI n)])), (a1, .inl (cI, 40, .inl f))] → va_S A s.heap H locs → ∀ (ls : Array Slot), lv_has ls 3 [(0, .ref a0), (2, .int (nI i)), (1, .int (nI d))] → W pg l e ({ frames := 2, cells := 0, slots := 0, locals := 43 } : Room) s m ([.ref a0] : List Value).toArray below meth c H locs 0 0 (Qi D below ([.ref a0] : List Value).toArray s A (S := Unit) (fun v _ => (v = 1 ∧ clo n cd) ∨ (v = 0 ∧ ¬ clo n cd)) (fun _ => wPl a0 a1 cI f (nI n))) (F0 m 4 ls []) := by
    intro k
    induction k with
    | zero => intro i d hk hi hd hall hdi; exact absurd hk (by omega)
    | succ k ih =>
      intro i d hk hi hd hall hdi H locs hP hD hS ls hl
      refine lv_iload_n hx hb dX1_isClosed_4 rfl (lv_at hl 1 rfl) ?_
      refine lv_aload_n hx hb dX1_isClosed_5 rfl (lv_at hl 0 rfl) ?_
      refine va_get (D := D) (ci := 1) (v := .int (nI n)) (C := RX1) (T := TX1) (N := 2) hx hb hts inX1 hown hK hP 0 rfl rfl 1 (by decide) fl15 (fun _ h9 => h9) rfl dX1_isClosed_6 ?_
      refine lv_icmp_ge (tgt := 32) hx hb dX1_isClosed_9 (by decide) (fun c_9 => ?_) (fun c_9 => ?_)
      · have c_9 : n ≤ i := (nI_leI (a := n) (b := i) (by omega) (by omega)).mp c_9
        refine lv_iload_n hx hb dX1_isClosed_32 rfl (lv_at hl 2 rfl) ?_
        refine lv_if_ne (tgt := 40) hx hb dX1_isClosed_33 (by decide) (fun c_33 => ?_) (fun c_33 => ?_)
        · have c_33 : ¬ (d = 0) := fun h => c_33 ((nI_eq (a := d) (b := 0) (by omega) (by omega)).mpr h)
          refine lv_iconst (v := 0) hx hb dX1_isClosed_40 (by decide) ?_
          exact Ri (D := D) () hx hb hr (by decide) hlocks hP hD hS (Or.inr ⟨rfl, fun hc => by have h9 := hc.2; rw [show n = i by omega] at h9; omega⟩) dX1_isClosed_41
        · have c_33 : d = 0 := (nI_eq (a := d) (b := 0) (by omega) (by omega)).mp c_33
          refine lv_iconst (v := 1) hx hb dX1_isClosed_36 (by decide) ?_
          refine lv_goto (tgt := 41) hx hb dX1_isClosed_37 (by decide) ?_
          exact Ri (D := D) () hx hb hr (by decide) hlocks hP hD hS (Or.inl ⟨rfl, ⟨fun j hj => hall j (by omega), by rw [show n = i by omega]; omega⟩⟩) dX1_isClosed_41
      · have c_9 : ¬ (n ≤ i) := fun h => c_9 ((nI_leI (a := n) (b := i) (by omega) (by omega)).mpr h)
        have c_9 : i < n := by omega
        refine lv_iload_n hx hb dX1_isClosed_12 rfl (lv_at hl 2 rfl) ?_
        refine lv_aload_n hx hb dX1_isClosed_13 rfl (lv_at hl 0 rfl) ?_
        refine lv_iload_n hx hb dX1_isClosed_14 rfl (lv_at hl 1 rfl) ?_
        refine cl_Vi ([]) ([]) (As := [.int (nI i)]) (rest := [.int (nI d)]) (c_X1_deeperBy l D cI a0 a1 f n cd hf i c_9) ⟨hx, hb, hml, hown, hts⟩ (cwV 1 hts gX1_isClosed_X1_deeperBy rfl rfl rfl (by decide +kernel) ⟨Nat.le_of_ble_eq_true rfl, Nat.le_of_ble_eq_true rfl⟩) hK hns hP hD hS hA rfl (T := TX1) (N := 2) rfl rfl hl.1 rfl (Nat.le_of_ble_eq_true rfl) dX1_isClosed_15 ⟨Nat.zero_le _, Nat.zero_le _⟩ (fun r15 u15 H locs hw15 hP hD hS => ?_)
        have hP : va_P D vwCl [(a0, .inr (1, [.ref a1, .int (nI n)])), (a1, .inl (cI, 40, .inl f))] H := hP
        have hD : va_D A [(a0, .inr (1, [.ref a1, .int (nI n)])), (a1, .inl (cI, 40, .inl f))] := hD
        refine lv_iadd hx hb dX1_isClosed_18 ?_
        rcases dp_step (d := d) (z := 0) (by omega) hw15 with ⟨e, he1, he2, he3⟩ | ⟨he1, he2, he3⟩
        · refine tp (y := nI e) (he1) ?_
          refine lv_istore_n (lv' := [(1, .int (nI e)), (0, .ref a0), (2, .int (nI i))]) hx hb dX1_isClosed_19 rfl hl (by decide) rfl (fun ls hl => ?_)
          refine lv_iload_n hx hb dX1_isClosed_20 rfl (lv_at hl 0 rfl) ?_
          refine lv_if_ge (tgt := 26) hx hb dX1_isClosed_21 (by decide) (fun c_21 => ?_) (fun c_21 => ?_)
          · have c_21 : 0 ≤ e := (nI_leI (a := 0) (b := e) (by omega) (by omega)).mp c_21
            refine lv_iinc (v := (nI (i + 1))) (lv' := [(2, .int (nI (i + 1))), (1, .int (nI e)), (0, .ref a0)]) hx hb dX1_isClosed_26 hl (k := 2) rfl (nI_1 i) (by decide) rfl (fun ls hl => ?_)
            refine lv_goto (tgt := 4) hx hb dX1_isClosed_29 (by decide) ?_
            exact ih (i + 1) e (by omega) (by omega) (by omega) (fun j hj => (Nat.lt_or_ge i j).elim (fun q => by rw [show j = i + 1 by omega]; omega) (fun q => hall j q)) (by omega) _ _ hP hD hS ls (lv_sub hl [2, 0, 1] rfl)
          · have c_21 : ¬ (0 ≤ e) := fun h => c_21 ((nI_leI (a := 0) (b := e) (by omega) (by omega)).mpr h)
            exact absurd c_21 (by omega)
        · refine tp (y := (-1)) (he1) ?_
          refine lv_istore_n (lv' := [(1, .int (-1)), (0, .ref a0), (2, .int (nI i))]) hx hb dX1_isClosed_19 rfl hl (by decide) rfl (fun ls hl => ?_)
          refine lv_iload_n hx hb dX1_isClosed_20 rfl (lv_at hl 0 rfl) ?_
          refine lv_if_ge (tgt := 26) hx hb dX1_isClosed_21 (by decide) (fun c9 => absurd c9 (by decide)) (fun _ => ?_)
          refine lv_iconst (v := 0) hx hb dX1_isClosed_24 (by decide) ?_
          exact Ri (D := D) () hx hb hr (by decide) hlocks hP hD hS (Or.inr ⟨rfl, fun hc => by have := hc.1 (i + 1) (by omega); omega⟩) dX1_isClosed_25
  exact loop4 (n + 1) 0 0 (by omega) (by omega) rfl (fun j hj => by rw [Nat.le_zero.mp hj]; exact Int.le_refl _) (Nat.le_refl _) _ _ hP hD hS ls (lv_sub hl [2, 0, 1] rfl)

set_option maxHeartbeats 4000000 in
set_option maxRecDepth 100000 in
theorem c_X1_behindBlock (l : Launch) (D : va_G) (cI : ClassId) (a0 a1 : Nat) (f : Nat → Int32) (n : Nat) (cd : Nat → Nat) (hf : pok f n cd) (bg : Nat) (hbg : bg < n) (hkd : cd bg / 1000 ≤ 1) (hcl : clo n cd) : Ci l D [(cI, .int)] yX1_behindBlock wsX1_behindBlock ({ frames := 2, cells := 0, slots := 0, locals := 43 }) [.ref a0, .int (nI bg)] (wPl a0 a1 cI f (nI n)) (S := Unit) (fun v _ => ∃ k, v = nI k ∧ isBeh cd bg k ∧ k ≤ n) (fun _ => wPl a0 a1 cI f (nI n)) := by
  refine Ci.mk (cc := cX1_behindBlock) (maxL := 4) (ret := (some .int)) (by decide +kernel) rfl (Nat.le_of_ble_eq_true rfl) ?_
  intro pg e s m below meth c A ls hx hb hml hr hown hts hlocks hK hns hA hP hD hS hl
  have hl : lv_has ls 4 [(0, .ref a0), (1, .int (nI bg))] := hl
  have fl15 := hts (.fieldLink RX1 15 "HeldShelves$Plan" "count" "I") (List.mem_of_getElem? (i := 1) rfl)
  have inX1 : ∀ w ∈ wsX10, w ∈ wsX1_behindBlock := fun _ h => List.mem_cons_of_mem _ (List.mem_append_right _ h)
  have hP : va_P D vwCl [(a0, .inr (1, [.ref a1, .int (nI n)])), (a1, .inl (cI, 40, .inl f))] s.heap := hP
  have hD : va_D A [(a0, .inr (1, [.ref a1, .int (nI n)])), (a1, .inl (cI, 40, .inl f))] := hD
  have hn40 := hf.1
  have hst : dp cd (bg + 1) = dp cd bg + 1 := by simp only [dp, dk]; rw [if_pos hkd]
  refine lv_iconst (v := 0) hx hb dX1_behindBlock_0 (by decide) ?_
  refine lv_istore_n (lv' := [(2, .int 0), (0, .ref a0), (1, .int (nI bg))]) hx hb dX1_behindBlock_1 rfl hl (by decide) rfl (fun ls hl => ?_)
  refine lv_iload_n hx hb dX1_behindBlock_2 rfl (lv_at hl 2 rfl) ?_
  refine lv_istore_n (lv' := [(3, .int (nI bg)), (2, .int 0), (0, .ref a0), (1, .int (nI bg))]) hx hb dX1_behindBlock_3 rfl hl (by decide) rfl (fun ls hl => ?_)
  have loop4 : ∀ (k : Nat) (i : Nat) (d : Nat), n + 1 ≤ i + k → bg ≤ i → i ≤ n → (d : Int) = dp cd i - dp cd bg → (i = bg ∨ 0 < d) → (∀ j, bg < j → j ≤ i → dp cd bg < dp cd j) → d ≤ i → ∀ (H : Heap) (locs : List Loc), va_P D vwCl [(a0, .inr (1, [.ref a1, .int (nI n)])), (a1, .inl (cI, 40, .inl f))] H → va_D A [(a0, .inr (1, [.ref a1, .int (nI n)])), (a1, .inl (cI, 40, .inl f))] → va_S A s.heap H locs → ∀ (ls : Array Slot), lv_has ls 4 [(0, .ref a0), (1, .int (nI bg)), (3, .int (nI i)), (2, .int (nI d))] → W pg l e ({ frames := 2, cells := 0, slots := 0, locals := 43 } : Room) s m ([.ref a0, .int (nI bg)] : List Value).toArray below meth c H locs 0 0 (Qi D below ([.ref a0, .int (nI bg)] : List Value).toArray s A (S := Unit) (fun v _ => ∃ k, v = nI k ∧ isBeh cd bg k ∧ k ≤ n) (fun _ => wPl a0 a1 cI f (nI n))) (F0 m 4 ls []) := by
    intro k
    induction k with
    | zero => intro i d hk hi hi2 hd hpos hall hdi; exact absurd hk (by omega)
    | succ k ih =>
      intro i d hk hi hi2 hd hpos hall hdi H locs hP hD hS ls hl
      refine lv_iload_n hx hb dX1_behindBlock_4 rfl (lv_at hl 2 rfl) ?_
      refine lv_aload_n hx hb dX1_behindBlock_5 rfl (lv_at hl 0 rfl) ?_
      refine va_get (D := D) (ci := 1) (v := .int (nI n)) (C := RX1) (T := TX1) (N := 2) hx hb hts inX1 hown hK hP 0 rfl rfl 1 (by decide) fl15 (fun _ h9 => h9) rfl dX1_behindBlock_6 ?_
      refine lv_icmp_ge (tgt := 34) hx hb dX1_behindBlock_9 (by decide) (fun c_9 => ?_) (fun c_9 => ?_)
      · have c_9 : n ≤ i := (nI_leI (a := n) (b := i) (by omega) (by omega)).mp c_9
        exact absurd hpos (fun q => q.elim (fun q => by omega) (fun q => by have h8 := hcl.2; have h9 := hcl.1 bg (by omega); rw [show n = i by omega] at h8; omega))
      · have c_9 : ¬ (n ≤ i) := fun h => c_9 ((nI_leI (a := n) (b := i) (by omega) (by omega)).mpr h)
        have c_9 : i < n := by omega
        refine lv_iload_n hx hb dX1_behindBlock_12 rfl (lv_at hl 3 rfl) ?_
        refine lv_aload_n hx hb dX1_behindBlock_13 rfl (lv_at hl 0 rfl) ?_
        refine lv_iload_n hx hb dX1_behindBlock_14 rfl (lv_at hl 2 rfl) ?_
        refine cl_Vi ([]) ([]) (As := [.int (nI i)]) (rest := [.int (nI d)]) (c_X1_deeperBy l D cI a0 a1 f n cd hf i c_9) ⟨hx, hb, hml, hown, hts⟩ (cwV 1 hts gX1_behindBlock_X1_deeperBy rfl rfl rfl (by decide +kernel) ⟨Nat.le_of_ble_eq_true rfl, Nat.le_of_ble_eq_true rfl⟩) hK hns hP hD hS hA rfl (T := TX1) (N := 2) rfl rfl hl.1 rfl (Nat.le_of_ble_eq_true rfl) dX1_behindBlock_15 ⟨Nat.zero_le _, Nat.zero_le _⟩ (fun r15 u15 H locs hw15 hP hD hS => ?_)
        have hP : va_P D vwCl [(a0, .inr (1, [.ref a1, .int (nI n)])), (a1, .inl (cI, 40, .inl f))] H := hP
        have hD : va_D A [(a0, .inr (1, [.ref a1, .int (nI n)])), (a1, .inl (cI, 40, .inl f))] := hD
        refine lv_iadd hx hb dX1_behindBlock_18 ?_
        rcases dp_step (d := d) (z := dp cd bg) hd hw15 with ⟨e, he1, he2, he3⟩ | ⟨he1, he2, he3⟩
        · refine tp (y := nI e) (he1) ?_
          refine lv_istore_n (lv' := [(2, .int (nI e)), (0, .ref a0), (1, .int (nI bg)), (3, .int (nI i))]) hx hb dX1_behindBlock_19 rfl hl (by decide) rfl (fun ls hl => ?_)
          refine lv_iload_n hx hb dX1_behindBlock_20 rfl (lv_at hl 0 rfl) ?_
          refine lv_if_gt (tgt := 28) hx hb dX1_behindBlock_21 (by decide) (fun c_21 => ?_) (fun c_21 => ?_)
          · have c_21 : 0 < e := (nI_ltI (a := 0) (b := e) (by omega) (by omega)).mp c_21
            refine lv_iinc (v := (nI (i + 1))) (lv' := [(3, .int (nI (i + 1))), (2, .int (nI e)), (0, .ref a0), (1, .int (nI bg))]) hx hb dX1_behindBlock_28 hl (k := 3) rfl (nI_1 i) (by decide) rfl (fun ls hl => ?_)
            refine lv_goto (tgt := 4) hx hb dX1_behindBlock_31 (by decide) ?_
            exact ih (i + 1) e (by omega) (by omega) (by omega) (by omega) (Or.inr (by omega)) (fun j h1 h2 => (Nat.lt_or_ge i j).elim (fun q => by rw [show j = i + 1 by omega]; omega) (fun q => hall j h1 q)) (by omega) _ _ hP hD hS ls (lv_sub hl [2, 3, 0, 1] rfl)
          · have c_21 : ¬ (0 < e) := fun h => c_21 ((nI_ltI (a := 0) (b := e) (by omega) (by omega)).mpr h)
            refine lv_iload_n hx hb dX1_behindBlock_24 rfl (lv_at hl 3 rfl) ?_
            refine lv_iconst (v := 1) hx hb dX1_behindBlock_25 (by decide) ?_
            refine lv_iadd hx hb dX1_behindBlock_26 ?_
            refine tp (y := nI (i + 1)) (nI_1 i) ?_
            exact Ri (D := D) () hx hb hr rfl hlocks hP hD hS ⟨i + 1, rfl, ⟨by omega, by omega, fun j h1 h2 => hall j h1 (by omega)⟩, by omega⟩ dX1_behindBlock_27
        · exact absurd hpos (fun q => q.elim (fun q => by rw [q] at he2; omega) (fun q => by omega))
  exact loop4 (n + 1) bg 0 (by omega) (Nat.le_refl _) (by omega) (by omega) (Or.inl rfl) (fun j h1 h2 => absurd h1 (by omega)) (by omega) _ _ hP hD hS ls (lv_sub hl [2, 3, 0, 1] rfl)

set_option maxHeartbeats 4000000 in
set_option maxRecDepth 100000 in
theorem c_X2_steps (l : Launch) (D : va_G) (cI : ClassId) (a : Nat → Nat) (ct td : Nat → Int32) (op : Int32) : Ci l D [(cI, .int)] yX2_steps wsX2_steps ({ frames := 0, cells := 0, slots := 0, locals := 0 }) [.ref (a 0)] (wRp a cI ct td op) (S := Unit) (fun v _ => v = td 3) (fun _ => wRp a cI ct td op) := by
  refine Ci.mk (cc := cX2_steps) (maxL := 1) (ret := (some .int)) (by decide +kernel) rfl (Nat.le_of_ble_eq_true rfl) ?_
  intro pg e s m below meth c A ls hx hb hml hr hown hts hlocks hK hns hA hP hD hS hl
  have hl : lv_has ls 1 [(0, .ref (a 0))] := hl
  have fl29 := hts (.fieldLink RX2 29 "HeldShelves$Report" "steps" "I") (List.mem_of_getElem? (i := 1) rfl)
  have inX2 : ∀ w ∈ wsX20, w ∈ wsX2_steps := fun _ h => List.mem_cons_of_mem _ (List.mem_append_right _ h)
  have hP : va_P D vwCl [(a 0, .inr (2, [.ref (a 1), .int (td 6), .int (td 0), .int (td 1), .int (td 2), .int (td 3), .int (td 4), .int op, .int (td 5), .int (td 7)])), (a 1, .inl (cI, 10, .inl ct))] s.heap := hP
  have hD : va_D A [(a 0, .inr (2, [.ref (a 1), .int (td 6), .int (td 0), .int (td 1), .int (td 2), .int (td 3), .int (td 4), .int op, .int (td 5), .int (td 7)])), (a 1, .inl (cI, 10, .inl ct))] := hD
  refine lv_aload_n hx hb dX2_steps_0 rfl (lv_at hl 0 rfl) ?_
  refine va_get (D := D) (ci := 2) (v := .int (td 3)) (C := RX2) (T := TX2) (N := 10) hx hb hts inX2 hown hK hP 0 rfl rfl 5 (by decide) fl29 (fun _ h9 => h9) rfl dX2_steps_1 ?_
  exact Ri (D := D) () hx hb hr rfl hlocks hP hD hS rfl dX2_steps_4

set_option maxHeartbeats 4000000 in
set_option maxRecDepth 100000 in
theorem c_X2_countStep (l : Launch) (D : va_G) (cI : ClassId) (a : Nat → Nat) (ct td : Nat → Int32) (op : Int32) : Cv l D [(cI, .int)] yX2_countStep wsX2_countStep ({ frames := 0, cells := 0, slots := 0, locals := 0 }) [.ref (a 0)] (wRp a cI ct td op) (S := Unit) (fun _ => True) (fun _ => wRp a cI ct (upd td 3 (td 3 + 1)) op) := by
  refine Cv.mk (cc := cX2_countStep) (maxL := 1) (ret := none) (by decide +kernel) rfl (Nat.le_of_ble_eq_true rfl) ?_
  intro pg e s m below meth c A ls hx hb hml hr hown hts hlocks hK hns hA hP hD hS hl
  have hl : lv_has ls 1 [(0, .ref (a 0))] := hl
  have fl29 := hts (.fieldLink RX2 29 "HeldShelves$Report" "steps" "I") (List.mem_of_getElem? (i := 1) rfl)
  have inX2 : ∀ w ∈ wsX20, w ∈ wsX2_countStep := fun _ h => List.mem_cons_of_mem _ (List.mem_append_right _ h)
  have hP : va_P D vwCl [(a 0, .inr (2, [.ref (a 1), .int (td 6), .int (td 0), .int (td 1), .int (td 2), .int (td 3), .int (td 4), .int op, .int (td 5), .int (td 7)])), (a 1, .inl (cI, 10, .inl ct))] s.heap := hP
  have hD : va_D A [(a 0, .inr (2, [.ref (a 1), .int (td 6), .int (td 0), .int (td 1), .int (td 2), .int (td 3), .int (td 4), .int op, .int (td 5), .int (td 7)])), (a 1, .inl (cI, 10, .inl ct))] := hD
  refine lv_aload_n hx hb dX2_countStep_0 rfl (lv_at hl 0 rfl) ?_
  refine lv_dup hx hb dX2_countStep_1 rfl ?_
  refine va_get (D := D) (ci := 2) (v := .int (td 3)) (C := RX2) (T := TX2) (N := 10) hx hb hts inX2 hown hK hP 0 rfl rfl 5 (by decide) fl29 (fun _ h9 => h9) rfl dX2_countStep_2 ?_
  refine lv_iconst (v := 1) hx hb dX2_countStep_5 (by decide) ?_
  refine lv_iadd hx hb dX2_countStep_6 ?_
  refine va_put (D := D) (ci := 2) (v := .int ((td 3) + 1)) (ty := .int) (C := RX2) (T := TX2) (N := 10) hx hb hts inX2 tyX2 tyX2_ok nmX2 hown hK hP hD hS 0 rfl rfl 5 (by decide) fl29 (fun _ h9 => h9) rfl (by decide +kernel) rfl rfl (Nat.le_of_ble_eq_true rfl) dX2_countStep_7 (fun H locs hP hD hS => ?_)
  have hP : va_P D vwCl [(a 0, .inr (2, [.ref (a 1), .int (td 6), .int (td 0), .int (td 1), .int (td 2), .int ((td 3) + 1), .int (td 4), .int op, .int (td 5), .int (td 7)])), (a 1, .inl (cI, 10, .inl ct))] H := hP
  have hD : va_D A [(a 0, .inr (2, [.ref (a 1), .int (td 6), .int (td 0), .int (td 1), .int (td 2), .int ((td 3) + 1), .int (td 4), .int op, .int (td 5), .int (td 7)])), (a 1, .inl (cI, 10, .inl ct))] := hD
  exact Rv (D := D) () hx hb hr hlocks hP hD hS trivial dX2_countStep_10

set_option maxHeartbeats 4000000 in
set_option maxRecDepth 100000 in
theorem c_X2_countCall (l : Launch) (D : va_G) (cI : ClassId) (a : Nat → Nat) (ct td : Nat → Int32) (op : Int32) : Cv l D [(cI, .int)] yX2_countCall wsX2_countCall ({ frames := 0, cells := 0, slots := 0, locals := 0 }) [.ref (a 0)] (wRp a cI ct td op) (S := Unit) (fun _ => True) (fun _ => wRp a cI ct (upd td 7 (td 7 + 1)) op) := by
  refine Cv.mk (cc := cX2_countCall) (maxL := 1) (ret := none) (by decide +kernel) rfl (Nat.le_of_ble_eq_true rfl) ?_
  intro pg e s m below meth c A ls hx hb hml hr hown hts hlocks hK hns hA hP hD hS hl
  have hl : lv_has ls 1 [(0, .ref (a 0))] := hl
  have fl41 := hts (.fieldLink RX2 41 "HeldShelves$Report" "calls" "I") (List.mem_of_getElem? (i := 1) rfl)
  have inX2 : ∀ w ∈ wsX20, w ∈ wsX2_countCall := fun _ h => List.mem_cons_of_mem _ (List.mem_append_right _ h)
  have hP : va_P D vwCl [(a 0, .inr (2, [.ref (a 1), .int (td 6), .int (td 0), .int (td 1), .int (td 2), .int (td 3), .int (td 4), .int op, .int (td 5), .int (td 7)])), (a 1, .inl (cI, 10, .inl ct))] s.heap := hP
  have hD : va_D A [(a 0, .inr (2, [.ref (a 1), .int (td 6), .int (td 0), .int (td 1), .int (td 2), .int (td 3), .int (td 4), .int op, .int (td 5), .int (td 7)])), (a 1, .inl (cI, 10, .inl ct))] := hD
  refine lv_aload_n hx hb dX2_countCall_0 rfl (lv_at hl 0 rfl) ?_
  refine lv_dup hx hb dX2_countCall_1 rfl ?_
  refine va_get (D := D) (ci := 2) (v := .int (td 7)) (C := RX2) (T := TX2) (N := 10) hx hb hts inX2 hown hK hP 0 rfl rfl 9 (by decide) fl41 (fun _ h9 => h9) rfl dX2_countCall_2 ?_
  refine lv_iconst (v := 1) hx hb dX2_countCall_5 (by decide) ?_
  refine lv_iadd hx hb dX2_countCall_6 ?_
  refine va_put (D := D) (ci := 2) (v := .int ((td 7) + 1)) (ty := .int) (C := RX2) (T := TX2) (N := 10) hx hb hts inX2 tyX2 tyX2_ok nmX2 hown hK hP hD hS 0 rfl rfl 9 (by decide) fl41 (fun _ h9 => h9) rfl (by decide +kernel) rfl rfl (Nat.le_of_ble_eq_true rfl) dX2_countCall_7 (fun H locs hP hD hS => ?_)
  have hP : va_P D vwCl [(a 0, .inr (2, [.ref (a 1), .int (td 6), .int (td 0), .int (td 1), .int (td 2), .int (td 3), .int (td 4), .int op, .int (td 5), .int ((td 7) + 1)])), (a 1, .inl (cI, 10, .inl ct))] H := hP
  have hD : va_D A [(a 0, .inr (2, [.ref (a 1), .int (td 6), .int (td 0), .int (td 1), .int (td 2), .int (td 3), .int (td 4), .int op, .int (td 5), .int ((td 7) + 1)])), (a 1, .inl (cI, 10, .inl ct))] := hD
  exact Rv (D := D) () hx hb hr hlocks hP hD hS trivial dX2_countCall_10

set_option maxHeartbeats 4000000 in
set_option maxRecDepth 100000 in
theorem c_X2_closeHold (l : Launch) (D : va_G) (cI : ClassId) (a : Nat → Nat) (ct td : Nat → Int32) (op : Int32) : Cv l D [(cI, .int)] yX2_closeHold wsX2_closeHold ({ frames := 0, cells := 0, slots := 0, locals := 0 }) [.ref (a 0)] (wRp a cI ct td op) (S := Unit) (fun _ => True) (fun _ => wRp a cI ct td (op - 1)) := by
  refine Cv.mk (cc := cX2_closeHold) (maxL := 1) (ret := none) (by decide +kernel) rfl (Nat.le_of_ble_eq_true rfl) ?_
  intro pg e s m below meth c A ls hx hb hml hr hown hts hlocks hK hns hA hP hD hS hl
  have hl : lv_has ls 1 [(0, .ref (a 0))] := hl
  have fl35 := hts (.fieldLink RX2 35 "HeldShelves$Report" "holdsOpen" "I") (List.mem_of_getElem? (i := 1) rfl)
  have inX2 : ∀ w ∈ wsX20, w ∈ wsX2_closeHold := fun _ h => List.mem_cons_of_mem _ (List.mem_append_right _ h)
  have hP : va_P D vwCl [(a 0, .inr (2, [.ref (a 1), .int (td 6), .int (td 0), .int (td 1), .int (td 2), .int (td 3), .int (td 4), .int op, .int (td 5), .int (td 7)])), (a 1, .inl (cI, 10, .inl ct))] s.heap := hP
  have hD : va_D A [(a 0, .inr (2, [.ref (a 1), .int (td 6), .int (td 0), .int (td 1), .int (td 2), .int (td 3), .int (td 4), .int op, .int (td 5), .int (td 7)])), (a 1, .inl (cI, 10, .inl ct))] := hD
  refine lv_aload_n hx hb dX2_closeHold_0 rfl (lv_at hl 0 rfl) ?_
  refine lv_dup hx hb dX2_closeHold_1 rfl ?_
  refine va_get (D := D) (ci := 2) (v := .int op) (C := RX2) (T := TX2) (N := 10) hx hb hts inX2 hown hK hP 0 rfl rfl 7 (by decide) fl35 (fun _ h9 => h9) rfl dX2_closeHold_2 ?_
  refine lv_iconst (v := 1) hx hb dX2_closeHold_5 (by decide) ?_
  refine lv_isub hx hb dX2_closeHold_6 ?_
  refine va_put (D := D) (ci := 2) (v := .int (op - 1)) (ty := .int) (C := RX2) (T := TX2) (N := 10) hx hb hts inX2 tyX2 tyX2_ok nmX2 hown hK hP hD hS 0 rfl rfl 7 (by decide) fl35 (fun _ h9 => h9) rfl (by decide +kernel) rfl rfl (Nat.le_of_ble_eq_true rfl) dX2_closeHold_7 (fun H locs hP hD hS => ?_)
  have hP : va_P D vwCl [(a 0, .inr (2, [.ref (a 1), .int (td 6), .int (td 0), .int (td 1), .int (td 2), .int (td 3), .int (td 4), .int (op - 1), .int (td 5), .int (td 7)])), (a 1, .inl (cI, 10, .inl ct))] H := hP
  have hD : va_D A [(a 0, .inr (2, [.ref (a 1), .int (td 6), .int (td 0), .int (td 1), .int (td 2), .int (td 3), .int (td 4), .int (op - 1), .int (td 5), .int (td 7)])), (a 1, .inl (cI, 10, .inl ct))] := hD
  exact Rv (D := D) () hx hb hr hlocks hP hD hS trivial dX2_closeHold_10

set_option maxHeartbeats 4000000 in
set_option maxRecDepth 100000 in
theorem c_X2_endAt (l : Launch) (D : va_G) (cI : ClassId) (a : Nat → Nat) (ct td : Nat → Int32) (op : Int32) (x y z : Int32) : Cv l D [(cI, .int)] yX2_endAt wsX2_endAt ({ frames := 0, cells := 0, slots := 0, locals := 0 }) [.ref (a 0), .int x, .int y, .int z] (wRp a cI ct td op) (S := Unit) (fun _ => True) (fun _ => wRp a cI ct (upd (upd (upd td 0 x) 1 y) 2 z) op) := by
  refine Cv.mk (cc := cX2_endAt) (maxL := 4) (ret := none) (by decide +kernel) rfl (Nat.le_of_ble_eq_true rfl) ?_
  intro pg e s m below meth c A ls hx hb hml hr hown hts hlocks hK hns hA hP hD hS hl
  have hl : lv_has ls 4 [(0, .ref (a 0)), (1, .int x), (2, .int y), (3, .int z)] := hl
  have fl44 := hts (.fieldLink RX2 44 "HeldShelves$Report" "failure" "I") (List.mem_of_getElem? (i := 1) rfl)
  have inX2 : ∀ w ∈ wsX20, w ∈ wsX2_endAt := fun _ h => List.mem_cons_of_mem _ (List.mem_append_right _ h)
  have fl15 := hts (.fieldLink RX2 15 "HeldShelves$Report" "plan" "I") (List.mem_of_getElem? (i := 2) rfl)
  have fl19 := hts (.fieldLink RX2 19 "HeldShelves$Report" "act" "I") (List.mem_of_getElem? (i := 3) rfl)
  have hP : va_P D vwCl [(a 0, .inr (2, [.ref (a 1), .int (td 6), .int (td 0), .int (td 1), .int (td 2), .int (td 3), .int (td 4), .int op, .int (td 5), .int (td 7)])), (a 1, .inl (cI, 10, .inl ct))] s.heap := hP
  have hD : va_D A [(a 0, .inr (2, [.ref (a 1), .int (td 6), .int (td 0), .int (td 1), .int (td 2), .int (td 3), .int (td 4), .int op, .int (td 5), .int (td 7)])), (a 1, .inl (cI, 10, .inl ct))] := hD
  refine lv_aload_n hx hb dX2_endAt_0 rfl (lv_at hl 0 rfl) ?_
  refine lv_iload_n hx hb dX2_endAt_1 rfl (lv_at hl 1 rfl) ?_
  refine va_put (D := D) (ci := 2) (v := .int x) (ty := .int) (C := RX2) (T := TX2) (N := 10) hx hb hts inX2 tyX2 tyX2_ok nmX2 hown hK hP hD hS 0 rfl rfl 2 (by decide) fl44 (fun _ h9 => h9) rfl (by decide +kernel) rfl rfl (Nat.le_of_ble_eq_true rfl) dX2_endAt_2 (fun H locs hP hD hS => ?_)
  have hP : va_P D vwCl [(a 0, .inr (2, [.ref (a 1), .int (td 6), .int x, .int (td 1), .int (td 2), .int (td 3), .int (td 4), .int op, .int (td 5), .int (td 7)])), (a 1, .inl (cI, 10, .inl ct))] H := hP
  have hD : va_D A [(a 0, .inr (2, [.ref (a 1), .int (td 6), .int x, .int (td 1), .int (td 2), .int (td 3), .int (td 4), .int op, .int (td 5), .int (td 7)])), (a 1, .inl (cI, 10, .inl ct))] := hD
  refine lv_aload_n hx hb dX2_endAt_5 rfl (lv_at hl 0 rfl) ?_
  refine lv_iload_n hx hb dX2_endAt_6 rfl (lv_at hl 2 rfl) ?_
  refine va_put (D := D) (ci := 2) (v := .int y) (ty := .int) (C := RX2) (T := TX2) (N := 10) hx hb hts inX2 tyX2 tyX2_ok nmX2 hown hK hP hD hS 0 rfl rfl 3 (by decide) fl15 (fun _ h9 => h9) rfl (by decide +kernel) rfl rfl (Nat.le_of_ble_eq_true rfl) dX2_endAt_7 (fun H locs hP hD hS => ?_)
  have hP : va_P D vwCl [(a 0, .inr (2, [.ref (a 1), .int (td 6), .int x, .int y, .int (td 2), .int (td 3), .int (td 4), .int op, .int (td 5), .int (td 7)])), (a 1, .inl (cI, 10, .inl ct))] H := hP
  have hD : va_D A [(a 0, .inr (2, [.ref (a 1), .int (td 6), .int x, .int y, .int (td 2), .int (td 3), .int (td 4), .int op, .int (td 5), .int (td 7)])), (a 1, .inl (cI, 10, .inl ct))] := hD
  refine lv_aload_n hx hb dX2_endAt_10 rfl (lv_at hl 0 rfl) ?_
  refine lv_iload_n hx hb dX2_endAt_11 rfl (lv_at hl 3 rfl) ?_
  refine va_put (D := D) (ci := 2) (v := .int z) (ty := .int) (C := RX2) (T := TX2) (N := 10) hx hb hts inX2 tyX2 tyX2_ok nmX2 hown hK hP hD hS 0 rfl rfl 4 (by decide) fl19 (fun _ h9 => h9) rfl (by decide +kernel) rfl rfl (Nat.le_of_ble_eq_true rfl) dX2_endAt_12 (fun H locs hP hD hS => ?_)
  have hP : va_P D vwCl [(a 0, .inr (2, [.ref (a 1), .int (td 6), .int x, .int y, .int z, .int (td 3), .int (td 4), .int op, .int (td 5), .int (td 7)])), (a 1, .inl (cI, 10, .inl ct))] H := hP
  have hD : va_D A [(a 0, .inr (2, [.ref (a 1), .int (td 6), .int x, .int y, .int z, .int (td 3), .int (td 4), .int op, .int (td 5), .int (td 7)])), (a 1, .inl (cI, 10, .inl ct))] := hD
  exact Rv (D := D) () hx hb hr hlocks hP hD hS trivial dX2_endAt_15

set_option maxHeartbeats 4000000 in
set_option maxRecDepth 100000 in
theorem c_X2_openHold (l : Launch) (D : va_G) (cI : ClassId) (a : Nat → Nat) (ct td : Nat → Int32) (op : Int32) : Cv l D [(cI, .int)] yX2_openHold wsX2_openHold ({ frames := 1, cells := 0, slots := 0, locals := 21 }) [.ref (a 0)] (wRp a cI ct td op) (S := Unit) (fun _ => True) (fun _ => wRp a cI ct (upd (upd td 4 (td 4 + 1)) 5 (if td 5 < op + 1 then op + 1 else td 5)) (op + 1)) := by
  refine Cv.mk (cc := cX2_openHold) (maxL := 1) (ret := none) (by decide +kernel) rfl (Nat.le_of_ble_eq_true rfl) ?_
  intro pg e s m below meth c A ls hx hb hml hr hown hts hlocks hK hns hA hP hD hS hl
  have hl : lv_has ls 1 [(0, .ref (a 0))] := hl
  have fl32 := hts (.fieldLink RX2 32 "HeldShelves$Report" "holds" "I") (List.mem_of_getElem? (i := 1) rfl)
  have inX2 : ∀ w ∈ wsX20, w ∈ wsX2_openHold := fun _ h => List.mem_cons_of_mem _ (List.mem_append_right _ h)
  have fl35 := hts (.fieldLink RX2 35 "HeldShelves$Report" "holdsOpen" "I") (List.mem_of_getElem? (i := 2) rfl)
  have fl38 := hts (.fieldLink RX2 38 "HeldShelves$Report" "mostOpen" "I") (List.mem_of_getElem? (i := 3) rfl)
  have hP : va_P D vwCl [(a 0, .inr (2, [.ref (a 1), .int (td 6), .int (td 0), .int (td 1), .int (td 2), .int (td 3), .int (td 4), .int op, .int (td 5), .int (td 7)])), (a 1, .inl (cI, 10, .inl ct))] s.heap := hP
  have hD : va_D A [(a 0, .inr (2, [.ref (a 1), .int (td 6), .int (td 0), .int (td 1), .int (td 2), .int (td 3), .int (td 4), .int op, .int (td 5), .int (td 7)])), (a 1, .inl (cI, 10, .inl ct))] := hD
  refine lv_aload_n hx hb dX2_openHold_0 rfl (lv_at hl 0 rfl) ?_
  refine lv_dup hx hb dX2_openHold_1 rfl ?_
  refine va_get (D := D) (ci := 2) (v := .int (td 4)) (C := RX2) (T := TX2) (N := 10) hx hb hts inX2 hown hK hP 0 rfl rfl 6 (by decide) fl32 (fun _ h9 => h9) rfl dX2_openHold_2 ?_
  refine lv_iconst (v := 1) hx hb dX2_openHold_5 (by decide) ?_
  refine lv_iadd hx hb dX2_openHold_6 ?_
  refine va_put (D := D) (ci := 2) (v := .int ((td 4) + 1)) (ty := .int) (C := RX2) (T := TX2) (N := 10) hx hb hts inX2 tyX2 tyX2_ok nmX2 hown hK hP hD hS 0 rfl rfl 6 (by decide) fl32 (fun _ h9 => h9) rfl (by decide +kernel) rfl rfl (Nat.le_of_ble_eq_true rfl) dX2_openHold_7 (fun H locs hP hD hS => ?_)
  have hP : va_P D vwCl [(a 0, .inr (2, [.ref (a 1), .int (td 6), .int (td 0), .int (td 1), .int (td 2), .int (td 3), .int ((td 4) + 1), .int op, .int (td 5), .int (td 7)])), (a 1, .inl (cI, 10, .inl ct))] H := hP
  have hD : va_D A [(a 0, .inr (2, [.ref (a 1), .int (td 6), .int (td 0), .int (td 1), .int (td 2), .int (td 3), .int ((td 4) + 1), .int op, .int (td 5), .int (td 7)])), (a 1, .inl (cI, 10, .inl ct))] := hD
  refine lv_aload_n hx hb dX2_openHold_10 rfl (lv_at hl 0 rfl) ?_
  refine lv_dup hx hb dX2_openHold_11 rfl ?_
  refine va_get (D := D) (ci := 2) (v := .int op) (C := RX2) (T := TX2) (N := 10) hx hb hts inX2 hown hK hP 0 rfl rfl 7 (by decide) fl35 (fun _ h9 => h9) rfl dX2_openHold_12 ?_
  refine lv_iconst (v := 1) hx hb dX2_openHold_15 (by decide) ?_
  refine lv_iadd hx hb dX2_openHold_16 ?_
  refine va_put (D := D) (ci := 2) (v := .int (op + 1)) (ty := .int) (C := RX2) (T := TX2) (N := 10) hx hb hts inX2 tyX2 tyX2_ok nmX2 hown hK hP hD hS 0 rfl rfl 7 (by decide) fl35 (fun _ h9 => h9) rfl (by decide +kernel) rfl rfl (Nat.le_of_ble_eq_true rfl) dX2_openHold_17 (fun H locs hP hD hS => ?_)
  have hP : va_P D vwCl [(a 0, .inr (2, [.ref (a 1), .int (td 6), .int (td 0), .int (td 1), .int (td 2), .int (td 3), .int ((td 4) + 1), .int (op + 1), .int (td 5), .int (td 7)])), (a 1, .inl (cI, 10, .inl ct))] H := hP
  have hD : va_D A [(a 0, .inr (2, [.ref (a 1), .int (td 6), .int (td 0), .int (td 1), .int (td 2), .int (td 3), .int ((td 4) + 1), .int (op + 1), .int (td 5), .int (td 7)])), (a 1, .inl (cI, 10, .inl ct))] := hD
  refine lv_aload_n hx hb dX2_openHold_20 rfl (lv_at hl 0 rfl) ?_
  refine lv_aload_n hx hb dX2_openHold_21 rfl (lv_at hl 0 rfl) ?_
  refine va_get (D := D) (ci := 2) (v := .int (td 5)) (C := RX2) (T := TX2) (N := 10) hx hb hts inX2 hown hK hP 0 rfl rfl 8 (by decide) fl38 (fun _ h9 => h9) rfl dX2_openHold_22 ?_
  refine lv_aload_n hx hb dX2_openHold_25 rfl (lv_at hl 0 rfl) ?_
  refine va_get (D := D) (ci := 2) (v := .int (op + 1)) (C := RX2) (T := TX2) (N := 10) hx hb hts inX2 hown hK hP 0 rfl rfl 7 (by decide) fl35 (fun _ h9 => h9) rfl dX2_openHold_26 ?_
  refine va_mmax hx hb (by rw [hml]; exact hl.1.symm) hown (hts (.methodLink RX2 47 Lib.Math.max.name) (List.mem_of_getElem? (i := 4) rfl)) (hts (.static Lib.Math.max.name) (by decide +kernel)) (hts (.initialized "java/lang/Math") (by decide +kernel)) (hts (.code Lib.Math.max.name Lib.Math.max.code 2 (some .int)) (List.mem_of_getElem? (i := 7) rfl)) (Nat.le_of_ble_eq_true rfl) (Nat.le_of_ble_eq_true rfl) (Nat.le_of_ble_eq_true rfl) (Nat.le_of_ble_eq_true rfl) dX2_openHold_29 ?_
  refine va_put (D := D) (ci := 2) (v := .int (if td 5 < (op + 1) then (op + 1) else td 5)) (ty := .int) (C := RX2) (T := TX2) (N := 10) hx hb hts inX2 tyX2 tyX2_ok nmX2 hown hK hP hD hS 0 rfl rfl 8 (by decide) fl38 (fun _ h9 => h9) rfl (by decide +kernel) rfl rfl (Nat.le_of_ble_eq_true rfl) dX2_openHold_32 (fun H locs hP hD hS => ?_)
  have hP : va_P D vwCl [(a 0, .inr (2, [.ref (a 1), .int (td 6), .int (td 0), .int (td 1), .int (td 2), .int (td 3), .int ((td 4) + 1), .int (op + 1), .int (if td 5 < (op + 1) then (op + 1) else td 5), .int (td 7)])), (a 1, .inl (cI, 10, .inl ct))] H := hP
  have hD : va_D A [(a 0, .inr (2, [.ref (a 1), .int (td 6), .int (td 0), .int (td 1), .int (td 2), .int (td 3), .int ((td 4) + 1), .int (op + 1), .int (if td 5 < (op + 1) then (op + 1) else td 5), .int (td 7)])), (a 1, .inl (cI, 10, .inl ct))] := hD
  exact Rv (D := D) () hx hb hr hlocks hP hD hS trivial dX2_openHold_35

set_option maxHeartbeats 4000000 in
set_option maxRecDepth 100000 in
theorem c_X2_countCaught (l : Launch) (D : va_G) (cI : ClassId) (a : Nat → Nat) (ct td : Nat → Int32) (op : Int32) (f : Nat) (h0 : 0 < f) (h9 : f ≤ 9) : Cv l D [(cI, .int)] yX2_countCaught wsX2_countCaught ({ frames := 0, cells := 0, slots := 0, locals := 0 }) [.ref (a 0), .int (nI f)] (wRp a cI ct td op) (S := Unit) (fun _ => True) (fun _ => wRp a cI (upd ct f (ct f + 1)) (upd td 6 (td 6 + 1)) op) := by
  refine Cv.mk (cc := cX2_countCaught) (maxL := 2) (ret := none) (by decide +kernel) rfl (Nat.le_of_ble_eq_true rfl) ?_
  intro pg e s m below meth c A ls hx hb hml hr hown hts hlocks hK hns hA hP hD hS hl
  have hl : lv_has ls 2 [(0, .ref (a 0)), (1, .int (nI f))] := hl
  have fl9 := hts (.fieldLink RX2 9 "HeldShelves$Report" "caughtOf" "[I") (List.mem_of_getElem? (i := 1) rfl)
  have inX2 : ∀ w ∈ wsX20, w ∈ wsX2_countCaught := fun _ h => List.mem_cons_of_mem _ (List.mem_append_right _ h)
  have fl22 := hts (.fieldLink RX2 22 "HeldShelves$Report" "caughtInAll" "I") (List.mem_of_getElem? (i := 2) rfl)
  have hP : va_P D vwCl [(a 0, .inr (2, [.ref (a 1), .int (td 6), .int (td 0), .int (td 1), .int (td 2), .int (td 3), .int (td 4), .int op, .int (td 5), .int (td 7)])), (a 1, .inl (cI, 10, .inl ct))] s.heap := hP
  have hD : va_D A [(a 0, .inr (2, [.ref (a 1), .int (td 6), .int (td 0), .int (td 1), .int (td 2), .int (td 3), .int (td 4), .int op, .int (td 5), .int (td 7)])), (a 1, .inl (cI, 10, .inl ct))] := hD
  refine lv_iload_n hx hb dX2_countCaught_0 rfl (lv_at hl 1 rfl) ?_
  refine lv_if_le (tgt := 30) hx hb dX2_countCaught_1 (by decide) (fun c_1 => ?_) (fun c_1 => ?_)
  · have c_1 : f ≤ 0 := (nI_leI (a := f) (b := 0) (by omega) (by omega)).mp c_1
    exact absurd c_1 (by omega)
  · have c_1 : ¬ (f ≤ 0) := fun h => c_1 ((nI_leI (a := f) (b := 0) (by omega) (by omega)).mpr h)
    refine lv_iload_n hx hb dX2_countCaught_4 rfl (lv_at hl 1 rfl) ?_
    refine lv_bipush (v := 9) hx hb dX2_countCaught_5 (by decide) ?_
    refine lv_icmp_gt (tgt := 30) hx hb dX2_countCaught_7 (by decide) (fun c_7 => ?_) (fun c_7 => ?_)
    · have c_7 : 9 < f := (nI_ltI (a := 9) (b := f) (by omega) (by omega)).mp c_7
      exact absurd c_7 (by omega)
    · have c_7 : ¬ (9 < f) := fun h => c_7 ((nI_ltI (a := 9) (b := f) (by omega) (by omega)).mpr h)
      refine lv_aload_n hx hb dX2_countCaught_10 rfl (lv_at hl 0 rfl) ?_
      refine va_get (D := D) (ci := 2) (v := .ref (a 1)) (C := RX2) (T := TX2) (N := 10) hx hb hts inX2 hown hK hP 0 rfl rfl 0 (by decide) fl9 (fun _ h9 => h9) rfl dX2_countCaught_11 ?_
      refine lv_iload_n hx hb dX2_countCaught_14 rfl (lv_at hl 1 rfl) ?_
      refine lv_dup2_11 hx hb dX2_countCaught_15 rfl rfl ?_
      refine xi_ald hx hb hK hP 1 0 rfl rfl (k := f) (by omega) (by decide) dX2_countCaught_16 ?_
      refine lv_iconst (v := 1) hx hb dX2_countCaught_17 (by decide) ?_
      refine lv_iadd hx hb dX2_countCaught_18 ?_
      refine xi_ast hx hb hK hP hD hS 1 0 rfl rfl (k := f) (x := ((ct f) + 1)) (by omega) (by decide) dX2_countCaught_19 (fun H locs hP hD hS => ?_)
      have hP : va_P D vwCl [(a 0, .inr (2, [.ref (a 1), .int (td 6), .int (td 0), .int (td 1), .int (td 2), .int (td 3), .int (td 4), .int op, .int (td 5), .int (td 7)])), (a 1, .inl (cI, 10, .inl (upd ct f ((ct f) + 1))))] H := hP
      have hD : va_D A [(a 0, .inr (2, [.ref (a 1), .int (td 6), .int (td 0), .int (td 1), .int (td 2), .int (td 3), .int (td 4), .int op, .int (td 5), .int (td 7)])), (a 1, .inl (cI, 10, .inl (upd ct f ((ct f) + 1))))] := hD
      refine lv_aload_n hx hb dX2_countCaught_20 rfl (lv_at hl 0 rfl) ?_
      refine lv_dup hx hb dX2_countCaught_21 rfl ?_
      refine va_get (D := D) (ci := 2) (v := .int (td 6)) (C := RX2) (T := TX2) (N := 10) hx hb hts inX2 hown hK hP 0 rfl rfl 1 (by decide) fl22 (fun _ h9 => h9) rfl dX2_countCaught_22 ?_
      refine lv_iconst (v := 1) hx hb dX2_countCaught_25 (by decide) ?_
      refine lv_iadd hx hb dX2_countCaught_26 ?_
      refine va_put (D := D) (ci := 2) (v := .int ((td 6) + 1)) (ty := .int) (C := RX2) (T := TX2) (N := 10) hx hb hts inX2 tyX2 tyX2_ok nmX2 hown hK hP hD hS 0 rfl rfl 1 (by decide) fl22 (fun _ h9 => h9) rfl (by decide +kernel) rfl rfl (Nat.le_of_ble_eq_true rfl) dX2_countCaught_27 (fun H locs hP hD hS => ?_)
      have hP : va_P D vwCl [(a 0, .inr (2, [.ref (a 1), .int ((td 6) + 1), .int (td 0), .int (td 1), .int (td 2), .int (td 3), .int (td 4), .int op, .int (td 5), .int (td 7)])), (a 1, .inl (cI, 10, .inl (upd ct f ((ct f) + 1))))] H := hP
      have hD : va_D A [(a 0, .inr (2, [.ref (a 1), .int ((td 6) + 1), .int (td 0), .int (td 1), .int (td 2), .int (td 3), .int (td 4), .int op, .int (td 5), .int (td 7)])), (a 1, .inl (cI, 10, .inl (upd ct f ((ct f) + 1))))] := hD
      exact Rv (D := D) () hx hb hr hlocks hP hD hS trivial dX2_countCaught_30

set_option maxHeartbeats 4000000 in
set_option maxRecDepth 100000 in
theorem c_X2_timesCaught (l : Launch) (D : va_G) (cI : ClassId) (a : Nat → Nat) (ct td : Nat → Int32) (op : Int32) (x : Int32) : Ci l D [(cI, .int)] yX2_timesCaught wsX2_timesCaught ({ frames := 0, cells := 0, slots := 0, locals := 0 }) [.ref (a 0), .int x] (wRp a cI ct td op) (S := Unit) (fun v _ => v = tcv ct x) (fun _ => wRp a cI ct td op) := by
  refine Ci.mk (cc := cX2_timesCaught) (maxL := 2) (ret := (some .int)) (by decide +kernel) rfl (Nat.le_of_ble_eq_true rfl) ?_
  intro pg e s m below meth c A ls hx hb hml hr hown hts hlocks hK hns hA hP hD hS hl
  have hl : lv_has ls 2 [(0, .ref (a 0)), (1, .int x)] := hl
  have fl9 := hts (.fieldLink RX2 9 "HeldShelves$Report" "caughtOf" "[I") (List.mem_of_getElem? (i := 1) rfl)
  have inX2 : ∀ w ∈ wsX20, w ∈ wsX2_timesCaught := fun _ h => List.mem_cons_of_mem _ (List.mem_append_right _ h)
  have hP : va_P D vwCl [(a 0, .inr (2, [.ref (a 1), .int (td 6), .int (td 0), .int (td 1), .int (td 2), .int (td 3), .int (td 4), .int op, .int (td 5), .int (td 7)])), (a 1, .inl (cI, 10, .inl ct))] s.heap := hP
  have hD : va_D A [(a 0, .inr (2, [.ref (a 1), .int (td 6), .int (td 0), .int (td 1), .int (td 2), .int (td 3), .int (td 4), .int op, .int (td 5), .int (td 7)])), (a 1, .inl (cI, 10, .inl ct))] := hD
  refine lv_iload_n hx hb dX2_timesCaught_0 rfl (lv_at hl 1 rfl) ?_
  refine lv_if_le (tgt := 19) hx hb dX2_timesCaught_1 (by decide) (fun c_1 => ?_) (fun c_1 => ?_)
  · refine lv_iconst (v := (-1)) hx hb dX2_timesCaught_19 (by decide) ?_
    exact Ri (D := D) () hx hb hr rfl hlocks hP hD hS (tcv_le c_1).symm dX2_timesCaught_20
  · refine lv_iload_n hx hb dX2_timesCaught_4 rfl (lv_at hl 1 rfl) ?_
    refine lv_bipush (v := 9) hx hb dX2_timesCaught_5 (by decide) ?_
    refine lv_icmp_gt (tgt := 19) hx hb dX2_timesCaught_7 (by decide) (fun c_7 => ?_) (fun c_7 => ?_)
    · refine lv_iconst (v := (-1)) hx hb dX2_timesCaught_19 (by decide) ?_
      exact Ri (D := D) () hx hb hr rfl hlocks hP hD hS (tcv_gt c_7).symm dX2_timesCaught_20
    · obtain ⟨j, hj, rfl⟩ : ∃ j : Nat, j < 10 ∧ x = nI j := by
        obtain ⟨j, hj1, hj2⟩ := nI_of (x := x) (fun h => c_1 (by rw [i_lt] at h; rw [i_le]; exact Int.le_of_lt h))
        refine ⟨j, ?_, hj2⟩
        rw [hj2, show (9 : Int32) = nI 9 from rfl, nI_ltI (by omega) (by omega)] at c_7
        omega
      refine lv_aload_n hx hb dX2_timesCaught_10 rfl (lv_at hl 0 rfl) ?_
      refine va_get (D := D) (ci := 2) (v := .ref (a 1)) (C := RX2) (T := TX2) (N := 10) hx hb hts inX2 hown hK hP 0 rfl rfl 0 (by decide) fl9 (fun _ h9 => h9) rfl dX2_timesCaught_11 ?_
      refine lv_iload_n hx hb dX2_timesCaught_14 rfl (lv_at hl 1 rfl) ?_
      refine xi_ald hx hb hK hP 1 0 rfl rfl (k := j) (by omega) (by decide) dX2_timesCaught_15 ?_
      refine lv_goto (tgt := 20) hx hb dX2_timesCaught_16 (by decide) ?_
      exact Ri (D := D) () hx hb hr rfl hlocks hP hD hS (tcv_in c_1 hj).symm dX2_timesCaught_20

set_option maxHeartbeats 4000000 in
set_option maxRecDepth 100000 in
theorem c_X2_number (l : Launch) (D : va_G) (cI : ClassId) (a : Nat → Nat) (ct td : Nat → Int32) (op : Int32) (x : Int32) : Ci l D [(cI, .int)] yX2_number wsX2_number ({ frames := 0, cells := 0, slots := 0, locals := 0 }) [.ref (a 0), .int x] (wRp a cI ct td op) (S := Unit) (fun v _ => v = tdv td x) (fun _ => wRp a cI ct td op) := by
  refine Ci.mk (cc := cX2_number) (maxL := 2) (ret := (some .int)) (by decide +kernel) rfl (Nat.le_of_ble_eq_true rfl) ?_
  intro pg e s m below meth c A ls hx hb hml hr hown hts hlocks hK hns hA hP hD hS hl
  have hl : lv_has ls 2 [(0, .ref (a 0)), (1, .int x)] := hl
  have fl44 := hts (.fieldLink RX2 44 "HeldShelves$Report" "failure" "I") (List.mem_of_getElem? (i := 1) rfl)
  have inX2 : ∀ w ∈ wsX20, w ∈ wsX2_number := fun _ h => List.mem_cons_of_mem _ (List.mem_append_right _ h)
  have fl15 := hts (.fieldLink RX2 15 "HeldShelves$Report" "plan" "I") (List.mem_of_getElem? (i := 2) rfl)
  have fl19 := hts (.fieldLink RX2 19 "HeldShelves$Report" "act" "I") (List.mem_of_getElem? (i := 3) rfl)
  have fl29 := hts (.fieldLink RX2 29 "HeldShelves$Report" "steps" "I") (List.mem_of_getElem? (i := 4) rfl)
  have fl32 := hts (.fieldLink RX2 32 "HeldShelves$Report" "holds" "I") (List.mem_of_getElem? (i := 5) rfl)
  have fl38 := hts (.fieldLink RX2 38 "HeldShelves$Report" "mostOpen" "I") (List.mem_of_getElem? (i := 6) rfl)
  have fl22 := hts (.fieldLink RX2 22 "HeldShelves$Report" "caughtInAll" "I") (List.mem_of_getElem? (i := 7) rfl)
  have fl41 := hts (.fieldLink RX2 41 "HeldShelves$Report" "calls" "I") (List.mem_of_getElem? (i := 8) rfl)
  have hP : va_P D vwCl [(a 0, .inr (2, [.ref (a 1), .int (td 6), .int (td 0), .int (td 1), .int (td 2), .int (td 3), .int (td 4), .int op, .int (td 5), .int (td 7)])), (a 1, .inl (cI, 10, .inl ct))] s.heap := hP
  have hD : va_D A [(a 0, .inr (2, [.ref (a 1), .int (td 6), .int (td 0), .int (td 1), .int (td 2), .int (td 3), .int (td 4), .int op, .int (td 5), .int (td 7)])), (a 1, .inl (cI, 10, .inl ct))] := hD
  refine lv_iload_n hx hb dX2_number_0 rfl (lv_at hl 1 rfl) ?_
  rcases tdv_cases td x with ⟨rfl, ht⟩ | ⟨rfl, ht⟩ | ⟨rfl, ht⟩ | ⟨rfl, ht⟩ | ⟨rfl, ht⟩ | ⟨rfl, ht⟩ | ⟨rfl, ht⟩ | ⟨rfl, ht⟩ | ⟨hx0, ht⟩
  · refine lv_tableIn (off := 47) (tgt := 48) hx hb dX2_number_1 (by decide) (by decide) (by decide) (by decide) ?_
    refine lv_aload_n hx hb dX2_number_48 rfl (lv_at hl 0 rfl) ?_
    refine va_get (D := D) (ci := 2) (v := .int (td 0)) (C := RX2) (T := TX2) (N := 10) hx hb hts inX2 hown hK hP 0 rfl rfl 2 (by decide) fl44 (fun _ h9 => h9) rfl dX2_number_49 ?_
    exact Ri (D := D) () hx hb hr rfl hlocks hP hD hS ht.symm dX2_number_52
  · refine lv_tableIn (off := 52) (tgt := 53) hx hb dX2_number_1 (by decide) (by decide) (by decide) (by decide) ?_
    refine lv_aload_n hx hb dX2_number_53 rfl (lv_at hl 0 rfl) ?_
    refine va_get (D := D) (ci := 2) (v := .int (td 1)) (C := RX2) (T := TX2) (N := 10) hx hb hts inX2 hown hK hP 0 rfl rfl 3 (by decide) fl15 (fun _ h9 => h9) rfl dX2_number_54 ?_
    exact Ri (D := D) () hx hb hr rfl hlocks hP hD hS ht.symm dX2_number_57
  · refine lv_tableIn (off := 57) (tgt := 58) hx hb dX2_number_1 (by decide) (by decide) (by decide) (by decide) ?_
    refine lv_aload_n hx hb dX2_number_58 rfl (lv_at hl 0 rfl) ?_
    refine va_get (D := D) (ci := 2) (v := .int (td 2)) (C := RX2) (T := TX2) (N := 10) hx hb hts inX2 hown hK hP 0 rfl rfl 4 (by decide) fl19 (fun _ h9 => h9) rfl dX2_number_59 ?_
    exact Ri (D := D) () hx hb hr rfl hlocks hP hD hS ht.symm dX2_number_62
  · refine lv_tableIn (off := 62) (tgt := 63) hx hb dX2_number_1 (by decide) (by decide) (by decide) (by decide) ?_
    refine lv_aload_n hx hb dX2_number_63 rfl (lv_at hl 0 rfl) ?_
    refine va_get (D := D) (ci := 2) (v := .int (td 3)) (C := RX2) (T := TX2) (N := 10) hx hb hts inX2 hown hK hP 0 rfl rfl 5 (by decide) fl29 (fun _ h9 => h9) rfl dX2_number_64 ?_
    exact Ri (D := D) () hx hb hr rfl hlocks hP hD hS ht.symm dX2_number_67
  · refine lv_tableIn (off := 67) (tgt := 68) hx hb dX2_number_1 (by decide) (by decide) (by decide) (by decide) ?_
    refine lv_aload_n hx hb dX2_number_68 rfl (lv_at hl 0 rfl) ?_
    refine va_get (D := D) (ci := 2) (v := .int (td 4)) (C := RX2) (T := TX2) (N := 10) hx hb hts inX2 hown hK hP 0 rfl rfl 6 (by decide) fl32 (fun _ h9 => h9) rfl dX2_number_69 ?_
    exact Ri (D := D) () hx hb hr rfl hlocks hP hD hS ht.symm dX2_number_72
  · refine lv_tableIn (off := 72) (tgt := 73) hx hb dX2_number_1 (by decide) (by decide) (by decide) (by decide) ?_
    refine lv_aload_n hx hb dX2_number_73 rfl (lv_at hl 0 rfl) ?_
    refine va_get (D := D) (ci := 2) (v := .int (td 5)) (C := RX2) (T := TX2) (N := 10) hx hb hts inX2 hown hK hP 0 rfl rfl 8 (by decide) fl38 (fun _ h9 => h9) rfl dX2_number_74 ?_
    exact Ri (D := D) () hx hb hr rfl hlocks hP hD hS ht.symm dX2_number_77
  · refine lv_tableIn (off := 77) (tgt := 78) hx hb dX2_number_1 (by decide) (by decide) (by decide) (by decide) ?_
    refine lv_aload_n hx hb dX2_number_78 rfl (lv_at hl 0 rfl) ?_
    refine va_get (D := D) (ci := 2) (v := .int (td 6)) (C := RX2) (T := TX2) (N := 10) hx hb hts inX2 hown hK hP 0 rfl rfl 1 (by decide) fl22 (fun _ h9 => h9) rfl dX2_number_79 ?_
    exact Ri (D := D) () hx hb hr rfl hlocks hP hD hS ht.symm dX2_number_82
  · refine lv_tableIn (off := 82) (tgt := 83) hx hb dX2_number_1 (by decide) (by decide) (by decide) (by decide) ?_
    refine lv_aload_n hx hb dX2_number_83 rfl (lv_at hl 0 rfl) ?_
    refine va_get (D := D) (ci := 2) (v := .int (td 7)) (C := RX2) (T := TX2) (N := 10) hx hb hts inX2 hown hK hP 0 rfl rfl 9 (by decide) fl41 (fun _ h9 => h9) rfl dX2_number_84 ?_
    exact Ri (D := D) () hx hb hr rfl hlocks hP hD hS ht.symm dX2_number_87
  · refine lv_tableOut (tgt := 88) hx hb dX2_number_1 (hx0) (by decide) ?_
    refine lv_iconst (v := (-1)) hx hb dX2_number_88 (by decide) ?_
    exact Ri (D := D) () hx hb hr rfl hlocks hP hD hS ht.symm dX2_number_89
