set_option maxHeartbeats 400000 in
set_option maxRecDepth 100000 in
theorem c_X1_init (l : Launch) (D : va_G) (cI : ClassId) (h0 : Nat) : Cn l D [(cI, .int)] yX1_init wsX1_init ({ frames := 1, cells := 1, slots := 40, locals := 12 }) [.ref h0] ([(h0, .inr (1, [.null, .int 0]))]) 1 40 (S := Nat) (fun _ => True) (fun u => wPl h0 u cI (fun _ => 0) 0) := by
  refine Cn.mk (cc := cX1_init) (maxL := 1) (ret := none) (by decide +kernel) rfl (Nat.le_of_ble_eq_true rfl) ?_
  intro pg e s m below meth c A ls hx hb hml hr hown hts hlocks hK hns hA hP hD hS hl hAO hin
  have hin : meth.name = "<init>" := hin
  have hl : lv_has ls 1 [(0, .ref h0)] := hl
  have fl9 := hts (.fieldLink RX1 9 "HeldShelves$Plan" "acts" "[I") (List.mem_of_getElem? (i := 5) rfl)
  have inX1 : ∀ w ∈ wsX10, w ∈ wsX1_init := fun _ h => List.mem_cons_of_mem _ (List.mem_append_right _ h)
  have hP : va_P D vwCl [(h0, .inr (1, [.null, .int 0]))] s.heap := hP
  have hD : va_D A [(h0, .inr (1, [.null, .int 0]))] := hD
  refine lv_aload_n hx hb dX1_init_0 rfl (lv_at hl 0 rfl) ?_
  refine W.objInit hx hb hown (hts (.methodLink RX1 3 objectInit) (List.mem_of_getElem? (i := 1) rfl)) (hts (.instanceMethod objectInit) (List.mem_of_getElem? (i := 2) rfl)) (hts (.code objectInit ⟨#[0xb1]⟩ 1 none) (List.mem_of_getElem? (i := 3) rfl)) rfl (by rw [hml]; exact hl.1) rfl dX1_init_1 (Nat.le_of_ble_eq_true rfl) (Nat.le_of_ble_eq_true rfl) ?_
  refine W.eq (g2 := F0 m 4 ls []) rfl ?_
  refine lv_aload_n hx hb dX1_init_4 rfl (lv_at hl 0 rfl) ?_
  refine lv_bipush (v := 40) hx hb dX1_init_5 (by decide) ?_
  refine va_newa (atype := .int) (ty := .int) hx hb (hts (.arrayClass .int) (List.mem_of_getElem? (i := 4) rfl)) rfl hK hP hD hS hA (n := 40) (N' := 40) (a0 := (40, .inl (fun _ => 0))) (fun cA => rfl) (by decide) (nI_clamp (n := 40) (by decide)) (Nat.le_of_ble_eq_true rfl) (Nat.le_of_ble_eq_true rfl) (Nat.le_of_ble_eq_true rfl) dX1_init_7 (fun q7 cA hF hK9 hP hD hS => ?_)
  have e9 : cI = cA := K_eqI hK9 (i := 0) (j := 1) rfl rfl
  subst e9
  generalize hF = H at hP hD hS ⊢
  have hP : va_P D vwCl [(h0, .inr (1, [.null, .int 0])), (q7, .inl (cI, 40, .inl (fun _ => 0)))] H := hP
  have hD : va_D A [(h0, .inr (1, [.null, .int 0])), (q7, .inl (cI, 40, .inl (fun _ => 0)))] := hD
  refine W.widen (k := 1) (n := 40) (Nat.le_of_ble_eq_true rfl) (Nat.le_of_ble_eq_true rfl) ?_
  refine va_putF (D := D) (ci := 1) (v := .ref q7) (ty := .array .int) (C := RX1) (T := TX1) (N := 2) hx hb hts inX1 tyX1 tyX1_ok nmX1 hown hK hP hD hS 0 rfl rfl 0 (by decide) fl9 (fun _ h9 => h9) rfl hin rfl (by decide +kernel) rfl rfl (Nat.le_of_ble_eq_true rfl) dX1_init_9 (fun H locs hP hD hS => ?_)
  have hP : va_P D vwCl [(h0, .inr (1, [.ref q7, .int 0])), (q7, .inl (cI, 40, .inl (fun _ => 0)))] H := hP
  have hD : va_D A [(h0, .inr (1, [.ref q7, .int 0])), (q7, .inl (cI, 40, .inl (fun _ => 0)))] := hD
  exact Rn (D := D) q7 hx hb hr hlocks hP hD hS trivial dX1_init_12

set_option maxHeartbeats 400000 in
set_option maxRecDepth 100000 in
theorem c_X0_init (l : Launch) (D : va_G) (cI : ClassId) (h0 : Nat) : Cn l D [(cI, .int)] yX0_init wsX0_init ({ frames := 1, cells := 3, slots := 192, locals := 12 }) [.ref h0] ([(h0, .inr (0, [.null, .null, .null, .int 0]))]) 3 192 (S := Nat → Nat) (fun u => u 0 = h0) (fun u => wOp u cI (fun _ => 0) (fun _ => 0) (fun _ => 0) 0) := by
  refine Cn.mk (cc := cX0_init) (maxL := 1) (ret := none) (by decide +kernel) rfl (Nat.le_of_ble_eq_true rfl) ?_
  intro pg e s m below meth c A ls hx hb hml hr hown hts hlocks hK hns hA hP hD hS hl hAO hin
  have hin : meth.name = "<init>" := hin
  have hl : lv_has ls 1 [(0, .ref h0)] := hl
  have fl9 := hts (.fieldLink RX0 9 "HeldShelves$OpenRow" "kinds" "[I") (List.mem_of_getElem? (i := 5) rfl)
  have inX0 : ∀ w ∈ wsX00, w ∈ wsX0_init := fun _ h => List.mem_cons_of_mem _ (List.mem_append_right _ h)
  have fl15 := hts (.fieldLink RX0 15 "HeldShelves$OpenRow" "numbers" "[I") (List.mem_of_getElem? (i := 6) rfl)
  have fl18 := hts (.fieldLink RX0 18 "HeldShelves$OpenRow" "behinds" "[I") (List.mem_of_getElem? (i := 7) rfl)
  have hP : va_P D vwCl [(h0, .inr (0, [.null, .null, .null, .int 0]))] s.heap := hP
  have hD : va_D A [(h0, .inr (0, [.null, .null, .null, .int 0]))] := hD
  refine lv_aload_n hx hb dX0_init_0 rfl (lv_at hl 0 rfl) ?_
  refine W.objInit hx hb hown (hts (.methodLink RX0 3 objectInit) (List.mem_of_getElem? (i := 1) rfl)) (hts (.instanceMethod objectInit) (List.mem_of_getElem? (i := 2) rfl)) (hts (.code objectInit ⟨#[0xb1]⟩ 1 none) (List.mem_of_getElem? (i := 3) rfl)) rfl (by rw [hml]; exact hl.1) rfl dX0_init_1 (Nat.le_of_ble_eq_true rfl) (Nat.le_of_ble_eq_true rfl) ?_
  refine W.eq (g2 := F0 m 4 ls []) rfl ?_
  refine lv_aload_n hx hb dX0_init_4 rfl (lv_at hl 0 rfl) ?_
  refine lv_bipush (v := 64) hx hb dX0_init_5 (by decide) ?_
  refine va_newa (atype := .int) (ty := .int) hx hb (hts (.arrayClass .int) (List.mem_of_getElem? (i := 4) rfl)) rfl hK hP hD hS hA (n := 64) (N' := 64) (a0 := (64, .inl (fun _ => 0))) (fun cA => rfl) (by decide) (nI_clamp (n := 64) (by decide)) (Nat.le_of_ble_eq_true rfl) (Nat.le_of_ble_eq_true rfl) (Nat.le_of_ble_eq_true rfl) dX0_init_7 (fun q7 cA hF hK9 hP hD hS => ?_)
  have e9 : cI = cA := K_eqI hK9 (i := 0) (j := 1) rfl rfl
  subst e9
  generalize hF = H at hP hD hS ⊢
  have hP : va_P D vwCl [(h0, .inr (0, [.null, .null, .null, .int 0])), (q7, .inl (cI, 64, .inl (fun _ => 0)))] H := hP
  have hD : va_D A [(h0, .inr (0, [.null, .null, .null, .int 0])), (q7, .inl (cI, 64, .inl (fun _ => 0)))] := hD
  refine W.widen (k := 1) (n := 64) (Nat.le_of_ble_eq_true rfl) (Nat.le_of_ble_eq_true rfl) ?_
  refine va_putF (D := D) (ci := 0) (v := .ref q7) (ty := .array .int) (C := RX0) (T := TX0) (N := 4) hx hb hts inX0 tyX0 tyX0_ok nmX0 hown hK hP hD hS 0 rfl rfl 0 (by decide) fl9 (fun _ h9 => h9) rfl hin rfl (by decide +kernel) rfl rfl (Nat.le_of_ble_eq_true rfl) dX0_init_9 (fun H locs hP hD hS => ?_)
  have hP : va_P D vwCl [(h0, .inr (0, [.ref q7, .null, .null, .int 0])), (q7, .inl (cI, 64, .inl (fun _ => 0)))] H := hP
  have hD : va_D A [(h0, .inr (0, [.ref q7, .null, .null, .int 0])), (q7, .inl (cI, 64, .inl (fun _ => 0)))] := hD
  refine lv_aload_n hx hb dX0_init_12 rfl (lv_at hl 0 rfl) ?_
  refine lv_bipush (v := 64) hx hb dX0_init_13 (by decide) ?_
  refine va_newa (atype := .int) (ty := .int) hx hb (hts (.arrayClass .int) (List.mem_of_getElem? (i := 4) rfl)) rfl hK hP hD hS hA (n := 64) (N' := 64) (a0 := (64, .inl (fun _ => 0))) (fun cA => rfl) (by decide) (nI_clamp (n := 64) (by decide)) (Nat.le_of_ble_eq_true rfl) (Nat.le_of_ble_eq_true rfl) (Nat.le_of_ble_eq_true rfl) dX0_init_15 (fun q15 cA hF hK9 hP hD hS => ?_)
  have e9 : cI = cA := K_eqI hK9 (i := 0) (j := 1) rfl rfl
  subst e9
  generalize hF = H at hP hD hS ⊢
  have hP : va_P D vwCl [(h0, .inr (0, [.ref q7, .null, .null, .int 0])), (q7, .inl (cI, 64, .inl (fun _ => 0))), (q15, .inl (cI, 64, .inl (fun _ => 0)))] H := hP
  have hD : va_D A [(h0, .inr (0, [.ref q7, .null, .null, .int 0])), (q7, .inl (cI, 64, .inl (fun _ => 0))), (q15, .inl (cI, 64, .inl (fun _ => 0)))] := hD
  refine W.widen (k := 2) (n := 128) (Nat.le_of_ble_eq_true rfl) (Nat.le_of_ble_eq_true rfl) ?_
  refine va_putF (D := D) (ci := 0) (v := .ref q15) (ty := .array .int) (C := RX0) (T := TX0) (N := 4) hx hb hts inX0 tyX0 tyX0_ok nmX0 hown hK hP hD hS 0 rfl rfl 1 (by decide) fl15 (fun _ h9 => h9) rfl hin rfl (by decide +kernel) rfl rfl (Nat.le_of_ble_eq_true rfl) dX0_init_17 (fun H locs hP hD hS => ?_)
  have hP : va_P D vwCl [(h0, .inr (0, [.ref q7, .ref q15, .null, .int 0])), (q7, .inl (cI, 64, .inl (fun _ => 0))), (q15, .inl (cI, 64, .inl (fun _ => 0)))] H := hP
  have hD : va_D A [(h0, .inr (0, [.ref q7, .ref q15, .null, .int 0])), (q7, .inl (cI, 64, .inl (fun _ => 0))), (q15, .inl (cI, 64, .inl (fun _ => 0)))] := hD
  refine lv_aload_n hx hb dX0_init_20 rfl (lv_at hl 0 rfl) ?_
  refine lv_bipush (v := 64) hx hb dX0_init_21 (by decide) ?_
  refine va_newa (atype := .int) (ty := .int) hx hb (hts (.arrayClass .int) (List.mem_of_getElem? (i := 4) rfl)) rfl hK hP hD hS hA (n := 64) (N' := 64) (a0 := (64, .inl (fun _ => 0))) (fun cA => rfl) (by decide) (nI_clamp (n := 64) (by decide)) (Nat.le_of_ble_eq_true rfl) (Nat.le_of_ble_eq_true rfl) (Nat.le_of_ble_eq_true rfl) dX0_init_23 (fun q23 cA hF hK9 hP hD hS => ?_)
  have e9 : cI = cA := K_eqI hK9 (i := 0) (j := 1) rfl rfl
  subst e9
  generalize hF = H at hP hD hS ⊢
  have hP : va_P D vwCl [(h0, .inr (0, [.ref q7, .ref q15, .null, .int 0])), (q7, .inl (cI, 64, .inl (fun _ => 0))), (q15, .inl (cI, 64, .inl (fun _ => 0))), (q23, .inl (cI, 64, .inl (fun _ => 0)))] H := hP
  have hD : va_D A [(h0, .inr (0, [.ref q7, .ref q15, .null, .int 0])), (q7, .inl (cI, 64, .inl (fun _ => 0))), (q15, .inl (cI, 64, .inl (fun _ => 0))), (q23, .inl (cI, 64, .inl (fun _ => 0)))] := hD
  refine W.widen (k := 3) (n := 192) (Nat.le_of_ble_eq_true rfl) (Nat.le_of_ble_eq_true rfl) ?_
  refine va_putF (D := D) (ci := 0) (v := .ref q23) (ty := .array .int) (C := RX0) (T := TX0) (N := 4) hx hb hts inX0 tyX0 tyX0_ok nmX0 hown hK hP hD hS 0 rfl rfl 2 (by decide) fl18 (fun _ h9 => h9) rfl hin rfl (by decide +kernel) rfl rfl (Nat.le_of_ble_eq_true rfl) dX0_init_25 (fun H locs hP hD hS => ?_)
  have hP : va_P D vwCl [(h0, .inr (0, [.ref q7, .ref q15, .ref q23, .int 0])), (q7, .inl (cI, 64, .inl (fun _ => 0))), (q15, .inl (cI, 64, .inl (fun _ => 0))), (q23, .inl (cI, 64, .inl (fun _ => 0)))] H := hP
  have hD : va_D A [(h0, .inr (0, [.ref q7, .ref q15, .ref q23, .int 0])), (q7, .inl (cI, 64, .inl (fun _ => 0))), (q15, .inl (cI, 64, .inl (fun _ => 0))), (q23, .inl (cI, 64, .inl (fun _ => 0)))] := hD
  exact Rn (D := D) (fun i => [h0, q7, q15, q23].getD i 0) hx hb hr hlocks hP hD hS rfl dX0_init_28

set_option maxHeartbeats 400000 in
set_option maxRecDepth 100000 in
theorem c_X2_init (l : Launch) (D : va_G) (cI : ClassId) (h0 : Nat) : Cn l D [(cI, .int)] yX2_init wsX2_init ({ frames := 1, cells := 1, slots := 10, locals := 12 }) [.ref h0] ([(h0, .inr (2, [.null, .int 0, .int 0, .int 0, .int 0, .int 0, .int 0, .int 0, .int 0, .int 0]))]) 1 10 (S := Nat → Nat) (fun u => u 0 = h0) (fun u => wRp u cI (fun _ => 0) td0 0) := by
  refine Cn.mk (cc := cX2_init) (maxL := 1) (ret := none) (by decide +kernel) rfl (Nat.le_of_ble_eq_true rfl) ?_
  intro pg e s m below meth c A ls hx hb hml hr hown hts hlocks hK hns hA hP hD hS hl hAO hin
  have hin : meth.name = "<init>" := hin
  have hl : lv_has ls 1 [(0, .ref h0)] := hl
  have fl9 := hts (.fieldLink RX2 9 "HeldShelves$Report" "caughtOf" "[I") (List.mem_of_getElem? (i := 5) rfl)
  have inX2 : ∀ w ∈ wsX20, w ∈ wsX2_init := fun _ h => List.mem_cons_of_mem _ (List.mem_append_right _ h)
  have fl15 := hts (.fieldLink RX2 15 "HeldShelves$Report" "plan" "I") (List.mem_of_getElem? (i := 6) rfl)
  have fl19 := hts (.fieldLink RX2 19 "HeldShelves$Report" "act" "I") (List.mem_of_getElem? (i := 7) rfl)
  have hP : va_P D vwCl [(h0, .inr (2, [.null, .int 0, .int 0, .int 0, .int 0, .int 0, .int 0, .int 0, .int 0, .int 0]))] s.heap := hP
  have hD : va_D A [(h0, .inr (2, [.null, .int 0, .int 0, .int 0, .int 0, .int 0, .int 0, .int 0, .int 0, .int 0]))] := hD
  refine lv_aload_n hx hb dX2_init_0 rfl (lv_at hl 0 rfl) ?_
  refine W.objInit hx hb hown (hts (.methodLink RX2 3 objectInit) (List.mem_of_getElem? (i := 1) rfl)) (hts (.instanceMethod objectInit) (List.mem_of_getElem? (i := 2) rfl)) (hts (.code objectInit ⟨#[0xb1]⟩ 1 none) (List.mem_of_getElem? (i := 3) rfl)) rfl (by rw [hml]; exact hl.1) rfl dX2_init_1 (Nat.le_of_ble_eq_true rfl) (Nat.le_of_ble_eq_true rfl) ?_
  refine W.eq (g2 := F0 m 4 ls []) rfl ?_
  refine lv_aload_n hx hb dX2_init_4 rfl (lv_at hl 0 rfl) ?_
  refine lv_bipush (v := 10) hx hb dX2_init_5 (by decide) ?_
  refine va_newa (atype := .int) (ty := .int) hx hb (hts (.arrayClass .int) (List.mem_of_getElem? (i := 4) rfl)) rfl hK hP hD hS hA (n := 10) (N' := 10) (a0 := (10, .inl (fun _ => 0))) (fun cA => rfl) (by decide) (nI_clamp (n := 10) (by decide)) (Nat.le_of_ble_eq_true rfl) (Nat.le_of_ble_eq_true rfl) (Nat.le_of_ble_eq_true rfl) dX2_init_7 (fun q7 cA hF hK9 hP hD hS => ?_)
  have e9 : cI = cA := K_eqI hK9 (i := 0) (j := 1) rfl rfl
  subst e9
  generalize hF = H at hP hD hS ⊢
  have hP : va_P D vwCl [(h0, .inr (2, [.null, .int 0, .int 0, .int 0, .int 0, .int 0, .int 0, .int 0, .int 0, .int 0])), (q7, .inl (cI, 10, .inl (fun _ => 0)))] H := hP
  have hD : va_D A [(h0, .inr (2, [.null, .int 0, .int 0, .int 0, .int 0, .int 0, .int 0, .int 0, .int 0, .int 0])), (q7, .inl (cI, 10, .inl (fun _ => 0)))] := hD
  refine W.widen (k := 1) (n := 10) (Nat.le_of_ble_eq_true rfl) (Nat.le_of_ble_eq_true rfl) ?_
  refine va_putF (D := D) (ci := 2) (v := .ref q7) (ty := .array .int) (C := RX2) (T := TX2) (N := 10) hx hb hts inX2 tyX2 tyX2_ok nmX2 hown hK hP hD hS 0 rfl rfl 0 (by decide) fl9 (fun _ h9 => h9) rfl hin rfl (by decide +kernel) rfl rfl (Nat.le_of_ble_eq_true rfl) dX2_init_9 (fun H locs hP hD hS => ?_)
  have hP : va_P D vwCl [(h0, .inr (2, [.ref q7, .int 0, .int 0, .int 0, .int 0, .int 0, .int 0, .int 0, .int 0, .int 0])), (q7, .inl (cI, 10, .inl (fun _ => 0)))] H := hP
  have hD : va_D A [(h0, .inr (2, [.ref q7, .int 0, .int 0, .int 0, .int 0, .int 0, .int 0, .int 0, .int 0, .int 0])), (q7, .inl (cI, 10, .inl (fun _ => 0)))] := hD
  refine lv_aload_n hx hb dX2_init_12 rfl (lv_at hl 0 rfl) ?_
  refine lv_bipush (v := (-4)) hx hb dX2_init_13 (by decide) ?_
  refine va_put (D := D) (ci := 2) (v := .int (-4)) (ty := .int) (C := RX2) (T := TX2) (N := 10) hx hb hts inX2 tyX2 tyX2_ok nmX2 hown hK hP hD hS 0 rfl rfl 3 (by decide) fl15 (fun _ h9 => h9) rfl (by decide +kernel) rfl rfl (Nat.le_of_ble_eq_true rfl) dX2_init_15 (fun H locs hP hD hS => ?_)
  have hP : va_P D vwCl [(h0, .inr (2, [.ref q7, .int 0, .int 0, .int (-4), .int 0, .int 0, .int 0, .int 0, .int 0, .int 0])), (q7, .inl (cI, 10, .inl (fun _ => 0)))] H := hP
  have hD : va_D A [(h0, .inr (2, [.ref q7, .int 0, .int 0, .int (-4), .int 0, .int 0, .int 0, .int 0, .int 0, .int 0])), (q7, .inl (cI, 10, .inl (fun _ => 0)))] := hD
  refine lv_aload_n hx hb dX2_init_18 rfl (lv_at hl 0 rfl) ?_
  refine lv_bipush (v := (-4)) hx hb dX2_init_19 (by decide) ?_
  refine va_put (D := D) (ci := 2) (v := .int (-4)) (ty := .int) (C := RX2) (T := TX2) (N := 10) hx hb hts inX2 tyX2 tyX2_ok nmX2 hown hK hP hD hS 0 rfl rfl 4 (by decide) fl19 (fun _ h9 => h9) rfl (by decide +kernel) rfl rfl (Nat.le_of_ble_eq_true rfl) dX2_init_21 (fun H locs hP hD hS => ?_)
  have hP : va_P D vwCl [(h0, .inr (2, [.ref q7, .int 0, .int 0, .int (-4), .int (-4), .int 0, .int 0, .int 0, .int 0, .int 0])), (q7, .inl (cI, 10, .inl (fun _ => 0)))] H := hP
  have hD : va_D A [(h0, .inr (2, [.ref q7, .int 0, .int 0, .int (-4), .int (-4), .int 0, .int 0, .int 0, .int 0, .int 0])), (q7, .inl (cI, 10, .inl (fun _ => 0)))] := hD
  exact Rn (D := D) (fun i => [h0, q7].getD i 0) hx hb hr hlocks hP hD hS rfl dX2_init_24

set_option maxHeartbeats 400000 in
set_option maxRecDepth 100000 in
theorem c_X3_init (l : Launch) (D : va_G) (cI : ClassId) (h0 : Nat) : Cn l D [(cI, .int)] yX3_init wsX3_init ({ frames := 1, cells := 3, slots := 24, locals := 12 }) [.ref h0] ([(h0, .inr (3, [.null, .null, .null, .int 0]))]) 3 24 (S := Nat → Nat) (fun u => u 0 = h0) (fun u => wSt u cI (upd (upd (upd (upd (fun _ => 0) 4 (-1)) 5 (-1)) 6 (-1)) 7 (-1)) (fun _ => 0) (fun _ => 0) 0) := by
  refine Cn.mk (cc := cX3_init) (maxL := 2) (ret := none) (by decide +kernel) rfl (Nat.le_of_ble_eq_true rfl) ?_
  intro pg e s m below meth c A ls hx hb hml hr hown hts hlocks hK hns hA hP hD hS hl hAO hin
  have hin : meth.name = "<init>" := hin
  have hl : lv_has ls 2 [(0, .ref h0)] := hl
  have fl9 := hts (.fieldLink RX3 9 "HeldShelves$Stock" "goods" "[I") (List.mem_of_getElem? (i := 5) rfl)
  have inX3 : ∀ w ∈ wsX30, w ∈ wsX3_init := fun _ h => List.mem_cons_of_mem _ (List.mem_append_right _ h)
  have fl15 := hts (.fieldLink RX3 15 "HeldShelves$Stock" "left" "[I") (List.mem_of_getElem? (i := 6) rfl)
  have fl18 := hts (.fieldLink RX3 18 "HeldShelves$Stock" "held" "[I") (List.mem_of_getElem? (i := 7) rfl)
  have hP : va_P D vwCl [(h0, .inr (3, [.null, .null, .null, .int 0]))] s.heap := hP
  have hD : va_D A [(h0, .inr (3, [.null, .null, .null, .int 0]))] := hD
  refine lv_aload_n hx hb dX3_init_0 rfl (lv_at hl 0 rfl) ?_
  refine W.objInit hx hb hown (hts (.methodLink RX3 3 objectInit) (List.mem_of_getElem? (i := 1) rfl)) (hts (.instanceMethod objectInit) (List.mem_of_getElem? (i := 2) rfl)) (hts (.code objectInit ⟨#[0xb1]⟩ 1 none) (List.mem_of_getElem? (i := 3) rfl)) rfl (by rw [hml]; exact hl.1) rfl dX3_init_1 (Nat.le_of_ble_eq_true rfl) (Nat.le_of_ble_eq_true rfl) ?_
  refine W.eq (g2 := F0 m 4 ls []) rfl ?_
  refine lv_aload_n hx hb dX3_init_4 rfl (lv_at hl 0 rfl) ?_
  refine lv_bipush (v := 8) hx hb dX3_init_5 (by decide) ?_
  refine va_newa (atype := .int) (ty := .int) hx hb (hts (.arrayClass .int) (List.mem_of_getElem? (i := 4) rfl)) rfl hK hP hD hS hA (n := 8) (N' := 8) (a0 := (8, .inl (fun _ => 0))) (fun cA => rfl) (by decide) (nI_clamp (n := 8) (by decide)) (Nat.le_of_ble_eq_true rfl) (Nat.le_of_ble_eq_true rfl) (Nat.le_of_ble_eq_true rfl) dX3_init_7 (fun q7 cA hF hK9 hP hD hS => ?_)
  have e9 : cI = cA := K_eqI hK9 (i := 0) (j := 1) rfl rfl
  subst e9
  generalize hF = H at hP hD hS ⊢
  have hP : va_P D vwCl [(h0, .inr (3, [.null, .null, .null, .int 0])), (q7, .inl (cI, 8, .inl (fun _ => 0)))] H := hP
  have hD : va_D A [(h0, .inr (3, [.null, .null, .null, .int 0])), (q7, .inl (cI, 8, .inl (fun _ => 0)))] := hD
  refine W.widen (k := 1) (n := 8) (Nat.le_of_ble_eq_true rfl) (Nat.le_of_ble_eq_true rfl) ?_
  refine va_putF (D := D) (ci := 3) (v := .ref q7) (ty := .array .int) (C := RX3) (T := TX3) (N := 4) hx hb hts inX3 tyX3 tyX3_ok nmX3 hown hK hP hD hS 0 rfl rfl 0 (by decide) fl9 (fun _ h9 => h9) rfl hin rfl (by decide +kernel) rfl rfl (Nat.le_of_ble_eq_true rfl) dX3_init_9 (fun H locs hP hD hS => ?_)
  have hP : va_P D vwCl [(h0, .inr (3, [.ref q7, .null, .null, .int 0])), (q7, .inl (cI, 8, .inl (fun _ => 0)))] H := hP
  have hD : va_D A [(h0, .inr (3, [.ref q7, .null, .null, .int 0])), (q7, .inl (cI, 8, .inl (fun _ => 0)))] := hD
  refine lv_aload_n hx hb dX3_init_12 rfl (lv_at hl 0 rfl) ?_
  refine lv_bipush (v := 8) hx hb dX3_init_13 (by decide) ?_
  refine va_newa (atype := .int) (ty := .int) hx hb (hts (.arrayClass .int) (List.mem_of_getElem? (i := 4) rfl)) rfl hK hP hD hS hA (n := 8) (N' := 8) (a0 := (8, .inl (fun _ => 0))) (fun cA => rfl) (by decide) (nI_clamp (n := 8) (by decide)) (Nat.le_of_ble_eq_true rfl) (Nat.le_of_ble_eq_true rfl) (Nat.le_of_ble_eq_true rfl) dX3_init_15 (fun q15 cA hF hK9 hP hD hS => ?_)
  have e9 : cI = cA := K_eqI hK9 (i := 0) (j := 1) rfl rfl
  subst e9
  generalize hF = H at hP hD hS ⊢
  have hP : va_P D vwCl [(h0, .inr (3, [.ref q7, .null, .null, .int 0])), (q7, .inl (cI, 8, .inl (fun _ => 0))), (q15, .inl (cI, 8, .inl (fun _ => 0)))] H := hP
  have hD : va_D A [(h0, .inr (3, [.ref q7, .null, .null, .int 0])), (q7, .inl (cI, 8, .inl (fun _ => 0))), (q15, .inl (cI, 8, .inl (fun _ => 0)))] := hD
  refine W.widen (k := 2) (n := 16) (Nat.le_of_ble_eq_true rfl) (Nat.le_of_ble_eq_true rfl) ?_
  refine va_putF (D := D) (ci := 3) (v := .ref q15) (ty := .array .int) (C := RX3) (T := TX3) (N := 4) hx hb hts inX3 tyX3 tyX3_ok nmX3 hown hK hP hD hS 0 rfl rfl 1 (by decide) fl15 (fun _ h9 => h9) rfl hin rfl (by decide +kernel) rfl rfl (Nat.le_of_ble_eq_true rfl) dX3_init_17 (fun H locs hP hD hS => ?_)
  have hP : va_P D vwCl [(h0, .inr (3, [.ref q7, .ref q15, .null, .int 0])), (q7, .inl (cI, 8, .inl (fun _ => 0))), (q15, .inl (cI, 8, .inl (fun _ => 0)))] H := hP
  have hD : va_D A [(h0, .inr (3, [.ref q7, .ref q15, .null, .int 0])), (q7, .inl (cI, 8, .inl (fun _ => 0))), (q15, .inl (cI, 8, .inl (fun _ => 0)))] := hD
  refine lv_aload_n hx hb dX3_init_20 rfl (lv_at hl 0 rfl) ?_
  refine lv_bipush (v := 8) hx hb dX3_init_21 (by decide) ?_
  refine va_newa (atype := .int) (ty := .int) hx hb (hts (.arrayClass .int) (List.mem_of_getElem? (i := 4) rfl)) rfl hK hP hD hS hA (n := 8) (N' := 8) (a0 := (8, .inl (fun _ => 0))) (fun cA => rfl) (by decide) (nI_clamp (n := 8) (by decide)) (Nat.le_of_ble_eq_true rfl) (Nat.le_of_ble_eq_true rfl) (Nat.le_of_ble_eq_true rfl) dX3_init_23 (fun q23 cA hF hK9 hP hD hS => ?_)
  have e9 : cI = cA := K_eqI hK9 (i := 0) (j := 1) rfl rfl
  subst e9
  generalize hF = H at hP hD hS ⊢
  have hP : va_P D vwCl [(h0, .inr (3, [.ref q7, .ref q15, .null, .int 0])), (q7, .inl (cI, 8, .inl (fun _ => 0))), (q15, .inl (cI, 8, .inl (fun _ => 0))), (q23, .inl (cI, 8, .inl (fun _ => 0)))] H := hP
  have hD : va_D A [(h0, .inr (3, [.ref q7, .ref q15, .null, .int 0])), (q7, .inl (cI, 8, .inl (fun _ => 0))), (q15, .inl (cI, 8, .inl (fun _ => 0))), (q23, .inl (cI, 8, .inl (fun _ => 0)))] := hD
  refine W.widen (k := 3) (n := 24) (Nat.le_of_ble_eq_true rfl) (Nat.le_of_ble_eq_true rfl) ?_
  refine va_putF (D := D) (ci := 3) (v := .ref q23) (ty := .array .int) (C := RX3) (T := TX3) (N := 4) hx hb hts inX3 tyX3 tyX3_ok nmX3 hown hK hP hD hS 0 rfl rfl 2 (by decide) fl18 (fun _ h9 => h9) rfl hin rfl (by decide +kernel) rfl rfl (Nat.le_of_ble_eq_true rfl) dX3_init_25 (fun H locs hP hD hS => ?_)
  have hP : va_P D vwCl [(h0, .inr (3, [.ref q7, .ref q15, .ref q23, .int 0])), (q7, .inl (cI, 8, .inl (fun _ => 0))), (q15, .inl (cI, 8, .inl (fun _ => 0))), (q23, .inl (cI, 8, .inl (fun _ => 0)))] H := hP
  have hD : va_D A [(h0, .inr (3, [.ref q7, .ref q15, .ref q23, .int 0])), (q7, .inl (cI, 8, .inl (fun _ => 0))), (q15, .inl (cI, 8, .inl (fun _ => 0))), (q23, .inl (cI, 8, .inl (fun _ => 0)))] := hD
  refine lv_iconst (v := 4) hx hb dX3_init_28 (by decide) ?_
  refine lv_istore_n (lv' := [(1, .int 4), (0, .ref h0)]) hx hb dX3_init_29 rfl hl (by decide) rfl (fun ls hl => ?_)
  refine lv_iload_n hx hb dX3_init_30 rfl (lv_at hl 0 rfl) ?_
  refine lv_bipush (v := 8) hx hb dX3_init_31 (by decide) ?_
  refine lv_icmp_ge (tgt := 49) hx hb dX3_init_33 (by decide) (fun c9 => absurd c9 (by decide)) (fun _ => ?_)
  refine lv_aload_n hx hb dX3_init_36 rfl (lv_at hl 1 rfl) ?_
  refine va_get (D := D) (ci := 3) (v := .ref q7) (C := RX3) (T := TX3) (N := 4) hx hb hts inX3 hown hK hP 0 rfl rfl 0 (by decide) fl9 (fun _ h9 => h9) rfl dX3_init_37 ?_
  refine lv_iload_n hx hb dX3_init_40 rfl (lv_at hl 0 rfl) ?_
  refine lv_iconst (v := (-1)) hx hb dX3_init_41 (by decide) ?_
  refine xi_ast hx hb hK hP hD hS 1 0 rfl rfl (k := 4) (x := (-1)) (by omega) (by decide) dX3_init_42 (fun H locs hP hD hS => ?_)
  have hP : va_P D vwCl [(h0, .inr (3, [.ref q7, .ref q15, .ref q23, .int 0])), (q7, .inl (cI, 8, .inl (upd (fun _ => 0) 4 (-1)))), (q15, .inl (cI, 8, .inl (fun _ => 0))), (q23, .inl (cI, 8, .inl (fun _ => 0)))] H := hP
  have hD : va_D A [(h0, .inr (3, [.ref q7, .ref q15, .ref q23, .int 0])), (q7, .inl (cI, 8, .inl (upd (fun _ => 0) 4 (-1)))), (q15, .inl (cI, 8, .inl (fun _ => 0))), (q23, .inl (cI, 8, .inl (fun _ => 0)))] := hD
  refine lv_iinc (v := 5) (lv' := [(1, .int 5), (0, .ref h0)]) hx hb dX3_init_43 hl (k := 0) rfl (by decide) (by decide) rfl (fun ls hl => ?_)
  refine lv_goto (tgt := 30) hx hb dX3_init_46 (by decide) ?_
  refine lv_iload_n hx hb dX3_init_30 rfl (lv_at hl 0 rfl) ?_
  refine lv_bipush (v := 8) hx hb dX3_init_31 (by decide) ?_
  refine lv_icmp_ge (tgt := 49) hx hb dX3_init_33 (by decide) (fun c9 => absurd c9 (by decide)) (fun _ => ?_)
  refine lv_aload_n hx hb dX3_init_36 rfl (lv_at hl 1 rfl) ?_
  refine va_get (D := D) (ci := 3) (v := .ref q7) (C := RX3) (T := TX3) (N := 4) hx hb hts inX3 hown hK hP 0 rfl rfl 0 (by decide) fl9 (fun _ h9 => h9) rfl dX3_init_37 ?_
  refine lv_iload_n hx hb dX3_init_40 rfl (lv_at hl 0 rfl) ?_
  refine lv_iconst (v := (-1)) hx hb dX3_init_41 (by decide) ?_
  refine xi_ast hx hb hK hP hD hS 1 0 rfl rfl (k := 5) (x := (-1)) (by omega) (by decide) dX3_init_42 (fun H locs hP hD hS => ?_)
  have hP : va_P D vwCl [(h0, .inr (3, [.ref q7, .ref q15, .ref q23, .int 0])), (q7, .inl (cI, 8, .inl (upd (upd (fun _ => 0) 4 (-1)) 5 (-1)))), (q15, .inl (cI, 8, .inl (fun _ => 0))), (q23, .inl (cI, 8, .inl (fun _ => 0)))] H := hP
  have hD : va_D A [(h0, .inr (3, [.ref q7, .ref q15, .ref q23, .int 0])), (q7, .inl (cI, 8, .inl (upd (upd (fun _ => 0) 4 (-1)) 5 (-1)))), (q15, .inl (cI, 8, .inl (fun _ => 0))), (q23, .inl (cI, 8, .inl (fun _ => 0)))] := hD
  refine lv_iinc (v := 6) (lv' := [(1, .int 6), (0, .ref h0)]) hx hb dX3_init_43 hl (k := 0) rfl (by decide) (by decide) rfl (fun ls hl => ?_)
  refine lv_goto (tgt := 30) hx hb dX3_init_46 (by decide) ?_
  refine lv_iload_n hx hb dX3_init_30 rfl (lv_at hl 0 rfl) ?_
  refine lv_bipush (v := 8) hx hb dX3_init_31 (by decide) ?_
  refine lv_icmp_ge (tgt := 49) hx hb dX3_init_33 (by decide) (fun c9 => absurd c9 (by decide)) (fun _ => ?_)
  refine lv_aload_n hx hb dX3_init_36 rfl (lv_at hl 1 rfl) ?_
  refine va_get (D := D) (ci := 3) (v := .ref q7) (C := RX3) (T := TX3) (N := 4) hx hb hts inX3 hown hK hP 0 rfl rfl 0 (by decide) fl9 (fun _ h9 => h9) rfl dX3_init_37 ?_
  refine lv_iload_n hx hb dX3_init_40 rfl (lv_at hl 0 rfl) ?_
  refine lv_iconst (v := (-1)) hx hb dX3_init_41 (by decide) ?_
  refine xi_ast hx hb hK hP hD hS 1 0 rfl rfl (k := 6) (x := (-1)) (by omega) (by decide) dX3_init_42 (fun H locs hP hD hS => ?_)
  have hP : va_P D vwCl [(h0, .inr (3, [.ref q7, .ref q15, .ref q23, .int 0])), (q7, .inl (cI, 8, .inl (upd (upd (upd (fun _ => 0) 4 (-1)) 5 (-1)) 6 (-1)))), (q15, .inl (cI, 8, .inl (fun _ => 0))), (q23, .inl (cI, 8, .inl (fun _ => 0)))] H := hP
  have hD : va_D A [(h0, .inr (3, [.ref q7, .ref q15, .ref q23, .int 0])), (q7, .inl (cI, 8, .inl (upd (upd (upd (fun _ => 0) 4 (-1)) 5 (-1)) 6 (-1)))), (q15, .inl (cI, 8, .inl (fun _ => 0))), (q23, .inl (cI, 8, .inl (fun _ => 0)))] := hD
  refine lv_iinc (v := 7) (lv' := [(1, .int 7), (0, .ref h0)]) hx hb dX3_init_43 hl (k := 0) rfl (by decide) (by decide) rfl (fun ls hl => ?_)
  refine lv_goto (tgt := 30) hx hb dX3_init_46 (by decide) ?_
  refine lv_iload_n hx hb dX3_init_30 rfl (lv_at hl 0 rfl) ?_
  refine lv_bipush (v := 8) hx hb dX3_init_31 (by decide) ?_
  refine lv_icmp_ge (tgt := 49) hx hb dX3_init_33 (by decide) (fun c9 => absurd c9 (by decide)) (fun _ => ?_)
  refine lv_aload_n hx hb dX3_init_36 rfl (lv_at hl 1 rfl) ?_
  refine va_get (D := D) (ci := 3) (v := .ref q7) (C := RX3) (T := TX3) (N := 4) hx hb hts inX3 hown hK hP 0 rfl rfl 0 (by decide) fl9 (fun _ h9 => h9) rfl dX3_init_37 ?_
  refine lv_iload_n hx hb dX3_init_40 rfl (lv_at hl 0 rfl) ?_
  refine lv_iconst (v := (-1)) hx hb dX3_init_41 (by decide) ?_
  refine xi_ast hx hb hK hP hD hS 1 0 rfl rfl (k := 7) (x := (-1)) (by omega) (by decide) dX3_init_42 (fun H locs hP hD hS => ?_)
  have hP : va_P D vwCl [(h0, .inr (3, [.ref q7, .ref q15, .ref q23, .int 0])), (q7, .inl (cI, 8, .inl (upd (upd (upd (upd (fun _ => 0) 4 (-1)) 5 (-1)) 6 (-1)) 7 (-1)))), (q15, .inl (cI, 8, .inl (fun _ => 0))), (q23, .inl (cI, 8, .inl (fun _ => 0)))] H := hP
  have hD : va_D A [(h0, .inr (3, [.ref q7, .ref q15, .ref q23, .int 0])), (q7, .inl (cI, 8, .inl (upd (upd (upd (upd (fun _ => 0) 4 (-1)) 5 (-1)) 6 (-1)) 7 (-1)))), (q15, .inl (cI, 8, .inl (fun _ => 0))), (q23, .inl (cI, 8, .inl (fun _ => 0)))] := hD
  refine lv_iinc (v := 8) (lv' := [(1, .int 8), (0, .ref h0)]) hx hb dX3_init_43 hl (k := 0) rfl (by decide) (by decide) rfl (fun ls hl => ?_)
  refine lv_goto (tgt := 30) hx hb dX3_init_46 (by decide) ?_
  refine lv_iload_n hx hb dX3_init_30 rfl (lv_at hl 0 rfl) ?_
  refine lv_bipush (v := 8) hx hb dX3_init_31 (by decide) ?_
  refine lv_icmp_ge (tgt := 49) hx hb dX3_init_33 (by decide) (fun _ => ?_) (fun c9 => absurd (by decide) c9)
  exact Rn (D := D) (fun i => [h0, q7, q15, q23].getD i 0) hx hb hr hlocks hP hD hS rfl dX3_init_49

