set_option maxHeartbeats 4000000 in
set_option maxRecDepth 100000 in
theorem c_X5_clear (l : Launch) (D : va_G) (cI cZ : ClassId) (a : Nat → Nat) (v : Nat → Nat → Int32) (t r lv b o : Int32) (G : GP) (go : Nat → Nat) (lf : Nat → Int32) (rs : Int32) (td ct : Nat → Int32) (hR : Rp G go lf rs td ct (cnt []) v r) (x : Int32) : Ci l D [(cI, .int), (cZ, .boolean)] yX5_clear wsX5_clear ({ frames := 2, cells := 0, slots := 0, locals := 42 }) [.ref (a 0), .int x] (wM a cI cZ v t r lv b o) (S := Nat → Nat → Int32) (fun w u => w = (F_clear G x).1 ∧ Rp (F_clear G x).2 go lf rs td ct (cnt []) u r) (fun u => wM a cI cZ u 0 r lv b o) := by
  refine Ci.mk (cc := cX5_clear) (maxL := 3) (ret := (some .int)) (by decide +kernel) rfl (Nat.le_of_ble_eq_true rfl) ?_
  intro pg e s m below meth c A ls hx hb hml hr hown hts hlocks hK hns hA hP hD hS hl
  have hl : lv_has ls 3 [(0, .ref (a 0)), (1, .int x)] := hl
  have fl59 := hts (.fieldLink RX5 59 "HeldShelvesModel" "thrown" "I") (List.mem_of_getElem? (i := 1) rfl)
  have inX5 : ∀ w ∈ wsX50, w ∈ wsX5_clear := fun _ h => List.mem_cons_of_mem _ (List.mem_append_right _ h)
  have fl7 := hts (.fieldLink RX5 7 "HeldShelvesModel" "many" "[I") (List.mem_of_getElem? (i := 2) rfl)
  have hP : va_P D vwCl [(a 0, .inr (5, [.int t, .ref (a 1), .ref (a 2), .ref (a 3), .ref (a 4), .ref (a 5), .ref (a 6), .ref (a 7), .ref (a 8), .ref (a 9), .int r, .ref (a 11), .ref (a 12), .ref (a 13), .ref (a 14), .int lv, .ref (a 16), .ref (a 17), .ref (a 18), .int b, .int o])), (a 1, .inl (cI, 6, .inl (v 1))), (a 2, .inl (cI, 240, .inl (v 2))), (a 3, .inl (cI, 240, .inl (v 3))), (a 4, .inl (cI, 240, .inl (v 4))), (a 5, .inl (cI, 240, .inl (v 5))), (a 6, .inl (cZ, 8, .inl (v 6))), (a 7, .inl (cI, 8, .inl (v 7))), (a 8, .inl (cI, 8, .inl (v 8))), (a 9, .inl (cI, 8, .inl (v 9))), (a 11, .inl (cI, 8, .inl (v 11))), (a 12, .inl (cI, 10, .inl (v 12))), (a 13, .inl (cI, 5, .inl (v 13))), (a 14, .inl (cI, 5, .inl (v 14))), (a 16, .inl (cI, 128, .inl (v 16))), (a 17, .inl (cI, 128, .inl (v 17))), (a 18, .inl (cI, 128, .inl (v 18)))] s.heap := hP
  have hD : va_D A [(a 0, .inr (5, [.int t, .ref (a 1), .ref (a 2), .ref (a 3), .ref (a 4), .ref (a 5), .ref (a 6), .ref (a 7), .ref (a 8), .ref (a 9), .int r, .ref (a 11), .ref (a 12), .ref (a 13), .ref (a 14), .int lv, .ref (a 16), .ref (a 17), .ref (a 18), .int b, .int o])), (a 1, .inl (cI, 6, .inl (v 1))), (a 2, .inl (cI, 240, .inl (v 2))), (a 3, .inl (cI, 240, .inl (v 3))), (a 4, .inl (cI, 240, .inl (v 4))), (a 5, .inl (cI, 240, .inl (v 5))), (a 6, .inl (cZ, 8, .inl (v 6))), (a 7, .inl (cI, 8, .inl (v 7))), (a 8, .inl (cI, 8, .inl (v 8))), (a 9, .inl (cI, 8, .inl (v 9))), (a 11, .inl (cI, 8, .inl (v 11))), (a 12, .inl (cI, 10, .inl (v 12))), (a 13, .inl (cI, 5, .inl (v 13))), (a 14, .inl (cI, 5, .inl (v 14))), (a 16, .inl (cI, 128, .inl (v 16))), (a 17, .inl (cI, 128, .inl (v 17))), (a 18, .inl (cI, 128, .inl (v 18)))] := hD
  refine lv_aload_n hx hb dX5_clear_0 rfl (lv_at hl 0 rfl) ?_
  refine lv_iconst (v := 0) hx hb dX5_clear_1 (by decide) ?_
  refine va_put (D := D) (ci := 5) (v := .int 0) (ty := .int) (C := RX5) (T := TX5) (N := 21) hx hb hts inX5 tyX5 tyX5_ok nmX5 hown hK hP hD hS 0 rfl rfl 0 (by decide) fl59 (fun _ h9 => h9) rfl (by decide +kernel) rfl rfl (Nat.le_of_ble_eq_true rfl) dX5_clear_2 (fun H locs hP hD hS => ?_)
  have hP : va_P D vwCl [(a 0, .inr (5, [.int 0, .ref (a 1), .ref (a 2), .ref (a 3), .ref (a 4), .ref (a 5), .ref (a 6), .ref (a 7), .ref (a 8), .ref (a 9), .int r, .ref (a 11), .ref (a 12), .ref (a 13), .ref (a 14), .int lv, .ref (a 16), .ref (a 17), .ref (a 18), .int b, .int o])), (a 1, .inl (cI, 6, .inl (v 1))), (a 2, .inl (cI, 240, .inl (v 2))), (a 3, .inl (cI, 240, .inl (v 3))), (a 4, .inl (cI, 240, .inl (v 4))), (a 5, .inl (cI, 240, .inl (v 5))), (a 6, .inl (cZ, 8, .inl (v 6))), (a 7, .inl (cI, 8, .inl (v 7))), (a 8, .inl (cI, 8, .inl (v 8))), (a 9, .inl (cI, 8, .inl (v 9))), (a 11, .inl (cI, 8, .inl (v 11))), (a 12, .inl (cI, 10, .inl (v 12))), (a 13, .inl (cI, 5, .inl (v 13))), (a 14, .inl (cI, 5, .inl (v 14))), (a 16, .inl (cI, 128, .inl (v 16))), (a 17, .inl (cI, 128, .inl (v 17))), (a 18, .inl (cI, 128, .inl (v 18)))] H := hP
  have hD : va_D A [(a 0, .inr (5, [.int 0, .ref (a 1), .ref (a 2), .ref (a 3), .ref (a 4), .ref (a 5), .ref (a 6), .ref (a 7), .ref (a 8), .ref (a 9), .int r, .ref (a 11), .ref (a 12), .ref (a 13), .ref (a 14), .int lv, .ref (a 16), .ref (a 17), .ref (a 18), .int b, .int o])), (a 1, .inl (cI, 6, .inl (v 1))), (a 2, .inl (cI, 240, .inl (v 2))), (a 3, .inl (cI, 240, .inl (v 3))), (a 4, .inl (cI, 240, .inl (v 4))), (a 5, .inl (cI, 240, .inl (v 5))), (a 6, .inl (cZ, 8, .inl (v 6))), (a 7, .inl (cI, 8, .inl (v 7))), (a 8, .inl (cI, 8, .inl (v 8))), (a 9, .inl (cI, 8, .inl (v 9))), (a 11, .inl (cI, 8, .inl (v 11))), (a 12, .inl (cI, 10, .inl (v 12))), (a 13, .inl (cI, 5, .inl (v 13))), (a 14, .inl (cI, 5, .inl (v 14))), (a 16, .inl (cI, 128, .inl (v 16))), (a 17, .inl (cI, 128, .inl (v 17))), (a 18, .inl (cI, 128, .inl (v 18)))] := hD
  refine lv_iload_n hx hb dX5_clear_5 rfl (lv_at hl 1 rfl) ?_
  refine cl_Si (As := [.int x]) (rest := []) (c_X5_isPlan l D x) ⟨hx, hb, hml, hown, hts⟩ (cwS 1 hts gX5_clear_X5_isPlan rfl rfl rfl (by decide +kernel) ⟨Nat.le_of_ble_eq_true rfl, Nat.le_of_ble_eq_true rfl⟩) hK hns hP hD hS hA rfl hl.1 rfl (Nat.le_of_ble_eq_true rfl) dX5_clear_6 ⟨Nat.zero_le _, Nat.zero_le _⟩ (fun r6 u6 H locs hw6 hP hD hS => ?_)
  rcases hw6 with ⟨rfl, hp6⟩ | ⟨rfl, hp6⟩
  · obtain ⟨q, hq6, rfl⟩ := hp6
    refine lv_if_ne (tgt := 14) hx hb dX5_clear_9 (by decide) (fun _ => ?_) (fun c9 => absurd c9 (by decide))
    refine lv_aload_n hx hb dX5_clear_14 rfl (lv_at hl 0 rfl) ?_
    refine va_get (D := D) (ci := 5) (v := .ref (a 1)) (C := RX5) (T := TX5) (N := 21) hx hb hts inX5 hown hK hP 0 rfl rfl 1 (by decide) fl7 (fun _ h9 => h9) rfl dX5_clear_15 ?_
    refine lv_iload_n hx hb dX5_clear_18 rfl (lv_at hl 1 rfl) ?_
    refine xi_ald hx hb hK hP 1 0 rfl rfl (k := q) (by omega) (by decide) dX5_clear_19 ?_
    refine lv_istore_n (lv' := [(2, .int ((v 1) q)), (0, .ref (a 0)), (1, .int (nI q))]) hx hb dX5_clear_20 rfl hl (by decide) rfl (fun ls hl => ?_)
    refine lv_aload_n hx hb dX5_clear_21 rfl (lv_at hl 1 rfl) ?_
    refine va_get (D := D) (ci := 5) (v := .ref (a 1)) (C := RX5) (T := TX5) (N := 21) hx hb hts inX5 hown hK hP 0 rfl rfl 1 (by decide) fl7 (fun _ h9 => h9) rfl dX5_clear_22 ?_
    refine lv_iload_n hx hb dX5_clear_25 rfl (lv_at hl 2 rfl) ?_
    refine lv_iconst (v := 0) hx hb dX5_clear_26 (by decide) ?_
    refine xi_ast hx hb hK hP hD hS 1 0 rfl rfl (k := q) (x := 0) (by omega) (by decide) dX5_clear_27 (fun H locs hP hD hS => ?_)
    have hP : va_P D vwCl [(a 0, .inr (5, [.int 0, .ref (a 1), .ref (a 2), .ref (a 3), .ref (a 4), .ref (a 5), .ref (a 6), .ref (a 7), .ref (a 8), .ref (a 9), .int r, .ref (a 11), .ref (a 12), .ref (a 13), .ref (a 14), .int lv, .ref (a 16), .ref (a 17), .ref (a 18), .int b, .int o])), (a 1, .inl (cI, 6, .inl (upd (v 1) q 0))), (a 2, .inl (cI, 240, .inl (v 2))), (a 3, .inl (cI, 240, .inl (v 3))), (a 4, .inl (cI, 240, .inl (v 4))), (a 5, .inl (cI, 240, .inl (v 5))), (a 6, .inl (cZ, 8, .inl (v 6))), (a 7, .inl (cI, 8, .inl (v 7))), (a 8, .inl (cI, 8, .inl (v 8))), (a 9, .inl (cI, 8, .inl (v 9))), (a 11, .inl (cI, 8, .inl (v 11))), (a 12, .inl (cI, 10, .inl (v 12))), (a 13, .inl (cI, 5, .inl (v 13))), (a 14, .inl (cI, 5, .inl (v 14))), (a 16, .inl (cI, 128, .inl (v 16))), (a 17, .inl (cI, 128, .inl (v 17))), (a 18, .inl (cI, 128, .inl (v 18)))] H := hP
    have hD : va_D A [(a 0, .inr (5, [.int 0, .ref (a 1), .ref (a 2), .ref (a 3), .ref (a 4), .ref (a 5), .ref (a 6), .ref (a 7), .ref (a 8), .ref (a 9), .int r, .ref (a 11), .ref (a 12), .ref (a 13), .ref (a 14), .int lv, .ref (a 16), .ref (a 17), .ref (a 18), .int b, .int o])), (a 1, .inl (cI, 6, .inl (upd (v 1) q 0))), (a 2, .inl (cI, 240, .inl (v 2))), (a 3, .inl (cI, 240, .inl (v 3))), (a 4, .inl (cI, 240, .inl (v 4))), (a 5, .inl (cI, 240, .inl (v 5))), (a 6, .inl (cZ, 8, .inl (v 6))), (a 7, .inl (cI, 8, .inl (v 7))), (a 8, .inl (cI, 8, .inl (v 8))), (a 9, .inl (cI, 8, .inl (v 9))), (a 11, .inl (cI, 8, .inl (v 11))), (a 12, .inl (cI, 10, .inl (v 12))), (a 13, .inl (cI, 5, .inl (v 13))), (a 14, .inl (cI, 5, .inl (v 14))), (a 16, .inl (cI, 128, .inl (v 16))), (a 17, .inl (cI, 128, .inl (v 17))), (a 18, .inl (cI, 128, .inl (v 18)))] := hD
    refine lv_iload_n hx hb dX5_clear_28 rfl (lv_at hl 0 rfl) ?_
    exact Ri (D := D) (va_up v 1 (upd (v 1) q 0)) hx hb hr rfl hlocks hP hD hS (by rw [F_clear_in hq6]; exact ⟨(hR.1 q hq6).1, rpl_clear hR.1, hR.2⟩) dX5_clear_29
  · refine lv_if_ne (tgt := 14) hx hb dX5_clear_9 (by decide) (fun c9 => absurd rfl c9) (fun _ => ?_)
    refine lv_iconst (v := (-1)) hx hb dX5_clear_12 (by decide) ?_
    exact Ri (D := D) v hx hb hr rfl hlocks hP hD hS (by rw [F_clear_no hp6]; exact ⟨rfl, hR⟩) dX5_clear_13

set_option maxHeartbeats 4000000 in
set_option maxRecDepth 100000 in
theorem c_X5_closed (l : Launch) (D : va_G) (cI cZ : ClassId) (a : Nat → Nat) (v : Nat → Nat → Int32) (t r lv b o : Int32) (G : GP) (go : Nat → Nat) (lf : Nat → Int32) (rs : Int32) (td ct : Nat → Int32) (hR : Rp G go lf rs td ct (cnt []) v r) (x : Int32) : Ci l D [(cI, .int), (cZ, .boolean)] yX5_closed wsX5_closed ({ frames := 2, cells := 0, slots := 0, locals := 42 }) [.ref (a 0), .int x] (wM a cI cZ v t r lv b o) (S := Unit) (fun w _ => w = F_closed G x) (fun _ => wM a cI cZ v 0 r lv b o) := by
  refine Ci.mk (cc := cX5_closed) (maxL := 2) (ret := (some .int)) (by decide +kernel) rfl (Nat.le_of_ble_eq_true rfl) ?_
  intro pg e s m below meth c A ls hx hb hml hr hown hts hlocks hK hns hA hP hD hS hl
  have hl : lv_has ls 2 [(0, .ref (a 0)), (1, .int x)] := hl
  have fl59 := hts (.fieldLink RX5 59 "HeldShelvesModel" "thrown" "I") (List.mem_of_getElem? (i := 1) rfl)
  have inX5 : ∀ w ∈ wsX50, w ∈ wsX5_closed := fun _ h => List.mem_cons_of_mem _ (List.mem_append_right _ h)
  have hP : va_P D vwCl [(a 0, .inr (5, [.int t, .ref (a 1), .ref (a 2), .ref (a 3), .ref (a 4), .ref (a 5), .ref (a 6), .ref (a 7), .ref (a 8), .ref (a 9), .int r, .ref (a 11), .ref (a 12), .ref (a 13), .ref (a 14), .int lv, .ref (a 16), .ref (a 17), .ref (a 18), .int b, .int o])), (a 1, .inl (cI, 6, .inl (v 1))), (a 2, .inl (cI, 240, .inl (v 2))), (a 3, .inl (cI, 240, .inl (v 3))), (a 4, .inl (cI, 240, .inl (v 4))), (a 5, .inl (cI, 240, .inl (v 5))), (a 6, .inl (cZ, 8, .inl (v 6))), (a 7, .inl (cI, 8, .inl (v 7))), (a 8, .inl (cI, 8, .inl (v 8))), (a 9, .inl (cI, 8, .inl (v 9))), (a 11, .inl (cI, 8, .inl (v 11))), (a 12, .inl (cI, 10, .inl (v 12))), (a 13, .inl (cI, 5, .inl (v 13))), (a 14, .inl (cI, 5, .inl (v 14))), (a 16, .inl (cI, 128, .inl (v 16))), (a 17, .inl (cI, 128, .inl (v 17))), (a 18, .inl (cI, 128, .inl (v 18)))] s.heap := hP
  have hD : va_D A [(a 0, .inr (5, [.int t, .ref (a 1), .ref (a 2), .ref (a 3), .ref (a 4), .ref (a 5), .ref (a 6), .ref (a 7), .ref (a 8), .ref (a 9), .int r, .ref (a 11), .ref (a 12), .ref (a 13), .ref (a 14), .int lv, .ref (a 16), .ref (a 17), .ref (a 18), .int b, .int o])), (a 1, .inl (cI, 6, .inl (v 1))), (a 2, .inl (cI, 240, .inl (v 2))), (a 3, .inl (cI, 240, .inl (v 3))), (a 4, .inl (cI, 240, .inl (v 4))), (a 5, .inl (cI, 240, .inl (v 5))), (a 6, .inl (cZ, 8, .inl (v 6))), (a 7, .inl (cI, 8, .inl (v 7))), (a 8, .inl (cI, 8, .inl (v 8))), (a 9, .inl (cI, 8, .inl (v 9))), (a 11, .inl (cI, 8, .inl (v 11))), (a 12, .inl (cI, 10, .inl (v 12))), (a 13, .inl (cI, 5, .inl (v 13))), (a 14, .inl (cI, 5, .inl (v 14))), (a 16, .inl (cI, 128, .inl (v 16))), (a 17, .inl (cI, 128, .inl (v 17))), (a 18, .inl (cI, 128, .inl (v 18)))] := hD
  refine lv_aload_n hx hb dX5_closed_0 rfl (lv_at hl 0 rfl) ?_
  refine lv_iconst (v := 0) hx hb dX5_closed_1 (by decide) ?_
  refine va_put (D := D) (ci := 5) (v := .int 0) (ty := .int) (C := RX5) (T := TX5) (N := 21) hx hb hts inX5 tyX5 tyX5_ok nmX5 hown hK hP hD hS 0 rfl rfl 0 (by decide) fl59 (fun _ h9 => h9) rfl (by decide +kernel) rfl rfl (Nat.le_of_ble_eq_true rfl) dX5_closed_2 (fun H locs hP hD hS => ?_)
  have hP : va_P D vwCl [(a 0, .inr (5, [.int 0, .ref (a 1), .ref (a 2), .ref (a 3), .ref (a 4), .ref (a 5), .ref (a 6), .ref (a 7), .ref (a 8), .ref (a 9), .int r, .ref (a 11), .ref (a 12), .ref (a 13), .ref (a 14), .int lv, .ref (a 16), .ref (a 17), .ref (a 18), .int b, .int o])), (a 1, .inl (cI, 6, .inl (v 1))), (a 2, .inl (cI, 240, .inl (v 2))), (a 3, .inl (cI, 240, .inl (v 3))), (a 4, .inl (cI, 240, .inl (v 4))), (a 5, .inl (cI, 240, .inl (v 5))), (a 6, .inl (cZ, 8, .inl (v 6))), (a 7, .inl (cI, 8, .inl (v 7))), (a 8, .inl (cI, 8, .inl (v 8))), (a 9, .inl (cI, 8, .inl (v 9))), (a 11, .inl (cI, 8, .inl (v 11))), (a 12, .inl (cI, 10, .inl (v 12))), (a 13, .inl (cI, 5, .inl (v 13))), (a 14, .inl (cI, 5, .inl (v 14))), (a 16, .inl (cI, 128, .inl (v 16))), (a 17, .inl (cI, 128, .inl (v 17))), (a 18, .inl (cI, 128, .inl (v 18)))] H := hP
  have hD : va_D A [(a 0, .inr (5, [.int 0, .ref (a 1), .ref (a 2), .ref (a 3), .ref (a 4), .ref (a 5), .ref (a 6), .ref (a 7), .ref (a 8), .ref (a 9), .int r, .ref (a 11), .ref (a 12), .ref (a 13), .ref (a 14), .int lv, .ref (a 16), .ref (a 17), .ref (a 18), .int b, .int o])), (a 1, .inl (cI, 6, .inl (v 1))), (a 2, .inl (cI, 240, .inl (v 2))), (a 3, .inl (cI, 240, .inl (v 3))), (a 4, .inl (cI, 240, .inl (v 4))), (a 5, .inl (cI, 240, .inl (v 5))), (a 6, .inl (cZ, 8, .inl (v 6))), (a 7, .inl (cI, 8, .inl (v 7))), (a 8, .inl (cI, 8, .inl (v 8))), (a 9, .inl (cI, 8, .inl (v 9))), (a 11, .inl (cI, 8, .inl (v 11))), (a 12, .inl (cI, 10, .inl (v 12))), (a 13, .inl (cI, 5, .inl (v 13))), (a 14, .inl (cI, 5, .inl (v 14))), (a 16, .inl (cI, 128, .inl (v 16))), (a 17, .inl (cI, 128, .inl (v 17))), (a 18, .inl (cI, 128, .inl (v 18)))] := hD
  refine lv_iload_n hx hb dX5_closed_5 rfl (lv_at hl 1 rfl) ?_
  refine cl_Si (As := [.int x]) (rest := []) (c_X5_isPlan l D x) ⟨hx, hb, hml, hown, hts⟩ (cwS 1 hts gX5_closed_X5_isPlan rfl rfl rfl (by decide +kernel) ⟨Nat.le_of_ble_eq_true rfl, Nat.le_of_ble_eq_true rfl⟩) hK hns hP hD hS hA rfl hl.1 rfl (Nat.le_of_ble_eq_true rfl) dX5_closed_6 ⟨Nat.zero_le _, Nat.zero_le _⟩ (fun r6 u6 H locs hw6 hP hD hS => ?_)
  rcases hw6 with ⟨rfl, hp6⟩ | ⟨rfl, hp6⟩
  · obtain ⟨q, hq6, rfl⟩ := hp6
    refine lv_if_ne (tgt := 16) hx hb dX5_closed_9 (by decide) (fun _ => ?_) (fun c9 => absurd c9 (by decide))
    refine lv_aload_n hx hb dX5_closed_16 rfl (lv_at hl 0 rfl) ?_
    refine lv_iload_n hx hb dX5_closed_17 rfl (lv_at hl 1 rfl) ?_
    refine cl_Vi ([]) ([]) (As := [.int (nI q)]) (rest := []) (c_X5_isClosed l D cI cZ a v 0 r lv b o G.1 G.2.1 hR.1 q hq6) ⟨hx, hb, hml, hown, hts⟩ (cwV 1 hts gX5_closed_X5_isClosed rfl rfl rfl (by decide +kernel) ⟨Nat.le_of_ble_eq_true rfl, Nat.le_of_ble_eq_true rfl⟩) hK hns hP hD hS hA rfl (T := TX5) (N := 21) rfl rfl hl.1 rfl (Nat.le_of_ble_eq_true rfl) dX5_closed_18 ⟨Nat.zero_le _, Nat.zero_le _⟩ (fun r18 u18 H locs hw18 hP hD hS => ?_)
    have hP : va_P D vwCl [(a 0, .inr (5, [.int 0, .ref (a 1), .ref (a 2), .ref (a 3), .ref (a 4), .ref (a 5), .ref (a 6), .ref (a 7), .ref (a 8), .ref (a 9), .int r, .ref (a 11), .ref (a 12), .ref (a 13), .ref (a 14), .int lv, .ref (a 16), .ref (a 17), .ref (a 18), .int b, .int o])), (a 1, .inl (cI, 6, .inl (v 1))), (a 2, .inl (cI, 240, .inl (v 2))), (a 3, .inl (cI, 240, .inl (v 3))), (a 4, .inl (cI, 240, .inl (v 4))), (a 5, .inl (cI, 240, .inl (v 5))), (a 6, .inl (cZ, 8, .inl (v 6))), (a 7, .inl (cI, 8, .inl (v 7))), (a 8, .inl (cI, 8, .inl (v 8))), (a 9, .inl (cI, 8, .inl (v 9))), (a 11, .inl (cI, 8, .inl (v 11))), (a 12, .inl (cI, 10, .inl (v 12))), (a 13, .inl (cI, 5, .inl (v 13))), (a 14, .inl (cI, 5, .inl (v 14))), (a 16, .inl (cI, 128, .inl (v 16))), (a 17, .inl (cI, 128, .inl (v 17))), (a 18, .inl (cI, 128, .inl (v 18)))] H := hP
    have hD : va_D A [(a 0, .inr (5, [.int 0, .ref (a 1), .ref (a 2), .ref (a 3), .ref (a 4), .ref (a 5), .ref (a 6), .ref (a 7), .ref (a 8), .ref (a 9), .int r, .ref (a 11), .ref (a 12), .ref (a 13), .ref (a 14), .int lv, .ref (a 16), .ref (a 17), .ref (a 18), .int b, .int o])), (a 1, .inl (cI, 6, .inl (v 1))), (a 2, .inl (cI, 240, .inl (v 2))), (a 3, .inl (cI, 240, .inl (v 3))), (a 4, .inl (cI, 240, .inl (v 4))), (a 5, .inl (cI, 240, .inl (v 5))), (a 6, .inl (cZ, 8, .inl (v 6))), (a 7, .inl (cI, 8, .inl (v 7))), (a 8, .inl (cI, 8, .inl (v 8))), (a 9, .inl (cI, 8, .inl (v 9))), (a 11, .inl (cI, 8, .inl (v 11))), (a 12, .inl (cI, 10, .inl (v 12))), (a 13, .inl (cI, 5, .inl (v 13))), (a 14, .inl (cI, 5, .inl (v 14))), (a 16, .inl (cI, 128, .inl (v 16))), (a 17, .inl (cI, 128, .inl (v 17))), (a 18, .inl (cI, 128, .inl (v 18)))] := hD
    rcases hw18 with ⟨rfl, hc⟩ | ⟨rfl, hc⟩
    · refine lv_if_eq (tgt := 28) hx hb dX5_closed_21 (by decide) (fun c9 => absurd c9 (by decide)) (fun _ => ?_)
      refine lv_iconst (v := 1) hx hb dX5_closed_24 (by decide) ?_
      refine lv_goto (tgt := 29) hx hb dX5_closed_25 (by decide) ?_
      exact Ri (D := D) () hx hb hr rfl hlocks hP hD hS (F_closed_1 hq6 hc).symm dX5_closed_29
    · refine lv_if_eq (tgt := 28) hx hb dX5_closed_21 (by decide) (fun _ => ?_) (fun c9 => absurd (by decide) c9)
      refine lv_iconst (v := 0) hx hb dX5_closed_28 (by decide) ?_
      exact Ri (D := D) () hx hb hr rfl hlocks hP hD hS (F_closed_0 hq6 hc).symm dX5_closed_29
  · refine lv_if_ne (tgt := 16) hx hb dX5_closed_9 (by decide) (fun c9 => absurd rfl c9) (fun _ => ?_)
    refine lv_iconst (v := (-1)) hx hb dX5_closed_12 (by decide) ?_
    refine lv_goto (tgt := 29) hx hb dX5_closed_13 (by decide) ?_
    exact Ri (D := D) () hx hb hr rfl hlocks hP hD hS (F_closed_no hp6).symm dX5_closed_29

set_option maxHeartbeats 4000000 in
set_option maxRecDepth 100000 in
theorem c_X5_shelf (l : Launch) (D : va_G) (cI cZ : ClassId) (a : Nat → Nat) (v : Nat → Nat → Int32) (t r lv b o : Int32) (G : GP) (go : Nat → Nat) (lf : Nat → Int32) (rs : Int32) (td ct : Nat → Int32) (hR : Rp G go lf rs td ct (cnt []) v r) (x y : Int32) : Ci l D [(cI, .int), (cZ, .boolean)] yX5_shelf wsX5_shelf ({ frames := 1, cells := 0, slots := 0, locals := 22 }) [.ref (a 0), .int x, .int y] (wM a cI cZ v t r lv b o) (S := Nat → Nat → Int32) (fun w u => w = (F_shelf G go lf x y).1 ∧ Rp (F_shelf G go lf x y).2.1 (F_shelf G go lf x y).2.2.1 (F_shelf G go lf x y).2.2.2 rs td ct (cnt []) u r) (fun u => wM a cI cZ u 0 r lv b o) := by
  refine Ci.mk (cc := cX5_shelf) (maxL := 4) (ret := (some .int)) (by decide +kernel) rfl (Nat.le_of_ble_eq_true rfl) ?_
  intro pg e s m below meth c A ls hx hb hml hr hown hts hlocks hK hns hA hP hD hS hl
  have hl : lv_has ls 4 [(0, .ref (a 0)), (1, .int x), (2, .int y)] := hl
  have fl59 := hts (.fieldLink RX5 59 "HeldShelvesModel" "thrown" "I") (List.mem_of_getElem? (i := 1) rfl)
  have inX5 : ∀ w ∈ wsX50, w ∈ wsX5_shelf := fun _ h => List.mem_cons_of_mem _ (List.mem_append_right _ h)
  have fl25 := hts (.fieldLink RX5 25 "HeldShelvesModel" "isThere" "[Z") (List.mem_of_getElem? (i := 2) rfl)
  have fl29 := hts (.fieldLink RX5 29 "HeldShelvesModel" "goods" "[I") (List.mem_of_getElem? (i := 3) rfl)
  have fl32 := hts (.fieldLink RX5 32 "HeldShelvesModel" "left" "[I") (List.mem_of_getElem? (i := 4) rfl)
  have hP : va_P D vwCl [(a 0, .inr (5, [.int t, .ref (a 1), .ref (a 2), .ref (a 3), .ref (a 4), .ref (a 5), .ref (a 6), .ref (a 7), .ref (a 8), .ref (a 9), .int r, .ref (a 11), .ref (a 12), .ref (a 13), .ref (a 14), .int lv, .ref (a 16), .ref (a 17), .ref (a 18), .int b, .int o])), (a 1, .inl (cI, 6, .inl (v 1))), (a 2, .inl (cI, 240, .inl (v 2))), (a 3, .inl (cI, 240, .inl (v 3))), (a 4, .inl (cI, 240, .inl (v 4))), (a 5, .inl (cI, 240, .inl (v 5))), (a 6, .inl (cZ, 8, .inl (v 6))), (a 7, .inl (cI, 8, .inl (v 7))), (a 8, .inl (cI, 8, .inl (v 8))), (a 9, .inl (cI, 8, .inl (v 9))), (a 11, .inl (cI, 8, .inl (v 11))), (a 12, .inl (cI, 10, .inl (v 12))), (a 13, .inl (cI, 5, .inl (v 13))), (a 14, .inl (cI, 5, .inl (v 14))), (a 16, .inl (cI, 128, .inl (v 16))), (a 17, .inl (cI, 128, .inl (v 17))), (a 18, .inl (cI, 128, .inl (v 18)))] s.heap := hP
  have hD : va_D A [(a 0, .inr (5, [.int t, .ref (a 1), .ref (a 2), .ref (a 3), .ref (a 4), .ref (a 5), .ref (a 6), .ref (a 7), .ref (a 8), .ref (a 9), .int r, .ref (a 11), .ref (a 12), .ref (a 13), .ref (a 14), .int lv, .ref (a 16), .ref (a 17), .ref (a 18), .int b, .int o])), (a 1, .inl (cI, 6, .inl (v 1))), (a 2, .inl (cI, 240, .inl (v 2))), (a 3, .inl (cI, 240, .inl (v 3))), (a 4, .inl (cI, 240, .inl (v 4))), (a 5, .inl (cI, 240, .inl (v 5))), (a 6, .inl (cZ, 8, .inl (v 6))), (a 7, .inl (cI, 8, .inl (v 7))), (a 8, .inl (cI, 8, .inl (v 8))), (a 9, .inl (cI, 8, .inl (v 9))), (a 11, .inl (cI, 8, .inl (v 11))), (a 12, .inl (cI, 10, .inl (v 12))), (a 13, .inl (cI, 5, .inl (v 13))), (a 14, .inl (cI, 5, .inl (v 14))), (a 16, .inl (cI, 128, .inl (v 16))), (a 17, .inl (cI, 128, .inl (v 17))), (a 18, .inl (cI, 128, .inl (v 18)))] := hD
  refine lv_aload_n hx hb dX5_shelf_0 rfl (lv_at hl 0 rfl) ?_
  refine lv_iconst (v := 0) hx hb dX5_shelf_1 (by decide) ?_
  refine va_put (D := D) (ci := 5) (v := .int 0) (ty := .int) (C := RX5) (T := TX5) (N := 21) hx hb hts inX5 tyX5 tyX5_ok nmX5 hown hK hP hD hS 0 rfl rfl 0 (by decide) fl59 (fun _ h9 => h9) rfl (by decide +kernel) rfl rfl (Nat.le_of_ble_eq_true rfl) dX5_shelf_2 (fun H locs hP hD hS => ?_)
  have hP : va_P D vwCl [(a 0, .inr (5, [.int 0, .ref (a 1), .ref (a 2), .ref (a 3), .ref (a 4), .ref (a 5), .ref (a 6), .ref (a 7), .ref (a 8), .ref (a 9), .int r, .ref (a 11), .ref (a 12), .ref (a 13), .ref (a 14), .int lv, .ref (a 16), .ref (a 17), .ref (a 18), .int b, .int o])), (a 1, .inl (cI, 6, .inl (v 1))), (a 2, .inl (cI, 240, .inl (v 2))), (a 3, .inl (cI, 240, .inl (v 3))), (a 4, .inl (cI, 240, .inl (v 4))), (a 5, .inl (cI, 240, .inl (v 5))), (a 6, .inl (cZ, 8, .inl (v 6))), (a 7, .inl (cI, 8, .inl (v 7))), (a 8, .inl (cI, 8, .inl (v 8))), (a 9, .inl (cI, 8, .inl (v 9))), (a 11, .inl (cI, 8, .inl (v 11))), (a 12, .inl (cI, 10, .inl (v 12))), (a 13, .inl (cI, 5, .inl (v 13))), (a 14, .inl (cI, 5, .inl (v 14))), (a 16, .inl (cI, 128, .inl (v 16))), (a 17, .inl (cI, 128, .inl (v 17))), (a 18, .inl (cI, 128, .inl (v 18)))] H := hP
  have hD : va_D A [(a 0, .inr (5, [.int 0, .ref (a 1), .ref (a 2), .ref (a 3), .ref (a 4), .ref (a 5), .ref (a 6), .ref (a 7), .ref (a 8), .ref (a 9), .int r, .ref (a 11), .ref (a 12), .ref (a 13), .ref (a 14), .int lv, .ref (a 16), .ref (a 17), .ref (a 18), .int b, .int o])), (a 1, .inl (cI, 6, .inl (v 1))), (a 2, .inl (cI, 240, .inl (v 2))), (a 3, .inl (cI, 240, .inl (v 3))), (a 4, .inl (cI, 240, .inl (v 4))), (a 5, .inl (cI, 240, .inl (v 5))), (a 6, .inl (cZ, 8, .inl (v 6))), (a 7, .inl (cI, 8, .inl (v 7))), (a 8, .inl (cI, 8, .inl (v 8))), (a 9, .inl (cI, 8, .inl (v 9))), (a 11, .inl (cI, 8, .inl (v 11))), (a 12, .inl (cI, 10, .inl (v 12))), (a 13, .inl (cI, 5, .inl (v 13))), (a 14, .inl (cI, 5, .inl (v 14))), (a 16, .inl (cI, 128, .inl (v 16))), (a 17, .inl (cI, 128, .inl (v 17))), (a 18, .inl (cI, 128, .inl (v 18)))] := hD
  refine lv_iload_n hx hb dX5_shelf_5 rfl (lv_at hl 1 rfl) ?_
  refine lv_iconst (v := 0) hx hb dX5_shelf_6 (by decide) ?_
  refine lv_bipush (v := 7) hx hb dX5_shelf_7 (by decide) ?_
  refine cl_Si (As := [.int x, .int 0, .int 7]) (rest := []) (c_X5_in l D x 0 7) ⟨hx, hb, hml, hown, hts⟩ (cwS 3 hts gX5_shelf_X5_in rfl rfl rfl (by decide +kernel) ⟨Nat.le_of_ble_eq_true rfl, Nat.le_of_ble_eq_true rfl⟩) hK hns hP hD hS hA rfl hl.1 rfl (Nat.le_of_ble_eq_true rfl) dX5_shelf_9 ⟨Nat.zero_le _, Nat.zero_le _⟩ (fun r9 u9 H locs hw9 hP hD hS => ?_)
  rcases hw9 with ⟨rfl, hi9⟩ | ⟨rfl, hi9⟩
  · obtain ⟨s0, hs9, rfl⟩ := inN_c (m := 7) (by decide) rfl hi9.1 hi9.2
    refine lv_if_eq (tgt := 26) hx hb dX5_shelf_12 (by decide) (fun c9 => absurd c9 (by decide)) (fun _ => ?_)
    refine lv_iload_n hx hb dX5_shelf_15 rfl (lv_at hl 2 rfl) ?_
    refine lv_iconst (v := (-1)) hx hb dX5_shelf_16 (by decide) ?_
    refine lv_sipush (v := 1000) hx hb dX5_shelf_17 (by decide) ?_
    refine cl_Si (As := [.int y, .int (-1), .int 1000]) (rest := []) (c_X5_in l D y (-1) 1000) ⟨hx, hb, hml, hown, hts⟩ (cwS 3 hts gX5_shelf_X5_in rfl rfl rfl (by decide +kernel) ⟨Nat.le_of_ble_eq_true rfl, Nat.le_of_ble_eq_true rfl⟩) hK hns hP hD hS hA rfl hl.1 rfl (Nat.le_of_ble_eq_true rfl) dX5_shelf_20 ⟨Nat.zero_le _, Nat.zero_le _⟩ (fun r20 u20 H locs hw20 hP hD hS => ?_)
    rcases hw20 with ⟨rfl, hi20⟩ | ⟨rfl, hi20⟩
    · refine lv_if_ne (tgt := 28) hx hb dX5_shelf_23 (by decide) (fun _ => ?_) (fun c9 => absurd c9 (by decide))
      refine lv_aload_n hx hb dX5_shelf_28 rfl (lv_at hl 0 rfl) ?_
      refine va_get (D := D) (ci := 5) (v := .ref (a 6)) (C := RX5) (T := TX5) (N := 21) hx hb hts inX5 hown hK hP 0 rfl rfl 6 (by decide) fl25 (fun _ h9 => h9) rfl dX5_shelf_29 ?_
      refine lv_iload_n hx hb dX5_shelf_32 rfl (lv_at hl 1 rfl) ?_
      refine xz_ald hx hb hK hP 6 1 rfl rfl (k := s0) (by omega) (by decide) dX5_shelf_33 ?_
      refine lv_if_eq (tgt := 46) hx hb dX5_shelf_34 (by decide) (fun c_34 => ?_) (fun c_34 => ?_)
      · refine lv_bipush (v := (-4)) hx hb dX5_shelf_46 (by decide) ?_
        refine lv_istore_n (lv' := [(3, .int (-4)), (0, .ref (a 0)), (1, .int (nI s0)), (2, .int y)]) hx hb dX5_shelf_48 rfl hl (by decide) rfl (fun ls hl => ?_)
        refine lv_aload_n hx hb dX5_shelf_49 rfl (lv_at hl 1 rfl) ?_
        refine va_get (D := D) (ci := 5) (v := .ref (a 6)) (C := RX5) (T := TX5) (N := 21) hx hb hts inX5 hown hK hP 0 rfl rfl 6 (by decide) fl25 (fun _ h9 => h9) rfl dX5_shelf_50 ?_
        refine lv_iload_n hx hb dX5_shelf_53 rfl (lv_at hl 2 rfl) ?_
        refine lv_iload_n hx hb dX5_shelf_54 rfl (lv_at hl 3 rfl) ?_
        refine lv_if_lt (tgt := 62) hx hb dX5_shelf_55 (by decide) (fun c_55 => ?_) (fun c_55 => ?_)
        · refine lv_iconst (v := 0) hx hb dX5_shelf_62 (by decide) ?_
          refine xz_ast hx hb hK hP hD hS 6 1 rfl rfl (k := s0) (x := 0) (by decide) (by omega) (by decide) dX5_shelf_63 (fun H locs hP hD hS => ?_)
          have hP : va_P D vwCl [(a 0, .inr (5, [.int 0, .ref (a 1), .ref (a 2), .ref (a 3), .ref (a 4), .ref (a 5), .ref (a 6), .ref (a 7), .ref (a 8), .ref (a 9), .int r, .ref (a 11), .ref (a 12), .ref (a 13), .ref (a 14), .int lv, .ref (a 16), .ref (a 17), .ref (a 18), .int b, .int o])), (a 1, .inl (cI, 6, .inl (v 1))), (a 2, .inl (cI, 240, .inl (v 2))), (a 3, .inl (cI, 240, .inl (v 3))), (a 4, .inl (cI, 240, .inl (v 4))), (a 5, .inl (cI, 240, .inl (v 5))), (a 6, .inl (cZ, 8, .inl (upd (v 6) s0 0))), (a 7, .inl (cI, 8, .inl (v 7))), (a 8, .inl (cI, 8, .inl (v 8))), (a 9, .inl (cI, 8, .inl (v 9))), (a 11, .inl (cI, 8, .inl (v 11))), (a 12, .inl (cI, 10, .inl (v 12))), (a 13, .inl (cI, 5, .inl (v 13))), (a 14, .inl (cI, 5, .inl (v 14))), (a 16, .inl (cI, 128, .inl (v 16))), (a 17, .inl (cI, 128, .inl (v 17))), (a 18, .inl (cI, 128, .inl (v 18)))] H := hP
          have hD : va_D A [(a 0, .inr (5, [.int 0, .ref (a 1), .ref (a 2), .ref (a 3), .ref (a 4), .ref (a 5), .ref (a 6), .ref (a 7), .ref (a 8), .ref (a 9), .int r, .ref (a 11), .ref (a 12), .ref (a 13), .ref (a 14), .int lv, .ref (a 16), .ref (a 17), .ref (a 18), .int b, .int o])), (a 1, .inl (cI, 6, .inl (v 1))), (a 2, .inl (cI, 240, .inl (v 2))), (a 3, .inl (cI, 240, .inl (v 3))), (a 4, .inl (cI, 240, .inl (v 4))), (a 5, .inl (cI, 240, .inl (v 5))), (a 6, .inl (cZ, 8, .inl (upd (v 6) s0 0))), (a 7, .inl (cI, 8, .inl (v 7))), (a 8, .inl (cI, 8, .inl (v 8))), (a 9, .inl (cI, 8, .inl (v 9))), (a 11, .inl (cI, 8, .inl (v 11))), (a 12, .inl (cI, 10, .inl (v 12))), (a 13, .inl (cI, 5, .inl (v 13))), (a 14, .inl (cI, 5, .inl (v 14))), (a 16, .inl (cI, 128, .inl (v 16))), (a 17, .inl (cI, 128, .inl (v 17))), (a 18, .inl (cI, 128, .inl (v 18)))] := hD
          refine lv_aload_n hx hb dX5_shelf_64 rfl (lv_at hl 1 rfl) ?_
          refine va_get (D := D) (ci := 5) (v := .ref (a 7)) (C := RX5) (T := TX5) (N := 21) hx hb hts inX5 hown hK hP 0 rfl rfl 7 (by decide) fl29 (fun _ h9 => h9) rfl dX5_shelf_65 ?_
          refine lv_iload_n hx hb dX5_shelf_68 rfl (lv_at hl 2 rfl) ?_
          refine lv_iload_n hx hb dX5_shelf_69 rfl (lv_at hl 3 rfl) ?_
          refine lv_if_ge (tgt := 77) hx hb dX5_shelf_70 (by decide) (fun c_70 => ?_) (fun c_70 => ?_)
          · exact absurd c_55 (Int32.not_lt.mpr c_70)
          · refine lv_iconst (v := 0) hx hb dX5_shelf_73 (by decide) ?_
            refine lv_goto (tgt := 78) hx hb dX5_shelf_74 (by decide) ?_
            refine xi_ast hx hb hK hP hD hS 7 0 rfl rfl (k := s0) (x := 0) (by omega) (by decide) dX5_shelf_78 (fun H locs hP hD hS => ?_)
            have hP : va_P D vwCl [(a 0, .inr (5, [.int 0, .ref (a 1), .ref (a 2), .ref (a 3), .ref (a 4), .ref (a 5), .ref (a 6), .ref (a 7), .ref (a 8), .ref (a 9), .int r, .ref (a 11), .ref (a 12), .ref (a 13), .ref (a 14), .int lv, .ref (a 16), .ref (a 17), .ref (a 18), .int b, .int o])), (a 1, .inl (cI, 6, .inl (v 1))), (a 2, .inl (cI, 240, .inl (v 2))), (a 3, .inl (cI, 240, .inl (v 3))), (a 4, .inl (cI, 240, .inl (v 4))), (a 5, .inl (cI, 240, .inl (v 5))), (a 6, .inl (cZ, 8, .inl (upd (v 6) s0 0))), (a 7, .inl (cI, 8, .inl (upd (v 7) s0 0))), (a 8, .inl (cI, 8, .inl (v 8))), (a 9, .inl (cI, 8, .inl (v 9))), (a 11, .inl (cI, 8, .inl (v 11))), (a 12, .inl (cI, 10, .inl (v 12))), (a 13, .inl (cI, 5, .inl (v 13))), (a 14, .inl (cI, 5, .inl (v 14))), (a 16, .inl (cI, 128, .inl (v 16))), (a 17, .inl (cI, 128, .inl (v 17))), (a 18, .inl (cI, 128, .inl (v 18)))] H := hP
            have hD : va_D A [(a 0, .inr (5, [.int 0, .ref (a 1), .ref (a 2), .ref (a 3), .ref (a 4), .ref (a 5), .ref (a 6), .ref (a 7), .ref (a 8), .ref (a 9), .int r, .ref (a 11), .ref (a 12), .ref (a 13), .ref (a 14), .int lv, .ref (a 16), .ref (a 17), .ref (a 18), .int b, .int o])), (a 1, .inl (cI, 6, .inl (v 1))), (a 2, .inl (cI, 240, .inl (v 2))), (a 3, .inl (cI, 240, .inl (v 3))), (a 4, .inl (cI, 240, .inl (v 4))), (a 5, .inl (cI, 240, .inl (v 5))), (a 6, .inl (cZ, 8, .inl (upd (v 6) s0 0))), (a 7, .inl (cI, 8, .inl (upd (v 7) s0 0))), (a 8, .inl (cI, 8, .inl (v 8))), (a 9, .inl (cI, 8, .inl (v 9))), (a 11, .inl (cI, 8, .inl (v 11))), (a 12, .inl (cI, 10, .inl (v 12))), (a 13, .inl (cI, 5, .inl (v 13))), (a 14, .inl (cI, 5, .inl (v 14))), (a 16, .inl (cI, 128, .inl (v 16))), (a 17, .inl (cI, 128, .inl (v 17))), (a 18, .inl (cI, 128, .inl (v 18)))] := hD
            refine lv_aload_n hx hb dX5_shelf_79 rfl (lv_at hl 1 rfl) ?_
            refine va_get (D := D) (ci := 5) (v := .ref (a 8)) (C := RX5) (T := TX5) (N := 21) hx hb hts inX5 hown hK hP 0 rfl rfl 8 (by decide) fl32 (fun _ h9 => h9) rfl dX5_shelf_80 ?_
            refine lv_iload_n hx hb dX5_shelf_83 rfl (lv_at hl 2 rfl) ?_
            refine lv_iconst (v := 0) hx hb dX5_shelf_84 (by decide) ?_
            refine xi_ast hx hb hK hP hD hS 8 0 rfl rfl (k := s0) (x := 0) (by omega) (by decide) dX5_shelf_85 (fun H locs hP hD hS => ?_)
            have hP : va_P D vwCl [(a 0, .inr (5, [.int 0, .ref (a 1), .ref (a 2), .ref (a 3), .ref (a 4), .ref (a 5), .ref (a 6), .ref (a 7), .ref (a 8), .ref (a 9), .int r, .ref (a 11), .ref (a 12), .ref (a 13), .ref (a 14), .int lv, .ref (a 16), .ref (a 17), .ref (a 18), .int b, .int o])), (a 1, .inl (cI, 6, .inl (v 1))), (a 2, .inl (cI, 240, .inl (v 2))), (a 3, .inl (cI, 240, .inl (v 3))), (a 4, .inl (cI, 240, .inl (v 4))), (a 5, .inl (cI, 240, .inl (v 5))), (a 6, .inl (cZ, 8, .inl (upd (v 6) s0 0))), (a 7, .inl (cI, 8, .inl (upd (v 7) s0 0))), (a 8, .inl (cI, 8, .inl (upd (v 8) s0 0))), (a 9, .inl (cI, 8, .inl (v 9))), (a 11, .inl (cI, 8, .inl (v 11))), (a 12, .inl (cI, 10, .inl (v 12))), (a 13, .inl (cI, 5, .inl (v 13))), (a 14, .inl (cI, 5, .inl (v 14))), (a 16, .inl (cI, 128, .inl (v 16))), (a 17, .inl (cI, 128, .inl (v 17))), (a 18, .inl (cI, 128, .inl (v 18)))] H := hP
            have hD : va_D A [(a 0, .inr (5, [.int 0, .ref (a 1), .ref (a 2), .ref (a 3), .ref (a 4), .ref (a 5), .ref (a 6), .ref (a 7), .ref (a 8), .ref (a 9), .int r, .ref (a 11), .ref (a 12), .ref (a 13), .ref (a 14), .int lv, .ref (a 16), .ref (a 17), .ref (a 18), .int b, .int o])), (a 1, .inl (cI, 6, .inl (v 1))), (a 2, .inl (cI, 240, .inl (v 2))), (a 3, .inl (cI, 240, .inl (v 3))), (a 4, .inl (cI, 240, .inl (v 4))), (a 5, .inl (cI, 240, .inl (v 5))), (a 6, .inl (cZ, 8, .inl (upd (v 6) s0 0))), (a 7, .inl (cI, 8, .inl (upd (v 7) s0 0))), (a 8, .inl (cI, 8, .inl (upd (v 8) s0 0))), (a 9, .inl (cI, 8, .inl (v 9))), (a 11, .inl (cI, 8, .inl (v 11))), (a 12, .inl (cI, 10, .inl (v 12))), (a 13, .inl (cI, 5, .inl (v 13))), (a 14, .inl (cI, 5, .inl (v 14))), (a 16, .inl (cI, 128, .inl (v 16))), (a 17, .inl (cI, 128, .inl (v 17))), (a 18, .inl (cI, 128, .inl (v 18)))] := hD
            refine lv_iload_n hx hb dX5_shelf_86 rfl (lv_at hl 0 rfl) ?_
            exact Ri (D := D) (va_up (va_up (va_up v 6 (upd (v 6) s0 0)) 7 (upd (v 7) s0 0)) 8 (upd (v 8) s0 0)) hx hb hr rfl hlocks hP hD hS (by rw [F_shelf_in hs9 hi20.1 hi20.2]; exact ⟨(by rw [zk_0 hR.2.1 hs9 c_34]; rfl), hR.1, zk_shelf hR.2.1 ((if_pos c_55).symm), gk_shelf hR.2.2.1 hi20.2 ((if_pos c_55).symm), upd_le hR.2.2.2.1 rfl, hR.2.2.2.2⟩) dX5_shelf_87
        · refine lv_iconst (v := 1) hx hb dX5_shelf_58 (by decide) ?_
          refine lv_goto (tgt := 63) hx hb dX5_shelf_59 (by decide) ?_
          refine xz_ast hx hb hK hP hD hS 6 1 rfl rfl (k := s0) (x := 1) (by decide) (by omega) (by decide) dX5_shelf_63 (fun H locs hP hD hS => ?_)
          have hP : va_P D vwCl [(a 0, .inr (5, [.int 0, .ref (a 1), .ref (a 2), .ref (a 3), .ref (a 4), .ref (a 5), .ref (a 6), .ref (a 7), .ref (a 8), .ref (a 9), .int r, .ref (a 11), .ref (a 12), .ref (a 13), .ref (a 14), .int lv, .ref (a 16), .ref (a 17), .ref (a 18), .int b, .int o])), (a 1, .inl (cI, 6, .inl (v 1))), (a 2, .inl (cI, 240, .inl (v 2))), (a 3, .inl (cI, 240, .inl (v 3))), (a 4, .inl (cI, 240, .inl (v 4))), (a 5, .inl (cI, 240, .inl (v 5))), (a 6, .inl (cZ, 8, .inl (upd (v 6) s0 1))), (a 7, .inl (cI, 8, .inl (v 7))), (a 8, .inl (cI, 8, .inl (v 8))), (a 9, .inl (cI, 8, .inl (v 9))), (a 11, .inl (cI, 8, .inl (v 11))), (a 12, .inl (cI, 10, .inl (v 12))), (a 13, .inl (cI, 5, .inl (v 13))), (a 14, .inl (cI, 5, .inl (v 14))), (a 16, .inl (cI, 128, .inl (v 16))), (a 17, .inl (cI, 128, .inl (v 17))), (a 18, .inl (cI, 128, .inl (v 18)))] H := hP
          have hD : va_D A [(a 0, .inr (5, [.int 0, .ref (a 1), .ref (a 2), .ref (a 3), .ref (a 4), .ref (a 5), .ref (a 6), .ref (a 7), .ref (a 8), .ref (a 9), .int r, .ref (a 11), .ref (a 12), .ref (a 13), .ref (a 14), .int lv, .ref (a 16), .ref (a 17), .ref (a 18), .int b, .int o])), (a 1, .inl (cI, 6, .inl (v 1))), (a 2, .inl (cI, 240, .inl (v 2))), (a 3, .inl (cI, 240, .inl (v 3))), (a 4, .inl (cI, 240, .inl (v 4))), (a 5, .inl (cI, 240, .inl (v 5))), (a 6, .inl (cZ, 8, .inl (upd (v 6) s0 1))), (a 7, .inl (cI, 8, .inl (v 7))), (a 8, .inl (cI, 8, .inl (v 8))), (a 9, .inl (cI, 8, .inl (v 9))), (a 11, .inl (cI, 8, .inl (v 11))), (a 12, .inl (cI, 10, .inl (v 12))), (a 13, .inl (cI, 5, .inl (v 13))), (a 14, .inl (cI, 5, .inl (v 14))), (a 16, .inl (cI, 128, .inl (v 16))), (a 17, .inl (cI, 128, .inl (v 17))), (a 18, .inl (cI, 128, .inl (v 18)))] := hD
          refine lv_aload_n hx hb dX5_shelf_64 rfl (lv_at hl 1 rfl) ?_
          refine va_get (D := D) (ci := 5) (v := .ref (a 7)) (C := RX5) (T := TX5) (N := 21) hx hb hts inX5 hown hK hP 0 rfl rfl 7 (by decide) fl29 (fun _ h9 => h9) rfl dX5_shelf_65 ?_
          refine lv_iload_n hx hb dX5_shelf_68 rfl (lv_at hl 2 rfl) ?_
          refine lv_iload_n hx hb dX5_shelf_69 rfl (lv_at hl 3 rfl) ?_
          refine lv_if_ge (tgt := 77) hx hb dX5_shelf_70 (by decide) (fun c_70 => ?_) (fun c_70 => ?_)
          · refine lv_iload_n hx hb dX5_shelf_77 rfl (lv_at hl 3 rfl) ?_
            refine xi_ast hx hb hK hP hD hS 7 0 rfl rfl (k := s0) (x := y) (by omega) (by decide) dX5_shelf_78 (fun H locs hP hD hS => ?_)
            have hP : va_P D vwCl [(a 0, .inr (5, [.int 0, .ref (a 1), .ref (a 2), .ref (a 3), .ref (a 4), .ref (a 5), .ref (a 6), .ref (a 7), .ref (a 8), .ref (a 9), .int r, .ref (a 11), .ref (a 12), .ref (a 13), .ref (a 14), .int lv, .ref (a 16), .ref (a 17), .ref (a 18), .int b, .int o])), (a 1, .inl (cI, 6, .inl (v 1))), (a 2, .inl (cI, 240, .inl (v 2))), (a 3, .inl (cI, 240, .inl (v 3))), (a 4, .inl (cI, 240, .inl (v 4))), (a 5, .inl (cI, 240, .inl (v 5))), (a 6, .inl (cZ, 8, .inl (upd (v 6) s0 1))), (a 7, .inl (cI, 8, .inl (upd (v 7) s0 y))), (a 8, .inl (cI, 8, .inl (v 8))), (a 9, .inl (cI, 8, .inl (v 9))), (a 11, .inl (cI, 8, .inl (v 11))), (a 12, .inl (cI, 10, .inl (v 12))), (a 13, .inl (cI, 5, .inl (v 13))), (a 14, .inl (cI, 5, .inl (v 14))), (a 16, .inl (cI, 128, .inl (v 16))), (a 17, .inl (cI, 128, .inl (v 17))), (a 18, .inl (cI, 128, .inl (v 18)))] H := hP
            have hD : va_D A [(a 0, .inr (5, [.int 0, .ref (a 1), .ref (a 2), .ref (a 3), .ref (a 4), .ref (a 5), .ref (a 6), .ref (a 7), .ref (a 8), .ref (a 9), .int r, .ref (a 11), .ref (a 12), .ref (a 13), .ref (a 14), .int lv, .ref (a 16), .ref (a 17), .ref (a 18), .int b, .int o])), (a 1, .inl (cI, 6, .inl (v 1))), (a 2, .inl (cI, 240, .inl (v 2))), (a 3, .inl (cI, 240, .inl (v 3))), (a 4, .inl (cI, 240, .inl (v 4))), (a 5, .inl (cI, 240, .inl (v 5))), (a 6, .inl (cZ, 8, .inl (upd (v 6) s0 1))), (a 7, .inl (cI, 8, .inl (upd (v 7) s0 y))), (a 8, .inl (cI, 8, .inl (v 8))), (a 9, .inl (cI, 8, .inl (v 9))), (a 11, .inl (cI, 8, .inl (v 11))), (a 12, .inl (cI, 10, .inl (v 12))), (a 13, .inl (cI, 5, .inl (v 13))), (a 14, .inl (cI, 5, .inl (v 14))), (a 16, .inl (cI, 128, .inl (v 16))), (a 17, .inl (cI, 128, .inl (v 17))), (a 18, .inl (cI, 128, .inl (v 18)))] := hD
            refine lv_aload_n hx hb dX5_shelf_79 rfl (lv_at hl 1 rfl) ?_
            refine va_get (D := D) (ci := 5) (v := .ref (a 8)) (C := RX5) (T := TX5) (N := 21) hx hb hts inX5 hown hK hP 0 rfl rfl 8 (by decide) fl32 (fun _ h9 => h9) rfl dX5_shelf_80 ?_
            refine lv_iload_n hx hb dX5_shelf_83 rfl (lv_at hl 2 rfl) ?_
            refine lv_iconst (v := 0) hx hb dX5_shelf_84 (by decide) ?_
            refine xi_ast hx hb hK hP hD hS 8 0 rfl rfl (k := s0) (x := 0) (by omega) (by decide) dX5_shelf_85 (fun H locs hP hD hS => ?_)
            have hP : va_P D vwCl [(a 0, .inr (5, [.int 0, .ref (a 1), .ref (a 2), .ref (a 3), .ref (a 4), .ref (a 5), .ref (a 6), .ref (a 7), .ref (a 8), .ref (a 9), .int r, .ref (a 11), .ref (a 12), .ref (a 13), .ref (a 14), .int lv, .ref (a 16), .ref (a 17), .ref (a 18), .int b, .int o])), (a 1, .inl (cI, 6, .inl (v 1))), (a 2, .inl (cI, 240, .inl (v 2))), (a 3, .inl (cI, 240, .inl (v 3))), (a 4, .inl (cI, 240, .inl (v 4))), (a 5, .inl (cI, 240, .inl (v 5))), (a 6, .inl (cZ, 8, .inl (upd (v 6) s0 1))), (a 7, .inl (cI, 8, .inl (upd (v 7) s0 y))), (a 8, .inl (cI, 8, .inl (upd (v 8) s0 0))), (a 9, .inl (cI, 8, .inl (v 9))), (a 11, .inl (cI, 8, .inl (v 11))), (a 12, .inl (cI, 10, .inl (v 12))), (a 13, .inl (cI, 5, .inl (v 13))), (a 14, .inl (cI, 5, .inl (v 14))), (a 16, .inl (cI, 128, .inl (v 16))), (a 17, .inl (cI, 128, .inl (v 17))), (a 18, .inl (cI, 128, .inl (v 18)))] H := hP
            have hD : va_D A [(a 0, .inr (5, [.int 0, .ref (a 1), .ref (a 2), .ref (a 3), .ref (a 4), .ref (a 5), .ref (a 6), .ref (a 7), .ref (a 8), .ref (a 9), .int r, .ref (a 11), .ref (a 12), .ref (a 13), .ref (a 14), .int lv, .ref (a 16), .ref (a 17), .ref (a 18), .int b, .int o])), (a 1, .inl (cI, 6, .inl (v 1))), (a 2, .inl (cI, 240, .inl (v 2))), (a 3, .inl (cI, 240, .inl (v 3))), (a 4, .inl (cI, 240, .inl (v 4))), (a 5, .inl (cI, 240, .inl (v 5))), (a 6, .inl (cZ, 8, .inl (upd (v 6) s0 1))), (a 7, .inl (cI, 8, .inl (upd (v 7) s0 y))), (a 8, .inl (cI, 8, .inl (upd (v 8) s0 0))), (a 9, .inl (cI, 8, .inl (v 9))), (a 11, .inl (cI, 8, .inl (v 11))), (a 12, .inl (cI, 10, .inl (v 12))), (a 13, .inl (cI, 5, .inl (v 13))), (a 14, .inl (cI, 5, .inl (v 14))), (a 16, .inl (cI, 128, .inl (v 16))), (a 17, .inl (cI, 128, .inl (v 17))), (a 18, .inl (cI, 128, .inl (v 18)))] := hD
            refine lv_iload_n hx hb dX5_shelf_86 rfl (lv_at hl 0 rfl) ?_
            exact Ri (D := D) (va_up (va_up (va_up v 6 (upd (v 6) s0 1)) 7 (upd (v 7) s0 y)) 8 (upd (v 8) s0 0)) hx hb hr rfl hlocks hP hD hS (by rw [F_shelf_in hs9 hi20.1 hi20.2]; exact ⟨(by rw [zk_0 hR.2.1 hs9 c_34]; rfl), hR.1, zk_shelf hR.2.1 ((if_neg c_55).symm), gk_shelf hR.2.2.1 hi20.2 ((if_neg c_55).symm), upd_le hR.2.2.2.1 rfl, hR.2.2.2.2⟩) dX5_shelf_87
          · exact absurd (Int32.not_lt.mp c_55) c_70
      · refine lv_aload_n hx hb dX5_shelf_37 rfl (lv_at hl 0 rfl) ?_
        refine va_get (D := D) (ci := 5) (v := .ref (a 7)) (C := RX5) (T := TX5) (N := 21) hx hb hts inX5 hown hK hP 0 rfl rfl 7 (by decide) fl29 (fun _ h9 => h9) rfl dX5_shelf_38 ?_
        refine lv_iload_n hx hb dX5_shelf_41 rfl (lv_at hl 1 rfl) ?_
        refine xi_ald hx hb hK hP 7 0 rfl rfl (k := s0) (by omega) (by decide) dX5_shelf_42 ?_
        refine lv_goto (tgt := 48) hx hb dX5_shelf_43 (by decide) ?_
        refine lv_istore_n (lv' := [(3, .int ((v 7) s0)), (0, .ref (a 0)), (1, .int (nI s0)), (2, .int y)]) hx hb dX5_shelf_48 rfl hl (by decide) rfl (fun ls hl => ?_)
        refine lv_aload_n hx hb dX5_shelf_49 rfl (lv_at hl 1 rfl) ?_
        refine va_get (D := D) (ci := 5) (v := .ref (a 6)) (C := RX5) (T := TX5) (N := 21) hx hb hts inX5 hown hK hP 0 rfl rfl 6 (by decide) fl25 (fun _ h9 => h9) rfl dX5_shelf_50 ?_
        refine lv_iload_n hx hb dX5_shelf_53 rfl (lv_at hl 2 rfl) ?_
        refine lv_iload_n hx hb dX5_shelf_54 rfl (lv_at hl 3 rfl) ?_
        refine lv_if_lt (tgt := 62) hx hb dX5_shelf_55 (by decide) (fun c_55 => ?_) (fun c_55 => ?_)
        · refine lv_iconst (v := 0) hx hb dX5_shelf_62 (by decide) ?_
          refine xz_ast hx hb hK hP hD hS 6 1 rfl rfl (k := s0) (x := 0) (by decide) (by omega) (by decide) dX5_shelf_63 (fun H locs hP hD hS => ?_)
          have hP : va_P D vwCl [(a 0, .inr (5, [.int 0, .ref (a 1), .ref (a 2), .ref (a 3), .ref (a 4), .ref (a 5), .ref (a 6), .ref (a 7), .ref (a 8), .ref (a 9), .int r, .ref (a 11), .ref (a 12), .ref (a 13), .ref (a 14), .int lv, .ref (a 16), .ref (a 17), .ref (a 18), .int b, .int o])), (a 1, .inl (cI, 6, .inl (v 1))), (a 2, .inl (cI, 240, .inl (v 2))), (a 3, .inl (cI, 240, .inl (v 3))), (a 4, .inl (cI, 240, .inl (v 4))), (a 5, .inl (cI, 240, .inl (v 5))), (a 6, .inl (cZ, 8, .inl (upd (v 6) s0 0))), (a 7, .inl (cI, 8, .inl (v 7))), (a 8, .inl (cI, 8, .inl (v 8))), (a 9, .inl (cI, 8, .inl (v 9))), (a 11, .inl (cI, 8, .inl (v 11))), (a 12, .inl (cI, 10, .inl (v 12))), (a 13, .inl (cI, 5, .inl (v 13))), (a 14, .inl (cI, 5, .inl (v 14))), (a 16, .inl (cI, 128, .inl (v 16))), (a 17, .inl (cI, 128, .inl (v 17))), (a 18, .inl (cI, 128, .inl (v 18)))] H := hP
          have hD : va_D A [(a 0, .inr (5, [.int 0, .ref (a 1), .ref (a 2), .ref (a 3), .ref (a 4), .ref (a 5), .ref (a 6), .ref (a 7), .ref (a 8), .ref (a 9), .int r, .ref (a 11), .ref (a 12), .ref (a 13), .ref (a 14), .int lv, .ref (a 16), .ref (a 17), .ref (a 18), .int b, .int o])), (a 1, .inl (cI, 6, .inl (v 1))), (a 2, .inl (cI, 240, .inl (v 2))), (a 3, .inl (cI, 240, .inl (v 3))), (a 4, .inl (cI, 240, .inl (v 4))), (a 5, .inl (cI, 240, .inl (v 5))), (a 6, .inl (cZ, 8, .inl (upd (v 6) s0 0))), (a 7, .inl (cI, 8, .inl (v 7))), (a 8, .inl (cI, 8, .inl (v 8))), (a 9, .inl (cI, 8, .inl (v 9))), (a 11, .inl (cI, 8, .inl (v 11))), (a 12, .inl (cI, 10, .inl (v 12))), (a 13, .inl (cI, 5, .inl (v 13))), (a 14, .inl (cI, 5, .inl (v 14))), (a 16, .inl (cI, 128, .inl (v 16))), (a 17, .inl (cI, 128, .inl (v 17))), (a 18, .inl (cI, 128, .inl (v 18)))] := hD
          refine lv_aload_n hx hb dX5_shelf_64 rfl (lv_at hl 1 rfl) ?_
          refine va_get (D := D) (ci := 5) (v := .ref (a 7)) (C := RX5) (T := TX5) (N := 21) hx hb hts inX5 hown hK hP 0 rfl rfl 7 (by decide) fl29 (fun _ h9 => h9) rfl dX5_shelf_65 ?_
          refine lv_iload_n hx hb dX5_shelf_68 rfl (lv_at hl 2 rfl) ?_
          refine lv_iload_n hx hb dX5_shelf_69 rfl (lv_at hl 3 rfl) ?_
          refine lv_if_ge (tgt := 77) hx hb dX5_shelf_70 (by decide) (fun c_70 => ?_) (fun c_70 => ?_)
          · exact absurd c_55 (Int32.not_lt.mpr c_70)
          · refine lv_iconst (v := 0) hx hb dX5_shelf_73 (by decide) ?_
            refine lv_goto (tgt := 78) hx hb dX5_shelf_74 (by decide) ?_
            refine xi_ast hx hb hK hP hD hS 7 0 rfl rfl (k := s0) (x := 0) (by omega) (by decide) dX5_shelf_78 (fun H locs hP hD hS => ?_)
            have hP : va_P D vwCl [(a 0, .inr (5, [.int 0, .ref (a 1), .ref (a 2), .ref (a 3), .ref (a 4), .ref (a 5), .ref (a 6), .ref (a 7), .ref (a 8), .ref (a 9), .int r, .ref (a 11), .ref (a 12), .ref (a 13), .ref (a 14), .int lv, .ref (a 16), .ref (a 17), .ref (a 18), .int b, .int o])), (a 1, .inl (cI, 6, .inl (v 1))), (a 2, .inl (cI, 240, .inl (v 2))), (a 3, .inl (cI, 240, .inl (v 3))), (a 4, .inl (cI, 240, .inl (v 4))), (a 5, .inl (cI, 240, .inl (v 5))), (a 6, .inl (cZ, 8, .inl (upd (v 6) s0 0))), (a 7, .inl (cI, 8, .inl (upd (v 7) s0 0))), (a 8, .inl (cI, 8, .inl (v 8))), (a 9, .inl (cI, 8, .inl (v 9))), (a 11, .inl (cI, 8, .inl (v 11))), (a 12, .inl (cI, 10, .inl (v 12))), (a 13, .inl (cI, 5, .inl (v 13))), (a 14, .inl (cI, 5, .inl (v 14))), (a 16, .inl (cI, 128, .inl (v 16))), (a 17, .inl (cI, 128, .inl (v 17))), (a 18, .inl (cI, 128, .inl (v 18)))] H := hP
            have hD : va_D A [(a 0, .inr (5, [.int 0, .ref (a 1), .ref (a 2), .ref (a 3), .ref (a 4), .ref (a 5), .ref (a 6), .ref (a 7), .ref (a 8), .ref (a 9), .int r, .ref (a 11), .ref (a 12), .ref (a 13), .ref (a 14), .int lv, .ref (a 16), .ref (a 17), .ref (a 18), .int b, .int o])), (a 1, .inl (cI, 6, .inl (v 1))), (a 2, .inl (cI, 240, .inl (v 2))), (a 3, .inl (cI, 240, .inl (v 3))), (a 4, .inl (cI, 240, .inl (v 4))), (a 5, .inl (cI, 240, .inl (v 5))), (a 6, .inl (cZ, 8, .inl (upd (v 6) s0 0))), (a 7, .inl (cI, 8, .inl (upd (v 7) s0 0))), (a 8, .inl (cI, 8, .inl (v 8))), (a 9, .inl (cI, 8, .inl (v 9))), (a 11, .inl (cI, 8, .inl (v 11))), (a 12, .inl (cI, 10, .inl (v 12))), (a 13, .inl (cI, 5, .inl (v 13))), (a 14, .inl (cI, 5, .inl (v 14))), (a 16, .inl (cI, 128, .inl (v 16))), (a 17, .inl (cI, 128, .inl (v 17))), (a 18, .inl (cI, 128, .inl (v 18)))] := hD
            refine lv_aload_n hx hb dX5_shelf_79 rfl (lv_at hl 1 rfl) ?_
            refine va_get (D := D) (ci := 5) (v := .ref (a 8)) (C := RX5) (T := TX5) (N := 21) hx hb hts inX5 hown hK hP 0 rfl rfl 8 (by decide) fl32 (fun _ h9 => h9) rfl dX5_shelf_80 ?_
            refine lv_iload_n hx hb dX5_shelf_83 rfl (lv_at hl 2 rfl) ?_
            refine lv_iconst (v := 0) hx hb dX5_shelf_84 (by decide) ?_
            refine xi_ast hx hb hK hP hD hS 8 0 rfl rfl (k := s0) (x := 0) (by omega) (by decide) dX5_shelf_85 (fun H locs hP hD hS => ?_)
            have hP : va_P D vwCl [(a 0, .inr (5, [.int 0, .ref (a 1), .ref (a 2), .ref (a 3), .ref (a 4), .ref (a 5), .ref (a 6), .ref (a 7), .ref (a 8), .ref (a 9), .int r, .ref (a 11), .ref (a 12), .ref (a 13), .ref (a 14), .int lv, .ref (a 16), .ref (a 17), .ref (a 18), .int b, .int o])), (a 1, .inl (cI, 6, .inl (v 1))), (a 2, .inl (cI, 240, .inl (v 2))), (a 3, .inl (cI, 240, .inl (v 3))), (a 4, .inl (cI, 240, .inl (v 4))), (a 5, .inl (cI, 240, .inl (v 5))), (a 6, .inl (cZ, 8, .inl (upd (v 6) s0 0))), (a 7, .inl (cI, 8, .inl (upd (v 7) s0 0))), (a 8, .inl (cI, 8, .inl (upd (v 8) s0 0))), (a 9, .inl (cI, 8, .inl (v 9))), (a 11, .inl (cI, 8, .inl (v 11))), (a 12, .inl (cI, 10, .inl (v 12))), (a 13, .inl (cI, 5, .inl (v 13))), (a 14, .inl (cI, 5, .inl (v 14))), (a 16, .inl (cI, 128, .inl (v 16))), (a 17, .inl (cI, 128, .inl (v 17))), (a 18, .inl (cI, 128, .inl (v 18)))] H := hP
            have hD : va_D A [(a 0, .inr (5, [.int 0, .ref (a 1), .ref (a 2), .ref (a 3), .ref (a 4), .ref (a 5), .ref (a 6), .ref (a 7), .ref (a 8), .ref (a 9), .int r, .ref (a 11), .ref (a 12), .ref (a 13), .ref (a 14), .int lv, .ref (a 16), .ref (a 17), .ref (a 18), .int b, .int o])), (a 1, .inl (cI, 6, .inl (v 1))), (a 2, .inl (cI, 240, .inl (v 2))), (a 3, .inl (cI, 240, .inl (v 3))), (a 4, .inl (cI, 240, .inl (v 4))), (a 5, .inl (cI, 240, .inl (v 5))), (a 6, .inl (cZ, 8, .inl (upd (v 6) s0 0))), (a 7, .inl (cI, 8, .inl (upd (v 7) s0 0))), (a 8, .inl (cI, 8, .inl (upd (v 8) s0 0))), (a 9, .inl (cI, 8, .inl (v 9))), (a 11, .inl (cI, 8, .inl (v 11))), (a 12, .inl (cI, 10, .inl (v 12))), (a 13, .inl (cI, 5, .inl (v 13))), (a 14, .inl (cI, 5, .inl (v 14))), (a 16, .inl (cI, 128, .inl (v 16))), (a 17, .inl (cI, 128, .inl (v 17))), (a 18, .inl (cI, 128, .inl (v 18)))] := hD
            refine lv_iload_n hx hb dX5_shelf_86 rfl (lv_at hl 0 rfl) ?_
            exact Ri (D := D) (va_up (va_up (va_up v 6 (upd (v 6) s0 0)) 7 (upd (v 7) s0 0)) 8 (upd (v 8) s0 0)) hx hb hr rfl hlocks hP hD hS (by rw [F_shelf_in hs9 hi20.1 hi20.2]; exact ⟨(by rw [zk_1 hR.2.1 hs9 c_34, if_pos rfl]; exact (hR.2.2.1 s0 hs9).1), hR.1, zk_shelf hR.2.1 ((if_pos c_55).symm), gk_shelf hR.2.2.1 hi20.2 ((if_pos c_55).symm), upd_le hR.2.2.2.1 rfl, hR.2.2.2.2⟩) dX5_shelf_87
        · refine lv_iconst (v := 1) hx hb dX5_shelf_58 (by decide) ?_
          refine lv_goto (tgt := 63) hx hb dX5_shelf_59 (by decide) ?_
          refine xz_ast hx hb hK hP hD hS 6 1 rfl rfl (k := s0) (x := 1) (by decide) (by omega) (by decide) dX5_shelf_63 (fun H locs hP hD hS => ?_)
          have hP : va_P D vwCl [(a 0, .inr (5, [.int 0, .ref (a 1), .ref (a 2), .ref (a 3), .ref (a 4), .ref (a 5), .ref (a 6), .ref (a 7), .ref (a 8), .ref (a 9), .int r, .ref (a 11), .ref (a 12), .ref (a 13), .ref (a 14), .int lv, .ref (a 16), .ref (a 17), .ref (a 18), .int b, .int o])), (a 1, .inl (cI, 6, .inl (v 1))), (a 2, .inl (cI, 240, .inl (v 2))), (a 3, .inl (cI, 240, .inl (v 3))), (a 4, .inl (cI, 240, .inl (v 4))), (a 5, .inl (cI, 240, .inl (v 5))), (a 6, .inl (cZ, 8, .inl (upd (v 6) s0 1))), (a 7, .inl (cI, 8, .inl (v 7))), (a 8, .inl (cI, 8, .inl (v 8))), (a 9, .inl (cI, 8, .inl (v 9))), (a 11, .inl (cI, 8, .inl (v 11))), (a 12, .inl (cI, 10, .inl (v 12))), (a 13, .inl (cI, 5, .inl (v 13))), (a 14, .inl (cI, 5, .inl (v 14))), (a 16, .inl (cI, 128, .inl (v 16))), (a 17, .inl (cI, 128, .inl (v 17))), (a 18, .inl (cI, 128, .inl (v 18)))] H := hP
          have hD : va_D A [(a 0, .inr (5, [.int 0, .ref (a 1), .ref (a 2), .ref (a 3), .ref (a 4), .ref (a 5), .ref (a 6), .ref (a 7), .ref (a 8), .ref (a 9), .int r, .ref (a 11), .ref (a 12), .ref (a 13), .ref (a 14), .int lv, .ref (a 16), .ref (a 17), .ref (a 18), .int b, .int o])), (a 1, .inl (cI, 6, .inl (v 1))), (a 2, .inl (cI, 240, .inl (v 2))), (a 3, .inl (cI, 240, .inl (v 3))), (a 4, .inl (cI, 240, .inl (v 4))), (a 5, .inl (cI, 240, .inl (v 5))), (a 6, .inl (cZ, 8, .inl (upd (v 6) s0 1))), (a 7, .inl (cI, 8, .inl (v 7))), (a 8, .inl (cI, 8, .inl (v 8))), (a 9, .inl (cI, 8, .inl (v 9))), (a 11, .inl (cI, 8, .inl (v 11))), (a 12, .inl (cI, 10, .inl (v 12))), (a 13, .inl (cI, 5, .inl (v 13))), (a 14, .inl (cI, 5, .inl (v 14))), (a 16, .inl (cI, 128, .inl (v 16))), (a 17, .inl (cI, 128, .inl (v 17))), (a 18, .inl (cI, 128, .inl (v 18)))] := hD
          refine lv_aload_n hx hb dX5_shelf_64 rfl (lv_at hl 1 rfl) ?_
          refine va_get (D := D) (ci := 5) (v := .ref (a 7)) (C := RX5) (T := TX5) (N := 21) hx hb hts inX5 hown hK hP 0 rfl rfl 7 (by decide) fl29 (fun _ h9 => h9) rfl dX5_shelf_65 ?_
          refine lv_iload_n hx hb dX5_shelf_68 rfl (lv_at hl 2 rfl) ?_
          refine lv_iload_n hx hb dX5_shelf_69 rfl (lv_at hl 3 rfl) ?_
          refine lv_if_ge (tgt := 77) hx hb dX5_shelf_70 (by decide) (fun c_70 => ?_) (fun c_70 => ?_)
          · refine lv_iload_n hx hb dX5_shelf_77 rfl (lv_at hl 3 rfl) ?_
            refine xi_ast hx hb hK hP hD hS 7 0 rfl rfl (k := s0) (x := y) (by omega) (by decide) dX5_shelf_78 (fun H locs hP hD hS => ?_)
            have hP : va_P D vwCl [(a 0, .inr (5, [.int 0, .ref (a 1), .ref (a 2), .ref (a 3), .ref (a 4), .ref (a 5), .ref (a 6), .ref (a 7), .ref (a 8), .ref (a 9), .int r, .ref (a 11), .ref (a 12), .ref (a 13), .ref (a 14), .int lv, .ref (a 16), .ref (a 17), .ref (a 18), .int b, .int o])), (a 1, .inl (cI, 6, .inl (v 1))), (a 2, .inl (cI, 240, .inl (v 2))), (a 3, .inl (cI, 240, .inl (v 3))), (a 4, .inl (cI, 240, .inl (v 4))), (a 5, .inl (cI, 240, .inl (v 5))), (a 6, .inl (cZ, 8, .inl (upd (v 6) s0 1))), (a 7, .inl (cI, 8, .inl (upd (v 7) s0 y))), (a 8, .inl (cI, 8, .inl (v 8))), (a 9, .inl (cI, 8, .inl (v 9))), (a 11, .inl (cI, 8, .inl (v 11))), (a 12, .inl (cI, 10, .inl (v 12))), (a 13, .inl (cI, 5, .inl (v 13))), (a 14, .inl (cI, 5, .inl (v 14))), (a 16, .inl (cI, 128, .inl (v 16))), (a 17, .inl (cI, 128, .inl (v 17))), (a 18, .inl (cI, 128, .inl (v 18)))] H := hP
            have hD : va_D A [(a 0, .inr (5, [.int 0, .ref (a 1), .ref (a 2), .ref (a 3), .ref (a 4), .ref (a 5), .ref (a 6), .ref (a 7), .ref (a 8), .ref (a 9), .int r, .ref (a 11), .ref (a 12), .ref (a 13), .ref (a 14), .int lv, .ref (a 16), .ref (a 17), .ref (a 18), .int b, .int o])), (a 1, .inl (cI, 6, .inl (v 1))), (a 2, .inl (cI, 240, .inl (v 2))), (a 3, .inl (cI, 240, .inl (v 3))), (a 4, .inl (cI, 240, .inl (v 4))), (a 5, .inl (cI, 240, .inl (v 5))), (a 6, .inl (cZ, 8, .inl (upd (v 6) s0 1))), (a 7, .inl (cI, 8, .inl (upd (v 7) s0 y))), (a 8, .inl (cI, 8, .inl (v 8))), (a 9, .inl (cI, 8, .inl (v 9))), (a 11, .inl (cI, 8, .inl (v 11))), (a 12, .inl (cI, 10, .inl (v 12))), (a 13, .inl (cI, 5, .inl (v 13))), (a 14, .inl (cI, 5, .inl (v 14))), (a 16, .inl (cI, 128, .inl (v 16))), (a 17, .inl (cI, 128, .inl (v 17))), (a 18, .inl (cI, 128, .inl (v 18)))] := hD
            refine lv_aload_n hx hb dX5_shelf_79 rfl (lv_at hl 1 rfl) ?_
            refine va_get (D := D) (ci := 5) (v := .ref (a 8)) (C := RX5) (T := TX5) (N := 21) hx hb hts inX5 hown hK hP 0 rfl rfl 8 (by decide) fl32 (fun _ h9 => h9) rfl dX5_shelf_80 ?_
            refine lv_iload_n hx hb dX5_shelf_83 rfl (lv_at hl 2 rfl) ?_
            refine lv_iconst (v := 0) hx hb dX5_shelf_84 (by decide) ?_
            refine xi_ast hx hb hK hP hD hS 8 0 rfl rfl (k := s0) (x := 0) (by omega) (by decide) dX5_shelf_85 (fun H locs hP hD hS => ?_)
            have hP : va_P D vwCl [(a 0, .inr (5, [.int 0, .ref (a 1), .ref (a 2), .ref (a 3), .ref (a 4), .ref (a 5), .ref (a 6), .ref (a 7), .ref (a 8), .ref (a 9), .int r, .ref (a 11), .ref (a 12), .ref (a 13), .ref (a 14), .int lv, .ref (a 16), .ref (a 17), .ref (a 18), .int b, .int o])), (a 1, .inl (cI, 6, .inl (v 1))), (a 2, .inl (cI, 240, .inl (v 2))), (a 3, .inl (cI, 240, .inl (v 3))), (a 4, .inl (cI, 240, .inl (v 4))), (a 5, .inl (cI, 240, .inl (v 5))), (a 6, .inl (cZ, 8, .inl (upd (v 6) s0 1))), (a 7, .inl (cI, 8, .inl (upd (v 7) s0 y))), (a 8, .inl (cI, 8, .inl (upd (v 8) s0 0))), (a 9, .inl (cI, 8, .inl (v 9))), (a 11, .inl (cI, 8, .inl (v 11))), (a 12, .inl (cI, 10, .inl (v 12))), (a 13, .inl (cI, 5, .inl (v 13))), (a 14, .inl (cI, 5, .inl (v 14))), (a 16, .inl (cI, 128, .inl (v 16))), (a 17, .inl (cI, 128, .inl (v 17))), (a 18, .inl (cI, 128, .inl (v 18)))] H := hP
            have hD : va_D A [(a 0, .inr (5, [.int 0, .ref (a 1), .ref (a 2), .ref (a 3), .ref (a 4), .ref (a 5), .ref (a 6), .ref (a 7), .ref (a 8), .ref (a 9), .int r, .ref (a 11), .ref (a 12), .ref (a 13), .ref (a 14), .int lv, .ref (a 16), .ref (a 17), .ref (a 18), .int b, .int o])), (a 1, .inl (cI, 6, .inl (v 1))), (a 2, .inl (cI, 240, .inl (v 2))), (a 3, .inl (cI, 240, .inl (v 3))), (a 4, .inl (cI, 240, .inl (v 4))), (a 5, .inl (cI, 240, .inl (v 5))), (a 6, .inl (cZ, 8, .inl (upd (v 6) s0 1))), (a 7, .inl (cI, 8, .inl (upd (v 7) s0 y))), (a 8, .inl (cI, 8, .inl (upd (v 8) s0 0))), (a 9, .inl (cI, 8, .inl (v 9))), (a 11, .inl (cI, 8, .inl (v 11))), (a 12, .inl (cI, 10, .inl (v 12))), (a 13, .inl (cI, 5, .inl (v 13))), (a 14, .inl (cI, 5, .inl (v 14))), (a 16, .inl (cI, 128, .inl (v 16))), (a 17, .inl (cI, 128, .inl (v 17))), (a 18, .inl (cI, 128, .inl (v 18)))] := hD
            refine lv_iload_n hx hb dX5_shelf_86 rfl (lv_at hl 0 rfl) ?_
            exact Ri (D := D) (va_up (va_up (va_up v 6 (upd (v 6) s0 1)) 7 (upd (v 7) s0 y)) 8 (upd (v 8) s0 0)) hx hb hr rfl hlocks hP hD hS (by rw [F_shelf_in hs9 hi20.1 hi20.2]; exact ⟨(by rw [zk_1 hR.2.1 hs9 c_34, if_pos rfl]; exact (hR.2.2.1 s0 hs9).1), hR.1, zk_shelf hR.2.1 ((if_neg c_55).symm), gk_shelf hR.2.2.1 hi20.2 ((if_neg c_55).symm), upd_le hR.2.2.2.1 rfl, hR.2.2.2.2⟩) dX5_shelf_87
          · exact absurd (Int32.not_lt.mp c_55) c_70
    · refine lv_if_ne (tgt := 28) hx hb dX5_shelf_23 (by decide) (fun c9 => absurd rfl c9) (fun _ => ?_)
      refine lv_iconst (v := (-1)) hx hb dX5_shelf_26 (by decide) ?_
      exact Ri (D := D) v hx hb hr rfl hlocks hP hD hS (by rw [F_shelf_no (fun q => hi20 q.2)]; exact ⟨rfl, hR⟩) dX5_shelf_27
  · refine lv_if_eq (tgt := 26) hx hb dX5_shelf_12 (by decide) (fun _ => ?_) (fun c9 => absurd (by decide) c9)
    refine lv_iconst (v := (-1)) hx hb dX5_shelf_26 (by decide) ?_
    exact Ri (D := D) v hx hb hr rfl hlocks hP hD hS (by rw [F_shelf_no (fun q => hi9 (inN_d (m := 7) (by decide) rfl q.1))]; exact ⟨rfl, hR⟩) dX5_shelf_27

set_option maxHeartbeats 4000000 in
set_option maxRecDepth 100000 in
theorem c_X5_told (l : Launch) (D : va_G) (cI cZ : ClassId) (a : Nat → Nat) (v : Nat → Nat → Int32) (t r lv b o : Int32) (G : GP) (go : Nat → Nat) (lf : Nat → Int32) (rs : Int32) (td ct : Nat → Int32) (hR : Rp G go lf rs td ct (cnt []) v r) (x : Int32) : Ci l D [(cI, .int), (cZ, .boolean)] yX5_told wsX5_told ({ frames := 1, cells := 0, slots := 0, locals := 22 }) [.ref (a 0), .int x] (wM a cI cZ v t r lv b o) (S := Unit) (fun w _ => w = tdv td x) (fun _ => wM a cI cZ v 0 r lv b o) := by
  refine Ci.mk (cc := cX5_told) (maxL := 2) (ret := (some .int)) (by decide +kernel) rfl (Nat.le_of_ble_eq_true rfl) ?_
  intro pg e s m below meth c A ls hx hb hml hr hown hts hlocks hK hns hA hP hD hS hl
  have hl : lv_has ls 2 [(0, .ref (a 0)), (1, .int x)] := hl
  have fl59 := hts (.fieldLink RX5 59 "HeldShelvesModel" "thrown" "I") (List.mem_of_getElem? (i := 1) rfl)
  have inX5 : ∀ w ∈ wsX50, w ∈ wsX5_told := fun _ h => List.mem_cons_of_mem _ (List.mem_append_right _ h)
  have fl38 := hts (.fieldLink RX5 38 "HeldShelvesModel" "told" "[I") (List.mem_of_getElem? (i := 2) rfl)
  have hP : va_P D vwCl [(a 0, .inr (5, [.int t, .ref (a 1), .ref (a 2), .ref (a 3), .ref (a 4), .ref (a 5), .ref (a 6), .ref (a 7), .ref (a 8), .ref (a 9), .int r, .ref (a 11), .ref (a 12), .ref (a 13), .ref (a 14), .int lv, .ref (a 16), .ref (a 17), .ref (a 18), .int b, .int o])), (a 1, .inl (cI, 6, .inl (v 1))), (a 2, .inl (cI, 240, .inl (v 2))), (a 3, .inl (cI, 240, .inl (v 3))), (a 4, .inl (cI, 240, .inl (v 4))), (a 5, .inl (cI, 240, .inl (v 5))), (a 6, .inl (cZ, 8, .inl (v 6))), (a 7, .inl (cI, 8, .inl (v 7))), (a 8, .inl (cI, 8, .inl (v 8))), (a 9, .inl (cI, 8, .inl (v 9))), (a 11, .inl (cI, 8, .inl (v 11))), (a 12, .inl (cI, 10, .inl (v 12))), (a 13, .inl (cI, 5, .inl (v 13))), (a 14, .inl (cI, 5, .inl (v 14))), (a 16, .inl (cI, 128, .inl (v 16))), (a 17, .inl (cI, 128, .inl (v 17))), (a 18, .inl (cI, 128, .inl (v 18)))] s.heap := hP
  have hD : va_D A [(a 0, .inr (5, [.int t, .ref (a 1), .ref (a 2), .ref (a 3), .ref (a 4), .ref (a 5), .ref (a 6), .ref (a 7), .ref (a 8), .ref (a 9), .int r, .ref (a 11), .ref (a 12), .ref (a 13), .ref (a 14), .int lv, .ref (a 16), .ref (a 17), .ref (a 18), .int b, .int o])), (a 1, .inl (cI, 6, .inl (v 1))), (a 2, .inl (cI, 240, .inl (v 2))), (a 3, .inl (cI, 240, .inl (v 3))), (a 4, .inl (cI, 240, .inl (v 4))), (a 5, .inl (cI, 240, .inl (v 5))), (a 6, .inl (cZ, 8, .inl (v 6))), (a 7, .inl (cI, 8, .inl (v 7))), (a 8, .inl (cI, 8, .inl (v 8))), (a 9, .inl (cI, 8, .inl (v 9))), (a 11, .inl (cI, 8, .inl (v 11))), (a 12, .inl (cI, 10, .inl (v 12))), (a 13, .inl (cI, 5, .inl (v 13))), (a 14, .inl (cI, 5, .inl (v 14))), (a 16, .inl (cI, 128, .inl (v 16))), (a 17, .inl (cI, 128, .inl (v 17))), (a 18, .inl (cI, 128, .inl (v 18)))] := hD
  refine lv_aload_n hx hb dX5_told_0 rfl (lv_at hl 0 rfl) ?_
  refine lv_iconst (v := 0) hx hb dX5_told_1 (by decide) ?_
  refine va_put (D := D) (ci := 5) (v := .int 0) (ty := .int) (C := RX5) (T := TX5) (N := 21) hx hb hts inX5 tyX5 tyX5_ok nmX5 hown hK hP hD hS 0 rfl rfl 0 (by decide) fl59 (fun _ h9 => h9) rfl (by decide +kernel) rfl rfl (Nat.le_of_ble_eq_true rfl) dX5_told_2 (fun H locs hP hD hS => ?_)
  have hP : va_P D vwCl [(a 0, .inr (5, [.int 0, .ref (a 1), .ref (a 2), .ref (a 3), .ref (a 4), .ref (a 5), .ref (a 6), .ref (a 7), .ref (a 8), .ref (a 9), .int r, .ref (a 11), .ref (a 12), .ref (a 13), .ref (a 14), .int lv, .ref (a 16), .ref (a 17), .ref (a 18), .int b, .int o])), (a 1, .inl (cI, 6, .inl (v 1))), (a 2, .inl (cI, 240, .inl (v 2))), (a 3, .inl (cI, 240, .inl (v 3))), (a 4, .inl (cI, 240, .inl (v 4))), (a 5, .inl (cI, 240, .inl (v 5))), (a 6, .inl (cZ, 8, .inl (v 6))), (a 7, .inl (cI, 8, .inl (v 7))), (a 8, .inl (cI, 8, .inl (v 8))), (a 9, .inl (cI, 8, .inl (v 9))), (a 11, .inl (cI, 8, .inl (v 11))), (a 12, .inl (cI, 10, .inl (v 12))), (a 13, .inl (cI, 5, .inl (v 13))), (a 14, .inl (cI, 5, .inl (v 14))), (a 16, .inl (cI, 128, .inl (v 16))), (a 17, .inl (cI, 128, .inl (v 17))), (a 18, .inl (cI, 128, .inl (v 18)))] H := hP
  have hD : va_D A [(a 0, .inr (5, [.int 0, .ref (a 1), .ref (a 2), .ref (a 3), .ref (a 4), .ref (a 5), .ref (a 6), .ref (a 7), .ref (a 8), .ref (a 9), .int r, .ref (a 11), .ref (a 12), .ref (a 13), .ref (a 14), .int lv, .ref (a 16), .ref (a 17), .ref (a 18), .int b, .int o])), (a 1, .inl (cI, 6, .inl (v 1))), (a 2, .inl (cI, 240, .inl (v 2))), (a 3, .inl (cI, 240, .inl (v 3))), (a 4, .inl (cI, 240, .inl (v 4))), (a 5, .inl (cI, 240, .inl (v 5))), (a 6, .inl (cZ, 8, .inl (v 6))), (a 7, .inl (cI, 8, .inl (v 7))), (a 8, .inl (cI, 8, .inl (v 8))), (a 9, .inl (cI, 8, .inl (v 9))), (a 11, .inl (cI, 8, .inl (v 11))), (a 12, .inl (cI, 10, .inl (v 12))), (a 13, .inl (cI, 5, .inl (v 13))), (a 14, .inl (cI, 5, .inl (v 14))), (a 16, .inl (cI, 128, .inl (v 16))), (a 17, .inl (cI, 128, .inl (v 17))), (a 18, .inl (cI, 128, .inl (v 18)))] := hD
  refine lv_iload_n hx hb dX5_told_5 rfl (lv_at hl 1 rfl) ?_
  refine lv_iconst (v := 0) hx hb dX5_told_6 (by decide) ?_
  refine lv_bipush (v := 7) hx hb dX5_told_7 (by decide) ?_
  refine cl_Si (As := [.int x, .int 0, .int 7]) (rest := []) (c_X5_in l D x 0 7) ⟨hx, hb, hml, hown, hts⟩ (cwS 3 hts gX5_told_X5_in rfl rfl rfl (by decide +kernel) ⟨Nat.le_of_ble_eq_true rfl, Nat.le_of_ble_eq_true rfl⟩) hK hns hP hD hS hA rfl hl.1 rfl (Nat.le_of_ble_eq_true rfl) dX5_told_9 ⟨Nat.zero_le _, Nat.zero_le _⟩ (fun r9 u9 H locs hw9 hP hD hS => ?_)
  rcases hw9 with ⟨rfl, hi9⟩ | ⟨rfl, hi9⟩
  · obtain ⟨j, hs9, rfl⟩ := inN_c (m := 7) (by decide) rfl hi9.1 hi9.2
    refine lv_if_eq (tgt := 24) hx hb dX5_told_12 (by decide) (fun c9 => absurd c9 (by decide)) (fun _ => ?_)
    refine lv_aload_n hx hb dX5_told_15 rfl (lv_at hl 0 rfl) ?_
    refine va_get (D := D) (ci := 5) (v := .ref (a 11)) (C := RX5) (T := TX5) (N := 21) hx hb hts inX5 hown hK hP 0 rfl rfl 11 (by decide) fl38 (fun _ h9 => h9) rfl dX5_told_16 ?_
    refine lv_iload_n hx hb dX5_told_19 rfl (lv_at hl 1 rfl) ?_
    refine xi_ald hx hb hK hP 10 0 rfl rfl (k := j) (by omega) (by decide) dX5_told_20 ?_
    refine lv_goto (tgt := 25) hx hb dX5_told_21 (by decide) ?_
    exact Ri (D := D) () hx hb hr rfl hlocks hP hD hS ((hR.2.2.2.2.2.1 j hs9).trans (tdv_in hs9).symm) dX5_told_25
  · refine lv_if_eq (tgt := 24) hx hb dX5_told_12 (by decide) (fun _ => ?_) (fun c9 => absurd (by decide) c9)
    refine lv_iconst (v := (-1)) hx hb dX5_told_24 (by decide) ?_
    exact Ri (D := D) () hx hb hr rfl hlocks hP hD hS (tdv_no hi9).symm dX5_told_25

set_option maxHeartbeats 4000000 in
set_option maxRecDepth 100000 in
theorem c_X5_caught (l : Launch) (D : va_G) (cI cZ : ClassId) (a : Nat → Nat) (v : Nat → Nat → Int32) (t r lv b o : Int32) (G : GP) (go : Nat → Nat) (lf : Nat → Int32) (rs : Int32) (td ct : Nat → Int32) (hR : Rp G go lf rs td ct (cnt []) v r) (x : Int32) : Ci l D [(cI, .int), (cZ, .boolean)] yX5_caught wsX5_caught ({ frames := 1, cells := 0, slots := 0, locals := 22 }) [.ref (a 0), .int x] (wM a cI cZ v t r lv b o) (S := Unit) (fun w _ => w = tcv ct x) (fun _ => wM a cI cZ v 0 r lv b o) := by
  refine Ci.mk (cc := cX5_caught) (maxL := 2) (ret := (some .int)) (by decide +kernel) rfl (Nat.le_of_ble_eq_true rfl) ?_
  intro pg e s m below meth c A ls hx hb hml hr hown hts hlocks hK hns hA hP hD hS hl
  have hl : lv_has ls 2 [(0, .ref (a 0)), (1, .int x)] := hl
  have fl59 := hts (.fieldLink RX5 59 "HeldShelvesModel" "thrown" "I") (List.mem_of_getElem? (i := 1) rfl)
  have inX5 : ∀ w ∈ wsX50, w ∈ wsX5_caught := fun _ h => List.mem_cons_of_mem _ (List.mem_append_right _ h)
  have fl41 := hts (.fieldLink RX5 41 "HeldShelvesModel" "caught" "[I") (List.mem_of_getElem? (i := 2) rfl)
  have hP : va_P D vwCl [(a 0, .inr (5, [.int t, .ref (a 1), .ref (a 2), .ref (a 3), .ref (a 4), .ref (a 5), .ref (a 6), .ref (a 7), .ref (a 8), .ref (a 9), .int r, .ref (a 11), .ref (a 12), .ref (a 13), .ref (a 14), .int lv, .ref (a 16), .ref (a 17), .ref (a 18), .int b, .int o])), (a 1, .inl (cI, 6, .inl (v 1))), (a 2, .inl (cI, 240, .inl (v 2))), (a 3, .inl (cI, 240, .inl (v 3))), (a 4, .inl (cI, 240, .inl (v 4))), (a 5, .inl (cI, 240, .inl (v 5))), (a 6, .inl (cZ, 8, .inl (v 6))), (a 7, .inl (cI, 8, .inl (v 7))), (a 8, .inl (cI, 8, .inl (v 8))), (a 9, .inl (cI, 8, .inl (v 9))), (a 11, .inl (cI, 8, .inl (v 11))), (a 12, .inl (cI, 10, .inl (v 12))), (a 13, .inl (cI, 5, .inl (v 13))), (a 14, .inl (cI, 5, .inl (v 14))), (a 16, .inl (cI, 128, .inl (v 16))), (a 17, .inl (cI, 128, .inl (v 17))), (a 18, .inl (cI, 128, .inl (v 18)))] s.heap := hP
  have hD : va_D A [(a 0, .inr (5, [.int t, .ref (a 1), .ref (a 2), .ref (a 3), .ref (a 4), .ref (a 5), .ref (a 6), .ref (a 7), .ref (a 8), .ref (a 9), .int r, .ref (a 11), .ref (a 12), .ref (a 13), .ref (a 14), .int lv, .ref (a 16), .ref (a 17), .ref (a 18), .int b, .int o])), (a 1, .inl (cI, 6, .inl (v 1))), (a 2, .inl (cI, 240, .inl (v 2))), (a 3, .inl (cI, 240, .inl (v 3))), (a 4, .inl (cI, 240, .inl (v 4))), (a 5, .inl (cI, 240, .inl (v 5))), (a 6, .inl (cZ, 8, .inl (v 6))), (a 7, .inl (cI, 8, .inl (v 7))), (a 8, .inl (cI, 8, .inl (v 8))), (a 9, .inl (cI, 8, .inl (v 9))), (a 11, .inl (cI, 8, .inl (v 11))), (a 12, .inl (cI, 10, .inl (v 12))), (a 13, .inl (cI, 5, .inl (v 13))), (a 14, .inl (cI, 5, .inl (v 14))), (a 16, .inl (cI, 128, .inl (v 16))), (a 17, .inl (cI, 128, .inl (v 17))), (a 18, .inl (cI, 128, .inl (v 18)))] := hD
  refine lv_aload_n hx hb dX5_caught_0 rfl (lv_at hl 0 rfl) ?_
  refine lv_iconst (v := 0) hx hb dX5_caught_1 (by decide) ?_
  refine va_put (D := D) (ci := 5) (v := .int 0) (ty := .int) (C := RX5) (T := TX5) (N := 21) hx hb hts inX5 tyX5 tyX5_ok nmX5 hown hK hP hD hS 0 rfl rfl 0 (by decide) fl59 (fun _ h9 => h9) rfl (by decide +kernel) rfl rfl (Nat.le_of_ble_eq_true rfl) dX5_caught_2 (fun H locs hP hD hS => ?_)
  have hP : va_P D vwCl [(a 0, .inr (5, [.int 0, .ref (a 1), .ref (a 2), .ref (a 3), .ref (a 4), .ref (a 5), .ref (a 6), .ref (a 7), .ref (a 8), .ref (a 9), .int r, .ref (a 11), .ref (a 12), .ref (a 13), .ref (a 14), .int lv, .ref (a 16), .ref (a 17), .ref (a 18), .int b, .int o])), (a 1, .inl (cI, 6, .inl (v 1))), (a 2, .inl (cI, 240, .inl (v 2))), (a 3, .inl (cI, 240, .inl (v 3))), (a 4, .inl (cI, 240, .inl (v 4))), (a 5, .inl (cI, 240, .inl (v 5))), (a 6, .inl (cZ, 8, .inl (v 6))), (a 7, .inl (cI, 8, .inl (v 7))), (a 8, .inl (cI, 8, .inl (v 8))), (a 9, .inl (cI, 8, .inl (v 9))), (a 11, .inl (cI, 8, .inl (v 11))), (a 12, .inl (cI, 10, .inl (v 12))), (a 13, .inl (cI, 5, .inl (v 13))), (a 14, .inl (cI, 5, .inl (v 14))), (a 16, .inl (cI, 128, .inl (v 16))), (a 17, .inl (cI, 128, .inl (v 17))), (a 18, .inl (cI, 128, .inl (v 18)))] H := hP
  have hD : va_D A [(a 0, .inr (5, [.int 0, .ref (a 1), .ref (a 2), .ref (a 3), .ref (a 4), .ref (a 5), .ref (a 6), .ref (a 7), .ref (a 8), .ref (a 9), .int r, .ref (a 11), .ref (a 12), .ref (a 13), .ref (a 14), .int lv, .ref (a 16), .ref (a 17), .ref (a 18), .int b, .int o])), (a 1, .inl (cI, 6, .inl (v 1))), (a 2, .inl (cI, 240, .inl (v 2))), (a 3, .inl (cI, 240, .inl (v 3))), (a 4, .inl (cI, 240, .inl (v 4))), (a 5, .inl (cI, 240, .inl (v 5))), (a 6, .inl (cZ, 8, .inl (v 6))), (a 7, .inl (cI, 8, .inl (v 7))), (a 8, .inl (cI, 8, .inl (v 8))), (a 9, .inl (cI, 8, .inl (v 9))), (a 11, .inl (cI, 8, .inl (v 11))), (a 12, .inl (cI, 10, .inl (v 12))), (a 13, .inl (cI, 5, .inl (v 13))), (a 14, .inl (cI, 5, .inl (v 14))), (a 16, .inl (cI, 128, .inl (v 16))), (a 17, .inl (cI, 128, .inl (v 17))), (a 18, .inl (cI, 128, .inl (v 18)))] := hD
  refine lv_iload_n hx hb dX5_caught_5 rfl (lv_at hl 1 rfl) ?_
  refine lv_iconst (v := 1) hx hb dX5_caught_6 (by decide) ?_
  refine lv_bipush (v := 9) hx hb dX5_caught_7 (by decide) ?_
  refine cl_Si (As := [.int x, .int 1, .int 9]) (rest := []) (c_X5_in l D x 1 9) ⟨hx, hb, hml, hown, hts⟩ (cwS 3 hts gX5_caught_X5_in rfl rfl rfl (by decide +kernel) ⟨Nat.le_of_ble_eq_true rfl, Nat.le_of_ble_eq_true rfl⟩) hK hns hP hD hS hA rfl hl.1 rfl (Nat.le_of_ble_eq_true rfl) dX5_caught_9 ⟨Nat.zero_le _, Nat.zero_le _⟩ (fun r9 u9 H locs hw9 hP hD hS => ?_)
  rcases hw9 with ⟨rfl, hi9⟩ | ⟨rfl, hi9⟩
  · obtain ⟨j, hj1, hj10, rfl⟩ := in19 hi9.1 hi9.2
    refine lv_if_eq (tgt := 24) hx hb dX5_caught_12 (by decide) (fun c9 => absurd c9 (by decide)) (fun _ => ?_)
    refine lv_aload_n hx hb dX5_caught_15 rfl (lv_at hl 0 rfl) ?_
    refine va_get (D := D) (ci := 5) (v := .ref (a 12)) (C := RX5) (T := TX5) (N := 21) hx hb hts inX5 hown hK hP 0 rfl rfl 12 (by decide) fl41 (fun _ h9 => h9) rfl dX5_caught_16 ?_
    refine lv_iload_n hx hb dX5_caught_19 rfl (lv_at hl 1 rfl) ?_
    refine xi_ald hx hb hK hP 11 0 rfl rfl (k := j) (by omega) (by decide) dX5_caught_20 ?_
    refine lv_goto (tgt := 25) hx hb dX5_caught_21 (by decide) ?_
    exact Ri (D := D) () hx hb hr rfl hlocks hP hD hS ((hR.2.2.2.2.2.2.1 j hj10).trans (tcv_j hj1 hj10).symm) dX5_caught_25
  · refine lv_if_eq (tgt := 24) hx hb dX5_caught_12 (by decide) (fun _ => ?_) (fun c9 => absurd (by decide) c9)
    refine lv_iconst (v := (-1)) hx hb dX5_caught_24 (by decide) ?_
    exact Ri (D := D) () hx hb hr rfl hlocks hP hD hS (tcv_no hi9).symm dX5_caught_25

set_option maxHeartbeats 4000000 in
set_option maxRecDepth 100000 in
theorem c_X5_about (l : Launch) (D : va_G) (cI cZ : ClassId) (a : Nat → Nat) (v : Nat → Nat → Int32) (t r lv b o : Int32) (G : GP) (go : Nat → Nat) (lf : Nat → Int32) (rs : Int32) (td ct : Nat → Int32) (hR : Rp G go lf rs td ct (cnt []) v r) (x y : Int32) : Ci l D [(cI, .int), (cZ, .boolean)] yX5_about wsX5_about ({ frames := 1, cells := 0, slots := 0, locals := 22 }) [.ref (a 0), .int x, .int y] (wM a cI cZ v t r lv b o) (S := Unit) (fun w _ => w = F_about G go lf x y) (fun _ => wM a cI cZ v 0 r lv b o) := by
  refine Ci.mk (cc := cX5_about) (maxL := 3) (ret := (some .int)) (by decide +kernel) rfl (Nat.le_of_ble_eq_true rfl) ?_
  intro pg e s m below meth c A ls hx hb hml hr hown hts hlocks hK hns hA hP hD hS hl
  have hl : lv_has ls 3 [(0, .ref (a 0)), (1, .int x), (2, .int y)] := hl
  have fl59 := hts (.fieldLink RX5 59 "HeldShelvesModel" "thrown" "I") (List.mem_of_getElem? (i := 1) rfl)
  have inX5 : ∀ w ∈ wsX50, w ∈ wsX5_about := fun _ h => List.mem_cons_of_mem _ (List.mem_append_right _ h)
  have fl25 := hts (.fieldLink RX5 25 "HeldShelvesModel" "isThere" "[Z") (List.mem_of_getElem? (i := 2) rfl)
  have fl32 := hts (.fieldLink RX5 32 "HeldShelvesModel" "left" "[I") (List.mem_of_getElem? (i := 4) rfl)
  have fl29 := hts (.fieldLink RX5 29 "HeldShelvesModel" "goods" "[I") (List.mem_of_getElem? (i := 3) rfl)
  have hP : va_P D vwCl [(a 0, .inr (5, [.int t, .ref (a 1), .ref (a 2), .ref (a 3), .ref (a 4), .ref (a 5), .ref (a 6), .ref (a 7), .ref (a 8), .ref (a 9), .int r, .ref (a 11), .ref (a 12), .ref (a 13), .ref (a 14), .int lv, .ref (a 16), .ref (a 17), .ref (a 18), .int b, .int o])), (a 1, .inl (cI, 6, .inl (v 1))), (a 2, .inl (cI, 240, .inl (v 2))), (a 3, .inl (cI, 240, .inl (v 3))), (a 4, .inl (cI, 240, .inl (v 4))), (a 5, .inl (cI, 240, .inl (v 5))), (a 6, .inl (cZ, 8, .inl (v 6))), (a 7, .inl (cI, 8, .inl (v 7))), (a 8, .inl (cI, 8, .inl (v 8))), (a 9, .inl (cI, 8, .inl (v 9))), (a 11, .inl (cI, 8, .inl (v 11))), (a 12, .inl (cI, 10, .inl (v 12))), (a 13, .inl (cI, 5, .inl (v 13))), (a 14, .inl (cI, 5, .inl (v 14))), (a 16, .inl (cI, 128, .inl (v 16))), (a 17, .inl (cI, 128, .inl (v 17))), (a 18, .inl (cI, 128, .inl (v 18)))] s.heap := hP
  have hD : va_D A [(a 0, .inr (5, [.int t, .ref (a 1), .ref (a 2), .ref (a 3), .ref (a 4), .ref (a 5), .ref (a 6), .ref (a 7), .ref (a 8), .ref (a 9), .int r, .ref (a 11), .ref (a 12), .ref (a 13), .ref (a 14), .int lv, .ref (a 16), .ref (a 17), .ref (a 18), .int b, .int o])), (a 1, .inl (cI, 6, .inl (v 1))), (a 2, .inl (cI, 240, .inl (v 2))), (a 3, .inl (cI, 240, .inl (v 3))), (a 4, .inl (cI, 240, .inl (v 4))), (a 5, .inl (cI, 240, .inl (v 5))), (a 6, .inl (cZ, 8, .inl (v 6))), (a 7, .inl (cI, 8, .inl (v 7))), (a 8, .inl (cI, 8, .inl (v 8))), (a 9, .inl (cI, 8, .inl (v 9))), (a 11, .inl (cI, 8, .inl (v 11))), (a 12, .inl (cI, 10, .inl (v 12))), (a 13, .inl (cI, 5, .inl (v 13))), (a 14, .inl (cI, 5, .inl (v 14))), (a 16, .inl (cI, 128, .inl (v 16))), (a 17, .inl (cI, 128, .inl (v 17))), (a 18, .inl (cI, 128, .inl (v 18)))] := hD
  refine lv_aload_n hx hb dX5_about_0 rfl (lv_at hl 0 rfl) ?_
  refine lv_iconst (v := 0) hx hb dX5_about_1 (by decide) ?_
  refine va_put (D := D) (ci := 5) (v := .int 0) (ty := .int) (C := RX5) (T := TX5) (N := 21) hx hb hts inX5 tyX5 tyX5_ok nmX5 hown hK hP hD hS 0 rfl rfl 0 (by decide) fl59 (fun _ h9 => h9) rfl (by decide +kernel) rfl rfl (Nat.le_of_ble_eq_true rfl) dX5_about_2 (fun H locs hP hD hS => ?_)
  have hP : va_P D vwCl [(a 0, .inr (5, [.int 0, .ref (a 1), .ref (a 2), .ref (a 3), .ref (a 4), .ref (a 5), .ref (a 6), .ref (a 7), .ref (a 8), .ref (a 9), .int r, .ref (a 11), .ref (a 12), .ref (a 13), .ref (a 14), .int lv, .ref (a 16), .ref (a 17), .ref (a 18), .int b, .int o])), (a 1, .inl (cI, 6, .inl (v 1))), (a 2, .inl (cI, 240, .inl (v 2))), (a 3, .inl (cI, 240, .inl (v 3))), (a 4, .inl (cI, 240, .inl (v 4))), (a 5, .inl (cI, 240, .inl (v 5))), (a 6, .inl (cZ, 8, .inl (v 6))), (a 7, .inl (cI, 8, .inl (v 7))), (a 8, .inl (cI, 8, .inl (v 8))), (a 9, .inl (cI, 8, .inl (v 9))), (a 11, .inl (cI, 8, .inl (v 11))), (a 12, .inl (cI, 10, .inl (v 12))), (a 13, .inl (cI, 5, .inl (v 13))), (a 14, .inl (cI, 5, .inl (v 14))), (a 16, .inl (cI, 128, .inl (v 16))), (a 17, .inl (cI, 128, .inl (v 17))), (a 18, .inl (cI, 128, .inl (v 18)))] H := hP
  have hD : va_D A [(a 0, .inr (5, [.int 0, .ref (a 1), .ref (a 2), .ref (a 3), .ref (a 4), .ref (a 5), .ref (a 6), .ref (a 7), .ref (a 8), .ref (a 9), .int r, .ref (a 11), .ref (a 12), .ref (a 13), .ref (a 14), .int lv, .ref (a 16), .ref (a 17), .ref (a 18), .int b, .int o])), (a 1, .inl (cI, 6, .inl (v 1))), (a 2, .inl (cI, 240, .inl (v 2))), (a 3, .inl (cI, 240, .inl (v 3))), (a 4, .inl (cI, 240, .inl (v 4))), (a 5, .inl (cI, 240, .inl (v 5))), (a 6, .inl (cZ, 8, .inl (v 6))), (a 7, .inl (cI, 8, .inl (v 7))), (a 8, .inl (cI, 8, .inl (v 8))), (a 9, .inl (cI, 8, .inl (v 9))), (a 11, .inl (cI, 8, .inl (v 11))), (a 12, .inl (cI, 10, .inl (v 12))), (a 13, .inl (cI, 5, .inl (v 13))), (a 14, .inl (cI, 5, .inl (v 14))), (a 16, .inl (cI, 128, .inl (v 16))), (a 17, .inl (cI, 128, .inl (v 17))), (a 18, .inl (cI, 128, .inl (v 18)))] := hD
  refine lv_iload_n hx hb dX5_about_5 rfl (lv_at hl 1 rfl) ?_
  refine lv_iconst (v := 0) hx hb dX5_about_6 (by decide) ?_
  refine lv_bipush (v := 7) hx hb dX5_about_7 (by decide) ?_
  refine cl_Si (As := [.int x, .int 0, .int 7]) (rest := []) (c_X5_in l D x 0 7) ⟨hx, hb, hml, hown, hts⟩ (cwS 3 hts gX5_about_X5_in rfl rfl rfl (by decide +kernel) ⟨Nat.le_of_ble_eq_true rfl, Nat.le_of_ble_eq_true rfl⟩) hK hns hP hD hS hA rfl hl.1 rfl (Nat.le_of_ble_eq_true rfl) dX5_about_9 ⟨Nat.zero_le _, Nat.zero_le _⟩ (fun r9 u9 H locs hw9 hP hD hS => ?_)
  rcases hw9 with ⟨rfl, hi9⟩ | ⟨rfl, hi9⟩
  · obtain ⟨s0, hs9, rfl⟩ := inN_c (m := 7) (by decide) rfl hi9.1 hi9.2
    refine lv_if_eq (tgt := 24) hx hb dX5_about_12 (by decide) (fun c9 => absurd c9 (by decide)) (fun _ => ?_)
    refine lv_iload_n hx hb dX5_about_15 rfl (lv_at hl 2 rfl) ?_
    refine lv_iconst (v := 0) hx hb dX5_about_16 (by decide) ?_
    refine lv_iconst (v := 1) hx hb dX5_about_17 (by decide) ?_
    refine cl_Si (As := [.int y, .int 0, .int 1]) (rest := []) (c_X5_in l D y 0 1) ⟨hx, hb, hml, hown, hts⟩ (cwS 3 hts gX5_about_X5_in rfl rfl rfl (by decide +kernel) ⟨Nat.le_of_ble_eq_true rfl, Nat.le_of_ble_eq_true rfl⟩) hK hns hP hD hS hA rfl hl.1 rfl (Nat.le_of_ble_eq_true rfl) dX5_about_18 ⟨Nat.zero_le _, Nat.zero_le _⟩ (fun r18 u18 H locs hw18 hP hD hS => ?_)
    rcases hw18 with ⟨rfl, hi18⟩ | ⟨rfl, hi18⟩
    · refine lv_if_ne (tgt := 26) hx hb dX5_about_21 (by decide) (fun _ => ?_) (fun c9 => absurd c9 (by decide))
      refine lv_aload_n hx hb dX5_about_26 rfl (lv_at hl 0 rfl) ?_
      refine va_get (D := D) (ci := 5) (v := .ref (a 6)) (C := RX5) (T := TX5) (N := 21) hx hb hts inX5 hown hK hP 0 rfl rfl 6 (by decide) fl25 (fun _ h9 => h9) rfl dX5_about_27 ?_
      refine lv_iload_n hx hb dX5_about_30 rfl (lv_at hl 1 rfl) ?_
      refine xz_ald hx hb hK hP 6 1 rfl rfl (k := s0) (by omega) (by decide) dX5_about_31 ?_
      refine lv_if_ne (tgt := 40) hx hb dX5_about_32 (by decide) (fun c_32 => ?_) (fun c_32 => ?_)
      · refine lv_iload_n hx hb dX5_about_40 rfl (lv_at hl 2 rfl) ?_
        refine lv_if_ne (tgt := 53) hx hb dX5_about_41 (by decide) (fun c_41 => ?_) (fun c_41 => ?_)
        · refine lv_aload_n hx hb dX5_about_53 rfl (lv_at hl 0 rfl) ?_
          refine va_get (D := D) (ci := 5) (v := .ref (a 8)) (C := RX5) (T := TX5) (N := 21) hx hb hts inX5 hown hK hP 0 rfl rfl 8 (by decide) fl32 (fun _ h9 => h9) rfl dX5_about_54 ?_
          refine lv_iload_n hx hb dX5_about_57 rfl (lv_at hl 1 rfl) ?_
          refine xi_ald hx hb hK hP 8 0 rfl rfl (k := s0) (by omega) (by decide) dX5_about_58 ?_
          exact Ri (D := D) () hx hb hr rfl hlocks hP hD hS (by rw [F_about_in hs9 (inN_c (m := 1) (by decide) rfl hi18.1 hi18.2), zk_1 hR.2.1 hs9 c_32, if_pos rfl, if_neg c_41]; exact hR.2.2.2.1 s0 hs9) dX5_about_59
        · refine lv_aload_n hx hb dX5_about_44 rfl (lv_at hl 0 rfl) ?_
          refine va_get (D := D) (ci := 5) (v := .ref (a 7)) (C := RX5) (T := TX5) (N := 21) hx hb hts inX5 hown hK hP 0 rfl rfl 7 (by decide) fl29 (fun _ h9 => h9) rfl dX5_about_45 ?_
          refine lv_iload_n hx hb dX5_about_48 rfl (lv_at hl 1 rfl) ?_
          refine xi_ald hx hb hK hP 7 0 rfl rfl (k := s0) (by omega) (by decide) dX5_about_49 ?_
          refine lv_goto (tgt := 59) hx hb dX5_about_50 (by decide) ?_
          exact Ri (D := D) () hx hb hr rfl hlocks hP hD hS (by rw [F_about_in hs9 (inN_c (m := 1) (by decide) rfl hi18.1 hi18.2), zk_1 hR.2.1 hs9 c_32, if_pos rfl, if_pos c_41]; exact (hR.2.2.1 s0 hs9).1) dX5_about_59
      · refine lv_bipush (v := (-3)) hx hb dX5_about_35 (by decide) ?_
        refine lv_goto (tgt := 59) hx hb dX5_about_37 (by decide) ?_
        exact Ri (D := D) () hx hb hr rfl hlocks hP hD hS (by rw [F_about_in hs9 (inN_c (m := 1) (by decide) rfl hi18.1 hi18.2), zk_0 hR.2.1 hs9 c_32]; rfl) dX5_about_59
    · refine lv_if_ne (tgt := 26) hx hb dX5_about_21 (by decide) (fun c9 => absurd rfl c9) (fun _ => ?_)
      refine lv_iconst (v := (-1)) hx hb dX5_about_24 (by decide) ?_
      exact Ri (D := D) () hx hb hr rfl hlocks hP hD hS (F_about_no (fun q => hi18 (inN_d (m := 1) (by decide) rfl q.2))).symm dX5_about_25
  · refine lv_if_eq (tgt := 24) hx hb dX5_about_12 (by decide) (fun _ => ?_) (fun c9 => absurd (by decide) c9)
    refine lv_iconst (v := (-1)) hx hb dX5_about_24 (by decide) ?_
    exact Ri (D := D) () hx hb hr rfl hlocks hP hD hS (F_about_no (fun q => hi9 (inN_d (m := 7) (by decide) rfl q.1))).symm dX5_about_25

set_option maxHeartbeats 4000000 in
set_option maxRecDepth 100000 in
theorem c_X5_first (l : Launch) (D : va_G) (cI cZ : ClassId) (a : Nat → Nat) (v : Nat → Nat → Int32) (t r lv b o : Int32) (G : GP) (go : Nat → Nat) (lf : Nat → Int32) (rs : Int32) (td ct : Nat → Int32) (hR : Rp G go lf rs td ct (cnt []) v r) (y : Int32) : Ci l D [(cI, .int), (cZ, .boolean)] yX5_first wsX5_first ({ frames := 0, cells := 0, slots := 0, locals := 0 }) [.ref (a 0), .int y] (wM a cI cZ v t r lv b o) (S := Unit) (fun w _ => w = fwd G.2.2 go y 8) (fun _ => wM a cI cZ v 0 r lv b o) := by
  refine Ci.mk (cc := cX5_first) (maxL := 3) (ret := (some .int)) (by decide +kernel) rfl (Nat.le_of_ble_eq_true rfl) ?_
  intro pg e s m below meth c A ls hx hb hml hr hown hts hlocks hK hns hA hP hD hS hl
  have hl : lv_has ls 3 [(0, .ref (a 0)), (1, .int y)] := hl
  have fl59 := hts (.fieldLink RX5 59 "HeldShelvesModel" "thrown" "I") (List.mem_of_getElem? (i := 1) rfl)
  have inX5 : ∀ w ∈ wsX50, w ∈ wsX5_first := fun _ h => List.mem_cons_of_mem _ (List.mem_append_right _ h)
  have fl25 := hts (.fieldLink RX5 25 "HeldShelvesModel" "isThere" "[Z") (List.mem_of_getElem? (i := 2) rfl)
  have fl29 := hts (.fieldLink RX5 29 "HeldShelvesModel" "goods" "[I") (List.mem_of_getElem? (i := 3) rfl)
  have hP : va_P D vwCl [(a 0, .inr (5, [.int t, .ref (a 1), .ref (a 2), .ref (a 3), .ref (a 4), .ref (a 5), .ref (a 6), .ref (a 7), .ref (a 8), .ref (a 9), .int r, .ref (a 11), .ref (a 12), .ref (a 13), .ref (a 14), .int lv, .ref (a 16), .ref (a 17), .ref (a 18), .int b, .int o])), (a 1, .inl (cI, 6, .inl (v 1))), (a 2, .inl (cI, 240, .inl (v 2))), (a 3, .inl (cI, 240, .inl (v 3))), (a 4, .inl (cI, 240, .inl (v 4))), (a 5, .inl (cI, 240, .inl (v 5))), (a 6, .inl (cZ, 8, .inl (v 6))), (a 7, .inl (cI, 8, .inl (v 7))), (a 8, .inl (cI, 8, .inl (v 8))), (a 9, .inl (cI, 8, .inl (v 9))), (a 11, .inl (cI, 8, .inl (v 11))), (a 12, .inl (cI, 10, .inl (v 12))), (a 13, .inl (cI, 5, .inl (v 13))), (a 14, .inl (cI, 5, .inl (v 14))), (a 16, .inl (cI, 128, .inl (v 16))), (a 17, .inl (cI, 128, .inl (v 17))), (a 18, .inl (cI, 128, .inl (v 18)))] s.heap := hP
  have hD : va_D A [(a 0, .inr (5, [.int t, .ref (a 1), .ref (a 2), .ref (a 3), .ref (a 4), .ref (a 5), .ref (a 6), .ref (a 7), .ref (a 8), .ref (a 9), .int r, .ref (a 11), .ref (a 12), .ref (a 13), .ref (a 14), .int lv, .ref (a 16), .ref (a 17), .ref (a 18), .int b, .int o])), (a 1, .inl (cI, 6, .inl (v 1))), (a 2, .inl (cI, 240, .inl (v 2))), (a 3, .inl (cI, 240, .inl (v 3))), (a 4, .inl (cI, 240, .inl (v 4))), (a 5, .inl (cI, 240, .inl (v 5))), (a 6, .inl (cZ, 8, .inl (v 6))), (a 7, .inl (cI, 8, .inl (v 7))), (a 8, .inl (cI, 8, .inl (v 8))), (a 9, .inl (cI, 8, .inl (v 9))), (a 11, .inl (cI, 8, .inl (v 11))), (a 12, .inl (cI, 10, .inl (v 12))), (a 13, .inl (cI, 5, .inl (v 13))), (a 14, .inl (cI, 5, .inl (v 14))), (a 16, .inl (cI, 128, .inl (v 16))), (a 17, .inl (cI, 128, .inl (v 17))), (a 18, .inl (cI, 128, .inl (v 18)))] := hD
  refine lv_aload_n hx hb dX5_first_0 rfl (lv_at hl 0 rfl) ?_
  refine lv_iconst (v := 0) hx hb dX5_first_1 (by decide) ?_
  refine va_put (D := D) (ci := 5) (v := .int 0) (ty := .int) (C := RX5) (T := TX5) (N := 21) hx hb hts inX5 tyX5 tyX5_ok nmX5 hown hK hP hD hS 0 rfl rfl 0 (by decide) fl59 (fun _ h9 => h9) rfl (by decide +kernel) rfl rfl (Nat.le_of_ble_eq_true rfl) dX5_first_2 (fun H locs hP hD hS => ?_)
  have hP : va_P D vwCl [(a 0, .inr (5, [.int 0, .ref (a 1), .ref (a 2), .ref (a 3), .ref (a 4), .ref (a 5), .ref (a 6), .ref (a 7), .ref (a 8), .ref (a 9), .int r, .ref (a 11), .ref (a 12), .ref (a 13), .ref (a 14), .int lv, .ref (a 16), .ref (a 17), .ref (a 18), .int b, .int o])), (a 1, .inl (cI, 6, .inl (v 1))), (a 2, .inl (cI, 240, .inl (v 2))), (a 3, .inl (cI, 240, .inl (v 3))), (a 4, .inl (cI, 240, .inl (v 4))), (a 5, .inl (cI, 240, .inl (v 5))), (a 6, .inl (cZ, 8, .inl (v 6))), (a 7, .inl (cI, 8, .inl (v 7))), (a 8, .inl (cI, 8, .inl (v 8))), (a 9, .inl (cI, 8, .inl (v 9))), (a 11, .inl (cI, 8, .inl (v 11))), (a 12, .inl (cI, 10, .inl (v 12))), (a 13, .inl (cI, 5, .inl (v 13))), (a 14, .inl (cI, 5, .inl (v 14))), (a 16, .inl (cI, 128, .inl (v 16))), (a 17, .inl (cI, 128, .inl (v 17))), (a 18, .inl (cI, 128, .inl (v 18)))] H := hP
  have hD : va_D A [(a 0, .inr (5, [.int 0, .ref (a 1), .ref (a 2), .ref (a 3), .ref (a 4), .ref (a 5), .ref (a 6), .ref (a 7), .ref (a 8), .ref (a 9), .int r, .ref (a 11), .ref (a 12), .ref (a 13), .ref (a 14), .int lv, .ref (a 16), .ref (a 17), .ref (a 18), .int b, .int o])), (a 1, .inl (cI, 6, .inl (v 1))), (a 2, .inl (cI, 240, .inl (v 2))), (a 3, .inl (cI, 240, .inl (v 3))), (a 4, .inl (cI, 240, .inl (v 4))), (a 5, .inl (cI, 240, .inl (v 5))), (a 6, .inl (cZ, 8, .inl (v 6))), (a 7, .inl (cI, 8, .inl (v 7))), (a 8, .inl (cI, 8, .inl (v 8))), (a 9, .inl (cI, 8, .inl (v 9))), (a 11, .inl (cI, 8, .inl (v 11))), (a 12, .inl (cI, 10, .inl (v 12))), (a 13, .inl (cI, 5, .inl (v 13))), (a 14, .inl (cI, 5, .inl (v 14))), (a 16, .inl (cI, 128, .inl (v 16))), (a 17, .inl (cI, 128, .inl (v 17))), (a 18, .inl (cI, 128, .inl (v 18)))] := hD
  refine lv_iconst (v := 0) hx hb dX5_first_5 (by decide) ?_
  refine lv_istore_n (lv' := [(2, .int 0), (0, .ref (a 0)), (1, .int y)]) hx hb dX5_first_6 rfl hl (by decide) rfl (fun ls hl => ?_)
  have loop7 : ∀ (k : Nat) (i : Nat), 9 ≤ i + k → i ≤ 8 → fwd G.2.2 go y 8 = fwd G.2.2 go y (8 - i) → ∀ (H : Heap) (locs : List Loc), va_P D vwCl [(a 0, .inr (5, [.int 0, .ref (a 1), .ref (a 2), .ref (a 3), .ref (a 4), .ref (a 5), .ref (a 6), .ref (a 7), .ref (a 8), .ref (a 9), .int r, .ref (a 11), .ref (a 12), .ref (a 13), .ref (a 14), .int lv, .ref (a 16), .ref (a 17), .ref (a 18), .int b, .int o])), (a 1, .inl (cI, 6, .inl (v 1))), (a 2, .inl (cI, 240, .inl (v 2))), (a 3, .inl (cI, 240, .inl (v 3))), (a 4, .inl (cI, 240, .inl (v 4))), (a 5, .inl (cI, 240, .inl (v 5))), (a 6, .inl (cZ, 8, .inl (v 6))), (a 7, .inl (cI, 8, .inl (v 7))), (a 8, .inl (cI, 8, .inl (v 8))), (a 9, .inl (cI, 8, .inl (v 9))), (a 11, .inl (cI, 8, .inl (v 11))), (a 12, .inl (cI, 10, .inl (v 12))), (a 13, .inl (cI, 5, .inl (v 13))), (a 14, .inl (cI, 5, .inl (v 14))), (a 16, .inl (cI, 128, .inl (v 16))), (a 17, .inl (cI, 128, .inl (v 17))), (a 18, .inl (cI, 128, .inl (v 18)))] H → va_D A [(a 0, .inr (5, [.int 0, .ref (a 1), .ref (a 2), .ref (a 3), .ref (a 4), .ref (a 5), .ref (a 6), .ref (a 7), .ref (a 8), .ref (a 9), .int r, .ref (a 11), .ref (a 12), .ref (a 13), .ref (a 14), .int lv, .ref (a 16), .ref (a 17), .ref (a 18), .int b, .int o])), (a 1, .inl (cI, 6, .inl (v 1))), (a 2, .inl (cI, 240, .inl (v 2))), (a 3, .inl (cI, 240, .inl (v 3))), (a 4, .inl (cI, 240, .inl (v 4))), (a 5, .inl (cI, 240, .inl (v 5))), (a 6, .inl (cZ, 8, .inl (v 6))), (a 7, .inl (cI, 8, .inl (v 7))), (a 8, .inl (cI, 8, .inl (v 8))), (a 9, .inl (cI, 8, .inl (v 9))), (a 11, .inl (cI, 8, .inl (v 11))), (a 12, .inl (cI, 10, .inl (v 12))), (a 13, .inl (cI, 5, .inl (v 13))), (a 14, .inl (cI, 5, .inl (v 14))), (a 16, .inl (cI, 128, .inl (v 16))), (a 17, .inl (cI, 128, .inl (v 17))), (a 18, .inl (cI, 128, .inl (v 18)))] → va_S A s.heap H locs → ∀ (ls : Array Slot), lv_has ls 3 [(0, .ref (a 0)), (1, .int y), (2, .int (nI i))] → W pg l e ({ frames := 0, cells := 0, slots := 0, locals := 0 } : Room) s m ([.ref (a 0), .int y] : List Value).toArray below meth c H locs 0 0 (Qi D below ([.ref (a 0), .int y] : List Value).toArray s A (S := Unit) (fun w _ => w = fwd G.2.2 go y 8) (fun _ => wM a cI cZ v 0 r lv b o)) (F0 m 7 ls []) := by
    intro k
    induction k with
    | zero => intro i hk hi hv; exact absurd hk (by omega)
    | succ k ih =>
      intro i hk hi hv H locs hP hD hS ls hl
      refine lv_iload_n hx hb dX5_first_7 rfl (lv_at hl 2 rfl) ?_
      refine lv_bipush (v := 8) hx hb dX5_first_8 (by decide) ?_
      refine lv_icmp_ge (tgt := 40) hx hb dX5_first_10 (by decide) (fun c_10 => ?_) (fun c_10 => ?_)
      · have c_10 : 8 ≤ i := (nI_leI (a := 8) (b := i) (by omega) (by omega)).mp c_10
        refine lv_bipush (v := (-4)) hx hb dX5_first_40 (by decide) ?_
        exact Ri (D := D) () hx hb hr rfl hlocks hP hD hS (by rw [hv, show 8 - i = 0 by omega]; rfl) dX5_first_42
      · have c_10 : ¬ (8 ≤ i) := fun h => c_10 ((nI_leI (a := 8) (b := i) (by omega) (by omega)).mpr h)
        refine lv_aload_n hx hb dX5_first_13 rfl (lv_at hl 0 rfl) ?_
        refine va_get (D := D) (ci := 5) (v := .ref (a 6)) (C := RX5) (T := TX5) (N := 21) hx hb hts inX5 hown hK hP 0 rfl rfl 6 (by decide) fl25 (fun _ h9 => h9) rfl dX5_first_14 ?_
        refine lv_iload_n hx hb dX5_first_17 rfl (lv_at hl 2 rfl) ?_
        refine xz_ald hx hb hK hP 6 1 rfl rfl (k := i) (by omega) (by decide) dX5_first_18 ?_
        refine lv_if_eq (tgt := 34) hx hb dX5_first_19 (by decide) (fun c_19 => ?_) (fun c_19 => ?_)
        · refine lv_iinc (v := (nI (i + 1))) (lv' := [(2, .int (nI (i + 1))), (0, .ref (a 0)), (1, .int y)]) hx hb dX5_first_34 hl (k := 2) rfl (nI_1 i) (by decide) rfl (fun ls hl => ?_)
          refine lv_goto (tgt := 7) hx hb dX5_first_37 (by decide) ?_
          exact ih (i + 1) (by omega) (by omega) (hv.trans (fwd_no (by omega) (fun q => by rw [zk_0 hR.2.1 (by omega) c_19] at q; exact absurd q.1 (by decide)))) _ _ hP hD hS ls (lv_sub hl [1, 2, 0] rfl)
        · refine lv_aload_n hx hb dX5_first_22 rfl (lv_at hl 0 rfl) ?_
          refine va_get (D := D) (ci := 5) (v := .ref (a 7)) (C := RX5) (T := TX5) (N := 21) hx hb hts inX5 hown hK hP 0 rfl rfl 7 (by decide) fl29 (fun _ h9 => h9) rfl dX5_first_23 ?_
          refine lv_iload_n hx hb dX5_first_26 rfl (lv_at hl 2 rfl) ?_
          refine xi_ald hx hb hK hP 7 0 rfl rfl (k := i) (by omega) (by decide) dX5_first_27 ?_
          refine tp (y := nI (go i)) ((hR.2.2.1 i (by omega)).1) ?_
          refine lv_iload_n hx hb dX5_first_28 rfl (lv_at hl 1 rfl) ?_
          refine lv_icmp_lt (tgt := 34) hx hb dX5_first_29 (by decide) (fun c_29 => ?_) (fun c_29 => ?_)
          · refine lv_iinc (v := (nI (i + 1))) (lv' := [(2, .int (nI (i + 1))), (0, .ref (a 0)), (1, .int y)]) hx hb dX5_first_34 hl (k := 2) rfl (nI_1 i) (by decide) rfl (fun ls hl => ?_)
            refine lv_goto (tgt := 7) hx hb dX5_first_37 (by decide) ?_
            exact ih (i + 1) (by omega) (by omega) (hv.trans (fwd_no (by omega) (fun q => absurd c_29 (Int32.not_lt.mpr q.2)))) _ _ hP hD hS ls (lv_sub hl [1, 2, 0] rfl)
          · refine lv_iload_n hx hb dX5_first_32 rfl (lv_at hl 2 rfl) ?_
            exact Ri (D := D) () hx hb hr rfl hlocks hP hD hS (by rw [hv]; exact (fwd_yes (by omega) (zk_1 hR.2.1 (by omega) c_19) (Int32.not_lt.mp c_29)).symm) dX5_first_33
  exact loop7 9 0 (by omega) (by omega) rfl _ _ hP hD hS ls (lv_sub hl [1, 2, 0] rfl)

set_option maxHeartbeats 4000000 in
set_option maxRecDepth 100000 in
theorem c_X5_row (l : Launch) (D : va_G) (cI cZ : ClassId) (a : Nat → Nat) (v : Nat → Nat → Int32) (t r lv b o : Int32) (G : GP) (go : Nat → Nat) (lf : Nat → Int32) (rs : Int32) (td ct : Nat → Int32) (hR : Rp G go lf rs td ct (cnt []) v r) (y : Int32) : Ci l D [(cI, .int), (cZ, .boolean)] yX5_row wsX5_row ({ frames := 0, cells := 0, slots := 0, locals := 0 }) [.ref (a 0), .int y] (wM a cI cZ v t r lv b o) (S := Unit) (fun w _ => w = rwd G.2.2 go y 8) (fun _ => wM a cI cZ v 0 r lv b o) := by
  refine Ci.mk (cc := cX5_row) (maxL := 3) (ret := (some .int)) (by decide +kernel) rfl (Nat.le_of_ble_eq_true rfl) ?_
  intro pg e s m below meth c A ls hx hb hml hr hown hts hlocks hK hns hA hP hD hS hl
  have hl : lv_has ls 3 [(0, .ref (a 0)), (1, .int y)] := hl
  have fl59 := hts (.fieldLink RX5 59 "HeldShelvesModel" "thrown" "I") (List.mem_of_getElem? (i := 1) rfl)
  have inX5 : ∀ w ∈ wsX50, w ∈ wsX5_row := fun _ h => List.mem_cons_of_mem _ (List.mem_append_right _ h)
  have fl25 := hts (.fieldLink RX5 25 "HeldShelvesModel" "isThere" "[Z") (List.mem_of_getElem? (i := 2) rfl)
  have fl29 := hts (.fieldLink RX5 29 "HeldShelvesModel" "goods" "[I") (List.mem_of_getElem? (i := 3) rfl)
  have hP : va_P D vwCl [(a 0, .inr (5, [.int t, .ref (a 1), .ref (a 2), .ref (a 3), .ref (a 4), .ref (a 5), .ref (a 6), .ref (a 7), .ref (a 8), .ref (a 9), .int r, .ref (a 11), .ref (a 12), .ref (a 13), .ref (a 14), .int lv, .ref (a 16), .ref (a 17), .ref (a 18), .int b, .int o])), (a 1, .inl (cI, 6, .inl (v 1))), (a 2, .inl (cI, 240, .inl (v 2))), (a 3, .inl (cI, 240, .inl (v 3))), (a 4, .inl (cI, 240, .inl (v 4))), (a 5, .inl (cI, 240, .inl (v 5))), (a 6, .inl (cZ, 8, .inl (v 6))), (a 7, .inl (cI, 8, .inl (v 7))), (a 8, .inl (cI, 8, .inl (v 8))), (a 9, .inl (cI, 8, .inl (v 9))), (a 11, .inl (cI, 8, .inl (v 11))), (a 12, .inl (cI, 10, .inl (v 12))), (a 13, .inl (cI, 5, .inl (v 13))), (a 14, .inl (cI, 5, .inl (v 14))), (a 16, .inl (cI, 128, .inl (v 16))), (a 17, .inl (cI, 128, .inl (v 17))), (a 18, .inl (cI, 128, .inl (v 18)))] s.heap := hP
  have hD : va_D A [(a 0, .inr (5, [.int t, .ref (a 1), .ref (a 2), .ref (a 3), .ref (a 4), .ref (a 5), .ref (a 6), .ref (a 7), .ref (a 8), .ref (a 9), .int r, .ref (a 11), .ref (a 12), .ref (a 13), .ref (a 14), .int lv, .ref (a 16), .ref (a 17), .ref (a 18), .int b, .int o])), (a 1, .inl (cI, 6, .inl (v 1))), (a 2, .inl (cI, 240, .inl (v 2))), (a 3, .inl (cI, 240, .inl (v 3))), (a 4, .inl (cI, 240, .inl (v 4))), (a 5, .inl (cI, 240, .inl (v 5))), (a 6, .inl (cZ, 8, .inl (v 6))), (a 7, .inl (cI, 8, .inl (v 7))), (a 8, .inl (cI, 8, .inl (v 8))), (a 9, .inl (cI, 8, .inl (v 9))), (a 11, .inl (cI, 8, .inl (v 11))), (a 12, .inl (cI, 10, .inl (v 12))), (a 13, .inl (cI, 5, .inl (v 13))), (a 14, .inl (cI, 5, .inl (v 14))), (a 16, .inl (cI, 128, .inl (v 16))), (a 17, .inl (cI, 128, .inl (v 17))), (a 18, .inl (cI, 128, .inl (v 18)))] := hD
  refine lv_aload_n hx hb dX5_row_0 rfl (lv_at hl 0 rfl) ?_
  refine lv_iconst (v := 0) hx hb dX5_row_1 (by decide) ?_
  refine va_put (D := D) (ci := 5) (v := .int 0) (ty := .int) (C := RX5) (T := TX5) (N := 21) hx hb hts inX5 tyX5 tyX5_ok nmX5 hown hK hP hD hS 0 rfl rfl 0 (by decide) fl59 (fun _ h9 => h9) rfl (by decide +kernel) rfl rfl (Nat.le_of_ble_eq_true rfl) dX5_row_2 (fun H locs hP hD hS => ?_)
  have hP : va_P D vwCl [(a 0, .inr (5, [.int 0, .ref (a 1), .ref (a 2), .ref (a 3), .ref (a 4), .ref (a 5), .ref (a 6), .ref (a 7), .ref (a 8), .ref (a 9), .int r, .ref (a 11), .ref (a 12), .ref (a 13), .ref (a 14), .int lv, .ref (a 16), .ref (a 17), .ref (a 18), .int b, .int o])), (a 1, .inl (cI, 6, .inl (v 1))), (a 2, .inl (cI, 240, .inl (v 2))), (a 3, .inl (cI, 240, .inl (v 3))), (a 4, .inl (cI, 240, .inl (v 4))), (a 5, .inl (cI, 240, .inl (v 5))), (a 6, .inl (cZ, 8, .inl (v 6))), (a 7, .inl (cI, 8, .inl (v 7))), (a 8, .inl (cI, 8, .inl (v 8))), (a 9, .inl (cI, 8, .inl (v 9))), (a 11, .inl (cI, 8, .inl (v 11))), (a 12, .inl (cI, 10, .inl (v 12))), (a 13, .inl (cI, 5, .inl (v 13))), (a 14, .inl (cI, 5, .inl (v 14))), (a 16, .inl (cI, 128, .inl (v 16))), (a 17, .inl (cI, 128, .inl (v 17))), (a 18, .inl (cI, 128, .inl (v 18)))] H := hP
  have hD : va_D A [(a 0, .inr (5, [.int 0, .ref (a 1), .ref (a 2), .ref (a 3), .ref (a 4), .ref (a 5), .ref (a 6), .ref (a 7), .ref (a 8), .ref (a 9), .int r, .ref (a 11), .ref (a 12), .ref (a 13), .ref (a 14), .int lv, .ref (a 16), .ref (a 17), .ref (a 18), .int b, .int o])), (a 1, .inl (cI, 6, .inl (v 1))), (a 2, .inl (cI, 240, .inl (v 2))), (a 3, .inl (cI, 240, .inl (v 3))), (a 4, .inl (cI, 240, .inl (v 4))), (a 5, .inl (cI, 240, .inl (v 5))), (a 6, .inl (cZ, 8, .inl (v 6))), (a 7, .inl (cI, 8, .inl (v 7))), (a 8, .inl (cI, 8, .inl (v 8))), (a 9, .inl (cI, 8, .inl (v 9))), (a 11, .inl (cI, 8, .inl (v 11))), (a 12, .inl (cI, 10, .inl (v 12))), (a 13, .inl (cI, 5, .inl (v 13))), (a 14, .inl (cI, 5, .inl (v 14))), (a 16, .inl (cI, 128, .inl (v 16))), (a 17, .inl (cI, 128, .inl (v 17))), (a 18, .inl (cI, 128, .inl (v 18)))] := hD
  refine lv_iconst (v := 0) hx hb dX5_row_5 (by decide) ?_
  refine lv_istore_n (lv' := [(2, .int 0), (0, .ref (a 0)), (1, .int y)]) hx hb dX5_row_6 rfl hl (by decide) rfl (fun ls hl => ?_)
  have loop7 : ∀ (k : Nat) (i : Nat), 9 ≤ i + k → i ≤ 8 → rwd G.2.2 go y 8 = rwd G.2.2 go y (8 - i) → ∀ (H : Heap) (locs : List Loc), va_P D vwCl [(a 0, .inr (5, [.int 0, .ref (a 1), .ref (a 2), .ref (a 3), .ref (a 4), .ref (a 5), .ref (a 6), .ref (a 7), .ref (a 8), .ref (a 9), .int r, .ref (a 11), .ref (a 12), .ref (a 13), .ref (a 14), .int lv, .ref (a 16), .ref (a 17), .ref (a 18), .int b, .int o])), (a 1, .inl (cI, 6, .inl (v 1))), (a 2, .inl (cI, 240, .inl (v 2))), (a 3, .inl (cI, 240, .inl (v 3))), (a 4, .inl (cI, 240, .inl (v 4))), (a 5, .inl (cI, 240, .inl (v 5))), (a 6, .inl (cZ, 8, .inl (v 6))), (a 7, .inl (cI, 8, .inl (v 7))), (a 8, .inl (cI, 8, .inl (v 8))), (a 9, .inl (cI, 8, .inl (v 9))), (a 11, .inl (cI, 8, .inl (v 11))), (a 12, .inl (cI, 10, .inl (v 12))), (a 13, .inl (cI, 5, .inl (v 13))), (a 14, .inl (cI, 5, .inl (v 14))), (a 16, .inl (cI, 128, .inl (v 16))), (a 17, .inl (cI, 128, .inl (v 17))), (a 18, .inl (cI, 128, .inl (v 18)))] H → va_D A [(a 0, .inr (5, [.int 0, .ref (a 1), .ref (a 2), .ref (a 3), .ref (a 4), .ref (a 5), .ref (a 6), .ref (a 7), .ref (a 8), .ref (a 9), .int r, .ref (a 11), .ref (a 12), .ref (a 13), .ref (a 14), .int lv, .ref (a 16), .ref (a 17), .ref (a 18), .int b, .int o])), (a 1, .inl (cI, 6, .inl (v 1))), (a 2, .inl (cI, 240, .inl (v 2))), (a 3, .inl (cI, 240, .inl (v 3))), (a 4, .inl (cI, 240, .inl (v 4))), (a 5, .inl (cI, 240, .inl (v 5))), (a 6, .inl (cZ, 8, .inl (v 6))), (a 7, .inl (cI, 8, .inl (v 7))), (a 8, .inl (cI, 8, .inl (v 8))), (a 9, .inl (cI, 8, .inl (v 9))), (a 11, .inl (cI, 8, .inl (v 11))), (a 12, .inl (cI, 10, .inl (v 12))), (a 13, .inl (cI, 5, .inl (v 13))), (a 14, .inl (cI, 5, .inl (v 14))), (a 16, .inl (cI, 128, .inl (v 16))), (a 17, .inl (cI, 128, .inl (v 17))), (a 18, .inl (cI, 128, .inl (v 18)))] → va_S A s.heap H locs → ∀ (ls : Array Slot), lv_has ls 3 [(0, .ref (a 0)), (1, .int y), (2, .int (nI i))] → W pg l e ({ frames := 0, cells := 0, slots := 0, locals := 0 } : Room) s m ([.ref (a 0), .int y] : List Value).toArray below meth c H locs 0 0 (Qi D below ([.ref (a 0), .int y] : List Value).toArray s A (S := Unit) (fun w _ => w = rwd G.2.2 go y 8) (fun _ => wM a cI cZ v 0 r lv b o)) (F0 m 7 ls []) := by
    intro k
    induction k with
    | zero => intro i hk hi hv; exact absurd hk (by omega)
    | succ k ih =>
      intro i hk hi hv H locs hP hD hS ls hl
      refine lv_iload_n hx hb dX5_row_7 rfl (lv_at hl 2 rfl) ?_
      refine lv_bipush (v := 8) hx hb dX5_row_8 (by decide) ?_
      refine lv_icmp_ge (tgt := 38) hx hb dX5_row_10 (by decide) (fun c_10 => ?_) (fun c_10 => ?_)
      · have c_10 : 8 ≤ i := (nI_leI (a := 8) (b := i) (by omega) (by omega)).mp c_10
        refine lv_iload_n hx hb dX5_row_38 rfl (lv_at hl 2 rfl) ?_
        exact Ri (D := D) () hx hb hr rfl hlocks hP hD hS (by rw [hv, show i = 8 by omega]; rfl) dX5_row_39
      · have c_10 : ¬ (8 ≤ i) := fun h => c_10 ((nI_leI (a := 8) (b := i) (by omega) (by omega)).mpr h)
        refine lv_aload_n hx hb dX5_row_13 rfl (lv_at hl 0 rfl) ?_
        refine va_get (D := D) (ci := 5) (v := .ref (a 6)) (C := RX5) (T := TX5) (N := 21) hx hb hts inX5 hown hK hP 0 rfl rfl 6 (by decide) fl25 (fun _ h9 => h9) rfl dX5_row_14 ?_
        refine lv_iload_n hx hb dX5_row_17 rfl (lv_at hl 2 rfl) ?_
        refine xz_ald hx hb hK hP 6 1 rfl rfl (k := i) (by omega) (by decide) dX5_row_18 ?_
        refine lv_if_eq (tgt := 38) hx hb dX5_row_19 (by decide) (fun c_19 => ?_) (fun c_19 => ?_)
        · refine lv_iload_n hx hb dX5_row_38 rfl (lv_at hl 2 rfl) ?_
          exact Ri (D := D) () hx hb hr rfl hlocks hP hD hS (by rw [hv]; exact (rwd_no (by omega) (fun q => by rw [zk_0 hR.2.1 (by omega) c_19] at q; exact absurd q.1 (by decide))).symm) dX5_row_39
        · refine lv_aload_n hx hb dX5_row_22 rfl (lv_at hl 0 rfl) ?_
          refine va_get (D := D) (ci := 5) (v := .ref (a 7)) (C := RX5) (T := TX5) (N := 21) hx hb hts inX5 hown hK hP 0 rfl rfl 7 (by decide) fl29 (fun _ h9 => h9) rfl dX5_row_23 ?_
          refine lv_iload_n hx hb dX5_row_26 rfl (lv_at hl 2 rfl) ?_
          refine xi_ald hx hb hK hP 7 0 rfl rfl (k := i) (by omega) (by decide) dX5_row_27 ?_
          refine tp (y := nI (go i)) ((hR.2.2.1 i (by omega)).1) ?_
          refine lv_iload_n hx hb dX5_row_28 rfl (lv_at hl 1 rfl) ?_
          refine lv_icmp_gt (tgt := 38) hx hb dX5_row_29 (by decide) (fun c_29 => ?_) (fun c_29 => ?_)
          · refine lv_iload_n hx hb dX5_row_38 rfl (lv_at hl 2 rfl) ?_
            exact Ri (D := D) () hx hb hr rfl hlocks hP hD hS (by rw [hv]; exact (rwd_no (by omega) (fun q => absurd c_29 (Int32.not_lt.mpr q.2))).symm) dX5_row_39
          · refine lv_iinc (v := (nI (i + 1))) (lv' := [(2, .int (nI (i + 1))), (0, .ref (a 0)), (1, .int y)]) hx hb dX5_row_32 hl (k := 2) rfl (nI_1 i) (by decide) rfl (fun ls hl => ?_)
            refine lv_goto (tgt := 7) hx hb dX5_row_35 (by decide) ?_
            exact ih (i + 1) (by omega) (by omega) (hv.trans (rwd_yes (by omega) (zk_1 hR.2.1 (by omega) c_19) (Int32.not_lt.mp c_29))) _ _ hP hD hS ls (lv_sub hl [1, 2, 0] rfl)
  exact loop7 9 0 (by omega) (by omega) rfl _ _ hP hD hS ls (lv_sub hl [1, 2, 0] rfl)

set_option maxHeartbeats 4000000 in
set_option maxRecDepth 100000 in
theorem c_X5_goods (l : Launch) (D : va_G) (cI cZ : ClassId) (a : Nat → Nat) (v : Nat → Nat → Int32) (t r lv b o : Int32) (G : GP) (go : Nat → Nat) (lf : Nat → Int32) (rs : Int32) (td ct : Nat → Int32) (hR : Rp G go lf rs td ct (cnt []) v r) : Ci l D [(cI, .int), (cZ, .boolean)] yX5_goods wsX5_goods ({ frames := 0, cells := 0, slots := 0, locals := 0 }) [.ref (a 0)] (wM a cI cZ v t r lv b o) (S := Unit) (fun w _ => w = sm G.2.2 go 8) (fun _ => wM a cI cZ v 0 r lv b o) := by
  refine Ci.mk (cc := cX5_goods) (maxL := 3) (ret := (some .int)) (by decide +kernel) rfl (Nat.le_of_ble_eq_true rfl) ?_
  intro pg e s m below meth c A ls hx hb hml hr hown hts hlocks hK hns hA hP hD hS hl
  have hl : lv_has ls 3 [(0, .ref (a 0))] := hl
  have fl59 := hts (.fieldLink RX5 59 "HeldShelvesModel" "thrown" "I") (List.mem_of_getElem? (i := 1) rfl)
  have inX5 : ∀ w ∈ wsX50, w ∈ wsX5_goods := fun _ h => List.mem_cons_of_mem _ (List.mem_append_right _ h)
  have fl25 := hts (.fieldLink RX5 25 "HeldShelvesModel" "isThere" "[Z") (List.mem_of_getElem? (i := 2) rfl)
  have fl29 := hts (.fieldLink RX5 29 "HeldShelvesModel" "goods" "[I") (List.mem_of_getElem? (i := 3) rfl)
  have hP : va_P D vwCl [(a 0, .inr (5, [.int t, .ref (a 1), .ref (a 2), .ref (a 3), .ref (a 4), .ref (a 5), .ref (a 6), .ref (a 7), .ref (a 8), .ref (a 9), .int r, .ref (a 11), .ref (a 12), .ref (a 13), .ref (a 14), .int lv, .ref (a 16), .ref (a 17), .ref (a 18), .int b, .int o])), (a 1, .inl (cI, 6, .inl (v 1))), (a 2, .inl (cI, 240, .inl (v 2))), (a 3, .inl (cI, 240, .inl (v 3))), (a 4, .inl (cI, 240, .inl (v 4))), (a 5, .inl (cI, 240, .inl (v 5))), (a 6, .inl (cZ, 8, .inl (v 6))), (a 7, .inl (cI, 8, .inl (v 7))), (a 8, .inl (cI, 8, .inl (v 8))), (a 9, .inl (cI, 8, .inl (v 9))), (a 11, .inl (cI, 8, .inl (v 11))), (a 12, .inl (cI, 10, .inl (v 12))), (a 13, .inl (cI, 5, .inl (v 13))), (a 14, .inl (cI, 5, .inl (v 14))), (a 16, .inl (cI, 128, .inl (v 16))), (a 17, .inl (cI, 128, .inl (v 17))), (a 18, .inl (cI, 128, .inl (v 18)))] s.heap := hP
  have hD : va_D A [(a 0, .inr (5, [.int t, .ref (a 1), .ref (a 2), .ref (a 3), .ref (a 4), .ref (a 5), .ref (a 6), .ref (a 7), .ref (a 8), .ref (a 9), .int r, .ref (a 11), .ref (a 12), .ref (a 13), .ref (a 14), .int lv, .ref (a 16), .ref (a 17), .ref (a 18), .int b, .int o])), (a 1, .inl (cI, 6, .inl (v 1))), (a 2, .inl (cI, 240, .inl (v 2))), (a 3, .inl (cI, 240, .inl (v 3))), (a 4, .inl (cI, 240, .inl (v 4))), (a 5, .inl (cI, 240, .inl (v 5))), (a 6, .inl (cZ, 8, .inl (v 6))), (a 7, .inl (cI, 8, .inl (v 7))), (a 8, .inl (cI, 8, .inl (v 8))), (a 9, .inl (cI, 8, .inl (v 9))), (a 11, .inl (cI, 8, .inl (v 11))), (a 12, .inl (cI, 10, .inl (v 12))), (a 13, .inl (cI, 5, .inl (v 13))), (a 14, .inl (cI, 5, .inl (v 14))), (a 16, .inl (cI, 128, .inl (v 16))), (a 17, .inl (cI, 128, .inl (v 17))), (a 18, .inl (cI, 128, .inl (v 18)))] := hD
  refine lv_aload_n hx hb dX5_goods_0 rfl (lv_at hl 0 rfl) ?_
  refine lv_iconst (v := 0) hx hb dX5_goods_1 (by decide) ?_
  refine va_put (D := D) (ci := 5) (v := .int 0) (ty := .int) (C := RX5) (T := TX5) (N := 21) hx hb hts inX5 tyX5 tyX5_ok nmX5 hown hK hP hD hS 0 rfl rfl 0 (by decide) fl59 (fun _ h9 => h9) rfl (by decide +kernel) rfl rfl (Nat.le_of_ble_eq_true rfl) dX5_goods_2 (fun H locs hP hD hS => ?_)
  have hP : va_P D vwCl [(a 0, .inr (5, [.int 0, .ref (a 1), .ref (a 2), .ref (a 3), .ref (a 4), .ref (a 5), .ref (a 6), .ref (a 7), .ref (a 8), .ref (a 9), .int r, .ref (a 11), .ref (a 12), .ref (a 13), .ref (a 14), .int lv, .ref (a 16), .ref (a 17), .ref (a 18), .int b, .int o])), (a 1, .inl (cI, 6, .inl (v 1))), (a 2, .inl (cI, 240, .inl (v 2))), (a 3, .inl (cI, 240, .inl (v 3))), (a 4, .inl (cI, 240, .inl (v 4))), (a 5, .inl (cI, 240, .inl (v 5))), (a 6, .inl (cZ, 8, .inl (v 6))), (a 7, .inl (cI, 8, .inl (v 7))), (a 8, .inl (cI, 8, .inl (v 8))), (a 9, .inl (cI, 8, .inl (v 9))), (a 11, .inl (cI, 8, .inl (v 11))), (a 12, .inl (cI, 10, .inl (v 12))), (a 13, .inl (cI, 5, .inl (v 13))), (a 14, .inl (cI, 5, .inl (v 14))), (a 16, .inl (cI, 128, .inl (v 16))), (a 17, .inl (cI, 128, .inl (v 17))), (a 18, .inl (cI, 128, .inl (v 18)))] H := hP
  have hD : va_D A [(a 0, .inr (5, [.int 0, .ref (a 1), .ref (a 2), .ref (a 3), .ref (a 4), .ref (a 5), .ref (a 6), .ref (a 7), .ref (a 8), .ref (a 9), .int r, .ref (a 11), .ref (a 12), .ref (a 13), .ref (a 14), .int lv, .ref (a 16), .ref (a 17), .ref (a 18), .int b, .int o])), (a 1, .inl (cI, 6, .inl (v 1))), (a 2, .inl (cI, 240, .inl (v 2))), (a 3, .inl (cI, 240, .inl (v 3))), (a 4, .inl (cI, 240, .inl (v 4))), (a 5, .inl (cI, 240, .inl (v 5))), (a 6, .inl (cZ, 8, .inl (v 6))), (a 7, .inl (cI, 8, .inl (v 7))), (a 8, .inl (cI, 8, .inl (v 8))), (a 9, .inl (cI, 8, .inl (v 9))), (a 11, .inl (cI, 8, .inl (v 11))), (a 12, .inl (cI, 10, .inl (v 12))), (a 13, .inl (cI, 5, .inl (v 13))), (a 14, .inl (cI, 5, .inl (v 14))), (a 16, .inl (cI, 128, .inl (v 16))), (a 17, .inl (cI, 128, .inl (v 17))), (a 18, .inl (cI, 128, .inl (v 18)))] := hD
  refine lv_iconst (v := 0) hx hb dX5_goods_5 (by decide) ?_
  refine lv_istore_n (lv' := [(1, .int 0), (0, .ref (a 0))]) hx hb dX5_goods_6 rfl hl (by decide) rfl (fun ls hl => ?_)
  refine lv_iconst (v := 0) hx hb dX5_goods_7 (by decide) ?_
  refine lv_istore_n (lv' := [(2, .int 0), (1, .int 0), (0, .ref (a 0))]) hx hb dX5_goods_8 rfl hl (by decide) rfl (fun ls hl => ?_)
  have loop9 : ∀ (k : Nat) (i : Nat), 9 ≤ i + k → i ≤ 8 → ∀ (H : Heap) (locs : List Loc), va_P D vwCl [(a 0, .inr (5, [.int 0, .ref (a 1), .ref (a 2), .ref (a 3), .ref (a 4), .ref (a 5), .ref (a 6), .ref (a 7), .ref (a 8), .ref (a 9), .int r, .ref (a 11), .ref (a 12), .ref (a 13), .ref (a 14), .int lv, .ref (a 16), .ref (a 17), .ref (a 18), .int b, .int o])), (a 1, .inl (cI, 6, .inl (v 1))), (a 2, .inl (cI, 240, .inl (v 2))), (a 3, .inl (cI, 240, .inl (v 3))), (a 4, .inl (cI, 240, .inl (v 4))), (a 5, .inl (cI, 240, .inl (v 5))), (a 6, .inl (cZ, 8, .inl (v 6))), (a 7, .inl (cI, 8, .inl (v 7))), (a 8, .inl (cI, 8, .inl (v 8))), (a 9, .inl (cI, 8, .inl (v 9))), (a 11, .inl (cI, 8, .inl (v 11))), (a 12, .inl (cI, 10, .inl (v 12))), (a 13, .inl (cI, 5, .inl (v 13))), (a 14, .inl (cI, 5, .inl (v 14))), (a 16, .inl (cI, 128, .inl (v 16))), (a 17, .inl (cI, 128, .inl (v 17))), (a 18, .inl (cI, 128, .inl (v 18)))] H → va_D A [(a 0, .inr (5, [.int 0, .ref (a 1), .ref (a 2), .ref (a 3), .ref (a 4), .ref (a 5), .ref (a 6), .ref (a 7), .ref (a 8), .ref (a 9), .int r, .ref (a 11), .ref (a 12), .ref (a 13), .ref (a 14), .int lv, .ref (a 16), .ref (a 17), .ref (a 18), .int b, .int o])), (a 1, .inl (cI, 6, .inl (v 1))), (a 2, .inl (cI, 240, .inl (v 2))), (a 3, .inl (cI, 240, .inl (v 3))), (a 4, .inl (cI, 240, .inl (v 4))), (a 5, .inl (cI, 240, .inl (v 5))), (a 6, .inl (cZ, 8, .inl (v 6))), (a 7, .inl (cI, 8, .inl (v 7))), (a 8, .inl (cI, 8, .inl (v 8))), (a 9, .inl (cI, 8, .inl (v 9))), (a 11, .inl (cI, 8, .inl (v 11))), (a 12, .inl (cI, 10, .inl (v 12))), (a 13, .inl (cI, 5, .inl (v 13))), (a 14, .inl (cI, 5, .inl (v 14))), (a 16, .inl (cI, 128, .inl (v 16))), (a 17, .inl (cI, 128, .inl (v 17))), (a 18, .inl (cI, 128, .inl (v 18)))] → va_S A s.heap H locs → ∀ (ls : Array Slot), lv_has ls 3 [(0, .ref (a 0)), (1, .int (sm G.2.2 go i)), (2, .int (nI i))] → W pg l e ({ frames := 0, cells := 0, slots := 0, locals := 0 } : Room) s m ([.ref (a 0)] : List Value).toArray below meth c H locs 0 0 (Qi D below ([.ref (a 0)] : List Value).toArray s A (S := Unit) (fun w _ => w = sm G.2.2 go 8) (fun _ => wM a cI cZ v 0 r lv b o)) (F0 m 9 ls []) := by
    intro k
    induction k with
    | zero => intro i hk hi; exact absurd hk (by omega)
    | succ k ih =>
      intro i hk hi H locs hP hD hS ls hl
      refine lv_iload_n hx hb dX5_goods_9 rfl (lv_at hl 2 rfl) ?_
      refine lv_bipush (v := 8) hx hb dX5_goods_10 (by decide) ?_
      refine lv_icmp_ge (tgt := 43) hx hb dX5_goods_12 (by decide) (fun c_12 => ?_) (fun c_12 => ?_)
      · have c_12 : 8 ≤ i := (nI_leI (a := 8) (b := i) (by omega) (by omega)).mp c_12
        refine lv_iload_n hx hb dX5_goods_43 rfl (lv_at hl 1 rfl) ?_
        exact Ri (D := D) () hx hb hr rfl hlocks hP hD hS (by rw [show i = 8 by omega]) dX5_goods_44
      · have c_12 : ¬ (8 ≤ i) := fun h => c_12 ((nI_leI (a := 8) (b := i) (by omega) (by omega)).mpr h)
        refine lv_iload_n hx hb dX5_goods_15 rfl (lv_at hl 1 rfl) ?_
        refine lv_aload_n hx hb dX5_goods_16 rfl (lv_at hl 0 rfl) ?_
        refine va_get (D := D) (ci := 5) (v := .ref (a 6)) (C := RX5) (T := TX5) (N := 21) hx hb hts inX5 hown hK hP 0 rfl rfl 6 (by decide) fl25 (fun _ h9 => h9) rfl dX5_goods_17 ?_
        refine lv_iload_n hx hb dX5_goods_20 rfl (lv_at hl 2 rfl) ?_
        refine xz_ald hx hb hK hP 6 1 rfl rfl (k := i) (by omega) (by decide) dX5_goods_21 ?_
        refine lv_if_eq (tgt := 34) hx hb dX5_goods_22 (by decide) (fun c_22 => ?_) (fun c_22 => ?_)
        · refine lv_iconst (v := 0) hx hb dX5_goods_34 (by decide) ?_
          refine lv_iadd hx hb dX5_goods_35 ?_
          refine tp (y := sm G.2.2 go (i + 1)) (by rw [sm, zk_0 hR.2.1 (by omega) c_22, if_neg (by decide)]) ?_
          refine lv_istore_n (lv' := [(1, .int (sm G.2.2 go (i + 1))), (0, .ref (a 0)), (2, .int (nI i))]) hx hb dX5_goods_36 rfl hl (by decide) rfl (fun ls hl => ?_)
          refine lv_iinc (v := (nI (i + 1))) (lv' := [(2, .int (nI (i + 1))), (1, .int (sm G.2.2 go (i + 1))), (0, .ref (a 0))]) hx hb dX5_goods_37 hl (k := 2) rfl (nI_1 i) (by decide) rfl (fun ls hl => ?_)
          refine lv_goto (tgt := 9) hx hb dX5_goods_40 (by decide) ?_
          exact ih (i + 1) (by omega) (by omega) _ _ hP hD hS ls (lv_sub hl [2, 1, 0] rfl)
        · refine lv_aload_n hx hb dX5_goods_25 rfl (lv_at hl 0 rfl) ?_
          refine va_get (D := D) (ci := 5) (v := .ref (a 7)) (C := RX5) (T := TX5) (N := 21) hx hb hts inX5 hown hK hP 0 rfl rfl 7 (by decide) fl29 (fun _ h9 => h9) rfl dX5_goods_26 ?_
          refine lv_iload_n hx hb dX5_goods_29 rfl (lv_at hl 2 rfl) ?_
          refine xi_ald hx hb hK hP 7 0 rfl rfl (k := i) (by omega) (by decide) dX5_goods_30 ?_
          refine tp (y := nI (go i)) ((hR.2.2.1 i (by omega)).1) ?_
          refine lv_goto (tgt := 35) hx hb dX5_goods_31 (by decide) ?_
          refine lv_iadd hx hb dX5_goods_35 ?_
          refine tp (y := sm G.2.2 go (i + 1)) (by rw [sm, zk_1 hR.2.1 (by omega) c_22, if_pos rfl]) ?_
          refine lv_istore_n (lv' := [(1, .int (sm G.2.2 go (i + 1))), (0, .ref (a 0)), (2, .int (nI i))]) hx hb dX5_goods_36 rfl hl (by decide) rfl (fun ls hl => ?_)
          refine lv_iinc (v := (nI (i + 1))) (lv' := [(2, .int (nI (i + 1))), (1, .int (sm G.2.2 go (i + 1))), (0, .ref (a 0))]) hx hb dX5_goods_37 hl (k := 2) rfl (nI_1 i) (by decide) rfl (fun ls hl => ?_)
          refine lv_goto (tgt := 9) hx hb dX5_goods_40 (by decide) ?_
          exact ih (i + 1) (by omega) (by omega) _ _ hP hD hS ls (lv_sub hl [2, 1, 0] rfl)
  exact loop9 9 0 (by omega) (by omega) _ _ hP hD hS ls (lv_sub hl [2, 1, 0] rfl)

set_option maxHeartbeats 4000000 in
set_option maxRecDepth 100000 in
theorem c_X5_rest (l : Launch) (D : va_G) (cI cZ : ClassId) (a : Nat → Nat) (v : Nat → Nat → Int32) (t r lv b o : Int32) (G : GP) (go : Nat → Nat) (lf : Nat → Int32) (rs : Int32) (td ct : Nat → Int32) (hR : Rp G go lf rs td ct (cnt []) v r) : Ci l D [(cI, .int), (cZ, .boolean)] yX5_rest wsX5_rest ({ frames := 0, cells := 0, slots := 0, locals := 0 }) [.ref (a 0)] (wM a cI cZ v t r lv b o) (S := Unit) (fun w _ => w = r) (fun _ => wM a cI cZ v 0 0 lv b o) := by
  refine Ci.mk (cc := cX5_rest) (maxL := 2) (ret := (some .int)) (by decide +kernel) rfl (Nat.le_of_ble_eq_true rfl) ?_
  intro pg e s m below meth c A ls hx hb hml hr hown hts hlocks hK hns hA hP hD hS hl
  have hl : lv_has ls 2 [(0, .ref (a 0))] := hl
  have fl59 := hts (.fieldLink RX5 59 "HeldShelvesModel" "thrown" "I") (List.mem_of_getElem? (i := 1) rfl)
  have inX5 : ∀ w ∈ wsX50, w ∈ wsX5_rest := fun _ h => List.mem_cons_of_mem _ (List.mem_append_right _ h)
  have fl98 := hts (.fieldLink RX5 98 "HeldShelvesModel" "rest" "I") (List.mem_of_getElem? (i := 2) rfl)
  have hP : va_P D vwCl [(a 0, .inr (5, [.int t, .ref (a 1), .ref (a 2), .ref (a 3), .ref (a 4), .ref (a 5), .ref (a 6), .ref (a 7), .ref (a 8), .ref (a 9), .int r, .ref (a 11), .ref (a 12), .ref (a 13), .ref (a 14), .int lv, .ref (a 16), .ref (a 17), .ref (a 18), .int b, .int o])), (a 1, .inl (cI, 6, .inl (v 1))), (a 2, .inl (cI, 240, .inl (v 2))), (a 3, .inl (cI, 240, .inl (v 3))), (a 4, .inl (cI, 240, .inl (v 4))), (a 5, .inl (cI, 240, .inl (v 5))), (a 6, .inl (cZ, 8, .inl (v 6))), (a 7, .inl (cI, 8, .inl (v 7))), (a 8, .inl (cI, 8, .inl (v 8))), (a 9, .inl (cI, 8, .inl (v 9))), (a 11, .inl (cI, 8, .inl (v 11))), (a 12, .inl (cI, 10, .inl (v 12))), (a 13, .inl (cI, 5, .inl (v 13))), (a 14, .inl (cI, 5, .inl (v 14))), (a 16, .inl (cI, 128, .inl (v 16))), (a 17, .inl (cI, 128, .inl (v 17))), (a 18, .inl (cI, 128, .inl (v 18)))] s.heap := hP
  have hD : va_D A [(a 0, .inr (5, [.int t, .ref (a 1), .ref (a 2), .ref (a 3), .ref (a 4), .ref (a 5), .ref (a 6), .ref (a 7), .ref (a 8), .ref (a 9), .int r, .ref (a 11), .ref (a 12), .ref (a 13), .ref (a 14), .int lv, .ref (a 16), .ref (a 17), .ref (a 18), .int b, .int o])), (a 1, .inl (cI, 6, .inl (v 1))), (a 2, .inl (cI, 240, .inl (v 2))), (a 3, .inl (cI, 240, .inl (v 3))), (a 4, .inl (cI, 240, .inl (v 4))), (a 5, .inl (cI, 240, .inl (v 5))), (a 6, .inl (cZ, 8, .inl (v 6))), (a 7, .inl (cI, 8, .inl (v 7))), (a 8, .inl (cI, 8, .inl (v 8))), (a 9, .inl (cI, 8, .inl (v 9))), (a 11, .inl (cI, 8, .inl (v 11))), (a 12, .inl (cI, 10, .inl (v 12))), (a 13, .inl (cI, 5, .inl (v 13))), (a 14, .inl (cI, 5, .inl (v 14))), (a 16, .inl (cI, 128, .inl (v 16))), (a 17, .inl (cI, 128, .inl (v 17))), (a 18, .inl (cI, 128, .inl (v 18)))] := hD
  refine lv_aload_n hx hb dX5_rest_0 rfl (lv_at hl 0 rfl) ?_
  refine lv_iconst (v := 0) hx hb dX5_rest_1 (by decide) ?_
  refine va_put (D := D) (ci := 5) (v := .int 0) (ty := .int) (C := RX5) (T := TX5) (N := 21) hx hb hts inX5 tyX5 tyX5_ok nmX5 hown hK hP hD hS 0 rfl rfl 0 (by decide) fl59 (fun _ h9 => h9) rfl (by decide +kernel) rfl rfl (Nat.le_of_ble_eq_true rfl) dX5_rest_2 (fun H locs hP hD hS => ?_)
  have hP : va_P D vwCl [(a 0, .inr (5, [.int 0, .ref (a 1), .ref (a 2), .ref (a 3), .ref (a 4), .ref (a 5), .ref (a 6), .ref (a 7), .ref (a 8), .ref (a 9), .int r, .ref (a 11), .ref (a 12), .ref (a 13), .ref (a 14), .int lv, .ref (a 16), .ref (a 17), .ref (a 18), .int b, .int o])), (a 1, .inl (cI, 6, .inl (v 1))), (a 2, .inl (cI, 240, .inl (v 2))), (a 3, .inl (cI, 240, .inl (v 3))), (a 4, .inl (cI, 240, .inl (v 4))), (a 5, .inl (cI, 240, .inl (v 5))), (a 6, .inl (cZ, 8, .inl (v 6))), (a 7, .inl (cI, 8, .inl (v 7))), (a 8, .inl (cI, 8, .inl (v 8))), (a 9, .inl (cI, 8, .inl (v 9))), (a 11, .inl (cI, 8, .inl (v 11))), (a 12, .inl (cI, 10, .inl (v 12))), (a 13, .inl (cI, 5, .inl (v 13))), (a 14, .inl (cI, 5, .inl (v 14))), (a 16, .inl (cI, 128, .inl (v 16))), (a 17, .inl (cI, 128, .inl (v 17))), (a 18, .inl (cI, 128, .inl (v 18)))] H := hP
  have hD : va_D A [(a 0, .inr (5, [.int 0, .ref (a 1), .ref (a 2), .ref (a 3), .ref (a 4), .ref (a 5), .ref (a 6), .ref (a 7), .ref (a 8), .ref (a 9), .int r, .ref (a 11), .ref (a 12), .ref (a 13), .ref (a 14), .int lv, .ref (a 16), .ref (a 17), .ref (a 18), .int b, .int o])), (a 1, .inl (cI, 6, .inl (v 1))), (a 2, .inl (cI, 240, .inl (v 2))), (a 3, .inl (cI, 240, .inl (v 3))), (a 4, .inl (cI, 240, .inl (v 4))), (a 5, .inl (cI, 240, .inl (v 5))), (a 6, .inl (cZ, 8, .inl (v 6))), (a 7, .inl (cI, 8, .inl (v 7))), (a 8, .inl (cI, 8, .inl (v 8))), (a 9, .inl (cI, 8, .inl (v 9))), (a 11, .inl (cI, 8, .inl (v 11))), (a 12, .inl (cI, 10, .inl (v 12))), (a 13, .inl (cI, 5, .inl (v 13))), (a 14, .inl (cI, 5, .inl (v 14))), (a 16, .inl (cI, 128, .inl (v 16))), (a 17, .inl (cI, 128, .inl (v 17))), (a 18, .inl (cI, 128, .inl (v 18)))] := hD
  refine lv_aload_n hx hb dX5_rest_5 rfl (lv_at hl 0 rfl) ?_
  refine va_get (D := D) (ci := 5) (v := .int r) (C := RX5) (T := TX5) (N := 21) hx hb hts inX5 hown hK hP 0 rfl rfl 10 (by decide) fl98 (fun _ h9 => h9) rfl dX5_rest_6 ?_
  refine lv_istore_n (lv' := [(1, .int r), (0, .ref (a 0))]) hx hb dX5_rest_9 rfl hl (by decide) rfl (fun ls hl => ?_)
  refine lv_aload_n hx hb dX5_rest_10 rfl (lv_at hl 1 rfl) ?_
  refine lv_iconst (v := 0) hx hb dX5_rest_11 (by decide) ?_
  refine va_put (D := D) (ci := 5) (v := .int 0) (ty := .int) (C := RX5) (T := TX5) (N := 21) hx hb hts inX5 tyX5 tyX5_ok nmX5 hown hK hP hD hS 0 rfl rfl 10 (by decide) fl98 (fun _ h9 => h9) rfl (by decide +kernel) rfl rfl (Nat.le_of_ble_eq_true rfl) dX5_rest_12 (fun H locs hP hD hS => ?_)
  have hP : va_P D vwCl [(a 0, .inr (5, [.int 0, .ref (a 1), .ref (a 2), .ref (a 3), .ref (a 4), .ref (a 5), .ref (a 6), .ref (a 7), .ref (a 8), .ref (a 9), .int 0, .ref (a 11), .ref (a 12), .ref (a 13), .ref (a 14), .int lv, .ref (a 16), .ref (a 17), .ref (a 18), .int b, .int o])), (a 1, .inl (cI, 6, .inl (v 1))), (a 2, .inl (cI, 240, .inl (v 2))), (a 3, .inl (cI, 240, .inl (v 3))), (a 4, .inl (cI, 240, .inl (v 4))), (a 5, .inl (cI, 240, .inl (v 5))), (a 6, .inl (cZ, 8, .inl (v 6))), (a 7, .inl (cI, 8, .inl (v 7))), (a 8, .inl (cI, 8, .inl (v 8))), (a 9, .inl (cI, 8, .inl (v 9))), (a 11, .inl (cI, 8, .inl (v 11))), (a 12, .inl (cI, 10, .inl (v 12))), (a 13, .inl (cI, 5, .inl (v 13))), (a 14, .inl (cI, 5, .inl (v 14))), (a 16, .inl (cI, 128, .inl (v 16))), (a 17, .inl (cI, 128, .inl (v 17))), (a 18, .inl (cI, 128, .inl (v 18)))] H := hP
  have hD : va_D A [(a 0, .inr (5, [.int 0, .ref (a 1), .ref (a 2), .ref (a 3), .ref (a 4), .ref (a 5), .ref (a 6), .ref (a 7), .ref (a 8), .ref (a 9), .int 0, .ref (a 11), .ref (a 12), .ref (a 13), .ref (a 14), .int lv, .ref (a 16), .ref (a 17), .ref (a 18), .int b, .int o])), (a 1, .inl (cI, 6, .inl (v 1))), (a 2, .inl (cI, 240, .inl (v 2))), (a 3, .inl (cI, 240, .inl (v 3))), (a 4, .inl (cI, 240, .inl (v 4))), (a 5, .inl (cI, 240, .inl (v 5))), (a 6, .inl (cZ, 8, .inl (v 6))), (a 7, .inl (cI, 8, .inl (v 7))), (a 8, .inl (cI, 8, .inl (v 8))), (a 9, .inl (cI, 8, .inl (v 9))), (a 11, .inl (cI, 8, .inl (v 11))), (a 12, .inl (cI, 10, .inl (v 12))), (a 13, .inl (cI, 5, .inl (v 13))), (a 14, .inl (cI, 5, .inl (v 14))), (a 16, .inl (cI, 128, .inl (v 16))), (a 17, .inl (cI, 128, .inl (v 17))), (a 18, .inl (cI, 128, .inl (v 18)))] := hD
  refine lv_iload_n hx hb dX5_rest_15 rfl (lv_at hl 0 rfl) ?_
  exact Ri (D := D) () hx hb hr rfl hlocks hP hD hS rfl dX5_rest_16

set_option maxHeartbeats 4000000 in
set_option maxRecDepth 100000 in
theorem c_X5_fits (l : Launch) (D : va_G) (kk : Nat) (hk10 : kk < 10) (x y z : Int32) : Ci l D [] yX5_fits wsX5_fits ({ frames := 2, cells := 0, slots := 0, locals := 42 }) [.int (nI kk), .int x, .int y, .int z] ([]) (S := Unit) (fun w _ => (w = 1 ∧ fitP kk x y z) ∨ (w = 0 ∧ ¬ fitP kk x y z)) (fun _ => []) := by
  refine Ci.mk (cc := cX5_fits) (maxL := 5) (ret := (some .boolean)) (by decide +kernel) rfl (Nat.le_of_ble_eq_true rfl) ?_
  intro pg e s m below meth c A ls hx hb hml hr hown hts hlocks hK hns hA hP hD hS hl
  have hl : lv_has ls 5 [(0, .int (nI kk)), (1, .int x), (2, .int y), (3, .int z)] := hl
  refine lv_iload_n hx hb dX5_fits_0 rfl (lv_at hl 0 rfl) ?_
  refine lv_iconst (v := 2) hx hb dX5_fits_1 (by decide) ?_
  refine lv_icmp_eq (tgt := 11) hx hb dX5_fits_2 (by decide) (fun c_2 => ?_) (fun c_2 => ?_)
  · have c_2 : kk = 2 := (nI_eq (a := kk) (b := 2) (by omega) (by omega)).mp c_2
    refine lv_iconst (v := 1) hx hb dX5_fits_11 (by decide) ?_
    exact Ri (D := D) () hx hb hr (by decide) hlocks hP hD hS (Or.inl ⟨rfl, fun q => absurd c_2 q.1, fun q => absurd q.1 (by omega), fun q => absurd (show kk = 6 from q) (by omega), fun q => absurd q (by omega)⟩) dX5_fits_12
  · have c_2 : ¬ (kk = 2) := fun h => c_2 ((nI_eq (a := kk) (b := 2) (by omega) (by omega)).mpr h)
    refine lv_iload_n hx hb dX5_fits_5 rfl (lv_at hl 0 rfl) ?_
    refine lv_bipush (v := 9) hx hb dX5_fits_6 (by decide) ?_
    refine lv_icmp_ne (tgt := 13) hx hb dX5_fits_8 (by decide) (fun c_8 => ?_) (fun c_8 => ?_)
    · have c_8 : ¬ (kk = 9) := fun h => c_8 ((nI_eq (a := kk) (b := 9) (by omega) (by omega)).mpr h)
      refine lv_iload_n hx hb dX5_fits_13 rfl (lv_at hl 0 rfl) ?_
      refine lv_bipush (v := 7) hx hb dX5_fits_14 (by decide) ?_
      refine lv_icmp_ne (tgt := 28) hx hb dX5_fits_16 (by decide) (fun c_16 => ?_) (fun c_16 => ?_)
      · have c_16 : ¬ (kk = 7) := fun h => c_16 ((nI_eq (a := kk) (b := 7) (by omega) (by omega)).mpr h)
        refine lv_iload_n hx hb dX5_fits_28 rfl (lv_at hl 0 rfl) ?_
        refine lv_iconst (v := 3) hx hb dX5_fits_29 (by decide) ?_
        refine lv_bipush (v := 6) hx hb dX5_fits_30 (by decide) ?_
        refine cl_Si (As := [.int (nI kk), .int 3, .int 6]) (rest := []) (c_X5_in l D (nI kk) 3 6) ⟨hx, hb, hml, hown, hts⟩ (cwS 3 hts gX5_fits_X5_in rfl rfl rfl (by decide +kernel) ⟨Nat.le_of_ble_eq_true rfl, Nat.le_of_ble_eq_true rfl⟩) hK hns hP hD hS hA rfl hl.1 rfl (Nat.le_of_ble_eq_true rfl) dX5_fits_32 ⟨Nat.zero_le _, Nat.zero_le _⟩ (fun r32 u32 H locs hw32 hP hD hS => ?_)
        rcases hw32 with ⟨rfl, hi32⟩ | ⟨rfl, hi32⟩
        · refine lv_istore (lv' := [(4, .int 1), (0, .int (nI kk)), (1, .int x), (2, .int y), (3, .int z)]) hx hb dX5_fits_35 hl (by decide) rfl (fun ls hl => ?_)
          refine lv_iload_n hx hb dX5_fits_37 rfl (lv_at hl 2 rfl) ?_
          refine cl_Si (As := [.int x]) (rest := []) (c_X5_isDigit l D x) ⟨hx, hb, hml, hown, hts⟩ (cwS 1 hts gX5_fits_X5_isDigit rfl rfl rfl (by decide +kernel) ⟨Nat.le_of_ble_eq_true rfl, Nat.le_of_ble_eq_true rfl⟩) hK hns hP hD hS hA rfl hl.1 rfl (Nat.le_of_ble_eq_true rfl) dX5_fits_38 ⟨Nat.zero_le _, Nat.zero_le _⟩ (fun r38 u38 H locs hw38 hP hD hS => ?_)
          rcases hw38 with ⟨rfl, hd38⟩ | ⟨rfl, hd38⟩
          · refine lv_if_eq (tgt := 73) hx hb dX5_fits_41 (by decide) (fun c9 => absurd c9 (by decide)) (fun _ => ?_)
            refine lv_iload hx hb dX5_fits_44 (lv_at hl 0 rfl) ?_
            refine lv_if_eq (tgt := 56) hx hb dX5_fits_46 (by decide) (fun c9 => absurd c9 (by decide)) (fun _ => ?_)
            refine lv_iload_n hx hb dX5_fits_49 rfl (lv_at hl 3 rfl) ?_
            refine cl_Si (As := [.int y]) (rest := []) (c_X5_isDigit l D y) ⟨hx, hb, hml, hown, hts⟩ (cwS 1 hts gX5_fits_X5_isDigit rfl rfl rfl (by decide +kernel) ⟨Nat.le_of_ble_eq_true rfl, Nat.le_of_ble_eq_true rfl⟩) hK hns hP hD hS hA rfl hl.1 rfl (Nat.le_of_ble_eq_true rfl) dX5_fits_50 ⟨Nat.zero_le _, Nat.zero_le _⟩ (fun r50 u50 H locs hw50 hP hD hS => ?_)
            rcases hw50 with ⟨rfl, hd50⟩ | ⟨rfl, hd50⟩
            · refine lv_if_eq (tgt := 73) hx hb dX5_fits_53 (by decide) (fun c9 => absurd c9 (by decide)) (fun _ => ?_)
              refine lv_iload_n hx hb dX5_fits_56 rfl (lv_at hl 1 rfl) ?_
              refine lv_bipush (v := 6) hx hb dX5_fits_57 (by decide) ?_
              refine lv_icmp_ne (tgt := 69) hx hb dX5_fits_59 (by decide) (fun c_59 => ?_) (fun c_59 => ?_)
              · have c_59 : ¬ (kk = 6) := fun h => c_59 ((nI_eq (a := kk) (b := 6) (by omega) (by omega)).mpr h)
                refine lv_iconst (v := 1) hx hb dX5_fits_69 (by decide) ?_
                refine lv_goto (tgt := 74) hx hb dX5_fits_70 (by decide) ?_
                exact Ri (D := D) () hx hb hr (by decide) hlocks hP hD hS (Or.inl ⟨rfl, fun _ => hd38, fun _ => hd50, fun q => absurd q c_59, fun q => absurd q c_16⟩) dX5_fits_74
              · have c_59 : kk = 6 := (nI_eq (a := kk) (b := 6) (by omega) (by omega)).mp c_59
                refine lv_iload_n hx hb dX5_fits_62 rfl (lv_at hl 4 rfl) ?_
                refine cl_Si (As := [.int z]) (rest := []) (c_X5_isDigit l D z) ⟨hx, hb, hml, hown, hts⟩ (cwS 1 hts gX5_fits_X5_isDigit rfl rfl rfl (by decide +kernel) ⟨Nat.le_of_ble_eq_true rfl, Nat.le_of_ble_eq_true rfl⟩) hK hns hP hD hS hA rfl hl.1 rfl (Nat.le_of_ble_eq_true rfl) dX5_fits_63 ⟨Nat.zero_le _, Nat.zero_le _⟩ (fun r63 u63 H locs hw63 hP hD hS => ?_)
                rcases hw63 with ⟨rfl, hd63⟩ | ⟨rfl, hd63⟩
                · refine lv_if_eq (tgt := 73) hx hb dX5_fits_66 (by decide) (fun c9 => absurd c9 (by decide)) (fun _ => ?_)
                  refine lv_iconst (v := 1) hx hb dX5_fits_69 (by decide) ?_
                  refine lv_goto (tgt := 74) hx hb dX5_fits_70 (by decide) ?_
                  exact Ri (D := D) () hx hb hr (by decide) hlocks hP hD hS (Or.inl ⟨rfl, fun _ => hd38, fun _ => hd50, fun _ => hd63, fun q => absurd q c_16⟩) dX5_fits_74
                · refine lv_if_eq (tgt := 73) hx hb dX5_fits_66 (by decide) (fun _ => ?_) (fun c9 => absurd (by decide) c9)
                  refine lv_iconst (v := 0) hx hb dX5_fits_73 (by decide) ?_
                  exact Ri (D := D) () hx hb hr (by decide) hlocks hP hD hS (Or.inr ⟨rfl, fun q => hd63 (q.2.2.1 c_59)⟩) dX5_fits_74
            · refine lv_if_eq (tgt := 73) hx hb dX5_fits_53 (by decide) (fun _ => ?_) (fun c9 => absurd (by decide) c9)
              refine lv_iconst (v := 0) hx hb dX5_fits_73 (by decide) ?_
              exact Ri (D := D) () hx hb hr (by decide) hlocks hP hD hS (Or.inr ⟨rfl, fun q => hd50 (q.2.1 ((nI36 hk10).mp hi32))⟩) dX5_fits_74
          · refine lv_if_eq (tgt := 73) hx hb dX5_fits_41 (by decide) (fun _ => ?_) (fun c9 => absurd (by decide) c9)
            refine lv_iconst (v := 0) hx hb dX5_fits_73 (by decide) ?_
            exact Ri (D := D) () hx hb hr (by decide) hlocks hP hD hS (Or.inr ⟨rfl, fun q => hd38 (q.1 ⟨c_2, c_8⟩)⟩) dX5_fits_74
        · refine lv_istore (lv' := [(4, .int 0), (0, .int (nI kk)), (1, .int x), (2, .int y), (3, .int z)]) hx hb dX5_fits_35 hl (by decide) rfl (fun ls hl => ?_)
          refine lv_iload_n hx hb dX5_fits_37 rfl (lv_at hl 2 rfl) ?_
          refine cl_Si (As := [.int x]) (rest := []) (c_X5_isDigit l D x) ⟨hx, hb, hml, hown, hts⟩ (cwS 1 hts gX5_fits_X5_isDigit rfl rfl rfl (by decide +kernel) ⟨Nat.le_of_ble_eq_true rfl, Nat.le_of_ble_eq_true rfl⟩) hK hns hP hD hS hA rfl hl.1 rfl (Nat.le_of_ble_eq_true rfl) dX5_fits_38 ⟨Nat.zero_le _, Nat.zero_le _⟩ (fun r38 u38 H locs hw38 hP hD hS => ?_)
          rcases hw38 with ⟨rfl, hd38⟩ | ⟨rfl, hd38⟩
          · refine lv_if_eq (tgt := 73) hx hb dX5_fits_41 (by decide) (fun c9 => absurd c9 (by decide)) (fun _ => ?_)
            refine lv_iload hx hb dX5_fits_44 (lv_at hl 0 rfl) ?_
            refine lv_if_eq (tgt := 56) hx hb dX5_fits_46 (by decide) (fun _ => ?_) (fun c9 => absurd (by decide) c9)
            refine lv_iload_n hx hb dX5_fits_56 rfl (lv_at hl 1 rfl) ?_
            refine lv_bipush (v := 6) hx hb dX5_fits_57 (by decide) ?_
            refine lv_icmp_ne (tgt := 69) hx hb dX5_fits_59 (by decide) (fun c_59 => ?_) (fun c_59 => ?_)
            · have c_59 : ¬ (kk = 6) := fun h => c_59 ((nI_eq (a := kk) (b := 6) (by omega) (by omega)).mpr h)
              refine lv_iconst (v := 1) hx hb dX5_fits_69 (by decide) ?_
              refine lv_goto (tgt := 74) hx hb dX5_fits_70 (by decide) ?_
              exact Ri (D := D) () hx hb hr (by decide) hlocks hP hD hS (Or.inl ⟨rfl, fun _ => hd38, fun q => absurd ((nI36 hk10).mpr q) hi32, fun q => absurd q c_59, fun q => absurd q c_16⟩) dX5_fits_74
            · have c_59 : kk = 6 := (nI_eq (a := kk) (b := 6) (by omega) (by omega)).mp c_59
              refine lv_iload_n hx hb dX5_fits_62 rfl (lv_at hl 4 rfl) ?_
              refine cl_Si (As := [.int z]) (rest := []) (c_X5_isDigit l D z) ⟨hx, hb, hml, hown, hts⟩ (cwS 1 hts gX5_fits_X5_isDigit rfl rfl rfl (by decide +kernel) ⟨Nat.le_of_ble_eq_true rfl, Nat.le_of_ble_eq_true rfl⟩) hK hns hP hD hS hA rfl hl.1 rfl (Nat.le_of_ble_eq_true rfl) dX5_fits_63 ⟨Nat.zero_le _, Nat.zero_le _⟩ (fun r63 u63 H locs hw63 hP hD hS => ?_)
              rcases hw63 with ⟨rfl, hd63⟩ | ⟨rfl, hd63⟩
              · refine lv_if_eq (tgt := 73) hx hb dX5_fits_66 (by decide) (fun c9 => absurd c9 (by decide)) (fun _ => ?_)
                refine lv_iconst (v := 1) hx hb dX5_fits_69 (by decide) ?_
                refine lv_goto (tgt := 74) hx hb dX5_fits_70 (by decide) ?_
                exact Ri (D := D) () hx hb hr (by decide) hlocks hP hD hS (Or.inl ⟨rfl, fun _ => hd38, fun q => absurd ((nI36 hk10).mpr q) hi32, fun _ => hd63, fun q => absurd q c_16⟩) dX5_fits_74
              · refine lv_if_eq (tgt := 73) hx hb dX5_fits_66 (by decide) (fun _ => ?_) (fun c9 => absurd (by decide) c9)
                refine lv_iconst (v := 0) hx hb dX5_fits_73 (by decide) ?_
                exact Ri (D := D) () hx hb hr (by decide) hlocks hP hD hS (Or.inr ⟨rfl, fun q => hd63 (q.2.2.1 c_59)⟩) dX5_fits_74
          · refine lv_if_eq (tgt := 73) hx hb dX5_fits_41 (by decide) (fun _ => ?_) (fun c9 => absurd (by decide) c9)
            refine lv_iconst (v := 0) hx hb dX5_fits_73 (by decide) ?_
            exact Ri (D := D) () hx hb hr (by decide) hlocks hP hD hS (Or.inr ⟨rfl, fun q => hd38 (q.1 ⟨c_2, c_8⟩)⟩) dX5_fits_74
      · have c_16 : kk = 7 := (nI_eq (a := kk) (b := 7) (by omega) (by omega)).mp c_16
        refine lv_iload_n hx hb dX5_fits_19 rfl (lv_at hl 1 rfl) ?_
        refine lv_bipush (v := 7) hx hb dX5_fits_20 (by decide) ?_
        refine lv_bipush (v := 9) hx hb dX5_fits_22 (by decide) ?_
        refine cl_Si (As := [.int x, .int 7, .int 9]) (rest := []) (c_X5_in l D x 7 9) ⟨hx, hb, hml, hown, hts⟩ (cwS 3 hts gX5_fits_X5_in rfl rfl rfl (by decide +kernel) ⟨Nat.le_of_ble_eq_true rfl, Nat.le_of_ble_eq_true rfl⟩) hK hns hP hD hS hA rfl hl.1 rfl (Nat.le_of_ble_eq_true rfl) dX5_fits_24 ⟨Nat.zero_le _, Nat.zero_le _⟩ (fun r24 u24 H locs hw24 hP hD hS => ?_)
        rcases hw24 with ⟨rfl, hi24⟩ | ⟨rfl, hi24⟩
        · exact Ri (D := D) () hx hb hr (by decide) hlocks hP hD hS (Or.inl ⟨rfl, fun _ => (in79.mp hi24).1, fun q => absurd q.2 (by omega), fun q => absurd (show kk = 6 from q) (by omega), fun _ => (in79.mp hi24).2⟩) dX5_fits_27
        · exact Ri (D := D) () hx hb hr (by decide) hlocks hP hD hS (Or.inr ⟨rfl, fun q => hi24 (in79.mpr ⟨q.1 ⟨by omega, by omega⟩, q.2.2.2 c_16⟩)⟩) dX5_fits_27
    · have c_8 : kk = 9 := (nI_eq (a := kk) (b := 9) (by omega) (by omega)).mp c_8
      refine lv_iconst (v := 1) hx hb dX5_fits_11 (by decide) ?_
      exact Ri (D := D) () hx hb hr (by decide) hlocks hP hD hS (Or.inl ⟨rfl, fun q => absurd c_8 q.2, fun q => absurd q.2 (by omega), fun q => absurd (show kk = 6 from q) (by omega), fun q => absurd q (by omega)⟩) dX5_fits_12

set_option maxHeartbeats 4000000 in
set_option maxRecDepth 100000 in
theorem c_X5_act (l : Launch) (D : va_G) (cI cZ : ClassId) (a : Nat → Nat) (v : Nat → Nat → Int32) (t r lv b o : Int32) (G : GP) (go : Nat → Nat) (lf : Nat → Int32) (rs : Int32) (td ct : Nat → Int32) (hR : Rp G go lf rs td ct (cnt []) v r) (x kd x1 x2 x3 : Int32) : Ci l D [(cI, .int), (cZ, .boolean)] yX5_act wsX5_act ({ frames := 3, cells := 0, slots := 0, locals := 66 }) [.ref (a 0), .int x, .int kd, .int x1, .int x2, .int x3] (wM a cI cZ v t r lv b o) (S := Nat → Nat → Int32) (fun w u => w = (F_act G x kd x1 x2 x3).1 ∧ Rp (F_act G x kd x1 x2 x3).2 go lf rs td ct (cnt []) u r) (fun u => wM a cI cZ u 0 r lv b o) := by
  refine Ci.mk (cc := cX5_act) (maxL := 7) (ret := (some .int)) (by decide +kernel) rfl (Nat.le_of_ble_eq_true rfl) ?_
  intro pg e s m below meth c A ls hx hb hml hr hown hts hlocks hK hns hA hP hD hS hl
  have hl : lv_has ls 7 [(0, .ref (a 0)), (1, .int x), (2, .int kd), (3, .int x1), (4, .int x2), (5, .int x3)] := hl
  have fl59 := hts (.fieldLink RX5 59 "HeldShelvesModel" "thrown" "I") (List.mem_of_getElem? (i := 1) rfl)
  have inX5 : ∀ w ∈ wsX50, w ∈ wsX5_act := fun _ h => List.mem_cons_of_mem _ (List.mem_append_right _ h)
  have fl7 := hts (.fieldLink RX5 7 "HeldShelvesModel" "many" "[I") (List.mem_of_getElem? (i := 2) rfl)
  have fl13 := hts (.fieldLink RX5 13 "HeldShelvesModel" "kinds" "[I") (List.mem_of_getElem? (i := 3) rfl)
  have fl16 := hts (.fieldLink RX5 16 "HeldShelvesModel" "first" "[I") (List.mem_of_getElem? (i := 4) rfl)
  have fl19 := hts (.fieldLink RX5 19 "HeldShelvesModel" "second" "[I") (List.mem_of_getElem? (i := 5) rfl)
  have fl22 := hts (.fieldLink RX5 22 "HeldShelvesModel" "third" "[I") (List.mem_of_getElem? (i := 6) rfl)
  have hP : va_P D vwCl [(a 0, .inr (5, [.int t, .ref (a 1), .ref (a 2), .ref (a 3), .ref (a 4), .ref (a 5), .ref (a 6), .ref (a 7), .ref (a 8), .ref (a 9), .int r, .ref (a 11), .ref (a 12), .ref (a 13), .ref (a 14), .int lv, .ref (a 16), .ref (a 17), .ref (a 18), .int b, .int o])), (a 1, .inl (cI, 6, .inl (v 1))), (a 2, .inl (cI, 240, .inl (v 2))), (a 3, .inl (cI, 240, .inl (v 3))), (a 4, .inl (cI, 240, .inl (v 4))), (a 5, .inl (cI, 240, .inl (v 5))), (a 6, .inl (cZ, 8, .inl (v 6))), (a 7, .inl (cI, 8, .inl (v 7))), (a 8, .inl (cI, 8, .inl (v 8))), (a 9, .inl (cI, 8, .inl (v 9))), (a 11, .inl (cI, 8, .inl (v 11))), (a 12, .inl (cI, 10, .inl (v 12))), (a 13, .inl (cI, 5, .inl (v 13))), (a 14, .inl (cI, 5, .inl (v 14))), (a 16, .inl (cI, 128, .inl (v 16))), (a 17, .inl (cI, 128, .inl (v 17))), (a 18, .inl (cI, 128, .inl (v 18)))] s.heap := hP
  have hD : va_D A [(a 0, .inr (5, [.int t, .ref (a 1), .ref (a 2), .ref (a 3), .ref (a 4), .ref (a 5), .ref (a 6), .ref (a 7), .ref (a 8), .ref (a 9), .int r, .ref (a 11), .ref (a 12), .ref (a 13), .ref (a 14), .int lv, .ref (a 16), .ref (a 17), .ref (a 18), .int b, .int o])), (a 1, .inl (cI, 6, .inl (v 1))), (a 2, .inl (cI, 240, .inl (v 2))), (a 3, .inl (cI, 240, .inl (v 3))), (a 4, .inl (cI, 240, .inl (v 4))), (a 5, .inl (cI, 240, .inl (v 5))), (a 6, .inl (cZ, 8, .inl (v 6))), (a 7, .inl (cI, 8, .inl (v 7))), (a 8, .inl (cI, 8, .inl (v 8))), (a 9, .inl (cI, 8, .inl (v 9))), (a 11, .inl (cI, 8, .inl (v 11))), (a 12, .inl (cI, 10, .inl (v 12))), (a 13, .inl (cI, 5, .inl (v 13))), (a 14, .inl (cI, 5, .inl (v 14))), (a 16, .inl (cI, 128, .inl (v 16))), (a 17, .inl (cI, 128, .inl (v 17))), (a 18, .inl (cI, 128, .inl (v 18)))] := hD
  refine lv_aload_n hx hb dX5_act_0 rfl (lv_at hl 0 rfl) ?_
  refine lv_iconst (v := 0) hx hb dX5_act_1 (by decide) ?_
  refine va_put (D := D) (ci := 5) (v := .int 0) (ty := .int) (C := RX5) (T := TX5) (N := 21) hx hb hts inX5 tyX5 tyX5_ok nmX5 hown hK hP hD hS 0 rfl rfl 0 (by decide) fl59 (fun _ h9 => h9) rfl (by decide +kernel) rfl rfl (Nat.le_of_ble_eq_true rfl) dX5_act_2 (fun H locs hP hD hS => ?_)
  have hP : va_P D vwCl [(a 0, .inr (5, [.int 0, .ref (a 1), .ref (a 2), .ref (a 3), .ref (a 4), .ref (a 5), .ref (a 6), .ref (a 7), .ref (a 8), .ref (a 9), .int r, .ref (a 11), .ref (a 12), .ref (a 13), .ref (a 14), .int lv, .ref (a 16), .ref (a 17), .ref (a 18), .int b, .int o])), (a 1, .inl (cI, 6, .inl (v 1))), (a 2, .inl (cI, 240, .inl (v 2))), (a 3, .inl (cI, 240, .inl (v 3))), (a 4, .inl (cI, 240, .inl (v 4))), (a 5, .inl (cI, 240, .inl (v 5))), (a 6, .inl (cZ, 8, .inl (v 6))), (a 7, .inl (cI, 8, .inl (v 7))), (a 8, .inl (cI, 8, .inl (v 8))), (a 9, .inl (cI, 8, .inl (v 9))), (a 11, .inl (cI, 8, .inl (v 11))), (a 12, .inl (cI, 10, .inl (v 12))), (a 13, .inl (cI, 5, .inl (v 13))), (a 14, .inl (cI, 5, .inl (v 14))), (a 16, .inl (cI, 128, .inl (v 16))), (a 17, .inl (cI, 128, .inl (v 17))), (a 18, .inl (cI, 128, .inl (v 18)))] H := hP
  have hD : va_D A [(a 0, .inr (5, [.int 0, .ref (a 1), .ref (a 2), .ref (a 3), .ref (a 4), .ref (a 5), .ref (a 6), .ref (a 7), .ref (a 8), .ref (a 9), .int r, .ref (a 11), .ref (a 12), .ref (a 13), .ref (a 14), .int lv, .ref (a 16), .ref (a 17), .ref (a 18), .int b, .int o])), (a 1, .inl (cI, 6, .inl (v 1))), (a 2, .inl (cI, 240, .inl (v 2))), (a 3, .inl (cI, 240, .inl (v 3))), (a 4, .inl (cI, 240, .inl (v 4))), (a 5, .inl (cI, 240, .inl (v 5))), (a 6, .inl (cZ, 8, .inl (v 6))), (a 7, .inl (cI, 8, .inl (v 7))), (a 8, .inl (cI, 8, .inl (v 8))), (a 9, .inl (cI, 8, .inl (v 9))), (a 11, .inl (cI, 8, .inl (v 11))), (a 12, .inl (cI, 10, .inl (v 12))), (a 13, .inl (cI, 5, .inl (v 13))), (a 14, .inl (cI, 5, .inl (v 14))), (a 16, .inl (cI, 128, .inl (v 16))), (a 17, .inl (cI, 128, .inl (v 17))), (a 18, .inl (cI, 128, .inl (v 18)))] := hD
  refine lv_iload_n hx hb dX5_act_5 rfl (lv_at hl 1 rfl) ?_
  refine cl_Si (As := [.int x]) (rest := []) (c_X5_isPlan l D x) ⟨hx, hb, hml, hown, hts⟩ (cwS 1 hts gX5_act_X5_isPlan rfl rfl rfl (by decide +kernel) ⟨Nat.le_of_ble_eq_true rfl, Nat.le_of_ble_eq_true rfl⟩) hK hns hP hD hS hA rfl hl.1 rfl (Nat.le_of_ble_eq_true rfl) dX5_act_6 ⟨Nat.zero_le _, Nat.zero_le _⟩ (fun r6 u6 H locs hw6 hP hD hS => ?_)
  rcases hw6 with ⟨rfl, hp6⟩ | ⟨rfl, hp6⟩
  · obtain ⟨q, hq6, rfl⟩ := hp6
    refine lv_if_eq (tgt := 34) hx hb dX5_act_9 (by decide) (fun c9 => absurd c9 (by decide)) (fun _ => ?_)
    refine lv_iload_n hx hb dX5_act_12 rfl (lv_at hl 2 rfl) ?_
    refine lv_iconst (v := 0) hx hb dX5_act_13 (by decide) ?_
    refine lv_bipush (v := 9) hx hb dX5_act_14 (by decide) ?_
    refine cl_Si (As := [.int kd, .int 0, .int 9]) (rest := []) (c_X5_in l D kd 0 9) ⟨hx, hb, hml, hown, hts⟩ (cwS 3 hts gX5_act_X5_in rfl rfl rfl (by decide +kernel) ⟨Nat.le_of_ble_eq_true rfl, Nat.le_of_ble_eq_true rfl⟩) hK hns hP hD hS hA rfl hl.1 rfl (Nat.le_of_ble_eq_true rfl) dX5_act_16 ⟨Nat.zero_le _, Nat.zero_le _⟩ (fun r16 u16 H locs hw16 hP hD hS => ?_)
    rcases hw16 with ⟨rfl, hi16⟩ | ⟨rfl, hi16⟩
    · obtain ⟨kk, hs16, rfl⟩ := inN_c (m := 9) (by decide) rfl hi16.1 hi16.2
      refine lv_if_eq (tgt := 34) hx hb dX5_act_19 (by decide) (fun c9 => absurd c9 (by decide)) (fun _ => ?_)
      refine lv_iload_n hx hb dX5_act_22 rfl (lv_at hl 2 rfl) ?_
      refine lv_iload_n hx hb dX5_act_23 rfl (lv_at hl 3 rfl) ?_
      refine lv_iload hx hb dX5_act_24 (lv_at hl 4 rfl) ?_
      refine lv_iload hx hb dX5_act_26 (lv_at hl 5 rfl) ?_
      refine cl_Si (As := [.int (nI kk), .int x1, .int x2, .int x3]) (rest := []) (c_X5_fits l D kk hs16 x1 x2 x3) ⟨hx, hb, hml, hown, hts⟩ (cwS 4 hts gX5_act_X5_fits rfl rfl rfl (by decide +kernel) ⟨Nat.le_of_ble_eq_true rfl, Nat.le_of_ble_eq_true rfl⟩) hK hns hP hD hS hA rfl hl.1 rfl (Nat.le_of_ble_eq_true rfl) dX5_act_28 ⟨Nat.zero_le _, Nat.zero_le _⟩ (fun r28 u28 H locs hw28 hP hD hS => ?_)
      rcases hw28 with ⟨rfl, hf⟩ | ⟨rfl, hf⟩
      · refine lv_if_ne (tgt := 36) hx hb dX5_act_31 (by decide) (fun _ => ?_) (fun c9 => absurd c9 (by decide))
        have hq1 := hR.1 q hq6
        have h40 := hq1.2.1
        refine lv_aload_n hx hb dX5_act_36 rfl (lv_at hl 0 rfl) ?_
        refine va_get (D := D) (ci := 5) (v := .ref (a 1)) (C := RX5) (T := TX5) (N := 21) hx hb hts inX5 hown hK hP 0 rfl rfl 1 (by decide) fl7 (fun _ h9 => h9) rfl dX5_act_37 ?_
        refine lv_iload_n hx hb dX5_act_40 rfl (lv_at hl 1 rfl) ?_
        refine xi_ald hx hb hK hP 1 0 rfl rfl (k := q) (by omega) (by decide) dX5_act_41 ?_
        refine tp (y := nI (G.1 q)) (hq1.1) ?_
        refine lv_bipush (v := 40) hx hb dX5_act_42 (by decide) ?_
        refine lv_icmp_ne (tgt := 50) hx hb dX5_act_44 (by decide) (fun c_44 => ?_) (fun c_44 => ?_)
        · have c_44 : ¬ ((G.1 q) = 40) := fun h => c_44 ((nI_eq (a := (G.1 q)) (b := 40) (by omega) (by omega)).mpr h)
          refine lv_bipush (v := 40) hx hb dX5_act_50 (by decide) ?_
          refine lv_iload_n hx hb dX5_act_52 rfl (lv_at hl 1 rfl) ?_
          refine lv_imul hx hb dX5_act_53 ?_
          refine lv_aload_n hx hb dX5_act_54 rfl (lv_at hl 0 rfl) ?_
          refine va_get (D := D) (ci := 5) (v := .ref (a 1)) (C := RX5) (T := TX5) (N := 21) hx hb hts inX5 hown hK hP 0 rfl rfl 1 (by decide) fl7 (fun _ h9 => h9) rfl dX5_act_55 ?_
          refine lv_iload_n hx hb dX5_act_58 rfl (lv_at hl 1 rfl) ?_
          refine xi_ald hx hb hK hP 1 0 rfl rfl (k := q) (by omega) (by decide) dX5_act_59 ?_
          refine tp (y := nI (G.1 q)) (hq1.1) ?_
          refine lv_iadd hx hb dX5_act_60 ?_
          refine tp (y := nI (40 * q + G.1 q)) (ix40 q (G.1 q)) ?_
          refine lv_istore (lv' := [(6, .int (nI (40 * q + G.1 q))), (0, .ref (a 0)), (1, .int (nI q)), (2, .int (nI kk)), (3, .int x1), (4, .int x2), (5, .int x3)]) hx hb dX5_act_61 hl (by decide) rfl (fun ls hl => ?_)
          refine lv_aload_n hx hb dX5_act_63 rfl (lv_at hl 1 rfl) ?_
          refine va_get (D := D) (ci := 5) (v := .ref (a 2)) (C := RX5) (T := TX5) (N := 21) hx hb hts inX5 hown hK hP 0 rfl rfl 2 (by decide) fl13 (fun _ h9 => h9) rfl dX5_act_64 ?_
          refine lv_iload hx hb dX5_act_67 (lv_at hl 0 rfl) ?_
          refine lv_iload_n hx hb dX5_act_69 rfl (lv_at hl 3 rfl) ?_
          refine xi_ast hx hb hK hP hD hS 2 0 rfl rfl (k := (40 * q + G.1 q)) (x := (nI kk)) (by omega) (by decide) dX5_act_70 (fun H locs hP hD hS => ?_)
          have hP : va_P D vwCl [(a 0, .inr (5, [.int 0, .ref (a 1), .ref (a 2), .ref (a 3), .ref (a 4), .ref (a 5), .ref (a 6), .ref (a 7), .ref (a 8), .ref (a 9), .int r, .ref (a 11), .ref (a 12), .ref (a 13), .ref (a 14), .int lv, .ref (a 16), .ref (a 17), .ref (a 18), .int b, .int o])), (a 1, .inl (cI, 6, .inl (v 1))), (a 2, .inl (cI, 240, .inl (upd (v 2) (40 * q + G.1 q) (nI kk)))), (a 3, .inl (cI, 240, .inl (v 3))), (a 4, .inl (cI, 240, .inl (v 4))), (a 5, .inl (cI, 240, .inl (v 5))), (a 6, .inl (cZ, 8, .inl (v 6))), (a 7, .inl (cI, 8, .inl (v 7))), (a 8, .inl (cI, 8, .inl (v 8))), (a 9, .inl (cI, 8, .inl (v 9))), (a 11, .inl (cI, 8, .inl (v 11))), (a 12, .inl (cI, 10, .inl (v 12))), (a 13, .inl (cI, 5, .inl (v 13))), (a 14, .inl (cI, 5, .inl (v 14))), (a 16, .inl (cI, 128, .inl (v 16))), (a 17, .inl (cI, 128, .inl (v 17))), (a 18, .inl (cI, 128, .inl (v 18)))] H := hP
          have hD : va_D A [(a 0, .inr (5, [.int 0, .ref (a 1), .ref (a 2), .ref (a 3), .ref (a 4), .ref (a 5), .ref (a 6), .ref (a 7), .ref (a 8), .ref (a 9), .int r, .ref (a 11), .ref (a 12), .ref (a 13), .ref (a 14), .int lv, .ref (a 16), .ref (a 17), .ref (a 18), .int b, .int o])), (a 1, .inl (cI, 6, .inl (v 1))), (a 2, .inl (cI, 240, .inl (upd (v 2) (40 * q + G.1 q) (nI kk)))), (a 3, .inl (cI, 240, .inl (v 3))), (a 4, .inl (cI, 240, .inl (v 4))), (a 5, .inl (cI, 240, .inl (v 5))), (a 6, .inl (cZ, 8, .inl (v 6))), (a 7, .inl (cI, 8, .inl (v 7))), (a 8, .inl (cI, 8, .inl (v 8))), (a 9, .inl (cI, 8, .inl (v 9))), (a 11, .inl (cI, 8, .inl (v 11))), (a 12, .inl (cI, 10, .inl (v 12))), (a 13, .inl (cI, 5, .inl (v 13))), (a 14, .inl (cI, 5, .inl (v 14))), (a 16, .inl (cI, 128, .inl (v 16))), (a 17, .inl (cI, 128, .inl (v 17))), (a 18, .inl (cI, 128, .inl (v 18)))] := hD
          refine lv_aload_n hx hb dX5_act_71 rfl (lv_at hl 1 rfl) ?_
          refine va_get (D := D) (ci := 5) (v := .ref (a 3)) (C := RX5) (T := TX5) (N := 21) hx hb hts inX5 hown hK hP 0 rfl rfl 3 (by decide) fl16 (fun _ h9 => h9) rfl dX5_act_72 ?_
          refine lv_iload hx hb dX5_act_75 (lv_at hl 0 rfl) ?_
          refine lv_iload_n hx hb dX5_act_77 rfl (lv_at hl 4 rfl) ?_
          refine xi_ast hx hb hK hP hD hS 3 0 rfl rfl (k := (40 * q + G.1 q)) (x := x1) (by omega) (by decide) dX5_act_78 (fun H locs hP hD hS => ?_)
          have hP : va_P D vwCl [(a 0, .inr (5, [.int 0, .ref (a 1), .ref (a 2), .ref (a 3), .ref (a 4), .ref (a 5), .ref (a 6), .ref (a 7), .ref (a 8), .ref (a 9), .int r, .ref (a 11), .ref (a 12), .ref (a 13), .ref (a 14), .int lv, .ref (a 16), .ref (a 17), .ref (a 18), .int b, .int o])), (a 1, .inl (cI, 6, .inl (v 1))), (a 2, .inl (cI, 240, .inl (upd (v 2) (40 * q + G.1 q) (nI kk)))), (a 3, .inl (cI, 240, .inl (upd (v 3) (40 * q + G.1 q) x1))), (a 4, .inl (cI, 240, .inl (v 4))), (a 5, .inl (cI, 240, .inl (v 5))), (a 6, .inl (cZ, 8, .inl (v 6))), (a 7, .inl (cI, 8, .inl (v 7))), (a 8, .inl (cI, 8, .inl (v 8))), (a 9, .inl (cI, 8, .inl (v 9))), (a 11, .inl (cI, 8, .inl (v 11))), (a 12, .inl (cI, 10, .inl (v 12))), (a 13, .inl (cI, 5, .inl (v 13))), (a 14, .inl (cI, 5, .inl (v 14))), (a 16, .inl (cI, 128, .inl (v 16))), (a 17, .inl (cI, 128, .inl (v 17))), (a 18, .inl (cI, 128, .inl (v 18)))] H := hP
          have hD : va_D A [(a 0, .inr (5, [.int 0, .ref (a 1), .ref (a 2), .ref (a 3), .ref (a 4), .ref (a 5), .ref (a 6), .ref (a 7), .ref (a 8), .ref (a 9), .int r, .ref (a 11), .ref (a 12), .ref (a 13), .ref (a 14), .int lv, .ref (a 16), .ref (a 17), .ref (a 18), .int b, .int o])), (a 1, .inl (cI, 6, .inl (v 1))), (a 2, .inl (cI, 240, .inl (upd (v 2) (40 * q + G.1 q) (nI kk)))), (a 3, .inl (cI, 240, .inl (upd (v 3) (40 * q + G.1 q) x1))), (a 4, .inl (cI, 240, .inl (v 4))), (a 5, .inl (cI, 240, .inl (v 5))), (a 6, .inl (cZ, 8, .inl (v 6))), (a 7, .inl (cI, 8, .inl (v 7))), (a 8, .inl (cI, 8, .inl (v 8))), (a 9, .inl (cI, 8, .inl (v 9))), (a 11, .inl (cI, 8, .inl (v 11))), (a 12, .inl (cI, 10, .inl (v 12))), (a 13, .inl (cI, 5, .inl (v 13))), (a 14, .inl (cI, 5, .inl (v 14))), (a 16, .inl (cI, 128, .inl (v 16))), (a 17, .inl (cI, 128, .inl (v 17))), (a 18, .inl (cI, 128, .inl (v 18)))] := hD
          refine lv_aload_n hx hb dX5_act_79 rfl (lv_at hl 1 rfl) ?_
          refine va_get (D := D) (ci := 5) (v := .ref (a 4)) (C := RX5) (T := TX5) (N := 21) hx hb hts inX5 hown hK hP 0 rfl rfl 4 (by decide) fl19 (fun _ h9 => h9) rfl dX5_act_80 ?_
          refine lv_iload hx hb dX5_act_83 (lv_at hl 0 rfl) ?_
          refine lv_iload hx hb dX5_act_85 (lv_at hl 5 rfl) ?_
          refine xi_ast hx hb hK hP hD hS 4 0 rfl rfl (k := (40 * q + G.1 q)) (x := x2) (by omega) (by decide) dX5_act_87 (fun H locs hP hD hS => ?_)
          have hP : va_P D vwCl [(a 0, .inr (5, [.int 0, .ref (a 1), .ref (a 2), .ref (a 3), .ref (a 4), .ref (a 5), .ref (a 6), .ref (a 7), .ref (a 8), .ref (a 9), .int r, .ref (a 11), .ref (a 12), .ref (a 13), .ref (a 14), .int lv, .ref (a 16), .ref (a 17), .ref (a 18), .int b, .int o])), (a 1, .inl (cI, 6, .inl (v 1))), (a 2, .inl (cI, 240, .inl (upd (v 2) (40 * q + G.1 q) (nI kk)))), (a 3, .inl (cI, 240, .inl (upd (v 3) (40 * q + G.1 q) x1))), (a 4, .inl (cI, 240, .inl (upd (v 4) (40 * q + G.1 q) x2))), (a 5, .inl (cI, 240, .inl (v 5))), (a 6, .inl (cZ, 8, .inl (v 6))), (a 7, .inl (cI, 8, .inl (v 7))), (a 8, .inl (cI, 8, .inl (v 8))), (a 9, .inl (cI, 8, .inl (v 9))), (a 11, .inl (cI, 8, .inl (v 11))), (a 12, .inl (cI, 10, .inl (v 12))), (a 13, .inl (cI, 5, .inl (v 13))), (a 14, .inl (cI, 5, .inl (v 14))), (a 16, .inl (cI, 128, .inl (v 16))), (a 17, .inl (cI, 128, .inl (v 17))), (a 18, .inl (cI, 128, .inl (v 18)))] H := hP
          have hD : va_D A [(a 0, .inr (5, [.int 0, .ref (a 1), .ref (a 2), .ref (a 3), .ref (a 4), .ref (a 5), .ref (a 6), .ref (a 7), .ref (a 8), .ref (a 9), .int r, .ref (a 11), .ref (a 12), .ref (a 13), .ref (a 14), .int lv, .ref (a 16), .ref (a 17), .ref (a 18), .int b, .int o])), (a 1, .inl (cI, 6, .inl (v 1))), (a 2, .inl (cI, 240, .inl (upd (v 2) (40 * q + G.1 q) (nI kk)))), (a 3, .inl (cI, 240, .inl (upd (v 3) (40 * q + G.1 q) x1))), (a 4, .inl (cI, 240, .inl (upd (v 4) (40 * q + G.1 q) x2))), (a 5, .inl (cI, 240, .inl (v 5))), (a 6, .inl (cZ, 8, .inl (v 6))), (a 7, .inl (cI, 8, .inl (v 7))), (a 8, .inl (cI, 8, .inl (v 8))), (a 9, .inl (cI, 8, .inl (v 9))), (a 11, .inl (cI, 8, .inl (v 11))), (a 12, .inl (cI, 10, .inl (v 12))), (a 13, .inl (cI, 5, .inl (v 13))), (a 14, .inl (cI, 5, .inl (v 14))), (a 16, .inl (cI, 128, .inl (v 16))), (a 17, .inl (cI, 128, .inl (v 17))), (a 18, .inl (cI, 128, .inl (v 18)))] := hD
          refine lv_aload_n hx hb dX5_act_88 rfl (lv_at hl 1 rfl) ?_
          refine va_get (D := D) (ci := 5) (v := .ref (a 5)) (C := RX5) (T := TX5) (N := 21) hx hb hts inX5 hown hK hP 0 rfl rfl 5 (by decide) fl22 (fun _ h9 => h9) rfl dX5_act_89 ?_
          refine lv_iload hx hb dX5_act_92 (lv_at hl 0 rfl) ?_
          refine lv_iload hx hb dX5_act_94 (lv_at hl 6 rfl) ?_
          refine xi_ast hx hb hK hP hD hS 5 0 rfl rfl (k := (40 * q + G.1 q)) (x := x3) (by omega) (by decide) dX5_act_96 (fun H locs hP hD hS => ?_)
          have hP : va_P D vwCl [(a 0, .inr (5, [.int 0, .ref (a 1), .ref (a 2), .ref (a 3), .ref (a 4), .ref (a 5), .ref (a 6), .ref (a 7), .ref (a 8), .ref (a 9), .int r, .ref (a 11), .ref (a 12), .ref (a 13), .ref (a 14), .int lv, .ref (a 16), .ref (a 17), .ref (a 18), .int b, .int o])), (a 1, .inl (cI, 6, .inl (v 1))), (a 2, .inl (cI, 240, .inl (upd (v 2) (40 * q + G.1 q) (nI kk)))), (a 3, .inl (cI, 240, .inl (upd (v 3) (40 * q + G.1 q) x1))), (a 4, .inl (cI, 240, .inl (upd (v 4) (40 * q + G.1 q) x2))), (a 5, .inl (cI, 240, .inl (upd (v 5) (40 * q + G.1 q) x3))), (a 6, .inl (cZ, 8, .inl (v 6))), (a 7, .inl (cI, 8, .inl (v 7))), (a 8, .inl (cI, 8, .inl (v 8))), (a 9, .inl (cI, 8, .inl (v 9))), (a 11, .inl (cI, 8, .inl (v 11))), (a 12, .inl (cI, 10, .inl (v 12))), (a 13, .inl (cI, 5, .inl (v 13))), (a 14, .inl (cI, 5, .inl (v 14))), (a 16, .inl (cI, 128, .inl (v 16))), (a 17, .inl (cI, 128, .inl (v 17))), (a 18, .inl (cI, 128, .inl (v 18)))] H := hP
          have hD : va_D A [(a 0, .inr (5, [.int 0, .ref (a 1), .ref (a 2), .ref (a 3), .ref (a 4), .ref (a 5), .ref (a 6), .ref (a 7), .ref (a 8), .ref (a 9), .int r, .ref (a 11), .ref (a 12), .ref (a 13), .ref (a 14), .int lv, .ref (a 16), .ref (a 17), .ref (a 18), .int b, .int o])), (a 1, .inl (cI, 6, .inl (v 1))), (a 2, .inl (cI, 240, .inl (upd (v 2) (40 * q + G.1 q) (nI kk)))), (a 3, .inl (cI, 240, .inl (upd (v 3) (40 * q + G.1 q) x1))), (a 4, .inl (cI, 240, .inl (upd (v 4) (40 * q + G.1 q) x2))), (a 5, .inl (cI, 240, .inl (upd (v 5) (40 * q + G.1 q) x3))), (a 6, .inl (cZ, 8, .inl (v 6))), (a 7, .inl (cI, 8, .inl (v 7))), (a 8, .inl (cI, 8, .inl (v 8))), (a 9, .inl (cI, 8, .inl (v 9))), (a 11, .inl (cI, 8, .inl (v 11))), (a 12, .inl (cI, 10, .inl (v 12))), (a 13, .inl (cI, 5, .inl (v 13))), (a 14, .inl (cI, 5, .inl (v 14))), (a 16, .inl (cI, 128, .inl (v 16))), (a 17, .inl (cI, 128, .inl (v 17))), (a 18, .inl (cI, 128, .inl (v 18)))] := hD
          refine lv_aload_n hx hb dX5_act_97 rfl (lv_at hl 1 rfl) ?_
          refine va_get (D := D) (ci := 5) (v := .ref (a 1)) (C := RX5) (T := TX5) (N := 21) hx hb hts inX5 hown hK hP 0 rfl rfl 1 (by decide) fl7 (fun _ h9 => h9) rfl dX5_act_98 ?_
          refine lv_iload_n hx hb dX5_act_101 rfl (lv_at hl 2 rfl) ?_
          refine lv_dup2_11 hx hb dX5_act_102 rfl rfl ?_
          refine xi_ald hx hb hK hP 1 0 rfl rfl (k := q) (by omega) (by decide) dX5_act_103 ?_
          refine tp (y := nI (G.1 q)) (hq1.1) ?_
          refine lv_iconst (v := 1) hx hb dX5_act_104 (by decide) ?_
          refine lv_iadd hx hb dX5_act_105 ?_
          refine tp (y := nI (G.1 q + 1)) (nI_1 _) ?_
          refine xi_ast hx hb hK hP hD hS 1 0 rfl rfl (k := q) (x := (nI (G.1 q + 1))) (by omega) (by decide) dX5_act_106 (fun H locs hP hD hS => ?_)
          have hP : va_P D vwCl [(a 0, .inr (5, [.int 0, .ref (a 1), .ref (a 2), .ref (a 3), .ref (a 4), .ref (a 5), .ref (a 6), .ref (a 7), .ref (a 8), .ref (a 9), .int r, .ref (a 11), .ref (a 12), .ref (a 13), .ref (a 14), .int lv, .ref (a 16), .ref (a 17), .ref (a 18), .int b, .int o])), (a 1, .inl (cI, 6, .inl (upd (v 1) q (nI (G.1 q + 1))))), (a 2, .inl (cI, 240, .inl (upd (v 2) (40 * q + G.1 q) (nI kk)))), (a 3, .inl (cI, 240, .inl (upd (v 3) (40 * q + G.1 q) x1))), (a 4, .inl (cI, 240, .inl (upd (v 4) (40 * q + G.1 q) x2))), (a 5, .inl (cI, 240, .inl (upd (v 5) (40 * q + G.1 q) x3))), (a 6, .inl (cZ, 8, .inl (v 6))), (a 7, .inl (cI, 8, .inl (v 7))), (a 8, .inl (cI, 8, .inl (v 8))), (a 9, .inl (cI, 8, .inl (v 9))), (a 11, .inl (cI, 8, .inl (v 11))), (a 12, .inl (cI, 10, .inl (v 12))), (a 13, .inl (cI, 5, .inl (v 13))), (a 14, .inl (cI, 5, .inl (v 14))), (a 16, .inl (cI, 128, .inl (v 16))), (a 17, .inl (cI, 128, .inl (v 17))), (a 18, .inl (cI, 128, .inl (v 18)))] H := hP
          have hD : va_D A [(a 0, .inr (5, [.int 0, .ref (a 1), .ref (a 2), .ref (a 3), .ref (a 4), .ref (a 5), .ref (a 6), .ref (a 7), .ref (a 8), .ref (a 9), .int r, .ref (a 11), .ref (a 12), .ref (a 13), .ref (a 14), .int lv, .ref (a 16), .ref (a 17), .ref (a 18), .int b, .int o])), (a 1, .inl (cI, 6, .inl (upd (v 1) q (nI (G.1 q + 1))))), (a 2, .inl (cI, 240, .inl (upd (v 2) (40 * q + G.1 q) (nI kk)))), (a 3, .inl (cI, 240, .inl (upd (v 3) (40 * q + G.1 q) x1))), (a 4, .inl (cI, 240, .inl (upd (v 4) (40 * q + G.1 q) x2))), (a 5, .inl (cI, 240, .inl (upd (v 5) (40 * q + G.1 q) x3))), (a 6, .inl (cZ, 8, .inl (v 6))), (a 7, .inl (cI, 8, .inl (v 7))), (a 8, .inl (cI, 8, .inl (v 8))), (a 9, .inl (cI, 8, .inl (v 9))), (a 11, .inl (cI, 8, .inl (v 11))), (a 12, .inl (cI, 10, .inl (v 12))), (a 13, .inl (cI, 5, .inl (v 13))), (a 14, .inl (cI, 5, .inl (v 14))), (a 16, .inl (cI, 128, .inl (v 16))), (a 17, .inl (cI, 128, .inl (v 17))), (a 18, .inl (cI, 128, .inl (v 18)))] := hD
          refine lv_aload_n hx hb dX5_act_107 rfl (lv_at hl 1 rfl) ?_
          refine va_get (D := D) (ci := 5) (v := .ref (a 1)) (C := RX5) (T := TX5) (N := 21) hx hb hts inX5 hown hK hP 0 rfl rfl 1 (by decide) fl7 (fun _ h9 => h9) rfl dX5_act_108 ?_
          refine lv_iload_n hx hb dX5_act_111 rfl (lv_at hl 2 rfl) ?_
          refine xi_ald hx hb hK hP 1 0 rfl rfl (k := q) (by omega) (by decide) dX5_act_112 ?_
          refine tp (y := nI (G.1 q + 1)) (pk_us) ?_
          refine lv_iconst (v := 1) hx hb dX5_act_113 (by decide) ?_
          refine lv_isub hx hb dX5_act_114 ?_
          refine tp (y := nI (G.1 q)) (nI_pred _) ?_
          exact Ri (D := D) (va_up (va_up (va_up (va_up (va_up v 2 (upd (v 2) (40 * q + G.1 q) (nI kk))) 3 (upd (v 3) (40 * q + G.1 q) x1)) 4 (upd (v 4) (40 * q + G.1 q) x2)) 5 (upd (v 5) (40 * q + G.1 q) x3)) 1 (upd (v 1) q (nI (G.1 q + 1)))) hx hb hr rfl hlocks hP hD hS (by rw [F_act_in hq6 hs16 hf c_44]; exact ⟨rfl, rpl_act hR.1 hq6 hs16 hf (by omega), hR.2⟩) dX5_act_115
        · have c_44 : (G.1 q) = 40 := (nI_eq (a := (G.1 q)) (b := 40) (by omega) (by omega)).mp c_44
          refine lv_bipush (v := (-2)) hx hb dX5_act_47 (by decide) ?_
          exact Ri (D := D) v hx hb hr rfl hlocks hP hD hS (by rw [F_act_full hq6 hs16 hf c_44]; exact ⟨rfl, hR⟩) dX5_act_49
      · refine lv_if_ne (tgt := 36) hx hb dX5_act_31 (by decide) (fun c9 => absurd rfl c9) (fun _ => ?_)
        refine lv_iconst (v := (-1)) hx hb dX5_act_34 (by decide) ?_
        exact Ri (D := D) v hx hb hr rfl hlocks hP hD hS (by rw [F_act_no (fun q => hf (by have q9 := q.2.2; rw [dg_nI (by omega)] at q9; exact q9))]; exact ⟨rfl, hR⟩) dX5_act_35
    · refine lv_if_eq (tgt := 34) hx hb dX5_act_19 (by decide) (fun _ => ?_) (fun c9 => absurd (by decide) c9)
      refine lv_iconst (v := (-1)) hx hb dX5_act_34 (by decide) ?_
      exact Ri (D := D) v hx hb hr rfl hlocks hP hD hS (by rw [F_act_no (fun q => hi16 (inN_d (m := 9) (by decide) rfl q.2.1))]; exact ⟨rfl, hR⟩) dX5_act_35
  · refine lv_if_eq (tgt := 34) hx hb dX5_act_9 (by decide) (fun _ => ?_) (fun c9 => absurd (by decide) c9)
    refine lv_iconst (v := (-1)) hx hb dX5_act_34 (by decide) ?_
    exact Ri (D := D) v hx hb hr rfl hlocks hP hD hS (by rw [F_act_no (fun q => hp6 q.1)]; exact ⟨rfl, hR⟩) dX5_act_35
