set_option maxHeartbeats 4000000 in
set_option maxRecDepth 100000 in
theorem c_X4_clear (l : Launch) (D : va_G) (cI cP : ClassId) (a : Nat → Nat) (pc : Nat → Int32) (pf : Nat → Nat → Int32) (g l_ h : Nat → Int32) (r : Int32) (k n b ct td : Nat → Int32) (op x y z : Int32) (G : GP) (go : Nat → Nat) (lf : Nat → Int32) (rs : Int32) (td_ ct_ : Nat → Int32) (hpl : Dpl pc pf G) (hDp : Dp G go lf rs td_ ct_ (cnt []) g l_ h r ct td) (x0 : Int32) : Ci l D [(cI, .int), (cP, .object RX1)] yX4_clear wsX4_clear ({ frames := 1, cells := 0, slots := 0, locals := 21 }) [.ref (a 0), .int x0] (wD a cI cP pc pf g l_ h r k n b (nI 0) ct td op x y z) (S := (Nat → Int32) × (Nat → Nat → Int32)) (fun w u => w = (F_clear G x0).1 ∧ Dpl u.1 u.2 (F_clear G x0).2) (fun u => wD a cI cP u.1 u.2 g l_ h r k n b (nI 0) ct td op x y z) := by
  refine Ci.mk (cc := cX4_clear) (maxL := 2) (ret := (some .int)) (by decide +kernel) rfl (Nat.le_of_ble_eq_true rfl) ?_
  intro pg e s m below meth c A ls hx hb hml hr hown hts hlocks hK hns hA hP hD hS hl
  have hl : lv_has ls 2 [(0, .ref (a 0)), (1, .int x0)] := hl
  have fl11 := hts (.fieldLink RX4 11 "HeldShelves" "plans" "[LHeldShelves$Plan;") (List.mem_of_getElem? (i := 1) rfl)
  have inX4 : ∀ w ∈ wsX40, w ∈ wsX4_clear := fun _ h => List.mem_cons_of_mem _ (List.mem_append_left _ (List.mem_append_right _ h))
  have hP : va_P D vwCl ([(a 0, .inr (4, [.ref (a 1), .ref (a 14), .ref (a 18), .ref (a 22), .int x, .int y, .int z])), (a 1, .inl (cP, 6, .inr (.inr (.inr (.inr (fun k => some (a (2 + 2 * k))))))))] ++ ((wPs a cI pc pf) ++ ((wSt (sh 14 a) cI g l_ h r) ++ ((wOp (sh 18 a) cI k n b (nI 0)) ++ (wRp (sh 22 a) cI ct td op))))) s.heap := hP
  have hD : va_D A ([(a 0, .inr (4, [.ref (a 1), .ref (a 14), .ref (a 18), .ref (a 22), .int x, .int y, .int z])), (a 1, .inl (cP, 6, .inr (.inr (.inr (.inr (fun k => some (a (2 + 2 * k))))))))] ++ ((wPs a cI pc pf) ++ ((wSt (sh 14 a) cI g l_ h r) ++ ((wOp (sh 18 a) cI k n b (nI 0)) ++ (wRp (sh 22 a) cI ct td op))))) := hD
  refine lv_iload_n hx hb dX4_clear_0 rfl (lv_at hl 1 rfl) ?_
  refine cl_Si (As := [.int x0]) (rest := []) (c_X4_isPlan l D x0) ⟨hx, hb, hml, hown, hts⟩ (cwS 1 hts gX4_clear_X4_isPlan rfl rfl rfl (by decide +kernel) ⟨Nat.le_of_ble_eq_true rfl, Nat.le_of_ble_eq_true rfl⟩) hK hns hP hD hS hA rfl hl.1 rfl (Nat.le_of_ble_eq_true rfl) dX4_clear_1 ⟨Nat.zero_le _, Nat.zero_le _⟩ (fun r1 u1 H locs hw1 hP hD hS => ?_)
  rcases hw1 with ⟨rfl, hp1⟩ | ⟨rfl, hp1⟩
  · obtain ⟨q, hq6, rfl⟩ := hp1
    refine lv_if_eq (tgt := 19) hx hb dX4_clear_4 (by decide) (fun c9 => absurd c9 (by decide)) (fun _ => ?_)
    refine lv_aload_n hx hb dX4_clear_7 rfl (lv_at hl 0 rfl) ?_
    refine va_get (D := D) (ci := 4) (v := .ref (a 1)) (C := RX4) (T := TX4) (N := 7) hx hb hts inX4 hown hK hP 0 rfl rfl 0 (by decide) fl11 (fun _ h9 => h9) rfl dX4_clear_8 ?_
    refine lv_iload_n hx hb dX4_clear_11 rfl (lv_at hl 1 rfl) ?_
    refine xa_ald hx hb hK hP 1 1 rfl rfl (k := q) (v := (a (2 + 2 * q))) rfl (by omega) (by decide) dX4_clear_12 ?_
    have hPq := hP
    have hDq := hD
    rw [wsplit _ _ (hq6), (hpl q (hq6)).1] at hPq hDq
    refine cl_Vi _ _ (As := []) (rest := []) (c_X1_empty l D cI (a (2 + 2 * q)) (a (3 + 2 * q)) (pf q) (G.1 q)) ⟨hx, hb, hml, hown, hts⟩ (cwV 0 hts gX4_clear_X1_empty rfl rfl rfl (by decide +kernel) ⟨Nat.le_of_ble_eq_true rfl, Nat.le_of_ble_eq_true rfl⟩) (hK.sub [0] rfl) hns hPq hDq hS hA rfl (T := TX1) (N := 2) rfl rfl hl.1 rfl (Nat.le_of_ble_eq_true rfl) dX4_clear_13 ⟨Nat.zero_le _, Nat.zero_le _⟩ (fun r13 u13 H locs hw13 hP hD hS => ?_)
    have hP : va_P D vwCl ([(a 0, .inr (4, [.ref (a 1), .ref (a 14), .ref (a 18), .ref (a 22), .int x, .int y, .int z])), (a 1, .inl (cP, 6, .inr (.inr (.inr (.inr (fun k => some (a (2 + 2 * k))))))))] ++ ((wPs a cI (upd pc q 0) (va_up pf q (pf q))) ++ ((wSt (sh 14 a) cI g l_ h r) ++ ((wOp (sh 18 a) cI k n b (nI 0)) ++ (wRp (sh 22 a) cI ct td op))))) H := by rw [← wsplitU _ _ (hq6)]; exact hP
    have hD : va_D A ([(a 0, .inr (4, [.ref (a 1), .ref (a 14), .ref (a 18), .ref (a 22), .int x, .int y, .int z])), (a 1, .inl (cP, 6, .inr (.inr (.inr (.inr (fun k => some (a (2 + 2 * k))))))))] ++ ((wPs a cI (upd pc q 0) (va_up pf q (pf q))) ++ ((wSt (sh 14 a) cI g l_ h r) ++ ((wOp (sh 18 a) cI k n b (nI 0)) ++ (wRp (sh 22 a) cI ct td op))))) := by rw [← wsplitU _ _ (hq6)]; exact hD
    subst hw13
    refine lv_goto (tgt := 20) hx hb dX4_clear_16 (by decide) ?_
    exact Ri (D := D) (upd pc q 0, va_up pf q (pf q)) hx hb hr rfl hlocks hP hD hS (by rw [F_clear_in hq6]; exact ⟨rfl, Dpl_clear hpl⟩) dX4_clear_20
  · refine lv_if_eq (tgt := 19) hx hb dX4_clear_4 (by decide) (fun _ => ?_) (fun c9 => absurd (by decide) c9)
    refine lv_iconst (v := (-1)) hx hb dX4_clear_19 (by decide) ?_
    exact Ri (D := D) (pc, pf) hx hb hr rfl hlocks hP hD hS (by rw [F_clear_no hp1]; exact ⟨rfl, hpl⟩) dX4_clear_20

set_option maxHeartbeats 4000000 in
set_option maxRecDepth 100000 in
theorem c_X4_closed (l : Launch) (D : va_G) (cI cP : ClassId) (a : Nat → Nat) (pc : Nat → Int32) (pf : Nat → Nat → Int32) (g l_ h : Nat → Int32) (r : Int32) (k n b ct td : Nat → Int32) (op x y z : Int32) (G : GP) (go : Nat → Nat) (lf : Nat → Int32) (rs : Int32) (td_ ct_ : Nat → Int32) (hpl : Dpl pc pf G) (hDp : Dp G go lf rs td_ ct_ (cnt []) g l_ h r ct td) (x0 : Int32) : Ci l D [(cI, .int), (cP, .object RX1)] yX4_closed wsX4_closed ({ frames := 3, cells := 0, slots := 0, locals := 65 }) [.ref (a 0), .int x0] (wD a cI cP pc pf g l_ h r k n b (nI 0) ct td op x y z) (S := Unit) (fun w _ => w = F_closed G x0) (fun _ => wD a cI cP pc pf g l_ h r k n b (nI 0) ct td op x y z) := by
  refine Ci.mk (cc := cX4_closed) (maxL := 2) (ret := (some .int)) (by decide +kernel) rfl (Nat.le_of_ble_eq_true rfl) ?_
  intro pg e s m below meth c A ls hx hb hml hr hown hts hlocks hK hns hA hP hD hS hl
  have hl : lv_has ls 2 [(0, .ref (a 0)), (1, .int x0)] := hl
  have fl11 := hts (.fieldLink RX4 11 "HeldShelves" "plans" "[LHeldShelves$Plan;") (List.mem_of_getElem? (i := 1) rfl)
  have inX4 : ∀ w ∈ wsX40, w ∈ wsX4_closed := fun _ h => List.mem_cons_of_mem _ (List.mem_append_left _ (List.mem_append_right _ h))
  have hP : va_P D vwCl ([(a 0, .inr (4, [.ref (a 1), .ref (a 14), .ref (a 18), .ref (a 22), .int x, .int y, .int z])), (a 1, .inl (cP, 6, .inr (.inr (.inr (.inr (fun k => some (a (2 + 2 * k))))))))] ++ ((wPs a cI pc pf) ++ ((wSt (sh 14 a) cI g l_ h r) ++ ((wOp (sh 18 a) cI k n b (nI 0)) ++ (wRp (sh 22 a) cI ct td op))))) s.heap := hP
  have hD : va_D A ([(a 0, .inr (4, [.ref (a 1), .ref (a 14), .ref (a 18), .ref (a 22), .int x, .int y, .int z])), (a 1, .inl (cP, 6, .inr (.inr (.inr (.inr (fun k => some (a (2 + 2 * k))))))))] ++ ((wPs a cI pc pf) ++ ((wSt (sh 14 a) cI g l_ h r) ++ ((wOp (sh 18 a) cI k n b (nI 0)) ++ (wRp (sh 22 a) cI ct td op))))) := hD
  refine lv_iload_n hx hb dX4_closed_0 rfl (lv_at hl 1 rfl) ?_
  refine cl_Si (As := [.int x0]) (rest := []) (c_X4_isPlan l D x0) ⟨hx, hb, hml, hown, hts⟩ (cwS 1 hts gX4_closed_X4_isPlan rfl rfl rfl (by decide +kernel) ⟨Nat.le_of_ble_eq_true rfl, Nat.le_of_ble_eq_true rfl⟩) hK hns hP hD hS hA rfl hl.1 rfl (Nat.le_of_ble_eq_true rfl) dX4_closed_1 ⟨Nat.zero_le _, Nat.zero_le _⟩ (fun r1 u1 H locs hw1 hP hD hS => ?_)
  rcases hw1 with ⟨rfl, hp1⟩ | ⟨rfl, hp1⟩
  · obtain ⟨q, hq6, rfl⟩ := hp1
    refine lv_if_ne (tgt := 9) hx hb dX4_closed_4 (by decide) (fun _ => ?_) (fun c9 => absurd c9 (by decide))
    refine lv_aload_n hx hb dX4_closed_9 rfl (lv_at hl 0 rfl) ?_
    refine va_get (D := D) (ci := 4) (v := .ref (a 1)) (C := RX4) (T := TX4) (N := 7) hx hb hts inX4 hown hK hP 0 rfl rfl 0 (by decide) fl11 (fun _ h9 => h9) rfl dX4_closed_10 ?_
    refine lv_iload_n hx hb dX4_closed_13 rfl (lv_at hl 1 rfl) ?_
    refine xa_ald hx hb hK hP 1 1 rfl rfl (k := q) (v := (a (2 + 2 * q))) rfl (by omega) (by decide) dX4_closed_14 ?_
    have hPq := hP
    have hDq := hD
    rw [wsplit _ _ (hq6), (hpl q (hq6)).1] at hPq hDq
    refine cl_Vi _ _ (As := []) (rest := []) (c_X1_isClosed l D cI (a (2 + 2 * q)) (a (3 + 2 * q)) (pf q) (G.1 q) (G.2.1 q) (hpl q hq6).2) ⟨hx, hb, hml, hown, hts⟩ (cwV 0 hts gX4_closed_X1_isClosed rfl rfl rfl (by decide +kernel) ⟨Nat.le_of_ble_eq_true rfl, Nat.le_of_ble_eq_true rfl⟩) (hK.sub [0] rfl) hns hPq hDq hS hA rfl (T := TX1) (N := 2) rfl rfl hl.1 rfl (Nat.le_of_ble_eq_true rfl) dX4_closed_15 ⟨Nat.zero_le _, Nat.zero_le _⟩ (fun r15 u15 H locs hw15 hP hD hS => ?_)
    have hP : va_P D vwCl ([(a 0, .inr (4, [.ref (a 1), .ref (a 14), .ref (a 18), .ref (a 22), .int x, .int y, .int z])), (a 1, .inl (cP, 6, .inr (.inr (.inr (.inr (fun k => some (a (2 + 2 * k))))))))] ++ ((wPs a cI pc pf) ++ ((wSt (sh 14 a) cI g l_ h r) ++ ((wOp (sh 18 a) cI k n b (nI 0)) ++ (wRp (sh 22 a) cI ct td op))))) H := by rw [wsplit _ _ (hq6), (hpl q (hq6)).1]; exact hP
    have hD : va_D A ([(a 0, .inr (4, [.ref (a 1), .ref (a 14), .ref (a 18), .ref (a 22), .int x, .int y, .int z])), (a 1, .inl (cP, 6, .inr (.inr (.inr (.inr (fun k => some (a (2 + 2 * k))))))))] ++ ((wPs a cI pc pf) ++ ((wSt (sh 14 a) cI g l_ h r) ++ ((wOp (sh 18 a) cI k n b (nI 0)) ++ (wRp (sh 22 a) cI ct td op))))) := by rw [wsplit _ _ (hq6), (hpl q (hq6)).1]; exact hD
    rcases hw15 with ⟨rfl, hc⟩ | ⟨rfl, hc⟩
    · refine lv_if_eq (tgt := 25) hx hb dX4_closed_18 (by decide) (fun c9 => absurd c9 (by decide)) (fun _ => ?_)
      refine lv_iconst (v := 1) hx hb dX4_closed_21 (by decide) ?_
      refine lv_goto (tgt := 26) hx hb dX4_closed_22 (by decide) ?_
      exact Ri (D := D) () hx hb hr rfl hlocks hP hD hS (F_closed_1 hq6 hc).symm dX4_closed_26
    · refine lv_if_eq (tgt := 25) hx hb dX4_closed_18 (by decide) (fun _ => ?_) (fun c9 => absurd (by decide) c9)
      refine lv_iconst (v := 0) hx hb dX4_closed_25 (by decide) ?_
      exact Ri (D := D) () hx hb hr rfl hlocks hP hD hS (F_closed_0 hq6 hc).symm dX4_closed_26
  · refine lv_if_ne (tgt := 9) hx hb dX4_closed_4 (by decide) (fun c9 => absurd rfl c9) (fun _ => ?_)
    refine lv_iconst (v := (-1)) hx hb dX4_closed_7 (by decide) ?_
    exact Ri (D := D) () hx hb hr rfl hlocks hP hD hS (F_closed_no hp1).symm dX4_closed_8

set_option maxHeartbeats 4000000 in
set_option maxRecDepth 100000 in
theorem c_X4_shelf (l : Launch) (D : va_G) (cI cP : ClassId) (a : Nat → Nat) (pc : Nat → Int32) (pf : Nat → Nat → Int32) (g l_ h : Nat → Int32) (r : Int32) (k n b ct td : Nat → Int32) (op x y z : Int32) (G : GP) (go : Nat → Nat) (lf : Nat → Int32) (rs : Int32) (td_ ct_ : Nat → Int32) (hpl : Dpl pc pf G) (hDp : Dp G go lf rs td_ ct_ (cnt []) g l_ h r ct td) (x0 y0 : Int32) : Ci l D [(cI, .int), (cP, .object RX1)] yX4_shelf wsX4_shelf ({ frames := 3, cells := 0, slots := 0, locals := 64 }) [.ref (a 0), .int x0, .int y0] (wD a cI cP pc pf g l_ h r k n b (nI 0) ct td op x y z) (S := (Nat → Int32) × (Nat → Int32)) (fun w u => w = (F_shelf G go lf x0 y0).1 ∧ Dp (F_shelf G go lf x0 y0).2.1 (F_shelf G go lf x0 y0).2.2.1 (F_shelf G go lf x0 y0).2.2.2 rs td_ ct_ (cnt []) u.1 u.2 h r ct td) (fun u => wD a cI cP pc pf u.1 u.2 h r k n b (nI 0) ct td op x y z) := by
  refine Ci.mk (cc := cX4_shelf) (maxL := 3) (ret := (some .int)) (by decide +kernel) rfl (Nat.le_of_ble_eq_true rfl) ?_
  intro pg e s m below meth c A ls hx hb hml hr hown hts hlocks hK hns hA hP hD hS hl
  have hl : lv_has ls 3 [(0, .ref (a 0)), (1, .int x0), (2, .int y0)] := hl
  have fl19 := hts (.fieldLink RX4 19 "HeldShelves" "stock" "LHeldShelves$Stock;") (List.mem_of_getElem? (i := 1) rfl)
  have inX4 : ∀ w ∈ wsX40, w ∈ wsX4_shelf := fun _ h => List.mem_cons_of_mem _ (List.mem_append_left _ (List.mem_append_right _ h))
  have hP : va_P D vwCl ([(a 0, .inr (4, [.ref (a 1), .ref (a 14), .ref (a 18), .ref (a 22), .int x, .int y, .int z])), (a 1, .inl (cP, 6, .inr (.inr (.inr (.inr (fun k => some (a (2 + 2 * k))))))))] ++ ((wPs a cI pc pf) ++ ((wSt (sh 14 a) cI g l_ h r) ++ ((wOp (sh 18 a) cI k n b (nI 0)) ++ (wRp (sh 22 a) cI ct td op))))) s.heap := hP
  have hD : va_D A ([(a 0, .inr (4, [.ref (a 1), .ref (a 14), .ref (a 18), .ref (a 22), .int x, .int y, .int z])), (a 1, .inl (cP, 6, .inr (.inr (.inr (.inr (fun k => some (a (2 + 2 * k))))))))] ++ ((wPs a cI pc pf) ++ ((wSt (sh 14 a) cI g l_ h r) ++ ((wOp (sh 18 a) cI k n b (nI 0)) ++ (wRp (sh 22 a) cI ct td op))))) := hD
  refine lv_iload_n hx hb dX4_shelf_0 rfl (lv_at hl 1 rfl) ?_
  refine cl_Si (As := [.int x0]) (rest := []) (c_X4_isShelf l D x0) ⟨hx, hb, hml, hown, hts⟩ (cwS 1 hts gX4_shelf_X4_isShelf rfl rfl rfl (by decide +kernel) ⟨Nat.le_of_ble_eq_true rfl, Nat.le_of_ble_eq_true rfl⟩) hK hns hP hD hS hA rfl hl.1 rfl (Nat.le_of_ble_eq_true rfl) dX4_shelf_1 ⟨Nat.zero_le _, Nat.zero_le _⟩ (fun r1 u1 H locs hw1 hP hD hS => ?_)
  rcases hw1 with ⟨rfl, hp1⟩ | ⟨rfl, hp1⟩
  · obtain ⟨s0, hs8, rfl⟩ := hp1
    refine lv_if_eq (tgt := 19) hx hb dX4_shelf_4 (by decide) (fun c9 => absurd c9 (by decide)) (fun _ => ?_)
    refine lv_iload_n hx hb dX4_shelf_7 rfl (lv_at hl 2 rfl) ?_
    refine lv_iconst (v := (-1)) hx hb dX4_shelf_8 (by decide) ?_
    refine lv_icmp_lt (tgt := 19) hx hb dX4_shelf_9 (by decide) (fun c_9 => ?_) (fun c_9 => ?_)
    · refine lv_iconst (v := (-1)) hx hb dX4_shelf_19 (by decide) ?_
      exact Ri (D := D) (g, l_) hx hb hr rfl hlocks hP hD hS (by rw [F_shelf_no (fun q => absurd c_9 (Int32.not_lt.mpr q.2.1))]; exact ⟨rfl, hDp⟩) dX4_shelf_20
    · refine lv_iload_n hx hb dX4_shelf_12 rfl (lv_at hl 2 rfl) ?_
      refine lv_sipush (v := 1000) hx hb dX4_shelf_13 (by decide) ?_
      refine lv_icmp_le (tgt := 21) hx hb dX4_shelf_16 (by decide) (fun c_16 => ?_) (fun c_16 => ?_)
      · refine lv_aload_n hx hb dX4_shelf_21 rfl (lv_at hl 0 rfl) ?_
        refine va_get (D := D) (ci := 4) (v := .ref (a 14)) (C := RX4) (T := TX4) (N := 7) hx hb hts inX4 hown hK hP 0 rfl rfl 1 (by decide) fl19 (fun _ h9 => h9) rfl dX4_shelf_22 ?_
        refine lv_iload_n hx hb dX4_shelf_25 rfl (lv_at hl 1 rfl) ?_
        refine lv_iload_n hx hb dX4_shelf_26 rfl (lv_at hl 2 rfl) ?_
        refine cl_Vi ([(a 0, .inr (4, [.ref (a 1), .ref (a 14), .ref (a 18), .ref (a 22), .int x, .int y, .int z])), (a 1, .inl (cP, 6, .inr (.inr (.inr (.inr (fun k => some (a (2 + 2 * k))))))))] ++ (wPs a cI pc pf)) ((wOp (sh 18 a) cI k n b (nI 0)) ++ (wRp (sh 22 a) cI ct td op)) (As := [.int (nI s0), .int y0]) (rest := []) (c_X3_replace l D cI (sh 14 a) g l_ h r G.2.2 go hDp.1 s0 hs8 y0) ⟨hx, hb, hml, hown, hts⟩ (cwV 2 hts gX4_shelf_X3_replace rfl rfl rfl (by decide +kernel) ⟨Nat.le_of_ble_eq_true rfl, Nat.le_of_ble_eq_true rfl⟩) (hK.sub [0] rfl) hns hP hD hS hA rfl (T := TX3) (N := 4) rfl rfl hl.1 rfl (Nat.le_of_ble_eq_true rfl) dX4_shelf_27 ⟨Nat.zero_le _, Nat.zero_le _⟩ (fun r27 u27 H locs hw27 hP hD hS => ?_)
        have hP : va_P D vwCl ([(a 0, .inr (4, [.ref (a 1), .ref (a 14), .ref (a 18), .ref (a 22), .int x, .int y, .int z])), (a 1, .inl (cP, 6, .inr (.inr (.inr (.inr (fun k => some (a (2 + 2 * k))))))))] ++ ((wPs a cI pc pf) ++ ((wSt (sh 14 a) cI (upd g s0 y0) (upd l_ s0 0) h r) ++ ((wOp (sh 18 a) cI k n b (nI 0)) ++ (wRp (sh 22 a) cI ct td op))))) H := hP
        have hD : va_D A ([(a 0, .inr (4, [.ref (a 1), .ref (a 14), .ref (a 18), .ref (a 22), .int x, .int y, .int z])), (a 1, .inl (cP, 6, .inr (.inr (.inr (.inr (fun k => some (a (2 + 2 * k))))))))] ++ ((wPs a cI pc pf) ++ ((wSt (sh 14 a) cI (upd g s0 y0) (upd l_ s0 0) h r) ++ ((wOp (sh 18 a) cI k n b (nI 0)) ++ (wRp (sh 22 a) cI ct td op))))) := hD
        exact Ri (D := D) (upd g s0 y0, upd l_ s0 0) hx hb hr rfl hlocks hP hD hS (by rw [F_shelf_in hs8 (Int32.not_lt.mp c_9) c_16]; exact ⟨hw27, gok_shelf hDp.1 (Int32.not_lt.mp c_9) c_16, upd_le hDp.2.1 rfl, hDp.2.2⟩) dX4_shelf_30
      · refine lv_iconst (v := (-1)) hx hb dX4_shelf_19 (by decide) ?_
        exact Ri (D := D) (g, l_) hx hb hr rfl hlocks hP hD hS (by rw [F_shelf_no (fun q => c_16 q.2.2)]; exact ⟨rfl, hDp⟩) dX4_shelf_20
  · refine lv_if_eq (tgt := 19) hx hb dX4_shelf_4 (by decide) (fun _ => ?_) (fun c9 => absurd (by decide) c9)
    refine lv_iconst (v := (-1)) hx hb dX4_shelf_19 (by decide) ?_
    exact Ri (D := D) (g, l_) hx hb hr rfl hlocks hP hD hS (by rw [F_shelf_no (fun q => hp1 q.1)]; exact ⟨rfl, hDp⟩) dX4_shelf_20

set_option maxHeartbeats 4000000 in
set_option maxRecDepth 100000 in
theorem c_X4_told (l : Launch) (D : va_G) (cI cP : ClassId) (a : Nat → Nat) (pc : Nat → Int32) (pf : Nat → Nat → Int32) (g l_ h : Nat → Int32) (r : Int32) (k n b ct td : Nat → Int32) (op x y z : Int32) (G : GP) (go : Nat → Nat) (lf : Nat → Int32) (rs : Int32) (td_ ct_ : Nat → Int32) (hpl : Dpl pc pf G) (hDp : Dp G go lf rs td_ ct_ (cnt []) g l_ h r ct td) (x0 : Int32) : Ci l D [(cI, .int), (cP, .object RX1)] yX4_told wsX4_told ({ frames := 1, cells := 0, slots := 0, locals := 21 }) [.ref (a 0), .int x0] (wD a cI cP pc pf g l_ h r k n b (nI 0) ct td op x y z) (S := Unit) (fun w _ => w = tdv td_ x0) (fun _ => wD a cI cP pc pf g l_ h r k n b (nI 0) ct td op x y z) := by
  refine Ci.mk (cc := cX4_told) (maxL := 2) (ret := (some .int)) (by decide +kernel) rfl (Nat.le_of_ble_eq_true rfl) ?_
  intro pg e s m below meth c A ls hx hb hml hr hown hts hlocks hK hns hA hP hD hS hl
  have hl : lv_has ls 2 [(0, .ref (a 0)), (1, .int x0)] := hl
  have fl33 := hts (.fieldLink RX4 33 "HeldShelves" "report" "LHeldShelves$Report;") (List.mem_of_getElem? (i := 1) rfl)
  have inX4 : ∀ w ∈ wsX40, w ∈ wsX4_told := fun _ h => List.mem_cons_of_mem _ (List.mem_append_left _ (List.mem_append_right _ h))
  have hP : va_P D vwCl ([(a 0, .inr (4, [.ref (a 1), .ref (a 14), .ref (a 18), .ref (a 22), .int x, .int y, .int z])), (a 1, .inl (cP, 6, .inr (.inr (.inr (.inr (fun k => some (a (2 + 2 * k))))))))] ++ ((wPs a cI pc pf) ++ ((wSt (sh 14 a) cI g l_ h r) ++ ((wOp (sh 18 a) cI k n b (nI 0)) ++ (wRp (sh 22 a) cI ct td op))))) s.heap := hP
  have hD : va_D A ([(a 0, .inr (4, [.ref (a 1), .ref (a 14), .ref (a 18), .ref (a 22), .int x, .int y, .int z])), (a 1, .inl (cP, 6, .inr (.inr (.inr (.inr (fun k => some (a (2 + 2 * k))))))))] ++ ((wPs a cI pc pf) ++ ((wSt (sh 14 a) cI g l_ h r) ++ ((wOp (sh 18 a) cI k n b (nI 0)) ++ (wRp (sh 22 a) cI ct td op))))) := hD
  refine lv_aload_n hx hb dX4_told_0 rfl (lv_at hl 0 rfl) ?_
  refine va_get (D := D) (ci := 4) (v := .ref (a 22)) (C := RX4) (T := TX4) (N := 7) hx hb hts inX4 hown hK hP 0 rfl rfl 3 (by decide) fl33 (fun _ h9 => h9) rfl dX4_told_1 ?_
  refine lv_iload_n hx hb dX4_told_4 rfl (lv_at hl 1 rfl) ?_
  refine cl_Vi ([(a 0, .inr (4, [.ref (a 1), .ref (a 14), .ref (a 18), .ref (a 22), .int x, .int y, .int z])), (a 1, .inl (cP, 6, .inr (.inr (.inr (.inr (fun k => some (a (2 + 2 * k))))))))] ++ ((wPs a cI pc pf) ++ ((wSt (sh 14 a) cI g l_ h r) ++ (wOp (sh 18 a) cI k n b (nI 0))))) ([]) (As := [.int x0]) (rest := []) (c_X2_number l D cI (sh 22 a) ct td op x0) ⟨hx, hb, hml, hown, hts⟩ (cwV 1 hts gX4_told_X2_number rfl rfl rfl (by decide +kernel) ⟨Nat.le_of_ble_eq_true rfl, Nat.le_of_ble_eq_true rfl⟩) (hK.sub [0] rfl) hns hP hD hS hA rfl (T := TX2) (N := 10) rfl rfl hl.1 rfl (Nat.le_of_ble_eq_true rfl) dX4_told_5 ⟨Nat.zero_le _, Nat.zero_le _⟩ (fun r5 u5 H locs hw5 hP hD hS => ?_)
  have hP : va_P D vwCl ([(a 0, .inr (4, [.ref (a 1), .ref (a 14), .ref (a 18), .ref (a 22), .int x, .int y, .int z])), (a 1, .inl (cP, 6, .inr (.inr (.inr (.inr (fun k => some (a (2 + 2 * k))))))))] ++ ((wPs a cI pc pf) ++ ((wSt (sh 14 a) cI g l_ h r) ++ ((wOp (sh 18 a) cI k n b (nI 0)) ++ (wRp (sh 22 a) cI ct td op))))) H := hP
  have hD : va_D A ([(a 0, .inr (4, [.ref (a 1), .ref (a 14), .ref (a 18), .ref (a 22), .int x, .int y, .int z])), (a 1, .inl (cP, 6, .inr (.inr (.inr (.inr (fun k => some (a (2 + 2 * k))))))))] ++ ((wPs a cI pc pf) ++ ((wSt (sh 14 a) cI g l_ h r) ++ ((wOp (sh 18 a) cI k n b (nI 0)) ++ (wRp (sh 22 a) cI ct td op))))) := hD
  exact Ri (D := D) () hx hb hr rfl hlocks hP hD hS (hw5.trans (tdv_congr hDp.2.2.2.2.1)) dX4_told_8

set_option maxHeartbeats 4000000 in
set_option maxRecDepth 100000 in
theorem c_X4_caught (l : Launch) (D : va_G) (cI cP : ClassId) (a : Nat → Nat) (pc : Nat → Int32) (pf : Nat → Nat → Int32) (g l_ h : Nat → Int32) (r : Int32) (k n b ct td : Nat → Int32) (op x y z : Int32) (G : GP) (go : Nat → Nat) (lf : Nat → Int32) (rs : Int32) (td_ ct_ : Nat → Int32) (hpl : Dpl pc pf G) (hDp : Dp G go lf rs td_ ct_ (cnt []) g l_ h r ct td) (x0 : Int32) : Ci l D [(cI, .int), (cP, .object RX1)] yX4_caught wsX4_caught ({ frames := 1, cells := 0, slots := 0, locals := 21 }) [.ref (a 0), .int x0] (wD a cI cP pc pf g l_ h r k n b (nI 0) ct td op x y z) (S := Unit) (fun w _ => w = tcv ct_ x0) (fun _ => wD a cI cP pc pf g l_ h r k n b (nI 0) ct td op x y z) := by
  refine Ci.mk (cc := cX4_caught) (maxL := 2) (ret := (some .int)) (by decide +kernel) rfl (Nat.le_of_ble_eq_true rfl) ?_
  intro pg e s m below meth c A ls hx hb hml hr hown hts hlocks hK hns hA hP hD hS hl
  have hl : lv_has ls 2 [(0, .ref (a 0)), (1, .int x0)] := hl
  have fl33 := hts (.fieldLink RX4 33 "HeldShelves" "report" "LHeldShelves$Report;") (List.mem_of_getElem? (i := 1) rfl)
  have inX4 : ∀ w ∈ wsX40, w ∈ wsX4_caught := fun _ h => List.mem_cons_of_mem _ (List.mem_append_left _ (List.mem_append_right _ h))
  have hP : va_P D vwCl ([(a 0, .inr (4, [.ref (a 1), .ref (a 14), .ref (a 18), .ref (a 22), .int x, .int y, .int z])), (a 1, .inl (cP, 6, .inr (.inr (.inr (.inr (fun k => some (a (2 + 2 * k))))))))] ++ ((wPs a cI pc pf) ++ ((wSt (sh 14 a) cI g l_ h r) ++ ((wOp (sh 18 a) cI k n b (nI 0)) ++ (wRp (sh 22 a) cI ct td op))))) s.heap := hP
  have hD : va_D A ([(a 0, .inr (4, [.ref (a 1), .ref (a 14), .ref (a 18), .ref (a 22), .int x, .int y, .int z])), (a 1, .inl (cP, 6, .inr (.inr (.inr (.inr (fun k => some (a (2 + 2 * k))))))))] ++ ((wPs a cI pc pf) ++ ((wSt (sh 14 a) cI g l_ h r) ++ ((wOp (sh 18 a) cI k n b (nI 0)) ++ (wRp (sh 22 a) cI ct td op))))) := hD
  refine lv_aload_n hx hb dX4_caught_0 rfl (lv_at hl 0 rfl) ?_
  refine va_get (D := D) (ci := 4) (v := .ref (a 22)) (C := RX4) (T := TX4) (N := 7) hx hb hts inX4 hown hK hP 0 rfl rfl 3 (by decide) fl33 (fun _ h9 => h9) rfl dX4_caught_1 ?_
  refine lv_iload_n hx hb dX4_caught_4 rfl (lv_at hl 1 rfl) ?_
  refine cl_Vi ([(a 0, .inr (4, [.ref (a 1), .ref (a 14), .ref (a 18), .ref (a 22), .int x, .int y, .int z])), (a 1, .inl (cP, 6, .inr (.inr (.inr (.inr (fun k => some (a (2 + 2 * k))))))))] ++ ((wPs a cI pc pf) ++ ((wSt (sh 14 a) cI g l_ h r) ++ (wOp (sh 18 a) cI k n b (nI 0))))) ([]) (As := [.int x0]) (rest := []) (c_X2_timesCaught l D cI (sh 22 a) ct td op x0) ⟨hx, hb, hml, hown, hts⟩ (cwV 1 hts gX4_caught_X2_timesCaught rfl rfl rfl (by decide +kernel) ⟨Nat.le_of_ble_eq_true rfl, Nat.le_of_ble_eq_true rfl⟩) (hK.sub [0] rfl) hns hP hD hS hA rfl (T := TX2) (N := 10) rfl rfl hl.1 rfl (Nat.le_of_ble_eq_true rfl) dX4_caught_5 ⟨Nat.zero_le _, Nat.zero_le _⟩ (fun r5 u5 H locs hw5 hP hD hS => ?_)
  have hP : va_P D vwCl ([(a 0, .inr (4, [.ref (a 1), .ref (a 14), .ref (a 18), .ref (a 22), .int x, .int y, .int z])), (a 1, .inl (cP, 6, .inr (.inr (.inr (.inr (fun k => some (a (2 + 2 * k))))))))] ++ ((wPs a cI pc pf) ++ ((wSt (sh 14 a) cI g l_ h r) ++ ((wOp (sh 18 a) cI k n b (nI 0)) ++ (wRp (sh 22 a) cI ct td op))))) H := hP
  have hD : va_D A ([(a 0, .inr (4, [.ref (a 1), .ref (a 14), .ref (a 18), .ref (a 22), .int x, .int y, .int z])), (a 1, .inl (cP, 6, .inr (.inr (.inr (.inr (fun k => some (a (2 + 2 * k))))))))] ++ ((wPs a cI pc pf) ++ ((wSt (sh 14 a) cI g l_ h r) ++ ((wOp (sh 18 a) cI k n b (nI 0)) ++ (wRp (sh 22 a) cI ct td op))))) := hD
  exact Ri (D := D) () hx hb hr rfl hlocks hP hD hS (hw5.trans (tcv_congr hDp.2.2.2.2.2)) dX4_caught_8

set_option maxHeartbeats 4000000 in
set_option maxRecDepth 100000 in
theorem c_X4_about (l : Launch) (D : va_G) (cI cP : ClassId) (a : Nat → Nat) (pc : Nat → Int32) (pf : Nat → Nat → Int32) (g l_ h : Nat → Int32) (r : Int32) (k n b ct td : Nat → Int32) (op x y z : Int32) (G : GP) (go : Nat → Nat) (lf : Nat → Int32) (rs : Int32) (td_ ct_ : Nat → Int32) (hpl : Dpl pc pf G) (hDp : Dp G go lf rs td_ ct_ (cnt []) g l_ h r ct td) (x0 y0 : Int32) : Ci l D [(cI, .int), (cP, .object RX1)] yX4_about wsX4_about ({ frames := 3, cells := 0, slots := 0, locals := 62 }) [.ref (a 0), .int x0, .int y0] (wD a cI cP pc pf g l_ h r k n b (nI 0) ct td op x y z) (S := Unit) (fun w _ => w = F_about G go lf x0 y0) (fun _ => wD a cI cP pc pf g l_ h r k n b (nI 0) ct td op x y z) := by
  refine Ci.mk (cc := cX4_about) (maxL := 3) (ret := (some .int)) (by decide +kernel) rfl (Nat.le_of_ble_eq_true rfl) ?_
  intro pg e s m below meth c A ls hx hb hml hr hown hts hlocks hK hns hA hP hD hS hl
  have hl : lv_has ls 3 [(0, .ref (a 0)), (1, .int x0), (2, .int y0)] := hl
  have fl19 := hts (.fieldLink RX4 19 "HeldShelves" "stock" "LHeldShelves$Stock;") (List.mem_of_getElem? (i := 1) rfl)
  have inX4 : ∀ w ∈ wsX40, w ∈ wsX4_about := fun _ h => List.mem_cons_of_mem _ (List.mem_append_left _ (List.mem_append_right _ h))
  have hP : va_P D vwCl ([(a 0, .inr (4, [.ref (a 1), .ref (a 14), .ref (a 18), .ref (a 22), .int x, .int y, .int z])), (a 1, .inl (cP, 6, .inr (.inr (.inr (.inr (fun k => some (a (2 + 2 * k))))))))] ++ ((wPs a cI pc pf) ++ ((wSt (sh 14 a) cI g l_ h r) ++ ((wOp (sh 18 a) cI k n b (nI 0)) ++ (wRp (sh 22 a) cI ct td op))))) s.heap := hP
  have hD : va_D A ([(a 0, .inr (4, [.ref (a 1), .ref (a 14), .ref (a 18), .ref (a 22), .int x, .int y, .int z])), (a 1, .inl (cP, 6, .inr (.inr (.inr (.inr (fun k => some (a (2 + 2 * k))))))))] ++ ((wPs a cI pc pf) ++ ((wSt (sh 14 a) cI g l_ h r) ++ ((wOp (sh 18 a) cI k n b (nI 0)) ++ (wRp (sh 22 a) cI ct td op))))) := hD
  refine lv_iload_n hx hb dX4_about_0 rfl (lv_at hl 1 rfl) ?_
  refine cl_Si (As := [.int x0]) (rest := []) (c_X4_isShelf l D x0) ⟨hx, hb, hml, hown, hts⟩ (cwS 1 hts gX4_about_X4_isShelf rfl rfl rfl (by decide +kernel) ⟨Nat.le_of_ble_eq_true rfl, Nat.le_of_ble_eq_true rfl⟩) hK hns hP hD hS hA rfl hl.1 rfl (Nat.le_of_ble_eq_true rfl) dX4_about_1 ⟨Nat.zero_le _, Nat.zero_le _⟩ (fun r1 u1 H locs hw1 hP hD hS => ?_)
  rcases hw1 with ⟨rfl, hp1⟩ | ⟨rfl, hp1⟩
  · obtain ⟨s0, hs8, rfl⟩ := hp1
    refine lv_if_eq (tgt := 16) hx hb dX4_about_4 (by decide) (fun c9 => absurd c9 (by decide)) (fun _ => ?_)
    refine lv_iload_n hx hb dX4_about_7 rfl (lv_at hl 2 rfl) ?_
    refine lv_if_lt (tgt := 16) hx hb dX4_about_8 (by decide) (fun c_8 => ?_) (fun c_8 => ?_)
    · refine lv_iconst (v := (-1)) hx hb dX4_about_16 (by decide) ?_
      exact Ri (D := D) () hx hb hr rfl hlocks hP hD hS (F_about_no (fun q => inN_lo (by decide) q.2 c_8)).symm dX4_about_17
    · refine lv_iload_n hx hb dX4_about_11 rfl (lv_at hl 2 rfl) ?_
      refine lv_iconst (v := 1) hx hb dX4_about_12 (by decide) ?_
      refine lv_icmp_le (tgt := 18) hx hb dX4_about_13 (by decide) (fun c_13 => ?_) (fun c_13 => ?_)
      · refine lv_aload_n hx hb dX4_about_18 rfl (lv_at hl 0 rfl) ?_
        refine va_get (D := D) (ci := 4) (v := .ref (a 14)) (C := RX4) (T := TX4) (N := 7) hx hb hts inX4 hown hK hP 0 rfl rfl 1 (by decide) fl19 (fun _ h9 => h9) rfl dX4_about_19 ?_
        refine lv_iload_n hx hb dX4_about_22 rfl (lv_at hl 1 rfl) ?_
        refine cl_Vi ([(a 0, .inr (4, [.ref (a 1), .ref (a 14), .ref (a 18), .ref (a 22), .int x, .int y, .int z])), (a 1, .inl (cP, 6, .inr (.inr (.inr (.inr (fun k => some (a (2 + 2 * k))))))))] ++ (wPs a cI pc pf)) ((wOp (sh 18 a) cI k n b (nI 0)) ++ (wRp (sh 22 a) cI ct td op)) (As := [.int (nI s0)]) (rest := []) (c_X3_isThere l D cI (sh 14 a) g l_ h r G.2.2 go hDp.1 s0 (by omega)) ⟨hx, hb, hml, hown, hts⟩ (cwV 1 hts gX4_about_X3_isThere rfl rfl rfl (by decide +kernel) ⟨Nat.le_of_ble_eq_true rfl, Nat.le_of_ble_eq_true rfl⟩) (hK.sub [0] rfl) hns hP hD hS hA rfl (T := TX3) (N := 4) rfl rfl hl.1 rfl (Nat.le_of_ble_eq_true rfl) dX4_about_23 ⟨Nat.zero_le _, Nat.zero_le _⟩ (fun r23 u23 H locs hw23 hP hD hS => ?_)
        have hP : va_P D vwCl ([(a 0, .inr (4, [.ref (a 1), .ref (a 14), .ref (a 18), .ref (a 22), .int x, .int y, .int z])), (a 1, .inl (cP, 6, .inr (.inr (.inr (.inr (fun k => some (a (2 + 2 * k))))))))] ++ ((wPs a cI pc pf) ++ ((wSt (sh 14 a) cI g l_ h r) ++ ((wOp (sh 18 a) cI k n b (nI 0)) ++ (wRp (sh 22 a) cI ct td op))))) H := hP
        have hD : va_D A ([(a 0, .inr (4, [.ref (a 1), .ref (a 14), .ref (a 18), .ref (a 22), .int x, .int y, .int z])), (a 1, .inl (cP, 6, .inr (.inr (.inr (.inr (fun k => some (a (2 + 2 * k))))))))] ++ ((wPs a cI pc pf) ++ ((wSt (sh 14 a) cI g l_ h r) ++ ((wOp (sh 18 a) cI k n b (nI 0)) ++ (wRp (sh 22 a) cI ct td op))))) := hD
        rcases hw23 with ⟨rfl, ht⟩ | ⟨rfl, ht⟩
        · refine lv_if_ne (tgt := 32) hx hb dX4_about_26 (by decide) (fun _ => ?_) (fun c9 => absurd c9 (by decide))
          refine lv_iload_n hx hb dX4_about_32 rfl (lv_at hl 2 rfl) ?_
          refine lv_if_ne (tgt := 47) hx hb dX4_about_33 (by decide) (fun c_33 => ?_) (fun c_33 => ?_)
          · refine lv_aload_n hx hb dX4_about_47 rfl (lv_at hl 0 rfl) ?_
            refine va_get (D := D) (ci := 4) (v := .ref (a 14)) (C := RX4) (T := TX4) (N := 7) hx hb hts inX4 hown hK hP 0 rfl rfl 1 (by decide) fl19 (fun _ h9 => h9) rfl dX4_about_48 ?_
            refine lv_iload_n hx hb dX4_about_51 rfl (lv_at hl 1 rfl) ?_
            refine cl_Vi ([(a 0, .inr (4, [.ref (a 1), .ref (a 14), .ref (a 18), .ref (a 22), .int x, .int y, .int z])), (a 1, .inl (cP, 6, .inr (.inr (.inr (.inr (fun k => some (a (2 + 2 * k))))))))] ++ (wPs a cI pc pf)) ((wOp (sh 18 a) cI k n b (nI 0)) ++ (wRp (sh 22 a) cI ct td op)) (As := [.int (nI s0)]) (rest := []) (c_X3_leftOf l D cI (sh 14 a) g l_ h r G.2.2 go hDp.1 s0 hs8) ⟨hx, hb, hml, hown, hts⟩ (cwV 1 hts gX4_about_X3_leftOf rfl rfl rfl (by decide +kernel) ⟨Nat.le_of_ble_eq_true rfl, Nat.le_of_ble_eq_true rfl⟩) (hK.sub [0] rfl) hns hP hD hS hA rfl (T := TX3) (N := 4) rfl rfl hl.1 rfl (Nat.le_of_ble_eq_true rfl) dX4_about_52 ⟨Nat.zero_le _, Nat.zero_le _⟩ (fun r52 u52 H locs hw52 hP hD hS => ?_)
            have hP : va_P D vwCl ([(a 0, .inr (4, [.ref (a 1), .ref (a 14), .ref (a 18), .ref (a 22), .int x, .int y, .int z])), (a 1, .inl (cP, 6, .inr (.inr (.inr (.inr (fun k => some (a (2 + 2 * k))))))))] ++ ((wPs a cI pc pf) ++ ((wSt (sh 14 a) cI g l_ h r) ++ ((wOp (sh 18 a) cI k n b (nI 0)) ++ (wRp (sh 22 a) cI ct td op))))) H := hP
            have hD : va_D A ([(a 0, .inr (4, [.ref (a 1), .ref (a 14), .ref (a 18), .ref (a 22), .int x, .int y, .int z])), (a 1, .inl (cP, 6, .inr (.inr (.inr (.inr (fun k => some (a (2 + 2 * k))))))))] ++ ((wPs a cI pc pf) ++ ((wSt (sh 14 a) cI g l_ h r) ++ ((wOp (sh 18 a) cI k n b (nI 0)) ++ (wRp (sh 22 a) cI ct td op))))) := hD
            exact Ri (D := D) () hx hb hr rfl hlocks hP hD hS (by rw [F_about_in hs8 (inN_c (m := 1) (by decide) rfl (Int32.not_lt.mp c_8) c_13), if_pos ht.2, if_neg c_33, hw52, if_pos ht.2]; exact hDp.2.1 s0 hs8) dX4_about_55
          · refine lv_aload_n hx hb dX4_about_36 rfl (lv_at hl 0 rfl) ?_
            refine va_get (D := D) (ci := 4) (v := .ref (a 14)) (C := RX4) (T := TX4) (N := 7) hx hb hts inX4 hown hK hP 0 rfl rfl 1 (by decide) fl19 (fun _ h9 => h9) rfl dX4_about_37 ?_
            refine lv_iload_n hx hb dX4_about_40 rfl (lv_at hl 1 rfl) ?_
            refine cl_Vi ([(a 0, .inr (4, [.ref (a 1), .ref (a 14), .ref (a 18), .ref (a 22), .int x, .int y, .int z])), (a 1, .inl (cP, 6, .inr (.inr (.inr (.inr (fun k => some (a (2 + 2 * k))))))))] ++ (wPs a cI pc pf)) ((wOp (sh 18 a) cI k n b (nI 0)) ++ (wRp (sh 22 a) cI ct td op)) (As := [.int (nI s0)]) (rest := []) (c_X3_goodsOf l D cI (sh 14 a) g l_ h r G.2.2 go hDp.1 s0 hs8) ⟨hx, hb, hml, hown, hts⟩ (cwV 1 hts gX4_about_X3_goodsOf rfl rfl rfl (by decide +kernel) ⟨Nat.le_of_ble_eq_true rfl, Nat.le_of_ble_eq_true rfl⟩) (hK.sub [0] rfl) hns hP hD hS hA rfl (T := TX3) (N := 4) rfl rfl hl.1 rfl (Nat.le_of_ble_eq_true rfl) dX4_about_41 ⟨Nat.zero_le _, Nat.zero_le _⟩ (fun r41 u41 H locs hw41 hP hD hS => ?_)
            have hP : va_P D vwCl ([(a 0, .inr (4, [.ref (a 1), .ref (a 14), .ref (a 18), .ref (a 22), .int x, .int y, .int z])), (a 1, .inl (cP, 6, .inr (.inr (.inr (.inr (fun k => some (a (2 + 2 * k))))))))] ++ ((wPs a cI pc pf) ++ ((wSt (sh 14 a) cI g l_ h r) ++ ((wOp (sh 18 a) cI k n b (nI 0)) ++ (wRp (sh 22 a) cI ct td op))))) H := hP
            have hD : va_D A ([(a 0, .inr (4, [.ref (a 1), .ref (a 14), .ref (a 18), .ref (a 22), .int x, .int y, .int z])), (a 1, .inl (cP, 6, .inr (.inr (.inr (.inr (fun k => some (a (2 + 2 * k))))))))] ++ ((wPs a cI pc pf) ++ ((wSt (sh 14 a) cI g l_ h r) ++ ((wOp (sh 18 a) cI k n b (nI 0)) ++ (wRp (sh 22 a) cI ct td op))))) := hD
            refine lv_goto (tgt := 55) hx hb dX4_about_44 (by decide) ?_
            exact Ri (D := D) () hx hb hr rfl hlocks hP hD hS (by rw [F_about_in hs8 (inN_c (m := 1) (by decide) rfl (Int32.not_lt.mp c_8) c_13), if_pos ht.2, if_pos c_33, hw41, if_pos ht.2]) dX4_about_55
        · refine lv_if_ne (tgt := 32) hx hb dX4_about_26 (by decide) (fun c9 => absurd rfl c9) (fun _ => ?_)
          refine lv_bipush (v := (-3)) hx hb dX4_about_29 (by decide) ?_
          exact Ri (D := D) () hx hb hr rfl hlocks hP hD hS (by rw [F_about_in hs8 (inN_c (m := 1) (by decide) rfl (Int32.not_lt.mp c_8) c_13), if_neg (fun q => ht ⟨hs8, q⟩)]) dX4_about_31
      · refine lv_iconst (v := (-1)) hx hb dX4_about_16 (by decide) ?_
        exact Ri (D := D) () hx hb hr rfl hlocks hP hD hS (F_about_no (fun q => c_13 (inN_d (m := 1) (by decide) rfl q.2).2)).symm dX4_about_17
  · refine lv_if_eq (tgt := 16) hx hb dX4_about_4 (by decide) (fun _ => ?_) (fun c9 => absurd (by decide) c9)
    refine lv_iconst (v := (-1)) hx hb dX4_about_16 (by decide) ?_
    exact Ri (D := D) () hx hb hr rfl hlocks hP hD hS (F_about_no (fun q => hp1 q.1)).symm dX4_about_17

set_option maxHeartbeats 4000000 in
set_option maxRecDepth 100000 in
theorem c_X4_first (l : Launch) (D : va_G) (cI cP : ClassId) (a : Nat → Nat) (pc : Nat → Int32) (pf : Nat → Nat → Int32) (g l_ h : Nat → Int32) (r : Int32) (k n b ct td : Nat → Int32) (op x y z : Int32) (G : GP) (go : Nat → Nat) (lf : Nat → Int32) (rs : Int32) (td_ ct_ : Nat → Int32) (hpl : Dpl pc pf G) (hDp : Dp G go lf rs td_ ct_ (cnt []) g l_ h r ct td) (y0 : Int32) : Ci l D [(cI, .int), (cP, .object RX1)] yX4_first wsX4_first ({ frames := 3, cells := 0, slots := 0, locals := 63 }) [.ref (a 0), .int y0] (wD a cI cP pc pf g l_ h r k n b (nI 0) ct td op x y z) (S := Unit) (fun w _ => w = fwd G.2.2 go y0 8) (fun _ => wD a cI cP pc pf g l_ h r k n b (nI 0) ct td op x y z) := by
  refine Ci.mk (cc := cX4_first) (maxL := 2) (ret := (some .int)) (by decide +kernel) rfl (Nat.le_of_ble_eq_true rfl) ?_
  intro pg e s m below meth c A ls hx hb hml hr hown hts hlocks hK hns hA hP hD hS hl
  have hl : lv_has ls 2 [(0, .ref (a 0)), (1, .int y0)] := hl
  have fl19 := hts (.fieldLink RX4 19 "HeldShelves" "stock" "LHeldShelves$Stock;") (List.mem_of_getElem? (i := 1) rfl)
  have inX4 : ∀ w ∈ wsX40, w ∈ wsX4_first := fun _ h => List.mem_cons_of_mem _ (List.mem_append_left _ (List.mem_append_right _ h))
  have hP : va_P D vwCl ([(a 0, .inr (4, [.ref (a 1), .ref (a 14), .ref (a 18), .ref (a 22), .int x, .int y, .int z])), (a 1, .inl (cP, 6, .inr (.inr (.inr (.inr (fun k => some (a (2 + 2 * k))))))))] ++ ((wPs a cI pc pf) ++ ((wSt (sh 14 a) cI g l_ h r) ++ ((wOp (sh 18 a) cI k n b (nI 0)) ++ (wRp (sh 22 a) cI ct td op))))) s.heap := hP
  have hD : va_D A ([(a 0, .inr (4, [.ref (a 1), .ref (a 14), .ref (a 18), .ref (a 22), .int x, .int y, .int z])), (a 1, .inl (cP, 6, .inr (.inr (.inr (.inr (fun k => some (a (2 + 2 * k))))))))] ++ ((wPs a cI pc pf) ++ ((wSt (sh 14 a) cI g l_ h r) ++ ((wOp (sh 18 a) cI k n b (nI 0)) ++ (wRp (sh 22 a) cI ct td op))))) := hD
  refine lv_aload_n hx hb dX4_first_0 rfl (lv_at hl 0 rfl) ?_
  refine va_get (D := D) (ci := 4) (v := .ref (a 14)) (C := RX4) (T := TX4) (N := 7) hx hb hts inX4 hown hK hP 0 rfl rfl 1 (by decide) fl19 (fun _ h9 => h9) rfl dX4_first_1 ?_
  refine lv_iload_n hx hb dX4_first_4 rfl (lv_at hl 1 rfl) ?_
  refine cl_Vi ([(a 0, .inr (4, [.ref (a 1), .ref (a 14), .ref (a 18), .ref (a 22), .int x, .int y, .int z])), (a 1, .inl (cP, 6, .inr (.inr (.inr (.inr (fun k => some (a (2 + 2 * k))))))))] ++ (wPs a cI pc pf)) ((wOp (sh 18 a) cI k n b (nI 0)) ++ (wRp (sh 22 a) cI ct td op)) (As := [.int y0]) (rest := []) (c_X3_firstWith l D cI (sh 14 a) g l_ h r G.2.2 go hDp.1 y0) ⟨hx, hb, hml, hown, hts⟩ (cwV 1 hts gX4_first_X3_firstWith rfl rfl rfl (by decide +kernel) ⟨Nat.le_of_ble_eq_true rfl, Nat.le_of_ble_eq_true rfl⟩) (hK.sub [0] rfl) hns hP hD hS hA rfl (T := TX3) (N := 4) rfl rfl hl.1 rfl (Nat.le_of_ble_eq_true rfl) dX4_first_5 ⟨Nat.zero_le _, Nat.zero_le _⟩ (fun r5 u5 H locs hw5 hP hD hS => ?_)
  have hP : va_P D vwCl ([(a 0, .inr (4, [.ref (a 1), .ref (a 14), .ref (a 18), .ref (a 22), .int x, .int y, .int z])), (a 1, .inl (cP, 6, .inr (.inr (.inr (.inr (fun k => some (a (2 + 2 * k))))))))] ++ ((wPs a cI pc pf) ++ ((wSt (sh 14 a) cI g l_ h r) ++ ((wOp (sh 18 a) cI k n b (nI 0)) ++ (wRp (sh 22 a) cI ct td op))))) H := hP
  have hD : va_D A ([(a 0, .inr (4, [.ref (a 1), .ref (a 14), .ref (a 18), .ref (a 22), .int x, .int y, .int z])), (a 1, .inl (cP, 6, .inr (.inr (.inr (.inr (fun k => some (a (2 + 2 * k))))))))] ++ ((wPs a cI pc pf) ++ ((wSt (sh 14 a) cI g l_ h r) ++ ((wOp (sh 18 a) cI k n b (nI 0)) ++ (wRp (sh 22 a) cI ct td op))))) := hD
  exact Ri (D := D) () hx hb hr rfl hlocks hP hD hS hw5 dX4_first_8

set_option maxHeartbeats 4000000 in
set_option maxRecDepth 100000 in
theorem c_X4_row (l : Launch) (D : va_G) (cI cP : ClassId) (a : Nat → Nat) (pc : Nat → Int32) (pf : Nat → Nat → Int32) (g l_ h : Nat → Int32) (r : Int32) (k n b ct td : Nat → Int32) (op x y z : Int32) (G : GP) (go : Nat → Nat) (lf : Nat → Int32) (rs : Int32) (td_ ct_ : Nat → Int32) (hpl : Dpl pc pf G) (hDp : Dp G go lf rs td_ ct_ (cnt []) g l_ h r ct td) (y0 : Int32) : Ci l D [(cI, .int), (cP, .object RX1)] yX4_row wsX4_row ({ frames := 3, cells := 0, slots := 0, locals := 63 }) [.ref (a 0), .int y0] (wD a cI cP pc pf g l_ h r k n b (nI 0) ct td op x y z) (S := Unit) (fun w _ => w = rwd G.2.2 go y0 8) (fun _ => wD a cI cP pc pf g l_ h r k n b (nI 0) ct td op x y z) := by
  refine Ci.mk (cc := cX4_row) (maxL := 2) (ret := (some .int)) (by decide +kernel) rfl (Nat.le_of_ble_eq_true rfl) ?_
  intro pg e s m below meth c A ls hx hb hml hr hown hts hlocks hK hns hA hP hD hS hl
  have hl : lv_has ls 2 [(0, .ref (a 0)), (1, .int y0)] := hl
  have fl19 := hts (.fieldLink RX4 19 "HeldShelves" "stock" "LHeldShelves$Stock;") (List.mem_of_getElem? (i := 1) rfl)
  have inX4 : ∀ w ∈ wsX40, w ∈ wsX4_row := fun _ h => List.mem_cons_of_mem _ (List.mem_append_left _ (List.mem_append_right _ h))
  have hP : va_P D vwCl ([(a 0, .inr (4, [.ref (a 1), .ref (a 14), .ref (a 18), .ref (a 22), .int x, .int y, .int z])), (a 1, .inl (cP, 6, .inr (.inr (.inr (.inr (fun k => some (a (2 + 2 * k))))))))] ++ ((wPs a cI pc pf) ++ ((wSt (sh 14 a) cI g l_ h r) ++ ((wOp (sh 18 a) cI k n b (nI 0)) ++ (wRp (sh 22 a) cI ct td op))))) s.heap := hP
  have hD : va_D A ([(a 0, .inr (4, [.ref (a 1), .ref (a 14), .ref (a 18), .ref (a 22), .int x, .int y, .int z])), (a 1, .inl (cP, 6, .inr (.inr (.inr (.inr (fun k => some (a (2 + 2 * k))))))))] ++ ((wPs a cI pc pf) ++ ((wSt (sh 14 a) cI g l_ h r) ++ ((wOp (sh 18 a) cI k n b (nI 0)) ++ (wRp (sh 22 a) cI ct td op))))) := hD
  refine lv_aload_n hx hb dX4_row_0 rfl (lv_at hl 0 rfl) ?_
  refine va_get (D := D) (ci := 4) (v := .ref (a 14)) (C := RX4) (T := TX4) (N := 7) hx hb hts inX4 hown hK hP 0 rfl rfl 1 (by decide) fl19 (fun _ h9 => h9) rfl dX4_row_1 ?_
  refine lv_iload_n hx hb dX4_row_4 rfl (lv_at hl 1 rfl) ?_
  refine cl_Vi ([(a 0, .inr (4, [.ref (a 1), .ref (a 14), .ref (a 18), .ref (a 22), .int x, .int y, .int z])), (a 1, .inl (cP, 6, .inr (.inr (.inr (.inr (fun k => some (a (2 + 2 * k))))))))] ++ (wPs a cI pc pf)) ((wOp (sh 18 a) cI k n b (nI 0)) ++ (wRp (sh 22 a) cI ct td op)) (As := [.int y0]) (rest := []) (c_X3_rowUpTo l D cI (sh 14 a) g l_ h r G.2.2 go hDp.1 y0) ⟨hx, hb, hml, hown, hts⟩ (cwV 1 hts gX4_row_X3_rowUpTo rfl rfl rfl (by decide +kernel) ⟨Nat.le_of_ble_eq_true rfl, Nat.le_of_ble_eq_true rfl⟩) (hK.sub [0] rfl) hns hP hD hS hA rfl (T := TX3) (N := 4) rfl rfl hl.1 rfl (Nat.le_of_ble_eq_true rfl) dX4_row_5 ⟨Nat.zero_le _, Nat.zero_le _⟩ (fun r5 u5 H locs hw5 hP hD hS => ?_)
  have hP : va_P D vwCl ([(a 0, .inr (4, [.ref (a 1), .ref (a 14), .ref (a 18), .ref (a 22), .int x, .int y, .int z])), (a 1, .inl (cP, 6, .inr (.inr (.inr (.inr (fun k => some (a (2 + 2 * k))))))))] ++ ((wPs a cI pc pf) ++ ((wSt (sh 14 a) cI g l_ h r) ++ ((wOp (sh 18 a) cI k n b (nI 0)) ++ (wRp (sh 22 a) cI ct td op))))) H := hP
  have hD : va_D A ([(a 0, .inr (4, [.ref (a 1), .ref (a 14), .ref (a 18), .ref (a 22), .int x, .int y, .int z])), (a 1, .inl (cP, 6, .inr (.inr (.inr (.inr (fun k => some (a (2 + 2 * k))))))))] ++ ((wPs a cI pc pf) ++ ((wSt (sh 14 a) cI g l_ h r) ++ ((wOp (sh 18 a) cI k n b (nI 0)) ++ (wRp (sh 22 a) cI ct td op))))) := hD
  exact Ri (D := D) () hx hb hr rfl hlocks hP hD hS hw5 dX4_row_8

set_option maxHeartbeats 4000000 in
set_option maxRecDepth 100000 in
theorem c_X4_goods (l : Launch) (D : va_G) (cI cP : ClassId) (a : Nat → Nat) (pc : Nat → Int32) (pf : Nat → Nat → Int32) (g l_ h : Nat → Int32) (r : Int32) (k n b ct td : Nat → Int32) (op x y z : Int32) (G : GP) (go : Nat → Nat) (lf : Nat → Int32) (rs : Int32) (td_ ct_ : Nat → Int32) (hpl : Dpl pc pf G) (hDp : Dp G go lf rs td_ ct_ (cnt []) g l_ h r ct td) : Ci l D [(cI, .int), (cP, .object RX1)] yX4_goods wsX4_goods ({ frames := 4, cells := 0, slots := 0, locals := 84 }) [.ref (a 0)] (wD a cI cP pc pf g l_ h r k n b (nI 0) ct td op x y z) (S := Unit) (fun w _ => w = sm G.2.2 go 8) (fun _ => wD a cI cP pc pf g l_ h r k n b (nI 0) ct td op x y z) := by
  refine Ci.mk (cc := cX4_goods) (maxL := 1) (ret := (some .int)) (by decide +kernel) rfl (Nat.le_of_ble_eq_true rfl) ?_
  intro pg e s m below meth c A ls hx hb hml hr hown hts hlocks hK hns hA hP hD hS hl
  have hl : lv_has ls 1 [(0, .ref (a 0))] := hl
  have fl19 := hts (.fieldLink RX4 19 "HeldShelves" "stock" "LHeldShelves$Stock;") (List.mem_of_getElem? (i := 1) rfl)
  have inX4 : ∀ w ∈ wsX40, w ∈ wsX4_goods := fun _ h => List.mem_cons_of_mem _ (List.mem_append_left _ (List.mem_append_right _ h))
  have hP : va_P D vwCl ([(a 0, .inr (4, [.ref (a 1), .ref (a 14), .ref (a 18), .ref (a 22), .int x, .int y, .int z])), (a 1, .inl (cP, 6, .inr (.inr (.inr (.inr (fun k => some (a (2 + 2 * k))))))))] ++ ((wPs a cI pc pf) ++ ((wSt (sh 14 a) cI g l_ h r) ++ ((wOp (sh 18 a) cI k n b (nI 0)) ++ (wRp (sh 22 a) cI ct td op))))) s.heap := hP
  have hD : va_D A ([(a 0, .inr (4, [.ref (a 1), .ref (a 14), .ref (a 18), .ref (a 22), .int x, .int y, .int z])), (a 1, .inl (cP, 6, .inr (.inr (.inr (.inr (fun k => some (a (2 + 2 * k))))))))] ++ ((wPs a cI pc pf) ++ ((wSt (sh 14 a) cI g l_ h r) ++ ((wOp (sh 18 a) cI k n b (nI 0)) ++ (wRp (sh 22 a) cI ct td op))))) := hD
  refine lv_aload_n hx hb dX4_goods_0 rfl (lv_at hl 0 rfl) ?_
  refine va_get (D := D) (ci := 4) (v := .ref (a 14)) (C := RX4) (T := TX4) (N := 7) hx hb hts inX4 hown hK hP 0 rfl rfl 1 (by decide) fl19 (fun _ h9 => h9) rfl dX4_goods_1 ?_
  refine cl_Vi ([(a 0, .inr (4, [.ref (a 1), .ref (a 14), .ref (a 18), .ref (a 22), .int x, .int y, .int z])), (a 1, .inl (cP, 6, .inr (.inr (.inr (.inr (fun k => some (a (2 + 2 * k))))))))] ++ (wPs a cI pc pf)) ((wOp (sh 18 a) cI k n b (nI 0)) ++ (wRp (sh 22 a) cI ct td op)) (As := []) (rest := []) (c_X3_inAll l D cI (sh 14 a) g l_ h r G.2.2 go hDp.1) ⟨hx, hb, hml, hown, hts⟩ (cwV 0 hts gX4_goods_X3_inAll rfl rfl rfl (by decide +kernel) ⟨Nat.le_of_ble_eq_true rfl, Nat.le_of_ble_eq_true rfl⟩) (hK.sub [0] rfl) hns hP hD hS hA rfl (T := TX3) (N := 4) rfl rfl hl.1 rfl (Nat.le_of_ble_eq_true rfl) dX4_goods_4 ⟨Nat.zero_le _, Nat.zero_le _⟩ (fun r4 u4 H locs hw4 hP hD hS => ?_)
  have hP : va_P D vwCl ([(a 0, .inr (4, [.ref (a 1), .ref (a 14), .ref (a 18), .ref (a 22), .int x, .int y, .int z])), (a 1, .inl (cP, 6, .inr (.inr (.inr (.inr (fun k => some (a (2 + 2 * k))))))))] ++ ((wPs a cI pc pf) ++ ((wSt (sh 14 a) cI g l_ h r) ++ ((wOp (sh 18 a) cI k n b (nI 0)) ++ (wRp (sh 22 a) cI ct td op))))) H := hP
  have hD : va_D A ([(a 0, .inr (4, [.ref (a 1), .ref (a 14), .ref (a 18), .ref (a 22), .int x, .int y, .int z])), (a 1, .inl (cP, 6, .inr (.inr (.inr (.inr (fun k => some (a (2 + 2 * k))))))))] ++ ((wPs a cI pc pf) ++ ((wSt (sh 14 a) cI g l_ h r) ++ ((wOp (sh 18 a) cI k n b (nI 0)) ++ (wRp (sh 22 a) cI ct td op))))) := hD
  exact Ri (D := D) () hx hb hr rfl hlocks hP hD hS hw4 dX4_goods_7

set_option maxHeartbeats 4000000 in
set_option maxRecDepth 100000 in
theorem c_X4_rest (l : Launch) (D : va_G) (cI cP : ClassId) (a : Nat → Nat) (pc : Nat → Int32) (pf : Nat → Nat → Int32) (g l_ h : Nat → Int32) (r : Int32) (k n b ct td : Nat → Int32) (op x y z : Int32) (G : GP) (go : Nat → Nat) (lf : Nat → Int32) (rs : Int32) (td_ ct_ : Nat → Int32) (hpl : Dpl pc pf G) (hDp : Dp G go lf rs td_ ct_ (cnt []) g l_ h r ct td) : Ci l D [(cI, .int), (cP, .object RX1)] yX4_rest wsX4_rest ({ frames := 1, cells := 0, slots := 0, locals := 21 }) [.ref (a 0)] (wD a cI cP pc pf g l_ h r k n b (nI 0) ct td op x y z) (S := Unit) (fun w _ => w = r) (fun _ => wD a cI cP pc pf g l_ h 0 k n b (nI 0) ct td op x y z) := by
  refine Ci.mk (cc := cX4_rest) (maxL := 1) (ret := (some .int)) (by decide +kernel) rfl (Nat.le_of_ble_eq_true rfl) ?_
  intro pg e s m below meth c A ls hx hb hml hr hown hts hlocks hK hns hA hP hD hS hl
  have hl : lv_has ls 1 [(0, .ref (a 0))] := hl
  have fl19 := hts (.fieldLink RX4 19 "HeldShelves" "stock" "LHeldShelves$Stock;") (List.mem_of_getElem? (i := 1) rfl)
  have inX4 : ∀ w ∈ wsX40, w ∈ wsX4_rest := fun _ h => List.mem_cons_of_mem _ (List.mem_append_left _ (List.mem_append_right _ h))
  have hP : va_P D vwCl ([(a 0, .inr (4, [.ref (a 1), .ref (a 14), .ref (a 18), .ref (a 22), .int x, .int y, .int z])), (a 1, .inl (cP, 6, .inr (.inr (.inr (.inr (fun k => some (a (2 + 2 * k))))))))] ++ ((wPs a cI pc pf) ++ ((wSt (sh 14 a) cI g l_ h r) ++ ((wOp (sh 18 a) cI k n b (nI 0)) ++ (wRp (sh 22 a) cI ct td op))))) s.heap := hP
  have hD : va_D A ([(a 0, .inr (4, [.ref (a 1), .ref (a 14), .ref (a 18), .ref (a 22), .int x, .int y, .int z])), (a 1, .inl (cP, 6, .inr (.inr (.inr (.inr (fun k => some (a (2 + 2 * k))))))))] ++ ((wPs a cI pc pf) ++ ((wSt (sh 14 a) cI g l_ h r) ++ ((wOp (sh 18 a) cI k n b (nI 0)) ++ (wRp (sh 22 a) cI ct td op))))) := hD
  refine lv_aload_n hx hb dX4_rest_0 rfl (lv_at hl 0 rfl) ?_
  refine va_get (D := D) (ci := 4) (v := .ref (a 14)) (C := RX4) (T := TX4) (N := 7) hx hb hts inX4 hown hK hP 0 rfl rfl 1 (by decide) fl19 (fun _ h9 => h9) rfl dX4_rest_1 ?_
  refine cl_Vi ([(a 0, .inr (4, [.ref (a 1), .ref (a 14), .ref (a 18), .ref (a 22), .int x, .int y, .int z])), (a 1, .inl (cP, 6, .inr (.inr (.inr (.inr (fun k => some (a (2 + 2 * k))))))))] ++ (wPs a cI pc pf)) ((wOp (sh 18 a) cI k n b (nI 0)) ++ (wRp (sh 22 a) cI ct td op)) (As := []) (rest := []) (c_X3_giveRest l D cI (sh 14 a) g l_ h r) ⟨hx, hb, hml, hown, hts⟩ (cwV 0 hts gX4_rest_X3_giveRest rfl rfl rfl (by decide +kernel) ⟨Nat.le_of_ble_eq_true rfl, Nat.le_of_ble_eq_true rfl⟩) (hK.sub [0] rfl) hns hP hD hS hA rfl (T := TX3) (N := 4) rfl rfl hl.1 rfl (Nat.le_of_ble_eq_true rfl) dX4_rest_4 ⟨Nat.zero_le _, Nat.zero_le _⟩ (fun r4 u4 H locs hw4 hP hD hS => ?_)
  have hP : va_P D vwCl ([(a 0, .inr (4, [.ref (a 1), .ref (a 14), .ref (a 18), .ref (a 22), .int x, .int y, .int z])), (a 1, .inl (cP, 6, .inr (.inr (.inr (.inr (fun k => some (a (2 + 2 * k))))))))] ++ ((wPs a cI pc pf) ++ ((wSt (sh 14 a) cI g l_ h 0) ++ ((wOp (sh 18 a) cI k n b (nI 0)) ++ (wRp (sh 22 a) cI ct td op))))) H := hP
  have hD : va_D A ([(a 0, .inr (4, [.ref (a 1), .ref (a 14), .ref (a 18), .ref (a 22), .int x, .int y, .int z])), (a 1, .inl (cP, 6, .inr (.inr (.inr (.inr (fun k => some (a (2 + 2 * k))))))))] ++ ((wPs a cI pc pf) ++ ((wSt (sh 14 a) cI g l_ h 0) ++ ((wOp (sh 18 a) cI k n b (nI 0)) ++ (wRp (sh 22 a) cI ct td op))))) := hD
  exact Ri (D := D) () hx hb hr rfl hlocks hP hD hS hw4 dX4_rest_7

set_option maxHeartbeats 4000000 in
set_option maxRecDepth 100000 in
theorem c_X4_act (l : Launch) (D : va_G) (cI cP : ClassId) (a : Nat → Nat) (pc : Nat → Int32) (pf : Nat → Nat → Int32) (g l_ h : Nat → Int32) (r : Int32) (k n b ct td : Nat → Int32) (op x y z : Int32) (G : GP) (go : Nat → Nat) (lf : Nat → Int32) (rs : Int32) (td_ ct_ : Nat → Int32) (hpl : Dpl pc pf G) (hDp : Dp G go lf rs td_ ct_ (cnt []) g l_ h r ct td) (x0 kd x1 x2 x3 : Int32) : CiZ l D [(cI, .int), (cP, .object RX1)] yX4_act wsX4_act ({ frames := 1, cells := 0, slots := 0, locals := 24 }) [.ref (a 0), .int x0, .int kd, .int x1, .int x2, .int x3] (wD a cI cP pc pf g l_ h r k n b (nI 0) ct td op x y z) (S := (Nat → Int32) × (Nat → Nat → Int32)) (fun w u => w = (F_act G x0 kd x1 x2 x3).1 ∧ Dpl u.1 u.2 (F_act G x0 kd x1 x2 x3).2) (fun u => wD a cI cP u.1 u.2 g l_ h r k n b (nI 0) ct td op x y z) := by
  refine CiZ.mk (cc := cX4_act) (maxL := 9) (ret := (some .int)) (by decide +kernel) rfl (Nat.le_of_ble_eq_true rfl) ?_
  intro pg e s m below meth c A ls hx hb hml hr hown hts hlocks hK hns hA hP hD hS hl hZ
  have hl : lv_has ls 9 [(0, .ref (a 0)), (1, .int x0), (2, .int kd), (3, .int x1), (4, .int x2), (5, .int x3)] := hl
  have fl41 := hts (.fieldLink RX4 41 "HeldShelves" "NAMED" "[I") (List.mem_of_getElem? (i := 1) rfl)
  have fl11 := hts (.fieldLink RX4 11 "HeldShelves" "plans" "[LHeldShelves$Plan;") (List.mem_of_getElem? (i := 2) rfl)
  have inX4 : ∀ w ∈ wsX40, w ∈ wsX4_act := fun _ h => List.mem_cons_of_mem _ (List.mem_append_left _ (List.mem_append_right _ h))
  have hP : va_P D vwCl ([(a 0, .inr (4, [.ref (a 1), .ref (a 14), .ref (a 18), .ref (a 22), .int x, .int y, .int z])), (a 1, .inl (cP, 6, .inr (.inr (.inr (.inr (fun k => some (a (2 + 2 * k))))))))] ++ ((wPs a cI pc pf) ++ ((wSt (sh 14 a) cI g l_ h r) ++ ((wOp (sh 18 a) cI k n b (nI 0)) ++ (wRp (sh 22 a) cI ct td op))))) s.heap := hP
  have hD : va_D A ([(a 0, .inr (4, [.ref (a 1), .ref (a 14), .ref (a 18), .ref (a 22), .int x, .int y, .int z])), (a 1, .inl (cP, 6, .inr (.inr (.inr (.inr (fun k => some (a (2 + 2 * k))))))))] ++ ((wPs a cI pc pf) ++ ((wSt (sh 14 a) cI g l_ h r) ++ ((wOp (sh 18 a) cI k n b (nI 0)) ++ (wRp (sh 22 a) cI ct td op))))) := hD
  obtain ⟨tS, hZ1, hT1⟩ := hZ
  refine lv_iload_n hx hb dX4_act_0 rfl (lv_at hl 1 rfl) ?_
  refine cl_Si (As := [.int x0]) (rest := []) (c_X4_isPlan l D x0) ⟨hx, hb, hml, hown, hts⟩ (cwS 1 hts gX4_act_X4_isPlan rfl rfl rfl (by decide +kernel) ⟨Nat.le_of_ble_eq_true rfl, Nat.le_of_ble_eq_true rfl⟩) hK hns hP hD hS hA rfl hl.1 rfl (Nat.le_of_ble_eq_true rfl) dX4_act_1 ⟨Nat.zero_le _, Nat.zero_le _⟩ (fun r1 u1 H locs hw1 hP hD hS => ?_)
  rcases hw1 with ⟨rfl, hp1⟩ | ⟨rfl, hp1⟩
  · obtain ⟨q, hq6, rfl⟩ := hp1
    refine lv_if_eq (tgt := 17) hx hb dX4_act_4 (by decide) (fun c9 => absurd c9 (by decide)) (fun _ => ?_)
    refine lv_iload_n hx hb dX4_act_7 rfl (lv_at hl 2 rfl) ?_
    refine lv_if_lt (tgt := 17) hx hb dX4_act_8 (by decide) (fun c_8 => ?_) (fun c_8 => ?_)
    · refine lv_iconst (v := (-1)) hx hb dX4_act_17 (by decide) ?_
      exact Ri (D := D) (pc, pf) hx hb hr rfl hlocks hP hD hS (by rw [F_act_no (fun q => inN_lo (by decide) q.2.1 c_8)]; exact ⟨rfl, hpl⟩) dX4_act_18
    · refine lv_iload_n hx hb dX4_act_11 rfl (lv_at hl 2 rfl) ?_
      refine lv_bipush (v := 9) hx hb dX4_act_12 (by decide) ?_
      refine lv_icmp_le (tgt := 19) hx hb dX4_act_14 (by decide) (fun c_14 => ?_) (fun c_14 => ?_)
      · obtain ⟨kk, hk10, rfl⟩ := inN_c (m := 9) (by decide) rfl (Int32.not_lt.mp c_8) c_14
        rcases k10b hk10 with rfl | rfl | rfl | rfl | rfl | rfl | rfl | rfl | rfl | rfl
        · refine va_gets (C := RX4) hx hb hZ1 hS hown fl41 (fun _ h9 => h9) dX4_act_19 ?_
          refine lv_iload_n hx hb dX4_act_22 rfl (lv_at hl 2 rfl) ?_
          refine va_ti hx hb hT1 hS (v := .int 1) (vp_in_nI (by decide) (by decide)) rfl dX4_act_23 ?_
          refine lv_if_le (tgt := 31) hx hb dX4_act_24 (by decide) (fun c9 => absurd c9 (by decide)) (fun _ => ?_)
          refine lv_iload_n hx hb dX4_act_27 rfl (lv_at hl 3 rfl) ?_
          refine lv_goto (tgt := 32) hx hb dX4_act_28 (by decide) ?_
          refine lv_istore (lv' := [(6, .int x1), (0, .ref (a 0)), (1, .int (nI q)), (2, .int (nI 0)), (3, .int x1), (4, .int x2), (5, .int x3)]) hx hb dX4_act_32 hl (by decide) rfl (fun ls hl => ?_)
          refine va_gets (C := RX4) hx hb hZ1 hS hown fl41 (fun _ h9 => h9) dX4_act_34 ?_
          refine lv_iload_n hx hb dX4_act_37 rfl (lv_at hl 3 rfl) ?_
          refine va_ti hx hb hT1 hS (v := .int 1) (vp_in_nI (by decide) (by decide)) rfl dX4_act_38 ?_
          refine lv_iconst (v := 1) hx hb dX4_act_39 (by decide) ?_
          refine lv_icmp_le (tgt := 48) hx hb dX4_act_40 (by decide) (fun _ => ?_) (fun c9 => absurd (by decide) c9)
          refine lv_iconst (v := 0) hx hb dX4_act_48 (by decide) ?_
          refine lv_istore (lv' := [(7, .int 0), (6, .int x1), (0, .ref (a 0)), (1, .int (nI q)), (2, .int (nI 0)), (3, .int x1), (4, .int x2), (5, .int x3)]) hx hb dX4_act_49 hl (by decide) rfl (fun ls hl => ?_)
          refine va_gets (C := RX4) hx hb hZ1 hS hown fl41 (fun _ h9 => h9) dX4_act_51 ?_
          refine lv_iload_n hx hb dX4_act_54 rfl (lv_at hl 4 rfl) ?_
          refine va_ti hx hb hT1 hS (v := .int 1) (vp_in_nI (by decide) (by decide)) rfl dX4_act_55 ?_
          refine lv_iconst (v := 2) hx hb dX4_act_56 (by decide) ?_
          refine lv_icmp_le (tgt := 65) hx hb dX4_act_57 (by decide) (fun _ => ?_) (fun c9 => absurd (by decide) c9)
          refine lv_iconst (v := 0) hx hb dX4_act_65 (by decide) ?_
          refine lv_istore (lv' := [(8, .int 0), (7, .int 0), (6, .int x1), (0, .ref (a 0)), (1, .int (nI q)), (2, .int (nI 0)), (3, .int x1), (4, .int x2), (5, .int x3)]) hx hb dX4_act_66 hl (by decide) rfl (fun ls hl => ?_)
          refine lv_iload hx hb dX4_act_68 (lv_at hl 2 rfl) ?_
          refine cl_Si (As := [.int x1]) (rest := []) (c_X4_isDigit l D x1) ⟨hx, hb, hml, hown, hts⟩ (cwS 1 hts gX4_act_X4_isDigit rfl rfl rfl (by decide +kernel) ⟨Nat.le_of_ble_eq_true rfl, Nat.le_of_ble_eq_true rfl⟩) hK hns hP hD hS hA rfl hl.1 rfl (Nat.le_of_ble_eq_true rfl) dX4_act_70 ⟨Nat.zero_le _, Nat.zero_le _⟩ (fun r70 u70 H locs hw70 hP hD hS => ?_)
          rcases hw70 with ⟨rfl, hd70⟩ | ⟨rfl, hd70⟩
          · refine lv_if_eq (tgt := 92) hx hb dX4_act_73 (by decide) (fun c9 => absurd c9 (by decide)) (fun _ => ?_)
            refine lv_iload hx hb dX4_act_76 (lv_at hl 1 rfl) ?_
            refine cl_Si (As := [.int 0]) (rest := []) (c_X4_isDigit l D 0) ⟨hx, hb, hml, hown, hts⟩ (cwS 1 hts gX4_act_X4_isDigit rfl rfl rfl (by decide +kernel) ⟨Nat.le_of_ble_eq_true rfl, Nat.le_of_ble_eq_true rfl⟩) hK hns hP hD hS hA rfl hl.1 rfl (Nat.le_of_ble_eq_true rfl) dX4_act_78 ⟨Nat.zero_le _, Nat.zero_le _⟩ (fun r78 u78 H locs hw78 hP hD hS => ?_)
            rcases hw78 with ⟨rfl, hd78⟩ | ⟨rfl, hd78⟩
            · refine lv_if_eq (tgt := 92) hx hb dX4_act_81 (by decide) (fun c9 => absurd c9 (by decide)) (fun _ => ?_)
              refine lv_iload hx hb dX4_act_84 (lv_at hl 0 rfl) ?_
              refine cl_Si (As := [.int 0]) (rest := []) (c_X4_isDigit l D 0) ⟨hx, hb, hml, hown, hts⟩ (cwS 1 hts gX4_act_X4_isDigit rfl rfl rfl (by decide +kernel) ⟨Nat.le_of_ble_eq_true rfl, Nat.le_of_ble_eq_true rfl⟩) hK hns hP hD hS hA rfl hl.1 rfl (Nat.le_of_ble_eq_true rfl) dX4_act_86 ⟨Nat.zero_le _, Nat.zero_le _⟩ (fun r86 u86 H locs hw86 hP hD hS => ?_)
              rcases hw86 with ⟨rfl, hd86⟩ | ⟨rfl, hd86⟩
              · refine lv_if_ne (tgt := 94) hx hb dX4_act_89 (by decide) (fun _ => ?_) (fun c9 => absurd c9 (by decide))
                refine lv_iload_n hx hb dX4_act_94 rfl (lv_at hl 5 rfl) ?_
                refine lv_bipush (v := 7) hx hb dX4_act_95 (by decide) ?_
                refine lv_icmp_ne (tgt := 109) hx hb dX4_act_97 (by decide) (fun c_97 => ?_) (fun c_97 => ?_)
                · have c_97 : ¬ (0 = 7) := fun h => c_97 ((nI_eq (a := 0) (b := 7) (by omega) (by omega)).mpr h)
                  refine lv_aload_n hx hb dX4_act_109 rfl (lv_at hl 3 rfl) ?_
                  refine va_get (D := D) (ci := 4) (v := .ref (a 1)) (C := RX4) (T := TX4) (N := 7) hx hb hts inX4 hown hK hP 0 rfl rfl 0 (by decide) fl11 (fun _ h9 => h9) rfl dX4_act_110 ?_
                  refine lv_iload_n hx hb dX4_act_113 rfl (lv_at hl 4 rfl) ?_
                  refine xa_ald hx hb hK hP 1 1 rfl rfl (k := q) (v := (a (2 + 2 * q))) rfl (by omega) (by decide) dX4_act_114 ?_
                  refine lv_iload_n hx hb dX4_act_115 rfl (lv_at hl 5 rfl) ?_
                  refine lv_iload hx hb dX4_act_116 (lv_at hl 2 rfl) ?_
                  refine lv_iload hx hb dX4_act_118 (lv_at hl 1 rfl) ?_
                  refine lv_iload hx hb dX4_act_120 (lv_at hl 0 rfl) ?_
                  have hPq := hP
                  have hDq := hD
                  rw [wsplit _ _ (hq6), (hpl q (hq6)).1] at hPq hDq
                  refine cl_Vi _ _ (As := [.int (nI 0), .int x1, .int 0, .int 0]) (rest := []) (c_X1_add l D cI (a (2 + 2 * q)) (a (3 + 2 * q)) (pf q) (G.1 q) (hpl q hq6).2.1 (nI 0) x1 0 0) ⟨hx, hb, hml, hown, hts⟩ (cwV 4 hts gX4_act_X1_add rfl rfl rfl (by decide +kernel) ⟨Nat.le_of_ble_eq_true rfl, Nat.le_of_ble_eq_true rfl⟩) (hK.sub [0] rfl) hns hPq hDq hS hA rfl (T := TX1) (N := 2) rfl rfl hl.1 rfl (Nat.le_of_ble_eq_true rfl) dX4_act_122 ⟨Nat.zero_le _, Nat.zero_le _⟩ (fun r122 u122 H locs hw122 hP hD hS => ?_)
                  have hP : va_P D vwCl ([(a 0, .inr (4, [.ref (a 1), .ref (a 14), .ref (a 18), .ref (a 22), .int x, .int y, .int z])), (a 1, .inl (cP, 6, .inr (.inr (.inr (.inr (fun k => some (a (2 + 2 * k))))))))] ++ ((wPs a cI (upd pc q u122.2) (va_up pf q u122.1)) ++ ((wSt (sh 14 a) cI g l_ h r) ++ ((wOp (sh 18 a) cI k n b (nI 0)) ++ (wRp (sh 22 a) cI ct td op))))) H := by rw [← wsplitU _ _ (hq6)]; exact hP
                  have hD : va_D A ([(a 0, .inr (4, [.ref (a 1), .ref (a 14), .ref (a 18), .ref (a 22), .int x, .int y, .int z])), (a 1, .inl (cP, 6, .inr (.inr (.inr (.inr (fun k => some (a (2 + 2 * k))))))))] ++ ((wPs a cI (upd pc q u122.2) (va_up pf q u122.1)) ++ ((wSt (sh 14 a) cI g l_ h r) ++ ((wOp (sh 18 a) cI k n b (nI 0)) ++ (wRp (sh 22 a) cI ct td op))))) := by rw [← wsplitU _ _ (hq6)]; exact hD
                  exact Ri (D := D) (upd pc q u122.2, va_up pf q u122.1) hx hb hr rfl hlocks hP hD hS (by have hf : fitP 0 x1 x2 x3 := (⟨fun _ => hd70, fun q => absurd q (by simp [nmB]), fun q => absurd q (by simp [nmC]), fun q => absurd q (by decide)⟩ : fitP 0 x1 x2 x3); rcases hw122 with ⟨h1, h2, h3⟩ | ⟨h1, h2, h3⟩; exact (by rw [F_act_full hq6 (by decide) hf h1, h3]; exact ⟨h2, Dpl_id hpl (hpl q hq6).1.symm rfl⟩); exact (by rw [F_act_in hq6 (by decide) hf (by omega), h3]; exact ⟨h2, Dpl_act hpl hq6 (by decide) hf h1 (cd_eq (by decide) hf (Or.inl ⟨by simp [nmA], rfl⟩) (Or.inr ⟨by simp [nmB], rfl⟩) (Or.inr ⟨by simp [nmC], rfl⟩))⟩)) dX4_act_125
                · have c_97 : 0 = 7 := (nI_eq (a := 0) (b := 7) (by omega) (by omega)).mp c_97
                  exact absurd c_97 (by decide)
              · exact absurd ⟨0, by decide, rfl⟩ hd86
            · exact absurd ⟨0, by decide, rfl⟩ hd78
          · refine lv_if_eq (tgt := 92) hx hb dX4_act_73 (by decide) (fun _ => ?_) (fun c9 => absurd (by decide) c9)
            refine lv_iconst (v := (-1)) hx hb dX4_act_92 (by decide) ?_
            exact Ri (D := D) (pc, pf) hx hb hr rfl hlocks hP hD hS (by rw [F_act_no (fun q => hd70 (q.2.2.1 (by rw [dg_nI (by decide)]; simp [nmA])))]; exact ⟨rfl, hpl⟩) dX4_act_93
        · refine va_gets (C := RX4) hx hb hZ1 hS hown fl41 (fun _ h9 => h9) dX4_act_19 ?_
          refine lv_iload_n hx hb dX4_act_22 rfl (lv_at hl 2 rfl) ?_
          refine va_ti hx hb hT1 hS (v := .int 1) (vp_in_nI (by decide) (by decide)) rfl dX4_act_23 ?_
          refine lv_if_le (tgt := 31) hx hb dX4_act_24 (by decide) (fun c9 => absurd c9 (by decide)) (fun _ => ?_)
          refine lv_iload_n hx hb dX4_act_27 rfl (lv_at hl 3 rfl) ?_
          refine lv_goto (tgt := 32) hx hb dX4_act_28 (by decide) ?_
          refine lv_istore (lv' := [(6, .int x1), (0, .ref (a 0)), (1, .int (nI q)), (2, .int (nI 1)), (3, .int x1), (4, .int x2), (5, .int x3)]) hx hb dX4_act_32 hl (by decide) rfl (fun ls hl => ?_)
          refine va_gets (C := RX4) hx hb hZ1 hS hown fl41 (fun _ h9 => h9) dX4_act_34 ?_
          refine lv_iload_n hx hb dX4_act_37 rfl (lv_at hl 3 rfl) ?_
          refine va_ti hx hb hT1 hS (v := .int 1) (vp_in_nI (by decide) (by decide)) rfl dX4_act_38 ?_
          refine lv_iconst (v := 1) hx hb dX4_act_39 (by decide) ?_
          refine lv_icmp_le (tgt := 48) hx hb dX4_act_40 (by decide) (fun _ => ?_) (fun c9 => absurd (by decide) c9)
          refine lv_iconst (v := 0) hx hb dX4_act_48 (by decide) ?_
          refine lv_istore (lv' := [(7, .int 0), (6, .int x1), (0, .ref (a 0)), (1, .int (nI q)), (2, .int (nI 1)), (3, .int x1), (4, .int x2), (5, .int x3)]) hx hb dX4_act_49 hl (by decide) rfl (fun ls hl => ?_)
          refine va_gets (C := RX4) hx hb hZ1 hS hown fl41 (fun _ h9 => h9) dX4_act_51 ?_
          refine lv_iload_n hx hb dX4_act_54 rfl (lv_at hl 4 rfl) ?_
          refine va_ti hx hb hT1 hS (v := .int 1) (vp_in_nI (by decide) (by decide)) rfl dX4_act_55 ?_
          refine lv_iconst (v := 2) hx hb dX4_act_56 (by decide) ?_
          refine lv_icmp_le (tgt := 65) hx hb dX4_act_57 (by decide) (fun _ => ?_) (fun c9 => absurd (by decide) c9)
          refine lv_iconst (v := 0) hx hb dX4_act_65 (by decide) ?_
          refine lv_istore (lv' := [(8, .int 0), (7, .int 0), (6, .int x1), (0, .ref (a 0)), (1, .int (nI q)), (2, .int (nI 1)), (3, .int x1), (4, .int x2), (5, .int x3)]) hx hb dX4_act_66 hl (by decide) rfl (fun ls hl => ?_)
          refine lv_iload hx hb dX4_act_68 (lv_at hl 2 rfl) ?_
          refine cl_Si (As := [.int x1]) (rest := []) (c_X4_isDigit l D x1) ⟨hx, hb, hml, hown, hts⟩ (cwS 1 hts gX4_act_X4_isDigit rfl rfl rfl (by decide +kernel) ⟨Nat.le_of_ble_eq_true rfl, Nat.le_of_ble_eq_true rfl⟩) hK hns hP hD hS hA rfl hl.1 rfl (Nat.le_of_ble_eq_true rfl) dX4_act_70 ⟨Nat.zero_le _, Nat.zero_le _⟩ (fun r70 u70 H locs hw70 hP hD hS => ?_)
          rcases hw70 with ⟨rfl, hd70⟩ | ⟨rfl, hd70⟩
          · refine lv_if_eq (tgt := 92) hx hb dX4_act_73 (by decide) (fun c9 => absurd c9 (by decide)) (fun _ => ?_)
            refine lv_iload hx hb dX4_act_76 (lv_at hl 1 rfl) ?_
            refine cl_Si (As := [.int 0]) (rest := []) (c_X4_isDigit l D 0) ⟨hx, hb, hml, hown, hts⟩ (cwS 1 hts gX4_act_X4_isDigit rfl rfl rfl (by decide +kernel) ⟨Nat.le_of_ble_eq_true rfl, Nat.le_of_ble_eq_true rfl⟩) hK hns hP hD hS hA rfl hl.1 rfl (Nat.le_of_ble_eq_true rfl) dX4_act_78 ⟨Nat.zero_le _, Nat.zero_le _⟩ (fun r78 u78 H locs hw78 hP hD hS => ?_)
            rcases hw78 with ⟨rfl, hd78⟩ | ⟨rfl, hd78⟩
            · refine lv_if_eq (tgt := 92) hx hb dX4_act_81 (by decide) (fun c9 => absurd c9 (by decide)) (fun _ => ?_)
              refine lv_iload hx hb dX4_act_84 (lv_at hl 0 rfl) ?_
              refine cl_Si (As := [.int 0]) (rest := []) (c_X4_isDigit l D 0) ⟨hx, hb, hml, hown, hts⟩ (cwS 1 hts gX4_act_X4_isDigit rfl rfl rfl (by decide +kernel) ⟨Nat.le_of_ble_eq_true rfl, Nat.le_of_ble_eq_true rfl⟩) hK hns hP hD hS hA rfl hl.1 rfl (Nat.le_of_ble_eq_true rfl) dX4_act_86 ⟨Nat.zero_le _, Nat.zero_le _⟩ (fun r86 u86 H locs hw86 hP hD hS => ?_)
              rcases hw86 with ⟨rfl, hd86⟩ | ⟨rfl, hd86⟩
              · refine lv_if_ne (tgt := 94) hx hb dX4_act_89 (by decide) (fun _ => ?_) (fun c9 => absurd c9 (by decide))
                refine lv_iload_n hx hb dX4_act_94 rfl (lv_at hl 5 rfl) ?_
                refine lv_bipush (v := 7) hx hb dX4_act_95 (by decide) ?_
                refine lv_icmp_ne (tgt := 109) hx hb dX4_act_97 (by decide) (fun c_97 => ?_) (fun c_97 => ?_)
                · have c_97 : ¬ (1 = 7) := fun h => c_97 ((nI_eq (a := 1) (b := 7) (by omega) (by omega)).mpr h)
                  refine lv_aload_n hx hb dX4_act_109 rfl (lv_at hl 3 rfl) ?_
                  refine va_get (D := D) (ci := 4) (v := .ref (a 1)) (C := RX4) (T := TX4) (N := 7) hx hb hts inX4 hown hK hP 0 rfl rfl 0 (by decide) fl11 (fun _ h9 => h9) rfl dX4_act_110 ?_
                  refine lv_iload_n hx hb dX4_act_113 rfl (lv_at hl 4 rfl) ?_
                  refine xa_ald hx hb hK hP 1 1 rfl rfl (k := q) (v := (a (2 + 2 * q))) rfl (by omega) (by decide) dX4_act_114 ?_
                  refine lv_iload_n hx hb dX4_act_115 rfl (lv_at hl 5 rfl) ?_
                  refine lv_iload hx hb dX4_act_116 (lv_at hl 2 rfl) ?_
                  refine lv_iload hx hb dX4_act_118 (lv_at hl 1 rfl) ?_
                  refine lv_iload hx hb dX4_act_120 (lv_at hl 0 rfl) ?_
                  have hPq := hP
                  have hDq := hD
                  rw [wsplit _ _ (hq6), (hpl q (hq6)).1] at hPq hDq
                  refine cl_Vi _ _ (As := [.int (nI 1), .int x1, .int 0, .int 0]) (rest := []) (c_X1_add l D cI (a (2 + 2 * q)) (a (3 + 2 * q)) (pf q) (G.1 q) (hpl q hq6).2.1 (nI 1) x1 0 0) ⟨hx, hb, hml, hown, hts⟩ (cwV 4 hts gX4_act_X1_add rfl rfl rfl (by decide +kernel) ⟨Nat.le_of_ble_eq_true rfl, Nat.le_of_ble_eq_true rfl⟩) (hK.sub [0] rfl) hns hPq hDq hS hA rfl (T := TX1) (N := 2) rfl rfl hl.1 rfl (Nat.le_of_ble_eq_true rfl) dX4_act_122 ⟨Nat.zero_le _, Nat.zero_le _⟩ (fun r122 u122 H locs hw122 hP hD hS => ?_)
                  have hP : va_P D vwCl ([(a 0, .inr (4, [.ref (a 1), .ref (a 14), .ref (a 18), .ref (a 22), .int x, .int y, .int z])), (a 1, .inl (cP, 6, .inr (.inr (.inr (.inr (fun k => some (a (2 + 2 * k))))))))] ++ ((wPs a cI (upd pc q u122.2) (va_up pf q u122.1)) ++ ((wSt (sh 14 a) cI g l_ h r) ++ ((wOp (sh 18 a) cI k n b (nI 0)) ++ (wRp (sh 22 a) cI ct td op))))) H := by rw [← wsplitU _ _ (hq6)]; exact hP
                  have hD : va_D A ([(a 0, .inr (4, [.ref (a 1), .ref (a 14), .ref (a 18), .ref (a 22), .int x, .int y, .int z])), (a 1, .inl (cP, 6, .inr (.inr (.inr (.inr (fun k => some (a (2 + 2 * k))))))))] ++ ((wPs a cI (upd pc q u122.2) (va_up pf q u122.1)) ++ ((wSt (sh 14 a) cI g l_ h r) ++ ((wOp (sh 18 a) cI k n b (nI 0)) ++ (wRp (sh 22 a) cI ct td op))))) := by rw [← wsplitU _ _ (hq6)]; exact hD
                  exact Ri (D := D) (upd pc q u122.2, va_up pf q u122.1) hx hb hr rfl hlocks hP hD hS (by have hf : fitP 1 x1 x2 x3 := (⟨fun _ => hd70, fun q => absurd q (by simp [nmB]), fun q => absurd q (by simp [nmC]), fun q => absurd q (by decide)⟩ : fitP 1 x1 x2 x3); rcases hw122 with ⟨h1, h2, h3⟩ | ⟨h1, h2, h3⟩; exact (by rw [F_act_full hq6 (by decide) hf h1, h3]; exact ⟨h2, Dpl_id hpl (hpl q hq6).1.symm rfl⟩); exact (by rw [F_act_in hq6 (by decide) hf (by omega), h3]; exact ⟨h2, Dpl_act hpl hq6 (by decide) hf h1 (cd_eq (by decide) hf (Or.inl ⟨by simp [nmA], rfl⟩) (Or.inr ⟨by simp [nmB], rfl⟩) (Or.inr ⟨by simp [nmC], rfl⟩))⟩)) dX4_act_125
                · have c_97 : 1 = 7 := (nI_eq (a := 1) (b := 7) (by omega) (by omega)).mp c_97
                  exact absurd c_97 (by decide)
              · exact absurd ⟨0, by decide, rfl⟩ hd86
            · exact absurd ⟨0, by decide, rfl⟩ hd78
          · refine lv_if_eq (tgt := 92) hx hb dX4_act_73 (by decide) (fun _ => ?_) (fun c9 => absurd (by decide) c9)
            refine lv_iconst (v := (-1)) hx hb dX4_act_92 (by decide) ?_
            exact Ri (D := D) (pc, pf) hx hb hr rfl hlocks hP hD hS (by rw [F_act_no (fun q => hd70 (q.2.2.1 (by rw [dg_nI (by decide)]; simp [nmA])))]; exact ⟨rfl, hpl⟩) dX4_act_93
        · refine va_gets (C := RX4) hx hb hZ1 hS hown fl41 (fun _ h9 => h9) dX4_act_19 ?_
          refine lv_iload_n hx hb dX4_act_22 rfl (lv_at hl 2 rfl) ?_
          refine va_ti hx hb hT1 hS (v := .int 0) (vp_in_nI (by decide) (by decide)) rfl dX4_act_23 ?_
          refine lv_if_le (tgt := 31) hx hb dX4_act_24 (by decide) (fun _ => ?_) (fun c9 => absurd (by decide) c9)
          refine lv_iconst (v := 0) hx hb dX4_act_31 (by decide) ?_
          refine lv_istore (lv' := [(6, .int 0), (0, .ref (a 0)), (1, .int (nI q)), (2, .int (nI 2)), (3, .int x1), (4, .int x2), (5, .int x3)]) hx hb dX4_act_32 hl (by decide) rfl (fun ls hl => ?_)
          refine va_gets (C := RX4) hx hb hZ1 hS hown fl41 (fun _ h9 => h9) dX4_act_34 ?_
          refine lv_iload_n hx hb dX4_act_37 rfl (lv_at hl 3 rfl) ?_
          refine va_ti hx hb hT1 hS (v := .int 0) (vp_in_nI (by decide) (by decide)) rfl dX4_act_38 ?_
          refine lv_iconst (v := 1) hx hb dX4_act_39 (by decide) ?_
          refine lv_icmp_le (tgt := 48) hx hb dX4_act_40 (by decide) (fun _ => ?_) (fun c9 => absurd (by decide) c9)
          refine lv_iconst (v := 0) hx hb dX4_act_48 (by decide) ?_
          refine lv_istore (lv' := [(7, .int 0), (6, .int 0), (0, .ref (a 0)), (1, .int (nI q)), (2, .int (nI 2)), (3, .int x1), (4, .int x2), (5, .int x3)]) hx hb dX4_act_49 hl (by decide) rfl (fun ls hl => ?_)
          refine va_gets (C := RX4) hx hb hZ1 hS hown fl41 (fun _ h9 => h9) dX4_act_51 ?_
          refine lv_iload_n hx hb dX4_act_54 rfl (lv_at hl 4 rfl) ?_
          refine va_ti hx hb hT1 hS (v := .int 0) (vp_in_nI (by decide) (by decide)) rfl dX4_act_55 ?_
          refine lv_iconst (v := 2) hx hb dX4_act_56 (by decide) ?_
          refine lv_icmp_le (tgt := 65) hx hb dX4_act_57 (by decide) (fun _ => ?_) (fun c9 => absurd (by decide) c9)
          refine lv_iconst (v := 0) hx hb dX4_act_65 (by decide) ?_
          refine lv_istore (lv' := [(8, .int 0), (7, .int 0), (6, .int 0), (0, .ref (a 0)), (1, .int (nI q)), (2, .int (nI 2)), (3, .int x1), (4, .int x2), (5, .int x3)]) hx hb dX4_act_66 hl (by decide) rfl (fun ls hl => ?_)
          refine lv_iload hx hb dX4_act_68 (lv_at hl 2 rfl) ?_
          refine cl_Si (As := [.int 0]) (rest := []) (c_X4_isDigit l D 0) ⟨hx, hb, hml, hown, hts⟩ (cwS 1 hts gX4_act_X4_isDigit rfl rfl rfl (by decide +kernel) ⟨Nat.le_of_ble_eq_true rfl, Nat.le_of_ble_eq_true rfl⟩) hK hns hP hD hS hA rfl hl.1 rfl (Nat.le_of_ble_eq_true rfl) dX4_act_70 ⟨Nat.zero_le _, Nat.zero_le _⟩ (fun r70 u70 H locs hw70 hP hD hS => ?_)
          rcases hw70 with ⟨rfl, hd70⟩ | ⟨rfl, hd70⟩
          · refine lv_if_eq (tgt := 92) hx hb dX4_act_73 (by decide) (fun c9 => absurd c9 (by decide)) (fun _ => ?_)
            refine lv_iload hx hb dX4_act_76 (lv_at hl 1 rfl) ?_
            refine cl_Si (As := [.int 0]) (rest := []) (c_X4_isDigit l D 0) ⟨hx, hb, hml, hown, hts⟩ (cwS 1 hts gX4_act_X4_isDigit rfl rfl rfl (by decide +kernel) ⟨Nat.le_of_ble_eq_true rfl, Nat.le_of_ble_eq_true rfl⟩) hK hns hP hD hS hA rfl hl.1 rfl (Nat.le_of_ble_eq_true rfl) dX4_act_78 ⟨Nat.zero_le _, Nat.zero_le _⟩ (fun r78 u78 H locs hw78 hP hD hS => ?_)
            rcases hw78 with ⟨rfl, hd78⟩ | ⟨rfl, hd78⟩
            · refine lv_if_eq (tgt := 92) hx hb dX4_act_81 (by decide) (fun c9 => absurd c9 (by decide)) (fun _ => ?_)
              refine lv_iload hx hb dX4_act_84 (lv_at hl 0 rfl) ?_
              refine cl_Si (As := [.int 0]) (rest := []) (c_X4_isDigit l D 0) ⟨hx, hb, hml, hown, hts⟩ (cwS 1 hts gX4_act_X4_isDigit rfl rfl rfl (by decide +kernel) ⟨Nat.le_of_ble_eq_true rfl, Nat.le_of_ble_eq_true rfl⟩) hK hns hP hD hS hA rfl hl.1 rfl (Nat.le_of_ble_eq_true rfl) dX4_act_86 ⟨Nat.zero_le _, Nat.zero_le _⟩ (fun r86 u86 H locs hw86 hP hD hS => ?_)
              rcases hw86 with ⟨rfl, hd86⟩ | ⟨rfl, hd86⟩
              · refine lv_if_ne (tgt := 94) hx hb dX4_act_89 (by decide) (fun _ => ?_) (fun c9 => absurd c9 (by decide))
                refine lv_iload_n hx hb dX4_act_94 rfl (lv_at hl 5 rfl) ?_
                refine lv_bipush (v := 7) hx hb dX4_act_95 (by decide) ?_
                refine lv_icmp_ne (tgt := 109) hx hb dX4_act_97 (by decide) (fun c_97 => ?_) (fun c_97 => ?_)
                · have c_97 : ¬ (2 = 7) := fun h => c_97 ((nI_eq (a := 2) (b := 7) (by omega) (by omega)).mpr h)
                  refine lv_aload_n hx hb dX4_act_109 rfl (lv_at hl 3 rfl) ?_
                  refine va_get (D := D) (ci := 4) (v := .ref (a 1)) (C := RX4) (T := TX4) (N := 7) hx hb hts inX4 hown hK hP 0 rfl rfl 0 (by decide) fl11 (fun _ h9 => h9) rfl dX4_act_110 ?_
                  refine lv_iload_n hx hb dX4_act_113 rfl (lv_at hl 4 rfl) ?_
                  refine xa_ald hx hb hK hP 1 1 rfl rfl (k := q) (v := (a (2 + 2 * q))) rfl (by omega) (by decide) dX4_act_114 ?_
                  refine lv_iload_n hx hb dX4_act_115 rfl (lv_at hl 5 rfl) ?_
                  refine lv_iload hx hb dX4_act_116 (lv_at hl 2 rfl) ?_
                  refine lv_iload hx hb dX4_act_118 (lv_at hl 1 rfl) ?_
                  refine lv_iload hx hb dX4_act_120 (lv_at hl 0 rfl) ?_
                  have hPq := hP
                  have hDq := hD
                  rw [wsplit _ _ (hq6), (hpl q (hq6)).1] at hPq hDq
                  refine cl_Vi _ _ (As := [.int (nI 2), .int 0, .int 0, .int 0]) (rest := []) (c_X1_add l D cI (a (2 + 2 * q)) (a (3 + 2 * q)) (pf q) (G.1 q) (hpl q hq6).2.1 (nI 2) 0 0 0) ⟨hx, hb, hml, hown, hts⟩ (cwV 4 hts gX4_act_X1_add rfl rfl rfl (by decide +kernel) ⟨Nat.le_of_ble_eq_true rfl, Nat.le_of_ble_eq_true rfl⟩) (hK.sub [0] rfl) hns hPq hDq hS hA rfl (T := TX1) (N := 2) rfl rfl hl.1 rfl (Nat.le_of_ble_eq_true rfl) dX4_act_122 ⟨Nat.zero_le _, Nat.zero_le _⟩ (fun r122 u122 H locs hw122 hP hD hS => ?_)
                  have hP : va_P D vwCl ([(a 0, .inr (4, [.ref (a 1), .ref (a 14), .ref (a 18), .ref (a 22), .int x, .int y, .int z])), (a 1, .inl (cP, 6, .inr (.inr (.inr (.inr (fun k => some (a (2 + 2 * k))))))))] ++ ((wPs a cI (upd pc q u122.2) (va_up pf q u122.1)) ++ ((wSt (sh 14 a) cI g l_ h r) ++ ((wOp (sh 18 a) cI k n b (nI 0)) ++ (wRp (sh 22 a) cI ct td op))))) H := by rw [← wsplitU _ _ (hq6)]; exact hP
                  have hD : va_D A ([(a 0, .inr (4, [.ref (a 1), .ref (a 14), .ref (a 18), .ref (a 22), .int x, .int y, .int z])), (a 1, .inl (cP, 6, .inr (.inr (.inr (.inr (fun k => some (a (2 + 2 * k))))))))] ++ ((wPs a cI (upd pc q u122.2) (va_up pf q u122.1)) ++ ((wSt (sh 14 a) cI g l_ h r) ++ ((wOp (sh 18 a) cI k n b (nI 0)) ++ (wRp (sh 22 a) cI ct td op))))) := by rw [← wsplitU _ _ (hq6)]; exact hD
                  exact Ri (D := D) (upd pc q u122.2, va_up pf q u122.1) hx hb hr rfl hlocks hP hD hS (by have hf : fitP 2 x1 x2 x3 := (⟨fun q => absurd q (by simp [nmA]), fun q => absurd q (by simp [nmB]), fun q => absurd q (by simp [nmC]), fun q => absurd q (by decide)⟩ : fitP 2 x1 x2 x3); rcases hw122 with ⟨h1, h2, h3⟩ | ⟨h1, h2, h3⟩; exact (by rw [F_act_full hq6 (by decide) hf h1, h3]; exact ⟨h2, Dpl_id hpl (hpl q hq6).1.symm rfl⟩); exact (by rw [F_act_in hq6 (by decide) hf (by omega), h3]; exact ⟨h2, Dpl_act hpl hq6 (by decide) hf h1 (cd_eq (by decide) hf (Or.inr ⟨by simp [nmA], rfl⟩) (Or.inr ⟨by simp [nmB], rfl⟩) (Or.inr ⟨by simp [nmC], rfl⟩))⟩)) dX4_act_125
                · have c_97 : 2 = 7 := (nI_eq (a := 2) (b := 7) (by omega) (by omega)).mp c_97
                  exact absurd c_97 (by decide)
              · exact absurd ⟨0, by decide, rfl⟩ hd86
            · exact absurd ⟨0, by decide, rfl⟩ hd78
          · exact absurd ⟨0, by decide, rfl⟩ hd70
        · refine va_gets (C := RX4) hx hb hZ1 hS hown fl41 (fun _ h9 => h9) dX4_act_19 ?_
          refine lv_iload_n hx hb dX4_act_22 rfl (lv_at hl 2 rfl) ?_
          refine va_ti hx hb hT1 hS (v := .int 2) (vp_in_nI (by decide) (by decide)) rfl dX4_act_23 ?_
          refine lv_if_le (tgt := 31) hx hb dX4_act_24 (by decide) (fun c9 => absurd c9 (by decide)) (fun _ => ?_)
          refine lv_iload_n hx hb dX4_act_27 rfl (lv_at hl 3 rfl) ?_
          refine lv_goto (tgt := 32) hx hb dX4_act_28 (by decide) ?_
          refine lv_istore (lv' := [(6, .int x1), (0, .ref (a 0)), (1, .int (nI q)), (2, .int (nI 3)), (3, .int x1), (4, .int x2), (5, .int x3)]) hx hb dX4_act_32 hl (by decide) rfl (fun ls hl => ?_)
          refine va_gets (C := RX4) hx hb hZ1 hS hown fl41 (fun _ h9 => h9) dX4_act_34 ?_
          refine lv_iload_n hx hb dX4_act_37 rfl (lv_at hl 3 rfl) ?_
          refine va_ti hx hb hT1 hS (v := .int 2) (vp_in_nI (by decide) (by decide)) rfl dX4_act_38 ?_
          refine lv_iconst (v := 1) hx hb dX4_act_39 (by decide) ?_
          refine lv_icmp_le (tgt := 48) hx hb dX4_act_40 (by decide) (fun c9 => absurd c9 (by decide)) (fun _ => ?_)
          refine lv_iload hx hb dX4_act_43 (lv_at hl 5 rfl) ?_
          refine lv_goto (tgt := 49) hx hb dX4_act_45 (by decide) ?_
          refine lv_istore (lv' := [(7, .int x2), (6, .int x1), (0, .ref (a 0)), (1, .int (nI q)), (2, .int (nI 3)), (3, .int x1), (4, .int x2), (5, .int x3)]) hx hb dX4_act_49 hl (by decide) rfl (fun ls hl => ?_)
          refine va_gets (C := RX4) hx hb hZ1 hS hown fl41 (fun _ h9 => h9) dX4_act_51 ?_
          refine lv_iload_n hx hb dX4_act_54 rfl (lv_at hl 4 rfl) ?_
          refine va_ti hx hb hT1 hS (v := .int 2) (vp_in_nI (by decide) (by decide)) rfl dX4_act_55 ?_
          refine lv_iconst (v := 2) hx hb dX4_act_56 (by decide) ?_
          refine lv_icmp_le (tgt := 65) hx hb dX4_act_57 (by decide) (fun _ => ?_) (fun c9 => absurd (by decide) c9)
          refine lv_iconst (v := 0) hx hb dX4_act_65 (by decide) ?_
          refine lv_istore (lv' := [(8, .int 0), (7, .int x2), (6, .int x1), (0, .ref (a 0)), (1, .int (nI q)), (2, .int (nI 3)), (3, .int x1), (4, .int x2), (5, .int x3)]) hx hb dX4_act_66 hl (by decide) rfl (fun ls hl => ?_)
          refine lv_iload hx hb dX4_act_68 (lv_at hl 2 rfl) ?_
          refine cl_Si (As := [.int x1]) (rest := []) (c_X4_isDigit l D x1) ⟨hx, hb, hml, hown, hts⟩ (cwS 1 hts gX4_act_X4_isDigit rfl rfl rfl (by decide +kernel) ⟨Nat.le_of_ble_eq_true rfl, Nat.le_of_ble_eq_true rfl⟩) hK hns hP hD hS hA rfl hl.1 rfl (Nat.le_of_ble_eq_true rfl) dX4_act_70 ⟨Nat.zero_le _, Nat.zero_le _⟩ (fun r70 u70 H locs hw70 hP hD hS => ?_)
          rcases hw70 with ⟨rfl, hd70⟩ | ⟨rfl, hd70⟩
          · refine lv_if_eq (tgt := 92) hx hb dX4_act_73 (by decide) (fun c9 => absurd c9 (by decide)) (fun _ => ?_)
            refine lv_iload hx hb dX4_act_76 (lv_at hl 1 rfl) ?_
            refine cl_Si (As := [.int x2]) (rest := []) (c_X4_isDigit l D x2) ⟨hx, hb, hml, hown, hts⟩ (cwS 1 hts gX4_act_X4_isDigit rfl rfl rfl (by decide +kernel) ⟨Nat.le_of_ble_eq_true rfl, Nat.le_of_ble_eq_true rfl⟩) hK hns hP hD hS hA rfl hl.1 rfl (Nat.le_of_ble_eq_true rfl) dX4_act_78 ⟨Nat.zero_le _, Nat.zero_le _⟩ (fun r78 u78 H locs hw78 hP hD hS => ?_)
            rcases hw78 with ⟨rfl, hd78⟩ | ⟨rfl, hd78⟩
            · refine lv_if_eq (tgt := 92) hx hb dX4_act_81 (by decide) (fun c9 => absurd c9 (by decide)) (fun _ => ?_)
              refine lv_iload hx hb dX4_act_84 (lv_at hl 0 rfl) ?_
              refine cl_Si (As := [.int 0]) (rest := []) (c_X4_isDigit l D 0) ⟨hx, hb, hml, hown, hts⟩ (cwS 1 hts gX4_act_X4_isDigit rfl rfl rfl (by decide +kernel) ⟨Nat.le_of_ble_eq_true rfl, Nat.le_of_ble_eq_true rfl⟩) hK hns hP hD hS hA rfl hl.1 rfl (Nat.le_of_ble_eq_true rfl) dX4_act_86 ⟨Nat.zero_le _, Nat.zero_le _⟩ (fun r86 u86 H locs hw86 hP hD hS => ?_)
              rcases hw86 with ⟨rfl, hd86⟩ | ⟨rfl, hd86⟩
              · refine lv_if_ne (tgt := 94) hx hb dX4_act_89 (by decide) (fun _ => ?_) (fun c9 => absurd c9 (by decide))
                refine lv_iload_n hx hb dX4_act_94 rfl (lv_at hl 5 rfl) ?_
                refine lv_bipush (v := 7) hx hb dX4_act_95 (by decide) ?_
                refine lv_icmp_ne (tgt := 109) hx hb dX4_act_97 (by decide) (fun c_97 => ?_) (fun c_97 => ?_)
                · have c_97 : ¬ (3 = 7) := fun h => c_97 ((nI_eq (a := 3) (b := 7) (by omega) (by omega)).mpr h)
                  refine lv_aload_n hx hb dX4_act_109 rfl (lv_at hl 3 rfl) ?_
                  refine va_get (D := D) (ci := 4) (v := .ref (a 1)) (C := RX4) (T := TX4) (N := 7) hx hb hts inX4 hown hK hP 0 rfl rfl 0 (by decide) fl11 (fun _ h9 => h9) rfl dX4_act_110 ?_
                  refine lv_iload_n hx hb dX4_act_113 rfl (lv_at hl 4 rfl) ?_
                  refine xa_ald hx hb hK hP 1 1 rfl rfl (k := q) (v := (a (2 + 2 * q))) rfl (by omega) (by decide) dX4_act_114 ?_
                  refine lv_iload_n hx hb dX4_act_115 rfl (lv_at hl 5 rfl) ?_
                  refine lv_iload hx hb dX4_act_116 (lv_at hl 2 rfl) ?_
                  refine lv_iload hx hb dX4_act_118 (lv_at hl 1 rfl) ?_
                  refine lv_iload hx hb dX4_act_120 (lv_at hl 0 rfl) ?_
                  have hPq := hP
                  have hDq := hD
                  rw [wsplit _ _ (hq6), (hpl q (hq6)).1] at hPq hDq
                  refine cl_Vi _ _ (As := [.int (nI 3), .int x1, .int x2, .int 0]) (rest := []) (c_X1_add l D cI (a (2 + 2 * q)) (a (3 + 2 * q)) (pf q) (G.1 q) (hpl q hq6).2.1 (nI 3) x1 x2 0) ⟨hx, hb, hml, hown, hts⟩ (cwV 4 hts gX4_act_X1_add rfl rfl rfl (by decide +kernel) ⟨Nat.le_of_ble_eq_true rfl, Nat.le_of_ble_eq_true rfl⟩) (hK.sub [0] rfl) hns hPq hDq hS hA rfl (T := TX1) (N := 2) rfl rfl hl.1 rfl (Nat.le_of_ble_eq_true rfl) dX4_act_122 ⟨Nat.zero_le _, Nat.zero_le _⟩ (fun r122 u122 H locs hw122 hP hD hS => ?_)
                  have hP : va_P D vwCl ([(a 0, .inr (4, [.ref (a 1), .ref (a 14), .ref (a 18), .ref (a 22), .int x, .int y, .int z])), (a 1, .inl (cP, 6, .inr (.inr (.inr (.inr (fun k => some (a (2 + 2 * k))))))))] ++ ((wPs a cI (upd pc q u122.2) (va_up pf q u122.1)) ++ ((wSt (sh 14 a) cI g l_ h r) ++ ((wOp (sh 18 a) cI k n b (nI 0)) ++ (wRp (sh 22 a) cI ct td op))))) H := by rw [← wsplitU _ _ (hq6)]; exact hP
                  have hD : va_D A ([(a 0, .inr (4, [.ref (a 1), .ref (a 14), .ref (a 18), .ref (a 22), .int x, .int y, .int z])), (a 1, .inl (cP, 6, .inr (.inr (.inr (.inr (fun k => some (a (2 + 2 * k))))))))] ++ ((wPs a cI (upd pc q u122.2) (va_up pf q u122.1)) ++ ((wSt (sh 14 a) cI g l_ h r) ++ ((wOp (sh 18 a) cI k n b (nI 0)) ++ (wRp (sh 22 a) cI ct td op))))) := by rw [← wsplitU _ _ (hq6)]; exact hD
                  exact Ri (D := D) (upd pc q u122.2, va_up pf q u122.1) hx hb hr rfl hlocks hP hD hS (by have hf : fitP 3 x1 x2 x3 := (⟨fun _ => hd70, fun _ => hd78, fun q => absurd q (by simp [nmC]), fun q => absurd q (by decide)⟩ : fitP 3 x1 x2 x3); rcases hw122 with ⟨h1, h2, h3⟩ | ⟨h1, h2, h3⟩; exact (by rw [F_act_full hq6 (by decide) hf h1, h3]; exact ⟨h2, Dpl_id hpl (hpl q hq6).1.symm rfl⟩); exact (by rw [F_act_in hq6 (by decide) hf (by omega), h3]; exact ⟨h2, Dpl_act hpl hq6 (by decide) hf h1 (cd_eq (by decide) hf (Or.inl ⟨by simp [nmA], rfl⟩) (Or.inl ⟨by simp [nmB], rfl⟩) (Or.inr ⟨by simp [nmC], rfl⟩))⟩)) dX4_act_125
                · have c_97 : 3 = 7 := (nI_eq (a := 3) (b := 7) (by omega) (by omega)).mp c_97
                  exact absurd c_97 (by decide)
              · exact absurd ⟨0, by decide, rfl⟩ hd86
            · refine lv_if_eq (tgt := 92) hx hb dX4_act_81 (by decide) (fun _ => ?_) (fun c9 => absurd (by decide) c9)
              refine lv_iconst (v := (-1)) hx hb dX4_act_92 (by decide) ?_
              exact Ri (D := D) (pc, pf) hx hb hr rfl hlocks hP hD hS (by rw [F_act_no (fun q => hd78 (q.2.2.2.1 (by rw [dg_nI (by decide)]; simp [nmB])))]; exact ⟨rfl, hpl⟩) dX4_act_93
          · refine lv_if_eq (tgt := 92) hx hb dX4_act_73 (by decide) (fun _ => ?_) (fun c9 => absurd (by decide) c9)
            refine lv_iconst (v := (-1)) hx hb dX4_act_92 (by decide) ?_
            exact Ri (D := D) (pc, pf) hx hb hr rfl hlocks hP hD hS (by rw [F_act_no (fun q => hd70 (q.2.2.1 (by rw [dg_nI (by decide)]; simp [nmA])))]; exact ⟨rfl, hpl⟩) dX4_act_93
        · refine va_gets (C := RX4) hx hb hZ1 hS hown fl41 (fun _ h9 => h9) dX4_act_19 ?_
          refine lv_iload_n hx hb dX4_act_22 rfl (lv_at hl 2 rfl) ?_
          refine va_ti hx hb hT1 hS (v := .int 2) (vp_in_nI (by decide) (by decide)) rfl dX4_act_23 ?_
          refine lv_if_le (tgt := 31) hx hb dX4_act_24 (by decide) (fun c9 => absurd c9 (by decide)) (fun _ => ?_)
          refine lv_iload_n hx hb dX4_act_27 rfl (lv_at hl 3 rfl) ?_
          refine lv_goto (tgt := 32) hx hb dX4_act_28 (by decide) ?_
          refine lv_istore (lv' := [(6, .int x1), (0, .ref (a 0)), (1, .int (nI q)), (2, .int (nI 4)), (3, .int x1), (4, .int x2), (5, .int x3)]) hx hb dX4_act_32 hl (by decide) rfl (fun ls hl => ?_)
          refine va_gets (C := RX4) hx hb hZ1 hS hown fl41 (fun _ h9 => h9) dX4_act_34 ?_
          refine lv_iload_n hx hb dX4_act_37 rfl (lv_at hl 3 rfl) ?_
          refine va_ti hx hb hT1 hS (v := .int 2) (vp_in_nI (by decide) (by decide)) rfl dX4_act_38 ?_
          refine lv_iconst (v := 1) hx hb dX4_act_39 (by decide) ?_
          refine lv_icmp_le (tgt := 48) hx hb dX4_act_40 (by decide) (fun c9 => absurd c9 (by decide)) (fun _ => ?_)
          refine lv_iload hx hb dX4_act_43 (lv_at hl 5 rfl) ?_
          refine lv_goto (tgt := 49) hx hb dX4_act_45 (by decide) ?_
          refine lv_istore (lv' := [(7, .int x2), (6, .int x1), (0, .ref (a 0)), (1, .int (nI q)), (2, .int (nI 4)), (3, .int x1), (4, .int x2), (5, .int x3)]) hx hb dX4_act_49 hl (by decide) rfl (fun ls hl => ?_)
          refine va_gets (C := RX4) hx hb hZ1 hS hown fl41 (fun _ h9 => h9) dX4_act_51 ?_
          refine lv_iload_n hx hb dX4_act_54 rfl (lv_at hl 4 rfl) ?_
          refine va_ti hx hb hT1 hS (v := .int 2) (vp_in_nI (by decide) (by decide)) rfl dX4_act_55 ?_
          refine lv_iconst (v := 2) hx hb dX4_act_56 (by decide) ?_
          refine lv_icmp_le (tgt := 65) hx hb dX4_act_57 (by decide) (fun _ => ?_) (fun c9 => absurd (by decide) c9)
          refine lv_iconst (v := 0) hx hb dX4_act_65 (by decide) ?_
          refine lv_istore (lv' := [(8, .int 0), (7, .int x2), (6, .int x1), (0, .ref (a 0)), (1, .int (nI q)), (2, .int (nI 4)), (3, .int x1), (4, .int x2), (5, .int x3)]) hx hb dX4_act_66 hl (by decide) rfl (fun ls hl => ?_)
          refine lv_iload hx hb dX4_act_68 (lv_at hl 2 rfl) ?_
          refine cl_Si (As := [.int x1]) (rest := []) (c_X4_isDigit l D x1) ⟨hx, hb, hml, hown, hts⟩ (cwS 1 hts gX4_act_X4_isDigit rfl rfl rfl (by decide +kernel) ⟨Nat.le_of_ble_eq_true rfl, Nat.le_of_ble_eq_true rfl⟩) hK hns hP hD hS hA rfl hl.1 rfl (Nat.le_of_ble_eq_true rfl) dX4_act_70 ⟨Nat.zero_le _, Nat.zero_le _⟩ (fun r70 u70 H locs hw70 hP hD hS => ?_)
          rcases hw70 with ⟨rfl, hd70⟩ | ⟨rfl, hd70⟩
          · refine lv_if_eq (tgt := 92) hx hb dX4_act_73 (by decide) (fun c9 => absurd c9 (by decide)) (fun _ => ?_)
            refine lv_iload hx hb dX4_act_76 (lv_at hl 1 rfl) ?_
            refine cl_Si (As := [.int x2]) (rest := []) (c_X4_isDigit l D x2) ⟨hx, hb, hml, hown, hts⟩ (cwS 1 hts gX4_act_X4_isDigit rfl rfl rfl (by decide +kernel) ⟨Nat.le_of_ble_eq_true rfl, Nat.le_of_ble_eq_true rfl⟩) hK hns hP hD hS hA rfl hl.1 rfl (Nat.le_of_ble_eq_true rfl) dX4_act_78 ⟨Nat.zero_le _, Nat.zero_le _⟩ (fun r78 u78 H locs hw78 hP hD hS => ?_)
            rcases hw78 with ⟨rfl, hd78⟩ | ⟨rfl, hd78⟩
            · refine lv_if_eq (tgt := 92) hx hb dX4_act_81 (by decide) (fun c9 => absurd c9 (by decide)) (fun _ => ?_)
              refine lv_iload hx hb dX4_act_84 (lv_at hl 0 rfl) ?_
              refine cl_Si (As := [.int 0]) (rest := []) (c_X4_isDigit l D 0) ⟨hx, hb, hml, hown, hts⟩ (cwS 1 hts gX4_act_X4_isDigit rfl rfl rfl (by decide +kernel) ⟨Nat.le_of_ble_eq_true rfl, Nat.le_of_ble_eq_true rfl⟩) hK hns hP hD hS hA rfl hl.1 rfl (Nat.le_of_ble_eq_true rfl) dX4_act_86 ⟨Nat.zero_le _, Nat.zero_le _⟩ (fun r86 u86 H locs hw86 hP hD hS => ?_)
              rcases hw86 with ⟨rfl, hd86⟩ | ⟨rfl, hd86⟩
              · refine lv_if_ne (tgt := 94) hx hb dX4_act_89 (by decide) (fun _ => ?_) (fun c9 => absurd c9 (by decide))
                refine lv_iload_n hx hb dX4_act_94 rfl (lv_at hl 5 rfl) ?_
                refine lv_bipush (v := 7) hx hb dX4_act_95 (by decide) ?_
                refine lv_icmp_ne (tgt := 109) hx hb dX4_act_97 (by decide) (fun c_97 => ?_) (fun c_97 => ?_)
                · have c_97 : ¬ (4 = 7) := fun h => c_97 ((nI_eq (a := 4) (b := 7) (by omega) (by omega)).mpr h)
                  refine lv_aload_n hx hb dX4_act_109 rfl (lv_at hl 3 rfl) ?_
                  refine va_get (D := D) (ci := 4) (v := .ref (a 1)) (C := RX4) (T := TX4) (N := 7) hx hb hts inX4 hown hK hP 0 rfl rfl 0 (by decide) fl11 (fun _ h9 => h9) rfl dX4_act_110 ?_
                  refine lv_iload_n hx hb dX4_act_113 rfl (lv_at hl 4 rfl) ?_
                  refine xa_ald hx hb hK hP 1 1 rfl rfl (k := q) (v := (a (2 + 2 * q))) rfl (by omega) (by decide) dX4_act_114 ?_
                  refine lv_iload_n hx hb dX4_act_115 rfl (lv_at hl 5 rfl) ?_
                  refine lv_iload hx hb dX4_act_116 (lv_at hl 2 rfl) ?_
                  refine lv_iload hx hb dX4_act_118 (lv_at hl 1 rfl) ?_
                  refine lv_iload hx hb dX4_act_120 (lv_at hl 0 rfl) ?_
                  have hPq := hP
                  have hDq := hD
                  rw [wsplit _ _ (hq6), (hpl q (hq6)).1] at hPq hDq
                  refine cl_Vi _ _ (As := [.int (nI 4), .int x1, .int x2, .int 0]) (rest := []) (c_X1_add l D cI (a (2 + 2 * q)) (a (3 + 2 * q)) (pf q) (G.1 q) (hpl q hq6).2.1 (nI 4) x1 x2 0) ⟨hx, hb, hml, hown, hts⟩ (cwV 4 hts gX4_act_X1_add rfl rfl rfl (by decide +kernel) ⟨Nat.le_of_ble_eq_true rfl, Nat.le_of_ble_eq_true rfl⟩) (hK.sub [0] rfl) hns hPq hDq hS hA rfl (T := TX1) (N := 2) rfl rfl hl.1 rfl (Nat.le_of_ble_eq_true rfl) dX4_act_122 ⟨Nat.zero_le _, Nat.zero_le _⟩ (fun r122 u122 H locs hw122 hP hD hS => ?_)
                  have hP : va_P D vwCl ([(a 0, .inr (4, [.ref (a 1), .ref (a 14), .ref (a 18), .ref (a 22), .int x, .int y, .int z])), (a 1, .inl (cP, 6, .inr (.inr (.inr (.inr (fun k => some (a (2 + 2 * k))))))))] ++ ((wPs a cI (upd pc q u122.2) (va_up pf q u122.1)) ++ ((wSt (sh 14 a) cI g l_ h r) ++ ((wOp (sh 18 a) cI k n b (nI 0)) ++ (wRp (sh 22 a) cI ct td op))))) H := by rw [← wsplitU _ _ (hq6)]; exact hP
                  have hD : va_D A ([(a 0, .inr (4, [.ref (a 1), .ref (a 14), .ref (a 18), .ref (a 22), .int x, .int y, .int z])), (a 1, .inl (cP, 6, .inr (.inr (.inr (.inr (fun k => some (a (2 + 2 * k))))))))] ++ ((wPs a cI (upd pc q u122.2) (va_up pf q u122.1)) ++ ((wSt (sh 14 a) cI g l_ h r) ++ ((wOp (sh 18 a) cI k n b (nI 0)) ++ (wRp (sh 22 a) cI ct td op))))) := by rw [← wsplitU _ _ (hq6)]; exact hD
                  exact Ri (D := D) (upd pc q u122.2, va_up pf q u122.1) hx hb hr rfl hlocks hP hD hS (by have hf : fitP 4 x1 x2 x3 := (⟨fun _ => hd70, fun _ => hd78, fun q => absurd q (by simp [nmC]), fun q => absurd q (by decide)⟩ : fitP 4 x1 x2 x3); rcases hw122 with ⟨h1, h2, h3⟩ | ⟨h1, h2, h3⟩; exact (by rw [F_act_full hq6 (by decide) hf h1, h3]; exact ⟨h2, Dpl_id hpl (hpl q hq6).1.symm rfl⟩); exact (by rw [F_act_in hq6 (by decide) hf (by omega), h3]; exact ⟨h2, Dpl_act hpl hq6 (by decide) hf h1 (cd_eq (by decide) hf (Or.inl ⟨by simp [nmA], rfl⟩) (Or.inl ⟨by simp [nmB], rfl⟩) (Or.inr ⟨by simp [nmC], rfl⟩))⟩)) dX4_act_125
                · have c_97 : 4 = 7 := (nI_eq (a := 4) (b := 7) (by omega) (by omega)).mp c_97
                  exact absurd c_97 (by decide)
              · exact absurd ⟨0, by decide, rfl⟩ hd86
            · refine lv_if_eq (tgt := 92) hx hb dX4_act_81 (by decide) (fun _ => ?_) (fun c9 => absurd (by decide) c9)
              refine lv_iconst (v := (-1)) hx hb dX4_act_92 (by decide) ?_
              exact Ri (D := D) (pc, pf) hx hb hr rfl hlocks hP hD hS (by rw [F_act_no (fun q => hd78 (q.2.2.2.1 (by rw [dg_nI (by decide)]; simp [nmB])))]; exact ⟨rfl, hpl⟩) dX4_act_93
          · refine lv_if_eq (tgt := 92) hx hb dX4_act_73 (by decide) (fun _ => ?_) (fun c9 => absurd (by decide) c9)
            refine lv_iconst (v := (-1)) hx hb dX4_act_92 (by decide) ?_
            exact Ri (D := D) (pc, pf) hx hb hr rfl hlocks hP hD hS (by rw [F_act_no (fun q => hd70 (q.2.2.1 (by rw [dg_nI (by decide)]; simp [nmA])))]; exact ⟨rfl, hpl⟩) dX4_act_93
        · refine va_gets (C := RX4) hx hb hZ1 hS hown fl41 (fun _ h9 => h9) dX4_act_19 ?_
          refine lv_iload_n hx hb dX4_act_22 rfl (lv_at hl 2 rfl) ?_
          refine va_ti hx hb hT1 hS (v := .int 2) (vp_in_nI (by decide) (by decide)) rfl dX4_act_23 ?_
          refine lv_if_le (tgt := 31) hx hb dX4_act_24 (by decide) (fun c9 => absurd c9 (by decide)) (fun _ => ?_)
          refine lv_iload_n hx hb dX4_act_27 rfl (lv_at hl 3 rfl) ?_
          refine lv_goto (tgt := 32) hx hb dX4_act_28 (by decide) ?_
          refine lv_istore (lv' := [(6, .int x1), (0, .ref (a 0)), (1, .int (nI q)), (2, .int (nI 5)), (3, .int x1), (4, .int x2), (5, .int x3)]) hx hb dX4_act_32 hl (by decide) rfl (fun ls hl => ?_)
          refine va_gets (C := RX4) hx hb hZ1 hS hown fl41 (fun _ h9 => h9) dX4_act_34 ?_
          refine lv_iload_n hx hb dX4_act_37 rfl (lv_at hl 3 rfl) ?_
          refine va_ti hx hb hT1 hS (v := .int 2) (vp_in_nI (by decide) (by decide)) rfl dX4_act_38 ?_
          refine lv_iconst (v := 1) hx hb dX4_act_39 (by decide) ?_
          refine lv_icmp_le (tgt := 48) hx hb dX4_act_40 (by decide) (fun c9 => absurd c9 (by decide)) (fun _ => ?_)
          refine lv_iload hx hb dX4_act_43 (lv_at hl 5 rfl) ?_
          refine lv_goto (tgt := 49) hx hb dX4_act_45 (by decide) ?_
          refine lv_istore (lv' := [(7, .int x2), (6, .int x1), (0, .ref (a 0)), (1, .int (nI q)), (2, .int (nI 5)), (3, .int x1), (4, .int x2), (5, .int x3)]) hx hb dX4_act_49 hl (by decide) rfl (fun ls hl => ?_)
          refine va_gets (C := RX4) hx hb hZ1 hS hown fl41 (fun _ h9 => h9) dX4_act_51 ?_
          refine lv_iload_n hx hb dX4_act_54 rfl (lv_at hl 4 rfl) ?_
          refine va_ti hx hb hT1 hS (v := .int 2) (vp_in_nI (by decide) (by decide)) rfl dX4_act_55 ?_
          refine lv_iconst (v := 2) hx hb dX4_act_56 (by decide) ?_
          refine lv_icmp_le (tgt := 65) hx hb dX4_act_57 (by decide) (fun _ => ?_) (fun c9 => absurd (by decide) c9)
          refine lv_iconst (v := 0) hx hb dX4_act_65 (by decide) ?_
          refine lv_istore (lv' := [(8, .int 0), (7, .int x2), (6, .int x1), (0, .ref (a 0)), (1, .int (nI q)), (2, .int (nI 5)), (3, .int x1), (4, .int x2), (5, .int x3)]) hx hb dX4_act_66 hl (by decide) rfl (fun ls hl => ?_)
          refine lv_iload hx hb dX4_act_68 (lv_at hl 2 rfl) ?_
          refine cl_Si (As := [.int x1]) (rest := []) (c_X4_isDigit l D x1) ⟨hx, hb, hml, hown, hts⟩ (cwS 1 hts gX4_act_X4_isDigit rfl rfl rfl (by decide +kernel) ⟨Nat.le_of_ble_eq_true rfl, Nat.le_of_ble_eq_true rfl⟩) hK hns hP hD hS hA rfl hl.1 rfl (Nat.le_of_ble_eq_true rfl) dX4_act_70 ⟨Nat.zero_le _, Nat.zero_le _⟩ (fun r70 u70 H locs hw70 hP hD hS => ?_)
          rcases hw70 with ⟨rfl, hd70⟩ | ⟨rfl, hd70⟩
          · refine lv_if_eq (tgt := 92) hx hb dX4_act_73 (by decide) (fun c9 => absurd c9 (by decide)) (fun _ => ?_)
            refine lv_iload hx hb dX4_act_76 (lv_at hl 1 rfl) ?_
            refine cl_Si (As := [.int x2]) (rest := []) (c_X4_isDigit l D x2) ⟨hx, hb, hml, hown, hts⟩ (cwS 1 hts gX4_act_X4_isDigit rfl rfl rfl (by decide +kernel) ⟨Nat.le_of_ble_eq_true rfl, Nat.le_of_ble_eq_true rfl⟩) hK hns hP hD hS hA rfl hl.1 rfl (Nat.le_of_ble_eq_true rfl) dX4_act_78 ⟨Nat.zero_le _, Nat.zero_le _⟩ (fun r78 u78 H locs hw78 hP hD hS => ?_)
            rcases hw78 with ⟨rfl, hd78⟩ | ⟨rfl, hd78⟩
            · refine lv_if_eq (tgt := 92) hx hb dX4_act_81 (by decide) (fun c9 => absurd c9 (by decide)) (fun _ => ?_)
              refine lv_iload hx hb dX4_act_84 (lv_at hl 0 rfl) ?_
              refine cl_Si (As := [.int 0]) (rest := []) (c_X4_isDigit l D 0) ⟨hx, hb, hml, hown, hts⟩ (cwS 1 hts gX4_act_X4_isDigit rfl rfl rfl (by decide +kernel) ⟨Nat.le_of_ble_eq_true rfl, Nat.le_of_ble_eq_true rfl⟩) hK hns hP hD hS hA rfl hl.1 rfl (Nat.le_of_ble_eq_true rfl) dX4_act_86 ⟨Nat.zero_le _, Nat.zero_le _⟩ (fun r86 u86 H locs hw86 hP hD hS => ?_)
              rcases hw86 with ⟨rfl, hd86⟩ | ⟨rfl, hd86⟩
              · refine lv_if_ne (tgt := 94) hx hb dX4_act_89 (by decide) (fun _ => ?_) (fun c9 => absurd c9 (by decide))
                refine lv_iload_n hx hb dX4_act_94 rfl (lv_at hl 5 rfl) ?_
                refine lv_bipush (v := 7) hx hb dX4_act_95 (by decide) ?_
                refine lv_icmp_ne (tgt := 109) hx hb dX4_act_97 (by decide) (fun c_97 => ?_) (fun c_97 => ?_)
                · have c_97 : ¬ (5 = 7) := fun h => c_97 ((nI_eq (a := 5) (b := 7) (by omega) (by omega)).mpr h)
                  refine lv_aload_n hx hb dX4_act_109 rfl (lv_at hl 3 rfl) ?_
                  refine va_get (D := D) (ci := 4) (v := .ref (a 1)) (C := RX4) (T := TX4) (N := 7) hx hb hts inX4 hown hK hP 0 rfl rfl 0 (by decide) fl11 (fun _ h9 => h9) rfl dX4_act_110 ?_
                  refine lv_iload_n hx hb dX4_act_113 rfl (lv_at hl 4 rfl) ?_
                  refine xa_ald hx hb hK hP 1 1 rfl rfl (k := q) (v := (a (2 + 2 * q))) rfl (by omega) (by decide) dX4_act_114 ?_
                  refine lv_iload_n hx hb dX4_act_115 rfl (lv_at hl 5 rfl) ?_
                  refine lv_iload hx hb dX4_act_116 (lv_at hl 2 rfl) ?_
                  refine lv_iload hx hb dX4_act_118 (lv_at hl 1 rfl) ?_
                  refine lv_iload hx hb dX4_act_120 (lv_at hl 0 rfl) ?_
                  have hPq := hP
                  have hDq := hD
                  rw [wsplit _ _ (hq6), (hpl q (hq6)).1] at hPq hDq
                  refine cl_Vi _ _ (As := [.int (nI 5), .int x1, .int x2, .int 0]) (rest := []) (c_X1_add l D cI (a (2 + 2 * q)) (a (3 + 2 * q)) (pf q) (G.1 q) (hpl q hq6).2.1 (nI 5) x1 x2 0) ⟨hx, hb, hml, hown, hts⟩ (cwV 4 hts gX4_act_X1_add rfl rfl rfl (by decide +kernel) ⟨Nat.le_of_ble_eq_true rfl, Nat.le_of_ble_eq_true rfl⟩) (hK.sub [0] rfl) hns hPq hDq hS hA rfl (T := TX1) (N := 2) rfl rfl hl.1 rfl (Nat.le_of_ble_eq_true rfl) dX4_act_122 ⟨Nat.zero_le _, Nat.zero_le _⟩ (fun r122 u122 H locs hw122 hP hD hS => ?_)
                  have hP : va_P D vwCl ([(a 0, .inr (4, [.ref (a 1), .ref (a 14), .ref (a 18), .ref (a 22), .int x, .int y, .int z])), (a 1, .inl (cP, 6, .inr (.inr (.inr (.inr (fun k => some (a (2 + 2 * k))))))))] ++ ((wPs a cI (upd pc q u122.2) (va_up pf q u122.1)) ++ ((wSt (sh 14 a) cI g l_ h r) ++ ((wOp (sh 18 a) cI k n b (nI 0)) ++ (wRp (sh 22 a) cI ct td op))))) H := by rw [← wsplitU _ _ (hq6)]; exact hP
                  have hD : va_D A ([(a 0, .inr (4, [.ref (a 1), .ref (a 14), .ref (a 18), .ref (a 22), .int x, .int y, .int z])), (a 1, .inl (cP, 6, .inr (.inr (.inr (.inr (fun k => some (a (2 + 2 * k))))))))] ++ ((wPs a cI (upd pc q u122.2) (va_up pf q u122.1)) ++ ((wSt (sh 14 a) cI g l_ h r) ++ ((wOp (sh 18 a) cI k n b (nI 0)) ++ (wRp (sh 22 a) cI ct td op))))) := by rw [← wsplitU _ _ (hq6)]; exact hD
                  exact Ri (D := D) (upd pc q u122.2, va_up pf q u122.1) hx hb hr rfl hlocks hP hD hS (by have hf : fitP 5 x1 x2 x3 := (⟨fun _ => hd70, fun _ => hd78, fun q => absurd q (by simp [nmC]), fun q => absurd q (by decide)⟩ : fitP 5 x1 x2 x3); rcases hw122 with ⟨h1, h2, h3⟩ | ⟨h1, h2, h3⟩; exact (by rw [F_act_full hq6 (by decide) hf h1, h3]; exact ⟨h2, Dpl_id hpl (hpl q hq6).1.symm rfl⟩); exact (by rw [F_act_in hq6 (by decide) hf (by omega), h3]; exact ⟨h2, Dpl_act hpl hq6 (by decide) hf h1 (cd_eq (by decide) hf (Or.inl ⟨by simp [nmA], rfl⟩) (Or.inl ⟨by simp [nmB], rfl⟩) (Or.inr ⟨by simp [nmC], rfl⟩))⟩)) dX4_act_125
                · have c_97 : 5 = 7 := (nI_eq (a := 5) (b := 7) (by omega) (by omega)).mp c_97
                  exact absurd c_97 (by decide)
              · exact absurd ⟨0, by decide, rfl⟩ hd86
            · refine lv_if_eq (tgt := 92) hx hb dX4_act_81 (by decide) (fun _ => ?_) (fun c9 => absurd (by decide) c9)
              refine lv_iconst (v := (-1)) hx hb dX4_act_92 (by decide) ?_
              exact Ri (D := D) (pc, pf) hx hb hr rfl hlocks hP hD hS (by rw [F_act_no (fun q => hd78 (q.2.2.2.1 (by rw [dg_nI (by decide)]; simp [nmB])))]; exact ⟨rfl, hpl⟩) dX4_act_93
          · refine lv_if_eq (tgt := 92) hx hb dX4_act_73 (by decide) (fun _ => ?_) (fun c9 => absurd (by decide) c9)
            refine lv_iconst (v := (-1)) hx hb dX4_act_92 (by decide) ?_
            exact Ri (D := D) (pc, pf) hx hb hr rfl hlocks hP hD hS (by rw [F_act_no (fun q => hd70 (q.2.2.1 (by rw [dg_nI (by decide)]; simp [nmA])))]; exact ⟨rfl, hpl⟩) dX4_act_93
        · refine va_gets (C := RX4) hx hb hZ1 hS hown fl41 (fun _ h9 => h9) dX4_act_19 ?_
          refine lv_iload_n hx hb dX4_act_22 rfl (lv_at hl 2 rfl) ?_
          refine va_ti hx hb hT1 hS (v := .int 3) (vp_in_nI (by decide) (by decide)) rfl dX4_act_23 ?_
          refine lv_if_le (tgt := 31) hx hb dX4_act_24 (by decide) (fun c9 => absurd c9 (by decide)) (fun _ => ?_)
          refine lv_iload_n hx hb dX4_act_27 rfl (lv_at hl 3 rfl) ?_
          refine lv_goto (tgt := 32) hx hb dX4_act_28 (by decide) ?_
          refine lv_istore (lv' := [(6, .int x1), (0, .ref (a 0)), (1, .int (nI q)), (2, .int (nI 6)), (3, .int x1), (4, .int x2), (5, .int x3)]) hx hb dX4_act_32 hl (by decide) rfl (fun ls hl => ?_)
          refine va_gets (C := RX4) hx hb hZ1 hS hown fl41 (fun _ h9 => h9) dX4_act_34 ?_
          refine lv_iload_n hx hb dX4_act_37 rfl (lv_at hl 3 rfl) ?_
          refine va_ti hx hb hT1 hS (v := .int 3) (vp_in_nI (by decide) (by decide)) rfl dX4_act_38 ?_
          refine lv_iconst (v := 1) hx hb dX4_act_39 (by decide) ?_
          refine lv_icmp_le (tgt := 48) hx hb dX4_act_40 (by decide) (fun c9 => absurd c9 (by decide)) (fun _ => ?_)
          refine lv_iload hx hb dX4_act_43 (lv_at hl 5 rfl) ?_
          refine lv_goto (tgt := 49) hx hb dX4_act_45 (by decide) ?_
          refine lv_istore (lv' := [(7, .int x2), (6, .int x1), (0, .ref (a 0)), (1, .int (nI q)), (2, .int (nI 6)), (3, .int x1), (4, .int x2), (5, .int x3)]) hx hb dX4_act_49 hl (by decide) rfl (fun ls hl => ?_)
          refine va_gets (C := RX4) hx hb hZ1 hS hown fl41 (fun _ h9 => h9) dX4_act_51 ?_
          refine lv_iload_n hx hb dX4_act_54 rfl (lv_at hl 4 rfl) ?_
          refine va_ti hx hb hT1 hS (v := .int 3) (vp_in_nI (by decide) (by decide)) rfl dX4_act_55 ?_
          refine lv_iconst (v := 2) hx hb dX4_act_56 (by decide) ?_
          refine lv_icmp_le (tgt := 65) hx hb dX4_act_57 (by decide) (fun c9 => absurd c9 (by decide)) (fun _ => ?_)
          refine lv_iload hx hb dX4_act_60 (lv_at hl 7 rfl) ?_
          refine lv_goto (tgt := 66) hx hb dX4_act_62 (by decide) ?_
          refine lv_istore (lv' := [(8, .int x3), (7, .int x2), (6, .int x1), (0, .ref (a 0)), (1, .int (nI q)), (2, .int (nI 6)), (3, .int x1), (4, .int x2), (5, .int x3)]) hx hb dX4_act_66 hl (by decide) rfl (fun ls hl => ?_)
          refine lv_iload hx hb dX4_act_68 (lv_at hl 2 rfl) ?_
          refine cl_Si (As := [.int x1]) (rest := []) (c_X4_isDigit l D x1) ⟨hx, hb, hml, hown, hts⟩ (cwS 1 hts gX4_act_X4_isDigit rfl rfl rfl (by decide +kernel) ⟨Nat.le_of_ble_eq_true rfl, Nat.le_of_ble_eq_true rfl⟩) hK hns hP hD hS hA rfl hl.1 rfl (Nat.le_of_ble_eq_true rfl) dX4_act_70 ⟨Nat.zero_le _, Nat.zero_le _⟩ (fun r70 u70 H locs hw70 hP hD hS => ?_)
          rcases hw70 with ⟨rfl, hd70⟩ | ⟨rfl, hd70⟩
          · refine lv_if_eq (tgt := 92) hx hb dX4_act_73 (by decide) (fun c9 => absurd c9 (by decide)) (fun _ => ?_)
            refine lv_iload hx hb dX4_act_76 (lv_at hl 1 rfl) ?_
            refine cl_Si (As := [.int x2]) (rest := []) (c_X4_isDigit l D x2) ⟨hx, hb, hml, hown, hts⟩ (cwS 1 hts gX4_act_X4_isDigit rfl rfl rfl (by decide +kernel) ⟨Nat.le_of_ble_eq_true rfl, Nat.le_of_ble_eq_true rfl⟩) hK hns hP hD hS hA rfl hl.1 rfl (Nat.le_of_ble_eq_true rfl) dX4_act_78 ⟨Nat.zero_le _, Nat.zero_le _⟩ (fun r78 u78 H locs hw78 hP hD hS => ?_)
            rcases hw78 with ⟨rfl, hd78⟩ | ⟨rfl, hd78⟩
            · refine lv_if_eq (tgt := 92) hx hb dX4_act_81 (by decide) (fun c9 => absurd c9 (by decide)) (fun _ => ?_)
              refine lv_iload hx hb dX4_act_84 (lv_at hl 0 rfl) ?_
              refine cl_Si (As := [.int x3]) (rest := []) (c_X4_isDigit l D x3) ⟨hx, hb, hml, hown, hts⟩ (cwS 1 hts gX4_act_X4_isDigit rfl rfl rfl (by decide +kernel) ⟨Nat.le_of_ble_eq_true rfl, Nat.le_of_ble_eq_true rfl⟩) hK hns hP hD hS hA rfl hl.1 rfl (Nat.le_of_ble_eq_true rfl) dX4_act_86 ⟨Nat.zero_le _, Nat.zero_le _⟩ (fun r86 u86 H locs hw86 hP hD hS => ?_)
              rcases hw86 with ⟨rfl, hd86⟩ | ⟨rfl, hd86⟩
              · refine lv_if_ne (tgt := 94) hx hb dX4_act_89 (by decide) (fun _ => ?_) (fun c9 => absurd c9 (by decide))
                refine lv_iload_n hx hb dX4_act_94 rfl (lv_at hl 5 rfl) ?_
                refine lv_bipush (v := 7) hx hb dX4_act_95 (by decide) ?_
                refine lv_icmp_ne (tgt := 109) hx hb dX4_act_97 (by decide) (fun c_97 => ?_) (fun c_97 => ?_)
                · have c_97 : ¬ (6 = 7) := fun h => c_97 ((nI_eq (a := 6) (b := 7) (by omega) (by omega)).mpr h)
                  refine lv_aload_n hx hb dX4_act_109 rfl (lv_at hl 3 rfl) ?_
                  refine va_get (D := D) (ci := 4) (v := .ref (a 1)) (C := RX4) (T := TX4) (N := 7) hx hb hts inX4 hown hK hP 0 rfl rfl 0 (by decide) fl11 (fun _ h9 => h9) rfl dX4_act_110 ?_
                  refine lv_iload_n hx hb dX4_act_113 rfl (lv_at hl 4 rfl) ?_
                  refine xa_ald hx hb hK hP 1 1 rfl rfl (k := q) (v := (a (2 + 2 * q))) rfl (by omega) (by decide) dX4_act_114 ?_
                  refine lv_iload_n hx hb dX4_act_115 rfl (lv_at hl 5 rfl) ?_
                  refine lv_iload hx hb dX4_act_116 (lv_at hl 2 rfl) ?_
                  refine lv_iload hx hb dX4_act_118 (lv_at hl 1 rfl) ?_
                  refine lv_iload hx hb dX4_act_120 (lv_at hl 0 rfl) ?_
                  have hPq := hP
                  have hDq := hD
                  rw [wsplit _ _ (hq6), (hpl q (hq6)).1] at hPq hDq
                  refine cl_Vi _ _ (As := [.int (nI 6), .int x1, .int x2, .int x3]) (rest := []) (c_X1_add l D cI (a (2 + 2 * q)) (a (3 + 2 * q)) (pf q) (G.1 q) (hpl q hq6).2.1 (nI 6) x1 x2 x3) ⟨hx, hb, hml, hown, hts⟩ (cwV 4 hts gX4_act_X1_add rfl rfl rfl (by decide +kernel) ⟨Nat.le_of_ble_eq_true rfl, Nat.le_of_ble_eq_true rfl⟩) (hK.sub [0] rfl) hns hPq hDq hS hA rfl (T := TX1) (N := 2) rfl rfl hl.1 rfl (Nat.le_of_ble_eq_true rfl) dX4_act_122 ⟨Nat.zero_le _, Nat.zero_le _⟩ (fun r122 u122 H locs hw122 hP hD hS => ?_)
                  have hP : va_P D vwCl ([(a 0, .inr (4, [.ref (a 1), .ref (a 14), .ref (a 18), .ref (a 22), .int x, .int y, .int z])), (a 1, .inl (cP, 6, .inr (.inr (.inr (.inr (fun k => some (a (2 + 2 * k))))))))] ++ ((wPs a cI (upd pc q u122.2) (va_up pf q u122.1)) ++ ((wSt (sh 14 a) cI g l_ h r) ++ ((wOp (sh 18 a) cI k n b (nI 0)) ++ (wRp (sh 22 a) cI ct td op))))) H := by rw [← wsplitU _ _ (hq6)]; exact hP
                  have hD : va_D A ([(a 0, .inr (4, [.ref (a 1), .ref (a 14), .ref (a 18), .ref (a 22), .int x, .int y, .int z])), (a 1, .inl (cP, 6, .inr (.inr (.inr (.inr (fun k => some (a (2 + 2 * k))))))))] ++ ((wPs a cI (upd pc q u122.2) (va_up pf q u122.1)) ++ ((wSt (sh 14 a) cI g l_ h r) ++ ((wOp (sh 18 a) cI k n b (nI 0)) ++ (wRp (sh 22 a) cI ct td op))))) := by rw [← wsplitU _ _ (hq6)]; exact hD
                  exact Ri (D := D) (upd pc q u122.2, va_up pf q u122.1) hx hb hr rfl hlocks hP hD hS (by have hf : fitP 6 x1 x2 x3 := (⟨fun _ => hd70, fun _ => hd78, fun _ => hd86, fun q => absurd q (by decide)⟩ : fitP 6 x1 x2 x3); rcases hw122 with ⟨h1, h2, h3⟩ | ⟨h1, h2, h3⟩; exact (by rw [F_act_full hq6 (by decide) hf h1, h3]; exact ⟨h2, Dpl_id hpl (hpl q hq6).1.symm rfl⟩); exact (by rw [F_act_in hq6 (by decide) hf (by omega), h3]; exact ⟨h2, Dpl_act hpl hq6 (by decide) hf h1 (cd_eq (by decide) hf (Or.inl ⟨by simp [nmA], rfl⟩) (Or.inl ⟨by simp [nmB], rfl⟩) (Or.inl ⟨by simp [nmC], rfl⟩))⟩)) dX4_act_125
                · have c_97 : 6 = 7 := (nI_eq (a := 6) (b := 7) (by omega) (by omega)).mp c_97
                  exact absurd c_97 (by decide)
              · refine lv_if_ne (tgt := 94) hx hb dX4_act_89 (by decide) (fun c9 => absurd rfl c9) (fun _ => ?_)
                refine lv_iconst (v := (-1)) hx hb dX4_act_92 (by decide) ?_
                exact Ri (D := D) (pc, pf) hx hb hr rfl hlocks hP hD hS (by rw [F_act_no (fun q => hd86 (q.2.2.2.2.1 (by rw [dg_nI (by decide)]; simp [nmC])))]; exact ⟨rfl, hpl⟩) dX4_act_93
            · refine lv_if_eq (tgt := 92) hx hb dX4_act_81 (by decide) (fun _ => ?_) (fun c9 => absurd (by decide) c9)
              refine lv_iconst (v := (-1)) hx hb dX4_act_92 (by decide) ?_
              exact Ri (D := D) (pc, pf) hx hb hr rfl hlocks hP hD hS (by rw [F_act_no (fun q => hd78 (q.2.2.2.1 (by rw [dg_nI (by decide)]; simp [nmB])))]; exact ⟨rfl, hpl⟩) dX4_act_93
          · refine lv_if_eq (tgt := 92) hx hb dX4_act_73 (by decide) (fun _ => ?_) (fun c9 => absurd (by decide) c9)
            refine lv_iconst (v := (-1)) hx hb dX4_act_92 (by decide) ?_
            exact Ri (D := D) (pc, pf) hx hb hr rfl hlocks hP hD hS (by rw [F_act_no (fun q => hd70 (q.2.2.1 (by rw [dg_nI (by decide)]; simp [nmA])))]; exact ⟨rfl, hpl⟩) dX4_act_93
        · refine va_gets (C := RX4) hx hb hZ1 hS hown fl41 (fun _ h9 => h9) dX4_act_19 ?_
          refine lv_iload_n hx hb dX4_act_22 rfl (lv_at hl 2 rfl) ?_
          refine va_ti hx hb hT1 hS (v := .int 1) (vp_in_nI (by decide) (by decide)) rfl dX4_act_23 ?_
          refine lv_if_le (tgt := 31) hx hb dX4_act_24 (by decide) (fun c9 => absurd c9 (by decide)) (fun _ => ?_)
          refine lv_iload_n hx hb dX4_act_27 rfl (lv_at hl 3 rfl) ?_
          refine lv_goto (tgt := 32) hx hb dX4_act_28 (by decide) ?_
          refine lv_istore (lv' := [(6, .int x1), (0, .ref (a 0)), (1, .int (nI q)), (2, .int (nI 7)), (3, .int x1), (4, .int x2), (5, .int x3)]) hx hb dX4_act_32 hl (by decide) rfl (fun ls hl => ?_)
          refine va_gets (C := RX4) hx hb hZ1 hS hown fl41 (fun _ h9 => h9) dX4_act_34 ?_
          refine lv_iload_n hx hb dX4_act_37 rfl (lv_at hl 3 rfl) ?_
          refine va_ti hx hb hT1 hS (v := .int 1) (vp_in_nI (by decide) (by decide)) rfl dX4_act_38 ?_
          refine lv_iconst (v := 1) hx hb dX4_act_39 (by decide) ?_
          refine lv_icmp_le (tgt := 48) hx hb dX4_act_40 (by decide) (fun _ => ?_) (fun c9 => absurd (by decide) c9)
          refine lv_iconst (v := 0) hx hb dX4_act_48 (by decide) ?_
          refine lv_istore (lv' := [(7, .int 0), (6, .int x1), (0, .ref (a 0)), (1, .int (nI q)), (2, .int (nI 7)), (3, .int x1), (4, .int x2), (5, .int x3)]) hx hb dX4_act_49 hl (by decide) rfl (fun ls hl => ?_)
          refine va_gets (C := RX4) hx hb hZ1 hS hown fl41 (fun _ h9 => h9) dX4_act_51 ?_
          refine lv_iload_n hx hb dX4_act_54 rfl (lv_at hl 4 rfl) ?_
          refine va_ti hx hb hT1 hS (v := .int 1) (vp_in_nI (by decide) (by decide)) rfl dX4_act_55 ?_
          refine lv_iconst (v := 2) hx hb dX4_act_56 (by decide) ?_
          refine lv_icmp_le (tgt := 65) hx hb dX4_act_57 (by decide) (fun _ => ?_) (fun c9 => absurd (by decide) c9)
          refine lv_iconst (v := 0) hx hb dX4_act_65 (by decide) ?_
          refine lv_istore (lv' := [(8, .int 0), (7, .int 0), (6, .int x1), (0, .ref (a 0)), (1, .int (nI q)), (2, .int (nI 7)), (3, .int x1), (4, .int x2), (5, .int x3)]) hx hb dX4_act_66 hl (by decide) rfl (fun ls hl => ?_)
          refine lv_iload hx hb dX4_act_68 (lv_at hl 2 rfl) ?_
          refine cl_Si (As := [.int x1]) (rest := []) (c_X4_isDigit l D x1) ⟨hx, hb, hml, hown, hts⟩ (cwS 1 hts gX4_act_X4_isDigit rfl rfl rfl (by decide +kernel) ⟨Nat.le_of_ble_eq_true rfl, Nat.le_of_ble_eq_true rfl⟩) hK hns hP hD hS hA rfl hl.1 rfl (Nat.le_of_ble_eq_true rfl) dX4_act_70 ⟨Nat.zero_le _, Nat.zero_le _⟩ (fun r70 u70 H locs hw70 hP hD hS => ?_)
          rcases hw70 with ⟨rfl, hd70⟩ | ⟨rfl, hd70⟩
          · refine lv_if_eq (tgt := 92) hx hb dX4_act_73 (by decide) (fun c9 => absurd c9 (by decide)) (fun _ => ?_)
            refine lv_iload hx hb dX4_act_76 (lv_at hl 1 rfl) ?_
            refine cl_Si (As := [.int 0]) (rest := []) (c_X4_isDigit l D 0) ⟨hx, hb, hml, hown, hts⟩ (cwS 1 hts gX4_act_X4_isDigit rfl rfl rfl (by decide +kernel) ⟨Nat.le_of_ble_eq_true rfl, Nat.le_of_ble_eq_true rfl⟩) hK hns hP hD hS hA rfl hl.1 rfl (Nat.le_of_ble_eq_true rfl) dX4_act_78 ⟨Nat.zero_le _, Nat.zero_le _⟩ (fun r78 u78 H locs hw78 hP hD hS => ?_)
            rcases hw78 with ⟨rfl, hd78⟩ | ⟨rfl, hd78⟩
            · refine lv_if_eq (tgt := 92) hx hb dX4_act_81 (by decide) (fun c9 => absurd c9 (by decide)) (fun _ => ?_)
              refine lv_iload hx hb dX4_act_84 (lv_at hl 0 rfl) ?_
              refine cl_Si (As := [.int 0]) (rest := []) (c_X4_isDigit l D 0) ⟨hx, hb, hml, hown, hts⟩ (cwS 1 hts gX4_act_X4_isDigit rfl rfl rfl (by decide +kernel) ⟨Nat.le_of_ble_eq_true rfl, Nat.le_of_ble_eq_true rfl⟩) hK hns hP hD hS hA rfl hl.1 rfl (Nat.le_of_ble_eq_true rfl) dX4_act_86 ⟨Nat.zero_le _, Nat.zero_le _⟩ (fun r86 u86 H locs hw86 hP hD hS => ?_)
              rcases hw86 with ⟨rfl, hd86⟩ | ⟨rfl, hd86⟩
              · refine lv_if_ne (tgt := 94) hx hb dX4_act_89 (by decide) (fun _ => ?_) (fun c9 => absurd c9 (by decide))
                refine lv_iload_n hx hb dX4_act_94 rfl (lv_at hl 5 rfl) ?_
                refine lv_bipush (v := 7) hx hb dX4_act_95 (by decide) ?_
                refine lv_icmp_ne (tgt := 109) hx hb dX4_act_97 (by decide) (fun c_97 => ?_) (fun c_97 => ?_)
                · have c_97 : ¬ (7 = 7) := fun h => c_97 ((nI_eq (a := 7) (b := 7) (by omega) (by omega)).mpr h)
                  exact absurd rfl c_97
                · have c_97 : 7 = 7 := (nI_eq (a := 7) (b := 7) (by omega) (by omega)).mp c_97
                  refine lv_iload hx hb dX4_act_100 (lv_at hl 2 rfl) ?_
                  refine lv_bipush (v := 7) hx hb dX4_act_102 (by decide) ?_
                  refine lv_icmp_ge (tgt := 109) hx hb dX4_act_104 (by decide) (fun c_104 => ?_) (fun c_104 => ?_)
                  · refine lv_aload_n hx hb dX4_act_109 rfl (lv_at hl 3 rfl) ?_
                    refine va_get (D := D) (ci := 4) (v := .ref (a 1)) (C := RX4) (T := TX4) (N := 7) hx hb hts inX4 hown hK hP 0 rfl rfl 0 (by decide) fl11 (fun _ h9 => h9) rfl dX4_act_110 ?_
                    refine lv_iload_n hx hb dX4_act_113 rfl (lv_at hl 4 rfl) ?_
                    refine xa_ald hx hb hK hP 1 1 rfl rfl (k := q) (v := (a (2 + 2 * q))) rfl (by omega) (by decide) dX4_act_114 ?_
                    refine lv_iload_n hx hb dX4_act_115 rfl (lv_at hl 5 rfl) ?_
                    refine lv_iload hx hb dX4_act_116 (lv_at hl 2 rfl) ?_
                    refine lv_iload hx hb dX4_act_118 (lv_at hl 1 rfl) ?_
                    refine lv_iload hx hb dX4_act_120 (lv_at hl 0 rfl) ?_
                    have hPq := hP
                    have hDq := hD
                    rw [wsplit _ _ (hq6), (hpl q (hq6)).1] at hPq hDq
                    refine cl_Vi _ _ (As := [.int (nI 7), .int x1, .int 0, .int 0]) (rest := []) (c_X1_add l D cI (a (2 + 2 * q)) (a (3 + 2 * q)) (pf q) (G.1 q) (hpl q hq6).2.1 (nI 7) x1 0 0) ⟨hx, hb, hml, hown, hts⟩ (cwV 4 hts gX4_act_X1_add rfl rfl rfl (by decide +kernel) ⟨Nat.le_of_ble_eq_true rfl, Nat.le_of_ble_eq_true rfl⟩) (hK.sub [0] rfl) hns hPq hDq hS hA rfl (T := TX1) (N := 2) rfl rfl hl.1 rfl (Nat.le_of_ble_eq_true rfl) dX4_act_122 ⟨Nat.zero_le _, Nat.zero_le _⟩ (fun r122 u122 H locs hw122 hP hD hS => ?_)
                    have hP : va_P D vwCl ([(a 0, .inr (4, [.ref (a 1), .ref (a 14), .ref (a 18), .ref (a 22), .int x, .int y, .int z])), (a 1, .inl (cP, 6, .inr (.inr (.inr (.inr (fun k => some (a (2 + 2 * k))))))))] ++ ((wPs a cI (upd pc q u122.2) (va_up pf q u122.1)) ++ ((wSt (sh 14 a) cI g l_ h r) ++ ((wOp (sh 18 a) cI k n b (nI 0)) ++ (wRp (sh 22 a) cI ct td op))))) H := by rw [← wsplitU _ _ (hq6)]; exact hP
                    have hD : va_D A ([(a 0, .inr (4, [.ref (a 1), .ref (a 14), .ref (a 18), .ref (a 22), .int x, .int y, .int z])), (a 1, .inl (cP, 6, .inr (.inr (.inr (.inr (fun k => some (a (2 + 2 * k))))))))] ++ ((wPs a cI (upd pc q u122.2) (va_up pf q u122.1)) ++ ((wSt (sh 14 a) cI g l_ h r) ++ ((wOp (sh 18 a) cI k n b (nI 0)) ++ (wRp (sh 22 a) cI ct td op))))) := by rw [← wsplitU _ _ (hq6)]; exact hD
                    exact Ri (D := D) (upd pc q u122.2, va_up pf q u122.1) hx hb hr rfl hlocks hP hD hS (by have hf : fitP 7 x1 x2 x3 := (⟨fun _ => hd70, fun q => absurd q (by simp [nmB]), fun q => absurd q (by simp [nmC]), fun _ => (ge7 hd70).mp c_104⟩ : fitP 7 x1 x2 x3); rcases hw122 with ⟨h1, h2, h3⟩ | ⟨h1, h2, h3⟩; exact (by rw [F_act_full hq6 (by decide) hf h1, h3]; exact ⟨h2, Dpl_id hpl (hpl q hq6).1.symm rfl⟩); exact (by rw [F_act_in hq6 (by decide) hf (by omega), h3]; exact ⟨h2, Dpl_act hpl hq6 (by decide) hf h1 (cd_eq (by decide) hf (Or.inl ⟨by simp [nmA], rfl⟩) (Or.inr ⟨by simp [nmB], rfl⟩) (Or.inr ⟨by simp [nmC], rfl⟩))⟩)) dX4_act_125
                  · refine lv_iconst (v := (-1)) hx hb dX4_act_107 (by decide) ?_
                    exact Ri (D := D) (pc, pf) hx hb hr rfl hlocks hP hD hS (by rw [F_act_no (fun q => c_104 ((ge7 hd70).mpr (q.2.2.2.2.2 (dg_nI (by decide)))))]; exact ⟨rfl, hpl⟩) dX4_act_108
              · exact absurd ⟨0, by decide, rfl⟩ hd86
            · exact absurd ⟨0, by decide, rfl⟩ hd78
          · refine lv_if_eq (tgt := 92) hx hb dX4_act_73 (by decide) (fun _ => ?_) (fun c9 => absurd (by decide) c9)
            refine lv_iconst (v := (-1)) hx hb dX4_act_92 (by decide) ?_
            exact Ri (D := D) (pc, pf) hx hb hr rfl hlocks hP hD hS (by rw [F_act_no (fun q => hd70 (q.2.2.1 (by rw [dg_nI (by decide)]; simp [nmA])))]; exact ⟨rfl, hpl⟩) dX4_act_93
        · refine va_gets (C := RX4) hx hb hZ1 hS hown fl41 (fun _ h9 => h9) dX4_act_19 ?_
          refine lv_iload_n hx hb dX4_act_22 rfl (lv_at hl 2 rfl) ?_
          refine va_ti hx hb hT1 hS (v := .int 1) (vp_in_nI (by decide) (by decide)) rfl dX4_act_23 ?_
          refine lv_if_le (tgt := 31) hx hb dX4_act_24 (by decide) (fun c9 => absurd c9 (by decide)) (fun _ => ?_)
          refine lv_iload_n hx hb dX4_act_27 rfl (lv_at hl 3 rfl) ?_
          refine lv_goto (tgt := 32) hx hb dX4_act_28 (by decide) ?_
          refine lv_istore (lv' := [(6, .int x1), (0, .ref (a 0)), (1, .int (nI q)), (2, .int (nI 8)), (3, .int x1), (4, .int x2), (5, .int x3)]) hx hb dX4_act_32 hl (by decide) rfl (fun ls hl => ?_)
          refine va_gets (C := RX4) hx hb hZ1 hS hown fl41 (fun _ h9 => h9) dX4_act_34 ?_
          refine lv_iload_n hx hb dX4_act_37 rfl (lv_at hl 3 rfl) ?_
          refine va_ti hx hb hT1 hS (v := .int 1) (vp_in_nI (by decide) (by decide)) rfl dX4_act_38 ?_
          refine lv_iconst (v := 1) hx hb dX4_act_39 (by decide) ?_
          refine lv_icmp_le (tgt := 48) hx hb dX4_act_40 (by decide) (fun _ => ?_) (fun c9 => absurd (by decide) c9)
          refine lv_iconst (v := 0) hx hb dX4_act_48 (by decide) ?_
          refine lv_istore (lv' := [(7, .int 0), (6, .int x1), (0, .ref (a 0)), (1, .int (nI q)), (2, .int (nI 8)), (3, .int x1), (4, .int x2), (5, .int x3)]) hx hb dX4_act_49 hl (by decide) rfl (fun ls hl => ?_)
          refine va_gets (C := RX4) hx hb hZ1 hS hown fl41 (fun _ h9 => h9) dX4_act_51 ?_
          refine lv_iload_n hx hb dX4_act_54 rfl (lv_at hl 4 rfl) ?_
          refine va_ti hx hb hT1 hS (v := .int 1) (vp_in_nI (by decide) (by decide)) rfl dX4_act_55 ?_
          refine lv_iconst (v := 2) hx hb dX4_act_56 (by decide) ?_
          refine lv_icmp_le (tgt := 65) hx hb dX4_act_57 (by decide) (fun _ => ?_) (fun c9 => absurd (by decide) c9)
          refine lv_iconst (v := 0) hx hb dX4_act_65 (by decide) ?_
          refine lv_istore (lv' := [(8, .int 0), (7, .int 0), (6, .int x1), (0, .ref (a 0)), (1, .int (nI q)), (2, .int (nI 8)), (3, .int x1), (4, .int x2), (5, .int x3)]) hx hb dX4_act_66 hl (by decide) rfl (fun ls hl => ?_)
          refine lv_iload hx hb dX4_act_68 (lv_at hl 2 rfl) ?_
          refine cl_Si (As := [.int x1]) (rest := []) (c_X4_isDigit l D x1) ⟨hx, hb, hml, hown, hts⟩ (cwS 1 hts gX4_act_X4_isDigit rfl rfl rfl (by decide +kernel) ⟨Nat.le_of_ble_eq_true rfl, Nat.le_of_ble_eq_true rfl⟩) hK hns hP hD hS hA rfl hl.1 rfl (Nat.le_of_ble_eq_true rfl) dX4_act_70 ⟨Nat.zero_le _, Nat.zero_le _⟩ (fun r70 u70 H locs hw70 hP hD hS => ?_)
          rcases hw70 with ⟨rfl, hd70⟩ | ⟨rfl, hd70⟩
          · refine lv_if_eq (tgt := 92) hx hb dX4_act_73 (by decide) (fun c9 => absurd c9 (by decide)) (fun _ => ?_)
            refine lv_iload hx hb dX4_act_76 (lv_at hl 1 rfl) ?_
            refine cl_Si (As := [.int 0]) (rest := []) (c_X4_isDigit l D 0) ⟨hx, hb, hml, hown, hts⟩ (cwS 1 hts gX4_act_X4_isDigit rfl rfl rfl (by decide +kernel) ⟨Nat.le_of_ble_eq_true rfl, Nat.le_of_ble_eq_true rfl⟩) hK hns hP hD hS hA rfl hl.1 rfl (Nat.le_of_ble_eq_true rfl) dX4_act_78 ⟨Nat.zero_le _, Nat.zero_le _⟩ (fun r78 u78 H locs hw78 hP hD hS => ?_)
            rcases hw78 with ⟨rfl, hd78⟩ | ⟨rfl, hd78⟩
            · refine lv_if_eq (tgt := 92) hx hb dX4_act_81 (by decide) (fun c9 => absurd c9 (by decide)) (fun _ => ?_)
              refine lv_iload hx hb dX4_act_84 (lv_at hl 0 rfl) ?_
              refine cl_Si (As := [.int 0]) (rest := []) (c_X4_isDigit l D 0) ⟨hx, hb, hml, hown, hts⟩ (cwS 1 hts gX4_act_X4_isDigit rfl rfl rfl (by decide +kernel) ⟨Nat.le_of_ble_eq_true rfl, Nat.le_of_ble_eq_true rfl⟩) hK hns hP hD hS hA rfl hl.1 rfl (Nat.le_of_ble_eq_true rfl) dX4_act_86 ⟨Nat.zero_le _, Nat.zero_le _⟩ (fun r86 u86 H locs hw86 hP hD hS => ?_)
              rcases hw86 with ⟨rfl, hd86⟩ | ⟨rfl, hd86⟩
              · refine lv_if_ne (tgt := 94) hx hb dX4_act_89 (by decide) (fun _ => ?_) (fun c9 => absurd c9 (by decide))
                refine lv_iload_n hx hb dX4_act_94 rfl (lv_at hl 5 rfl) ?_
                refine lv_bipush (v := 7) hx hb dX4_act_95 (by decide) ?_
                refine lv_icmp_ne (tgt := 109) hx hb dX4_act_97 (by decide) (fun c_97 => ?_) (fun c_97 => ?_)
                · have c_97 : ¬ (8 = 7) := fun h => c_97 ((nI_eq (a := 8) (b := 7) (by omega) (by omega)).mpr h)
                  refine lv_aload_n hx hb dX4_act_109 rfl (lv_at hl 3 rfl) ?_
                  refine va_get (D := D) (ci := 4) (v := .ref (a 1)) (C := RX4) (T := TX4) (N := 7) hx hb hts inX4 hown hK hP 0 rfl rfl 0 (by decide) fl11 (fun _ h9 => h9) rfl dX4_act_110 ?_
                  refine lv_iload_n hx hb dX4_act_113 rfl (lv_at hl 4 rfl) ?_
                  refine xa_ald hx hb hK hP 1 1 rfl rfl (k := q) (v := (a (2 + 2 * q))) rfl (by omega) (by decide) dX4_act_114 ?_
                  refine lv_iload_n hx hb dX4_act_115 rfl (lv_at hl 5 rfl) ?_
                  refine lv_iload hx hb dX4_act_116 (lv_at hl 2 rfl) ?_
                  refine lv_iload hx hb dX4_act_118 (lv_at hl 1 rfl) ?_
                  refine lv_iload hx hb dX4_act_120 (lv_at hl 0 rfl) ?_
                  have hPq := hP
                  have hDq := hD
                  rw [wsplit _ _ (hq6), (hpl q (hq6)).1] at hPq hDq
                  refine cl_Vi _ _ (As := [.int (nI 8), .int x1, .int 0, .int 0]) (rest := []) (c_X1_add l D cI (a (2 + 2 * q)) (a (3 + 2 * q)) (pf q) (G.1 q) (hpl q hq6).2.1 (nI 8) x1 0 0) ⟨hx, hb, hml, hown, hts⟩ (cwV 4 hts gX4_act_X1_add rfl rfl rfl (by decide +kernel) ⟨Nat.le_of_ble_eq_true rfl, Nat.le_of_ble_eq_true rfl⟩) (hK.sub [0] rfl) hns hPq hDq hS hA rfl (T := TX1) (N := 2) rfl rfl hl.1 rfl (Nat.le_of_ble_eq_true rfl) dX4_act_122 ⟨Nat.zero_le _, Nat.zero_le _⟩ (fun r122 u122 H locs hw122 hP hD hS => ?_)
                  have hP : va_P D vwCl ([(a 0, .inr (4, [.ref (a 1), .ref (a 14), .ref (a 18), .ref (a 22), .int x, .int y, .int z])), (a 1, .inl (cP, 6, .inr (.inr (.inr (.inr (fun k => some (a (2 + 2 * k))))))))] ++ ((wPs a cI (upd pc q u122.2) (va_up pf q u122.1)) ++ ((wSt (sh 14 a) cI g l_ h r) ++ ((wOp (sh 18 a) cI k n b (nI 0)) ++ (wRp (sh 22 a) cI ct td op))))) H := by rw [← wsplitU _ _ (hq6)]; exact hP
                  have hD : va_D A ([(a 0, .inr (4, [.ref (a 1), .ref (a 14), .ref (a 18), .ref (a 22), .int x, .int y, .int z])), (a 1, .inl (cP, 6, .inr (.inr (.inr (.inr (fun k => some (a (2 + 2 * k))))))))] ++ ((wPs a cI (upd pc q u122.2) (va_up pf q u122.1)) ++ ((wSt (sh 14 a) cI g l_ h r) ++ ((wOp (sh 18 a) cI k n b (nI 0)) ++ (wRp (sh 22 a) cI ct td op))))) := by rw [← wsplitU _ _ (hq6)]; exact hD
                  exact Ri (D := D) (upd pc q u122.2, va_up pf q u122.1) hx hb hr rfl hlocks hP hD hS (by have hf : fitP 8 x1 x2 x3 := (⟨fun _ => hd70, fun q => absurd q (by simp [nmB]), fun q => absurd q (by simp [nmC]), fun q => absurd q (by decide)⟩ : fitP 8 x1 x2 x3); rcases hw122 with ⟨h1, h2, h3⟩ | ⟨h1, h2, h3⟩; exact (by rw [F_act_full hq6 (by decide) hf h1, h3]; exact ⟨h2, Dpl_id hpl (hpl q hq6).1.symm rfl⟩); exact (by rw [F_act_in hq6 (by decide) hf (by omega), h3]; exact ⟨h2, Dpl_act hpl hq6 (by decide) hf h1 (cd_eq (by decide) hf (Or.inl ⟨by simp [nmA], rfl⟩) (Or.inr ⟨by simp [nmB], rfl⟩) (Or.inr ⟨by simp [nmC], rfl⟩))⟩)) dX4_act_125
                · have c_97 : 8 = 7 := (nI_eq (a := 8) (b := 7) (by omega) (by omega)).mp c_97
                  exact absurd c_97 (by decide)
              · exact absurd ⟨0, by decide, rfl⟩ hd86
            · exact absurd ⟨0, by decide, rfl⟩ hd78
          · refine lv_if_eq (tgt := 92) hx hb dX4_act_73 (by decide) (fun _ => ?_) (fun c9 => absurd (by decide) c9)
            refine lv_iconst (v := (-1)) hx hb dX4_act_92 (by decide) ?_
            exact Ri (D := D) (pc, pf) hx hb hr rfl hlocks hP hD hS (by rw [F_act_no (fun q => hd70 (q.2.2.1 (by rw [dg_nI (by decide)]; simp [nmA])))]; exact ⟨rfl, hpl⟩) dX4_act_93
        · refine va_gets (C := RX4) hx hb hZ1 hS hown fl41 (fun _ h9 => h9) dX4_act_19 ?_
          refine lv_iload_n hx hb dX4_act_22 rfl (lv_at hl 2 rfl) ?_
          refine va_ti hx hb hT1 hS (v := .int 0) (vp_in_nI (by decide) (by decide)) rfl dX4_act_23 ?_
          refine lv_if_le (tgt := 31) hx hb dX4_act_24 (by decide) (fun _ => ?_) (fun c9 => absurd (by decide) c9)
          refine lv_iconst (v := 0) hx hb dX4_act_31 (by decide) ?_
          refine lv_istore (lv' := [(6, .int 0), (0, .ref (a 0)), (1, .int (nI q)), (2, .int (nI 9)), (3, .int x1), (4, .int x2), (5, .int x3)]) hx hb dX4_act_32 hl (by decide) rfl (fun ls hl => ?_)
          refine va_gets (C := RX4) hx hb hZ1 hS hown fl41 (fun _ h9 => h9) dX4_act_34 ?_
          refine lv_iload_n hx hb dX4_act_37 rfl (lv_at hl 3 rfl) ?_
          refine va_ti hx hb hT1 hS (v := .int 0) (vp_in_nI (by decide) (by decide)) rfl dX4_act_38 ?_
          refine lv_iconst (v := 1) hx hb dX4_act_39 (by decide) ?_
          refine lv_icmp_le (tgt := 48) hx hb dX4_act_40 (by decide) (fun _ => ?_) (fun c9 => absurd (by decide) c9)
          refine lv_iconst (v := 0) hx hb dX4_act_48 (by decide) ?_
          refine lv_istore (lv' := [(7, .int 0), (6, .int 0), (0, .ref (a 0)), (1, .int (nI q)), (2, .int (nI 9)), (3, .int x1), (4, .int x2), (5, .int x3)]) hx hb dX4_act_49 hl (by decide) rfl (fun ls hl => ?_)
          refine va_gets (C := RX4) hx hb hZ1 hS hown fl41 (fun _ h9 => h9) dX4_act_51 ?_
          refine lv_iload_n hx hb dX4_act_54 rfl (lv_at hl 4 rfl) ?_
          refine va_ti hx hb hT1 hS (v := .int 0) (vp_in_nI (by decide) (by decide)) rfl dX4_act_55 ?_
          refine lv_iconst (v := 2) hx hb dX4_act_56 (by decide) ?_
          refine lv_icmp_le (tgt := 65) hx hb dX4_act_57 (by decide) (fun _ => ?_) (fun c9 => absurd (by decide) c9)
          refine lv_iconst (v := 0) hx hb dX4_act_65 (by decide) ?_
          refine lv_istore (lv' := [(8, .int 0), (7, .int 0), (6, .int 0), (0, .ref (a 0)), (1, .int (nI q)), (2, .int (nI 9)), (3, .int x1), (4, .int x2), (5, .int x3)]) hx hb dX4_act_66 hl (by decide) rfl (fun ls hl => ?_)
          refine lv_iload hx hb dX4_act_68 (lv_at hl 2 rfl) ?_
          refine cl_Si (As := [.int 0]) (rest := []) (c_X4_isDigit l D 0) ⟨hx, hb, hml, hown, hts⟩ (cwS 1 hts gX4_act_X4_isDigit rfl rfl rfl (by decide +kernel) ⟨Nat.le_of_ble_eq_true rfl, Nat.le_of_ble_eq_true rfl⟩) hK hns hP hD hS hA rfl hl.1 rfl (Nat.le_of_ble_eq_true rfl) dX4_act_70 ⟨Nat.zero_le _, Nat.zero_le _⟩ (fun r70 u70 H locs hw70 hP hD hS => ?_)
          rcases hw70 with ⟨rfl, hd70⟩ | ⟨rfl, hd70⟩
          · refine lv_if_eq (tgt := 92) hx hb dX4_act_73 (by decide) (fun c9 => absurd c9 (by decide)) (fun _ => ?_)
            refine lv_iload hx hb dX4_act_76 (lv_at hl 1 rfl) ?_
            refine cl_Si (As := [.int 0]) (rest := []) (c_X4_isDigit l D 0) ⟨hx, hb, hml, hown, hts⟩ (cwS 1 hts gX4_act_X4_isDigit rfl rfl rfl (by decide +kernel) ⟨Nat.le_of_ble_eq_true rfl, Nat.le_of_ble_eq_true rfl⟩) hK hns hP hD hS hA rfl hl.1 rfl (Nat.le_of_ble_eq_true rfl) dX4_act_78 ⟨Nat.zero_le _, Nat.zero_le _⟩ (fun r78 u78 H locs hw78 hP hD hS => ?_)
            rcases hw78 with ⟨rfl, hd78⟩ | ⟨rfl, hd78⟩
            · refine lv_if_eq (tgt := 92) hx hb dX4_act_81 (by decide) (fun c9 => absurd c9 (by decide)) (fun _ => ?_)
              refine lv_iload hx hb dX4_act_84 (lv_at hl 0 rfl) ?_
              refine cl_Si (As := [.int 0]) (rest := []) (c_X4_isDigit l D 0) ⟨hx, hb, hml, hown, hts⟩ (cwS 1 hts gX4_act_X4_isDigit rfl rfl rfl (by decide +kernel) ⟨Nat.le_of_ble_eq_true rfl, Nat.le_of_ble_eq_true rfl⟩) hK hns hP hD hS hA rfl hl.1 rfl (Nat.le_of_ble_eq_true rfl) dX4_act_86 ⟨Nat.zero_le _, Nat.zero_le _⟩ (fun r86 u86 H locs hw86 hP hD hS => ?_)
              rcases hw86 with ⟨rfl, hd86⟩ | ⟨rfl, hd86⟩
              · refine lv_if_ne (tgt := 94) hx hb dX4_act_89 (by decide) (fun _ => ?_) (fun c9 => absurd c9 (by decide))
                refine lv_iload_n hx hb dX4_act_94 rfl (lv_at hl 5 rfl) ?_
                refine lv_bipush (v := 7) hx hb dX4_act_95 (by decide) ?_
                refine lv_icmp_ne (tgt := 109) hx hb dX4_act_97 (by decide) (fun c_97 => ?_) (fun c_97 => ?_)
                · have c_97 : ¬ (9 = 7) := fun h => c_97 ((nI_eq (a := 9) (b := 7) (by omega) (by omega)).mpr h)
                  refine lv_aload_n hx hb dX4_act_109 rfl (lv_at hl 3 rfl) ?_
                  refine va_get (D := D) (ci := 4) (v := .ref (a 1)) (C := RX4) (T := TX4) (N := 7) hx hb hts inX4 hown hK hP 0 rfl rfl 0 (by decide) fl11 (fun _ h9 => h9) rfl dX4_act_110 ?_
                  refine lv_iload_n hx hb dX4_act_113 rfl (lv_at hl 4 rfl) ?_
                  refine xa_ald hx hb hK hP 1 1 rfl rfl (k := q) (v := (a (2 + 2 * q))) rfl (by omega) (by decide) dX4_act_114 ?_
                  refine lv_iload_n hx hb dX4_act_115 rfl (lv_at hl 5 rfl) ?_
                  refine lv_iload hx hb dX4_act_116 (lv_at hl 2 rfl) ?_
                  refine lv_iload hx hb dX4_act_118 (lv_at hl 1 rfl) ?_
                  refine lv_iload hx hb dX4_act_120 (lv_at hl 0 rfl) ?_
                  have hPq := hP
                  have hDq := hD
                  rw [wsplit _ _ (hq6), (hpl q (hq6)).1] at hPq hDq
                  refine cl_Vi _ _ (As := [.int (nI 9), .int 0, .int 0, .int 0]) (rest := []) (c_X1_add l D cI (a (2 + 2 * q)) (a (3 + 2 * q)) (pf q) (G.1 q) (hpl q hq6).2.1 (nI 9) 0 0 0) ⟨hx, hb, hml, hown, hts⟩ (cwV 4 hts gX4_act_X1_add rfl rfl rfl (by decide +kernel) ⟨Nat.le_of_ble_eq_true rfl, Nat.le_of_ble_eq_true rfl⟩) (hK.sub [0] rfl) hns hPq hDq hS hA rfl (T := TX1) (N := 2) rfl rfl hl.1 rfl (Nat.le_of_ble_eq_true rfl) dX4_act_122 ⟨Nat.zero_le _, Nat.zero_le _⟩ (fun r122 u122 H locs hw122 hP hD hS => ?_)
                  have hP : va_P D vwCl ([(a 0, .inr (4, [.ref (a 1), .ref (a 14), .ref (a 18), .ref (a 22), .int x, .int y, .int z])), (a 1, .inl (cP, 6, .inr (.inr (.inr (.inr (fun k => some (a (2 + 2 * k))))))))] ++ ((wPs a cI (upd pc q u122.2) (va_up pf q u122.1)) ++ ((wSt (sh 14 a) cI g l_ h r) ++ ((wOp (sh 18 a) cI k n b (nI 0)) ++ (wRp (sh 22 a) cI ct td op))))) H := by rw [← wsplitU _ _ (hq6)]; exact hP
                  have hD : va_D A ([(a 0, .inr (4, [.ref (a 1), .ref (a 14), .ref (a 18), .ref (a 22), .int x, .int y, .int z])), (a 1, .inl (cP, 6, .inr (.inr (.inr (.inr (fun k => some (a (2 + 2 * k))))))))] ++ ((wPs a cI (upd pc q u122.2) (va_up pf q u122.1)) ++ ((wSt (sh 14 a) cI g l_ h r) ++ ((wOp (sh 18 a) cI k n b (nI 0)) ++ (wRp (sh 22 a) cI ct td op))))) := by rw [← wsplitU _ _ (hq6)]; exact hD
                  exact Ri (D := D) (upd pc q u122.2, va_up pf q u122.1) hx hb hr rfl hlocks hP hD hS (by have hf : fitP 9 x1 x2 x3 := (⟨fun q => absurd q (by simp [nmA]), fun q => absurd q (by simp [nmB]), fun q => absurd q (by simp [nmC]), fun q => absurd q (by decide)⟩ : fitP 9 x1 x2 x3); rcases hw122 with ⟨h1, h2, h3⟩ | ⟨h1, h2, h3⟩; exact (by rw [F_act_full hq6 (by decide) hf h1, h3]; exact ⟨h2, Dpl_id hpl (hpl q hq6).1.symm rfl⟩); exact (by rw [F_act_in hq6 (by decide) hf (by omega), h3]; exact ⟨h2, Dpl_act hpl hq6 (by decide) hf h1 (cd_eq (by decide) hf (Or.inr ⟨by simp [nmA], rfl⟩) (Or.inr ⟨by simp [nmB], rfl⟩) (Or.inr ⟨by simp [nmC], rfl⟩))⟩)) dX4_act_125
                · have c_97 : 9 = 7 := (nI_eq (a := 9) (b := 7) (by omega) (by omega)).mp c_97
                  exact absurd c_97 (by decide)
              · exact absurd ⟨0, by decide, rfl⟩ hd86
            · exact absurd ⟨0, by decide, rfl⟩ hd78
          · exact absurd ⟨0, by decide, rfl⟩ hd70
      · refine lv_iconst (v := (-1)) hx hb dX4_act_17 (by decide) ?_
        exact Ri (D := D) (pc, pf) hx hb hr rfl hlocks hP hD hS (by rw [F_act_no (fun q => c_14 (inN_d (m := 9) (by decide) rfl q.2.1).2)]; exact ⟨rfl, hpl⟩) dX4_act_18
  · refine lv_if_eq (tgt := 17) hx hb dX4_act_4 (by decide) (fun _ => ?_) (fun c9 => absurd (by decide) c9)
    refine lv_iconst (v := (-1)) hx hb dX4_act_17 (by decide) ?_
    exact Ri (D := D) (pc, pf) hx hb hr rfl hlocks hP hD hS (by rw [F_act_no (fun q => hp1 q.1)]; exact ⟨rfl, hpl⟩) dX4_act_18
