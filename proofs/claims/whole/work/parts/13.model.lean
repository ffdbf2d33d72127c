set_option maxHeartbeats 4000000 in
set_option maxRecDepth 100000 in
theorem c_X5_in (l : Launch) (D : va_G) (x lo hi : Int32) : Ci l D [] yX5_in wsX5_in ({ frames := 0, cells := 0, slots := 0, locals := 0 }) [.int x, .int lo, .int hi] ([]) (S := Unit) (fun w _ => (w = 1 ∧ lo ≤ x ∧ x ≤ hi) ∨ (w = 0 ∧ ¬ (lo ≤ x ∧ x ≤ hi))) (fun _ => []) := by
  refine Ci.mk (cc := cX5_in) (maxL := 3) (ret := (some .boolean)) (by decide +kernel) rfl (Nat.le_of_ble_eq_true rfl) ?_
  intro pg e s m below meth c A ls hx hb hml hr hown hts hlocks hK hns hA hP hD hS hl
  have hl : lv_has ls 3 [(0, .int x), (1, .int lo), (2, .int hi)] := hl
  refine lv_iload_n hx hb dX5_in_0 rfl (lv_at hl 0 rfl) ?_
  refine lv_iload_n hx hb dX5_in_1 rfl (lv_at hl 1 rfl) ?_
  refine lv_icmp_lt (tgt := 14) hx hb dX5_in_2 (by decide) (fun c_2 => ?_) (fun c_2 => ?_)
  · refine lv_iconst (v := 0) hx hb dX5_in_14 (by decide) ?_
    exact Ri (D := D) () hx hb hr (by decide) hlocks hP hD hS (Or.inr ⟨rfl, fun h => absurd c_2 (Int32.not_lt.mpr h.1)⟩) dX5_in_15
  · refine lv_iload_n hx hb dX5_in_5 rfl (lv_at hl 0 rfl) ?_
    refine lv_iload_n hx hb dX5_in_6 rfl (lv_at hl 2 rfl) ?_
    refine lv_icmp_gt (tgt := 14) hx hb dX5_in_7 (by decide) (fun c_7 => ?_) (fun c_7 => ?_)
    · refine lv_iconst (v := 0) hx hb dX5_in_14 (by decide) ?_
      exact Ri (D := D) () hx hb hr (by decide) hlocks hP hD hS (Or.inr ⟨rfl, fun h => absurd c_7 (Int32.not_lt.mpr h.2)⟩) dX5_in_15
    · refine lv_iconst (v := 1) hx hb dX5_in_10 (by decide) ?_
      refine lv_goto (tgt := 15) hx hb dX5_in_11 (by decide) ?_
      exact Ri (D := D) () hx hb hr (by decide) hlocks hP hD hS (Or.inl ⟨rfl, Int32.not_lt.mp c_2, Int32.not_lt.mp c_7⟩) dX5_in_15

set_option maxHeartbeats 4000000 in
set_option maxRecDepth 100000 in
theorem c_X5_isPlan (l : Launch) (D : va_G) (x : Int32) : Ci l D [] yX5_isPlan wsX5_isPlan ({ frames := 1, cells := 0, slots := 0, locals := 22 }) [.int x] ([]) (S := Unit) (fun w _ => (w = 1 ∧ inN x 6) ∨ (w = 0 ∧ ¬ inN x 6)) (fun _ => []) := by
  refine Ci.mk (cc := cX5_isPlan) (maxL := 1) (ret := (some .boolean)) (by decide +kernel) rfl (Nat.le_of_ble_eq_true rfl) ?_
  intro pg e s m below meth c A ls hx hb hml hr hown hts hlocks hK hns hA hP hD hS hl
  have hl : lv_has ls 1 [(0, .int x)] := hl
  refine lv_iload_n hx hb dX5_isPlan_0 rfl (lv_at hl 0 rfl) ?_
  refine lv_iconst (v := 0) hx hb dX5_isPlan_1 (by decide) ?_
  refine lv_iconst (v := 5) hx hb dX5_isPlan_2 (by decide) ?_
  refine cl_Si (As := [.int x, .int 0, .int 5]) (rest := []) (c_X5_in l D x 0 5) ⟨hx, hb, hml, hown, hts⟩ (cwS 3 hts gX5_isPlan_X5_in rfl rfl rfl (by decide +kernel) ⟨Nat.le_of_ble_eq_true rfl, Nat.le_of_ble_eq_true rfl⟩) hK hns hP hD hS hA rfl hl.1 rfl (Nat.le_of_ble_eq_true rfl) dX5_isPlan_3 ⟨Nat.zero_le _, Nat.zero_le _⟩ (fun r3 u3 H locs hw3 hP hD hS => ?_)
  rcases hw3 with ⟨rfl, hi3⟩ | ⟨rfl, hi3⟩
  · exact Ri (D := D) () hx hb hr (by decide) hlocks hP hD hS (Or.inl ⟨rfl, inN_c (m := 5) (by decide) rfl hi3.1 hi3.2⟩) dX5_isPlan_6
  · exact Ri (D := D) () hx hb hr (by decide) hlocks hP hD hS (Or.inr ⟨rfl, fun h => hi3 (inN_d (m := 5) (by decide) rfl h)⟩) dX5_isPlan_6

set_option maxHeartbeats 4000000 in
set_option maxRecDepth 100000 in
theorem c_X5_isDigit (l : Launch) (D : va_G) (x : Int32) : Ci l D [] yX5_isDigit wsX5_isDigit ({ frames := 1, cells := 0, slots := 0, locals := 22 }) [.int x] ([]) (S := Unit) (fun w _ => (w = 1 ∧ inN x 10) ∨ (w = 0 ∧ ¬ inN x 10)) (fun _ => []) := by
  refine Ci.mk (cc := cX5_isDigit) (maxL := 1) (ret := (some .boolean)) (by decide +kernel) rfl (Nat.le_of_ble_eq_true rfl) ?_
  intro pg e s m below meth c A ls hx hb hml hr hown hts hlocks hK hns hA hP hD hS hl
  have hl : lv_has ls 1 [(0, .int x)] := hl
  refine lv_iload_n hx hb dX5_isDigit_0 rfl (lv_at hl 0 rfl) ?_
  refine lv_iconst (v := 0) hx hb dX5_isDigit_1 (by decide) ?_
  refine lv_bipush (v := 9) hx hb dX5_isDigit_2 (by decide) ?_
  refine cl_Si (As := [.int x, .int 0, .int 9]) (rest := []) (c_X5_in l D x 0 9) ⟨hx, hb, hml, hown, hts⟩ (cwS 3 hts gX5_isDigit_X5_in rfl rfl rfl (by decide +kernel) ⟨Nat.le_of_ble_eq_true rfl, Nat.le_of_ble_eq_true rfl⟩) hK hns hP hD hS hA rfl hl.1 rfl (Nat.le_of_ble_eq_true rfl) dX5_isDigit_4 ⟨Nat.zero_le _, Nat.zero_le _⟩ (fun r4 u4 H locs hw4 hP hD hS => ?_)
  rcases hw4 with ⟨rfl, hi4⟩ | ⟨rfl, hi4⟩
  · exact Ri (D := D) () hx hb hr (by decide) hlocks hP hD hS (Or.inl ⟨rfl, inN_c (m := 9) (by decide) rfl hi4.1 hi4.2⟩) dX5_isDigit_7
  · exact Ri (D := D) () hx hb hr (by decide) hlocks hP hD hS (Or.inr ⟨rfl, fun h => hi4 (inN_d (m := 9) (by decide) rfl h)⟩) dX5_isDigit_7

set_option maxHeartbeats 4000000 in
set_option maxRecDepth 100000 in
theorem c_X5_isClosed (l : Launch) (D : va_G) (cI cZ : ClassId) (a : Nat → Nat) (v : Nat → Nat → Int32) (t r lv b o : Int32) (pn : Nat → Nat) (cd : Nat → Nat → Nat) (hp : rpl v pn cd) (q : Nat) (hq : q < 6) : Ci l D [(cI, .int), (cZ, .boolean)] yX5_isClosed wsX5_isClosed ({ frames := 0, cells := 0, slots := 0, locals := 0 }) [.ref (a 0), .int (nI q)] (wM a cI cZ v t r lv b o) (S := Unit) (fun w _ => (w = 1 ∧ clo (pn q) (cd q)) ∨ (w = 0 ∧ ¬ clo (pn q) (cd q))) (fun _ => wM a cI cZ v t r lv b o) := by
  refine Ci.mk (cc := cX5_isClosed) (maxL := 5) (ret := (some .boolean)) (by decide +kernel) rfl (Nat.le_of_ble_eq_true rfl) ?_
  intro pg e s m below meth c A ls hx hb hml hr hown hts hlocks hK hns hA hP hD hS hl
  have hl : lv_has ls 5 [(0, .ref (a 0)), (1, .int (nI q))] := hl
  have fl7 := hts (.fieldLink RX5 7 "HeldShelvesModel" "many" "[I") (List.mem_of_getElem? (i := 1) rfl)
  have inX5 : ∀ w ∈ wsX50, w ∈ wsX5_isClosed := fun _ h => List.mem_cons_of_mem _ (List.mem_append_right _ h)
  have fl13 := hts (.fieldLink RX5 13 "HeldShelvesModel" "kinds" "[I") (List.mem_of_getElem? (i := 2) rfl)
  have hP : va_P D vwCl [(a 0, .inr (5, [.int t, .ref (a 1), .ref (a 2), .ref (a 3), .ref (a 4), .ref (a 5), .ref (a 6), .ref (a 7), .ref (a 8), .ref (a 9), .int r, .ref (a 11), .ref (a 12), .ref (a 13), .ref (a 14), .int lv, .ref (a 16), .ref (a 17), .ref (a 18), .int b, .int o])), (a 1, .inl (cI, 6, .inl (v 1))), (a 2, .inl (cI, 240, .inl (v 2))), (a 3, .inl (cI, 240, .inl (v 3))), (a 4, .inl (cI, 240, .inl (v 4))), (a 5, .inl (cI, 240, .inl (v 5))), (a 6, .inl (cZ, 8, .inl (v 6))), (a 7, .inl (cI, 8, .inl (v 7))), (a 8, .inl (cI, 8, .inl (v 8))), (a 9, .inl (cI, 8, .inl (v 9))), (a 11, .inl (cI, 8, .inl (v 11))), (a 12, .inl (cI, 10, .inl (v 12))), (a 13, .inl (cI, 5, .inl (v 13))), (a 14, .inl (cI, 5, .inl (v 14))), (a 16, .inl (cI, 128, .inl (v 16))), (a 17, .inl (cI, 128, .inl (v 17))), (a 18, .inl (cI, 128, .inl (v 18)))] s.heap := hP
  have hD : va_D A [(a 0, .inr (5, [.int t, .ref (a 1), .ref (a 2), .ref (a 3), .ref (a 4), .ref (a 5), .ref (a 6), .ref (a 7), .ref (a 8), .ref (a 9), .int r, .ref (a 11), .ref (a 12), .ref (a 13), .ref (a 14), .int lv, .ref (a 16), .ref (a 17), .ref (a 18), .int b, .int o])), (a 1, .inl (cI, 6, .inl (v 1))), (a 2, .inl (cI, 240, .inl (v 2))), (a 3, .inl (cI, 240, .inl (v 3))), (a 4, .inl (cI, 240, .inl (v 4))), (a 5, .inl (cI, 240, .inl (v 5))), (a 6, .inl (cZ, 8, .inl (v 6))), (a 7, .inl (cI, 8, .inl (v 7))), (a 8, .inl (cI, 8, .inl (v 8))), (a 9, .inl (cI, 8, .inl (v 9))), (a 11, .inl (cI, 8, .inl (v 11))), (a 12, .inl (cI, 10, .inl (v 12))), (a 13, .inl (cI, 5, .inl (v 13))), (a 14, .inl (cI, 5, .inl (v 14))), (a 16, .inl (cI, 128, .inl (v 16))), (a 17, .inl (cI, 128, .inl (v 17))), (a 18, .inl (cI, 128, .inl (v 18)))] := hD
  have hq1 := hp q hq
  have hn40 := hq1.2.1
  refine lv_iconst (v := 0) hx hb dX5_isClosed_0 (by decide) ?_
  refine lv_istore_n (lv' := [(2, .int 0), (0, .ref (a 0)), (1, .int (nI q))]) hx hb dX5_isClosed_1 rfl hl (by decide) rfl (fun ls hl => ?_)
  refine lv_iconst (v := 0) hx hb dX5_isClosed_2 (by decide) ?_
  refine lv_istore_n (lv' := [(3, .int 0), (2, .int 0), (0, .ref (a 0)), (1, .int (nI q))]) hx hb dX5_isClosed_3 rfl hl (by decide) rfl (fun ls hl => ?_)
  have loop4 : ∀ (k : Nat) (k0 : Nat) (d : Nat), pn q + 1 ≤ k0 + k → k0 ≤ pn q → (d : Int) = dp (cd q) k0 → (∀ j, j ≤ k0 → 0 ≤ dp (cd q) j) → d ≤ k0 → ∀ (H : Heap) (locs : List Loc), va_P D vwCl [(a 0, .inr (5, [.int t, .ref (a 1), .ref (a 2), .ref (a 3), .ref (a 4), .ref (a 5), .ref (a 6), .ref (a 7), .ref (a 8), .ref (a 9), .int r, .ref (a 11), .ref (a 12), .ref (a 13), .ref (a 14), .int lv, .ref (a 16), .ref (a 17), .ref (a 18), .int b, .int o])), (a 1, .inl (cI, 6, .inl (v 1))), (a 2, .inl (cI, 240, .inl (v 2))), (a 3, .inl (cI, 240, .inl (v 3))), (a 4, .inl (cI, 240, .inl (v 4))), (a 5, .inl (cI, 240, .inl (v 5))), (a 6, .inl (cZ, 8, .inl (v 6))), (a 7, .inl (cI, 8, .inl (v 7))), (a 8, .inl (cI, 8, .inl (v 8))), (a 9, .inl (cI, 8, .inl (v 9))), (a 11, .inl (cI, 8, .inl (v 11))), (a 12, .inl (cI, 10, .inl (v 12))), (a 13, .inl (cI, 5, .inl (v 13))), (a 14, .inl (cI, 5, .inl (v 14))), (a 16, .inl (cI, 128, .inl (v 16))), (a 17, .inl (cI, 128, .inl (v 17))), (a 18, .inl (cI, 128, .inl (v 18)))] H → va_D A [(a 0, .inr (5, [.int t, .ref (a 1), .ref (a 2), .ref (a 3), .ref (a 4), .ref (a 5), .ref (a 6), .ref (a 7), .ref (a 8), .ref (a 9), .int r, .ref (a 11), .ref (a 12), .ref (a 13), .ref (a 14), .int lv, .ref (a 16), .ref (a 17), .ref (a 18), .int b, .int o])), (a 1, .inl (cI, 6, .inl (v 1))), (a 2, .inl (cI, 240, .inl (v 2))), (a 3, .inl (cI, 240, .inl (v 3))), (a 4, .inl (cI, 240, .inl (v 4))), (a 5, .inl (cI, 240, .inl (v 5))), (a 6, .inl (cZ, 8, .inl (v 6))), (a 7, .inl (cI, 8, .inl (v 7))), (a 8, .inl (cI, 8, .inl (v 8))), (a 9, .inl (cI, 8, .inl (v 9))), (a 11, .inl (cI, 8, .inl (v 11))), (a 12, .inl (cI, 10, .inl (v 12))), (a 13, .inl (cI, 5, .inl (v 13))), (a 14, .inl (cI, 5, .inl (v 14))), (a 16, .inl (cI, 128, .inl (v 16))), (a 17, .inl (cI, 128, .inl (v 17))), (a 18, .inl (cI, 128, .inl (v 18)))] → va_S A s.heap H locs → ∀ (ls : Array Slot), lv_has ls 5 [(0, .ref (a 0)), (1, .int (nI q)), (3, .int (nI k0)), (2, .int (nI d))] → W pg l e ({ frames := 0, cells := 0, slots := 0, locals := 0 } : Room) s m ([.ref (a 0), .int (nI q)] : List Value).toArray below meth c H locs 0 0 (Qi D below ([.ref (a 0), .int (nI q)] : List Value).toArray s A (S := Unit) (fun w _ => (w = 1 ∧ clo (pn q) (cd q)) ∨ (w = 0 ∧ ¬ clo (pn q) (cd q))) (fun _ => wM a cI cZ v t r lv b o)) (F0 m 4 ls []) := by
    intro k
    induction k with
    | zero => intro k0 d hk hi hd hall hdi; exact absurd hk (by omega)
    | succ k ih =>
      intro k0 d hk hi hd hall hdi H locs hP hD hS ls hl
      refine lv_iload_n hx hb dX5_isClosed_4 rfl (lv_at hl 2 rfl) ?_
      refine lv_aload_n hx hb dX5_isClosed_5 rfl (lv_at hl 0 rfl) ?_
      refine va_get (D := D) (ci := 5) (v := .ref (a 1)) (C := RX5) (T := TX5) (N := 21) hx hb hts inX5 hown hK hP 0 rfl rfl 1 (by decide) fl7 (fun _ h9 => h9) rfl dX5_isClosed_6 ?_
      refine lv_iload_n hx hb dX5_isClosed_9 rfl (lv_at hl 1 rfl) ?_
      refine xi_ald hx hb hK hP 1 0 rfl rfl (k := q) (by omega) (by decide) dX5_isClosed_10 ?_
      refine tp (y := nI (pn q)) (hq1.1) ?_
      refine lv_icmp_ge (tgt := 61) hx hb dX5_isClosed_11 (by decide) (fun c_11 => ?_) (fun c_11 => ?_)
      · have c_11 : (pn q) ≤ k0 := (nI_leI (a := (pn q)) (b := k0) (by omega) (by omega)).mp c_11
        refine lv_iload_n hx hb dX5_isClosed_61 rfl (lv_at hl 3 rfl) ?_
        refine lv_if_ne (tgt := 69) hx hb dX5_isClosed_62 (by decide) (fun c_62 => ?_) (fun c_62 => ?_)
        · have c_62 : ¬ (d = 0) := fun h => c_62 ((nI_eq (a := d) (b := 0) (by omega) (by omega)).mpr h)
          refine lv_iconst (v := 0) hx hb dX5_isClosed_69 (by decide) ?_
          exact Ri (D := D) () hx hb hr (by decide) hlocks hP hD hS (Or.inr ⟨rfl, fun hc => by have h9 := hc.2; rw [show pn q = k0 by omega] at h9; omega⟩) dX5_isClosed_70
        · have c_62 : d = 0 := (nI_eq (a := d) (b := 0) (by omega) (by omega)).mp c_62
          refine lv_iconst (v := 1) hx hb dX5_isClosed_65 (by decide) ?_
          refine lv_goto (tgt := 70) hx hb dX5_isClosed_66 (by decide) ?_
          exact Ri (D := D) () hx hb hr (by decide) hlocks hP hD hS (Or.inl ⟨rfl, ⟨fun j hj => hall j (by omega), by rw [show pn q = k0 by omega]; omega⟩⟩) dX5_isClosed_70
      · have c_11 : ¬ ((pn q) ≤ k0) := fun h => c_11 ((nI_leI (a := (pn q)) (b := k0) (by omega) (by omega)).mpr h)
        have c_11 : k0 < pn q := by omega
        refine lv_iload_n hx hb dX5_isClosed_14 rfl (lv_at hl 3 rfl) ?_
        refine lv_if_lt (tgt := 61) hx hb dX5_isClosed_15 (by decide) (fun c_15 => ?_) (fun c_15 => ?_)
        · have c_15 : d < 0 := (nI_ltI (a := d) (b := 0) (by omega) (by omega)).mp c_15
          exact absurd c_15 (by omega)
        · have c_15 : ¬ (d < 0) := fun h => c_15 ((nI_ltI (a := d) (b := 0) (by omega) (by omega)).mpr h)
          refine lv_aload_n hx hb dX5_isClosed_18 rfl (lv_at hl 0 rfl) ?_
          refine va_get (D := D) (ci := 5) (v := .ref (a 2)) (C := RX5) (T := TX5) (N := 21) hx hb hts inX5 hown hK hP 0 rfl rfl 2 (by decide) fl13 (fun _ h9 => h9) rfl dX5_isClosed_19 ?_
          refine lv_bipush (v := 40) hx hb dX5_isClosed_22 (by decide) ?_
          refine lv_iload_n hx hb dX5_isClosed_24 rfl (lv_at hl 1 rfl) ?_
          refine lv_imul hx hb dX5_isClosed_25 ?_
          refine lv_iload_n hx hb dX5_isClosed_26 rfl (lv_at hl 2 rfl) ?_
          refine lv_iadd hx hb dX5_isClosed_27 ?_
          refine tp (y := nI (40 * q + k0)) (ix40 q k0) ?_
          refine xi_ald hx hb hK hP 2 0 rfl rfl (k := (40 * q + k0)) (by omega) (by decide) dX5_isClosed_28 ?_
          have hki := hq1.2.2 k0 c_11
          have hkc : cd q k0 / 1000 < 10 := by have := hki.2.1; omega
          refine tp (y := nI (cd q k0 / 1000)) (hki.1) ?_
          refine lv_istore (lv' := [(4, .int (nI (cd q k0 / 1000))), (0, .ref (a 0)), (1, .int (nI q)), (3, .int (nI k0)), (2, .int (nI d))]) hx hb dX5_isClosed_29 hl (by decide) rfl (fun ls hl => ?_)
          refine lv_iload_n hx hb dX5_isClosed_31 rfl (lv_at hl 4 rfl) ?_
          refine lv_iload hx hb dX5_isClosed_32 (lv_at hl 0 rfl) ?_
          refine lv_iconst (v := 1) hx hb dX5_isClosed_34 (by decide) ?_
          refine lv_icmp_gt (tgt := 42) hx hb dX5_isClosed_35 (by decide) (fun c_35 => ?_) (fun c_35 => ?_)
          · have c_35 : 1 < (cd q k0 / 1000) := (nI_ltI (a := 1) (b := (cd q k0 / 1000)) (by omega) (by omega)).mp c_35
            refine lv_iload hx hb dX5_isClosed_42 (lv_at hl 0 rfl) ?_
            refine lv_iconst (v := 2) hx hb dX5_isClosed_44 (by decide) ?_
            refine lv_icmp_ne (tgt := 52) hx hb dX5_isClosed_45 (by decide) (fun c_45 => ?_) (fun c_45 => ?_)
            · have c_45 : ¬ ((cd q k0 / 1000) = 2) := fun h => c_45 ((nI_eq (a := (cd q k0 / 1000)) (b := 2) (by omega) (by omega)).mpr h)
              refine lv_iconst (v := 0) hx hb dX5_isClosed_52 (by decide) ?_
              refine lv_iadd hx hb dX5_isClosed_53 ?_
              rcases dp_step (cd := cd q) (i := k0) (d := d) (z := 0) (by omega) (Or.inr (Or.inr ⟨rfl, dp_k0 (by omega)⟩)) with ⟨e, he1, he2, he3⟩ | ⟨he1, he2, he3⟩
              · refine tp (y := nI e) (he1) ?_
                refine lv_istore_n (lv' := [(2, .int (nI e)), (4, .int (nI (cd q k0 / 1000))), (0, .ref (a 0)), (1, .int (nI q)), (3, .int (nI k0))]) hx hb dX5_isClosed_54 rfl hl (by decide) rfl (fun ls hl => ?_)
                refine lv_iinc (v := (nI (k0 + 1))) (lv' := [(3, .int (nI (k0 + 1))), (2, .int (nI e)), (4, .int (nI (cd q k0 / 1000))), (0, .ref (a 0)), (1, .int (nI q))]) hx hb dX5_isClosed_55 hl (k := 4) rfl (nI_1 k0) (by decide) rfl (fun ls hl => ?_)
                refine lv_goto (tgt := 4) hx hb dX5_isClosed_58 (by decide) ?_
                exact ih (k0 + 1) e (by omega) (by omega) (by omega) (fun j hj => (Nat.lt_or_ge k0 j).elim (fun q => by rw [show j = k0 + 1 by omega]; omega) (fun q => hall j q)) (by omega) _ _ hP hD hS ls (lv_sub hl [3, 4, 0, 1] rfl)
              · refine tp (y := (-1)) (he1) ?_
                refine lv_istore_n (lv' := [(2, .int (-1)), (4, .int (nI (cd q k0 / 1000))), (0, .ref (a 0)), (1, .int (nI q)), (3, .int (nI k0))]) hx hb dX5_isClosed_54 rfl hl (by decide) rfl (fun ls hl => ?_)
                refine lv_iinc (v := (nI (k0 + 1))) (lv' := [(3, .int (nI (k0 + 1))), (2, .int (-1)), (4, .int (nI (cd q k0 / 1000))), (0, .ref (a 0)), (1, .int (nI q))]) hx hb dX5_isClosed_55 hl (k := 4) rfl (nI_1 k0) (by decide) rfl (fun ls hl => ?_)
                refine lv_goto (tgt := 4) hx hb dX5_isClosed_58 (by decide) ?_
                have hk1 : k0 < pn q := c_11
                refine lv_iload_n hx hb dX5_isClosed_4 rfl (lv_at hl 0 rfl) ?_
                refine lv_aload_n hx hb dX5_isClosed_5 rfl (lv_at hl 3 rfl) ?_
                refine va_get (D := D) (ci := 5) (v := .ref (a 1)) (C := RX5) (T := TX5) (N := 21) hx hb hts inX5 hown hK hP 0 rfl rfl 1 (by decide) fl7 (fun _ h9 => h9) rfl dX5_isClosed_6 ?_
                refine lv_iload_n hx hb dX5_isClosed_9 rfl (lv_at hl 4 rfl) ?_
                refine xi_ald hx hb hK hP 1 0 rfl rfl (k := q) (by omega) (by decide) dX5_isClosed_10 ?_
                refine tp (y := nI (pn q)) (hq1.1) ?_
                refine lv_icmp_ge (tgt := 61) hx hb dX5_isClosed_11 (by decide) (fun c_11 => ?_) (fun c_11 => ?_)
                · have c_11 : (pn q) ≤ (k0 + 1) := (nI_leI (a := (pn q)) (b := (k0 + 1)) (by omega) (by omega)).mp c_11
                  refine lv_iload_n hx hb dX5_isClosed_61 rfl (lv_at hl 1 rfl) ?_
                  refine lv_if_ne (tgt := 69) hx hb dX5_isClosed_62 (by decide) (fun _ => ?_) (fun c9 => absurd c9 (by decide))
                  refine lv_iconst (v := 0) hx hb dX5_isClosed_69 (by decide) ?_
                  exact Ri (D := D) () hx hb hr (by decide) hlocks hP hD hS (Or.inr ⟨rfl, fun hc => by have := hc.1 (k0 + 1) (by omega); omega⟩) dX5_isClosed_70
                · have c_11 : ¬ ((pn q) ≤ (k0 + 1)) := fun h => c_11 ((nI_leI (a := (pn q)) (b := (k0 + 1)) (by omega) (by omega)).mpr h)
                  have c_11 : k0 < pn q := by omega
                  refine lv_iload_n hx hb dX5_isClosed_14 rfl (lv_at hl 1 rfl) ?_
                  refine lv_if_lt (tgt := 61) hx hb dX5_isClosed_15 (by decide) (fun _ => ?_) (fun c9 => absurd (by decide) c9)
                  refine lv_iload_n hx hb dX5_isClosed_61 rfl (lv_at hl 1 rfl) ?_
                  refine lv_if_ne (tgt := 69) hx hb dX5_isClosed_62 (by decide) (fun _ => ?_) (fun c9 => absurd c9 (by decide))
                  refine lv_iconst (v := 0) hx hb dX5_isClosed_69 (by decide) ?_
                  exact Ri (D := D) () hx hb hr (by decide) hlocks hP hD hS (Or.inr ⟨rfl, fun hc => by have := hc.1 (k0 + 1) (by omega); omega⟩) dX5_isClosed_70
            · have c_45 : (cd q k0 / 1000) = 2 := (nI_eq (a := (cd q k0 / 1000)) (b := 2) (by omega) (by omega)).mp c_45
              refine lv_iconst (v := (-1)) hx hb dX5_isClosed_48 (by decide) ?_
              refine lv_goto (tgt := 53) hx hb dX5_isClosed_49 (by decide) ?_
              refine lv_iadd hx hb dX5_isClosed_53 ?_
              rcases dp_step (cd := cd q) (i := k0) (d := d) (z := 0) (by omega) (Or.inr (Or.inl ⟨rfl, dp_k2 c_45⟩)) with ⟨e, he1, he2, he3⟩ | ⟨he1, he2, he3⟩
              · refine tp (y := nI e) (he1) ?_
                refine lv_istore_n (lv' := [(2, .int (nI e)), (4, .int (nI (cd q k0 / 1000))), (0, .ref (a 0)), (1, .int (nI q)), (3, .int (nI k0))]) hx hb dX5_isClosed_54 rfl hl (by decide) rfl (fun ls hl => ?_)
                refine lv_iinc (v := (nI (k0 + 1))) (lv' := [(3, .int (nI (k0 + 1))), (2, .int (nI e)), (4, .int (nI (cd q k0 / 1000))), (0, .ref (a 0)), (1, .int (nI q))]) hx hb dX5_isClosed_55 hl (k := 4) rfl (nI_1 k0) (by decide) rfl (fun ls hl => ?_)
                refine lv_goto (tgt := 4) hx hb dX5_isClosed_58 (by decide) ?_
                exact ih (k0 + 1) e (by omega) (by omega) (by omega) (fun j hj => (Nat.lt_or_ge k0 j).elim (fun q => by rw [show j = k0 + 1 by omega]; omega) (fun q => hall j q)) (by omega) _ _ hP hD hS ls (lv_sub hl [3, 4, 0, 1] rfl)
              · refine tp (y := (-1)) (he1) ?_
                refine lv_istore_n (lv' := [(2, .int (-1)), (4, .int (nI (cd q k0 / 1000))), (0, .ref (a 0)), (1, .int (nI q)), (3, .int (nI k0))]) hx hb dX5_isClosed_54 rfl hl (by decide) rfl (fun ls hl => ?_)
                refine lv_iinc (v := (nI (k0 + 1))) (lv' := [(3, .int (nI (k0 + 1))), (2, .int (-1)), (4, .int (nI (cd q k0 / 1000))), (0, .ref (a 0)), (1, .int (nI q))]) hx hb dX5_isClosed_55 hl (k := 4) rfl (nI_1 k0) (by decide) rfl (fun ls hl => ?_)
                refine lv_goto (tgt := 4) hx hb dX5_isClosed_58 (by decide) ?_
                have hk1 : k0 < pn q := c_11
                refine lv_iload_n hx hb dX5_isClosed_4 rfl (lv_at hl 0 rfl) ?_
                refine lv_aload_n hx hb dX5_isClosed_5 rfl (lv_at hl 3 rfl) ?_
                refine va_get (D := D) (ci := 5) (v := .ref (a 1)) (C := RX5) (T := TX5) (N := 21) hx hb hts inX5 hown hK hP 0 rfl rfl 1 (by decide) fl7 (fun _ h9 => h9) rfl dX5_isClosed_6 ?_
                refine lv_iload_n hx hb dX5_isClosed_9 rfl (lv_at hl 4 rfl) ?_
                refine xi_ald hx hb hK hP 1 0 rfl rfl (k := q) (by omega) (by decide) dX5_isClosed_10 ?_
                refine tp (y := nI (pn q)) (hq1.1) ?_
                refine lv_icmp_ge (tgt := 61) hx hb dX5_isClosed_11 (by decide) (fun c_11 => ?_) (fun c_11 => ?_)
                · have c_11 : (pn q) ≤ (k0 + 1) := (nI_leI (a := (pn q)) (b := (k0 + 1)) (by omega) (by omega)).mp c_11
                  refine lv_iload_n hx hb dX5_isClosed_61 rfl (lv_at hl 1 rfl) ?_
                  refine lv_if_ne (tgt := 69) hx hb dX5_isClosed_62 (by decide) (fun _ => ?_) (fun c9 => absurd c9 (by decide))
                  refine lv_iconst (v := 0) hx hb dX5_isClosed_69 (by decide) ?_
                  exact Ri (D := D) () hx hb hr (by decide) hlocks hP hD hS (Or.inr ⟨rfl, fun hc => by have := hc.1 (k0 + 1) (by omega); omega⟩) dX5_isClosed_70
                · have c_11 : ¬ ((pn q) ≤ (k0 + 1)) := fun h => c_11 ((nI_leI (a := (pn q)) (b := (k0 + 1)) (by omega) (by omega)).mpr h)
                  have c_11 : k0 < pn q := by omega
                  refine lv_iload_n hx hb dX5_isClosed_14 rfl (lv_at hl 1 rfl) ?_
                  refine lv_if_lt (tgt := 61) hx hb dX5_isClosed_15 (by decide) (fun _ => ?_) (fun c9 => absurd (by decide) c9)
                  refine lv_iload_n hx hb dX5_isClosed_61 rfl (lv_at hl 1 rfl) ?_
                  refine lv_if_ne (tgt := 69) hx hb dX5_isClosed_62 (by decide) (fun _ => ?_) (fun c9 => absurd c9 (by decide))
                  refine lv_iconst (v := 0) hx hb dX5_isClosed_69 (by decide) ?_
                  exact Ri (D := D) () hx hb hr (by decide) hlocks hP hD hS (Or.inr ⟨rfl, fun hc => by have := hc.1 (k0 + 1) (by omega); omega⟩) dX5_isClosed_70
          · have c_35 : ¬ (1 < (cd q k0 / 1000)) := fun h => c_35 ((nI_ltI (a := 1) (b := (cd q k0 / 1000)) (by omega) (by omega)).mpr h)
            refine lv_iconst (v := 1) hx hb dX5_isClosed_38 (by decide) ?_
            refine lv_goto (tgt := 53) hx hb dX5_isClosed_39 (by decide) ?_
            refine lv_iadd hx hb dX5_isClosed_53 ?_
            rcases dp_step (cd := cd q) (i := k0) (d := d) (z := 0) (by omega) (Or.inl ⟨rfl, dp_k1 (Nat.not_lt.mp c_35)⟩) with ⟨e, he1, he2, he3⟩ | ⟨he1, he2, he3⟩
            · refine tp (y := nI e) (he1) ?_
              refine lv_istore_n (lv' := [(2, .int (nI e)), (4, .int (nI (cd q k0 / 1000))), (0, .ref (a 0)), (1, .int (nI q)), (3, .int (nI k0))]) hx hb dX5_isClosed_54 rfl hl (by decide) rfl (fun ls hl => ?_)
              refine lv_iinc (v := (nI (k0 + 1))) (lv' := [(3, .int (nI (k0 + 1))), (2, .int (nI e)), (4, .int (nI (cd q k0 / 1000))), (0, .ref (a 0)), (1, .int (nI q))]) hx hb dX5_isClosed_55 hl (k := 4) rfl (nI_1 k0) (by decide) rfl (fun ls hl => ?_)
              refine lv_goto (tgt := 4) hx hb dX5_isClosed_58 (by decide) ?_
              exact ih (k0 + 1) e (by omega) (by omega) (by omega) (fun j hj => (Nat.lt_or_ge k0 j).elim (fun q => by rw [show j = k0 + 1 by omega]; omega) (fun q => hall j q)) (by omega) _ _ hP hD hS ls (lv_sub hl [3, 4, 0, 1] rfl)
            · refine tp (y := (-1)) (he1) ?_
              refine lv_istore_n (lv' := [(2, .int (-1)), (4, .int (nI (cd q k0 / 1000))), (0, .ref (a 0)), (1, .int (nI q)), (3, .int (nI k0))]) hx hb dX5_isClosed_54 rfl hl (by decide) rfl (fun ls hl => ?_)
              refine lv_iinc (v := (nI (k0 + 1))) (lv' := [(3, .int (nI (k0 + 1))), (2, .int (-1)), (4, .int (nI (cd q k0 / 1000))), (0, .ref (a 0)), (1, .int (nI q))]) hx hb dX5_isClosed_55 hl (k := 4) rfl (nI_1 k0) (by decide) rfl (fun ls hl => ?_)
              refine lv_goto (tgt := 4) hx hb dX5_isClosed_58 (by decide) ?_
              have hk1 : k0 < pn q := c_11
              refine lv_iload_n hx hb dX5_isClosed_4 rfl (lv_at hl 0 rfl) ?_
              refine lv_aload_n hx hb dX5_isClosed_5 rfl (lv_at hl 3 rfl) ?_
              refine va_get (D := D) (ci := 5) (v := .ref (a 1)) (C := RX5) (T := TX5) (N := 21) hx hb hts inX5 hown hK hP 0 rfl rfl 1 (by decide) fl7 (fun _ h9 => h9) rfl dX5_isClosed_6 ?_
              refine lv_iload_n hx hb dX5_isClosed_9 rfl (lv_at hl 4 rfl) ?_
              refine xi_ald hx hb hK hP 1 0 rfl rfl (k := q) (by omega) (by decide) dX5_isClosed_10 ?_
              refine tp (y := nI (pn q)) (hq1.1) ?_
              refine lv_icmp_ge (tgt := 61) hx hb dX5_isClosed_11 (by decide) (fun c_11 => ?_) (fun c_11 => ?_)
              · have c_11 : (pn q) ≤ (k0 + 1) := (nI_leI (a := (pn q)) (b := (k0 + 1)) (by omega) (by omega)).mp c_11
                refine lv_iload_n hx hb dX5_isClosed_61 rfl (lv_at hl 1 rfl) ?_
                refine lv_if_ne (tgt := 69) hx hb dX5_isClosed_62 (by decide) (fun _ => ?_) (fun c9 => absurd c9 (by decide))
                refine lv_iconst (v := 0) hx hb dX5_isClosed_69 (by decide) ?_
                exact Ri (D := D) () hx hb hr (by decide) hlocks hP hD hS (Or.inr ⟨rfl, fun hc => by have := hc.1 (k0 + 1) (by omega); omega⟩) dX5_isClosed_70
              · have c_11 : ¬ ((pn q) ≤ (k0 + 1)) := fun h => c_11 ((nI_leI (a := (pn q)) (b := (k0 + 1)) (by omega) (by omega)).mpr h)
                have c_11 : k0 < pn q := by omega
                refine lv_iload_n hx hb dX5_isClosed_14 rfl (lv_at hl 1 rfl) ?_
                refine lv_if_lt (tgt := 61) hx hb dX5_isClosed_15 (by decide) (fun _ => ?_) (fun c9 => absurd (by decide) c9)
                refine lv_iload_n hx hb dX5_isClosed_61 rfl (lv_at hl 1 rfl) ?_
                refine lv_if_ne (tgt := 69) hx hb dX5_isClosed_62 (by decide) (fun _ => ?_) (fun c9 => absurd c9 (by decide))
                refine lv_iconst (v := 0) hx hb dX5_isClosed_69 (by decide) ?_
                exact Ri (D := D) () hx hb hr (by decide) hlocks hP hD hS (Or.inr ⟨rfl, fun hc => by have := hc.1 (k0 + 1) (by omega); omega⟩) dX5_isClosed_70
  exact loop4 (pn q + 1) 0 0 (by omega) (by omega) rfl (fun j hj => by rw [Nat.le_zero.mp hj]; exact Int.le_refl _) (Nat.le_refl _) _ _ hP hD hS ls (lv_sub hl [2, 3, 0, 1] rfl)

set_option maxHeartbeats 4000000 in
set_option maxRecDepth 100000 in
theorem c_X5_behind (l : Launch) (D : va_G) (cI cZ : ClassId) (a : Nat → Nat) (v : Nat → Nat → Int32) (t r lv b o : Int32) (pn : Nat → Nat) (cd : Nat → Nat → Nat) (hp : rpl v pn cd) (q : Nat) (hq : q < 6) (bg : Nat) (hbg : bg < pn q) (hkd : cd q bg / 1000 ≤ 1) (hcl : clo (pn q) (cd q)) : Ci l D [(cI, .int), (cZ, .boolean)] yX5_behind wsX5_behind ({ frames := 0, cells := 0, slots := 0, locals := 0 }) [.ref (a 0), .int (nI q), .int (nI bg)] (wM a cI cZ v t r lv b o) (S := Unit) (fun w _ => w = nI (beh (cd q) bg)) (fun _ => wM a cI cZ v t r lv b o) := by
  refine Ci.mk (cc := cX5_behind) (maxL := 6) (ret := (some .int)) (by decide +kernel) rfl (Nat.le_of_ble_eq_true rfl) ?_
  intro pg e s m below meth c A ls hx hb hml hr hown hts hlocks hK hns hA hP hD hS hl
  have hl : lv_has ls 6 [(0, .ref (a 0)), (1, .int (nI q)), (2, .int (nI bg))] := hl
  have fl13 := hts (.fieldLink RX5 13 "HeldShelvesModel" "kinds" "[I") (List.mem_of_getElem? (i := 1) rfl)
  have inX5 : ∀ w ∈ wsX50, w ∈ wsX5_behind := fun _ h => List.mem_cons_of_mem _ (List.mem_append_right _ h)
  have hP : va_P D vwCl [(a 0, .inr (5, [.int t, .ref (a 1), .ref (a 2), .ref (a 3), .ref (a 4), .ref (a 5), .ref (a 6), .ref (a 7), .ref (a 8), .ref (a 9), .int r, .ref (a 11), .ref (a 12), .ref (a 13), .ref (a 14), .int lv, .ref (a 16), .ref (a 17), .ref (a 18), .int b, .int o])), (a 1, .inl (cI, 6, .inl (v 1))), (a 2, .inl (cI, 240, .inl (v 2))), (a 3, .inl (cI, 240, .inl (v 3))), (a 4, .inl (cI, 240, .inl (v 4))), (a 5, .inl (cI, 240, .inl (v 5))), (a 6, .inl (cZ, 8, .inl (v 6))), (a 7, .inl (cI, 8, .inl (v 7))), (a 8, .inl (cI, 8, .inl (v 8))), (a 9, .inl (cI, 8, .inl (v 9))), (a 11, .inl (cI, 8, .inl (v 11))), (a 12, .inl (cI, 10, .inl (v 12))), (a 13, .inl (cI, 5, .inl (v 13))), (a 14, .inl (cI, 5, .inl (v 14))), (a 16, .inl (cI, 128, .inl (v 16))), (a 17, .inl (cI, 128, .inl (v 17))), (a 18, .inl (cI, 128, .inl (v 18)))] s.heap := hP
  have hD : va_D A [(a 0, .inr (5, [.int t, .ref (a 1), .ref (a 2), .ref (a 3), .ref (a 4), .ref (a 5), .ref (a 6), .ref (a 7), .ref (a 8), .ref (a 9), .int r, .ref (a 11), .ref (a 12), .ref (a 13), .ref (a 14), .int lv, .ref (a 16), .ref (a 17), .ref (a 18), .int b, .int o])), (a 1, .inl (cI, 6, .inl (v 1))), (a 2, .inl (cI, 240, .inl (v 2))), (a 3, .inl (cI, 240, .inl (v 3))), (a 4, .inl (cI, 240, .inl (v 4))), (a 5, .inl (cI, 240, .inl (v 5))), (a 6, .inl (cZ, 8, .inl (v 6))), (a 7, .inl (cI, 8, .inl (v 7))), (a 8, .inl (cI, 8, .inl (v 8))), (a 9, .inl (cI, 8, .inl (v 9))), (a 11, .inl (cI, 8, .inl (v 11))), (a 12, .inl (cI, 10, .inl (v 12))), (a 13, .inl (cI, 5, .inl (v 13))), (a 14, .inl (cI, 5, .inl (v 14))), (a 16, .inl (cI, 128, .inl (v 16))), (a 17, .inl (cI, 128, .inl (v 17))), (a 18, .inl (cI, 128, .inl (v 18)))] := hD
  have hq1 := hp q hq
  have hn40 := hq1.2.1
  obtain ⟨kk, hkk, hbh⟩ := beh_ex hcl hbg hkd
  have hb1 := hbh.1
  have hb2 := hbh.2.1
  have hst := dp_k1 (cd := cd q) (i := bg) hkd
  refine lv_iconst (v := 1) hx hb dX5_behind_0 (by decide) ?_
  refine lv_istore_n (lv' := [(3, .int 1), (0, .ref (a 0)), (1, .int (nI q)), (2, .int (nI bg))]) hx hb dX5_behind_1 rfl hl (by decide) rfl (fun ls hl => ?_)
  refine lv_iload_n hx hb dX5_behind_2 rfl (lv_at hl 3 rfl) ?_
  refine lv_iconst (v := 1) hx hb dX5_behind_3 (by decide) ?_
  refine lv_iadd hx hb dX5_behind_4 ?_
  refine tp (y := nI (bg + 1)) (nI_1 bg) ?_
  refine lv_istore (lv' := [(4, .int (nI (bg + 1))), (3, .int 1), (0, .ref (a 0)), (1, .int (nI q)), (2, .int (nI bg))]) hx hb dX5_behind_5 hl (by decide) rfl (fun ls hl => ?_)
  have loop7 : ∀ (k : Nat) (k0 : Nat) (d : Nat), kk + 1 ≤ k0 + k → bg < k0 → k0 ≤ kk → (d : Int) = dp (cd q) k0 - dp (cd q) bg → d ≤ k0 → ∀ (H : Heap) (locs : List Loc), va_P D vwCl [(a 0, .inr (5, [.int t, .ref (a 1), .ref (a 2), .ref (a 3), .ref (a 4), .ref (a 5), .ref (a 6), .ref (a 7), .ref (a 8), .ref (a 9), .int r, .ref (a 11), .ref (a 12), .ref (a 13), .ref (a 14), .int lv, .ref (a 16), .ref (a 17), .ref (a 18), .int b, .int o])), (a 1, .inl (cI, 6, .inl (v 1))), (a 2, .inl (cI, 240, .inl (v 2))), (a 3, .inl (cI, 240, .inl (v 3))), (a 4, .inl (cI, 240, .inl (v 4))), (a 5, .inl (cI, 240, .inl (v 5))), (a 6, .inl (cZ, 8, .inl (v 6))), (a 7, .inl (cI, 8, .inl (v 7))), (a 8, .inl (cI, 8, .inl (v 8))), (a 9, .inl (cI, 8, .inl (v 9))), (a 11, .inl (cI, 8, .inl (v 11))), (a 12, .inl (cI, 10, .inl (v 12))), (a 13, .inl (cI, 5, .inl (v 13))), (a 14, .inl (cI, 5, .inl (v 14))), (a 16, .inl (cI, 128, .inl (v 16))), (a 17, .inl (cI, 128, .inl (v 17))), (a 18, .inl (cI, 128, .inl (v 18)))] H → va_D A [(a 0, .inr (5, [.int t, .ref (a 1), .ref (a 2), .ref (a 3), .ref (a 4), .ref (a 5), .ref (a 6), .ref (a 7), .ref (a 8), .ref (a 9), .int r, .ref (a 11), .ref (a 12), .ref (a 13), .ref (a 14), .int lv, .ref (a 16), .ref (a 17), .ref (a 18), .int b, .int o])), (a 1, .inl (cI, 6, .inl (v 1))), (a 2, .inl (cI, 240, .inl (v 2))), (a 3, .inl (cI, 240, .inl (v 3))), (a 4, .inl (cI, 240, .inl (v 4))), (a 5, .inl (cI, 240, .inl (v 5))), (a 6, .inl (cZ, 8, .inl (v 6))), (a 7, .inl (cI, 8, .inl (v 7))), (a 8, .inl (cI, 8, .inl (v 8))), (a 9, .inl (cI, 8, .inl (v 9))), (a 11, .inl (cI, 8, .inl (v 11))), (a 12, .inl (cI, 10, .inl (v 12))), (a 13, .inl (cI, 5, .inl (v 13))), (a 14, .inl (cI, 5, .inl (v 14))), (a 16, .inl (cI, 128, .inl (v 16))), (a 17, .inl (cI, 128, .inl (v 17))), (a 18, .inl (cI, 128, .inl (v 18)))] → va_S A s.heap H locs → ∀ (ls : Array Slot), lv_has ls 6 [(0, .ref (a 0)), (1, .int (nI q)), (2, .int (nI bg)), (4, .int (nI k0)), (3, .int (nI d))] → W pg l e ({ frames := 0, cells := 0, slots := 0, locals := 0 } : Room) s m ([.ref (a 0), .int (nI q), .int (nI bg)] : List Value).toArray below meth c H locs 0 0 (Qi D below ([.ref (a 0), .int (nI q), .int (nI bg)] : List Value).toArray s A (S := Unit) (fun w _ => w = nI (beh (cd q) bg)) (fun _ => wM a cI cZ v t r lv b o)) (F0 m 7 ls []) := by
    intro k
    induction k with
    | zero => intro k0 d hk hi hi2 hd hdi; exact absurd hk (by omega)
    | succ k ih =>
      intro k0 d hk hi hi2 hd hdi H locs hP hD hS ls hl
      refine lv_iload_n hx hb dX5_behind_7 rfl (lv_at hl 4 rfl) ?_
      refine lv_if_le (tgt := 55) hx hb dX5_behind_8 (by decide) (fun c_8 => ?_) (fun c_8 => ?_)
      · have c_8 : d ≤ 0 := (nI_leI (a := d) (b := 0) (by omega) (by omega)).mp c_8
        refine lv_iload hx hb dX5_behind_55 (lv_at hl 3 rfl) ?_
        exact Ri (D := D) () hx hb hr rfl hlocks hP hD hS (by rw [beh_eq hbh]; rcases Nat.lt_or_ge k0 kk with q | q; exact absurd (hbh.2.2 k0 hi q) (by omega); rw [show k0 = kk by omega]) dX5_behind_57
      · have c_8 : ¬ (d ≤ 0) := fun h => c_8 ((nI_leI (a := d) (b := 0) (by omega) (by omega)).mpr h)
        refine lv_aload_n hx hb dX5_behind_11 rfl (lv_at hl 0 rfl) ?_
        refine va_get (D := D) (ci := 5) (v := .ref (a 2)) (C := RX5) (T := TX5) (N := 21) hx hb hts inX5 hown hK hP 0 rfl rfl 2 (by decide) fl13 (fun _ h9 => h9) rfl dX5_behind_12 ?_
        refine lv_bipush (v := 40) hx hb dX5_behind_15 (by decide) ?_
        refine lv_iload_n hx hb dX5_behind_17 rfl (lv_at hl 1 rfl) ?_
        refine lv_imul hx hb dX5_behind_18 ?_
        refine lv_iload hx hb dX5_behind_19 (lv_at hl 3 rfl) ?_
        refine lv_iadd hx hb dX5_behind_21 ?_
        have hlt : k0 < kk := Nat.lt_of_le_of_ne hi2 (fun q => by rw [q] at hd; omega)
        refine tp (y := nI (40 * q + k0)) (ix40 q k0) ?_
        refine xi_ald hx hb hK hP 2 0 rfl rfl (k := (40 * q + k0)) (by omega) (by decide) dX5_behind_22 ?_
        have hki := hq1.2.2 k0 (by omega)
        have hkc : cd q k0 / 1000 < 10 := by have := hki.2.1; omega
        refine tp (y := nI (cd q k0 / 1000)) (hki.1) ?_
        refine lv_istore (lv' := [(5, .int (nI (cd q k0 / 1000))), (0, .ref (a 0)), (1, .int (nI q)), (2, .int (nI bg)), (4, .int (nI k0)), (3, .int (nI d))]) hx hb dX5_behind_23 hl (by decide) rfl (fun ls hl => ?_)
        refine lv_iload_n hx hb dX5_behind_25 rfl (lv_at hl 5 rfl) ?_
        refine lv_iload hx hb dX5_behind_26 (lv_at hl 0 rfl) ?_
        refine lv_iconst (v := 1) hx hb dX5_behind_28 (by decide) ?_
        refine lv_icmp_gt (tgt := 36) hx hb dX5_behind_29 (by decide) (fun c_29 => ?_) (fun c_29 => ?_)
        · have c_29 : 1 < (cd q k0 / 1000) := (nI_ltI (a := 1) (b := (cd q k0 / 1000)) (by omega) (by omega)).mp c_29
          refine lv_iload hx hb dX5_behind_36 (lv_at hl 0 rfl) ?_
          refine lv_iconst (v := 2) hx hb dX5_behind_38 (by decide) ?_
          refine lv_icmp_ne (tgt := 46) hx hb dX5_behind_39 (by decide) (fun c_39 => ?_) (fun c_39 => ?_)
          · have c_39 : ¬ ((cd q k0 / 1000) = 2) := fun h => c_39 ((nI_eq (a := (cd q k0 / 1000)) (b := 2) (by omega) (by omega)).mpr h)
            refine lv_iconst (v := 0) hx hb dX5_behind_46 (by decide) ?_
            refine lv_iadd hx hb dX5_behind_47 ?_
            rcases dp_step (d := d) (z := dp (cd q) bg) hd (Or.inr (Or.inr ⟨rfl, dp_k0 (by omega)⟩)) with ⟨e, he1, he2, he3⟩ | ⟨he1, he2, he3⟩
            · refine tp (y := nI e) (he1) ?_
              refine lv_istore_n (lv' := [(3, .int (nI e)), (5, .int (nI (cd q k0 / 1000))), (0, .ref (a 0)), (1, .int (nI q)), (2, .int (nI bg)), (4, .int (nI k0))]) hx hb dX5_behind_48 rfl hl (by decide) rfl (fun ls hl => ?_)
              refine lv_iinc (v := (nI (k0 + 1))) (lv' := [(4, .int (nI (k0 + 1))), (3, .int (nI e)), (5, .int (nI (cd q k0 / 1000))), (0, .ref (a 0)), (1, .int (nI q)), (2, .int (nI bg))]) hx hb dX5_behind_49 hl (k := 5) rfl (nI_1 k0) (by decide) rfl (fun ls hl => ?_)
              refine lv_goto (tgt := 7) hx hb dX5_behind_52 (by decide) ?_
              exact ih (k0 + 1) e (by omega) (by omega) (by omega) (by omega) (by omega) _ _ hP hD hS ls (lv_sub hl [3, 4, 5, 0, 1] rfl)
            · exact absurd he3 (by omega)
          · have c_39 : (cd q k0 / 1000) = 2 := (nI_eq (a := (cd q k0 / 1000)) (b := 2) (by omega) (by omega)).mp c_39
            refine lv_iconst (v := (-1)) hx hb dX5_behind_42 (by decide) ?_
            refine lv_goto (tgt := 47) hx hb dX5_behind_43 (by decide) ?_
            refine lv_iadd hx hb dX5_behind_47 ?_
            rcases dp_step (d := d) (z := dp (cd q) bg) hd (Or.inr (Or.inl ⟨rfl, dp_k2 c_39⟩)) with ⟨e, he1, he2, he3⟩ | ⟨he1, he2, he3⟩
            · refine tp (y := nI e) (he1) ?_
              refine lv_istore_n (lv' := [(3, .int (nI e)), (5, .int (nI (cd q k0 / 1000))), (0, .ref (a 0)), (1, .int (nI q)), (2, .int (nI bg)), (4, .int (nI k0))]) hx hb dX5_behind_48 rfl hl (by decide) rfl (fun ls hl => ?_)
              refine lv_iinc (v := (nI (k0 + 1))) (lv' := [(4, .int (nI (k0 + 1))), (3, .int (nI e)), (5, .int (nI (cd q k0 / 1000))), (0, .ref (a 0)), (1, .int (nI q)), (2, .int (nI bg))]) hx hb dX5_behind_49 hl (k := 5) rfl (nI_1 k0) (by decide) rfl (fun ls hl => ?_)
              refine lv_goto (tgt := 7) hx hb dX5_behind_52 (by decide) ?_
              exact ih (k0 + 1) e (by omega) (by omega) (by omega) (by omega) (by omega) _ _ hP hD hS ls (lv_sub hl [3, 4, 5, 0, 1] rfl)
            · exact absurd he3 (by omega)
        · have c_29 : ¬ (1 < (cd q k0 / 1000)) := fun h => c_29 ((nI_ltI (a := 1) (b := (cd q k0 / 1000)) (by omega) (by omega)).mpr h)
          refine lv_iconst (v := 1) hx hb dX5_behind_32 (by decide) ?_
          refine lv_goto (tgt := 47) hx hb dX5_behind_33 (by decide) ?_
          refine lv_iadd hx hb dX5_behind_47 ?_
          rcases dp_step (d := d) (z := dp (cd q) bg) hd (Or.inl ⟨rfl, dp_k1 (Nat.not_lt.mp c_29)⟩) with ⟨e, he1, he2, he3⟩ | ⟨he1, he2, he3⟩
          · refine tp (y := nI e) (he1) ?_
            refine lv_istore_n (lv' := [(3, .int (nI e)), (5, .int (nI (cd q k0 / 1000))), (0, .ref (a 0)), (1, .int (nI q)), (2, .int (nI bg)), (4, .int (nI k0))]) hx hb dX5_behind_48 rfl hl (by decide) rfl (fun ls hl => ?_)
            refine lv_iinc (v := (nI (k0 + 1))) (lv' := [(4, .int (nI (k0 + 1))), (3, .int (nI e)), (5, .int (nI (cd q k0 / 1000))), (0, .ref (a 0)), (1, .int (nI q)), (2, .int (nI bg))]) hx hb dX5_behind_49 hl (k := 5) rfl (nI_1 k0) (by decide) rfl (fun ls hl => ?_)
            refine lv_goto (tgt := 7) hx hb dX5_behind_52 (by decide) ?_
            exact ih (k0 + 1) e (by omega) (by omega) (by omega) (by omega) (by omega) _ _ hP hD hS ls (lv_sub hl [3, 4, 5, 0, 1] rfl)
          · exact absurd he3 (by omega)
  exact loop7 (kk + 1) (bg + 1) 1 (by omega) (by omega) (by omega) (by omega) (by omega) _ _ hP hD hS ls (lv_sub hl [2, 3, 4, 0, 1] rfl)

set_option maxHeartbeats 4000000 in
set_option maxRecDepth 100000 in
theorem c_X5_begins (l : Launch) (D : va_G) (cI cZ : ClassId) (a : Nat → Nat) (v : Nat → Nat → Int32) (t r lv o : Int32) (b0 : Nat) (hb0 : b0 < 128) (x y : Int32) : Cv l D [(cI, .int), (cZ, .boolean)] yX5_begins wsX5_begins ({ frames := 0, cells := 0, slots := 0, locals := 0 }) [.ref (a 0), .int x, .int y] (wM a cI cZ v t r lv (nI b0) o) (S := Unit) (fun _ => True) (fun _ => wM a cI cZ (va_up (va_up (va_up v 16 (upd (v 16) b0 x)) 17 (upd (v 17) b0 y)) 18 (upd (v 18) b0 lv)) t r lv (nI (b0 + 1)) o) := by
  refine Cv.mk (cc := cX5_begins) (maxL := 3) (ret := none) (by decide +kernel) rfl (Nat.le_of_ble_eq_true rfl) ?_
  intro pg e s m below meth c A ls hx hb hml hr hown hts hlocks hK hns hA hP hD hS hl
  have hl : lv_has ls 3 [(0, .ref (a 0)), (1, .int x), (2, .int y)] := hl
  have fl50 := hts (.fieldLink RX5 50 "HeldShelvesModel" "block" "[I") (List.mem_of_getElem? (i := 1) rfl)
  have inX5 : ∀ w ∈ wsX50, w ∈ wsX5_begins := fun _ h => List.mem_cons_of_mem _ (List.mem_append_right _ h)
  have fl81 := hts (.fieldLink RX5 81 "HeldShelvesModel" "blocks" "I") (List.mem_of_getElem? (i := 2) rfl)
  have fl53 := hts (.fieldLink RX5 53 "HeldShelvesModel" "blockAct" "[I") (List.mem_of_getElem? (i := 3) rfl)
  have fl56 := hts (.fieldLink RX5 56 "HeldShelvesModel" "blockLevel" "[I") (List.mem_of_getElem? (i := 4) rfl)
  have fl84 := hts (.fieldLink RX5 84 "HeldShelvesModel" "level" "I") (List.mem_of_getElem? (i := 5) rfl)
  have hP : va_P D vwCl [(a 0, .inr (5, [.int t, .ref (a 1), .ref (a 2), .ref (a 3), .ref (a 4), .ref (a 5), .ref (a 6), .ref (a 7), .ref (a 8), .ref (a 9), .int r, .ref (a 11), .ref (a 12), .ref (a 13), .ref (a 14), .int lv, .ref (a 16), .ref (a 17), .ref (a 18), .int (nI b0), .int o])), (a 1, .inl (cI, 6, .inl (v 1))), (a 2, .inl (cI, 240, .inl (v 2))), (a 3, .inl (cI, 240, .inl (v 3))), (a 4, .inl (cI, 240, .inl (v 4))), (a 5, .inl (cI, 240, .inl (v 5))), (a 6, .inl (cZ, 8, .inl (v 6))), (a 7, .inl (cI, 8, .inl (v 7))), (a 8, .inl (cI, 8, .inl (v 8))), (a 9, .inl (cI, 8, .inl (v 9))), (a 11, .inl (cI, 8, .inl (v 11))), (a 12, .inl (cI, 10, .inl (v 12))), (a 13, .inl (cI, 5, .inl (v 13))), (a 14, .inl (cI, 5, .inl (v 14))), (a 16, .inl (cI, 128, .inl (v 16))), (a 17, .inl (cI, 128, .inl (v 17))), (a 18, .inl (cI, 128, .inl (v 18)))] s.heap := hP
  have hD : va_D A [(a 0, .inr (5, [.int t, .ref (a 1), .ref (a 2), .ref (a 3), .ref (a 4), .ref (a 5), .ref (a 6), .ref (a 7), .ref (a 8), .ref (a 9), .int r, .ref (a 11), .ref (a 12), .ref (a 13), .ref (a 14), .int lv, .ref (a 16), .ref (a 17), .ref (a 18), .int (nI b0), .int o])), (a 1, .inl (cI, 6, .inl (v 1))), (a 2, .inl (cI, 240, .inl (v 2))), (a 3, .inl (cI, 240, .inl (v 3))), (a 4, .inl (cI, 240, .inl (v 4))), (a 5, .inl (cI, 240, .inl (v 5))), (a 6, .inl (cZ, 8, .inl (v 6))), (a 7, .inl (cI, 8, .inl (v 7))), (a 8, .inl (cI, 8, .inl (v 8))), (a 9, .inl (cI, 8, .inl (v 9))), (a 11, .inl (cI, 8, .inl (v 11))), (a 12, .inl (cI, 10, .inl (v 12))), (a 13, .inl (cI, 5, .inl (v 13))), (a 14, .inl (cI, 5, .inl (v 14))), (a 16, .inl (cI, 128, .inl (v 16))), (a 17, .inl (cI, 128, .inl (v 17))), (a 18, .inl (cI, 128, .inl (v 18)))] := hD
  refine lv_aload_n hx hb dX5_begins_0 rfl (lv_at hl 0 rfl) ?_
  refine va_get (D := D) (ci := 5) (v := .ref (a 16)) (C := RX5) (T := TX5) (N := 21) hx hb hts inX5 hown hK hP 0 rfl rfl 16 (by decide) fl50 (fun _ h9 => h9) rfl dX5_begins_1 ?_
  refine lv_aload_n hx hb dX5_begins_4 rfl (lv_at hl 0 rfl) ?_
  refine va_get (D := D) (ci := 5) (v := .int (nI b0)) (C := RX5) (T := TX5) (N := 21) hx hb hts inX5 hown hK hP 0 rfl rfl 19 (by decide) fl81 (fun _ h9 => h9) rfl dX5_begins_5 ?_
  refine lv_iload_n hx hb dX5_begins_8 rfl (lv_at hl 1 rfl) ?_
  refine xi_ast hx hb hK hP hD hS 14 0 rfl rfl (k := b0) (x := x) (by omega) (by decide) dX5_begins_9 (fun H locs hP hD hS => ?_)
  have hP : va_P D vwCl [(a 0, .inr (5, [.int t, .ref (a 1), .ref (a 2), .ref (a 3), .ref (a 4), .ref (a 5), .ref (a 6), .ref (a 7), .ref (a 8), .ref (a 9), .int r, .ref (a 11), .ref (a 12), .ref (a 13), .ref (a 14), .int lv, .ref (a 16), .ref (a 17), .ref (a 18), .int (nI b0), .int o])), (a 1, .inl (cI, 6, .inl (v 1))), (a 2, .inl (cI, 240, .inl (v 2))), (a 3, .inl (cI, 240, .inl (v 3))), (a 4, .inl (cI, 240, .inl (v 4))), (a 5, .inl (cI, 240, .inl (v 5))), (a 6, .inl (cZ, 8, .inl (v 6))), (a 7, .inl (cI, 8, .inl (v 7))), (a 8, .inl (cI, 8, .inl (v 8))), (a 9, .inl (cI, 8, .inl (v 9))), (a 11, .inl (cI, 8, .inl (v 11))), (a 12, .inl (cI, 10, .inl (v 12))), (a 13, .inl (cI, 5, .inl (v 13))), (a 14, .inl (cI, 5, .inl (v 14))), (a 16, .inl (cI, 128, .inl (upd (v 16) b0 x))), (a 17, .inl (cI, 128, .inl (v 17))), (a 18, .inl (cI, 128, .inl (v 18)))] H := hP
  have hD : va_D A [(a 0, .inr (5, [.int t, .ref (a 1), .ref (a 2), .ref (a 3), .ref (a 4), .ref (a 5), .ref (a 6), .ref (a 7), .ref (a 8), .ref (a 9), .int r, .ref (a 11), .ref (a 12), .ref (a 13), .ref (a 14), .int lv, .ref (a 16), .ref (a 17), .ref (a 18), .int (nI b0), .int o])), (a 1, .inl (cI, 6, .inl (v 1))), (a 2, .inl (cI, 240, .inl (v 2))), (a 3, .inl (cI, 240, .inl (v 3))), (a 4, .inl (cI, 240, .inl (v 4))), (a 5, .inl (cI, 240, .inl (v 5))), (a 6, .inl (cZ, 8, .inl (v 6))), (a 7, .inl (cI, 8, .inl (v 7))), (a 8, .inl (cI, 8, .inl (v 8))), (a 9, .inl (cI, 8, .inl (v 9))), (a 11, .inl (cI, 8, .inl (v 11))), (a 12, .inl (cI, 10, .inl (v 12))), (a 13, .inl (cI, 5, .inl (v 13))), (a 14, .inl (cI, 5, .inl (v 14))), (a 16, .inl (cI, 128, .inl (upd (v 16) b0 x))), (a 17, .inl (cI, 128, .inl (v 17))), (a 18, .inl (cI, 128, .inl (v 18)))] := hD
  refine lv_aload_n hx hb dX5_begins_10 rfl (lv_at hl 0 rfl) ?_
  refine va_get (D := D) (ci := 5) (v := .ref (a 17)) (C := RX5) (T := TX5) (N := 21) hx hb hts inX5 hown hK hP 0 rfl rfl 17 (by decide) fl53 (fun _ h9 => h9) rfl dX5_begins_11 ?_
  refine lv_aload_n hx hb dX5_begins_14 rfl (lv_at hl 0 rfl) ?_
  refine va_get (D := D) (ci := 5) (v := .int (nI b0)) (C := RX5) (T := TX5) (N := 21) hx hb hts inX5 hown hK hP 0 rfl rfl 19 (by decide) fl81 (fun _ h9 => h9) rfl dX5_begins_15 ?_
  refine lv_iload_n hx hb dX5_begins_18 rfl (lv_at hl 2 rfl) ?_
  refine xi_ast hx hb hK hP hD hS 15 0 rfl rfl (k := b0) (x := y) (by omega) (by decide) dX5_begins_19 (fun H locs hP hD hS => ?_)
  have hP : va_P D vwCl [(a 0, .inr (5, [.int t, .ref (a 1), .ref (a 2), .ref (a 3), .ref (a 4), .ref (a 5), .ref (a 6), .ref (a 7), .ref (a 8), .ref (a 9), .int r, .ref (a 11), .ref (a 12), .ref (a 13), .ref (a 14), .int lv, .ref (a 16), .ref (a 17), .ref (a 18), .int (nI b0), .int o])), (a 1, .inl (cI, 6, .inl (v 1))), (a 2, .inl (cI, 240, .inl (v 2))), (a 3, .inl (cI, 240, .inl (v 3))), (a 4, .inl (cI, 240, .inl (v 4))), (a 5, .inl (cI, 240, .inl (v 5))), (a 6, .inl (cZ, 8, .inl (v 6))), (a 7, .inl (cI, 8, .inl (v 7))), (a 8, .inl (cI, 8, .inl (v 8))), (a 9, .inl (cI, 8, .inl (v 9))), (a 11, .inl (cI, 8, .inl (v 11))), (a 12, .inl (cI, 10, .inl (v 12))), (a 13, .inl (cI, 5, .inl (v 13))), (a 14, .inl (cI, 5, .inl (v 14))), (a 16, .inl (cI, 128, .inl (upd (v 16) b0 x))), (a 17, .inl (cI, 128, .inl (upd (v 17) b0 y))), (a 18, .inl (cI, 128, .inl (v 18)))] H := hP
  have hD : va_D A [(a 0, .inr (5, [.int t, .ref (a 1), .ref (a 2), .ref (a 3), .ref (a 4), .ref (a 5), .ref (a 6), .ref (a 7), .ref (a 8), .ref (a 9), .int r, .ref (a 11), .ref (a 12), .ref (a 13), .ref (a 14), .int lv, .ref (a 16), .ref (a 17), .ref (a 18), .int (nI b0), .int o])), (a 1, .inl (cI, 6, .inl (v 1))), (a 2, .inl (cI, 240, .inl (v 2))), (a 3, .inl (cI, 240, .inl (v 3))), (a 4, .inl (cI, 240, .inl (v 4))), (a 5, .inl (cI, 240, .inl (v 5))), (a 6, .inl (cZ, 8, .inl (v 6))), (a 7, .inl (cI, 8, .inl (v 7))), (a 8, .inl (cI, 8, .inl (v 8))), (a 9, .inl (cI, 8, .inl (v 9))), (a 11, .inl (cI, 8, .inl (v 11))), (a 12, .inl (cI, 10, .inl (v 12))), (a 13, .inl (cI, 5, .inl (v 13))), (a 14, .inl (cI, 5, .inl (v 14))), (a 16, .inl (cI, 128, .inl (upd (v 16) b0 x))), (a 17, .inl (cI, 128, .inl (upd (v 17) b0 y))), (a 18, .inl (cI, 128, .inl (v 18)))] := hD
  refine lv_aload_n hx hb dX5_begins_20 rfl (lv_at hl 0 rfl) ?_
  refine va_get (D := D) (ci := 5) (v := .ref (a 18)) (C := RX5) (T := TX5) (N := 21) hx hb hts inX5 hown hK hP 0 rfl rfl 18 (by decide) fl56 (fun _ h9 => h9) rfl dX5_begins_21 ?_
  refine lv_aload_n hx hb dX5_begins_24 rfl (lv_at hl 0 rfl) ?_
  refine va_get (D := D) (ci := 5) (v := .int (nI b0)) (C := RX5) (T := TX5) (N := 21) hx hb hts inX5 hown hK hP 0 rfl rfl 19 (by decide) fl81 (fun _ h9 => h9) rfl dX5_begins_25 ?_
  refine lv_aload_n hx hb dX5_begins_28 rfl (lv_at hl 0 rfl) ?_
  refine va_get (D := D) (ci := 5) (v := .int lv) (C := RX5) (T := TX5) (N := 21) hx hb hts inX5 hown hK hP 0 rfl rfl 15 (by decide) fl84 (fun _ h9 => h9) rfl dX5_begins_29 ?_
  refine xi_ast hx hb hK hP hD hS 16 0 rfl rfl (k := b0) (x := lv) (by omega) (by decide) dX5_begins_32 (fun H locs hP hD hS => ?_)
  have hP : va_P D vwCl [(a 0, .inr (5, [.int t, .ref (a 1), .ref (a 2), .ref (a 3), .ref (a 4), .ref (a 5), .ref (a 6), .ref (a 7), .ref (a 8), .ref (a 9), .int r, .ref (a 11), .ref (a 12), .ref (a 13), .ref (a 14), .int lv, .ref (a 16), .ref (a 17), .ref (a 18), .int (nI b0), .int o])), (a 1, .inl (cI, 6, .inl (v 1))), (a 2, .inl (cI, 240, .inl (v 2))), (a 3, .inl (cI, 240, .inl (v 3))), (a 4, .inl (cI, 240, .inl (v 4))), (a 5, .inl (cI, 240, .inl (v 5))), (a 6, .inl (cZ, 8, .inl (v 6))), (a 7, .inl (cI, 8, .inl (v 7))), (a 8, .inl (cI, 8, .inl (v 8))), (a 9, .inl (cI, 8, .inl (v 9))), (a 11, .inl (cI, 8, .inl (v 11))), (a 12, .inl (cI, 10, .inl (v 12))), (a 13, .inl (cI, 5, .inl (v 13))), (a 14, .inl (cI, 5, .inl (v 14))), (a 16, .inl (cI, 128, .inl (upd (v 16) b0 x))), (a 17, .inl (cI, 128, .inl (upd (v 17) b0 y))), (a 18, .inl (cI, 128, .inl (upd (v 18) b0 lv)))] H := hP
  have hD : va_D A [(a 0, .inr (5, [.int t, .ref (a 1), .ref (a 2), .ref (a 3), .ref (a 4), .ref (a 5), .ref (a 6), .ref (a 7), .ref (a 8), .ref (a 9), .int r, .ref (a 11), .ref (a 12), .ref (a 13), .ref (a 14), .int lv, .ref (a 16), .ref (a 17), .ref (a 18), .int (nI b0), .int o])), (a 1, .inl (cI, 6, .inl (v 1))), (a 2, .inl (cI, 240, .inl (v 2))), (a 3, .inl (cI, 240, .inl (v 3))), (a 4, .inl (cI, 240, .inl (v 4))), (a 5, .inl (cI, 240, .inl (v 5))), (a 6, .inl (cZ, 8, .inl (v 6))), (a 7, .inl (cI, 8, .inl (v 7))), (a 8, .inl (cI, 8, .inl (v 8))), (a 9, .inl (cI, 8, .inl (v 9))), (a 11, .inl (cI, 8, .inl (v 11))), (a 12, .inl (cI, 10, .inl (v 12))), (a 13, .inl (cI, 5, .inl (v 13))), (a 14, .inl (cI, 5, .inl (v 14))), (a 16, .inl (cI, 128, .inl (upd (v 16) b0 x))), (a 17, .inl (cI, 128, .inl (upd (v 17) b0 y))), (a 18, .inl (cI, 128, .inl (upd (v 18) b0 lv)))] := hD
  refine lv_aload_n hx hb dX5_begins_33 rfl (lv_at hl 0 rfl) ?_
  refine lv_dup hx hb dX5_begins_34 rfl ?_
  refine va_get (D := D) (ci := 5) (v := .int (nI b0)) (C := RX5) (T := TX5) (N := 21) hx hb hts inX5 hown hK hP 0 rfl rfl 19 (by decide) fl81 (fun _ h9 => h9) rfl dX5_begins_35 ?_
  refine lv_iconst (v := 1) hx hb dX5_begins_38 (by decide) ?_
  refine lv_iadd hx hb dX5_begins_39 ?_
  refine tp (y := nI (b0 + 1)) (nI_1 b0) ?_
  refine va_put (D := D) (ci := 5) (v := .int (nI (b0 + 1))) (ty := .int) (C := RX5) (T := TX5) (N := 21) hx hb hts inX5 tyX5 tyX5_ok nmX5 hown hK hP hD hS 0 rfl rfl 19 (by decide) fl81 (fun _ h9 => h9) rfl (by decide +kernel) rfl rfl (Nat.le_of_ble_eq_true rfl) dX5_begins_40 (fun H locs hP hD hS => ?_)
  have hP : va_P D vwCl [(a 0, .inr (5, [.int t, .ref (a 1), .ref (a 2), .ref (a 3), .ref (a 4), .ref (a 5), .ref (a 6), .ref (a 7), .ref (a 8), .ref (a 9), .int r, .ref (a 11), .ref (a 12), .ref (a 13), .ref (a 14), .int lv, .ref (a 16), .ref (a 17), .ref (a 18), .int (nI (b0 + 1)), .int o])), (a 1, .inl (cI, 6, .inl (v 1))), (a 2, .inl (cI, 240, .inl (v 2))), (a 3, .inl (cI, 240, .inl (v 3))), (a 4, .inl (cI, 240, .inl (v 4))), (a 5, .inl (cI, 240, .inl (v 5))), (a 6, .inl (cZ, 8, .inl (v 6))), (a 7, .inl (cI, 8, .inl (v 7))), (a 8, .inl (cI, 8, .inl (v 8))), (a 9, .inl (cI, 8, .inl (v 9))), (a 11, .inl (cI, 8, .inl (v 11))), (a 12, .inl (cI, 10, .inl (v 12))), (a 13, .inl (cI, 5, .inl (v 13))), (a 14, .inl (cI, 5, .inl (v 14))), (a 16, .inl (cI, 128, .inl (upd (v 16) b0 x))), (a 17, .inl (cI, 128, .inl (upd (v 17) b0 y))), (a 18, .inl (cI, 128, .inl (upd (v 18) b0 lv)))] H := hP
  have hD : va_D A [(a 0, .inr (5, [.int t, .ref (a 1), .ref (a 2), .ref (a 3), .ref (a 4), .ref (a 5), .ref (a 6), .ref (a 7), .ref (a 8), .ref (a 9), .int r, .ref (a 11), .ref (a 12), .ref (a 13), .ref (a 14), .int lv, .ref (a 16), .ref (a 17), .ref (a 18), .int (nI (b0 + 1)), .int o])), (a 1, .inl (cI, 6, .inl (v 1))), (a 2, .inl (cI, 240, .inl (v 2))), (a 3, .inl (cI, 240, .inl (v 3))), (a 4, .inl (cI, 240, .inl (v 4))), (a 5, .inl (cI, 240, .inl (v 5))), (a 6, .inl (cZ, 8, .inl (v 6))), (a 7, .inl (cI, 8, .inl (v 7))), (a 8, .inl (cI, 8, .inl (v 8))), (a 9, .inl (cI, 8, .inl (v 9))), (a 11, .inl (cI, 8, .inl (v 11))), (a 12, .inl (cI, 10, .inl (v 12))), (a 13, .inl (cI, 5, .inl (v 13))), (a 14, .inl (cI, 5, .inl (v 14))), (a 16, .inl (cI, 128, .inl (upd (v 16) b0 x))), (a 17, .inl (cI, 128, .inl (upd (v 17) b0 y))), (a 18, .inl (cI, 128, .inl (upd (v 18) b0 lv)))] := hD
  exact Rv (D := D) () hx hb hr hlocks hP hD hS trivial dX5_begins_43

set_option maxHeartbeats 4000000 in
set_option maxRecDepth 100000 in
theorem c_X5_closes0H (l : Launch) (D : va_G) (cI cZ : ClassId) (a : Nat → Nat) (v : Nat → Nat → Int32) (t r lv o : Int32) (b0 : Nat) (hb0 : b0 < 128) (x : Nat) (hx8 : x < 8) (hbx : v 16 b0 = nI x) : Cv l D [(cI, .int), (cZ, .boolean)] yX5_closes wsX5_closes ({ frames := 0, cells := 0, slots := 0, locals := 0 }) [.ref (a 0), .int 0] (wM a cI cZ v t r lv (nI (b0 + 1)) o) (S := Unit) (fun _ => True) (fun _ => wM a cI cZ (va_up (va_up v 9 (upd (v 9) x (v 9 x - 1))) 8 (upd (v 8) x (v 8 x + 0))) t r lv (nI b0) (o - 1)) := by
  refine Cv.mk (cc := cX5_closes) (maxL := 3) (ret := none) (by decide +kernel) rfl (Nat.le_of_ble_eq_true rfl) ?_
  intro pg e s m below meth c A ls hx hb hml hr hown hts hlocks hK hns hA hP hD hS hl
  have hl : lv_has ls 3 [(0, .ref (a 0)), (1, .int 0)] := hl
  have fl81 := hts (.fieldLink RX5 81 "HeldShelvesModel" "blocks" "I") (List.mem_of_getElem? (i := 1) rfl)
  have inX5 : ∀ w ∈ wsX50, w ∈ wsX5_closes := fun _ h => List.mem_cons_of_mem _ (List.mem_append_right _ h)
  have fl50 := hts (.fieldLink RX5 50 "HeldShelvesModel" "block" "[I") (List.mem_of_getElem? (i := 2) rfl)
  have fl35 := hts (.fieldLink RX5 35 "HeldShelvesModel" "held" "[I") (List.mem_of_getElem? (i := 3) rfl)
  have fl87 := hts (.fieldLink RX5 87 "HeldShelvesModel" "open" "I") (List.mem_of_getElem? (i := 4) rfl)
  have fl32 := hts (.fieldLink RX5 32 "HeldShelvesModel" "left" "[I") (List.mem_of_getElem? (i := 5) rfl)
  have hP : va_P D vwCl [(a 0, .inr (5, [.int t, .ref (a 1), .ref (a 2), .ref (a 3), .ref (a 4), .ref (a 5), .ref (a 6), .ref (a 7), .ref (a 8), .ref (a 9), .int r, .ref (a 11), .ref (a 12), .ref (a 13), .ref (a 14), .int lv, .ref (a 16), .ref (a 17), .ref (a 18), .int (nI (b0 + 1)), .int o])), (a 1, .inl (cI, 6, .inl (v 1))), (a 2, .inl (cI, 240, .inl (v 2))), (a 3, .inl (cI, 240, .inl (v 3))), (a 4, .inl (cI, 240, .inl (v 4))), (a 5, .inl (cI, 240, .inl (v 5))), (a 6, .inl (cZ, 8, .inl (v 6))), (a 7, .inl (cI, 8, .inl (v 7))), (a 8, .inl (cI, 8, .inl (v 8))), (a 9, .inl (cI, 8, .inl (v 9))), (a 11, .inl (cI, 8, .inl (v 11))), (a 12, .inl (cI, 10, .inl (v 12))), (a 13, .inl (cI, 5, .inl (v 13))), (a 14, .inl (cI, 5, .inl (v 14))), (a 16, .inl (cI, 128, .inl (v 16))), (a 17, .inl (cI, 128, .inl (v 17))), (a 18, .inl (cI, 128, .inl (v 18)))] s.heap := hP
  have hD : va_D A [(a 0, .inr (5, [.int t, .ref (a 1), .ref (a 2), .ref (a 3), .ref (a 4), .ref (a 5), .ref (a 6), .ref (a 7), .ref (a 8), .ref (a 9), .int r, .ref (a 11), .ref (a 12), .ref (a 13), .ref (a 14), .int lv, .ref (a 16), .ref (a 17), .ref (a 18), .int (nI (b0 + 1)), .int o])), (a 1, .inl (cI, 6, .inl (v 1))), (a 2, .inl (cI, 240, .inl (v 2))), (a 3, .inl (cI, 240, .inl (v 3))), (a 4, .inl (cI, 240, .inl (v 4))), (a 5, .inl (cI, 240, .inl (v 5))), (a 6, .inl (cZ, 8, .inl (v 6))), (a 7, .inl (cI, 8, .inl (v 7))), (a 8, .inl (cI, 8, .inl (v 8))), (a 9, .inl (cI, 8, .inl (v 9))), (a 11, .inl (cI, 8, .inl (v 11))), (a 12, .inl (cI, 10, .inl (v 12))), (a 13, .inl (cI, 5, .inl (v 13))), (a 14, .inl (cI, 5, .inl (v 14))), (a 16, .inl (cI, 128, .inl (v 16))), (a 17, .inl (cI, 128, .inl (v 17))), (a 18, .inl (cI, 128, .inl (v 18)))] := hD
  refine lv_aload_n hx hb dX5_closes_0 rfl (lv_at hl 0 rfl) ?_
  refine lv_dup hx hb dX5_closes_1 rfl ?_
  refine va_get (D := D) (ci := 5) (v := .int (nI (b0 + 1))) (C := RX5) (T := TX5) (N := 21) hx hb hts inX5 hown hK hP 0 rfl rfl 19 (by decide) fl81 (fun _ h9 => h9) rfl dX5_closes_2 ?_
  refine lv_iconst (v := 1) hx hb dX5_closes_5 (by decide) ?_
  refine lv_isub hx hb dX5_closes_6 ?_
  refine tp (y := nI b0) (nI_pred b0) ?_
  refine va_put (D := D) (ci := 5) (v := .int (nI b0)) (ty := .int) (C := RX5) (T := TX5) (N := 21) hx hb hts inX5 tyX5 tyX5_ok nmX5 hown hK hP hD hS 0 rfl rfl 19 (by decide) fl81 (fun _ h9 => h9) rfl (by decide +kernel) rfl rfl (Nat.le_of_ble_eq_true rfl) dX5_closes_7 (fun H locs hP hD hS => ?_)
  have hP : va_P D vwCl [(a 0, .inr (5, [.int t, .ref (a 1), .ref (a 2), .ref (a 3), .ref (a 4), .ref (a 5), .ref (a 6), .ref (a 7), .ref (a 8), .ref (a 9), .int r, .ref (a 11), .ref (a 12), .ref (a 13), .ref (a 14), .int lv, .ref (a 16), .ref (a 17), .ref (a 18), .int (nI b0), .int o])), (a 1, .inl (cI, 6, .inl (v 1))), (a 2, .inl (cI, 240, .inl (v 2))), (a 3, .inl (cI, 240, .inl (v 3))), (a 4, .inl (cI, 240, .inl (v 4))), (a 5, .inl (cI, 240, .inl (v 5))), (a 6, .inl (cZ, 8, .inl (v 6))), (a 7, .inl (cI, 8, .inl (v 7))), (a 8, .inl (cI, 8, .inl (v 8))), (a 9, .inl (cI, 8, .inl (v 9))), (a 11, .inl (cI, 8, .inl (v 11))), (a 12, .inl (cI, 10, .inl (v 12))), (a 13, .inl (cI, 5, .inl (v 13))), (a 14, .inl (cI, 5, .inl (v 14))), (a 16, .inl (cI, 128, .inl (v 16))), (a 17, .inl (cI, 128, .inl (v 17))), (a 18, .inl (cI, 128, .inl (v 18)))] H := hP
  have hD : va_D A [(a 0, .inr (5, [.int t, .ref (a 1), .ref (a 2), .ref (a 3), .ref (a 4), .ref (a 5), .ref (a 6), .ref (a 7), .ref (a 8), .ref (a 9), .int r, .ref (a 11), .ref (a 12), .ref (a 13), .ref (a 14), .int lv, .ref (a 16), .ref (a 17), .ref (a 18), .int (nI b0), .int o])), (a 1, .inl (cI, 6, .inl (v 1))), (a 2, .inl (cI, 240, .inl (v 2))), (a 3, .inl (cI, 240, .inl (v 3))), (a 4, .inl (cI, 240, .inl (v 4))), (a 5, .inl (cI, 240, .inl (v 5))), (a 6, .inl (cZ, 8, .inl (v 6))), (a 7, .inl (cI, 8, .inl (v 7))), (a 8, .inl (cI, 8, .inl (v 8))), (a 9, .inl (cI, 8, .inl (v 9))), (a 11, .inl (cI, 8, .inl (v 11))), (a 12, .inl (cI, 10, .inl (v 12))), (a 13, .inl (cI, 5, .inl (v 13))), (a 14, .inl (cI, 5, .inl (v 14))), (a 16, .inl (cI, 128, .inl (v 16))), (a 17, .inl (cI, 128, .inl (v 17))), (a 18, .inl (cI, 128, .inl (v 18)))] := hD
  refine lv_aload_n hx hb dX5_closes_10 rfl (lv_at hl 0 rfl) ?_
  refine va_get (D := D) (ci := 5) (v := .ref (a 16)) (C := RX5) (T := TX5) (N := 21) hx hb hts inX5 hown hK hP 0 rfl rfl 16 (by decide) fl50 (fun _ h9 => h9) rfl dX5_closes_11 ?_
  refine lv_aload_n hx hb dX5_closes_14 rfl (lv_at hl 0 rfl) ?_
  refine va_get (D := D) (ci := 5) (v := .int (nI b0)) (C := RX5) (T := TX5) (N := 21) hx hb hts inX5 hown hK hP 0 rfl rfl 19 (by decide) fl81 (fun _ h9 => h9) rfl dX5_closes_15 ?_
  refine xi_ald hx hb hK hP 14 0 rfl rfl (k := b0) (by omega) (by decide) dX5_closes_18 ?_
  refine tp (y := nI x) (hbx) ?_
  refine lv_istore_n (lv' := [(2, .int (nI x)), (0, .ref (a 0)), (1, .int 0)]) hx hb dX5_closes_19 rfl hl (by decide) rfl (fun ls hl => ?_)
  refine lv_iload_n hx hb dX5_closes_20 rfl (lv_at hl 0 rfl) ?_
  refine lv_bipush (v := 10) hx hb dX5_closes_21 (by decide) ?_
  refine lv_icmp_ge (tgt := 64) hx hb dX5_closes_23 (by decide) (fun c_23 => ?_) (fun c_23 => ?_)
  · have c_23 : 10 ≤ x := (nI_leI (a := 10) (b := x) (by omega) (by omega)).mp c_23
    exact absurd c_23 (by omega)
  · have c_23 : ¬ (10 ≤ x) := fun h => c_23 ((nI_leI (a := 10) (b := x) (by omega) (by omega)).mpr h)
    refine lv_aload_n hx hb dX5_closes_26 rfl (lv_at hl 1 rfl) ?_
    refine va_get (D := D) (ci := 5) (v := .ref (a 9)) (C := RX5) (T := TX5) (N := 21) hx hb hts inX5 hown hK hP 0 rfl rfl 9 (by decide) fl35 (fun _ h9 => h9) rfl dX5_closes_27 ?_
    refine lv_iload_n hx hb dX5_closes_30 rfl (lv_at hl 0 rfl) ?_
    refine lv_dup2_11 hx hb dX5_closes_31 rfl rfl ?_
    refine xi_ald hx hb hK hP 9 0 rfl rfl (k := x) (by omega) (by decide) dX5_closes_32 ?_
    refine lv_iconst (v := 1) hx hb dX5_closes_33 (by decide) ?_
    refine lv_isub hx hb dX5_closes_34 ?_
    refine xi_ast hx hb hK hP hD hS 9 0 rfl rfl (k := x) (x := (((v 9) x) - 1)) (by omega) (by decide) dX5_closes_35 (fun H locs hP hD hS => ?_)
    have hP : va_P D vwCl [(a 0, .inr (5, [.int t, .ref (a 1), .ref (a 2), .ref (a 3), .ref (a 4), .ref (a 5), .ref (a 6), .ref (a 7), .ref (a 8), .ref (a 9), .int r, .ref (a 11), .ref (a 12), .ref (a 13), .ref (a 14), .int lv, .ref (a 16), .ref (a 17), .ref (a 18), .int (nI b0), .int o])), (a 1, .inl (cI, 6, .inl (v 1))), (a 2, .inl (cI, 240, .inl (v 2))), (a 3, .inl (cI, 240, .inl (v 3))), (a 4, .inl (cI, 240, .inl (v 4))), (a 5, .inl (cI, 240, .inl (v 5))), (a 6, .inl (cZ, 8, .inl (v 6))), (a 7, .inl (cI, 8, .inl (v 7))), (a 8, .inl (cI, 8, .inl (v 8))), (a 9, .inl (cI, 8, .inl (upd (v 9) x (((v 9) x) - 1)))), (a 11, .inl (cI, 8, .inl (v 11))), (a 12, .inl (cI, 10, .inl (v 12))), (a 13, .inl (cI, 5, .inl (v 13))), (a 14, .inl (cI, 5, .inl (v 14))), (a 16, .inl (cI, 128, .inl (v 16))), (a 17, .inl (cI, 128, .inl (v 17))), (a 18, .inl (cI, 128, .inl (v 18)))] H := hP
    have hD : va_D A [(a 0, .inr (5, [.int t, .ref (a 1), .ref (a 2), .ref (a 3), .ref (a 4), .ref (a 5), .ref (a 6), .ref (a 7), .ref (a 8), .ref (a 9), .int r, .ref (a 11), .ref (a 12), .ref (a 13), .ref (a 14), .int lv, .ref (a 16), .ref (a 17), .ref (a 18), .int (nI b0), .int o])), (a 1, .inl (cI, 6, .inl (v 1))), (a 2, .inl (cI, 240, .inl (v 2))), (a 3, .inl (cI, 240, .inl (v 3))), (a 4, .inl (cI, 240, .inl (v 4))), (a 5, .inl (cI, 240, .inl (v 5))), (a 6, .inl (cZ, 8, .inl (v 6))), (a 7, .inl (cI, 8, .inl (v 7))), (a 8, .inl (cI, 8, .inl (v 8))), (a 9, .inl (cI, 8, .inl (upd (v 9) x (((v 9) x) - 1)))), (a 11, .inl (cI, 8, .inl (v 11))), (a 12, .inl (cI, 10, .inl (v 12))), (a 13, .inl (cI, 5, .inl (v 13))), (a 14, .inl (cI, 5, .inl (v 14))), (a 16, .inl (cI, 128, .inl (v 16))), (a 17, .inl (cI, 128, .inl (v 17))), (a 18, .inl (cI, 128, .inl (v 18)))] := hD
    refine lv_aload_n hx hb dX5_closes_36 rfl (lv_at hl 1 rfl) ?_
    refine lv_dup hx hb dX5_closes_37 rfl ?_
    refine va_get (D := D) (ci := 5) (v := .int o) (C := RX5) (T := TX5) (N := 21) hx hb hts inX5 hown hK hP 0 rfl rfl 20 (by decide) fl87 (fun _ h9 => h9) rfl dX5_closes_38 ?_
    refine lv_iconst (v := 1) hx hb dX5_closes_41 (by decide) ?_
    refine lv_isub hx hb dX5_closes_42 ?_
    refine va_put (D := D) (ci := 5) (v := .int (o - 1)) (ty := .int) (C := RX5) (T := TX5) (N := 21) hx hb hts inX5 tyX5 tyX5_ok nmX5 hown hK hP hD hS 0 rfl rfl 20 (by decide) fl87 (fun _ h9 => h9) rfl (by decide +kernel) rfl rfl (Nat.le_of_ble_eq_true rfl) dX5_closes_43 (fun H locs hP hD hS => ?_)
    have hP : va_P D vwCl [(a 0, .inr (5, [.int t, .ref (a 1), .ref (a 2), .ref (a 3), .ref (a 4), .ref (a 5), .ref (a 6), .ref (a 7), .ref (a 8), .ref (a 9), .int r, .ref (a 11), .ref (a 12), .ref (a 13), .ref (a 14), .int lv, .ref (a 16), .ref (a 17), .ref (a 18), .int (nI b0), .int (o - 1)])), (a 1, .inl (cI, 6, .inl (v 1))), (a 2, .inl (cI, 240, .inl (v 2))), (a 3, .inl (cI, 240, .inl (v 3))), (a 4, .inl (cI, 240, .inl (v 4))), (a 5, .inl (cI, 240, .inl (v 5))), (a 6, .inl (cZ, 8, .inl (v 6))), (a 7, .inl (cI, 8, .inl (v 7))), (a 8, .inl (cI, 8, .inl (v 8))), (a 9, .inl (cI, 8, .inl (upd (v 9) x (((v 9) x) - 1)))), (a 11, .inl (cI, 8, .inl (v 11))), (a 12, .inl (cI, 10, .inl (v 12))), (a 13, .inl (cI, 5, .inl (v 13))), (a 14, .inl (cI, 5, .inl (v 14))), (a 16, .inl (cI, 128, .inl (v 16))), (a 17, .inl (cI, 128, .inl (v 17))), (a 18, .inl (cI, 128, .inl (v 18)))] H := hP
    have hD : va_D A [(a 0, .inr (5, [.int t, .ref (a 1), .ref (a 2), .ref (a 3), .ref (a 4), .ref (a 5), .ref (a 6), .ref (a 7), .ref (a 8), .ref (a 9), .int r, .ref (a 11), .ref (a 12), .ref (a 13), .ref (a 14), .int lv, .ref (a 16), .ref (a 17), .ref (a 18), .int (nI b0), .int (o - 1)])), (a 1, .inl (cI, 6, .inl (v 1))), (a 2, .inl (cI, 240, .inl (v 2))), (a 3, .inl (cI, 240, .inl (v 3))), (a 4, .inl (cI, 240, .inl (v 4))), (a 5, .inl (cI, 240, .inl (v 5))), (a 6, .inl (cZ, 8, .inl (v 6))), (a 7, .inl (cI, 8, .inl (v 7))), (a 8, .inl (cI, 8, .inl (v 8))), (a 9, .inl (cI, 8, .inl (upd (v 9) x (((v 9) x) - 1)))), (a 11, .inl (cI, 8, .inl (v 11))), (a 12, .inl (cI, 10, .inl (v 12))), (a 13, .inl (cI, 5, .inl (v 13))), (a 14, .inl (cI, 5, .inl (v 14))), (a 16, .inl (cI, 128, .inl (v 16))), (a 17, .inl (cI, 128, .inl (v 17))), (a 18, .inl (cI, 128, .inl (v 18)))] := hD
    refine lv_aload_n hx hb dX5_closes_46 rfl (lv_at hl 1 rfl) ?_
    refine va_get (D := D) (ci := 5) (v := .ref (a 8)) (C := RX5) (T := TX5) (N := 21) hx hb hts inX5 hown hK hP 0 rfl rfl 8 (by decide) fl32 (fun _ h9 => h9) rfl dX5_closes_47 ?_
    refine lv_iload_n hx hb dX5_closes_50 rfl (lv_at hl 0 rfl) ?_
    refine lv_dup2_11 hx hb dX5_closes_51 rfl rfl ?_
    refine xi_ald hx hb hK hP 8 0 rfl rfl (k := x) (by omega) (by decide) dX5_closes_52 ?_
    refine lv_iload_n hx hb dX5_closes_53 rfl (lv_at hl 2 rfl) ?_
    refine lv_if_eq (tgt := 61) hx hb dX5_closes_54 (by decide) (fun _ => ?_) (fun c9 => absurd (by decide) c9)
    refine lv_iconst (v := 0) hx hb dX5_closes_61 (by decide) ?_
    refine lv_iadd hx hb dX5_closes_62 ?_
    refine xi_ast hx hb hK hP hD hS 8 0 rfl rfl (k := x) (x := (((v 8) x) + 0)) (by omega) (by decide) dX5_closes_63 (fun H locs hP hD hS => ?_)
    have hP : va_P D vwCl [(a 0, .inr (5, [.int t, .ref (a 1), .ref (a 2), .ref (a 3), .ref (a 4), .ref (a 5), .ref (a 6), .ref (a 7), .ref (a 8), .ref (a 9), .int r, .ref (a 11), .ref (a 12), .ref (a 13), .ref (a 14), .int lv, .ref (a 16), .ref (a 17), .ref (a 18), .int (nI b0), .int (o - 1)])), (a 1, .inl (cI, 6, .inl (v 1))), (a 2, .inl (cI, 240, .inl (v 2))), (a 3, .inl (cI, 240, .inl (v 3))), (a 4, .inl (cI, 240, .inl (v 4))), (a 5, .inl (cI, 240, .inl (v 5))), (a 6, .inl (cZ, 8, .inl (v 6))), (a 7, .inl (cI, 8, .inl (v 7))), (a 8, .inl (cI, 8, .inl (upd (v 8) x (((v 8) x) + 0)))), (a 9, .inl (cI, 8, .inl (upd (v 9) x (((v 9) x) - 1)))), (a 11, .inl (cI, 8, .inl (v 11))), (a 12, .inl (cI, 10, .inl (v 12))), (a 13, .inl (cI, 5, .inl (v 13))), (a 14, .inl (cI, 5, .inl (v 14))), (a 16, .inl (cI, 128, .inl (v 16))), (a 17, .inl (cI, 128, .inl (v 17))), (a 18, .inl (cI, 128, .inl (v 18)))] H := hP
    have hD : va_D A [(a 0, .inr (5, [.int t, .ref (a 1), .ref (a 2), .ref (a 3), .ref (a 4), .ref (a 5), .ref (a 6), .ref (a 7), .ref (a 8), .ref (a 9), .int r, .ref (a 11), .ref (a 12), .ref (a 13), .ref (a 14), .int lv, .ref (a 16), .ref (a 17), .ref (a 18), .int (nI b0), .int (o - 1)])), (a 1, .inl (cI, 6, .inl (v 1))), (a 2, .inl (cI, 240, .inl (v 2))), (a 3, .inl (cI, 240, .inl (v 3))), (a 4, .inl (cI, 240, .inl (v 4))), (a 5, .inl (cI, 240, .inl (v 5))), (a 6, .inl (cZ, 8, .inl (v 6))), (a 7, .inl (cI, 8, .inl (v 7))), (a 8, .inl (cI, 8, .inl (upd (v 8) x (((v 8) x) + 0)))), (a 9, .inl (cI, 8, .inl (upd (v 9) x (((v 9) x) - 1)))), (a 11, .inl (cI, 8, .inl (v 11))), (a 12, .inl (cI, 10, .inl (v 12))), (a 13, .inl (cI, 5, .inl (v 13))), (a 14, .inl (cI, 5, .inl (v 14))), (a 16, .inl (cI, 128, .inl (v 16))), (a 17, .inl (cI, 128, .inl (v 17))), (a 18, .inl (cI, 128, .inl (v 18)))] := hD
    exact Rv (D := D) () hx hb hr hlocks hP hD hS trivial dX5_closes_64

set_option maxHeartbeats 4000000 in
set_option maxRecDepth 100000 in
theorem c_X5_closes0T (l : Launch) (D : va_G) (cI cZ : ClassId) (a : Nat → Nat) (v : Nat → Nat → Int32) (t r lv o : Int32) (b0 : Nat) (hb0 : b0 < 128) (x : Nat) (hx10 : x < 10) (hbx : v 16 b0 = nI (10 + x)) : Cv l D [(cI, .int), (cZ, .boolean)] yX5_closes wsX5_closes ({ frames := 0, cells := 0, slots := 0, locals := 0 }) [.ref (a 0), .int 0] (wM a cI cZ v t r lv (nI (b0 + 1)) o) (S := Unit) (fun _ => True) (fun _ => wM a cI cZ v t r lv (nI b0) o) := by
  refine Cv.mk (cc := cX5_closes) (maxL := 3) (ret := none) (by decide +kernel) rfl (Nat.le_of_ble_eq_true rfl) ?_
  intro pg e s m below meth c A ls hx hb hml hr hown hts hlocks hK hns hA hP hD hS hl
  have hl : lv_has ls 3 [(0, .ref (a 0)), (1, .int 0)] := hl
  have fl81 := hts (.fieldLink RX5 81 "HeldShelvesModel" "blocks" "I") (List.mem_of_getElem? (i := 1) rfl)
  have inX5 : ∀ w ∈ wsX50, w ∈ wsX5_closes := fun _ h => List.mem_cons_of_mem _ (List.mem_append_right _ h)
  have fl50 := hts (.fieldLink RX5 50 "HeldShelvesModel" "block" "[I") (List.mem_of_getElem? (i := 2) rfl)
  have hP : va_P D vwCl [(a 0, .inr (5, [.int t, .ref (a 1), .ref (a 2), .ref (a 3), .ref (a 4), .ref (a 5), .ref (a 6), .ref (a 7), .ref (a 8), .ref (a 9), .int r, .ref (a 11), .ref (a 12), .ref (a 13), .ref (a 14), .int lv, .ref (a 16), .ref (a 17), .ref (a 18), .int (nI (b0 + 1)), .int o])), (a 1, .inl (cI, 6, .inl (v 1))), (a 2, .inl (cI, 240, .inl (v 2))), (a 3, .inl (cI, 240, .inl (v 3))), (a 4, .inl (cI, 240, .inl (v 4))), (a 5, .inl (cI, 240, .inl (v 5))), (a 6, .inl (cZ, 8, .inl (v 6))), (a 7, .inl (cI, 8, .inl (v 7))), (a 8, .inl (cI, 8, .inl (v 8))), (a 9, .inl (cI, 8, .inl (v 9))), (a 11, .inl (cI, 8, .inl (v 11))), (a 12, .inl (cI, 10, .inl (v 12))), (a 13, .inl (cI, 5, .inl (v 13))), (a 14, .inl (cI, 5, .inl (v 14))), (a 16, .inl (cI, 128, .inl (v 16))), (a 17, .inl (cI, 128, .inl (v 17))), (a 18, .inl (cI, 128, .inl (v 18)))] s.heap := hP
  have hD : va_D A [(a 0, .inr (5, [.int t, .ref (a 1), .ref (a 2), .ref (a 3), .ref (a 4), .ref (a 5), .ref (a 6), .ref (a 7), .ref (a 8), .ref (a 9), .int r, .ref (a 11), .ref (a 12), .ref (a 13), .ref (a 14), .int lv, .ref (a 16), .ref (a 17), .ref (a 18), .int (nI (b0 + 1)), .int o])), (a 1, .inl (cI, 6, .inl (v 1))), (a 2, .inl (cI, 240, .inl (v 2))), (a 3, .inl (cI, 240, .inl (v 3))), (a 4, .inl (cI, 240, .inl (v 4))), (a 5, .inl (cI, 240, .inl (v 5))), (a 6, .inl (cZ, 8, .inl (v 6))), (a 7, .inl (cI, 8, .inl (v 7))), (a 8, .inl (cI, 8, .inl (v 8))), (a 9, .inl (cI, 8, .inl (v 9))), (a 11, .inl (cI, 8, .inl (v 11))), (a 12, .inl (cI, 10, .inl (v 12))), (a 13, .inl (cI, 5, .inl (v 13))), (a 14, .inl (cI, 5, .inl (v 14))), (a 16, .inl (cI, 128, .inl (v 16))), (a 17, .inl (cI, 128, .inl (v 17))), (a 18, .inl (cI, 128, .inl (v 18)))] := hD
  refine lv_aload_n hx hb dX5_closes_0 rfl (lv_at hl 0 rfl) ?_
  refine lv_dup hx hb dX5_closes_1 rfl ?_
  refine va_get (D := D) (ci := 5) (v := .int (nI (b0 + 1))) (C := RX5) (T := TX5) (N := 21) hx hb hts inX5 hown hK hP 0 rfl rfl 19 (by decide) fl81 (fun _ h9 => h9) rfl dX5_closes_2 ?_
  refine lv_iconst (v := 1) hx hb dX5_closes_5 (by decide) ?_
  refine lv_isub hx hb dX5_closes_6 ?_
  refine tp (y := nI b0) (nI_pred b0) ?_
  refine va_put (D := D) (ci := 5) (v := .int (nI b0)) (ty := .int) (C := RX5) (T := TX5) (N := 21) hx hb hts inX5 tyX5 tyX5_ok nmX5 hown hK hP hD hS 0 rfl rfl 19 (by decide) fl81 (fun _ h9 => h9) rfl (by decide +kernel) rfl rfl (Nat.le_of_ble_eq_true rfl) dX5_closes_7 (fun H locs hP hD hS => ?_)
  have hP : va_P D vwCl [(a 0, .inr (5, [.int t, .ref (a 1), .ref (a 2), .ref (a 3), .ref (a 4), .ref (a 5), .ref (a 6), .ref (a 7), .ref (a 8), .ref (a 9), .int r, .ref (a 11), .ref (a 12), .ref (a 13), .ref (a 14), .int lv, .ref (a 16), .ref (a 17), .ref (a 18), .int (nI b0), .int o])), (a 1, .inl (cI, 6, .inl (v 1))), (a 2, .inl (cI, 240, .inl (v 2))), (a 3, .inl (cI, 240, .inl (v 3))), (a 4, .inl (cI, 240, .inl (v 4))), (a 5, .inl (cI, 240, .inl (v 5))), (a 6, .inl (cZ, 8, .inl (v 6))), (a 7, .inl (cI, 8, .inl (v 7))), (a 8, .inl (cI, 8, .inl (v 8))), (a 9, .inl (cI, 8, .inl (v 9))), (a 11, .inl (cI, 8, .inl (v 11))), (a 12, .inl (cI, 10, .inl (v 12))), (a 13, .inl (cI, 5, .inl (v 13))), (a 14, .inl (cI, 5, .inl (v 14))), (a 16, .inl (cI, 128, .inl (v 16))), (a 17, .inl (cI, 128, .inl (v 17))), (a 18, .inl (cI, 128, .inl (v 18)))] H := hP
  have hD : va_D A [(a 0, .inr (5, [.int t, .ref (a 1), .ref (a 2), .ref (a 3), .ref (a 4), .ref (a 5), .ref (a 6), .ref (a 7), .ref (a 8), .ref (a 9), .int r, .ref (a 11), .ref (a 12), .ref (a 13), .ref (a 14), .int lv, .ref (a 16), .ref (a 17), .ref (a 18), .int (nI b0), .int o])), (a 1, .inl (cI, 6, .inl (v 1))), (a 2, .inl (cI, 240, .inl (v 2))), (a 3, .inl (cI, 240, .inl (v 3))), (a 4, .inl (cI, 240, .inl (v 4))), (a 5, .inl (cI, 240, .inl (v 5))), (a 6, .inl (cZ, 8, .inl (v 6))), (a 7, .inl (cI, 8, .inl (v 7))), (a 8, .inl (cI, 8, .inl (v 8))), (a 9, .inl (cI, 8, .inl (v 9))), (a 11, .inl (cI, 8, .inl (v 11))), (a 12, .inl (cI, 10, .inl (v 12))), (a 13, .inl (cI, 5, .inl (v 13))), (a 14, .inl (cI, 5, .inl (v 14))), (a 16, .inl (cI, 128, .inl (v 16))), (a 17, .inl (cI, 128, .inl (v 17))), (a 18, .inl (cI, 128, .inl (v 18)))] := hD
  refine lv_aload_n hx hb dX5_closes_10 rfl (lv_at hl 0 rfl) ?_
  refine va_get (D := D) (ci := 5) (v := .ref (a 16)) (C := RX5) (T := TX5) (N := 21) hx hb hts inX5 hown hK hP 0 rfl rfl 16 (by decide) fl50 (fun _ h9 => h9) rfl dX5_closes_11 ?_
  refine lv_aload_n hx hb dX5_closes_14 rfl (lv_at hl 0 rfl) ?_
  refine va_get (D := D) (ci := 5) (v := .int (nI b0)) (C := RX5) (T := TX5) (N := 21) hx hb hts inX5 hown hK hP 0 rfl rfl 19 (by decide) fl81 (fun _ h9 => h9) rfl dX5_closes_15 ?_
  refine xi_ald hx hb hK hP 14 0 rfl rfl (k := b0) (by omega) (by decide) dX5_closes_18 ?_
  refine tp (y := nI (10 + x)) (hbx) ?_
  refine lv_istore_n (lv' := [(2, .int (nI (10 + x))), (0, .ref (a 0)), (1, .int 0)]) hx hb dX5_closes_19 rfl hl (by decide) rfl (fun ls hl => ?_)
  refine lv_iload_n hx hb dX5_closes_20 rfl (lv_at hl 0 rfl) ?_
  refine lv_bipush (v := 10) hx hb dX5_closes_21 (by decide) ?_
  refine lv_icmp_ge (tgt := 64) hx hb dX5_closes_23 (by decide) (fun c_23 => ?_) (fun c_23 => ?_)
  · have c_23 : 10 ≤ (10 + x) := (nI_leI (a := 10) (b := (10 + x)) (by omega) (by omega)).mp c_23
    exact Rv (D := D) () hx hb hr hlocks hP hD hS trivial dX5_closes_64
  · have c_23 : ¬ (10 ≤ (10 + x)) := fun h => c_23 ((nI_leI (a := 10) (b := (10 + x)) (by omega) (by omega)).mpr h)
    exact absurd c_23 (by omega)

set_option maxHeartbeats 4000000 in
set_option maxRecDepth 100000 in
theorem c_X5_closes1H (l : Launch) (D : va_G) (cI cZ : ClassId) (a : Nat → Nat) (v : Nat → Nat → Int32) (t r lv o : Int32) (b0 : Nat) (hb0 : b0 < 128) (x : Nat) (hx8 : x < 8) (hbx : v 16 b0 = nI x) : Cv l D [(cI, .int), (cZ, .boolean)] yX5_closes wsX5_closes ({ frames := 0, cells := 0, slots := 0, locals := 0 }) [.ref (a 0), .int 1] (wM a cI cZ v t r lv (nI (b0 + 1)) o) (S := Unit) (fun _ => True) (fun _ => wM a cI cZ (va_up (va_up v 9 (upd (v 9) x (v 9 x - 1))) 8 (upd (v 8) x (v 8 x + 1))) t r lv (nI b0) (o - 1)) := by
  refine Cv.mk (cc := cX5_closes) (maxL := 3) (ret := none) (by decide +kernel) rfl (Nat.le_of_ble_eq_true rfl) ?_
  intro pg e s m below meth c A ls hx hb hml hr hown hts hlocks hK hns hA hP hD hS hl
  have hl : lv_has ls 3 [(0, .ref (a 0)), (1, .int 1)] := hl
  have fl81 := hts (.fieldLink RX5 81 "HeldShelvesModel" "blocks" "I") (List.mem_of_getElem? (i := 1) rfl)
  have inX5 : ∀ w ∈ wsX50, w ∈ wsX5_closes := fun _ h => List.mem_cons_of_mem _ (List.mem_append_right _ h)
  have fl50 := hts (.fieldLink RX5 50 "HeldShelvesModel" "block" "[I") (List.mem_of_getElem? (i := 2) rfl)
  have fl35 := hts (.fieldLink RX5 35 "HeldShelvesModel" "held" "[I") (List.mem_of_getElem? (i := 3) rfl)
  have fl87 := hts (.fieldLink RX5 87 "HeldShelvesModel" "open" "I") (List.mem_of_getElem? (i := 4) rfl)
  have fl32 := hts (.fieldLink RX5 32 "HeldShelvesModel" "left" "[I") (List.mem_of_getElem? (i := 5) rfl)
  have hP : va_P D vwCl [(a 0, .inr (5, [.int t, .ref (a 1), .ref (a 2), .ref (a 3), .ref (a 4), .ref (a 5), .ref (a 6), .ref (a 7), .ref (a 8), .ref (a 9), .int r, .ref (a 11), .ref (a 12), .ref (a 13), .ref (a 14), .int lv, .ref (a 16), .ref (a 17), .ref (a 18), .int (nI (b0 + 1)), .int o])), (a 1, .inl (cI, 6, .inl (v 1))), (a 2, .inl (cI, 240, .inl (v 2))), (a 3, .inl (cI, 240, .inl (v 3))), (a 4, .inl (cI, 240, .inl (v 4))), (a 5, .inl (cI, 240, .inl (v 5))), (a 6, .inl (cZ, 8, .inl (v 6))), (a 7, .inl (cI, 8, .inl (v 7))), (a 8, .inl (cI, 8, .inl (v 8))), (a 9, .inl (cI, 8, .inl (v 9))), (a 11, .inl (cI, 8, .inl (v 11))), (a 12, .inl (cI, 10, .inl (v 12))), (a 13, .inl (cI, 5, .inl (v 13))), (a 14, .inl (cI, 5, .inl (v 14))), (a 16, .inl (cI, 128, .inl (v 16))), (a 17, .inl (cI, 128, .inl (v 17))), (a 18, .inl (cI, 128, .inl (v 18)))] s.heap := hP
  have hD : va_D A [(a 0, .inr (5, [.int t, .ref (a 1), .ref (a 2), .ref (a 3), .ref (a 4), .ref (a 5), .ref (a 6), .ref (a 7), .ref (a 8), .ref (a 9), .int r, .ref (a 11), .ref (a 12), .ref (a 13), .ref (a 14), .int lv, .ref (a 16), .ref (a 17), .ref (a 18), .int (nI (b0 + 1)), .int o])), (a 1, .inl (cI, 6, .inl (v 1))), (a 2, .inl (cI, 240, .inl (v 2))), (a 3, .inl (cI, 240, .inl (v 3))), (a 4, .inl (cI, 240, .inl (v 4))), (a 5, .inl (cI, 240, .inl (v 5))), (a 6, .inl (cZ, 8, .inl (v 6))), (a 7, .inl (cI, 8, .inl (v 7))), (a 8, .inl (cI, 8, .inl (v 8))), (a 9, .inl (cI, 8, .inl (v 9))), (a 11, .inl (cI, 8, .inl (v 11))), (a 12, .inl (cI, 10, .inl (v 12))), (a 13, .inl (cI, 5, .inl (v 13))), (a 14, .inl (cI, 5, .inl (v 14))), (a 16, .inl (cI, 128, .inl (v 16))), (a 17, .inl (cI, 128, .inl (v 17))), (a 18, .inl (cI, 128, .inl (v 18)))] := hD
  refine lv_aload_n hx hb dX5_closes_0 rfl (lv_at hl 0 rfl) ?_
  refine lv_dup hx hb dX5_closes_1 rfl ?_
  refine va_get (D := D) (ci := 5) (v := .int (nI (b0 + 1))) (C := RX5) (T := TX5) (N := 21) hx hb hts inX5 hown hK hP 0 rfl rfl 19 (by decide) fl81 (fun _ h9 => h9) rfl dX5_closes_2 ?_
  refine lv_iconst (v := 1) hx hb dX5_closes_5 (by decide) ?_
  refine lv_isub hx hb dX5_closes_6 ?_
  refine tp (y := nI b0) (nI_pred b0) ?_
  refine va_put (D := D) (ci := 5) (v := .int (nI b0)) (ty := .int) (C := RX5) (T := TX5) (N := 21) hx hb hts inX5 tyX5 tyX5_ok nmX5 hown hK hP hD hS 0 rfl rfl 19 (by decide) fl81 (fun _ h9 => h9) rfl (by decide +kernel) rfl rfl (Nat.le_of_ble_eq_true rfl) dX5_closes_7 (fun H locs hP hD hS => ?_)
  have hP : va_P D vwCl [(a 0, .inr (5, [.int t, .ref (a 1), .ref (a 2), .ref (a 3), .ref (a 4), .ref (a 5), .ref (a 6), .ref (a 7), .ref (a 8), .ref (a 9), .int r, .ref (a 11), .ref (a 12), .ref (a 13), .ref (a 14), .int lv, .ref (a 16), .ref (a 17), .ref (a 18), .int (nI b0), .int o])), (a 1, .inl (cI, 6, .inl (v 1))), (a 2, .inl (cI, 240, .inl (v 2))), (a 3, .inl (cI, 240, .inl (v 3))), (a 4, .inl (cI, 240, .inl (v 4))), (a 5, .inl (cI, 240, .inl (v 5))), (a 6, .inl (cZ, 8, .inl (v 6))), (a 7, .inl (cI, 8, .inl (v 7))), (a 8, .inl (cI, 8, .inl (v 8))), (a 9, .inl (cI, 8, .inl (v 9))), (a 11, .inl (cI, 8, .inl (v 11))), (a 12, .inl (cI, 10, .inl (v 12))), (a 13, .inl (cI, 5, .inl (v 13))), (a 14, .inl (cI, 5, .inl (v 14))), (a 16, .inl (cI, 128, .inl (v 16))), (a 17, .inl (cI, 128, .inl (v 17))), (a 18, .inl (cI, 128, .inl (v 18)))] H := hP
  have hD : va_D A [(a 0, .inr (5, [.int t, .ref (a 1), .ref (a 2), .ref (a 3), .ref (a 4), .ref (a 5), .ref (a 6), .ref (a 7), .ref (a 8), .ref (a 9), .int r, .ref (a 11), .ref (a 12), .ref (a 13), .ref (a 14), .int lv, .ref (a 16), .ref (a 17), .ref (a 18), .int (nI b0), .int o])), (a 1, .inl (cI, 6, .inl (v 1))), (a 2, .inl (cI, 240, .inl (v 2))), (a 3, .inl (cI, 240, .inl (v 3))), (a 4, .inl (cI, 240, .inl (v 4))), (a 5, .inl (cI, 240, .inl (v 5))), (a 6, .inl (cZ, 8, .inl (v 6))), (a 7, .inl (cI, 8, .inl (v 7))), (a 8, .inl (cI, 8, .inl (v 8))), (a 9, .inl (cI, 8, .inl (v 9))), (a 11, .inl (cI, 8, .inl (v 11))), (a 12, .inl (cI, 10, .inl (v 12))), (a 13, .inl (cI, 5, .inl (v 13))), (a 14, .inl (cI, 5, .inl (v 14))), (a 16, .inl (cI, 128, .inl (v 16))), (a 17, .inl (cI, 128, .inl (v 17))), (a 18, .inl (cI, 128, .inl (v 18)))] := hD
  refine lv_aload_n hx hb dX5_closes_10 rfl (lv_at hl 0 rfl) ?_
  refine va_get (D := D) (ci := 5) (v := .ref (a 16)) (C := RX5) (T := TX5) (N := 21) hx hb hts inX5 hown hK hP 0 rfl rfl 16 (by decide) fl50 (fun _ h9 => h9) rfl dX5_closes_11 ?_
  refine lv_aload_n hx hb dX5_closes_14 rfl (lv_at hl 0 rfl) ?_
  refine va_get (D := D) (ci := 5) (v := .int (nI b0)) (C := RX5) (T := TX5) (N := 21) hx hb hts inX5 hown hK hP 0 rfl rfl 19 (by decide) fl81 (fun _ h9 => h9) rfl dX5_closes_15 ?_
  refine xi_ald hx hb hK hP 14 0 rfl rfl (k := b0) (by omega) (by decide) dX5_closes_18 ?_
  refine tp (y := nI x) (hbx) ?_
  refine lv_istore_n (lv' := [(2, .int (nI x)), (0, .ref (a 0)), (1, .int 1)]) hx hb dX5_closes_19 rfl hl (by decide) rfl (fun ls hl => ?_)
  refine lv_iload_n hx hb dX5_closes_20 rfl (lv_at hl 0 rfl) ?_
  refine lv_bipush (v := 10) hx hb dX5_closes_21 (by decide) ?_
  refine lv_icmp_ge (tgt := 64) hx hb dX5_closes_23 (by decide) (fun c_23 => ?_) (fun c_23 => ?_)
  · have c_23 : 10 ≤ x := (nI_leI (a := 10) (b := x) (by omega) (by omega)).mp c_23
    exact absurd c_23 (by omega)
  · have c_23 : ¬ (10 ≤ x) := fun h => c_23 ((nI_leI (a := 10) (b := x) (by omega) (by omega)).mpr h)
    refine lv_aload_n hx hb dX5_closes_26 rfl (lv_at hl 1 rfl) ?_
    refine va_get (D := D) (ci := 5) (v := .ref (a 9)) (C := RX5) (T := TX5) (N := 21) hx hb hts inX5 hown hK hP 0 rfl rfl 9 (by decide) fl35 (fun _ h9 => h9) rfl dX5_closes_27 ?_
    refine lv_iload_n hx hb dX5_closes_30 rfl (lv_at hl 0 rfl) ?_
    refine lv_dup2_11 hx hb dX5_closes_31 rfl rfl ?_
    refine xi_ald hx hb hK hP 9 0 rfl rfl (k := x) (by omega) (by decide) dX5_closes_32 ?_
    refine lv_iconst (v := 1) hx hb dX5_closes_33 (by decide) ?_
    refine lv_isub hx hb dX5_closes_34 ?_
    refine xi_ast hx hb hK hP hD hS 9 0 rfl rfl (k := x) (x := (((v 9) x) - 1)) (by omega) (by decide) dX5_closes_35 (fun H locs hP hD hS => ?_)
    have hP : va_P D vwCl [(a 0, .inr (5, [.int t, .ref (a 1), .ref (a 2), .ref (a 3), .ref (a 4), .ref (a 5), .ref (a 6), .ref (a 7), .ref (a 8), .ref (a 9), .int r, .ref (a 11), .ref (a 12), .ref (a 13), .ref (a 14), .int lv, .ref (a 16), .ref (a 17), .ref (a 18), .int (nI b0), .int o])), (a 1, .inl (cI, 6, .inl (v 1))), (a 2, .inl (cI, 240, .inl (v 2))), (a 3, .inl (cI, 240, .inl (v 3))), (a 4, .inl (cI, 240, .inl (v 4))), (a 5, .inl (cI, 240, .inl (v 5))), (a 6, .inl (cZ, 8, .inl (v 6))), (a 7, .inl (cI, 8, .inl (v 7))), (a 8, .inl (cI, 8, .inl (v 8))), (a 9, .inl (cI, 8, .inl (upd (v 9) x (((v 9) x) - 1)))), (a 11, .inl (cI, 8, .inl (v 11))), (a 12, .inl (cI, 10, .inl (v 12))), (a 13, .inl (cI, 5, .inl (v 13))), (a 14, .inl (cI, 5, .inl (v 14))), (a 16, .inl (cI, 128, .inl (v 16))), (a 17, .inl (cI, 128, .inl (v 17))), (a 18, .inl (cI, 128, .inl (v 18)))] H := hP
    have hD : va_D A [(a 0, .inr (5, [.int t, .ref (a 1), .ref (a 2), .ref (a 3), .ref (a 4), .ref (a 5), .ref (a 6), .ref (a 7), .ref (a 8), .ref (a 9), .int r, .ref (a 11), .ref (a 12), .ref (a 13), .ref (a 14), .int lv, .ref (a 16), .ref (a 17), .ref (a 18), .int (nI b0), .int o])), (a 1, .inl (cI, 6, .inl (v 1))), (a 2, .inl (cI, 240, .inl (v 2))), (a 3, .inl (cI, 240, .inl (v 3))), (a 4, .inl (cI, 240, .inl (v 4))), (a 5, .inl (cI, 240, .inl (v 5))), (a 6, .inl (cZ, 8, .inl (v 6))), (a 7, .inl (cI, 8, .inl (v 7))), (a 8, .inl (cI, 8, .inl (v 8))), (a 9, .inl (cI, 8, .inl (upd (v 9) x (((v 9) x) - 1)))), (a 11, .inl (cI, 8, .inl (v 11))), (a 12, .inl (cI, 10, .inl (v 12))), (a 13, .inl (cI, 5, .inl (v 13))), (a 14, .inl (cI, 5, .inl (v 14))), (a 16, .inl (cI, 128, .inl (v 16))), (a 17, .inl (cI, 128, .inl (v 17))), (a 18, .inl (cI, 128, .inl (v 18)))] := hD
    refine lv_aload_n hx hb dX5_closes_36 rfl (lv_at hl 1 rfl) ?_
    refine lv_dup hx hb dX5_closes_37 rfl ?_
    refine va_get (D := D) (ci := 5) (v := .int o) (C := RX5) (T := TX5) (N := 21) hx hb hts inX5 hown hK hP 0 rfl rfl 20 (by decide) fl87 (fun _ h9 => h9) rfl dX5_closes_38 ?_
    refine lv_iconst (v := 1) hx hb dX5_closes_41 (by decide) ?_
    refine lv_isub hx hb dX5_closes_42 ?_
    refine va_put (D := D) (ci := 5) (v := .int (o - 1)) (ty := .int) (C := RX5) (T := TX5) (N := 21) hx hb hts inX5 tyX5 tyX5_ok nmX5 hown hK hP hD hS 0 rfl rfl 20 (by decide) fl87 (fun _ h9 => h9) rfl (by decide +kernel) rfl rfl (Nat.le_of_ble_eq_true rfl) dX5_closes_43 (fun H locs hP hD hS => ?_)
    have hP : va_P D vwCl [(a 0, .inr (5, [.int t, .ref (a 1), .ref (a 2), .ref (a 3), .ref (a 4), .ref (a 5), .ref (a 6), .ref (a 7), .ref (a 8), .ref (a 9), .int r, .ref (a 11), .ref (a 12), .ref (a 13), .ref (a 14), .int lv, .ref (a 16), .ref (a 17), .ref (a 18), .int (nI b0), .int (o - 1)])), (a 1, .inl (cI, 6, .inl (v 1))), (a 2, .inl (cI, 240, .inl (v 2))), (a 3, .inl (cI, 240, .inl (v 3))), (a 4, .inl (cI, 240, .inl (v 4))), (a 5, .inl (cI, 240, .inl (v 5))), (a 6, .inl (cZ, 8, .inl (v 6))), (a 7, .inl (cI, 8, .inl (v 7))), (a 8, .inl (cI, 8, .inl (v 8))), (a 9, .inl (cI, 8, .inl (upd (v 9) x (((v 9) x) - 1)))), (a 11, .inl (cI, 8, .inl (v 11))), (a 12, .inl (cI, 10, .inl (v 12))), (a 13, .inl (cI, 5, .inl (v 13))), (a 14, .inl (cI, 5, .inl (v 14))), (a 16, .inl (cI, 128, .inl (v 16))), (a 17, .inl (cI, 128, .inl (v 17))), (a 18, .inl (cI, 128, .inl (v 18)))] H := hP
    have hD : va_D A [(a 0, .inr (5, [.int t, .ref (a 1), .ref (a 2), .ref (a 3), .ref (a 4), .ref (a 5), .ref (a 6), .ref (a 7), .ref (a 8), .ref (a 9), .int r, .ref (a 11), .ref (a 12), .ref (a 13), .ref (a 14), .int lv, .ref (a 16), .ref (a 17), .ref (a 18), .int (nI b0), .int (o - 1)])), (a 1, .inl (cI, 6, .inl (v 1))), (a 2, .inl (cI, 240, .inl (v 2))), (a 3, .inl (cI, 240, .inl (v 3))), (a 4, .inl (cI, 240, .inl (v 4))), (a 5, .inl (cI, 240, .inl (v 5))), (a 6, .inl (cZ, 8, .inl (v 6))), (a 7, .inl (cI, 8, .inl (v 7))), (a 8, .inl (cI, 8, .inl (v 8))), (a 9, .inl (cI, 8, .inl (upd (v 9) x (((v 9) x) - 1)))), (a 11, .inl (cI, 8, .inl (v 11))), (a 12, .inl (cI, 10, .inl (v 12))), (a 13, .inl (cI, 5, .inl (v 13))), (a 14, .inl (cI, 5, .inl (v 14))), (a 16, .inl (cI, 128, .inl (v 16))), (a 17, .inl (cI, 128, .inl (v 17))), (a 18, .inl (cI, 128, .inl (v 18)))] := hD
    refine lv_aload_n hx hb dX5_closes_46 rfl (lv_at hl 1 rfl) ?_
    refine va_get (D := D) (ci := 5) (v := .ref (a 8)) (C := RX5) (T := TX5) (N := 21) hx hb hts inX5 hown hK hP 0 rfl rfl 8 (by decide) fl32 (fun _ h9 => h9) rfl dX5_closes_47 ?_
    refine lv_iload_n hx hb dX5_closes_50 rfl (lv_at hl 0 rfl) ?_
    refine lv_dup2_11 hx hb dX5_closes_51 rfl rfl ?_
    refine xi_ald hx hb hK hP 8 0 rfl rfl (k := x) (by omega) (by decide) dX5_closes_52 ?_
    refine lv_iload_n hx hb dX5_closes_53 rfl (lv_at hl 2 rfl) ?_
    refine lv_if_eq (tgt := 61) hx hb dX5_closes_54 (by decide) (fun c9 => absurd c9 (by decide)) (fun _ => ?_)
    refine lv_iconst (v := 1) hx hb dX5_closes_57 (by decide) ?_
    refine lv_goto (tgt := 62) hx hb dX5_closes_58 (by decide) ?_
    refine lv_iadd hx hb dX5_closes_62 ?_
    refine xi_ast hx hb hK hP hD hS 8 0 rfl rfl (k := x) (x := (((v 8) x) + 1)) (by omega) (by decide) dX5_closes_63 (fun H locs hP hD hS => ?_)
    have hP : va_P D vwCl [(a 0, .inr (5, [.int t, .ref (a 1), .ref (a 2), .ref (a 3), .ref (a 4), .ref (a 5), .ref (a 6), .ref (a 7), .ref (a 8), .ref (a 9), .int r, .ref (a 11), .ref (a 12), .ref (a 13), .ref (a 14), .int lv, .ref (a 16), .ref (a 17), .ref (a 18), .int (nI b0), .int (o - 1)])), (a 1, .inl (cI, 6, .inl (v 1))), (a 2, .inl (cI, 240, .inl (v 2))), (a 3, .inl (cI, 240, .inl (v 3))), (a 4, .inl (cI, 240, .inl (v 4))), (a 5, .inl (cI, 240, .inl (v 5))), (a 6, .inl (cZ, 8, .inl (v 6))), (a 7, .inl (cI, 8, .inl (v 7))), (a 8, .inl (cI, 8, .inl (upd (v 8) x (((v 8) x) + 1)))), (a 9, .inl (cI, 8, .inl (upd (v 9) x (((v 9) x) - 1)))), (a 11, .inl (cI, 8, .inl (v 11))), (a 12, .inl (cI, 10, .inl (v 12))), (a 13, .inl (cI, 5, .inl (v 13))), (a 14, .inl (cI, 5, .inl (v 14))), (a 16, .inl (cI, 128, .inl (v 16))), (a 17, .inl (cI, 128, .inl (v 17))), (a 18, .inl (cI, 128, .inl (v 18)))] H := hP
    have hD : va_D A [(a 0, .inr (5, [.int t, .ref (a 1), .ref (a 2), .ref (a 3), .ref (a 4), .ref (a 5), .ref (a 6), .ref (a 7), .ref (a 8), .ref (a 9), .int r, .ref (a 11), .ref (a 12), .ref (a 13), .ref (a 14), .int lv, .ref (a 16), .ref (a 17), .ref (a 18), .int (nI b0), .int (o - 1)])), (a 1, .inl (cI, 6, .inl (v 1))), (a 2, .inl (cI, 240, .inl (v 2))), (a 3, .inl (cI, 240, .inl (v 3))), (a 4, .inl (cI, 240, .inl (v 4))), (a 5, .inl (cI, 240, .inl (v 5))), (a 6, .inl (cZ, 8, .inl (v 6))), (a 7, .inl (cI, 8, .inl (v 7))), (a 8, .inl (cI, 8, .inl (upd (v 8) x (((v 8) x) + 1)))), (a 9, .inl (cI, 8, .inl (upd (v 9) x (((v 9) x) - 1)))), (a 11, .inl (cI, 8, .inl (v 11))), (a 12, .inl (cI, 10, .inl (v 12))), (a 13, .inl (cI, 5, .inl (v 13))), (a 14, .inl (cI, 5, .inl (v 14))), (a 16, .inl (cI, 128, .inl (v 16))), (a 17, .inl (cI, 128, .inl (v 17))), (a 18, .inl (cI, 128, .inl (v 18)))] := hD
    exact Rv (D := D) () hx hb hr hlocks hP hD hS trivial dX5_closes_64

set_option maxHeartbeats 4000000 in
set_option maxRecDepth 100000 in
theorem c_X5_closes1T (l : Launch) (D : va_G) (cI cZ : ClassId) (a : Nat → Nat) (v : Nat → Nat → Int32) (t r lv o : Int32) (b0 : Nat) (hb0 : b0 < 128) (x : Nat) (hx10 : x < 10) (hbx : v 16 b0 = nI (10 + x)) : Cv l D [(cI, .int), (cZ, .boolean)] yX5_closes wsX5_closes ({ frames := 0, cells := 0, slots := 0, locals := 0 }) [.ref (a 0), .int 1] (wM a cI cZ v t r lv (nI (b0 + 1)) o) (S := Unit) (fun _ => True) (fun _ => wM a cI cZ v t r lv (nI b0) o) := by
  refine Cv.mk (cc := cX5_closes) (maxL := 3) (ret := none) (by decide +kernel) rfl (Nat.le_of_ble_eq_true rfl) ?_
  intro pg e s m below meth c A ls hx hb hml hr hown hts hlocks hK hns hA hP hD hS hl
  have hl : lv_has ls 3 [(0, .ref (a 0)), (1, .int 1)] := hl
  have fl81 := hts (.fieldLink RX5 81 "HeldShelvesModel" "blocks" "I") (List.mem_of_getElem? (i := 1) rfl)
  have inX5 : ∀ w ∈ wsX50, w ∈ wsX5_closes := fun _ h => List.mem_cons_of_mem _ (List.mem_append_right _ h)
  have fl50 := hts (.fieldLink RX5 50 "HeldShelvesModel" "block" "[I") (List.mem_of_getElem? (i := 2) rfl)
  have hP : va_P D vwCl [(a 0, .inr (5, [.int t, .ref (a 1), .ref (a 2), .ref (a 3), .ref (a 4), .ref (a 5), .ref (a 6), .ref (a 7), .ref (a 8), .ref (a 9), .int r, .ref (a 11), .ref (a 12), .ref (a 13), .ref (a 14), .int lv, .ref (a 16), .ref (a 17), .ref (a 18), .int (nI (b0 + 1)), .int o])), (a 1, .inl (cI, 6, .inl (v 1))), (a 2, .inl (cI, 240, .inl (v 2))), (a 3, .inl (cI, 240, .inl (v 3))), (a 4, .inl (cI, 240, .inl (v 4))), (a 5, .inl (cI, 240, .inl (v 5))), (a 6, .inl (cZ, 8, .inl (v 6))), (a 7, .inl (cI, 8, .inl (v 7))), (a 8, .inl (cI, 8, .inl (v 8))), (a 9, .inl (cI, 8, .inl (v 9))), (a 11, .inl (cI, 8, .inl (v 11))), (a 12, .inl (cI, 10, .inl (v 12))), (a 13, .inl (cI, 5, .inl (v 13))), (a 14, .inl (cI, 5, .inl (v 14))), (a 16, .inl (cI, 128, .inl (v 16))), (a 17, .inl (cI, 128, .inl (v 17))), (a 18, .inl (cI, 128, .inl (v 18)))] s.heap := hP
  have hD : va_D A [(a 0, .inr (5, [.int t, .ref (a 1), .ref (a 2), .ref (a 3), .ref (a 4), .ref (a 5), .ref (a 6), .ref (a 7), .ref (a 8), .ref (a 9), .int r, .ref (a 11), .ref (a 12), .ref (a 13), .ref (a 14), .int lv, .ref (a 16), .ref (a 17), .ref (a 18), .int (nI (b0 + 1)), .int o])), (a 1, .inl (cI, 6, .inl (v 1))), (a 2, .inl (cI, 240, .inl (v 2))), (a 3, .inl (cI, 240, .inl (v 3))), (a 4, .inl (cI, 240, .inl (v 4))), (a 5, .inl (cI, 240, .inl (v 5))), (a 6, .inl (cZ, 8, .inl (v 6))), (a 7, .inl (cI, 8, .inl (v 7))), (a 8, .inl (cI, 8, .inl (v 8))), (a 9, .inl (cI, 8, .inl (v 9))), (a 11, .inl (cI, 8, .inl (v 11))), (a 12, .inl (cI, 10, .inl (v 12))), (a 13, .inl (cI, 5, .inl (v 13))), (a 14, .inl (cI, 5, .inl (v 14))), (a 16, .inl (cI, 128, .inl (v 16))), (a 17, .inl (cI, 128, .inl (v 17))), (a 18, .inl (cI, 128, .inl (v 18)))] := hD
  refine lv_aload_n hx hb dX5_closes_0 rfl (lv_at hl 0 rfl) ?_
  refine lv_dup hx hb dX5_closes_1 rfl ?_
  refine va_get (D := D) (ci := 5) (v := .int (nI (b0 + 1))) (C := RX5) (T := TX5) (N := 21) hx hb hts inX5 hown hK hP 0 rfl rfl 19 (by decide) fl81 (fun _ h9 => h9) rfl dX5_closes_2 ?_
  refine lv_iconst (v := 1) hx hb dX5_closes_5 (by decide) ?_
  refine lv_isub hx hb dX5_closes_6 ?_
  refine tp (y := nI b0) (nI_pred b0) ?_
  refine va_put (D := D) (ci := 5) (v := .int (nI b0)) (ty := .int) (C := RX5) (T := TX5) (N := 21) hx hb hts inX5 tyX5 tyX5_ok nmX5 hown hK hP hD hS 0 rfl rfl 19 (by decide) fl81 (fun _ h9 => h9) rfl (by decide +kernel) rfl rfl (Nat.le_of_ble_eq_true rfl) dX5_closes_7 (fun H locs hP hD hS => ?_)
  have hP : va_P D vwCl [(a 0, .inr (5, [.int t, .ref (a 1), .ref (a 2), .ref (a 3), .ref (a 4), .ref (a 5), .ref (a 6), .ref (a 7), .ref (a 8), .ref (a 9), .int r, .ref (a 11), .ref (a 12), .ref (a 13), .ref (a 14), .int lv, .ref (a 16), .ref (a 17), .ref (a 18), .int (nI b0), .int o])), (a 1, .inl (cI, 6, .inl (v 1))), (a 2, .inl (cI, 240, .inl (v 2))), (a 3, .inl (cI, 240, .inl (v 3))), (a 4, .inl (cI, 240, .inl (v 4))), (a 5, .inl (cI, 240, .inl (v 5))), (a 6, .inl (cZ, 8, .inl (v 6))), (a 7, .inl (cI, 8, .inl (v 7))), (a 8, .inl (cI, 8, .inl (v 8))), (a 9, .inl (cI, 8, .inl (v 9))), (a 11, .inl (cI, 8, .inl (v 11))), (a 12, .inl (cI, 10, .inl (v 12))), (a 13, .inl (cI, 5, .inl (v 13))), (a 14, .inl (cI, 5, .inl (v 14))), (a 16, .inl (cI, 128, .inl (v 16))), (a 17, .inl (cI, 128, .inl (v 17))), (a 18, .inl (cI, 128, .inl (v 18)))] H := hP
  have hD : va_D A [(a 0, .inr (5, [.int t, .ref (a 1), .ref (a 2), .ref (a 3), .ref (a 4), .ref (a 5), .ref (a 6), .ref (a 7), .ref (a 8), .ref (a 9), .int r, .ref (a 11), .ref (a 12), .ref (a 13), .ref (a 14), .int lv, .ref (a 16), .ref (a 17), .ref (a 18), .int (nI b0), .int o])), (a 1, .inl (cI, 6, .inl (v 1))), (a 2, .inl (cI, 240, .inl (v 2))), (a 3, .inl (cI, 240, .inl (v 3))), (a 4, .inl (cI, 240, .inl (v 4))), (a 5, .inl (cI, 240, .inl (v 5))), (a 6, .inl (cZ, 8, .inl (v 6))), (a 7, .inl (cI, 8, .inl (v 7))), (a 8, .inl (cI, 8, .inl (v 8))), (a 9, .inl (cI, 8, .inl (v 9))), (a 11, .inl (cI, 8, .inl (v 11))), (a 12, .inl (cI, 10, .inl (v 12))), (a 13, .inl (cI, 5, .inl (v 13))), (a 14, .inl (cI, 5, .inl (v 14))), (a 16, .inl (cI, 128, .inl (v 16))), (a 17, .inl (cI, 128, .inl (v 17))), (a 18, .inl (cI, 128, .inl (v 18)))] := hD
  refine lv_aload_n hx hb dX5_closes_10 rfl (lv_at hl 0 rfl) ?_
  refine va_get (D := D) (ci := 5) (v := .ref (a 16)) (C := RX5) (T := TX5) (N := 21) hx hb hts inX5 hown hK hP 0 rfl rfl 16 (by decide) fl50 (fun _ h9 => h9) rfl dX5_closes_11 ?_
  refine lv_aload_n hx hb dX5_closes_14 rfl (lv_at hl 0 rfl) ?_
  refine va_get (D := D) (ci := 5) (v := .int (nI b0)) (C := RX5) (T := TX5) (N := 21) hx hb hts inX5 hown hK hP 0 rfl rfl 19 (by decide) fl81 (fun _ h9 => h9) rfl dX5_closes_15 ?_
  refine xi_ald hx hb hK hP 14 0 rfl rfl (k := b0) (by omega) (by decide) dX5_closes_18 ?_
  refine tp (y := nI (10 + x)) (hbx) ?_
  refine lv_istore_n (lv' := [(2, .int (nI (10 + x))), (0, .ref (a 0)), (1, .int 1)]) hx hb dX5_closes_19 rfl hl (by decide) rfl (fun ls hl => ?_)
  refine lv_iload_n hx hb dX5_closes_20 rfl (lv_at hl 0 rfl) ?_
  refine lv_bipush (v := 10) hx hb dX5_closes_21 (by decide) ?_
  refine lv_icmp_ge (tgt := 64) hx hb dX5_closes_23 (by decide) (fun c_23 => ?_) (fun c_23 => ?_)
  · have c_23 : 10 ≤ (10 + x) := (nI_leI (a := 10) (b := (10 + x)) (by omega) (by omega)).mp c_23
    exact Rv (D := D) () hx hb hr hlocks hP hD hS trivial dX5_closes_64
  · have c_23 : ¬ (10 ≤ (10 + x)) := fun h => c_23 ((nI_leI (a := 10) (b := (10 + x)) (by omega) (by omega)).mpr h)
    exact absurd c_23 (by omega)

set_option maxHeartbeats 4000000 in
set_option maxRecDepth 100000 in
theorem c_X5_wrongShelf (l : Launch) (D : va_G) (cI cZ : ClassId) (a : Nat → Nat) (v : Nat → Nat → Int32) (t r lv b o : Int32) (th : Nat → Bool) (hz : zk (v 6) th) (x : Nat) (hx16 : x < 16) : Ci l D [(cI, .int), (cZ, .boolean)] yX5_wrongShelf wsX5_wrongShelf ({ frames := 0, cells := 0, slots := 0, locals := 0 }) [.ref (a 0), .int (nI x)] (wM a cI cZ v t r lv b o) (S := Unit) (fun w _ => w = nI (mis th x)) (fun _ => wM a cI cZ v t r lv b o) := by
  refine Ci.mk (cc := cX5_wrongShelf) (maxL := 2) (ret := (some .int)) (by decide +kernel) rfl (Nat.le_of_ble_eq_true rfl) ?_
  intro pg e s m below meth c A ls hx hb hml hr hown hts hlocks hK hns hA hP hD hS hl
  have hl : lv_has ls 2 [(0, .ref (a 0)), (1, .int (nI x))] := hl
  have fl25 := hts (.fieldLink RX5 25 "HeldShelvesModel" "isThere" "[Z") (List.mem_of_getElem? (i := 1) rfl)
  have inX5 : ∀ w ∈ wsX50, w ∈ wsX5_wrongShelf := fun _ h => List.mem_cons_of_mem _ (List.mem_append_right _ h)
  have hP : va_P D vwCl [(a 0, .inr (5, [.int t, .ref (a 1), .ref (a 2), .ref (a 3), .ref (a 4), .ref (a 5), .ref (a 6), .ref (a 7), .ref (a 8), .ref (a 9), .int r, .ref (a 11), .ref (a 12), .ref (a 13), .ref (a 14), .int lv, .ref (a 16), .ref (a 17), .ref (a 18), .int b, .int o])), (a 1, .inl (cI, 6, .inl (v 1))), (a 2, .inl (cI, 240, .inl (v 2))), (a 3, .inl (cI, 240, .inl (v 3))), (a 4, .inl (cI, 240, .inl (v 4))), (a 5, .inl (cI, 240, .inl (v 5))), (a 6, .inl (cZ, 8, .inl (v 6))), (a 7, .inl (cI, 8, .inl (v 7))), (a 8, .inl (cI, 8, .inl (v 8))), (a 9, .inl (cI, 8, .inl (v 9))), (a 11, .inl (cI, 8, .inl (v 11))), (a 12, .inl (cI, 10, .inl (v 12))), (a 13, .inl (cI, 5, .inl (v 13))), (a 14, .inl (cI, 5, .inl (v 14))), (a 16, .inl (cI, 128, .inl (v 16))), (a 17, .inl (cI, 128, .inl (v 17))), (a 18, .inl (cI, 128, .inl (v 18)))] s.heap := hP
  have hD : va_D A [(a 0, .inr (5, [.int t, .ref (a 1), .ref (a 2), .ref (a 3), .ref (a 4), .ref (a 5), .ref (a 6), .ref (a 7), .ref (a 8), .ref (a 9), .int r, .ref (a 11), .ref (a 12), .ref (a 13), .ref (a 14), .int lv, .ref (a 16), .ref (a 17), .ref (a 18), .int b, .int o])), (a 1, .inl (cI, 6, .inl (v 1))), (a 2, .inl (cI, 240, .inl (v 2))), (a 3, .inl (cI, 240, .inl (v 3))), (a 4, .inl (cI, 240, .inl (v 4))), (a 5, .inl (cI, 240, .inl (v 5))), (a 6, .inl (cZ, 8, .inl (v 6))), (a 7, .inl (cI, 8, .inl (v 7))), (a 8, .inl (cI, 8, .inl (v 8))), (a 9, .inl (cI, 8, .inl (v 9))), (a 11, .inl (cI, 8, .inl (v 11))), (a 12, .inl (cI, 10, .inl (v 12))), (a 13, .inl (cI, 5, .inl (v 13))), (a 14, .inl (cI, 5, .inl (v 14))), (a 16, .inl (cI, 128, .inl (v 16))), (a 17, .inl (cI, 128, .inl (v 17))), (a 18, .inl (cI, 128, .inl (v 18)))] := hD
  refine lv_iload_n hx hb dX5_wrongShelf_0 rfl (lv_at hl 1 rfl) ?_
  refine lv_bipush (v := 7) hx hb dX5_wrongShelf_1 (by decide) ?_
  refine lv_icmp_le (tgt := 10) hx hb dX5_wrongShelf_3 (by decide) (fun c_3 => ?_) (fun c_3 => ?_)
  · have c_3 : x ≤ 7 := (nI_leI (a := x) (b := 7) (by omega) (by omega)).mp c_3
    refine lv_aload_n hx hb dX5_wrongShelf_10 rfl (lv_at hl 0 rfl) ?_
    refine va_get (D := D) (ci := 5) (v := .ref (a 6)) (C := RX5) (T := TX5) (N := 21) hx hb hts inX5 hown hK hP 0 rfl rfl 6 (by decide) fl25 (fun _ h9 => h9) rfl dX5_wrongShelf_11 ?_
    refine lv_iload_n hx hb dX5_wrongShelf_14 rfl (lv_at hl 1 rfl) ?_
    refine xz_ald hx hb hK hP 6 1 rfl rfl (k := x) (by omega) (by decide) dX5_wrongShelf_15 ?_
    refine lv_if_ne (tgt := 23) hx hb dX5_wrongShelf_16 (by decide) (fun c_16 => ?_) (fun c_16 => ?_)
    · refine lv_iconst (v := 0) hx hb dX5_wrongShelf_23 (by decide) ?_
      exact Ri (D := D) () hx hb hr rfl hlocks hP hD hS (by rw [mis_z (by omega) (zk_1 hz (by omega) c_16)]; rfl) dX5_wrongShelf_24
    · refine lv_iconst (v := 2) hx hb dX5_wrongShelf_19 (by decide) ?_
      refine lv_goto (tgt := 24) hx hb dX5_wrongShelf_20 (by decide) ?_
      exact Ri (D := D) () hx hb hr rfl hlocks hP hD hS (by rw [mis_n (by omega) (zk_0 hz (by omega) c_16)]; rfl) dX5_wrongShelf_24
  · have c_3 : ¬ (x ≤ 7) := fun h => c_3 ((nI_leI (a := x) (b := 7) (by omega) (by omega)).mpr h)
    refine lv_iconst (v := 1) hx hb dX5_wrongShelf_6 (by decide) ?_
    refine lv_goto (tgt := 24) hx hb dX5_wrongShelf_7 (by decide) ?_
    exact Ri (D := D) () hx hb hr rfl hlocks hP hD hS (by rw [mis, if_pos (by omega)]; rfl) dX5_wrongShelf_24

set_option maxHeartbeats 4000000 in
set_option maxRecDepth 100000 in
theorem c_X5_hold (l : Launch) (D : va_G) (cI cZ : ClassId) (a : Nat → Nat) (v : Nat → Nat → Int32) (t r lv o : Int32) (b0 : Nat) (hb0 : b0 < 128) (th : Nat → Bool) (hz : zk (v 6) th) (x : Nat) (hx16 : x < 16) (y : Int32) : Ci l D [(cI, .int), (cZ, .boolean)] yX5_hold wsX5_hold ({ frames := 1, cells := 0, slots := 0, locals := 22 }) [.ref (a 0), .int (nI x), .int y] (wM a cI cZ v t r lv (nI b0) o) (S := (Nat → Nat → Int32) × Int32 × Int32) (fun w u => (mis th x ≠ 0 ∧ w = nI (mis th x) ∧ u = (v, nI b0, o)) ∨ (mis th x = 0 ∧ w = 0 ∧ u = ((va_up (va_up (va_up (va_up (va_up v 16 (upd (v 16) b0 (nI x))) 17 (upd (v 17) b0 y)) 18 (upd (v 18) b0 lv)) 9 (upd (v 9) x (v 9 x + 1))) 11 (upd (upd (v 11) 4 (v 11 4 + 1)) 5 (if v 11 5 < o + 1 then o + 1 else v 11 5))), nI (b0 + 1), o + 1))) (fun u => wM a cI cZ u.1 t r lv u.2.1 u.2.2) := by
  refine Ci.mk (cc := cX5_hold) (maxL := 4) (ret := (some .int)) (by decide +kernel) rfl (Nat.le_of_ble_eq_true rfl) ?_
  intro pg e s m below meth c A ls hx hb hml hr hown hts hlocks hK hns hA hP hD hS hl
  have hl : lv_has ls 4 [(0, .ref (a 0)), (1, .int (nI x)), (2, .int y)] := hl
  have fl35 := hts (.fieldLink RX5 35 "HeldShelvesModel" "held" "[I") (List.mem_of_getElem? (i := 1) rfl)
  have inX5 : ∀ w ∈ wsX50, w ∈ wsX5_hold := fun _ h => List.mem_cons_of_mem _ (List.mem_append_right _ h)
  have fl87 := hts (.fieldLink RX5 87 "HeldShelvesModel" "open" "I") (List.mem_of_getElem? (i := 2) rfl)
  have fl38 := hts (.fieldLink RX5 38 "HeldShelvesModel" "told" "[I") (List.mem_of_getElem? (i := 3) rfl)
  have hP : va_P D vwCl [(a 0, .inr (5, [.int t, .ref (a 1), .ref (a 2), .ref (a 3), .ref (a 4), .ref (a 5), .ref (a 6), .ref (a 7), .ref (a 8), .ref (a 9), .int r, .ref (a 11), .ref (a 12), .ref (a 13), .ref (a 14), .int lv, .ref (a 16), .ref (a 17), .ref (a 18), .int (nI b0), .int o])), (a 1, .inl (cI, 6, .inl (v 1))), (a 2, .inl (cI, 240, .inl (v 2))), (a 3, .inl (cI, 240, .inl (v 3))), (a 4, .inl (cI, 240, .inl (v 4))), (a 5, .inl (cI, 240, .inl (v 5))), (a 6, .inl (cZ, 8, .inl (v 6))), (a 7, .inl (cI, 8, .inl (v 7))), (a 8, .inl (cI, 8, .inl (v 8))), (a 9, .inl (cI, 8, .inl (v 9))), (a 11, .inl (cI, 8, .inl (v 11))), (a 12, .inl (cI, 10, .inl (v 12))), (a 13, .inl (cI, 5, .inl (v 13))), (a 14, .inl (cI, 5, .inl (v 14))), (a 16, .inl (cI, 128, .inl (v 16))), (a 17, .inl (cI, 128, .inl (v 17))), (a 18, .inl (cI, 128, .inl (v 18)))] s.heap := hP
  have hD : va_D A [(a 0, .inr (5, [.int t, .ref (a 1), .ref (a 2), .ref (a 3), .ref (a 4), .ref (a 5), .ref (a 6), .ref (a 7), .ref (a 8), .ref (a 9), .int r, .ref (a 11), .ref (a 12), .ref (a 13), .ref (a 14), .int lv, .ref (a 16), .ref (a 17), .ref (a 18), .int (nI b0), .int o])), (a 1, .inl (cI, 6, .inl (v 1))), (a 2, .inl (cI, 240, .inl (v 2))), (a 3, .inl (cI, 240, .inl (v 3))), (a 4, .inl (cI, 240, .inl (v 4))), (a 5, .inl (cI, 240, .inl (v 5))), (a 6, .inl (cZ, 8, .inl (v 6))), (a 7, .inl (cI, 8, .inl (v 7))), (a 8, .inl (cI, 8, .inl (v 8))), (a 9, .inl (cI, 8, .inl (v 9))), (a 11, .inl (cI, 8, .inl (v 11))), (a 12, .inl (cI, 10, .inl (v 12))), (a 13, .inl (cI, 5, .inl (v 13))), (a 14, .inl (cI, 5, .inl (v 14))), (a 16, .inl (cI, 128, .inl (v 16))), (a 17, .inl (cI, 128, .inl (v 17))), (a 18, .inl (cI, 128, .inl (v 18)))] := hD
  have hm := mis_le (th := th) (s := x)
  refine lv_aload_n hx hb dX5_hold_0 rfl (lv_at hl 0 rfl) ?_
  refine lv_iload_n hx hb dX5_hold_1 rfl (lv_at hl 1 rfl) ?_
  refine cl_Vi ([]) ([]) (As := [.int (nI x)]) (rest := []) (c_X5_wrongShelf l D cI cZ a v t r lv (nI b0) o th hz x hx16) ⟨hx, hb, hml, hown, hts⟩ (cwV 1 hts gX5_hold_X5_wrongShelf rfl rfl rfl (by decide +kernel) ⟨Nat.le_of_ble_eq_true rfl, Nat.le_of_ble_eq_true rfl⟩) hK hns hP hD hS hA rfl (T := TX5) (N := 21) rfl rfl hl.1 rfl (Nat.le_of_ble_eq_true rfl) dX5_hold_2 ⟨Nat.zero_le _, Nat.zero_le _⟩ (fun r2 u2 H locs hw2 hP hD hS => ?_)
  have hP : va_P D vwCl [(a 0, .inr (5, [.int t, .ref (a 1), .ref (a 2), .ref (a 3), .ref (a 4), .ref (a 5), .ref (a 6), .ref (a 7), .ref (a 8), .ref (a 9), .int r, .ref (a 11), .ref (a 12), .ref (a 13), .ref (a 14), .int lv, .ref (a 16), .ref (a 17), .ref (a 18), .int (nI b0), .int o])), (a 1, .inl (cI, 6, .inl (v 1))), (a 2, .inl (cI, 240, .inl (v 2))), (a 3, .inl (cI, 240, .inl (v 3))), (a 4, .inl (cI, 240, .inl (v 4))), (a 5, .inl (cI, 240, .inl (v 5))), (a 6, .inl (cZ, 8, .inl (v 6))), (a 7, .inl (cI, 8, .inl (v 7))), (a 8, .inl (cI, 8, .inl (v 8))), (a 9, .inl (cI, 8, .inl (v 9))), (a 11, .inl (cI, 8, .inl (v 11))), (a 12, .inl (cI, 10, .inl (v 12))), (a 13, .inl (cI, 5, .inl (v 13))), (a 14, .inl (cI, 5, .inl (v 14))), (a 16, .inl (cI, 128, .inl (v 16))), (a 17, .inl (cI, 128, .inl (v 17))), (a 18, .inl (cI, 128, .inl (v 18)))] H := hP
  have hD : va_D A [(a 0, .inr (5, [.int t, .ref (a 1), .ref (a 2), .ref (a 3), .ref (a 4), .ref (a 5), .ref (a 6), .ref (a 7), .ref (a 8), .ref (a 9), .int r, .ref (a 11), .ref (a 12), .ref (a 13), .ref (a 14), .int lv, .ref (a 16), .ref (a 17), .ref (a 18), .int (nI b0), .int o])), (a 1, .inl (cI, 6, .inl (v 1))), (a 2, .inl (cI, 240, .inl (v 2))), (a 3, .inl (cI, 240, .inl (v 3))), (a 4, .inl (cI, 240, .inl (v 4))), (a 5, .inl (cI, 240, .inl (v 5))), (a 6, .inl (cZ, 8, .inl (v 6))), (a 7, .inl (cI, 8, .inl (v 7))), (a 8, .inl (cI, 8, .inl (v 8))), (a 9, .inl (cI, 8, .inl (v 9))), (a 11, .inl (cI, 8, .inl (v 11))), (a 12, .inl (cI, 10, .inl (v 12))), (a 13, .inl (cI, 5, .inl (v 13))), (a 14, .inl (cI, 5, .inl (v 14))), (a 16, .inl (cI, 128, .inl (v 16))), (a 17, .inl (cI, 128, .inl (v 17))), (a 18, .inl (cI, 128, .inl (v 18)))] := hD
  subst hw2
  refine lv_istore_n (lv' := [(3, .int (nI (mis th x))), (0, .ref (a 0)), (1, .int (nI x)), (2, .int y)]) hx hb dX5_hold_5 rfl hl (by decide) rfl (fun ls hl => ?_)
  refine lv_iload_n hx hb dX5_hold_6 rfl (lv_at hl 0 rfl) ?_
  refine lv_if_ne (tgt := 78) hx hb dX5_hold_7 (by decide) (fun c_7 => ?_) (fun c_7 => ?_)
  · have c_7 : ¬ ((mis th x) = 0) := fun h => c_7 ((nI_eq (a := (mis th x)) (b := 0) (by omega) (by omega)).mpr h)
    refine lv_iload_n hx hb dX5_hold_78 rfl (lv_at hl 0 rfl) ?_
    exact Ri (D := D) (v, nI b0, o) hx hb hr rfl hlocks hP hD hS (Or.inl ⟨c_7, rfl, rfl⟩) dX5_hold_79
  · have c_7 : (mis th x) = 0 := (nI_eq (a := (mis th x)) (b := 0) (by omega) (by omega)).mp c_7
    have h8 := mis_0 c_7
    refine lv_aload_n hx hb dX5_hold_10 rfl (lv_at hl 1 rfl) ?_
    refine lv_iload_n hx hb dX5_hold_11 rfl (lv_at hl 2 rfl) ?_
    refine lv_iload_n hx hb dX5_hold_12 rfl (lv_at hl 3 rfl) ?_
    refine cl_Vv ([]) ([]) (As := [.int (nI x), .int y]) (rest := []) (c_X5_begins l D cI cZ a v t r lv o b0 hb0 (nI x) y) ⟨hx, hb, hml, hown, hts⟩ (cwV 2 hts gX5_hold_X5_begins rfl rfl rfl (by decide +kernel) ⟨Nat.le_of_ble_eq_true rfl, Nat.le_of_ble_eq_true rfl⟩) hK hns hP hD hS hA rfl (T := TX5) (N := 21) rfl rfl hl.1 rfl (Nat.le_of_ble_eq_true rfl) dX5_hold_13 ⟨Nat.zero_le _, Nat.zero_le _⟩ (fun u13 H locs hw13 hP hD hS => ?_)
    have hP : va_P D vwCl [(a 0, .inr (5, [.int t, .ref (a 1), .ref (a 2), .ref (a 3), .ref (a 4), .ref (a 5), .ref (a 6), .ref (a 7), .ref (a 8), .ref (a 9), .int r, .ref (a 11), .ref (a 12), .ref (a 13), .ref (a 14), .int lv, .ref (a 16), .ref (a 17), .ref (a 18), .int (nI (b0 + 1)), .int o])), (a 1, .inl (cI, 6, .inl (v 1))), (a 2, .inl (cI, 240, .inl (v 2))), (a 3, .inl (cI, 240, .inl (v 3))), (a 4, .inl (cI, 240, .inl (v 4))), (a 5, .inl (cI, 240, .inl (v 5))), (a 6, .inl (cZ, 8, .inl (v 6))), (a 7, .inl (cI, 8, .inl (v 7))), (a 8, .inl (cI, 8, .inl (v 8))), (a 9, .inl (cI, 8, .inl (v 9))), (a 11, .inl (cI, 8, .inl (v 11))), (a 12, .inl (cI, 10, .inl (v 12))), (a 13, .inl (cI, 5, .inl (v 13))), (a 14, .inl (cI, 5, .inl (v 14))), (a 16, .inl (cI, 128, .inl (upd (v 16) b0 (nI x)))), (a 17, .inl (cI, 128, .inl (upd (v 17) b0 y))), (a 18, .inl (cI, 128, .inl (upd (v 18) b0 lv)))] H := hP
    have hD : va_D A [(a 0, .inr (5, [.int t, .ref (a 1), .ref (a 2), .ref (a 3), .ref (a 4), .ref (a 5), .ref (a 6), .ref (a 7), .ref (a 8), .ref (a 9), .int r, .ref (a 11), .ref (a 12), .ref (a 13), .ref (a 14), .int lv, .ref (a 16), .ref (a 17), .ref (a 18), .int (nI (b0 + 1)), .int o])), (a 1, .inl (cI, 6, .inl (v 1))), (a 2, .inl (cI, 240, .inl (v 2))), (a 3, .inl (cI, 240, .inl (v 3))), (a 4, .inl (cI, 240, .inl (v 4))), (a 5, .inl (cI, 240, .inl (v 5))), (a 6, .inl (cZ, 8, .inl (v 6))), (a 7, .inl (cI, 8, .inl (v 7))), (a 8, .inl (cI, 8, .inl (v 8))), (a 9, .inl (cI, 8, .inl (v 9))), (a 11, .inl (cI, 8, .inl (v 11))), (a 12, .inl (cI, 10, .inl (v 12))), (a 13, .inl (cI, 5, .inl (v 13))), (a 14, .inl (cI, 5, .inl (v 14))), (a 16, .inl (cI, 128, .inl (upd (v 16) b0 (nI x)))), (a 17, .inl (cI, 128, .inl (upd (v 17) b0 y))), (a 18, .inl (cI, 128, .inl (upd (v 18) b0 lv)))] := hD
    refine lv_aload_n hx hb dX5_hold_16 rfl (lv_at hl 1 rfl) ?_
    refine va_get (D := D) (ci := 5) (v := .ref (a 9)) (C := RX5) (T := TX5) (N := 21) hx hb hts inX5 hown hK hP 0 rfl rfl 9 (by decide) fl35 (fun _ h9 => h9) rfl dX5_hold_17 ?_
    refine lv_iload_n hx hb dX5_hold_20 rfl (lv_at hl 2 rfl) ?_
    refine lv_dup2_11 hx hb dX5_hold_21 rfl rfl ?_
    refine xi_ald hx hb hK hP 9 0 rfl rfl (k := x) (by omega) (by decide) dX5_hold_22 ?_
    refine lv_iconst (v := 1) hx hb dX5_hold_23 (by decide) ?_
    refine lv_iadd hx hb dX5_hold_24 ?_
    refine xi_ast hx hb hK hP hD hS 9 0 rfl rfl (k := x) (x := (((v 9) x) + 1)) (by omega) (by decide) dX5_hold_25 (fun H locs hP hD hS => ?_)
    have hP : va_P D vwCl [(a 0, .inr (5, [.int t, .ref (a 1), .ref (a 2), .ref (a 3), .ref (a 4), .ref (a 5), .ref (a 6), .ref (a 7), .ref (a 8), .ref (a 9), .int r, .ref (a 11), .ref (a 12), .ref (a 13), .ref (a 14), .int lv, .ref (a 16), .ref (a 17), .ref (a 18), .int (nI (b0 + 1)), .int o])), (a 1, .inl (cI, 6, .inl (v 1))), (a 2, .inl (cI, 240, .inl (v 2))), (a 3, .inl (cI, 240, .inl (v 3))), (a 4, .inl (cI, 240, .inl (v 4))), (a 5, .inl (cI, 240, .inl (v 5))), (a 6, .inl (cZ, 8, .inl (v 6))), (a 7, .inl (cI, 8, .inl (v 7))), (a 8, .inl (cI, 8, .inl (v 8))), (a 9, .inl (cI, 8, .inl (upd (v 9) x (((v 9) x) + 1)))), (a 11, .inl (cI, 8, .inl (v 11))), (a 12, .inl (cI, 10, .inl (v 12))), (a 13, .inl (cI, 5, .inl (v 13))), (a 14, .inl (cI, 5, .inl (v 14))), (a 16, .inl (cI, 128, .inl (upd (v 16) b0 (nI x)))), (a 17, .inl (cI, 128, .inl (upd (v 17) b0 y))), (a 18, .inl (cI, 128, .inl (upd (v 18) b0 lv)))] H := hP
    have hD : va_D A [(a 0, .inr (5, [.int t, .ref (a 1), .ref (a 2), .ref (a 3), .ref (a 4), .ref (a 5), .ref (a 6), .ref (a 7), .ref (a 8), .ref (a 9), .int r, .ref (a 11), .ref (a 12), .ref (a 13), .ref (a 14), .int lv, .ref (a 16), .ref (a 17), .ref (a 18), .int (nI (b0 + 1)), .int o])), (a 1, .inl (cI, 6, .inl (v 1))), (a 2, .inl (cI, 240, .inl (v 2))), (a 3, .inl (cI, 240, .inl (v 3))), (a 4, .inl (cI, 240, .inl (v 4))), (a 5, .inl (cI, 240, .inl (v 5))), (a 6, .inl (cZ, 8, .inl (v 6))), (a 7, .inl (cI, 8, .inl (v 7))), (a 8, .inl (cI, 8, .inl (v 8))), (a 9, .inl (cI, 8, .inl (upd (v 9) x (((v 9) x) + 1)))), (a 11, .inl (cI, 8, .inl (v 11))), (a 12, .inl (cI, 10, .inl (v 12))), (a 13, .inl (cI, 5, .inl (v 13))), (a 14, .inl (cI, 5, .inl (v 14))), (a 16, .inl (cI, 128, .inl (upd (v 16) b0 (nI x)))), (a 17, .inl (cI, 128, .inl (upd (v 17) b0 y))), (a 18, .inl (cI, 128, .inl (upd (v 18) b0 lv)))] := hD
    refine lv_aload_n hx hb dX5_hold_26 rfl (lv_at hl 1 rfl) ?_
    refine lv_dup hx hb dX5_hold_27 rfl ?_
    refine va_get (D := D) (ci := 5) (v := .int o) (C := RX5) (T := TX5) (N := 21) hx hb hts inX5 hown hK hP 0 rfl rfl 20 (by decide) fl87 (fun _ h9 => h9) rfl dX5_hold_28 ?_
    refine lv_iconst (v := 1) hx hb dX5_hold_31 (by decide) ?_
    refine lv_iadd hx hb dX5_hold_32 ?_
    refine va_put (D := D) (ci := 5) (v := .int (o + 1)) (ty := .int) (C := RX5) (T := TX5) (N := 21) hx hb hts inX5 tyX5 tyX5_ok nmX5 hown hK hP hD hS 0 rfl rfl 20 (by decide) fl87 (fun _ h9 => h9) rfl (by decide +kernel) rfl rfl (Nat.le_of_ble_eq_true rfl) dX5_hold_33 (fun H locs hP hD hS => ?_)
    have hP : va_P D vwCl [(a 0, .inr (5, [.int t, .ref (a 1), .ref (a 2), .ref (a 3), .ref (a 4), .ref (a 5), .ref (a 6), .ref (a 7), .ref (a 8), .ref (a 9), .int r, .ref (a 11), .ref (a 12), .ref (a 13), .ref (a 14), .int lv, .ref (a 16), .ref (a 17), .ref (a 18), .int (nI (b0 + 1)), .int (o + 1)])), (a 1, .inl (cI, 6, .inl (v 1))), (a 2, .inl (cI, 240, .inl (v 2))), (a 3, .inl (cI, 240, .inl (v 3))), (a 4, .inl (cI, 240, .inl (v 4))), (a 5, .inl (cI, 240, .inl (v 5))), (a 6, .inl (cZ, 8, .inl (v 6))), (a 7, .inl (cI, 8, .inl (v 7))), (a 8, .inl (cI, 8, .inl (v 8))), (a 9, .inl (cI, 8, .inl (upd (v 9) x (((v 9) x) + 1)))), (a 11, .inl (cI, 8, .inl (v 11))), (a 12, .inl (cI, 10, .inl (v 12))), (a 13, .inl (cI, 5, .inl (v 13))), (a 14, .inl (cI, 5, .inl (v 14))), (a 16, .inl (cI, 128, .inl (upd (v 16) b0 (nI x)))), (a 17, .inl (cI, 128, .inl (upd (v 17) b0 y))), (a 18, .inl (cI, 128, .inl (upd (v 18) b0 lv)))] H := hP
    have hD : va_D A [(a 0, .inr (5, [.int t, .ref (a 1), .ref (a 2), .ref (a 3), .ref (a 4), .ref (a 5), .ref (a 6), .ref (a 7), .ref (a 8), .ref (a 9), .int r, .ref (a 11), .ref (a 12), .ref (a 13), .ref (a 14), .int lv, .ref (a 16), .ref (a 17), .ref (a 18), .int (nI (b0 + 1)), .int (o + 1)])), (a 1, .inl (cI, 6, .inl (v 1))), (a 2, .inl (cI, 240, .inl (v 2))), (a 3, .inl (cI, 240, .inl (v 3))), (a 4, .inl (cI, 240, .inl (v 4))), (a 5, .inl (cI, 240, .inl (v 5))), (a 6, .inl (cZ, 8, .inl (v 6))), (a 7, .inl (cI, 8, .inl (v 7))), (a 8, .inl (cI, 8, .inl (v 8))), (a 9, .inl (cI, 8, .inl (upd (v 9) x (((v 9) x) + 1)))), (a 11, .inl (cI, 8, .inl (v 11))), (a 12, .inl (cI, 10, .inl (v 12))), (a 13, .inl (cI, 5, .inl (v 13))), (a 14, .inl (cI, 5, .inl (v 14))), (a 16, .inl (cI, 128, .inl (upd (v 16) b0 (nI x)))), (a 17, .inl (cI, 128, .inl (upd (v 17) b0 y))), (a 18, .inl (cI, 128, .inl (upd (v 18) b0 lv)))] := hD
    refine lv_aload_n hx hb dX5_hold_36 rfl (lv_at hl 1 rfl) ?_
    refine va_get (D := D) (ci := 5) (v := .ref (a 11)) (C := RX5) (T := TX5) (N := 21) hx hb hts inX5 hown hK hP 0 rfl rfl 11 (by decide) fl38 (fun _ h9 => h9) rfl dX5_hold_37 ?_
    refine lv_iconst (v := 4) hx hb dX5_hold_40 (by decide) ?_
    refine lv_dup2_11 hx hb dX5_hold_41 rfl rfl ?_
    refine xi_ald hx hb hK hP 10 0 rfl rfl (k := 4) (by omega) (by decide) dX5_hold_42 ?_
    refine lv_iconst (v := 1) hx hb dX5_hold_43 (by decide) ?_
    refine lv_iadd hx hb dX5_hold_44 ?_
    refine xi_ast hx hb hK hP hD hS 10 0 rfl rfl (k := 4) (x := (((v 11) 4) + 1)) (by omega) (by decide) dX5_hold_45 (fun H locs hP hD hS => ?_)
    have hP : va_P D vwCl [(a 0, .inr (5, [.int t, .ref (a 1), .ref (a 2), .ref (a 3), .ref (a 4), .ref (a 5), .ref (a 6), .ref (a 7), .ref (a 8), .ref (a 9), .int r, .ref (a 11), .ref (a 12), .ref (a 13), .ref (a 14), .int lv, .ref (a 16), .ref (a 17), .ref (a 18), .int (nI (b0 + 1)), .int (o + 1)])), (a 1, .inl (cI, 6, .inl (v 1))), (a 2, .inl (cI, 240, .inl (v 2))), (a 3, .inl (cI, 240, .inl (v 3))), (a 4, .inl (cI, 240, .inl (v 4))), (a 5, .inl (cI, 240, .inl (v 5))), (a 6, .inl (cZ, 8, .inl (v 6))), (a 7, .inl (cI, 8, .inl (v 7))), (a 8, .inl (cI, 8, .inl (v 8))), (a 9, .inl (cI, 8, .inl (upd (v 9) x (((v 9) x) + 1)))), (a 11, .inl (cI, 8, .inl (upd (v 11) 4 (((v 11) 4) + 1)))), (a 12, .inl (cI, 10, .inl (v 12))), (a 13, .inl (cI, 5, .inl (v 13))), (a 14, .inl (cI, 5, .inl (v 14))), (a 16, .inl (cI, 128, .inl (upd (v 16) b0 (nI x)))), (a 17, .inl (cI, 128, .inl (upd (v 17) b0 y))), (a 18, .inl (cI, 128, .inl (upd (v 18) b0 lv)))] H := hP
    have hD : va_D A [(a 0, .inr (5, [.int t, .ref (a 1), .ref (a 2), .ref (a 3), .ref (a 4), .ref (a 5), .ref (a 6), .ref (a 7), .ref (a 8), .ref (a 9), .int r, .ref (a 11), .ref (a 12), .ref (a 13), .ref (a 14), .int lv, .ref (a 16), .ref (a 17), .ref (a 18), .int (nI (b0 + 1)), .int (o + 1)])), (a 1, .inl (cI, 6, .inl (v 1))), (a 2, .inl (cI, 240, .inl (v 2))), (a 3, .inl (cI, 240, .inl (v 3))), (a 4, .inl (cI, 240, .inl (v 4))), (a 5, .inl (cI, 240, .inl (v 5))), (a 6, .inl (cZ, 8, .inl (v 6))), (a 7, .inl (cI, 8, .inl (v 7))), (a 8, .inl (cI, 8, .inl (v 8))), (a 9, .inl (cI, 8, .inl (upd (v 9) x (((v 9) x) + 1)))), (a 11, .inl (cI, 8, .inl (upd (v 11) 4 (((v 11) 4) + 1)))), (a 12, .inl (cI, 10, .inl (v 12))), (a 13, .inl (cI, 5, .inl (v 13))), (a 14, .inl (cI, 5, .inl (v 14))), (a 16, .inl (cI, 128, .inl (upd (v 16) b0 (nI x)))), (a 17, .inl (cI, 128, .inl (upd (v 17) b0 y))), (a 18, .inl (cI, 128, .inl (upd (v 18) b0 lv)))] := hD
    refine lv_aload_n hx hb dX5_hold_46 rfl (lv_at hl 1 rfl) ?_
    refine va_get (D := D) (ci := 5) (v := .ref (a 11)) (C := RX5) (T := TX5) (N := 21) hx hb hts inX5 hown hK hP 0 rfl rfl 11 (by decide) fl38 (fun _ h9 => h9) rfl dX5_hold_47 ?_
    refine lv_iconst (v := 5) hx hb dX5_hold_50 (by decide) ?_
    refine lv_aload_n hx hb dX5_hold_51 rfl (lv_at hl 1 rfl) ?_
    refine va_get (D := D) (ci := 5) (v := .int (o + 1)) (C := RX5) (T := TX5) (N := 21) hx hb hts inX5 hown hK hP 0 rfl rfl 20 (by decide) fl87 (fun _ h9 => h9) rfl dX5_hold_52 ?_
    refine lv_aload_n hx hb dX5_hold_55 rfl (lv_at hl 1 rfl) ?_
    refine va_get (D := D) (ci := 5) (v := .ref (a 11)) (C := RX5) (T := TX5) (N := 21) hx hb hts inX5 hown hK hP 0 rfl rfl 11 (by decide) fl38 (fun _ h9 => h9) rfl dX5_hold_56 ?_
    refine lv_iconst (v := 5) hx hb dX5_hold_59 (by decide) ?_
    refine xi_ald hx hb hK hP 10 0 rfl rfl (k := 5) (by omega) (by decide) dX5_hold_60 ?_
    refine tp (y := (v 11 5)) (pk_un (by decide)) ?_
    refine lv_icmp_le (tgt := 71) hx hb dX5_hold_61 (by decide) (fun c_61 => ?_) (fun c_61 => ?_)
    · refine lv_aload_n hx hb dX5_hold_71 rfl (lv_at hl 1 rfl) ?_
      refine va_get (D := D) (ci := 5) (v := .ref (a 11)) (C := RX5) (T := TX5) (N := 21) hx hb hts inX5 hown hK hP 0 rfl rfl 11 (by decide) fl38 (fun _ h9 => h9) rfl dX5_hold_72 ?_
      refine lv_iconst (v := 5) hx hb dX5_hold_75 (by decide) ?_
      refine xi_ald hx hb hK hP 10 0 rfl rfl (k := 5) (by omega) (by decide) dX5_hold_76 ?_
      refine tp (y := (if v 11 5 < o + 1 then o + 1 else v 11 5)) ((pk_un (by decide)).trans (if_neg (Int32.not_lt.mpr c_61)).symm) ?_
      refine xi_ast hx hb hK hP hD hS 10 0 rfl rfl (k := 5) (x := (if v 11 5 < o + 1 then o + 1 else v 11 5)) (by omega) (by decide) dX5_hold_77 (fun H locs hP hD hS => ?_)
      have hP : va_P D vwCl [(a 0, .inr (5, [.int t, .ref (a 1), .ref (a 2), .ref (a 3), .ref (a 4), .ref (a 5), .ref (a 6), .ref (a 7), .ref (a 8), .ref (a 9), .int r, .ref (a 11), .ref (a 12), .ref (a 13), .ref (a 14), .int lv, .ref (a 16), .ref (a 17), .ref (a 18), .int (nI (b0 + 1)), .int (o + 1)])), (a 1, .inl (cI, 6, .inl (v 1))), (a 2, .inl (cI, 240, .inl (v 2))), (a 3, .inl (cI, 240, .inl (v 3))), (a 4, .inl (cI, 240, .inl (v 4))), (a 5, .inl (cI, 240, .inl (v 5))), (a 6, .inl (cZ, 8, .inl (v 6))), (a 7, .inl (cI, 8, .inl (v 7))), (a 8, .inl (cI, 8, .inl (v 8))), (a 9, .inl (cI, 8, .inl (upd (v 9) x (((v 9) x) + 1)))), (a 11, .inl (cI, 8, .inl (upd (upd (v 11) 4 (((v 11) 4) + 1)) 5 (if v 11 5 < o + 1 then o + 1 else v 11 5)))), (a 12, .inl (cI, 10, .inl (v 12))), (a 13, .inl (cI, 5, .inl (v 13))), (a 14, .inl (cI, 5, .inl (v 14))), (a 16, .inl (cI, 128, .inl (upd (v 16) b0 (nI x)))), (a 17, .inl (cI, 128, .inl (upd (v 17) b0 y))), (a 18, .inl (cI, 128, .inl (upd (v 18) b0 lv)))] H := hP
      have hD : va_D A [(a 0, .inr (5, [.int t, .ref (a 1), .ref (a 2), .ref (a 3), .ref (a 4), .ref (a 5), .ref (a 6), .ref (a 7), .ref (a 8), .ref (a 9), .int r, .ref (a 11), .ref (a 12), .ref (a 13), .ref (a 14), .int lv, .ref (a 16), .ref (a 17), .ref (a 18), .int (nI (b0 + 1)), .int (o + 1)])), (a 1, .inl (cI, 6, .inl (v 1))), (a 2, .inl (cI, 240, .inl (v 2))), (a 3, .inl (cI, 240, .inl (v 3))), (a 4, .inl (cI, 240, .inl (v 4))), (a 5, .inl (cI, 240, .inl (v 5))), (a 6, .inl (cZ, 8, .inl (v 6))), (a 7, .inl (cI, 8, .inl (v 7))), (a 8, .inl (cI, 8, .inl (v 8))), (a 9, .inl (cI, 8, .inl (upd (v 9) x (((v 9) x) + 1)))), (a 11, .inl (cI, 8, .inl (upd (upd (v 11) 4 (((v 11) 4) + 1)) 5 (if v 11 5 < o + 1 then o + 1 else v 11 5)))), (a 12, .inl (cI, 10, .inl (v 12))), (a 13, .inl (cI, 5, .inl (v 13))), (a 14, .inl (cI, 5, .inl (v 14))), (a 16, .inl (cI, 128, .inl (upd (v 16) b0 (nI x)))), (a 17, .inl (cI, 128, .inl (upd (v 17) b0 y))), (a 18, .inl (cI, 128, .inl (upd (v 18) b0 lv)))] := hD
      refine lv_iload_n hx hb dX5_hold_78 rfl (lv_at hl 0 rfl) ?_
      exact Ri (D := D) ((va_up (va_up (va_up (va_up (va_up v 16 (upd (v 16) b0 (nI x))) 17 (upd (v 17) b0 y)) 18 (upd (v 18) b0 lv)) 9 (upd (v 9) x (v 9 x + 1))) 11 (upd (upd (v 11) 4 (v 11 4 + 1)) 5 (if v 11 5 < o + 1 then o + 1 else v 11 5))), nI (b0 + 1), o + 1) hx hb hr rfl hlocks hP hD hS (Or.inr ⟨c_7, by rw [c_7]; rfl, rfl⟩) dX5_hold_79
    · refine lv_aload_n hx hb dX5_hold_64 rfl (lv_at hl 1 rfl) ?_
      refine va_get (D := D) (ci := 5) (v := .int (o + 1)) (C := RX5) (T := TX5) (N := 21) hx hb hts inX5 hown hK hP 0 rfl rfl 20 (by decide) fl87 (fun _ h9 => h9) rfl dX5_hold_65 ?_
      refine lv_goto (tgt := 77) hx hb dX5_hold_68 (by decide) ?_
      refine tp (y := (if v 11 5 < o + 1 then o + 1 else v 11 5)) ((if_pos (Int32.not_le.mp c_61)).symm) ?_
      refine xi_ast hx hb hK hP hD hS 10 0 rfl rfl (k := 5) (x := (if v 11 5 < o + 1 then o + 1 else v 11 5)) (by omega) (by decide) dX5_hold_77 (fun H locs hP hD hS => ?_)
      have hP : va_P D vwCl [(a 0, .inr (5, [.int t, .ref (a 1), .ref (a 2), .ref (a 3), .ref (a 4), .ref (a 5), .ref (a 6), .ref (a 7), .ref (a 8), .ref (a 9), .int r, .ref (a 11), .ref (a 12), .ref (a 13), .ref (a 14), .int lv, .ref (a 16), .ref (a 17), .ref (a 18), .int (nI (b0 + 1)), .int (o + 1)])), (a 1, .inl (cI, 6, .inl (v 1))), (a 2, .inl (cI, 240, .inl (v 2))), (a 3, .inl (cI, 240, .inl (v 3))), (a 4, .inl (cI, 240, .inl (v 4))), (a 5, .inl (cI, 240, .inl (v 5))), (a 6, .inl (cZ, 8, .inl (v 6))), (a 7, .inl (cI, 8, .inl (v 7))), (a 8, .inl (cI, 8, .inl (v 8))), (a 9, .inl (cI, 8, .inl (upd (v 9) x (((v 9) x) + 1)))), (a 11, .inl (cI, 8, .inl (upd (upd (v 11) 4 (((v 11) 4) + 1)) 5 (if v 11 5 < o + 1 then o + 1 else v 11 5)))), (a 12, .inl (cI, 10, .inl (v 12))), (a 13, .inl (cI, 5, .inl (v 13))), (a 14, .inl (cI, 5, .inl (v 14))), (a 16, .inl (cI, 128, .inl (upd (v 16) b0 (nI x)))), (a 17, .inl (cI, 128, .inl (upd (v 17) b0 y))), (a 18, .inl (cI, 128, .inl (upd (v 18) b0 lv)))] H := hP
      have hD : va_D A [(a 0, .inr (5, [.int t, .ref (a 1), .ref (a 2), .ref (a 3), .ref (a 4), .ref (a 5), .ref (a 6), .ref (a 7), .ref (a 8), .ref (a 9), .int r, .ref (a 11), .ref (a 12), .ref (a 13), .ref (a 14), .int lv, .ref (a 16), .ref (a 17), .ref (a 18), .int (nI (b0 + 1)), .int (o + 1)])), (a 1, .inl (cI, 6, .inl (v 1))), (a 2, .inl (cI, 240, .inl (v 2))), (a 3, .inl (cI, 240, .inl (v 3))), (a 4, .inl (cI, 240, .inl (v 4))), (a 5, .inl (cI, 240, .inl (v 5))), (a 6, .inl (cZ, 8, .inl (v 6))), (a 7, .inl (cI, 8, .inl (v 7))), (a 8, .inl (cI, 8, .inl (v 8))), (a 9, .inl (cI, 8, .inl (upd (v 9) x (((v 9) x) + 1)))), (a 11, .inl (cI, 8, .inl (upd (upd (v 11) 4 (((v 11) 4) + 1)) 5 (if v 11 5 < o + 1 then o + 1 else v 11 5)))), (a 12, .inl (cI, 10, .inl (v 12))), (a 13, .inl (cI, 5, .inl (v 13))), (a 14, .inl (cI, 5, .inl (v 14))), (a 16, .inl (cI, 128, .inl (upd (v 16) b0 (nI x)))), (a 17, .inl (cI, 128, .inl (upd (v 17) b0 y))), (a 18, .inl (cI, 128, .inl (upd (v 18) b0 lv)))] := hD
      refine lv_iload_n hx hb dX5_hold_78 rfl (lv_at hl 0 rfl) ?_
      exact Ri (D := D) ((va_up (va_up (va_up (va_up (va_up v 16 (upd (v 16) b0 (nI x))) 17 (upd (v 17) b0 y)) 18 (upd (v 18) b0 lv)) 9 (upd (v 9) x (v 9 x + 1))) 11 (upd (upd (v 11) 4 (v 11 4 + 1)) 5 (if v 11 5 < o + 1 then o + 1 else v 11 5))), nI (b0 + 1), o + 1) hx hb hr rfl hlocks hP hD hS (Or.inr ⟨c_7, by rw [c_7]; rfl, rfl⟩) dX5_hold_79

set_option maxHeartbeats 4000000 in
set_option maxRecDepth 100000 in
theorem c_X5_changeP (l : Launch) (D : va_G) (cI cZ : ClassId) (a : Nat → Nat) (v : Nat → Nat → Int32) (t r lv b o : Int32) (th : Nat → Bool) (hz : zk (v 6) th) (go hd : Nat → Nat) (hg : gk (v 7) go) (hh : hok (v 9) hd) (x : Nat) (hx16 : x < 16) (n : Nat) (hn16 : n < 16) : Ci l D [(cI, .int), (cZ, .boolean)] yX5_change wsX5_change ({ frames := 1, cells := 0, slots := 0, locals := 21 }) [.ref (a 0), .int 3, .int (nI x), .int (nI n)] (wM a cI cZ v t r lv b o) (S := Nat → Int32) (fun w u => w = nI (A_put th go hd x n).1 ∧ gk u (A_put th go hd x n).2) (fun u => wM a cI cZ (va_up v 7 u) t r lv b o) := by
  refine Ci.mk (cc := cX5_change) (maxL := 6) (ret := (some .int)) (by decide +kernel) rfl (Nat.le_of_ble_eq_true rfl) ?_
  intro pg e s m below meth c A ls hx hb hml hr hown hts hlocks hK hns hA hP hD hS hl
  have hl : lv_has ls 6 [(0, .ref (a 0)), (1, .int 3), (2, .int (nI x)), (3, .int (nI n))] := hl
  have fl35 := hts (.fieldLink RX5 35 "HeldShelvesModel" "held" "[I") (List.mem_of_getElem? (i := 1) rfl)
  have inX5 : ∀ w ∈ wsX50, w ∈ wsX5_change := fun _ h => List.mem_cons_of_mem _ (List.mem_append_right _ h)
  have fl29 := hts (.fieldLink RX5 29 "HeldShelvesModel" "goods" "[I") (List.mem_of_getElem? (i := 2) rfl)
  have hP : va_P D vwCl [(a 0, .inr (5, [.int t, .ref (a 1), .ref (a 2), .ref (a 3), .ref (a 4), .ref (a 5), .ref (a 6), .ref (a 7), .ref (a 8), .ref (a 9), .int r, .ref (a 11), .ref (a 12), .ref (a 13), .ref (a 14), .int lv, .ref (a 16), .ref (a 17), .ref (a 18), .int b, .int o])), (a 1, .inl (cI, 6, .inl (v 1))), (a 2, .inl (cI, 240, .inl (v 2))), (a 3, .inl (cI, 240, .inl (v 3))), (a 4, .inl (cI, 240, .inl (v 4))), (a 5, .inl (cI, 240, .inl (v 5))), (a 6, .inl (cZ, 8, .inl (v 6))), (a 7, .inl (cI, 8, .inl (v 7))), (a 8, .inl (cI, 8, .inl (v 8))), (a 9, .inl (cI, 8, .inl (v 9))), (a 11, .inl (cI, 8, .inl (v 11))), (a 12, .inl (cI, 10, .inl (v 12))), (a 13, .inl (cI, 5, .inl (v 13))), (a 14, .inl (cI, 5, .inl (v 14))), (a 16, .inl (cI, 128, .inl (v 16))), (a 17, .inl (cI, 128, .inl (v 17))), (a 18, .inl (cI, 128, .inl (v 18)))] s.heap := hP
  have hD : va_D A [(a 0, .inr (5, [.int t, .ref (a 1), .ref (a 2), .ref (a 3), .ref (a 4), .ref (a 5), .ref (a 6), .ref (a 7), .ref (a 8), .ref (a 9), .int r, .ref (a 11), .ref (a 12), .ref (a 13), .ref (a 14), .int lv, .ref (a 16), .ref (a 17), .ref (a 18), .int b, .int o])), (a 1, .inl (cI, 6, .inl (v 1))), (a 2, .inl (cI, 240, .inl (v 2))), (a 3, .inl (cI, 240, .inl (v 3))), (a 4, .inl (cI, 240, .inl (v 4))), (a 5, .inl (cI, 240, .inl (v 5))), (a 6, .inl (cZ, 8, .inl (v 6))), (a 7, .inl (cI, 8, .inl (v 7))), (a 8, .inl (cI, 8, .inl (v 8))), (a 9, .inl (cI, 8, .inl (v 9))), (a 11, .inl (cI, 8, .inl (v 11))), (a 12, .inl (cI, 10, .inl (v 12))), (a 13, .inl (cI, 5, .inl (v 13))), (a 14, .inl (cI, 5, .inl (v 14))), (a 16, .inl (cI, 128, .inl (v 16))), (a 17, .inl (cI, 128, .inl (v 17))), (a 18, .inl (cI, 128, .inl (v 18)))] := hD
  have hm := mis_le (th := th) (s := x)
  refine lv_aload_n hx hb dX5_change_0 rfl (lv_at hl 0 rfl) ?_
  refine lv_iload_n hx hb dX5_change_1 rfl (lv_at hl 2 rfl) ?_
  refine cl_Vi ([]) ([]) (As := [.int (nI x)]) (rest := []) (c_X5_wrongShelf l D cI cZ a v t r lv b o th hz x hx16) ⟨hx, hb, hml, hown, hts⟩ (cwV 1 hts gX5_change_X5_wrongShelf rfl rfl rfl (by decide +kernel) ⟨Nat.le_of_ble_eq_true rfl, Nat.le_of_ble_eq_true rfl⟩) hK hns hP hD hS hA rfl (T := TX5) (N := 21) rfl rfl hl.1 rfl (Nat.le_of_ble_eq_true rfl) dX5_change_2 ⟨Nat.zero_le _, Nat.zero_le _⟩ (fun r2 u2 H locs hw2 hP hD hS => ?_)
  have hP : va_P D vwCl [(a 0, .inr (5, [.int t, .ref (a 1), .ref (a 2), .ref (a 3), .ref (a 4), .ref (a 5), .ref (a 6), .ref (a 7), .ref (a 8), .ref (a 9), .int r, .ref (a 11), .ref (a 12), .ref (a 13), .ref (a 14), .int lv, .ref (a 16), .ref (a 17), .ref (a 18), .int b, .int o])), (a 1, .inl (cI, 6, .inl (v 1))), (a 2, .inl (cI, 240, .inl (v 2))), (a 3, .inl (cI, 240, .inl (v 3))), (a 4, .inl (cI, 240, .inl (v 4))), (a 5, .inl (cI, 240, .inl (v 5))), (a 6, .inl (cZ, 8, .inl (v 6))), (a 7, .inl (cI, 8, .inl (v 7))), (a 8, .inl (cI, 8, .inl (v 8))), (a 9, .inl (cI, 8, .inl (v 9))), (a 11, .inl (cI, 8, .inl (v 11))), (a 12, .inl (cI, 10, .inl (v 12))), (a 13, .inl (cI, 5, .inl (v 13))), (a 14, .inl (cI, 5, .inl (v 14))), (a 16, .inl (cI, 128, .inl (v 16))), (a 17, .inl (cI, 128, .inl (v 17))), (a 18, .inl (cI, 128, .inl (v 18)))] H := hP
  have hD : va_D A [(a 0, .inr (5, [.int t, .ref (a 1), .ref (a 2), .ref (a 3), .ref (a 4), .ref (a 5), .ref (a 6), .ref (a 7), .ref (a 8), .ref (a 9), .int r, .ref (a 11), .ref (a 12), .ref (a 13), .ref (a 14), .int lv, .ref (a 16), .ref (a 17), .ref (a 18), .int b, .int o])), (a 1, .inl (cI, 6, .inl (v 1))), (a 2, .inl (cI, 240, .inl (v 2))), (a 3, .inl (cI, 240, .inl (v 3))), (a 4, .inl (cI, 240, .inl (v 4))), (a 5, .inl (cI, 240, .inl (v 5))), (a 6, .inl (cZ, 8, .inl (v 6))), (a 7, .inl (cI, 8, .inl (v 7))), (a 8, .inl (cI, 8, .inl (v 8))), (a 9, .inl (cI, 8, .inl (v 9))), (a 11, .inl (cI, 8, .inl (v 11))), (a 12, .inl (cI, 10, .inl (v 12))), (a 13, .inl (cI, 5, .inl (v 13))), (a 14, .inl (cI, 5, .inl (v 14))), (a 16, .inl (cI, 128, .inl (v 16))), (a 17, .inl (cI, 128, .inl (v 17))), (a 18, .inl (cI, 128, .inl (v 18)))] := hD
  subst hw2
  refine lv_istore (lv' := [(4, .int (nI (mis th x))), (0, .ref (a 0)), (1, .int 3), (2, .int (nI x)), (3, .int (nI n))]) hx hb dX5_change_5 hl (by decide) rfl (fun ls hl => ?_)
  refine lv_iload hx hb dX5_change_7 (lv_at hl 0 rfl) ?_
  refine lv_if_eq (tgt := 15) hx hb dX5_change_9 (by decide) (fun c_9 => ?_) (fun c_9 => ?_)
  · have c_9 : (mis th x) = 0 := (nI_eq (a := (mis th x)) (b := 0) (by omega) (by omega)).mp c_9
    have h8 := mis_0 c_9
    have hgv := hg x h8.1
    have hhv := hh x h8.1
    refine lv_aload_n hx hb dX5_change_15 rfl (lv_at hl 1 rfl) ?_
    refine va_get (D := D) (ci := 5) (v := .ref (a 9)) (C := RX5) (T := TX5) (N := 21) hx hb hts inX5 hown hK hP 0 rfl rfl 9 (by decide) fl35 (fun _ h9 => h9) rfl dX5_change_16 ?_
    refine lv_iload_n hx hb dX5_change_19 rfl (lv_at hl 3 rfl) ?_
    refine xi_ald hx hb hK hP 9 0 rfl rfl (k := x) (by omega) (by decide) dX5_change_20 ?_
    refine tp (y := nI (hd x)) (hhv.1) ?_
    refine lv_if_ne (tgt := 27) hx hb dX5_change_21 (by decide) (fun c_21 => ?_) (fun c_21 => ?_)
    · have c_21 : ¬ ((hd x) = 0) := fun h => c_21 ((nI_eq (a := (hd x)) (b := 0) (by omega) (by omega)).mpr h)
      have hml0 := mol_z (th := th) (hd := hd) c_9 c_21
      refine lv_iload_n hx hb dX5_change_27 rfl (lv_at hl 2 rfl) ?_
      refine lv_iconst (v := 5) hx hb dX5_change_28 (by decide) ?_
      refine lv_icmp_ne (tgt := 76) hx hb dX5_change_29 (by decide) (fun _ => ?_) (fun c9 => absurd c9 (by decide))
      refine lv_iload_n hx hb dX5_change_76 rfl (lv_at hl 2 rfl) ?_
      refine lv_iconst (v := 3) hx hb dX5_change_77 (by decide) ?_
      refine lv_icmp_ne (tgt := 92) hx hb dX5_change_78 (by decide) (fun c9 => absurd rfl c9) (fun _ => ?_)
      refine lv_aload_n hx hb dX5_change_81 rfl (lv_at hl 1 rfl) ?_
      refine va_get (D := D) (ci := 5) (v := .ref (a 7)) (C := RX5) (T := TX5) (N := 21) hx hb hts inX5 hown hK hP 0 rfl rfl 7 (by decide) fl29 (fun _ h9 => h9) rfl dX5_change_82 ?_
      refine lv_iload_n hx hb dX5_change_85 rfl (lv_at hl 3 rfl) ?_
      refine xi_ald hx hb hK hP 7 0 rfl rfl (k := x) (by omega) (by decide) dX5_change_86 ?_
      refine tp (y := nI (go x)) (hgv.1) ?_
      refine lv_iload_n hx hb dX5_change_87 rfl (lv_at hl 4 rfl) ?_
      refine lv_iadd hx hb dX5_change_88 ?_
      refine lv_goto (tgt := 100) hx hb dX5_change_89 (by decide) ?_
      refine tp (y := nI (go x + n)) (nI_add _ _) ?_
      refine lv_istore (lv' := [(5, .int (nI (go x + n))), (4, .int (nI (mis th x))), (0, .ref (a 0)), (1, .int 3), (2, .int (nI x)), (3, .int (nI n))]) hx hb dX5_change_100 hl (by decide) rfl (fun ls hl => ?_)
      refine lv_iload hx hb dX5_change_102 (lv_at hl 0 rfl) ?_
      refine lv_if_lt (tgt := 115) hx hb dX5_change_104 (by decide) (fun c_104 => ?_) (fun c_104 => ?_)
      · have c_104 : (go x + n) < 0 := (nI_ltI (a := (go x + n)) (b := 0) (by omega) (by omega)).mp c_104
        exact absurd c_104 (by omega)
      · have c_104 : ¬ ((go x + n) < 0) := fun h => c_104 ((nI_ltI (a := (go x + n)) (b := 0) (by omega) (by omega)).mpr h)
        refine lv_iload hx hb dX5_change_107 (lv_at hl 0 rfl) ?_
        refine lv_sipush (v := 1000) hx hb dX5_change_109 (by decide) ?_
        refine lv_icmp_le (tgt := 126) hx hb dX5_change_112 (by decide) (fun c_112 => ?_) (fun c_112 => ?_)
        · have c_112 : (go x + n) ≤ 1000 := (nI_leI (a := (go x + n)) (b := 1000) (by omega) (by omega)).mp c_112
          refine lv_aload_n hx hb dX5_change_126 rfl (lv_at hl 2 rfl) ?_
          refine va_get (D := D) (ci := 5) (v := .ref (a 7)) (C := RX5) (T := TX5) (N := 21) hx hb hts inX5 hown hK hP 0 rfl rfl 7 (by decide) fl29 (fun _ h9 => h9) rfl dX5_change_127 ?_
          refine lv_iload_n hx hb dX5_change_130 rfl (lv_at hl 4 rfl) ?_
          refine lv_iload hx hb dX5_change_131 (lv_at hl 0 rfl) ?_
          refine xi_ast hx hb hK hP hD hS 7 0 rfl rfl (k := x) (x := (nI (go x + n))) (by omega) (by decide) dX5_change_133 (fun H locs hP hD hS => ?_)
          have hP : va_P D vwCl [(a 0, .inr (5, [.int t, .ref (a 1), .ref (a 2), .ref (a 3), .ref (a 4), .ref (a 5), .ref (a 6), .ref (a 7), .ref (a 8), .ref (a 9), .int r, .ref (a 11), .ref (a 12), .ref (a 13), .ref (a 14), .int lv, .ref (a 16), .ref (a 17), .ref (a 18), .int b, .int o])), (a 1, .inl (cI, 6, .inl (v 1))), (a 2, .inl (cI, 240, .inl (v 2))), (a 3, .inl (cI, 240, .inl (v 3))), (a 4, .inl (cI, 240, .inl (v 4))), (a 5, .inl (cI, 240, .inl (v 5))), (a 6, .inl (cZ, 8, .inl (v 6))), (a 7, .inl (cI, 8, .inl (upd (v 7) x (nI (go x + n))))), (a 8, .inl (cI, 8, .inl (v 8))), (a 9, .inl (cI, 8, .inl (v 9))), (a 11, .inl (cI, 8, .inl (v 11))), (a 12, .inl (cI, 10, .inl (v 12))), (a 13, .inl (cI, 5, .inl (v 13))), (a 14, .inl (cI, 5, .inl (v 14))), (a 16, .inl (cI, 128, .inl (v 16))), (a 17, .inl (cI, 128, .inl (v 17))), (a 18, .inl (cI, 128, .inl (v 18)))] H := hP
          have hD : va_D A [(a 0, .inr (5, [.int t, .ref (a 1), .ref (a 2), .ref (a 3), .ref (a 4), .ref (a 5), .ref (a 6), .ref (a 7), .ref (a 8), .ref (a 9), .int r, .ref (a 11), .ref (a 12), .ref (a 13), .ref (a 14), .int lv, .ref (a 16), .ref (a 17), .ref (a 18), .int b, .int o])), (a 1, .inl (cI, 6, .inl (v 1))), (a 2, .inl (cI, 240, .inl (v 2))), (a 3, .inl (cI, 240, .inl (v 3))), (a 4, .inl (cI, 240, .inl (v 4))), (a 5, .inl (cI, 240, .inl (v 5))), (a 6, .inl (cZ, 8, .inl (v 6))), (a 7, .inl (cI, 8, .inl (upd (v 7) x (nI (go x + n))))), (a 8, .inl (cI, 8, .inl (v 8))), (a 9, .inl (cI, 8, .inl (v 9))), (a 11, .inl (cI, 8, .inl (v 11))), (a 12, .inl (cI, 10, .inl (v 12))), (a 13, .inl (cI, 5, .inl (v 13))), (a 14, .inl (cI, 5, .inl (v 14))), (a 16, .inl (cI, 128, .inl (v 16))), (a 17, .inl (cI, 128, .inl (v 17))), (a 18, .inl (cI, 128, .inl (v 18)))] := hD
          refine lv_iconst (v := 0) hx hb dX5_change_134 (by decide) ?_
          exact Ri (D := D) (upd (v 7) x (nI (go x + n))) hx hb hr rfl hlocks hP hD hS (by rw [A_put, if_pos hml0, if_neg (by omega)]; exact ⟨rfl, gk_up hg (by omega)⟩) dX5_change_135
        · have c_112 : ¬ ((go x + n) ≤ 1000) := fun h => c_112 ((nI_leI (a := (go x + n)) (b := 1000) (by omega) (by omega)).mpr h)
          refine lv_iload hx hb dX5_change_115 (lv_at hl 0 rfl) ?_
          refine lv_if_ge (tgt := 124) hx hb dX5_change_117 (by decide) (fun c_117 => ?_) (fun c_117 => ?_)
          · have c_117 : 0 ≤ (go x + n) := (nI_leI (a := 0) (b := (go x + n)) (by omega) (by omega)).mp c_117
            refine lv_iconst (v := 5) hx hb dX5_change_124 (by decide) ?_
            exact Ri (D := D) (v 7) hx hb hr rfl hlocks hP hD hS (by rw [A_put, if_pos hml0, if_pos (by omega)]; exact ⟨rfl, hg⟩) dX5_change_125
          · have c_117 : ¬ (0 ≤ (go x + n)) := fun h => c_117 ((nI_leI (a := 0) (b := (go x + n)) (by omega) (by omega)).mpr h)
            exact absurd c_117 (by omega)
    · have c_21 : (hd x) = 0 := (nI_eq (a := (hd x)) (b := 0) (by omega) (by omega)).mp c_21
      refine lv_bipush (v := 7) hx hb dX5_change_24 (by decide) ?_
      exact Ri (D := D) (v 7) hx hb hr rfl hlocks hP hD hS (by rw [A_put, mol_l c_9 c_21, if_neg (by decide)]; exact ⟨rfl, hg⟩) dX5_change_26
  · have c_9 : ¬ ((mis th x) = 0) := fun h => c_9 ((nI_eq (a := (mis th x)) (b := 0) (by omega) (by omega)).mpr h)
    refine lv_iload hx hb dX5_change_12 (lv_at hl 0 rfl) ?_
    exact Ri (D := D) (v 7) hx hb hr rfl hlocks hP hD hS (by rw [A_put, mol_m c_9, if_neg c_9]; exact ⟨rfl, hg⟩) dX5_change_14

set_option maxHeartbeats 4000000 in
set_option maxRecDepth 100000 in
theorem c_X5_changeT (l : Launch) (D : va_G) (cI cZ : ClassId) (a : Nat → Nat) (v : Nat → Nat → Int32) (t r lv b o : Int32) (th : Nat → Bool) (hz : zk (v 6) th) (go hd : Nat → Nat) (hg : gk (v 7) go) (hh : hok (v 9) hd) (x : Nat) (hx16 : x < 16) (n : Nat) (hn16 : n < 16) : Ci l D [(cI, .int), (cZ, .boolean)] yX5_change wsX5_change ({ frames := 1, cells := 0, slots := 0, locals := 21 }) [.ref (a 0), .int 4, .int (nI x), .int (nI n)] (wM a cI cZ v t r lv b o) (S := Nat → Int32) (fun w u => w = nI (A_take th go hd x n).1 ∧ gk u (A_take th go hd x n).2) (fun u => wM a cI cZ (va_up v 7 u) t r lv b o) := by
  refine Ci.mk (cc := cX5_change) (maxL := 6) (ret := (some .int)) (by decide +kernel) rfl (Nat.le_of_ble_eq_true rfl) ?_
  intro pg e s m below meth c A ls hx hb hml hr hown hts hlocks hK hns hA hP hD hS hl
  have hl : lv_has ls 6 [(0, .ref (a 0)), (1, .int 4), (2, .int (nI x)), (3, .int (nI n))] := hl
  have fl35 := hts (.fieldLink RX5 35 "HeldShelvesModel" "held" "[I") (List.mem_of_getElem? (i := 1) rfl)
  have inX5 : ∀ w ∈ wsX50, w ∈ wsX5_change := fun _ h => List.mem_cons_of_mem _ (List.mem_append_right _ h)
  have fl29 := hts (.fieldLink RX5 29 "HeldShelvesModel" "goods" "[I") (List.mem_of_getElem? (i := 2) rfl)
  have hP : va_P D vwCl [(a 0, .inr (5, [.int t, .ref (a 1), .ref (a 2), .ref (a 3), .ref (a 4), .ref (a 5), .ref (a 6), .ref (a 7), .ref (a 8), .ref (a 9), .int r, .ref (a 11), .ref (a 12), .ref (a 13), .ref (a 14), .int lv, .ref (a 16), .ref (a 17), .ref (a 18), .int b, .int o])), (a 1, .inl (cI, 6, .inl (v 1))), (a 2, .inl (cI, 240, .inl (v 2))), (a 3, .inl (cI, 240, .inl (v 3))), (a 4, .inl (cI, 240, .inl (v 4))), (a 5, .inl (cI, 240, .inl (v 5))), (a 6, .inl (cZ, 8, .inl (v 6))), (a 7, .inl (cI, 8, .inl (v 7))), (a 8, .inl (cI, 8, .inl (v 8))), (a 9, .inl (cI, 8, .inl (v 9))), (a 11, .inl (cI, 8, .inl (v 11))), (a 12, .inl (cI, 10, .inl (v 12))), (a 13, .inl (cI, 5, .inl (v 13))), (a 14, .inl (cI, 5, .inl (v 14))), (a 16, .inl (cI, 128, .inl (v 16))), (a 17, .inl (cI, 128, .inl (v 17))), (a 18, .inl (cI, 128, .inl (v 18)))] s.heap := hP
  have hD : va_D A [(a 0, .inr (5, [.int t, .ref (a 1), .ref (a 2), .ref (a 3), .ref (a 4), .ref (a 5), .ref (a 6), .ref (a 7), .ref (a 8), .ref (a 9), .int r, .ref (a 11), .ref (a 12), .ref (a 13), .ref (a 14), .int lv, .ref (a 16), .ref (a 17), .ref (a 18), .int b, .int o])), (a 1, .inl (cI, 6, .inl (v 1))), (a 2, .inl (cI, 240, .inl (v 2))), (a 3, .inl (cI, 240, .inl (v 3))), (a 4, .inl (cI, 240, .inl (v 4))), (a 5, .inl (cI, 240, .inl (v 5))), (a 6, .inl (cZ, 8, .inl (v 6))), (a 7, .inl (cI, 8, .inl (v 7))), (a 8, .inl (cI, 8, .inl (v 8))), (a 9, .inl (cI, 8, .inl (v 9))), (a 11, .inl (cI, 8, .inl (v 11))), (a 12, .inl (cI, 10, .inl (v 12))), (a 13, .inl (cI, 5, .inl (v 13))), (a 14, .inl (cI, 5, .inl (v 14))), (a 16, .inl (cI, 128, .inl (v 16))), (a 17, .inl (cI, 128, .inl (v 17))), (a 18, .inl (cI, 128, .inl (v 18)))] := hD
  have hm := mis_le (th := th) (s := x)
  refine lv_aload_n hx hb dX5_change_0 rfl (lv_at hl 0 rfl) ?_
  refine lv_iload_n hx hb dX5_change_1 rfl (lv_at hl 2 rfl) ?_
  refine cl_Vi ([]) ([]) (As := [.int (nI x)]) (rest := []) (c_X5_wrongShelf l D cI cZ a v t r lv b o th hz x hx16) ⟨hx, hb, hml, hown, hts⟩ (cwV 1 hts gX5_change_X5_wrongShelf rfl rfl rfl (by decide +kernel) ⟨Nat.le_of_ble_eq_true rfl, Nat.le_of_ble_eq_true rfl⟩) hK hns hP hD hS hA rfl (T := TX5) (N := 21) rfl rfl hl.1 rfl (Nat.le_of_ble_eq_true rfl) dX5_change_2 ⟨Nat.zero_le _, Nat.zero_le _⟩ (fun r2 u2 H locs hw2 hP hD hS => ?_)
  have hP : va_P D vwCl [(a 0, .inr (5, [.int t, .ref (a 1), .ref (a 2), .ref (a 3), .ref (a 4), .ref (a 5), .ref (a 6), .ref (a 7), .ref (a 8), .ref (a 9), .int r, .ref (a 11), .ref (a 12), .ref (a 13), .ref (a 14), .int lv, .ref (a 16), .ref (a 17), .ref (a 18), .int b, .int o])), (a 1, .inl (cI, 6, .inl (v 1))), (a 2, .inl (cI, 240, .inl (v 2))), (a 3, .inl (cI, 240, .inl (v 3))), (a 4, .inl (cI, 240, .inl (v 4))), (a 5, .inl (cI, 240, .inl (v 5))), (a 6, .inl (cZ, 8, .inl (v 6))), (a 7, .inl (cI, 8, .inl (v 7))), (a 8, .inl (cI, 8, .inl (v 8))), (a 9, .inl (cI, 8, .inl (v 9))), (a 11, .inl (cI, 8, .inl (v 11))), (a 12, .inl (cI, 10, .inl (v 12))), (a 13, .inl (cI, 5, .inl (v 13))), (a 14, .inl (cI, 5, .inl (v 14))), (a 16, .inl (cI, 128, .inl (v 16))), (a 17, .inl (cI, 128, .inl (v 17))), (a 18, .inl (cI, 128, .inl (v 18)))] H := hP
  have hD : va_D A [(a 0, .inr (5, [.int t, .ref (a 1), .ref (a 2), .ref (a 3), .ref (a 4), .ref (a 5), .ref (a 6), .ref (a 7), .ref (a 8), .ref (a 9), .int r, .ref (a 11), .ref (a 12), .ref (a 13), .ref (a 14), .int lv, .ref (a 16), .ref (a 17), .ref (a 18), .int b, .int o])), (a 1, .inl (cI, 6, .inl (v 1))), (a 2, .inl (cI, 240, .inl (v 2))), (a 3, .inl (cI, 240, .inl (v 3))), (a 4, .inl (cI, 240, .inl (v 4))), (a 5, .inl (cI, 240, .inl (v 5))), (a 6, .inl (cZ, 8, .inl (v 6))), (a 7, .inl (cI, 8, .inl (v 7))), (a 8, .inl (cI, 8, .inl (v 8))), (a 9, .inl (cI, 8, .inl (v 9))), (a 11, .inl (cI, 8, .inl (v 11))), (a 12, .inl (cI, 10, .inl (v 12))), (a 13, .inl (cI, 5, .inl (v 13))), (a 14, .inl (cI, 5, .inl (v 14))), (a 16, .inl (cI, 128, .inl (v 16))), (a 17, .inl (cI, 128, .inl (v 17))), (a 18, .inl (cI, 128, .inl (v 18)))] := hD
  subst hw2
  refine lv_istore (lv' := [(4, .int (nI (mis th x))), (0, .ref (a 0)), (1, .int 4), (2, .int (nI x)), (3, .int (nI n))]) hx hb dX5_change_5 hl (by decide) rfl (fun ls hl => ?_)
  refine lv_iload hx hb dX5_change_7 (lv_at hl 0 rfl) ?_
  refine lv_if_eq (tgt := 15) hx hb dX5_change_9 (by decide) (fun c_9 => ?_) (fun c_9 => ?_)
  · have c_9 : (mis th x) = 0 := (nI_eq (a := (mis th x)) (b := 0) (by omega) (by omega)).mp c_9
    have h8 := mis_0 c_9
    have hgv := hg x h8.1
    have hhv := hh x h8.1
    refine lv_aload_n hx hb dX5_change_15 rfl (lv_at hl 1 rfl) ?_
    refine va_get (D := D) (ci := 5) (v := .ref (a 9)) (C := RX5) (T := TX5) (N := 21) hx hb hts inX5 hown hK hP 0 rfl rfl 9 (by decide) fl35 (fun _ h9 => h9) rfl dX5_change_16 ?_
    refine lv_iload_n hx hb dX5_change_19 rfl (lv_at hl 3 rfl) ?_
    refine xi_ald hx hb hK hP 9 0 rfl rfl (k := x) (by omega) (by decide) dX5_change_20 ?_
    refine tp (y := nI (hd x)) (hhv.1) ?_
    refine lv_if_ne (tgt := 27) hx hb dX5_change_21 (by decide) (fun c_21 => ?_) (fun c_21 => ?_)
    · have c_21 : ¬ ((hd x) = 0) := fun h => c_21 ((nI_eq (a := (hd x)) (b := 0) (by omega) (by omega)).mpr h)
      have hml0 := mol_z (th := th) (hd := hd) c_9 c_21
      refine lv_iload_n hx hb dX5_change_27 rfl (lv_at hl 2 rfl) ?_
      refine lv_iconst (v := 5) hx hb dX5_change_28 (by decide) ?_
      refine lv_icmp_ne (tgt := 76) hx hb dX5_change_29 (by decide) (fun _ => ?_) (fun c9 => absurd c9 (by decide))
      refine lv_iload_n hx hb dX5_change_76 rfl (lv_at hl 2 rfl) ?_
      refine lv_iconst (v := 3) hx hb dX5_change_77 (by decide) ?_
      refine lv_icmp_ne (tgt := 92) hx hb dX5_change_78 (by decide) (fun _ => ?_) (fun c9 => absurd c9 (by decide))
      refine lv_aload_n hx hb dX5_change_92 rfl (lv_at hl 1 rfl) ?_
      refine va_get (D := D) (ci := 5) (v := .ref (a 7)) (C := RX5) (T := TX5) (N := 21) hx hb hts inX5 hown hK hP 0 rfl rfl 7 (by decide) fl29 (fun _ h9 => h9) rfl dX5_change_93 ?_
      refine lv_iload_n hx hb dX5_change_96 rfl (lv_at hl 3 rfl) ?_
      refine xi_ald hx hb hK hP 7 0 rfl rfl (k := x) (by omega) (by decide) dX5_change_97 ?_
      refine tp (y := nI (go x)) (hgv.1) ?_
      refine lv_iload_n hx hb dX5_change_98 rfl (lv_at hl 4 rfl) ?_
      refine lv_isub hx hb dX5_change_99 ?_
      rcases Nat.lt_or_ge (go x) n with hlt | hge
      · refine lv_istore (lv' := [(5, .int ((nI (go x)) - (nI n))), (4, .int (nI (mis th x))), (0, .ref (a 0)), (1, .int 4), (2, .int (nI x)), (3, .int (nI n))]) hx hb dX5_change_100 hl (by decide) rfl (fun ls hl => ?_)
        refine lv_iload hx hb dX5_change_102 (lv_at hl 0 rfl) ?_
        refine lv_if_lt (tgt := 115) hx hb dX5_change_104 (by decide) (fun c_104 => ?_) (fun c_104 => ?_)
        · refine lv_iload hx hb dX5_change_115 (lv_at hl 0 rfl) ?_
          refine lv_if_ge (tgt := 124) hx hb dX5_change_117 (by decide) (fun c_117 => ?_) (fun c_117 => ?_)
          · exact absurd (pk_sneg (by omega) hlt) (Int32.not_lt.mpr c_117)
          · refine lv_iconst (v := 4) hx hb dX5_change_120 (by decide) ?_
            refine lv_goto (tgt := 125) hx hb dX5_change_121 (by decide) ?_
            exact Ri (D := D) (v 7) hx hb hr rfl hlocks hP hD hS (by rw [A_take, if_pos hml0, if_pos hlt]; exact ⟨rfl, hg⟩) dX5_change_125
        · exact absurd (pk_sneg (by omega) hlt) c_104
      · refine tp (y := nI (go x - n)) (pk_sub hge) ?_
        refine lv_istore (lv' := [(5, .int (nI (go x - n))), (4, .int (nI (mis th x))), (0, .ref (a 0)), (1, .int 4), (2, .int (nI x)), (3, .int (nI n))]) hx hb dX5_change_100 hl (by decide) rfl (fun ls hl => ?_)
        refine lv_iload hx hb dX5_change_102 (lv_at hl 0 rfl) ?_
        refine lv_if_lt (tgt := 115) hx hb dX5_change_104 (by decide) (fun c_104 => ?_) (fun c_104 => ?_)
        · have c_104 : (go x - n) < 0 := (nI_ltI (a := (go x - n)) (b := 0) (by omega) (by omega)).mp c_104
          exact absurd c_104 (by omega)
        · have c_104 : ¬ ((go x - n) < 0) := fun h => c_104 ((nI_ltI (a := (go x - n)) (b := 0) (by omega) (by omega)).mpr h)
          refine lv_iload hx hb dX5_change_107 (lv_at hl 0 rfl) ?_
          refine lv_sipush (v := 1000) hx hb dX5_change_109 (by decide) ?_
          refine lv_icmp_le (tgt := 126) hx hb dX5_change_112 (by decide) (fun c_112 => ?_) (fun c_112 => ?_)
          · have c_112 : (go x - n) ≤ 1000 := (nI_leI (a := (go x - n)) (b := 1000) (by omega) (by omega)).mp c_112
            refine lv_aload_n hx hb dX5_change_126 rfl (lv_at hl 2 rfl) ?_
            refine va_get (D := D) (ci := 5) (v := .ref (a 7)) (C := RX5) (T := TX5) (N := 21) hx hb hts inX5 hown hK hP 0 rfl rfl 7 (by decide) fl29 (fun _ h9 => h9) rfl dX5_change_127 ?_
            refine lv_iload_n hx hb dX5_change_130 rfl (lv_at hl 4 rfl) ?_
            refine lv_iload hx hb dX5_change_131 (lv_at hl 0 rfl) ?_
            refine xi_ast hx hb hK hP hD hS 7 0 rfl rfl (k := x) (x := (nI (go x - n))) (by omega) (by decide) dX5_change_133 (fun H locs hP hD hS => ?_)
            have hP : va_P D vwCl [(a 0, .inr (5, [.int t, .ref (a 1), .ref (a 2), .ref (a 3), .ref (a 4), .ref (a 5), .ref (a 6), .ref (a 7), .ref (a 8), .ref (a 9), .int r, .ref (a 11), .ref (a 12), .ref (a 13), .ref (a 14), .int lv, .ref (a 16), .ref (a 17), .ref (a 18), .int b, .int o])), (a 1, .inl (cI, 6, .inl (v 1))), (a 2, .inl (cI, 240, .inl (v 2))), (a 3, .inl (cI, 240, .inl (v 3))), (a 4, .inl (cI, 240, .inl (v 4))), (a 5, .inl (cI, 240, .inl (v 5))), (a 6, .inl (cZ, 8, .inl (v 6))), (a 7, .inl (cI, 8, .inl (upd (v 7) x (nI (go x - n))))), (a 8, .inl (cI, 8, .inl (v 8))), (a 9, .inl (cI, 8, .inl (v 9))), (a 11, .inl (cI, 8, .inl (v 11))), (a 12, .inl (cI, 10, .inl (v 12))), (a 13, .inl (cI, 5, .inl (v 13))), (a 14, .inl (cI, 5, .inl (v 14))), (a 16, .inl (cI, 128, .inl (v 16))), (a 17, .inl (cI, 128, .inl (v 17))), (a 18, .inl (cI, 128, .inl (v 18)))] H := hP
            have hD : va_D A [(a 0, .inr (5, [.int t, .ref (a 1), .ref (a 2), .ref (a 3), .ref (a 4), .ref (a 5), .ref (a 6), .ref (a 7), .ref (a 8), .ref (a 9), .int r, .ref (a 11), .ref (a 12), .ref (a 13), .ref (a 14), .int lv, .ref (a 16), .ref (a 17), .ref (a 18), .int b, .int o])), (a 1, .inl (cI, 6, .inl (v 1))), (a 2, .inl (cI, 240, .inl (v 2))), (a 3, .inl (cI, 240, .inl (v 3))), (a 4, .inl (cI, 240, .inl (v 4))), (a 5, .inl (cI, 240, .inl (v 5))), (a 6, .inl (cZ, 8, .inl (v 6))), (a 7, .inl (cI, 8, .inl (upd (v 7) x (nI (go x - n))))), (a 8, .inl (cI, 8, .inl (v 8))), (a 9, .inl (cI, 8, .inl (v 9))), (a 11, .inl (cI, 8, .inl (v 11))), (a 12, .inl (cI, 10, .inl (v 12))), (a 13, .inl (cI, 5, .inl (v 13))), (a 14, .inl (cI, 5, .inl (v 14))), (a 16, .inl (cI, 128, .inl (v 16))), (a 17, .inl (cI, 128, .inl (v 17))), (a 18, .inl (cI, 128, .inl (v 18)))] := hD
            refine lv_iconst (v := 0) hx hb dX5_change_134 (by decide) ?_
            exact Ri (D := D) (upd (v 7) x (nI (go x - n))) hx hb hr rfl hlocks hP hD hS (by rw [A_take, if_pos hml0, if_neg (by omega)]; exact ⟨rfl, gk_up hg (by omega)⟩) dX5_change_135
          · have c_112 : ¬ ((go x - n) ≤ 1000) := fun h => c_112 ((nI_leI (a := (go x - n)) (b := 1000) (by omega) (by omega)).mpr h)
            exact absurd c_112 (by omega)
    · have c_21 : (hd x) = 0 := (nI_eq (a := (hd x)) (b := 0) (by omega) (by omega)).mp c_21
      refine lv_bipush (v := 7) hx hb dX5_change_24 (by decide) ?_
      exact Ri (D := D) (v 7) hx hb hr rfl hlocks hP hD hS (by rw [A_take, mol_l c_9 c_21, if_neg (by decide)]; exact ⟨rfl, hg⟩) dX5_change_26
  · have c_9 : ¬ ((mis th x) = 0) := fun h => c_9 ((nI_eq (a := (mis th x)) (b := 0) (by omega) (by omega)).mpr h)
    refine lv_iload hx hb dX5_change_12 (lv_at hl 0 rfl) ?_
    exact Ri (D := D) (v 7) hx hb hr rfl hlocks hP hD hS (by rw [A_take, mol_m c_9, if_neg c_9]; exact ⟨rfl, hg⟩) dX5_change_14

set_option maxHeartbeats 4000000 in
set_option maxRecDepth 100000 in
theorem c_X5_changeS (l : Launch) (D : va_G) (cI cZ : ClassId) (a : Nat → Nat) (v : Nat → Nat → Int32) (t r lv b o : Int32) (th : Nat → Bool) (hz : zk (v 6) th) (go hd : Nat → Nat) (hg : gk (v 7) go) (hh : hok (v 9) hd) (x : Nat) (hx16 : x < 16) (n : Nat) (hn16 : n < 16) : Ci l D [(cI, .int), (cZ, .boolean)] yX5_change wsX5_change ({ frames := 1, cells := 0, slots := 0, locals := 21 }) [.ref (a 0), .int 5, .int (nI x), .int (nI n)] (wM a cI cZ v t r lv b o) (S := (Nat → Int32) × Int32) (fun w u => w = nI (A_share th go hd r x n).1 ∧ gk u.1 (A_share th go hd r x n).2.1 ∧ u.2 = (A_share th go hd r x n).2.2) (fun u => wM a cI cZ (va_up v 7 u.1) t u.2 lv b o) := by
  refine Ci.mk (cc := cX5_change) (maxL := 6) (ret := (some .int)) (by decide +kernel) rfl (Nat.le_of_ble_eq_true rfl) ?_
  intro pg e s m below meth c A ls hx hb hml hr hown hts hlocks hK hns hA hP hD hS hl
  have hl : lv_has ls 6 [(0, .ref (a 0)), (1, .int 5), (2, .int (nI x)), (3, .int (nI n))] := hl
  have fl35 := hts (.fieldLink RX5 35 "HeldShelvesModel" "held" "[I") (List.mem_of_getElem? (i := 1) rfl)
  have inX5 : ∀ w ∈ wsX50, w ∈ wsX5_change := fun _ h => List.mem_cons_of_mem _ (List.mem_append_right _ h)
  have fl29 := hts (.fieldLink RX5 29 "HeldShelvesModel" "goods" "[I") (List.mem_of_getElem? (i := 2) rfl)
  have fl98 := hts (.fieldLink RX5 98 "HeldShelvesModel" "rest" "I") (List.mem_of_getElem? (i := 3) rfl)
  have hP : va_P D vwCl [(a 0, .inr (5, [.int t, .ref (a 1), .ref (a 2), .ref (a 3), .ref (a 4), .ref (a 5), .ref (a 6), .ref (a 7), .ref (a 8), .ref (a 9), .int r, .ref (a 11), .ref (a 12), .ref (a 13), .ref (a 14), .int lv, .ref (a 16), .ref (a 17), .ref (a 18), .int b, .int o])), (a 1, .inl (cI, 6, .inl (v 1))), (a 2, .inl (cI, 240, .inl (v 2))), (a 3, .inl (cI, 240, .inl (v 3))), (a 4, .inl (cI, 240, .inl (v 4))), (a 5, .inl (cI, 240, .inl (v 5))), (a 6, .inl (cZ, 8, .inl (v 6))), (a 7, .inl (cI, 8, .inl (v 7))), (a 8, .inl (cI, 8, .inl (v 8))), (a 9, .inl (cI, 8, .inl (v 9))), (a 11, .inl (cI, 8, .inl (v 11))), (a 12, .inl (cI, 10, .inl (v 12))), (a 13, .inl (cI, 5, .inl (v 13))), (a 14, .inl (cI, 5, .inl (v 14))), (a 16, .inl (cI, 128, .inl (v 16))), (a 17, .inl (cI, 128, .inl (v 17))), (a 18, .inl (cI, 128, .inl (v 18)))] s.heap := hP
  have hD : va_D A [(a 0, .inr (5, [.int t, .ref (a 1), .ref (a 2), .ref (a 3), .ref (a 4), .ref (a 5), .ref (a 6), .ref (a 7), .ref (a 8), .ref (a 9), .int r, .ref (a 11), .ref (a 12), .ref (a 13), .ref (a 14), .int lv, .ref (a 16), .ref (a 17), .ref (a 18), .int b, .int o])), (a 1, .inl (cI, 6, .inl (v 1))), (a 2, .inl (cI, 240, .inl (v 2))), (a 3, .inl (cI, 240, .inl (v 3))), (a 4, .inl (cI, 240, .inl (v 4))), (a 5, .inl (cI, 240, .inl (v 5))), (a 6, .inl (cZ, 8, .inl (v 6))), (a 7, .inl (cI, 8, .inl (v 7))), (a 8, .inl (cI, 8, .inl (v 8))), (a 9, .inl (cI, 8, .inl (v 9))), (a 11, .inl (cI, 8, .inl (v 11))), (a 12, .inl (cI, 10, .inl (v 12))), (a 13, .inl (cI, 5, .inl (v 13))), (a 14, .inl (cI, 5, .inl (v 14))), (a 16, .inl (cI, 128, .inl (v 16))), (a 17, .inl (cI, 128, .inl (v 17))), (a 18, .inl (cI, 128, .inl (v 18)))] := hD
  have hm := mis_le (th := th) (s := x)
  refine lv_aload_n hx hb dX5_change_0 rfl (lv_at hl 0 rfl) ?_
  refine lv_iload_n hx hb dX5_change_1 rfl (lv_at hl 2 rfl) ?_
  refine cl_Vi ([]) ([]) (As := [.int (nI x)]) (rest := []) (c_X5_wrongShelf l D cI cZ a v t r lv b o th hz x hx16) ⟨hx, hb, hml, hown, hts⟩ (cwV 1 hts gX5_change_X5_wrongShelf rfl rfl rfl (by decide +kernel) ⟨Nat.le_of_ble_eq_true rfl, Nat.le_of_ble_eq_true rfl⟩) hK hns hP hD hS hA rfl (T := TX5) (N := 21) rfl rfl hl.1 rfl (Nat.le_of_ble_eq_true rfl) dX5_change_2 ⟨Nat.zero_le _, Nat.zero_le _⟩ (fun r2 u2 H locs hw2 hP hD hS => ?_)
  have hP : va_P D vwCl [(a 0, .inr (5, [.int t, .ref (a 1), .ref (a 2), .ref (a 3), .ref (a 4), .ref (a 5), .ref (a 6), .ref (a 7), .ref (a 8), .ref (a 9), .int r, .ref (a 11), .ref (a 12), .ref (a 13), .ref (a 14), .int lv, .ref (a 16), .ref (a 17), .ref (a 18), .int b, .int o])), (a 1, .inl (cI, 6, .inl (v 1))), (a 2, .inl (cI, 240, .inl (v 2))), (a 3, .inl (cI, 240, .inl (v 3))), (a 4, .inl (cI, 240, .inl (v 4))), (a 5, .inl (cI, 240, .inl (v 5))), (a 6, .inl (cZ, 8, .inl (v 6))), (a 7, .inl (cI, 8, .inl (v 7))), (a 8, .inl (cI, 8, .inl (v 8))), (a 9, .inl (cI, 8, .inl (v 9))), (a 11, .inl (cI, 8, .inl (v 11))), (a 12, .inl (cI, 10, .inl (v 12))), (a 13, .inl (cI, 5, .inl (v 13))), (a 14, .inl (cI, 5, .inl (v 14))), (a 16, .inl (cI, 128, .inl (v 16))), (a 17, .inl (cI, 128, .inl (v 17))), (a 18, .inl (cI, 128, .inl (v 18)))] H := hP
  have hD : va_D A [(a 0, .inr (5, [.int t, .ref (a 1), .ref (a 2), .ref (a 3), .ref (a 4), .ref (a 5), .ref (a 6), .ref (a 7), .ref (a 8), .ref (a 9), .int r, .ref (a 11), .ref (a 12), .ref (a 13), .ref (a 14), .int lv, .ref (a 16), .ref (a 17), .ref (a 18), .int b, .int o])), (a 1, .inl (cI, 6, .inl (v 1))), (a 2, .inl (cI, 240, .inl (v 2))), (a 3, .inl (cI, 240, .inl (v 3))), (a 4, .inl (cI, 240, .inl (v 4))), (a 5, .inl (cI, 240, .inl (v 5))), (a 6, .inl (cZ, 8, .inl (v 6))), (a 7, .inl (cI, 8, .inl (v 7))), (a 8, .inl (cI, 8, .inl (v 8))), (a 9, .inl (cI, 8, .inl (v 9))), (a 11, .inl (cI, 8, .inl (v 11))), (a 12, .inl (cI, 10, .inl (v 12))), (a 13, .inl (cI, 5, .inl (v 13))), (a 14, .inl (cI, 5, .inl (v 14))), (a 16, .inl (cI, 128, .inl (v 16))), (a 17, .inl (cI, 128, .inl (v 17))), (a 18, .inl (cI, 128, .inl (v 18)))] := hD
  subst hw2
  refine lv_istore (lv' := [(4, .int (nI (mis th x))), (0, .ref (a 0)), (1, .int 5), (2, .int (nI x)), (3, .int (nI n))]) hx hb dX5_change_5 hl (by decide) rfl (fun ls hl => ?_)
  refine lv_iload hx hb dX5_change_7 (lv_at hl 0 rfl) ?_
  refine lv_if_eq (tgt := 15) hx hb dX5_change_9 (by decide) (fun c_9 => ?_) (fun c_9 => ?_)
  · have c_9 : (mis th x) = 0 := (nI_eq (a := (mis th x)) (b := 0) (by omega) (by omega)).mp c_9
    have h8 := mis_0 c_9
    have hgv := hg x h8.1
    have hhv := hh x h8.1
    refine lv_aload_n hx hb dX5_change_15 rfl (lv_at hl 1 rfl) ?_
    refine va_get (D := D) (ci := 5) (v := .ref (a 9)) (C := RX5) (T := TX5) (N := 21) hx hb hts inX5 hown hK hP 0 rfl rfl 9 (by decide) fl35 (fun _ h9 => h9) rfl dX5_change_16 ?_
    refine lv_iload_n hx hb dX5_change_19 rfl (lv_at hl 3 rfl) ?_
    refine xi_ald hx hb hK hP 9 0 rfl rfl (k := x) (by omega) (by decide) dX5_change_20 ?_
    refine tp (y := nI (hd x)) (hhv.1) ?_
    refine lv_if_ne (tgt := 27) hx hb dX5_change_21 (by decide) (fun c_21 => ?_) (fun c_21 => ?_)
    · have c_21 : ¬ ((hd x) = 0) := fun h => c_21 ((nI_eq (a := (hd x)) (b := 0) (by omega) (by omega)).mpr h)
      have hml0 := mol_z (th := th) (hd := hd) c_9 c_21
      refine lv_iload_n hx hb dX5_change_27 rfl (lv_at hl 2 rfl) ?_
      refine lv_iconst (v := 5) hx hb dX5_change_28 (by decide) ?_
      refine lv_icmp_ne (tgt := 76) hx hb dX5_change_29 (by decide) (fun c9 => absurd rfl c9) (fun _ => ?_)
      refine lv_iload_n hx hb dX5_change_32 rfl (lv_at hl 4 rfl) ?_
      refine lv_if_ne (tgt := 38) hx hb dX5_change_33 (by decide) (fun c_33 => ?_) (fun c_33 => ?_)
      · have c_33 : ¬ (n = 0) := fun h => c_33 ((nI_eq (a := n) (b := 0) (by omega) (by omega)).mpr h)
        refine lv_aload_n hx hb dX5_change_38 rfl (lv_at hl 1 rfl) ?_
        refine va_get (D := D) (ci := 5) (v := .ref (a 7)) (C := RX5) (T := TX5) (N := 21) hx hb hts inX5 hown hK hP 0 rfl rfl 7 (by decide) fl29 (fun _ h9 => h9) rfl dX5_change_39 ?_
        refine lv_iload_n hx hb dX5_change_42 rfl (lv_at hl 3 rfl) ?_
        refine xi_ald hx hb hK hP 7 0 rfl rfl (k := x) (by omega) (by decide) dX5_change_43 ?_
        refine tp (y := nI (go x)) (hgv.1) ?_
        refine lv_iload_n hx hb dX5_change_44 rfl (lv_at hl 4 rfl) ?_
        refine lv_idiv hx hb dX5_change_45 (fun q => c_33 ((nI_eq (a := n) (b := 0) (by omega) (by omega)).mp q)) ?_
        have hdl : go x / n ≤ go x := Nat.div_le_self _ _
        refine tp (y := nI (go x / n)) (pk_div (by omega) (by omega) (by omega)) ?_
        refine lv_istore (lv' := [(5, .int (nI (go x / n))), (4, .int (nI (mis th x))), (0, .ref (a 0)), (1, .int 5), (2, .int (nI x)), (3, .int (nI n))]) hx hb dX5_change_46 hl (by decide) rfl (fun ls hl => ?_)
        refine lv_aload_n hx hb dX5_change_48 rfl (lv_at hl 2 rfl) ?_
        refine lv_dup hx hb dX5_change_49 rfl ?_
        refine va_get (D := D) (ci := 5) (v := .int r) (C := RX5) (T := TX5) (N := 21) hx hb hts inX5 hown hK hP 0 rfl rfl 10 (by decide) fl98 (fun _ h9 => h9) rfl dX5_change_50 ?_
        refine lv_aload_n hx hb dX5_change_53 rfl (lv_at hl 2 rfl) ?_
        refine va_get (D := D) (ci := 5) (v := .ref (a 7)) (C := RX5) (T := TX5) (N := 21) hx hb hts inX5 hown hK hP 0 rfl rfl 7 (by decide) fl29 (fun _ h9 => h9) rfl dX5_change_54 ?_
        refine lv_iload_n hx hb dX5_change_57 rfl (lv_at hl 4 rfl) ?_
        refine xi_ald hx hb hK hP 7 0 rfl rfl (k := x) (by omega) (by decide) dX5_change_58 ?_
        refine tp (y := nI (go x)) (hgv.1) ?_
        refine lv_iload hx hb dX5_change_59 (lv_at hl 0 rfl) ?_
        refine lv_isub hx hb dX5_change_61 ?_
        refine tp (y := nI (go x - go x / n)) (pk_sub (by omega)) ?_
        refine lv_iadd hx hb dX5_change_62 ?_
        refine va_put (D := D) (ci := 5) (v := .int (r + (nI (go x - go x / n)))) (ty := .int) (C := RX5) (T := TX5) (N := 21) hx hb hts inX5 tyX5 tyX5_ok nmX5 hown hK hP hD hS 0 rfl rfl 10 (by decide) fl98 (fun _ h9 => h9) rfl (by decide +kernel) rfl rfl (Nat.le_of_ble_eq_true rfl) dX5_change_63 (fun H locs hP hD hS => ?_)
        have hP : va_P D vwCl [(a 0, .inr (5, [.int t, .ref (a 1), .ref (a 2), .ref (a 3), .ref (a 4), .ref (a 5), .ref (a 6), .ref (a 7), .ref (a 8), .ref (a 9), .int (r + (nI (go x - go x / n))), .ref (a 11), .ref (a 12), .ref (a 13), .ref (a 14), .int lv, .ref (a 16), .ref (a 17), .ref (a 18), .int b, .int o])), (a 1, .inl (cI, 6, .inl (v 1))), (a 2, .inl (cI, 240, .inl (v 2))), (a 3, .inl (cI, 240, .inl (v 3))), (a 4, .inl (cI, 240, .inl (v 4))), (a 5, .inl (cI, 240, .inl (v 5))), (a 6, .inl (cZ, 8, .inl (v 6))), (a 7, .inl (cI, 8, .inl (v 7))), (a 8, .inl (cI, 8, .inl (v 8))), (a 9, .inl (cI, 8, .inl (v 9))), (a 11, .inl (cI, 8, .inl (v 11))), (a 12, .inl (cI, 10, .inl (v 12))), (a 13, .inl (cI, 5, .inl (v 13))), (a 14, .inl (cI, 5, .inl (v 14))), (a 16, .inl (cI, 128, .inl (v 16))), (a 17, .inl (cI, 128, .inl (v 17))), (a 18, .inl (cI, 128, .inl (v 18)))] H := hP
        have hD : va_D A [(a 0, .inr (5, [.int t, .ref (a 1), .ref (a 2), .ref (a 3), .ref (a 4), .ref (a 5), .ref (a 6), .ref (a 7), .ref (a 8), .ref (a 9), .int (r + (nI (go x - go x / n))), .ref (a 11), .ref (a 12), .ref (a 13), .ref (a 14), .int lv, .ref (a 16), .ref (a 17), .ref (a 18), .int b, .int o])), (a 1, .inl (cI, 6, .inl (v 1))), (a 2, .inl (cI, 240, .inl (v 2))), (a 3, .inl (cI, 240, .inl (v 3))), (a 4, .inl (cI, 240, .inl (v 4))), (a 5, .inl (cI, 240, .inl (v 5))), (a 6, .inl (cZ, 8, .inl (v 6))), (a 7, .inl (cI, 8, .inl (v 7))), (a 8, .inl (cI, 8, .inl (v 8))), (a 9, .inl (cI, 8, .inl (v 9))), (a 11, .inl (cI, 8, .inl (v 11))), (a 12, .inl (cI, 10, .inl (v 12))), (a 13, .inl (cI, 5, .inl (v 13))), (a 14, .inl (cI, 5, .inl (v 14))), (a 16, .inl (cI, 128, .inl (v 16))), (a 17, .inl (cI, 128, .inl (v 17))), (a 18, .inl (cI, 128, .inl (v 18)))] := hD
        refine lv_aload_n hx hb dX5_change_66 rfl (lv_at hl 2 rfl) ?_
        refine va_get (D := D) (ci := 5) (v := .ref (a 7)) (C := RX5) (T := TX5) (N := 21) hx hb hts inX5 hown hK hP 0 rfl rfl 7 (by decide) fl29 (fun _ h9 => h9) rfl dX5_change_67 ?_
        refine lv_iload_n hx hb dX5_change_70 rfl (lv_at hl 4 rfl) ?_
        refine lv_iload hx hb dX5_change_71 (lv_at hl 0 rfl) ?_
        refine xi_ast hx hb hK hP hD hS 7 0 rfl rfl (k := x) (x := (nI (go x / n))) (by omega) (by decide) dX5_change_73 (fun H locs hP hD hS => ?_)
        have hP : va_P D vwCl [(a 0, .inr (5, [.int t, .ref (a 1), .ref (a 2), .ref (a 3), .ref (a 4), .ref (a 5), .ref (a 6), .ref (a 7), .ref (a 8), .ref (a 9), .int (r + (nI (go x - go x / n))), .ref (a 11), .ref (a 12), .ref (a 13), .ref (a 14), .int lv, .ref (a 16), .ref (a 17), .ref (a 18), .int b, .int o])), (a 1, .inl (cI, 6, .inl (v 1))), (a 2, .inl (cI, 240, .inl (v 2))), (a 3, .inl (cI, 240, .inl (v 3))), (a 4, .inl (cI, 240, .inl (v 4))), (a 5, .inl (cI, 240, .inl (v 5))), (a 6, .inl (cZ, 8, .inl (v 6))), (a 7, .inl (cI, 8, .inl (upd (v 7) x (nI (go x / n))))), (a 8, .inl (cI, 8, .inl (v 8))), (a 9, .inl (cI, 8, .inl (v 9))), (a 11, .inl (cI, 8, .inl (v 11))), (a 12, .inl (cI, 10, .inl (v 12))), (a 13, .inl (cI, 5, .inl (v 13))), (a 14, .inl (cI, 5, .inl (v 14))), (a 16, .inl (cI, 128, .inl (v 16))), (a 17, .inl (cI, 128, .inl (v 17))), (a 18, .inl (cI, 128, .inl (v 18)))] H := hP
        have hD : va_D A [(a 0, .inr (5, [.int t, .ref (a 1), .ref (a 2), .ref (a 3), .ref (a 4), .ref (a 5), .ref (a 6), .ref (a 7), .ref (a 8), .ref (a 9), .int (r + (nI (go x - go x / n))), .ref (a 11), .ref (a 12), .ref (a 13), .ref (a 14), .int lv, .ref (a 16), .ref (a 17), .ref (a 18), .int b, .int o])), (a 1, .inl (cI, 6, .inl (v 1))), (a 2, .inl (cI, 240, .inl (v 2))), (a 3, .inl (cI, 240, .inl (v 3))), (a 4, .inl (cI, 240, .inl (v 4))), (a 5, .inl (cI, 240, .inl (v 5))), (a 6, .inl (cZ, 8, .inl (v 6))), (a 7, .inl (cI, 8, .inl (upd (v 7) x (nI (go x / n))))), (a 8, .inl (cI, 8, .inl (v 8))), (a 9, .inl (cI, 8, .inl (v 9))), (a 11, .inl (cI, 8, .inl (v 11))), (a 12, .inl (cI, 10, .inl (v 12))), (a 13, .inl (cI, 5, .inl (v 13))), (a 14, .inl (cI, 5, .inl (v 14))), (a 16, .inl (cI, 128, .inl (v 16))), (a 17, .inl (cI, 128, .inl (v 17))), (a 18, .inl (cI, 128, .inl (v 18)))] := hD
        refine lv_iconst (v := 0) hx hb dX5_change_74 (by decide) ?_
        exact Ri (D := D) (upd (v 7) x (nI (go x / n)), r + nI (go x - go x / n)) hx hb hr rfl hlocks hP hD hS (by rw [A_share, if_pos hml0, if_neg c_33]; exact ⟨rfl, gk_up hg (by omega), rfl⟩) dX5_change_75
      · have c_33 : n = 0 := (nI_eq (a := n) (b := 0) (by omega) (by omega)).mp c_33
        refine lv_iconst (v := 3) hx hb dX5_change_36 (by decide) ?_
        exact Ri (D := D) (v 7, r) hx hb hr rfl hlocks hP hD hS (by rw [A_share, if_pos hml0, if_pos c_33]; exact ⟨rfl, hg, rfl⟩) dX5_change_37
    · have c_21 : (hd x) = 0 := (nI_eq (a := (hd x)) (b := 0) (by omega) (by omega)).mp c_21
      refine lv_bipush (v := 7) hx hb dX5_change_24 (by decide) ?_
      exact Ri (D := D) (v 7, r) hx hb hr rfl hlocks hP hD hS (by rw [A_share, mol_l c_9 c_21, if_neg (by decide)]; exact ⟨rfl, hg, rfl⟩) dX5_change_26
  · have c_9 : ¬ ((mis th x) = 0) := fun h => c_9 ((nI_eq (a := (mis th x)) (b := 0) (by omega) (by omega)).mpr h)
    refine lv_iload hx hb dX5_change_12 (lv_at hl 0 rfl) ?_
    exact Ri (D := D) (v 7, r) hx hb hr rfl hlocks hP hD hS (by rw [A_share, mol_m c_9, if_neg c_9]; exact ⟨rfl, hg, rfl⟩) dX5_change_14

set_option maxHeartbeats 4000000 in
set_option maxRecDepth 100000 in
theorem c_X5_move (l : Launch) (D : va_G) (cI cZ : ClassId) (a : Nat → Nat) (v : Nat → Nat → Int32) (t r lv b o : Int32) (th : Nat → Bool) (hz : zk (v 6) th) (go : Nat → Nat) (hg : gk (v 7) go) (x y n : Nat) (hx16 : x < 16) (hy16 : y < 16) (hn16 : n < 16) : Ci l D [(cI, .int), (cZ, .boolean)] yX5_move wsX5_move ({ frames := 0, cells := 0, slots := 0, locals := 0 }) [.ref (a 0), .int (nI x), .int (nI y), .int (nI n)] (wM a cI cZ v t r lv b o) (S := Nat → Int32) (fun w u => w = nI (A_move th go x y n).1 ∧ gk u (A_move th go x y n).2) (fun u => wM a cI cZ (va_up v 7 u) t r lv b o) := by
  refine Ci.mk (cc := cX5_move) (maxL := 4) (ret := (some .int)) (by decide +kernel) rfl (Nat.le_of_ble_eq_true rfl) ?_
  intro pg e s m below meth c A ls hx hb hml hr hown hts hlocks hK hns hA hP hD hS hl
  have hl : lv_has ls 4 [(0, .ref (a 0)), (1, .int (nI x)), (2, .int (nI y)), (3, .int (nI n))] := hl
  have fl25 := hts (.fieldLink RX5 25 "HeldShelvesModel" "isThere" "[Z") (List.mem_of_getElem? (i := 1) rfl)
  have inX5 : ∀ w ∈ wsX50, w ∈ wsX5_move := fun _ h => List.mem_cons_of_mem _ (List.mem_append_right _ h)
  have fl29 := hts (.fieldLink RX5 29 "HeldShelvesModel" "goods" "[I") (List.mem_of_getElem? (i := 2) rfl)
  have hP : va_P D vwCl [(a 0, .inr (5, [.int t, .ref (a 1), .ref (a 2), .ref (a 3), .ref (a 4), .ref (a 5), .ref (a 6), .ref (a 7), .ref (a 8), .ref (a 9), .int r, .ref (a 11), .ref (a 12), .ref (a 13), .ref (a 14), .int lv, .ref (a 16), .ref (a 17), .ref (a 18), .int b, .int o])), (a 1, .inl (cI, 6, .inl (v 1))), (a 2, .inl (cI, 240, .inl (v 2))), (a 3, .inl (cI, 240, .inl (v 3))), (a 4, .inl (cI, 240, .inl (v 4))), (a 5, .inl (cI, 240, .inl (v 5))), (a 6, .inl (cZ, 8, .inl (v 6))), (a 7, .inl (cI, 8, .inl (v 7))), (a 8, .inl (cI, 8, .inl (v 8))), (a 9, .inl (cI, 8, .inl (v 9))), (a 11, .inl (cI, 8, .inl (v 11))), (a 12, .inl (cI, 10, .inl (v 12))), (a 13, .inl (cI, 5, .inl (v 13))), (a 14, .inl (cI, 5, .inl (v 14))), (a 16, .inl (cI, 128, .inl (v 16))), (a 17, .inl (cI, 128, .inl (v 17))), (a 18, .inl (cI, 128, .inl (v 18)))] s.heap := hP
  have hD : va_D A [(a 0, .inr (5, [.int t, .ref (a 1), .ref (a 2), .ref (a 3), .ref (a 4), .ref (a 5), .ref (a 6), .ref (a 7), .ref (a 8), .ref (a 9), .int r, .ref (a 11), .ref (a 12), .ref (a 13), .ref (a 14), .int lv, .ref (a 16), .ref (a 17), .ref (a 18), .int b, .int o])), (a 1, .inl (cI, 6, .inl (v 1))), (a 2, .inl (cI, 240, .inl (v 2))), (a 3, .inl (cI, 240, .inl (v 3))), (a 4, .inl (cI, 240, .inl (v 4))), (a 5, .inl (cI, 240, .inl (v 5))), (a 6, .inl (cZ, 8, .inl (v 6))), (a 7, .inl (cI, 8, .inl (v 7))), (a 8, .inl (cI, 8, .inl (v 8))), (a 9, .inl (cI, 8, .inl (v 9))), (a 11, .inl (cI, 8, .inl (v 11))), (a 12, .inl (cI, 10, .inl (v 12))), (a 13, .inl (cI, 5, .inl (v 13))), (a 14, .inl (cI, 5, .inl (v 14))), (a 16, .inl (cI, 128, .inl (v 16))), (a 17, .inl (cI, 128, .inl (v 17))), (a 18, .inl (cI, 128, .inl (v 18)))] := hD
  refine lv_iload_n hx hb dX5_move_0 rfl (lv_at hl 1 rfl) ?_
  refine lv_bipush (v := 7) hx hb dX5_move_1 (by decide) ?_
  refine lv_icmp_gt (tgt := 12) hx hb dX5_move_3 (by decide) (fun c_3 => ?_) (fun c_3 => ?_)
  · have c_3 : 7 < x := (nI_ltI (a := 7) (b := x) (by omega) (by omega)).mp c_3
    refine lv_iconst (v := 1) hx hb dX5_move_12 (by decide) ?_
    exact Ri (D := D) (v 7) hx hb hr rfl hlocks hP hD hS (by rw [A_move, if_pos (by omega)]; exact ⟨rfl, hg⟩) dX5_move_13
  · have c_3 : ¬ (7 < x) := fun h => c_3 ((nI_ltI (a := 7) (b := x) (by omega) (by omega)).mpr h)
    refine lv_iload_n hx hb dX5_move_6 rfl (lv_at hl 2 rfl) ?_
    refine lv_bipush (v := 7) hx hb dX5_move_7 (by decide) ?_
    refine lv_icmp_le (tgt := 14) hx hb dX5_move_9 (by decide) (fun c_9 => ?_) (fun c_9 => ?_)
    · have c_9 : y ≤ 7 := (nI_leI (a := y) (b := 7) (by omega) (by omega)).mp c_9
      refine lv_aload_n hx hb dX5_move_14 rfl (lv_at hl 0 rfl) ?_
      refine va_get (D := D) (ci := 5) (v := .ref (a 6)) (C := RX5) (T := TX5) (N := 21) hx hb hts inX5 hown hK hP 0 rfl rfl 6 (by decide) fl25 (fun _ h9 => h9) rfl dX5_move_15 ?_
      refine lv_iload_n hx hb dX5_move_18 rfl (lv_at hl 1 rfl) ?_
      refine xz_ald hx hb hK hP 6 1 rfl rfl (k := x) (by omega) (by decide) dX5_move_19 ?_
      refine lv_if_eq (tgt := 32) hx hb dX5_move_20 (by decide) (fun c_20 => ?_) (fun c_20 => ?_)
      · have t1 := zk_0 hz (by omega) c_20
        refine lv_iconst (v := 2) hx hb dX5_move_32 (by decide) ?_
        exact Ri (D := D) (v 7) hx hb hr rfl hlocks hP hD hS (by rw [A_move, if_neg (by omega), if_pos (Or.inl t1)]; exact ⟨rfl, hg⟩) dX5_move_33
      · have t1 := zk_1 hz (by omega) c_20
        refine lv_aload_n hx hb dX5_move_23 rfl (lv_at hl 0 rfl) ?_
        refine va_get (D := D) (ci := 5) (v := .ref (a 6)) (C := RX5) (T := TX5) (N := 21) hx hb hts inX5 hown hK hP 0 rfl rfl 6 (by decide) fl25 (fun _ h9 => h9) rfl dX5_move_24 ?_
        refine lv_iload_n hx hb dX5_move_27 rfl (lv_at hl 2 rfl) ?_
        refine xz_ald hx hb hK hP 6 1 rfl rfl (k := y) (by omega) (by decide) dX5_move_28 ?_
        refine lv_if_ne (tgt := 34) hx hb dX5_move_29 (by decide) (fun c_29 => ?_) (fun c_29 => ?_)
        · have t2 := zk_1 hz (by omega) c_29
          refine lv_iload_n hx hb dX5_move_34 rfl (lv_at hl 3 rfl) ?_
          refine lv_aload_n hx hb dX5_move_35 rfl (lv_at hl 0 rfl) ?_
          refine va_get (D := D) (ci := 5) (v := .ref (a 7)) (C := RX5) (T := TX5) (N := 21) hx hb hts inX5 hown hK hP 0 rfl rfl 7 (by decide) fl29 (fun _ h9 => h9) rfl dX5_move_36 ?_
          refine lv_iload_n hx hb dX5_move_39 rfl (lv_at hl 1 rfl) ?_
          refine xi_ald hx hb hK hP 7 0 rfl rfl (k := x) (by omega) (by decide) dX5_move_40 ?_
          have h1x := hg x (by omega)
          have h1y := hg y (by omega)
          refine tp (y := nI (go x)) (h1x.1) ?_
          refine lv_icmp_le (tgt := 46) hx hb dX5_move_41 (by decide) (fun c_41 => ?_) (fun c_41 => ?_)
          · have c_41 : n ≤ (go x) := (nI_leI (a := n) (b := (go x)) (by omega) (by omega)).mp c_41
            refine lv_iload_n hx hb dX5_move_46 rfl (lv_at hl 1 rfl) ?_
            refine lv_iload_n hx hb dX5_move_47 rfl (lv_at hl 2 rfl) ?_
            refine lv_icmp_eq (tgt := 67) hx hb dX5_move_48 (by decide) (fun c_48 => ?_) (fun c_48 => ?_)
            · have c_48 : x = y := (nI_eq (a := x) (b := y) (by omega) (by omega)).mp c_48
              refine lv_aload_n hx hb dX5_move_67 rfl (lv_at hl 0 rfl) ?_
              refine va_get (D := D) (ci := 5) (v := .ref (a 7)) (C := RX5) (T := TX5) (N := 21) hx hb hts inX5 hown hK hP 0 rfl rfl 7 (by decide) fl29 (fun _ h9 => h9) rfl dX5_move_68 ?_
              refine lv_iload_n hx hb dX5_move_71 rfl (lv_at hl 1 rfl) ?_
              refine lv_dup2_11 hx hb dX5_move_72 rfl rfl ?_
              refine xi_ald hx hb hK hP 7 0 rfl rfl (k := x) (by omega) (by decide) dX5_move_73 ?_
              refine tp (y := nI (go x)) (h1x.1) ?_
              refine lv_iload_n hx hb dX5_move_74 rfl (lv_at hl 3 rfl) ?_
              refine lv_isub hx hb dX5_move_75 ?_
              refine tp (y := nI (go x - n)) (pk_sub (by omega)) ?_
              refine xi_ast hx hb hK hP hD hS 7 0 rfl rfl (k := x) (x := (nI (go x - n))) (by omega) (by decide) dX5_move_76 (fun H locs hP hD hS => ?_)
              have hP : va_P D vwCl [(a 0, .inr (5, [.int t, .ref (a 1), .ref (a 2), .ref (a 3), .ref (a 4), .ref (a 5), .ref (a 6), .ref (a 7), .ref (a 8), .ref (a 9), .int r, .ref (a 11), .ref (a 12), .ref (a 13), .ref (a 14), .int lv, .ref (a 16), .ref (a 17), .ref (a 18), .int b, .int o])), (a 1, .inl (cI, 6, .inl (v 1))), (a 2, .inl (cI, 240, .inl (v 2))), (a 3, .inl (cI, 240, .inl (v 3))), (a 4, .inl (cI, 240, .inl (v 4))), (a 5, .inl (cI, 240, .inl (v 5))), (a 6, .inl (cZ, 8, .inl (v 6))), (a 7, .inl (cI, 8, .inl (upd (v 7) x (nI (go x - n))))), (a 8, .inl (cI, 8, .inl (v 8))), (a 9, .inl (cI, 8, .inl (v 9))), (a 11, .inl (cI, 8, .inl (v 11))), (a 12, .inl (cI, 10, .inl (v 12))), (a 13, .inl (cI, 5, .inl (v 13))), (a 14, .inl (cI, 5, .inl (v 14))), (a 16, .inl (cI, 128, .inl (v 16))), (a 17, .inl (cI, 128, .inl (v 17))), (a 18, .inl (cI, 128, .inl (v 18)))] H := hP
              have hD : va_D A [(a 0, .inr (5, [.int t, .ref (a 1), .ref (a 2), .ref (a 3), .ref (a 4), .ref (a 5), .ref (a 6), .ref (a 7), .ref (a 8), .ref (a 9), .int r, .ref (a 11), .ref (a 12), .ref (a 13), .ref (a 14), .int lv, .ref (a 16), .ref (a 17), .ref (a 18), .int b, .int o])), (a 1, .inl (cI, 6, .inl (v 1))), (a 2, .inl (cI, 240, .inl (v 2))), (a 3, .inl (cI, 240, .inl (v 3))), (a 4, .inl (cI, 240, .inl (v 4))), (a 5, .inl (cI, 240, .inl (v 5))), (a 6, .inl (cZ, 8, .inl (v 6))), (a 7, .inl (cI, 8, .inl (upd (v 7) x (nI (go x - n))))), (a 8, .inl (cI, 8, .inl (v 8))), (a 9, .inl (cI, 8, .inl (v 9))), (a 11, .inl (cI, 8, .inl (v 11))), (a 12, .inl (cI, 10, .inl (v 12))), (a 13, .inl (cI, 5, .inl (v 13))), (a 14, .inl (cI, 5, .inl (v 14))), (a 16, .inl (cI, 128, .inl (v 16))), (a 17, .inl (cI, 128, .inl (v 17))), (a 18, .inl (cI, 128, .inl (v 18)))] := hD
              have hg2 : gk (upd (v 7) x (nI (go x - n))) (va_up go x (go x - n)) := gk_up hg (by omega)
              refine lv_aload_n hx hb dX5_move_77 rfl (lv_at hl 0 rfl) ?_
              refine va_get (D := D) (ci := 5) (v := .ref (a 7)) (C := RX5) (T := TX5) (N := 21) hx hb hts inX5 hown hK hP 0 rfl rfl 7 (by decide) fl29 (fun _ h9 => h9) rfl dX5_move_78 ?_
              refine lv_iload_n hx hb dX5_move_81 rfl (lv_at hl 2 rfl) ?_
              refine lv_dup2_11 hx hb dX5_move_82 rfl rfl ?_
              refine xi_ald hx hb hK hP 7 0 rfl rfl (k := y) (by omega) (by decide) dX5_move_83 ?_
              refine tp (y := nI (va_up go x (go x - n) y)) ((hg2 y (by omega)).1) ?_
              refine lv_iload_n hx hb dX5_move_84 rfl (lv_at hl 3 rfl) ?_
              refine lv_iadd hx hb dX5_move_85 ?_
              refine tp (y := nI (va_up go x (go x - n) y + n)) (nI_add _ _) ?_
              refine xi_ast hx hb hK hP hD hS 7 0 rfl rfl (k := y) (x := (nI (va_up go x (go x - n) y + n))) (by omega) (by decide) dX5_move_86 (fun H locs hP hD hS => ?_)
              have hP : va_P D vwCl [(a 0, .inr (5, [.int t, .ref (a 1), .ref (a 2), .ref (a 3), .ref (a 4), .ref (a 5), .ref (a 6), .ref (a 7), .ref (a 8), .ref (a 9), .int r, .ref (a 11), .ref (a 12), .ref (a 13), .ref (a 14), .int lv, .ref (a 16), .ref (a 17), .ref (a 18), .int b, .int o])), (a 1, .inl (cI, 6, .inl (v 1))), (a 2, .inl (cI, 240, .inl (v 2))), (a 3, .inl (cI, 240, .inl (v 3))), (a 4, .inl (cI, 240, .inl (v 4))), (a 5, .inl (cI, 240, .inl (v 5))), (a 6, .inl (cZ, 8, .inl (v 6))), (a 7, .inl (cI, 8, .inl (upd (upd (v 7) x (nI (go x - n))) y (nI (va_up go x (go x - n) y + n))))), (a 8, .inl (cI, 8, .inl (v 8))), (a 9, .inl (cI, 8, .inl (v 9))), (a 11, .inl (cI, 8, .inl (v 11))), (a 12, .inl (cI, 10, .inl (v 12))), (a 13, .inl (cI, 5, .inl (v 13))), (a 14, .inl (cI, 5, .inl (v 14))), (a 16, .inl (cI, 128, .inl (v 16))), (a 17, .inl (cI, 128, .inl (v 17))), (a 18, .inl (cI, 128, .inl (v 18)))] H := hP
              have hD : va_D A [(a 0, .inr (5, [.int t, .ref (a 1), .ref (a 2), .ref (a 3), .ref (a 4), .ref (a 5), .ref (a 6), .ref (a 7), .ref (a 8), .ref (a 9), .int r, .ref (a 11), .ref (a 12), .ref (a 13), .ref (a 14), .int lv, .ref (a 16), .ref (a 17), .ref (a 18), .int b, .int o])), (a 1, .inl (cI, 6, .inl (v 1))), (a 2, .inl (cI, 240, .inl (v 2))), (a 3, .inl (cI, 240, .inl (v 3))), (a 4, .inl (cI, 240, .inl (v 4))), (a 5, .inl (cI, 240, .inl (v 5))), (a 6, .inl (cZ, 8, .inl (v 6))), (a 7, .inl (cI, 8, .inl (upd (upd (v 7) x (nI (go x - n))) y (nI (va_up go x (go x - n) y + n))))), (a 8, .inl (cI, 8, .inl (v 8))), (a 9, .inl (cI, 8, .inl (v 9))), (a 11, .inl (cI, 8, .inl (v 11))), (a 12, .inl (cI, 10, .inl (v 12))), (a 13, .inl (cI, 5, .inl (v 13))), (a 14, .inl (cI, 5, .inl (v 14))), (a 16, .inl (cI, 128, .inl (v 16))), (a 17, .inl (cI, 128, .inl (v 17))), (a 18, .inl (cI, 128, .inl (v 18)))] := hD
              refine lv_iconst (v := 0) hx hb dX5_move_87 (by decide) ?_
              exact Ri (D := D) (upd (upd (v 7) x (nI (go x - n))) y (nI (va_up go x (go x - n) y + n))) hx hb hr rfl hlocks hP hD hS (by rw [A_move, if_neg (by omega), if_neg (A_mv t1 t2), if_neg (by omega), if_neg (by omega)]; exact ⟨rfl, gk_up hg2 (A_mvb h1x.2 (by omega) (by omega))⟩) dX5_move_88
            · have c_48 : ¬ (x = y) := fun h => c_48 ((nI_eq (a := x) (b := y) (by omega) (by omega)).mpr h)
              refine lv_aload_n hx hb dX5_move_51 rfl (lv_at hl 0 rfl) ?_
              refine va_get (D := D) (ci := 5) (v := .ref (a 7)) (C := RX5) (T := TX5) (N := 21) hx hb hts inX5 hown hK hP 0 rfl rfl 7 (by decide) fl29 (fun _ h9 => h9) rfl dX5_move_52 ?_
              refine lv_iload_n hx hb dX5_move_55 rfl (lv_at hl 2 rfl) ?_
              refine xi_ald hx hb hK hP 7 0 rfl rfl (k := y) (by omega) (by decide) dX5_move_56 ?_
              refine tp (y := nI (go y)) (h1y.1) ?_
              refine lv_iload_n hx hb dX5_move_57 rfl (lv_at hl 3 rfl) ?_
              refine lv_iadd hx hb dX5_move_58 ?_
              refine tp (y := nI (go y + n)) (nI_add _ _) ?_
              refine lv_sipush (v := 1000) hx hb dX5_move_59 (by decide) ?_
              refine lv_icmp_le (tgt := 67) hx hb dX5_move_62 (by decide) (fun c_62 => ?_) (fun c_62 => ?_)
              · have c_62 : (go y + n) ≤ 1000 := (nI_leI (a := (go y + n)) (b := 1000) (by omega) (by omega)).mp c_62
                refine lv_aload_n hx hb dX5_move_67 rfl (lv_at hl 0 rfl) ?_
                refine va_get (D := D) (ci := 5) (v := .ref (a 7)) (C := RX5) (T := TX5) (N := 21) hx hb hts inX5 hown hK hP 0 rfl rfl 7 (by decide) fl29 (fun _ h9 => h9) rfl dX5_move_68 ?_
                refine lv_iload_n hx hb dX5_move_71 rfl (lv_at hl 1 rfl) ?_
                refine lv_dup2_11 hx hb dX5_move_72 rfl rfl ?_
                refine xi_ald hx hb hK hP 7 0 rfl rfl (k := x) (by omega) (by decide) dX5_move_73 ?_
                refine tp (y := nI (go x)) (h1x.1) ?_
                refine lv_iload_n hx hb dX5_move_74 rfl (lv_at hl 3 rfl) ?_
                refine lv_isub hx hb dX5_move_75 ?_
                refine tp (y := nI (go x - n)) (pk_sub (by omega)) ?_
                refine xi_ast hx hb hK hP hD hS 7 0 rfl rfl (k := x) (x := (nI (go x - n))) (by omega) (by decide) dX5_move_76 (fun H locs hP hD hS => ?_)
                have hP : va_P D vwCl [(a 0, .inr (5, [.int t, .ref (a 1), .ref (a 2), .ref (a 3), .ref (a 4), .ref (a 5), .ref (a 6), .ref (a 7), .ref (a 8), .ref (a 9), .int r, .ref (a 11), .ref (a 12), .ref (a 13), .ref (a 14), .int lv, .ref (a 16), .ref (a 17), .ref (a 18), .int b, .int o])), (a 1, .inl (cI, 6, .inl (v 1))), (a 2, .inl (cI, 240, .inl (v 2))), (a 3, .inl (cI, 240, .inl (v 3))), (a 4, .inl (cI, 240, .inl (v 4))), (a 5, .inl (cI, 240, .inl (v 5))), (a 6, .inl (cZ, 8, .inl (v 6))), (a 7, .inl (cI, 8, .inl (upd (v 7) x (nI (go x - n))))), (a 8, .inl (cI, 8, .inl (v 8))), (a 9, .inl (cI, 8, .inl (v 9))), (a 11, .inl (cI, 8, .inl (v 11))), (a 12, .inl (cI, 10, .inl (v 12))), (a 13, .inl (cI, 5, .inl (v 13))), (a 14, .inl (cI, 5, .inl (v 14))), (a 16, .inl (cI, 128, .inl (v 16))), (a 17, .inl (cI, 128, .inl (v 17))), (a 18, .inl (cI, 128, .inl (v 18)))] H := hP
                have hD : va_D A [(a 0, .inr (5, [.int t, .ref (a 1), .ref (a 2), .ref (a 3), .ref (a 4), .ref (a 5), .ref (a 6), .ref (a 7), .ref (a 8), .ref (a 9), .int r, .ref (a 11), .ref (a 12), .ref (a 13), .ref (a 14), .int lv, .ref (a 16), .ref (a 17), .ref (a 18), .int b, .int o])), (a 1, .inl (cI, 6, .inl (v 1))), (a 2, .inl (cI, 240, .inl (v 2))), (a 3, .inl (cI, 240, .inl (v 3))), (a 4, .inl (cI, 240, .inl (v 4))), (a 5, .inl (cI, 240, .inl (v 5))), (a 6, .inl (cZ, 8, .inl (v 6))), (a 7, .inl (cI, 8, .inl (upd (v 7) x (nI (go x - n))))), (a 8, .inl (cI, 8, .inl (v 8))), (a 9, .inl (cI, 8, .inl (v 9))), (a 11, .inl (cI, 8, .inl (v 11))), (a 12, .inl (cI, 10, .inl (v 12))), (a 13, .inl (cI, 5, .inl (v 13))), (a 14, .inl (cI, 5, .inl (v 14))), (a 16, .inl (cI, 128, .inl (v 16))), (a 17, .inl (cI, 128, .inl (v 17))), (a 18, .inl (cI, 128, .inl (v 18)))] := hD
                have hg2 : gk (upd (v 7) x (nI (go x - n))) (va_up go x (go x - n)) := gk_up hg (by omega)
                refine lv_aload_n hx hb dX5_move_77 rfl (lv_at hl 0 rfl) ?_
                refine va_get (D := D) (ci := 5) (v := .ref (a 7)) (C := RX5) (T := TX5) (N := 21) hx hb hts inX5 hown hK hP 0 rfl rfl 7 (by decide) fl29 (fun _ h9 => h9) rfl dX5_move_78 ?_
                refine lv_iload_n hx hb dX5_move_81 rfl (lv_at hl 2 rfl) ?_
                refine lv_dup2_11 hx hb dX5_move_82 rfl rfl ?_
                refine xi_ald hx hb hK hP 7 0 rfl rfl (k := y) (by omega) (by decide) dX5_move_83 ?_
                refine tp (y := nI (va_up go x (go x - n) y)) ((hg2 y (by omega)).1) ?_
                refine lv_iload_n hx hb dX5_move_84 rfl (lv_at hl 3 rfl) ?_
                refine lv_iadd hx hb dX5_move_85 ?_
                refine tp (y := nI (va_up go x (go x - n) y + n)) (nI_add _ _) ?_
                refine xi_ast hx hb hK hP hD hS 7 0 rfl rfl (k := y) (x := (nI (va_up go x (go x - n) y + n))) (by omega) (by decide) dX5_move_86 (fun H locs hP hD hS => ?_)
                have hP : va_P D vwCl [(a 0, .inr (5, [.int t, .ref (a 1), .ref (a 2), .ref (a 3), .ref (a 4), .ref (a 5), .ref (a 6), .ref (a 7), .ref (a 8), .ref (a 9), .int r, .ref (a 11), .ref (a 12), .ref (a 13), .ref (a 14), .int lv, .ref (a 16), .ref (a 17), .ref (a 18), .int b, .int o])), (a 1, .inl (cI, 6, .inl (v 1))), (a 2, .inl (cI, 240, .inl (v 2))), (a 3, .inl (cI, 240, .inl (v 3))), (a 4, .inl (cI, 240, .inl (v 4))), (a 5, .inl (cI, 240, .inl (v 5))), (a 6, .inl (cZ, 8, .inl (v 6))), (a 7, .inl (cI, 8, .inl (upd (upd (v 7) x (nI (go x - n))) y (nI (va_up go x (go x - n) y + n))))), (a 8, .inl (cI, 8, .inl (v 8))), (a 9, .inl (cI, 8, .inl (v 9))), (a 11, .inl (cI, 8, .inl (v 11))), (a 12, .inl (cI, 10, .inl (v 12))), (a 13, .inl (cI, 5, .inl (v 13))), (a 14, .inl (cI, 5, .inl (v 14))), (a 16, .inl (cI, 128, .inl (v 16))), (a 17, .inl (cI, 128, .inl (v 17))), (a 18, .inl (cI, 128, .inl (v 18)))] H := hP
                have hD : va_D A [(a 0, .inr (5, [.int t, .ref (a 1), .ref (a 2), .ref (a 3), .ref (a 4), .ref (a 5), .ref (a 6), .ref (a 7), .ref (a 8), .ref (a 9), .int r, .ref (a 11), .ref (a 12), .ref (a 13), .ref (a 14), .int lv, .ref (a 16), .ref (a 17), .ref (a 18), .int b, .int o])), (a 1, .inl (cI, 6, .inl (v 1))), (a 2, .inl (cI, 240, .inl (v 2))), (a 3, .inl (cI, 240, .inl (v 3))), (a 4, .inl (cI, 240, .inl (v 4))), (a 5, .inl (cI, 240, .inl (v 5))), (a 6, .inl (cZ, 8, .inl (v 6))), (a 7, .inl (cI, 8, .inl (upd (upd (v 7) x (nI (go x - n))) y (nI (va_up go x (go x - n) y + n))))), (a 8, .inl (cI, 8, .inl (v 8))), (a 9, .inl (cI, 8, .inl (v 9))), (a 11, .inl (cI, 8, .inl (v 11))), (a 12, .inl (cI, 10, .inl (v 12))), (a 13, .inl (cI, 5, .inl (v 13))), (a 14, .inl (cI, 5, .inl (v 14))), (a 16, .inl (cI, 128, .inl (v 16))), (a 17, .inl (cI, 128, .inl (v 17))), (a 18, .inl (cI, 128, .inl (v 18)))] := hD
                refine lv_iconst (v := 0) hx hb dX5_move_87 (by decide) ?_
                exact Ri (D := D) (upd (upd (v 7) x (nI (go x - n))) y (nI (va_up go x (go x - n) y + n))) hx hb hr rfl hlocks hP hD hS (by rw [A_move, if_neg (by omega), if_neg (A_mv t1 t2), if_neg (by omega), if_neg (by omega)]; exact ⟨rfl, gk_up hg2 (A_mvb h1x.2 (by omega) (by omega))⟩) dX5_move_88
              · have c_62 : ¬ ((go y + n) ≤ 1000) := fun h => c_62 ((nI_leI (a := (go y + n)) (b := 1000) (by omega) (by omega)).mpr h)
                refine lv_iconst (v := 5) hx hb dX5_move_65 (by decide) ?_
                exact Ri (D := D) (v 7) hx hb hr rfl hlocks hP hD hS (by rw [A_move, if_neg (by omega), if_neg (A_mv t1 t2), if_neg (by omega), if_pos (by omega)]; exact ⟨rfl, hg⟩) dX5_move_66
          · have c_41 : ¬ (n ≤ (go x)) := fun h => c_41 ((nI_leI (a := n) (b := (go x)) (by omega) (by omega)).mpr h)
            refine lv_iconst (v := 4) hx hb dX5_move_44 (by decide) ?_
            exact Ri (D := D) (v 7) hx hb hr rfl hlocks hP hD hS (by rw [A_move, if_neg (by omega), if_neg (A_mv t1 t2), if_pos (by omega)]; exact ⟨rfl, hg⟩) dX5_move_45
        · have t2 := zk_0 hz (by omega) c_29
          refine lv_iconst (v := 2) hx hb dX5_move_32 (by decide) ?_
          exact Ri (D := D) (v 7) hx hb hr rfl hlocks hP hD hS (by rw [A_move, if_neg (by omega), if_pos (Or.inr t2)]; exact ⟨rfl, hg⟩) dX5_move_33
    · have c_9 : ¬ (y ≤ 7) := fun h => c_9 ((nI_leI (a := y) (b := 7) (by omega) (by omega)).mpr h)
      refine lv_iconst (v := 1) hx hb dX5_move_12 (by decide) ?_
      exact Ri (D := D) (v 7) hx hb hr rfl hlocks hP hD hS (by rw [A_move, if_pos (by omega)]; exact ⟨rfl, hg⟩) dX5_move_13

set_option maxHeartbeats 4000000 in
set_option maxRecDepth 100000 in
theorem c_X5_call (l : Launch) (D : va_G) (cI cZ : ClassId) (a : Nat → Nat) (v : Nat → Nat → Int32) (t r b o : Int32) (L : Nat) (hL : L ≤ 4) (pn : Nat → Nat) (cd : Nat → Nat → Nat) (hp : rpl v pn cd) (x : Nat) (hx16 : x < 16) : Ci l D [(cI, .int), (cZ, .boolean)] yX5_call wsX5_call ({ frames := 2, cells := 0, slots := 0, locals := 42 }) [.ref (a 0), .int (nI x)] (wM a cI cZ v t r (nI L) b o) (S := (Nat → Nat → Int32) × Int32) (fun w u => ((x < 6 ∧ L < 4 ∧ clo (pn x) (cd x)) ∧ w = 0 ∧ u = ((va_up (va_up (va_up v 13 (upd (v 13) (L + 1) (nI x))) 14 (upd (v 14) (L + 1) 0)) 11 (upd (v 11) 7 (v 11 7 + 1))), nI (L + 1))) ∨ (¬ (x < 6 ∧ L < 4 ∧ clo (pn x) (cd x)) ∧ w = 6 ∧ u = (v, nI L))) (fun u => wM a cI cZ u.1 t r u.2 b o) := by
  refine Ci.mk (cc := cX5_call) (maxL := 2) (ret := (some .int)) (by decide +kernel) rfl (Nat.le_of_ble_eq_true rfl) ?_
  intro pg e s m below meth c A ls hx hb hml hr hown hts hlocks hK hns hA hP hD hS hl
  have hl : lv_has ls 2 [(0, .ref (a 0)), (1, .int (nI x))] := hl
  have fl84 := hts (.fieldLink RX5 84 "HeldShelvesModel" "level" "I") (List.mem_of_getElem? (i := 1) rfl)
  have inX5 : ∀ w ∈ wsX50, w ∈ wsX5_call := fun _ h => List.mem_cons_of_mem _ (List.mem_append_right _ h)
  have fl44 := hts (.fieldLink RX5 44 "HeldShelvesModel" "planAt" "[I") (List.mem_of_getElem? (i := 2) rfl)
  have fl47 := hts (.fieldLink RX5 47 "HeldShelvesModel" "actAt" "[I") (List.mem_of_getElem? (i := 3) rfl)
  have fl38 := hts (.fieldLink RX5 38 "HeldShelvesModel" "told" "[I") (List.mem_of_getElem? (i := 4) rfl)
  have hP : va_P D vwCl [(a 0, .inr (5, [.int t, .ref (a 1), .ref (a 2), .ref (a 3), .ref (a 4), .ref (a 5), .ref (a 6), .ref (a 7), .ref (a 8), .ref (a 9), .int r, .ref (a 11), .ref (a 12), .ref (a 13), .ref (a 14), .int (nI L), .ref (a 16), .ref (a 17), .ref (a 18), .int b, .int o])), (a 1, .inl (cI, 6, .inl (v 1))), (a 2, .inl (cI, 240, .inl (v 2))), (a 3, .inl (cI, 240, .inl (v 3))), (a 4, .inl (cI, 240, .inl (v 4))), (a 5, .inl (cI, 240, .inl (v 5))), (a 6, .inl (cZ, 8, .inl (v 6))), (a 7, .inl (cI, 8, .inl (v 7))), (a 8, .inl (cI, 8, .inl (v 8))), (a 9, .inl (cI, 8, .inl (v 9))), (a 11, .inl (cI, 8, .inl (v 11))), (a 12, .inl (cI, 10, .inl (v 12))), (a 13, .inl (cI, 5, .inl (v 13))), (a 14, .inl (cI, 5, .inl (v 14))), (a 16, .inl (cI, 128, .inl (v 16))), (a 17, .inl (cI, 128, .inl (v 17))), (a 18, .inl (cI, 128, .inl (v 18)))] s.heap := hP
  have hD : va_D A [(a 0, .inr (5, [.int t, .ref (a 1), .ref (a 2), .ref (a 3), .ref (a 4), .ref (a 5), .ref (a 6), .ref (a 7), .ref (a 8), .ref (a 9), .int r, .ref (a 11), .ref (a 12), .ref (a 13), .ref (a 14), .int (nI L), .ref (a 16), .ref (a 17), .ref (a 18), .int b, .int o])), (a 1, .inl (cI, 6, .inl (v 1))), (a 2, .inl (cI, 240, .inl (v 2))), (a 3, .inl (cI, 240, .inl (v 3))), (a 4, .inl (cI, 240, .inl (v 4))), (a 5, .inl (cI, 240, .inl (v 5))), (a 6, .inl (cZ, 8, .inl (v 6))), (a 7, .inl (cI, 8, .inl (v 7))), (a 8, .inl (cI, 8, .inl (v 8))), (a 9, .inl (cI, 8, .inl (v 9))), (a 11, .inl (cI, 8, .inl (v 11))), (a 12, .inl (cI, 10, .inl (v 12))), (a 13, .inl (cI, 5, .inl (v 13))), (a 14, .inl (cI, 5, .inl (v 14))), (a 16, .inl (cI, 128, .inl (v 16))), (a 17, .inl (cI, 128, .inl (v 17))), (a 18, .inl (cI, 128, .inl (v 18)))] := hD
  refine lv_iload_n hx hb dX5_call_0 rfl (lv_at hl 1 rfl) ?_
  refine cl_Si (As := [.int (nI x)]) (rest := []) (c_X5_isPlan l D (nI x)) ⟨hx, hb, hml, hown, hts⟩ (cwS 1 hts gX5_call_X5_isPlan rfl rfl rfl (by decide +kernel) ⟨Nat.le_of_ble_eq_true rfl, Nat.le_of_ble_eq_true rfl⟩) hK hns hP hD hS hA rfl hl.1 rfl (Nat.le_of_ble_eq_true rfl) dX5_call_1 ⟨Nat.zero_le _, Nat.zero_le _⟩ (fun r1 u1 H locs hw1 hP hD hS => ?_)
  rcases hw1 with ⟨rfl, hp1⟩ | ⟨rfl, hp1⟩
  · have hp1 : x < 6 := (inN_nI (by omega) (by omega)).mp hp1
    refine lv_if_eq (tgt := 23) hx hb dX5_call_4 (by decide) (fun c9 => absurd c9 (by decide)) (fun _ => ?_)
    refine lv_aload_n hx hb dX5_call_7 rfl (lv_at hl 0 rfl) ?_
    refine lv_iload_n hx hb dX5_call_8 rfl (lv_at hl 1 rfl) ?_
    refine cl_Vi ([]) ([]) (As := [.int (nI x)]) (rest := []) (c_X5_isClosed l D cI cZ a v t r (nI L) b o pn cd hp x hp1) ⟨hx, hb, hml, hown, hts⟩ (cwV 1 hts gX5_call_X5_isClosed rfl rfl rfl (by decide +kernel) ⟨Nat.le_of_ble_eq_true rfl, Nat.le_of_ble_eq_true rfl⟩) hK hns hP hD hS hA rfl (T := TX5) (N := 21) rfl rfl hl.1 rfl (Nat.le_of_ble_eq_true rfl) dX5_call_9 ⟨Nat.zero_le _, Nat.zero_le _⟩ (fun r9 u9 H locs hw9 hP hD hS => ?_)
    have hP : va_P D vwCl [(a 0, .inr (5, [.int t, .ref (a 1), .ref (a 2), .ref (a 3), .ref (a 4), .ref (a 5), .ref (a 6), .ref (a 7), .ref (a 8), .ref (a 9), .int r, .ref (a 11), .ref (a 12), .ref (a 13), .ref (a 14), .int (nI L), .ref (a 16), .ref (a 17), .ref (a 18), .int b, .int o])), (a 1, .inl (cI, 6, .inl (v 1))), (a 2, .inl (cI, 240, .inl (v 2))), (a 3, .inl (cI, 240, .inl (v 3))), (a 4, .inl (cI, 240, .inl (v 4))), (a 5, .inl (cI, 240, .inl (v 5))), (a 6, .inl (cZ, 8, .inl (v 6))), (a 7, .inl (cI, 8, .inl (v 7))), (a 8, .inl (cI, 8, .inl (v 8))), (a 9, .inl (cI, 8, .inl (v 9))), (a 11, .inl (cI, 8, .inl (v 11))), (a 12, .inl (cI, 10, .inl (v 12))), (a 13, .inl (cI, 5, .inl (v 13))), (a 14, .inl (cI, 5, .inl (v 14))), (a 16, .inl (cI, 128, .inl (v 16))), (a 17, .inl (cI, 128, .inl (v 17))), (a 18, .inl (cI, 128, .inl (v 18)))] H := hP
    have hD : va_D A [(a 0, .inr (5, [.int t, .ref (a 1), .ref (a 2), .ref (a 3), .ref (a 4), .ref (a 5), .ref (a 6), .ref (a 7), .ref (a 8), .ref (a 9), .int r, .ref (a 11), .ref (a 12), .ref (a 13), .ref (a 14), .int (nI L), .ref (a 16), .ref (a 17), .ref (a 18), .int b, .int o])), (a 1, .inl (cI, 6, .inl (v 1))), (a 2, .inl (cI, 240, .inl (v 2))), (a 3, .inl (cI, 240, .inl (v 3))), (a 4, .inl (cI, 240, .inl (v 4))), (a 5, .inl (cI, 240, .inl (v 5))), (a 6, .inl (cZ, 8, .inl (v 6))), (a 7, .inl (cI, 8, .inl (v 7))), (a 8, .inl (cI, 8, .inl (v 8))), (a 9, .inl (cI, 8, .inl (v 9))), (a 11, .inl (cI, 8, .inl (v 11))), (a 12, .inl (cI, 10, .inl (v 12))), (a 13, .inl (cI, 5, .inl (v 13))), (a 14, .inl (cI, 5, .inl (v 14))), (a 16, .inl (cI, 128, .inl (v 16))), (a 17, .inl (cI, 128, .inl (v 17))), (a 18, .inl (cI, 128, .inl (v 18)))] := hD
    rcases hw9 with ⟨rfl, hc9⟩ | ⟨rfl, hc9⟩
    · refine lv_if_eq (tgt := 23) hx hb dX5_call_12 (by decide) (fun c9 => absurd c9 (by decide)) (fun _ => ?_)
      refine lv_aload_n hx hb dX5_call_15 rfl (lv_at hl 0 rfl) ?_
      refine va_get (D := D) (ci := 5) (v := .int (nI L)) (C := RX5) (T := TX5) (N := 21) hx hb hts inX5 hown hK hP 0 rfl rfl 15 (by decide) fl84 (fun _ h9 => h9) rfl dX5_call_16 ?_
      refine lv_iconst (v := 4) hx hb dX5_call_19 (by decide) ?_
      refine lv_icmp_ne (tgt := 26) hx hb dX5_call_20 (by decide) (fun c_20 => ?_) (fun c_20 => ?_)
      · have c_20 : ¬ (L = 4) := fun h => c_20 ((nI_eq (a := L) (b := 4) (by omega) (by omega)).mpr h)
        refine lv_aload_n hx hb dX5_call_26 rfl (lv_at hl 0 rfl) ?_
        refine lv_dup hx hb dX5_call_27 rfl ?_
        refine va_get (D := D) (ci := 5) (v := .int (nI L)) (C := RX5) (T := TX5) (N := 21) hx hb hts inX5 hown hK hP 0 rfl rfl 15 (by decide) fl84 (fun _ h9 => h9) rfl dX5_call_28 ?_
        refine lv_iconst (v := 1) hx hb dX5_call_31 (by decide) ?_
        refine lv_iadd hx hb dX5_call_32 ?_
        refine tp (y := nI (L + 1)) (nI_1 L) ?_
        refine va_put (D := D) (ci := 5) (v := .int (nI (L + 1))) (ty := .int) (C := RX5) (T := TX5) (N := 21) hx hb hts inX5 tyX5 tyX5_ok nmX5 hown hK hP hD hS 0 rfl rfl 15 (by decide) fl84 (fun _ h9 => h9) rfl (by decide +kernel) rfl rfl (Nat.le_of_ble_eq_true rfl) dX5_call_33 (fun H locs hP hD hS => ?_)
        have hP : va_P D vwCl [(a 0, .inr (5, [.int t, .ref (a 1), .ref (a 2), .ref (a 3), .ref (a 4), .ref (a 5), .ref (a 6), .ref (a 7), .ref (a 8), .ref (a 9), .int r, .ref (a 11), .ref (a 12), .ref (a 13), .ref (a 14), .int (nI (L + 1)), .ref (a 16), .ref (a 17), .ref (a 18), .int b, .int o])), (a 1, .inl (cI, 6, .inl (v 1))), (a 2, .inl (cI, 240, .inl (v 2))), (a 3, .inl (cI, 240, .inl (v 3))), (a 4, .inl (cI, 240, .inl (v 4))), (a 5, .inl (cI, 240, .inl (v 5))), (a 6, .inl (cZ, 8, .inl (v 6))), (a 7, .inl (cI, 8, .inl (v 7))), (a 8, .inl (cI, 8, .inl (v 8))), (a 9, .inl (cI, 8, .inl (v 9))), (a 11, .inl (cI, 8, .inl (v 11))), (a 12, .inl (cI, 10, .inl (v 12))), (a 13, .inl (cI, 5, .inl (v 13))), (a 14, .inl (cI, 5, .inl (v 14))), (a 16, .inl (cI, 128, .inl (v 16))), (a 17, .inl (cI, 128, .inl (v 17))), (a 18, .inl (cI, 128, .inl (v 18)))] H := hP
        have hD : va_D A [(a 0, .inr (5, [.int t, .ref (a 1), .ref (a 2), .ref (a 3), .ref (a 4), .ref (a 5), .ref (a 6), .ref (a 7), .ref (a 8), .ref (a 9), .int r, .ref (a 11), .ref (a 12), .ref (a 13), .ref (a 14), .int (nI (L + 1)), .ref (a 16), .ref (a 17), .ref (a 18), .int b, .int o])), (a 1, .inl (cI, 6, .inl (v 1))), (a 2, .inl (cI, 240, .inl (v 2))), (a 3, .inl (cI, 240, .inl (v 3))), (a 4, .inl (cI, 240, .inl (v 4))), (a 5, .inl (cI, 240, .inl (v 5))), (a 6, .inl (cZ, 8, .inl (v 6))), (a 7, .inl (cI, 8, .inl (v 7))), (a 8, .inl (cI, 8, .inl (v 8))), (a 9, .inl (cI, 8, .inl (v 9))), (a 11, .inl (cI, 8, .inl (v 11))), (a 12, .inl (cI, 10, .inl (v 12))), (a 13, .inl (cI, 5, .inl (v 13))), (a 14, .inl (cI, 5, .inl (v 14))), (a 16, .inl (cI, 128, .inl (v 16))), (a 17, .inl (cI, 128, .inl (v 17))), (a 18, .inl (cI, 128, .inl (v 18)))] := hD
        refine lv_aload_n hx hb dX5_call_36 rfl (lv_at hl 0 rfl) ?_
        refine va_get (D := D) (ci := 5) (v := .ref (a 13)) (C := RX5) (T := TX5) (N := 21) hx hb hts inX5 hown hK hP 0 rfl rfl 13 (by decide) fl44 (fun _ h9 => h9) rfl dX5_call_37 ?_
        refine lv_aload_n hx hb dX5_call_40 rfl (lv_at hl 0 rfl) ?_
        refine va_get (D := D) (ci := 5) (v := .int (nI (L + 1))) (C := RX5) (T := TX5) (N := 21) hx hb hts inX5 hown hK hP 0 rfl rfl 15 (by decide) fl84 (fun _ h9 => h9) rfl dX5_call_41 ?_
        refine lv_iload_n hx hb dX5_call_44 rfl (lv_at hl 1 rfl) ?_
        refine xi_ast hx hb hK hP hD hS 12 0 rfl rfl (k := (L + 1)) (x := (nI x)) (by omega) (by decide) dX5_call_45 (fun H locs hP hD hS => ?_)
        have hP : va_P D vwCl [(a 0, .inr (5, [.int t, .ref (a 1), .ref (a 2), .ref (a 3), .ref (a 4), .ref (a 5), .ref (a 6), .ref (a 7), .ref (a 8), .ref (a 9), .int r, .ref (a 11), .ref (a 12), .ref (a 13), .ref (a 14), .int (nI (L + 1)), .ref (a 16), .ref (a 17), .ref (a 18), .int b, .int o])), (a 1, .inl (cI, 6, .inl (v 1))), (a 2, .inl (cI, 240, .inl (v 2))), (a 3, .inl (cI, 240, .inl (v 3))), (a 4, .inl (cI, 240, .inl (v 4))), (a 5, .inl (cI, 240, .inl (v 5))), (a 6, .inl (cZ, 8, .inl (v 6))), (a 7, .inl (cI, 8, .inl (v 7))), (a 8, .inl (cI, 8, .inl (v 8))), (a 9, .inl (cI, 8, .inl (v 9))), (a 11, .inl (cI, 8, .inl (v 11))), (a 12, .inl (cI, 10, .inl (v 12))), (a 13, .inl (cI, 5, .inl (upd (v 13) (L + 1) (nI x)))), (a 14, .inl (cI, 5, .inl (v 14))), (a 16, .inl (cI, 128, .inl (v 16))), (a 17, .inl (cI, 128, .inl (v 17))), (a 18, .inl (cI, 128, .inl (v 18)))] H := hP
        have hD : va_D A [(a 0, .inr (5, [.int t, .ref (a 1), .ref (a 2), .ref (a 3), .ref (a 4), .ref (a 5), .ref (a 6), .ref (a 7), .ref (a 8), .ref (a 9), .int r, .ref (a 11), .ref (a 12), .ref (a 13), .ref (a 14), .int (nI (L + 1)), .ref (a 16), .ref (a 17), .ref (a 18), .int b, .int o])), (a 1, .inl (cI, 6, .inl (v 1))), (a 2, .inl (cI, 240, .inl (v 2))), (a 3, .inl (cI, 240, .inl (v 3))), (a 4, .inl (cI, 240, .inl (v 4))), (a 5, .inl (cI, 240, .inl (v 5))), (a 6, .inl (cZ, 8, .inl (v 6))), (a 7, .inl (cI, 8, .inl (v 7))), (a 8, .inl (cI, 8, .inl (v 8))), (a 9, .inl (cI, 8, .inl (v 9))), (a 11, .inl (cI, 8, .inl (v 11))), (a 12, .inl (cI, 10, .inl (v 12))), (a 13, .inl (cI, 5, .inl (upd (v 13) (L + 1) (nI x)))), (a 14, .inl (cI, 5, .inl (v 14))), (a 16, .inl (cI, 128, .inl (v 16))), (a 17, .inl (cI, 128, .inl (v 17))), (a 18, .inl (cI, 128, .inl (v 18)))] := hD
        refine lv_aload_n hx hb dX5_call_46 rfl (lv_at hl 0 rfl) ?_
        refine va_get (D := D) (ci := 5) (v := .ref (a 14)) (C := RX5) (T := TX5) (N := 21) hx hb hts inX5 hown hK hP 0 rfl rfl 14 (by decide) fl47 (fun _ h9 => h9) rfl dX5_call_47 ?_
        refine lv_aload_n hx hb dX5_call_50 rfl (lv_at hl 0 rfl) ?_
        refine va_get (D := D) (ci := 5) (v := .int (nI (L + 1))) (C := RX5) (T := TX5) (N := 21) hx hb hts inX5 hown hK hP 0 rfl rfl 15 (by decide) fl84 (fun _ h9 => h9) rfl dX5_call_51 ?_
        refine lv_iconst (v := 0) hx hb dX5_call_54 (by decide) ?_
        refine xi_ast hx hb hK hP hD hS 13 0 rfl rfl (k := (L + 1)) (x := 0) (by omega) (by decide) dX5_call_55 (fun H locs hP hD hS => ?_)
        have hP : va_P D vwCl [(a 0, .inr (5, [.int t, .ref (a 1), .ref (a 2), .ref (a 3), .ref (a 4), .ref (a 5), .ref (a 6), .ref (a 7), .ref (a 8), .ref (a 9), .int r, .ref (a 11), .ref (a 12), .ref (a 13), .ref (a 14), .int (nI (L + 1)), .ref (a 16), .ref (a 17), .ref (a 18), .int b, .int o])), (a 1, .inl (cI, 6, .inl (v 1))), (a 2, .inl (cI, 240, .inl (v 2))), (a 3, .inl (cI, 240, .inl (v 3))), (a 4, .inl (cI, 240, .inl (v 4))), (a 5, .inl (cI, 240, .inl (v 5))), (a 6, .inl (cZ, 8, .inl (v 6))), (a 7, .inl (cI, 8, .inl (v 7))), (a 8, .inl (cI, 8, .inl (v 8))), (a 9, .inl (cI, 8, .inl (v 9))), (a 11, .inl (cI, 8, .inl (v 11))), (a 12, .inl (cI, 10, .inl (v 12))), (a 13, .inl (cI, 5, .inl (upd (v 13) (L + 1) (nI x)))), (a 14, .inl (cI, 5, .inl (upd (v 14) (L + 1) 0))), (a 16, .inl (cI, 128, .inl (v 16))), (a 17, .inl (cI, 128, .inl (v 17))), (a 18, .inl (cI, 128, .inl (v 18)))] H := hP
        have hD : va_D A [(a 0, .inr (5, [.int t, .ref (a 1), .ref (a 2), .ref (a 3), .ref (a 4), .ref (a 5), .ref (a 6), .ref (a 7), .ref (a 8), .ref (a 9), .int r, .ref (a 11), .ref (a 12), .ref (a 13), .ref (a 14), .int (nI (L + 1)), .ref (a 16), .ref (a 17), .ref (a 18), .int b, .int o])), (a 1, .inl (cI, 6, .inl (v 1))), (a 2, .inl (cI, 240, .inl (v 2))), (a 3, .inl (cI, 240, .inl (v 3))), (a 4, .inl (cI, 240, .inl (v 4))), (a 5, .inl (cI, 240, .inl (v 5))), (a 6, .inl (cZ, 8, .inl (v 6))), (a 7, .inl (cI, 8, .inl (v 7))), (a 8, .inl (cI, 8, .inl (v 8))), (a 9, .inl (cI, 8, .inl (v 9))), (a 11, .inl (cI, 8, .inl (v 11))), (a 12, .inl (cI, 10, .inl (v 12))), (a 13, .inl (cI, 5, .inl (upd (v 13) (L + 1) (nI x)))), (a 14, .inl (cI, 5, .inl (upd (v 14) (L + 1) 0))), (a 16, .inl (cI, 128, .inl (v 16))), (a 17, .inl (cI, 128, .inl (v 17))), (a 18, .inl (cI, 128, .inl (v 18)))] := hD
        refine lv_aload_n hx hb dX5_call_56 rfl (lv_at hl 0 rfl) ?_
        refine va_get (D := D) (ci := 5) (v := .ref (a 11)) (C := RX5) (T := TX5) (N := 21) hx hb hts inX5 hown hK hP 0 rfl rfl 11 (by decide) fl38 (fun _ h9 => h9) rfl dX5_call_57 ?_
        refine lv_bipush (v := 7) hx hb dX5_call_60 (by decide) ?_
        refine lv_dup2_11 hx hb dX5_call_62 rfl rfl ?_
        refine xi_ald hx hb hK hP 10 0 rfl rfl (k := 7) (by omega) (by decide) dX5_call_63 ?_
        refine lv_iconst (v := 1) hx hb dX5_call_64 (by decide) ?_
        refine lv_iadd hx hb dX5_call_65 ?_
        refine xi_ast hx hb hK hP hD hS 10 0 rfl rfl (k := 7) (x := (((v 11) 7) + 1)) (by omega) (by decide) dX5_call_66 (fun H locs hP hD hS => ?_)
        have hP : va_P D vwCl [(a 0, .inr (5, [.int t, .ref (a 1), .ref (a 2), .ref (a 3), .ref (a 4), .ref (a 5), .ref (a 6), .ref (a 7), .ref (a 8), .ref (a 9), .int r, .ref (a 11), .ref (a 12), .ref (a 13), .ref (a 14), .int (nI (L + 1)), .ref (a 16), .ref (a 17), .ref (a 18), .int b, .int o])), (a 1, .inl (cI, 6, .inl (v 1))), (a 2, .inl (cI, 240, .inl (v 2))), (a 3, .inl (cI, 240, .inl (v 3))), (a 4, .inl (cI, 240, .inl (v 4))), (a 5, .inl (cI, 240, .inl (v 5))), (a 6, .inl (cZ, 8, .inl (v 6))), (a 7, .inl (cI, 8, .inl (v 7))), (a 8, .inl (cI, 8, .inl (v 8))), (a 9, .inl (cI, 8, .inl (v 9))), (a 11, .inl (cI, 8, .inl (upd (v 11) 7 (((v 11) 7) + 1)))), (a 12, .inl (cI, 10, .inl (v 12))), (a 13, .inl (cI, 5, .inl (upd (v 13) (L + 1) (nI x)))), (a 14, .inl (cI, 5, .inl (upd (v 14) (L + 1) 0))), (a 16, .inl (cI, 128, .inl (v 16))), (a 17, .inl (cI, 128, .inl (v 17))), (a 18, .inl (cI, 128, .inl (v 18)))] H := hP
        have hD : va_D A [(a 0, .inr (5, [.int t, .ref (a 1), .ref (a 2), .ref (a 3), .ref (a 4), .ref (a 5), .ref (a 6), .ref (a 7), .ref (a 8), .ref (a 9), .int r, .ref (a 11), .ref (a 12), .ref (a 13), .ref (a 14), .int (nI (L + 1)), .ref (a 16), .ref (a 17), .ref (a 18), .int b, .int o])), (a 1, .inl (cI, 6, .inl (v 1))), (a 2, .inl (cI, 240, .inl (v 2))), (a 3, .inl (cI, 240, .inl (v 3))), (a 4, .inl (cI, 240, .inl (v 4))), (a 5, .inl (cI, 240, .inl (v 5))), (a 6, .inl (cZ, 8, .inl (v 6))), (a 7, .inl (cI, 8, .inl (v 7))), (a 8, .inl (cI, 8, .inl (v 8))), (a 9, .inl (cI, 8, .inl (v 9))), (a 11, .inl (cI, 8, .inl (upd (v 11) 7 (((v 11) 7) + 1)))), (a 12, .inl (cI, 10, .inl (v 12))), (a 13, .inl (cI, 5, .inl (upd (v 13) (L + 1) (nI x)))), (a 14, .inl (cI, 5, .inl (upd (v 14) (L + 1) 0))), (a 16, .inl (cI, 128, .inl (v 16))), (a 17, .inl (cI, 128, .inl (v 17))), (a 18, .inl (cI, 128, .inl (v 18)))] := hD
        refine lv_iconst (v := 0) hx hb dX5_call_67 (by decide) ?_
        exact Ri (D := D) ((va_up (va_up (va_up v 13 (upd (v 13) (L + 1) (nI x))) 14 (upd (v 14) (L + 1) 0)) 11 (upd (v 11) 7 (v 11 7 + 1))), nI (L + 1)) hx hb hr rfl hlocks hP hD hS (Or.inl ⟨⟨hp1, by omega, hc9⟩, rfl, rfl⟩) dX5_call_68
      · have c_20 : L = 4 := (nI_eq (a := L) (b := 4) (by omega) (by omega)).mp c_20
        refine lv_bipush (v := 6) hx hb dX5_call_23 (by decide) ?_
        exact Ri (D := D) (v, nI L) hx hb hr rfl hlocks hP hD hS (Or.inr ⟨fun h => by first | exact hp1 h.1 | exact hc9 h.2.2 | omega, rfl, rfl⟩) dX5_call_25
    · refine lv_if_eq (tgt := 23) hx hb dX5_call_12 (by decide) (fun _ => ?_) (fun c9 => absurd (by decide) c9)
      refine lv_bipush (v := 6) hx hb dX5_call_23 (by decide) ?_
      exact Ri (D := D) (v, nI L) hx hb hr rfl hlocks hP hD hS (Or.inr ⟨fun h => by first | exact hp1 h.1 | exact hc9 h.2.2 | omega, rfl, rfl⟩) dX5_call_25
  · have hp1 : ¬ x < 6 := fun h => hp1 ((inN_nI (by omega) (by omega)).mpr h)
    refine lv_if_eq (tgt := 23) hx hb dX5_call_4 (by decide) (fun _ => ?_) (fun c9 => absurd (by decide) c9)
    refine lv_bipush (v := 6) hx hb dX5_call_23 (by decide) ?_
    exact Ri (D := D) (v, nI L) hx hb hr rfl hlocks hP hD hS (Or.inr ⟨fun h => by first | exact hp1 h.1 | exact hc9 h.2.2 | omega, rfl, rfl⟩) dX5_call_25
