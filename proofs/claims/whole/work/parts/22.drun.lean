set_option maxHeartbeats 4000000 in
set_option maxRecDepth 100000 in
theorem c_X4_leaveOpen (l : Launch) (D : va_G) (cI cP : ClassId) (a : Nat → Nat) (pc : Nat → Int32) (pf : Nat → Nat → Int32) (g l0 h0 : Nat → Int32) (r : Int32) (k n b ct0' td0'' : Nat → Int32) (G : GP) (go : Nat → Nat) (lf0 : Nat → Int32) (rs : Int32) (td0' ct0 : Nat → Int32) (st p0 nx0 : Nat) (K0 : KL) (d0 : Int) (f : Nat) (hf9 : f ≤ 9) (hD0 : Dp G go lf0 rs td0' ct0 (cnt K0) g l0 h0 r ct0' td0'') (hs0 : Dst G k n b p0 K0) (hwf0 : WF G p0 d0 K0) (hKl0 : K0.length ≤ 64) : Ci l D [(cI, .int), (cP, .object RX1)] yX4_leaveOpen wsX4_leaveOpen ({ frames := 4, cells := 0, slots := 0, locals := 81 }) [.ref (a 0), .int (nI f)] (wD a cI cP pc pf g l0 h0 r k n b (nI K0.length) ct0' td0'' (nI (hn K0)) (nI p0) (nI nx0) (nI (lvl K0 + 1))) (S := US) (fun w u => w = (if (unw G f K0 lf0 td0' ct0 p0 nx0).1 = true then 1 else 0) ∧ Dr G (go, (unw G f K0 lf0 td0' ct0 p0 nx0).2.1, rs, (unw G f K0 lf0 td0' ct0 p0 nx0).2.2.1, (unw G f K0 lf0 td0' ct0 p0 nx0).2.2.2.1, st, (unw G f K0 lf0 td0' ct0 p0 nx0).2.2.2.2.1, (unw G f K0 lf0 td0' ct0 p0 nx0).2.2.2.2.2.1, (unw G f K0 lf0 td0' ct0 p0 nx0).2.2.2.2.2.2) u) (fun u => wDu a cI cP pc pf u) := by
  refine Ci.mk (cc := cX4_leaveOpen) (maxL := 4) (ret := (some .boolean)) (by decide +kernel) rfl (Nat.le_of_ble_eq_true rfl) ?_
  intro pg e s m below meth c A ls hx hb hml hr hown hts hlocks hK hns hA hP hD hS hl
  have hl : lv_has ls 4 [(0, .ref (a 0)), (1, .int (nI f))] := hl
  have fl26 := hts (.fieldLink RX4 26 "HeldShelves" "open" "LHeldShelves$OpenRow;") (List.mem_of_getElem? (i := 1) rfl)
  have inX4 : ∀ w ∈ wsX40, w ∈ wsX4_leaveOpen := fun _ h => List.mem_cons_of_mem _ (List.mem_append_left _ (List.mem_append_left _ (List.mem_append_left _ (List.mem_append_right _ h))))
  have hP : va_P D vwCl ([(a 0, .inr (4, [.ref (a 1), .ref (a 14), .ref (a 18), .ref (a 22), .int (nI p0), .int (nI nx0), .int (nI (lvl K0 + 1))])), (a 1, .inl (cP, 6, .inr (.inr (.inr (.inr (fun k => some (a (2 + 2 * k))))))))] ++ ((wPs a cI pc pf) ++ ((wSt (sh 14 a) cI g l0 h0 r) ++ ((wOp (sh 18 a) cI k n b (nI K0.length)) ++ (wRp (sh 22 a) cI ct0' td0'' (nI (hn K0))))))) s.heap := hP
  have hD : va_D A ([(a 0, .inr (4, [.ref (a 1), .ref (a 14), .ref (a 18), .ref (a 22), .int (nI p0), .int (nI nx0), .int (nI (lvl K0 + 1))])), (a 1, .inl (cP, 6, .inr (.inr (.inr (.inr (fun k => some (a (2 + 2 * k))))))))] ++ ((wPs a cI pc pf) ++ ((wSt (sh 14 a) cI g l0 h0 r) ++ ((wOp (sh 18 a) cI k n b (nI K0.length)) ++ (wRp (sh 22 a) cI ct0' td0'' (nI (hn K0))))))) := hD
  refine lv_aload_n hx hb dX4_leaveOpen_0 rfl (lv_at hl 0 rfl) ?_
  refine va_get (D := D) (ci := 4) (v := .ref (a 18)) (C := RX4) (T := TX4) (N := 7) hx hb hts inX4 hown hK hP 0 rfl rfl 2 (by decide) fl26 (fun _ h9 => h9) rfl dX4_leaveOpen_1 ?_
  refine cl_Vi ([(a 0, .inr (4, [.ref (a 1), .ref (a 14), .ref (a 18), .ref (a 22), .int (nI p0), .int (nI nx0), .int (nI (lvl K0 + 1))])), (a 1, .inl (cP, 6, .inr (.inr (.inr (.inr (fun k => some (a (2 + 2 * k))))))))] ++ ((wPs a cI pc pf) ++ (wSt (sh 14 a) cI g l0 h0 r))) (wRp (sh 22 a) cI ct0' td0'' (nI (hn K0))) (As := []) (rest := []) (c_X0_size l D cI (sh 18 a) k n b K0.length) ⟨hx, hb, hml, hown, hts⟩ (cwV 0 hts gX4_leaveOpen_X0_size rfl rfl rfl (by decide +kernel) ⟨Nat.le_of_ble_eq_true rfl, Nat.le_of_ble_eq_true rfl⟩) (hK.sub [0] rfl) hns hP hD hS hA rfl (T := TX0) (N := 4) rfl rfl hl.1 rfl (Nat.le_of_ble_eq_true rfl) dX4_leaveOpen_4 ⟨Nat.zero_le _, Nat.zero_le _⟩ (fun r4 u4 H locs hw4 hP hD hS => ?_)
  have hP : va_P D vwCl ([(a 0, .inr (4, [.ref (a 1), .ref (a 14), .ref (a 18), .ref (a 22), .int (nI p0), .int (nI nx0), .int (nI (lvl K0 + 1))])), (a 1, .inl (cP, 6, .inr (.inr (.inr (.inr (fun k => some (a (2 + 2 * k))))))))] ++ ((wPs a cI pc pf) ++ ((wSt (sh 14 a) cI g l0 h0 r) ++ ((wOp (sh 18 a) cI k n b (nI K0.length)) ++ (wRp (sh 22 a) cI ct0' td0'' (nI (hn K0))))))) H := hP
  have hD : va_D A ([(a 0, .inr (4, [.ref (a 1), .ref (a 14), .ref (a 18), .ref (a 22), .int (nI p0), .int (nI nx0), .int (nI (lvl K0 + 1))])), (a 1, .inl (cP, 6, .inr (.inr (.inr (.inr (fun k => some (a (2 + 2 * k))))))))] ++ ((wPs a cI pc pf) ++ ((wSt (sh 14 a) cI g l0 h0 r) ++ ((wOp (sh 18 a) cI k n b (nI K0.length)) ++ (wRp (sh 22 a) cI ct0' td0'' (nI (hn K0))))))) := hD
  subst hw4
  refine lv_istore_n (lv' := [(2, .int (nI K0.length)), (0, .ref (a 0)), (1, .int (nI f))]) hx hb dX4_leaveOpen_7 rfl hl (by decide) rfl (fun ls hl => ?_)
  have loop8 : ∀ (K : KL) (lf td ct : Nat → Int32) (p nx : Nat) (d : Int) (l_ h ct' td' : Nat → Int32), unw G f K0 lf0 td0' ct0 p0 nx0 = unw G f K lf td ct p nx → Dp G go lf rs td ct (cnt K) g l_ h r ct' td' → Dst G k n b p K → WF G p d K → K.length ≤ 64 → ∀ (H : Heap) (locs : List Loc), va_P D vwCl (wD a cI cP pc pf g l_ h r k n b (nI K.length) ct' td' (nI (hn K)) (nI p) (nI nx) (nI (lvl K + 1))) H → va_D A (wD a cI cP pc pf g l_ h r k n b (nI K.length) ct' td' (nI (hn K)) (nI p) (nI nx) (nI (lvl K + 1))) → va_S A s.heap H locs → ∀ (ls : Array Slot), lv_has ls 4 [(0, .ref (a 0)), (1, .int (nI f)), (2, .int (nI K.length))] → W pg l e ({ frames := 4, cells := 0, slots := 0, locals := 81 } : Room) s m ([.ref (a 0), .int (nI f)] : List Value).toArray below meth c H locs 0 0 (Qi D below ([.ref (a 0), .int (nI f)] : List Value).toArray s A (S := US) (fun w u => w = (if (unw G f K0 lf0 td0' ct0 p0 nx0).1 = true then 1 else 0) ∧ Dr G (go, (unw G f K0 lf0 td0' ct0 p0 nx0).2.1, rs, (unw G f K0 lf0 td0' ct0 p0 nx0).2.2.1, (unw G f K0 lf0 td0' ct0 p0 nx0).2.2.2.1, st, (unw G f K0 lf0 td0' ct0 p0 nx0).2.2.2.2.1, (unw G f K0 lf0 td0' ct0 p0 nx0).2.2.2.2.2.1, (unw G f K0 lf0 td0' ct0 p0 nx0).2.2.2.2.2.2) u) (fun u => wDu a cI cP pc pf u)) (F0 m 8 ls []) := by
    intro K
    induction K with
    | nil =>
      intro lf td ct p nx d l_ h ct' td' hu hDp hst hwf hKl H locs hP hD hS ls hl
      have hP : va_P D vwCl ([(a 0, .inr (4, [.ref (a 1), .ref (a 14), .ref (a 18), .ref (a 22), .int (nI p), .int (nI nx), .int (nI (0 + 1))])), (a 1, .inl (cP, 6, .inr (.inr (.inr (.inr (fun k => some (a (2 + 2 * k))))))))] ++ ((wPs a cI pc pf) ++ ((wSt (sh 14 a) cI g l_ h r) ++ ((wOp (sh 18 a) cI k n b (nI 0)) ++ (wRp (sh 22 a) cI ct' td' (nI 0)))))) H := hP
      have hD : va_D A ([(a 0, .inr (4, [.ref (a 1), .ref (a 14), .ref (a 18), .ref (a 22), .int (nI p), .int (nI nx), .int (nI (0 + 1))])), (a 1, .inl (cP, 6, .inr (.inr (.inr (.inr (fun k => some (a (2 + 2 * k))))))))] ++ ((wPs a cI pc pf) ++ ((wSt (sh 14 a) cI g l_ h r) ++ ((wOp (sh 18 a) cI k n b (nI 0)) ++ (wRp (sh 22 a) cI ct' td' (nI 0)))))) := hD
      refine lv_iload_n hx hb dX4_leaveOpen_8 rfl (lv_at hl 2 rfl) ?_
      refine lv_if_le (tgt := 60) hx hb dX4_leaveOpen_9 (by decide) (fun c_9 => ?_) (fun c_9 => ?_)
      · have c_9 : 0 ≤ 0 := (nI_leI (a := 0) (b := 0) (by omega) (by omega)).mp c_9
        refine lv_iconst (v := 0) hx hb dX4_leaveOpen_60 (by decide) ?_
        exact Ri (D := D) (g, l_, h, r, k, n, b, nI 0, ct', td', nI 0, nI p, nI nx, nI (0 + 1)) hx hb hr (by decide) hlocks hP hD hS (by rw [hu]; exact ⟨rfl, hDp, trivial, rfl, rfl, rfl, rfl, rfl⟩) dX4_leaveOpen_61
      · have c_9 : ¬ (0 ≤ 0) := fun h => c_9 ((nI_leI (a := 0) (b := 0) (by omega) (by omega)).mpr h)
        exact absurd c_9 (by omega)
    | cons e K ih =>
      intro lf td ct p nx d l_ h ct' td' hu hDp hst hwf hKl H locs hP hD hS ls hl
      obtain ⟨e0, e1, e2⟩ := e
      obtain ⟨hk0, hn0, hb1, hb8, hsK⟩ := hst
      have hKl : K.length + 1 ≤ 64 := hKl
      have hn0 : n K.length = nI e1 := hn0
      rcases hwf with ⟨he, hx8, hw⟩ | ⟨he, hx10, hact, hkd, hdp, hw⟩ | ⟨he, hd0, hq6, hqc, hqn, hw⟩
      · simp only at he; subst he
        have hx8 : e1 < 8 := hx8
        have hk0 : k K.length = nI 0 := hk0
        have hsK : Dst G k n b p K := hsK
        have hP : va_P D vwCl ([(a 0, .inr (4, [.ref (a 1), .ref (a 14), .ref (a 18), .ref (a 22), .int (nI p), .int (nI nx), .int (nI (lvl K + 1))])), (a 1, .inl (cP, 6, .inr (.inr (.inr (.inr (fun k => some (a (2 + 2 * k))))))))] ++ ((wPs a cI pc pf) ++ ((wSt (sh 14 a) cI g l_ h r) ++ ((wOp (sh 18 a) cI k n b (nI (K.length + 1))) ++ (wRp (sh 22 a) cI ct' td' (nI (hn K + 1))))))) H := hP
        have hD : va_D A ([(a 0, .inr (4, [.ref (a 1), .ref (a 14), .ref (a 18), .ref (a 22), .int (nI p), .int (nI nx), .int (nI (lvl K + 1))])), (a 1, .inl (cP, 6, .inr (.inr (.inr (.inr (fun k => some (a (2 + 2 * k))))))))] ++ ((wPs a cI pc pf) ++ ((wSt (sh 14 a) cI g l_ h r) ++ ((wOp (sh 18 a) cI k n b (nI (K.length + 1))) ++ (wRp (sh 22 a) cI ct' td' (nI (hn K + 1))))))) := hD
        refine lv_iload_n hx hb dX4_leaveOpen_8 rfl (lv_at hl 2 rfl) ?_
        refine lv_if_le (tgt := 60) hx hb dX4_leaveOpen_9 (by decide) (fun c_9 => ?_) (fun c_9 => ?_)
        · have c_9 : (K.length + 1) ≤ 0 := (nI_leI (a := (K.length + 1)) (b := 0) (by omega) (by omega)).mp c_9
          exact absurd c_9 (by omega)
        · have c_9 : ¬ ((K.length + 1) ≤ 0) := fun h => c_9 ((nI_leI (a := (K.length + 1)) (b := 0) (by omega) (by omega)).mpr h)
          refine lv_aload_n hx hb dX4_leaveOpen_12 rfl (lv_at hl 0 rfl) ?_
          refine va_get (D := D) (ci := 4) (v := .ref (a 18)) (C := RX4) (T := TX4) (N := 7) hx hb hts inX4 hown hK hP 0 rfl rfl 2 (by decide) fl26 (fun _ h9 => h9) rfl dX4_leaveOpen_13 ?_
          refine cl_Vi ([(a 0, .inr (4, [.ref (a 1), .ref (a 14), .ref (a 18), .ref (a 22), .int (nI p), .int (nI nx), .int (nI (lvl K + 1))])), (a 1, .inl (cP, 6, .inr (.inr (.inr (.inr (fun k => some (a (2 + 2 * k))))))))] ++ ((wPs a cI pc pf) ++ (wSt (sh 14 a) cI g l_ h r))) (wRp (sh 22 a) cI ct' td' (nI (hn K + 1))) (As := []) (rest := []) (c_X0_kind l D cI (sh 18 a) k n b K.length (by omega)) ⟨hx, hb, hml, hown, hts⟩ (cwV 0 hts gX4_leaveOpen_X0_kind rfl rfl rfl (by decide +kernel) ⟨Nat.le_of_ble_eq_true rfl, Nat.le_of_ble_eq_true rfl⟩) (hK.sub [0] rfl) hns hP hD hS hA rfl (T := TX0) (N := 4) rfl rfl hl.1 rfl (Nat.le_of_ble_eq_true rfl) dX4_leaveOpen_16 ⟨Nat.zero_le _, Nat.zero_le _⟩ (fun r16 u16 H locs hw16 hP hD hS => ?_)
          have hP : va_P D vwCl ([(a 0, .inr (4, [.ref (a 1), .ref (a 14), .ref (a 18), .ref (a 22), .int (nI p), .int (nI nx), .int (nI (lvl K + 1))])), (a 1, .inl (cP, 6, .inr (.inr (.inr (.inr (fun k => some (a (2 + 2 * k))))))))] ++ ((wPs a cI pc pf) ++ ((wSt (sh 14 a) cI g l_ h r) ++ ((wOp (sh 18 a) cI k n b (nI (K.length + 1))) ++ (wRp (sh 22 a) cI ct' td' (nI (hn K + 1))))))) H := hP
          have hD : va_D A ([(a 0, .inr (4, [.ref (a 1), .ref (a 14), .ref (a 18), .ref (a 22), .int (nI p), .int (nI nx), .int (nI (lvl K + 1))])), (a 1, .inl (cP, 6, .inr (.inr (.inr (.inr (fun k => some (a (2 + 2 * k))))))))] ++ ((wPs a cI pc pf) ++ ((wSt (sh 14 a) cI g l_ h r) ++ ((wOp (sh 18 a) cI k n b (nI (K.length + 1))) ++ (wRp (sh 22 a) cI ct' td' (nI (hn K + 1))))))) := hD
          subst hw16
          refine tp (y := nI 0) (hk0) ?_
          refine lv_istore_n (lv' := [(3, .int (nI 0)), (0, .ref (a 0)), (1, .int (nI f)), (2, .int (nI (K.length + 1)))]) hx hb dX4_leaveOpen_19 rfl hl (by decide) rfl (fun ls hl => ?_)
          refine lv_iload_n hx hb dX4_leaveOpen_20 rfl (lv_at hl 0 rfl) ?_
          refine lv_bipush (v := 8) hx hb dX4_leaveOpen_21 (by decide) ?_
          refine lv_icmp_ne (tgt := 33) hx hb dX4_leaveOpen_23 (by decide) (fun c_23 => ?_) (fun c_23 => ?_)
          · have c_23 : ¬ (0 = 8) := fun h => c_23 ((nI_eq (a := 0) (b := 8) (by omega) (by omega)).mpr h)
            refine lv_iload_n hx hb dX4_leaveOpen_33 rfl (lv_at hl 0 rfl) ?_
            refine lv_if_ne (tgt := 44) hx hb dX4_leaveOpen_34 (by decide) (fun c_34 => ?_) (fun c_34 => ?_)
            · have c_34 : ¬ (0 = 0) := fun h => c_34 ((nI_eq (a := 0) (b := 0) (by omega) (by omega)).mpr h)
              exact absurd c_34 (by omega)
            · have c_34 : 0 = 0 := (nI_eq (a := 0) (b := 0) (by omega) (by omega)).mp c_34
              refine lv_aload_n hx hb dX4_leaveOpen_37 rfl (lv_at hl 1 rfl) ?_
              refine cl_Vv ([]) ([]) (As := []) (rest := []) (c_X4_leaveHold l D cI cP a pc pf g l_ h r k n b K.length (by omega) ct' td' (nI (hn K + 1)) (nI p) (nI nx) (nI (lvl K + 1)) hk0 e1 hx8 hn0) ⟨hx, hb, hml, hown, hts⟩ (cwV 0 hts gX4_leaveOpen_X4_leaveHold rfl rfl rfl (by decide +kernel) ⟨Nat.le_of_ble_eq_true rfl, Nat.le_of_ble_eq_true rfl⟩) hK hns hP hD hS hA rfl (T := TX4) (N := 7) rfl rfl hl.1 rfl (Nat.le_of_ble_eq_true rfl) dX4_leaveOpen_38 ⟨Nat.zero_le _, Nat.zero_le _⟩ (fun u38 H locs hw38 hP hD hS => ?_)
              have hP : va_P D vwCl ([(a 0, .inr (4, [.ref (a 1), .ref (a 14), .ref (a 18), .ref (a 22), .int (nI p), .int (nI nx), .int (nI (lvl K + 1))])), (a 1, .inl (cP, 6, .inr (.inr (.inr (.inr (fun k => some (a (2 + 2 * k))))))))] ++ ((wPs a cI pc pf) ++ ((wSt (sh 14 a) cI g (upd l_ e1 (l_ e1 + 1)) (upd h e1 (h e1 - 1)) r) ++ ((wOp (sh 18 a) cI k n b (nI K.length)) ++ (wRp (sh 22 a) cI ct' td' (nI (hn K + 1) - 1)))))) H := hP
              have hD : va_D A ([(a 0, .inr (4, [.ref (a 1), .ref (a 14), .ref (a 18), .ref (a 22), .int (nI p), .int (nI nx), .int (nI (lvl K + 1))])), (a 1, .inl (cP, 6, .inr (.inr (.inr (.inr (fun k => some (a (2 + 2 * k))))))))] ++ ((wPs a cI pc pf) ++ ((wSt (sh 14 a) cI g (upd l_ e1 (l_ e1 + 1)) (upd h e1 (h e1 - 1)) r) ++ ((wOp (sh 18 a) cI k n b (nI K.length)) ++ (wRp (sh 22 a) cI ct' td' (nI (hn K + 1) - 1)))))) := hD
              rw [nI_pred] at hP hD
              refine lv_goto (tgt := 54) hx hb dX4_leaveOpen_41 (by decide) ?_
              refine lv_iinc (v := (nI K.length)) (lv' := [(2, .int (nI K.length)), (3, .int (nI 0)), (0, .ref (a 0)), (1, .int (nI f))]) hx hb dX4_leaveOpen_54 hl (k := 3) rfl (by rw [show Int32.ofInt (-1) = -1 from by decide]; exact pk_m1 _) (by decide) rfl (fun ls hl => ?_)
              refine lv_goto (tgt := 8) hx hb dX4_leaveOpen_57 (by decide) ?_
              exact ih (upd lf e1 (lf e1 + 1)) td ct p nx _ _ _ ct' td' (hu.trans (unw_h e1 e2)) (Dp_pop (by omega) hDp) hsK hw (by omega) _ _ hP hD hS ls (lv_sub hl [2, 3, 0] rfl)
          · have c_23 : 0 = 8 := (nI_eq (a := 0) (b := 8) (by omega) (by omega)).mp c_23
            exact absurd c_23 (by omega)
      · simp only at he; subst he
        have hx10 : e1 < 10 := hx10
        have hk0 : k K.length = nI 1 := hk0
        have hsK : Dst G k n b p K := hsK
        have hb1 : b K.length = nI (beh (G.2.1 p) e2) := hb1 rfl
        have hP : va_P D vwCl ([(a 0, .inr (4, [.ref (a 1), .ref (a 14), .ref (a 18), .ref (a 22), .int (nI p), .int (nI nx), .int (nI (lvl K + 1))])), (a 1, .inl (cP, 6, .inr (.inr (.inr (.inr (fun k => some (a (2 + 2 * k))))))))] ++ ((wPs a cI pc pf) ++ ((wSt (sh 14 a) cI g l_ h r) ++ ((wOp (sh 18 a) cI k n b (nI (K.length + 1))) ++ (wRp (sh 22 a) cI ct' td' (nI (hn K))))))) H := hP
        have hD : va_D A ([(a 0, .inr (4, [.ref (a 1), .ref (a 14), .ref (a 18), .ref (a 22), .int (nI p), .int (nI nx), .int (nI (lvl K + 1))])), (a 1, .inl (cP, 6, .inr (.inr (.inr (.inr (fun k => some (a (2 + 2 * k))))))))] ++ ((wPs a cI pc pf) ++ ((wSt (sh 14 a) cI g l_ h r) ++ ((wOp (sh 18 a) cI k n b (nI (K.length + 1))) ++ (wRp (sh 22 a) cI ct' td' (nI (hn K))))))) := hD
        refine lv_iload_n hx hb dX4_leaveOpen_8 rfl (lv_at hl 2 rfl) ?_
        refine lv_if_le (tgt := 60) hx hb dX4_leaveOpen_9 (by decide) (fun c_9 => ?_) (fun c_9 => ?_)
        · have c_9 : (K.length + 1) ≤ 0 := (nI_leI (a := (K.length + 1)) (b := 0) (by omega) (by omega)).mp c_9
          exact absurd c_9 (by omega)
        · have c_9 : ¬ ((K.length + 1) ≤ 0) := fun h => c_9 ((nI_leI (a := (K.length + 1)) (b := 0) (by omega) (by omega)).mpr h)
          refine lv_aload_n hx hb dX4_leaveOpen_12 rfl (lv_at hl 0 rfl) ?_
          refine va_get (D := D) (ci := 4) (v := .ref (a 18)) (C := RX4) (T := TX4) (N := 7) hx hb hts inX4 hown hK hP 0 rfl rfl 2 (by decide) fl26 (fun _ h9 => h9) rfl dX4_leaveOpen_13 ?_
          refine cl_Vi ([(a 0, .inr (4, [.ref (a 1), .ref (a 14), .ref (a 18), .ref (a 22), .int (nI p), .int (nI nx), .int (nI (lvl K + 1))])), (a 1, .inl (cP, 6, .inr (.inr (.inr (.inr (fun k => some (a (2 + 2 * k))))))))] ++ ((wPs a cI pc pf) ++ (wSt (sh 14 a) cI g l_ h r))) (wRp (sh 22 a) cI ct' td' (nI (hn K))) (As := []) (rest := []) (c_X0_kind l D cI (sh 18 a) k n b K.length (by omega)) ⟨hx, hb, hml, hown, hts⟩ (cwV 0 hts gX4_leaveOpen_X0_kind rfl rfl rfl (by decide +kernel) ⟨Nat.le_of_ble_eq_true rfl, Nat.le_of_ble_eq_true rfl⟩) (hK.sub [0] rfl) hns hP hD hS hA rfl (T := TX0) (N := 4) rfl rfl hl.1 rfl (Nat.le_of_ble_eq_true rfl) dX4_leaveOpen_16 ⟨Nat.zero_le _, Nat.zero_le _⟩ (fun r16 u16 H locs hw16 hP hD hS => ?_)
          have hP : va_P D vwCl ([(a 0, .inr (4, [.ref (a 1), .ref (a 14), .ref (a 18), .ref (a 22), .int (nI p), .int (nI nx), .int (nI (lvl K + 1))])), (a 1, .inl (cP, 6, .inr (.inr (.inr (.inr (fun k => some (a (2 + 2 * k))))))))] ++ ((wPs a cI pc pf) ++ ((wSt (sh 14 a) cI g l_ h r) ++ ((wOp (sh 18 a) cI k n b (nI (K.length + 1))) ++ (wRp (sh 22 a) cI ct' td' (nI (hn K))))))) H := hP
          have hD : va_D A ([(a 0, .inr (4, [.ref (a 1), .ref (a 14), .ref (a 18), .ref (a 22), .int (nI p), .int (nI nx), .int (nI (lvl K + 1))])), (a 1, .inl (cP, 6, .inr (.inr (.inr (.inr (fun k => some (a (2 + 2 * k))))))))] ++ ((wPs a cI pc pf) ++ ((wSt (sh 14 a) cI g l_ h r) ++ ((wOp (sh 18 a) cI k n b (nI (K.length + 1))) ++ (wRp (sh 22 a) cI ct' td' (nI (hn K))))))) := hD
          subst hw16
          refine tp (y := nI 1) (hk0) ?_
          refine lv_istore_n (lv' := [(3, .int (nI 1)), (0, .ref (a 0)), (1, .int (nI f)), (2, .int (nI (K.length + 1)))]) hx hb dX4_leaveOpen_19 rfl hl (by decide) rfl (fun ls hl => ?_)
          refine lv_iload_n hx hb dX4_leaveOpen_20 rfl (lv_at hl 0 rfl) ?_
          refine lv_bipush (v := 8) hx hb dX4_leaveOpen_21 (by decide) ?_
          refine lv_icmp_ne (tgt := 33) hx hb dX4_leaveOpen_23 (by decide) (fun c_23 => ?_) (fun c_23 => ?_)
          · have c_23 : ¬ (1 = 8) := fun h => c_23 ((nI_eq (a := 1) (b := 8) (by omega) (by omega)).mpr h)
            refine lv_iload_n hx hb dX4_leaveOpen_33 rfl (lv_at hl 0 rfl) ?_
            refine lv_if_ne (tgt := 44) hx hb dX4_leaveOpen_34 (by decide) (fun c_34 => ?_) (fun c_34 => ?_)
            · have c_34 : ¬ (1 = 0) := fun h => c_34 ((nI_eq (a := 1) (b := 0) (by omega) (by omega)).mpr h)
              refine lv_aload_n hx hb dX4_leaveOpen_44 rfl (lv_at hl 1 rfl) ?_
              refine lv_iload_n hx hb dX4_leaveOpen_45 rfl (lv_at hl 2 rfl) ?_
              refine cl_Vi ([]) ([]) (As := [.int (nI f)]) (rest := []) (c_X4_leaveGuard l D cI cP a pc pf g l_ h r k n b K.length (by omega) ct' td' (nI (hn K)) (nI p) (nI nx) (nI (lvl K + 1)) f hf9 e1 hx10 hn0) ⟨hx, hb, hml, hown, hts⟩ (cwV 1 hts gX4_leaveOpen_X4_leaveGuard rfl rfl rfl (by decide +kernel) ⟨Nat.le_of_ble_eq_true rfl, Nat.le_of_ble_eq_true rfl⟩) hK hns hP hD hS hA rfl (T := TX4) (N := 7) rfl rfl hl.1 rfl (Nat.le_of_ble_eq_true rfl) dX4_leaveOpen_46 ⟨Nat.zero_le _, Nat.zero_le _⟩ (fun r46 u46 H locs hw46 hP hD hS => ?_)
              have hP : va_P D vwCl ([(a 0, .inr (4, [.ref (a 1), .ref (a 14), .ref (a 18), .ref (a 22), .int u46.2.2.2.2.2.2.2.2.2.2.2.1, .int u46.2.2.2.2.2.2.2.2.2.2.2.2.1, .int u46.2.2.2.2.2.2.2.2.2.2.2.2.2])), (a 1, .inl (cP, 6, .inr (.inr (.inr (.inr (fun k => some (a (2 + 2 * k))))))))] ++ ((wPs a cI pc pf) ++ ((wSt (sh 14 a) cI u46.1 u46.2.1 u46.2.2.1 u46.2.2.2.1) ++ ((wOp (sh 18 a) cI u46.2.2.2.2.1 u46.2.2.2.2.2.1 u46.2.2.2.2.2.2.1 u46.2.2.2.2.2.2.2.1) ++ (wRp (sh 22 a) cI u46.2.2.2.2.2.2.2.2.1 u46.2.2.2.2.2.2.2.2.2.1 u46.2.2.2.2.2.2.2.2.2.2.1))))) H := hP
              have hD : va_D A ([(a 0, .inr (4, [.ref (a 1), .ref (a 14), .ref (a 18), .ref (a 22), .int u46.2.2.2.2.2.2.2.2.2.2.2.1, .int u46.2.2.2.2.2.2.2.2.2.2.2.2.1, .int u46.2.2.2.2.2.2.2.2.2.2.2.2.2])), (a 1, .inl (cP, 6, .inr (.inr (.inr (.inr (fun k => some (a (2 + 2 * k))))))))] ++ ((wPs a cI pc pf) ++ ((wSt (sh 14 a) cI u46.1 u46.2.1 u46.2.2.1 u46.2.2.2.1) ++ ((wOp (sh 18 a) cI u46.2.2.2.2.1 u46.2.2.2.2.2.1 u46.2.2.2.2.2.2.1 u46.2.2.2.2.2.2.2.1) ++ (wRp (sh 22 a) cI u46.2.2.2.2.2.2.2.2.1 u46.2.2.2.2.2.2.2.2.2.1 u46.2.2.2.2.2.2.2.2.2.2.1))))) := hD
              rcases hw46 with ⟨hg, rfl, rfl⟩ | ⟨hg, rfl, rfl⟩
              · have hP : va_P D vwCl ([(a 0, .inr (4, [.ref (a 1), .ref (a 14), .ref (a 18), .ref (a 22), .int (nI p), .int (b K.length), .int (nI (lvl K + 1))])), (a 1, .inl (cP, 6, .inr (.inr (.inr (.inr (fun k => some (a (2 + 2 * k))))))))] ++ ((wPs a cI pc pf) ++ ((wSt (sh 14 a) cI g l_ h r) ++ ((wOp (sh 18 a) cI k n b (nI K.length)) ++ (wRp (sh 22 a) cI (upd ct' f (ct' f + 1)) (upd td' 6 (td' 6 + 1)) (nI (hn K))))))) H := hP
                have hD : va_D A ([(a 0, .inr (4, [.ref (a 1), .ref (a 14), .ref (a 18), .ref (a 22), .int (nI p), .int (b K.length), .int (nI (lvl K + 1))])), (a 1, .inl (cP, 6, .inr (.inr (.inr (.inr (fun k => some (a (2 + 2 * k))))))))] ++ ((wPs a cI pc pf) ++ ((wSt (sh 14 a) cI g l_ h r) ++ ((wOp (sh 18 a) cI k n b (nI K.length)) ++ (wRp (sh 22 a) cI (upd ct' f (ct' f + 1)) (upd td' 6 (td' 6 + 1)) (nI (hn K))))))) := hD
                refine lv_if_eq (tgt := 54) hx hb dX4_leaveOpen_49 (by decide) (fun c9 => absurd c9 (by decide)) (fun _ => ?_)
                refine lv_iconst (v := 1) hx hb dX4_leaveOpen_52 (by decide) ?_
                exact Ri (D := D) (g, l_, h, r, k, n, b, nI K.length, (upd ct' f (ct' f + 1)), (upd td' 6 (td' 6 + 1)), nI (hn K), nI p, (b K.length), nI (lvl K + 1)) hx hb hr (by decide) hlocks hP hD hS (by rw [hu, unw_c hg.1 hg.2]; exact ⟨rfl, Dp_caught (by omega) ((Dp_same (by simp)).mp hDp), hsK, rfl, rfl, rfl, hb1, rfl⟩) dX4_leaveOpen_53
              · have hP : va_P D vwCl ([(a 0, .inr (4, [.ref (a 1), .ref (a 14), .ref (a 18), .ref (a 22), .int (nI p), .int (nI nx), .int (nI (lvl K + 1))])), (a 1, .inl (cP, 6, .inr (.inr (.inr (.inr (fun k => some (a (2 + 2 * k))))))))] ++ ((wPs a cI pc pf) ++ ((wSt (sh 14 a) cI g l_ h r) ++ ((wOp (sh 18 a) cI k n b (nI K.length)) ++ (wRp (sh 22 a) cI ct' td' (nI (hn K))))))) H := hP
                have hD : va_D A ([(a 0, .inr (4, [.ref (a 1), .ref (a 14), .ref (a 18), .ref (a 22), .int (nI p), .int (nI nx), .int (nI (lvl K + 1))])), (a 1, .inl (cP, 6, .inr (.inr (.inr (.inr (fun k => some (a (2 + 2 * k))))))))] ++ ((wPs a cI pc pf) ++ ((wSt (sh 14 a) cI g l_ h r) ++ ((wOp (sh 18 a) cI k n b (nI K.length)) ++ (wRp (sh 22 a) cI ct' td' (nI (hn K))))))) := hD
                refine lv_if_eq (tgt := 54) hx hb dX4_leaveOpen_49 (by decide) (fun _ => ?_) (fun c9 => absurd (by decide) c9)
                refine lv_iinc (v := (nI K.length)) (lv' := [(2, .int (nI K.length)), (3, .int (nI 1)), (0, .ref (a 0)), (1, .int (nI f))]) hx hb dX4_leaveOpen_54 hl (k := 3) rfl (by rw [show Int32.ofInt (-1) = -1 from by decide]; exact pk_m1 _) (by decide) rfl (fun ls hl => ?_)
                refine lv_goto (tgt := 8) hx hb dX4_leaveOpen_57 (by decide) ?_
                exact ih lf td ct p nx _ _ _ ct' td' (hu.trans (unw_t hg)) ((Dp_same (by simp)).mp hDp) hsK hw (by omega) _ _ hP hD hS ls (lv_sub hl [2, 3, 0] rfl)
            · have c_34 : 1 = 0 := (nI_eq (a := 1) (b := 0) (by omega) (by omega)).mp c_34
              exact absurd c_34 (by omega)
          · have c_23 : 1 = 8 := (nI_eq (a := 1) (b := 8) (by omega) (by omega)).mp c_23
            exact absurd c_23 (by omega)
      · simp only at he; subst he
        have hk0 : k K.length = nI 8 := hk0
        have hsK : Dst G k n b e1 K := hsK
        have hb8 : b K.length = nI e2 := hb8 rfl
        have hP : va_P D vwCl ([(a 0, .inr (4, [.ref (a 1), .ref (a 14), .ref (a 18), .ref (a 22), .int (nI p), .int (nI nx), .int (nI (lvl K + 1 + 1))])), (a 1, .inl (cP, 6, .inr (.inr (.inr (.inr (fun k => some (a (2 + 2 * k))))))))] ++ ((wPs a cI pc pf) ++ ((wSt (sh 14 a) cI g l_ h r) ++ ((wOp (sh 18 a) cI k n b (nI (K.length + 1))) ++ (wRp (sh 22 a) cI ct' td' (nI (hn K))))))) H := hP
        have hD : va_D A ([(a 0, .inr (4, [.ref (a 1), .ref (a 14), .ref (a 18), .ref (a 22), .int (nI p), .int (nI nx), .int (nI (lvl K + 1 + 1))])), (a 1, .inl (cP, 6, .inr (.inr (.inr (.inr (fun k => some (a (2 + 2 * k))))))))] ++ ((wPs a cI pc pf) ++ ((wSt (sh 14 a) cI g l_ h r) ++ ((wOp (sh 18 a) cI k n b (nI (K.length + 1))) ++ (wRp (sh 22 a) cI ct' td' (nI (hn K))))))) := hD
        refine lv_iload_n hx hb dX4_leaveOpen_8 rfl (lv_at hl 2 rfl) ?_
        refine lv_if_le (tgt := 60) hx hb dX4_leaveOpen_9 (by decide) (fun c_9 => ?_) (fun c_9 => ?_)
        · have c_9 : (K.length + 1) ≤ 0 := (nI_leI (a := (K.length + 1)) (b := 0) (by omega) (by omega)).mp c_9
          exact absurd c_9 (by omega)
        · have c_9 : ¬ ((K.length + 1) ≤ 0) := fun h => c_9 ((nI_leI (a := (K.length + 1)) (b := 0) (by omega) (by omega)).mpr h)
          refine lv_aload_n hx hb dX4_leaveOpen_12 rfl (lv_at hl 0 rfl) ?_
          refine va_get (D := D) (ci := 4) (v := .ref (a 18)) (C := RX4) (T := TX4) (N := 7) hx hb hts inX4 hown hK hP 0 rfl rfl 2 (by decide) fl26 (fun _ h9 => h9) rfl dX4_leaveOpen_13 ?_
          refine cl_Vi ([(a 0, .inr (4, [.ref (a 1), .ref (a 14), .ref (a 18), .ref (a 22), .int (nI p), .int (nI nx), .int (nI (lvl K + 1 + 1))])), (a 1, .inl (cP, 6, .inr (.inr (.inr (.inr (fun k => some (a (2 + 2 * k))))))))] ++ ((wPs a cI pc pf) ++ (wSt (sh 14 a) cI g l_ h r))) (wRp (sh 22 a) cI ct' td' (nI (hn K))) (As := []) (rest := []) (c_X0_kind l D cI (sh 18 a) k n b K.length (by omega)) ⟨hx, hb, hml, hown, hts⟩ (cwV 0 hts gX4_leaveOpen_X0_kind rfl rfl rfl (by decide +kernel) ⟨Nat.le_of_ble_eq_true rfl, Nat.le_of_ble_eq_true rfl⟩) (hK.sub [0] rfl) hns hP hD hS hA rfl (T := TX0) (N := 4) rfl rfl hl.1 rfl (Nat.le_of_ble_eq_true rfl) dX4_leaveOpen_16 ⟨Nat.zero_le _, Nat.zero_le _⟩ (fun r16 u16 H locs hw16 hP hD hS => ?_)
          have hP : va_P D vwCl ([(a 0, .inr (4, [.ref (a 1), .ref (a 14), .ref (a 18), .ref (a 22), .int (nI p), .int (nI nx), .int (nI (lvl K + 1 + 1))])), (a 1, .inl (cP, 6, .inr (.inr (.inr (.inr (fun k => some (a (2 + 2 * k))))))))] ++ ((wPs a cI pc pf) ++ ((wSt (sh 14 a) cI g l_ h r) ++ ((wOp (sh 18 a) cI k n b (nI (K.length + 1))) ++ (wRp (sh 22 a) cI ct' td' (nI (hn K))))))) H := hP
          have hD : va_D A ([(a 0, .inr (4, [.ref (a 1), .ref (a 14), .ref (a 18), .ref (a 22), .int (nI p), .int (nI nx), .int (nI (lvl K + 1 + 1))])), (a 1, .inl (cP, 6, .inr (.inr (.inr (.inr (fun k => some (a (2 + 2 * k))))))))] ++ ((wPs a cI pc pf) ++ ((wSt (sh 14 a) cI g l_ h r) ++ ((wOp (sh 18 a) cI k n b (nI (K.length + 1))) ++ (wRp (sh 22 a) cI ct' td' (nI (hn K))))))) := hD
          subst hw16
          refine tp (y := nI 8) (hk0) ?_
          refine lv_istore_n (lv' := [(3, .int (nI 8)), (0, .ref (a 0)), (1, .int (nI f)), (2, .int (nI (K.length + 1)))]) hx hb dX4_leaveOpen_19 rfl hl (by decide) rfl (fun ls hl => ?_)
          refine lv_iload_n hx hb dX4_leaveOpen_20 rfl (lv_at hl 0 rfl) ?_
          refine lv_bipush (v := 8) hx hb dX4_leaveOpen_21 (by decide) ?_
          refine lv_icmp_ne (tgt := 33) hx hb dX4_leaveOpen_23 (by decide) (fun c_23 => ?_) (fun c_23 => ?_)
          · have c_23 : ¬ (8 = 8) := fun h => c_23 ((nI_eq (a := 8) (b := 8) (by omega) (by omega)).mpr h)
            exact absurd c_23 (by omega)
          · have c_23 : 8 = 8 := (nI_eq (a := 8) (b := 8) (by omega) (by omega)).mp c_23
            refine lv_aload_n hx hb dX4_leaveOpen_26 rfl (lv_at hl 1 rfl) ?_
            refine cl_Vv ([]) ([]) (As := []) (rest := []) (c_X4_leaveCall l D cI cP a pc pf g l_ h r k n b K.length (by omega) ct' td' (nI (hn K)) (nI p) (nI nx) (nI (lvl K + 1 + 1))) ⟨hx, hb, hml, hown, hts⟩ (cwV 0 hts gX4_leaveOpen_X4_leaveCall rfl rfl rfl (by decide +kernel) ⟨Nat.le_of_ble_eq_true rfl, Nat.le_of_ble_eq_true rfl⟩) hK hns hP hD hS hA rfl (T := TX4) (N := 7) rfl rfl hl.1 rfl (Nat.le_of_ble_eq_true rfl) dX4_leaveOpen_27 ⟨Nat.zero_le _, Nat.zero_le _⟩ (fun u27 H locs hw27 hP hD hS => ?_)
            have hP : va_P D vwCl ([(a 0, .inr (4, [.ref (a 1), .ref (a 14), .ref (a 18), .ref (a 22), .int (n K.length), .int (b K.length), .int (nI (lvl K + 1 + 1) - 1)])), (a 1, .inl (cP, 6, .inr (.inr (.inr (.inr (fun k => some (a (2 + 2 * k))))))))] ++ ((wPs a cI pc pf) ++ ((wSt (sh 14 a) cI g l_ h r) ++ ((wOp (sh 18 a) cI k n b (nI K.length)) ++ (wRp (sh 22 a) cI ct' td' (nI (hn K))))))) H := hP
            have hD : va_D A ([(a 0, .inr (4, [.ref (a 1), .ref (a 14), .ref (a 18), .ref (a 22), .int (n K.length), .int (b K.length), .int (nI (lvl K + 1 + 1) - 1)])), (a 1, .inl (cP, 6, .inr (.inr (.inr (.inr (fun k => some (a (2 + 2 * k))))))))] ++ ((wPs a cI pc pf) ++ ((wSt (sh 14 a) cI g l_ h r) ++ ((wOp (sh 18 a) cI k n b (nI K.length)) ++ (wRp (sh 22 a) cI ct' td' (nI (hn K))))))) := hD
            rw [nI_pred, hn0, hb8] at hP hD
            refine lv_goto (tgt := 54) hx hb dX4_leaveOpen_30 (by decide) ?_
            refine lv_iinc (v := (nI K.length)) (lv' := [(2, .int (nI K.length)), (3, .int (nI 8)), (0, .ref (a 0)), (1, .int (nI f))]) hx hb dX4_leaveOpen_54 hl (k := 3) rfl (by rw [show Int32.ofInt (-1) = -1 from by decide]; exact pk_m1 _) (by decide) rfl (fun ls hl => ?_)
            refine lv_goto (tgt := 8) hx hb dX4_leaveOpen_57 (by decide) ?_
            exact ih lf td ct e1 e2 _ _ _ ct' td' (hu.trans (unw_8 e1 e2)) ((Dp_same (by simp)).mp hDp) hsK hw (by omega) _ _ hP hD hS ls (lv_sub hl [2, 3, 0] rfl)
  exact loop8 K0 lf0 td0' ct0 p0 nx0 d0 l0 h0 ct0' td0'' rfl hD0 hs0 hwf0 hKl0 _ _ hP hD hS ls (lv_sub hl [1, 2, 0] rfl)
