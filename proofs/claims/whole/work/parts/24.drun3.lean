set_option maxHeartbeats 4000000 in
set_option maxRecDepth 100000 in
theorem c_X4_doActs (l : Launch) (D : va_G) (cI cP : ClassId) (a : Nat → Nat) (pc : Nat → Int32) (pf : Nat → Nat → Int32) (g0 l0 h0 : Nat → Int32) (r0 : Int32) (k0 n0 b0 ct0 td0' : Nat → Int32) (G : GP) (go0 : Nat → Nat) (lf0 : Nat → Int32) (rs0 : Int32) (td0_ ct0_ : Nat → Int32) (st0 p0 nx0 : Nat) (K0 : KL) (hpl : Dpl pc pf G) (hDp0 : Dp G go0 lf0 rs0 td0_ ct0_ (cnt K0) g0 l0 h0 r0 ct0 td0') (hDs0 : Dst G k0 n0 b0 p0 K0) (hI0 : Inv G (go0, lf0, rs0, td0_, ct0_, st0, p0, nx0, K0)) (n_ : Nat) (hn64 : n_ ≤ 64) (hsn0 : st0 ≤ n_) (hfu : 2 * (n_ - st0) + lvl K0 < 129) : Ci l D [(cI, .int), (cP, .object RX1)] yX4_doActs wsX4_doActs ({ frames := 6, cells := 0, slots := 0, locals := 134 }) [.ref (a 0), .int (nI n_)] (wD a cI cP pc pf g0 l0 h0 r0 k0 n0 b0 (nI K0.length) ct0 td0' (nI (hn K0)) (nI p0) (nI nx0) (nI (lvl K0 + 1))) (S := US) (fun w u => w = nI (a_run G n_ 129 (go0, lf0, rs0, td0_, ct0_, st0, p0, nx0, K0)).1 ∧ D0 G (a_run G n_ 129 (go0, lf0, rs0, td0_, ct0_, st0, p0, nx0, K0)).2.1 (a_run G n_ 129 (go0, lf0, rs0, td0_, ct0_, st0, p0, nx0, K0)).2.2.1 (a_run G n_ 129 (go0, lf0, rs0, td0_, ct0_, st0, p0, nx0, K0)).2.2.2.1 (a_run G n_ 129 (go0, lf0, rs0, td0_, ct0_, st0, p0, nx0, K0)).2.2.2.2.1 (a_run G n_ 129 (go0, lf0, rs0, td0_, ct0_, st0, p0, nx0, K0)).2.2.2.2.2.1 u) (fun u => wDu a cI cP pc pf u) := by
  refine Ci.mk (cc := cX4_doActs) (maxL := 3) (ret := (some .int)) (by decide +kernel) rfl (Nat.le_of_ble_eq_true rfl) ?_
  intro pg e s m below meth c A ls hx hb hml hr hown hts hlocks hK hns hA hP hD hS hl
  have hl : lv_has ls 3 [(0, .ref (a 0)), (1, .int (nI n_))] := hl
  have fl70 := hts (.fieldLink RX4 70 "HeldShelves" "planNow" "I") (List.mem_of_getElem? (i := 1) rfl)
  have inX4 : ∀ w ∈ wsX40, w ∈ wsX4_doActs := fun _ h => List.mem_cons_of_mem _ (List.mem_append_left _ (List.mem_append_left _ (List.mem_append_left _ (List.mem_append_left _ (List.mem_append_right _ h)))))
  have fl74 := hts (.fieldLink RX4 74 "HeldShelves" "next" "I") (List.mem_of_getElem? (i := 2) rfl)
  have fl11 := hts (.fieldLink RX4 11 "HeldShelves" "plans" "[LHeldShelves$Plan;") (List.mem_of_getElem? (i := 3) rfl)
  have fl33 := hts (.fieldLink RX4 33 "HeldShelves" "report" "LHeldShelves$Report;") (List.mem_of_getElem? (i := 5) rfl)
  have fl77 := hts (.fieldLink RX4 77 "HeldShelves" "level" "I") (List.mem_of_getElem? (i := 4) rfl)
  have hP : va_P D vwCl ([(a 0, .inr (4, [.ref (a 1), .ref (a 14), .ref (a 18), .ref (a 22), .int (nI p0), .int (nI nx0), .int (nI (lvl K0 + 1))])), (a 1, .inl (cP, 6, .inr (.inr (.inr (.inr (fun k => some (a (2 + 2 * k))))))))] ++ ((wPs a cI pc pf) ++ ((wSt (sh 14 a) cI g0 l0 h0 r0) ++ ((wOp (sh 18 a) cI k0 n0 b0 (nI K0.length)) ++ (wRp (sh 22 a) cI ct0 td0' (nI (hn K0))))))) s.heap := hP
  have hD : va_D A ([(a 0, .inr (4, [.ref (a 1), .ref (a 14), .ref (a 18), .ref (a 22), .int (nI p0), .int (nI nx0), .int (nI (lvl K0 + 1))])), (a 1, .inl (cP, 6, .inr (.inr (.inr (.inr (fun k => some (a (2 + 2 * k))))))))] ++ ((wPs a cI pc pf) ++ ((wSt (sh 14 a) cI g0 l0 h0 r0) ++ ((wOp (sh 18 a) cI k0 n0 b0 (nI K0.length)) ++ (wRp (sh 22 a) cI ct0 td0' (nI (hn K0))))))) := hD
  refine lv_iconst (v := 0) hx hb dX4_doActs_0 (by decide) ?_
  refine lv_istore_n (lv' := [(2, .int 0), (0, .ref (a 0)), (1, .int (nI n_))]) hx hb dX4_doActs_1 rfl hl (by decide) rfl (fun ls hl => ?_)
  have loop2 : ∀ (F : Nat) (t : Nat) (go : Nat → Nat) (lf : Nat → Int32) (rs : Int32) (td_ : Nat → Int32) (ct_ : Nat → Int32) (st : Nat) (p : Nat) (nx : Nat) (K : KL) (g : Nat → Int32) (l_ : Nat → Int32) (h : Nat → Int32) (r : Int32) (k : Nat → Int32) (n : Nat → Int32) (b : Nat → Int32) (ct : Nat → Int32) (td : Nat → Int32), 2 * (n_ - st) + lvl K < F → t + F = 129 → st ≤ n_ → Dp G go lf rs td_ ct_ (cnt K) g l_ h r ct td → Dst G k n b p K → Inv G (go, lf, rs, td_, ct_, st, p, nx, K) → (a_run G n_ 129 (go0, lf0, rs0, td0_, ct0_, st0, p0, nx0, K0)) = a_run G n_ F (go, lf, rs, td_, ct_, st, p, nx, K) → ∀ (H : Heap) (locs : List Loc), va_P D vwCl ([(a 0, .inr (4, [.ref (a 1), .ref (a 14), .ref (a 18), .ref (a 22), .int (nI p), .int (nI nx), .int (nI (lvl K + 1))])), (a 1, .inl (cP, 6, .inr (.inr (.inr (.inr (fun k => some (a (2 + 2 * k))))))))] ++ ((wPs a cI pc pf) ++ ((wSt (sh 14 a) cI g l_ h r) ++ ((wOp (sh 18 a) cI k n b (nI K.length)) ++ (wRp (sh 22 a) cI ct td (nI (hn K))))))) H → va_D A ([(a 0, .inr (4, [.ref (a 1), .ref (a 14), .ref (a 18), .ref (a 22), .int (nI p), .int (nI nx), .int (nI (lvl K + 1))])), (a 1, .inl (cP, 6, .inr (.inr (.inr (.inr (fun k => some (a (2 + 2 * k))))))))] ++ ((wPs a cI pc pf) ++ ((wSt (sh 14 a) cI g l_ h r) ++ ((wOp (sh 18 a) cI k n b (nI K.length)) ++ (wRp (sh 22 a) cI ct td (nI (hn K))))))) → va_S A s.heap H locs → ∀ (ls : Array Slot), lv_has ls 3 [(0, .ref (a 0)), (1, .int (nI n_)), (2, .int (nI t))] → W pg l e ({ frames := 6, cells := 0, slots := 0, locals := 134 } : Room) s m ([.ref (a 0), .int (nI n_)] : List Value).toArray below meth c H locs 0 0 (Qi D below ([.ref (a 0), .int (nI n_)] : List Value).toArray s A (S := US) (fun w u => w = nI (a_run G n_ 129 (go0, lf0, rs0, td0_, ct0_, st0, p0, nx0, K0)).1 ∧ D0 G (a_run G n_ 129 (go0, lf0, rs0, td0_, ct0_, st0, p0, nx0, K0)).2.1 (a_run G n_ 129 (go0, lf0, rs0, td0_, ct0_, st0, p0, nx0, K0)).2.2.1 (a_run G n_ 129 (go0, lf0, rs0, td0_, ct0_, st0, p0, nx0, K0)).2.2.2.1 (a_run G n_ 129 (go0, lf0, rs0, td0_, ct0_, st0, p0, nx0, K0)).2.2.2.2.1 (a_run G n_ 129 (go0, lf0, rs0, td0_, ct0_, st0, p0, nx0, K0)).2.2.2.2.2.1 u) (fun u => wDu a cI cP pc pf u)) (F0 m 2 ls []) := by
    intro F
    induction F with
    | zero => intro t go lf rs td_ ct_ st p nx K g l_ h r k n b ct td hk htF hsn hDp hDs hI hrun; exact absurd hk (by omega)
    | succ F ih =>
      intro t go lf rs td_ ct_ st p nx K g l_ h r k n b ct td hk htF hsn hDp hDs hI hrun H locs hP hD hS ls hl
      obtain ⟨hp6, hcl, hnx, hwf, hKl, hs64, hlv, htd3⟩ := id hI
      obtain ⟨d1, d2, d3, d4, d5, d6⟩ := id hDp
      have hn40 := (hpl p hp6).2.1
      refine lv_iload_n hx hb dX4_doActs_2 rfl (lv_at hl 2 rfl) ?_
      refine lv_sipush (v := 128) hx hb dX4_doActs_3 (by decide) ?_
      refine lv_icmp_gt (tgt := 86) hx hb dX4_doActs_6 (by decide) (fun c_6 => ?_) (fun c_6 => ?_)
      · have c_6 : 128 < t := (nI_ltI (a := 128) (b := t) (by omega) (by omega)).mp c_6
        exact absurd c_6 (by omega)
      · have c_6 : ¬ (128 < t) := fun h => c_6 ((nI_ltI (a := 128) (b := t) (by omega) (by omega)).mpr h)
        refine lv_aload_n hx hb dX4_doActs_9 rfl (lv_at hl 0 rfl) ?_
        refine va_get (D := D) (ci := 4) (v := .int (nI p)) (C := RX4) (T := TX4) (N := 7) hx hb hts inX4 hown hK hP 0 rfl rfl 4 (by decide) fl70 (fun _ h9 => h9) rfl dX4_doActs_10 ?_
        refine cl_Si (As := [.int (nI p)]) (rest := []) (c_X4_isPlan l D (nI p)) ⟨hx, hb, hml, hown, hts⟩ (cwS 1 hts gX4_doActs_X4_isPlan rfl rfl rfl (by decide +kernel) ⟨Nat.le_of_ble_eq_true rfl, Nat.le_of_ble_eq_true rfl⟩) hK hns hP hD hS hA rfl hl.1 rfl (Nat.le_of_ble_eq_true rfl) dX4_doActs_13 ⟨Nat.zero_le _, Nat.zero_le _⟩ (fun r13 u13 H locs hw13 hP hD hS => ?_)
        rcases hw13 with ⟨rfl, hp13⟩ | ⟨rfl, hp13⟩
        · refine lv_if_eq (tgt := 38) hx hb dX4_doActs_16 (by decide) (fun c9 => absurd c9 (by decide)) (fun _ => ?_)
          refine lv_aload_n hx hb dX4_doActs_19 rfl (lv_at hl 0 rfl) ?_
          refine va_get (D := D) (ci := 4) (v := .int (nI nx)) (C := RX4) (T := TX4) (N := 7) hx hb hts inX4 hown hK hP 0 rfl rfl 5 (by decide) fl74 (fun _ h9 => h9) rfl dX4_doActs_20 ?_
          refine lv_aload_n hx hb dX4_doActs_23 rfl (lv_at hl 0 rfl) ?_
          refine va_get (D := D) (ci := 4) (v := .ref (a 1)) (C := RX4) (T := TX4) (N := 7) hx hb hts inX4 hown hK hP 0 rfl rfl 0 (by decide) fl11 (fun _ h9 => h9) rfl dX4_doActs_24 ?_
          refine lv_aload_n hx hb dX4_doActs_27 rfl (lv_at hl 0 rfl) ?_
          refine va_get (D := D) (ci := 4) (v := .int (nI p)) (C := RX4) (T := TX4) (N := 7) hx hb hts inX4 hown hK hP 0 rfl rfl 4 (by decide) fl70 (fun _ h9 => h9) rfl dX4_doActs_28 ?_
          refine xa_ald hx hb hK hP 1 1 rfl rfl (k := p) (v := (a (2 + 2 * p))) rfl (by omega) (by decide) dX4_doActs_31 ?_
          have hPq := hP
          have hDq := hD
          rw [wsplit _ _ (hp6), (hpl p (hp6)).1] at hPq hDq
          refine cl_Vi _ _ (As := []) (rest := [.int (nI nx)]) (c_X1_size l D cI (a (2 + 2 * p)) (a (3 + 2 * p)) (pf p) (G.1 p)) ⟨hx, hb, hml, hown, hts⟩ (cwV 0 hts gX4_doActs_X1_size rfl rfl rfl (by decide +kernel) ⟨Nat.le_of_ble_eq_true rfl, Nat.le_of_ble_eq_true rfl⟩) (hK.sub [0] rfl) hns hPq hDq hS hA rfl (T := TX1) (N := 2) rfl rfl hl.1 rfl (Nat.le_of_ble_eq_true rfl) dX4_doActs_32 ⟨Nat.zero_le _, Nat.zero_le _⟩ (fun r32 u32 H locs hw32 hP hD hS => ?_)
          have hP : va_P D vwCl ([(a 0, .inr (4, [.ref (a 1), .ref (a 14), .ref (a 18), .ref (a 22), .int (nI p), .int (nI nx), .int (nI (lvl K + 1))])), (a 1, .inl (cP, 6, .inr (.inr (.inr (.inr (fun k => some (a (2 + 2 * k))))))))] ++ ((wPs a cI pc pf) ++ ((wSt (sh 14 a) cI g l_ h r) ++ ((wOp (sh 18 a) cI k n b (nI K.length)) ++ (wRp (sh 22 a) cI ct td (nI (hn K))))))) H := by rw [wsplit _ _ (hp6), (hpl p (hp6)).1]; exact hP
          have hD : va_D A ([(a 0, .inr (4, [.ref (a 1), .ref (a 14), .ref (a 18), .ref (a 22), .int (nI p), .int (nI nx), .int (nI (lvl K + 1))])), (a 1, .inl (cP, 6, .inr (.inr (.inr (.inr (fun k => some (a (2 + 2 * k))))))))] ++ ((wPs a cI pc pf) ++ ((wSt (sh 14 a) cI g l_ h r) ++ ((wOp (sh 18 a) cI k n b (nI K.length)) ++ (wRp (sh 22 a) cI ct td (nI (hn K))))))) := by rw [wsplit _ _ (hp6), (hpl p (hp6)).1]; exact hD
          subst hw32
          refine lv_icmp_lt (tgt := 55) hx hb dX4_doActs_35 (by decide) (fun c_35 => ?_) (fun c_35 => ?_)
          · have c_35 : nx < (G.1 p) := (nI_ltI (a := nx) (b := (G.1 p)) (by omega) (by omega)).mp c_35
            refine lv_aload_n hx hb dX4_doActs_55 rfl (lv_at hl 0 rfl) ?_
            refine va_get (D := D) (ci := 4) (v := .ref (a 22)) (C := RX4) (T := TX4) (N := 7) hx hb hts inX4 hown hK hP 0 rfl rfl 3 (by decide) fl33 (fun _ h9 => h9) rfl dX4_doActs_56 ?_
            refine cl_Vi ([(a 0, .inr (4, [.ref (a 1), .ref (a 14), .ref (a 18), .ref (a 22), .int (nI p), .int (nI nx), .int (nI (lvl K + 1))])), (a 1, .inl (cP, 6, .inr (.inr (.inr (.inr (fun k => some (a (2 + 2 * k))))))))] ++ ((wPs a cI pc pf) ++ ((wSt (sh 14 a) cI g l_ h r) ++ (wOp (sh 18 a) cI k n b (nI K.length))))) ([]) (As := []) (rest := []) (c_X2_steps l D cI (sh 22 a) ct td (nI (hn K))) ⟨hx, hb, hml, hown, hts⟩ (cwV 0 hts gX4_doActs_X2_steps rfl rfl rfl (by decide +kernel) ⟨Nat.le_of_ble_eq_true rfl, Nat.le_of_ble_eq_true rfl⟩) (hK.sub [0] rfl) hns hP hD hS hA rfl (T := TX2) (N := 10) rfl rfl hl.1 rfl (Nat.le_of_ble_eq_true rfl) dX4_doActs_59 ⟨Nat.zero_le _, Nat.zero_le _⟩ (fun r59 u59 H locs hw59 hP hD hS => ?_)
            have hP : va_P D vwCl ([(a 0, .inr (4, [.ref (a 1), .ref (a 14), .ref (a 18), .ref (a 22), .int (nI p), .int (nI nx), .int (nI (lvl K + 1))])), (a 1, .inl (cP, 6, .inr (.inr (.inr (.inr (fun k => some (a (2 + 2 * k))))))))] ++ ((wPs a cI pc pf) ++ ((wSt (sh 14 a) cI g l_ h r) ++ ((wOp (sh 18 a) cI k n b (nI K.length)) ++ (wRp (sh 22 a) cI ct td (nI (hn K))))))) H := hP
            have hD : va_D A ([(a 0, .inr (4, [.ref (a 1), .ref (a 14), .ref (a 18), .ref (a 22), .int (nI p), .int (nI nx), .int (nI (lvl K + 1))])), (a 1, .inl (cP, 6, .inr (.inr (.inr (.inr (fun k => some (a (2 + 2 * k))))))))] ++ ((wPs a cI pc pf) ++ ((wSt (sh 14 a) cI g l_ h r) ++ ((wOp (sh 18 a) cI k n b (nI K.length)) ++ (wRp (sh 22 a) cI ct td (nI (hn K))))))) := hD
            subst hw59
            refine tp (y := nI st) ((d5 3 (by decide)).trans htd3) ?_
            refine lv_iload_n hx hb dX4_doActs_62 rfl (lv_at hl 1 rfl) ?_
            refine lv_icmp_lt (tgt := 71) hx hb dX4_doActs_63 (by decide) (fun c_63 => ?_) (fun c_63 => ?_)
            · have c_63 : st < n_ := (nI_ltI (a := st) (b := n_) (by omega) (by omega)).mp c_63
              refine lv_aload_n hx hb dX4_doActs_71 rfl (lv_at hl 0 rfl) ?_
              refine cl_Vi ([]) ([]) (As := []) (rest := []) (c_X4_doStep l D cI cP a pc pf g l_ h r k n b ct td G go lf rs td_ ct_ st p nx K hpl hDp hDs hI (by omega) (by omega)) ⟨hx, hb, hml, hown, hts⟩ (cwV 0 hts gX4_doActs_X4_doStep rfl rfl rfl (by decide +kernel) ⟨Nat.le_of_ble_eq_true rfl, Nat.le_of_ble_eq_true rfl⟩) hK hns hP hD hS hA rfl (T := TX4) (N := 7) rfl rfl hl.1 rfl (Nat.le_of_ble_eq_true rfl) dX4_doActs_72 ⟨Nat.zero_le _, Nat.zero_le _⟩ (fun r72 u72 H locs hw72 hP hD hS => ?_)
              have hP : va_P D vwCl ([(a 0, .inr (4, [.ref (a 1), .ref (a 14), .ref (a 18), .ref (a 22), .int u72.2.2.2.2.2.2.2.2.2.2.2.1, .int u72.2.2.2.2.2.2.2.2.2.2.2.2.1, .int u72.2.2.2.2.2.2.2.2.2.2.2.2.2])), (a 1, .inl (cP, 6, .inr (.inr (.inr (.inr (fun k => some (a (2 + 2 * k))))))))] ++ ((wPs a cI pc pf) ++ ((wSt (sh 14 a) cI u72.1 u72.2.1 u72.2.2.1 u72.2.2.2.1) ++ ((wOp (sh 18 a) cI u72.2.2.2.2.1 u72.2.2.2.2.2.1 u72.2.2.2.2.2.2.1 u72.2.2.2.2.2.2.2.1) ++ (wRp (sh 22 a) cI u72.2.2.2.2.2.2.2.2.1 u72.2.2.2.2.2.2.2.2.2.1 u72.2.2.2.2.2.2.2.2.2.2.1))))) H := hP
              have hD : va_D A ([(a 0, .inr (4, [.ref (a 1), .ref (a 14), .ref (a 18), .ref (a 22), .int u72.2.2.2.2.2.2.2.2.2.2.2.1, .int u72.2.2.2.2.2.2.2.2.2.2.2.2.1, .int u72.2.2.2.2.2.2.2.2.2.2.2.2.2])), (a 1, .inl (cP, 6, .inr (.inr (.inr (.inr (fun k => some (a (2 + 2 * k))))))))] ++ ((wPs a cI pc pf) ++ ((wSt (sh 14 a) cI u72.1 u72.2.1 u72.2.2.1 u72.2.2.2.1) ++ ((wOp (sh 18 a) cI u72.2.2.2.2.1 u72.2.2.2.2.2.1 u72.2.2.2.2.2.2.1 u72.2.2.2.2.2.2.2.1) ++ (wRp (sh 22 a) cI u72.2.2.2.2.2.2.2.2.1 u72.2.2.2.2.2.2.2.2.2.1 u72.2.2.2.2.2.2.2.2.2.2.1))))) := hD
              rcases hw72 with ⟨rfl, X, hX, hKp, hR2⟩ | ⟨rfl, X, hX, hR2⟩
              · obtain ⟨go2, lf2, rs2, td2_, ct2_, st2, p2, nx2, K2⟩ := X
                obtain ⟨g2, l2, h2, r2, k2, n2, b2, c2, ct2, td2, op2, x2, y2, z2⟩ := u72
                obtain ⟨hDp2, hDs2, e1, e2, e3, e4, e5⟩ := hR2
                subst e1 e2 e3 e4 e5
                obtain ⟨hI2, hb2, hs2, hl2⟩ := hKp
                simp only at hb2 hs2 hl2
                have hP : va_P D vwCl ([(a 0, .inr (4, [.ref (a 1), .ref (a 14), .ref (a 18), .ref (a 22), .int (nI p2), .int (nI nx2), .int (nI (lvl K2 + 1))])), (a 1, .inl (cP, 6, .inr (.inr (.inr (.inr (fun k => some (a (2 + 2 * k))))))))] ++ ((wPs a cI pc pf) ++ ((wSt (sh 14 a) cI g2 l2 h2 r2) ++ ((wOp (sh 18 a) cI k2 n2 b2 (nI K2.length)) ++ (wRp (sh 22 a) cI ct2 td2 (nI (hn K2))))))) H := hP
                have hD : va_D A ([(a 0, .inr (4, [.ref (a 1), .ref (a 14), .ref (a 18), .ref (a 22), .int (nI p2), .int (nI nx2), .int (nI (lvl K2 + 1))])), (a 1, .inl (cP, 6, .inr (.inr (.inr (.inr (fun k => some (a (2 + 2 * k))))))))] ++ ((wPs a cI pc pf) ++ ((wSt (sh 14 a) cI g2 l2 h2 r2) ++ ((wOp (sh 18 a) cI k2 n2 b2 (nI K2.length)) ++ (wRp (sh 22 a) cI ct2 td2 (nI (hn K2))))))) := hD
                refine lv_if_ne (tgt := 80) hx hb dX4_doActs_75 (by decide) (fun _ => ?_) (fun c9 => absurd c9 (by decide))
                refine lv_iinc (v := (nI (t + 1))) (lv' := [(2, .int (nI (t + 1))), (0, .ref (a 0)), (1, .int (nI n_))]) hx hb dX4_doActs_80 hl (k := 2) rfl (nI_1 t) (by decide) rfl (fun ls hl => ?_)
                refine lv_goto (tgt := 2) hx hb dX4_doActs_83 (by decide) ?_
                exact ih (t + 1) go2 lf2 rs2 td2_ ct2_ st2 p2 nx2 K2 g2 l2 h2 r2 k2 n2 b2 ct2 td2 (by omega) (by omega) (by omega) hDp2 hDs2 hI2 (hrun.trans (a_run_true (by omega) (by omega) hX)) _ _ hP hD hS ls (lv_sub hl [1, 2, 0] rfl)
              · refine lv_if_ne (tgt := 80) hx hb dX4_doActs_75 (by decide) (fun c9 => absurd rfl c9) (fun _ => ?_)
                refine lv_iconst (v := 1) hx hb dX4_doActs_78 (by decide) ?_
                exact Ri (D := D) u72 hx hb hr rfl hlocks hP hD hS (by rw [hrun, a_run_false (by omega) (by omega) hX]; exact ⟨rfl, hR2⟩) dX4_doActs_79
            · have c_63 : ¬ (st < n_) := fun h => c_63 ((nI_ltI (a := st) (b := n_) (by omega) (by omega)).mpr h)
              refine lv_aload_n hx hb dX4_doActs_66 rfl (lv_at hl 0 rfl) ?_
              refine cl_Vi ([]) ([]) (As := []) (rest := []) (c_X4_stop l D cI cP a pc pf g l_ h r k n b ct td G go lf rs td_ ct_ st p nx K hDp hDs (dp (G.2.1 p) nx) hwf (by omega)) ⟨hx, hb, hml, hown, hts⟩ (cwV 0 hts gX4_doActs_X4_stop rfl rfl rfl (by decide +kernel) ⟨Nat.le_of_ble_eq_true rfl, Nat.le_of_ble_eq_true rfl⟩) hK hns hP hD hS hA rfl (T := TX4) (N := 7) rfl rfl hl.1 rfl (Nat.le_of_ble_eq_true rfl) dX4_doActs_67 ⟨Nat.zero_le _, Nat.zero_le _⟩ (fun r67 u67 H locs hw67 hP hD hS => ?_)
              have hP : va_P D vwCl ([(a 0, .inr (4, [.ref (a 1), .ref (a 14), .ref (a 18), .ref (a 22), .int u67.2.2.2.2.2.2.2.2.2.2.2.1, .int u67.2.2.2.2.2.2.2.2.2.2.2.2.1, .int u67.2.2.2.2.2.2.2.2.2.2.2.2.2])), (a 1, .inl (cP, 6, .inr (.inr (.inr (.inr (fun k => some (a (2 + 2 * k))))))))] ++ ((wPs a cI pc pf) ++ ((wSt (sh 14 a) cI u67.1 u67.2.1 u67.2.2.1 u67.2.2.2.1) ++ ((wOp (sh 18 a) cI u67.2.2.2.2.1 u67.2.2.2.2.2.1 u67.2.2.2.2.2.2.1 u67.2.2.2.2.2.2.2.1) ++ (wRp (sh 22 a) cI u67.2.2.2.2.2.2.2.2.1 u67.2.2.2.2.2.2.2.2.2.1 u67.2.2.2.2.2.2.2.2.2.2.1))))) H := hP
              have hD : va_D A ([(a 0, .inr (4, [.ref (a 1), .ref (a 14), .ref (a 18), .ref (a 22), .int u67.2.2.2.2.2.2.2.2.2.2.2.1, .int u67.2.2.2.2.2.2.2.2.2.2.2.2.1, .int u67.2.2.2.2.2.2.2.2.2.2.2.2.2])), (a 1, .inl (cP, 6, .inr (.inr (.inr (.inr (fun k => some (a (2 + 2 * k))))))))] ++ ((wPs a cI pc pf) ++ ((wSt (sh 14 a) cI u67.1 u67.2.1 u67.2.2.1 u67.2.2.2.1) ++ ((wOp (sh 18 a) cI u67.2.2.2.2.1 u67.2.2.2.2.2.1 u67.2.2.2.2.2.2.1 u67.2.2.2.2.2.2.2.1) ++ (wRp (sh 22 a) cI u67.2.2.2.2.2.2.2.2.1 u67.2.2.2.2.2.2.2.2.2.1 u67.2.2.2.2.2.2.2.2.2.2.1))))) := hD
              exact Ri (D := D) u67 hx hb hr rfl hlocks hP hD hS (by obtain ⟨g1, g2, g3, g4, g5, g6⟩ := a_run_stopped (G := G) (go := go) (lf := lf) (rs := rs) (td := td_) (ct := ct_) (K := K) (F := F) (p := p) (nx := nx) (n := n_) (st := st) (by omega) (by omega); rw [hrun, g1, g2, g3, g4, g5, g6]; exact hw67) dX4_doActs_70
          · have c_35 : ¬ (nx < (G.1 p)) := fun h => c_35 ((nI_ltI (a := nx) (b := (G.1 p)) (by omega) (by omega)).mpr h)
            refine lv_aload_n hx hb dX4_doActs_38 rfl (lv_at hl 0 rfl) ?_
            refine va_get (D := D) (ci := 4) (v := .int (nI (lvl K + 1))) (C := RX4) (T := TX4) (N := 7) hx hb hts inX4 hown hK hP 0 rfl rfl 6 (by decide) fl77 (fun _ h9 => h9) rfl dX4_doActs_39 ?_
            refine lv_iconst (v := 1) hx hb dX4_doActs_42 (by decide) ?_
            refine lv_icmp_gt (tgt := 48) hx hb dX4_doActs_43 (by decide) (fun c_43 => ?_) (fun c_43 => ?_)
            · have c_43 : 1 < (lvl K + 1) := (nI_ltI (a := 1) (b := (lvl K + 1)) (by omega) (by omega)).mp c_43
              have hd0 : dp (G.2.1 p) nx = 0 := by rw [show nx = G.1 p by omega]; exact hcl.2
              obtain ⟨q2, m2, K2, rfl, hq26, hq2c, hm2, hwf2⟩ := WF_call (hd0 ▸ hwf) (by omega)
              obtain ⟨_, hnq, _, hbq, hsK⟩ := id hDs
              have hnq : n K2.length = nI q2 := hnq
              have hbq : b K2.length = nI m2 := hbq rfl
              have hsK : Dst G k n b q2 K2 := hsK
              have hKl2 : K2.length + 1 ≤ st := hKl
              have hP : va_P D vwCl ([(a 0, .inr (4, [.ref (a 1), .ref (a 14), .ref (a 18), .ref (a 22), .int (nI p), .int (nI nx), .int (nI (lvl K2 + 1 + 1))])), (a 1, .inl (cP, 6, .inr (.inr (.inr (.inr (fun k => some (a (2 + 2 * k))))))))] ++ ((wPs a cI pc pf) ++ ((wSt (sh 14 a) cI g l_ h r) ++ ((wOp (sh 18 a) cI k n b (nI (K2.length + 1))) ++ (wRp (sh 22 a) cI ct td (nI (hn K2))))))) H := hP
              have hD : va_D A ([(a 0, .inr (4, [.ref (a 1), .ref (a 14), .ref (a 18), .ref (a 22), .int (nI p), .int (nI nx), .int (nI (lvl K2 + 1 + 1))])), (a 1, .inl (cP, 6, .inr (.inr (.inr (.inr (fun k => some (a (2 + 2 * k))))))))] ++ ((wPs a cI pc pf) ++ ((wSt (sh 14 a) cI g l_ h r) ++ ((wOp (sh 18 a) cI k n b (nI (K2.length + 1))) ++ (wRp (sh 22 a) cI ct td (nI (hn K2))))))) := hD
              refine lv_aload_n hx hb dX4_doActs_48 rfl (lv_at hl 0 rfl) ?_
              refine cl_Vv ([]) ([]) (As := []) (rest := []) (c_X4_leaveCall l D cI cP a pc pf g l_ h r k n b K2.length (by omega) ct td (nI (hn K2)) (nI p) (nI nx) (nI (lvl K2 + 1 + 1))) ⟨hx, hb, hml, hown, hts⟩ (cwV 0 hts gX4_doActs_X4_leaveCall rfl rfl rfl (by decide +kernel) ⟨Nat.le_of_ble_eq_true rfl, Nat.le_of_ble_eq_true rfl⟩) hK hns hP hD hS hA rfl (T := TX4) (N := 7) rfl rfl hl.1 rfl (Nat.le_of_ble_eq_true rfl) dX4_doActs_49 ⟨Nat.zero_le _, Nat.zero_le _⟩ (fun u49 H locs hw49 hP hD hS => ?_)
              have hP : va_P D vwCl ([(a 0, .inr (4, [.ref (a 1), .ref (a 14), .ref (a 18), .ref (a 22), .int (n K2.length), .int (b K2.length), .int (nI (lvl K2 + 1 + 1) - 1)])), (a 1, .inl (cP, 6, .inr (.inr (.inr (.inr (fun k => some (a (2 + 2 * k))))))))] ++ ((wPs a cI pc pf) ++ ((wSt (sh 14 a) cI g l_ h r) ++ ((wOp (sh 18 a) cI k n b (nI K2.length)) ++ (wRp (sh 22 a) cI ct td (nI (hn K2))))))) H := hP
              have hD : va_D A ([(a 0, .inr (4, [.ref (a 1), .ref (a 14), .ref (a 18), .ref (a 22), .int (n K2.length), .int (b K2.length), .int (nI (lvl K2 + 1 + 1) - 1)])), (a 1, .inl (cP, 6, .inr (.inr (.inr (.inr (fun k => some (a (2 + 2 * k))))))))] ++ ((wPs a cI pc pf) ++ ((wSt (sh 14 a) cI g l_ h r) ++ ((wOp (sh 18 a) cI k n b (nI K2.length)) ++ (wRp (sh 22 a) cI ct td (nI (hn K2))))))) := hD
              rw [nI_pred, hnq, hbq] at hP hD
              refine lv_goto (tgt := 80) hx hb dX4_doActs_52 (by decide) ?_
              refine lv_iinc (v := (nI (t + 1))) (lv' := [(2, .int (nI (t + 1))), (0, .ref (a 0)), (1, .int (nI n_))]) hx hb dX4_doActs_80 hl (k := 2) rfl (nI_1 t) (by decide) rfl (fun ls hl => ?_)
              refine lv_goto (tgt := 2) hx hb dX4_doActs_83 (by decide) ?_
              exact ih (t + 1) go lf rs td_ ct_ st q2 m2 K2 g l_ h r k n b ct td (by simp only [lvl, if_true] at hk; omega) (by omega) hsn ((Dp_same (by simp)).mp hDp) hsK ⟨hq26, hq2c, hm2, hwf2, (by simp only [List.length_cons] at hKl; omega), hs64, (by simp only [lvl, if_true] at hlv; omega), htd3⟩ (hrun.trans (a_run_call (by omega))) _ _ hP hD hS ls (lv_sub hl [1, 2, 0] rfl)
            · have c_43 : ¬ (1 < (lvl K + 1)) := fun h => c_43 ((nI_ltI (a := 1) (b := (lvl K + 1)) (by omega) (by omega)).mpr h)
              have hl0 : lvl K = 0 := by omega
              have hd0 : dp (G.2.1 p) nx = 0 := by rw [show nx = G.1 p by omega]; exact hcl.2
              have hK0 : K = [] := WF_nil (hd0 ▸ hwf) hl0
              subst hK0
              refine lv_iconst (v := 0) hx hb dX4_doActs_46 (by decide) ?_
              exact Ri (D := D) (g, l_, h, r, k, n, b, nI ([] : KL).length, ct, td, nI (hn []), nI p, nI nx, nI (lvl [] + 1)) hx hb hr rfl hlocks hP hD hS (by rw [hrun, a_run_out (by omega) rfl]; exact ⟨rfl, hDp, rfl⟩) dX4_doActs_47
        · exact absurd ((inN_nI (by omega) (by omega)).mpr hp6) hp13
  exact loop2 129 0 go0 lf0 rs0 td0_ ct0_ st0 p0 nx0 K0 g0 l0 h0 r0 k0 n0 b0 ct0 td0' hfu rfl hsn0 hDp0 hDs0 hI0 rfl _ _ hP hD hS ls (lv_sub hl [1, 2, 0] rfl)

set_option maxHeartbeats 4000000 in
set_option maxRecDepth 100000 in
theorem c_X4_run (l : Launch) (D : va_G) (cI cP : ClassId) (a : Nat → Nat) (pc : Nat → Int32) (pf : Nat → Nat → Int32) (g l_ h : Nat → Int32) (r : Int32) (k n b ct td : Nat → Int32) (op x y z : Int32) (G : GP) (go : Nat → Nat) (lf : Nat → Int32) (rs : Int32) (td_ ct_ : Nat → Int32) (hpl : Dpl pc pf G) (hDp : Dp G go lf rs td_ ct_ (cnt []) g l_ h r ct td) (x0 y0 : Int32) : Ci l D [(cI, .int), (cP, .object RX1)] yX4_run wsX4_run ({ frames := 7, cells := 0, slots := 0, locals := 156 }) [.ref (a 0), .int x0, .int y0] (wD a cI cP pc pf g l_ h r k n b (nI 0) ct td op x y z) (S := US) (fun w u => w = (F_run G go lf rs td_ ct_ x0 y0).1 ∧ D0 G (F_run G go lf rs td_ ct_ x0 y0).2.1 (F_run G go lf rs td_ ct_ x0 y0).2.2.1 (F_run G go lf rs td_ ct_ x0 y0).2.2.2.1 (F_run G go lf rs td_ ct_ x0 y0).2.2.2.2.1 (F_run G go lf rs td_ ct_ x0 y0).2.2.2.2.2 u) (fun u => wDu a cI cP pc pf u) := by
  refine Ci.mk (cc := cX4_run) (maxL := 3) (ret := (some .int)) (by decide +kernel) rfl (Nat.le_of_ble_eq_true rfl) ?_
  intro pg e s m below meth c A ls hx hb hml hr hown hts hlocks hK hns hA hP hD hS hl
  have hl : lv_has ls 3 [(0, .ref (a 0)), (1, .int x0), (2, .int y0)] := hl
  have fl11 := hts (.fieldLink RX4 11 "HeldShelves" "plans" "[LHeldShelves$Plan;") (List.mem_of_getElem? (i := 1) rfl)
  have inX4 : ∀ w ∈ wsX40, w ∈ wsX4_run := fun _ h => List.mem_cons_of_mem _ (List.mem_append_left _ (List.mem_append_left _ (List.mem_append_left _ (List.mem_append_left _ (List.mem_append_right _ h)))))
  have fl33 := hts (.fieldLink RX4 33 "HeldShelves" "report" "LHeldShelves$Report;") (List.mem_of_getElem? (i := 2) rfl)
  have fl70 := hts (.fieldLink RX4 70 "HeldShelves" "planNow" "I") (List.mem_of_getElem? (i := 3) rfl)
  have fl74 := hts (.fieldLink RX4 74 "HeldShelves" "next" "I") (List.mem_of_getElem? (i := 4) rfl)
  have fl77 := hts (.fieldLink RX4 77 "HeldShelves" "level" "I") (List.mem_of_getElem? (i := 5) rfl)
  have hP : va_P D vwCl ([(a 0, .inr (4, [.ref (a 1), .ref (a 14), .ref (a 18), .ref (a 22), .int x, .int y, .int z])), (a 1, .inl (cP, 6, .inr (.inr (.inr (.inr (fun k => some (a (2 + 2 * k))))))))] ++ ((wPs a cI pc pf) ++ ((wSt (sh 14 a) cI g l_ h r) ++ ((wOp (sh 18 a) cI k n b (nI 0)) ++ (wRp (sh 22 a) cI ct td op))))) s.heap := hP
  have hD : va_D A ([(a 0, .inr (4, [.ref (a 1), .ref (a 14), .ref (a 18), .ref (a 22), .int x, .int y, .int z])), (a 1, .inl (cP, 6, .inr (.inr (.inr (.inr (fun k => some (a (2 + 2 * k))))))))] ++ ((wPs a cI pc pf) ++ ((wSt (sh 14 a) cI g l_ h r) ++ ((wOp (sh 18 a) cI k n b (nI 0)) ++ (wRp (sh 22 a) cI ct td op))))) := hD
  refine lv_iload_n hx hb dX4_run_0 rfl (lv_at hl 1 rfl) ?_
  refine cl_Si (As := [.int x0]) (rest := []) (c_X4_isPlan l D x0) ⟨hx, hb, hml, hown, hts⟩ (cwS 1 hts gX4_run_X4_isPlan rfl rfl rfl (by decide +kernel) ⟨Nat.le_of_ble_eq_true rfl, Nat.le_of_ble_eq_true rfl⟩) hK hns hP hD hS hA rfl hl.1 rfl (Nat.le_of_ble_eq_true rfl) dX4_run_1 ⟨Nat.zero_le _, Nat.zero_le _⟩ (fun r1 u1 H locs hw1 hP hD hS => ?_)
  rcases hw1 with ⟨rfl, hp1⟩ | ⟨rfl, hp1⟩
  · obtain ⟨q, hq6, rfl⟩ := hp1
    refine lv_if_eq (tgt := 17) hx hb dX4_run_4 (by decide) (fun c9 => absurd c9 (by decide)) (fun _ => ?_)
    refine lv_iload_n hx hb dX4_run_7 rfl (lv_at hl 2 rfl) ?_
    refine lv_if_lt (tgt := 17) hx hb dX4_run_8 (by decide) (fun c_8 => ?_) (fun c_8 => ?_)
    · refine lv_iconst (v := (-1)) hx hb dX4_run_17 (by decide) ?_
      exact Ri (D := D) (g, l_, h, r, k, n, b, nI 0, ct, td, op, x, y, z) hx hb hr rfl hlocks hP hD hS (by rw [F_run_no (fun q => inN_lo (by decide) q.2 c_8)]; exact ⟨rfl, hDp, rfl⟩) dX4_run_18
    · refine lv_iload_n hx hb dX4_run_11 rfl (lv_at hl 2 rfl) ?_
      refine lv_bipush (v := 64) hx hb dX4_run_12 (by decide) ?_
      refine lv_icmp_le (tgt := 19) hx hb dX4_run_14 (by decide) (fun c_14 => ?_) (fun c_14 => ?_)
      · obtain ⟨n_, hn65, rfl⟩ := inN_c (m := 64) (by decide) rfl (Int32.not_lt.mp c_8) c_14
        refine lv_aload_n hx hb dX4_run_19 rfl (lv_at hl 0 rfl) ?_
        refine va_get (D := D) (ci := 4) (v := .ref (a 1)) (C := RX4) (T := TX4) (N := 7) hx hb hts inX4 hown hK hP 0 rfl rfl 0 (by decide) fl11 (fun _ h9 => h9) rfl dX4_run_20 ?_
        refine lv_iload_n hx hb dX4_run_23 rfl (lv_at hl 1 rfl) ?_
        refine xa_ald hx hb hK hP 1 1 rfl rfl (k := q) (v := (a (2 + 2 * q))) rfl (by omega) (by decide) dX4_run_24 ?_
        have hPq := hP
        have hDq := hD
        rw [wsplit _ _ (hq6), (hpl q (hq6)).1] at hPq hDq
        refine cl_Vi _ _ (As := []) (rest := []) (c_X1_isClosed l D cI (a (2 + 2 * q)) (a (3 + 2 * q)) (pf q) (G.1 q) (G.2.1 q) (hpl q hq6).2) ⟨hx, hb, hml, hown, hts⟩ (cwV 0 hts gX4_run_X1_isClosed rfl rfl rfl (by decide +kernel) ⟨Nat.le_of_ble_eq_true rfl, Nat.le_of_ble_eq_true rfl⟩) (hK.sub [0] rfl) hns hPq hDq hS hA rfl (T := TX1) (N := 2) rfl rfl hl.1 rfl (Nat.le_of_ble_eq_true rfl) dX4_run_25 ⟨Nat.zero_le _, Nat.zero_le _⟩ (fun r25 u25 H locs hw25 hP hD hS => ?_)
        have hP : va_P D vwCl ([(a 0, .inr (4, [.ref (a 1), .ref (a 14), .ref (a 18), .ref (a 22), .int x, .int y, .int z])), (a 1, .inl (cP, 6, .inr (.inr (.inr (.inr (fun k => some (a (2 + 2 * k))))))))] ++ ((wPs a cI pc pf) ++ ((wSt (sh 14 a) cI g l_ h r) ++ ((wOp (sh 18 a) cI k n b (nI 0)) ++ (wRp (sh 22 a) cI ct td op))))) H := by rw [wsplit _ _ (hq6), (hpl q (hq6)).1]; exact hP
        have hD : va_D A ([(a 0, .inr (4, [.ref (a 1), .ref (a 14), .ref (a 18), .ref (a 22), .int x, .int y, .int z])), (a 1, .inl (cP, 6, .inr (.inr (.inr (.inr (fun k => some (a (2 + 2 * k))))))))] ++ ((wPs a cI pc pf) ++ ((wSt (sh 14 a) cI g l_ h r) ++ ((wOp (sh 18 a) cI k n b (nI 0)) ++ (wRp (sh 22 a) cI ct td op))))) := by rw [wsplit _ _ (hq6), (hpl q (hq6)).1]; exact hD
        rcases hw25 with ⟨rfl, hc9⟩ | ⟨rfl, hc9⟩
        · refine lv_if_ne (tgt := 34) hx hb dX4_run_28 (by decide) (fun _ => ?_) (fun c9 => absurd c9 (by decide))
          refine lv_aload_n hx hb dX4_run_34 rfl (lv_at hl 0 rfl) ?_
          refine va_get (D := D) (ci := 4) (v := .ref (a 22)) (C := RX4) (T := TX4) (N := 7) hx hb hts inX4 hown hK hP 0 rfl rfl 3 (by decide) fl33 (fun _ h9 => h9) rfl dX4_run_35 ?_
          refine cl_Vv ([(a 0, .inr (4, [.ref (a 1), .ref (a 14), .ref (a 18), .ref (a 22), .int x, .int y, .int z])), (a 1, .inl (cP, 6, .inr (.inr (.inr (.inr (fun k => some (a (2 + 2 * k))))))))] ++ ((wPs a cI pc pf) ++ ((wSt (sh 14 a) cI g l_ h r) ++ (wOp (sh 18 a) cI k n b (nI 0))))) ([]) (As := []) (rest := []) (c_X2_reset l D cI (sh 22 a) ct td op) ⟨hx, hb, hml, hown, hts⟩ (cwV 0 hts gX4_run_X2_reset rfl rfl rfl (by decide +kernel) ⟨Nat.le_of_ble_eq_true rfl, Nat.le_of_ble_eq_true rfl⟩) (hK.sub [0] rfl) hns hP hD hS hA rfl (T := TX2) (N := 10) rfl rfl hl.1 rfl (Nat.le_of_ble_eq_true rfl) dX4_run_38 ⟨Nat.zero_le _, Nat.zero_le _⟩ (fun u38 H locs hw38 hP hD hS => ?_)
          have hP : va_P D vwCl ([(a 0, .inr (4, [.ref (a 1), .ref (a 14), .ref (a 18), .ref (a 22), .int x, .int y, .int z])), (a 1, .inl (cP, 6, .inr (.inr (.inr (.inr (fun k => some (a (2 + 2 * k))))))))] ++ ((wPs a cI pc pf) ++ ((wSt (sh 14 a) cI g l_ h r) ++ ((wOp (sh 18 a) cI k n b (nI 0)) ++ (wRp (sh 22 a) cI u38 td0 0))))) H := hP
          have hD : va_D A ([(a 0, .inr (4, [.ref (a 1), .ref (a 14), .ref (a 18), .ref (a 22), .int x, .int y, .int z])), (a 1, .inl (cP, 6, .inr (.inr (.inr (.inr (fun k => some (a (2 + 2 * k))))))))] ++ ((wPs a cI pc pf) ++ ((wSt (sh 14 a) cI g l_ h r) ++ ((wOp (sh 18 a) cI k n b (nI 0)) ++ (wRp (sh 22 a) cI u38 td0 0))))) := hD
          refine lv_aload_n hx hb dX4_run_41 rfl (lv_at hl 0 rfl) ?_
          refine lv_iload_n hx hb dX4_run_42 rfl (lv_at hl 1 rfl) ?_
          refine va_put (D := D) (ci := 4) (v := .int (nI q)) (ty := .int) (C := RX4) (T := TX4) (N := 7) hx hb hts inX4 tyX4 tyX4_ok nmX4 hown hK hP hD hS 0 rfl rfl 4 (by decide) fl70 (fun _ h9 => h9) rfl (by decide +kernel) rfl rfl (Nat.le_of_ble_eq_true rfl) dX4_run_43 (fun H locs hP hD hS => ?_)
          have hP : va_P D vwCl ([(a 0, .inr (4, [.ref (a 1), .ref (a 14), .ref (a 18), .ref (a 22), .int (nI q), .int y, .int z])), (a 1, .inl (cP, 6, .inr (.inr (.inr (.inr (fun k => some (a (2 + 2 * k))))))))] ++ ((wPs a cI pc pf) ++ ((wSt (sh 14 a) cI g l_ h r) ++ ((wOp (sh 18 a) cI k n b (nI 0)) ++ (wRp (sh 22 a) cI u38 td0 0))))) H := hP
          have hD : va_D A ([(a 0, .inr (4, [.ref (a 1), .ref (a 14), .ref (a 18), .ref (a 22), .int (nI q), .int y, .int z])), (a 1, .inl (cP, 6, .inr (.inr (.inr (.inr (fun k => some (a (2 + 2 * k))))))))] ++ ((wPs a cI pc pf) ++ ((wSt (sh 14 a) cI g l_ h r) ++ ((wOp (sh 18 a) cI k n b (nI 0)) ++ (wRp (sh 22 a) cI u38 td0 0))))) := hD
          refine lv_aload_n hx hb dX4_run_46 rfl (lv_at hl 0 rfl) ?_
          refine lv_iconst (v := 0) hx hb dX4_run_47 (by decide) ?_
          refine va_put (D := D) (ci := 4) (v := .int 0) (ty := .int) (C := RX4) (T := TX4) (N := 7) hx hb hts inX4 tyX4 tyX4_ok nmX4 hown hK hP hD hS 0 rfl rfl 5 (by decide) fl74 (fun _ h9 => h9) rfl (by decide +kernel) rfl rfl (Nat.le_of_ble_eq_true rfl) dX4_run_48 (fun H locs hP hD hS => ?_)
          have hP : va_P D vwCl ([(a 0, .inr (4, [.ref (a 1), .ref (a 14), .ref (a 18), .ref (a 22), .int (nI q), .int 0, .int z])), (a 1, .inl (cP, 6, .inr (.inr (.inr (.inr (fun k => some (a (2 + 2 * k))))))))] ++ ((wPs a cI pc pf) ++ ((wSt (sh 14 a) cI g l_ h r) ++ ((wOp (sh 18 a) cI k n b (nI 0)) ++ (wRp (sh 22 a) cI u38 td0 0))))) H := hP
          have hD : va_D A ([(a 0, .inr (4, [.ref (a 1), .ref (a 14), .ref (a 18), .ref (a 22), .int (nI q), .int 0, .int z])), (a 1, .inl (cP, 6, .inr (.inr (.inr (.inr (fun k => some (a (2 + 2 * k))))))))] ++ ((wPs a cI pc pf) ++ ((wSt (sh 14 a) cI g l_ h r) ++ ((wOp (sh 18 a) cI k n b (nI 0)) ++ (wRp (sh 22 a) cI u38 td0 0))))) := hD
          refine lv_aload_n hx hb dX4_run_51 rfl (lv_at hl 0 rfl) ?_
          refine lv_iconst (v := 1) hx hb dX4_run_52 (by decide) ?_
          refine va_put (D := D) (ci := 4) (v := .int 1) (ty := .int) (C := RX4) (T := TX4) (N := 7) hx hb hts inX4 tyX4 tyX4_ok nmX4 hown hK hP hD hS 0 rfl rfl 6 (by decide) fl77 (fun _ h9 => h9) rfl (by decide +kernel) rfl rfl (Nat.le_of_ble_eq_true rfl) dX4_run_53 (fun H locs hP hD hS => ?_)
          have hP : va_P D vwCl ([(a 0, .inr (4, [.ref (a 1), .ref (a 14), .ref (a 18), .ref (a 22), .int (nI q), .int 0, .int 1])), (a 1, .inl (cP, 6, .inr (.inr (.inr (.inr (fun k => some (a (2 + 2 * k))))))))] ++ ((wPs a cI pc pf) ++ ((wSt (sh 14 a) cI g l_ h r) ++ ((wOp (sh 18 a) cI k n b (nI 0)) ++ (wRp (sh 22 a) cI u38 td0 0))))) H := hP
          have hD : va_D A ([(a 0, .inr (4, [.ref (a 1), .ref (a 14), .ref (a 18), .ref (a 22), .int (nI q), .int 0, .int 1])), (a 1, .inl (cP, 6, .inr (.inr (.inr (.inr (fun k => some (a (2 + 2 * k))))))))] ++ ((wPs a cI pc pf) ++ ((wSt (sh 14 a) cI g l_ h r) ++ ((wOp (sh 18 a) cI k n b (nI 0)) ++ (wRp (sh 22 a) cI u38 td0 0))))) := hD
          have hDp2 : Dp G go lf rs td0 (fun _ => 0) (cnt []) g l_ h r u38 td0 := ⟨hDp.1, hDp.2.1, hDp.2.2.1, hDp.2.2.2.1, fun k hk => rfl, hw38⟩
          refine lv_aload_n hx hb dX4_run_56 rfl (lv_at hl 0 rfl) ?_
          refine lv_iload_n hx hb dX4_run_57 rfl (lv_at hl 2 rfl) ?_
          refine cl_Vi ([]) ([]) (As := [.int (nI n_)]) (rest := []) (c_X4_doActs l D cI cP a pc pf g l_ h r k n b u38 td0 G go lf rs td0 (fun _ => 0) 0 q 0 [] hpl hDp2 trivial (Inv0 hq6 hc9) n_ (by omega) (Nat.zero_le _) (by show 2 * (n_ - 0) + 0 < 129; omega)) ⟨hx, hb, hml, hown, hts⟩ (cwV 1 hts gX4_run_X4_doActs rfl rfl rfl (by decide +kernel) ⟨Nat.le_of_ble_eq_true rfl, Nat.le_of_ble_eq_true rfl⟩) hK hns hP hD hS hA rfl (T := TX4) (N := 7) rfl rfl hl.1 rfl (Nat.le_of_ble_eq_true rfl) dX4_run_58 ⟨Nat.zero_le _, Nat.zero_le _⟩ (fun r58 u58 H locs hw58 hP hD hS => ?_)
          have hP : va_P D vwCl ([(a 0, .inr (4, [.ref (a 1), .ref (a 14), .ref (a 18), .ref (a 22), .int u58.2.2.2.2.2.2.2.2.2.2.2.1, .int u58.2.2.2.2.2.2.2.2.2.2.2.2.1, .int u58.2.2.2.2.2.2.2.2.2.2.2.2.2])), (a 1, .inl (cP, 6, .inr (.inr (.inr (.inr (fun k => some (a (2 + 2 * k))))))))] ++ ((wPs a cI pc pf) ++ ((wSt (sh 14 a) cI u58.1 u58.2.1 u58.2.2.1 u58.2.2.2.1) ++ ((wOp (sh 18 a) cI u58.2.2.2.2.1 u58.2.2.2.2.2.1 u58.2.2.2.2.2.2.1 u58.2.2.2.2.2.2.2.1) ++ (wRp (sh 22 a) cI u58.2.2.2.2.2.2.2.2.1 u58.2.2.2.2.2.2.2.2.2.1 u58.2.2.2.2.2.2.2.2.2.2.1))))) H := hP
          have hD : va_D A ([(a 0, .inr (4, [.ref (a 1), .ref (a 14), .ref (a 18), .ref (a 22), .int u58.2.2.2.2.2.2.2.2.2.2.2.1, .int u58.2.2.2.2.2.2.2.2.2.2.2.2.1, .int u58.2.2.2.2.2.2.2.2.2.2.2.2.2])), (a 1, .inl (cP, 6, .inr (.inr (.inr (.inr (fun k => some (a (2 + 2 * k))))))))] ++ ((wPs a cI pc pf) ++ ((wSt (sh 14 a) cI u58.1 u58.2.1 u58.2.2.1 u58.2.2.2.1) ++ ((wOp (sh 18 a) cI u58.2.2.2.2.1 u58.2.2.2.2.2.1 u58.2.2.2.2.2.2.1 u58.2.2.2.2.2.2.2.1) ++ (wRp (sh 22 a) cI u58.2.2.2.2.2.2.2.2.1 u58.2.2.2.2.2.2.2.2.2.1 u58.2.2.2.2.2.2.2.2.2.2.1))))) := hD
          exact Ri (D := D) u58 hx hb hr rfl hlocks hP hD hS (by rw [F_run_in (fo := (_, _, _, _, _)) hq6 hn65 hc9 rfl rfl rfl rfl rfl rfl]; exact hw58) dX4_run_61
        · refine lv_if_ne (tgt := 34) hx hb dX4_run_28 (by decide) (fun c9 => absurd rfl c9) (fun _ => ?_)
          refine lv_bipush (v := (-3)) hx hb dX4_run_31 (by decide) ?_
          exact Ri (D := D) (g, l_, h, r, k, n, b, nI 0, ct, td, op, x, y, z) hx hb hr rfl hlocks hP hD hS (by rw [F_run_st hq6 hn65 hc9]; exact ⟨rfl, hDp, rfl⟩) dX4_run_33
      · refine lv_iconst (v := (-1)) hx hb dX4_run_17 (by decide) ?_
        exact Ri (D := D) (g, l_, h, r, k, n, b, nI 0, ct, td, op, x, y, z) hx hb hr rfl hlocks hP hD hS (by rw [F_run_no (fun q => c_14 (inN_d (m := 64) (by decide) rfl q.2).2)]; exact ⟨rfl, hDp, rfl⟩) dX4_run_18
  · refine lv_if_eq (tgt := 17) hx hb dX4_run_4 (by decide) (fun _ => ?_) (fun c9 => absurd (by decide) c9)
    refine lv_iconst (v := (-1)) hx hb dX4_run_17 (by decide) ?_
    exact Ri (D := D) (g, l_, h, r, k, n, b, nI 0, ct, td, op, x, y, z) hx hb hr rfl hlocks hP hD hS (by rw [F_run_no (fun q => hp1 q.1)]; exact ⟨rfl, hDp, rfl⟩) dX4_run_18
