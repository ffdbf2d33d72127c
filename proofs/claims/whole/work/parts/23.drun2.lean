set_option maxHeartbeats 4000000 in
set_option maxRecDepth 100000 in
theorem c_X4_doAct (l : Launch) (D : va_G) (cI cP : ClassId) (a : Nat → Nat) (pc : Nat → Int32) (pf : Nat → Nat → Int32) (g l_ h : Nat → Int32) (r : Int32) (k n b ct td : Nat → Int32) (G : GP) (go : Nat → Nat) (lf : Nat → Int32) (rs : Int32) (td_ ct_ : Nat → Int32) (st p nx : Nat) (K : KL) (hpl : Dpl pc pf G) (hDp : Dp G go lf rs td_ ct_ (cnt K) g l_ h r ct td) (hDs : Dst G k n b p K) (act : Nat) (hp6 : p < 6) (ha : act < G.1 p) (hcl : clo (G.1 p) (G.2.1 p)) (hwf : WF G p (dp (G.2.1 p) act) K) (hKl : K.length < 64) (hlv : lvl K ≤ 4) : Ci l D [(cI, .int), (cP, .object RX1)] yX4_doAct wsX4_doAct ({ frames := 4, cells := 0, slots := 0, locals := 87 }) [.ref (a 0), .ref (a (2 + 2 * p)), .int (nI act)] (wD a cI cP pc pf g l_ h r k n b (nI K.length) ct td (nI (hn K)) (nI p) (nI nx) (nI (lvl K + 1))) (S := US) (fun w u => w = nI (a_does G (go, lf, rs, td_, ct_, st, p, nx, K) act).1 ∧ Dr G (a_does G (go, lf, rs, td_, ct_, st, p, nx, K) act).2 u) (fun u => wDu a cI cP pc pf u) := by
  refine Ci.mk (cc := cX4_doAct) (maxL := 5) (ret := (some .int)) (by decide +kernel) rfl (Nat.le_of_ble_eq_true rfl) ?_
  intro pg e s m below meth c A ls hx hb hml hr hown hts hlocks hK hns hA hP hD hS hl
  have hl : lv_has ls 5 [(0, .ref (a 0)), (1, .ref (a (2 + 2 * p))), (2, .int (nI act))] := hl
  have fl26 := hts (.fieldLink RX4 26 "HeldShelves" "open" "LHeldShelves$OpenRow;") (List.mem_of_getElem? (i := 1) rfl)
  have inX4 : ∀ w ∈ wsX40, w ∈ wsX4_doAct := fun _ h => List.mem_cons_of_mem _ (List.mem_append_left _ (List.mem_append_left _ (List.mem_append_left _ (List.mem_append_left _ (List.mem_append_right _ h)))))
  have fl19 := hts (.fieldLink RX4 19 "HeldShelves" "stock" "LHeldShelves$Stock;") (List.mem_of_getElem? (i := 2) rfl)
  have hP : va_P D vwCl ([(a 0, .inr (4, [.ref (a 1), .ref (a 14), .ref (a 18), .ref (a 22), .int (nI p), .int (nI nx), .int (nI (lvl K + 1))])), (a 1, .inl (cP, 6, .inr (.inr (.inr (.inr (fun k => some (a (2 + 2 * k))))))))] ++ ((wPs a cI pc pf) ++ ((wSt (sh 14 a) cI g l_ h r) ++ ((wOp (sh 18 a) cI k n b (nI K.length)) ++ (wRp (sh 22 a) cI ct td (nI (hn K))))))) s.heap := hP
  have hD : va_D A ([(a 0, .inr (4, [.ref (a 1), .ref (a 14), .ref (a 18), .ref (a 22), .int (nI p), .int (nI nx), .int (nI (lvl K + 1))])), (a 1, .inl (cP, 6, .inr (.inr (.inr (.inr (fun k => some (a (2 + 2 * k))))))))] ++ ((wPs a cI pc pf) ++ ((wSt (sh 14 a) cI g l_ h r) ++ ((wOp (sh 18 a) cI k n b (nI K.length)) ++ (wRp (sh 22 a) cI ct td (nI (hn K))))))) := hD
  have hpk := (hpl p hp6).2
  have hki := hpk.2 act ha
  have hc := hki.2
  obtain ⟨d1, d2, d3, d4, d5, d6⟩ := id hDp
  subst d4
  have hda : G.2.1 p act / 100 % 10 < 10 := Nat.mod_lt _ (by decide)
  have hdb : G.2.1 p act / 10 % 10 < 10 := Nat.mod_lt _ (by decide)
  have hdc : G.2.1 p act % 10 < 10 := Nat.mod_lt _ (by decide)
  refine lv_aload_n hx hb dX4_doAct_0 rfl (lv_at hl 1 rfl) ?_
  refine lv_iload_n hx hb dX4_doAct_1 rfl (lv_at hl 2 rfl) ?_
  have hPq := hP
  have hDq := hD
  rw [wsplit _ _ (hp6), (hpl p (hp6)).1] at hPq hDq
  refine cl_Vi _ _ (As := [.int (nI act)]) (rest := []) (c_X1_aOf l D cI (a (2 + 2 * p)) (a (3 + 2 * p)) (pf p) (G.1 p) (G.2.1 p) hpk act ha) ⟨hx, hb, hml, hown, hts⟩ (cwV 1 hts gX4_doAct_X1_aOf rfl rfl rfl (by decide +kernel) ⟨Nat.le_of_ble_eq_true rfl, Nat.le_of_ble_eq_true rfl⟩) (hK.sub [0] rfl) hns hPq hDq hS hA rfl (T := TX1) (N := 2) rfl rfl hl.1 rfl (Nat.le_of_ble_eq_true rfl) dX4_doAct_2 ⟨Nat.zero_le _, Nat.zero_le _⟩ (fun r2 u2 H locs hw2 hP hD hS => ?_)
  have hP : va_P D vwCl ([(a 0, .inr (4, [.ref (a 1), .ref (a 14), .ref (a 18), .ref (a 22), .int (nI p), .int (nI nx), .int (nI (lvl K + 1))])), (a 1, .inl (cP, 6, .inr (.inr (.inr (.inr (fun k => some (a (2 + 2 * k))))))))] ++ ((wPs a cI pc pf) ++ ((wSt (sh 14 a) cI g l_ h r) ++ ((wOp (sh 18 a) cI k n b (nI K.length)) ++ (wRp (sh 22 a) cI ct td (nI (hn K))))))) H := by rw [wsplit _ _ (hp6), (hpl p (hp6)).1]; exact hP
  have hD : va_D A ([(a 0, .inr (4, [.ref (a 1), .ref (a 14), .ref (a 18), .ref (a 22), .int (nI p), .int (nI nx), .int (nI (lvl K + 1))])), (a 1, .inl (cP, 6, .inr (.inr (.inr (.inr (fun k => some (a (2 + 2 * k))))))))] ++ ((wPs a cI pc pf) ++ ((wSt (sh 14 a) cI g l_ h r) ++ ((wOp (sh 18 a) cI k n b (nI K.length)) ++ (wRp (sh 22 a) cI ct td (nI (hn K))))))) := by rw [wsplit _ _ (hp6), (hpl p (hp6)).1]; exact hD
  subst hw2
  refine lv_istore_n (lv' := [(3, .int (nI (G.2.1 p act / 100 % 10))), (0, .ref (a 0)), (1, .ref (a (2 + 2 * p))), (2, .int (nI act))]) hx hb dX4_doAct_5 rfl hl (by decide) rfl (fun ls hl => ?_)
  refine lv_aload_n hx hb dX4_doAct_6 rfl (lv_at hl 2 rfl) ?_
  refine lv_iload_n hx hb dX4_doAct_7 rfl (lv_at hl 3 rfl) ?_
  have hPq := hP
  have hDq := hD
  rw [wsplit _ _ (hp6), (hpl p (hp6)).1] at hPq hDq
  refine cl_Vi _ _ (As := [.int (nI act)]) (rest := []) (c_X1_bOf l D cI (a (2 + 2 * p)) (a (3 + 2 * p)) (pf p) (G.1 p) (G.2.1 p) hpk act ha) ⟨hx, hb, hml, hown, hts⟩ (cwV 1 hts gX4_doAct_X1_bOf rfl rfl rfl (by decide +kernel) ⟨Nat.le_of_ble_eq_true rfl, Nat.le_of_ble_eq_true rfl⟩) (hK.sub [0] rfl) hns hPq hDq hS hA rfl (T := TX1) (N := 2) rfl rfl hl.1 rfl (Nat.le_of_ble_eq_true rfl) dX4_doAct_8 ⟨Nat.zero_le _, Nat.zero_le _⟩ (fun r8 u8 H locs hw8 hP hD hS => ?_)
  have hP : va_P D vwCl ([(a 0, .inr (4, [.ref (a 1), .ref (a 14), .ref (a 18), .ref (a 22), .int (nI p), .int (nI nx), .int (nI (lvl K + 1))])), (a 1, .inl (cP, 6, .inr (.inr (.inr (.inr (fun k => some (a (2 + 2 * k))))))))] ++ ((wPs a cI pc pf) ++ ((wSt (sh 14 a) cI g l_ h r) ++ ((wOp (sh 18 a) cI k n b (nI K.length)) ++ (wRp (sh 22 a) cI ct td (nI (hn K))))))) H := by rw [wsplit _ _ (hp6), (hpl p (hp6)).1]; exact hP
  have hD : va_D A ([(a 0, .inr (4, [.ref (a 1), .ref (a 14), .ref (a 18), .ref (a 22), .int (nI p), .int (nI nx), .int (nI (lvl K + 1))])), (a 1, .inl (cP, 6, .inr (.inr (.inr (.inr (fun k => some (a (2 + 2 * k))))))))] ++ ((wPs a cI pc pf) ++ ((wSt (sh 14 a) cI g l_ h r) ++ ((wOp (sh 18 a) cI k n b (nI K.length)) ++ (wRp (sh 22 a) cI ct td (nI (hn K))))))) := by rw [wsplit _ _ (hp6), (hpl p (hp6)).1]; exact hD
  subst hw8
  refine lv_istore (lv' := [(4, .int (nI (G.2.1 p act / 10 % 10))), (3, .int (nI (G.2.1 p act / 100 % 10))), (0, .ref (a 0)), (1, .ref (a (2 + 2 * p))), (2, .int (nI act))]) hx hb dX4_doAct_11 hl (by decide) rfl (fun ls hl => ?_)
  refine lv_aload_n hx hb dX4_doAct_13 rfl (lv_at hl 3 rfl) ?_
  refine lv_iload_n hx hb dX4_doAct_14 rfl (lv_at hl 4 rfl) ?_
  have hPq := hP
  have hDq := hD
  rw [wsplit _ _ (hp6), (hpl p (hp6)).1] at hPq hDq
  refine cl_Vi _ _ (As := [.int (nI act)]) (rest := []) (c_X1_kindOf l D cI (a (2 + 2 * p)) (a (3 + 2 * p)) (pf p) (G.1 p) (G.2.1 p) hpk act ha) ⟨hx, hb, hml, hown, hts⟩ (cwV 1 hts gX4_doAct_X1_kindOf rfl rfl rfl (by decide +kernel) ⟨Nat.le_of_ble_eq_true rfl, Nat.le_of_ble_eq_true rfl⟩) (hK.sub [0] rfl) hns hPq hDq hS hA rfl (T := TX1) (N := 2) rfl rfl hl.1 rfl (Nat.le_of_ble_eq_true rfl) dX4_doAct_15 ⟨Nat.zero_le _, Nat.zero_le _⟩ (fun r15 u15 H locs hw15 hP hD hS => ?_)
  have hP : va_P D vwCl ([(a 0, .inr (4, [.ref (a 1), .ref (a 14), .ref (a 18), .ref (a 22), .int (nI p), .int (nI nx), .int (nI (lvl K + 1))])), (a 1, .inl (cP, 6, .inr (.inr (.inr (.inr (fun k => some (a (2 + 2 * k))))))))] ++ ((wPs a cI pc pf) ++ ((wSt (sh 14 a) cI g l_ h r) ++ ((wOp (sh 18 a) cI k n b (nI K.length)) ++ (wRp (sh 22 a) cI ct td (nI (hn K))))))) H := by rw [wsplit _ _ (hp6), (hpl p (hp6)).1]; exact hP
  have hD : va_D A ([(a 0, .inr (4, [.ref (a 1), .ref (a 14), .ref (a 18), .ref (a 22), .int (nI p), .int (nI nx), .int (nI (lvl K + 1))])), (a 1, .inl (cP, 6, .inr (.inr (.inr (.inr (fun k => some (a (2 + 2 * k))))))))] ++ ((wPs a cI pc pf) ++ ((wSt (sh 14 a) cI g l_ h r) ++ ((wOp (sh 18 a) cI k n b (nI K.length)) ++ (wRp (sh 22 a) cI ct td (nI (hn K))))))) := by rw [wsplit _ _ (hp6), (hpl p (hp6)).1]; exact hD
  subst hw15
  rcases k10 hc with hk | hk | hk | hk | hk | hk | hk | hk | hk | hk
  · refine tp (y := 0) (by rw [hk]; rfl) ?_
    refine lv_tableIn (off := 50) (tgt := 68) hx hb dX4_doAct_18 (by decide) (by decide) (by decide) (by decide) ?_
    refine lv_aload_n hx hb dX4_doAct_68 rfl (lv_at hl 2 rfl) ?_
    refine lv_iload_n hx hb dX4_doAct_69 rfl (lv_at hl 1 rfl) ?_
    refine cl_Vi ([]) ([]) (As := [.int (nI (G.2.1 p act / 100 % 10))]) (rest := []) (c_X4_hold l D cI cP a pc pf g l_ h r k n b K.length (by omega) ct td (nI (hn K)) (nI p) (nI nx) (nI (lvl K + 1)) G.2.2 go d1 (G.2.1 p act / 100 % 10) (by omega)) ⟨hx, hb, hml, hown, hts⟩ (cwV 1 hts gX4_doAct_X4_hold rfl rfl rfl (by decide +kernel) ⟨Nat.le_of_ble_eq_true rfl, Nat.le_of_ble_eq_true rfl⟩) hK hns hP hD hS hA rfl (T := TX4) (N := 7) rfl rfl hl.1 rfl (Nat.le_of_ble_eq_true rfl) dX4_doAct_70 ⟨Nat.zero_le _, Nat.zero_le _⟩ (fun r70 u70 H locs hw70 hP hD hS => ?_)
    have hP : va_P D vwCl ([(a 0, .inr (4, [.ref (a 1), .ref (a 14), .ref (a 18), .ref (a 22), .int u70.2.2.2.2.2.2.2.2.2.2.2.1, .int u70.2.2.2.2.2.2.2.2.2.2.2.2.1, .int u70.2.2.2.2.2.2.2.2.2.2.2.2.2])), (a 1, .inl (cP, 6, .inr (.inr (.inr (.inr (fun k => some (a (2 + 2 * k))))))))] ++ ((wPs a cI pc pf) ++ ((wSt (sh 14 a) cI u70.1 u70.2.1 u70.2.2.1 u70.2.2.2.1) ++ ((wOp (sh 18 a) cI u70.2.2.2.2.1 u70.2.2.2.2.2.1 u70.2.2.2.2.2.2.1 u70.2.2.2.2.2.2.2.1) ++ (wRp (sh 22 a) cI u70.2.2.2.2.2.2.2.2.1 u70.2.2.2.2.2.2.2.2.2.1 u70.2.2.2.2.2.2.2.2.2.2.1))))) H := hP
    have hD : va_D A ([(a 0, .inr (4, [.ref (a 1), .ref (a 14), .ref (a 18), .ref (a 22), .int u70.2.2.2.2.2.2.2.2.2.2.2.1, .int u70.2.2.2.2.2.2.2.2.2.2.2.2.1, .int u70.2.2.2.2.2.2.2.2.2.2.2.2.2])), (a 1, .inl (cP, 6, .inr (.inr (.inr (.inr (fun k => some (a (2 + 2 * k))))))))] ++ ((wPs a cI pc pf) ++ ((wSt (sh 14 a) cI u70.1 u70.2.1 u70.2.2.1 u70.2.2.2.1) ++ ((wOp (sh 18 a) cI u70.2.2.2.2.1 u70.2.2.2.2.2.1 u70.2.2.2.2.2.2.1 u70.2.2.2.2.2.2.2.1) ++ (wRp (sh 22 a) cI u70.2.2.2.2.2.2.2.2.1 u70.2.2.2.2.2.2.2.2.2.1 u70.2.2.2.2.2.2.2.2.2.2.1))))) := hD
    exact Ri (D := D) u70 hx hb hr rfl hlocks hP hD hS (by rw [a_does_0 hk]; exact D_hold (by omega) hDp hDs hw70) dX4_doAct_73
  · refine tp (y := 1) (by rw [hk]; rfl) ?_
    refine lv_tableIn (off := 56) (tgt := 74) hx hb dX4_doAct_18 (by decide) (by decide) (by decide) (by decide) ?_
    refine lv_aload_n hx hb dX4_doAct_74 rfl (lv_at hl 2 rfl) ?_
    refine va_get (D := D) (ci := 4) (v := .ref (a 18)) (C := RX4) (T := TX4) (N := 7) hx hb hts inX4 hown hK hP 0 rfl rfl 2 (by decide) fl26 (fun _ h9 => h9) rfl dX4_doAct_75 ?_
    refine lv_iconst (v := 1) hx hb dX4_doAct_78 (by decide) ?_
    refine lv_iload_n hx hb dX4_doAct_79 rfl (lv_at hl 1 rfl) ?_
    refine lv_aload_n hx hb dX4_doAct_80 rfl (lv_at hl 3 rfl) ?_
    refine lv_iload_n hx hb dX4_doAct_81 rfl (lv_at hl 4 rfl) ?_
    have hPq := hP
    have hDq := hD
    rw [wsplit _ _ (hp6), (hpl p (hp6)).1] at hPq hDq
    refine cl_Vi _ _ (As := [.int (nI act)]) (rest := [.int (nI (G.2.1 p act / 100 % 10)), .int 1, .ref (a 18)]) (c_X1_behindBlock l D cI (a (2 + 2 * p)) (a (3 + 2 * p)) (pf p) (G.1 p) (G.2.1 p) hpk act ha (by omega) hcl) ⟨hx, hb, hml, hown, hts⟩ (cwV 1 hts gX4_doAct_X1_behindBlock rfl rfl rfl (by decide +kernel) ⟨Nat.le_of_ble_eq_true rfl, Nat.le_of_ble_eq_true rfl⟩) (hK.sub [0] rfl) hns hPq hDq hS hA rfl (T := TX1) (N := 2) rfl rfl hl.1 rfl (Nat.le_of_ble_eq_true rfl) dX4_doAct_82 ⟨Nat.zero_le _, Nat.zero_le _⟩ (fun r82 u82 H locs hw82 hP hD hS => ?_)
    have hP : va_P D vwCl ([(a 0, .inr (4, [.ref (a 1), .ref (a 14), .ref (a 18), .ref (a 22), .int (nI p), .int (nI nx), .int (nI (lvl K + 1))])), (a 1, .inl (cP, 6, .inr (.inr (.inr (.inr (fun k => some (a (2 + 2 * k))))))))] ++ ((wPs a cI pc pf) ++ ((wSt (sh 14 a) cI g l_ h r) ++ ((wOp (sh 18 a) cI k n b (nI K.length)) ++ (wRp (sh 22 a) cI ct td (nI (hn K))))))) H := by rw [wsplit _ _ (hp6), (hpl p (hp6)).1]; exact hP
    have hD : va_D A ([(a 0, .inr (4, [.ref (a 1), .ref (a 14), .ref (a 18), .ref (a 22), .int (nI p), .int (nI nx), .int (nI (lvl K + 1))])), (a 1, .inl (cP, 6, .inr (.inr (.inr (.inr (fun k => some (a (2 + 2 * k))))))))] ++ ((wPs a cI pc pf) ++ ((wSt (sh 14 a) cI g l_ h r) ++ ((wOp (sh 18 a) cI k n b (nI K.length)) ++ (wRp (sh 22 a) cI ct td (nI (hn K))))))) := by rw [wsplit _ _ (hp6), (hpl p (hp6)).1]; exact hD
    obtain ⟨bk, rfl, hbk, hbkn⟩ := hw82
    refine cl_Vv ([(a 0, .inr (4, [.ref (a 1), .ref (a 14), .ref (a 18), .ref (a 22), .int (nI p), .int (nI nx), .int (nI (lvl K + 1))])), (a 1, .inl (cP, 6, .inr (.inr (.inr (.inr (fun k => some (a (2 + 2 * k))))))))] ++ ((wPs a cI pc pf) ++ (wSt (sh 14 a) cI g l_ h r))) (wRp (sh 22 a) cI ct td (nI (hn K))) (As := [.int 1, .int (nI (G.2.1 p act / 100 % 10)), .int (nI bk)]) (rest := []) (c_X0_push l D cI (sh 18 a) k n b K.length (by omega) 1 (nI (G.2.1 p act / 100 % 10)) (nI bk)) ⟨hx, hb, hml, hown, hts⟩ (cwV 3 hts gX4_doAct_X0_push rfl rfl rfl (by decide +kernel) ⟨Nat.le_of_ble_eq_true rfl, Nat.le_of_ble_eq_true rfl⟩) (hK.sub [0] rfl) hns hP hD hS hA rfl (T := TX0) (N := 4) rfl rfl hl.1 rfl (Nat.le_of_ble_eq_true rfl) dX4_doAct_85 ⟨Nat.zero_le _, Nat.zero_le _⟩ (fun u85 H locs hw85 hP hD hS => ?_)
    have hP : va_P D vwCl ([(a 0, .inr (4, [.ref (a 1), .ref (a 14), .ref (a 18), .ref (a 22), .int (nI p), .int (nI nx), .int (nI (lvl K + 1))])), (a 1, .inl (cP, 6, .inr (.inr (.inr (.inr (fun k => some (a (2 + 2 * k))))))))] ++ ((wPs a cI pc pf) ++ ((wSt (sh 14 a) cI g l_ h r) ++ ((wOp (sh 18 a) cI (upd k K.length 1) (upd n K.length (nI (G.2.1 p act / 100 % 10))) (upd b K.length (nI bk)) (nI (K.length + 1))) ++ (wRp (sh 22 a) cI ct td (nI (hn K))))))) H := hP
    have hD : va_D A ([(a 0, .inr (4, [.ref (a 1), .ref (a 14), .ref (a 18), .ref (a 22), .int (nI p), .int (nI nx), .int (nI (lvl K + 1))])), (a 1, .inl (cP, 6, .inr (.inr (.inr (.inr (fun k => some (a (2 + 2 * k))))))))] ++ ((wPs a cI pc pf) ++ ((wSt (sh 14 a) cI g l_ h r) ++ ((wOp (sh 18 a) cI (upd k K.length 1) (upd n K.length (nI (G.2.1 p act / 100 % 10))) (upd b K.length (nI bk)) (nI (K.length + 1))) ++ (wRp (sh 22 a) cI ct td (nI (hn K))))))) := hD
    refine lv_iconst (v := 0) hx hb dX4_doAct_88 (by decide) ?_
    exact Ri (D := D) (g, l_, h, r, (upd k K.length 1), (upd n K.length (nI (G.2.1 p act / 100 % 10))), (upd b K.length (nI bk)), nI (K.length + 1), ct, td, nI (hn K), nI p, nI nx, nI (lvl K + 1)) hx hb hr rfl hlocks hP hD hS (by rw [a_does_1 hk]; exact ⟨rfl, D_try hbk hDp hDs⟩) dX4_doAct_89
  · refine tp (y := 2) (by rw [hk]; rfl) ?_
    refine lv_tableIn (off := 72) (tgt := 90) hx hb dX4_doAct_18 (by decide) (by decide) (by decide) (by decide) ?_
    have hd1 : 1 ≤ dp (G.2.1 p) act := by have q1 := hcl.1 (act + 1) (by omega); have q2 := dp_k2 (cd := G.2.1 p) (i := act) hk; omega
    obtain ⟨e, K', rfl, he, hw'⟩ := WF_end hwf hd1
    obtain ⟨hk0, hn0, hb1, hb8, hsK⟩ := id hDs
    have hKl : K'.length + 1 < 64 := hKl
    rcases he with ⟨he0, he8⟩ | ⟨he0, he10⟩
    · obtain ⟨e0, e1, e2⟩ := e
      simp only at he0; subst he0
      have he8 : e1 < 8 := he8
      have hk0 : k K'.length = nI 0 := hk0
      have hn0 : n K'.length = nI e1 := hn0
      have hsK : Dst G k n b p K' := hsK
      have hP : va_P D vwCl ([(a 0, .inr (4, [.ref (a 1), .ref (a 14), .ref (a 18), .ref (a 22), .int (nI p), .int (nI nx), .int (nI (lvl K' + 1))])), (a 1, .inl (cP, 6, .inr (.inr (.inr (.inr (fun k => some (a (2 + 2 * k))))))))] ++ ((wPs a cI pc pf) ++ ((wSt (sh 14 a) cI g l_ h r) ++ ((wOp (sh 18 a) cI k n b (nI (K'.length + 1))) ++ (wRp (sh 22 a) cI ct td (nI (hn K' + 1))))))) H := hP
      have hD : va_D A ([(a 0, .inr (4, [.ref (a 1), .ref (a 14), .ref (a 18), .ref (a 22), .int (nI p), .int (nI nx), .int (nI (lvl K' + 1))])), (a 1, .inl (cP, 6, .inr (.inr (.inr (.inr (fun k => some (a (2 + 2 * k))))))))] ++ ((wPs a cI pc pf) ++ ((wSt (sh 14 a) cI g l_ h r) ++ ((wOp (sh 18 a) cI k n b (nI (K'.length + 1))) ++ (wRp (sh 22 a) cI ct td (nI (hn K' + 1))))))) := hD
      refine lv_aload_n hx hb dX4_doAct_90 rfl (lv_at hl 2 rfl) ?_
      refine cl_Vi ([]) ([]) (As := []) (rest := []) (c_X4_endBlockH l D cI cP a pc pf g l_ h r k n b K'.length (by omega) ct td (nI (hn K' + 1)) (nI p) (nI nx) (nI (lvl K' + 1)) hk0 e1 he8 hn0) ⟨hx, hb, hml, hown, hts⟩ (cwV 0 hts gX4_doAct_X4_endBlock rfl rfl rfl (by decide +kernel) ⟨Nat.le_of_ble_eq_true rfl, Nat.le_of_ble_eq_true rfl⟩) hK hns hP hD hS hA rfl (T := TX4) (N := 7) rfl rfl hl.1 rfl (Nat.le_of_ble_eq_true rfl) dX4_doAct_91 ⟨Nat.zero_le _, Nat.zero_le _⟩ (fun r91 u91 H locs hw91 hP hD hS => ?_)
      have hP : va_P D vwCl ([(a 0, .inr (4, [.ref (a 1), .ref (a 14), .ref (a 18), .ref (a 22), .int (nI p), .int (nI nx), .int (nI (lvl K' + 1))])), (a 1, .inl (cP, 6, .inr (.inr (.inr (.inr (fun k => some (a (2 + 2 * k))))))))] ++ ((wPs a cI pc pf) ++ ((wSt (sh 14 a) cI g l_ (upd h e1 (h e1 - 1)) r) ++ ((wOp (sh 18 a) cI k n b (nI K'.length)) ++ (wRp (sh 22 a) cI ct td (nI (hn K' + 1) - 1)))))) H := hP
      have hD : va_D A ([(a 0, .inr (4, [.ref (a 1), .ref (a 14), .ref (a 18), .ref (a 22), .int (nI p), .int (nI nx), .int (nI (lvl K' + 1))])), (a 1, .inl (cP, 6, .inr (.inr (.inr (.inr (fun k => some (a (2 + 2 * k))))))))] ++ ((wPs a cI pc pf) ++ ((wSt (sh 14 a) cI g l_ (upd h e1 (h e1 - 1)) r) ++ ((wOp (sh 18 a) cI k n b (nI K'.length)) ++ (wRp (sh 22 a) cI ct td (nI (hn K' + 1) - 1)))))) := hD
      rw [nI_pred] at hP hD
      exact Ri (D := D) (g, l_, (upd h e1 (h e1 - 1)), r, k, n, b, nI K'.length, ct, td, nI (hn K'), nI p, nI nx, nI (lvl K' + 1)) hx hb hr rfl hlocks hP hD hS (by rw [a_does_2 hk]; exact ⟨hw91, Dp_end (K := K') (by omega) hDp, hsK, rfl, rfl, rfl, rfl, rfl⟩) dX4_doAct_94
    · obtain ⟨e0, e1, e2⟩ := e
      simp only at he0; subst he0
      skip
      have hk0 : k K'.length = nI 1 := hk0
      have hn0 : n K'.length = nI e1 := hn0
      have hsK : Dst G k n b p K' := hsK
      have hP : va_P D vwCl ([(a 0, .inr (4, [.ref (a 1), .ref (a 14), .ref (a 18), .ref (a 22), .int (nI p), .int (nI nx), .int (nI (lvl K' + 1))])), (a 1, .inl (cP, 6, .inr (.inr (.inr (.inr (fun k => some (a (2 + 2 * k))))))))] ++ ((wPs a cI pc pf) ++ ((wSt (sh 14 a) cI g l_ h r) ++ ((wOp (sh 18 a) cI k n b (nI (K'.length + 1))) ++ (wRp (sh 22 a) cI ct td (nI (hn K'))))))) H := hP
      have hD : va_D A ([(a 0, .inr (4, [.ref (a 1), .ref (a 14), .ref (a 18), .ref (a 22), .int (nI p), .int (nI nx), .int (nI (lvl K' + 1))])), (a 1, .inl (cP, 6, .inr (.inr (.inr (.inr (fun k => some (a (2 + 2 * k))))))))] ++ ((wPs a cI pc pf) ++ ((wSt (sh 14 a) cI g l_ h r) ++ ((wOp (sh 18 a) cI k n b (nI (K'.length + 1))) ++ (wRp (sh 22 a) cI ct td (nI (hn K'))))))) := hD
      refine lv_aload_n hx hb dX4_doAct_90 rfl (lv_at hl 2 rfl) ?_
      refine cl_Vi ([]) ([]) (As := []) (rest := []) (c_X4_endBlockT l D cI cP a pc pf g l_ h r k n b K'.length (by omega) ct td (nI (hn K')) (nI p) (nI nx) (nI (lvl K' + 1)) hk0) ⟨hx, hb, hml, hown, hts⟩ (cwV 0 hts gX4_doAct_X4_endBlock rfl rfl rfl (by decide +kernel) ⟨Nat.le_of_ble_eq_true rfl, Nat.le_of_ble_eq_true rfl⟩) hK hns hP hD hS hA rfl (T := TX4) (N := 7) rfl rfl hl.1 rfl (Nat.le_of_ble_eq_true rfl) dX4_doAct_91 ⟨Nat.zero_le _, Nat.zero_le _⟩ (fun r91 u91 H locs hw91 hP hD hS => ?_)
      have hP : va_P D vwCl ([(a 0, .inr (4, [.ref (a 1), .ref (a 14), .ref (a 18), .ref (a 22), .int (nI p), .int (nI nx), .int (nI (lvl K' + 1))])), (a 1, .inl (cP, 6, .inr (.inr (.inr (.inr (fun k => some (a (2 + 2 * k))))))))] ++ ((wPs a cI pc pf) ++ ((wSt (sh 14 a) cI g l_ h r) ++ ((wOp (sh 18 a) cI k n b (nI K'.length)) ++ (wRp (sh 22 a) cI ct td (nI (hn K'))))))) H := hP
      have hD : va_D A ([(a 0, .inr (4, [.ref (a 1), .ref (a 14), .ref (a 18), .ref (a 22), .int (nI p), .int (nI nx), .int (nI (lvl K' + 1))])), (a 1, .inl (cP, 6, .inr (.inr (.inr (.inr (fun k => some (a (2 + 2 * k))))))))] ++ ((wPs a cI pc pf) ++ ((wSt (sh 14 a) cI g l_ h r) ++ ((wOp (sh 18 a) cI k n b (nI K'.length)) ++ (wRp (sh 22 a) cI ct td (nI (hn K'))))))) := hD
      exact Ri (D := D) (g, l_, h, r, k, n, b, nI K'.length, ct, td, nI (hn K'), nI p, nI nx, nI (lvl K' + 1)) hx hb hr rfl hlocks hP hD hS (by rw [a_does_2 hk]; exact ⟨hw91, (Dp_same (by simp)).mp hDp, hsK, rfl, rfl, rfl, rfl, rfl⟩) dX4_doAct_94
  · refine tp (y := 3) (by rw [hk]; rfl) ?_
    refine lv_tableIn (off := 77) (tgt := 95) hx hb dX4_doAct_18 (by decide) (by decide) (by decide) (by decide) ?_
    refine lv_aload_n hx hb dX4_doAct_95 rfl (lv_at hl 2 rfl) ?_
    refine va_get (D := D) (ci := 4) (v := .ref (a 14)) (C := RX4) (T := TX4) (N := 7) hx hb hts inX4 hown hK hP 0 rfl rfl 1 (by decide) fl19 (fun _ h9 => h9) rfl dX4_doAct_96 ?_
    refine lv_iload_n hx hb dX4_doAct_99 rfl (lv_at hl 1 rfl) ?_
    refine lv_iload hx hb dX4_doAct_100 (lv_at hl 0 rfl) ?_
    refine cl_Vi ([(a 0, .inr (4, [.ref (a 1), .ref (a 14), .ref (a 18), .ref (a 22), .int (nI p), .int (nI nx), .int (nI (lvl K + 1))])), (a 1, .inl (cP, 6, .inr (.inr (.inr (.inr (fun k => some (a (2 + 2 * k))))))))] ++ (wPs a cI pc pf)) ((wOp (sh 18 a) cI k n b (nI K.length)) ++ (wRp (sh 22 a) cI ct td (nI (hn K)))) (As := [.int (nI (G.2.1 p act / 100 % 10)), .int (nI (G.2.1 p act / 10 % 10))]) (rest := []) (c_X3_put l D cI (sh 14 a) g l_ h r G.2.2 go d1 (cnt K) d3 (G.2.1 p act / 100 % 10) (by omega) (G.2.1 p act / 10 % 10) (by omega)) ⟨hx, hb, hml, hown, hts⟩ (cwV 2 hts gX4_doAct_X3_put rfl rfl rfl (by decide +kernel) ⟨Nat.le_of_ble_eq_true rfl, Nat.le_of_ble_eq_true rfl⟩) (hK.sub [0] rfl) hns hP hD hS hA rfl (T := TX3) (N := 4) rfl rfl hl.1 rfl (Nat.le_of_ble_eq_true rfl) dX4_doAct_102 ⟨Nat.zero_le _, Nat.zero_le _⟩ (fun r102 u102 H locs hw102 hP hD hS => ?_)
    have hP : va_P D vwCl ([(a 0, .inr (4, [.ref (a 1), .ref (a 14), .ref (a 18), .ref (a 22), .int (nI p), .int (nI nx), .int (nI (lvl K + 1))])), (a 1, .inl (cP, 6, .inr (.inr (.inr (.inr (fun k => some (a (2 + 2 * k))))))))] ++ ((wPs a cI pc pf) ++ ((wSt (sh 14 a) cI u102 l_ h r) ++ ((wOp (sh 18 a) cI k n b (nI K.length)) ++ (wRp (sh 22 a) cI ct td (nI (hn K))))))) H := hP
    have hD : va_D A ([(a 0, .inr (4, [.ref (a 1), .ref (a 14), .ref (a 18), .ref (a 22), .int (nI p), .int (nI nx), .int (nI (lvl K + 1))])), (a 1, .inl (cP, 6, .inr (.inr (.inr (.inr (fun k => some (a (2 + 2 * k))))))))] ++ ((wPs a cI pc pf) ++ ((wSt (sh 14 a) cI u102 l_ h r) ++ ((wOp (sh 18 a) cI k n b (nI K.length)) ++ (wRp (sh 22 a) cI ct td (nI (hn K))))))) := hD
    exact Ri (D := D) (u102, l_, h, r, k, n, b, nI K.length, ct, td, nI (hn K), nI p, nI nx, nI (lvl K + 1)) hx hb hr rfl hlocks hP hD hS (by rw [a_does_3 hk]; exact ⟨hw102.1, Dp_go hDp hw102.2, hDs, rfl, rfl, rfl, rfl, rfl⟩) dX4_doAct_105
  · refine tp (y := 4) (by rw [hk]; rfl) ?_
    refine lv_tableIn (off := 88) (tgt := 106) hx hb dX4_doAct_18 (by decide) (by decide) (by decide) (by decide) ?_
    refine lv_aload_n hx hb dX4_doAct_106 rfl (lv_at hl 2 rfl) ?_
    refine va_get (D := D) (ci := 4) (v := .ref (a 14)) (C := RX4) (T := TX4) (N := 7) hx hb hts inX4 hown hK hP 0 rfl rfl 1 (by decide) fl19 (fun _ h9 => h9) rfl dX4_doAct_107 ?_
    refine lv_iload_n hx hb dX4_doAct_110 rfl (lv_at hl 1 rfl) ?_
    refine lv_iload hx hb dX4_doAct_111 (lv_at hl 0 rfl) ?_
    refine cl_Vi ([(a 0, .inr (4, [.ref (a 1), .ref (a 14), .ref (a 18), .ref (a 22), .int (nI p), .int (nI nx), .int (nI (lvl K + 1))])), (a 1, .inl (cP, 6, .inr (.inr (.inr (.inr (fun k => some (a (2 + 2 * k))))))))] ++ (wPs a cI pc pf)) ((wOp (sh 18 a) cI k n b (nI K.length)) ++ (wRp (sh 22 a) cI ct td (nI (hn K)))) (As := [.int (nI (G.2.1 p act / 100 % 10)), .int (nI (G.2.1 p act / 10 % 10))]) (rest := []) (c_X3_take l D cI (sh 14 a) g l_ h r G.2.2 go d1 (cnt K) d3 (G.2.1 p act / 100 % 10) (by omega) (G.2.1 p act / 10 % 10) (by omega)) ⟨hx, hb, hml, hown, hts⟩ (cwV 2 hts gX4_doAct_X3_take rfl rfl rfl (by decide +kernel) ⟨Nat.le_of_ble_eq_true rfl, Nat.le_of_ble_eq_true rfl⟩) (hK.sub [0] rfl) hns hP hD hS hA rfl (T := TX3) (N := 4) rfl rfl hl.1 rfl (Nat.le_of_ble_eq_true rfl) dX4_doAct_113 ⟨Nat.zero_le _, Nat.zero_le _⟩ (fun r113 u113 H locs hw113 hP hD hS => ?_)
    have hP : va_P D vwCl ([(a 0, .inr (4, [.ref (a 1), .ref (a 14), .ref (a 18), .ref (a 22), .int (nI p), .int (nI nx), .int (nI (lvl K + 1))])), (a 1, .inl (cP, 6, .inr (.inr (.inr (.inr (fun k => some (a (2 + 2 * k))))))))] ++ ((wPs a cI pc pf) ++ ((wSt (sh 14 a) cI u113 l_ h r) ++ ((wOp (sh 18 a) cI k n b (nI K.length)) ++ (wRp (sh 22 a) cI ct td (nI (hn K))))))) H := hP
    have hD : va_D A ([(a 0, .inr (4, [.ref (a 1), .ref (a 14), .ref (a 18), .ref (a 22), .int (nI p), .int (nI nx), .int (nI (lvl K + 1))])), (a 1, .inl (cP, 6, .inr (.inr (.inr (.inr (fun k => some (a (2 + 2 * k))))))))] ++ ((wPs a cI pc pf) ++ ((wSt (sh 14 a) cI u113 l_ h r) ++ ((wOp (sh 18 a) cI k n b (nI K.length)) ++ (wRp (sh 22 a) cI ct td (nI (hn K))))))) := hD
    exact Ri (D := D) (u113, l_, h, r, k, n, b, nI K.length, ct, td, nI (hn K), nI p, nI nx, nI (lvl K + 1)) hx hb hr rfl hlocks hP hD hS (by rw [a_does_4 hk]; exact ⟨hw113.1, Dp_go hDp hw113.2, hDs, rfl, rfl, rfl, rfl, rfl⟩) dX4_doAct_116
  · refine tp (y := 5) (by rw [hk]; rfl) ?_
    refine lv_tableIn (off := 99) (tgt := 117) hx hb dX4_doAct_18 (by decide) (by decide) (by decide) (by decide) ?_
    refine lv_aload_n hx hb dX4_doAct_117 rfl (lv_at hl 2 rfl) ?_
    refine va_get (D := D) (ci := 4) (v := .ref (a 14)) (C := RX4) (T := TX4) (N := 7) hx hb hts inX4 hown hK hP 0 rfl rfl 1 (by decide) fl19 (fun _ h9 => h9) rfl dX4_doAct_118 ?_
    refine lv_iload_n hx hb dX4_doAct_121 rfl (lv_at hl 1 rfl) ?_
    refine lv_iload hx hb dX4_doAct_122 (lv_at hl 0 rfl) ?_
    refine cl_Vi ([(a 0, .inr (4, [.ref (a 1), .ref (a 14), .ref (a 18), .ref (a 22), .int (nI p), .int (nI nx), .int (nI (lvl K + 1))])), (a 1, .inl (cP, 6, .inr (.inr (.inr (.inr (fun k => some (a (2 + 2 * k))))))))] ++ (wPs a cI pc pf)) ((wOp (sh 18 a) cI k n b (nI K.length)) ++ (wRp (sh 22 a) cI ct td (nI (hn K)))) (As := [.int (nI (G.2.1 p act / 100 % 10)), .int (nI (G.2.1 p act / 10 % 10))]) (rest := []) (c_X3_share l D cI (sh 14 a) g l_ h r G.2.2 go d1 (cnt K) d3 (G.2.1 p act / 100 % 10) (by omega) (G.2.1 p act / 10 % 10) (by omega)) ⟨hx, hb, hml, hown, hts⟩ (cwV 2 hts gX4_doAct_X3_share rfl rfl rfl (by decide +kernel) ⟨Nat.le_of_ble_eq_true rfl, Nat.le_of_ble_eq_true rfl⟩) (hK.sub [0] rfl) hns hP hD hS hA rfl (T := TX3) (N := 4) rfl rfl hl.1 rfl (Nat.le_of_ble_eq_true rfl) dX4_doAct_124 ⟨Nat.zero_le _, Nat.zero_le _⟩ (fun r124 u124 H locs hw124 hP hD hS => ?_)
    have hP : va_P D vwCl ([(a 0, .inr (4, [.ref (a 1), .ref (a 14), .ref (a 18), .ref (a 22), .int (nI p), .int (nI nx), .int (nI (lvl K + 1))])), (a 1, .inl (cP, 6, .inr (.inr (.inr (.inr (fun k => some (a (2 + 2 * k))))))))] ++ ((wPs a cI pc pf) ++ ((wSt (sh 14 a) cI u124.1 l_ h u124.2) ++ ((wOp (sh 18 a) cI k n b (nI K.length)) ++ (wRp (sh 22 a) cI ct td (nI (hn K))))))) H := hP
    have hD : va_D A ([(a 0, .inr (4, [.ref (a 1), .ref (a 14), .ref (a 18), .ref (a 22), .int (nI p), .int (nI nx), .int (nI (lvl K + 1))])), (a 1, .inl (cP, 6, .inr (.inr (.inr (.inr (fun k => some (a (2 + 2 * k))))))))] ++ ((wPs a cI pc pf) ++ ((wSt (sh 14 a) cI u124.1 l_ h u124.2) ++ ((wOp (sh 18 a) cI k n b (nI K.length)) ++ (wRp (sh 22 a) cI ct td (nI (hn K))))))) := hD
    exact Ri (D := D) (u124.1, l_, h, u124.2, k, n, b, nI K.length, ct, td, nI (hn K), nI p, nI nx, nI (lvl K + 1)) hx hb hr rfl hlocks hP hD hS (by rw [a_does_5 hk]; exact ⟨hw124.1, Dp_goS hDp hw124.2.1 hw124.2.2, hDs, rfl, rfl, rfl, rfl, rfl⟩) dX4_doAct_127
  · refine tp (y := 6) (by rw [hk]; rfl) ?_
    refine lv_tableIn (off := 110) (tgt := 128) hx hb dX4_doAct_18 (by decide) (by decide) (by decide) (by decide) ?_
    refine lv_aload_n hx hb dX4_doAct_128 rfl (lv_at hl 2 rfl) ?_
    refine va_get (D := D) (ci := 4) (v := .ref (a 14)) (C := RX4) (T := TX4) (N := 7) hx hb hts inX4 hown hK hP 0 rfl rfl 1 (by decide) fl19 (fun _ h9 => h9) rfl dX4_doAct_129 ?_
    refine lv_iload_n hx hb dX4_doAct_132 rfl (lv_at hl 1 rfl) ?_
    refine lv_iload hx hb dX4_doAct_133 (lv_at hl 0 rfl) ?_
    refine lv_aload_n hx hb dX4_doAct_135 rfl (lv_at hl 3 rfl) ?_
    refine lv_iload_n hx hb dX4_doAct_136 rfl (lv_at hl 4 rfl) ?_
    have hPq := hP
    have hDq := hD
    rw [wsplit _ _ (hp6), (hpl p (hp6)).1] at hPq hDq
    refine cl_Vi _ _ (As := [.int (nI act)]) (rest := [.int (nI (G.2.1 p act / 10 % 10)), .int (nI (G.2.1 p act / 100 % 10)), .ref (a 14)]) (c_X1_cOf l D cI (a (2 + 2 * p)) (a (3 + 2 * p)) (pf p) (G.1 p) (G.2.1 p) hpk act ha) ⟨hx, hb, hml, hown, hts⟩ (cwV 1 hts gX4_doAct_X1_cOf rfl rfl rfl (by decide +kernel) ⟨Nat.le_of_ble_eq_true rfl, Nat.le_of_ble_eq_true rfl⟩) (hK.sub [0] rfl) hns hPq hDq hS hA rfl (T := TX1) (N := 2) rfl rfl hl.1 rfl (Nat.le_of_ble_eq_true rfl) dX4_doAct_137 ⟨Nat.zero_le _, Nat.zero_le _⟩ (fun r137 u137 H locs hw137 hP hD hS => ?_)
    have hP : va_P D vwCl ([(a 0, .inr (4, [.ref (a 1), .ref (a 14), .ref (a 18), .ref (a 22), .int (nI p), .int (nI nx), .int (nI (lvl K + 1))])), (a 1, .inl (cP, 6, .inr (.inr (.inr (.inr (fun k => some (a (2 + 2 * k))))))))] ++ ((wPs a cI pc pf) ++ ((wSt (sh 14 a) cI g l_ h r) ++ ((wOp (sh 18 a) cI k n b (nI K.length)) ++ (wRp (sh 22 a) cI ct td (nI (hn K))))))) H := by rw [wsplit _ _ (hp6), (hpl p (hp6)).1]; exact hP
    have hD : va_D A ([(a 0, .inr (4, [.ref (a 1), .ref (a 14), .ref (a 18), .ref (a 22), .int (nI p), .int (nI nx), .int (nI (lvl K + 1))])), (a 1, .inl (cP, 6, .inr (.inr (.inr (.inr (fun k => some (a (2 + 2 * k))))))))] ++ ((wPs a cI pc pf) ++ ((wSt (sh 14 a) cI g l_ h r) ++ ((wOp (sh 18 a) cI k n b (nI K.length)) ++ (wRp (sh 22 a) cI ct td (nI (hn K))))))) := by rw [wsplit _ _ (hp6), (hpl p (hp6)).1]; exact hD
    subst hw137
    refine cl_Vi ([(a 0, .inr (4, [.ref (a 1), .ref (a 14), .ref (a 18), .ref (a 22), .int (nI p), .int (nI nx), .int (nI (lvl K + 1))])), (a 1, .inl (cP, 6, .inr (.inr (.inr (.inr (fun k => some (a (2 + 2 * k))))))))] ++ (wPs a cI pc pf)) ((wOp (sh 18 a) cI k n b (nI K.length)) ++ (wRp (sh 22 a) cI ct td (nI (hn K)))) (As := [.int (nI (G.2.1 p act / 100 % 10)), .int (nI (G.2.1 p act / 10 % 10)), .int (nI (G.2.1 p act % 10))]) (rest := []) (c_X3_move l D cI (sh 14 a) g l_ h r G.2.2 go d1 (G.2.1 p act / 100 % 10) (G.2.1 p act / 10 % 10) (G.2.1 p act % 10) (by omega) (by omega) (by omega)) ⟨hx, hb, hml, hown, hts⟩ (cwV 3 hts gX4_doAct_X3_move rfl rfl rfl (by decide +kernel) ⟨Nat.le_of_ble_eq_true rfl, Nat.le_of_ble_eq_true rfl⟩) (hK.sub [0] rfl) hns hP hD hS hA rfl (T := TX3) (N := 4) rfl rfl hl.1 rfl (Nat.le_of_ble_eq_true rfl) dX4_doAct_140 ⟨Nat.zero_le _, Nat.zero_le _⟩ (fun r140 u140 H locs hw140 hP hD hS => ?_)
    have hP : va_P D vwCl ([(a 0, .inr (4, [.ref (a 1), .ref (a 14), .ref (a 18), .ref (a 22), .int (nI p), .int (nI nx), .int (nI (lvl K + 1))])), (a 1, .inl (cP, 6, .inr (.inr (.inr (.inr (fun k => some (a (2 + 2 * k))))))))] ++ ((wPs a cI pc pf) ++ ((wSt (sh 14 a) cI u140 l_ h r) ++ ((wOp (sh 18 a) cI k n b (nI K.length)) ++ (wRp (sh 22 a) cI ct td (nI (hn K))))))) H := hP
    have hD : va_D A ([(a 0, .inr (4, [.ref (a 1), .ref (a 14), .ref (a 18), .ref (a 22), .int (nI p), .int (nI nx), .int (nI (lvl K + 1))])), (a 1, .inl (cP, 6, .inr (.inr (.inr (.inr (fun k => some (a (2 + 2 * k))))))))] ++ ((wPs a cI pc pf) ++ ((wSt (sh 14 a) cI u140 l_ h r) ++ ((wOp (sh 18 a) cI k n b (nI K.length)) ++ (wRp (sh 22 a) cI ct td (nI (hn K))))))) := hD
    exact Ri (D := D) (u140, l_, h, r, k, n, b, nI K.length, ct, td, nI (hn K), nI p, nI nx, nI (lvl K + 1)) hx hb hr rfl hlocks hP hD hS (by rw [a_does_6 hk]; exact ⟨hw140.1, Dp_go hDp hw140.2, hDs, rfl, rfl, rfl, rfl, rfl⟩) dX4_doAct_143
  · refine tp (y := 7) (by rw [hk]; rfl) ?_
    refine lv_tableIn (off := 126) (tgt := 144) hx hb dX4_doAct_18 (by decide) (by decide) (by decide) (by decide) ?_
    refine lv_iload_n hx hb dX4_doAct_144 rfl (lv_at hl 1 rfl) ?_
    exact Ri (D := D) (g, l_, h, r, k, n, b, nI K.length, ct, td, nI (hn K), nI p, nI nx, nI (lvl K + 1)) hx hb hr rfl hlocks hP hD hS (by rw [a_does_7 hk]; exact ⟨rfl, hDp, hDs, rfl, rfl, rfl, rfl, rfl⟩) dX4_doAct_145
  · refine tp (y := 8) (by rw [hk]; rfl) ?_
    refine lv_tableIn (off := 128) (tgt := 146) hx hb dX4_doAct_18 (by decide) (by decide) (by decide) (by decide) ?_
    refine lv_aload_n hx hb dX4_doAct_146 rfl (lv_at hl 2 rfl) ?_
    refine lv_iload_n hx hb dX4_doAct_147 rfl (lv_at hl 1 rfl) ?_
    refine cl_Vi ([]) ([]) (As := [.int (nI (G.2.1 p act / 100 % 10))]) (rest := []) (c_X4_call l D cI cP a pc pf g l_ h r k n b K.length (by omega) ct td (nI (hn K)) (nI p) (nI nx) (lvl K) hlv G hpl (G.2.1 p act / 100 % 10) (by omega)) ⟨hx, hb, hml, hown, hts⟩ (cwV 1 hts gX4_doAct_X4_call rfl rfl rfl (by decide +kernel) ⟨Nat.le_of_ble_eq_true rfl, Nat.le_of_ble_eq_true rfl⟩) hK hns hP hD hS hA rfl (T := TX4) (N := 7) rfl rfl hl.1 rfl (Nat.le_of_ble_eq_true rfl) dX4_doAct_148 ⟨Nat.zero_le _, Nat.zero_le _⟩ (fun r148 u148 H locs hw148 hP hD hS => ?_)
    have hP : va_P D vwCl ([(a 0, .inr (4, [.ref (a 1), .ref (a 14), .ref (a 18), .ref (a 22), .int u148.2.2.2.2.2.2.2.2.2.2.2.1, .int u148.2.2.2.2.2.2.2.2.2.2.2.2.1, .int u148.2.2.2.2.2.2.2.2.2.2.2.2.2])), (a 1, .inl (cP, 6, .inr (.inr (.inr (.inr (fun k => some (a (2 + 2 * k))))))))] ++ ((wPs a cI pc pf) ++ ((wSt (sh 14 a) cI u148.1 u148.2.1 u148.2.2.1 u148.2.2.2.1) ++ ((wOp (sh 18 a) cI u148.2.2.2.2.1 u148.2.2.2.2.2.1 u148.2.2.2.2.2.2.1 u148.2.2.2.2.2.2.2.1) ++ (wRp (sh 22 a) cI u148.2.2.2.2.2.2.2.2.1 u148.2.2.2.2.2.2.2.2.2.1 u148.2.2.2.2.2.2.2.2.2.2.1))))) H := hP
    have hD : va_D A ([(a 0, .inr (4, [.ref (a 1), .ref (a 14), .ref (a 18), .ref (a 22), .int u148.2.2.2.2.2.2.2.2.2.2.2.1, .int u148.2.2.2.2.2.2.2.2.2.2.2.2.1, .int u148.2.2.2.2.2.2.2.2.2.2.2.2.2])), (a 1, .inl (cP, 6, .inr (.inr (.inr (.inr (fun k => some (a (2 + 2 * k))))))))] ++ ((wPs a cI pc pf) ++ ((wSt (sh 14 a) cI u148.1 u148.2.1 u148.2.2.1 u148.2.2.2.1) ++ ((wOp (sh 18 a) cI u148.2.2.2.2.1 u148.2.2.2.2.2.1 u148.2.2.2.2.2.2.1 u148.2.2.2.2.2.2.2.1) ++ (wRp (sh 22 a) cI u148.2.2.2.2.2.2.2.2.1 u148.2.2.2.2.2.2.2.2.2.1 u148.2.2.2.2.2.2.2.2.2.2.1))))) := hD
    exact Ri (D := D) u148 hx hb hr rfl hlocks hP hD hS (by rw [a_does_8 hk]; exact D_call hDp hDs hw148) dX4_doAct_151
  · refine tp (y := 9) (by rw [hk]; rfl) ?_
    refine lv_tableOut (tgt := 152) hx hb dX4_doAct_18 (by decide) (by decide) ?_
    refine lv_iconst (v := 0) hx hb dX4_doAct_152 (by decide) ?_
    exact Ri (D := D) (g, l_, h, r, k, n, b, nI K.length, ct, td, nI (hn K), nI p, nI nx, nI (lvl K + 1)) hx hb hr rfl hlocks hP hD hS (by rw [a_does_9 hk]; exact ⟨rfl, hDp, hDs, rfl, rfl, rfl, rfl, rfl⟩) dX4_doAct_153

set_option maxHeartbeats 4000000 in
set_option maxRecDepth 100000 in
theorem c_X4_stop (l : Launch) (D : va_G) (cI cP : ClassId) (a : Nat → Nat) (pc : Nat → Int32) (pf : Nat → Nat → Int32) (g l_ h : Nat → Int32) (r : Int32) (k n b ct td : Nat → Int32) (G : GP) (go : Nat → Nat) (lf : Nat → Int32) (rs : Int32) (td_ ct_ : Nat → Int32) (st p nx : Nat) (K : KL) (hDp : Dp G go lf rs td_ ct_ (cnt K) g l_ h r ct td) (hDs : Dst G k n b p K) (d0 : Int) (hwf : WF G p d0 K) (hKl : K.length ≤ 64) : Ci l D [(cI, .int), (cP, .object RX1)] yX4_stop wsX4_stop ({ frames := 5, cells := 0, slots := 0, locals := 104 }) [.ref (a 0)] (wD a cI cP pc pf g l_ h r k n b (nI K.length) ct td (nI (hn K)) (nI p) (nI nx) (nI (lvl K + 1))) (S := US) (fun w u => w = 2 ∧ D0 G go (unw G 0 K lf td_ ct_ p nx).2.1 rs (upd (upd (upd td_ 0 (nI 0)) 1 (nI p)) 2 (nI nx)) ct_ u) (fun u => wDu a cI cP pc pf u) := by
  refine Ci.mk (cc := cX4_stop) (maxL := 1) (ret := (some .int)) (by decide +kernel) rfl (Nat.le_of_ble_eq_true rfl) ?_
  intro pg e s m below meth c A ls hx hb hml hr hown hts hlocks hK hns hA hP hD hS hl
  have hl : lv_has ls 1 [(0, .ref (a 0))] := hl
  have fl33 := hts (.fieldLink RX4 33 "HeldShelves" "report" "LHeldShelves$Report;") (List.mem_of_getElem? (i := 1) rfl)
  have inX4 : ∀ w ∈ wsX40, w ∈ wsX4_stop := fun _ h => List.mem_cons_of_mem _ (List.mem_append_left _ (List.mem_append_left _ (List.mem_append_left _ (List.mem_append_right _ h))))
  have fl70 := hts (.fieldLink RX4 70 "HeldShelves" "planNow" "I") (List.mem_of_getElem? (i := 2) rfl)
  have fl74 := hts (.fieldLink RX4 74 "HeldShelves" "next" "I") (List.mem_of_getElem? (i := 3) rfl)
  have hP : va_P D vwCl ([(a 0, .inr (4, [.ref (a 1), .ref (a 14), .ref (a 18), .ref (a 22), .int (nI p), .int (nI nx), .int (nI (lvl K + 1))])), (a 1, .inl (cP, 6, .inr (.inr (.inr (.inr (fun k => some (a (2 + 2 * k))))))))] ++ ((wPs a cI pc pf) ++ ((wSt (sh 14 a) cI g l_ h r) ++ ((wOp (sh 18 a) cI k n b (nI K.length)) ++ (wRp (sh 22 a) cI ct td (nI (hn K))))))) s.heap := hP
  have hD : va_D A ([(a 0, .inr (4, [.ref (a 1), .ref (a 14), .ref (a 18), .ref (a 22), .int (nI p), .int (nI nx), .int (nI (lvl K + 1))])), (a 1, .inl (cP, 6, .inr (.inr (.inr (.inr (fun k => some (a (2 + 2 * k))))))))] ++ ((wPs a cI pc pf) ++ ((wSt (sh 14 a) cI g l_ h r) ++ ((wOp (sh 18 a) cI k n b (nI K.length)) ++ (wRp (sh 22 a) cI ct td (nI (hn K))))))) := hD
  refine lv_aload_n hx hb dX4_stop_0 rfl (lv_at hl 0 rfl) ?_
  refine va_get (D := D) (ci := 4) (v := .ref (a 22)) (C := RX4) (T := TX4) (N := 7) hx hb hts inX4 hown hK hP 0 rfl rfl 3 (by decide) fl33 (fun _ h9 => h9) rfl dX4_stop_1 ?_
  refine lv_iconst (v := 0) hx hb dX4_stop_4 (by decide) ?_
  refine lv_aload_n hx hb dX4_stop_5 rfl (lv_at hl 0 rfl) ?_
  refine va_get (D := D) (ci := 4) (v := .int (nI p)) (C := RX4) (T := TX4) (N := 7) hx hb hts inX4 hown hK hP 0 rfl rfl 4 (by decide) fl70 (fun _ h9 => h9) rfl dX4_stop_6 ?_
  refine lv_aload_n hx hb dX4_stop_9 rfl (lv_at hl 0 rfl) ?_
  refine va_get (D := D) (ci := 4) (v := .int (nI nx)) (C := RX4) (T := TX4) (N := 7) hx hb hts inX4 hown hK hP 0 rfl rfl 5 (by decide) fl74 (fun _ h9 => h9) rfl dX4_stop_10 ?_
  refine cl_Vv ([(a 0, .inr (4, [.ref (a 1), .ref (a 14), .ref (a 18), .ref (a 22), .int (nI p), .int (nI nx), .int (nI (lvl K + 1))])), (a 1, .inl (cP, 6, .inr (.inr (.inr (.inr (fun k => some (a (2 + 2 * k))))))))] ++ ((wPs a cI pc pf) ++ ((wSt (sh 14 a) cI g l_ h r) ++ (wOp (sh 18 a) cI k n b (nI K.length))))) ([]) (As := [.int 0, .int (nI p), .int (nI nx)]) (rest := []) (c_X2_endAt l D cI (sh 22 a) ct td (nI (hn K)) 0 (nI p) (nI nx)) ⟨hx, hb, hml, hown, hts⟩ (cwV 3 hts gX4_stop_X2_endAt rfl rfl rfl (by decide +kernel) ⟨Nat.le_of_ble_eq_true rfl, Nat.le_of_ble_eq_true rfl⟩) (hK.sub [0] rfl) hns hP hD hS hA rfl (T := TX2) (N := 10) rfl rfl hl.1 rfl (Nat.le_of_ble_eq_true rfl) dX4_stop_13 ⟨Nat.zero_le _, Nat.zero_le _⟩ (fun u13 H locs hw13 hP hD hS => ?_)
  have hP : va_P D vwCl ([(a 0, .inr (4, [.ref (a 1), .ref (a 14), .ref (a 18), .ref (a 22), .int (nI p), .int (nI nx), .int (nI (lvl K + 1))])), (a 1, .inl (cP, 6, .inr (.inr (.inr (.inr (fun k => some (a (2 + 2 * k))))))))] ++ ((wPs a cI pc pf) ++ ((wSt (sh 14 a) cI g l_ h r) ++ ((wOp (sh 18 a) cI k n b (nI K.length)) ++ (wRp (sh 22 a) cI ct (upd (upd (upd td 0 0) 1 (nI p)) 2 (nI nx)) (nI (hn K))))))) H := hP
  have hD : va_D A ([(a 0, .inr (4, [.ref (a 1), .ref (a 14), .ref (a 18), .ref (a 22), .int (nI p), .int (nI nx), .int (nI (lvl K + 1))])), (a 1, .inl (cP, 6, .inr (.inr (.inr (.inr (fun k => some (a (2 + 2 * k))))))))] ++ ((wPs a cI pc pf) ++ ((wSt (sh 14 a) cI g l_ h r) ++ ((wOp (sh 18 a) cI k n b (nI K.length)) ++ (wRp (sh 22 a) cI ct (upd (upd (upd td 0 0) 1 (nI p)) 2 (nI nx)) (nI (hn K))))))) := hD
  refine lv_aload_n hx hb dX4_stop_16 rfl (lv_at hl 0 rfl) ?_
  refine lv_iconst (v := 0) hx hb dX4_stop_17 (by decide) ?_
  refine cl_Vi ([]) ([]) (As := [.int 0]) (rest := []) (c_X4_leaveOpen l D cI cP a pc pf g l_ h r k n b ct (upd (upd (upd td 0 0) 1 (nI p)) 2 (nI nx)) G go lf rs (upd (upd (upd td_ 0 (nI 0)) 1 (nI p)) 2 (nI nx)) ct_ st p nx K d0 0 (by omega) (Dp_td (Dp_td (Dp_td hDp))) hDs hwf hKl) ⟨hx, hb, hml, hown, hts⟩ (cwV 1 hts gX4_stop_X4_leaveOpen rfl rfl rfl (by decide +kernel) ⟨Nat.le_of_ble_eq_true rfl, Nat.le_of_ble_eq_true rfl⟩) hK hns hP hD hS hA rfl (T := TX4) (N := 7) rfl rfl hl.1 rfl (Nat.le_of_ble_eq_true rfl) dX4_stop_18 ⟨Nat.zero_le _, Nat.zero_le _⟩ (fun r18 u18 H locs hw18 hP hD hS => ?_)
  have hP : va_P D vwCl ([(a 0, .inr (4, [.ref (a 1), .ref (a 14), .ref (a 18), .ref (a 22), .int u18.2.2.2.2.2.2.2.2.2.2.2.1, .int u18.2.2.2.2.2.2.2.2.2.2.2.2.1, .int u18.2.2.2.2.2.2.2.2.2.2.2.2.2])), (a 1, .inl (cP, 6, .inr (.inr (.inr (.inr (fun k => some (a (2 + 2 * k))))))))] ++ ((wPs a cI pc pf) ++ ((wSt (sh 14 a) cI u18.1 u18.2.1 u18.2.2.1 u18.2.2.2.1) ++ ((wOp (sh 18 a) cI u18.2.2.2.2.1 u18.2.2.2.2.2.1 u18.2.2.2.2.2.2.1 u18.2.2.2.2.2.2.2.1) ++ (wRp (sh 22 a) cI u18.2.2.2.2.2.2.2.2.1 u18.2.2.2.2.2.2.2.2.2.1 u18.2.2.2.2.2.2.2.2.2.2.1))))) H := hP
  have hD : va_D A ([(a 0, .inr (4, [.ref (a 1), .ref (a 14), .ref (a 18), .ref (a 22), .int u18.2.2.2.2.2.2.2.2.2.2.2.1, .int u18.2.2.2.2.2.2.2.2.2.2.2.2.1, .int u18.2.2.2.2.2.2.2.2.2.2.2.2.2])), (a 1, .inl (cP, 6, .inr (.inr (.inr (.inr (fun k => some (a (2 + 2 * k))))))))] ++ ((wPs a cI pc pf) ++ ((wSt (sh 14 a) cI u18.1 u18.2.1 u18.2.2.1 u18.2.2.2.1) ++ ((wOp (sh 18 a) cI u18.2.2.2.2.1 u18.2.2.2.2.2.1 u18.2.2.2.2.2.2.1 u18.2.2.2.2.2.2.2.1) ++ (wRp (sh 22 a) cI u18.2.2.2.2.2.2.2.2.1 u18.2.2.2.2.2.2.2.2.2.1 u18.2.2.2.2.2.2.2.2.2.2.1))))) := hD
  refine lv_pop hx hb dX4_stop_21 rfl ?_
  refine lv_iconst (v := 2) hx hb dX4_stop_22 (by decide) ?_
  exact Ri (D := D) u18 hx hb hr rfl hlocks hP hD hS (by obtain ⟨_, hR⟩ := hw18; have hno := unw_no (unw_0 (G := G) (K := K) (lf := lf) (td := (upd (upd (upd td_ 0 (nI 0)) 1 (nI p)) 2 (nI nx))) (ct := ct_) (p := p) (nx := nx)); rw [hno.1, hno.2.1, hno.2.2, unw_td (td2 := td_)] at hR; exact ⟨rfl, Dr_nil hR⟩) dX4_stop_23

set_option maxHeartbeats 4000000 in
set_option maxRecDepth 100000 in
theorem c_X4_doStep (l : Launch) (D : va_G) (cI cP : ClassId) (a : Nat → Nat) (pc : Nat → Int32) (pf : Nat → Nat → Int32) (g l_ h : Nat → Int32) (r : Int32) (k n b ct td : Nat → Int32) (G : GP) (go : Nat → Nat) (lf : Nat → Int32) (rs : Int32) (td_ ct_ : Nat → Int32) (st p nx : Nat) (K : KL) (hpl : Dpl pc pf G) (hDp : Dp G go lf rs td_ ct_ (cnt K) g l_ h r ct td) (hDs : Dst G k n b p K) (hI : Inv G (go, lf, rs, td_, ct_, st, p, nx, K)) (hnlt : nx < G.1 p) (hs64 : st < 64) : Ci l D [(cI, .int), (cP, .object RX1)] yX4_doStep wsX4_doStep ({ frames := 5, cells := 0, slots := 0, locals := 111 }) [.ref (a 0)] (wD a cI cP pc pf g l_ h r k n b (nI K.length) ct td (nI (hn K)) (nI p) (nI nx) (nI (lvl K + 1))) (S := US) (fun w u => (w = 1 ∧ ∃ X, a_step G (go, lf, rs, td_, ct_, st, p, nx, K) = (true, X) ∧ Kept G st p K X ∧ Dr G X u) ∨ (w = 0 ∧ ∃ X : CF, a_step G (go, lf, rs, td_, ct_, st, p, nx, K) = (false, X) ∧ D0 G X.1 X.2.1 X.2.2.1 X.2.2.2.1 X.2.2.2.2.1 u)) (fun u => wDu a cI cP pc pf u) := by
  refine Ci.mk (cc := cX4_doStep) (maxL := 4) (ret := (some .boolean)) (by decide +kernel) rfl (Nat.le_of_ble_eq_true rfl) ?_
  intro pg e s m below meth c A ls hx hb hml hr hown hts hlocks hK hns hA hP hD hS hl
  have hl : lv_has ls 4 [(0, .ref (a 0))] := hl
  have fl70 := hts (.fieldLink RX4 70 "HeldShelves" "planNow" "I") (List.mem_of_getElem? (i := 1) rfl)
  have inX4 : ∀ w ∈ wsX40, w ∈ wsX4_doStep := fun _ h => List.mem_cons_of_mem _ (List.mem_append_left _ (List.mem_append_left _ (List.mem_append_left _ (List.mem_append_left _ (List.mem_append_right _ h)))))
  have fl74 := hts (.fieldLink RX4 74 "HeldShelves" "next" "I") (List.mem_of_getElem? (i := 2) rfl)
  have fl33 := hts (.fieldLink RX4 33 "HeldShelves" "report" "LHeldShelves$Report;") (List.mem_of_getElem? (i := 3) rfl)
  have fl11 := hts (.fieldLink RX4 11 "HeldShelves" "plans" "[LHeldShelves$Plan;") (List.mem_of_getElem? (i := 4) rfl)
  have hP : va_P D vwCl ([(a 0, .inr (4, [.ref (a 1), .ref (a 14), .ref (a 18), .ref (a 22), .int (nI p), .int (nI nx), .int (nI (lvl K + 1))])), (a 1, .inl (cP, 6, .inr (.inr (.inr (.inr (fun k => some (a (2 + 2 * k))))))))] ++ ((wPs a cI pc pf) ++ ((wSt (sh 14 a) cI g l_ h r) ++ ((wOp (sh 18 a) cI k n b (nI K.length)) ++ (wRp (sh 22 a) cI ct td (nI (hn K))))))) s.heap := hP
  have hD : va_D A ([(a 0, .inr (4, [.ref (a 1), .ref (a 14), .ref (a 18), .ref (a 22), .int (nI p), .int (nI nx), .int (nI (lvl K + 1))])), (a 1, .inl (cP, 6, .inr (.inr (.inr (.inr (fun k => some (a (2 + 2 * k))))))))] ++ ((wPs a cI pc pf) ++ ((wSt (sh 14 a) cI g l_ h r) ++ ((wOp (sh 18 a) cI k n b (nI K.length)) ++ (wRp (sh 22 a) cI ct td (nI (hn K))))))) := hD
  obtain ⟨hp6, hcl, hnx, hwf, hKl, hs6, hlv, htd3⟩ := id hI
  have hc4 := ((hpl p hp6).2.2 nx hnlt).2
  refine lv_aload_n hx hb dX4_doStep_0 rfl (lv_at hl 0 rfl) ?_
  refine va_get (D := D) (ci := 4) (v := .int (nI p)) (C := RX4) (T := TX4) (N := 7) hx hb hts inX4 hown hK hP 0 rfl rfl 4 (by decide) fl70 (fun _ h9 => h9) rfl dX4_doStep_1 ?_
  refine lv_istore_n (lv' := [(1, .int (nI p)), (0, .ref (a 0))]) hx hb dX4_doStep_4 rfl hl (by decide) rfl (fun ls hl => ?_)
  refine lv_aload_n hx hb dX4_doStep_5 rfl (lv_at hl 1 rfl) ?_
  refine va_get (D := D) (ci := 4) (v := .int (nI nx)) (C := RX4) (T := TX4) (N := 7) hx hb hts inX4 hown hK hP 0 rfl rfl 5 (by decide) fl74 (fun _ h9 => h9) rfl dX4_doStep_6 ?_
  refine lv_istore_n (lv' := [(2, .int (nI nx)), (1, .int (nI p)), (0, .ref (a 0))]) hx hb dX4_doStep_9 rfl hl (by decide) rfl (fun ls hl => ?_)
  refine lv_aload_n hx hb dX4_doStep_10 rfl (lv_at hl 2 rfl) ?_
  refine lv_dup hx hb dX4_doStep_11 rfl ?_
  refine va_get (D := D) (ci := 4) (v := .int (nI nx)) (C := RX4) (T := TX4) (N := 7) hx hb hts inX4 hown hK hP 0 rfl rfl 5 (by decide) fl74 (fun _ h9 => h9) rfl dX4_doStep_12 ?_
  refine lv_iconst (v := 1) hx hb dX4_doStep_15 (by decide) ?_
  refine lv_iadd hx hb dX4_doStep_16 ?_
  refine tp (y := nI (nx + 1)) (nI_1 nx) ?_
  refine va_put (D := D) (ci := 4) (v := .int (nI (nx + 1))) (ty := .int) (C := RX4) (T := TX4) (N := 7) hx hb hts inX4 tyX4 tyX4_ok nmX4 hown hK hP hD hS 0 rfl rfl 5 (by decide) fl74 (fun _ h9 => h9) rfl (by decide +kernel) rfl rfl (Nat.le_of_ble_eq_true rfl) dX4_doStep_17 (fun H locs hP hD hS => ?_)
  have hP : va_P D vwCl ([(a 0, .inr (4, [.ref (a 1), .ref (a 14), .ref (a 18), .ref (a 22), .int (nI p), .int (nI (nx + 1)), .int (nI (lvl K + 1))])), (a 1, .inl (cP, 6, .inr (.inr (.inr (.inr (fun k => some (a (2 + 2 * k))))))))] ++ ((wPs a cI pc pf) ++ ((wSt (sh 14 a) cI g l_ h r) ++ ((wOp (sh 18 a) cI k n b (nI K.length)) ++ (wRp (sh 22 a) cI ct td (nI (hn K))))))) H := hP
  have hD : va_D A ([(a 0, .inr (4, [.ref (a 1), .ref (a 14), .ref (a 18), .ref (a 22), .int (nI p), .int (nI (nx + 1)), .int (nI (lvl K + 1))])), (a 1, .inl (cP, 6, .inr (.inr (.inr (.inr (fun k => some (a (2 + 2 * k))))))))] ++ ((wPs a cI pc pf) ++ ((wSt (sh 14 a) cI g l_ h r) ++ ((wOp (sh 18 a) cI k n b (nI K.length)) ++ (wRp (sh 22 a) cI ct td (nI (hn K))))))) := hD
  refine lv_aload_n hx hb dX4_doStep_20 rfl (lv_at hl 2 rfl) ?_
  refine va_get (D := D) (ci := 4) (v := .ref (a 22)) (C := RX4) (T := TX4) (N := 7) hx hb hts inX4 hown hK hP 0 rfl rfl 3 (by decide) fl33 (fun _ h9 => h9) rfl dX4_doStep_21 ?_
  refine cl_Vv ([(a 0, .inr (4, [.ref (a 1), .ref (a 14), .ref (a 18), .ref (a 22), .int (nI p), .int (nI (nx + 1)), .int (nI (lvl K + 1))])), (a 1, .inl (cP, 6, .inr (.inr (.inr (.inr (fun k => some (a (2 + 2 * k))))))))] ++ ((wPs a cI pc pf) ++ ((wSt (sh 14 a) cI g l_ h r) ++ (wOp (sh 18 a) cI k n b (nI K.length))))) ([]) (As := []) (rest := []) (c_X2_countStep l D cI (sh 22 a) ct td (nI (hn K))) ⟨hx, hb, hml, hown, hts⟩ (cwV 0 hts gX4_doStep_X2_countStep rfl rfl rfl (by decide +kernel) ⟨Nat.le_of_ble_eq_true rfl, Nat.le_of_ble_eq_true rfl⟩) (hK.sub [0] rfl) hns hP hD hS hA rfl (T := TX2) (N := 10) rfl rfl hl.1 rfl (Nat.le_of_ble_eq_true rfl) dX4_doStep_24 ⟨Nat.zero_le _, Nat.zero_le _⟩ (fun u24 H locs hw24 hP hD hS => ?_)
  have hP : va_P D vwCl ([(a 0, .inr (4, [.ref (a 1), .ref (a 14), .ref (a 18), .ref (a 22), .int (nI p), .int (nI (nx + 1)), .int (nI (lvl K + 1))])), (a 1, .inl (cP, 6, .inr (.inr (.inr (.inr (fun k => some (a (2 + 2 * k))))))))] ++ ((wPs a cI pc pf) ++ ((wSt (sh 14 a) cI g l_ h r) ++ ((wOp (sh 18 a) cI k n b (nI K.length)) ++ (wRp (sh 22 a) cI ct (upd td 3 (td 3 + 1)) (nI (hn K))))))) H := hP
  have hD : va_D A ([(a 0, .inr (4, [.ref (a 1), .ref (a 14), .ref (a 18), .ref (a 22), .int (nI p), .int (nI (nx + 1)), .int (nI (lvl K + 1))])), (a 1, .inl (cP, 6, .inr (.inr (.inr (.inr (fun k => some (a (2 + 2 * k))))))))] ++ ((wPs a cI pc pf) ++ ((wSt (sh 14 a) cI g l_ h r) ++ ((wOp (sh 18 a) cI k n b (nI K.length)) ++ (wRp (sh 22 a) cI ct (upd td 3 (td 3 + 1)) (nI (hn K))))))) := hD
  refine lv_aload_n hx hb dX4_doStep_27 rfl (lv_at hl 2 rfl) ?_
  refine lv_aload_n hx hb dX4_doStep_28 rfl (lv_at hl 2 rfl) ?_
  refine va_get (D := D) (ci := 4) (v := .ref (a 1)) (C := RX4) (T := TX4) (N := 7) hx hb hts inX4 hown hK hP 0 rfl rfl 0 (by decide) fl11 (fun _ h9 => h9) rfl dX4_doStep_29 ?_
  refine lv_iload_n hx hb dX4_doStep_32 rfl (lv_at hl 1 rfl) ?_
  refine xa_ald hx hb hK hP 1 1 rfl rfl (k := p) (v := (a (2 + 2 * p))) rfl (by omega) (by decide) dX4_doStep_33 ?_
  refine lv_iload_n hx hb dX4_doStep_34 rfl (lv_at hl 0 rfl) ?_
  refine cl_Vi ([]) ([]) (As := [.ref (a (2 + 2 * p)), .int (nI nx)]) (rest := []) (c_X4_doAct l D cI cP a pc pf g l_ h r k n b ct (upd td 3 (td 3 + 1)) G go lf rs (upd td_ 3 (td_ 3 + 1)) ct_ (st + 1) p (nx + 1) K hpl (Dp_step hDp) hDs nx hp6 hnlt hcl hwf (by omega) hlv) ⟨hx, hb, hml, hown, hts⟩ (cwV 2 hts gX4_doStep_X4_doAct rfl rfl rfl (by decide +kernel) ⟨Nat.le_of_ble_eq_true rfl, Nat.le_of_ble_eq_true rfl⟩) hK hns hP hD hS hA rfl (T := TX4) (N := 7) rfl rfl hl.1 rfl (Nat.le_of_ble_eq_true rfl) dX4_doStep_35 ⟨Nat.zero_le _, Nat.zero_le _⟩ (fun r35 u35 H locs hw35 hP hD hS => ?_)
  have hP : va_P D vwCl ([(a 0, .inr (4, [.ref (a 1), .ref (a 14), .ref (a 18), .ref (a 22), .int u35.2.2.2.2.2.2.2.2.2.2.2.1, .int u35.2.2.2.2.2.2.2.2.2.2.2.2.1, .int u35.2.2.2.2.2.2.2.2.2.2.2.2.2])), (a 1, .inl (cP, 6, .inr (.inr (.inr (.inr (fun k => some (a (2 + 2 * k))))))))] ++ ((wPs a cI pc pf) ++ ((wSt (sh 14 a) cI u35.1 u35.2.1 u35.2.2.1 u35.2.2.2.1) ++ ((wOp (sh 18 a) cI u35.2.2.2.2.1 u35.2.2.2.2.2.1 u35.2.2.2.2.2.2.1 u35.2.2.2.2.2.2.2.1) ++ (wRp (sh 22 a) cI u35.2.2.2.2.2.2.2.2.1 u35.2.2.2.2.2.2.2.2.2.1 u35.2.2.2.2.2.2.2.2.2.2.1))))) H := hP
  have hD : va_D A ([(a 0, .inr (4, [.ref (a 1), .ref (a 14), .ref (a 18), .ref (a 22), .int u35.2.2.2.2.2.2.2.2.2.2.2.1, .int u35.2.2.2.2.2.2.2.2.2.2.2.2.1, .int u35.2.2.2.2.2.2.2.2.2.2.2.2.2])), (a 1, .inl (cP, 6, .inr (.inr (.inr (.inr (fun k => some (a (2 + 2 * k))))))))] ++ ((wPs a cI pc pf) ++ ((wSt (sh 14 a) cI u35.1 u35.2.1 u35.2.2.1 u35.2.2.2.1) ++ ((wOp (sh 18 a) cI u35.2.2.2.2.1 u35.2.2.2.2.2.1 u35.2.2.2.2.2.2.1 u35.2.2.2.2.2.2.2.1) ++ (wRp (sh 22 a) cI u35.2.2.2.2.2.2.2.2.1 u35.2.2.2.2.2.2.2.2.2.1 u35.2.2.2.2.2.2.2.2.2.2.1))))) := hD
  obtain ⟨hf, hR2⟩ := hw35
  rcases Nat.eq_zero_or_pos (a_does G (go, lf, rs, upd td_ 3 (td_ 3 + 1), ct_, st + 1, p, nx + 1, K) nx).1 with hz | hz
  · have hKp := does_inv hI hnlt hs64 hc4 hz
    rw [hz] at hf
    subst hf
    refine lv_istore_n (lv' := [(3, .int (nI 0)), (2, .int (nI nx)), (1, .int (nI p)), (0, .ref (a 0))]) hx hb dX4_doStep_38 rfl hl (by decide) rfl (fun ls hl => ?_)
    refine lv_iload_n hx hb dX4_doStep_39 rfl (lv_at hl 0 rfl) ?_
    refine lv_if_eq (tgt := 51) hx hb dX4_doStep_40 (by decide) (fun c_40 => ?_) (fun c_40 => ?_)
    · have c_40 : 0 = 0 := (nI_eq (a := 0) (b := 0) (by omega) (by omega)).mp c_40
      refine lv_iconst (v := 1) hx hb dX4_doStep_51 (by decide) ?_
      exact Ri (D := D) u35 hx hb hr (by decide) hlocks hP hD hS (Or.inl ⟨rfl, _, a_step_ok hz, hKp, hR2⟩) dX4_doStep_52
    · have c_40 : ¬ (0 = 0) := fun h => c_40 ((nI_eq (a := 0) (b := 0) (by omega) (by omega)).mpr h)
      exact absurd c_40 (by omega)
  · have hfl := does_fail (G := G) (go := go) (lf := lf) (rs := rs) (td := upd td_ 3 (td_ 3 + 1)) (ct := ct_) (st := st + 1) (nx := nx + 1) (K := K) hc4 (by omega)
    rw [hfl] at hR2
    have h9 := does_9 (G := G) (go := go) (lf := lf) (rs := rs) (td := upd td_ 3 (td_ 3 + 1)) (ct := ct_) (st := st + 1) (nx := nx + 1) (K := K) hc4
    generalize hff : (a_does G (go, lf, rs, upd td_ 3 (td_ 3 + 1), ct_, st + 1, p, nx + 1, K) nx).1 = f at hf hz h9
    subst hf
    obtain ⟨g2, l2, h2, r2, k2, n2, b2, c2, ct2, td2, op2, x2, y2, z2⟩ := u35
    obtain ⟨hDp2, hDs2, e1, e2, e3, e4, e5⟩ := hR2
    subst e1 e2 e3 e4 e5
    have hP : va_P D vwCl ([(a 0, .inr (4, [.ref (a 1), .ref (a 14), .ref (a 18), .ref (a 22), .int (nI p), .int (nI (nx + 1)), .int (nI (lvl K + 1))])), (a 1, .inl (cP, 6, .inr (.inr (.inr (.inr (fun k => some (a (2 + 2 * k))))))))] ++ ((wPs a cI pc pf) ++ ((wSt (sh 14 a) cI g2 l2 h2 r2) ++ ((wOp (sh 18 a) cI k2 n2 b2 (nI K.length)) ++ (wRp (sh 22 a) cI ct2 td2 (nI (hn K))))))) H := hP
    have hD : va_D A ([(a 0, .inr (4, [.ref (a 1), .ref (a 14), .ref (a 18), .ref (a 22), .int (nI p), .int (nI (nx + 1)), .int (nI (lvl K + 1))])), (a 1, .inl (cP, 6, .inr (.inr (.inr (.inr (fun k => some (a (2 + 2 * k))))))))] ++ ((wPs a cI pc pf) ++ ((wSt (sh 14 a) cI g2 l2 h2 r2) ++ ((wOp (sh 18 a) cI k2 n2 b2 (nI K.length)) ++ (wRp (sh 22 a) cI ct2 td2 (nI (hn K))))))) := hD
    refine lv_istore_n (lv' := [(3, .int (nI f)), (2, .int (nI nx)), (1, .int (nI p)), (0, .ref (a 0))]) hx hb dX4_doStep_38 rfl hl (by decide) rfl (fun ls hl => ?_)
    refine lv_iload_n hx hb dX4_doStep_39 rfl (lv_at hl 0 rfl) ?_
    refine lv_if_eq (tgt := 51) hx hb dX4_doStep_40 (by decide) (fun c_40 => ?_) (fun c_40 => ?_)
    · have c_40 : f = 0 := (nI_eq (a := f) (b := 0) (by omega) (by omega)).mp c_40
      exact absurd c_40 (by omega)
    · have c_40 : ¬ (f = 0) := fun h => c_40 ((nI_eq (a := f) (b := 0) (by omega) (by omega)).mpr h)
      refine lv_aload_n hx hb dX4_doStep_43 rfl (lv_at hl 3 rfl) ?_
      refine lv_iload_n hx hb dX4_doStep_44 rfl (lv_at hl 0 rfl) ?_
      refine cl_Vi ([]) ([]) (As := [.int (nI f)]) (rest := []) (c_X4_leaveOpen l D cI cP a pc pf g2 l2 h2 r2 k2 n2 b2 ct2 td2 G go lf rs (upd td_ 3 (td_ 3 + 1)) ct_ (st + 1) p (nx + 1) K (dp (G.2.1 p) nx) f h9 hDp2 hDs2 hwf (by omega)) ⟨hx, hb, hml, hown, hts⟩ (cwV 1 hts gX4_doStep_X4_leaveOpen rfl rfl rfl (by decide +kernel) ⟨Nat.le_of_ble_eq_true rfl, Nat.le_of_ble_eq_true rfl⟩) hK hns hP hD hS hA rfl (T := TX4) (N := 7) rfl rfl hl.1 rfl (Nat.le_of_ble_eq_true rfl) dX4_doStep_45 ⟨Nat.zero_le _, Nat.zero_le _⟩ (fun r45 u45 H locs hw45 hP hD hS => ?_)
      have hP : va_P D vwCl ([(a 0, .inr (4, [.ref (a 1), .ref (a 14), .ref (a 18), .ref (a 22), .int u45.2.2.2.2.2.2.2.2.2.2.2.1, .int u45.2.2.2.2.2.2.2.2.2.2.2.2.1, .int u45.2.2.2.2.2.2.2.2.2.2.2.2.2])), (a 1, .inl (cP, 6, .inr (.inr (.inr (.inr (fun k => some (a (2 + 2 * k))))))))] ++ ((wPs a cI pc pf) ++ ((wSt (sh 14 a) cI u45.1 u45.2.1 u45.2.2.1 u45.2.2.2.1) ++ ((wOp (sh 18 a) cI u45.2.2.2.2.1 u45.2.2.2.2.2.1 u45.2.2.2.2.2.2.1 u45.2.2.2.2.2.2.2.1) ++ (wRp (sh 22 a) cI u45.2.2.2.2.2.2.2.2.1 u45.2.2.2.2.2.2.2.2.2.1 u45.2.2.2.2.2.2.2.2.2.2.1))))) H := hP
      have hD : va_D A ([(a 0, .inr (4, [.ref (a 1), .ref (a 14), .ref (a 18), .ref (a 22), .int u45.2.2.2.2.2.2.2.2.2.2.2.1, .int u45.2.2.2.2.2.2.2.2.2.2.2.2.1, .int u45.2.2.2.2.2.2.2.2.2.2.2.2.2])), (a 1, .inl (cP, 6, .inr (.inr (.inr (.inr (fun k => some (a (2 + 2 * k))))))))] ++ ((wPs a cI pc pf) ++ ((wSt (sh 14 a) cI u45.1 u45.2.1 u45.2.2.1 u45.2.2.2.1) ++ ((wOp (sh 18 a) cI u45.2.2.2.2.1 u45.2.2.2.2.2.1 u45.2.2.2.2.2.2.1 u45.2.2.2.2.2.2.2.1) ++ (wRp (sh 22 a) cI u45.2.2.2.2.2.2.2.2.1 u45.2.2.2.2.2.2.2.2.2.1 u45.2.2.2.2.2.2.2.2.2.2.1))))) := hD
      obtain ⟨hw1, hR3⟩ := hw45
      rcases Bool.eq_false_or_eq_true (unw G f K lf (upd td_ 3 (td_ 3 + 1)) ct_ p (nx + 1)).1 with hu | hu <;> rw [hu] at hw1 <;> subst hw1
      · have hI3 := unw_inv (go := go) (rs := rs) (f := f) (st := st + 1) (nx := nx + 1) (by omega) hp6 hcl hwf (by omega) hlv (by rw [pk_us, htd3]; exact nI_1 st) hu
        refine lv_if_eq (tgt := 53) hx hb dX4_doStep_48 (by decide) (fun c9 => absurd c9 (by decide)) (fun _ => ?_)
        refine lv_iconst (v := 1) hx hb dX4_doStep_51 (by decide) ?_
        exact Ri (D := D) u45 hx hb hr (by decide) hlocks hP hD hS (Or.inl ⟨rfl, _, a_step_c hc4 hff (by omega) hu, ⟨hI3.1, hI3.2.1, rfl, Nat.le_succ_of_le hI3.2.2⟩, hR3⟩) dX4_doStep_52
      · have hno := unw_no hu
        rw [hno.1, hno.2.1, hno.2.2] at hR3
        obtain ⟨g3, l3, h3, r3, k3, n3, b3, c3, ct3, td3, op3, x3, y3, z3⟩ := u45
        have hR3 := Dr_nil hR3
        have hP : va_P D vwCl ([(a 0, .inr (4, [.ref (a 1), .ref (a 14), .ref (a 18), .ref (a 22), .int x3, .int y3, .int z3])), (a 1, .inl (cP, 6, .inr (.inr (.inr (.inr (fun k => some (a (2 + 2 * k))))))))] ++ ((wPs a cI pc pf) ++ ((wSt (sh 14 a) cI g3 l3 h3 r3) ++ ((wOp (sh 18 a) cI k3 n3 b3 c3) ++ (wRp (sh 22 a) cI ct3 td3 op3))))) H := hP
        have hD : va_D A ([(a 0, .inr (4, [.ref (a 1), .ref (a 14), .ref (a 18), .ref (a 22), .int x3, .int y3, .int z3])), (a 1, .inl (cP, 6, .inr (.inr (.inr (.inr (fun k => some (a (2 + 2 * k))))))))] ++ ((wPs a cI pc pf) ++ ((wSt (sh 14 a) cI g3 l3 h3 r3) ++ ((wOp (sh 18 a) cI k3 n3 b3 c3) ++ (wRp (sh 22 a) cI ct3 td3 op3))))) := hD
        refine lv_if_eq (tgt := 53) hx hb dX4_doStep_48 (by decide) (fun _ => ?_) (fun c9 => absurd (by decide) c9)
        refine lv_aload_n hx hb dX4_doStep_53 rfl (lv_at hl 3 rfl) ?_
        refine va_get (D := D) (ci := 4) (v := .ref (a 22)) (C := RX4) (T := TX4) (N := 7) hx hb hts inX4 hown hK hP 0 rfl rfl 3 (by decide) fl33 (fun _ h9 => h9) rfl dX4_doStep_54 ?_
        refine lv_iload_n hx hb dX4_doStep_57 rfl (lv_at hl 0 rfl) ?_
        refine lv_iload_n hx hb dX4_doStep_58 rfl (lv_at hl 2 rfl) ?_
        refine lv_iload_n hx hb dX4_doStep_59 rfl (lv_at hl 1 rfl) ?_
        refine cl_Vv ([(a 0, .inr (4, [.ref (a 1), .ref (a 14), .ref (a 18), .ref (a 22), .int x3, .int y3, .int z3])), (a 1, .inl (cP, 6, .inr (.inr (.inr (.inr (fun k => some (a (2 + 2 * k))))))))] ++ ((wPs a cI pc pf) ++ ((wSt (sh 14 a) cI g3 l3 h3 r3) ++ (wOp (sh 18 a) cI k3 n3 b3 c3)))) ([]) (As := [.int (nI f), .int (nI p), .int (nI nx)]) (rest := []) (c_X2_endAt l D cI (sh 22 a) ct3 td3 op3 (nI f) (nI p) (nI nx)) ⟨hx, hb, hml, hown, hts⟩ (cwV 3 hts gX4_doStep_X2_endAt rfl rfl rfl (by decide +kernel) ⟨Nat.le_of_ble_eq_true rfl, Nat.le_of_ble_eq_true rfl⟩) (hK.sub [0] rfl) hns hP hD hS hA rfl (T := TX2) (N := 10) rfl rfl hl.1 rfl (Nat.le_of_ble_eq_true rfl) dX4_doStep_60 ⟨Nat.zero_le _, Nat.zero_le _⟩ (fun u60 H locs hw60 hP hD hS => ?_)
        have hP : va_P D vwCl ([(a 0, .inr (4, [.ref (a 1), .ref (a 14), .ref (a 18), .ref (a 22), .int x3, .int y3, .int z3])), (a 1, .inl (cP, 6, .inr (.inr (.inr (.inr (fun k => some (a (2 + 2 * k))))))))] ++ ((wPs a cI pc pf) ++ ((wSt (sh 14 a) cI g3 l3 h3 r3) ++ ((wOp (sh 18 a) cI k3 n3 b3 c3) ++ (wRp (sh 22 a) cI ct3 (upd (upd (upd td3 0 (nI f)) 1 (nI p)) 2 (nI nx)) op3))))) H := hP
        have hD : va_D A ([(a 0, .inr (4, [.ref (a 1), .ref (a 14), .ref (a 18), .ref (a 22), .int x3, .int y3, .int z3])), (a 1, .inl (cP, 6, .inr (.inr (.inr (.inr (fun k => some (a (2 + 2 * k))))))))] ++ ((wPs a cI pc pf) ++ ((wSt (sh 14 a) cI g3 l3 h3 r3) ++ ((wOp (sh 18 a) cI k3 n3 b3 c3) ++ (wRp (sh 22 a) cI ct3 (upd (upd (upd td3 0 (nI f)) 1 (nI p)) 2 (nI nx)) op3))))) := hD
        refine lv_iconst (v := 0) hx hb dX4_doStep_63 (by decide) ?_
        exact Ri (D := D) (g3, l3, h3, r3, k3, n3, b3, c3, ct3, (upd (upd (upd td3 0 (nI f)) 1 (nI p)) 2 (nI nx)), op3, x3, y3, z3) hx hb hr (by decide) hlocks hP hD hS (Or.inr ⟨rfl, _, a_step_n hc4 hff (by omega) hu, D0_td (D0_td (D0_td hR3))⟩) dX4_doStep_64
