
/-! what the law's loop carries -/
theorem F_act_th {G : GP} {x k a b c : Int32} : (F_act G x k a b c).2.2.2 = G.2.2 := by
  unfold F_act
  split
  · split <;> rfl
  · rfl
theorem F_clear_th {G : GP} {x : Int32} : (F_clear G x).2.2.2 = G.2.2 := by
  unfold F_clear
  split <;> rfl
theorem F_shelf_1 {G : GP} {go : Nat → Nat} {lf : Nat → Int32} {x y : Int32} : (F_shelf G go lf x y).2.1.1 = G.1 ∧ (F_shelf G go lf x y).2.1.2.1 = G.2.1 := by
  unfold F_shelf
  split <;> exact ⟨rfl, rfl⟩
theorem Dp_th {G G' : GP} {go : Nat → Nat} {lf : Nat → Int32} {rs : Int32} {td ct : Nat → Int32} {hd : Nat → Nat} {g l h : Nat → Int32} {r : Int32} {ct' td' : Nat → Int32} (e : G'.2.2 = G.2.2) (hD : Dp G go lf rs td ct hd g l h r ct' td') : Dp G' go lf rs td ct hd g l h r ct' td' := by
  obtain ⟨d1, d2⟩ := hD
  exact ⟨by rw [e]; exact d1, d2⟩
theorem Dpl_th {G G' : GP} {pc : Nat → Int32} {pf : Nat → Nat → Int32} (e1 : G'.1 = G.1) (e2 : G'.2.1 = G.2.1) (h : Dpl pc pf G) : Dpl pc pf G' := by
  intro q hq
  rw [e1, e2]; exact h q hq
abbrev G00 : GP := (fun _ => 0, fun _ _ => 0, fun s => decide (s < 4))
theorem Dpl_0 : Dpl (fun _ => 0) (fun _ _ => 0) G00 := fun q hq => ⟨rfl, by show 0 ≤ 40; omega, fun i hi => absurd (show i < 0 from hi) (by omega)⟩
theorem s8 {s : Nat} (h : s < 8) : s = 0 ∨ s = 1 ∨ s = 2 ∨ s = 3 ∨ s = 4 ∨ s = 5 ∨ s = 6 ∨ s = 7 := by omega
theorem Dp_0 : Dp G00 (fun _ => 0) (fun _ => 0) 0 td0 (fun _ => 0) (cnt []) (upd (upd (upd (upd (fun _ => 0) 4 (-1)) 5 (-1)) 6 (-1)) 7 (-1)) (fun _ => 0) (fun _ => 0) 0 (fun _ => 0) td0 := by
  refine ⟨fun s hs => ?_, fun _ _ => rfl, fun s hs => ⟨rfl, by show 0 ≤ 1000; omega⟩, rfl, fun _ _ => rfl, fun _ _ => rfl⟩
  refine ⟨?_, by show 0 ≤ 1000; omega⟩
  rcases s8 hs with rfl | rfl | rfl | rfl | rfl | rfl | rfl | rfl <;> rfl
theorem Rp_0 : Rp G00 (fun _ => 0) (fun _ => 0) 0 td0 (fun _ => 0) (cnt []) (fun k => if k = 6 then upd (upd (upd (upd (fun _ => 0) 0 1) 1 1) 2 1) 3 1 else if k = 11 then upd (upd (fun _ => 0) 1 (-4)) 2 (-4) else (fun _ => 0)) 0 := by
  refine ⟨fun p hp => ⟨rfl, by show 0 ≤ 40; omega, fun i hi => absurd (show i < 0 from hi) (by omega)⟩, fun s hs => ?_, fun s hs => ⟨rfl, by show 0 ≤ 1000; omega⟩, fun _ _ => rfl, fun s hs => ⟨rfl, by show 0 ≤ 1000; omega⟩, fun k hk => ?_, fun _ _ => rfl, rfl⟩
  · rcases s8 hs with rfl | rfl | rfl | rfl | rfl | rfl | rfl | rfl <;> rfl
  · rcases s8 hk with rfl | rfl | rfl | rfl | rfl | rfl | rfl | rfl <;> rfl
theorem Dp_rest {G : GP} {go : Nat → Nat} {lf : Nat → Int32} {rs : Int32} {td ct : Nat → Int32} {hd : Nat → Nat} {g l h : Nat → Int32} {r : Int32} {ct' td' : Nat → Int32} (hD : Dp G go lf rs td ct hd g l h r ct' td') : Dp G go lf 0 td ct hd g l h 0 ct' td' := by
  obtain ⟨d1, d2, d3, d4, d5⟩ := hD
  exact ⟨d1, d2, d3, rfl, d5⟩
theorem Rp_rest {G : GP} {go : Nat → Nat} {lf : Nat → Int32} {rs : Int32} {td ct : Nat → Int32} {hd : Nat → Nat} {v : Nat → Nat → Int32} {r : Int32} (hR : Rp G go lf rs td ct hd v r) : Rp G go lf 0 td ct hd v 0 := by
  obtain ⟨h1, h2, h3, h4, h5, h6, h7, h8⟩ := hR
  exact ⟨h1, h2, h3, h4, h5, h6, h7, rfl⟩
theorem k16 {j : Nat} (h : j < 2 ^ 4) : j = 0 ∨ j = 1 ∨ j = 2 ∨ j = 3 ∨ j = 4 ∨ j = 5 ∨ j = 6 ∨ j = 7 ∨ j = 8 ∨ j = 9 ∨ j = 10 ∨ j = 11 ∨ j = 12 ∨ j = 13 ∨ j = 14 ∨ j = 15 := by omega
theorem lend {L i : Nat} (hL : L ≤ 3072) (hi : i ≤ L) (h : ¬ (Int32.ofNat L - 6 < nI i)) : i + 6 ≤ L := by
  have h1 : (nI L - nI 6).toInt = (L : Int) - 6 := pk_sub_toInt (by omega) (by omega)
  have h2 : ¬ ((nI L - nI 6).toInt < (nI i).toInt) := fun q => h (Int32.lt_iff_toInt_lt.mpr q)
  rw [h1, nI_toInt (by omega)] at h2
  omega
set_option maxHeartbeats 4000000 in
set_option maxRecDepth 100000 in
theorem law_loop {p : Program} {l : Launch} {e : Env} {s : State} {m : MethodId} {below : List Frame} {meth : Method} {c : Code} {D : va_G} {bb L : Nat} {xs : Nat → Int32} {cI cP cZ : ClassId} {aD aM : Nat → Nat} (hL : L ≤ 3072) (C0 : lw_At p s m meth c bb L xs) (hK : va_K D vwCl [(cI, .int), (cP, .object RX1), (cZ, .boolean)] s) (hZ : zs (fun q : Nat => s.heap.size ≤ q) s s.heap) :
  ∀ (F i : Nat), i ≤ L → L + 1 ≤ i + F → ∀ (pc : Nat → Int32) (pf : Nat → Nat → Int32) (g : Nat → Int32) (l_ : Nat → Int32) (h : Nat → Int32) (r : Int32) (k : Nat → Int32) (n : Nat → Int32) (b : Nat → Int32) (ct : Nat → Int32) (td : Nat → Int32) (op : Int32) (x : Int32) (y : Int32) (z : Int32) (v : Nat → Nat → Int32) (t2 : Int32) (r2 : Int32) (lv : Int32) (b2 : Int32) (o2 : Int32) (G : GP) (go : Nat → Nat) (lf : Nat → Int32) (rs : Int32) (td_ : Nat → Int32) (ct_ : Nat → Int32), Dpl pc pf G → Dp G go lf rs td_ ct_ (cnt []) g l_ h r ct td → Rp G go lf rs td_ ct_ (cnt []) v r2 → ∀ (H : Heap) (locs : List Loc), va_P D vwCl (wD aD cI cP pc pf g l_ h r k n b (nI 0) ct td op x y z ++ wM aM cI cZ v t2 r2 lv b2 o2) H → va_D (fun q : Nat => s.heap.size ≤ q) (wD aD cI cP pc pf g l_ h r k n b (nI 0) ct td op x y z ++ wM aM cI cZ v t2 r2 lv b2 o2) → va_S (fun q : Nat => s.heap.size ≤ q) s.heap H locs → ∀ (ls : Array Slot), lv_has ls 4 [(0, .ref bb), (1, .ref (aD 0)), (2, .ref (aM 0)), (3, .int (nI i))] → W p l e room_1 s m #[Value.ref bb] below meth c H locs 41 1940 (lw_Z below #[Value.ref bb] s) (F0 m 18 ls []) := by
  obtain ⟨hx, hb, hr, hml, hown, hts0, hX, hbl, hlocks, hgv⟩ := C0
  have hown : s.vm.findClass RL = some m.cls := hown
  have hts : ∀ w ∈ wsL_law, w.before #[Value.ref bb] s = true := fun w h => hts0 w (wsL_law_in w h)
  have hns : va_Nw nsl s := va_Nw.of rfl (hts0 nsl (List.mem_of_getElem? (i := 205) (by decide +kernel)))
  have hA : ∀ q : Nat, s.heap.size ≤ q → (fun q : Nat => s.heap.size ≤ q) q := fun _ h => h
  have hbA : ¬ (fun q : Nat => s.heap.size ≤ q) bb := Nat.not_le.mpr hbl
  have hKD : va_K D vwCl [(cI, .int), (cP, .object RX1)] s := hK.sub [0, 1] rfl
  have hKM : va_K D vwCl [(cI, .int), (cZ, .boolean)] s := hK.sub [0, 2] rfl
  intro F
  induction F with
  | zero => intro i h1 h2; exact absurd h2 (by omega)
  | succ F ih =>
    intro i hi hiF pc pf g l_ h r k n b ct td op x y z v t2 r2 lv b2 o2 G go lf rs td_ ct_ hpl hDp hRp H locs hP hD hS ls hl
    refine lv_iload_n hx hb dL_law_18 rfl (lv_at hl 3 rfl) ?_
    refine lv_aload_n hx hb dL_law_19 rfl (lv_at hl 0 rfl) ?_
    refine va_slen hx hb hX hbl hbA hS dL_law_20 ?_
    refine lv_bipush (v := 6) hx hb dL_law_21 (by decide) ?_
    refine lv_isub hx hb dL_law_23 ?_
    refine lv_icmp_gt (tgt := 428) hx hb dL_law_24 (by decide) (fun c_24 => ?_) (fun c_24 => ?_)
    · refine lv_iconst (v := 1) hx hb dL_law_428 (by decide) ?_
      refine va_forget (fun q hq => hS.2.2 q hq) ?_
      refine W.widen (k := 600000) (n := 7302250) (Nat.le_of_ble_eq_true rfl) (Nat.le_of_ble_eq_true rfl) ?_
      exact lw_ret hx hb hr hlocks dL_law_429
    · have hi6 : i + 6 ≤ L := lend hL hi c_24
      have hin : ∀ j : Nat, j < 6 → vp_in (nI (i + j)) L := fun j hj => vp_in_nI (by omega) (by omega)
      have back : ∀ (pc : Nat → Int32) (pf : Nat → Nat → Int32) (g : Nat → Int32) (l_ : Nat → Int32) (h : Nat → Int32) (r : Int32) (k : Nat → Int32) (n : Nat → Int32) (b : Nat → Int32) (ct : Nat → Int32) (td : Nat → Int32) (op : Int32) (x : Int32) (y : Int32) (z : Int32) (v : Nat → Nat → Int32) (t2 : Int32) (r2 : Int32) (lv : Int32) (b2 : Int32) (o2 : Int32) (G : GP) (go : Nat → Nat) (lf : Nat → Int32) (rs : Int32) (td_ : Nat → Int32) (ct_ : Nat → Int32), Dpl pc pf G → Dp G go lf rs td_ ct_ (cnt []) g l_ h r ct td → Rp G go lf rs td_ ct_ (cnt []) v r2 → ∀ (H : Heap) (locs : List Loc), va_P D vwCl (wD aD cI cP pc pf g l_ h r k n b (nI 0) ct td op x y z ++ wM aM cI cZ v t2 r2 lv b2 o2) H → va_D (fun q : Nat => s.heap.size ≤ q) (wD aD cI cP pc pf g l_ h r k n b (nI 0) ct td op x y z ++ wM aM cI cZ v t2 r2 lv b2 o2) → va_S (fun q : Nat => s.heap.size ≤ q) s.heap H locs → W p l e room_1 s m #[Value.ref bb] below meth c H locs 41 1940 (lw_Z below #[Value.ref bb] s) (F0 m 422 ls []) := by
        intro pc pf g l_ h r k n b ct td op x y z v t2 r2 lv b2 o2 G go lf rs td_ ct_ hpl hDp hRp H locs hP hD hS
        refine lv_iinc (v := nI (i + 6)) (lv' := [(3, .int (nI (i + 6))), (0, .ref bb), (1, .ref (aD 0)), (2, .ref (aM 0))]) hx hb dL_law_422 hl (k := 3) rfl (nI_add i 6) (by decide) rfl (fun ls hl => ?_)
        refine lv_goto (tgt := 18) hx hb dL_law_425 (by decide) ?_
        exact ih (i + 6) hi6 (by omega) pc pf g l_ h r k n b ct td op x y z v t2 r2 lv b2 o2 G go lf rs td_ ct_ hpl hDp hRp H locs hP hD hS ls (lv_sub hl [1, 2, 3, 0] rfl)
      refine lv_aload_n hx hb dL_law_27 rfl (lv_at hl 0 rfl) ?_
      refine lv_iload_n hx hb dL_law_28 rfl (lv_at hl 3 rfl) ?_
      refine va_sld hx hb hX hbl hbA hS (hin 0 (by decide)) dL_law_29 ?_
      refine lv_bipush (v := 15) hx hb dL_law_30 (by decide) ?_
      refine lv_iand hx hb dL_law_32 ?_
      obtain ⟨j, hj, ej⟩ := pk_andE (xs (nI i).toNatClampNeg) (m := 15) 4 (by decide)
      rw [ej]
      rcases k16 hj with rfl | rfl | rfl | rfl | rfl | rfl | rfl | rfl | rfl | rfl | rfl | rfl | rfl | rfl | rfl | rfl
      · refine lv_tableIn (off := 63) (tgt := 96) hx hb dL_law_33 (by decide) (by decide) (by decide) (by decide) ?_
        refine lv_aload_n hx hb dL_law_96 rfl (lv_at hl 1 rfl) ?_
        refine lv_aload_n hx hb dL_law_97 rfl (lv_at hl 0 rfl) ?_
        refine lv_iload_n hx hb dL_law_98 rfl (lv_at hl 3 rfl) ?_
        refine lv_iconst (v := 1) hx hb dL_law_99 (by decide) ?_
        refine lv_iadd hx hb dL_law_100 ?_
        refine tp (y := nI (i + 1)) (nI_add i 1) ?_
        refine va_sld hx hb hX hbl hbA hS (hin 1 (by decide)) dL_law_101 ?_
        refine lv_aload_n hx hb dL_law_102 rfl (lv_at hl 0 rfl) ?_
        refine lv_iload_n hx hb dL_law_103 rfl (lv_at hl 3 rfl) ?_
        refine lv_iconst (v := 2) hx hb dL_law_104 (by decide) ?_
        refine lv_iadd hx hb dL_law_105 ?_
        refine tp (y := nI (i + 2)) (nI_add i 2) ?_
        refine va_sld hx hb hX hbl hbA hS (hin 2 (by decide)) dL_law_106 ?_
        refine lv_aload_n hx hb dL_law_107 rfl (lv_at hl 0 rfl) ?_
        refine lv_iload_n hx hb dL_law_108 rfl (lv_at hl 3 rfl) ?_
        refine lv_iconst (v := 3) hx hb dL_law_109 (by decide) ?_
        refine lv_iadd hx hb dL_law_110 ?_
        refine tp (y := nI (i + 3)) (nI_add i 3) ?_
        refine va_sld hx hb hX hbl hbA hS (hin 3 (by decide)) dL_law_111 ?_
        refine lv_aload_n hx hb dL_law_112 rfl (lv_at hl 0 rfl) ?_
        refine lv_iload_n hx hb dL_law_113 rfl (lv_at hl 3 rfl) ?_
        refine lv_iconst (v := 4) hx hb dL_law_114 (by decide) ?_
        refine lv_iadd hx hb dL_law_115 ?_
        refine tp (y := nI (i + 4)) (nI_add i 4) ?_
        refine va_sld hx hb hX hbl hbA hS (hin 4 (by decide)) dL_law_116 ?_
        refine lv_aload_n hx hb dL_law_117 rfl (lv_at hl 0 rfl) ?_
        refine lv_iload_n hx hb dL_law_118 rfl (lv_at hl 3 rfl) ?_
        refine lv_iconst (v := 5) hx hb dL_law_119 (by decide) ?_
        refine lv_iadd hx hb dL_law_120 ?_
        refine tp (y := nI (i + 5)) (nI_add i 5) ?_
        refine va_sld hx hb hX hbl hbA hS (hin 5 (by decide)) dL_law_121 ?_
        refine cl_ViZ [] (wM aM cI cZ v t2 r2 lv b2 o2) (As := [.int (xs (nI (i + 1)).toNatClampNeg), .int (xs (nI (i + 2)).toNatClampNeg), .int (xs (nI (i + 3)).toNatClampNeg), .int (xs (nI (i + 4)).toNatClampNeg), .int (xs (nI (i + 5)).toNatClampNeg)]) (rest := []) (c_X4_act l D cI cP aD pc pf g l_ h r k n b ct td op x y z G go lf rs td_ ct_ hpl hDp (xs (nI (i + 1)).toNatClampNeg) (xs (nI (i + 2)).toNatClampNeg) (xs (nI (i + 3)).toNatClampNeg) (xs (nI (i + 4)).toNatClampNeg) (xs (nI (i + 5)).toNatClampNeg)) ⟨hx, hb, hml, hown, hts⟩ (cwV 5 hts gL_law_X4_act rfl rfl rfl (by decide +kernel) ⟨Nat.le_of_ble_eq_true rfl, Nat.le_of_ble_eq_true rfl⟩) hKD hns hZ hP hD hS hA rfl (T := TX4) (N := 7) rfl rfl hl.1 rfl (Nat.le_of_ble_eq_true rfl) dL_law_122 ⟨Nat.le_of_ble_eq_true rfl, Nat.le_of_ble_eq_true rfl⟩ (fun w1 u1 H locs hw1 hP hD hS => ?_)
        have hP : va_P D vwCl (wD aD cI cP u1.1 u1.2 g l_ h r k n b (nI 0) ct td op x y z ++ wM aM cI cZ v t2 r2 lv b2 o2) H := hP
        have hD : va_D (fun q : Nat => s.heap.size ≤ q) (wD aD cI cP u1.1 u1.2 g l_ h r k n b (nI 0) ct td op x y z ++ wM aM cI cZ v t2 r2 lv b2 o2) := hD
        refine lv_aload_n hx hb dL_law_125 rfl (lv_at hl 2 rfl) ?_
        refine lv_aload_n hx hb dL_law_126 rfl (lv_at hl 0 rfl) ?_
        refine lv_iload_n hx hb dL_law_127 rfl (lv_at hl 3 rfl) ?_
        refine lv_iconst (v := 1) hx hb dL_law_128 (by decide) ?_
        refine lv_iadd hx hb dL_law_129 ?_
        refine tp (y := nI (i + 1)) (nI_add i 1) ?_
        refine va_sld hx hb hX hbl hbA hS (hin 1 (by decide)) dL_law_130 ?_
        refine lv_aload_n hx hb dL_law_131 rfl (lv_at hl 0 rfl) ?_
        refine lv_iload_n hx hb dL_law_132 rfl (lv_at hl 3 rfl) ?_
        refine lv_iconst (v := 2) hx hb dL_law_133 (by decide) ?_
        refine lv_iadd hx hb dL_law_134 ?_
        refine tp (y := nI (i + 2)) (nI_add i 2) ?_
        refine va_sld hx hb hX hbl hbA hS (hin 2 (by decide)) dL_law_135 ?_
        refine lv_aload_n hx hb dL_law_136 rfl (lv_at hl 0 rfl) ?_
        refine lv_iload_n hx hb dL_law_137 rfl (lv_at hl 3 rfl) ?_
        refine lv_iconst (v := 3) hx hb dL_law_138 (by decide) ?_
        refine lv_iadd hx hb dL_law_139 ?_
        refine tp (y := nI (i + 3)) (nI_add i 3) ?_
        refine va_sld hx hb hX hbl hbA hS (hin 3 (by decide)) dL_law_140 ?_
        refine lv_aload_n hx hb dL_law_141 rfl (lv_at hl 0 rfl) ?_
        refine lv_iload_n hx hb dL_law_142 rfl (lv_at hl 3 rfl) ?_
        refine lv_iconst (v := 4) hx hb dL_law_143 (by decide) ?_
        refine lv_iadd hx hb dL_law_144 ?_
        refine tp (y := nI (i + 4)) (nI_add i 4) ?_
        refine va_sld hx hb hX hbl hbA hS (hin 4 (by decide)) dL_law_145 ?_
        refine lv_aload_n hx hb dL_law_146 rfl (lv_at hl 0 rfl) ?_
        refine lv_iload_n hx hb dL_law_147 rfl (lv_at hl 3 rfl) ?_
        refine lv_iconst (v := 5) hx hb dL_law_148 (by decide) ?_
        refine lv_iadd hx hb dL_law_149 ?_
        refine tp (y := nI (i + 5)) (nI_add i 5) ?_
        refine va_sld hx hb hX hbl hbA hS (hin 5 (by decide)) dL_law_150 ?_
        refine cl_Vi (wD aD cI cP u1.1 u1.2 g l_ h r k n b (nI 0) ct td op x y z) [] (As := [.int (xs (nI (i + 1)).toNatClampNeg), .int (xs (nI (i + 2)).toNatClampNeg), .int (xs (nI (i + 3)).toNatClampNeg), .int (xs (nI (i + 4)).toNatClampNeg), .int (xs (nI (i + 5)).toNatClampNeg)]) (rest := [.int w1]) (c_X5_act l D cI cZ aM v t2 r2 lv b2 o2 G go lf rs td_ ct_ hRp (xs (nI (i + 1)).toNatClampNeg) (xs (nI (i + 2)).toNatClampNeg) (xs (nI (i + 3)).toNatClampNeg) (xs (nI (i + 4)).toNatClampNeg) (xs (nI (i + 5)).toNatClampNeg)) ⟨hx, hb, hml, hown, hts⟩ (cwV 5 hts gL_law_X5_act rfl rfl rfl (by decide +kernel) ⟨Nat.le_of_ble_eq_true rfl, Nat.le_of_ble_eq_true rfl⟩) hKM hns hP hD hS hA rfl (T := TX5) (N := 21) rfl rfl hl.1 rfl (Nat.le_of_ble_eq_true rfl) dL_law_151 ⟨Nat.le_of_ble_eq_true rfl, Nat.le_of_ble_eq_true rfl⟩ (fun w2 u2 H locs hw2 hP hD hS => ?_)
        have hP : va_P D vwCl (wD aD cI cP u1.1 u1.2 g l_ h r k n b (nI 0) ct td op x y z ++ wM aM cI cZ u2 0 r2 lv b2 o2) H := hP
        have hD : va_D (fun q : Nat => s.heap.size ≤ q) (wD aD cI cP u1.1 u1.2 g l_ h r k n b (nI 0) ct td op x y z ++ wM aM cI cZ u2 0 r2 lv b2 o2) := hD
        refine lv_icmp_eq (tgt := 422) hx hb dL_law_154 (by decide) (fun _ => ?_) (fun c9 => absurd (hw1.1.trans hw2.1.symm) c9)
        exact back u1.1 u1.2 g l_ h r k n b ct td op x y z u2 0 r2 lv b2 o2 (F_act G (xs (nI (i + 1)).toNatClampNeg) (xs (nI (i + 2)).toNatClampNeg) (xs (nI (i + 3)).toNatClampNeg) (xs (nI (i + 4)).toNatClampNeg) (xs (nI (i + 5)).toNatClampNeg)).2 go lf rs td_ ct_ hw1.2 (Dp_th F_act_th hDp) hw2.2 _ _ hP hD hS
      · refine lv_tableIn (off := 126) (tgt := 159) hx hb dL_law_33 (by decide) (by decide) (by decide) (by decide) ?_
        refine lv_aload_n hx hb dL_law_159 rfl (lv_at hl 1 rfl) ?_
        refine lv_aload_n hx hb dL_law_160 rfl (lv_at hl 0 rfl) ?_
        refine lv_iload_n hx hb dL_law_161 rfl (lv_at hl 3 rfl) ?_
        refine lv_iconst (v := 1) hx hb dL_law_162 (by decide) ?_
        refine lv_iadd hx hb dL_law_163 ?_
        refine tp (y := nI (i + 1)) (nI_add i 1) ?_
        refine va_sld hx hb hX hbl hbA hS (hin 1 (by decide)) dL_law_164 ?_
        refine cl_Vi [] (wM aM cI cZ v t2 r2 lv b2 o2) (As := [.int (xs (nI (i + 1)).toNatClampNeg)]) (rest := []) (c_X4_clear l D cI cP aD pc pf g l_ h r k n b ct td op x y z G go lf rs td_ ct_ hpl hDp (xs (nI (i + 1)).toNatClampNeg)) ⟨hx, hb, hml, hown, hts⟩ (cwV 1 hts gL_law_X4_clear rfl rfl rfl (by decide +kernel) ⟨Nat.le_of_ble_eq_true rfl, Nat.le_of_ble_eq_true rfl⟩) hKD hns hP hD hS hA rfl (T := TX4) (N := 7) rfl rfl hl.1 rfl (Nat.le_of_ble_eq_true rfl) dL_law_165 ⟨Nat.le_of_ble_eq_true rfl, Nat.le_of_ble_eq_true rfl⟩ (fun w1 u1 H locs hw1 hP hD hS => ?_)
        have hP : va_P D vwCl (wD aD cI cP u1.1 u1.2 g l_ h r k n b (nI 0) ct td op x y z ++ wM aM cI cZ v t2 r2 lv b2 o2) H := hP
        have hD : va_D (fun q : Nat => s.heap.size ≤ q) (wD aD cI cP u1.1 u1.2 g l_ h r k n b (nI 0) ct td op x y z ++ wM aM cI cZ v t2 r2 lv b2 o2) := hD
        refine lv_aload_n hx hb dL_law_168 rfl (lv_at hl 2 rfl) ?_
        refine lv_aload_n hx hb dL_law_169 rfl (lv_at hl 0 rfl) ?_
        refine lv_iload_n hx hb dL_law_170 rfl (lv_at hl 3 rfl) ?_
        refine lv_iconst (v := 1) hx hb dL_law_171 (by decide) ?_
        refine lv_iadd hx hb dL_law_172 ?_
        refine tp (y := nI (i + 1)) (nI_add i 1) ?_
        refine va_sld hx hb hX hbl hbA hS (hin 1 (by decide)) dL_law_173 ?_
        refine cl_Vi (wD aD cI cP u1.1 u1.2 g l_ h r k n b (nI 0) ct td op x y z) [] (As := [.int (xs (nI (i + 1)).toNatClampNeg)]) (rest := [.int w1]) (c_X5_clear l D cI cZ aM v t2 r2 lv b2 o2 G go lf rs td_ ct_ hRp (xs (nI (i + 1)).toNatClampNeg)) ⟨hx, hb, hml, hown, hts⟩ (cwV 1 hts gL_law_X5_clear rfl rfl rfl (by decide +kernel) ⟨Nat.le_of_ble_eq_true rfl, Nat.le_of_ble_eq_true rfl⟩) hKM hns hP hD hS hA rfl (T := TX5) (N := 21) rfl rfl hl.1 rfl (Nat.le_of_ble_eq_true rfl) dL_law_174 ⟨Nat.le_of_ble_eq_true rfl, Nat.le_of_ble_eq_true rfl⟩ (fun w2 u2 H locs hw2 hP hD hS => ?_)
        have hP : va_P D vwCl (wD aD cI cP u1.1 u1.2 g l_ h r k n b (nI 0) ct td op x y z ++ wM aM cI cZ u2 0 r2 lv b2 o2) H := hP
        have hD : va_D (fun q : Nat => s.heap.size ≤ q) (wD aD cI cP u1.1 u1.2 g l_ h r k n b (nI 0) ct td op x y z ++ wM aM cI cZ u2 0 r2 lv b2 o2) := hD
        refine lv_icmp_eq (tgt := 422) hx hb dL_law_177 (by decide) (fun _ => ?_) (fun c9 => absurd (hw1.1.trans hw2.1.symm) c9)
        exact back u1.1 u1.2 g l_ h r k n b ct td op x y z u2 0 r2 lv b2 o2 (F_clear G (xs (nI (i + 1)).toNatClampNeg)).2 go lf rs td_ ct_ hw1.2 (Dp_th F_clear_th hDp) hw2.2 _ _ hP hD hS
      · refine lv_tableIn (off := 149) (tgt := 182) hx hb dL_law_33 (by decide) (by decide) (by decide) (by decide) ?_
        refine lv_aload_n hx hb dL_law_182 rfl (lv_at hl 1 rfl) ?_
        refine lv_aload_n hx hb dL_law_183 rfl (lv_at hl 0 rfl) ?_
        refine lv_iload_n hx hb dL_law_184 rfl (lv_at hl 3 rfl) ?_
        refine lv_iconst (v := 1) hx hb dL_law_185 (by decide) ?_
        refine lv_iadd hx hb dL_law_186 ?_
        refine tp (y := nI (i + 1)) (nI_add i 1) ?_
        refine va_sld hx hb hX hbl hbA hS (hin 1 (by decide)) dL_law_187 ?_
        refine cl_Vi [] (wM aM cI cZ v t2 r2 lv b2 o2) (As := [.int (xs (nI (i + 1)).toNatClampNeg)]) (rest := []) (c_X4_closed l D cI cP aD pc pf g l_ h r k n b ct td op x y z G go lf rs td_ ct_ hpl hDp (xs (nI (i + 1)).toNatClampNeg)) ⟨hx, hb, hml, hown, hts⟩ (cwV 1 hts gL_law_X4_closed rfl rfl rfl (by decide +kernel) ⟨Nat.le_of_ble_eq_true rfl, Nat.le_of_ble_eq_true rfl⟩) hKD hns hP hD hS hA rfl (T := TX4) (N := 7) rfl rfl hl.1 rfl (Nat.le_of_ble_eq_true rfl) dL_law_188 ⟨Nat.le_of_ble_eq_true rfl, Nat.le_of_ble_eq_true rfl⟩ (fun w1 u1 H locs hw1 hP hD hS => ?_)
        have hP : va_P D vwCl (wD aD cI cP pc pf g l_ h r k n b (nI 0) ct td op x y z ++ wM aM cI cZ v t2 r2 lv b2 o2) H := hP
        have hD : va_D (fun q : Nat => s.heap.size ≤ q) (wD aD cI cP pc pf g l_ h r k n b (nI 0) ct td op x y z ++ wM aM cI cZ v t2 r2 lv b2 o2) := hD
        refine lv_aload_n hx hb dL_law_191 rfl (lv_at hl 2 rfl) ?_
        refine lv_aload_n hx hb dL_law_192 rfl (lv_at hl 0 rfl) ?_
        refine lv_iload_n hx hb dL_law_193 rfl (lv_at hl 3 rfl) ?_
        refine lv_iconst (v := 1) hx hb dL_law_194 (by decide) ?_
        refine lv_iadd hx hb dL_law_195 ?_
        refine tp (y := nI (i + 1)) (nI_add i 1) ?_
        refine va_sld hx hb hX hbl hbA hS (hin 1 (by decide)) dL_law_196 ?_
        refine cl_Vi (wD aD cI cP pc pf g l_ h r k n b (nI 0) ct td op x y z) [] (As := [.int (xs (nI (i + 1)).toNatClampNeg)]) (rest := [.int w1]) (c_X5_closed l D cI cZ aM v t2 r2 lv b2 o2 G go lf rs td_ ct_ hRp (xs (nI (i + 1)).toNatClampNeg)) ⟨hx, hb, hml, hown, hts⟩ (cwV 1 hts gL_law_X5_closed rfl rfl rfl (by decide +kernel) ⟨Nat.le_of_ble_eq_true rfl, Nat.le_of_ble_eq_true rfl⟩) hKM hns hP hD hS hA rfl (T := TX5) (N := 21) rfl rfl hl.1 rfl (Nat.le_of_ble_eq_true rfl) dL_law_197 ⟨Nat.le_of_ble_eq_true rfl, Nat.le_of_ble_eq_true rfl⟩ (fun w2 u2 H locs hw2 hP hD hS => ?_)
        have hP : va_P D vwCl (wD aD cI cP pc pf g l_ h r k n b (nI 0) ct td op x y z ++ wM aM cI cZ v 0 r2 lv b2 o2) H := hP
        have hD : va_D (fun q : Nat => s.heap.size ≤ q) (wD aD cI cP pc pf g l_ h r k n b (nI 0) ct td op x y z ++ wM aM cI cZ v 0 r2 lv b2 o2) := hD
        refine lv_icmp_eq (tgt := 422) hx hb dL_law_200 (by decide) (fun _ => ?_) (fun c9 => absurd (hw1.trans hw2.symm) c9)
        exact back pc pf g l_ h r k n b ct td op x y z v 0 r2 lv b2 o2 G go lf rs td_ ct_ hpl hDp hRp _ _ hP hD hS
      · refine lv_tableIn (off := 172) (tgt := 205) hx hb dL_law_33 (by decide) (by decide) (by decide) (by decide) ?_
        refine lv_aload_n hx hb dL_law_205 rfl (lv_at hl 1 rfl) ?_
        refine lv_aload_n hx hb dL_law_206 rfl (lv_at hl 0 rfl) ?_
        refine lv_iload_n hx hb dL_law_207 rfl (lv_at hl 3 rfl) ?_
        refine lv_iconst (v := 1) hx hb dL_law_208 (by decide) ?_
        refine lv_iadd hx hb dL_law_209 ?_
        refine tp (y := nI (i + 1)) (nI_add i 1) ?_
        refine va_sld hx hb hX hbl hbA hS (hin 1 (by decide)) dL_law_210 ?_
        refine lv_aload_n hx hb dL_law_211 rfl (lv_at hl 0 rfl) ?_
        refine lv_iload_n hx hb dL_law_212 rfl (lv_at hl 3 rfl) ?_
        refine lv_iconst (v := 2) hx hb dL_law_213 (by decide) ?_
        refine lv_iadd hx hb dL_law_214 ?_
        refine tp (y := nI (i + 2)) (nI_add i 2) ?_
        refine va_sld hx hb hX hbl hbA hS (hin 2 (by decide)) dL_law_215 ?_
        refine cl_Vi [] (wM aM cI cZ v t2 r2 lv b2 o2) (As := [.int (xs (nI (i + 1)).toNatClampNeg), .int (xs (nI (i + 2)).toNatClampNeg)]) (rest := []) (c_X4_shelf l D cI cP aD pc pf g l_ h r k n b ct td op x y z G go lf rs td_ ct_ hpl hDp (xs (nI (i + 1)).toNatClampNeg) (xs (nI (i + 2)).toNatClampNeg)) ⟨hx, hb, hml, hown, hts⟩ (cwV 2 hts gL_law_X4_shelf rfl rfl rfl (by decide +kernel) ⟨Nat.le_of_ble_eq_true rfl, Nat.le_of_ble_eq_true rfl⟩) hKD hns hP hD hS hA rfl (T := TX4) (N := 7) rfl rfl hl.1 rfl (Nat.le_of_ble_eq_true rfl) dL_law_216 ⟨Nat.le_of_ble_eq_true rfl, Nat.le_of_ble_eq_true rfl⟩ (fun w1 u1 H locs hw1 hP hD hS => ?_)
        have hP : va_P D vwCl (wD aD cI cP pc pf u1.1 u1.2 h r k n b (nI 0) ct td op x y z ++ wM aM cI cZ v t2 r2 lv b2 o2) H := hP
        have hD : va_D (fun q : Nat => s.heap.size ≤ q) (wD aD cI cP pc pf u1.1 u1.2 h r k n b (nI 0) ct td op x y z ++ wM aM cI cZ v t2 r2 lv b2 o2) := hD
        refine lv_aload_n hx hb dL_law_219 rfl (lv_at hl 2 rfl) ?_
        refine lv_aload_n hx hb dL_law_220 rfl (lv_at hl 0 rfl) ?_
        refine lv_iload_n hx hb dL_law_221 rfl (lv_at hl 3 rfl) ?_
        refine lv_iconst (v := 1) hx hb dL_law_222 (by decide) ?_
        refine lv_iadd hx hb dL_law_223 ?_
        refine tp (y := nI (i + 1)) (nI_add i 1) ?_
        refine va_sld hx hb hX hbl hbA hS (hin 1 (by decide)) dL_law_224 ?_
        refine lv_aload_n hx hb dL_law_225 rfl (lv_at hl 0 rfl) ?_
        refine lv_iload_n hx hb dL_law_226 rfl (lv_at hl 3 rfl) ?_
        refine lv_iconst (v := 2) hx hb dL_law_227 (by decide) ?_
        refine lv_iadd hx hb dL_law_228 ?_
        refine tp (y := nI (i + 2)) (nI_add i 2) ?_
        refine va_sld hx hb hX hbl hbA hS (hin 2 (by decide)) dL_law_229 ?_
        refine cl_Vi (wD aD cI cP pc pf u1.1 u1.2 h r k n b (nI 0) ct td op x y z) [] (As := [.int (xs (nI (i + 1)).toNatClampNeg), .int (xs (nI (i + 2)).toNatClampNeg)]) (rest := [.int w1]) (c_X5_shelf l D cI cZ aM v t2 r2 lv b2 o2 G go lf rs td_ ct_ hRp (xs (nI (i + 1)).toNatClampNeg) (xs (nI (i + 2)).toNatClampNeg)) ⟨hx, hb, hml, hown, hts⟩ (cwV 2 hts gL_law_X5_shelf rfl rfl rfl (by decide +kernel) ⟨Nat.le_of_ble_eq_true rfl, Nat.le_of_ble_eq_true rfl⟩) hKM hns hP hD hS hA rfl (T := TX5) (N := 21) rfl rfl hl.1 rfl (Nat.le_of_ble_eq_true rfl) dL_law_230 ⟨Nat.le_of_ble_eq_true rfl, Nat.le_of_ble_eq_true rfl⟩ (fun w2 u2 H locs hw2 hP hD hS => ?_)
        have hP : va_P D vwCl (wD aD cI cP pc pf u1.1 u1.2 h r k n b (nI 0) ct td op x y z ++ wM aM cI cZ u2 0 r2 lv b2 o2) H := hP
        have hD : va_D (fun q : Nat => s.heap.size ≤ q) (wD aD cI cP pc pf u1.1 u1.2 h r k n b (nI 0) ct td op x y z ++ wM aM cI cZ u2 0 r2 lv b2 o2) := hD
        refine lv_icmp_eq (tgt := 422) hx hb dL_law_233 (by decide) (fun _ => ?_) (fun c9 => absurd (hw1.1.trans hw2.1.symm) c9)
        exact back pc pf u1.1 u1.2 h r k n b ct td op x y z u2 0 r2 lv b2 o2 (F_shelf G go lf (xs (nI (i + 1)).toNatClampNeg) (xs (nI (i + 2)).toNatClampNeg)).2.1 (F_shelf G go lf (xs (nI (i + 1)).toNatClampNeg) (xs (nI (i + 2)).toNatClampNeg)).2.2.1 (F_shelf G go lf (xs (nI (i + 1)).toNatClampNeg) (xs (nI (i + 2)).toNatClampNeg)).2.2.2 rs td_ ct_ (Dpl_th F_shelf_1.1 F_shelf_1.2 hpl) hw1.2 hw2.2 _ _ hP hD hS
      · refine lv_tableIn (off := 205) (tgt := 238) hx hb dL_law_33 (by decide) (by decide) (by decide) (by decide) ?_
        refine lv_aload_n hx hb dL_law_238 rfl (lv_at hl 1 rfl) ?_
        refine lv_aload_n hx hb dL_law_239 rfl (lv_at hl 0 rfl) ?_
        refine lv_iload_n hx hb dL_law_240 rfl (lv_at hl 3 rfl) ?_
        refine lv_iconst (v := 1) hx hb dL_law_241 (by decide) ?_
        refine lv_iadd hx hb dL_law_242 ?_
        refine tp (y := nI (i + 1)) (nI_add i 1) ?_
        refine va_sld hx hb hX hbl hbA hS (hin 1 (by decide)) dL_law_243 ?_
        refine lv_aload_n hx hb dL_law_244 rfl (lv_at hl 0 rfl) ?_
        refine lv_iload_n hx hb dL_law_245 rfl (lv_at hl 3 rfl) ?_
        refine lv_iconst (v := 2) hx hb dL_law_246 (by decide) ?_
        refine lv_iadd hx hb dL_law_247 ?_
        refine tp (y := nI (i + 2)) (nI_add i 2) ?_
        refine va_sld hx hb hX hbl hbA hS (hin 2 (by decide)) dL_law_248 ?_
        refine cl_Vi [] (wM aM cI cZ v t2 r2 lv b2 o2) (As := [.int (xs (nI (i + 1)).toNatClampNeg), .int (xs (nI (i + 2)).toNatClampNeg)]) (rest := []) (c_X4_run l D cI cP aD pc pf g l_ h r k n b ct td op x y z G go lf rs td_ ct_ hpl hDp (xs (nI (i + 1)).toNatClampNeg) (xs (nI (i + 2)).toNatClampNeg)) ⟨hx, hb, hml, hown, hts⟩ (cwV 2 hts gL_law_X4_run rfl rfl rfl (by decide +kernel) ⟨Nat.le_of_ble_eq_true rfl, Nat.le_of_ble_eq_true rfl⟩) hKD hns hP hD hS hA rfl (T := TX4) (N := 7) rfl rfl hl.1 rfl (Nat.le_of_ble_eq_true rfl) dL_law_249 ⟨Nat.le_of_ble_eq_true rfl, Nat.le_of_ble_eq_true rfl⟩ (fun w1 u1 H locs hw1 hP hD hS => ?_)
        obtain ⟨g', l', h', r', k', n', b', c', ct', td', op', x', y', z'⟩ := u1
        obtain ⟨hw1, hDp', hc'⟩ := hw1
        have hc' : c' = nI 0 := hc'
        subst hc'
        have hP : va_P D vwCl (wD aD cI cP pc pf g' l' h' r' k' n' b' (nI 0) ct' td' op' x' y' z' ++ wM aM cI cZ v t2 r2 lv b2 o2) H := hP
        have hD : va_D (fun q : Nat => s.heap.size ≤ q) (wD aD cI cP pc pf g' l' h' r' k' n' b' (nI 0) ct' td' op' x' y' z' ++ wM aM cI cZ v t2 r2 lv b2 o2) := hD
        refine lv_aload_n hx hb dL_law_252 rfl (lv_at hl 2 rfl) ?_
        refine lv_aload_n hx hb dL_law_253 rfl (lv_at hl 0 rfl) ?_
        refine lv_iload_n hx hb dL_law_254 rfl (lv_at hl 3 rfl) ?_
        refine lv_iconst (v := 1) hx hb dL_law_255 (by decide) ?_
        refine lv_iadd hx hb dL_law_256 ?_
        refine tp (y := nI (i + 1)) (nI_add i 1) ?_
        refine va_sld hx hb hX hbl hbA hS (hin 1 (by decide)) dL_law_257 ?_
        refine lv_aload_n hx hb dL_law_258 rfl (lv_at hl 0 rfl) ?_
        refine lv_iload_n hx hb dL_law_259 rfl (lv_at hl 3 rfl) ?_
        refine lv_iconst (v := 2) hx hb dL_law_260 (by decide) ?_
        refine lv_iadd hx hb dL_law_261 ?_
        refine tp (y := nI (i + 2)) (nI_add i 2) ?_
        refine va_sld hx hb hX hbl hbA hS (hin 2 (by decide)) dL_law_262 ?_
        refine cl_Vi (wD aD cI cP pc pf g' l' h' r' k' n' b' (nI 0) ct' td' op' x' y' z') [] (As := [.int (xs (nI (i + 1)).toNatClampNeg), .int (xs (nI (i + 2)).toNatClampNeg)]) (rest := [.int w1]) (c_X5_run l D cI cZ aM v t2 r2 lv b2 o2 G go lf rs td_ ct_ hRp (xs (nI (i + 1)).toNatClampNeg) (xs (nI (i + 2)).toNatClampNeg)) ⟨hx, hb, hml, hown, hts⟩ (cwV 2 hts gL_law_X5_run rfl rfl rfl (by decide +kernel) ⟨Nat.le_of_ble_eq_true rfl, Nat.le_of_ble_eq_true rfl⟩) hKM hns hP hD hS hA rfl (T := TX5) (N := 21) rfl rfl hl.1 rfl (Nat.le_of_ble_eq_true rfl) dL_law_263 ⟨Nat.le_of_ble_eq_true rfl, Nat.le_of_ble_eq_true rfl⟩ (fun w2 u2 H locs hw2 hP hD hS => ?_)
        have hP : va_P D vwCl (wD aD cI cP pc pf g' l' h' r' k' n' b' (nI 0) ct' td' op' x' y' z' ++ wM aM cI cZ u2.1 0 u2.2.1 u2.2.2.1 u2.2.2.2.1 u2.2.2.2.2) H := hP
        have hD : va_D (fun q : Nat => s.heap.size ≤ q) (wD aD cI cP pc pf g' l' h' r' k' n' b' (nI 0) ct' td' op' x' y' z' ++ wM aM cI cZ u2.1 0 u2.2.1 u2.2.2.1 u2.2.2.2.1 u2.2.2.2.2) := hD
        refine lv_icmp_eq (tgt := 422) hx hb dL_law_266 (by decide) (fun _ => ?_) (fun c9 => absurd (hw1.trans hw2.1.symm) c9)
        exact back pc pf g' l' h' r' k' n' b' ct' td' op' x' y' z' u2.1 0 u2.2.1 u2.2.2.1 u2.2.2.2.1 u2.2.2.2.2 G (F_run G go lf rs td_ ct_ (xs (nI (i + 1)).toNatClampNeg) (xs (nI (i + 2)).toNatClampNeg)).2.1 (F_run G go lf rs td_ ct_ (xs (nI (i + 1)).toNatClampNeg) (xs (nI (i + 2)).toNatClampNeg)).2.2.1 (F_run G go lf rs td_ ct_ (xs (nI (i + 1)).toNatClampNeg) (xs (nI (i + 2)).toNatClampNeg)).2.2.2.1 (F_run G go lf rs td_ ct_ (xs (nI (i + 1)).toNatClampNeg) (xs (nI (i + 2)).toNatClampNeg)).2.2.2.2.1 (F_run G go lf rs td_ ct_ (xs (nI (i + 1)).toNatClampNeg) (xs (nI (i + 2)).toNatClampNeg)).2.2.2.2.2 hpl hDp' hw2.2 _ _ hP hD hS
      · refine lv_tableIn (off := 238) (tgt := 271) hx hb dL_law_33 (by decide) (by decide) (by decide) (by decide) ?_
        refine lv_aload_n hx hb dL_law_271 rfl (lv_at hl 1 rfl) ?_
        refine lv_aload_n hx hb dL_law_272 rfl (lv_at hl 0 rfl) ?_
        refine lv_iload_n hx hb dL_law_273 rfl (lv_at hl 3 rfl) ?_
        refine lv_iconst (v := 1) hx hb dL_law_274 (by decide) ?_
        refine lv_iadd hx hb dL_law_275 ?_
        refine tp (y := nI (i + 1)) (nI_add i 1) ?_
        refine va_sld hx hb hX hbl hbA hS (hin 1 (by decide)) dL_law_276 ?_
        refine cl_Vi [] (wM aM cI cZ v t2 r2 lv b2 o2) (As := [.int (xs (nI (i + 1)).toNatClampNeg)]) (rest := []) (c_X4_told l D cI cP aD pc pf g l_ h r k n b ct td op x y z G go lf rs td_ ct_ hpl hDp (xs (nI (i + 1)).toNatClampNeg)) ⟨hx, hb, hml, hown, hts⟩ (cwV 1 hts gL_law_X4_told rfl rfl rfl (by decide +kernel) ⟨Nat.le_of_ble_eq_true rfl, Nat.le_of_ble_eq_true rfl⟩) hKD hns hP hD hS hA rfl (T := TX4) (N := 7) rfl rfl hl.1 rfl (Nat.le_of_ble_eq_true rfl) dL_law_277 ⟨Nat.le_of_ble_eq_true rfl, Nat.le_of_ble_eq_true rfl⟩ (fun w1 u1 H locs hw1 hP hD hS => ?_)
        have hP : va_P D vwCl (wD aD cI cP pc pf g l_ h r k n b (nI 0) ct td op x y z ++ wM aM cI cZ v t2 r2 lv b2 o2) H := hP
        have hD : va_D (fun q : Nat => s.heap.size ≤ q) (wD aD cI cP pc pf g l_ h r k n b (nI 0) ct td op x y z ++ wM aM cI cZ v t2 r2 lv b2 o2) := hD
        refine lv_aload_n hx hb dL_law_280 rfl (lv_at hl 2 rfl) ?_
        refine lv_aload_n hx hb dL_law_281 rfl (lv_at hl 0 rfl) ?_
        refine lv_iload_n hx hb dL_law_282 rfl (lv_at hl 3 rfl) ?_
        refine lv_iconst (v := 1) hx hb dL_law_283 (by decide) ?_
        refine lv_iadd hx hb dL_law_284 ?_
        refine tp (y := nI (i + 1)) (nI_add i 1) ?_
        refine va_sld hx hb hX hbl hbA hS (hin 1 (by decide)) dL_law_285 ?_
        refine cl_Vi (wD aD cI cP pc pf g l_ h r k n b (nI 0) ct td op x y z) [] (As := [.int (xs (nI (i + 1)).toNatClampNeg)]) (rest := [.int w1]) (c_X5_told l D cI cZ aM v t2 r2 lv b2 o2 G go lf rs td_ ct_ hRp (xs (nI (i + 1)).toNatClampNeg)) ⟨hx, hb, hml, hown, hts⟩ (cwV 1 hts gL_law_X5_told rfl rfl rfl (by decide +kernel) ⟨Nat.le_of_ble_eq_true rfl, Nat.le_of_ble_eq_true rfl⟩) hKM hns hP hD hS hA rfl (T := TX5) (N := 21) rfl rfl hl.1 rfl (Nat.le_of_ble_eq_true rfl) dL_law_286 ⟨Nat.le_of_ble_eq_true rfl, Nat.le_of_ble_eq_true rfl⟩ (fun w2 u2 H locs hw2 hP hD hS => ?_)
        have hP : va_P D vwCl (wD aD cI cP pc pf g l_ h r k n b (nI 0) ct td op x y z ++ wM aM cI cZ v 0 r2 lv b2 o2) H := hP
        have hD : va_D (fun q : Nat => s.heap.size ≤ q) (wD aD cI cP pc pf g l_ h r k n b (nI 0) ct td op x y z ++ wM aM cI cZ v 0 r2 lv b2 o2) := hD
        refine lv_icmp_eq (tgt := 422) hx hb dL_law_289 (by decide) (fun _ => ?_) (fun c9 => absurd (hw1.trans hw2.symm) c9)
        exact back pc pf g l_ h r k n b ct td op x y z v 0 r2 lv b2 o2 G go lf rs td_ ct_ hpl hDp hRp _ _ hP hD hS
      · refine lv_tableIn (off := 261) (tgt := 294) hx hb dL_law_33 (by decide) (by decide) (by decide) (by decide) ?_
        refine lv_aload_n hx hb dL_law_294 rfl (lv_at hl 1 rfl) ?_
        refine lv_aload_n hx hb dL_law_295 rfl (lv_at hl 0 rfl) ?_
        refine lv_iload_n hx hb dL_law_296 rfl (lv_at hl 3 rfl) ?_
        refine lv_iconst (v := 1) hx hb dL_law_297 (by decide) ?_
        refine lv_iadd hx hb dL_law_298 ?_
        refine tp (y := nI (i + 1)) (nI_add i 1) ?_
        refine va_sld hx hb hX hbl hbA hS (hin 1 (by decide)) dL_law_299 ?_
        refine cl_Vi [] (wM aM cI cZ v t2 r2 lv b2 o2) (As := [.int (xs (nI (i + 1)).toNatClampNeg)]) (rest := []) (c_X4_caught l D cI cP aD pc pf g l_ h r k n b ct td op x y z G go lf rs td_ ct_ hpl hDp (xs (nI (i + 1)).toNatClampNeg)) ⟨hx, hb, hml, hown, hts⟩ (cwV 1 hts gL_law_X4_caught rfl rfl rfl (by decide +kernel) ⟨Nat.le_of_ble_eq_true rfl, Nat.le_of_ble_eq_true rfl⟩) hKD hns hP hD hS hA rfl (T := TX4) (N := 7) rfl rfl hl.1 rfl (Nat.le_of_ble_eq_true rfl) dL_law_300 ⟨Nat.le_of_ble_eq_true rfl, Nat.le_of_ble_eq_true rfl⟩ (fun w1 u1 H locs hw1 hP hD hS => ?_)
        have hP : va_P D vwCl (wD aD cI cP pc pf g l_ h r k n b (nI 0) ct td op x y z ++ wM aM cI cZ v t2 r2 lv b2 o2) H := hP
        have hD : va_D (fun q : Nat => s.heap.size ≤ q) (wD aD cI cP pc pf g l_ h r k n b (nI 0) ct td op x y z ++ wM aM cI cZ v t2 r2 lv b2 o2) := hD
        refine lv_aload_n hx hb dL_law_303 rfl (lv_at hl 2 rfl) ?_
        refine lv_aload_n hx hb dL_law_304 rfl (lv_at hl 0 rfl) ?_
        refine lv_iload_n hx hb dL_law_305 rfl (lv_at hl 3 rfl) ?_
        refine lv_iconst (v := 1) hx hb dL_law_306 (by decide) ?_
        refine lv_iadd hx hb dL_law_307 ?_
        refine tp (y := nI (i + 1)) (nI_add i 1) ?_
        refine va_sld hx hb hX hbl hbA hS (hin 1 (by decide)) dL_law_308 ?_
        refine cl_Vi (wD aD cI cP pc pf g l_ h r k n b (nI 0) ct td op x y z) [] (As := [.int (xs (nI (i + 1)).toNatClampNeg)]) (rest := [.int w1]) (c_X5_caught l D cI cZ aM v t2 r2 lv b2 o2 G go lf rs td_ ct_ hRp (xs (nI (i + 1)).toNatClampNeg)) ⟨hx, hb, hml, hown, hts⟩ (cwV 1 hts gL_law_X5_caught rfl rfl rfl (by decide +kernel) ⟨Nat.le_of_ble_eq_true rfl, Nat.le_of_ble_eq_true rfl⟩) hKM hns hP hD hS hA rfl (T := TX5) (N := 21) rfl rfl hl.1 rfl (Nat.le_of_ble_eq_true rfl) dL_law_309 ⟨Nat.le_of_ble_eq_true rfl, Nat.le_of_ble_eq_true rfl⟩ (fun w2 u2 H locs hw2 hP hD hS => ?_)
        have hP : va_P D vwCl (wD aD cI cP pc pf g l_ h r k n b (nI 0) ct td op x y z ++ wM aM cI cZ v 0 r2 lv b2 o2) H := hP
        have hD : va_D (fun q : Nat => s.heap.size ≤ q) (wD aD cI cP pc pf g l_ h r k n b (nI 0) ct td op x y z ++ wM aM cI cZ v 0 r2 lv b2 o2) := hD
        refine lv_icmp_eq (tgt := 422) hx hb dL_law_312 (by decide) (fun _ => ?_) (fun c9 => absurd (hw1.trans hw2.symm) c9)
        exact back pc pf g l_ h r k n b ct td op x y z v 0 r2 lv b2 o2 G go lf rs td_ ct_ hpl hDp hRp _ _ hP hD hS
      · refine lv_tableIn (off := 284) (tgt := 317) hx hb dL_law_33 (by decide) (by decide) (by decide) (by decide) ?_
        refine lv_aload_n hx hb dL_law_317 rfl (lv_at hl 1 rfl) ?_
        refine lv_aload_n hx hb dL_law_318 rfl (lv_at hl 0 rfl) ?_
        refine lv_iload_n hx hb dL_law_319 rfl (lv_at hl 3 rfl) ?_
        refine lv_iconst (v := 1) hx hb dL_law_320 (by decide) ?_
        refine lv_iadd hx hb dL_law_321 ?_
        refine tp (y := nI (i + 1)) (nI_add i 1) ?_
        refine va_sld hx hb hX hbl hbA hS (hin 1 (by decide)) dL_law_322 ?_
        refine lv_aload_n hx hb dL_law_323 rfl (lv_at hl 0 rfl) ?_
        refine lv_iload_n hx hb dL_law_324 rfl (lv_at hl 3 rfl) ?_
        refine lv_iconst (v := 2) hx hb dL_law_325 (by decide) ?_
        refine lv_iadd hx hb dL_law_326 ?_
        refine tp (y := nI (i + 2)) (nI_add i 2) ?_
        refine va_sld hx hb hX hbl hbA hS (hin 2 (by decide)) dL_law_327 ?_
        refine cl_Vi [] (wM aM cI cZ v t2 r2 lv b2 o2) (As := [.int (xs (nI (i + 1)).toNatClampNeg), .int (xs (nI (i + 2)).toNatClampNeg)]) (rest := []) (c_X4_about l D cI cP aD pc pf g l_ h r k n b ct td op x y z G go lf rs td_ ct_ hpl hDp (xs (nI (i + 1)).toNatClampNeg) (xs (nI (i + 2)).toNatClampNeg)) ⟨hx, hb, hml, hown, hts⟩ (cwV 2 hts gL_law_X4_about rfl rfl rfl (by decide +kernel) ⟨Nat.le_of_ble_eq_true rfl, Nat.le_of_ble_eq_true rfl⟩) hKD hns hP hD hS hA rfl (T := TX4) (N := 7) rfl rfl hl.1 rfl (Nat.le_of_ble_eq_true rfl) dL_law_328 ⟨Nat.le_of_ble_eq_true rfl, Nat.le_of_ble_eq_true rfl⟩ (fun w1 u1 H locs hw1 hP hD hS => ?_)
        have hP : va_P D vwCl (wD aD cI cP pc pf g l_ h r k n b (nI 0) ct td op x y z ++ wM aM cI cZ v t2 r2 lv b2 o2) H := hP
        have hD : va_D (fun q : Nat => s.heap.size ≤ q) (wD aD cI cP pc pf g l_ h r k n b (nI 0) ct td op x y z ++ wM aM cI cZ v t2 r2 lv b2 o2) := hD
        refine lv_aload_n hx hb dL_law_331 rfl (lv_at hl 2 rfl) ?_
        refine lv_aload_n hx hb dL_law_332 rfl (lv_at hl 0 rfl) ?_
        refine lv_iload_n hx hb dL_law_333 rfl (lv_at hl 3 rfl) ?_
        refine lv_iconst (v := 1) hx hb dL_law_334 (by decide) ?_
        refine lv_iadd hx hb dL_law_335 ?_
        refine tp (y := nI (i + 1)) (nI_add i 1) ?_
        refine va_sld hx hb hX hbl hbA hS (hin 1 (by decide)) dL_law_336 ?_
        refine lv_aload_n hx hb dL_law_337 rfl (lv_at hl 0 rfl) ?_
        refine lv_iload_n hx hb dL_law_338 rfl (lv_at hl 3 rfl) ?_
        refine lv_iconst (v := 2) hx hb dL_law_339 (by decide) ?_
        refine lv_iadd hx hb dL_law_340 ?_
        refine tp (y := nI (i + 2)) (nI_add i 2) ?_
        refine va_sld hx hb hX hbl hbA hS (hin 2 (by decide)) dL_law_341 ?_
        refine cl_Vi (wD aD cI cP pc pf g l_ h r k n b (nI 0) ct td op x y z) [] (As := [.int (xs (nI (i + 1)).toNatClampNeg), .int (xs (nI (i + 2)).toNatClampNeg)]) (rest := [.int w1]) (c_X5_about l D cI cZ aM v t2 r2 lv b2 o2 G go lf rs td_ ct_ hRp (xs (nI (i + 1)).toNatClampNeg) (xs (nI (i + 2)).toNatClampNeg)) ⟨hx, hb, hml, hown, hts⟩ (cwV 2 hts gL_law_X5_about rfl rfl rfl (by decide +kernel) ⟨Nat.le_of_ble_eq_true rfl, Nat.le_of_ble_eq_true rfl⟩) hKM hns hP hD hS hA rfl (T := TX5) (N := 21) rfl rfl hl.1 rfl (Nat.le_of_ble_eq_true rfl) dL_law_342 ⟨Nat.le_of_ble_eq_true rfl, Nat.le_of_ble_eq_true rfl⟩ (fun w2 u2 H locs hw2 hP hD hS => ?_)
        have hP : va_P D vwCl (wD aD cI cP pc pf g l_ h r k n b (nI 0) ct td op x y z ++ wM aM cI cZ v 0 r2 lv b2 o2) H := hP
        have hD : va_D (fun q : Nat => s.heap.size ≤ q) (wD aD cI cP pc pf g l_ h r k n b (nI 0) ct td op x y z ++ wM aM cI cZ v 0 r2 lv b2 o2) := hD
        refine lv_icmp_eq (tgt := 422) hx hb dL_law_345 (by decide) (fun _ => ?_) (fun c9 => absurd (hw1.trans hw2.symm) c9)
        exact back pc pf g l_ h r k n b ct td op x y z v 0 r2 lv b2 o2 G go lf rs td_ ct_ hpl hDp hRp _ _ hP hD hS
      · refine lv_tableIn (off := 317) (tgt := 350) hx hb dL_law_33 (by decide) (by decide) (by decide) (by decide) ?_
        refine lv_aload_n hx hb dL_law_350 rfl (lv_at hl 1 rfl) ?_
        refine lv_aload_n hx hb dL_law_351 rfl (lv_at hl 0 rfl) ?_
        refine lv_iload_n hx hb dL_law_352 rfl (lv_at hl 3 rfl) ?_
        refine lv_iconst (v := 1) hx hb dL_law_353 (by decide) ?_
        refine lv_iadd hx hb dL_law_354 ?_
        refine tp (y := nI (i + 1)) (nI_add i 1) ?_
        refine va_sld hx hb hX hbl hbA hS (hin 1 (by decide)) dL_law_355 ?_
        refine cl_Vi [] (wM aM cI cZ v t2 r2 lv b2 o2) (As := [.int (xs (nI (i + 1)).toNatClampNeg)]) (rest := []) (c_X4_first l D cI cP aD pc pf g l_ h r k n b ct td op x y z G go lf rs td_ ct_ hpl hDp (xs (nI (i + 1)).toNatClampNeg)) ⟨hx, hb, hml, hown, hts⟩ (cwV 1 hts gL_law_X4_first rfl rfl rfl (by decide +kernel) ⟨Nat.le_of_ble_eq_true rfl, Nat.le_of_ble_eq_true rfl⟩) hKD hns hP hD hS hA rfl (T := TX4) (N := 7) rfl rfl hl.1 rfl (Nat.le_of_ble_eq_true rfl) dL_law_356 ⟨Nat.le_of_ble_eq_true rfl, Nat.le_of_ble_eq_true rfl⟩ (fun w1 u1 H locs hw1 hP hD hS => ?_)
        have hP : va_P D vwCl (wD aD cI cP pc pf g l_ h r k n b (nI 0) ct td op x y z ++ wM aM cI cZ v t2 r2 lv b2 o2) H := hP
        have hD : va_D (fun q : Nat => s.heap.size ≤ q) (wD aD cI cP pc pf g l_ h r k n b (nI 0) ct td op x y z ++ wM aM cI cZ v t2 r2 lv b2 o2) := hD
        refine lv_aload_n hx hb dL_law_359 rfl (lv_at hl 2 rfl) ?_
        refine lv_aload_n hx hb dL_law_360 rfl (lv_at hl 0 rfl) ?_
        refine lv_iload_n hx hb dL_law_361 rfl (lv_at hl 3 rfl) ?_
        refine lv_iconst (v := 1) hx hb dL_law_362 (by decide) ?_
        refine lv_iadd hx hb dL_law_363 ?_
        refine tp (y := nI (i + 1)) (nI_add i 1) ?_
        refine va_sld hx hb hX hbl hbA hS (hin 1 (by decide)) dL_law_364 ?_
        refine cl_Vi (wD aD cI cP pc pf g l_ h r k n b (nI 0) ct td op x y z) [] (As := [.int (xs (nI (i + 1)).toNatClampNeg)]) (rest := [.int w1]) (c_X5_first l D cI cZ aM v t2 r2 lv b2 o2 G go lf rs td_ ct_ hRp (xs (nI (i + 1)).toNatClampNeg)) ⟨hx, hb, hml, hown, hts⟩ (cwV 1 hts gL_law_X5_first rfl rfl rfl (by decide +kernel) ⟨Nat.le_of_ble_eq_true rfl, Nat.le_of_ble_eq_true rfl⟩) hKM hns hP hD hS hA rfl (T := TX5) (N := 21) rfl rfl hl.1 rfl (Nat.le_of_ble_eq_true rfl) dL_law_365 ⟨Nat.le_of_ble_eq_true rfl, Nat.le_of_ble_eq_true rfl⟩ (fun w2 u2 H locs hw2 hP hD hS => ?_)
        have hP : va_P D vwCl (wD aD cI cP pc pf g l_ h r k n b (nI 0) ct td op x y z ++ wM aM cI cZ v 0 r2 lv b2 o2) H := hP
        have hD : va_D (fun q : Nat => s.heap.size ≤ q) (wD aD cI cP pc pf g l_ h r k n b (nI 0) ct td op x y z ++ wM aM cI cZ v 0 r2 lv b2 o2) := hD
        refine lv_icmp_eq (tgt := 422) hx hb dL_law_368 (by decide) (fun _ => ?_) (fun c9 => absurd (hw1.trans hw2.symm) c9)
        exact back pc pf g l_ h r k n b ct td op x y z v 0 r2 lv b2 o2 G go lf rs td_ ct_ hpl hDp hRp _ _ hP hD hS
      · refine lv_tableIn (off := 340) (tgt := 373) hx hb dL_law_33 (by decide) (by decide) (by decide) (by decide) ?_
        refine lv_aload_n hx hb dL_law_373 rfl (lv_at hl 1 rfl) ?_
        refine lv_aload_n hx hb dL_law_374 rfl (lv_at hl 0 rfl) ?_
        refine lv_iload_n hx hb dL_law_375 rfl (lv_at hl 3 rfl) ?_
        refine lv_iconst (v := 1) hx hb dL_law_376 (by decide) ?_
        refine lv_iadd hx hb dL_law_377 ?_
        refine tp (y := nI (i + 1)) (nI_add i 1) ?_
        refine va_sld hx hb hX hbl hbA hS (hin 1 (by decide)) dL_law_378 ?_
        refine cl_Vi [] (wM aM cI cZ v t2 r2 lv b2 o2) (As := [.int (xs (nI (i + 1)).toNatClampNeg)]) (rest := []) (c_X4_row l D cI cP aD pc pf g l_ h r k n b ct td op x y z G go lf rs td_ ct_ hpl hDp (xs (nI (i + 1)).toNatClampNeg)) ⟨hx, hb, hml, hown, hts⟩ (cwV 1 hts gL_law_X4_row rfl rfl rfl (by decide +kernel) ⟨Nat.le_of_ble_eq_true rfl, Nat.le_of_ble_eq_true rfl⟩) hKD hns hP hD hS hA rfl (T := TX4) (N := 7) rfl rfl hl.1 rfl (Nat.le_of_ble_eq_true rfl) dL_law_379 ⟨Nat.le_of_ble_eq_true rfl, Nat.le_of_ble_eq_true rfl⟩ (fun w1 u1 H locs hw1 hP hD hS => ?_)
        have hP : va_P D vwCl (wD aD cI cP pc pf g l_ h r k n b (nI 0) ct td op x y z ++ wM aM cI cZ v t2 r2 lv b2 o2) H := hP
        have hD : va_D (fun q : Nat => s.heap.size ≤ q) (wD aD cI cP pc pf g l_ h r k n b (nI 0) ct td op x y z ++ wM aM cI cZ v t2 r2 lv b2 o2) := hD
        refine lv_aload_n hx hb dL_law_382 rfl (lv_at hl 2 rfl) ?_
        refine lv_aload_n hx hb dL_law_383 rfl (lv_at hl 0 rfl) ?_
        refine lv_iload_n hx hb dL_law_384 rfl (lv_at hl 3 rfl) ?_
        refine lv_iconst (v := 1) hx hb dL_law_385 (by decide) ?_
        refine lv_iadd hx hb dL_law_386 ?_
        refine tp (y := nI (i + 1)) (nI_add i 1) ?_
        refine va_sld hx hb hX hbl hbA hS (hin 1 (by decide)) dL_law_387 ?_
        refine cl_Vi (wD aD cI cP pc pf g l_ h r k n b (nI 0) ct td op x y z) [] (As := [.int (xs (nI (i + 1)).toNatClampNeg)]) (rest := [.int w1]) (c_X5_row l D cI cZ aM v t2 r2 lv b2 o2 G go lf rs td_ ct_ hRp (xs (nI (i + 1)).toNatClampNeg)) ⟨hx, hb, hml, hown, hts⟩ (cwV 1 hts gL_law_X5_row rfl rfl rfl (by decide +kernel) ⟨Nat.le_of_ble_eq_true rfl, Nat.le_of_ble_eq_true rfl⟩) hKM hns hP hD hS hA rfl (T := TX5) (N := 21) rfl rfl hl.1 rfl (Nat.le_of_ble_eq_true rfl) dL_law_388 ⟨Nat.le_of_ble_eq_true rfl, Nat.le_of_ble_eq_true rfl⟩ (fun w2 u2 H locs hw2 hP hD hS => ?_)
        have hP : va_P D vwCl (wD aD cI cP pc pf g l_ h r k n b (nI 0) ct td op x y z ++ wM aM cI cZ v 0 r2 lv b2 o2) H := hP
        have hD : va_D (fun q : Nat => s.heap.size ≤ q) (wD aD cI cP pc pf g l_ h r k n b (nI 0) ct td op x y z ++ wM aM cI cZ v 0 r2 lv b2 o2) := hD
        refine lv_icmp_eq (tgt := 422) hx hb dL_law_391 (by decide) (fun _ => ?_) (fun c9 => absurd (hw1.trans hw2.symm) c9)
        exact back pc pf g l_ h r k n b ct td op x y z v 0 r2 lv b2 o2 G go lf rs td_ ct_ hpl hDp hRp _ _ hP hD hS
      · refine lv_tableIn (off := 363) (tgt := 396) hx hb dL_law_33 (by decide) (by decide) (by decide) (by decide) ?_
        refine lv_aload_n hx hb dL_law_396 rfl (lv_at hl 1 rfl) ?_
        refine cl_Vi [] (wM aM cI cZ v t2 r2 lv b2 o2) (As := []) (rest := []) (c_X4_rest l D cI cP aD pc pf g l_ h r k n b ct td op x y z G go lf rs td_ ct_ hpl hDp ) ⟨hx, hb, hml, hown, hts⟩ (cwV 0 hts gL_law_X4_rest rfl rfl rfl (by decide +kernel) ⟨Nat.le_of_ble_eq_true rfl, Nat.le_of_ble_eq_true rfl⟩) hKD hns hP hD hS hA rfl (T := TX4) (N := 7) rfl rfl hl.1 rfl (Nat.le_of_ble_eq_true rfl) dL_law_397 ⟨Nat.le_of_ble_eq_true rfl, Nat.le_of_ble_eq_true rfl⟩ (fun w1 u1 H locs hw1 hP hD hS => ?_)
        have hP : va_P D vwCl (wD aD cI cP pc pf g l_ h 0 k n b (nI 0) ct td op x y z ++ wM aM cI cZ v t2 r2 lv b2 o2) H := hP
        have hD : va_D (fun q : Nat => s.heap.size ≤ q) (wD aD cI cP pc pf g l_ h 0 k n b (nI 0) ct td op x y z ++ wM aM cI cZ v t2 r2 lv b2 o2) := hD
        refine lv_aload_n hx hb dL_law_400 rfl (lv_at hl 2 rfl) ?_
        refine cl_Vi (wD aD cI cP pc pf g l_ h 0 k n b (nI 0) ct td op x y z) [] (As := []) (rest := [.int w1]) (c_X5_rest l D cI cZ aM v t2 r2 lv b2 o2 G go lf rs td_ ct_ hRp ) ⟨hx, hb, hml, hown, hts⟩ (cwV 0 hts gL_law_X5_rest rfl rfl rfl (by decide +kernel) ⟨Nat.le_of_ble_eq_true rfl, Nat.le_of_ble_eq_true rfl⟩) hKM hns hP hD hS hA rfl (T := TX5) (N := 21) rfl rfl hl.1 rfl (Nat.le_of_ble_eq_true rfl) dL_law_401 ⟨Nat.le_of_ble_eq_true rfl, Nat.le_of_ble_eq_true rfl⟩ (fun w2 u2 H locs hw2 hP hD hS => ?_)
        have hP : va_P D vwCl (wD aD cI cP pc pf g l_ h 0 k n b (nI 0) ct td op x y z ++ wM aM cI cZ v 0 0 lv b2 o2) H := hP
        have hD : va_D (fun q : Nat => s.heap.size ≤ q) (wD aD cI cP pc pf g l_ h 0 k n b (nI 0) ct td op x y z ++ wM aM cI cZ v 0 0 lv b2 o2) := hD
        refine lv_icmp_eq (tgt := 422) hx hb dL_law_404 (by decide) (fun _ => ?_) (fun c9 => absurd ((hw1.trans hDp.2.2.2.1).trans (hw2.trans hRp.2.2.2.2.2.2.2).symm) c9)
        exact back pc pf g l_ h 0 k n b ct td op x y z v 0 0 lv b2 o2 G go lf 0 td_ ct_ hpl (Dp_rest hDp) (Rp_rest hRp) _ _ hP hD hS
      · refine lv_tableIn (off := 376) (tgt := 409) hx hb dL_law_33 (by decide) (by decide) (by decide) (by decide) ?_
        refine lv_aload_n hx hb dL_law_409 rfl (lv_at hl 1 rfl) ?_
        refine cl_Vi [] (wM aM cI cZ v t2 r2 lv b2 o2) (As := []) (rest := []) (c_X4_goods l D cI cP aD pc pf g l_ h r k n b ct td op x y z G go lf rs td_ ct_ hpl hDp ) ⟨hx, hb, hml, hown, hts⟩ (cwV 0 hts gL_law_X4_goods rfl rfl rfl (by decide +kernel) ⟨Nat.le_of_ble_eq_true rfl, Nat.le_of_ble_eq_true rfl⟩) hKD hns hP hD hS hA rfl (T := TX4) (N := 7) rfl rfl hl.1 rfl (Nat.le_of_ble_eq_true rfl) dL_law_410 ⟨Nat.le_of_ble_eq_true rfl, Nat.le_of_ble_eq_true rfl⟩ (fun w1 u1 H locs hw1 hP hD hS => ?_)
        have hP : va_P D vwCl (wD aD cI cP pc pf g l_ h r k n b (nI 0) ct td op x y z ++ wM aM cI cZ v t2 r2 lv b2 o2) H := hP
        have hD : va_D (fun q : Nat => s.heap.size ≤ q) (wD aD cI cP pc pf g l_ h r k n b (nI 0) ct td op x y z ++ wM aM cI cZ v t2 r2 lv b2 o2) := hD
        refine lv_aload_n hx hb dL_law_413 rfl (lv_at hl 2 rfl) ?_
        refine cl_Vi (wD aD cI cP pc pf g l_ h r k n b (nI 0) ct td op x y z) [] (As := []) (rest := [.int w1]) (c_X5_goods l D cI cZ aM v t2 r2 lv b2 o2 G go lf rs td_ ct_ hRp ) ⟨hx, hb, hml, hown, hts⟩ (cwV 0 hts gL_law_X5_goods rfl rfl rfl (by decide +kernel) ⟨Nat.le_of_ble_eq_true rfl, Nat.le_of_ble_eq_true rfl⟩) hKM hns hP hD hS hA rfl (T := TX5) (N := 21) rfl rfl hl.1 rfl (Nat.le_of_ble_eq_true rfl) dL_law_414 ⟨Nat.le_of_ble_eq_true rfl, Nat.le_of_ble_eq_true rfl⟩ (fun w2 u2 H locs hw2 hP hD hS => ?_)
        have hP : va_P D vwCl (wD aD cI cP pc pf g l_ h r k n b (nI 0) ct td op x y z ++ wM aM cI cZ v 0 r2 lv b2 o2) H := hP
        have hD : va_D (fun q : Nat => s.heap.size ≤ q) (wD aD cI cP pc pf g l_ h r k n b (nI 0) ct td op x y z ++ wM aM cI cZ v 0 r2 lv b2 o2) := hD
        refine lv_icmp_eq (tgt := 422) hx hb dL_law_417 (by decide) (fun _ => ?_) (fun c9 => absurd (hw1.trans hw2.symm) c9)
        exact back pc pf g l_ h r k n b ct td op x y z v 0 r2 lv b2 o2 G go lf rs td_ ct_ hpl hDp hRp _ _ hP hD hS
      · refine lv_tableOut (tgt := 422) hx hb dL_law_33 (by decide) (by decide) ?_
        exact back pc pf g l_ h r k n b ct td op x y z v t2 r2 lv b2 o2 G go lf rs td_ ct_ hpl hDp hRp _ _ hP hD hS
      · refine lv_tableOut (tgt := 422) hx hb dL_law_33 (by decide) (by decide) ?_
        exact back pc pf g l_ h r k n b ct td op x y z v t2 r2 lv b2 o2 G go lf rs td_ ct_ hpl hDp hRp _ _ hP hD hS
      · refine lv_tableOut (tgt := 422) hx hb dL_law_33 (by decide) (by decide) ?_
        exact back pc pf g l_ h r k n b ct td op x y z v t2 r2 lv b2 o2 G go lf rs td_ ct_ hpl hDp hRp _ _ hP hD hS
      · refine lv_tableOut (tgt := 422) hx hb dL_law_33 (by decide) (by decide) ?_
        exact back pc pf g l_ h r k n b ct td op x y z v t2 r2 lv b2 o2 G go lf rs td_ ct_ hpl hDp hRp _ _ hP hD hS
set_option maxHeartbeats 4000000 in
set_option maxRecDepth 100000 in
theorem whole_start {p : Program} {e : Env} {s : State} {m : MethodId} {below : List Frame} {meth : Method} {c : Code} (l : Launch) {b L : Nat} {xs : Nat → Int32} (hL : L ≤ 3072) (C0 : lw_At p s m meth c b L xs) : W p l e room_1 s m #[Value.ref b] below meth c s.heap [] 0 0 (lw_Z below #[Value.ref b] s) (entryFrame m ([Value.ref b] : List Value).toArray 4) := by
  obtain ⟨hx, hb, hr, hml, hown, hts0, hX, hbl, hlocks, hgv⟩ := id C0
  have hown : s.vm.findClass RL = some m.cls := hown
  have hts : ∀ w ∈ wsL_law, w.before #[Value.ref b] s = true := fun w h => hts0 w (wsL_law_in w h)
  have hns : va_Nw nsl s := va_Nw.of rfl (hts0 nsl (List.mem_of_getElem? (i := 205) (by decide +kernel)))
  have hAO : va_AO RX1 s := va_AO.of (hts0 (.arrayOver (.object RX1)) (List.mem_of_getElem? (i := 43) (by decide +kernel)))
  have hA : ∀ q : Nat, s.heap.size ≤ q → (fun q : Nat => s.heap.size ≤ q) q := fun _ h => h
  obtain ⟨c0, iS0, hKn0⟩ := u_known (C := RX0) (T := TX0) (N := 4) (n := 4) hts inlX0 (hts0 (.instantiable RX0 4) (List.mem_of_getElem? (i := 77) (by decide +kernel)))
  obtain ⟨c1, iS1, hKn1⟩ := u_known (C := RX1) (T := TX1) (N := 2) (n := 2) hts inlX1 (hts0 (.instantiable RX1 2) (List.mem_of_getElem? (i := 44) (by decide +kernel)))
  obtain ⟨c2, iS2, hKn2⟩ := u_known (C := RX2) (T := TX2) (N := 10) (n := 10) hts inlX2 (hts0 (.instantiable RX2 10) (List.mem_of_getElem? (i := 96) (by decide +kernel)))
  obtain ⟨c3, iS3, hKn3⟩ := u_known (C := RX3) (T := TX3) (N := 4) (n := 4) hts inlX3 (hts0 (.instantiable RX3 4) (List.mem_of_getElem? (i := 58) (by decide +kernel)))
  obtain ⟨c4, iS4, hKn4⟩ := u_known (C := RX4) (T := TX4) (N := 7) (n := 7) hts inlX4 (hts0 (.instantiable RX4 7) (List.mem_of_getElem? (i := 35) (by decide +kernel)))
  obtain ⟨c5, iS5, hKn5⟩ := u_known (C := RX5) (T := TX5) (N := 21) (n := 21) hts inlX5 (hts0 (.instantiable RX5 21) (List.mem_of_getElem? (i := 443) (by decide +kernel)))
  obtain ⟨cI, hcI⟩ := ko_prim (ty := .int) (hts0 (.arrayClass .int) (List.mem_of_getElem? (i := 56) (by decide +kernel))) (fun C h => by cases h)
  obtain ⟨cZ, hcZ⟩ := ko_prim (ty := .boolean) (hts0 (.arrayClass .boolean) (List.mem_of_getElem? (i := 512) (by decide +kernel))) (fun C h => by cases h)
  obtain ⟨cP, hcP⟩ := ko_ref (C := RX1) (va_AO.use (A := #[Value.ref b]) hAO)
  obtain ⟨D, hKc⟩ : ∃ D : va_G, ∀ (k : Nat) (q : vw_C), vwCl[k]? = some q → u_Kn s q.1 q.2.1 q.2.2 (D.1 k) (D.2 k) := by
    refine ⟨(fun k => match k with | 0 => c0 | 1 => c1 | 2 => c2 | 3 => c3 | 4 => c4 | _ => c5, fun k => match k with | 0 => iS0 | 1 => iS1 | 2 => iS2 | 3 => iS3 | 4 => iS4 | _ => iS5), ?_⟩
    intro k q hq
    match k, hq with
    | 0, hq => cases hq; exact hKn0
    | 1, hq => cases hq; exact hKn1
    | 2, hq => cases hq; exact hKn2
    | 3, hq => cases hq; exact hKn3
    | 4, hq => cases hq; exact hKn4
    | 5, hq => cases hq; exact hKn5
    | k + 6, hq => simp [vwCl] at hq
  have hK : va_K D vwCl [(cI, .int), (cP, .object RX1), (cZ, .boolean)] s := by
    refine ⟨hKc, fun k q hq => ?_⟩
    match k, hq with
    | 0, hq => cases hq; exact hcI
    | 1, hq => cases hq; exact hcP
    | 2, hq => cases hq; exact hcZ
    | k + 3, hq => simp at hq
  have hZ : zs (fun q : Nat => s.heap.size ≤ q) s s.heap := by
    have hfl := flat_of_before _ hgv
    have hnA : ∀ a : Nat, a < s.heap.size → ¬ (fun q : Nat => s.heap.size ≤ q) a := fun a h => Nat.not_le.mpr h
    obtain ⟨t, ht, hT⟩ := va_Tof (tm := .static "HeldShelves" "NAMED" "[I") (ty := .int) (N := 10) (f := fun j => .int (NMI j)) (A := fun q : Nat => s.heap.size ≤ q) (by decide) (hfl _ (by decide +kernel)) (va_eqt (hfl (.eq (.length (.static "HeldShelves" "NAMED" "[I")) (.int 10)) (by decide +kernel))) (fun j hj => by
      rcases (show j = 0 ∨ j = 1 ∨ j = 2 ∨ j = 3 ∨ j = 4 ∨ j = 5 ∨ j = 6 ∨ j = 7 ∨ j = 8 ∨ j = 9 by omega) with rfl | rfl | rfl | rfl | rfl | rfl | rfl | rfl | rfl | rfl
      · exact va_eqt (hfl (.eq (.elem (.static "HeldShelves" "NAMED" "[I") (.int 0)) (.int 1)) (by decide +kernel))
      · exact va_eqt (hfl (.eq (.elem (.static "HeldShelves" "NAMED" "[I") (.int 1)) (.int 1)) (by decide +kernel))
      · exact va_eqt (hfl (.eq (.elem (.static "HeldShelves" "NAMED" "[I") (.int 2)) (.int 0)) (by decide +kernel))
      · exact va_eqt (hfl (.eq (.elem (.static "HeldShelves" "NAMED" "[I") (.int 3)) (.int 2)) (by decide +kernel))
      · exact va_eqt (hfl (.eq (.elem (.static "HeldShelves" "NAMED" "[I") (.int 4)) (.int 2)) (by decide +kernel))
      · exact va_eqt (hfl (.eq (.elem (.static "HeldShelves" "NAMED" "[I") (.int 5)) (.int 2)) (by decide +kernel))
      · exact va_eqt (hfl (.eq (.elem (.static "HeldShelves" "NAMED" "[I") (.int 6)) (.int 3)) (by decide +kernel))
      · exact va_eqt (hfl (.eq (.elem (.static "HeldShelves" "NAMED" "[I") (.int 7)) (.int 1)) (by decide +kernel))
      · exact va_eqt (hfl (.eq (.elem (.static "HeldShelves" "NAMED" "[I") (.int 8)) (.int 1)) (by decide +kernel))
      · exact va_eqt (hfl (.eq (.elem (.static "HeldShelves" "NAMED" "[I") (.int 9)) (.int 0)) (by decide +kernel))) hnA
    exact ⟨t, va_Zref (hts0 (.laysStatic RX4 "NAMED" "[I") (List.mem_of_getElem? (i := 162) (by decide +kernel))) (hts0 (.initialized RX4) (List.mem_of_getElem? (i := 27) (by decide +kernel))) ht hnA, hT⟩
  have hS : va_S (fun q : Nat => s.heap.size ≤ q) s.heap s.heap [] := va_S.rf
  have hP : va_P D vwCl [] s.heap := fun k q h => by simp at h
  have hD : va_D (fun q : Nat => s.heap.size ≤ q) [] := ⟨fun i j p q h => by simp at h, fun k q h => by simp at h⟩
  have hl := lv_entry ([.ref b]) (n := 4) (Nat.le_of_ble_eq_true rfl)
  rw [lg_entry_eq]
  generalize (lg_sl ([.ref b]) ++ List.replicate (4 - (lg_sl ([.ref b])).length) Slot.unset).toArray = ls at hl ⊢
  have hl : lv_has ls 4 [(0, .ref b)] := hl
  refine va_new (ci := 4) (fs := [.null, .null, .null, .null, .int 0, .int 0, .int 0]) (C := RX4) (T := TX4) (N := 7) hx hb hts inlX4 tyX4 tyX4_ok hown (hts0 (.classLink RL 7 RX4) (List.mem_of_getElem? (i := 34) (by decide +kernel))) (hts0 (.instantiable RX4 7) (List.mem_of_getElem? (i := 35) (by decide +kernel))) (hts0 (.initialized RX4) (List.mem_of_getElem? (i := 27) (by decide +kernel))) hK hP hD hS hA rfl (fun j hj => by rcases (show j = 0 ∨ j = 1 ∨ j = 2 ∨ j = 3 ∨ j = 4 ∨ j = 5 ∨ j = 6 by omega) with rfl | rfl | rfl | rfl | rfl | rfl | rfl <;> rfl) (Nat.le_of_ble_eq_true rfl) (Nat.le_of_ble_eq_true rfl) dL_law_0 (fun qD H hP hD hS => ?_)
  refine W.widen (k := 1) (n := 7) (Nat.le_of_ble_eq_true rfl) (Nat.le_of_ble_eq_true rfl) ?_
  refine lv_dup hx hb dL_law_3 rfl ?_
  refine cl_In [] [] (rest := [.ref qD]) (c_X4_init l D cI cP qD) ⟨hx, hb, hml, hown, hts⟩ (cwI 0 hts gL_law_X4_init rfl rfl rfl (hts0 (.initialized RX4) (List.mem_of_getElem? (i := 27) (by decide +kernel))) (hts0 (.methodLink RL 9 yX4_init) (List.mem_of_getElem? (i := 36) (by decide +kernel))) (hts0 (.instanceMethod yX4_init) (List.mem_of_getElem? (i := 37) (by decide +kernel))) rfl (by decide +kernel) ⟨Nat.le_of_ble_eq_true rfl, Nat.le_of_ble_eq_true rfl⟩) (hK.sub [0, 1] rfl) hns hAO hP hD hS hA hl.1 rfl (Nat.le_of_ble_eq_true rfl) dL_law_4 ⟨Nat.le_of_ble_eq_true rfl, Nat.le_of_ble_eq_true rfl⟩ (fun aD H locs hw4 hP hD hS => ?_)
  refine W.widen (k := 24) (n := 509) (Nat.le_of_ble_eq_true rfl) (Nat.le_of_ble_eq_true rfl) ?_
  have hP : va_P D vwCl (wD aD cI cP (fun _ => 0) (fun _ _ => 0) (upd (upd (upd (upd (fun _ => 0) 4 (-1)) 5 (-1)) 6 (-1)) 7 (-1)) (fun _ => 0) (fun _ => 0) 0 (fun _ => 0) (fun _ => 0) (fun _ => 0) 0 (fun _ => 0) td0 0 0 0 0) H := hP
  have hD : va_D (fun q : Nat => s.heap.size ≤ q) (wD aD cI cP (fun _ => 0) (fun _ _ => 0) (upd (upd (upd (upd (fun _ => 0) 4 (-1)) 5 (-1)) 6 (-1)) 7 (-1)) (fun _ => 0) (fun _ => 0) 0 (fun _ => 0) (fun _ => 0) (fun _ => 0) 0 (fun _ => 0) td0 0 0 0 0) := hD
  refine lv_astore_n (lv' := [(1, .ref qD), (0, .ref b)]) hx hb dL_law_7 rfl hl (by decide) rfl (fun ls hl => ?_)
  refine va_new (ci := 5) (fs := [.int 0, .null, .null, .null, .null, .null, .null, .null, .null, .null, .int 0, .null, .null, .null, .null, .int 0, .null, .null, .null, .int 0, .int 0]) (C := RX5) (T := TX5) (N := 21) hx hb hts inlX5 tyX5 tyX5_ok hown (hts0 (.classLink RL 10 RX5) (List.mem_of_getElem? (i := 442) (by decide +kernel))) (hts0 (.instantiable RX5 21) (List.mem_of_getElem? (i := 443) (by decide +kernel))) (hts0 (.initialized RX5) (List.mem_of_getElem? (i := 32) (by decide +kernel))) hK hP hD hS hA rfl (fun j hj => by rcases (show j = 0 ∨ j = 1 ∨ j = 2 ∨ j = 3 ∨ j = 4 ∨ j = 5 ∨ j = 6 ∨ j = 7 ∨ j = 8 ∨ j = 9 ∨ j = 10 ∨ j = 11 ∨ j = 12 ∨ j = 13 ∨ j = 14 ∨ j = 15 ∨ j = 16 ∨ j = 17 ∨ j = 18 ∨ j = 19 ∨ j = 20 by omega) with rfl | rfl | rfl | rfl | rfl | rfl | rfl | rfl | rfl | rfl | rfl | rfl | rfl | rfl | rfl | rfl | rfl | rfl | rfl | rfl | rfl <;> rfl) (Nat.le_of_ble_eq_true rfl) (Nat.le_of_ble_eq_true rfl) dL_law_8 (fun qM H hP hD hS => ?_)
  refine W.widen (k := 25) (n := 530) (Nat.le_of_ble_eq_true rfl) (Nat.le_of_ble_eq_true rfl) ?_
  refine lv_dup hx hb dL_law_11 rfl ?_
  have hP : va_P D vwCl (wD aD cI cP (fun _ => 0) (fun _ _ => 0) (upd (upd (upd (upd (fun _ => 0) 4 (-1)) 5 (-1)) 6 (-1)) 7 (-1)) (fun _ => 0) (fun _ => 0) 0 (fun _ => 0) (fun _ => 0) (fun _ => 0) 0 (fun _ => 0) td0 0 0 0 0 ++ ([(qM, .inr (5, [.int 0, .null, .null, .null, .null, .null, .null, .null, .null, .null, .int 0, .null, .null, .null, .null, .int 0, .null, .null, .null, .int 0, .int 0]))] ++ [])) H := hP
  have hD : va_D (fun q : Nat => s.heap.size ≤ q) (wD aD cI cP (fun _ => 0) (fun _ _ => 0) (upd (upd (upd (upd (fun _ => 0) 4 (-1)) 5 (-1)) 6 (-1)) 7 (-1)) (fun _ => 0) (fun _ => 0) 0 (fun _ => 0) (fun _ => 0) (fun _ => 0) 0 (fun _ => 0) td0 0 0 0 0 ++ ([(qM, .inr (5, [.int 0, .null, .null, .null, .null, .null, .null, .null, .null, .null, .int 0, .null, .null, .null, .null, .int 0, .null, .null, .null, .int 0, .int 0]))] ++ [])) := hD
  refine cl_In (wD aD cI cP (fun _ => 0) (fun _ _ => 0) (upd (upd (upd (upd (fun _ => 0) 4 (-1)) 5 (-1)) 6 (-1)) 7 (-1)) (fun _ => 0) (fun _ => 0) 0 (fun _ => 0) (fun _ => 0) (fun _ => 0) 0 (fun _ => 0) td0 0 0 0 0) [] (rest := [.ref qM]) (c_X5_init l D cI cZ qM) ⟨hx, hb, hml, hown, hts⟩ (cwI 0 hts gL_law_X5_init rfl rfl rfl (hts0 (.initialized RX5) (List.mem_of_getElem? (i := 32) (by decide +kernel))) (hts0 (.methodLink RL 12 yX5_init) (List.mem_of_getElem? (i := 444) (by decide +kernel))) (hts0 (.instanceMethod yX5_init) (List.mem_of_getElem? (i := 445) (by decide +kernel))) rfl (by decide +kernel) ⟨Nat.le_of_ble_eq_true rfl, Nat.le_of_ble_eq_true rfl⟩) (hK.sub [0, 2] rfl) hns hAO hP hD hS hA hl.1 rfl (Nat.le_of_ble_eq_true rfl) dL_law_12 ⟨Nat.le_of_ble_eq_true rfl, Nat.le_of_ble_eq_true rfl⟩ (fun aM H locs hw12 hP hD hS => ?_)
  refine W.widen (k := 41) (n := 1940) (Nat.le_of_ble_eq_true rfl) (Nat.le_of_ble_eq_true rfl) ?_
  refine lv_astore_n (lv' := [(2, .ref qM), (1, .ref qD), (0, .ref b)]) hx hb dL_law_15 rfl hl (by decide) rfl (fun ls hl => ?_)
  refine lv_iconst (v := 0) hx hb dL_law_16 (by decide) ?_
  refine lv_istore_n (lv' := [(3, .int 0), (2, .ref qM), (1, .ref qD), (0, .ref b)]) hx hb dL_law_17 rfl hl (by decide) rfl (fun ls hl => ?_)
  rw [← hw4, ← hw12] at hl
  exact law_loop (aD := aD) (aM := aM) (cI := cI) (cP := cP) (cZ := cZ) hL C0 hK hZ (L + 1) 0 (Nat.zero_le L) (by omega) (fun _ => 0) (fun _ _ => 0) (upd (upd (upd (upd (fun _ => 0) 4 (-1)) 5 (-1)) 6 (-1)) 7 (-1)) (fun _ => 0) (fun _ => 0) 0 (fun _ => 0) (fun _ => 0) (fun _ => 0) (fun _ => 0) td0 0 0 0 0 (fun k => if k = 6 then upd (upd (upd (upd (fun _ => 0) 0 1) 1 1) 2 1) 3 1 else if k = 11 then upd (upd (fun _ => 0) 1 (-4)) 2 (-4) else (fun _ => 0)) 0 0 0 0 0 G00 (fun _ => 0) (fun _ => 0) 0 td0 (fun _ => 0) Dpl_0 Dp_0 Rp_0 _ _ hP hD hS ls (lv_sub hl [3, 2, 1, 0] rfl)
