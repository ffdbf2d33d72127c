/-! the face in numbers -/
noncomputable def F_clear (G : GP) (x : Int32) : Int32 × GP :=
  haveI := Classical.propDecidable (inN x 6)
  if inN x 6 then (nI (G.1 (dg x)), (va_up G.1 (dg x) 0, G.2)) else (-1, G)
theorem F_clear_in {G : GP} {q : Nat} (hq : q < 6) : F_clear G (nI q) = (nI (G.1 q), (va_up G.1 q 0, G.2)) := by
  rw [F_clear, if_pos ((inN_nI (by omega) (by omega)).mpr hq), dg_nI (by omega)]
theorem F_clear_no {G : GP} {x : Int32} (h : ¬ inN x 6) : F_clear G x = (-1, G) := by rw [F_clear, if_neg h]
theorem rpl_clear {v : Nat → Nat → Int32} {pn : Nat → Nat} {cd : Nat → Nat → Nat} {q : Nat} (h : rpl v pn cd) : rpl (va_up v 1 (upd (v 1) q 0)) (va_up pn q 0) cd := by
  intro p hp
  by_cases e : p = q
  · subst e
    refine ⟨?_, ?_, ?_⟩
    · show upd (v 1) p 0 p = nI (va_up pn p 0 p)
      rw [pk_us, va_up_self]; rfl
    · rw [va_up_self]; omega
    · intro i hi; rw [va_up_self] at hi; omega
  · obtain ⟨h1, h2, h3⟩ := h p hp
    rw [va_up_ne _ _ e]
    refine ⟨?_, h2, h3⟩
    show upd (v 1) q 0 p = nI (pn p)
    rw [pk_un e]; exact h1
theorem Dpl_clear {pc : Nat → Int32} {pf : Nat → Nat → Int32} {G : GP} {q : Nat} (h : Dpl pc pf G) : Dpl (upd pc q 0) (va_up pf q (pf q)) (va_up G.1 q 0, G.2) := by
  intro p hp
  by_cases e : p = q
  · subst e
    refine ⟨?_, ?_, ?_⟩
    · show upd pc p 0 p = nI (va_up G.1 p 0 p)
      rw [pk_us, va_up_self]; rfl
    · show va_up G.1 p 0 p ≤ 40
      rw [va_up_self]; omega
    · intro i hi
      have hi : i < va_up G.1 p 0 p := hi
      rw [va_up_self] at hi; omega
  · obtain ⟨h1, h2⟩ := h p hp
    refine ⟨?_, ?_⟩
    · show upd pc q 0 p = nI (va_up G.1 q 0 p)
      rw [pk_un e, va_up_ne _ _ e]; exact h1
    · show pok (va_up pf q (pf q) p) (va_up G.1 q 0 p) (G.2.1 p)
      rw [va_up_ne _ _ e, va_up_ne _ _ e]; exact h2
noncomputable def F_closed (G : GP) (x : Int32) : Int32 :=
  haveI := Classical.propDecidable
  if inN x 6 then (if clo (G.1 (dg x)) (G.2.1 (dg x)) then 1 else 0) else -1
theorem F_closed_1 {G : GP} {q : Nat} (hq : q < 6) (hc : clo (G.1 q) (G.2.1 q)) : F_closed G (nI q) = 1 := by
  rw [F_closed, if_pos ((inN_nI (by omega) (by omega)).mpr hq), dg_nI (by omega), if_pos hc]
theorem F_closed_0 {G : GP} {q : Nat} (hq : q < 6) (hc : ¬ clo (G.1 q) (G.2.1 q)) : F_closed G (nI q) = 0 := by
  rw [F_closed, if_pos ((inN_nI (by omega) (by omega)).mpr hq), dg_nI (by omega), if_neg hc]
theorem F_closed_no {G : GP} {x : Int32} (h : ¬ inN x 6) : F_closed G x = -1 := by rw [F_closed, if_neg h]
noncomputable def F_about (G : GP) (go : Nat → Nat) (lf : Nat → Int32) (x y : Int32) : Int32 :=
  haveI := Classical.propDecidable (inN x 8 ∧ inN y 2)
  if inN x 8 ∧ inN y 2 then (if G.2.2 (dg x) then (if y = 0 then nI (go (dg x)) else lf (dg x)) else -3) else -1
theorem F_about_no {G : GP} {go : Nat → Nat} {lf : Nat → Int32} {x y : Int32} (h : ¬ (inN x 8 ∧ inN y 2)) : F_about G go lf x y = -1 := by rw [F_about, if_neg h]
theorem F_about_in {G : GP} {go : Nat → Nat} {lf : Nat → Int32} {s : Nat} {y : Int32} (hs : s < 8) (hy : inN y 2) : F_about G go lf (nI s) y = (if G.2.2 s then (if y = 0 then nI (go s) else lf s) else -3) := by
  rw [F_about, if_pos ⟨(inN_nI (by omega) (by omega)).mpr hs, hy⟩, dg_nI (by omega)]
noncomputable def F_shelf (G : GP) (go : Nat → Nat) (lf : Nat → Int32) (x y : Int32) : Int32 × GP × (Nat → Nat) × (Nat → Int32) :=
  haveI := Classical.propDecidable (inN x 8 ∧ -1 ≤ y ∧ y ≤ 1000)
  if inN x 8 ∧ -1 ≤ y ∧ y ≤ 1000 then ((if G.2.2 (dg x) then nI (go (dg x)) else -4), (G.1, G.2.1, va_up G.2.2 (dg x) (decide (0 ≤ y))), va_up go (dg x) (dg y), upd lf (dg x) 0) else (-1, G, go, lf)
theorem F_shelf_no {G : GP} {go : Nat → Nat} {lf : Nat → Int32} {x y : Int32} (h : ¬ (inN x 8 ∧ -1 ≤ y ∧ y ≤ 1000)) : F_shelf G go lf x y = (-1, G, go, lf) := by rw [F_shelf, if_neg h]
theorem F_shelf_in {G : GP} {go : Nat → Nat} {lf : Nat → Int32} {s : Nat} {y : Int32} (hs : s < 8) (h1 : -1 ≤ y) (h2 : y ≤ 1000) : F_shelf G go lf (nI s) y = ((if G.2.2 s then nI (go s) else -4), (G.1, G.2.1, va_up G.2.2 s (decide (0 ≤ y))), va_up go s (dg y), upd lf s 0) := by
  rw [F_shelf, if_pos ⟨(inN_nI (by omega) (by omega)).mpr hs, h1, h2⟩, dg_nI (by omega)]
theorem y_pos {y : Int32} (h0 : 0 ≤ y) (h2 : y ≤ 1000) : ∃ m : Nat, m ≤ 1000 ∧ y = nI m := by
  obtain ⟨j, hj, rfl⟩ := nI_of (Int32.not_lt.mpr h0)
  exact ⟨j, (nI_leI (a := j) (b := 1000) (by omega) (by omega)).mp h2, rfl⟩
theorem y_neg {y : Int32} (h0 : y < 0) (h1 : -1 ≤ y) : y = -1 := by
  rw [i_eq]; rw [i_lt] at h0; rw [i_le] at h1
  have e1 : (0 : Int32).toInt = 0 := by decide
  have e2 : (-1 : Int32).toInt = -1 := by decide
  omega
theorem gok_shelf {g : Nat → Int32} {th : Nat → Bool} {go : Nat → Nat} {s : Nat} {y : Int32} (h : gok g th go) (h1 : -1 ≤ y) (h2 : y ≤ 1000) : gok (upd g s y) (va_up th s (decide (0 ≤ y))) (va_up go s (dg y)) := by
  intro q hq
  by_cases e : q = s
  · subst e
    simp only [upd, va_up, if_true]
    by_cases h0 : 0 ≤ y
    · obtain ⟨m, hm, rfl⟩ := y_pos h0 h2
      rw [dg_nI (by omega), decide_eq_true h0]
      exact ⟨rfl, hm⟩
    · have hy := y_neg (Int32.not_le.mp h0) h1
      subst hy
      exact ⟨by decide, by decide⟩
  · simp only [upd, va_up, e, if_false]
    exact h q hq
theorem gk_shelf {g : Nat → Int32} {go : Nat → Nat} {s : Nat} {y x : Int32} (h : gk g go) (h2 : y ≤ 1000) (hx : x = (if y < 0 then 0 else y)) : gk (upd g s x) (va_up go s (dg y)) := by
  intro q hq
  by_cases e : q = s
  · subst e
    simp only [upd, va_up, if_true]
    by_cases h0 : 0 ≤ y
    · rw [if_neg (Int32.not_lt.mpr h0)] at hx
      obtain ⟨m, hm, rfl⟩ := y_pos h0 h2
      rw [dg_nI (by omega)]
      exact ⟨hx, hm⟩
    · have h3 := Int32.not_le.mp h0
      rw [if_pos h3] at hx
      have h4 : dg y = 0 := by
        have : y.toInt < 0 := by rw [i_lt] at h3; exact h3
        show y.toInt.toNat = 0
        omega
      rw [h4]
      exact ⟨hx, by omega⟩
  · simp only [upd, va_up, e, if_false]
    exact h q hq
theorem zk_shelf {z : Nat → Int32} {th : Nat → Bool} {s : Nat} {y x : Int32} (h : zk z th) (hx : x = (if y < 0 then 0 else 1)) : zk (upd z s x) (va_up th s (decide (0 ≤ y))) := by
  intro q hq
  by_cases e : q = s
  · subst e
    simp only [upd, va_up, if_true]
    by_cases h0 : 0 ≤ y
    · rw [if_neg (Int32.not_lt.mpr h0)] at hx
      rw [decide_eq_true h0]; exact hx
    · rw [if_pos (Int32.not_le.mp h0)] at hx
      rw [decide_eq_false h0]; exact hx
  · simp only [upd, va_up, e, if_false]
    exact h q hq
/-! act -/
def nmA (k : Nat) : Prop := k ≠ 2 ∧ k ≠ 9
def nmB (k : Nat) : Prop := 3 ≤ k ∧ k ≤ 6
def nmC (k : Nat) : Prop := k = 6
def fitP (k : Nat) (a b c : Int32) : Prop := (nmA k → inN a 10) ∧ (nmB k → inN b 10) ∧ (nmC k → inN c 10) ∧ (k = 7 → 7 ≤ dg a)
noncomputable def pick (P : Prop) (n : Nat) : Nat :=
  haveI := Classical.propDecidable P
  if P then n else 0
theorem pick_y {P : Prop} {n : Nat} (h : P) : pick P n = n := by rw [pick, if_pos h]
theorem pick_n {P : Prop} {n : Nat} (h : ¬ P) : pick P n = 0 := by rw [pick, if_neg h]
noncomputable def cdA (k : Nat) (a b c : Int32) : Nat := k * 1000 + pick (nmA k) (dg a) * 100 + pick (nmB k) (dg b) * 10 + pick (nmC k) (dg c)
theorem pick_10 {P : Prop} {a : Int32} (h : P → inN a 10) (h10 : ∀ {a : Int32}, inN a 10 → dg a < 10) : pick P (dg a) < 10 := by
  by_cases q : P
  · rw [pick_y q]; exact h10 (h q)
  · rw [pick_n q]; omega
noncomputable def F_act (G : GP) (x k a b c : Int32) : Int32 × GP :=
  haveI := Classical.propDecidable
  if inN x 6 ∧ inN k 10 ∧ fitP (dg k) a b c then
    (if G.1 (dg x) = 40 then (-2, G) else (nI (G.1 (dg x)), (va_up G.1 (dg x) (G.1 (dg x) + 1), va_up G.2.1 (dg x) (va_up (G.2.1 (dg x)) (G.1 (dg x)) (cdA (dg k) a b c)), G.2.2)))
  else (-1, G)
theorem F_act_no {G : GP} {x k a b c : Int32} (h : ¬ (inN x 6 ∧ inN k 10 ∧ fitP (dg k) a b c)) : F_act G x k a b c = (-1, G) := by rw [F_act, if_neg h]
theorem F_act_full {G : GP} {q kk : Nat} {a b c : Int32} (hq : q < 6) (hk : kk < 10) (hf : fitP kk a b c) (h40 : G.1 q = 40) : F_act G (nI q) (nI kk) a b c = (-2, G) := by
  have e1 : dg (nI q) = q := dg_nI (by omega)
  have e2 : dg (nI kk) = kk := dg_nI (by omega)
  rw [F_act, if_pos ⟨(inN_nI (by omega) (by omega)).mpr hq, (inN_nI (by omega) (by omega)).mpr hk, by rw [e2]; exact hf⟩, e1, if_pos h40]
theorem F_act_in {G : GP} {q kk : Nat} {a b c : Int32} (hq : q < 6) (hk : kk < 10) (hf : fitP kk a b c) (h40 : ¬ G.1 q = 40) : F_act G (nI q) (nI kk) a b c = (nI (G.1 q), (va_up G.1 q (G.1 q + 1), va_up G.2.1 q (va_up (G.2.1 q) (G.1 q) (cdA kk a b c)), G.2.2)) := by
  have e1 : dg (nI q) = q := dg_nI (by omega)
  have e2 : dg (nI kk) = kk := dg_nI (by omega)
  rw [F_act, if_pos ⟨(inN_nI (by omega) (by omega)).mpr hq, (inN_nI (by omega) (by omega)).mpr hk, by rw [e2]; exact hf⟩, e1, e2, if_neg h40]
theorem in79 {a : Int32} : (7 ≤ a ∧ a ≤ 9) ↔ (inN a 10 ∧ 7 ≤ dg a) := by
  constructor
  · rintro ⟨h1, h2⟩
    have h0 : 0 ≤ a := by
      rw [i_le] at h1 ⊢
      have e1 : (0 : Int32).toInt = 0 := by decide
      have e2 : (7 : Int32).toInt = 7 := by decide
      omega
    have h3 := inN_c (m := 9) (by decide) rfl h0 h2
    obtain ⟨j, hj, rfl⟩ := h3
    refine ⟨⟨j, hj, rfl⟩, ?_⟩
    rw [dg_nI (by omega)]
    exact (nI_leI (a := 7) (b := j) (by omega) (by omega)).mp h1
  · rintro ⟨⟨j, hj, rfl⟩, h⟩
    rw [dg_nI (by omega)] at h
    exact ⟨(nI_leI (a := 7) (b := j) (by omega) (by omega)).mpr h, (nI_leI (a := j) (b := 9) (by omega) (by omega)).mpr (by omega)⟩
theorem dg10 {a : Int32} (h : inN a 10) : dg a < 10 ∧ a = nI (dg a) := by
  obtain ⟨j, hj, rfl⟩ := h
  rw [dg_nI (by omega)]
  exact ⟨hj, rfl⟩
theorem cdA_d {k : Nat} {a b c : Int32} (hk : k < 10) (hf : fitP k a b c) : ∃ da db dc : Nat, da < 10 ∧ db < 10 ∧ dc < 10 ∧ cdA k a b c = k * 1000 + da * 100 + db * 10 + dc ∧ (nmA k → a = nI da) ∧ (nmB k → b = nI db) ∧ (nmC k → c = nI dc) ∧ (¬ nmA k → da = 0) ∧ (¬ nmB k → db = 0) ∧ (¬ nmC k → dc = 0) := by
  refine ⟨pick (nmA k) (dg a), pick (nmB k) (dg b), pick (nmC k) (dg c), pick_10 hf.1 (fun h => (dg10 h).1), pick_10 hf.2.1 (fun h => (dg10 h).1), pick_10 hf.2.2.1 (fun h => (dg10 h).1), rfl, ?_, ?_, ?_, fun q => pick_n q, fun q => pick_n q, fun q => pick_n q⟩
  · intro q; rw [pick_y q]; exact (dg10 (hf.1 q)).2
  · intro q; rw [pick_y q]; exact (dg10 (hf.2.1 q)).2
  · intro q; rw [pick_y q]; exact (dg10 (hf.2.2.1 q)).2
theorem rpl_act {v : Nat → Nat → Int32} {pn : Nat → Nat} {cd : Nat → Nat → Nat} {q kk : Nat} {a b c : Int32} (h : rpl v pn cd) (hq : q < 6) (hk : kk < 10) (hf : fitP kk a b c) (h40 : pn q < 40) :
    rpl (va_up (va_up (va_up (va_up (va_up v 2 (upd (v 2) (40 * q + pn q) (nI kk))) 3 (upd (v 3) (40 * q + pn q) a)) 4 (upd (v 4) (40 * q + pn q) b)) 5 (upd (v 5) (40 * q + pn q) c)) 1 (upd (v 1) q (nI (pn q + 1)))) (va_up pn q (pn q + 1)) (va_up cd q (va_up (cd q) (pn q) (cdA kk a b c))) := by
  obtain ⟨da, db, dc, e1, e2, e3, e4, ha, hb, hc, _, _, _⟩ := cdA_d hk hf
  intro p hp
  obtain ⟨h1, h2, h3⟩ := h p hp
  by_cases e : p = q
  · subst e
    refine ⟨?_, ?_, ?_⟩
    · show upd (v 1) p (nI (pn p + 1)) p = nI (va_up pn p (pn p + 1) p)
      rw [pk_us, va_up_self]
    · rw [va_up_self]; omega
    · intro i hi
      rw [va_up_self] at hi
      rw [va_up_self]
      show upd (v 2) (40 * p + pn p) (nI kk) (40 * p + i) = _ ∧ _ ∧ (_ → _ → upd (v 3) (40 * p + pn p) a (40 * p + i) = _) ∧ (_ → _ → upd (v 4) (40 * p + pn p) b (40 * p + i) = _) ∧ (_ → upd (v 5) (40 * p + pn p) c (40 * p + i) = _)
      by_cases ei : i = pn p
      · subst ei
        rw [va_up_self, pk_us, pk_us, pk_us, pk_us, e4]
        have q1 : (kk * 1000 + da * 100 + db * 10 + dc) / 1000 = kk := by omega
        have q2 : (kk * 1000 + da * 100 + db * 10 + dc) / 100 % 10 = da := by omega
        have q3 : (kk * 1000 + da * 100 + db * 10 + dc) / 10 % 10 = db := by omega
        have q4 : (kk * 1000 + da * 100 + db * 10 + dc) % 10 = dc := by omega
        rw [q1, q2, q3, q4]
        exact ⟨rfl, by omega, fun z1 z2 => ha ⟨z1, z2⟩, fun z1 z2 => hb ⟨z1, z2⟩, fun z => hc z⟩
      · rw [va_up_ne _ _ ei, pk_un (by omega), pk_un (by omega), pk_un (by omega), pk_un (by omega)]
        exact h3 i (by omega)
  · rw [va_up_ne _ _ e, va_up_ne _ _ e]
    refine ⟨?_, h2, ?_⟩
    · show upd (v 1) q (nI (pn q + 1)) p = nI (pn p)
      rw [pk_un e]; exact h1
    · intro i hi
      show upd (v 2) (40 * q + pn q) (nI kk) (40 * p + i) = _ ∧ _ ∧ (_ → _ → upd (v 3) (40 * q + pn q) a (40 * p + i) = _) ∧ (_ → _ → upd (v 4) (40 * q + pn q) b (40 * p + i) = _) ∧ (_ → upd (v 5) (40 * q + pn q) c (40 * p + i) = _)
      have ne : 40 * p + i ≠ 40 * q + pn q := by omega
      rw [pk_un ne, pk_un ne, pk_un ne, pk_un ne]
      exact h3 i hi
theorem Dpl_act {pc : Nat → Int32} {pf : Nat → Nat → Int32} {G : GP} {q kk : Nat} {a b c : Int32} {m : Int32} (h : Dpl pc pf G) (hq : q < 6) (hk : kk < 10) (hf : fitP kk a b c) (h40 : G.1 q < 40) (hm : m = nI (cdA kk a b c)) :
    Dpl (upd pc q (nI (G.1 q + 1))) (va_up pf q (upd (pf q) (G.1 q) m)) (va_up G.1 q (G.1 q + 1), va_up G.2.1 q (va_up (G.2.1 q) (G.1 q) (cdA kk a b c)), G.2.2) := by
  obtain ⟨da, db, dc, e1, e2, e3, e4, _⟩ := cdA_d hk hf
  intro p hp
  obtain ⟨h1, h2, h3⟩ := h p hp
  by_cases e : p = q
  · subst e
    refine ⟨?_, ?_, ?_⟩
    · show upd pc p (nI (G.1 p + 1)) p = nI (va_up G.1 p (G.1 p + 1) p)
      rw [pk_us, va_up_self]
    · show va_up G.1 p (G.1 p + 1) p ≤ 40
      rw [va_up_self]; omega
    · intro i hi
      have hi : i < va_up G.1 p (G.1 p + 1) p := hi
      rw [va_up_self] at hi
      show va_up pf p (upd (pf p) (G.1 p) m) p i = nI (va_up G.2.1 p (va_up (G.2.1 p) (G.1 p) (cdA kk a b c)) p i) ∧ va_up G.2.1 p (va_up (G.2.1 p) (G.1 p) (cdA kk a b c)) p i < 10000
      rw [va_up_self, va_up_self]
      by_cases ei : i = G.1 p
      · subst ei
        rw [pk_us, va_up_self]
        exact ⟨hm, by omega⟩
      · rw [pk_un ei, va_up_ne _ _ ei]
        exact h3 i (by omega)
  · refine ⟨?_, ?_⟩
    · show upd pc q (nI (G.1 q + 1)) p = nI (va_up G.1 q (G.1 q + 1) p)
      rw [pk_un e, va_up_ne _ _ e]; exact h1
    · show pok (va_up pf q (upd (pf q) (G.1 q) m) p) (va_up G.1 q (G.1 q + 1) p) (va_up G.2.1 q (va_up (G.2.1 q) (G.1 q) (cdA kk a b c)) p)
      rw [va_up_ne _ _ e, va_up_ne _ _ e, va_up_ne _ _ e]; exact ⟨h2, h3⟩
theorem tdv_in {td : Nat → Int32} {j : Nat} (hj : j < 8) : tdv td (nI j) = td j := by
  have h : (nI j).toInt = (j : Int) := nI_toInt (by omega)
  rw [tdv, if_pos (by rw [h]; omega), h]
  rfl
theorem tdv_no {td : Nat → Int32} {x : Int32} (h : ¬ (0 ≤ x ∧ x ≤ 7)) : tdv td x = -1 := by
  rw [tdv, if_neg]
  intro q
  apply h
  rw [i_le, i_le]
  have e1 : (0 : Int32).toInt = 0 := by decide
  have e2 : (7 : Int32).toInt = 7 := by decide
  omega
theorem tdv_congr {td td' : Nat → Int32} {x : Int32} (h : ∀ k, k < 8 → td' k = td k) : tdv td' x = tdv td x := by
  unfold tdv
  split
  · rename_i q; exact h _ (by omega)
  · rfl
theorem in19 {x : Int32} (h1 : 1 ≤ x) (h2 : x ≤ 9) : ∃ j : Nat, 1 ≤ j ∧ j < 10 ∧ x = nI j := by
  have h0 : 0 ≤ x := by
    rw [i_le] at h1 ⊢
    have e1 : (0 : Int32).toInt = 0 := by decide
    have e2 : (1 : Int32).toInt = 1 := by decide
    omega
  obtain ⟨j, hj, rfl⟩ := inN_c (m := 9) (by decide) rfl h0 h2
  exact ⟨j, (nI_leI (a := 1) (b := j) (by omega) (by omega)).mp h1, hj, rfl⟩
theorem tcv_j {ct : Nat → Int32} {j : Nat} (h1 : 1 ≤ j) (hj : j < 10) : tcv ct (nI j) = ct j :=
  tcv_in (nI_nle (by omega) (by omega)) hj
theorem tcv_no {ct : Nat → Int32} {x : Int32} (h : ¬ (1 ≤ x ∧ x ≤ 9)) : tcv ct x = -1 := by
  by_cases h1 : x ≤ 0
  · exact tcv_le h1
  · by_cases h2 : 9 < x
    · exact tcv_gt h2
    · exfalso
      apply h
      rw [i_le] at h1 ⊢
      rw [i_lt] at h2
      rw [i_le]
      have e1 : (0 : Int32).toInt = 0 := by decide
      have e2 : (1 : Int32).toInt = 1 := by decide
      have e3 : (9 : Int32).toInt = 9 := by decide
      omega
theorem tcv_congr {ct ct' : Nat → Int32} {x : Int32} (h : ∀ k, k < 10 → ct' k = ct k) : tcv ct' x = tcv ct x := by
  by_cases q : 1 ≤ x ∧ x ≤ 9
  · obtain ⟨j, h1, h2, rfl⟩ := in19 q.1 q.2
    rw [tcv_j h1 h2, tcv_j h1 h2]; exact h j h2
  · rw [tcv_no q, tcv_no q]
theorem nI36 {kk : Nat} (h : kk < 10) : ((3 : Int32) ≤ nI kk ∧ nI kk ≤ 6) ↔ nmB kk := by
  constructor
  · rintro ⟨h1, h2⟩
    exact ⟨(nI_leI (a := 3) (b := kk) (by omega) (by omega)).mp h1, (nI_leI (a := kk) (b := 6) (by omega) (by omega)).mp h2⟩
  · rintro ⟨h1, h2⟩
    exact ⟨(nI_leI (a := 3) (b := kk) (by omega) (by omega)).mpr h1, (nI_leI (a := kk) (b := 6) (by omega) (by omega)).mpr h2⟩
