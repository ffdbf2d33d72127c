/-! what the face answers, in numbers -/
theorem WF_call {G : GP} {p : Nat} {K : KL} (h : WF G p 0 K) (hl : 0 < lvl K) : ∃ (q m : Nat) (K' : KL), K = (8, q, m) :: K' ∧ q < 6 ∧ clo (G.1 q) (G.2.1 q) ∧ m ≤ G.1 q ∧ WF G q (dp (G.2.1 q) m) K' := by
  cases K with
  | nil => simp only [lvl] at hl; omega
  | cons e K =>
    obtain ⟨e0, e1, e2⟩ := e
    rcases h with ⟨he, hx, hw⟩ | ⟨he, hx, ha, hk, hd, hw⟩ | ⟨he, hd, hq, hc, hn, hw⟩
    · have := WF_pos hw; omega
    · have := WF_pos hw; omega
    · simp only at he; subst he
      exact ⟨e1, e2, K, rfl, hq, hc, hn, hw⟩
theorem WF_nil {G : GP} {p : Nat} {K : KL} (h : WF G p 0 K) (hl : lvl K = 0) : K = [] := by
  cases K with
  | nil => rfl
  | cons e K =>
    obtain ⟨e0, e1, e2⟩ := e
    rcases h with ⟨he, hx, hw⟩ | ⟨he, hx, ha, hk, hd, hw⟩ | ⟨he, hd, hq, hc, hn, hw⟩
    · have := WF_pos hw; omega
    · have := WF_pos hw; omega
    · simp only at he; subst he
      simp only [lvl, if_true] at hl; omega
theorem R_in {G : GP} {go : Nat → Nat} {lf : Nat → Int32} {rs : Int32} {td ct : Nat → Int32} {st p nx : Nat} {K : KL} {v : Nat → Nat → Int32} {r : Int32} (h : Rq G (go, lf, rs, td, ct, st, p, nx, K) v r) :
    Rq G (go, lf, rs, upd td 3 (td 3 + 1), ct, st + 1, p, nx + 1, K) (va_up (va_up v 11 (upd (v 11) 3 (v 11 3 + 1))) 14 (upd (v 14) (lvl K) (nI (nx + 1)))) r := by
  obtain ⟨⟨h1, h2, h3, h4, h5, h6, h7, h8⟩, hR, hp, hx⟩ := h
  refine ⟨⟨h1, h2, h3, h4, h5, upd_le h6 (by rw [h6 3 (by decide)]), h7, h8⟩, Rst_frame (v := v) (fun j hj => ⟨rfl, rfl, rfl⟩) (fun j hj => ⟨rfl, ?_⟩) hR, hp, pk_us⟩
  show upd (v 14) (lvl K) (nI (nx + 1)) j = v 14 j
  exact upd_out hj
theorem td0_0 {k : Nat} (h1 : k ≠ 1) (h2 : k ≠ 2) : td0 k = 0 := by
  unfold td0
  split
  · exact absurd rfl h1
  · exact absurd rfl h2
  · rfl
abbrev dg (x : Int32) : Nat := x.toNatClampNeg
theorem dg_nI {k : Nat} (h : k < 2147483648) : dg (nI k) = k := nI_clamp h
abbrev FO : Type := (Nat → Nat) × (Nat → Int32) × Int32 × (Nat → Int32) × (Nat → Int32)
/-- where a run begins -/
abbrev X0 (go : Nat → Nat) (lf : Nat → Int32) (rs : Int32) (q : Nat) : CF := (go, lf, rs, td0, fun _ => 0, 0, q, 0, [])
noncomputable def F_run (G : GP) (go : Nat → Nat) (lf : Nat → Int32) (rs : Int32) (td ct : Nat → Int32) (x y : Int32) : Int32 × FO :=
  haveI := Classical.propDecidable
  if inN x 6 ∧ inN y 65 then
    if clo (G.1 (dg x)) (G.2.1 (dg x)) then
      (nI (a_run G (dg y) 129 (X0 go lf rs (dg x))).1, (a_run G (dg y) 129 (X0 go lf rs (dg x))).2.1, (a_run G (dg y) 129 (X0 go lf rs (dg x))).2.2.1, (a_run G (dg y) 129 (X0 go lf rs (dg x))).2.2.2.1, (a_run G (dg y) 129 (X0 go lf rs (dg x))).2.2.2.2.1, (a_run G (dg y) 129 (X0 go lf rs (dg x))).2.2.2.2.2.1)
    else (-3, go, lf, rs, td, ct)
  else (-1, go, lf, rs, td, ct)
theorem F_run_in {G : GP} {go : Nat → Nat} {lf : Nat → Int32} {rs : Int32} {td ct : Nat → Int32} {q n : Nat} (hq : q < 6) (hn : n < 65) (hc : clo (G.1 q) (G.2.1 q)) {w : Nat} {fo : FO} (hw : (a_run G n 129 (X0 go lf rs q)).1 = w) (h1 : (a_run G n 129 (X0 go lf rs q)).2.1 = fo.1) (h2 : (a_run G n 129 (X0 go lf rs q)).2.2.1 = fo.2.1) (h3 : (a_run G n 129 (X0 go lf rs q)).2.2.2.1 = fo.2.2.1) (h4 : (a_run G n 129 (X0 go lf rs q)).2.2.2.2.1 = fo.2.2.2.1) (h5 : (a_run G n 129 (X0 go lf rs q)).2.2.2.2.2.1 = fo.2.2.2.2) :
    F_run G go lf rs td ct (nI q) (nI n) = (nI w, fo) := by
  rw [F_run, if_pos ⟨(inN_nI (by omega) (by omega)).mpr hq, (inN_nI (by omega) (by omega)).mpr hn⟩, dg_nI (by omega), dg_nI (by omega), if_pos hc, hw, h1, h2, h3, h4, h5]
theorem F_run_no {G : GP} {go : Nat → Nat} {lf : Nat → Int32} {rs : Int32} {td ct : Nat → Int32} {x y : Int32} (h : ¬ (inN x 6 ∧ inN y 65)) : F_run G go lf rs td ct x y = (-1, go, lf, rs, td, ct) := by
  rw [F_run, if_neg h]
theorem F_run_st {G : GP} {go : Nat → Nat} {lf : Nat → Int32} {rs : Int32} {td ct : Nat → Int32} {q n : Nat} (hq : q < 6) (hn : n < 65) (hc : ¬ clo (G.1 q) (G.2.1 q)) : F_run G go lf rs td ct (nI q) (nI n) = (-3, go, lf, rs, td, ct) := by
  rw [F_run, if_pos ⟨(inN_nI (by omega) (by omega)).mpr hq, (inN_nI (by omega) (by omega)).mpr hn⟩, dg_nI (by omega), if_neg hc]
theorem Rp_cnt {G : GP} {go : Nat → Nat} {lf : Nat → Int32} {rs : Int32} {td ct : Nat → Int32} {v : Nat → Nat → Int32} {r : Int32} {t11 c12 : Nat → Int32} (h : Rp G go lf rs td ct (cnt []) v r) (ht : ∀ j, j < 8 → t11 j = td0 j) (hc : ∀ j, j < 10 → c12 j = 0) {q : Nat} {f13 f14 : Nat → Int32} (h13 : f13 0 = nI q) (h14 : f14 0 = nI 0) :
    Rq G (X0 go lf rs q) (va_up (va_up (va_up (va_up v 11 t11) 12 c12) 13 f13) 14 f14) r := by
  obtain ⟨h1, h2, h3, h4, h5, h6, h7, h8⟩ := h
  exact ⟨⟨h1, h2, h3, h4, h5, ht, hc, h8⟩, trivial, h13, h14⟩
theorem Inv0 {G : GP} {go : Nat → Nat} {lf : Nat → Int32} {rs : Int32} {q : Nat} (hq : q < 6) (hc : clo (G.1 q) (G.2.1 q)) : Inv G (X0 go lf rs q) :=
  ⟨hq, hc, Nat.zero_le _, rfl, Nat.le_refl _, by decide, by decide, rfl⟩
