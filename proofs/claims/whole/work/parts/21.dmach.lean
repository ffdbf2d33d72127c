/-! the class in a run: what its rows need -/
def D0 (G : GP) (go : Nat → Nat) (lf : Nat → Int32) (rs : Int32) (td ct : Nat → Int32) (u : US) : Prop := match u with
  | (g, l, h, r, _, _, _, c, ct', td', _, _, _, _) => Dp G go lf rs td ct (cnt []) g l h r ct' td' ∧ c = nI 0
theorem Dp_same {G : GP} {go : Nat → Nat} {lf : Nat → Int32} {rs : Int32} {td ct : Nat → Int32} {g l h : Nat → Int32} {r : Int32} {ct' td' : Nat → Int32} {K : KL} {e : Nat × Nat × Nat} (he : e.1 ≠ 0) : Dp G go lf rs td ct (cnt (e :: K)) g l h r ct' td' ↔ Dp G go lf rs td ct (cnt K) g l h r ct' td' := by
  have : cnt (e :: K) = cnt K := by
    funext s; simp only [cnt]; rw [if_neg (fun q => he q.1)]; rfl
  rw [this]
theorem Dp_pop {G : GP} {go : Nat → Nat} {lf : Nat → Int32} {rs : Int32} {td ct : Nat → Int32} {g l h : Nat → Int32} {r : Int32} {ct' td' : Nat → Int32} {K : KL} {x y : Nat} (hK : K.length < 1000) (hD : Dp G go lf rs td ct (cnt ((0, x, y) :: K)) g l h r ct' td') :
    Dp G go (upd lf x (lf x + 1)) rs td ct (cnt K) g (upd l x (l x + 1)) (upd h x (h x - 1)) r ct' td' := by
  obtain ⟨d1, d2, d3, d4, d5, d6⟩ := hD
  refine ⟨d1, ?_, hok_pop d3 hK, d4, d5, d6⟩
  intro s hs
  by_cases q : s = x
  · subst q; rw [pk_us, pk_us, d2 _ hs]
  · rw [pk_un q, pk_un q]; exact d2 _ hs
theorem Dp_end {G : GP} {go : Nat → Nat} {lf : Nat → Int32} {rs : Int32} {td ct : Nat → Int32} {g l h : Nat → Int32} {r : Int32} {ct' td' : Nat → Int32} {K : KL} {x y : Nat} (hK : K.length < 1000) (hD : Dp G go lf rs td ct (cnt ((0, x, y) :: K)) g l h r ct' td') :
    Dp G go lf rs td ct (cnt K) g l (upd h x (h x - 1)) r ct' td' := by
  obtain ⟨d1, d2, d3, d4, d5, d6⟩ := hD
  exact ⟨d1, d2, hok_pop d3 hK, d4, d5, d6⟩
theorem Dp_caught {G : GP} {go : Nat → Nat} {lf : Nat → Int32} {rs : Int32} {td ct : Nat → Int32} {g l h : Nat → Int32} {r : Int32} {ct' td' : Nat → Int32} {hd : Nat → Nat} {f : Nat} (hf : f < 10) (hD : Dp G go lf rs td ct hd g l h r ct' td') :
    Dp G go lf rs (upd td 6 (td 6 + 1)) (upd ct f (ct f + 1)) hd g l h r (upd ct' f (ct' f + 1)) (upd td' 6 (td' 6 + 1)) := by
  obtain ⟨d1, d2, d3, d4, d5, d6⟩ := hD
  exact ⟨d1, d2, d3, d4, upd_le d5 (by rw [d5 6 (by decide)]), upd_le d6 (by rw [d6 f hf])⟩
theorem Dp_td {G : GP} {go : Nat → Nat} {lf : Nat → Int32} {rs : Int32} {td ct : Nat → Int32} {g l h : Nat → Int32} {r : Int32} {ct' td' : Nat → Int32} {hd : Nat → Nat} {j : Nat} {x : Int32} (hD : Dp G go lf rs td ct hd g l h r ct' td') :
    Dp G go lf rs (upd td j x) ct hd g l h r ct' (upd td' j x) := by
  obtain ⟨d1, d2, d3, d4, d5, d6⟩ := hD
  exact ⟨d1, d2, d3, d4, upd_le d5 rfl, d6⟩
theorem Dp_step {G : GP} {go : Nat → Nat} {lf : Nat → Int32} {rs : Int32} {td ct : Nat → Int32} {g l h : Nat → Int32} {r : Int32} {ct' td' : Nat → Int32} {hd : Nat → Nat} (hD : Dp G go lf rs td ct hd g l h r ct' td') :
    Dp G go lf rs (upd td 3 (td 3 + 1)) ct hd g l h r ct' (upd td' 3 (td' 3 + 1)) := by
  obtain ⟨d1, d2, d3, d4, d5, d6⟩ := hD
  exact ⟨d1, d2, d3, d4, upd_le d5 (by rw [d5 3 (by decide)]), d6⟩
theorem Dp_go {G : GP} {go go2 : Nat → Nat} {lf : Nat → Int32} {rs : Int32} {td ct : Nat → Int32} {g g2 l h : Nat → Int32} {r : Int32} {ct' td' : Nat → Int32} {hd : Nat → Nat} (hD : Dp G go lf rs td ct hd g l h r ct' td') (hg : gok g2 G.2.2 go2) : Dp G go2 lf rs td ct hd g2 l h r ct' td' := by
  obtain ⟨d1, d2, d3, d4, d5, d6⟩ := hD
  exact ⟨hg, d2, d3, d4, d5, d6⟩
theorem Dp_goS {G : GP} {go go2 : Nat → Nat} {lf : Nat → Int32} {rs rs2 : Int32} {td ct : Nat → Int32} {g g2 l h : Nat → Int32} {r r2 : Int32} {ct' td' : Nat → Int32} {hd : Nat → Nat} (hD : Dp G go lf rs td ct hd g l h r ct' td') (hg : gok g2 G.2.2 go2) (hr : r2 = rs2) : Dp G go2 lf rs2 td ct hd g2 l h r2 ct' td' := by
  obtain ⟨d1, d2, d3, d4, d5, d6⟩ := hD
  exact ⟨hg, d2, d3, hr, d5, d6⟩
theorem D_try {G : GP} {go : Nat → Nat} {lf : Nat → Int32} {rs : Int32} {td ct : Nat → Int32} {st p nx act bk x : Nat} {K : KL} {g l h : Nat → Int32} {r : Int32} {k n b : Nat → Int32} {ct' td' : Nat → Int32} (hb : isBeh (G.2.1 p) act bk) (hD : Dp G go lf rs td ct (cnt K) g l h r ct' td') (hs : Dst G k n b p K) :
    Dr G (go, lf, rs, td, ct, st, p, nx, (1, x, act) :: K) (g, l, h, r, upd k K.length 1, upd n K.length (nI x), upd b K.length (nI bk), nI (K.length + 1), ct', td', nI (hn K), nI p, nI nx, nI (lvl K + 1)) :=
  ⟨(Dp_same (by simp)).mpr hD, Dst_push rfl rfl (fun _ => by rw [beh_eq hb]) (fun q => absurd q (by simp)) (by simp) hs, rfl, rfl, rfl, rfl, rfl⟩
theorem unw_td {G : GP} : ∀ {K : KL} {lf td td2 ct : Nat → Int32} {p nx : Nat}, (unw G 0 K lf td ct p nx).2.1 = (unw G 0 K lf td2 ct p nx).2.1
  | [], lf, td, td2, ct, p, nx => rfl
  | e :: K, lf, td, td2, ct, p, nx => by
    unfold unw
    split
    · exact unw_td
    · split
      · exact unw_td
      · split
        · rename_i h; exact absurd rfl h.1
        · exact unw_td
theorem a_run_true {G : GP} {go : Nat → Nat} {lf : Nat → Int32} {rs : Int32} {td ct : Nat → Int32} {st p nx n F : Nat} {K : KL} {X : CF} (h : ¬ G.1 p ≤ nx) (hs : ¬ n ≤ st) (hX : a_step G (go, lf, rs, td, ct, st, p, nx, K) = (true, X)) : a_run G n (F + 1) (go, lf, rs, td, ct, st, p, nx, K) = a_run G n F X := by
  simp only [a_run, h, hs, if_false, hX]
theorem a_run_false {G : GP} {go : Nat → Nat} {lf : Nat → Int32} {rs : Int32} {td ct : Nat → Int32} {st p nx n F : Nat} {K : KL} {X : CF} (h : ¬ G.1 p ≤ nx) (hs : ¬ n ≤ st) (hX : a_step G (go, lf, rs, td, ct, st, p, nx, K) = (false, X)) : a_run G n (F + 1) (go, lf, rs, td, ct, st, p, nx, K) = (1, X) := by
  simp only [a_run, h, hs, if_false, hX]
theorem a_step_c {G : GP} {go : Nat → Nat} {lf : Nat → Int32} {rs : Int32} {td ct : Nat → Int32} {st p nx f : Nat} {K : KL} (hc : G.2.1 p nx < 10000) (hz : (a_does G (go, lf, rs, upd td 3 (td 3 + 1), ct, st + 1, p, nx + 1, K) nx).1 = f) (hf : f ≠ 0) (hu : (unw G f K lf (upd td 3 (td 3 + 1)) ct p (nx + 1)).1 = true) :
    a_step G (go, lf, rs, td, ct, st, p, nx, K) = (true, (go, (unw G f K lf (upd td 3 (td 3 + 1)) ct p (nx + 1)).2.1, rs, (unw G f K lf (upd td 3 (td 3 + 1)) ct p (nx + 1)).2.2.1, (unw G f K lf (upd td 3 (td 3 + 1)) ct p (nx + 1)).2.2.2.1, st + 1, (unw G f K lf (upd td 3 (td 3 + 1)) ct p (nx + 1)).2.2.2.2.1, (unw G f K lf (upd td 3 (td 3 + 1)) ct p (nx + 1)).2.2.2.2.2.1, (unw G f K lf (upd td 3 (td 3 + 1)) ct p (nx + 1)).2.2.2.2.2.2)) := by
  rw [a_step_f hc hz hf]
  simp only [a_fail]
  generalize unw G f K lf (upd td 3 (td 3 + 1)) ct p (nx + 1) = z at hu ⊢
  obtain ⟨b, z⟩ := z
  simp only at hu
  subst hu
  rfl
theorem a_step_n {G : GP} {go : Nat → Nat} {lf : Nat → Int32} {rs : Int32} {td ct : Nat → Int32} {st p nx f : Nat} {K : KL} (hc : G.2.1 p nx < 10000) (hz : (a_does G (go, lf, rs, upd td 3 (td 3 + 1), ct, st + 1, p, nx + 1, K) nx).1 = f) (hf : f ≠ 0) (hu : (unw G f K lf (upd td 3 (td 3 + 1)) ct p (nx + 1)).1 = false) :
    a_step G (go, lf, rs, td, ct, st, p, nx, K) = (false, (go, (unw G f K lf (upd td 3 (td 3 + 1)) ct p (nx + 1)).2.1, rs, upd (upd (upd (upd td 3 (td 3 + 1)) 0 (nI f)) 1 (nI p)) 2 (nI nx), ct, st + 1, (unw G f K lf (upd td 3 (td 3 + 1)) ct p (nx + 1)).2.2.2.2.1, (unw G f K lf (upd td 3 (td 3 + 1)) ct p (nx + 1)).2.2.2.2.2.1, (unw G f K lf (upd td 3 (td 3 + 1)) ct p (nx + 1)).2.2.2.2.2.2)) := by
  rw [a_step_f hc hz hf]
  have hno := unw_no hu
  simp only [a_fail]
  generalize unw G f K lf (upd td 3 (td 3 + 1)) ct p (nx + 1) = z at hu hno ⊢
  obtain ⟨b, z1, z2, z3, z⟩ := z
  simp only at hu hno
  subst hu
  obtain ⟨rfl, rfl, _⟩ := hno
  rfl
theorem Dr_nil {G : GP} {go : Nat → Nat} {lf : Nat → Int32} {rs : Int32} {td ct : Nat → Int32} {st p nx : Nat} {u : US} (h : Dr G (go, lf, rs, td, ct, st, p, nx, []) u) : D0 G go lf rs td ct u := by
  obtain ⟨g, l, h_, r, k, n, b, c, ct', td', op, x, y, z⟩ := u
  obtain ⟨h1, h2, h3, h4, _⟩ := h
  exact ⟨h1, h3⟩
theorem D0_td {G : GP} {go : Nat → Nat} {lf : Nat → Int32} {rs : Int32} {td ct : Nat → Int32} {g l h : Nat → Int32} {r : Int32} {k n b : Nat → Int32} {c : Int32} {ct' td' : Nat → Int32} {op x y z : Int32} {j : Nat} {w : Int32} (hD : D0 G go lf rs td ct (g, l, h, r, k, n, b, c, ct', td', op, x, y, z)) : D0 G go lf rs (upd td j w) ct (g, l, h, r, k, n, b, c, ct', upd td' j w, op, x, y, z) :=
  ⟨Dp_td hD.1, hD.2⟩
