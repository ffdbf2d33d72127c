/-! how the reference holds the machine -/
def Rst (v : Nat → Nat → Int32) : KL → Prop
  | [] => True
  | e :: K => (e.1 = 8 → v 13 (lvl K) = nI e.2.1 ∧ v 14 (lvl K) = nI e.2.2) ∧ (e.1 = 0 → v 16 (bl K) = nI e.2.1) ∧ (e.1 = 1 → v 16 (bl K) = nI (10 + e.2.1) ∧ v 17 (bl K) = nI e.2.2 ∧ v 18 (bl K) = nI (lvl K)) ∧ Rst v K
theorem Rst_frame {v w : Nat → Nat → Int32} : ∀ {K : KL}, (∀ j, j < bl K → w 16 j = v 16 j ∧ w 17 j = v 17 j ∧ w 18 j = v 18 j) → (∀ j, j < lvl K → w 13 j = v 13 j ∧ w 14 j = v 14 j) → Rst v K → Rst w K
  | [], _, _, _ => trivial
  | e :: K, h1, h2, h => by
    obtain ⟨q1, q2, q3, q4⟩ := h
    have hb : bl K ≤ bl (e :: K) := by simp only [bl]; omega
    have hl : lvl K ≤ lvl (e :: K) := by simp only [lvl]; omega
    refine ⟨fun he => ?_, fun he => ?_, fun he => ?_, Rst_frame (fun j hj => h1 j (by omega)) (fun j hj => h2 j (by omega)) q4⟩
    · have h3 : lvl K < lvl (e :: K) := by simp only [lvl]; rw [if_pos he]; omega
      obtain ⟨a1, a2⟩ := h2 _ h3
      rw [a1, a2]; exact q1 he
    · have h3 : bl K < bl (e :: K) := by simp only [bl]; rw [if_neg (by omega)]; omega
      rw [(h1 _ h3).1]; exact q2 he
    · have h3 : bl K < bl (e :: K) := by simp only [bl]; rw [if_neg (by omega)]; omega
      obtain ⟨a1, a2, a3⟩ := h1 _ h3
      rw [a1, a2, a3]; exact q3 he
theorem upd_le {f g : Nat → Int32} {n j : Nat} {x y : Int32} (h : ∀ k, k < n → f k = g k) (e : x = y) : ∀ k, k < n → upd f j x k = upd g j y k := by
  intro k hk
  by_cases q : k = j
  · simp only [upd, q, if_true]; exact e
  · simp only [upd, q, if_false]; exact h k hk
theorem upd_out {f : Nat → Int32} {j k : Nat} {x : Int32} (h : k < j) : upd f j x k = f k := by
  simp only [upd]; rw [if_neg (by omega)]
theorem hok_push {h : Nat → Int32} {K : KL} {x y : Nat} (hh : hok h (cnt K)) (hK : K.length < 1000) : hok (upd h x (h x + 1)) (cnt ((0, x, y) :: K)) := by
  intro s hs
  have h1 := cnt_le K s
  by_cases e : s = x
  · subst e
    simp only [upd, cnt, if_true, and_self]
    rw [(hh s hs).1]
    exact ⟨nI_1 _, by omega⟩
  · simp only [upd, cnt, e, if_false]
    rw [if_neg (fun q => e q.2.symm)]
    exact ⟨(hh s hs).1, by omega⟩
theorem hok_pop {h : Nat → Int32} {K : KL} {x y : Nat} (hh : hok h (cnt ((0, x, y) :: K))) (hK : K.length < 1000) : hok (upd h x (h x - 1)) (cnt K) := by
  intro s hs
  have h1 := cnt_le K s
  have h2 := hh s hs
  by_cases e : s = x
  · subst e
    simp only [upd, cnt, if_true, and_self] at h2 ⊢
    rw [h2.1]
    exact ⟨nI_pred _, by omega⟩
  · simp only [upd, cnt, e, if_false] at h2 ⊢
    rw [if_neg (fun q => e q.2.symm)] at h2
    exact h2
theorem hok_same {h : Nat → Int32} {K : KL} {e : Nat × Nat × Nat} (he : e.1 ≠ 0) : hok h (cnt (e :: K)) ↔ hok h (cnt K) := by
  have : cnt (e :: K) = cnt K := by
    funext s; simp only [cnt]; rw [if_neg (fun q => he q.1)]; rfl
  rw [this]
def Rp (G : GP) (go : Nat → Nat) (lf : Nat → Int32) (rs : Int32) (td ct : Nat → Int32) (hd : Nat → Nat) (v : Nat → Nat → Int32) (r : Int32) : Prop :=
  rpl v G.1 G.2.1 ∧ zk (v 6) G.2.2 ∧ gk (v 7) go ∧ (∀ s, s < 8 → v 8 s = lf s) ∧ hok (v 9) hd ∧ (∀ k, k < 8 → v 11 k = td k) ∧ (∀ k, k < 10 → v 12 k = ct k) ∧ r = rs
def Rq (G : GP) : CF → (Nat → Nat → Int32) → Int32 → Prop
  | (go, lf, rs, td, ct, st, p, nx, K), v, r => Rp G go lf rs td ct (cnt K) v r ∧ Rst v K ∧ v 13 (lvl K) = nI p ∧ v 14 (lvl K) = nI nx
abbrev RS : Type := (Nat → Nat → Int32) × Int32 × Int32 × Int32 × Int32
def Rr (G : GP) (X : CF) (u : RS) : Prop := Rq G X u.1 u.2.1 ∧ u.2.2.1 = nI (lvl X.2.2.2.2.2.2.2.2) ∧ u.2.2.2.1 = nI (bl X.2.2.2.2.2.2.2.2) ∧ u.2.2.2.2 = nI (hn X.2.2.2.2.2.2.2.2)
section DOES
variable {G : GP} {go : Nat → Nat} {lf : Nat → Int32} {rs : Int32} {td ct : Nat → Int32} {st p nx act : Nat} {K : KL}
theorem a_does_0 (h : G.2.1 p act / 1000 = 0) : a_does G (go, lf, rs, td, ct, st, p, nx, K) act = a_hold G (go, lf, rs, td, ct, st, p, nx, K) (G.2.1 p act / 100 % 10) := by simp only [a_does, h]
theorem a_does_1 (h : G.2.1 p act / 1000 = 1) : a_does G (go, lf, rs, td, ct, st, p, nx, K) act = (0, (go, lf, rs, td, ct, st, p, nx, (1, G.2.1 p act / 100 % 10, act) :: K)) := by simp only [a_does, h]
theorem a_does_2 (h : G.2.1 p act / 1000 = 2) : a_does G (go, lf, rs, td, ct, st, p, nx, K) act = (0, (go, lf, rs, td, ct, st, p, nx, K.tail)) := by simp only [a_does, h]
theorem a_does_3 (h : G.2.1 p act / 1000 = 3) : a_does G (go, lf, rs, td, ct, st, p, nx, K) act = ((A_put G.2.2 go (cnt K) (G.2.1 p act / 100 % 10) (G.2.1 p act / 10 % 10)).1, ((A_put G.2.2 go (cnt K) (G.2.1 p act / 100 % 10) (G.2.1 p act / 10 % 10)).2, lf, rs, td, ct, st, p, nx, K)) := by simp only [a_does, h]
theorem a_does_4 (h : G.2.1 p act / 1000 = 4) : a_does G (go, lf, rs, td, ct, st, p, nx, K) act = ((A_take G.2.2 go (cnt K) (G.2.1 p act / 100 % 10) (G.2.1 p act / 10 % 10)).1, ((A_take G.2.2 go (cnt K) (G.2.1 p act / 100 % 10) (G.2.1 p act / 10 % 10)).2, lf, rs, td, ct, st, p, nx, K)) := by simp only [a_does, h]
theorem a_does_5 (h : G.2.1 p act / 1000 = 5) : a_does G (go, lf, rs, td, ct, st, p, nx, K) act = ((A_share G.2.2 go (cnt K) rs (G.2.1 p act / 100 % 10) (G.2.1 p act / 10 % 10)).1, ((A_share G.2.2 go (cnt K) rs (G.2.1 p act / 100 % 10) (G.2.1 p act / 10 % 10)).2.1, lf, (A_share G.2.2 go (cnt K) rs (G.2.1 p act / 100 % 10) (G.2.1 p act / 10 % 10)).2.2, td, ct, st, p, nx, K)) := by simp only [a_does, h]
theorem a_does_6 (h : G.2.1 p act / 1000 = 6) : a_does G (go, lf, rs, td, ct, st, p, nx, K) act = ((A_move G.2.2 go (G.2.1 p act / 100 % 10) (G.2.1 p act / 10 % 10) (G.2.1 p act % 10)).1, ((A_move G.2.2 go (G.2.1 p act / 100 % 10) (G.2.1 p act / 10 % 10) (G.2.1 p act % 10)).2, lf, rs, td, ct, st, p, nx, K)) := by simp only [a_does, h]
theorem a_does_7 (h : G.2.1 p act / 1000 = 7) : a_does G (go, lf, rs, td, ct, st, p, nx, K) act = (G.2.1 p act / 100 % 10, (go, lf, rs, td, ct, st, p, nx, K)) := by simp only [a_does, h]
theorem a_does_8 (h : G.2.1 p act / 1000 = 8) : a_does G (go, lf, rs, td, ct, st, p, nx, K) act = a_call G (go, lf, rs, td, ct, st, p, nx, K) (G.2.1 p act / 100 % 10) := by simp only [a_does, h]
theorem a_does_9 (h : G.2.1 p act / 1000 = 9) : a_does G (go, lf, rs, td, ct, st, p, nx, K) act = (0, (go, lf, rs, td, ct, st, p, nx, K)) := by simp only [a_does, h]
variable {v : Nat → Nat → Int32} {r : Int32}
theorem R_try {x y : Nat} {lv : Int32} (hl : lv = nI (lvl K)) (h : Rq G (go, lf, rs, td, ct, st, p, nx, K) v r) :
    Rr G (go, lf, rs, td, ct, st, p, nx, (1, x, y) :: K) (va_up (va_up (va_up v 16 (upd (v 16) (bl K) (nI (10 + x)))) 17 (upd (v 17) (bl K) (nI y))) 18 (upd (v 18) (bl K) lv), r, lv, nI (bl K + 1), nI (hn K)) := by
  obtain ⟨⟨h1, h2, h3, h4, h5, h6, h7, h8⟩, hR, hp, hx⟩ := h
  refine ⟨⟨⟨h1, h2, h3, h4, (hok_same (by simp)).mpr h5, h6, h7, h8⟩, ⟨fun q => absurd q (by simp), fun q => absurd q (by simp), fun _ => ⟨pk_us, pk_us, ?_⟩, ?_⟩, hp, hx⟩, hl, rfl, rfl⟩
  · show upd (v 18) (bl K) lv (bl K) = _
    rw [pk_us]; exact hl
  · exact Rst_frame (v := v) (fun j hj => ⟨upd_out hj, upd_out hj, upd_out hj⟩) (fun j hj => ⟨rfl, rfl⟩) hR
theorem R_holdP {x : Nat} {y lv : Int32} (hK : K.length < 1000) (hl : lv = nI (lvl K)) (h : Rq G (go, lf, rs, td, ct, st, p, nx, K) v r) :
    Rr G (go, lf, rs, upd (upd td 4 (td 4 + 1)) 5 (if td 5 < nI (hn K) + 1 then nI (hn K) + 1 else td 5), ct, st, p, nx, (0, x, 0) :: K) (va_up (va_up (va_up (va_up (va_up v 16 (upd (v 16) (bl K) (nI x))) 17 (upd (v 17) (bl K) y)) 18 (upd (v 18) (bl K) lv)) 9 (upd (v 9) x (v 9 x + 1))) 11 (upd (upd (v 11) 4 (v 11 4 + 1)) 5 (if v 11 5 < nI (hn K) + 1 then nI (hn K) + 1 else v 11 5)), r, lv, nI (bl K + 1), nI (hn K) + 1) := by
  obtain ⟨⟨h1, h2, h3, h4, h5, h6, h7, h8⟩, hR, hp, hx⟩ := h
  refine ⟨⟨⟨h1, h2, h3, h4, hok_push h5 hK, ?_, h7, h8⟩, ⟨fun q => absurd q (by simp), fun _ => pk_us, fun q => absurd q (by simp), ?_⟩, hp, hx⟩, hl, rfl, nI_1 _⟩
  · exact upd_le (upd_le h6 (by rw [h6 4 (by decide)])) (by rw [h6 5 (by decide)])
  · exact Rst_frame (v := v) (fun j hj => ⟨upd_out hj, upd_out hj, upd_out hj⟩) (fun j hj => ⟨rfl, rfl⟩) hR
theorem R_hold {x : Nat} {y lv w : Int32} {u : (Nat → Nat → Int32) × Int32 × Int32} (hK : K.length < 1000) (hl : lv = nI (lvl K)) (h : Rq G (go, lf, rs, td, ct, st, p, nx, K) v r)
    (hw : (mis G.2.2 x ≠ 0 ∧ w = nI (mis G.2.2 x) ∧ u = (v, nI (bl K), nI (hn K))) ∨ (mis G.2.2 x = 0 ∧ w = 0 ∧ u = (va_up (va_up (va_up (va_up (va_up v 16 (upd (v 16) (bl K) (nI x))) 17 (upd (v 17) (bl K) y)) 18 (upd (v 18) (bl K) lv)) 9 (upd (v 9) x (v 9 x + 1))) 11 (upd (upd (v 11) 4 (v 11 4 + 1)) 5 (if v 11 5 < nI (hn K) + 1 then nI (hn K) + 1 else v 11 5)), nI (bl K + 1), nI (hn K) + 1))) :
    w = nI (a_hold G (go, lf, rs, td, ct, st, p, nx, K) x).1 ∧ Rr G (a_hold G (go, lf, rs, td, ct, st, p, nx, K) x).2 (u.1, r, lv, u.2.1, u.2.2) := by
  rcases hw with ⟨hm, rfl, rfl⟩ | ⟨hm, rfl, rfl⟩
  · simp only [a_hold, hm, if_false]
    exact ⟨trivial, h, hl, rfl, rfl⟩
  · simp only [a_hold, hm, if_true]
    exact ⟨rfl, R_holdP hK hl h⟩
theorem R_call {x : Nat} {lv w : Int32} {u : (Nat → Nat → Int32) × Int32} (hl : lv = nI (lvl K)) (h : Rq G (go, lf, rs, td, ct, st, p, nx, K) v r)
    (hw : ((x < 6 ∧ lvl K < 4 ∧ clo (G.1 x) (G.2.1 x)) ∧ w = 0 ∧ u = (va_up (va_up (va_up v 13 (upd (v 13) (lvl K + 1) (nI x))) 14 (upd (v 14) (lvl K + 1) 0)) 11 (upd (v 11) 7 (v 11 7 + 1)), nI (lvl K + 1))) ∨ (¬ (x < 6 ∧ lvl K < 4 ∧ clo (G.1 x) (G.2.1 x)) ∧ w = 6 ∧ u = (v, nI (lvl K)))) :
    w = nI (a_call G (go, lf, rs, td, ct, st, p, nx, K) x).1 ∧ Rr G (a_call G (go, lf, rs, td, ct, st, p, nx, K) x).2 (u.1, r, u.2, nI (bl K), nI (hn K)) := by
  rcases hw with ⟨hm, rfl, rfl⟩ | ⟨hm, rfl, rfl⟩
  · simp only [a_call]
    rw [if_pos hm]
    obtain ⟨⟨h1, h2, h3, h4, h5, h6, h7, h8⟩, hR, hp, hx⟩ := h
    refine ⟨rfl, ⟨⟨h1, h2, h3, h4, (hok_same (by simp)).mpr h5, ?_, h7, h8⟩, ⟨fun _ => ⟨?_, ?_⟩, fun q => absurd q (by simp), fun q => absurd q (by simp), ?_⟩, ?_, ?_⟩, rfl, rfl, rfl⟩
    · exact upd_le h6 (by rw [h6 7 (by decide)])
    · show upd (v 13) (lvl K + 1) (nI x) (lvl K) = nI p
      rw [upd_out (by omega)]; exact hp
    · show upd (v 14) (lvl K + 1) 0 (lvl K) = nI nx
      rw [upd_out (by omega)]; exact hx
    · exact Rst_frame (v := v) (fun j hj => ⟨rfl, rfl, rfl⟩) (fun j hj => ⟨upd_out (by omega), upd_out (by omega)⟩) hR
    · exact pk_us
    · exact pk_us
  · simp only [a_call]
    rw [if_neg hm]
    exact ⟨rfl, h, rfl, rfl, rfl⟩
theorem R_end {e : Nat × Nat × Nat} {lv : Int32} (hK : K.length < 1000) (hl : lv = nI (lvl (e :: K))) (h : Rq G (go, lf, rs, td, ct, st, p, nx, e :: K) v r) (he : e.1 = 0) :
    Rr G (go, lf, rs, td, ct, st, p, nx, K) (va_up (va_up v 9 (upd (v 9) e.2.1 (v 9 e.2.1 - 1))) 8 (upd (v 8) e.2.1 (v 8 e.2.1 + 0)), r, lv, nI (bl K), nI (hn (e :: K)) - 1) := by
  obtain ⟨e0, e1, e2⟩ := e
  simp only at he
  subst he
  obtain ⟨⟨h1, h2, h3, h4, h5, h6, h7, h8⟩, ⟨_, _, _, hR⟩, hp, hx⟩ := h
  refine ⟨⟨⟨h1, h2, h3, ?_, hok_pop h5 hK, h6, h7, h8⟩, Rst_frame (v := v) (fun j hj => ⟨rfl, rfl, rfl⟩) (fun j hj => ⟨rfl, rfl⟩) hR, hp, hx⟩, hl, rfl, nI_pred _⟩
  intro s hs
  show upd (v 8) e1 (v 8 e1 + 0) s = lf s
  rw [Int32.add_zero]
  by_cases q : s = e1
  · subst q; rw [pk_us]; exact h4 _ hs
  · rw [pk_un q]; exact h4 _ hs
theorem R_endT {e : Nat × Nat × Nat} {lv : Int32} (hl : lv = nI (lvl (e :: K))) (h : Rq G (go, lf, rs, td, ct, st, p, nx, e :: K) v r) (he : e.1 = 1) :
    Rr G (go, lf, rs, td, ct, st, p, nx, K) (v, r, lv, nI (bl K), nI (hn (e :: K))) := by
  obtain ⟨e0, e1, e2⟩ := e
  simp only at he
  subst he
  obtain ⟨⟨h1, h2, h3, h4, h5, h6, h7, h8⟩, ⟨_, _, _, hR⟩, hp, hx⟩ := h
  exact ⟨⟨⟨h1, h2, h3, h4, (hok_same (by simp)).mp h5, h6, h7, h8⟩, hR, hp, hx⟩, hl, rfl, rfl⟩
theorem R_go {go' : Nat → Nat} {g : Nat → Int32} (h : Rq G (go, lf, rs, td, ct, st, p, nx, K) v r) (hg : gk g go') : Rr G (go', lf, rs, td, ct, st, p, nx, K) (va_up v 7 g, r, nI (lvl K), nI (bl K), nI (hn K)) := by
  obtain ⟨⟨h1, h2, h3, h4, h5, h6, h7, h8⟩, hR, hp, hx⟩ := h
  exact ⟨⟨⟨h1, h2, hg, h4, h5, h6, h7, h8⟩, Rst_frame (v := v) (fun j hj => ⟨rfl, rfl, rfl⟩) (fun j hj => ⟨rfl, rfl⟩) hR, hp, hx⟩, rfl, rfl, rfl⟩
theorem R_goS {go' : Nat → Nat} {g : Nat → Int32} {r' rs' : Int32} (h : Rq G (go, lf, rs, td, ct, st, p, nx, K) v r) (hg : gk g go') (hr : r' = rs') : Rr G (go', lf, rs', td, ct, st, p, nx, K) (va_up v 7 g, r', nI (lvl K), nI (bl K), nI (hn K)) := by
  obtain ⟨⟨h1, h2, h3, h4, h5, h6, h7, h8⟩, hR, hp, hx⟩ := h
  exact ⟨⟨⟨h1, h2, hg, h4, h5, h6, h7, hr⟩, Rst_frame (v := v) (fun j hj => ⟨rfl, rfl, rfl⟩) (fun j hj => ⟨rfl, rfl⟩) hR, hp, hx⟩, rfl, rfl, rfl⟩
end DOES
theorem k10 {c : Nat} (h : c < 10000) : c / 1000 = 0 ∨ c / 1000 = 1 ∨ c / 1000 = 2 ∨ c / 1000 = 3 ∨ c / 1000 = 4 ∨ c / 1000 = 5 ∨ c / 1000 = 6 ∨ c / 1000 = 7 ∨ c / 1000 = 8 ∨ c / 1000 = 9 := by omega
theorem WF_end {G : GP} {p : Nat} {K : KL} {d : Int} (h : WF G p d K) (hd : 1 ≤ d) : ∃ (e : Nat × Nat × Nat) (K' : KL), K = e :: K' ∧ ((e.1 = 0 ∧ e.2.1 < 8) ∨ (e.1 = 1 ∧ e.2.1 < 10)) ∧ WF G p (d - 1) K' := by
  cases K with
  | nil => have h : d = 0 := h; omega
  | cons e K' =>
    rcases h with ⟨h1, h2, h3⟩ | ⟨h1, h2, _, _, _, h3⟩ | ⟨_, h2, _⟩
    · exact ⟨e, K', rfl, Or.inl ⟨h1, h2⟩, h3⟩
    · exact ⟨e, K', rfl, Or.inr ⟨h1, h2⟩, h3⟩
    · omega
theorem unw_8 {G : GP} {f : Nat} {K : KL} {lf td ct : Nat → Int32} {p nx : Nat} (x y : Nat) : unw G f ((8, x, y) :: K) lf td ct p nx = unw G f K lf td ct x y := by
  rw [unw, if_pos rfl]
theorem unw_h {G : GP} {f : Nat} {K : KL} {lf td ct : Nat → Int32} {p nx : Nat} (x y : Nat) : unw G f ((0, x, y) :: K) lf td ct p nx = unw G f K (upd lf x (lf x + 1)) td ct p nx := by
  rw [unw, if_neg (by simp), if_pos rfl]
theorem unw_t {G : GP} {f : Nat} {K : KL} {lf td ct : Nat → Int32} {p nx x y : Nat} (h : ¬ (f ≠ 0 ∧ (x = 0 ∨ x = f))) : unw G f ((1, x, y) :: K) lf td ct p nx = unw G f K lf td ct p nx := by
  rw [unw, if_neg (by simp), if_neg (by simp), if_neg h]
theorem unw_c {G : GP} {f : Nat} {K : KL} {lf td ct : Nat → Int32} {p nx x y : Nat} (h0 : f ≠ 0) (h : x = 0 ∨ x = f) : unw G f ((1, x, y) :: K) lf td ct p nx = (true, lf, upd td 6 (td 6 + 1), upd ct f (ct f + 1), p, beh (G.2.1 p) y, K) := by
  rw [unw, if_neg (by simp), if_neg (by simp), if_pos ⟨h0, h⟩]
theorem Rp_same {G : GP} {go : Nat → Nat} {lf : Nat → Int32} {rs : Int32} {td ct : Nat → Int32} {v : Nat → Nat → Int32} {r : Int32} {K : KL} {e : Nat × Nat × Nat} (he : e.1 ≠ 0) : Rp G go lf rs td ct (cnt (e :: K)) v r ↔ Rp G go lf rs td ct (cnt K) v r := by
  have : cnt (e :: K) = cnt K := by
    funext s; simp only [cnt]; rw [if_neg (fun q => he q.1)]; rfl
  rw [this]
theorem Rp_pop {G : GP} {go : Nat → Nat} {lf : Nat → Int32} {rs : Int32} {td ct : Nat → Int32} {v : Nat → Nat → Int32} {r : Int32} {K : KL} {x y : Nat} (hK : K.length < 1000) (h : Rp G go lf rs td ct (cnt ((0, x, y) :: K)) v r) :
    Rp G go (upd lf x (lf x + 1)) rs td ct (cnt K) (va_up (va_up v 9 (upd (v 9) x (v 9 x - 1))) 8 (upd (v 8) x (v 8 x + 1))) r := by
  obtain ⟨h1, h2, h3, h4, h5, h6, h7, h8⟩ := h
  refine ⟨h1, h2, h3, ?_, hok_pop h5 hK, h6, h7, h8⟩
  intro s hs
  show upd (v 8) x (v 8 x + 1) s = upd lf x (lf x + 1) s
  by_cases q : s = x
  · subst q; rw [pk_us, pk_us, h4 _ hs]
  · rw [pk_un q, pk_un q]; exact h4 _ hs
theorem R_caught {G : GP} {go : Nat → Nat} {lf : Nat → Int32} {rs : Int32} {td ct : Nat → Int32} {st p nx f x y : Nat} {v : Nat → Nat → Int32} {r : Int32} {K : KL} (hf : f < 10) (hR : Rp G go lf rs td ct (cnt ((1, x, y) :: K)) v r) (hsK : Rst v K) (hvp : v 13 (lvl K) = nI p) :
    Rr G (go, lf, rs, upd td 6 (td 6 + 1), upd ct f (ct f + 1), st, p, nx, K) (va_up (va_up (va_up v 14 (upd (v 14) (lvl K) (nI nx))) 12 (upd (v 12) f (v 12 f + 1))) 11 (upd (v 11) 6 (v 11 6 + 1)), r, nI (lvl K), nI (bl K), nI (hn K)) := by
  obtain ⟨h1, h2, h3, h4, h5, h6, h7, h8⟩ := (Rp_same (by simp)).mp hR
  refine ⟨⟨⟨h1, h2, h3, h4, h5, ?_, ?_, h8⟩, Rst_frame (v := v) (fun j hj => ⟨rfl, rfl, rfl⟩) (fun j hj => ⟨rfl, ?_⟩) hsK, hvp, pk_us⟩, rfl, rfl, rfl⟩
  · exact upd_le h6 (by rw [h6 6 (by decide)])
  · exact upd_le h7 (by rw [h7 f hf])
  · show upd (v 14) (lvl K) (nI nx) j = v 14 j
    exact upd_out hj
theorem R_ends {G : GP} {go : Nat → Nat} {lf : Nat → Int32} {rs : Int32} {td ct : Nat → Int32} {v : Nat → Nat → Int32} {r x y z : Int32} {hd : Nat → Nat} (hR : Rp G go lf rs td ct hd v r) :
    Rp G go lf rs (upd (upd (upd td 0 x) 1 y) 2 z) ct hd (va_up v 11 (upd (upd (upd (v 11) 0 x) 1 y) 2 z)) r := by
  obtain ⟨h1, h2, h3, h4, h5, h6, h7, h8⟩ := hR
  exact ⟨h1, h2, h3, h4, h5, upd_le (upd_le (upd_le h6 rfl) rfl) rfl, h7, h8⟩
