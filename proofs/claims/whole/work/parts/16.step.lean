/-! steps of the machine in numbers -/
def bot : KL → Nat → Nat
  | [], p => p
  | e :: K, p => bot K (if e.1 = 8 then e.2.1 else p)
theorem bot_0 : ∀ {K : KL} {p : Nat}, lvl K = 0 → bot K p = p
  | [], p, _ => rfl
  | e :: K, p, h => by
    simp only [lvl] at h
    by_cases q : e.1 = 8
    · rw [if_pos q] at h; omega
    · rw [if_neg q] at h
      simp only [bot]
      rw [if_neg q]
      exact bot_0 (by omega)
theorem upd_3 {td : Nat → Int32} {j : Nat} {x : Int32} (h : j ≠ 3) : upd td j x 3 = td 3 := pk_un (fun q => h q.symm)
section STEP
variable {G : GP} {go : Nat → Nat} {lf : Nat → Int32} {rs : Int32} {td ct : Nat → Int32} {st p nx n F : Nat} {K : KL}
theorem a_run_out (h : G.1 p ≤ nx) (hK : lvl K = 0) : a_run G n (F + 1) (go, lf, rs, td, ct, st, p, nx, K) = (0, (go, lf, rs, td, ct, st, p, nx, K)) := by
  cases K with
  | nil => simp only [a_run, h, if_true]
  | cons e K =>
    obtain ⟨e0, e1, e2⟩ := e
    have he : e0 ≠ 8 := by
      intro q
      simp only [lvl, q, if_true] at hK
      omega
    simp only [a_run, h, if_true]
    split
    · rename_i heq
      simp only [List.cons.injEq, Prod.mk.injEq] at heq
      exact absurd heq.1.1 he
    · rfl
theorem a_run_call {q m : Nat} (h : G.1 p ≤ nx) : a_run G n (F + 1) (go, lf, rs, td, ct, st, p, nx, (8, q, m) :: K) = a_run G n F (go, lf, rs, td, ct, st, q, m, K) := by
  simp only [a_run, h, if_true]
theorem a_run_stop (h : ¬ G.1 p ≤ nx) (hs : n ≤ st) : a_run G n (F + 1) (go, lf, rs, td, ct, st, p, nx, K) = (2, (a_fail G 0 p nx (go, lf, rs, td, ct, st, p, nx, K)).2) := by
  simp only [a_run, h, hs, if_true, if_false]
theorem a_step_ok (hz : (a_does G (go, lf, rs, upd td 3 (td 3 + 1), ct, st + 1, p, nx + 1, K) nx).1 = 0) : a_step G (go, lf, rs, td, ct, st, p, nx, K) = (true, (a_does G (go, lf, rs, upd td 3 (td 3 + 1), ct, st + 1, p, nx + 1, K) nx).2) := by
  simp only [a_step]
  split
  · rename_i heq; rw [heq]
  · rename_i heq; rw [heq] at hz; cases hz
theorem a_run_ok (h : ¬ G.1 p ≤ nx) (hs : ¬ n ≤ st) (hz : (a_does G (go, lf, rs, upd td 3 (td 3 + 1), ct, st + 1, p, nx + 1, K) nx).1 = 0) : a_run G n (F + 1) (go, lf, rs, td, ct, st, p, nx, K) = a_run G n F (a_does G (go, lf, rs, upd td 3 (td 3 + 1), ct, st + 1, p, nx + 1, K) nx).2 := by
  simp only [a_run, h, hs, if_false, a_step_ok hz]
theorem A_put_f {th : Nat → Bool} {hd : Nat → Nat} {x m : Nat} (h : (A_put th go hd x m).1 ≠ 0) : (A_put th go hd x m).2 = go := by
  unfold A_put at h ⊢
  split
  · rename_i q; rw [if_pos q] at h; split
    · rfl
    · rename_i q2; rw [if_neg q2] at h; exact absurd rfl h
  · rfl
theorem A_take_f {th : Nat → Bool} {hd : Nat → Nat} {x m : Nat} (h : (A_take th go hd x m).1 ≠ 0) : (A_take th go hd x m).2 = go := by
  unfold A_take at h ⊢
  split
  · rename_i q; rw [if_pos q] at h; split
    · rfl
    · rename_i q2; rw [if_neg q2] at h; exact absurd rfl h
  · rfl
theorem A_share_f {th : Nat → Bool} {hd : Nat → Nat} {x m : Nat} (h : (A_share th go hd rs x m).1 ≠ 0) : (A_share th go hd rs x m).2 = (go, rs) := by
  unfold A_share at h ⊢
  split
  · rename_i q; rw [if_pos q] at h; split
    · rfl
    · rename_i q2; rw [if_neg q2] at h; exact absurd rfl h
  · rfl
theorem A_move_f {th : Nat → Bool} {x y m : Nat} (h : (A_move th go x y m).1 ≠ 0) : (A_move th go x y m).2 = go := by
  unfold A_move at h ⊢
  split
  · rfl
  · rename_i q1; rw [if_neg q1] at h; split
    · rfl
    · rename_i q2; rw [if_neg q2] at h; split
      · rfl
      · rename_i q3; rw [if_neg q3] at h; split
        · rfl
        · rename_i q4; rw [if_neg q4] at h; exact absurd rfl h
theorem A_put_9 {th : Nat → Bool} {hd : Nat → Nat} {x m : Nat} : (A_put th go hd x m).1 ≤ 9 := by
  have := mol_le (th := th) (hd := hd) (s := x)
  unfold A_put; split
  · split <;> simp only <;> omega
  · simp only; omega
theorem A_take_9 {th : Nat → Bool} {hd : Nat → Nat} {x m : Nat} : (A_take th go hd x m).1 ≤ 9 := by
  have := mol_le (th := th) (hd := hd) (s := x)
  unfold A_take; split
  · split <;> simp only <;> omega
  · simp only; omega
theorem A_share_9 {th : Nat → Bool} {hd : Nat → Nat} {x m : Nat} : (A_share th go hd rs x m).1 ≤ 9 := by
  have := mol_le (th := th) (hd := hd) (s := x)
  unfold A_share; split
  · split <;> simp only <;> omega
  · simp only; omega
theorem A_move_9 {th : Nat → Bool} {x y m : Nat} : (A_move th go x y m).1 ≤ 9 := by
  unfold A_move; split
  · simp only; omega
  · split
    · simp only; omega
    · split
      · simp only; omega
      · split <;> simp only <;> omega
theorem does_9 {act : Nat} (hc : G.2.1 p act < 10000) : (a_does G (go, lf, rs, td, ct, st, p, nx, K) act).1 ≤ 9 := by
  rcases k10 hc with hk | hk | hk | hk | hk | hk | hk | hk | hk | hk
  · rw [a_does_0 hk]
    have := mis_le (th := G.2.2) (s := G.2.1 p act / 100 % 10)
    simp only [a_hold]; split <;> simp only <;> omega
  · rw [a_does_1 hk]; omega
  · rw [a_does_2 hk]; omega
  · rw [a_does_3 hk]; exact A_put_9
  · rw [a_does_4 hk]; exact A_take_9
  · rw [a_does_5 hk]; exact A_share_9
  · rw [a_does_6 hk]; exact A_move_9
  · rw [a_does_7 hk]
    have : G.2.1 p act / 100 % 10 < 10 := Nat.mod_lt _ (by decide)
    simp only; omega
  · rw [a_does_8 hk]
    simp only [a_call]; split <;> simp only <;> omega
  · rw [a_does_9 hk]; omega
theorem does_fail {act : Nat} (hc : G.2.1 p act < 10000) (h : (a_does G (go, lf, rs, td, ct, st, p, nx, K) act).1 ≠ 0) : (a_does G (go, lf, rs, td, ct, st, p, nx, K) act).2 = (go, lf, rs, td, ct, st, p, nx, K) := by
  rcases k10 hc with hk | hk | hk | hk | hk | hk | hk | hk | hk | hk
  · rw [a_does_0 hk] at h ⊢
    simp only [a_hold] at h ⊢
    split
    · rename_i q; rw [if_pos q] at h; exact absurd rfl h
    · rfl
  · rw [a_does_1 hk] at h; exact absurd rfl h
  · rw [a_does_2 hk] at h; exact absurd rfl h
  · rw [a_does_3 hk] at h ⊢; simp only [A_put_f h]
  · rw [a_does_4 hk] at h ⊢; simp only [A_take_f h]
  · rw [a_does_5 hk] at h ⊢; simp only [A_share_f h]
  · rw [a_does_6 hk] at h ⊢; simp only [A_move_f h]
  · rw [a_does_7 hk]
  · rw [a_does_8 hk] at h ⊢
    simp only [a_call] at h ⊢
    split
    · rename_i q; rw [if_pos q] at h; exact absurd rfl h
    · rfl
  · rw [a_does_9 hk]
/-- what a step that goes on keeps: with X its end -/
def Kept (G : GP) (st p : Nat) (K : KL) (X : CF) : Prop := Inv G X ∧ bot X.2.2.2.2.2.2.2.2 X.2.2.2.2.2.2.1 = bot K p ∧ X.2.2.2.2.2.1 = st + 1 ∧ lvl X.2.2.2.2.2.2.2.2 ≤ lvl K + 1
theorem does_inv (hI : Inv G (go, lf, rs, td, ct, st, p, nx, K)) (ha : nx < G.1 p) (hs : st < 64) (hc : G.2.1 p nx < 10000) (hz : (a_does G (go, lf, rs, upd td 3 (td 3 + 1), ct, st + 1, p, nx + 1, K) nx).1 = 0) :
    Kept G st p K (a_does G (go, lf, rs, upd td 3 (td 3 + 1), ct, st + 1, p, nx + 1, K) nx).2 := by
  obtain ⟨h1, h2, h3, h4, h5, h6, h7, h8⟩ := hI
  have h9 : upd td 3 (td 3 + 1) 3 = nI (st + 1) := by rw [pk_us, h8]; exact nI_1 st
  have hr : ∀ (go' : Nat → Nat) (rs' : Int32), 3 ≤ G.2.1 p nx / 1000 → Kept G st p K (go', lf, rs', upd td 3 (td 3 + 1), ct, st + 1, p, nx + 1, K) := fun go' rs' hk =>
    ⟨⟨h1, h2, by omega, by rw [dp_k0 hk]; exact h4, by omega, by omega, h7, h9⟩, rfl, rfl, by simp only; omega⟩
  rcases k10 hc with hk | hk | hk | hk | hk | hk | hk | hk | hk | hk
  · rw [a_does_0 hk] at hz ⊢
    simp only [a_hold] at hz ⊢
    split
    · rename_i q
      have q8 := mis_0 q
      refine ⟨⟨h1, h2, by omega, ?_, ?_, by omega, h7, ?_⟩, rfl, rfl, by simp [lvl]⟩
      · rw [dp_k1 (by omega)]
        exact Or.inl ⟨rfl, q8.1, by rw [Int.add_sub_cancel]; exact h4⟩
      · simp only [List.length_cons]; omega
      · rw [upd_3 (by decide), upd_3 (by decide)]; exact h9
    · rename_i q; rw [if_neg q] at hz; exact absurd hz q
  · rw [a_does_1 hk]
    refine ⟨⟨h1, h2, by omega, ?_, ?_, by omega, h7, h9⟩, rfl, rfl, by simp [lvl]⟩
    · rw [dp_k1 (by omega)]
      exact Or.inr (Or.inl ⟨rfl, Nat.mod_lt _ (by decide), ha, by simp only; omega, by simp only; omega, by rw [Int.add_sub_cancel]; exact h4⟩)
    · simp only [List.length_cons]; omega
  · rw [a_does_2 hk]
    have hd := dp_k2 hk
    have hd1 : 1 ≤ dp (G.2.1 p) nx := by have := h2.1 (nx + 1) (by omega); omega
    obtain ⟨e, K', rfl, he, hw⟩ := WF_end h4 hd1
    have he8 : e.1 ≠ 8 := by rcases he with q | q <;> omega
    have hl : lvl (e :: K') = lvl K' := by simp only [lvl]; rw [if_neg he8]; rfl
    refine ⟨⟨h1, h2, by omega, ?_, ?_, by omega, by rw [hl] at h7; exact h7, h9⟩, ?_, rfl, by rw [hl]; simp only [List.tail_cons]; omega⟩
    · rw [hd]; exact hw
    · simp only [List.tail_cons, List.length_cons] at h5 ⊢; omega
    · simp only [List.tail_cons, bot]; rw [if_neg he8]
  · rw [a_does_3 hk]; exact hr _ _ (by omega)
  · rw [a_does_4 hk]; exact hr _ _ (by omega)
  · rw [a_does_5 hk]; exact hr _ _ (by omega)
  · rw [a_does_6 hk]; exact hr _ _ (by omega)
  · rw [a_does_7 hk]; exact hr _ _ (by omega)
  · rw [a_does_8 hk] at hz ⊢
    simp only [a_call] at hz ⊢
    split
    · rename_i q
      refine ⟨⟨q.1, q.2.2, Nat.zero_le _, ?_, ?_, by omega, ?_, ?_⟩, rfl, rfl, by simp only [lvl, if_true]; omega⟩
      · exact Or.inr (Or.inr ⟨rfl, rfl, h1, h2, by simp only; omega, by simp only; rw [dp_k0 (by omega)]; exact h4⟩)
      · simp only [List.length_cons]; omega
      · simp only [lvl, if_true]; omega
      · rw [upd_3 (by decide)]; exact h9
    · rename_i q; rw [if_neg q] at hz; cases hz
  · rw [a_does_9 hk]; exact hr _ _ (by omega)
end STEP
theorem unw_inv {G : GP} {go : Nat → Nat} {rs : Int32} {f st : Nat} (hs : st ≤ 64) : ∀ {K : KL} {lf td ct : Nat → Int32} {p nx : Nat} {d : Int}, p < 6 → clo (G.1 p) (G.2.1 p) → WF G p d K → K.length ≤ st → lvl K ≤ 4 → td 3 = nI st → (unw G f K lf td ct p nx).1 = true →
    Inv G (go, (unw G f K lf td ct p nx).2.1, rs, (unw G f K lf td ct p nx).2.2.1, (unw G f K lf td ct p nx).2.2.2.1, st, (unw G f K lf td ct p nx).2.2.2.2.1, (unw G f K lf td ct p nx).2.2.2.2.2.1, (unw G f K lf td ct p nx).2.2.2.2.2.2) ∧ bot (unw G f K lf td ct p nx).2.2.2.2.2.2 (unw G f K lf td ct p nx).2.2.2.2.1 = bot K p ∧ lvl (unw G f K lf td ct p nx).2.2.2.2.2.2 ≤ lvl K
  | [], lf, td, ct, p, nx, d, h1, h2, h3, h4, h5, h6, h7 => by cases h7
  | e :: K, lf, td, ct, p, nx, d, h1, h2, h3, h4, h5, h6, h7 => by
    obtain ⟨e0, e1, e2⟩ := e
    have h4 : K.length + 1 ≤ st := h4
    have hlK : lvl K ≤ lvl ((e0, e1, e2) :: K) := by simp only [lvl]; omega
    rcases h3 with ⟨he, hx, hw⟩ | ⟨he, hx, ha, hk, hd, hw⟩ | ⟨he, hd, hq, hc, hn, hw⟩
    · simp only at he; subst he
      rw [unw_h] at h7 ⊢
      obtain ⟨g1, g2, g3⟩ := unw_inv (go := go) (rs := rs) hs h1 h2 hw (by omega) (by omega) h6 h7
      exact ⟨g1, g2, by omega⟩
    · simp only at he; subst he
      by_cases q : f ≠ 0 ∧ (e1 = 0 ∨ e1 = f)
      · rw [unw_c q.1 q.2]
        obtain ⟨kk, hkk, hb⟩ := beh_ex h2 ha hk
        simp only at hb
        refine ⟨⟨h1, h2, ?_, ?_, (by show K.length ≤ st; omega), hs, (by show lvl K ≤ 4; omega), ?_⟩, rfl, (by show lvl K ≤ _; exact hlK)⟩
        · show beh (G.2.1 p) e2 ≤ G.1 p
          rw [beh_eq hb]; exact hkk
        · show WF G p (dp (G.2.1 p) (beh (G.2.1 p) e2)) K
          rw [beh_eq hb, hb.2.1, hd]; exact hw
        · show upd td 6 (td 6 + 1) 3 = nI st
          rw [upd_3 (by decide)]; exact h6
      · rw [unw_t q] at h7 ⊢
        obtain ⟨g1, g2, g3⟩ := unw_inv (go := go) (rs := rs) hs h1 h2 hw (by omega) (by omega) h6 h7
        exact ⟨g1, g2, by omega⟩
    · simp only at he; subst he
      rw [unw_8] at h7 ⊢
      obtain ⟨g1, g2, g3⟩ := unw_inv (go := go) (rs := rs) hs hq hc hw (by omega) (by omega) h6 h7
      exact ⟨g1, g2, Nat.le_trans g3 hlK⟩
section STEP2
variable {G : GP} {go : Nat → Nat} {lf : Nat → Int32} {rs : Int32} {td ct : Nat → Int32} {st p nx n F f : Nat} {K : KL}
theorem a_step_f (hc : G.2.1 p nx < 10000) (hz : (a_does G (go, lf, rs, upd td 3 (td 3 + 1), ct, st + 1, p, nx + 1, K) nx).1 = f) (hf : f ≠ 0) : a_step G (go, lf, rs, td, ct, st, p, nx, K) = a_fail G f p nx (go, lf, rs, upd td 3 (td 3 + 1), ct, st + 1, p, nx + 1, K) := by
  have h2 := does_fail (G := G) (go := go) (lf := lf) (rs := rs) (td := upd td 3 (td 3 + 1)) (ct := ct) (st := st + 1) (nx := nx + 1) (K := K) hc (by rw [hz]; exact hf)
  simp only [a_step]
  split
  · rename_i heq; rw [heq] at hz; exact absurd hz.symm hf
  · rename_i heq; rw [heq] at hz h2; simp only at hz h2; rw [← hz, h2]
theorem a_run_caught (h : ¬ G.1 p ≤ nx) (hs : ¬ n ≤ st) (hc : G.2.1 p nx < 10000) (hz : (a_does G (go, lf, rs, upd td 3 (td 3 + 1), ct, st + 1, p, nx + 1, K) nx).1 = f) (hf : f ≠ 0) (hu : (unw G f K lf (upd td 3 (td 3 + 1)) ct p (nx + 1)).1 = true) :
    a_run G n (F + 1) (go, lf, rs, td, ct, st, p, nx, K) = a_run G n F (go, (unw G f K lf (upd td 3 (td 3 + 1)) ct p (nx + 1)).2.1, rs, (unw G f K lf (upd td 3 (td 3 + 1)) ct p (nx + 1)).2.2.1, (unw G f K lf (upd td 3 (td 3 + 1)) ct p (nx + 1)).2.2.2.1, st + 1, (unw G f K lf (upd td 3 (td 3 + 1)) ct p (nx + 1)).2.2.2.2.1, (unw G f K lf (upd td 3 (td 3 + 1)) ct p (nx + 1)).2.2.2.2.2.1, (unw G f K lf (upd td 3 (td 3 + 1)) ct p (nx + 1)).2.2.2.2.2.2) := by
  simp only [a_run, h, hs, if_false, a_step_f hc hz hf, a_fail]
  generalize unw G f K lf (upd td 3 (td 3 + 1)) ct p (nx + 1) = z at hu ⊢
  obtain ⟨b, z⟩ := z
  simp only at hu
  subst hu
  rfl
theorem a_run_failed (h : ¬ G.1 p ≤ nx) (hs : ¬ n ≤ st) (hc : G.2.1 p nx < 10000) (hz : (a_does G (go, lf, rs, upd td 3 (td 3 + 1), ct, st + 1, p, nx + 1, K) nx).1 = f) (hf : f ≠ 0) (hu : (unw G f K lf (upd td 3 (td 3 + 1)) ct p (nx + 1)).1 = false) :
    (a_run G n (F + 1) (go, lf, rs, td, ct, st, p, nx, K)).1 = 1 ∧ (a_run G n (F + 1) (go, lf, rs, td, ct, st, p, nx, K)).2.1 = go ∧ (a_run G n (F + 1) (go, lf, rs, td, ct, st, p, nx, K)).2.2.1 = (unw G f K lf (upd td 3 (td 3 + 1)) ct p (nx + 1)).2.1 ∧ (a_run G n (F + 1) (go, lf, rs, td, ct, st, p, nx, K)).2.2.2.1 = rs ∧ (a_run G n (F + 1) (go, lf, rs, td, ct, st, p, nx, K)).2.2.2.2.1 = upd (upd (upd (upd td 3 (td 3 + 1)) 0 (nI f)) 1 (nI p)) 2 (nI nx) ∧ (a_run G n (F + 1) (go, lf, rs, td, ct, st, p, nx, K)).2.2.2.2.2.1 = ct := by
  have hno := unw_no hu
  simp only [a_run, h, hs, if_false, a_step_f hc hz hf, a_fail]
  generalize unw G f K lf (upd td 3 (td 3 + 1)) ct p (nx + 1) = z at hu hno ⊢
  obtain ⟨b, z1, z2, z3, z⟩ := z
  simp only at hu hno
  subst hu
  obtain ⟨rfl, rfl, _⟩ := hno
  exact ⟨rfl, rfl, rfl, rfl, rfl, rfl⟩
theorem a_run_stopped (h : ¬ G.1 p ≤ nx) (hs : n ≤ st) :
    (a_run G n (F + 1) (go, lf, rs, td, ct, st, p, nx, K)).1 = 2 ∧ (a_run G n (F + 1) (go, lf, rs, td, ct, st, p, nx, K)).2.1 = go ∧ (a_run G n (F + 1) (go, lf, rs, td, ct, st, p, nx, K)).2.2.1 = (unw G 0 K lf td ct p nx).2.1 ∧ (a_run G n (F + 1) (go, lf, rs, td, ct, st, p, nx, K)).2.2.2.1 = rs ∧ (a_run G n (F + 1) (go, lf, rs, td, ct, st, p, nx, K)).2.2.2.2.1 = upd (upd (upd td 0 (nI 0)) 1 (nI p)) 2 (nI nx) ∧ (a_run G n (F + 1) (go, lf, rs, td, ct, st, p, nx, K)).2.2.2.2.2.1 = ct := by
  have hu := unw_0 (G := G) (K := K) (lf := lf) (td := td) (ct := ct) (p := p) (nx := nx)
  have hno := unw_no hu
  rw [a_run_stop h hs]
  simp only [a_fail]
  generalize unw G 0 K lf td ct p nx = z at hu hno ⊢
  obtain ⟨b, z1, z2, z3, z⟩ := z
  simp only at hu hno
  subst hu
  obtain ⟨rfl, rfl, _⟩ := hno
  exact ⟨trivial, rfl, rfl, rfl, rfl, rfl⟩
end STEP2
