/-! the machine in numbers. K: what is open, the innermost first: (0, shelf, 0) a HOLD, (1, failure, act) a TRY, (8, plan, act to come) a CALL -/
abbrev KL : Type := List (Nat × Nat × Nat)
abbrev GP : Type := (Nat → Nat) × (Nat → Nat → Nat) × (Nat → Bool)
/-- goods, left, rest, told, caught, steps, plan, act to come, open -/
abbrev CF : Type := (Nat → Nat) × (Nat → Int32) × Int32 × (Nat → Int32) × (Nat → Int32) × Nat × Nat × Nat × KL
def cnt : KL → Nat → Nat
  | [], _ => 0
  | e :: K, s => cnt K s + (if e.1 = 0 ∧ e.2.1 = s then 1 else 0)
def hn : KL → Nat
  | [] => 0
  | e :: K => hn K + (if e.1 = 0 then 1 else 0)
def lvl : KL → Nat
  | [] => 0
  | e :: K => lvl K + (if e.1 = 8 then 1 else 0)
def bl : KL → Nat
  | [] => 0
  | e :: K => bl K + (if e.1 = 8 then 0 else 1)
theorem cnt_le : ∀ (K : KL) (s : Nat), cnt K s ≤ K.length
  | [], _ => Nat.le_refl _
  | e :: K, s => by
    have := cnt_le K s
    simp only [cnt, List.length_cons]
    split <;> omega
theorem hn_le : ∀ K : KL, hn K ≤ K.length
  | [] => Nat.le_refl _
  | e :: K => by
    have := hn_le K
    simp only [hn, List.length_cons]
    split <;> omega
theorem bl_le : ∀ K : KL, bl K ≤ K.length
  | [] => Nat.le_refl _
  | e :: K => by
    have := bl_le K
    simp only [bl, List.length_cons]
    split <;> omega
theorem isBeh_u {cd : Nat → Nat} {b k k2 : Nat} (h : isBeh cd b k) (h2 : isBeh cd b k2) : k = k2 := by
  rcases Nat.lt_trichotomy k k2 with q | q | q
  · have := h2.2.2 k h.1 q; have := h.2.1; omega
  · exact q
  · have := h.2.2 k2 h2.1 q; have := h2.2.1; omega
noncomputable def beh (cd : Nat → Nat) (b : Nat) : Nat := Classical.epsilon (fun k => isBeh cd b k)
theorem beh_eq {cd : Nat → Nat} {b k : Nat} (h : isBeh cd b k) : beh cd b = k := isBeh_u (Classical.epsilon_spec (p := fun k => isBeh cd b k) ⟨k, h⟩) h
theorem dk_lo (k : Nat) : -1 ≤ dk k := by
  unfold dk
  split
  · omega
  · split <;> omega
theorem beh_ex {n : Nat} {cd : Nat → Nat} {b : Nat} (hc : clo n cd) (hb : b < n) (hk : cd b / 1000 ≤ 1) : ∃ k, k ≤ n ∧ isBeh cd b k := by
  obtain ⟨k, ⟨h1, h2⟩, h3⟩ := pk_least (fun k => b < k ∧ dp cd k ≤ dp cd b) ⟨n, hb, by rw [hc.2]; exact hc.1 b (by omega)⟩
  have hkn : k ≤ n := by
    rcases Nat.lt_or_ge n k with q | q
    · exact absurd (⟨hb, by rw [hc.2]; exact hc.1 b (by omega)⟩ : b < n ∧ dp cd n ≤ dp cd b) (h3 n q)
    · exact q
  refine ⟨k, hkn, h1, ?_, fun j q1 q2 => ?_⟩
  · obtain ⟨j, rfl⟩ : ∃ j, k = j + 1 := ⟨k - 1, by omega⟩
    have hs : dp cd (b + 1) = dp cd b + 1 := by simp only [dp, dk]; rw [if_pos hk]
    rcases Nat.lt_or_ge b j with q | q
    · have h4 : ¬ (b < j ∧ dp cd j ≤ dp cd b) := h3 j (by omega)
      have h5 : dp cd (j + 1) = dp cd j + dk (cd j / 1000) := rfl
      have h6 := dk_lo (cd j / 1000)
      omega
    · have : j = b := by omega
      subst this
      omega
  · have := h3 j q2
    omega
/-- what is open stands as the plans have it -/
def WF (G : GP) : Nat → Int → KL → Prop
  | _, d, [] => d = 0
  | p, d, e :: K => (e.1 = 0 ∧ e.2.1 < 8 ∧ WF G p (d - 1) K) ∨ (e.1 = 1 ∧ e.2.1 < 10 ∧ e.2.2 < G.1 p ∧ G.2.1 p e.2.2 / 1000 ≤ 1 ∧ dp (G.2.1 p) e.2.2 = d - 1 ∧ WF G p (d - 1) K) ∨ (e.1 = 8 ∧ d = 0 ∧ e.2.1 < 6 ∧ clo (G.1 e.2.1) (G.2.1 e.2.1) ∧ e.2.2 ≤ G.1 e.2.1 ∧ WF G e.2.1 (dp (G.2.1 e.2.1) e.2.2) K)
theorem WF_pos {G : GP} : ∀ {K : KL} {p : Nat} {d : Int}, WF G p d K → 0 ≤ d
  | [], p, d, h => by have h : d = 0 := h; omega
  | e :: K, p, d, h => by
    rcases h with ⟨_, _, h⟩ | ⟨_, _, _, _, _, h⟩ | ⟨_, h, _⟩
    · have := WF_pos h; omega
    · have := WF_pos h; omega
    · omega
def a_hold (G : GP) : CF → Nat → Nat × CF
  | (go, lf, rs, td, ct, st, p, nx, K), a => if mis G.2.2 a = 0 then (0, (go, lf, rs, upd (upd td 4 (td 4 + 1)) 5 (if td 5 < nI (hn K) + 1 then nI (hn K) + 1 else td 5), ct, st, p, nx, (0, a, 0) :: K)) else (mis G.2.2 a, (go, lf, rs, td, ct, st, p, nx, K))
noncomputable def a_call (G : GP) : CF → Nat → Nat × CF
  | (go, lf, rs, td, ct, st, p, nx, K), a =>
    haveI := Classical.propDecidable (clo (G.1 a) (G.2.1 a))
    if a < 6 ∧ lvl K < 4 ∧ clo (G.1 a) (G.2.1 a) then (0, (go, lf, rs, upd td 7 (td 7 + 1), ct, st, a, 0, (8, p, nx) :: K)) else (6, (go, lf, rs, td, ct, st, p, nx, K))
noncomputable def a_does (G : GP) : CF → Nat → Nat × CF
  | (go, lf, rs, td, ct, st, p, nx, K), act =>
    match G.2.1 p act / 1000 with
    | 0 => a_hold G (go, lf, rs, td, ct, st, p, nx, K) (G.2.1 p act / 100 % 10)
    | 1 => (0, (go, lf, rs, td, ct, st, p, nx, (1, G.2.1 p act / 100 % 10, act) :: K))
    | 2 => (0, (go, lf, rs, td, ct, st, p, nx, K.tail))
    | 3 => ((A_put G.2.2 go (cnt K) (G.2.1 p act / 100 % 10) (G.2.1 p act / 10 % 10)).1, ((A_put G.2.2 go (cnt K) (G.2.1 p act / 100 % 10) (G.2.1 p act / 10 % 10)).2, lf, rs, td, ct, st, p, nx, K))
    | 4 => ((A_take G.2.2 go (cnt K) (G.2.1 p act / 100 % 10) (G.2.1 p act / 10 % 10)).1, ((A_take G.2.2 go (cnt K) (G.2.1 p act / 100 % 10) (G.2.1 p act / 10 % 10)).2, lf, rs, td, ct, st, p, nx, K))
    | 5 => ((A_share G.2.2 go (cnt K) rs (G.2.1 p act / 100 % 10) (G.2.1 p act / 10 % 10)).1, ((A_share G.2.2 go (cnt K) rs (G.2.1 p act / 100 % 10) (G.2.1 p act / 10 % 10)).2.1, lf, (A_share G.2.2 go (cnt K) rs (G.2.1 p act / 100 % 10) (G.2.1 p act / 10 % 10)).2.2, td, ct, st, p, nx, K))
    | 6 => ((A_move G.2.2 go (G.2.1 p act / 100 % 10) (G.2.1 p act / 10 % 10) (G.2.1 p act % 10)).1, ((A_move G.2.2 go (G.2.1 p act / 100 % 10) (G.2.1 p act / 10 % 10) (G.2.1 p act % 10)).2, lf, rs, td, ct, st, p, nx, K))
    | 7 => (G.2.1 p act / 100 % 10, (go, lf, rs, td, ct, st, p, nx, K))
    | 8 => a_call G (go, lf, rs, td, ct, st, p, nx, K) (G.2.1 p act / 100 % 10)
    | _ => (0, (go, lf, rs, td, ct, st, p, nx, K))
/-- a failure f (0: the stop) goes outwards: whether it is caught, and what is then: left, told, caught, plan, act to come, open -/
noncomputable def unw (G : GP) (f : Nat) : KL → (Nat → Int32) → (Nat → Int32) → (Nat → Int32) → Nat → Nat → Bool × (Nat → Int32) × (Nat → Int32) × (Nat → Int32) × Nat × Nat × KL
  | [], lf, td, ct, p, nx => (false, lf, td, ct, p, nx, [])
  | e :: K, lf, td, ct, p, nx =>
    if e.1 = 8 then unw G f K lf td ct e.2.1 e.2.2
    else if e.1 = 0 then unw G f K (upd lf e.2.1 (lf e.2.1 + 1)) td ct p nx
    else if f ≠ 0 ∧ (e.2.1 = 0 ∨ e.2.1 = f) then (true, lf, upd td 6 (td 6 + 1), upd ct f (ct f + 1), p, beh (G.2.1 p) e.2.2, K)
    else unw G f K lf td ct p nx
theorem unw_no {G : GP} {f : Nat} : ∀ {K : KL} {lf td ct : Nat → Int32} {p nx : Nat}, (unw G f K lf td ct p nx).1 = false → (unw G f K lf td ct p nx).2.2.1 = td ∧ (unw G f K lf td ct p nx).2.2.2.1 = ct ∧ (unw G f K lf td ct p nx).2.2.2.2.2.2 = []
  | [], lf, td, ct, p, nx, h => ⟨rfl, rfl, rfl⟩
  | e :: K, lf, td, ct, p, nx, h => by
    unfold unw at h ⊢
    split
    · rename_i h1; rw [if_pos h1] at h; exact unw_no h
    · rename_i h1; rw [if_neg h1] at h
      split
      · rename_i h2; rw [if_pos h2] at h; exact unw_no h
      · rename_i h2; rw [if_neg h2] at h
        split
        · rename_i h3; rw [if_pos h3] at h; cases h
        · rename_i h3; rw [if_neg h3] at h; exact unw_no h
theorem unw_0 {G : GP} : ∀ {K : KL} {lf td ct : Nat → Int32} {p nx : Nat}, (unw G 0 K lf td ct p nx).1 = false
  | [], lf, td, ct, p, nx => rfl
  | e :: K, lf, td, ct, p, nx => by
    unfold unw
    split
    · exact unw_0
    · split
      · exact unw_0
      · split
        · rename_i h; exact absurd rfl h.1
        · exact unw_0
/-- the failure f of an act: as it is caught, or the run's end -/
noncomputable def a_fail (G : GP) (f q act : Nat) : CF → Bool × CF
  | (go, lf, rs, td, ct, st, p, nx, K) =>
    match unw G f K lf td ct p nx with
    | (true, lf', td', ct', p', nx', K') => (true, (go, lf', rs, td', ct', st, p', nx', K'))
    | (false, lf', td', ct', p', nx', K') => (false, (go, lf', rs, upd (upd (upd td' 0 (nI f)) 1 (nI q)) 2 (nI act), ct', st, p', nx', K'))
noncomputable def a_step (G : GP) : CF → Bool × CF
  | (go, lf, rs, td, ct, st, p, nx, K) =>
    match a_does G (go, lf, rs, upd td 3 (td 3 + 1), ct, st + 1, p, nx + 1, K) nx with
    | (0, X) => (true, X)
    | (f + 1, X) => a_fail G (f + 1) p nx X
noncomputable def a_run (G : GP) (steps : Nat) : Nat → CF → Nat × CF
  | 0, X => (0, X)
  | F + 1, (go, lf, rs, td, ct, st, p, nx, K) =>
    if G.1 p ≤ nx then
      match K with
      | (8, q, n) :: K' => a_run G steps F (go, lf, rs, td, ct, st, q, n, K')
      | _ => (0, (go, lf, rs, td, ct, st, p, nx, K))
    else if steps ≤ st then (2, (a_fail G 0 p nx (go, lf, rs, td, ct, st, p, nx, K)).2)
    else match a_step G (go, lf, rs, td, ct, st, p, nx, K) with
      | (true, X) => a_run G steps F X
      | (false, X) => (1, X)
/-- what holds whenever an act is to come -/
def Inv (G : GP) : CF → Prop
  | (go, lf, rs, td, ct, st, p, nx, K) => p < 6 ∧ clo (G.1 p) (G.2.1 p) ∧ nx ≤ G.1 p ∧ WF G p (dp (G.2.1 p) nx) K ∧ K.length ≤ st ∧ st ≤ 64 ∧ lvl K ≤ 4 ∧ td 3 = nI st
