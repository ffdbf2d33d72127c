/-! numbers of the shelves: what the acts do -/
def td0 : Nat → Int32 := fun k => match k with
  | 1 => -4
  | 2 => -4
  | _ => 0
theorem gok_v {g : Nat → Int32} {th : Nat → Bool} {go : Nat → Nat} {s : Nat} (h : gok g th go) (hs : s < 8) (ht : th s = true) : g s = nI (go s) := by
  rw [(h s hs).1, ht]; rfl
theorem gok_up {g : Nat → Int32} {th : Nat → Bool} {go : Nat → Nat} {x v : Nat} (h : gok g th go) (ht : th x = true) (hv : v ≤ 1000) : gok (upd g x (nI v)) th (va_up go x v) := by
  intro s hs
  by_cases e : s = x
  · subst e
    simp only [upd, va_up, if_true]
    rw [ht]
    exact ⟨rfl, hv⟩
  · simp only [upd, va_up, e, if_false]
    exact h s hs
def fwd (th : Nat → Bool) (go : Nat → Nat) (y : Int32) : Nat → Int32
  | 0 => -4
  | r + 1 => if th (7 - r) = true ∧ y ≤ nI (go (7 - r)) then nI (7 - r) else fwd th go y r
theorem fwd_no {th : Nat → Bool} {go : Nat → Nat} {y : Int32} {i : Nat} (hi : i < 8) (hn : ¬ (th i = true ∧ y ≤ nI (go i))) : fwd th go y (8 - i) = fwd th go y (8 - (i + 1)) := by
  have e1 : 8 - i = (8 - (i + 1)) + 1 := by omega
  have e2 : 7 - (8 - (i + 1)) = i := by omega
  rw [e1, fwd, e2, if_neg hn]
theorem fwd_yes {th : Nat → Bool} {go : Nat → Nat} {y : Int32} {i : Nat} (hi : i < 8) (ht : th i = true) (hy : y ≤ nI (go i)) : fwd th go y (8 - i) = nI i := by
  have e1 : 8 - i = (8 - (i + 1)) + 1 := by omega
  have e2 : 7 - (8 - (i + 1)) = i := by omega
  rw [e1, fwd, e2, if_pos ⟨ht, hy⟩]
def rwd (th : Nat → Bool) (go : Nat → Nat) (y : Int32) : Nat → Int32
  | 0 => 8
  | r + 1 => if th (7 - r) = true ∧ nI (go (7 - r)) ≤ y then rwd th go y r else nI (7 - r)
theorem rwd_yes {th : Nat → Bool} {go : Nat → Nat} {y : Int32} {i : Nat} (hi : i < 8) (ht : th i = true) (hy : nI (go i) ≤ y) : rwd th go y (8 - i) = rwd th go y (8 - (i + 1)) := by
  have e1 : 8 - i = (8 - (i + 1)) + 1 := by omega
  have e2 : 7 - (8 - (i + 1)) = i := by omega
  rw [e1, rwd, e2, if_pos ⟨ht, hy⟩]
theorem rwd_no {th : Nat → Bool} {go : Nat → Nat} {y : Int32} {i : Nat} (hi : i < 8) (hn : ¬ (th i = true ∧ nI (go i) ≤ y)) : rwd th go y (8 - i) = nI i := by
  have e1 : 8 - i = (8 - (i + 1)) + 1 := by omega
  have e2 : 7 - (8 - (i + 1)) = i := by omega
  rw [e1, rwd, e2, if_neg hn]
def sm (th : Nat → Bool) (go : Nat → Nat) : Nat → Int32
  | 0 => 0
  | i + 1 => sm th go i + (if th i then nI (go i) else 0)
theorem mis_le {th : Nat → Bool} {s : Nat} : mis th s ≤ 2 := by
  unfold mis; split
  · omega
  · split <;> omega
theorem mis_0 {th : Nat → Bool} {s : Nat} (h : mis th s = 0) : s < 8 ∧ th s = true := by
  unfold mis at h
  split at h
  · omega
  · split at h
    · rename_i h1 h2; exact ⟨by omega, h2⟩
    · omega
theorem mol_le {th : Nat → Bool} {hd : Nat → Nat} {s : Nat} : mol th hd s ≤ 7 := by
  unfold mol
  have := mis_le (th := th) (s := s)
  split
  · split <;> omega
  · omega
theorem mol_0 {th : Nat → Bool} {hd : Nat → Nat} {s : Nat} (h : mol th hd s = 0) : s < 8 ∧ th s = true ∧ hd s ≠ 0 := by
  unfold mol at h
  split at h
  · rename_i h1
    split at h
    · omega
    · rename_i h2; exact ⟨(mis_0 h1).1, (mis_0 h1).2, h2⟩
  · rename_i h1; exact absurd h h1
def A_put (th : Nat → Bool) (go hd : Nat → Nat) (x n : Nat) : Nat × (Nat → Nat) :=
  if mol th hd x = 0 then (if 1000 < go x + n then (5, go) else (0, va_up go x (go x + n))) else (mol th hd x, go)
def A_take (th : Nat → Bool) (go hd : Nat → Nat) (x n : Nat) : Nat × (Nat → Nat) :=
  if mol th hd x = 0 then (if go x < n then (4, go) else (0, va_up go x (go x - n))) else (mol th hd x, go)
def A_share (th : Nat → Bool) (go hd : Nat → Nat) (r : Int32) (x n : Nat) : Nat × (Nat → Nat) × Int32 :=
  if mol th hd x = 0 then (if n = 0 then (3, go, r) else (0, va_up go x (go x / n), r + nI (go x - go x / n))) else (mol th hd x, go, r)
def A_move (th : Nat → Bool) (go : Nat → Nat) (x y n : Nat) : Nat × (Nat → Nat) :=
  if 8 ≤ x ∨ 8 ≤ y then (1, go) else if th x = false ∨ th y = false then (2, go) else if go x < n then (4, go) else if x ≠ y ∧ 1000 < go y + n then (5, go)
  else (0, va_up (va_up go x (go x - n)) y (va_up go x (go x - n) y + n))
theorem A_mv {th : Nat → Bool} {x y : Nat} (h1 : th x = true) (h2 : th y = true) : ¬ (th x = false ∨ th y = false) := by
  rintro (h | h)
  · rw [h1] at h; cases h
  · rw [h2] at h; cases h
theorem A_mvb {go : Nat → Nat} {x y n : Nat} (h1 : go x ≤ 1000) (h2 : n ≤ go x) (h3 : x = y ∨ go y + n ≤ 1000) : va_up go x (go x - n) y + n ≤ 1000 := by
  by_cases e : y = x
  · subst e; simp only [va_up, if_true]; omega
  · simp only [va_up, e, if_false]; omega
