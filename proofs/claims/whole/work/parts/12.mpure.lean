/-! the reference's world and words -/
abbrev wM (a : Nat → Nat) (cI cZ : ClassId) (v : Nat → Nat → Int32) (t r lv b o : Int32) : va_W := [(a 0, .inr (5, [.int t, .ref (a 1), .ref (a 2), .ref (a 3), .ref (a 4), .ref (a 5), .ref (a 6), .ref (a 7), .ref (a 8), .ref (a 9), .int r, .ref (a 11), .ref (a 12), .ref (a 13), .ref (a 14), .int lv, .ref (a 16), .ref (a 17), .ref (a 18), .int b, .int o])), (a 1, .inl (cI, 6, .inl (v 1))), (a 2, .inl (cI, 240, .inl (v 2))), (a 3, .inl (cI, 240, .inl (v 3))), (a 4, .inl (cI, 240, .inl (v 4))), (a 5, .inl (cI, 240, .inl (v 5))), (a 6, .inl (cZ, 8, .inl (v 6))), (a 7, .inl (cI, 8, .inl (v 7))), (a 8, .inl (cI, 8, .inl (v 8))), (a 9, .inl (cI, 8, .inl (v 9))), (a 11, .inl (cI, 8, .inl (v 11))), (a 12, .inl (cI, 10, .inl (v 12))), (a 13, .inl (cI, 5, .inl (v 13))), (a 14, .inl (cI, 5, .inl (v 14))), (a 16, .inl (cI, 128, .inl (v 16))), (a 17, .inl (cI, 128, .inl (v 17))), (a 18, .inl (cI, 128, .inl (v 18)))]
def rpl (v : Nat → Nat → Int32) (pn : Nat → Nat) (cd : Nat → Nat → Nat) : Prop := ∀ p, p < 6 → v 1 p = nI (pn p) ∧ pn p ≤ 40 ∧ ∀ i, i < pn p → v 2 (40 * p + i) = nI (cd p i / 1000) ∧ cd p i < 10000 ∧ (cd p i / 1000 ≠ 2 → cd p i / 1000 ≠ 9 → v 3 (40 * p + i) = nI (cd p i / 100 % 10)) ∧ (3 ≤ cd p i / 1000 → cd p i / 1000 ≤ 6 → v 4 (40 * p + i) = nI (cd p i / 10 % 10)) ∧ (cd p i / 1000 = 6 → v 5 (40 * p + i) = nI (cd p i % 10))
def gk (g : Nat → Int32) (go : Nat → Nat) : Prop := ∀ s, s < 8 → g s = nI (go s) ∧ go s ≤ 1000
def zk (z : Nat → Int32) (th : Nat → Bool) : Prop := ∀ s, s < 8 → z s = (if th s then 1 else 0)
theorem zk_1 {z : Nat → Int32} {th : Nat → Bool} {s : Nat} (h : zk z th) (hs : s < 8) (c : ¬ z s = 0) : th s = true := by
  rw [h s hs] at c
  cases q : th s
  · rw [q] at c; exact absurd rfl c
  · rfl
theorem zk_0 {z : Nat → Int32} {th : Nat → Bool} {s : Nat} (h : zk z th) (hs : s < 8) (c : z s = 0) : th s = false := by
  rw [h s hs] at c
  cases q : th s
  · rfl
  · rw [q] at c; exact absurd c (by decide)
theorem gk_up {g : Nat → Int32} {go : Nat → Nat} {x v : Nat} (h : gk g go) (hv : v ≤ 1000) : gk (upd g x (nI v)) (va_up go x v) := by
  intro s hs
  by_cases e : s = x
  · subst e
    simp only [upd, va_up, if_true]
    exact ⟨trivial, hv⟩
  · simp only [upd, va_up, e, if_false]
    exact h s hs
theorem ix40 (p k : Nat) : (40 : Int32) * nI p + nI k = nI (40 * p + k) := by
  rw [show (40 : Int32) = nI 40 from rfl, pk_mul, nI_add]
theorem dp_k1 {cd : Nat → Nat} {i : Nat} (h : cd i / 1000 ≤ 1) : dp cd (i + 1) = dp cd i + 1 := by
  simp only [dp, dk]; rw [if_pos h]
theorem dp_k2 {cd : Nat → Nat} {i : Nat} (h : cd i / 1000 = 2) : dp cd (i + 1) = dp cd i - 1 := by
  simp only [dp, dk]; rw [if_neg (by omega), if_pos h]; rfl
theorem dp_k0 {cd : Nat → Nat} {i : Nat} (h : 3 ≤ cd i / 1000) : dp cd (i + 1) = dp cd i := by
  simp only [dp, dk]; rw [if_neg (by omega), if_neg (by omega)]; omega
theorem mis_z {th : Nat → Bool} {x : Nat} (hx : x < 8) (h : th x = true) : mis th x = 0 := by
  rw [mis, if_neg (by omega), if_pos h]
theorem mis_n {th : Nat → Bool} {x : Nat} (hx : x < 8) (h : th x = false) : mis th x = 2 := by
  rw [mis, if_neg (by omega), if_neg (by rw [h]; decide)]
theorem mol_m {th : Nat → Bool} {hd : Nat → Nat} {x : Nat} (h : mis th x ≠ 0) : mol th hd x = mis th x := by rw [mol, if_neg h]
theorem mol_l {th : Nat → Bool} {hd : Nat → Nat} {x : Nat} (h : mis th x = 0) (h2 : hd x = 0) : mol th hd x = 7 := by rw [mol, if_pos h, if_pos h2]
theorem mol_z {th : Nat → Bool} {hd : Nat → Nat} {x : Nat} (h : mis th x = 0) (h2 : hd x ≠ 0) : mol th hd x = 0 := by rw [mol, if_pos h, if_neg h2]
theorem inN_c {x y : Int32} {m : Nat} (hm : m < 2147483647) (hy : y = nI m) (h0 : 0 ≤ x) (h1 : x ≤ y) : inN x (m + 1) := by
  obtain ⟨j, hj, rfl⟩ := nI_of (Int32.not_lt.mpr h0)
  refine ⟨j, ?_, rfl⟩
  rw [hy] at h1
  have := (nI_leI (a := j) (b := m) (by omega) (by omega)).mp h1
  omega
theorem inN_d {x y : Int32} {m : Nat} (hm : m < 2147483647) (hy : y = nI m) (h : inN x (m + 1)) : 0 ≤ x ∧ x ≤ y := by
  obtain ⟨k, h1, rfl⟩ := h
  exact ⟨nI_pos' (by omega), by rw [hy]; exact nI_le (by omega) (by omega)⟩
