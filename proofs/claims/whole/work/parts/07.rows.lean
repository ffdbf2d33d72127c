/-! rows of my own: arrays by a number's place; the top of the stack by another name; words for the state -/
section XR
variable {p : Program} {l : Launch} {e : Env} {R : Room} {s : State} {m : MethodId} {args : Array Value} {below : List Frame} {meth : Method} {c : Code} {H : Heap} {locs : List Loc} {cells slots : Nat} {Q : State → Prop}
variable {cc : ByteArray} {pc : Nat} {ls : Array Slot} {rest : List Value} {D : va_G} {A : Nat → Prop} {a : Nat} {tys : List (ClassId × FieldType)} {ws : va_W} {H0 : Heap}
theorem xi_ald (hexec : p.tables.exec = Jvm.exec) (hb : c.code = cc) (hK : va_K D vwCl tys s) (hP : va_P D vwCl ws H) (q0 t0 : Nat) {cA : ClassId} {n : Nat} {f : Nat → Int32} (ha : ws[q0]? = some (a, .inl (cA, n, .inl f))) (ht : tys[t0]? = some (cA, .int)) {k : Nat} (hk : k < n) (hn : n < 2 ^ 31) (hdg : decode cc pc = .ok (.iaload, 1))
    (kk : W p l e R s m args below meth c H locs cells slots Q (F0 m (pc + 1) ls (.int (f k) :: rest))) : W p l e R s m args below meth c H locs cells slots Q (F0 m pc ls (.int (nI k) :: .ref a :: rest)) :=
  va_iald hexec hb hK hP q0 t0 ha ht (vp_in_nI hk hn) hdg (by rw [nI_clamp (Nat.lt_trans hk hn)]; exact kk)
theorem xz_ald (hexec : p.tables.exec = Jvm.exec) (hb : c.code = cc) (hK : va_K D vwCl tys s) (hP : va_P D vwCl ws H) (q0 t0 : Nat) {cA : ClassId} {n : Nat} {f : Nat → Int32} (ha : ws[q0]? = some (a, .inl (cA, n, .inl f))) (ht : tys[t0]? = some (cA, .boolean)) {k : Nat} (hk : k < n) (hn : n < 2 ^ 31) (hdg : decode cc pc = .ok (.baload, 1))
    (kk : W p l e R s m args below meth c H locs cells slots Q (F0 m (pc + 1) ls (.int (f k) :: rest))) : W p l e R s m args below meth c H locs cells slots Q (F0 m pc ls (.int (nI k) :: .ref a :: rest)) :=
  va_zald hexec hb hK hP q0 t0 ha ht (vp_in_nI hk hn) hdg (by rw [nI_clamp (Nat.lt_trans hk hn)]; exact kk)
theorem xi_ast (hexec : p.tables.exec = Jvm.exec) (hb : c.code = cc) (hK : va_K D vwCl tys s) (hP : va_P D vwCl ws H) (hD : va_D A ws) (hS : va_S A H0 H locs) (q0 t0 : Nat) {cA : ClassId} {n : Nat} {f : Nat → Int32} (ha : ws[q0]? = some (a, .inl (cA, n, .inl f))) (ht : tys[t0]? = some (cA, .int)) {k : Nat} {x : Int32} (hk : k < n) (hn : n < 2 ^ 31) (hdg : decode cc pc = .ok (.iastore, 1))
    (kk : ∀ (H1 : Heap) (locs1 : List Loc), va_P D vwCl (ws.set q0 (a, .inl (cA, n, .inl (upd f k x)))) H1 → va_D A (ws.set q0 (a, .inl (cA, n, .inl (upd f k x)))) → va_S A H0 H1 locs1 → W p l e R s m args below meth c H1 locs1 cells slots Q (F0 m (pc + 1) ls rest)) : W p l e R s m args below meth c H locs cells slots Q (F0 m pc ls (.int x :: .int (nI k) :: .ref a :: rest)) :=
  va_iast hexec hb hK hP hD hS q0 t0 ha ht (vp_in_nI hk hn) hdg (by rw [nI_clamp (Nat.lt_trans hk hn)]; exact kk)
theorem xz_ast (hexec : p.tables.exec = Jvm.exec) (hb : c.code = cc) (hK : va_K D vwCl tys s) (hP : va_P D vwCl ws H) (hD : va_D A ws) (hS : va_S A H0 H locs) (q0 t0 : Nat) {cA : ClassId} {n : Nat} {f : Nat → Int32} (ha : ws[q0]? = some (a, .inl (cA, n, .inl f))) (ht : tys[t0]? = some (cA, .boolean)) {k : Nat} {x : Int32} (hx1 : vp_nar .boolean x = x) (hk : k < n) (hn : n < 2 ^ 31) (hdg : decode cc pc = .ok (.bastore, 1))
    (kk : ∀ (H1 : Heap) (locs1 : List Loc), va_P D vwCl (ws.set q0 (a, .inl (cA, n, .inl (upd f k x)))) H1 → va_D A (ws.set q0 (a, .inl (cA, n, .inl (upd f k x)))) → va_S A H0 H1 locs1 → W p l e R s m args below meth c H1 locs1 cells slots Q (F0 m (pc + 1) ls rest)) : W p l e R s m args below meth c H locs cells slots Q (F0 m pc ls (.int x :: .int (nI k) :: .ref a :: rest)) :=
  va_zast hexec hb hK hP hD hS q0 t0 ha ht (vp_in_nI hk hn) hdg (by rw [nI_clamp (Nat.lt_trans hk hn), hx1]; exact kk)
theorem xa_ald (hexec : p.tables.exec = Jvm.exec) (hb : c.code = cc) (hK : va_K D vwCl tys s) (hP : va_P D vwCl ws H) (q0 t0 : Nat) {cA : ClassId} {C : String} {n : Nat} {f : Nat → Option Nat} (ha : ws[q0]? = some (a, .inl (cA, n, .inr (.inr (.inr (.inr f)))))) (ht : tys[t0]? = some (cA, .object C)) {k v : Nat} (hv : f k = some v) (hk : k < n) (hn : n < 2 ^ 31) (hdg : decode cc pc = .ok (.aaload, 1))
    (kk : W p l e R s m args below meth c H locs cells slots Q (F0 m (pc + 1) ls (.ref v :: rest))) : W p l e R s m args below meth c H locs cells slots Q (F0 m pc ls (.int (nI k) :: .ref a :: rest)) :=
  va_aldq hexec hb hK hP q0 t0 ha ht (vp_in_nI hk hn) hdg (by rw [nI_clamp (Nat.lt_trans hk hn), hv]; exact kk)
theorem tp {x y : Int32} (h : x = y) (k : W p l e R s m args below meth c H locs cells slots Q (F0 m pc ls (.int y :: rest))) : W p l e R s m args below meth c H locs cells slots Q (F0 m pc ls (.int x :: rest)) := by
  rw [h]; exact k
end XR
theorem i_le {x y : Int32} : x ≤ y ↔ x.toInt ≤ y.toInt := Int32.le_iff_toInt_le
theorem i_lt {x y : Int32} : x < y ↔ x.toInt < y.toInt := Int32.lt_iff_toInt_lt
theorem i_eq {x y : Int32} : x = y ↔ x.toInt = y.toInt := Int32.toInt_inj.symm
theorem i_nI {n : Nat} (h : n < 2147483648) : (nI n).toInt = (n : Int) := nI_toInt h
/-- a number is a place of n -/
def inN (x : Int32) (n : Nat) : Prop := ∃ k : Nat, k < n ∧ x = nI k
theorem inN_lo {x : Int32} {n : Nat} (hn : n < 2147483648) (h : inN x n) : ¬ x < 0 := by
  obtain ⟨k, h1, rfl⟩ := h
  exact nI_pos (by omega)
theorem inN_of {x y : Int32} {n : Nat} (hn : n < 2147483648) (hy : y = nI n) (h0 : ¬ x < 0) (h1 : x < y) : inN x n := by
  obtain ⟨j, hj, rfl⟩ := nI_of h0
  refine ⟨j, ?_, rfl⟩
  rw [hy] at h1
  exact (nI_ltI (by omega) (by omega)).mp h1
theorem inN_hi {x y : Int32} {n : Nat} (hn : n < 2147483648) (hy : y = nI n) (h : inN x n) : x < y := by
  obtain ⟨k, h1, rfl⟩ := h
  rw [hy]
  exact nI_lt h1 hn
theorem inN_nI {k n : Nat} (hk : k < 2147483648) (hn : n < 2147483648) : inN (nI k) n ↔ k < n := by
  constructor
  · rintro ⟨j, h1, h2⟩
    rw [(nI_eq (by omega) (by omega)).mp h2]; exact h1
  · intro h; exact ⟨k, h, rfl⟩
/-! the state in numbers: shelves -/
def gI (t : Bool) (g : Nat) : Int32 := if t then nI g else -1
def gok (g : Nat → Int32) (th : Nat → Bool) (go : Nat → Nat) : Prop := ∀ s, s < 8 → g s = gI (th s) (go s) ∧ go s ≤ 1000
def hok (h : Nat → Int32) (hd : Nat → Nat) : Prop := ∀ s, s < 8 → h s = nI (hd s) ∧ hd s ≤ 1000
def mis (th : Nat → Bool) (s : Nat) : Nat := if 8 ≤ s then 1 else if th s then 0 else 2
def mol (th : Nat → Bool) (hd : Nat → Nat) (s : Nat) : Nat := if mis th s = 0 then (if hd s = 0 then 7 else 0) else mis th s
theorem gI_ne {t : Bool} {g : Nat} (h : g ≤ 1000) : gI t g = -1 ↔ t = false := by
  cases t
  · simp [gI]
  · simp only [gI, if_true]
    constructor
    · intro e
      have := congrArg Int32.toInt e
      rw [nI_toInt (by omega)] at this
      have h2 : (-1 : Int32).toInt = -1 := by decide
      omega
    · intro e; cases e
/-! plans -/
def dk (k : Nat) : Int := if k ≤ 1 then 1 else if k = 2 then -1 else 0
def dp (cd : Nat → Nat) : Nat → Int
  | 0 => 0
  | i + 1 => dp cd i + dk (cd i / 1000)
def clo (n : Nat) (cd : Nat → Nat) : Prop := (∀ i, i ≤ n → 0 ≤ dp cd i) ∧ dp cd n = 0
def isBeh (cd : Nat → Nat) (b k : Nat) : Prop := b < k ∧ dp cd k = dp cd b ∧ ∀ j, b < j → j < k → dp cd b < dp cd j
def pok (f : Nat → Int32) (n : Nat) (cd : Nat → Nat) : Prop := n ≤ 40 ∧ ∀ i, i < n → f i = nI (cd i) ∧ cd i < 10000
/-! worlds of the small objects -/
abbrev wOp (a : Nat → Nat) (cI : ClassId) (k n b : Nat → Int32) (c : Int32) : va_W := [(a 0, .inr (0, [.ref (a 1), .ref (a 2), .ref (a 3), .int c])), (a 1, .inl (cI, 64, .inl k)), (a 2, .inl (cI, 64, .inl n)), (a 3, .inl (cI, 64, .inl b))]
abbrev wPl (a0 a1 : Nat) (cI : ClassId) (f : Nat → Int32) (n : Int32) : va_W := [(a0, .inr (1, [.ref a1, .int n])), (a1, .inl (cI, 40, .inl f))]
abbrev wRp (a : Nat → Nat) (cI : ClassId) (ct td : Nat → Int32) (op : Int32) : va_W := [(a 0, .inr (2, [.ref (a 1), .int (td 6), .int (td 0), .int (td 1), .int (td 2), .int (td 3), .int (td 4), .int op, .int (td 5), .int (td 7)])), (a 1, .inl (cI, 10, .inl ct))]
abbrev wSt (a : Nat → Nat) (cI : ClassId) (g lf h : Nat → Int32) (r : Int32) : va_W := [(a 0, .inr (3, [.ref (a 1), .ref (a 2), .ref (a 3), .int r])), (a 1, .inl (cI, 8, .inl g)), (a 2, .inl (cI, 8, .inl lf)), (a 3, .inl (cI, 8, .inl h))]
theorem dp_step {cd : Nat → Nat} {i d : Nat} {z : Int} {r : Int32} (hd : (d : Int) = dp cd i - z) (hw : (r = 1 ∧ dp cd (i + 1) = dp cd i + 1) ∨ (r = -1 ∧ dp cd (i + 1) = dp cd i - 1) ∨ (r = 0 ∧ dp cd (i + 1) = dp cd i)) : (∃ e : Nat, nI d + r = nI e ∧ (e : Int) = dp cd (i + 1) - z ∧ e ≤ d + 1) ∨ (nI d + r = -1 ∧ dp cd (i + 1) - z = -1 ∧ d = 0) := by
  rcases hw with ⟨rfl, h⟩ | ⟨rfl, h⟩ | ⟨rfl, h⟩
  · exact Or.inl ⟨d + 1, nI_1 d, by omega, by omega⟩
  · cases d with
    | zero => exact Or.inr ⟨rfl, by omega, rfl⟩
    | succ e => exact Or.inl ⟨e, pk_m1 e, by omega, by omega⟩
  · exact Or.inl ⟨d, by rw [Int32.add_zero], by omega, by omega⟩
def tcv (ct : Nat → Int32) (x : Int32) : Int32 := if x ≤ 0 then -1 else if 9 < x then -1 else ct x.toNatClampNeg
theorem tcv_le {ct : Nat → Int32} {x : Int32} (h : x ≤ 0) : tcv ct x = -1 := by simp [tcv, h]
theorem tcv_gt {ct : Nat → Int32} {x : Int32} (h : 9 < x) : tcv ct x = -1 := by simp [tcv, h]
theorem tcv_in {ct : Nat → Int32} {j : Nat} (h : ¬ nI j ≤ 0) (hj : j < 10) : tcv ct (nI j) = ct j := by
  have h2 : ¬ (9 : Int32) < nI j := by rw [show (9 : Int32) = nI 9 from rfl, nI_ltI (by omega) (by omega)]; omega
  rw [tcv, if_neg h, if_neg h2, nI_clamp (by omega)]
def tdv (td : Nat → Int32) (x : Int32) : Int32 := if 0 ≤ x.toInt ∧ x.toInt ≤ 7 then td x.toInt.toNat else -1
theorem tdv_cases (td : Nat → Int32) (x : Int32) : (x = 0 ∧ tdv td x = td 0) ∨ (x = 1 ∧ tdv td x = td 1) ∨ (x = 2 ∧ tdv td x = td 2) ∨ (x = 3 ∧ tdv td x = td 3) ∨ (x = 4 ∧ tdv td x = td 4) ∨ (x = 5 ∧ tdv td x = td 5) ∨ (x = 6 ∧ tdv td x = td 6) ∨ (x = 7 ∧ tdv td x = td 7) ∨ ((x.toInt < 0 ∨ 7 < x.toInt) ∧ tdv td x = -1) := by
  by_cases h : 0 ≤ x.toInt ∧ x.toInt ≤ 7
  · have hx : x.toInt = 0 ∨ x.toInt = 1 ∨ x.toInt = 2 ∨ x.toInt = 3 ∨ x.toInt = 4 ∨ x.toInt = 5 ∨ x.toInt = 6 ∨ x.toInt = 7 := by omega
    have e : tdv td x = td x.toInt.toNat := by rw [tdv, if_pos h]
    rcases hx with q | q | q | q | q | q | q | q <;> rw [q] at e
    · exact Or.inl ⟨Int32.toInt_inj.mp q, e⟩
    · exact Or.inr (Or.inl ⟨Int32.toInt_inj.mp q, e⟩)
    · exact Or.inr (Or.inr (Or.inl ⟨Int32.toInt_inj.mp q, e⟩))
    · exact Or.inr (Or.inr (Or.inr (Or.inl ⟨Int32.toInt_inj.mp q, e⟩)))
    · exact Or.inr (Or.inr (Or.inr (Or.inr (Or.inl ⟨Int32.toInt_inj.mp q, e⟩))))
    · exact Or.inr (Or.inr (Or.inr (Or.inr (Or.inr (Or.inl ⟨Int32.toInt_inj.mp q, e⟩)))))
    · exact Or.inr (Or.inr (Or.inr (Or.inr (Or.inr (Or.inr (Or.inl ⟨Int32.toInt_inj.mp q, e⟩))))))
    · exact Or.inr (Or.inr (Or.inr (Or.inr (Or.inr (Or.inr (Or.inr (Or.inl ⟨Int32.toInt_inj.mp q, e⟩)))))))
  · exact Or.inr (Or.inr (Or.inr (Or.inr (Or.inr (Or.inr (Or.inr (Or.inr ⟨by omega, by rw [tdv, if_neg h]⟩)))))))
