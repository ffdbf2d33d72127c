/-! the class's own world, and how it holds the machine -/
abbrev sh (k : Nat) (a : Nat → Nat) : Nat → Nat := fun i => a (k + i)
abbrev wPs (a : Nat → Nat) (cI : ClassId) (pc : Nat → Int32) (pf : Nat → Nat → Int32) : va_W := [(a 2, .inr (1, [.ref (a 3), .int (pc 0)])), (a 3, .inl (cI, 40, .inl (pf 0))), (a 4, .inr (1, [.ref (a 5), .int (pc 1)])), (a 5, .inl (cI, 40, .inl (pf 1))), (a 6, .inr (1, [.ref (a 7), .int (pc 2)])), (a 7, .inl (cI, 40, .inl (pf 2))), (a 8, .inr (1, [.ref (a 9), .int (pc 3)])), (a 9, .inl (cI, 40, .inl (pf 3))), (a 10, .inr (1, [.ref (a 11), .int (pc 4)])), (a 11, .inl (cI, 40, .inl (pf 4))), (a 12, .inr (1, [.ref (a 13), .int (pc 5)])), (a 13, .inl (cI, 40, .inl (pf 5)))]
abbrev wHS (a : Nat → Nat) (cP : ClassId) (x y z : Int32) : va_W := [(a 0, .inr (4, [.ref (a 1), .ref (a 14), .ref (a 18), .ref (a 22), .int x, .int y, .int z])), (a 1, .inl (cP, 6, .inr (.inr (.inr (.inr (fun k => some (a (2 + 2 * k))))))))]
abbrev wD (a : Nat → Nat) (cI cP : ClassId) (pc : Nat → Int32) (pf : Nat → Nat → Int32) (g l h : Nat → Int32) (r : Int32) (k n b : Nat → Int32) (c : Int32) (ct td : Nat → Int32) (op x y z : Int32) : va_W :=
  wHS a cP x y z ++ (wPs a cI pc pf ++ (wSt (sh 14 a) cI g l h r ++ (wOp (sh 18 a) cI k n b c ++ wRp (sh 22 a) cI ct td op)))
abbrev US : Type := (Nat → Int32) × (Nat → Int32) × (Nat → Int32) × Int32 × (Nat → Int32) × (Nat → Int32) × (Nat → Int32) × Int32 × (Nat → Int32) × (Nat → Int32) × Int32 × Int32 × Int32 × Int32
abbrev wDu (a : Nat → Nat) (cI cP : ClassId) (pc : Nat → Int32) (pf : Nat → Nat → Int32) (u : US) : va_W :=
  wD a cI cP pc pf u.1 u.2.1 u.2.2.1 u.2.2.2.1 u.2.2.2.2.1 u.2.2.2.2.2.1 u.2.2.2.2.2.2.1 u.2.2.2.2.2.2.2.1 u.2.2.2.2.2.2.2.2.1 u.2.2.2.2.2.2.2.2.2.1 u.2.2.2.2.2.2.2.2.2.2.1 u.2.2.2.2.2.2.2.2.2.2.2.1 u.2.2.2.2.2.2.2.2.2.2.2.2.1 u.2.2.2.2.2.2.2.2.2.2.2.2.2
theorem wsplit {a : Nat → Nat} {cI : ClassId} {pc : Nat → Int32} {pf : Nat → Nat → Int32} (C T : va_W) {q : Nat} (hq : q < 6) : C ++ (wPs a cI pc pf ++ T) = (C ++ (wPs a cI pc pf).take (2 * q)) ++ (wPl (a (2 + 2 * q)) (a (3 + 2 * q)) cI (pf q) (pc q) ++ ((wPs a cI pc pf).drop (2 * q + 2) ++ T)) := by
  rw [List.append_assoc]
  congr 1
  match q, hq with
  | 0, _ => rfl
  | 1, _ => rfl
  | 2, _ => rfl
  | 3, _ => rfl
  | 4, _ => rfl
  | 5, _ => rfl
  | q + 6, h => omega
theorem wsplitU {a : Nat → Nat} {cI : ClassId} {pc : Nat → Int32} {pf : Nat → Nat → Int32} (C T : va_W) {q : Nat} (hq : q < 6) (f : Nat → Int32) (m : Int32) : (C ++ (wPs a cI pc pf).take (2 * q)) ++ (wPl (a (2 + 2 * q)) (a (3 + 2 * q)) cI f m ++ ((wPs a cI pc pf).drop (2 * q + 2) ++ T)) = C ++ (wPs a cI (upd pc q m) (va_up pf q f) ++ T) := by
  rw [List.append_assoc]
  congr 1
  match q, hq with
  | 0, _ => rfl
  | 1, _ => rfl
  | 2, _ => rfl
  | 3, _ => rfl
  | 4, _ => rfl
  | 5, _ => rfl
  | q + 6, h => omega
def Dpl (pc : Nat → Int32) (pf : Nat → Nat → Int32) (G : GP) : Prop := ∀ q, q < 6 → pc q = nI (G.1 q) ∧ pok (pf q) (G.1 q) (G.2.1 q)
def Dst (G : GP) (k n b : Nat → Int32) : Nat → KL → Prop
  | _, [] => True
  | p, e :: K => k K.length = nI e.1 ∧ n K.length = nI e.2.1 ∧ (e.1 = 1 → b K.length = nI (beh (G.2.1 p) e.2.2)) ∧ (e.1 = 8 → b K.length = nI e.2.2) ∧ Dst G k n b (if e.1 = 8 then e.2.1 else p) K
theorem Dst_frame {G : GP} {k n b k' n' b' : Nat → Int32} : ∀ {K : KL} {p : Nat}, (∀ j, j < K.length → k' j = k j ∧ n' j = n j ∧ b' j = b j) → Dst G k n b p K → Dst G k' n' b' p K
  | [], _, _, _ => trivial
  | e :: K, p, h1, h => by
    obtain ⟨q1, q2, q3, q4, q5⟩ := h
    obtain ⟨a1, a2, a3⟩ := h1 K.length (by simp only [List.length_cons]; omega)
    refine ⟨by rw [a1]; exact q1, by rw [a2]; exact q2, by rw [a3]; exact q3, by rw [a3]; exact q4, Dst_frame (fun j hj => h1 j (by simp only [List.length_cons]; omega)) q5⟩
def Dp (G : GP) (go : Nat → Nat) (lf : Nat → Int32) (rs : Int32) (td ct : Nat → Int32) (hd : Nat → Nat) (g l h : Nat → Int32) (r : Int32) (ct' td' : Nat → Int32) : Prop :=
  gok g G.2.2 go ∧ (∀ s, s < 8 → l s = lf s) ∧ hok h hd ∧ r = rs ∧ (∀ k, k < 8 → td' k = td k) ∧ (∀ k, k < 10 → ct' k = ct k)
def Dr (G : GP) (X : CF) (u : US) : Prop := match X, u with
  | (go, lf, rs, td, ct, _, p, nx, K), (g, l, h, r, k, n, b, c, ct', td', op, x, y, z) => Dp G go lf rs td ct (cnt K) g l h r ct' td' ∧ Dst G k n b p K ∧ c = nI K.length ∧ op = nI (hn K) ∧ x = nI p ∧ y = nI nx ∧ z = nI (lvl K + 1)
section DREP
variable {G : GP} {go : Nat → Nat} {lf : Nat → Int32} {rs : Int32} {td ct : Nat → Int32} {st p nx : Nat} {K : KL} {g l h : Nat → Int32} {r : Int32} {k n b : Nat → Int32} {ct' td' : Nat → Int32}
theorem Dst_push {x1 x2 x3 : Int32} {e : Nat × Nat × Nat} {q : Nat} (h1 : x1 = nI e.1) (h2 : x2 = nI e.2.1) (h3 : e.1 = 1 → x3 = nI (beh (G.2.1 q) e.2.2)) (h4 : e.1 = 8 → x3 = nI e.2.2) (hp : (if e.1 = 8 then e.2.1 else q) = p) (hd : Dst G k n b p K) : Dst G (upd k K.length x1) (upd n K.length x2) (upd b K.length x3) q (e :: K) := by
  refine ⟨by rw [pk_us]; exact h1, by rw [pk_us]; exact h2, by rw [pk_us]; exact h3, by rw [pk_us]; exact h4, ?_⟩
  rw [hp]
  exact Dst_frame (fun j hj => ⟨upd_out hj, upd_out hj, upd_out hj⟩) hd
theorem D_hold {x : Nat} {w : Int32} {u : US} (hK : K.length < 1000) (hD : Dp G go lf rs td ct (cnt K) g l h r ct' td') (hs : Dst G k n b p K)
    (hw : (mis G.2.2 x ≠ 0 ∧ w = nI (mis G.2.2 x) ∧ u = (g, l, h, r, k, n, b, nI K.length, ct', td', nI (hn K), nI p, nI nx, nI (lvl K + 1))) ∨ (mis G.2.2 x = 0 ∧ w = 0 ∧ u = (g, l, upd h x (h x + 1), r, upd k K.length 0, upd n K.length (nI x), upd b K.length 0, nI (K.length + 1), ct', upd (upd td' 4 (td' 4 + 1)) 5 (if td' 5 < nI (hn K) + 1 then nI (hn K) + 1 else td' 5), nI (hn K) + 1, nI p, nI nx, nI (lvl K + 1)))) :
    w = nI (a_hold G (go, lf, rs, td, ct, st, p, nx, K) x).1 ∧ Dr G (a_hold G (go, lf, rs, td, ct, st, p, nx, K) x).2 u := by
  rcases hw with ⟨hm, rfl, rfl⟩ | ⟨hm, rfl, rfl⟩
  · simp only [a_hold, hm, if_false]
    exact ⟨trivial, hD, hs, rfl, rfl, rfl, rfl, rfl⟩
  · simp only [a_hold, hm, if_true]
    obtain ⟨d1, d2, d3, d4, d5, d6⟩ := hD
    refine ⟨rfl, ⟨d1, d2, hok_push d3 hK, d4, ?_, d6⟩, ?_, rfl, nI_1 _, rfl, rfl, rfl⟩
    · exact upd_le (upd_le d5 (by rw [d5 4 (by decide)])) (by rw [d5 5 (by decide)])
    · exact Dst_push rfl rfl (fun q => absurd q (by simp)) (fun q => absurd q (by simp)) (by simp) hs
theorem D_call {x : Nat} {w : Int32} {u : US} (hD : Dp G go lf rs td ct (cnt K) g l h r ct' td') (hs : Dst G k n b p K)
    (hw : ((x < 6 ∧ lvl K < 4 ∧ clo (G.1 x) (G.2.1 x)) ∧ w = 0 ∧ u = (g, l, h, r, upd k K.length 8, upd n K.length (nI p), upd b K.length (nI nx), nI (K.length + 1), ct', upd td' 7 (td' 7 + 1), nI (hn K), nI x, 0, nI (lvl K + 1 + 1))) ∨ (¬ (x < 6 ∧ lvl K < 4 ∧ clo (G.1 x) (G.2.1 x)) ∧ w = 6 ∧ u = (g, l, h, r, k, n, b, nI K.length, ct', td', nI (hn K), nI p, nI nx, nI (lvl K + 1)))) :
    w = nI (a_call G (go, lf, rs, td, ct, st, p, nx, K) x).1 ∧ Dr G (a_call G (go, lf, rs, td, ct, st, p, nx, K) x).2 u := by
  rcases hw with ⟨hm, rfl, rfl⟩ | ⟨hm, rfl, rfl⟩
  · simp only [a_call]
    rw [if_pos hm]
    obtain ⟨d1, d2, d3, d4, d5, d6⟩ := hD
    refine ⟨rfl, ⟨d1, d2, (hok_same (by simp)).mpr d3, d4, ?_, d6⟩, ?_, rfl, rfl, rfl, rfl, rfl⟩
    · exact upd_le d5 (by rw [d5 7 (by decide)])
    · exact Dst_push rfl rfl (fun q => absurd q (by simp)) (fun _ => rfl) (by simp) hs
  · simp only [a_call]
    rw [if_neg hm]
    exact ⟨rfl, hD, hs, rfl, rfl, rfl, rfl, rfl⟩
end DREP
