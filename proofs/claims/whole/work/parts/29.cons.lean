/-! constructors: contracts that make cells -/
theorem K_eqI {D : va_G} {cl : List vw_C} {tys : List (ClassId × FieldType)} {s : State} (hK : va_K D cl tys s) {i j : Nat} {c1 c2 : ClassId} {ty : FieldType} (hi : tys[i]? = some (c1, ty)) (hj : tys[j]? = some (c2, ty)) : c1 = c2 := by
  have h1 := (hK.2 i _ hi).2
  have h2 := (hK.2 j _ hj).2
  cases ty with
  | object C =>
    obtain ⟨_, _, _, _, _, f1⟩ := h1
    obtain ⟨_, _, _, _, _, f2⟩ := h2
    exact Option.some.inj (f1.symm.trans f2)
  | _ => exact Option.some.inj (Eq.trans (Eq.symm h1) h2)
theorem ko_prim {args : Array Value} {s : State} {ty : FieldType} (h : (Cond.arrayClass ty).before args s = true) (hp : ∀ C, ty ≠ .object C) : ∃ cA : ClassId, ArrOfT s cA ty ∧ va_RA s cA ty := by
  obtain ⟨c, k, comp, h1, h2, h3⟩ := Cond.arrayClass_spec h
  refine ⟨c, fun n z => ⟨fun k h => (by cases h), k, h2, comp, h3⟩, ?_⟩
  cases ty with
  | object C => exact absurd rfl (hp C)
  | _ => exact h1
theorem ko_ref {args : Array Value} {s : State} {C : String} (h : (Cond.arrayOver (.object C)).before args s = true) : ∃ cA : ClassId, ArrOfT s cA (.object C) ∧ va_RA s cA (.object C) := by
  obtain ⟨comp, c, k, h1, h2, h3, h4, h5⟩ := Cond.arrayOver_spec h
  exact ⟨c, fun n z => ⟨fun k h => (by cases h), k, h3, comp, h4⟩, k, comp, h3, h4, h1, h5⟩
def Cn (l : Launch) (D : va_G) (tys : List (ClassId × FieldType)) (y : MethodName) (wm : List Cond) (rm : Room) (av : List Value) (w0 : va_W) (mc ms : Nat) {S : Type} (ok : S → Prop) (wo : S → va_W) : Prop :=
  ∀ sz : Nat, Met l y wm rm (va_Pc av (fun U => ct_pre D tys sz w0 U ∧ va_AO RX1 U)) (va_Qv ok (fun u t => va_P D vwCl (wo u) t.heap ∧ va_D (va_A w0 sz) (wo u)) (va_A w0 sz)) mc ms (va_A w0 sz)
abbrev Qn (D : va_G) (below : List Frame) (args : Array Value) (s : State) (A : Nat → Prop) (mc ms : Nat) {S : Type} (ok : S → Prop) (wo : S → va_W) : State → Prop :=
  MQ below (va_Qv ok (fun u t => va_P D vwCl (wo u) t.heap ∧ va_D A (wo u)) A) args s mc ms A
theorem Cn.mk {l : Launch} {D : va_G} {tys : List (ClassId × FieldType)} {y : MethodName} {wm ws' : List Cond} {rm : Room} {av : List Value} {w0 : va_W} {mc ms : Nat} {S : Type} {ok : S → Prop} {wo : S → va_W} {cc : ByteArray} {maxL : Nat} {ret : Option FieldType}
    (hy : plainName y.cls = true) (hw : wm = Cond.code y cc maxL ret :: ws') (hav : (lg_sl av).length ≤ maxL)
    (body : ∀ (p : Program) (e : Env) (s : State) (m : MethodId) (below : List Frame) (meth : Method) (c : Code) (A : Nat → Prop) (ls : Array Slot), p.tables.exec = Jvm.exec → c.code = cc → c.maxLocals = maxL → meth.sig.returnType = ret → s.vm.findClass y.cls = some m.cls → (∀ w ∈ wm, w.before av.toArray s = true) → meth.locks = false →
      va_K D vwCl tys s → va_Nw nsl s → (∀ q : Nat, s.heap.size ≤ q → A q) → va_P D vwCl w0 s.heap → va_D A w0 → va_S A s.heap s.heap [] → lv_has ls maxL (lv_args 0 av) → va_AO RX1 s → meth.name = y.name →
      W p l e rm s m av.toArray below meth c s.heap [] 0 0 (Qn D below av.toArray s A mc ms ok wo) (F0 m 0 ls [])) : Cn l D tys y wm rm av w0 mc ms ok wo := by
  intro sz
  refine Met.ofW (cc := cc) (maxL := maxL) (ret := ret) hy hw ?_
  intro p e s m args below meth c s₁ B hml hv
  obtain ⟨rfl, ⟨rfl, hP, hK, hD0, hn⟩, hz⟩ := hv
  have hl := lv_entry av (n := maxL) hav
  rw [lg_entry_eq]
  exact body p e s m below meth c (va_A w0 s.heap.size) _ B.exec B.bytes hml B.returns (findClass_of_methodNamed B.named) (atoms_spec (ws := wm) B.pre) B.notSynchronized hK hn (fun q h => Or.inr h) hP hD0.self va_S.rf hl hz (name_of_methodNamed B.named B.method).1
section RETN
variable {p : Program} {l : Launch} {e : Env} {R : Room} {s : State} {m : MethodId} {args : Array Value} {below : List Frame} {meth : Method} {c : Code} {H : Heap} {locs : List Loc} {D : va_G} {A : Nat → Prop} {cc : ByteArray} {pc mc ms : Nat} {ls : Array Slot} {S : Type}
theorem Rn {ok : S → Prop} {wo : S → va_W} (u : S) (hx : p.tables.exec = Jvm.exec) (hb : c.code = cc) (hr : meth.sig.returnType = none) (hlocks : meth.locks = false) (hP : va_P D vwCl (wo u) H) (hD : va_D A (wo u)) (hS : va_S A s.heap H locs) (hp : ok u) (hdg : decode cc pc = .ok (.return_, 1)) :
    W p l e R s m args below meth c H locs mc ms (Qn D below args s A mc ms ok wo) (F0 m pc ls []) :=
  W.vret hx hb hr (fun t ht _ => ⟨⟨u, rfl, hp, by rw [ht]; exact hP, hD⟩, hS.F ht⟩) hS.2.2 hdg hlocks
end RETN
section CALLN
variable {p : Program} {l : Launch} {e : Env} {R : Room} {s : State} {m : MethodId} {args : Array Value} {below : List Frame} {meth : Method} {c : Code} {H : Heap} {locs : List Loc} {cells slots : Nat} {Q : State → Prop} {D : va_G} {A : Nat → Prop} {cc : ByteArray} {pc nL : Nat} {ls : Array Slot} {S : Type} {rest st0 : List Value}
variable {tys : List (ClassId × FieldType)} {y : MethodName} {wm Ts : List Cond} {rm : Room} {wc : va_W} {own : String} {index maxL b mc ms : Nat} {bytes : ByteArray}
theorem cl_In {ok : S → Prop} {wo : S → va_W} (pre post : va_W) (hC : Cn l D tys y wm rm [.ref b] wc mc ms ok wo) (S0 : CallFix p m c cc nL s args Ts own) (cw : CallB R s args own index y bytes maxL none wm rm mc ms 0 ∧ y.name = "<init>" ∧ (Cond.instanceMethod y).before args s = true) (hK : va_K D vwCl tys s) (hn : va_Nw nsl s) (hAO : va_AO RX1 s) (hP : va_P D vwCl (pre ++ (wc ++ post)) H) (hD : va_D A (pre ++ (wc ++ post))) (hS : va_S A s.heap H locs) (hA : ∀ q : Nat, s.heap.size ≤ q → A q)
    (hls : ls.size = nL) (hst : st0 = .ref b :: rest) (hW : (rest.map fun v => v.category).sum ≤ 8) (hdg : decode cc pc = .ok (.invokespecial index, 3)) (hf : cells + mc ≤ R.cells ∧ slots + ms ≤ R.slots)
    (kk : ∀ (u : S) (H1 : Heap) (locs1 : List Loc), ok u → va_P D vwCl (pre ++ (wo u ++ post)) H1 → va_D A (pre ++ (wo u ++ post)) → va_S A s.heap H1 locs1 → W p l e R s m args below meth c H1 locs1 (cells + mc) (slots + ms) Q (F0 m (pc + 3) ls rest)) : W p l e R s m args below meth c H locs cells slots Q (F0 m pc ls st0) := by
  have hPc := wm_sub hP
  have hDc := wm_subD hD
  have hFc := wm_free hD hS hA
  refine va_callv (va_runI (As := []) (rest := rest) S0 (hC H.size) cw ⟨?_, ?_⟩ rfl rfl hls hst (lv_room hW) hdg hf) hS (fun q _ h => hFc q h) hFc (fun u t H1 locs1 ht hvm hw hB hz1 hk1 hS1 => ?_)
  · intro a U g mk q
    obtain ⟨q0, q1, q2⟩ := q
    obtain ⟨r0, r1⟩ := ct_blind (av := [.ref b]) a U g mk ⟨q0, q1⟩
    exact ⟨r0, r1, va_AO.moved (u := U) (U := U.calling g mk a) (Vm.Alike.refl U.vm) q2⟩
  · intro U hU hW2
    obtain ⟨r0, r1⟩ := ct_use (av := [.ref b]) hK hn hPc hDc U hU hW2
    exact ⟨r0, r1, va_AO.moved hW2.alike hAO⟩
  obtain ⟨hP1, hD1⟩ := hB
  rw [ht] at hP1
  obtain ⟨hP2, hD2⟩ := wm_join hP hD hk1 hFc hP1 hD1
  exact kk u H1 locs1 hw hP2 hD2 hS1
end CALLN
theorem arrV_congr {cA : ClassId} {n : Nat} {f g : Nat → Value} (h : ∀ k, k < n → f k = g k) : arrV cA n f = arrV cA n g := by
  simp only [arrV]
  congr 1
  apply Array.ext_getElem?
  intro i
  by_cases hi : i < n
  · simp [hi, h i hi]
  · simp [hi]
theorem wHS_fix {D : va_G} {A : Nat → Prop} {H : Heap} {c0 : Nat × va_E} {q : Nat} {cP : ClassId} {f g : Nat → Option Nat} {T : va_W} (h : ∀ k, k < 6 → f k = g k) (hP : va_P D vwCl (c0 :: (q, .inl (cP, 6, .inr (.inr (.inr (.inr f))))) :: T) H) (hD : va_D A (c0 :: (q, .inl (cP, 6, .inr (.inr (.inr (.inr f))))) :: T)) :
    va_P D vwCl (c0 :: (q, .inl (cP, 6, .inr (.inr (.inr (.inr g))))) :: T) H ∧ va_D A (c0 :: (q, .inl (cP, 6, .inr (.inr (.inr (.inr g))))) :: T) := by
  constructor
  · intro k x hk
    match k, hk with
    | 0, hk => exact hP 0 x hk
    | 1, hk =>
      have h1 := hP 1 _ rfl
      cases hk
      show H[q]? = some (vp_cell _ _)
      have h1 : H[q]? = some (vp_cell cP (6, .inr (.inr (.inr (.inr f))))) := h1
      rw [h1, vp_cell_q, vp_cell_q]
      exact congrArg some (arrV_congr (fun k hk => by rw [h k hk]))
    | k + 2, hk => exact hP (k + 2) x hk
  · have e := hD.set (p := 1) (e := .inl (cP, 6, .inr (.inr (.inr (.inr g))))) (hp := rfl)
    exact e
