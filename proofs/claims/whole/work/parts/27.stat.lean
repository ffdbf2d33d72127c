/-! the one static row of the class -/
def NMI : Nat → Int32 := fun k => match k with
  | 0 => 1
  | 1 => 1
  | 2 => 0
  | 3 => 2
  | 4 => 2
  | 5 => 2
  | 6 => 3
  | 7 => 1
  | 8 => 1
  | _ => 0
def zs (A : Nat → Prop) (U : State) (H : Heap) : Prop := ∃ t : Nat, va_Z RX4 "NAMED" "[I" (.ref t) A U H ∧ va_T .int t 10 (fun j => .int (NMI j)) A U H
theorem zs_moved {A : Nat → Prop} {u U : State} {H : Heap} (hvm : u.vm.Alike U.vm) (h : zs A u H) : zs A U H := by
  obtain ⟨t, h1, h2⟩ := h
  exact ⟨t, h1.moved hvm, h2.moved hvm⟩
theorem zs_kept {A : Nat → Prop} {U : State} {H H1 : Heap} (h : zs A U H) (hq : ∀ a : Nat, a < H.size → ¬ A a → H1[a]? = H[a]?) : zs A U H1 := by
  obtain ⟨t, h1, h2⟩ := h
  exact ⟨t, h1.kept hq, h2.kept hq⟩
theorem zs_narrow {A B : Nat → Prop} {U : State} {H : Heap} (h : zs A U H) (hAB : ∀ q, B q → A q) : zs B U H := by
  obtain ⟨t, h1, h2⟩ := h
  exact ⟨t, h1.narrow hAB, h2.narrow hAB⟩
def CiZ (l : Launch) (D : va_G) (tys : List (ClassId × FieldType)) (y : MethodName) (wm : List Cond) (rm : Room) (av : List Value) (w0 : va_W) {S : Type} (post : Int32 → S → Prop) (wo : S → va_W) : Prop :=
  ∀ sz : Nat, Met l y wm rm (va_Pc av (fun U => ct_pre D tys sz w0 U ∧ zs (va_A w0 sz) U U.heap)) (va_Qi post (fun u t => va_P D vwCl (wo u) t.heap ∧ va_D (va_A w0 sz) (wo u)) (va_A w0 sz)) 0 0 (va_A w0 sz)
theorem CiZ.mk {l : Launch} {D : va_G} {tys : List (ClassId × FieldType)} {y : MethodName} {wm ws' : List Cond} {rm : Room} {av : List Value} {w0 : va_W} {S : Type} {post : Int32 → S → Prop} {wo : S → va_W} {cc : ByteArray} {maxL : Nat} {ret : Option FieldType}
    (hy : plainName y.cls = true) (hw : wm = Cond.code y cc maxL ret :: ws') (hav : (lg_sl av).length ≤ maxL)
    (body : ∀ (p : Program) (e : Env) (s : State) (m : MethodId) (below : List Frame) (meth : Method) (c : Code) (A : Nat → Prop) (ls : Array Slot), p.tables.exec = Jvm.exec → c.code = cc → c.maxLocals = maxL → meth.sig.returnType = ret → s.vm.findClass y.cls = some m.cls → (∀ w ∈ wm, w.before av.toArray s = true) → meth.locks = false →
      va_K D vwCl tys s → va_Nw nsl s → (∀ q : Nat, s.heap.size ≤ q → A q) → va_P D vwCl w0 s.heap → va_D A w0 → va_S A s.heap s.heap [] → lv_has ls maxL (lv_args 0 av) → zs A s s.heap →
      W p l e rm s m av.toArray below meth c s.heap [] 0 0 (Qi D below av.toArray s A post wo) (F0 m 0 ls [])) : CiZ l D tys y wm rm av w0 post wo := by
  intro sz
  refine Met.ofW (cc := cc) (maxL := maxL) (ret := ret) hy hw ?_
  intro p e s m args below meth c s₁ B hml hv
  obtain ⟨rfl, ⟨rfl, hP, hK, hD0, hn⟩, hz⟩ := hv
  have hl := lv_entry av (n := maxL) hav
  rw [lg_entry_eq]
  exact body p e s m below meth c (va_A w0 s.heap.size) _ B.exec B.bytes hml B.returns (findClass_of_methodNamed B.named) (atoms_spec (ws := wm) B.pre) B.notSynchronized hK hn (fun q h => Or.inr h) hP hD0.self va_S.rf hl hz
section CALLZ
variable {p : Program} {l : Launch} {e : Env} {R : Room} {s : State} {m : MethodId} {args : Array Value} {below : List Frame} {meth : Method} {c : Code} {H : Heap} {locs : List Loc} {cells slots : Nat} {Q : State → Prop} {D : va_G} {A : Nat → Prop} {cc : ByteArray} {pc nL : Nat} {ls : Array Slot} {S : Type} {rest st0 : List Value}
variable {tys : List (ClassId × FieldType)} {y : MethodName} {wm Ts : List Cond} {rm : Room} {As : List Value} {wc : va_W} {own C : String} {index maxL n ci b : Nat} {bytes : ByteArray} {ret : Option FieldType} {fs : List Value} {T : u_T} {N : Nat}
theorem cl_ViZ {po : Int32 → S → Prop} {wo : S → va_W} (pre post : va_W) (hC : CiZ l D tys y wm rm (.ref b :: As) wc po wo) (S0 : CallFix p m c cc nL s args Ts own) (cw : CallW R s args own C index y bytes maxL ret wm rm 0 0 n) (hK : va_K D vwCl tys s) (hn : va_Nw nsl s) (hZ : zs A s s.heap) (hP : va_P D vwCl (pre ++ (wc ++ post)) H) (hD : va_D A (pre ++ (wc ++ post))) (hS : va_S A s.heap H locs) (hA : ∀ q : Nat, s.heap.size ≤ q → A q)
    (hw0 : wc[0]? = some (b, .inr (ci, fs))) (hci : vwCl[ci]? = some (C, T, N)) (hAs : As.length = n) (hls : ls.size = nL) (hst : st0 = As.reverse ++ .ref b :: rest) (hW : (rest.map fun v => v.category).sum ≤ 8) (hdg : decode cc pc = .ok (.invokevirtual index, 3)) (hf : cells ≤ R.cells ∧ slots ≤ R.slots)
    (kk : ∀ (r : Int32) (u : S) (H1 : Heap) (locs1 : List Loc), po r u → va_P D vwCl (pre ++ (wo u ++ post)) H1 → va_D A (pre ++ (wo u ++ post)) → va_S A s.heap H1 locs1 → W p l e R s m args below meth c H1 locs1 cells slots Q (F0 m (pc + 3) ls (.int r :: rest))) : W p l e R s m args below meth c H locs cells slots Q (F0 m pc ls st0) := by
  have hPc := wm_sub hP
  have hDc := wm_subD hD
  have hFc := wm_free hD hS hA
  have hZ1 : zs (va_A wc H.size) s H := zs_narrow (zs_kept hZ (fun a h1 h2 => hS.2.1 a h1 h2)) hFc
  refine va_calli (va_runV (As := As) (rest := rest) S0 (hC H.size) cw ⟨?_, va_recv hK hPc (ci := ci) (q0 := 0) hci hw0, ?_⟩ rfl hAs hls hst (lv_room hW) hdg hf) hS (fun q _ h => hFc q h) hFc (fun r u t H1 locs1 ht hvm hw hB hz1 hk1 hS1 => ?_)
  · intro a U g mk q
    obtain ⟨q0, q1, q2⟩ := q
    obtain ⟨r0, r1⟩ := ct_blind (av := .ref b :: As) a U g mk ⟨q0, q1⟩
    exact ⟨r0, r1, zs_moved (u := U) (U := U.calling g mk a) (Vm.Alike.refl U.vm) q2⟩
  · intro U hU hW2
    obtain ⟨r0, r1⟩ := ct_use (av := .ref b :: As) hK hn hPc hDc U hU hW2
    exact ⟨r0, r1, by rw [hU]; exact zs_moved hW2.alike hZ1⟩
  obtain ⟨hP1, hD1⟩ := hB
  rw [ht] at hP1
  obtain ⟨hP2, hD2⟩ := wm_join hP hD hk1 hFc hP1 hD1
  exact kk r u H1 locs1 hw hP2 hD2 hS1
end CALLZ
theorem k10b {k : Nat} (h : k < 10) : k = 0 ∨ k = 1 ∨ k = 2 ∨ k = 3 ∨ k = 4 ∨ k = 5 ∨ k = 6 ∨ k = 7 ∨ k = 8 ∨ k = 9 := by omega
theorem ge7 {x : Int32} (h : inN x 10) : (7 : Int32) ≤ x ↔ 7 ≤ dg x := by
  obtain ⟨j, hj, rfl⟩ := h
  rw [dg_nI (by omega)]
  exact nI_leI (a := 7) (b := j) (by omega) (by omega)
theorem cd_eq {k : Nat} {a b c a' b' c' : Int32} (hk : k < 10) (hf : fitP k a b c) (ha : (nmA k ∧ a' = a) ∨ (¬ nmA k ∧ a' = 0)) (hb : (nmB k ∧ b' = b) ∨ (¬ nmB k ∧ b' = 0)) (hc : (nmC k ∧ c' = c) ∨ (¬ nmC k ∧ c' = 0)) : nI k * 1000 + a' * 100 + b' * 10 + c' = nI (cdA k a b c) := by
  obtain ⟨da, db, dc, e1, e2, e3, e4, ga, gb, gc, na, nb, nc⟩ := cdA_d hk hf
  have qa : a' = nI da := by
    rcases ha with ⟨h1, h2⟩ | ⟨h1, h2⟩
    · rw [h2]; exact ga h1
    · rw [h2, na h1]; rfl
  have qb : b' = nI db := by
    rcases hb with ⟨h1, h2⟩ | ⟨h1, h2⟩
    · rw [h2]; exact gb h1
    · rw [h2, nb h1]; rfl
  have qc : c' = nI dc := by
    rcases hc with ⟨h1, h2⟩ | ⟨h1, h2⟩
    · rw [h2]; exact gc h1
    · rw [h2, nc h1]; rfl
  rw [qa, qb, qc, e4, show (1000 : Int32) = nI 1000 from rfl, show (100 : Int32) = nI 100 from rfl, show (10 : Int32) = nI 10 from rfl, pk_mul, pk_mul, pk_mul, nI_add, nI_add, nI_add]
theorem Dpl_id {pc : Nat → Int32} {pf : Nat → Nat → Int32} {G : GP} {q : Nat} {m : Int32} {f : Nat → Int32} (h : Dpl pc pf G) (hm : m = pc q) (hf : f = pf q) : Dpl (upd pc q m) (va_up pf q f) G := by
  subst hm; subst hf
  intro p hp
  by_cases e : p = q
  · subst e; rw [pk_us, va_up_self]; exact h p hp
  · rw [pk_un e, va_up_ne _ _ e]; exact h p hp
