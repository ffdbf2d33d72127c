/-! The frame of the contracts: a world is a list of cells; a callee gets a stretch of the caller's. -/
def nsl : Cond := .methodLinkNest RX3 21 yX4_isShelf RX4
theorem wm_Pm {D : va_G} {cl : List vw_C} {ws : va_W} {H : Heap} : va_P D cl ws H ↔ ∀ q ∈ ws, va_at D cl q H :=
  ⟨fun h q hq => by obtain ⟨k, hk⟩ := List.getElem?_of_mem hq; exact h k q hk, fun h k q hk => h q (List.mem_of_getElem? hk)⟩
theorem wm_Dm {A : Nat → Prop} {ws : va_W} : va_D A ws ↔ ws.Pairwise (fun p q => p.1 ≠ q.1) ∧ ∀ q ∈ ws, A q.1 := by
  constructor
  · intro h
    refine ⟨List.pairwise_iff_getElem.mpr ?_, fun q hq => by obtain ⟨k, hk⟩ := List.getElem?_of_mem hq; exact h.2 k q hk⟩
    intro i j hi hj hij e
    have := h.1 i j ws[i] ws[j] (List.getElem?_eq_getElem hi) (List.getElem?_eq_getElem hj) e
    omega
  · intro h
    refine ⟨?_, fun k q hk => h.2 q (List.mem_of_getElem? hk)⟩
    intro i j p q hi hj e
    obtain ⟨hi1, rfl⟩ := List.getElem?_eq_some_iff.mp hi
    obtain ⟨hj1, rfl⟩ := List.getElem?_eq_some_iff.mp hj
    have hp := List.pairwise_iff_getElem.mp h.1
    rcases Nat.lt_trichotomy i j with hlt | hlt | hlt
    · exact absurd e (hp i j hi1 hj1 hlt)
    · exact hlt
    · exact absurd e.symm (hp j i hj1 hi1 hlt)
theorem wm_sub {D : va_G} {cl : List vw_C} {pre wc post : va_W} {H : Heap} (h : va_P D cl (pre ++ (wc ++ post)) H) : va_P D cl wc H :=
  wm_Pm.mpr fun q hq => wm_Pm.mp h q (List.mem_append_right _ (List.mem_append_left _ hq))
theorem wm_subD {A : Nat → Prop} {pre wc post : va_W} (h : va_D A (pre ++ (wc ++ post))) : va_D A wc := by
  obtain ⟨h1, h2⟩ := wm_Dm.mp h
  exact wm_Dm.mpr ⟨(List.pairwise_append.mp (List.pairwise_append.mp h1).2.1).1, fun q hq => h2 q (List.mem_append_right _ (List.mem_append_left _ hq))⟩
theorem wm_free {A0 : Nat → Prop} {pre wc post : va_W} {H0 H : Heap} {locs : List Loc} (hD : va_D A0 (pre ++ (wc ++ post))) (hS : va_S A0 H0 H locs) (hA : ∀ q, H0.size ≤ q → A0 q) : ∀ q, va_A wc H.size q → A0 q := by
  intro q h
  rcases h with ⟨k, e, h⟩ | h
  · exact (wm_Dm.mp (wm_subD hD)).2 (q, e) (List.mem_of_getElem? h)
  · exact hA q (Nat.le_trans hS.1 h)
theorem wm_join {A0 : Nat → Prop} {D : va_G} {cl : List vw_C} {pre wc post w1 : va_W} {H H1 : Heap} (hP : va_P D cl (pre ++ (wc ++ post)) H) (hD : va_D A0 (pre ++ (wc ++ post)))
    (hk : ∀ q : Nat, q < H.size → ¬ va_A wc H.size q → H1[q]? = H[q]?) (hF : ∀ q, va_A wc H.size q → A0 q) (hP1 : va_P D cl w1 H1) (hD1 : va_D (va_A wc H.size) w1) : va_P D cl (pre ++ (w1 ++ post)) H1 ∧ va_D A0 (pre ++ (w1 ++ post)) := by
  have hPm := wm_Pm.mp hP
  obtain ⟨d1, d2⟩ := wm_Dm.mp hD
  obtain ⟨p1, p2, p3⟩ := List.pairwise_append.mp d1
  obtain ⟨p4, p5, p6⟩ := List.pairwise_append.mp p2
  obtain ⟨e1, e2⟩ := wm_Dm.mp hD1
  have apart : ∀ q ∈ pre ++ post, q.1 < H.size ∧ ¬ va_A wc H.size q.1 := by
    intro q hq
    have hq2 : q ∈ pre ++ (wc ++ post) := by
      rcases List.mem_append.mp hq with h | h
      · exact List.mem_append_left _ h
      · exact List.mem_append_right _ (List.mem_append_right _ h)
    refine ⟨(hPm q hq2).lt, ?_⟩
    rintro (⟨k, e, h⟩ | h)
    · have hm := List.mem_of_getElem? h
      rcases List.mem_append.mp hq with h2 | h2
      · exact p3 q h2 _ (List.mem_append_left _ hm) rfl
      · exact p6 _ hm q h2 rfl
    · have := (hPm q hq2).lt
      omega
  constructor
  · refine wm_Pm.mpr fun q hq => ?_
    rcases List.mem_append.mp hq with h | h
    · have ha := apart q (List.mem_append_left _ h)
      exact (hPm q (List.mem_append_left _ h)).kept (hk _ ha.1 ha.2)
    · rcases List.mem_append.mp h with h | h
      · exact wm_Pm.mp hP1 q h
      · have ha := apart q (List.mem_append_right _ h)
        exact (hPm q (List.mem_append_right _ (List.mem_append_right _ h))).kept (hk _ ha.1 ha.2)
  · refine wm_Dm.mpr ⟨List.pairwise_append.mpr ⟨p1, List.pairwise_append.mpr ⟨e1, p5, ?_⟩, ?_⟩, ?_⟩
    · intro a ha b hb e
      exact (apart b (List.mem_append_right _ hb)).2 (e ▸ e2 a ha)
    · intro a ha b hb e
      rcases List.mem_append.mp hb with h | h
      · exact (apart a (List.mem_append_left _ ha)).2 (e ▸ e2 b h)
      · exact p3 a ha b (List.mem_append_right _ h) e
    · intro q hq
      rcases List.mem_append.mp hq with h | h
      · exact d2 q (List.mem_append_left _ h)
      · rcases List.mem_append.mp h with h | h
        · exact hF _ (e2 q h)
        · exact d2 q (List.mem_append_right _ (List.mem_append_right _ h))
/-- a contract's start -/
def ct_pre (D : va_G) (tys : List (ClassId × FieldType)) (sz : Nat) (w0 : va_W) (U : State) : Prop :=
  U.heap.size = sz ∧ va_P D vwCl w0 U.heap ∧ va_K D vwCl tys U ∧ va_D (fun _ => True) w0 ∧ va_Nw nsl U
/-- a contract that answers an int: the world w0 comes, the world wo u goes -/
def Ci (l : Launch) (D : va_G) (tys : List (ClassId × FieldType)) (y : MethodName) (wm : List Cond) (rm : Room) (av : List Value) (w0 : va_W) {S : Type} (post : Int32 → S → Prop) (wo : S → va_W) : Prop :=
  ∀ sz : Nat, Met l y wm rm (va_Pc av (ct_pre D tys sz w0)) (va_Qi post (fun u t => va_P D vwCl (wo u) t.heap ∧ va_D (va_A w0 sz) (wo u)) (va_A w0 sz)) 0 0 (va_A w0 sz)
def Cv (l : Launch) (D : va_G) (tys : List (ClassId × FieldType)) (y : MethodName) (wm : List Cond) (rm : Room) (av : List Value) (w0 : va_W) {S : Type} (post : S → Prop) (wo : S → va_W) : Prop :=
  ∀ sz : Nat, Met l y wm rm (va_Pc av (ct_pre D tys sz w0)) (va_Qv post (fun u t => va_P D vwCl (wo u) t.heap ∧ va_D (va_A w0 sz) (wo u)) (va_A w0 sz)) 0 0 (va_A w0 sz)
abbrev Qi (D : va_G) (below : List Frame) (args : Array Value) (s : State) (A : Nat → Prop) {S : Type} (post : Int32 → S → Prop) (wo : S → va_W) : State → Prop :=
  MQ below (va_Qi post (fun u t => va_P D vwCl (wo u) t.heap ∧ va_D A (wo u)) A) args s 0 0 A
abbrev Qv (D : va_G) (below : List Frame) (args : Array Value) (s : State) (A : Nat → Prop) {S : Type} (post : S → Prop) (wo : S → va_W) : State → Prop :=
  MQ below (va_Qv post (fun u t => va_P D vwCl (wo u) t.heap ∧ va_D A (wo u)) A) args s 0 0 A
theorem Ci.mk {l : Launch} {D : va_G} {tys : List (ClassId × FieldType)} {y : MethodName} {wm ws' : List Cond} {rm : Room} {av : List Value} {w0 : va_W} {S : Type} {post : Int32 → S → Prop} {wo : S → va_W} {cc : ByteArray} {maxL : Nat} {ret : Option FieldType}
    (hy : plainName y.cls = true) (hw : wm = Cond.code y cc maxL ret :: ws') (hav : (lg_sl av).length ≤ maxL)
    (body : ∀ (p : Program) (e : Env) (s : State) (m : MethodId) (below : List Frame) (meth : Method) (c : Code) (A : Nat → Prop) (ls : Array Slot), p.tables.exec = Jvm.exec → c.code = cc → c.maxLocals = maxL → meth.sig.returnType = ret → s.vm.findClass y.cls = some m.cls → (∀ w ∈ wm, w.before av.toArray s = true) → meth.locks = false →
      va_K D vwCl tys s → va_Nw nsl s → (∀ q : Nat, s.heap.size ≤ q → A q) → va_P D vwCl w0 s.heap → va_D A w0 → va_S A s.heap s.heap [] → lv_has ls maxL (lv_args 0 av) →
      W p l e rm s m av.toArray below meth c s.heap [] 0 0 (Qi D below av.toArray s A post wo) (F0 m 0 ls [])) : Ci l D tys y wm rm av w0 post wo := by
  intro sz
  refine Met.ofW (cc := cc) (maxL := maxL) (ret := ret) hy hw ?_
  intro p e s m args below meth c s₁ B hml hv
  obtain ⟨rfl, rfl, hP, hK, hD0, hn⟩ := hv
  have hl := lv_entry av (n := maxL) hav
  rw [lg_entry_eq]
  exact body p e s m below meth c (va_A w0 s.heap.size) _ B.exec B.bytes hml B.returns (findClass_of_methodNamed B.named) (atoms_spec (ws := wm) B.pre) B.notSynchronized hK hn (fun q h => Or.inr h) hP hD0.self va_S.rf hl
theorem Cv.mk {l : Launch} {D : va_G} {tys : List (ClassId × FieldType)} {y : MethodName} {wm ws' : List Cond} {rm : Room} {av : List Value} {w0 : va_W} {S : Type} {post : S → Prop} {wo : S → va_W} {cc : ByteArray} {maxL : Nat} {ret : Option FieldType}
    (hy : plainName y.cls = true) (hw : wm = Cond.code y cc maxL ret :: ws') (hav : (lg_sl av).length ≤ maxL)
    (body : ∀ (p : Program) (e : Env) (s : State) (m : MethodId) (below : List Frame) (meth : Method) (c : Code) (A : Nat → Prop) (ls : Array Slot), p.tables.exec = Jvm.exec → c.code = cc → c.maxLocals = maxL → meth.sig.returnType = ret → s.vm.findClass y.cls = some m.cls → (∀ w ∈ wm, w.before av.toArray s = true) → meth.locks = false →
      va_K D vwCl tys s → va_Nw nsl s → (∀ q : Nat, s.heap.size ≤ q → A q) → va_P D vwCl w0 s.heap → va_D A w0 → va_S A s.heap s.heap [] → lv_has ls maxL (lv_args 0 av) →
      W p l e rm s m av.toArray below meth c s.heap [] 0 0 (Qv D below av.toArray s A post wo) (F0 m 0 ls [])) : Cv l D tys y wm rm av w0 post wo := by
  intro sz
  refine Met.ofW (cc := cc) (maxL := maxL) (ret := ret) hy hw ?_
  intro p e s m args below meth c s₁ B hml hv
  obtain ⟨rfl, rfl, hP, hK, hD0, hn⟩ := hv
  have hl := lv_entry av (n := maxL) hav
  rw [lg_entry_eq]
  exact body p e s m below meth c (va_A w0 s.heap.size) _ B.exec B.bytes hml B.returns (findClass_of_methodNamed B.named) (atoms_spec (ws := wm) B.pre) B.notSynchronized hK hn (fun q h => Or.inr h) hP hD0.self va_S.rf hl
section RET
variable {p : Program} {l : Launch} {e : Env} {R : Room} {s : State} {m : MethodId} {args : Array Value} {below : List Frame} {meth : Method} {c : Code} {H : Heap} {locs : List Loc} {D : va_G} {A : Nat → Prop} {cc : ByteArray} {pc : Nat} {ls : Array Slot} {S : Type}
theorem Ri {post : Int32 → S → Prop} {wo : S → va_W} {v : Int32} (u : S) {ty : FieldType} (hx : p.tables.exec = Jvm.exec) (hb : c.code = cc) (hr : meth.sig.returnType = some ty) (hn : narrow ty (.int v) = .int v) (hlocks : meth.locks = false) (hP : va_P D vwCl (wo u) H) (hD : va_D A (wo u)) (hS : va_S A s.heap H locs) (hp : post v u) (hdg : decode cc pc = .ok (.ireturn, 1)) :
    W p l e R s m args below meth c H locs 0 0 (Qi D below args s A post wo) (F0 m pc ls [.int v]) :=
  W.zret (ty := ty) hx hb hr hn (fun t ht _ => ⟨⟨v, u, rfl, hp, by rw [ht]; exact hP, hD⟩, hS.F ht⟩) hS.2.2 hdg hlocks
theorem Rv {post : S → Prop} {wo : S → va_W} (u : S) (hx : p.tables.exec = Jvm.exec) (hb : c.code = cc) (hr : meth.sig.returnType = none) (hlocks : meth.locks = false) (hP : va_P D vwCl (wo u) H) (hD : va_D A (wo u)) (hS : va_S A s.heap H locs) (hp : post u) (hdg : decode cc pc = .ok (.return_, 1)) :
    W p l e R s m args below meth c H locs 0 0 (Qv D below args s A post wo) (F0 m pc ls []) :=
  W.vret hx hb hr (fun t ht _ => ⟨⟨u, rfl, hp, by rw [ht]; exact hP, hD⟩, hS.F ht⟩) hS.2.2 hdg hlocks
end RET
theorem ct_blind {D : va_G} {tys : List (ClassId × FieldType)} {sz : Nat} {w0 : va_W} {av : List Value} : FrameBlind (va_Pc av (ct_pre D tys sz w0)) := fun a U g mk q => by
  obtain ⟨q0, q1, qP, qK, qD, qn⟩ := q
  exact ⟨q0, q1, qP, va_K.moved (u := U) (U := U.calling g mk a) (Vm.Alike.refl U.vm) qK, qD, va_Nw.same (u := U) (U := U.calling g mk a) rfl rfl qn⟩
theorem ct_use {D : va_G} {tys : List (ClassId × FieldType)} {w0 : va_W} {av : List Value} {s : State} {H : Heap} {A : Nat → Prop} (hK : va_K D vwCl tys s) (hn : va_Nw nsl s) (hP : va_P D vwCl w0 H) (hD : va_D A w0) : ∀ U : State, U.heap = H → s.WarmedH U.vm → va_Pc av (ct_pre D tys H.size w0) av.toArray U :=
  fun U hU hW => ⟨rfl, by rw [hU], by rw [hU]; exact hP, va_K.moved hW.alike hK, hD.weaken (fun _ _ _ _ => trivial), va_Nw.warmM hW hn⟩
section CALLS
variable {p : Program} {l : Launch} {e : Env} {R : Room} {s : State} {m : MethodId} {args : Array Value} {below : List Frame} {meth : Method} {c : Code} {H : Heap} {locs : List Loc} {cells slots : Nat} {Q : State → Prop} {D : va_G} {A : Nat → Prop} {cc : ByteArray} {pc nL : Nat} {ls : Array Slot} {S : Type} {rest st0 : List Value}
variable {tys : List (ClassId × FieldType)} {y : MethodName} {wm Ts : List Cond} {rm : Room} {As : List Value} {wc : va_W} {own C host : String} {index maxL n ci b : Nat} {bytes : ByteArray} {ret : Option FieldType} {fs : List Value} {T : u_T} {N : Nat}
theorem cl_Vi {po : Int32 → S → Prop} {wo : S → va_W} (pre post : va_W) (hC : Ci l D tys y wm rm (.ref b :: As) wc po wo) (S0 : CallFix p m c cc nL s args Ts own) (cw : CallW R s args own C index y bytes maxL ret wm rm 0 0 n) (hK : va_K D vwCl tys s) (hn : va_Nw nsl s) (hP : va_P D vwCl (pre ++ (wc ++ post)) H) (hD : va_D A (pre ++ (wc ++ post))) (hS : va_S A s.heap H locs) (hA : ∀ q : Nat, s.heap.size ≤ q → A q)
    (hw0 : wc[0]? = some (b, .inr (ci, fs))) (hci : vwCl[ci]? = some (C, T, N)) (hAs : As.length = n) (hls : ls.size = nL) (hst : st0 = As.reverse ++ .ref b :: rest) (hW : (rest.map fun v => v.category).sum ≤ 8) (hdg : decode cc pc = .ok (.invokevirtual index, 3)) (hf : cells ≤ R.cells ∧ slots ≤ R.slots)
    (kk : ∀ (r : Int32) (u : S) (H1 : Heap) (locs1 : List Loc), po r u → va_P D vwCl (pre ++ (wo u ++ post)) H1 → va_D A (pre ++ (wo u ++ post)) → va_S A s.heap H1 locs1 → W p l e R s m args below meth c H1 locs1 cells slots Q (F0 m (pc + 3) ls (.int r :: rest))) : W p l e R s m args below meth c H locs cells slots Q (F0 m pc ls st0) := by
  have hPc := wm_sub hP
  have hDc := wm_subD hD
  have hFc := wm_free hD hS hA
  refine va_calli (va_runV (As := As) (rest := rest) S0 (hC H.size) cw ⟨ct_blind, va_recv hK hPc (ci := ci) (q0 := 0) hci hw0, ct_use hK hn hPc hDc⟩ rfl hAs hls hst (lv_room hW) hdg hf) hS (fun q _ h => hFc q h) hFc (fun r u t H1 locs1 ht hvm hw hB hz1 hk1 hS1 => ?_)
  obtain ⟨hP1, hD1⟩ := hB
  rw [ht] at hP1
  obtain ⟨hP2, hD2⟩ := wm_join hP hD hk1 hFc hP1 hD1
  exact kk r u H1 locs1 hw hP2 hD2 hS1
theorem cl_Vv {po : S → Prop} {wo : S → va_W} (pre post : va_W) (hC : Cv l D tys y wm rm (.ref b :: As) wc po wo) (S0 : CallFix p m c cc nL s args Ts own) (cw : CallW R s args own C index y bytes maxL ret wm rm 0 0 n) (hK : va_K D vwCl tys s) (hn : va_Nw nsl s) (hP : va_P D vwCl (pre ++ (wc ++ post)) H) (hD : va_D A (pre ++ (wc ++ post))) (hS : va_S A s.heap H locs) (hA : ∀ q : Nat, s.heap.size ≤ q → A q)
    (hw0 : wc[0]? = some (b, .inr (ci, fs))) (hci : vwCl[ci]? = some (C, T, N)) (hAs : As.length = n) (hls : ls.size = nL) (hst : st0 = As.reverse ++ .ref b :: rest) (hW : (rest.map fun v => v.category).sum ≤ 8) (hdg : decode cc pc = .ok (.invokevirtual index, 3)) (hf : cells ≤ R.cells ∧ slots ≤ R.slots)
    (kk : ∀ (u : S) (H1 : Heap) (locs1 : List Loc), po u → va_P D vwCl (pre ++ (wo u ++ post)) H1 → va_D A (pre ++ (wo u ++ post)) → va_S A s.heap H1 locs1 → W p l e R s m args below meth c H1 locs1 cells slots Q (F0 m (pc + 3) ls rest)) : W p l e R s m args below meth c H locs cells slots Q (F0 m pc ls st0) := by
  have hPc := wm_sub hP
  have hDc := wm_subD hD
  have hFc := wm_free hD hS hA
  refine va_callv (va_runV (As := As) (rest := rest) S0 (hC H.size) cw ⟨ct_blind, va_recv hK hPc (ci := ci) (q0 := 0) hci hw0, ct_use hK hn hPc hDc⟩ rfl hAs hls hst (lv_room hW) hdg hf) hS (fun q _ h => hFc q h) hFc (fun u t H1 locs1 ht hvm hw hB hz1 hk1 hS1 => ?_)
  obtain ⟨hP1, hD1⟩ := hB
  rw [ht] at hP1
  obtain ⟨hP2, hD2⟩ := wm_join hP hD hk1 hFc hP1 hD1
  exact kk u H1 locs1 hw hP2 hD2 hS1
theorem cl_Si {po : Int32 → S → Prop} (hC : Ci l D [] y wm rm As [] po (fun _ => [])) (S0 : CallFix p m c cc nL s args Ts own) (cw : CallB R s args own index y bytes maxL ret wm rm 0 0 n ∧ (Cond.static y).before args s = true) (hK : va_K D vwCl tys s) (hn : va_Nw nsl s) (hP : va_P D vwCl wc H) (hD : va_D A wc) (hS : va_S A s.heap H locs) (hA : ∀ q : Nat, s.heap.size ≤ q → A q)
    (hAs : As.length = n) (hls : ls.size = nL) (hst : st0 = As.reverse ++ rest) (hW : (rest.map fun v => v.category).sum ≤ 8) (hdg : decode cc pc = .ok (.invokestatic index, 3)) (hf : cells ≤ R.cells ∧ slots ≤ R.slots)
    (kk : ∀ (r : Int32) (u : S) (H1 : Heap) (locs1 : List Loc), po r u → va_P D vwCl wc H1 → va_D A wc → va_S A s.heap H1 locs1 → W p l e R s m args below meth c H1 locs1 cells slots Q (F0 m (pc + 3) ls (.int r :: rest))) : W p l e R s m args below meth c H locs cells slots Q (F0 m pc ls st0) := by
  have hP' : va_P D vwCl ([] ++ ([] ++ wc)) H := hP
  have hD' : va_D A ([] ++ ([] ++ wc)) := hD
  have hPc := wm_sub hP'
  have hDc := wm_subD hD'
  have hFc := wm_free hD' hS hA
  refine va_calli (va_runS (As := As) (rest := rest) S0 (hC H.size) cw ⟨ct_blind, ct_use (hK.sub [] rfl) hn hPc hDc⟩ rfl hAs hls hst (lv_room hW) hdg hf) hS (fun q _ h => hFc q h) hFc (fun r u t H1 locs1 ht hvm hw hB hz1 hk1 hS1 => ?_)
  obtain ⟨hP1, hD1⟩ := hB
  rw [ht] at hP1
  obtain ⟨hP2, hD2⟩ := wm_join hP' hD' hk1 hFc hP1 hD1
  exact kk r u H1 locs1 hw hP2 hD2 hS1
theorem cl_SNi {po : Int32 → S → Prop} (hC : Ci l D [] y wm rm As [] po (fun _ => [])) (S0 : CallFix p m c cc nL s args Ts own) (cw : va_CN R s args own index y host bytes maxL ret wm rm 0 0 n ∧ (Cond.static y).before args s = true ∧ True) (hK : va_K D vwCl tys s) (hn : va_Nw nsl s) (hP : va_P D vwCl wc H) (hD : va_D A wc) (hS : va_S A s.heap H locs) (hA : ∀ q : Nat, s.heap.size ≤ q → A q)
    (hAs : As.length = n) (hls : ls.size = nL) (hst : st0 = As.reverse ++ rest) (hW : (rest.map fun v => v.category).sum ≤ 8) (hdg : decode cc pc = .ok (.invokestatic index, 3)) (hf : cells ≤ R.cells ∧ slots ≤ R.slots)
    (kk : ∀ (r : Int32) (u : S) (H1 : Heap) (locs1 : List Loc), po r u → va_P D vwCl wc H1 → va_D A wc → va_S A s.heap H1 locs1 → W p l e R s m args below meth c H1 locs1 cells slots Q (F0 m (pc + 3) ls (.int r :: rest))) : W p l e R s m args below meth c H locs cells slots Q (F0 m pc ls st0) := by
  have hP' : va_P D vwCl ([] ++ ([] ++ wc)) H := hP
  have hD' : va_D A ([] ++ ([] ++ wc)) := hD
  have hPc := wm_sub hP'
  have hDc := wm_subD hD'
  have hFc := wm_free hD' hS hA
  refine va_calli (va_runSN (As := As) (rest := rest) S0 (hC H.size) cw ⟨ct_blind, ct_use (hK.sub [] rfl) hn hPc hDc⟩ rfl hAs hls hst (lv_room hW) hdg hf) hS (fun q _ h => hFc q h) hFc (fun r u t H1 locs1 ht hvm hw hB hz1 hk1 hS1 => ?_)
  obtain ⟨hP1, hD1⟩ := hB
  rw [ht] at hP1
  obtain ⟨hP2, hD2⟩ := wm_join hP' hD' hk1 hFc hP1 hD1
  exact kk r u H1 locs1 hw hP2 hD2 hS1
end CALLS
