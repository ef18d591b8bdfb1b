/-! worlds by an index: cell i is at ad i and holds f i -/
def FW (N : Nat) (ad : Nat → Nat) (f : Nat → va_E) : va_W := (List.range N).map (fun i => (ad i, f i))
theorem FW_get {N : Nat} {ad : Nat → Nat} {f : Nat → va_E} {i : Nat} {e : va_E} (hi : i < N) (he : f i = e) : (FW N ad f)[i]? = some (ad i, e) := by
  simp [FW, hi, he]
theorem FW_inv {N : Nat} {ad : Nat → Nat} {f : Nat → va_E} {i : Nat} {q : Nat × va_E} (h : (FW N ad f)[i]? = some q) : i < N ∧ q = (ad i, f i) := by
  unfold FW at h
  rw [List.getElem?_map] at h
  by_cases hi : i < N
  · rw [List.getElem?_range hi] at h
    exact ⟨hi, (Option.some.inj h).symm⟩
  · rw [List.getElem?_eq_none (by rw [List.length_range]; omega)] at h
    cases h
theorem FW_len (N : Nat) (ad : Nat → Nat) (f : Nat → va_E) : (FW N ad f).length = N := by simp [FW]
theorem FW_set {N : Nat} {ad : Nat → Nat} {f f' : Nat → va_E} {i : Nat} {e : va_E} (h : va_up f i e = f') : (FW N ad f).set i (ad i, e) = FW N ad f' := by
  subst h
  apply List.ext_getElem?
  intro j
  by_cases hN : j < N
  · rw [FW_get (f := va_up f i e) hN rfl]
    by_cases hj : j = i
    · subst hj
      rw [List.getElem?_set_self (by rw [FW_len]; exact hN), va_up_self]
    · rw [List.getElem?_set_ne (Ne.symm hj), FW_get hN rfl, va_up_ne _ _ hj]
  · rw [List.getElem?_eq_none (by rw [List.length_set, FW_len]; omega), List.getElem?_eq_none (by rw [FW_len]; omega)]
theorem FW_P {D : va_G} {cl : List vw_C} {N : Nat} {ad : Nat → Nat} {f f' : Nat → va_E} {i : Nat} {e : va_E} {H : Heap} (hP : va_P D cl ((FW N ad f).set i (ad i, e)) H) (h : va_up f i e = f') : va_P D cl (FW N ad f') H := by
  rw [FW_set h] at hP
  exact hP
theorem FW_at {D : va_G} {cl : List vw_C} {N : Nat} {ad : Nat → Nat} {f : Nat → va_E} {H : Heap} : va_P D cl (FW N ad f) H ↔ ∀ i, i < N → va_at D cl (ad i, f i) H := by
  constructor
  · intro h i hi
    exact h i _ (FW_get hi rfl)
  · intro h k q hk
    obtain ⟨h1, rfl⟩ := FW_inv hk
    exact h k h1
theorem FW_D {A : Nat → Prop} {N : Nat} {ad : Nat → Nat} {f : Nat → va_E} : va_D A (FW N ad f) ↔ (∀ i j, i < N → j < N → ad i = ad j → i = j) ∧ ∀ i, i < N → A (ad i) := by
  constructor
  · intro h
    exact ⟨fun i j hi hj e => h.1 i j _ _ (FW_get hi rfl) (FW_get hj rfl) e, fun i hi => h.2 i _ (FW_get hi rfl)⟩
  · intro h
    refine ⟨fun i j p q hp hq e => ?_, fun k q hk => ?_⟩
    · obtain ⟨h1, rfl⟩ := FW_inv hp
      obtain ⟨h2, rfl⟩ := FW_inv hq
      exact h.1 i j h1 h2 e
    · obtain ⟨h1, rfl⟩ := FW_inv hk
      exact h.2 k h1
theorem FW_Dall {A : Nat → Prop} {N : Nat} {ad : Nat → Nat} {f : Nat → va_E} (h : va_D A (FW N ad f)) : ∀ g, va_D A (FW N ad g) := fun g => FW_D.mpr (FW_D.mp h)
theorem FW_A {N : Nat} {ad : Nat → Nat} {f : Nat → va_E} {sz q : Nat} : va_A (FW N ad f) sz q ↔ (∃ i, i < N ∧ ad i = q) ∨ sz ≤ q := by
  unfold va_A
  constructor
  · rintro (⟨k, e, h⟩ | h)
    · obtain ⟨h1, h2⟩ := FW_inv h
      exact Or.inl ⟨k, h1, (congrArg Prod.fst h2).symm⟩
    · exact Or.inr h
  · rintro (⟨i, h1, rfl⟩ | h)
    · exact Or.inl ⟨i, f i, FW_get h1 rfl⟩
    · exact Or.inr h
abbrev gPc (D : va_G) (tys : List (ClassId × FieldType)) (N : Nat) (ad : Nat → Nat) (f : Nat → va_E) (sz : Nat) (av : List Value) : Array Value → State → Prop := va_Pc av (fun U => U.heap.size = sz ∧ va_P D vwCl (FW N ad f) U.heap ∧ va_K D vwCl tys U ∧ va_D (fun _ => True) (FW N ad f))
theorem gPc_blind {D : va_G} {tys : List (ClassId × FieldType)} {N : Nat} {ad : Nat → Nat} {f : Nat → va_E} {sz : Nat} {av : List Value} : FrameBlind (gPc D tys N ad f sz av) := fun a U g mk q => by
  obtain ⟨q0, q1, qP, qK, qD⟩ := q
  exact ⟨q0, q1, qP, va_K.moved (u := U) (U := U.calling g mk a) (Vm.Alike.refl U.vm) qK, qD⟩
def gMi {S : Type} (l : Launch) (y : MethodName) (ws : List Cond) (rm : Room) (D : va_G) (tys : List (ClassId × FieldType)) (N : Nat) (ad : Nat → Nat) (f : Nat → va_E) (av : List Value) (post : Int32 → S → Prop) (g : S → Nat → va_E) : Prop :=
  ∀ sz : Nat, Met l y ws rm (gPc D tys N ad f sz av) (va_Qi post (fun u t => va_P D vwCl (FW N ad (g u)) t.heap) (va_A (FW N ad f) sz)) 0 0 (va_A (FW N ad f) sz)
def gMv {S : Type} (l : Launch) (y : MethodName) (ws : List Cond) (rm : Room) (D : va_G) (tys : List (ClassId × FieldType)) (N : Nat) (ad : Nat → Nat) (f : Nat → va_E) (av : List Value) (post : S → Prop) (g : S → Nat → va_E) : Prop :=
  ∀ sz : Nat, Met l y ws rm (gPc D tys N ad f sz av) (va_Qv post (fun u t => va_P D vwCl (FW N ad (g u)) t.heap) (va_A (FW N ad f) sz)) 0 0 (va_A (FW N ad f) sz)
abbrev zq (b : Int32) : Prop := b = 0 ∨ b = 1
theorem g_ofi {S : Type} {l : Launch} {y : MethodName} {ws ws0 : List Cond} {rm : Room} {D : va_G} {tys : List (ClassId × FieldType)} {N : Nat} {ad : Nat → Nat} {f : Nat → va_E} {av : List Value} {cc : ByteArray} {maxL : Nat} {post : Int32 → S → Prop} {g : S → Nat → va_E} (hy : plainName y.cls = true) (hw : ws = Cond.code y cc maxL (some .int) :: ws0) (hlen : (lg_sl av).length ≤ maxL) (hrc : rm.cells = 0) (hrs : rm.slots = 0)
    (k : ∀ (p : Program) (e : Env) (s : State) (m : MethodId) (args : Array Value) (below : List Frame) (meth : Method) (c : Code) (A : Nat → Prop) (ls : Array Slot) (Q : State → Prop), p.tables.exec = Jvm.exec → c.code = cc → c.maxLocals = maxL → (∀ w ∈ ws, w.before args s = true) → s.vm.findClass y.cls = some m.cls → va_K D vwCl tys s → va_P D vwCl (FW N ad f) s.heap → (∀ g, va_D A (FW N ad g)) → (∀ q : Nat, s.heap.size ≤ q → A q) → va_S A s.heap s.heap [] → lv_has ls maxL (lv_args 0 av) →
      (∀ (H : Heap) (locs : List Loc) (f' : Nat → va_E) (v : Int32) (u : S) (pc : Nat) (ls : Array Slot), decode cc pc = .ok (.ireturn, 1) → va_P D vwCl (FW N ad f') H → va_S A s.heap H locs → post v u → f' = g u → W p l e rm s m args below meth c H locs 0 0 Q (F0 m pc ls [.int v])) →
      W p l e rm s m args below meth c s.heap [] 0 0 Q (F0 m 0 ls [])) : gMi l y ws rm D tys N ad f av post g := by
  intro sz
  refine Met.ofW (cc := cc) (maxL := maxL) (ret := some .int) hy hw ?_
  intro p e s m args below meth c s₁ B hml hv
  obtain ⟨rfl, hsz, hP, hK, hD0⟩ := hv
  have hts := atoms_spec (ws := ws) B.pre
  have hown : s.vm.findClass y.cls = some m.cls := findClass_of_methodNamed B.named
  subst hsz
  have hD := hD0.self (sz := s.heap.size)
  have hA : ∀ q : Nat, s.heap.size ≤ q → va_A (FW N ad f) s.heap.size q := fun q h => Or.inr h
  have hl := lv_entry av (n := maxL) hlen
  have hx := B.exec
  have hb := B.bytes
  have hr := B.returns
  have hlocks := B.notSynchronized
  rw [lg_entry_eq]
  refine k p e s m _ below meth c (va_A (FW N ad f) s.heap.size) _ _ hx hb hml hts hown hK hP (FW_Dall hD) hA va_S.rf hl ?_
  intro H locs f2 v u pc ls hdg hP hS hu hg
  exact W.iret (v := v) hx hb hr (fun t ht hW => ⟨⟨v, u, rfl, hu, by show va_P D vwCl (FW N ad (g u)) t.heap; rw [ht, ← hg]; exact hP⟩, hS.F ht⟩) hS.2.2 hdg hlocks
theorem g_ofz {S : Type} {l : Launch} {y : MethodName} {ws ws0 : List Cond} {rm : Room} {D : va_G} {tys : List (ClassId × FieldType)} {N : Nat} {ad : Nat → Nat} {f : Nat → va_E} {av : List Value} {cc : ByteArray} {maxL : Nat} {post : Int32 → S → Prop} {g : S → Nat → va_E} (hy : plainName y.cls = true) (hw : ws = Cond.code y cc maxL (some .boolean) :: ws0) (hlen : (lg_sl av).length ≤ maxL) (hrc : rm.cells = 0) (hrs : rm.slots = 0)
    (k : ∀ (p : Program) (e : Env) (s : State) (m : MethodId) (args : Array Value) (below : List Frame) (meth : Method) (c : Code) (A : Nat → Prop) (ls : Array Slot) (Q : State → Prop), p.tables.exec = Jvm.exec → c.code = cc → c.maxLocals = maxL → (∀ w ∈ ws, w.before args s = true) → s.vm.findClass y.cls = some m.cls → va_K D vwCl tys s → va_P D vwCl (FW N ad f) s.heap → (∀ g, va_D A (FW N ad g)) → (∀ q : Nat, s.heap.size ≤ q → A q) → va_S A s.heap s.heap [] → lv_has ls maxL (lv_args 0 av) →
      (∀ (H : Heap) (locs : List Loc) (f' : Nat → va_E) (v : Int32) (u : S) (pc : Nat) (ls : Array Slot), decode cc pc = .ok (.ireturn, 1) → va_P D vwCl (FW N ad f') H → va_S A s.heap H locs → zq v → post v u → f' = g u → W p l e rm s m args below meth c H locs 0 0 Q (F0 m pc ls [.int v])) →
      W p l e rm s m args below meth c s.heap [] 0 0 Q (F0 m 0 ls [])) : gMi l y ws rm D tys N ad f av post g := by
  intro sz
  refine Met.ofW (cc := cc) (maxL := maxL) (ret := some .boolean) hy hw ?_
  intro p e s m args below meth c s₁ B hml hv
  obtain ⟨rfl, hsz, hP, hK, hD0⟩ := hv
  have hts := atoms_spec (ws := ws) B.pre
  have hown : s.vm.findClass y.cls = some m.cls := findClass_of_methodNamed B.named
  subst hsz
  have hD := hD0.self (sz := s.heap.size)
  have hA : ∀ q : Nat, s.heap.size ≤ q → va_A (FW N ad f) s.heap.size q := fun q h => Or.inr h
  have hl := lv_entry av (n := maxL) hlen
  have hx := B.exec
  have hb := B.bytes
  have hr := B.returns
  have hlocks := B.notSynchronized
  rw [lg_entry_eq]
  refine k p e s m _ below meth c (va_A (FW N ad f) s.heap.size) _ _ hx hb hml hts hown hK hP (FW_Dall hD) hA va_S.rf hl ?_
  intro H locs f2 v u pc ls hdg hP hS hz hu hg
  exact W.zret (v := v) (ty := .boolean) hx hb hr (by rcases hz with rfl | rfl <;> rfl) (fun t ht hW => ⟨⟨v, u, rfl, hu, by show va_P D vwCl (FW N ad (g u)) t.heap; rw [ht, ← hg]; exact hP⟩, hS.F ht⟩) hS.2.2 hdg hlocks
theorem g_ofv {S : Type} {l : Launch} {y : MethodName} {ws ws0 : List Cond} {rm : Room} {D : va_G} {tys : List (ClassId × FieldType)} {N : Nat} {ad : Nat → Nat} {f : Nat → va_E} {av : List Value} {cc : ByteArray} {maxL : Nat} {post : S → Prop} {g : S → Nat → va_E} (hy : plainName y.cls = true) (hw : ws = Cond.code y cc maxL (none) :: ws0) (hlen : (lg_sl av).length ≤ maxL) (hrc : rm.cells = 0) (hrs : rm.slots = 0)
    (k : ∀ (p : Program) (e : Env) (s : State) (m : MethodId) (args : Array Value) (below : List Frame) (meth : Method) (c : Code) (A : Nat → Prop) (ls : Array Slot) (Q : State → Prop), p.tables.exec = Jvm.exec → c.code = cc → c.maxLocals = maxL → (∀ w ∈ ws, w.before args s = true) → s.vm.findClass y.cls = some m.cls → va_K D vwCl tys s → va_P D vwCl (FW N ad f) s.heap → (∀ g, va_D A (FW N ad g)) → (∀ q : Nat, s.heap.size ≤ q → A q) → va_S A s.heap s.heap [] → lv_has ls maxL (lv_args 0 av) →
      (∀ (H : Heap) (locs : List Loc) (f' : Nat → va_E) (u : S) (pc : Nat) (ls : Array Slot), decode cc pc = .ok (.return_, 1) → va_P D vwCl (FW N ad f') H → va_S A s.heap H locs → post u → f' = g u → W p l e rm s m args below meth c H locs 0 0 Q (F0 m pc ls [])) →
      W p l e rm s m args below meth c s.heap [] 0 0 Q (F0 m 0 ls [])) : gMv l y ws rm D tys N ad f av post g := by
  intro sz
  refine Met.ofW (cc := cc) (maxL := maxL) (ret := none) hy hw ?_
  intro p e s m args below meth c s₁ B hml hv
  obtain ⟨rfl, hsz, hP, hK, hD0⟩ := hv
  have hts := atoms_spec (ws := ws) B.pre
  have hown : s.vm.findClass y.cls = some m.cls := findClass_of_methodNamed B.named
  subst hsz
  have hD := hD0.self (sz := s.heap.size)
  have hA : ∀ q : Nat, s.heap.size ≤ q → va_A (FW N ad f) s.heap.size q := fun q h => Or.inr h
  have hl := lv_entry av (n := maxL) hlen
  have hx := B.exec
  have hb := B.bytes
  have hr := B.returns
  have hlocks := B.notSynchronized
  rw [lg_entry_eq]
  refine k p e s m _ below meth c (va_A (FW N ad f) s.heap.size) _ _ hx hb hml hts hown hK hP (FW_Dall hD) hA va_S.rf hl ?_
  intro H locs f2 u pc ls hdg hP hS hu hg
  exact W.vret hx hb hr (fun t ht hW => ⟨⟨u, rfl, hu, by show va_P D vwCl (FW N ad (g u)) t.heap; rw [ht, ← hg]; exact hP⟩, hS.F ht⟩) hS.2.2 hdg hlocks
section GR
variable {p : Program} {l : Launch} {e : Env} {R : Room} {s : State} {m : MethodId} {args : Array Value} {below : List Frame} {meth : Method} {c : Code} {H H0 : Heap} {locs : List Loc} {cells slots : Nat} {Q : State → Prop} {A : Nat → Prop} {D : va_G} {tys : List (ClassId × FieldType)} {N : Nat} {ad : Nat → Nat} {f f' : Nat → va_E} {cc : ByteArray} {pc : Nat} {ls : Array Slot} {rest st0 : List Value}
theorem g_free (hD : ∀ g, va_D A (FW N ad g)) (hS : va_S A H0 H locs) (hA : ∀ q : Nat, H0.size ≤ q → A q) : ∀ q, va_A (FW N ad f) H.size q → A q := fun q h => by
  rcases FW_A.mp h with ⟨i, hi, rfl⟩ | h
  · exact (FW_D.mp (hD f)).2 i hi
  · exact hA q (Nat.le_trans hS.1 h)
variable {Ts ws : List Cond} {own C : String} {y : MethodName} {bytes : ByteArray} {maxL nL n index : Nat} {rm : Room} {b : Addr} {As : List Value} {ret : Option FieldType}
/-- a call of an instance method that has the caller's whole world, an int back -/
theorem g_cvi {S : Type} {post : Int32 → S → Prop} {g : S → Nat → va_E} (F : CallFix p m c cc nL s args Ts own) (hM : gMi l y ws rm D tys N ad f (.ref b :: As) post g) (cw : CallW R s args own C index y bytes maxL ret ws rm 0 0 n) (hK : va_K D vwCl tys s) (hP : va_P D vwCl (FW N ad f) H) (hD : ∀ g, va_D A (FW N ad g)) (hS : va_S A H0 H locs) (hA : ∀ q : Nat, H0.size ≤ q → A q) (q0 : Nat) {ci : Nat} {fs : List Value} {qc : vw_C} (hc : vwCl[ci]? = some qc) (hC : C = qc.1) (he : (FW N ad f)[q0]? = some (b, .inr (ci, fs))) (hsize : ls.size = nL) (hdg : decode cc pc = .ok (.invokevirtual index, 3)) (hn : As.length = n) (hst : st0 = As.reverse ++ .ref b :: rest) (hrm : (rest.map fun v => v.category).sum ≤ 8) (hf : cells ≤ R.cells ∧ slots ≤ R.slots)
    (kk : ∀ (r : Int32) (u : S) (H1 : Heap) (locs1 : List Loc), post r u → va_P D vwCl (FW N ad (g u)) H1 → va_S A H0 H1 locs1 → W p l e R s m args below meth c H1 locs1 cells slots Q (F0 m (pc + 3) ls (.int r :: rest))) : W p l e R s m args below meth c H locs cells slots Q (F0 m pc ls st0) := by
  have hfr := g_free (f := f) hD hS hA
  subst hC
  refine va_calli (va_runV (As := As) (rest := rest) F (hM H.size) cw ⟨gPc_blind, va_recv hK hP hc he, fun U hU hW => ⟨rfl, by rw [hU], by rw [hU]; exact hP, va_K.moved hW.alike hK, (hD f).weaken (fun _ _ _ _ => trivial)⟩⟩ rfl hn hsize hst (lv_room hrm) hdg hf) hS (fun q _ h => hfr q h) hfr (fun r u t H1 locs1 ht hvm hw hB hz1 hk1 hS => ?_)
  rw [ht] at hB
  exact kk r u H1 locs1 hw hB hS
theorem g_cvv {S : Type} {post : S → Prop} {g : S → Nat → va_E} (F : CallFix p m c cc nL s args Ts own) (hM : gMv l y ws rm D tys N ad f (.ref b :: As) post g) (cw : CallW R s args own C index y bytes maxL ret ws rm 0 0 n) (hK : va_K D vwCl tys s) (hP : va_P D vwCl (FW N ad f) H) (hD : ∀ g, va_D A (FW N ad g)) (hS : va_S A H0 H locs) (hA : ∀ q : Nat, H0.size ≤ q → A q) (q0 : Nat) {ci : Nat} {fs : List Value} {qc : vw_C} (hc : vwCl[ci]? = some qc) (hC : C = qc.1) (he : (FW N ad f)[q0]? = some (b, .inr (ci, fs))) (hsize : ls.size = nL) (hdg : decode cc pc = .ok (.invokevirtual index, 3)) (hn : As.length = n) (hst : st0 = As.reverse ++ .ref b :: rest) (hrm : (rest.map fun v => v.category).sum ≤ 8) (hf : cells ≤ R.cells ∧ slots ≤ R.slots)
    (kk : ∀ (u : S) (H1 : Heap) (locs1 : List Loc), post u → va_P D vwCl (FW N ad (g u)) H1 → va_S A H0 H1 locs1 → W p l e R s m args below meth c H1 locs1 cells slots Q (F0 m (pc + 3) ls rest)) : W p l e R s m args below meth c H locs cells slots Q (F0 m pc ls st0) := by
  have hfr := g_free (f := f) hD hS hA
  subst hC
  refine va_callv (va_runV (As := As) (rest := rest) F (hM H.size) cw ⟨gPc_blind, va_recv hK hP hc he, fun U hU hW => ⟨rfl, by rw [hU], by rw [hU]; exact hP, va_K.moved hW.alike hK, (hD f).weaken (fun _ _ _ _ => trivial)⟩⟩ rfl hn hsize hst (lv_room hrm) hdg hf) hS (fun q _ h => hfr q h) hfr (fun u t H1 locs1 ht hvm hw hB hz1 hk1 hS => ?_)
  rw [ht] at hB
  exact kk u H1 locs1 hw hB hS
/-- a call of a static method, an int back -/
theorem g_csi {S : Type} {post : Int32 → S → Prop} {g : S → Nat → va_E} (F : CallFix p m c cc nL s args Ts own) (hM : gMi l y ws rm D tys N ad f As post g) (cw : CallB R s args own index y bytes maxL ret ws rm 0 0 n ∧ (Cond.static y).before args s = true) (hK : va_K D vwCl tys s) (hP : va_P D vwCl (FW N ad f) H) (hD : ∀ g, va_D A (FW N ad g)) (hS : va_S A H0 H locs) (hA : ∀ q : Nat, H0.size ≤ q → A q) (hsize : ls.size = nL) (hdg : decode cc pc = .ok (.invokestatic index, 3)) (hn : As.length = n) (hst : st0 = As.reverse ++ rest) (hrm : (rest.map fun v => v.category).sum ≤ 8) (hf : cells ≤ R.cells ∧ slots ≤ R.slots)
    (kk : ∀ (r : Int32) (u : S) (H1 : Heap) (locs1 : List Loc), post r u → va_P D vwCl (FW N ad (g u)) H1 → va_S A H0 H1 locs1 → W p l e R s m args below meth c H1 locs1 cells slots Q (F0 m (pc + 3) ls (.int r :: rest))) : W p l e R s m args below meth c H locs cells slots Q (F0 m pc ls st0) := by
  have hfr := g_free (f := f) hD hS hA
  refine va_calli (va_runS (As := As) (rest := rest) F (hM H.size) cw ⟨gPc_blind, fun U hU hW => ⟨rfl, by rw [hU], by rw [hU]; exact hP, va_K.moved hW.alike hK, (hD f).weaken (fun _ _ _ _ => trivial)⟩⟩ rfl hn hsize hst (lv_room hrm) hdg hf) hS (fun q _ h => hfr q h) hfr (fun r u t H1 locs1 ht hvm hw hB hz1 hk1 hS => ?_)
  rw [ht] at hB
  exact kk r u H1 locs1 hw hB hS
theorem g_iald {q0 t0 : Nat} {cA : ClassId} {n' : Nat} {f1 : Nat → Int32} {i v : Int32} (hx : p.tables.exec = Jvm.exec) (hb : c.code = cc) (hK : va_K D vwCl tys s) (hP : va_P D vwCl (FW N ad f) H) (ha : (FW N ad f)[q0]? = some (ad q0, .inl (cA, n', .inl f1))) (ht : tys[t0]? = some (cA, .int)) (j : Nat) (hi : i = nI j) (hj : j < n') (hn : n' < 2 ^ 31) (hv : f1 j = v) (hdg : decode cc pc = .ok (.iaload, 1))
    (kk : W p l e R s m args below meth c H locs cells slots Q (F0 m (pc + 1) ls (.int v :: rest))) : W p l e R s m args below meth c H locs cells slots Q (F0 m pc ls (.int i :: .ref (ad q0) :: rest)) := by
  subst hi; subst hv
  refine va_iald hx hb hK hP q0 t0 ha ht (vp_in_nI hj hn) hdg ?_
  rw [nI_clamp (Nat.lt_trans hj hn)]
  exact kk
theorem g_zald {q0 t0 : Nat} {cA : ClassId} {n' : Nat} {f1 : Nat → Int32} {i v : Int32} (hx : p.tables.exec = Jvm.exec) (hb : c.code = cc) (hK : va_K D vwCl tys s) (hP : va_P D vwCl (FW N ad f) H) (ha : (FW N ad f)[q0]? = some (ad q0, .inl (cA, n', .inl f1))) (ht : tys[t0]? = some (cA, .boolean)) (j : Nat) (hi : i = nI j) (hj : j < n') (hn : n' < 2 ^ 31) (hv : f1 j = v) (hdg : decode cc pc = .ok (.baload, 1))
    (kk : W p l e R s m args below meth c H locs cells slots Q (F0 m (pc + 1) ls (.int v :: rest))) : W p l e R s m args below meth c H locs cells slots Q (F0 m pc ls (.int i :: .ref (ad q0) :: rest)) := by
  subst hi; subst hv
  refine va_zald hx hb hK hP q0 t0 ha ht (vp_in_nI hj hn) hdg ?_
  rw [nI_clamp (Nat.lt_trans hj hn)]
  exact kk
theorem g_lald {q0 t0 : Nat} {cA : ClassId} {n' : Nat} {f1 : Nat → Int64} {i : Int32} {v : Int64} (hx : p.tables.exec = Jvm.exec) (hb : c.code = cc) (hK : va_K D vwCl tys s) (hP : va_P D vwCl (FW N ad f) H) (ha : (FW N ad f)[q0]? = some (ad q0, .inl (cA, n', .inr (.inl f1)))) (ht : tys[t0]? = some (cA, .long)) (j : Nat) (hi : i = nI j) (hj : j < n') (hn : n' < 2 ^ 31) (hv : f1 j = v) (hdg : decode cc pc = .ok (.laload, 1))
    (kk : W p l e R s m args below meth c H locs cells slots Q (F0 m (pc + 1) ls (.long v :: rest))) : W p l e R s m args below meth c H locs cells slots Q (F0 m pc ls (.int i :: .ref (ad q0) :: rest)) := by
  subst hi; subst hv
  refine va_lald hx hb hK hP q0 t0 ha ht (vp_in_nI hj hn) hdg ?_
  rw [nI_clamp (Nat.lt_trans hj hn)]
  exact kk
theorem g_aald {q0 t0 : Nat} {cA : ClassId} {C0 : String} {n' : Nat} {f1 : Nat → Option Nat} {i : Int32} {v : Nat} (hx : p.tables.exec = Jvm.exec) (hb : c.code = cc) (hK : va_K D vwCl tys s) (hP : va_P D vwCl (FW N ad f) H) (ha : (FW N ad f)[q0]? = some (ad q0, .inl (cA, n', .inr (.inr (.inr (.inr f1)))))) (ht : tys[t0]? = some (cA, .object C0)) (j : Nat) (hi : i = nI j) (hj : j < n') (hn : n' < 2 ^ 31) (hv : f1 j = some v) (hdg : decode cc pc = .ok (.aaload, 1))
    (kk : W p l e R s m args below meth c H locs cells slots Q (F0 m (pc + 1) ls (.ref v :: rest))) : W p l e R s m args below meth c H locs cells slots Q (F0 m pc ls (.int i :: .ref (ad q0) :: rest)) := by
  subst hi
  refine va_aldq hx hb hK hP q0 t0 ha ht (vp_in_nI hj hn) hdg ?_
  rw [nI_clamp (Nat.lt_trans hj hn), hv]
  exact kk
theorem g_iast {q0 t0 : Nat} {cA : ClassId} {n' : Nat} {f1 : Nat → Int32} {i x : Int32} (hx : p.tables.exec = Jvm.exec) (hb : c.code = cc) (hK : va_K D vwCl tys s) (hP : va_P D vwCl (FW N ad f) H) (hD : ∀ g, va_D A (FW N ad g)) (hS : va_S A H0 H locs) (ha : (FW N ad f)[q0]? = some (ad q0, .inl (cA, n', .inl f1))) (ht : tys[t0]? = some (cA, .int)) (j : Nat) (hi : i = nI j) (hj : j < n') (hn : n' < 2 ^ 31) (hdg : decode cc pc = .ok (.iastore, 1))
    (kk : ∀ (H1 : Heap) (locs1 : List Loc), va_P D vwCl ((FW N ad f).set q0 (ad q0, .inl (cA, n', .inl (upd f1 j x)))) H1 → va_S A H0 H1 locs1 → W p l e R s m args below meth c H1 locs1 cells slots Q (F0 m (pc + 1) ls rest)) : W p l e R s m args below meth c H locs cells slots Q (F0 m pc ls (.int x :: .int i :: .ref (ad q0) :: rest)) := by
  subst hi
  refine va_iast hx hb hK hP (hD f) hS q0 t0 ha ht (vp_in_nI hj hn) hdg (fun H1 locs1 hP _ hS => ?_)
  rw [nI_clamp (Nat.lt_trans hj hn)] at hP
  exact kk H1 locs1 hP hS
theorem g_zast {q0 t0 : Nat} {cA : ClassId} {n' : Nat} {f1 : Nat → Int32} {i x : Int32} (hx : p.tables.exec = Jvm.exec) (hb : c.code = cc) (hK : va_K D vwCl tys s) (hP : va_P D vwCl (FW N ad f) H) (hD : ∀ g, va_D A (FW N ad g)) (hS : va_S A H0 H locs) (ha : (FW N ad f)[q0]? = some (ad q0, .inl (cA, n', .inl f1))) (ht : tys[t0]? = some (cA, .boolean)) (j : Nat) (hi : i = nI j) (hj : j < n') (hn : n' < 2 ^ 31) (hz : zq x) (hdg : decode cc pc = .ok (.bastore, 1))
    (kk : ∀ (H1 : Heap) (locs1 : List Loc), va_P D vwCl ((FW N ad f).set q0 (ad q0, .inl (cA, n', .inl (upd f1 j x)))) H1 → va_S A H0 H1 locs1 → W p l e R s m args below meth c H1 locs1 cells slots Q (F0 m (pc + 1) ls rest)) : W p l e R s m args below meth c H locs cells slots Q (F0 m pc ls (.int x :: .int i :: .ref (ad q0) :: rest)) := by
  subst hi
  refine va_zast hx hb hK hP (hD f) hS q0 t0 ha ht (vp_in_nI hj hn) hdg (fun H1 locs1 hP _ hS => ?_)
  rw [nI_clamp (Nat.lt_trans hj hn), show vp_nar .boolean x = x by rcases hz with rfl | rfl <;> rfl] at hP
  exact kk H1 locs1 hP hS
theorem g_last {q0 t0 : Nat} {cA : ClassId} {n' : Nat} {f1 : Nat → Int64} {i : Int32} {x : Int64} (hx : p.tables.exec = Jvm.exec) (hb : c.code = cc) (hK : va_K D vwCl tys s) (hP : va_P D vwCl (FW N ad f) H) (hD : ∀ g, va_D A (FW N ad g)) (hS : va_S A H0 H locs) (ha : (FW N ad f)[q0]? = some (ad q0, .inl (cA, n', .inr (.inl f1)))) (ht : tys[t0]? = some (cA, .long)) (j : Nat) (hi : i = nI j) (hj : j < n') (hn : n' < 2 ^ 31) (hdg : decode cc pc = .ok (.lastore, 1))
    (kk : ∀ (H1 : Heap) (locs1 : List Loc), va_P D vwCl ((FW N ad f).set q0 (ad q0, .inl (cA, n', .inr (.inl (vp_updL f1 j x))))) H1 → va_S A H0 H1 locs1 → W p l e R s m args below meth c H1 locs1 cells slots Q (F0 m (pc + 1) ls rest)) : W p l e R s m args below meth c H locs cells slots Q (F0 m pc ls (.long x :: .int i :: .ref (ad q0) :: rest)) := by
  subst hi
  refine va_last hx hb hK hP (hD f) hS q0 t0 ha ht (vp_in_nI hj hn) hdg (fun H1 locs1 hP _ hS => ?_)
  rw [nI_clamp (Nat.lt_trans hj hn)] at hP
  exact kk H1 locs1 hP hS
theorem g_top {x y : Int32} (h : x = y) (k : W p l e R s m args below meth c H locs cells slots Q (F0 m pc ls (.int y :: rest))) : W p l e R s m args below meth c H locs cells slots Q (F0 m pc ls (.int x :: rest)) := by
  subst h; exact k
theorem g_topl {x y : Int64} (h : x = y) (k : W p l e R s m args below meth c H locs cells slots Q (F0 m pc ls (.long y :: rest))) : W p l e R s m args below meth c H locs cells slots Q (F0 m pc ls (.long x :: rest)) := by
  subst h; exact k
end GR
