/-! what the constructors make -/
theorem arr_cong {cA : ClassId} {N : Nat} {f g : Nat → Value} (h : ∀ j, j < N → f j = g j) : arrV cA N f = arrV cA N g := by
  have e : (fun j : Fin N => f j.val) = fun j : Fin N => g j.val := funext fun j => h j.val j.isLt
  unfold arrV
  rw [e]
theorem atq_cong {D : va_G} {cl : List vw_C} {a : Nat} {cA : ClassId} {n : Nat} {f g : Nat → Option Nat} {H : Heap} (h : ∀ j, j < n → f j = g j) (hP : va_at D cl (a, .inl (cA, n, .inr (.inr (.inr (.inr f))))) H) : va_at D cl (a, .inl (cA, n, .inr (.inr (.inr (.inr g))))) H := by
  have e : arrV cA n (fun j => va_rf (f j)) = arrV cA n (fun j => va_rf (g j)) := arr_cong (fun j hj => by rw [h j hj])
  show H[a]? = some (arrV cA n (fun j => va_rf (g j)))
  rw [← e]
  exact hP
theorem tyL_i {D : va_G} {cs : Nat → ClassId} {cA : ClassId} {U : State} (h : va_K D vwCl (tyL cs ++ [(cA, .int)]) U) : cA = cs 0 := by
  have a : U.vm.findClass ("[" ++ FieldType.int.toString) = some cA := (h.2 4 (cA, .int) rfl).2
  have b : U.vm.findClass ("[" ++ FieldType.int.toString) = some (cs 0) := (h.2 0 (cs 0, .int) rfl).2
  exact Option.some.inj (a.symm.trans b)
theorem tyL_l {D : va_G} {cs : Nat → ClassId} {cA : ClassId} {U : State} (h : va_K D vwCl (tyL cs ++ [(cA, .long)]) U) : cA = cs 2 := by
  have a : U.vm.findClass ("[" ++ FieldType.long.toString) = some cA := (h.2 4 (cA, .long) rfl).2
  have b : U.vm.findClass ("[" ++ FieldType.long.toString) = some (cs 2) := (h.2 2 (cs 2, .long) rfl).2
  exact Option.some.inj (a.symm.trans b)
theorem tyL_z {D : va_G} {cs : Nat → ClassId} {cA : ClassId} {U : State} (h : va_K D vwCl (tyL cs ++ [(cA, .boolean)]) U) : cA = cs 3 := by
  have a : U.vm.findClass ("[" ++ FieldType.boolean.toString) = some cA := (h.2 4 (cA, .boolean) rfl).2
  have b : U.vm.findClass ("[" ++ FieldType.boolean.toString) = some (cs 3) := (h.2 3 (cs 3, .boolean) rfl).2
  exact Option.some.inj (a.symm.trans b)
theorem tyL_q {D : va_G} {cs : Nat → ClassId} {cA : ClassId} {U : State} (h : va_K D vwCl (tyL cs ++ [(cA, .object RX0)]) U) : cA = cs 1 := by
  obtain ⟨-, -, -, -, -, a⟩ := (h.2 4 (cA, .object RX0) rfl).2
  obtain ⟨-, -, -, -, -, b⟩ := (h.2 1 (cs 1, .object RX0) rfl).2
  exact Option.some.inj (a.symm.trans b)
theorem FW_eq {L : va_W} {N : Nat} {ad : Nat → Nat} {f : Nat → va_E} (hlen : L.length = N) (h : ∀ i, i < N → L[i]? = some (ad i, f i)) : L = FW N ad f := by
  apply List.ext_getElem?
  intro i
  by_cases hi : i < N
  · rw [h i hi, FW_get hi rfl]
  · rw [List.getElem?_eq_none (by rw [hlen]; omega), List.getElem?_eq_none (by rw [FW_len]; omega)]
/-- the tables' words of private constructors and of the row of cores -/
def NX (U : State) : Prop := va_Nw (.methodLinkNest RX4 15 yX1_init RX4) U ∧ va_Nw (.methodLinkNest RX4 22 yX2_init RX4) U ∧ va_Nw (.methodLinkNest RX0 17 yX3_init RX4) U ∧ va_AO RX0 U
theorem NX_to {s U : State} (h : NX s) (hW : s.WarmedH U.vm) : NX U := ⟨h.1.warmM hW, h.2.1.warmM hW, h.2.2.1.warmM hW, va_AO.moved hW.alike h.2.2.2⟩
theorem NX_same {U V : State} (hvm : U.vm = V.vm) (h : NX U) : NX V := by
  have ha : U.vm.Alike V.vm := by rw [← hvm]; exact Vm.Alike.refl U.vm
  exact ⟨va_Nw.same rfl hvm h.1, va_Nw.same rfl hvm h.2.1, va_Nw.same rfl hvm h.2.2.1, va_AO.moved ha h.2.2.2⟩
abbrev iPc (D : va_G) (cs : Nat → ClassId) (sz : Nat) (av : List Value) (w0 : va_W) : Array Value → State → Prop := va_Pc av (fun U => U.heap.size = sz ∧ va_P D vwCl w0 U.heap ∧ va_K D vwCl (tyL cs) U ∧ va_D (fun _ => True) w0 ∧ NX U)
theorem iPc_blind {D : va_G} {cs : Nat → ClassId} {sz : Nat} {av : List Value} {w0 : va_W} : FrameBlind (iPc D cs sz av w0) := fun a U g mk q => by
  obtain ⟨q0, q1, qP, qK, qD, qN⟩ := q
  exact ⟨q0, q1, qP, va_K.moved (u := U) (U := U.calling g mk a) (Vm.Alike.refl U.vm) qK, qD, NX_same rfl qN⟩
def iMet {S : Type} (l : Launch) (y : MethodName) (ws : List Cond) (rm : Room) (D : va_G) (cs : Nat → ClassId) (av : List Value) (w0 : va_W) (w1 : S → va_W) (post : S → Prop) (mc ms : Nat) : Prop :=
  ∀ sz : Nat, Met l y ws rm (iPc D cs sz av w0) (va_Qv post (fun u t => va_P D vwCl (w1 u) t.heap ∧ va_D (va_A w0 sz) (w1 u)) (va_A w0 sz)) mc ms (va_A w0 sz)
theorem i_of {S : Type} {l : Launch} {y : MethodName} {ws ws0 : List Cond} {rm : Room} {D : va_G} {cs : Nat → ClassId} {av : List Value} {w0 : va_W} {w1 : S → va_W} {post : S → Prop} {mc ms : Nat} {cc : ByteArray} {maxL : Nat} (hy : plainName y.cls = true) (hy1 : y.name = "<init>") (hw : ws = Cond.code y cc maxL none :: ws0) (hlen : (lg_sl av).length ≤ maxL)
    (k : ∀ (p : Program) (e : Env) (s : State) (m : MethodId) (args : Array Value) (below : List Frame) (meth : Method) (c : Code) (A : Nat → Prop) (ls : Array Slot) (Q : State → Prop), p.tables.exec = Jvm.exec → c.code = cc → c.maxLocals = maxL → (∀ w ∈ ws, w.before args s = true) → s.vm.findClass y.cls = some m.cls → meth.name = "<init>" → va_K D vwCl (tyL cs) s → NX s → va_P D vwCl w0 s.heap → va_D A w0 → (∀ q : Nat, s.heap.size ≤ q → A q) → va_S A s.heap s.heap [] → lv_has ls maxL (lv_args 0 av) →
      (∀ (H : Heap) (locs : List Loc) (u : S) (pc : Nat) (ls : Array Slot), decode cc pc = .ok (.return_, 1) → va_P D vwCl (w1 u) H → va_D A (w1 u) → va_S A s.heap H locs → post u → W p l e rm s m args below meth c H locs mc ms Q (F0 m pc ls [])) →
      W p l e rm s m args below meth c s.heap [] 0 0 Q (F0 m 0 ls [])) : iMet l y ws rm D cs av w0 w1 post mc ms := by
  intro sz
  refine Met.ofW (cc := cc) (maxL := maxL) (ret := none) hy hw ?_
  intro p e s m args below meth c s₁ B hml hv
  obtain ⟨rfl, hsz, hP, hK, hD0, hN⟩ := hv
  have hts := atoms_spec (ws := ws) B.pre
  have hown : s.vm.findClass y.cls = some m.cls := findClass_of_methodNamed B.named
  have hin : meth.name = "<init>" := (name_of_methodNamed B.named B.method).1.trans hy1
  subst hsz
  have hD := hD0.self (sz := s.heap.size)
  have hA : ∀ q : Nat, s.heap.size ≤ q → va_A w0 s.heap.size q := fun q h => Or.inr h
  have hl := lv_entry av (n := maxL) hlen
  have hx := B.exec
  have hb := B.bytes
  have hr := B.returns
  have hlocks := B.notSynchronized
  rw [lg_entry_eq]
  refine k p e s m _ below meth c (va_A w0 s.heap.size) _ _ hx hb hml hts hown hin hK hN hP hD hA va_S.rf hl ?_
  intro H locs u pc ls hdg hP hD2 hS hu
  exact W.vret hx hb hr (fun t ht hW => ⟨⟨u, rfl, hu, by show va_P D vwCl (w1 u) t.heap; rw [ht]; exact hP, hD2⟩, hS.F ht⟩) hS.2.2 hdg hlocks
theorem i_pre {D : va_G} {cs : Nat → ClassId} {s : State} {H : Heap} {A : Nat → Prop} {av : List Value} {wc : va_W} (hPc : va_P D vwCl wc H) (hK : va_K D vwCl (tyL cs) s) (hDc : va_D A wc) (hN : NX s) : PreS s H (iPc D cs H.size av wc) av := ⟨iPc_blind, fun U hU hW => ⟨rfl, by rw [hU], by rw [hU]; exact hPc, va_K.moved hW.alike hK, hDc.weaken (fun _ _ _ _ => trivial), NX_to hN hW⟩⟩
section GI
variable {p : Program} {l : Launch} {e : Env} {R : Room} {s : State} {m : MethodId} {args : Array Value} {below : List Frame} {meth : Method} {c : Code} {H H0 : Heap} {locs : List Loc} {cells slots mc ms : Nat} {Q : State → Prop} {A : Nat → Prop} {D : va_G} {cs : Nat → ClassId} {cc : ByteArray} {pc : Nat} {ls : Array Slot} {rest st0 : List Value} {a : Array Value} {wc wr W0 : va_W}
theorem i_back {S : Type} {w1 : S → va_W} {post : S → Prop} (hr : va_Run p l e R s m args below meth c H locs cells slots mc ms (F0 m pc ls st0) rest (va_Qv post (fun u t => va_P D vwCl (w1 u) t.heap ∧ va_D (va_A wc H.size) (w1 u)) (va_A wc H.size) a) (va_A wc H.size)) (hP : va_P D vwCl W0 H) (hD : va_D A W0) (hS : va_S A H0 H locs) (hA : ∀ q : Nat, H0.size ≤ q → A q) (isC isR : List Nat) (hC : isC.map (fun i => W0[i]?) = wc.map some) (hR : isR.map (fun i => W0[i]?) = wr.map some) (hn : va_nd isR = true) (hdis : ∀ i ∈ isR, i ∉ isC)
    (kk : ∀ (u : S) (H1 : Heap) (locs1 : List Loc), post u → va_P D vwCl (wr ++ w1 u) H1 → va_D A (wr ++ w1 u) → va_S A H0 H1 locs1 → W p l e R s m args below meth c H1 locs1 (cells + mc) (slots + ms) Q (F0 m (pc + 3) ls rest)) : W p l e R s m args below meth c H locs cells slots Q (F0 m pc ls st0) := by
  have hF := va_free hD hS hA isC hC
  refine va_callv hr hS (fun q _ h => hF q h) hF (fun u t H1 locs1 ht hvm hw hB hz hk hS => ?_)
  obtain ⟨hP1, hD1⟩ := hB
  rw [ht] at hP1
  obtain ⟨hP, hD⟩ := va_join hP hD isC isR hC hR hn hdis hk hF hP1 hD1
  exact kk u H1 locs1 hw hP hD hS
/-- the same behind a world by an index, the object made last -/
theorem i_backF {S : Type} {w1 : S → va_W} {post : S → Prop} {N : Nat} {ad : Nat → Nat} {f : Nat → va_E} {q0 : Nat} {e0 : va_E} (hr : va_Run p l e R s m args below meth c H locs cells slots mc ms (F0 m pc ls st0) rest (va_Qv post (fun u t => va_P D vwCl (w1 u) t.heap ∧ va_D (va_A [(q0, e0)] H.size) (w1 u)) (va_A [(q0, e0)] H.size) a) (va_A [(q0, e0)] H.size)) (hP : va_P D vwCl (FW N ad f ++ [(q0, e0)]) H) (hD : va_D A (FW N ad f ++ [(q0, e0)])) (hS : va_S A H0 H locs) (hA : ∀ q : Nat, H0.size ≤ q → A q)
    (kk : ∀ (u : S) (H1 : Heap) (locs1 : List Loc), post u → va_P D vwCl (FW N ad f ++ w1 u) H1 → va_D A (FW N ad f ++ w1 u) → va_S A H0 H1 locs1 → W p l e R s m args below meth c H1 locs1 (cells + mc) (slots + ms) Q (F0 m (pc + 3) ls rest)) : W p l e R s m args below meth c H locs cells slots Q (F0 m pc ls st0) := by
  have gl : ∀ (k : Nat) (x : Nat × va_E), (FW N ad f)[k]? = some x → (FW N ad f ++ [(q0, e0)])[k]? = some x := fun k x hk => by
    rw [List.getElem?_append_left (by rw [FW_len]; exact (FW_inv hk).1)]; exact hk
  have gr : (FW N ad f ++ [(q0, e0)])[N]? = some (q0, e0) := by
    rw [List.getElem?_append_right (by rw [FW_len]; exact Nat.le_refl N), FW_len, Nat.sub_self]; rfl
  have hq : A q0 := hD.2 N _ gr
  have hne : ∀ k, k < N → ad k ≠ q0 := fun k hk e => by
    have := hD.1 k N (ad k, f k) (q0, e0) (gl k _ (FW_get hk rfl)) gr e
    omega
  have hPF : va_P D vwCl (FW N ad f) H := fun k x hk => hP k x (gl k x hk)
  have hDF : va_D A (FW N ad f) := ⟨fun i j x y hx hy e => hD.1 i j x y (gl i x hx) (gl j y hy) e, fun k x hk => hD.2 k x (gl k x hk)⟩
  have hF : ∀ q, va_A [(q0, e0)] H.size q → A q := fun q h => by
    rcases h with ⟨k, e, h⟩ | h
    · rcases k with _ | k
      · cases h; exact hq
      · simp at h
    · exact hA q (Nat.le_trans hS.1 h)
  have hnot : ∀ k, k < N → ¬ va_A [(q0, e0)] H.size (ad k) := fun k hk h => by
    rcases h with ⟨j, e, h⟩ | h
    · rcases j with _ | j
      · simp at h; exact hne k hk h.1.symm
      · simp at h
    · exact absurd h (Nat.not_le.mpr (hPF k _ (FW_get hk rfl)).lt)
  refine va_callv hr hS (fun q _ h => hF q h) hF (fun u t H1 locs1 ht hvm hw hB hz hk hS => ?_)
  obtain ⟨hP1, hD1⟩ := hB
  rw [ht] at hP1
  refine kk u H1 locs1 hw ((hPF.kept (fun k x hx => ?_)).app hP1) (va_D.app hDF (hD1.weaken (fun k x _ h => hF _ h)) (fun i j x y hx hy e => ?_)) hS
  · obtain ⟨hkN, rfl⟩ := FW_inv hx
    exact hk _ (hPF k _ hx).lt (hnot k hkN)
  · obtain ⟨hkN, rfl⟩ := FW_inv hx
    exact hnot i hkN (by show va_A [(q0, e0)] H.size (ad i); rw [show ad i = y.1 from e]; exact hD1.2 j y hy)
theorem g_newi {ws : va_W} (hx : p.tables.exec = Jvm.exec) (hb : c.code = cc) (harr : (Cond.arrayClass .int).before args s = true) (hK : va_K D vwCl (tyL cs) s) (hP : va_P D vwCl ws H) (hD : va_D A ws) (hS : va_S A H0 H locs) (hA : ∀ q : Nat, H0.size ≤ q → A q) {n : Int32} {N' : Nat} (hn : ¬ n < 0) (hN : n.toNatClampNeg = N') (hbytes : N' * componentBytes .int ≤ 536870912) (hcells : cells + 1 ≤ R.cells) (hslots : slots + N' ≤ R.slots) (hdg : decode cc pc = .ok (.newarray .int, 2))
    (kk : ∀ (q : Nat) (H1 : Heap), va_P D vwCl (ws ++ [(q, .inl (cs 0, N', .inl (fun _ => 0)))]) H1 → va_D A (ws ++ [(q, .inl (cs 0, N', .inl (fun _ => 0)))]) → va_S A H0 H1 locs → W p l e R s m args below meth c H1 locs (cells + 1) (slots + N') Q (F0 m (pc + 2) ls (.ref q :: rest))) : W p l e R s m args below meth c H locs cells slots Q (F0 m pc ls (.int n :: rest)) := by
  refine va_newa (atype := .int) hx hb harr (ty := .int) rfl hK hP hD hS hA (a0 := (N', .inl (fun _ => 0))) (fun _ => rfl) hn hN hbytes hcells hslots hdg (fun q cA H1 hK1 hP1 hD1 hS1 => ?_)
  obtain rfl := tyL_i hK1
  exact kk q H1 hP1 hD1 hS1
theorem g_newz {ws : va_W} (hx : p.tables.exec = Jvm.exec) (hb : c.code = cc) (harr : (Cond.arrayClass .boolean).before args s = true) (hK : va_K D vwCl (tyL cs) s) (hP : va_P D vwCl ws H) (hD : va_D A ws) (hS : va_S A H0 H locs) (hA : ∀ q : Nat, H0.size ≤ q → A q) {n : Int32} {N' : Nat} (hn : ¬ n < 0) (hN : n.toNatClampNeg = N') (hbytes : N' * componentBytes .boolean ≤ 536870912) (hcells : cells + 1 ≤ R.cells) (hslots : slots + N' ≤ R.slots) (hdg : decode cc pc = .ok (.newarray .boolean, 2))
    (kk : ∀ (q : Nat) (H1 : Heap), va_P D vwCl (ws ++ [(q, .inl (cs 3, N', .inl (fun _ => 0)))]) H1 → va_D A (ws ++ [(q, .inl (cs 3, N', .inl (fun _ => 0)))]) → va_S A H0 H1 locs → W p l e R s m args below meth c H1 locs (cells + 1) (slots + N') Q (F0 m (pc + 2) ls (.ref q :: rest))) : W p l e R s m args below meth c H locs cells slots Q (F0 m pc ls (.int n :: rest)) := by
  refine va_newa (atype := .boolean) hx hb harr (ty := .boolean) rfl hK hP hD hS hA (a0 := (N', .inl (fun _ => 0))) (fun _ => rfl) hn hN hbytes hcells hslots hdg (fun q cA H1 hK1 hP1 hD1 hS1 => ?_)
  obtain rfl := tyL_z hK1
  exact kk q H1 hP1 hD1 hS1
theorem g_newl {ws : va_W} (hx : p.tables.exec = Jvm.exec) (hb : c.code = cc) (harr : (Cond.arrayClass .long).before args s = true) (hK : va_K D vwCl (tyL cs) s) (hP : va_P D vwCl ws H) (hD : va_D A ws) (hS : va_S A H0 H locs) (hA : ∀ q : Nat, H0.size ≤ q → A q) {n : Int32} {N' : Nat} (hn : ¬ n < 0) (hN : n.toNatClampNeg = N') (hbytes : N' * componentBytes .long ≤ 536870912) (hcells : cells + 1 ≤ R.cells) (hslots : slots + N' ≤ R.slots) (hdg : decode cc pc = .ok (.newarray .long, 2))
    (kk : ∀ (q : Nat) (H1 : Heap), va_P D vwCl (ws ++ [(q, .inl (cs 2, N', .inr (.inl (fun _ => 0))))]) H1 → va_D A (ws ++ [(q, .inl (cs 2, N', .inr (.inl (fun _ => 0))))]) → va_S A H0 H1 locs → W p l e R s m args below meth c H1 locs (cells + 1) (slots + N') Q (F0 m (pc + 2) ls (.ref q :: rest))) : W p l e R s m args below meth c H locs cells slots Q (F0 m pc ls (.int n :: rest)) := by
  refine va_newa (atype := .long) hx hb harr (ty := .long) rfl hK hP hD hS hA (a0 := (N', .inr (.inl (fun _ => 0)))) (fun _ => rfl) hn hN hbytes hcells hslots hdg (fun q cA H1 hK1 hP1 hD1 hS1 => ?_)
  obtain rfl := tyL_l hK1
  exact kk q H1 hP1 hD1 hS1
/-! static helpers that touch no cell -/
def sMet (l : Launch) (y : MethodName) (ws : List Cond) (rm : Room) (av : List Value) (r0 : Int32) : Prop :=
  ∀ sz : Nat, Met l y ws rm (va_Pc av (fun U => U.heap.size = sz)) (va_Qi (fun (r : Int32) (_ : Unit) => r = r0) (fun _ _ => True) (fun q => sz ≤ q)) 0 0 (fun q => sz ≤ q)
theorem s_of {y : MethodName} {ws ws0 : List Cond} {rm : Room} {av : List Value} {r0 : Int32} {maxL : Nat} (hy : plainName y.cls = true) (hw : ws = Cond.code y cc maxL (some .int) :: ws0) (hlen : (lg_sl av).length ≤ maxL)
    (k : ∀ (p : Program) (e : Env) (s : State) (m : MethodId) (args : Array Value) (below : List Frame) (meth : Method) (c : Code) (ls : Array Slot) (Q : State → Prop), p.tables.exec = Jvm.exec → c.code = cc → c.maxLocals = maxL → (∀ w ∈ ws, w.before args s = true) → s.vm.findClass y.cls = some m.cls → lv_has ls maxL (lv_args 0 av) →
      (∀ (pc : Nat) (ls : Array Slot), decode cc pc = .ok (.ireturn, 1) → W p l e rm s m args below meth c s.heap [] 0 0 Q (F0 m pc ls [.int r0])) →
      W p l e rm s m args below meth c s.heap [] 0 0 Q (F0 m 0 ls [])) : sMet l y ws rm av r0 := by
  intro sz
  refine Met.ofW (cc := cc) (maxL := maxL) (ret := some .int) hy hw ?_
  intro p e s m args below meth c s₁ B hml hv
  obtain ⟨rfl, hsz⟩ := hv
  have hts := atoms_spec (ws := ws) B.pre
  have hown : s.vm.findClass y.cls = some m.cls := findClass_of_methodNamed B.named
  subst hsz
  have hl := lv_entry av (n := maxL) hlen
  have hx := B.exec
  have hb := B.bytes
  have hr := B.returns
  have hlocks := B.notSynchronized
  rw [lg_entry_eq]
  refine k p e s m _ below meth c _ _ hx hb hml hts hown hl ?_
  intro pc ls hdg
  exact W.iret (v := r0) hx hb hr (fun t ht hW => ⟨⟨r0, (), rfl, rfl, trivial⟩, by rw [ht]; exact Nat.le_refl _, fun q _ _ => by rw [ht]⟩) (fun q h => nomatch h) hdg hlocks
theorem s_call {own : String} {index maxL nL n : Nat} {y : MethodName} {bytes : ByteArray} {ws Ts : List Cond} {rm : Room} {As : List Value} {r0 : Int32} (F : CallFix p m c cc nL s args Ts own) (hM : sMet l y ws rm As r0) (cw : CallB R s args own index y bytes maxL (some .int) ws rm 0 0 n ∧ (Cond.static y).before args s = true) (hP : va_P D vwCl W0 H) (hS : va_S A H0 H locs) (hA : ∀ q : Nat, H0.size ≤ q → A q) (hsize : ls.size = nL) (hdg : decode cc pc = .ok (.invokestatic index, 3)) (hn : As.length = n) (hst : st0 = As.reverse ++ rest) (hrm : (rest.map fun v => v.category).sum ≤ 8) (hf : cells ≤ R.cells ∧ slots ≤ R.slots)
    (kk : ∀ (H1 : Heap) (locs1 : List Loc), va_P D vwCl W0 H1 → va_S A H0 H1 locs1 → W p l e R s m args below meth c H1 locs1 cells slots Q (F0 m (pc + 3) ls (.int r0 :: rest))) : W p l e R s m args below meth c H locs cells slots Q (F0 m pc ls st0) := by
  refine va_calli (va_runS (As := As) (rest := rest) F (hM H.size) cw ⟨fun a U g mk q => q, fun U hU hW => ⟨rfl, by show U.heap.size = H.size; rw [hU]⟩⟩ rfl hn hsize hst (lv_room hrm) hdg hf) hS (fun q h1 h2 => absurd h2 (Nat.not_le.mpr h1)) (fun q h => hA q (Nat.le_trans hS.1 h)) (fun r u t H1 locs1 ht hvm hw hB hz hk hS => ?_)
  obtain rfl : r = r0 := hw
  exact kk H1 locs1 (hP.kept (fun k x hx => hk _ (hP k x hx).lt (Nat.not_le.mpr (hP k x hx).lt))) hS
end GI
def clp (v lo hi : Int32) : Int32 := if v < lo then lo else if hi < v then hi else v
theorem clp_n {v lo hi : Int32} (h : lo ≤ hi) : (if lo < (if v < hi then v else hi) then (if v < hi then v else hi) else lo) = clp v lo hi := by
  unfold clp
  have e : ∀ a b : Int32, a.toInt = b.toInt → a = b := fun a b h => Int32.toInt_inj.mp h
  rw [Int32.le_iff_toInt_le] at h
  simp only [Int32.lt_iff_toInt_lt]
  by_cases a : v.toInt < hi.toInt
  · simp only [if_pos a]
    by_cases b : lo.toInt < v.toInt
    · rw [if_pos b, if_neg (by omega), if_neg (by omega)]
    · rw [if_neg b]
      by_cases c : v.toInt < lo.toInt
      · rw [if_pos c]
      · rw [if_neg c, if_neg (by omega)]
        exact e _ _ (by omega)
  · simp only [if_neg a]
    by_cases b : lo.toInt < hi.toInt
    · rw [if_pos b, if_neg (by omega)]
      by_cases c : hi.toInt < v.toInt
      · rw [if_pos c]
      · rw [if_neg c]
        exact e _ _ (by omega)
    · rw [if_neg b]
      by_cases c : v.toInt < lo.toInt
      · rw [if_pos c]
      · rw [if_neg c]
        by_cases d : hi.toInt < v.toInt
        · rw [if_pos d]
          exact e _ _ (by omega)
        · rw [if_neg d]
          exact e _ _ (by omega)
theorem clp_in {v : Int32} (lo hi : Nat) (h : lo ≤ hi) (hb : hi < 2 ^ 31) : ∃ n, lo ≤ n ∧ n ≤ hi ∧ clp v (nI lo) (nI hi) = nI n := by
  unfold clp
  by_cases a : v < nI lo
  · exact ⟨lo, Nat.le_refl lo, h, if_pos a⟩
  · rw [if_neg a]
    by_cases b : nI hi < v
    · exact ⟨hi, h, Nat.le_refl hi, if_pos b⟩
    · rw [if_neg b]
      rw [Int32.lt_iff_toInt_lt, nI_toInt (by omega)] at a
      rw [Int32.lt_iff_toInt_lt, nI_toInt hb] at b
      refine ⟨v.toInt.toNat, by omega, by omega, ?_⟩
      apply Int32.toInt_inj.mp
      rw [nI_toInt (by omega)]
      omega
/-- all rows 0, but sets and ways -/
def s0 (S Wy : Int32) : St := (fun f _ _ => if f = 27 then S else if f = 28 then Wy else 0, fun _ => 0)

theorem iwX3_init_X3 : ∀ w ∈ wsX30, w ∈ wsX3_init := fun w h => by unfold wsX3_init; simp only [List.mem_cons, List.mem_append, h, true_or, or_true]
theorem lkX3_init_o1 : Cond.methodLink RX3 3 objectInit ∈ wsX3_init := by decide +kernel
theorem lkX3_init_o2 : Cond.instanceMethod objectInit ∈ wsX3_init := by decide +kernel
theorem lkX3_init_o3 : Cond.code objectInit ⟨#[0xb1]⟩ 1 none ∈ wsX3_init := by decide +kernel
theorem lkX3_init_arrint : Cond.arrayClass .int ∈ wsX3_init := by decide +kernel
theorem lkX3_init_9 : Cond.fieldLink RX3 9 "CoreTransactions$Transaction" "keptRegisters" "[I" ∈ wsX3_init := by decide +kernel
theorem lkX3_init_15 : Cond.fieldLink RX3 15 "CoreTransactions$Transaction" "storedWords" "[I" ∈ wsX3_init := by decide +kernel
abbrev rmX3_init : Room := ({ frames := 1, cells := 2, slots := 72, locals := 12 } : Room)
set_option maxRecDepth 100000 in
set_option maxHeartbeats 8000000 in
theorem kX3_init (l : Launch) (D : va_G) (cs : Nat → ClassId) (h0 : Nat)  : iMet (S := Nat × Nat) l yX3_init wsX3_init rmX3_init D cs [.ref h0] [(h0, .inr (3, [.null, .null, .int 0, .int 0, .int 0, .int 0, .int 0, .int 0, .long 0]))] (fun u => [(h0, .inr (3, [.ref u.1, .ref u.2, .int 0, .int 0, .int 0, .int 0, .int 0, .int 0, .long 0])), (u.1, .inl (cs 0, 8, .inl (fun _ => 0))), (u.2, .inl (cs 0, 64, .inl (fun _ => 0)))]) (fun u => True) 2 72 := by
  refine i_of (cc := cX3_init) (maxL := 1) (by decide) rfl rfl (Nat.le_of_ble_eq_true rfl) ?_
  intro p e s m args below meth c A ls Q hx hb hml hts hown hin hK hN hP hD hA hS hl hret
  have hl : lv_has ls 1 [(0, .ref h0)] := hl
  refine lv_aload_n hx hb dX3_init_0 rfl (lv_at hl 0 rfl) ?_
  refine W.objInit hx hb hown (hts _ lkX3_init_o1) (hts _ lkX3_init_o2) (hts _ lkX3_init_o3) rfl (by rw [hml]; exact hl.1) rfl dX3_init_1 (Nat.le_of_ble_eq_true rfl) (Nat.le_of_ble_eq_true rfl) ?_
  refine W.eq (g2 := F0 m 4 ls []) rfl ?_
  refine lv_aload_n hx hb dX3_init_4 rfl (lv_at hl 0 rfl) ?_
  refine lv_bipush (v := 8) hx hb dX3_init_5 (by decide) ?_
  refine g_newi (N' := 8) hx hb (hts _ lkX3_init_arrint) hK hP hD hS hA (by decide) rfl (Nat.le_of_ble_eq_true rfl) (Nat.le_of_ble_eq_true rfl) (Nat.le_of_ble_eq_true rfl) dX3_init_7 (fun q1 H hP hD hS => ?_)
  have hP : va_P D vwCl [(h0, .inr (3, [.null, .null, .int 0, .int 0, .int 0, .int 0, .int 0, .int 0, .long 0])), (q1, .inl (cs 0, 8, .inl (fun _ => 0)))] H := hP
  have hD : va_D A [(h0, .inr (3, [.null, .null, .int 0, .int 0, .int 0, .int 0, .int 0, .int 0, .long 0])), (q1, .inl (cs 0, 8, .inl (fun _ => 0)))] := hD
  refine va_putF (D := D) (ci := 3) (v := .ref q1) (ty := (.array .int)) (C := RX3) (T := TX3) (N := 9) hx hb hts iwX3_init_X3 tyX3 tyX3_ok nmX3 hown hK hP hD hS 0 rfl rfl 0 (by decide) (hts _ lkX3_init_9) (fun _ h9 => h9) rfl hin rfl (by decide +kernel) rfl rfl (Nat.le_of_ble_eq_true rfl) dX3_init_9 (fun H locs hP hD hS => ?_)
  have hP : va_P D vwCl [(h0, .inr (3, [.ref q1, .null, .int 0, .int 0, .int 0, .int 0, .int 0, .int 0, .long 0])), (q1, .inl (cs 0, 8, .inl (fun _ => 0)))] H := hP
  have hD : va_D A [(h0, .inr (3, [.ref q1, .null, .int 0, .int 0, .int 0, .int 0, .int 0, .int 0, .long 0])), (q1, .inl (cs 0, 8, .inl (fun _ => 0)))] := hD
  refine lv_aload_n hx hb dX3_init_12 rfl (lv_at hl 0 rfl) ?_
  refine lv_bipush (v := 64) hx hb dX3_init_13 (by decide) ?_
  refine g_newi (N' := 64) hx hb (hts _ lkX3_init_arrint) hK hP hD hS hA (by decide) rfl (Nat.le_of_ble_eq_true rfl) (Nat.le_of_ble_eq_true rfl) (Nat.le_of_ble_eq_true rfl) dX3_init_15 (fun q2 H hP hD hS => ?_)
  have hP : va_P D vwCl [(h0, .inr (3, [.ref q1, .null, .int 0, .int 0, .int 0, .int 0, .int 0, .int 0, .long 0])), (q1, .inl (cs 0, 8, .inl (fun _ => 0))), (q2, .inl (cs 0, 64, .inl (fun _ => 0)))] H := hP
  have hD : va_D A [(h0, .inr (3, [.ref q1, .null, .int 0, .int 0, .int 0, .int 0, .int 0, .int 0, .long 0])), (q1, .inl (cs 0, 8, .inl (fun _ => 0))), (q2, .inl (cs 0, 64, .inl (fun _ => 0)))] := hD
  refine va_putF (D := D) (ci := 3) (v := .ref q2) (ty := (.array .int)) (C := RX3) (T := TX3) (N := 9) hx hb hts iwX3_init_X3 tyX3 tyX3_ok nmX3 hown hK hP hD hS 0 rfl rfl 1 (by decide) (hts _ lkX3_init_15) (fun _ h9 => h9) rfl hin rfl (by decide +kernel) rfl rfl (Nat.le_of_ble_eq_true rfl) dX3_init_17 (fun H locs hP hD hS => ?_)
  have hP : va_P D vwCl [(h0, .inr (3, [.ref q1, .ref q2, .int 0, .int 0, .int 0, .int 0, .int 0, .int 0, .long 0])), (q1, .inl (cs 0, 8, .inl (fun _ => 0))), (q2, .inl (cs 0, 64, .inl (fun _ => 0)))] H := hP
  have hD : va_D A [(h0, .inr (3, [.ref q1, .ref q2, .int 0, .int 0, .int 0, .int 0, .int 0, .int 0, .long 0])), (q1, .inl (cs 0, 8, .inl (fun _ => 0))), (q2, .inl (cs 0, 64, .inl (fun _ => 0)))] := hD
  exact hret _ _ (q1, q2) _ _ dX3_init_20 hP hD hS trivial

theorem iwX1_init_X1 : ∀ w ∈ wsX10, w ∈ wsX1_init := fun w h => by unfold wsX1_init; simp only [List.mem_cons, List.mem_append, h, true_or, or_true]
theorem lkX1_init_o1 : Cond.methodLink RX1 3 objectInit ∈ wsX1_init := by decide +kernel
theorem lkX1_init_o2 : Cond.instanceMethod objectInit ∈ wsX1_init := by decide +kernel
theorem lkX1_init_o3 : Cond.code objectInit ⟨#[0xb1]⟩ 1 none ∈ wsX1_init := by decide +kernel
theorem lkX1_init_arrint : Cond.arrayClass .int ∈ wsX1_init := by decide +kernel
theorem lkX1_init_9 : Cond.fieldLink RX1 9 "CoreTransactions$Program" "operations" "[I" ∈ wsX1_init := by decide +kernel
theorem lkX1_init_15 : Cond.fieldLink RX1 15 "CoreTransactions$Program" "a" "[I" ∈ wsX1_init := by decide +kernel
theorem lkX1_init_18 : Cond.fieldLink RX1 18 "CoreTransactions$Program" "b" "[I" ∈ wsX1_init := by decide +kernel
theorem lkX1_init_21 : Cond.fieldLink RX1 21 "CoreTransactions$Program" "c" "[I" ∈ wsX1_init := by decide +kernel
abbrev rmX1_init : Room := ({ frames := 1, cells := 4, slots := 320, locals := 12 } : Room)
set_option maxRecDepth 100000 in
set_option maxHeartbeats 8000000 in
theorem kX1_init (l : Launch) (D : va_G) (cs : Nat → ClassId) (h0 : Nat)  : iMet (S := Nat × Nat × Nat × Nat) l yX1_init wsX1_init rmX1_init D cs [.ref h0] [(h0, .inr (1, [.null, .null, .null, .null, .int 0]))] (fun u => [(h0, .inr (1, [.ref u.1, .ref u.2.1, .ref u.2.2.1, .ref u.2.2.2, .int 0])), (u.1, .inl (cs 0, 80, .inl (fun _ => 0))), (u.2.1, .inl (cs 0, 80, .inl (fun _ => 0))), (u.2.2.1, .inl (cs 0, 80, .inl (fun _ => 0))), (u.2.2.2, .inl (cs 0, 80, .inl (fun _ => 0)))]) (fun u => True) 4 320 := by
  refine i_of (cc := cX1_init) (maxL := 1) (by decide) rfl rfl (Nat.le_of_ble_eq_true rfl) ?_
  intro p e s m args below meth c A ls Q hx hb hml hts hown hin hK hN hP hD hA hS hl hret
  have hl : lv_has ls 1 [(0, .ref h0)] := hl
  refine lv_aload_n hx hb dX1_init_0 rfl (lv_at hl 0 rfl) ?_
  refine W.objInit hx hb hown (hts _ lkX1_init_o1) (hts _ lkX1_init_o2) (hts _ lkX1_init_o3) rfl (by rw [hml]; exact hl.1) rfl dX1_init_1 (Nat.le_of_ble_eq_true rfl) (Nat.le_of_ble_eq_true rfl) ?_
  refine W.eq (g2 := F0 m 4 ls []) rfl ?_
  refine lv_aload_n hx hb dX1_init_4 rfl (lv_at hl 0 rfl) ?_
  refine lv_bipush (v := 80) hx hb dX1_init_5 (by decide) ?_
  refine g_newi (N' := 80) hx hb (hts _ lkX1_init_arrint) hK hP hD hS hA (by decide) rfl (Nat.le_of_ble_eq_true rfl) (Nat.le_of_ble_eq_true rfl) (Nat.le_of_ble_eq_true rfl) dX1_init_7 (fun q1 H hP hD hS => ?_)
  have hP : va_P D vwCl [(h0, .inr (1, [.null, .null, .null, .null, .int 0])), (q1, .inl (cs 0, 80, .inl (fun _ => 0)))] H := hP
  have hD : va_D A [(h0, .inr (1, [.null, .null, .null, .null, .int 0])), (q1, .inl (cs 0, 80, .inl (fun _ => 0)))] := hD
  refine va_putF (D := D) (ci := 1) (v := .ref q1) (ty := (.array .int)) (C := RX1) (T := TX1) (N := 5) hx hb hts iwX1_init_X1 tyX1 tyX1_ok nmX1 hown hK hP hD hS 0 rfl rfl 0 (by decide) (hts _ lkX1_init_9) (fun _ h9 => h9) rfl hin rfl (by decide +kernel) rfl rfl (Nat.le_of_ble_eq_true rfl) dX1_init_9 (fun H locs hP hD hS => ?_)
  have hP : va_P D vwCl [(h0, .inr (1, [.ref q1, .null, .null, .null, .int 0])), (q1, .inl (cs 0, 80, .inl (fun _ => 0)))] H := hP
  have hD : va_D A [(h0, .inr (1, [.ref q1, .null, .null, .null, .int 0])), (q1, .inl (cs 0, 80, .inl (fun _ => 0)))] := hD
  refine lv_aload_n hx hb dX1_init_12 rfl (lv_at hl 0 rfl) ?_
  refine lv_bipush (v := 80) hx hb dX1_init_13 (by decide) ?_
  refine g_newi (N' := 80) hx hb (hts _ lkX1_init_arrint) hK hP hD hS hA (by decide) rfl (Nat.le_of_ble_eq_true rfl) (Nat.le_of_ble_eq_true rfl) (Nat.le_of_ble_eq_true rfl) dX1_init_15 (fun q2 H hP hD hS => ?_)
  have hP : va_P D vwCl [(h0, .inr (1, [.ref q1, .null, .null, .null, .int 0])), (q1, .inl (cs 0, 80, .inl (fun _ => 0))), (q2, .inl (cs 0, 80, .inl (fun _ => 0)))] H := hP
  have hD : va_D A [(h0, .inr (1, [.ref q1, .null, .null, .null, .int 0])), (q1, .inl (cs 0, 80, .inl (fun _ => 0))), (q2, .inl (cs 0, 80, .inl (fun _ => 0)))] := hD
  refine va_putF (D := D) (ci := 1) (v := .ref q2) (ty := (.array .int)) (C := RX1) (T := TX1) (N := 5) hx hb hts iwX1_init_X1 tyX1 tyX1_ok nmX1 hown hK hP hD hS 0 rfl rfl 1 (by decide) (hts _ lkX1_init_15) (fun _ h9 => h9) rfl hin rfl (by decide +kernel) rfl rfl (Nat.le_of_ble_eq_true rfl) dX1_init_17 (fun H locs hP hD hS => ?_)
  have hP : va_P D vwCl [(h0, .inr (1, [.ref q1, .ref q2, .null, .null, .int 0])), (q1, .inl (cs 0, 80, .inl (fun _ => 0))), (q2, .inl (cs 0, 80, .inl (fun _ => 0)))] H := hP
  have hD : va_D A [(h0, .inr (1, [.ref q1, .ref q2, .null, .null, .int 0])), (q1, .inl (cs 0, 80, .inl (fun _ => 0))), (q2, .inl (cs 0, 80, .inl (fun _ => 0)))] := hD
  refine lv_aload_n hx hb dX1_init_20 rfl (lv_at hl 0 rfl) ?_
  refine lv_bipush (v := 80) hx hb dX1_init_21 (by decide) ?_
  refine g_newi (N' := 80) hx hb (hts _ lkX1_init_arrint) hK hP hD hS hA (by decide) rfl (Nat.le_of_ble_eq_true rfl) (Nat.le_of_ble_eq_true rfl) (Nat.le_of_ble_eq_true rfl) dX1_init_23 (fun q3 H hP hD hS => ?_)
  have hP : va_P D vwCl [(h0, .inr (1, [.ref q1, .ref q2, .null, .null, .int 0])), (q1, .inl (cs 0, 80, .inl (fun _ => 0))), (q2, .inl (cs 0, 80, .inl (fun _ => 0))), (q3, .inl (cs 0, 80, .inl (fun _ => 0)))] H := hP
  have hD : va_D A [(h0, .inr (1, [.ref q1, .ref q2, .null, .null, .int 0])), (q1, .inl (cs 0, 80, .inl (fun _ => 0))), (q2, .inl (cs 0, 80, .inl (fun _ => 0))), (q3, .inl (cs 0, 80, .inl (fun _ => 0)))] := hD
  refine va_putF (D := D) (ci := 1) (v := .ref q3) (ty := (.array .int)) (C := RX1) (T := TX1) (N := 5) hx hb hts iwX1_init_X1 tyX1 tyX1_ok nmX1 hown hK hP hD hS 0 rfl rfl 2 (by decide) (hts _ lkX1_init_18) (fun _ h9 => h9) rfl hin rfl (by decide +kernel) rfl rfl (Nat.le_of_ble_eq_true rfl) dX1_init_25 (fun H locs hP hD hS => ?_)
  have hP : va_P D vwCl [(h0, .inr (1, [.ref q1, .ref q2, .ref q3, .null, .int 0])), (q1, .inl (cs 0, 80, .inl (fun _ => 0))), (q2, .inl (cs 0, 80, .inl (fun _ => 0))), (q3, .inl (cs 0, 80, .inl (fun _ => 0)))] H := hP
  have hD : va_D A [(h0, .inr (1, [.ref q1, .ref q2, .ref q3, .null, .int 0])), (q1, .inl (cs 0, 80, .inl (fun _ => 0))), (q2, .inl (cs 0, 80, .inl (fun _ => 0))), (q3, .inl (cs 0, 80, .inl (fun _ => 0)))] := hD
  refine lv_aload_n hx hb dX1_init_28 rfl (lv_at hl 0 rfl) ?_
  refine lv_bipush (v := 80) hx hb dX1_init_29 (by decide) ?_
  refine g_newi (N' := 80) hx hb (hts _ lkX1_init_arrint) hK hP hD hS hA (by decide) rfl (Nat.le_of_ble_eq_true rfl) (Nat.le_of_ble_eq_true rfl) (Nat.le_of_ble_eq_true rfl) dX1_init_31 (fun q4 H hP hD hS => ?_)
  have hP : va_P D vwCl [(h0, .inr (1, [.ref q1, .ref q2, .ref q3, .null, .int 0])), (q1, .inl (cs 0, 80, .inl (fun _ => 0))), (q2, .inl (cs 0, 80, .inl (fun _ => 0))), (q3, .inl (cs 0, 80, .inl (fun _ => 0))), (q4, .inl (cs 0, 80, .inl (fun _ => 0)))] H := hP
  have hD : va_D A [(h0, .inr (1, [.ref q1, .ref q2, .ref q3, .null, .int 0])), (q1, .inl (cs 0, 80, .inl (fun _ => 0))), (q2, .inl (cs 0, 80, .inl (fun _ => 0))), (q3, .inl (cs 0, 80, .inl (fun _ => 0))), (q4, .inl (cs 0, 80, .inl (fun _ => 0)))] := hD
  refine va_putF (D := D) (ci := 1) (v := .ref q4) (ty := (.array .int)) (C := RX1) (T := TX1) (N := 5) hx hb hts iwX1_init_X1 tyX1 tyX1_ok nmX1 hown hK hP hD hS 0 rfl rfl 3 (by decide) (hts _ lkX1_init_21) (fun _ h9 => h9) rfl hin rfl (by decide +kernel) rfl rfl (Nat.le_of_ble_eq_true rfl) dX1_init_33 (fun H locs hP hD hS => ?_)
  have hP : va_P D vwCl [(h0, .inr (1, [.ref q1, .ref q2, .ref q3, .ref q4, .int 0])), (q1, .inl (cs 0, 80, .inl (fun _ => 0))), (q2, .inl (cs 0, 80, .inl (fun _ => 0))), (q3, .inl (cs 0, 80, .inl (fun _ => 0))), (q4, .inl (cs 0, 80, .inl (fun _ => 0)))] H := hP
  have hD : va_D A [(h0, .inr (1, [.ref q1, .ref q2, .ref q3, .ref q4, .int 0])), (q1, .inl (cs 0, 80, .inl (fun _ => 0))), (q2, .inl (cs 0, 80, .inl (fun _ => 0))), (q3, .inl (cs 0, 80, .inl (fun _ => 0))), (q4, .inl (cs 0, 80, .inl (fun _ => 0)))] := hD
  exact hret _ _ (q1, q2, q3, q4) _ _ dX1_init_36 hP hD hS trivial

theorem iwX2_init_X2 : ∀ w ∈ wsX20, w ∈ wsX2_init := fun w h => by unfold wsX2_init; simp only [List.mem_cons, List.mem_append, h, true_or, or_true]
theorem lkX2_init_o1 : Cond.methodLink RX2 3 objectInit ∈ wsX2_init := by decide +kernel
theorem lkX2_init_o2 : Cond.instanceMethod objectInit ∈ wsX2_init := by decide +kernel
theorem lkX2_init_o3 : Cond.code objectInit ⟨#[0xb1]⟩ 1 none ∈ wsX2_init := by decide +kernel
theorem lkX2_init_arrint : Cond.arrayClass .int ∈ wsX2_init := by decide +kernel
theorem lkX2_init_9 : Cond.fieldLink RX2 9 "CoreTransactions$Records" "fields" "[I" ∈ wsX2_init := by decide +kernel
abbrev rmX2_init : Room := ({ frames := 1, cells := 1, slots := 400, locals := 12 } : Room)
set_option maxRecDepth 100000 in
set_option maxHeartbeats 8000000 in
theorem kX2_init (l : Launch) (D : va_G) (cs : Nat → ClassId) (h0 : Nat)  : iMet (S := Nat) l yX2_init wsX2_init rmX2_init D cs [.ref h0] [(h0, .inr (2, [.null, .int 0, .int 0]))] (fun u => [(h0, .inr (2, [.ref u, .int 0, .int 0])), (u, .inl (cs 0, 400, .inl (fun _ => 0)))]) (fun u => True) 1 400 := by
  refine i_of (cc := cX2_init) (maxL := 1) (by decide) rfl rfl (Nat.le_of_ble_eq_true rfl) ?_
  intro p e s m args below meth c A ls Q hx hb hml hts hown hin hK hN hP hD hA hS hl hret
  have hl : lv_has ls 1 [(0, .ref h0)] := hl
  refine lv_aload_n hx hb dX2_init_0 rfl (lv_at hl 0 rfl) ?_
  refine W.objInit hx hb hown (hts _ lkX2_init_o1) (hts _ lkX2_init_o2) (hts _ lkX2_init_o3) rfl (by rw [hml]; exact hl.1) rfl dX2_init_1 (Nat.le_of_ble_eq_true rfl) (Nat.le_of_ble_eq_true rfl) ?_
  refine W.eq (g2 := F0 m 4 ls []) rfl ?_
  refine lv_aload_n hx hb dX2_init_4 rfl (lv_at hl 0 rfl) ?_
  refine lv_sipush (v := 400) hx hb dX2_init_5 (by decide) ?_
  refine g_newi (N' := 400) hx hb (hts _ lkX2_init_arrint) hK hP hD hS hA (by decide) rfl (Nat.le_of_ble_eq_true rfl) (Nat.le_of_ble_eq_true rfl) (Nat.le_of_ble_eq_true rfl) dX2_init_8 (fun q1 H hP hD hS => ?_)
  have hP : va_P D vwCl [(h0, .inr (2, [.null, .int 0, .int 0])), (q1, .inl (cs 0, 400, .inl (fun _ => 0)))] H := hP
  have hD : va_D A [(h0, .inr (2, [.null, .int 0, .int 0])), (q1, .inl (cs 0, 400, .inl (fun _ => 0)))] := hD
  refine va_putF (D := D) (ci := 2) (v := .ref q1) (ty := (.array .int)) (C := RX2) (T := TX2) (N := 3) hx hb hts iwX2_init_X2 tyX2 tyX2_ok nmX2 hown hK hP hD hS 0 rfl rfl 0 (by decide) (hts _ lkX2_init_9) (fun _ h9 => h9) rfl hin rfl (by decide +kernel) rfl rfl (Nat.le_of_ble_eq_true rfl) dX2_init_10 (fun H locs hP hD hS => ?_)
  have hP : va_P D vwCl [(h0, .inr (2, [.ref q1, .int 0, .int 0])), (q1, .inl (cs 0, 400, .inl (fun _ => 0)))] H := hP
  have hD : va_D A [(h0, .inr (2, [.ref q1, .int 0, .int 0])), (q1, .inl (cs 0, 400, .inl (fun _ => 0)))] := hD
  exact hret _ _ q1 _ _ dX2_init_13 hP hD hS trivial

theorem iwX0_init_X0 : ∀ w ∈ wsX00, w ∈ wsX0_init := fun w h => by unfold wsX0_init; simp only [List.mem_cons, List.mem_append, h, true_or, or_true]
theorem iwX0_init_X3 : ∀ w ∈ wsX30, w ∈ wsX0_init := fun w h => by unfold wsX0_init; simp only [List.mem_cons, List.mem_append, h, true_or, or_true]
theorem lkX0_init_o1 : Cond.methodLink RX0 3 objectInit ∈ wsX0_init := by decide +kernel
theorem lkX0_init_o2 : Cond.instanceMethod objectInit ∈ wsX0_init := by decide +kernel
theorem lkX0_init_o3 : Cond.code objectInit ⟨#[0xb1]⟩ 1 none ∈ wsX0_init := by decide +kernel
theorem lkX0_init_arrint : Cond.arrayClass .int ∈ wsX0_init := by decide +kernel
theorem lkX0_init_9 : Cond.fieldLink RX0 9 "CoreTransactions$Core" "registers" "[I" ∈ wsX0_init := by decide +kernel
theorem lkX0_init_cX3 : Cond.classLink RX0 15 RX3 ∈ wsX0_init := by decide +kernel
theorem lkX0_init_nX3 : Cond.instantiable RX3 9 ∈ wsX0_init := by decide +kernel
theorem lkX0_init_zX3 : Cond.initialized RX3 ∈ wsX0_init := by decide +kernel
theorem lkX0_init_iX3 : Cond.instanceMethod yX3_init ∈ wsX0_init := by decide +kernel
theorem lkX0_init_18 : Cond.fieldLink RX0 18 "CoreTransactions$Core" "transaction" "LCoreTransactions$Transaction;" ∈ wsX0_init := by decide +kernel
theorem lkX0_init_22 : Cond.fieldLink RX0 22 "CoreTransactions$Core" "number" "I" ∈ wsX0_init := by decide +kernel
abbrev rmX0_init : Room := ({ frames := 2, cells := 4, slots := 89, locals := 32 } : Room)
set_option maxRecDepth 100000 in
set_option maxHeartbeats 8000000 in
theorem kX0_init (l : Launch) (D : va_G) (cs : Nat → ClassId) (h0 : Nat) (k0 : Int32) : iMet (S := Nat × Nat × Nat × Nat) l yX0_init wsX0_init rmX0_init D cs [.ref h0, .int k0] [(h0, .inr (0, [.int 0, .null, .null, .int 0, .int 0, .int 0, .int 0, .int 0]))] (fun u => [(h0, .inr (0, [.int k0, .ref u.1, .ref u.2.1, .int 0, .int 0, .int 0, .int 0, .int 0])), (u.1, .inl (cs 0, 8, .inl (fun _ => 0))), (u.2.1, .inr (3, [.ref u.2.2.1, .ref u.2.2.2, .int 0, .int 0, .int 0, .int 0, .int 0, .int 0, .long 0])), (u.2.2.1, .inl (cs 0, 8, .inl (fun _ => 0))), (u.2.2.2, .inl (cs 0, 64, .inl (fun _ => 0)))]) (fun u => True) 4 89 := by
  refine i_of (cc := cX0_init) (maxL := 2) (by decide) rfl rfl (Nat.le_of_ble_eq_true rfl) ?_
  intro p e s m args below meth c A ls Q hx hb hml hts hown hin hK hN hP hD hA hS hl hret
  have hl : lv_has ls 2 [(0, .ref h0), (1, .int k0)] := hl
  refine lv_aload_n hx hb dX0_init_0 rfl (lv_at hl 0 rfl) ?_
  refine W.objInit hx hb hown (hts _ lkX0_init_o1) (hts _ lkX0_init_o2) (hts _ lkX0_init_o3) rfl (by rw [hml]; exact hl.1) rfl dX0_init_1 (Nat.le_of_ble_eq_true rfl) (Nat.le_of_ble_eq_true rfl) ?_
  refine W.eq (g2 := F0 m 4 ls []) rfl ?_
  refine lv_aload_n hx hb dX0_init_4 rfl (lv_at hl 0 rfl) ?_
  refine lv_bipush (v := 8) hx hb dX0_init_5 (by decide) ?_
  refine g_newi (N' := 8) hx hb (hts _ lkX0_init_arrint) hK hP hD hS hA (by decide) rfl (Nat.le_of_ble_eq_true rfl) (Nat.le_of_ble_eq_true rfl) (Nat.le_of_ble_eq_true rfl) dX0_init_7 (fun q1 H hP hD hS => ?_)
  have hP : va_P D vwCl [(h0, .inr (0, [.int 0, .null, .null, .int 0, .int 0, .int 0, .int 0, .int 0])), (q1, .inl (cs 0, 8, .inl (fun _ => 0)))] H := hP
  have hD : va_D A [(h0, .inr (0, [.int 0, .null, .null, .int 0, .int 0, .int 0, .int 0, .int 0])), (q1, .inl (cs 0, 8, .inl (fun _ => 0)))] := hD
  refine va_putF (D := D) (ci := 0) (v := .ref q1) (ty := (.array .int)) (C := RX0) (T := TX0) (N := 8) hx hb hts iwX0_init_X0 tyX0 tyX0_ok nmX0 hown hK hP hD hS 0 rfl rfl 1 (by decide) (hts _ lkX0_init_9) (fun _ h9 => h9) rfl hin rfl (by decide +kernel) rfl rfl (Nat.le_of_ble_eq_true rfl) dX0_init_9 (fun H locs hP hD hS => ?_)
  have hP : va_P D vwCl [(h0, .inr (0, [.int 0, .ref q1, .null, .int 0, .int 0, .int 0, .int 0, .int 0])), (q1, .inl (cs 0, 8, .inl (fun _ => 0)))] H := hP
  have hD : va_D A [(h0, .inr (0, [.int 0, .ref q1, .null, .int 0, .int 0, .int 0, .int 0, .int 0])), (q1, .inl (cs 0, 8, .inl (fun _ => 0)))] := hD
  refine lv_aload_n hx hb dX0_init_12 rfl (lv_at hl 0 rfl) ?_
  refine va_new (D := D) (ci := 3) (fs := [.null, .null, .int 0, .int 0, .int 0, .int 0, .int 0, .int 0, .long 0]) (C := RX3) (T := TX3) (N := 9) hx hb hts iwX0_init_X3 tyX3 tyX3_ok hown (hts _ lkX0_init_cX3) (hts _ lkX0_init_nX3) (hts _ lkX0_init_zX3) hK hP hD hS hA rfl (by decide +kernel) (Nat.le_of_ble_eq_true rfl) (Nat.le_of_ble_eq_true rfl) dX0_init_13 (fun q2 H hP hD hS => ?_)
  have hP : va_P D vwCl [(h0, .inr (0, [.int 0, .ref q1, .null, .int 0, .int 0, .int 0, .int 0, .int 0])), (q1, .inl (cs 0, 8, .inl (fun _ => 0))), (q2, .inr (3, [.null, .null, .int 0, .int 0, .int 0, .int 0, .int 0, .int 0, .long 0]))] H := hP
  have hD : va_D A [(h0, .inr (0, [.int 0, .ref q1, .null, .int 0, .int 0, .int 0, .int 0, .int 0])), (q1, .inl (cs 0, 8, .inl (fun _ => 0))), (q2, .inr (3, [.null, .null, .int 0, .int 0, .int 0, .int 0, .int 0, .int 0, .long 0]))] := hD
  refine lv_dup hx hb dX0_init_16 rfl ?_
  refine i_back (wc := [(q2, .inr (3, [.null, .null, .int 0, .int 0, .int 0, .int 0, .int 0, .int 0, .long 0]))]) (wr := [(h0, .inr (0, [.int 0, .ref q1, .null, .int 0, .int 0, .int 0, .int 0, .int 0])), (q1, .inl (cs 0, 8, .inl (fun _ => 0)))]) (va_runIN (As := []) (rest := [.ref q2, .ref h0]) ⟨hx, hb, hml, hown, hts⟩ (kX3_init l D cs q2 H.size) ⟨va_cnB 0 hts gX0_init_X3_init_n17 rfl rfl rfl hN.2.2.1 (hts _ lkX0_init_zX3) (by decide +kernel) ⟨Nat.le_of_ble_eq_true rfl, Nat.le_of_ble_eq_true rfl⟩, rfl, (hts _ lkX0_init_iX3)⟩ (i_pre (hP.sub (ws' := [(q2, .inr (3, [.null, .null, .int 0, .int 0, .int 0, .int 0, .int 0, .int 0, .long 0]))]) [2] rfl) hK (hD.sub (ws' := [(q2, .inr (3, [.null, .null, .int 0, .int 0, .int 0, .int 0, .int 0, .int 0, .long 0]))]) [2] (by decide) rfl) hN) rfl rfl hl.1 rfl (lv_room (Nat.le_of_ble_eq_true rfl)) dX0_init_17 ⟨Nat.le_of_ble_eq_true rfl, Nat.le_of_ble_eq_true rfl⟩) hP hD hS hA [2] [0, 1] rfl rfl (by decide) (by decide) (fun uX3 H locs _ hP hD hS => ?_)
  obtain ⟨t1, t2⟩ := uX3
  have hP : va_P D vwCl [(h0, .inr (0, [.int 0, .ref q1, .null, .int 0, .int 0, .int 0, .int 0, .int 0])), (q1, .inl (cs 0, 8, .inl (fun _ => 0))), (q2, .inr (3, [.ref t1, .ref t2, .int 0, .int 0, .int 0, .int 0, .int 0, .int 0, .long 0])), (t1, .inl (cs 0, 8, .inl (fun _ => 0))), (t2, .inl (cs 0, 64, .inl (fun _ => 0)))] H := hP
  have hD : va_D A [(h0, .inr (0, [.int 0, .ref q1, .null, .int 0, .int 0, .int 0, .int 0, .int 0])), (q1, .inl (cs 0, 8, .inl (fun _ => 0))), (q2, .inr (3, [.ref t1, .ref t2, .int 0, .int 0, .int 0, .int 0, .int 0, .int 0, .long 0])), (t1, .inl (cs 0, 8, .inl (fun _ => 0))), (t2, .inl (cs 0, 64, .inl (fun _ => 0)))] := hD
  refine va_putF (D := D) (ci := 0) (v := .ref q2) (ty := (.object "CoreTransactions$Transaction")) (C := RX0) (T := TX0) (N := 8) hx hb hts iwX0_init_X0 tyX0 tyX0_ok nmX0 hown hK hP hD hS 0 rfl rfl 2 (by decide) (hts _ lkX0_init_18) (fun _ h9 => h9) rfl hin rfl (by decide +kernel) rfl rfl (Nat.le_of_ble_eq_true rfl) dX0_init_20 (fun H locs hP hD hS => ?_)
  have hP : va_P D vwCl [(h0, .inr (0, [.int 0, .ref q1, .ref q2, .int 0, .int 0, .int 0, .int 0, .int 0])), (q1, .inl (cs 0, 8, .inl (fun _ => 0))), (q2, .inr (3, [.ref t1, .ref t2, .int 0, .int 0, .int 0, .int 0, .int 0, .int 0, .long 0])), (t1, .inl (cs 0, 8, .inl (fun _ => 0))), (t2, .inl (cs 0, 64, .inl (fun _ => 0)))] H := hP
  have hD : va_D A [(h0, .inr (0, [.int 0, .ref q1, .ref q2, .int 0, .int 0, .int 0, .int 0, .int 0])), (q1, .inl (cs 0, 8, .inl (fun _ => 0))), (q2, .inr (3, [.ref t1, .ref t2, .int 0, .int 0, .int 0, .int 0, .int 0, .int 0, .long 0])), (t1, .inl (cs 0, 8, .inl (fun _ => 0))), (t2, .inl (cs 0, 64, .inl (fun _ => 0)))] := hD
  refine lv_aload_n hx hb dX0_init_23 rfl (lv_at hl 0 rfl) ?_
  refine lv_iload_n hx hb dX0_init_24 rfl (lv_at hl 1 rfl) ?_
  refine va_putF (D := D) (ci := 0) (v := .int k0) (ty := .int) (C := RX0) (T := TX0) (N := 8) hx hb hts iwX0_init_X0 tyX0 tyX0_ok nmX0 hown hK hP hD hS 0 rfl rfl 0 (by decide) (hts _ lkX0_init_22) (fun _ h9 => h9) rfl hin rfl (by decide +kernel) rfl rfl (Nat.le_of_ble_eq_true rfl) dX0_init_25 (fun H locs hP hD hS => ?_)
  have hP : va_P D vwCl [(h0, .inr (0, [.int k0, .ref q1, .ref q2, .int 0, .int 0, .int 0, .int 0, .int 0])), (q1, .inl (cs 0, 8, .inl (fun _ => 0))), (q2, .inr (3, [.ref t1, .ref t2, .int 0, .int 0, .int 0, .int 0, .int 0, .int 0, .long 0])), (t1, .inl (cs 0, 8, .inl (fun _ => 0))), (t2, .inl (cs 0, 64, .inl (fun _ => 0)))] H := hP
  have hD : va_D A [(h0, .inr (0, [.int k0, .ref q1, .ref q2, .int 0, .int 0, .int 0, .int 0, .int 0])), (q1, .inl (cs 0, 8, .inl (fun _ => 0))), (q2, .inr (3, [.ref t1, .ref t2, .int 0, .int 0, .int 0, .int 0, .int 0, .int 0, .long 0])), (t1, .inl (cs 0, 8, .inl (fun _ => 0))), (t2, .inl (cs 0, 64, .inl (fun _ => 0)))] := hD
  exact hret _ _ (q1, q2, t1, t2) _ _ dX0_init_28 hP hD hS trivial

theorem lkX4_nearest_m1 : Cond.methodLink RX4 135 Lib.Math.min.name ∈ wsX4_nearest := by decide +kernel
theorem lkX4_nearest_m2 : Cond.static Lib.Math.min.name ∈ wsX4_nearest := by decide +kernel
theorem lkX4_nearest_m3 : Cond.initialized "java/lang/Math" ∈ wsX4_nearest := by decide +kernel
theorem lkX4_nearest_m4 : Cond.code Lib.Math.min.name Lib.Math.min.code 2 (some .int) ∈ wsX4_nearest := by decide +kernel
theorem lkX4_nearest_m5 : Cond.methodLink RX4 140 Lib.Math.max.name ∈ wsX4_nearest := by decide +kernel
theorem lkX4_nearest_m6 : Cond.static Lib.Math.max.name ∈ wsX4_nearest := by decide +kernel
theorem lkX4_nearest_m7 : Cond.code Lib.Math.max.name Lib.Math.max.code 2 (some .int) ∈ wsX4_nearest := by decide +kernel
abbrev rmX4_nearest : Room := ({ frames := 1, cells := 0, slots := 0, locals := 21 } : Room)
theorem kX4_nearest (l : Launch) (v lo hi : Int32) (h : lo ≤ hi) : sMet l yX4_nearest wsX4_nearest rmX4_nearest [.int v, .int lo, .int hi] (clp v lo hi) := by
  refine s_of (cc := cX4_nearest) (maxL := 3) (by decide) rfl (Nat.le_of_ble_eq_true rfl) ?_
  intro p e s m args below meth c ls Q hx hb hml hts hown hl hret
  have hl : lv_has ls 3 [(0, .int v), (1, .int lo), (2, .int hi)] := hl
  refine lv_iload_n hx hb dX4_nearest_0 rfl (lv_at hl 1 rfl) ?_
  refine lv_iload_n hx hb dX4_nearest_1 rfl (lv_at hl 2 rfl) ?_
  refine lv_iload_n hx hb dX4_nearest_2 rfl (lv_at hl 0 rfl) ?_
  refine va_mmin hx hb (hml.trans hl.1.symm) hown (hts _ lkX4_nearest_m1) (hts _ lkX4_nearest_m2) (hts _ lkX4_nearest_m3) (hts _ lkX4_nearest_m4) (Nat.le_of_ble_eq_true rfl) (Nat.le_of_ble_eq_true rfl) (Nat.zero_le _) (Nat.zero_le _) dX4_nearest_3 ?_
  refine va_mmax hx hb (hml.trans hl.1.symm) hown (hts _ lkX4_nearest_m5) (hts _ lkX4_nearest_m6) (hts _ lkX4_nearest_m3) (hts _ lkX4_nearest_m7) (Nat.le_of_ble_eq_true rfl) (Nat.le_of_ble_eq_true rfl) (Nat.zero_le _) (Nat.zero_le _) dX4_nearest_6 ?_
  refine g_top (y := clp v lo hi) (clp_n h) ?_
  exact hret _ _ dX4_nearest_9
abbrev rmX5_nearS : Room := ({ frames := 0, cells := 0, slots := 0, locals := 0 } : Room)
theorem kX5_nearS (l : Launch) (v lo hi : Int32) : sMet l yX5_near wsX5_near rmX5_nearS [.int v, .int lo, .int hi] (clp v lo hi) := by
  refine s_of (cc := cX5_near) (maxL := 3) (by decide) rfl (Nat.le_of_ble_eq_true rfl) ?_
  intro p e s m args below meth c ls Q hx hb hml hts hown hl hret
  have hl : lv_has ls 3 [(0, .int v), (1, .int lo), (2, .int hi)] := hl
  refine lv_iload_n hx hb dX5_near_0 rfl (lv_at hl 0 rfl) ?_
  refine lv_iload_n hx hb dX5_near_1 rfl (lv_at hl 1 rfl) ?_
  refine lv_icmp_ge (tgt := 9) hx hb dX5_near_2 (by decide) (fun c2 => ?_) (fun c2 => ?_)
  · refine lv_iload_n hx hb dX5_near_9 rfl (lv_at hl 0 rfl) ?_
    refine lv_iload_n hx hb dX5_near_10 rfl (lv_at hl 2 rfl) ?_
    refine lv_icmp_le (tgt := 18) hx hb dX5_near_11 (by decide) (fun c11 => ?_) (fun c11 => ?_)
    · refine lv_iload_n hx hb dX5_near_18 rfl (lv_at hl 0 rfl) ?_
      refine g_top (y := clp v lo hi) (by unfold clp; rw [if_neg (Int32.not_lt.mpr c2), if_neg (Int32.not_lt.mpr c11)]) ?_
      exact hret _ _ dX5_near_19
    · refine lv_iload_n hx hb dX5_near_14 rfl (lv_at hl 2 rfl) ?_
      refine lv_goto (tgt := 19) hx hb dX5_near_15 (by decide) ?_
      refine g_top (y := clp v lo hi) (by unfold clp; rw [if_neg (Int32.not_lt.mpr c2), if_pos (Int32.not_le.mp c11)]) ?_
      exact hret _ _ dX5_near_19
  · refine lv_iload_n hx hb dX5_near_5 rfl (lv_at hl 1 rfl) ?_
    refine lv_goto (tgt := 19) hx hb dX5_near_6 (by decide) ?_
    refine g_top (y := clp v lo hi) (by unfold clp; rw [if_pos (Int32.not_le.mp c2)]) ?_
    exact hret _ _ dX5_near_19

theorem iwX5_init_X5 : ∀ w ∈ wsX50, w ∈ wsX5_init := fun w h => by unfold wsX5_init; simp only [List.mem_cons, List.mem_append, h, true_or, or_true]
theorem lkX5_init_o1 : Cond.methodLink RX5 1 objectInit ∈ wsX5_init := by decide +kernel
theorem lkX5_init_o2 : Cond.instanceMethod objectInit ∈ wsX5_init := by decide +kernel
theorem lkX5_init_o3 : Cond.code objectInit ⟨#[0xb1]⟩ 1 none ∈ wsX5_init := by decide +kernel
theorem lkX5_init_arrint : Cond.arrayClass .int ∈ wsX5_init := by decide +kernel
theorem lkX5_init_7 : Cond.fieldLink RX5 7 "CoreTransactionsModel" "memory" "[I" ∈ wsX5_init := by decide +kernel
theorem lkX5_init_13 : Cond.fieldLink RX5 13 "CoreTransactionsModel" "operations" "[I" ∈ wsX5_init := by decide +kernel
theorem lkX5_init_16 : Cond.fieldLink RX5 16 "CoreTransactionsModel" "as" "[I" ∈ wsX5_init := by decide +kernel
theorem lkX5_init_19 : Cond.fieldLink RX5 19 "CoreTransactionsModel" "bs" "[I" ∈ wsX5_init := by decide +kernel
theorem lkX5_init_22 : Cond.fieldLink RX5 22 "CoreTransactionsModel" "cs" "[I" ∈ wsX5_init := by decide +kernel
theorem lkX5_init_25 : Cond.fieldLink RX5 25 "CoreTransactionsModel" "places" "[I" ∈ wsX5_init := by decide +kernel
theorem lkX5_init_arrboolean : Cond.arrayClass .boolean ∈ wsX5_init := by decide +kernel
theorem lkX5_init_28 : Cond.fieldLink RX5 28 "CoreTransactionsModel" "ended" "[Z" ∈ wsX5_init := by decide +kernel
theorem lkX5_init_32 : Cond.fieldLink RX5 32 "CoreTransactionsModel" "retired" "[I" ∈ wsX5_init := by decide +kernel
theorem lkX5_init_35 : Cond.fieldLink RX5 35 "CoreTransactionsModel" "registers" "[I" ∈ wsX5_init := by decide +kernel
theorem lkX5_init_38 : Cond.fieldLink RX5 38 "CoreTransactionsModel" "depths" "[I" ∈ wsX5_init := by decide +kernel
theorem lkX5_init_41 : Cond.fieldLink RX5 41 "CoreTransactionsModel" "ages" "[I" ∈ wsX5_init := by decide +kernel
theorem lkX5_init_44 : Cond.fieldLink RX5 44 "CoreTransactionsModel" "begins" "[I" ∈ wsX5_init := by decide +kernel
theorem lkX5_init_47 : Cond.fieldLink RX5 47 "CoreTransactionsModel" "returns" "[I" ∈ wsX5_init := by decide +kernel
theorem lkX5_init_50 : Cond.fieldLink RX5 50 "CoreTransactionsModel" "keptRegisters" "[I" ∈ wsX5_init := by decide +kernel
theorem lkX5_init_53 : Cond.fieldLink RX5 53 "CoreTransactionsModel" "reads" "[I" ∈ wsX5_init := by decide +kernel
theorem lkX5_init_56 : Cond.fieldLink RX5 56 "CoreTransactionsModel" "writes" "[I" ∈ wsX5_init := by decide +kernel
theorem lkX5_init_arrlong : Cond.arrayClass .long ∈ wsX5_init := by decide +kernel
theorem lkX5_init_59 : Cond.fieldLink RX5 59 "CoreTransactionsModel" "stores" "[J" ∈ wsX5_init := by decide +kernel
theorem lkX5_init_63 : Cond.fieldLink RX5 63 "CoreTransactionsModel" "stored" "[I" ∈ wsX5_init := by decide +kernel
theorem lkX5_init_66 : Cond.fieldLink RX5 66 "CoreTransactionsModel" "committed" "[I" ∈ wsX5_init := by decide +kernel
theorem lkX5_init_69 : Cond.fieldLink RX5 69 "CoreTransactionsModel" "broken" "[I" ∈ wsX5_init := by decide +kernel
theorem lkX5_init_72 : Cond.fieldLink RX5 72 "CoreTransactionsModel" "recordCells" "[I" ∈ wsX5_init := by decide +kernel
theorem lkX5_init_79 : Cond.fieldLink RX5 79 "CoreTransactionsModel" "cores" "I" ∈ wsX5_init := by decide +kernel
theorem lkX5_init_83 : Cond.fieldLink RX5 83 "CoreTransactionsModel" "sets" "I" ∈ wsX5_init := by decide +kernel
theorem lkX5_init_86 : Cond.fieldLink RX5 86 "CoreTransactionsModel" "ways" "I" ∈ wsX5_init := by decide +kernel
abbrev rmX5_init : Room := ({ frames := 1, cells := 21, slots := 1152, locals := 22 } : Room)
set_option maxRecDepth 100000 in
set_option maxHeartbeats 8000000 in
theorem kX5_init (l : Launch) (D : va_G) (cs : Nat → ClassId) (h0 : Nat) (n : Nat) (x y z S : Int32) (hn : clp x 1 4 = nI n) (hS0 : S = (1 : Int32) <<< (clp y 0 2 &&& 31)) : iMet (S := Nat → Nat) l yX5_init wsX5_init rmX5_init D cs [.ref h0, .int x, .int y, .int z] [(h0, .inr (5, [.int 0, .int 0, .int 0, .int 0, .null, .int 0, .null, .null, .null, .null, .null, .null, .null, .null, .null, .null, .null, .null, .null, .null, .null, .null, .null, .null, .null, .int 0, .int 0, .null, .int 0]))] (fun u => FW 22 u (CR cs n u 0 0 (s0 S (clp z 1 4)))) (fun u => u 0 = h0) 21 1152 := by
  refine i_of (cc := cX5_init) (maxL := 4) (by decide) rfl rfl (Nat.le_of_ble_eq_true rfl) ?_
  intro p e s m args below meth c A ls Q hx hb hml hts hown hin hK hN hP hD hA hS hl hret
  have hl : lv_has ls 4 [(0, .ref h0), (1, .int x), (2, .int y), (3, .int z)] := hl
  refine lv_aload_n hx hb dX5_init_0 rfl (lv_at hl 0 rfl) ?_
  refine W.objInit hx hb hown (hts _ lkX5_init_o1) (hts _ lkX5_init_o2) (hts _ lkX5_init_o3) rfl (by rw [hml]; exact hl.1) rfl dX5_init_1 (Nat.le_of_ble_eq_true rfl) (Nat.le_of_ble_eq_true rfl) ?_
  refine W.eq (g2 := F0 m 4 ls []) rfl ?_
  refine lv_aload_n hx hb dX5_init_4 rfl (lv_at hl 0 rfl) ?_
  refine lv_bipush (v := 64) hx hb dX5_init_5 (by decide) ?_
  refine g_newi (N' := 64) hx hb (hts _ lkX5_init_arrint) hK hP hD hS hA (by decide) rfl (Nat.le_of_ble_eq_true rfl) (Nat.le_of_ble_eq_true rfl) (Nat.le_of_ble_eq_true rfl) dX5_init_7 (fun q1 H hP hD hS => ?_)
  have hP : va_P D vwCl [(h0, .inr (5, [.int 0, .int 0, .int 0, .int 0, .null, .int 0, .null, .null, .null, .null, .null, .null, .null, .null, .null, .null, .null, .null, .null, .null, .null, .null, .null, .null, .null, .int 0, .int 0, .null, .int 0])), (q1, .inl (cs 0, 64, .inl (fun _ => 0)))] H := hP
  have hD : va_D A [(h0, .inr (5, [.int 0, .int 0, .int 0, .int 0, .null, .int 0, .null, .null, .null, .null, .null, .null, .null, .null, .null, .null, .null, .null, .null, .null, .null, .null, .null, .null, .null, .int 0, .int 0, .null, .int 0])), (q1, .inl (cs 0, 64, .inl (fun _ => 0)))] := hD
  refine va_putF (D := D) (ci := 5) (v := .ref q1) (ty := (.array .int)) (C := RX5) (T := TX5) (N := 29) hx hb hts iwX5_init_X5 tyX5 tyX5_ok nmX5 hown hK hP hD hS 0 rfl rfl 4 (by decide) (hts _ lkX5_init_7) (fun _ h9 => h9) rfl hin rfl (by decide +kernel) rfl rfl (Nat.le_of_ble_eq_true rfl) dX5_init_9 (fun H locs hP hD hS => ?_)
  have hP : va_P D vwCl [(h0, .inr (5, [.int 0, .int 0, .int 0, .int 0, .ref q1, .int 0, .null, .null, .null, .null, .null, .null, .null, .null, .null, .null, .null, .null, .null, .null, .null, .null, .null, .null, .null, .int 0, .int 0, .null, .int 0])), (q1, .inl (cs 0, 64, .inl (fun _ => 0)))] H := hP
  have hD : va_D A [(h0, .inr (5, [.int 0, .int 0, .int 0, .int 0, .ref q1, .int 0, .null, .null, .null, .null, .null, .null, .null, .null, .null, .null, .null, .null, .null, .null, .null, .null, .null, .null, .null, .int 0, .int 0, .null, .int 0])), (q1, .inl (cs 0, 64, .inl (fun _ => 0)))] := hD
  refine lv_aload_n hx hb dX5_init_12 rfl (lv_at hl 0 rfl) ?_
  refine lv_bipush (v := 80) hx hb dX5_init_13 (by decide) ?_
  refine g_newi (N' := 80) hx hb (hts _ lkX5_init_arrint) hK hP hD hS hA (by decide) rfl (Nat.le_of_ble_eq_true rfl) (Nat.le_of_ble_eq_true rfl) (Nat.le_of_ble_eq_true rfl) dX5_init_15 (fun q2 H hP hD hS => ?_)
  have hP : va_P D vwCl [(h0, .inr (5, [.int 0, .int 0, .int 0, .int 0, .ref q1, .int 0, .null, .null, .null, .null, .null, .null, .null, .null, .null, .null, .null, .null, .null, .null, .null, .null, .null, .null, .null, .int 0, .int 0, .null, .int 0])), (q1, .inl (cs 0, 64, .inl (fun _ => 0))), (q2, .inl (cs 0, 80, .inl (fun _ => 0)))] H := hP
  have hD : va_D A [(h0, .inr (5, [.int 0, .int 0, .int 0, .int 0, .ref q1, .int 0, .null, .null, .null, .null, .null, .null, .null, .null, .null, .null, .null, .null, .null, .null, .null, .null, .null, .null, .null, .int 0, .int 0, .null, .int 0])), (q1, .inl (cs 0, 64, .inl (fun _ => 0))), (q2, .inl (cs 0, 80, .inl (fun _ => 0)))] := hD
  refine va_putF (D := D) (ci := 5) (v := .ref q2) (ty := (.array .int)) (C := RX5) (T := TX5) (N := 29) hx hb hts iwX5_init_X5 tyX5 tyX5_ok nmX5 hown hK hP hD hS 0 rfl rfl 6 (by decide) (hts _ lkX5_init_13) (fun _ h9 => h9) rfl hin rfl (by decide +kernel) rfl rfl (Nat.le_of_ble_eq_true rfl) dX5_init_17 (fun H locs hP hD hS => ?_)
  have hP : va_P D vwCl [(h0, .inr (5, [.int 0, .int 0, .int 0, .int 0, .ref q1, .int 0, .ref q2, .null, .null, .null, .null, .null, .null, .null, .null, .null, .null, .null, .null, .null, .null, .null, .null, .null, .null, .int 0, .int 0, .null, .int 0])), (q1, .inl (cs 0, 64, .inl (fun _ => 0))), (q2, .inl (cs 0, 80, .inl (fun _ => 0)))] H := hP
  have hD : va_D A [(h0, .inr (5, [.int 0, .int 0, .int 0, .int 0, .ref q1, .int 0, .ref q2, .null, .null, .null, .null, .null, .null, .null, .null, .null, .null, .null, .null, .null, .null, .null, .null, .null, .null, .int 0, .int 0, .null, .int 0])), (q1, .inl (cs 0, 64, .inl (fun _ => 0))), (q2, .inl (cs 0, 80, .inl (fun _ => 0)))] := hD
  refine lv_aload_n hx hb dX5_init_20 rfl (lv_at hl 0 rfl) ?_
  refine lv_bipush (v := 80) hx hb dX5_init_21 (by decide) ?_
  refine g_newi (N' := 80) hx hb (hts _ lkX5_init_arrint) hK hP hD hS hA (by decide) rfl (Nat.le_of_ble_eq_true rfl) (Nat.le_of_ble_eq_true rfl) (Nat.le_of_ble_eq_true rfl) dX5_init_23 (fun q3 H hP hD hS => ?_)
  have hP : va_P D vwCl [(h0, .inr (5, [.int 0, .int 0, .int 0, .int 0, .ref q1, .int 0, .ref q2, .null, .null, .null, .null, .null, .null, .null, .null, .null, .null, .null, .null, .null, .null, .null, .null, .null, .null, .int 0, .int 0, .null, .int 0])), (q1, .inl (cs 0, 64, .inl (fun _ => 0))), (q2, .inl (cs 0, 80, .inl (fun _ => 0))), (q3, .inl (cs 0, 80, .inl (fun _ => 0)))] H := hP
  have hD : va_D A [(h0, .inr (5, [.int 0, .int 0, .int 0, .int 0, .ref q1, .int 0, .ref q2, .null, .null, .null, .null, .null, .null, .null, .null, .null, .null, .null, .null, .null, .null, .null, .null, .null, .null, .int 0, .int 0, .null, .int 0])), (q1, .inl (cs 0, 64, .inl (fun _ => 0))), (q2, .inl (cs 0, 80, .inl (fun _ => 0))), (q3, .inl (cs 0, 80, .inl (fun _ => 0)))] := hD
  refine va_putF (D := D) (ci := 5) (v := .ref q3) (ty := (.array .int)) (C := RX5) (T := TX5) (N := 29) hx hb hts iwX5_init_X5 tyX5 tyX5_ok nmX5 hown hK hP hD hS 0 rfl rfl 7 (by decide) (hts _ lkX5_init_16) (fun _ h9 => h9) rfl hin rfl (by decide +kernel) rfl rfl (Nat.le_of_ble_eq_true rfl) dX5_init_25 (fun H locs hP hD hS => ?_)
  have hP : va_P D vwCl [(h0, .inr (5, [.int 0, .int 0, .int 0, .int 0, .ref q1, .int 0, .ref q2, .ref q3, .null, .null, .null, .null, .null, .null, .null, .null, .null, .null, .null, .null, .null, .null, .null, .null, .null, .int 0, .int 0, .null, .int 0])), (q1, .inl (cs 0, 64, .inl (fun _ => 0))), (q2, .inl (cs 0, 80, .inl (fun _ => 0))), (q3, .inl (cs 0, 80, .inl (fun _ => 0)))] H := hP
  have hD : va_D A [(h0, .inr (5, [.int 0, .int 0, .int 0, .int 0, .ref q1, .int 0, .ref q2, .ref q3, .null, .null, .null, .null, .null, .null, .null, .null, .null, .null, .null, .null, .null, .null, .null, .null, .null, .int 0, .int 0, .null, .int 0])), (q1, .inl (cs 0, 64, .inl (fun _ => 0))), (q2, .inl (cs 0, 80, .inl (fun _ => 0))), (q3, .inl (cs 0, 80, .inl (fun _ => 0)))] := hD
  refine lv_aload_n hx hb dX5_init_28 rfl (lv_at hl 0 rfl) ?_
  refine lv_bipush (v := 80) hx hb dX5_init_29 (by decide) ?_
  refine g_newi (N' := 80) hx hb (hts _ lkX5_init_arrint) hK hP hD hS hA (by decide) rfl (Nat.le_of_ble_eq_true rfl) (Nat.le_of_ble_eq_true rfl) (Nat.le_of_ble_eq_true rfl) dX5_init_31 (fun q4 H hP hD hS => ?_)
  have hP : va_P D vwCl [(h0, .inr (5, [.int 0, .int 0, .int 0, .int 0, .ref q1, .int 0, .ref q2, .ref q3, .null, .null, .null, .null, .null, .null, .null, .null, .null, .null, .null, .null, .null, .null, .null, .null, .null, .int 0, .int 0, .null, .int 0])), (q1, .inl (cs 0, 64, .inl (fun _ => 0))), (q2, .inl (cs 0, 80, .inl (fun _ => 0))), (q3, .inl (cs 0, 80, .inl (fun _ => 0))), (q4, .inl (cs 0, 80, .inl (fun _ => 0)))] H := hP
  have hD : va_D A [(h0, .inr (5, [.int 0, .int 0, .int 0, .int 0, .ref q1, .int 0, .ref q2, .ref q3, .null, .null, .null, .null, .null, .null, .null, .null, .null, .null, .null, .null, .null, .null, .null, .null, .null, .int 0, .int 0, .null, .int 0])), (q1, .inl (cs 0, 64, .inl (fun _ => 0))), (q2, .inl (cs 0, 80, .inl (fun _ => 0))), (q3, .inl (cs 0, 80, .inl (fun _ => 0))), (q4, .inl (cs 0, 80, .inl (fun _ => 0)))] := hD
  refine va_putF (D := D) (ci := 5) (v := .ref q4) (ty := (.array .int)) (C := RX5) (T := TX5) (N := 29) hx hb hts iwX5_init_X5 tyX5 tyX5_ok nmX5 hown hK hP hD hS 0 rfl rfl 8 (by decide) (hts _ lkX5_init_19) (fun _ h9 => h9) rfl hin rfl (by decide +kernel) rfl rfl (Nat.le_of_ble_eq_true rfl) dX5_init_33 (fun H locs hP hD hS => ?_)
  have hP : va_P D vwCl [(h0, .inr (5, [.int 0, .int 0, .int 0, .int 0, .ref q1, .int 0, .ref q2, .ref q3, .ref q4, .null, .null, .null, .null, .null, .null, .null, .null, .null, .null, .null, .null, .null, .null, .null, .null, .int 0, .int 0, .null, .int 0])), (q1, .inl (cs 0, 64, .inl (fun _ => 0))), (q2, .inl (cs 0, 80, .inl (fun _ => 0))), (q3, .inl (cs 0, 80, .inl (fun _ => 0))), (q4, .inl (cs 0, 80, .inl (fun _ => 0)))] H := hP
  have hD : va_D A [(h0, .inr (5, [.int 0, .int 0, .int 0, .int 0, .ref q1, .int 0, .ref q2, .ref q3, .ref q4, .null, .null, .null, .null, .null, .null, .null, .null, .null, .null, .null, .null, .null, .null, .null, .null, .int 0, .int 0, .null, .int 0])), (q1, .inl (cs 0, 64, .inl (fun _ => 0))), (q2, .inl (cs 0, 80, .inl (fun _ => 0))), (q3, .inl (cs 0, 80, .inl (fun _ => 0))), (q4, .inl (cs 0, 80, .inl (fun _ => 0)))] := hD
  refine lv_aload_n hx hb dX5_init_36 rfl (lv_at hl 0 rfl) ?_
  refine lv_bipush (v := 80) hx hb dX5_init_37 (by decide) ?_
  refine g_newi (N' := 80) hx hb (hts _ lkX5_init_arrint) hK hP hD hS hA (by decide) rfl (Nat.le_of_ble_eq_true rfl) (Nat.le_of_ble_eq_true rfl) (Nat.le_of_ble_eq_true rfl) dX5_init_39 (fun q5 H hP hD hS => ?_)
  have hP : va_P D vwCl [(h0, .inr (5, [.int 0, .int 0, .int 0, .int 0, .ref q1, .int 0, .ref q2, .ref q3, .ref q4, .null, .null, .null, .null, .null, .null, .null, .null, .null, .null, .null, .null, .null, .null, .null, .null, .int 0, .int 0, .null, .int 0])), (q1, .inl (cs 0, 64, .inl (fun _ => 0))), (q2, .inl (cs 0, 80, .inl (fun _ => 0))), (q3, .inl (cs 0, 80, .inl (fun _ => 0))), (q4, .inl (cs 0, 80, .inl (fun _ => 0))), (q5, .inl (cs 0, 80, .inl (fun _ => 0)))] H := hP
  have hD : va_D A [(h0, .inr (5, [.int 0, .int 0, .int 0, .int 0, .ref q1, .int 0, .ref q2, .ref q3, .ref q4, .null, .null, .null, .null, .null, .null, .null, .null, .null, .null, .null, .null, .null, .null, .null, .null, .int 0, .int 0, .null, .int 0])), (q1, .inl (cs 0, 64, .inl (fun _ => 0))), (q2, .inl (cs 0, 80, .inl (fun _ => 0))), (q3, .inl (cs 0, 80, .inl (fun _ => 0))), (q4, .inl (cs 0, 80, .inl (fun _ => 0))), (q5, .inl (cs 0, 80, .inl (fun _ => 0)))] := hD
  refine va_putF (D := D) (ci := 5) (v := .ref q5) (ty := (.array .int)) (C := RX5) (T := TX5) (N := 29) hx hb hts iwX5_init_X5 tyX5 tyX5_ok nmX5 hown hK hP hD hS 0 rfl rfl 9 (by decide) (hts _ lkX5_init_22) (fun _ h9 => h9) rfl hin rfl (by decide +kernel) rfl rfl (Nat.le_of_ble_eq_true rfl) dX5_init_41 (fun H locs hP hD hS => ?_)
  have hP : va_P D vwCl [(h0, .inr (5, [.int 0, .int 0, .int 0, .int 0, .ref q1, .int 0, .ref q2, .ref q3, .ref q4, .ref q5, .null, .null, .null, .null, .null, .null, .null, .null, .null, .null, .null, .null, .null, .null, .null, .int 0, .int 0, .null, .int 0])), (q1, .inl (cs 0, 64, .inl (fun _ => 0))), (q2, .inl (cs 0, 80, .inl (fun _ => 0))), (q3, .inl (cs 0, 80, .inl (fun _ => 0))), (q4, .inl (cs 0, 80, .inl (fun _ => 0))), (q5, .inl (cs 0, 80, .inl (fun _ => 0)))] H := hP
  have hD : va_D A [(h0, .inr (5, [.int 0, .int 0, .int 0, .int 0, .ref q1, .int 0, .ref q2, .ref q3, .ref q4, .ref q5, .null, .null, .null, .null, .null, .null, .null, .null, .null, .null, .null, .null, .null, .null, .null, .int 0, .int 0, .null, .int 0])), (q1, .inl (cs 0, 64, .inl (fun _ => 0))), (q2, .inl (cs 0, 80, .inl (fun _ => 0))), (q3, .inl (cs 0, 80, .inl (fun _ => 0))), (q4, .inl (cs 0, 80, .inl (fun _ => 0))), (q5, .inl (cs 0, 80, .inl (fun _ => 0)))] := hD
  refine lv_aload_n hx hb dX5_init_44 rfl (lv_at hl 0 rfl) ?_
  refine lv_iconst (v := 4) hx hb dX5_init_45 (by decide) ?_
  refine g_newi (N' := 4) hx hb (hts _ lkX5_init_arrint) hK hP hD hS hA (by decide) rfl (Nat.le_of_ble_eq_true rfl) (Nat.le_of_ble_eq_true rfl) (Nat.le_of_ble_eq_true rfl) dX5_init_46 (fun q6 H hP hD hS => ?_)
  have hP : va_P D vwCl [(h0, .inr (5, [.int 0, .int 0, .int 0, .int 0, .ref q1, .int 0, .ref q2, .ref q3, .ref q4, .ref q5, .null, .null, .null, .null, .null, .null, .null, .null, .null, .null, .null, .null, .null, .null, .null, .int 0, .int 0, .null, .int 0])), (q1, .inl (cs 0, 64, .inl (fun _ => 0))), (q2, .inl (cs 0, 80, .inl (fun _ => 0))), (q3, .inl (cs 0, 80, .inl (fun _ => 0))), (q4, .inl (cs 0, 80, .inl (fun _ => 0))), (q5, .inl (cs 0, 80, .inl (fun _ => 0))), (q6, .inl (cs 0, 4, .inl (fun _ => 0)))] H := hP
  have hD : va_D A [(h0, .inr (5, [.int 0, .int 0, .int 0, .int 0, .ref q1, .int 0, .ref q2, .ref q3, .ref q4, .ref q5, .null, .null, .null, .null, .null, .null, .null, .null, .null, .null, .null, .null, .null, .null, .null, .int 0, .int 0, .null, .int 0])), (q1, .inl (cs 0, 64, .inl (fun _ => 0))), (q2, .inl (cs 0, 80, .inl (fun _ => 0))), (q3, .inl (cs 0, 80, .inl (fun _ => 0))), (q4, .inl (cs 0, 80, .inl (fun _ => 0))), (q5, .inl (cs 0, 80, .inl (fun _ => 0))), (q6, .inl (cs 0, 4, .inl (fun _ => 0)))] := hD
  refine va_putF (D := D) (ci := 5) (v := .ref q6) (ty := (.array .int)) (C := RX5) (T := TX5) (N := 29) hx hb hts iwX5_init_X5 tyX5 tyX5_ok nmX5 hown hK hP hD hS 0 rfl rfl 10 (by decide) (hts _ lkX5_init_25) (fun _ h9 => h9) rfl hin rfl (by decide +kernel) rfl rfl (Nat.le_of_ble_eq_true rfl) dX5_init_48 (fun H locs hP hD hS => ?_)
  have hP : va_P D vwCl [(h0, .inr (5, [.int 0, .int 0, .int 0, .int 0, .ref q1, .int 0, .ref q2, .ref q3, .ref q4, .ref q5, .ref q6, .null, .null, .null, .null, .null, .null, .null, .null, .null, .null, .null, .null, .null, .null, .int 0, .int 0, .null, .int 0])), (q1, .inl (cs 0, 64, .inl (fun _ => 0))), (q2, .inl (cs 0, 80, .inl (fun _ => 0))), (q3, .inl (cs 0, 80, .inl (fun _ => 0))), (q4, .inl (cs 0, 80, .inl (fun _ => 0))), (q5, .inl (cs 0, 80, .inl (fun _ => 0))), (q6, .inl (cs 0, 4, .inl (fun _ => 0)))] H := hP
  have hD : va_D A [(h0, .inr (5, [.int 0, .int 0, .int 0, .int 0, .ref q1, .int 0, .ref q2, .ref q3, .ref q4, .ref q5, .ref q6, .null, .null, .null, .null, .null, .null, .null, .null, .null, .null, .null, .null, .null, .null, .int 0, .int 0, .null, .int 0])), (q1, .inl (cs 0, 64, .inl (fun _ => 0))), (q2, .inl (cs 0, 80, .inl (fun _ => 0))), (q3, .inl (cs 0, 80, .inl (fun _ => 0))), (q4, .inl (cs 0, 80, .inl (fun _ => 0))), (q5, .inl (cs 0, 80, .inl (fun _ => 0))), (q6, .inl (cs 0, 4, .inl (fun _ => 0)))] := hD
  refine lv_aload_n hx hb dX5_init_51 rfl (lv_at hl 0 rfl) ?_
  refine lv_iconst (v := 4) hx hb dX5_init_52 (by decide) ?_
  refine g_newz (N' := 4) hx hb (hts _ lkX5_init_arrboolean) hK hP hD hS hA (by decide) rfl (Nat.le_of_ble_eq_true rfl) (Nat.le_of_ble_eq_true rfl) (Nat.le_of_ble_eq_true rfl) dX5_init_53 (fun q7 H hP hD hS => ?_)
  have hP : va_P D vwCl [(h0, .inr (5, [.int 0, .int 0, .int 0, .int 0, .ref q1, .int 0, .ref q2, .ref q3, .ref q4, .ref q5, .ref q6, .null, .null, .null, .null, .null, .null, .null, .null, .null, .null, .null, .null, .null, .null, .int 0, .int 0, .null, .int 0])), (q1, .inl (cs 0, 64, .inl (fun _ => 0))), (q2, .inl (cs 0, 80, .inl (fun _ => 0))), (q3, .inl (cs 0, 80, .inl (fun _ => 0))), (q4, .inl (cs 0, 80, .inl (fun _ => 0))), (q5, .inl (cs 0, 80, .inl (fun _ => 0))), (q6, .inl (cs 0, 4, .inl (fun _ => 0))), (q7, .inl (cs 3, 4, .inl (fun _ => 0)))] H := hP
  have hD : va_D A [(h0, .inr (5, [.int 0, .int 0, .int 0, .int 0, .ref q1, .int 0, .ref q2, .ref q3, .ref q4, .ref q5, .ref q6, .null, .null, .null, .null, .null, .null, .null, .null, .null, .null, .null, .null, .null, .null, .int 0, .int 0, .null, .int 0])), (q1, .inl (cs 0, 64, .inl (fun _ => 0))), (q2, .inl (cs 0, 80, .inl (fun _ => 0))), (q3, .inl (cs 0, 80, .inl (fun _ => 0))), (q4, .inl (cs 0, 80, .inl (fun _ => 0))), (q5, .inl (cs 0, 80, .inl (fun _ => 0))), (q6, .inl (cs 0, 4, .inl (fun _ => 0))), (q7, .inl (cs 3, 4, .inl (fun _ => 0)))] := hD
  refine va_putF (D := D) (ci := 5) (v := .ref q7) (ty := (.array .boolean)) (C := RX5) (T := TX5) (N := 29) hx hb hts iwX5_init_X5 tyX5 tyX5_ok nmX5 hown hK hP hD hS 0 rfl rfl 11 (by decide) (hts _ lkX5_init_28) (fun _ h9 => h9) rfl hin rfl (by decide +kernel) rfl rfl (Nat.le_of_ble_eq_true rfl) dX5_init_55 (fun H locs hP hD hS => ?_)
  have hP : va_P D vwCl [(h0, .inr (5, [.int 0, .int 0, .int 0, .int 0, .ref q1, .int 0, .ref q2, .ref q3, .ref q4, .ref q5, .ref q6, .ref q7, .null, .null, .null, .null, .null, .null, .null, .null, .null, .null, .null, .null, .null, .int 0, .int 0, .null, .int 0])), (q1, .inl (cs 0, 64, .inl (fun _ => 0))), (q2, .inl (cs 0, 80, .inl (fun _ => 0))), (q3, .inl (cs 0, 80, .inl (fun _ => 0))), (q4, .inl (cs 0, 80, .inl (fun _ => 0))), (q5, .inl (cs 0, 80, .inl (fun _ => 0))), (q6, .inl (cs 0, 4, .inl (fun _ => 0))), (q7, .inl (cs 3, 4, .inl (fun _ => 0)))] H := hP
  have hD : va_D A [(h0, .inr (5, [.int 0, .int 0, .int 0, .int 0, .ref q1, .int 0, .ref q2, .ref q3, .ref q4, .ref q5, .ref q6, .ref q7, .null, .null, .null, .null, .null, .null, .null, .null, .null, .null, .null, .null, .null, .int 0, .int 0, .null, .int 0])), (q1, .inl (cs 0, 64, .inl (fun _ => 0))), (q2, .inl (cs 0, 80, .inl (fun _ => 0))), (q3, .inl (cs 0, 80, .inl (fun _ => 0))), (q4, .inl (cs 0, 80, .inl (fun _ => 0))), (q5, .inl (cs 0, 80, .inl (fun _ => 0))), (q6, .inl (cs 0, 4, .inl (fun _ => 0))), (q7, .inl (cs 3, 4, .inl (fun _ => 0)))] := hD
  refine lv_aload_n hx hb dX5_init_58 rfl (lv_at hl 0 rfl) ?_
  refine lv_iconst (v := 4) hx hb dX5_init_59 (by decide) ?_
  refine g_newi (N' := 4) hx hb (hts _ lkX5_init_arrint) hK hP hD hS hA (by decide) rfl (Nat.le_of_ble_eq_true rfl) (Nat.le_of_ble_eq_true rfl) (Nat.le_of_ble_eq_true rfl) dX5_init_60 (fun q8 H hP hD hS => ?_)
  have hP : va_P D vwCl [(h0, .inr (5, [.int 0, .int 0, .int 0, .int 0, .ref q1, .int 0, .ref q2, .ref q3, .ref q4, .ref q5, .ref q6, .ref q7, .null, .null, .null, .null, .null, .null, .null, .null, .null, .null, .null, .null, .null, .int 0, .int 0, .null, .int 0])), (q1, .inl (cs 0, 64, .inl (fun _ => 0))), (q2, .inl (cs 0, 80, .inl (fun _ => 0))), (q3, .inl (cs 0, 80, .inl (fun _ => 0))), (q4, .inl (cs 0, 80, .inl (fun _ => 0))), (q5, .inl (cs 0, 80, .inl (fun _ => 0))), (q6, .inl (cs 0, 4, .inl (fun _ => 0))), (q7, .inl (cs 3, 4, .inl (fun _ => 0))), (q8, .inl (cs 0, 4, .inl (fun _ => 0)))] H := hP
  have hD : va_D A [(h0, .inr (5, [.int 0, .int 0, .int 0, .int 0, .ref q1, .int 0, .ref q2, .ref q3, .ref q4, .ref q5, .ref q6, .ref q7, .null, .null, .null, .null, .null, .null, .null, .null, .null, .null, .null, .null, .null, .int 0, .int 0, .null, .int 0])), (q1, .inl (cs 0, 64, .inl (fun _ => 0))), (q2, .inl (cs 0, 80, .inl (fun _ => 0))), (q3, .inl (cs 0, 80, .inl (fun _ => 0))), (q4, .inl (cs 0, 80, .inl (fun _ => 0))), (q5, .inl (cs 0, 80, .inl (fun _ => 0))), (q6, .inl (cs 0, 4, .inl (fun _ => 0))), (q7, .inl (cs 3, 4, .inl (fun _ => 0))), (q8, .inl (cs 0, 4, .inl (fun _ => 0)))] := hD
  refine va_putF (D := D) (ci := 5) (v := .ref q8) (ty := (.array .int)) (C := RX5) (T := TX5) (N := 29) hx hb hts iwX5_init_X5 tyX5 tyX5_ok nmX5 hown hK hP hD hS 0 rfl rfl 12 (by decide) (hts _ lkX5_init_32) (fun _ h9 => h9) rfl hin rfl (by decide +kernel) rfl rfl (Nat.le_of_ble_eq_true rfl) dX5_init_62 (fun H locs hP hD hS => ?_)
  have hP : va_P D vwCl [(h0, .inr (5, [.int 0, .int 0, .int 0, .int 0, .ref q1, .int 0, .ref q2, .ref q3, .ref q4, .ref q5, .ref q6, .ref q7, .ref q8, .null, .null, .null, .null, .null, .null, .null, .null, .null, .null, .null, .null, .int 0, .int 0, .null, .int 0])), (q1, .inl (cs 0, 64, .inl (fun _ => 0))), (q2, .inl (cs 0, 80, .inl (fun _ => 0))), (q3, .inl (cs 0, 80, .inl (fun _ => 0))), (q4, .inl (cs 0, 80, .inl (fun _ => 0))), (q5, .inl (cs 0, 80, .inl (fun _ => 0))), (q6, .inl (cs 0, 4, .inl (fun _ => 0))), (q7, .inl (cs 3, 4, .inl (fun _ => 0))), (q8, .inl (cs 0, 4, .inl (fun _ => 0)))] H := hP
  have hD : va_D A [(h0, .inr (5, [.int 0, .int 0, .int 0, .int 0, .ref q1, .int 0, .ref q2, .ref q3, .ref q4, .ref q5, .ref q6, .ref q7, .ref q8, .null, .null, .null, .null, .null, .null, .null, .null, .null, .null, .null, .null, .int 0, .int 0, .null, .int 0])), (q1, .inl (cs 0, 64, .inl (fun _ => 0))), (q2, .inl (cs 0, 80, .inl (fun _ => 0))), (q3, .inl (cs 0, 80, .inl (fun _ => 0))), (q4, .inl (cs 0, 80, .inl (fun _ => 0))), (q5, .inl (cs 0, 80, .inl (fun _ => 0))), (q6, .inl (cs 0, 4, .inl (fun _ => 0))), (q7, .inl (cs 3, 4, .inl (fun _ => 0))), (q8, .inl (cs 0, 4, .inl (fun _ => 0)))] := hD
  refine lv_aload_n hx hb dX5_init_65 rfl (lv_at hl 0 rfl) ?_
  refine lv_bipush (v := 32) hx hb dX5_init_66 (by decide) ?_
  refine g_newi (N' := 32) hx hb (hts _ lkX5_init_arrint) hK hP hD hS hA (by decide) rfl (Nat.le_of_ble_eq_true rfl) (Nat.le_of_ble_eq_true rfl) (Nat.le_of_ble_eq_true rfl) dX5_init_68 (fun q9 H hP hD hS => ?_)
  have hP : va_P D vwCl [(h0, .inr (5, [.int 0, .int 0, .int 0, .int 0, .ref q1, .int 0, .ref q2, .ref q3, .ref q4, .ref q5, .ref q6, .ref q7, .ref q8, .null, .null, .null, .null, .null, .null, .null, .null, .null, .null, .null, .null, .int 0, .int 0, .null, .int 0])), (q1, .inl (cs 0, 64, .inl (fun _ => 0))), (q2, .inl (cs 0, 80, .inl (fun _ => 0))), (q3, .inl (cs 0, 80, .inl (fun _ => 0))), (q4, .inl (cs 0, 80, .inl (fun _ => 0))), (q5, .inl (cs 0, 80, .inl (fun _ => 0))), (q6, .inl (cs 0, 4, .inl (fun _ => 0))), (q7, .inl (cs 3, 4, .inl (fun _ => 0))), (q8, .inl (cs 0, 4, .inl (fun _ => 0))), (q9, .inl (cs 0, 32, .inl (fun _ => 0)))] H := hP
  have hD : va_D A [(h0, .inr (5, [.int 0, .int 0, .int 0, .int 0, .ref q1, .int 0, .ref q2, .ref q3, .ref q4, .ref q5, .ref q6, .ref q7, .ref q8, .null, .null, .null, .null, .null, .null, .null, .null, .null, .null, .null, .null, .int 0, .int 0, .null, .int 0])), (q1, .inl (cs 0, 64, .inl (fun _ => 0))), (q2, .inl (cs 0, 80, .inl (fun _ => 0))), (q3, .inl (cs 0, 80, .inl (fun _ => 0))), (q4, .inl (cs 0, 80, .inl (fun _ => 0))), (q5, .inl (cs 0, 80, .inl (fun _ => 0))), (q6, .inl (cs 0, 4, .inl (fun _ => 0))), (q7, .inl (cs 3, 4, .inl (fun _ => 0))), (q8, .inl (cs 0, 4, .inl (fun _ => 0))), (q9, .inl (cs 0, 32, .inl (fun _ => 0)))] := hD
  refine va_putF (D := D) (ci := 5) (v := .ref q9) (ty := (.array .int)) (C := RX5) (T := TX5) (N := 29) hx hb hts iwX5_init_X5 tyX5 tyX5_ok nmX5 hown hK hP hD hS 0 rfl rfl 13 (by decide) (hts _ lkX5_init_35) (fun _ h9 => h9) rfl hin rfl (by decide +kernel) rfl rfl (Nat.le_of_ble_eq_true rfl) dX5_init_70 (fun H locs hP hD hS => ?_)
  have hP : va_P D vwCl [(h0, .inr (5, [.int 0, .int 0, .int 0, .int 0, .ref q1, .int 0, .ref q2, .ref q3, .ref q4, .ref q5, .ref q6, .ref q7, .ref q8, .ref q9, .null, .null, .null, .null, .null, .null, .null, .null, .null, .null, .null, .int 0, .int 0, .null, .int 0])), (q1, .inl (cs 0, 64, .inl (fun _ => 0))), (q2, .inl (cs 0, 80, .inl (fun _ => 0))), (q3, .inl (cs 0, 80, .inl (fun _ => 0))), (q4, .inl (cs 0, 80, .inl (fun _ => 0))), (q5, .inl (cs 0, 80, .inl (fun _ => 0))), (q6, .inl (cs 0, 4, .inl (fun _ => 0))), (q7, .inl (cs 3, 4, .inl (fun _ => 0))), (q8, .inl (cs 0, 4, .inl (fun _ => 0))), (q9, .inl (cs 0, 32, .inl (fun _ => 0)))] H := hP
  have hD : va_D A [(h0, .inr (5, [.int 0, .int 0, .int 0, .int 0, .ref q1, .int 0, .ref q2, .ref q3, .ref q4, .ref q5, .ref q6, .ref q7, .ref q8, .ref q9, .null, .null, .null, .null, .null, .null, .null, .null, .null, .null, .null, .int 0, .int 0, .null, .int 0])), (q1, .inl (cs 0, 64, .inl (fun _ => 0))), (q2, .inl (cs 0, 80, .inl (fun _ => 0))), (q3, .inl (cs 0, 80, .inl (fun _ => 0))), (q4, .inl (cs 0, 80, .inl (fun _ => 0))), (q5, .inl (cs 0, 80, .inl (fun _ => 0))), (q6, .inl (cs 0, 4, .inl (fun _ => 0))), (q7, .inl (cs 3, 4, .inl (fun _ => 0))), (q8, .inl (cs 0, 4, .inl (fun _ => 0))), (q9, .inl (cs 0, 32, .inl (fun _ => 0)))] := hD
  refine lv_aload_n hx hb dX5_init_73 rfl (lv_at hl 0 rfl) ?_
  refine lv_iconst (v := 4) hx hb dX5_init_74 (by decide) ?_
  refine g_newi (N' := 4) hx hb (hts _ lkX5_init_arrint) hK hP hD hS hA (by decide) rfl (Nat.le_of_ble_eq_true rfl) (Nat.le_of_ble_eq_true rfl) (Nat.le_of_ble_eq_true rfl) dX5_init_75 (fun q10 H hP hD hS => ?_)
  have hP : va_P D vwCl [(h0, .inr (5, [.int 0, .int 0, .int 0, .int 0, .ref q1, .int 0, .ref q2, .ref q3, .ref q4, .ref q5, .ref q6, .ref q7, .ref q8, .ref q9, .null, .null, .null, .null, .null, .null, .null, .null, .null, .null, .null, .int 0, .int 0, .null, .int 0])), (q1, .inl (cs 0, 64, .inl (fun _ => 0))), (q2, .inl (cs 0, 80, .inl (fun _ => 0))), (q3, .inl (cs 0, 80, .inl (fun _ => 0))), (q4, .inl (cs 0, 80, .inl (fun _ => 0))), (q5, .inl (cs 0, 80, .inl (fun _ => 0))), (q6, .inl (cs 0, 4, .inl (fun _ => 0))), (q7, .inl (cs 3, 4, .inl (fun _ => 0))), (q8, .inl (cs 0, 4, .inl (fun _ => 0))), (q9, .inl (cs 0, 32, .inl (fun _ => 0))), (q10, .inl (cs 0, 4, .inl (fun _ => 0)))] H := hP
  have hD : va_D A [(h0, .inr (5, [.int 0, .int 0, .int 0, .int 0, .ref q1, .int 0, .ref q2, .ref q3, .ref q4, .ref q5, .ref q6, .ref q7, .ref q8, .ref q9, .null, .null, .null, .null, .null, .null, .null, .null, .null, .null, .null, .int 0, .int 0, .null, .int 0])), (q1, .inl (cs 0, 64, .inl (fun _ => 0))), (q2, .inl (cs 0, 80, .inl (fun _ => 0))), (q3, .inl (cs 0, 80, .inl (fun _ => 0))), (q4, .inl (cs 0, 80, .inl (fun _ => 0))), (q5, .inl (cs 0, 80, .inl (fun _ => 0))), (q6, .inl (cs 0, 4, .inl (fun _ => 0))), (q7, .inl (cs 3, 4, .inl (fun _ => 0))), (q8, .inl (cs 0, 4, .inl (fun _ => 0))), (q9, .inl (cs 0, 32, .inl (fun _ => 0))), (q10, .inl (cs 0, 4, .inl (fun _ => 0)))] := hD
  refine va_putF (D := D) (ci := 5) (v := .ref q10) (ty := (.array .int)) (C := RX5) (T := TX5) (N := 29) hx hb hts iwX5_init_X5 tyX5 tyX5_ok nmX5 hown hK hP hD hS 0 rfl rfl 14 (by decide) (hts _ lkX5_init_38) (fun _ h9 => h9) rfl hin rfl (by decide +kernel) rfl rfl (Nat.le_of_ble_eq_true rfl) dX5_init_77 (fun H locs hP hD hS => ?_)
  have hP : va_P D vwCl [(h0, .inr (5, [.int 0, .int 0, .int 0, .int 0, .ref q1, .int 0, .ref q2, .ref q3, .ref q4, .ref q5, .ref q6, .ref q7, .ref q8, .ref q9, .ref q10, .null, .null, .null, .null, .null, .null, .null, .null, .null, .null, .int 0, .int 0, .null, .int 0])), (q1, .inl (cs 0, 64, .inl (fun _ => 0))), (q2, .inl (cs 0, 80, .inl (fun _ => 0))), (q3, .inl (cs 0, 80, .inl (fun _ => 0))), (q4, .inl (cs 0, 80, .inl (fun _ => 0))), (q5, .inl (cs 0, 80, .inl (fun _ => 0))), (q6, .inl (cs 0, 4, .inl (fun _ => 0))), (q7, .inl (cs 3, 4, .inl (fun _ => 0))), (q8, .inl (cs 0, 4, .inl (fun _ => 0))), (q9, .inl (cs 0, 32, .inl (fun _ => 0))), (q10, .inl (cs 0, 4, .inl (fun _ => 0)))] H := hP
  have hD : va_D A [(h0, .inr (5, [.int 0, .int 0, .int 0, .int 0, .ref q1, .int 0, .ref q2, .ref q3, .ref q4, .ref q5, .ref q6, .ref q7, .ref q8, .ref q9, .ref q10, .null, .null, .null, .null, .null, .null, .null, .null, .null, .null, .int 0, .int 0, .null, .int 0])), (q1, .inl (cs 0, 64, .inl (fun _ => 0))), (q2, .inl (cs 0, 80, .inl (fun _ => 0))), (q3, .inl (cs 0, 80, .inl (fun _ => 0))), (q4, .inl (cs 0, 80, .inl (fun _ => 0))), (q5, .inl (cs 0, 80, .inl (fun _ => 0))), (q6, .inl (cs 0, 4, .inl (fun _ => 0))), (q7, .inl (cs 3, 4, .inl (fun _ => 0))), (q8, .inl (cs 0, 4, .inl (fun _ => 0))), (q9, .inl (cs 0, 32, .inl (fun _ => 0))), (q10, .inl (cs 0, 4, .inl (fun _ => 0)))] := hD
  refine lv_aload_n hx hb dX5_init_80 rfl (lv_at hl 0 rfl) ?_
  refine lv_iconst (v := 4) hx hb dX5_init_81 (by decide) ?_
  refine g_newi (N' := 4) hx hb (hts _ lkX5_init_arrint) hK hP hD hS hA (by decide) rfl (Nat.le_of_ble_eq_true rfl) (Nat.le_of_ble_eq_true rfl) (Nat.le_of_ble_eq_true rfl) dX5_init_82 (fun q11 H hP hD hS => ?_)
  have hP : va_P D vwCl [(h0, .inr (5, [.int 0, .int 0, .int 0, .int 0, .ref q1, .int 0, .ref q2, .ref q3, .ref q4, .ref q5, .ref q6, .ref q7, .ref q8, .ref q9, .ref q10, .null, .null, .null, .null, .null, .null, .null, .null, .null, .null, .int 0, .int 0, .null, .int 0])), (q1, .inl (cs 0, 64, .inl (fun _ => 0))), (q2, .inl (cs 0, 80, .inl (fun _ => 0))), (q3, .inl (cs 0, 80, .inl (fun _ => 0))), (q4, .inl (cs 0, 80, .inl (fun _ => 0))), (q5, .inl (cs 0, 80, .inl (fun _ => 0))), (q6, .inl (cs 0, 4, .inl (fun _ => 0))), (q7, .inl (cs 3, 4, .inl (fun _ => 0))), (q8, .inl (cs 0, 4, .inl (fun _ => 0))), (q9, .inl (cs 0, 32, .inl (fun _ => 0))), (q10, .inl (cs 0, 4, .inl (fun _ => 0))), (q11, .inl (cs 0, 4, .inl (fun _ => 0)))] H := hP
  have hD : va_D A [(h0, .inr (5, [.int 0, .int 0, .int 0, .int 0, .ref q1, .int 0, .ref q2, .ref q3, .ref q4, .ref q5, .ref q6, .ref q7, .ref q8, .ref q9, .ref q10, .null, .null, .null, .null, .null, .null, .null, .null, .null, .null, .int 0, .int 0, .null, .int 0])), (q1, .inl (cs 0, 64, .inl (fun _ => 0))), (q2, .inl (cs 0, 80, .inl (fun _ => 0))), (q3, .inl (cs 0, 80, .inl (fun _ => 0))), (q4, .inl (cs 0, 80, .inl (fun _ => 0))), (q5, .inl (cs 0, 80, .inl (fun _ => 0))), (q6, .inl (cs 0, 4, .inl (fun _ => 0))), (q7, .inl (cs 3, 4, .inl (fun _ => 0))), (q8, .inl (cs 0, 4, .inl (fun _ => 0))), (q9, .inl (cs 0, 32, .inl (fun _ => 0))), (q10, .inl (cs 0, 4, .inl (fun _ => 0))), (q11, .inl (cs 0, 4, .inl (fun _ => 0)))] := hD
  refine va_putF (D := D) (ci := 5) (v := .ref q11) (ty := (.array .int)) (C := RX5) (T := TX5) (N := 29) hx hb hts iwX5_init_X5 tyX5 tyX5_ok nmX5 hown hK hP hD hS 0 rfl rfl 15 (by decide) (hts _ lkX5_init_41) (fun _ h9 => h9) rfl hin rfl (by decide +kernel) rfl rfl (Nat.le_of_ble_eq_true rfl) dX5_init_84 (fun H locs hP hD hS => ?_)
  have hP : va_P D vwCl [(h0, .inr (5, [.int 0, .int 0, .int 0, .int 0, .ref q1, .int 0, .ref q2, .ref q3, .ref q4, .ref q5, .ref q6, .ref q7, .ref q8, .ref q9, .ref q10, .ref q11, .null, .null, .null, .null, .null, .null, .null, .null, .null, .int 0, .int 0, .null, .int 0])), (q1, .inl (cs 0, 64, .inl (fun _ => 0))), (q2, .inl (cs 0, 80, .inl (fun _ => 0))), (q3, .inl (cs 0, 80, .inl (fun _ => 0))), (q4, .inl (cs 0, 80, .inl (fun _ => 0))), (q5, .inl (cs 0, 80, .inl (fun _ => 0))), (q6, .inl (cs 0, 4, .inl (fun _ => 0))), (q7, .inl (cs 3, 4, .inl (fun _ => 0))), (q8, .inl (cs 0, 4, .inl (fun _ => 0))), (q9, .inl (cs 0, 32, .inl (fun _ => 0))), (q10, .inl (cs 0, 4, .inl (fun _ => 0))), (q11, .inl (cs 0, 4, .inl (fun _ => 0)))] H := hP
  have hD : va_D A [(h0, .inr (5, [.int 0, .int 0, .int 0, .int 0, .ref q1, .int 0, .ref q2, .ref q3, .ref q4, .ref q5, .ref q6, .ref q7, .ref q8, .ref q9, .ref q10, .ref q11, .null, .null, .null, .null, .null, .null, .null, .null, .null, .int 0, .int 0, .null, .int 0])), (q1, .inl (cs 0, 64, .inl (fun _ => 0))), (q2, .inl (cs 0, 80, .inl (fun _ => 0))), (q3, .inl (cs 0, 80, .inl (fun _ => 0))), (q4, .inl (cs 0, 80, .inl (fun _ => 0))), (q5, .inl (cs 0, 80, .inl (fun _ => 0))), (q6, .inl (cs 0, 4, .inl (fun _ => 0))), (q7, .inl (cs 3, 4, .inl (fun _ => 0))), (q8, .inl (cs 0, 4, .inl (fun _ => 0))), (q9, .inl (cs 0, 32, .inl (fun _ => 0))), (q10, .inl (cs 0, 4, .inl (fun _ => 0))), (q11, .inl (cs 0, 4, .inl (fun _ => 0)))] := hD
  refine lv_aload_n hx hb dX5_init_87 rfl (lv_at hl 0 rfl) ?_
  refine lv_iconst (v := 4) hx hb dX5_init_88 (by decide) ?_
  refine g_newi (N' := 4) hx hb (hts _ lkX5_init_arrint) hK hP hD hS hA (by decide) rfl (Nat.le_of_ble_eq_true rfl) (Nat.le_of_ble_eq_true rfl) (Nat.le_of_ble_eq_true rfl) dX5_init_89 (fun q12 H hP hD hS => ?_)
  have hP : va_P D vwCl [(h0, .inr (5, [.int 0, .int 0, .int 0, .int 0, .ref q1, .int 0, .ref q2, .ref q3, .ref q4, .ref q5, .ref q6, .ref q7, .ref q8, .ref q9, .ref q10, .ref q11, .null, .null, .null, .null, .null, .null, .null, .null, .null, .int 0, .int 0, .null, .int 0])), (q1, .inl (cs 0, 64, .inl (fun _ => 0))), (q2, .inl (cs 0, 80, .inl (fun _ => 0))), (q3, .inl (cs 0, 80, .inl (fun _ => 0))), (q4, .inl (cs 0, 80, .inl (fun _ => 0))), (q5, .inl (cs 0, 80, .inl (fun _ => 0))), (q6, .inl (cs 0, 4, .inl (fun _ => 0))), (q7, .inl (cs 3, 4, .inl (fun _ => 0))), (q8, .inl (cs 0, 4, .inl (fun _ => 0))), (q9, .inl (cs 0, 32, .inl (fun _ => 0))), (q10, .inl (cs 0, 4, .inl (fun _ => 0))), (q11, .inl (cs 0, 4, .inl (fun _ => 0))), (q12, .inl (cs 0, 4, .inl (fun _ => 0)))] H := hP
  have hD : va_D A [(h0, .inr (5, [.int 0, .int 0, .int 0, .int 0, .ref q1, .int 0, .ref q2, .ref q3, .ref q4, .ref q5, .ref q6, .ref q7, .ref q8, .ref q9, .ref q10, .ref q11, .null, .null, .null, .null, .null, .null, .null, .null, .null, .int 0, .int 0, .null, .int 0])), (q1, .inl (cs 0, 64, .inl (fun _ => 0))), (q2, .inl (cs 0, 80, .inl (fun _ => 0))), (q3, .inl (cs 0, 80, .inl (fun _ => 0))), (q4, .inl (cs 0, 80, .inl (fun _ => 0))), (q5, .inl (cs 0, 80, .inl (fun _ => 0))), (q6, .inl (cs 0, 4, .inl (fun _ => 0))), (q7, .inl (cs 3, 4, .inl (fun _ => 0))), (q8, .inl (cs 0, 4, .inl (fun _ => 0))), (q9, .inl (cs 0, 32, .inl (fun _ => 0))), (q10, .inl (cs 0, 4, .inl (fun _ => 0))), (q11, .inl (cs 0, 4, .inl (fun _ => 0))), (q12, .inl (cs 0, 4, .inl (fun _ => 0)))] := hD
  refine va_putF (D := D) (ci := 5) (v := .ref q12) (ty := (.array .int)) (C := RX5) (T := TX5) (N := 29) hx hb hts iwX5_init_X5 tyX5 tyX5_ok nmX5 hown hK hP hD hS 0 rfl rfl 16 (by decide) (hts _ lkX5_init_44) (fun _ h9 => h9) rfl hin rfl (by decide +kernel) rfl rfl (Nat.le_of_ble_eq_true rfl) dX5_init_91 (fun H locs hP hD hS => ?_)
  have hP : va_P D vwCl [(h0, .inr (5, [.int 0, .int 0, .int 0, .int 0, .ref q1, .int 0, .ref q2, .ref q3, .ref q4, .ref q5, .ref q6, .ref q7, .ref q8, .ref q9, .ref q10, .ref q11, .ref q12, .null, .null, .null, .null, .null, .null, .null, .null, .int 0, .int 0, .null, .int 0])), (q1, .inl (cs 0, 64, .inl (fun _ => 0))), (q2, .inl (cs 0, 80, .inl (fun _ => 0))), (q3, .inl (cs 0, 80, .inl (fun _ => 0))), (q4, .inl (cs 0, 80, .inl (fun _ => 0))), (q5, .inl (cs 0, 80, .inl (fun _ => 0))), (q6, .inl (cs 0, 4, .inl (fun _ => 0))), (q7, .inl (cs 3, 4, .inl (fun _ => 0))), (q8, .inl (cs 0, 4, .inl (fun _ => 0))), (q9, .inl (cs 0, 32, .inl (fun _ => 0))), (q10, .inl (cs 0, 4, .inl (fun _ => 0))), (q11, .inl (cs 0, 4, .inl (fun _ => 0))), (q12, .inl (cs 0, 4, .inl (fun _ => 0)))] H := hP
  have hD : va_D A [(h0, .inr (5, [.int 0, .int 0, .int 0, .int 0, .ref q1, .int 0, .ref q2, .ref q3, .ref q4, .ref q5, .ref q6, .ref q7, .ref q8, .ref q9, .ref q10, .ref q11, .ref q12, .null, .null, .null, .null, .null, .null, .null, .null, .int 0, .int 0, .null, .int 0])), (q1, .inl (cs 0, 64, .inl (fun _ => 0))), (q2, .inl (cs 0, 80, .inl (fun _ => 0))), (q3, .inl (cs 0, 80, .inl (fun _ => 0))), (q4, .inl (cs 0, 80, .inl (fun _ => 0))), (q5, .inl (cs 0, 80, .inl (fun _ => 0))), (q6, .inl (cs 0, 4, .inl (fun _ => 0))), (q7, .inl (cs 3, 4, .inl (fun _ => 0))), (q8, .inl (cs 0, 4, .inl (fun _ => 0))), (q9, .inl (cs 0, 32, .inl (fun _ => 0))), (q10, .inl (cs 0, 4, .inl (fun _ => 0))), (q11, .inl (cs 0, 4, .inl (fun _ => 0))), (q12, .inl (cs 0, 4, .inl (fun _ => 0)))] := hD
  refine lv_aload_n hx hb dX5_init_94 rfl (lv_at hl 0 rfl) ?_
  refine lv_iconst (v := 4) hx hb dX5_init_95 (by decide) ?_
  refine g_newi (N' := 4) hx hb (hts _ lkX5_init_arrint) hK hP hD hS hA (by decide) rfl (Nat.le_of_ble_eq_true rfl) (Nat.le_of_ble_eq_true rfl) (Nat.le_of_ble_eq_true rfl) dX5_init_96 (fun q13 H hP hD hS => ?_)
  have hP : va_P D vwCl [(h0, .inr (5, [.int 0, .int 0, .int 0, .int 0, .ref q1, .int 0, .ref q2, .ref q3, .ref q4, .ref q5, .ref q6, .ref q7, .ref q8, .ref q9, .ref q10, .ref q11, .ref q12, .null, .null, .null, .null, .null, .null, .null, .null, .int 0, .int 0, .null, .int 0])), (q1, .inl (cs 0, 64, .inl (fun _ => 0))), (q2, .inl (cs 0, 80, .inl (fun _ => 0))), (q3, .inl (cs 0, 80, .inl (fun _ => 0))), (q4, .inl (cs 0, 80, .inl (fun _ => 0))), (q5, .inl (cs 0, 80, .inl (fun _ => 0))), (q6, .inl (cs 0, 4, .inl (fun _ => 0))), (q7, .inl (cs 3, 4, .inl (fun _ => 0))), (q8, .inl (cs 0, 4, .inl (fun _ => 0))), (q9, .inl (cs 0, 32, .inl (fun _ => 0))), (q10, .inl (cs 0, 4, .inl (fun _ => 0))), (q11, .inl (cs 0, 4, .inl (fun _ => 0))), (q12, .inl (cs 0, 4, .inl (fun _ => 0))), (q13, .inl (cs 0, 4, .inl (fun _ => 0)))] H := hP
  have hD : va_D A [(h0, .inr (5, [.int 0, .int 0, .int 0, .int 0, .ref q1, .int 0, .ref q2, .ref q3, .ref q4, .ref q5, .ref q6, .ref q7, .ref q8, .ref q9, .ref q10, .ref q11, .ref q12, .null, .null, .null, .null, .null, .null, .null, .null, .int 0, .int 0, .null, .int 0])), (q1, .inl (cs 0, 64, .inl (fun _ => 0))), (q2, .inl (cs 0, 80, .inl (fun _ => 0))), (q3, .inl (cs 0, 80, .inl (fun _ => 0))), (q4, .inl (cs 0, 80, .inl (fun _ => 0))), (q5, .inl (cs 0, 80, .inl (fun _ => 0))), (q6, .inl (cs 0, 4, .inl (fun _ => 0))), (q7, .inl (cs 3, 4, .inl (fun _ => 0))), (q8, .inl (cs 0, 4, .inl (fun _ => 0))), (q9, .inl (cs 0, 32, .inl (fun _ => 0))), (q10, .inl (cs 0, 4, .inl (fun _ => 0))), (q11, .inl (cs 0, 4, .inl (fun _ => 0))), (q12, .inl (cs 0, 4, .inl (fun _ => 0))), (q13, .inl (cs 0, 4, .inl (fun _ => 0)))] := hD
  refine va_putF (D := D) (ci := 5) (v := .ref q13) (ty := (.array .int)) (C := RX5) (T := TX5) (N := 29) hx hb hts iwX5_init_X5 tyX5 tyX5_ok nmX5 hown hK hP hD hS 0 rfl rfl 17 (by decide) (hts _ lkX5_init_47) (fun _ h9 => h9) rfl hin rfl (by decide +kernel) rfl rfl (Nat.le_of_ble_eq_true rfl) dX5_init_98 (fun H locs hP hD hS => ?_)
  have hP : va_P D vwCl [(h0, .inr (5, [.int 0, .int 0, .int 0, .int 0, .ref q1, .int 0, .ref q2, .ref q3, .ref q4, .ref q5, .ref q6, .ref q7, .ref q8, .ref q9, .ref q10, .ref q11, .ref q12, .ref q13, .null, .null, .null, .null, .null, .null, .null, .int 0, .int 0, .null, .int 0])), (q1, .inl (cs 0, 64, .inl (fun _ => 0))), (q2, .inl (cs 0, 80, .inl (fun _ => 0))), (q3, .inl (cs 0, 80, .inl (fun _ => 0))), (q4, .inl (cs 0, 80, .inl (fun _ => 0))), (q5, .inl (cs 0, 80, .inl (fun _ => 0))), (q6, .inl (cs 0, 4, .inl (fun _ => 0))), (q7, .inl (cs 3, 4, .inl (fun _ => 0))), (q8, .inl (cs 0, 4, .inl (fun _ => 0))), (q9, .inl (cs 0, 32, .inl (fun _ => 0))), (q10, .inl (cs 0, 4, .inl (fun _ => 0))), (q11, .inl (cs 0, 4, .inl (fun _ => 0))), (q12, .inl (cs 0, 4, .inl (fun _ => 0))), (q13, .inl (cs 0, 4, .inl (fun _ => 0)))] H := hP
  have hD : va_D A [(h0, .inr (5, [.int 0, .int 0, .int 0, .int 0, .ref q1, .int 0, .ref q2, .ref q3, .ref q4, .ref q5, .ref q6, .ref q7, .ref q8, .ref q9, .ref q10, .ref q11, .ref q12, .ref q13, .null, .null, .null, .null, .null, .null, .null, .int 0, .int 0, .null, .int 0])), (q1, .inl (cs 0, 64, .inl (fun _ => 0))), (q2, .inl (cs 0, 80, .inl (fun _ => 0))), (q3, .inl (cs 0, 80, .inl (fun _ => 0))), (q4, .inl (cs 0, 80, .inl (fun _ => 0))), (q5, .inl (cs 0, 80, .inl (fun _ => 0))), (q6, .inl (cs 0, 4, .inl (fun _ => 0))), (q7, .inl (cs 3, 4, .inl (fun _ => 0))), (q8, .inl (cs 0, 4, .inl (fun _ => 0))), (q9, .inl (cs 0, 32, .inl (fun _ => 0))), (q10, .inl (cs 0, 4, .inl (fun _ => 0))), (q11, .inl (cs 0, 4, .inl (fun _ => 0))), (q12, .inl (cs 0, 4, .inl (fun _ => 0))), (q13, .inl (cs 0, 4, .inl (fun _ => 0)))] := hD
  refine lv_aload_n hx hb dX5_init_101 rfl (lv_at hl 0 rfl) ?_
  refine lv_bipush (v := 32) hx hb dX5_init_102 (by decide) ?_
  refine g_newi (N' := 32) hx hb (hts _ lkX5_init_arrint) hK hP hD hS hA (by decide) rfl (Nat.le_of_ble_eq_true rfl) (Nat.le_of_ble_eq_true rfl) (Nat.le_of_ble_eq_true rfl) dX5_init_104 (fun q14 H hP hD hS => ?_)
  have hP : va_P D vwCl [(h0, .inr (5, [.int 0, .int 0, .int 0, .int 0, .ref q1, .int 0, .ref q2, .ref q3, .ref q4, .ref q5, .ref q6, .ref q7, .ref q8, .ref q9, .ref q10, .ref q11, .ref q12, .ref q13, .null, .null, .null, .null, .null, .null, .null, .int 0, .int 0, .null, .int 0])), (q1, .inl (cs 0, 64, .inl (fun _ => 0))), (q2, .inl (cs 0, 80, .inl (fun _ => 0))), (q3, .inl (cs 0, 80, .inl (fun _ => 0))), (q4, .inl (cs 0, 80, .inl (fun _ => 0))), (q5, .inl (cs 0, 80, .inl (fun _ => 0))), (q6, .inl (cs 0, 4, .inl (fun _ => 0))), (q7, .inl (cs 3, 4, .inl (fun _ => 0))), (q8, .inl (cs 0, 4, .inl (fun _ => 0))), (q9, .inl (cs 0, 32, .inl (fun _ => 0))), (q10, .inl (cs 0, 4, .inl (fun _ => 0))), (q11, .inl (cs 0, 4, .inl (fun _ => 0))), (q12, .inl (cs 0, 4, .inl (fun _ => 0))), (q13, .inl (cs 0, 4, .inl (fun _ => 0))), (q14, .inl (cs 0, 32, .inl (fun _ => 0)))] H := hP
  have hD : va_D A [(h0, .inr (5, [.int 0, .int 0, .int 0, .int 0, .ref q1, .int 0, .ref q2, .ref q3, .ref q4, .ref q5, .ref q6, .ref q7, .ref q8, .ref q9, .ref q10, .ref q11, .ref q12, .ref q13, .null, .null, .null, .null, .null, .null, .null, .int 0, .int 0, .null, .int 0])), (q1, .inl (cs 0, 64, .inl (fun _ => 0))), (q2, .inl (cs 0, 80, .inl (fun _ => 0))), (q3, .inl (cs 0, 80, .inl (fun _ => 0))), (q4, .inl (cs 0, 80, .inl (fun _ => 0))), (q5, .inl (cs 0, 80, .inl (fun _ => 0))), (q6, .inl (cs 0, 4, .inl (fun _ => 0))), (q7, .inl (cs 3, 4, .inl (fun _ => 0))), (q8, .inl (cs 0, 4, .inl (fun _ => 0))), (q9, .inl (cs 0, 32, .inl (fun _ => 0))), (q10, .inl (cs 0, 4, .inl (fun _ => 0))), (q11, .inl (cs 0, 4, .inl (fun _ => 0))), (q12, .inl (cs 0, 4, .inl (fun _ => 0))), (q13, .inl (cs 0, 4, .inl (fun _ => 0))), (q14, .inl (cs 0, 32, .inl (fun _ => 0)))] := hD
  refine va_putF (D := D) (ci := 5) (v := .ref q14) (ty := (.array .int)) (C := RX5) (T := TX5) (N := 29) hx hb hts iwX5_init_X5 tyX5 tyX5_ok nmX5 hown hK hP hD hS 0 rfl rfl 18 (by decide) (hts _ lkX5_init_50) (fun _ h9 => h9) rfl hin rfl (by decide +kernel) rfl rfl (Nat.le_of_ble_eq_true rfl) dX5_init_106 (fun H locs hP hD hS => ?_)
  have hP : va_P D vwCl [(h0, .inr (5, [.int 0, .int 0, .int 0, .int 0, .ref q1, .int 0, .ref q2, .ref q3, .ref q4, .ref q5, .ref q6, .ref q7, .ref q8, .ref q9, .ref q10, .ref q11, .ref q12, .ref q13, .ref q14, .null, .null, .null, .null, .null, .null, .int 0, .int 0, .null, .int 0])), (q1, .inl (cs 0, 64, .inl (fun _ => 0))), (q2, .inl (cs 0, 80, .inl (fun _ => 0))), (q3, .inl (cs 0, 80, .inl (fun _ => 0))), (q4, .inl (cs 0, 80, .inl (fun _ => 0))), (q5, .inl (cs 0, 80, .inl (fun _ => 0))), (q6, .inl (cs 0, 4, .inl (fun _ => 0))), (q7, .inl (cs 3, 4, .inl (fun _ => 0))), (q8, .inl (cs 0, 4, .inl (fun _ => 0))), (q9, .inl (cs 0, 32, .inl (fun _ => 0))), (q10, .inl (cs 0, 4, .inl (fun _ => 0))), (q11, .inl (cs 0, 4, .inl (fun _ => 0))), (q12, .inl (cs 0, 4, .inl (fun _ => 0))), (q13, .inl (cs 0, 4, .inl (fun _ => 0))), (q14, .inl (cs 0, 32, .inl (fun _ => 0)))] H := hP
  have hD : va_D A [(h0, .inr (5, [.int 0, .int 0, .int 0, .int 0, .ref q1, .int 0, .ref q2, .ref q3, .ref q4, .ref q5, .ref q6, .ref q7, .ref q8, .ref q9, .ref q10, .ref q11, .ref q12, .ref q13, .ref q14, .null, .null, .null, .null, .null, .null, .int 0, .int 0, .null, .int 0])), (q1, .inl (cs 0, 64, .inl (fun _ => 0))), (q2, .inl (cs 0, 80, .inl (fun _ => 0))), (q3, .inl (cs 0, 80, .inl (fun _ => 0))), (q4, .inl (cs 0, 80, .inl (fun _ => 0))), (q5, .inl (cs 0, 80, .inl (fun _ => 0))), (q6, .inl (cs 0, 4, .inl (fun _ => 0))), (q7, .inl (cs 3, 4, .inl (fun _ => 0))), (q8, .inl (cs 0, 4, .inl (fun _ => 0))), (q9, .inl (cs 0, 32, .inl (fun _ => 0))), (q10, .inl (cs 0, 4, .inl (fun _ => 0))), (q11, .inl (cs 0, 4, .inl (fun _ => 0))), (q12, .inl (cs 0, 4, .inl (fun _ => 0))), (q13, .inl (cs 0, 4, .inl (fun _ => 0))), (q14, .inl (cs 0, 32, .inl (fun _ => 0)))] := hD
  refine lv_aload_n hx hb dX5_init_109 rfl (lv_at hl 0 rfl) ?_
  refine lv_iconst (v := 4) hx hb dX5_init_110 (by decide) ?_
  refine g_newi (N' := 4) hx hb (hts _ lkX5_init_arrint) hK hP hD hS hA (by decide) rfl (Nat.le_of_ble_eq_true rfl) (Nat.le_of_ble_eq_true rfl) (Nat.le_of_ble_eq_true rfl) dX5_init_111 (fun q15 H hP hD hS => ?_)
  have hP : va_P D vwCl [(h0, .inr (5, [.int 0, .int 0, .int 0, .int 0, .ref q1, .int 0, .ref q2, .ref q3, .ref q4, .ref q5, .ref q6, .ref q7, .ref q8, .ref q9, .ref q10, .ref q11, .ref q12, .ref q13, .ref q14, .null, .null, .null, .null, .null, .null, .int 0, .int 0, .null, .int 0])), (q1, .inl (cs 0, 64, .inl (fun _ => 0))), (q2, .inl (cs 0, 80, .inl (fun _ => 0))), (q3, .inl (cs 0, 80, .inl (fun _ => 0))), (q4, .inl (cs 0, 80, .inl (fun _ => 0))), (q5, .inl (cs 0, 80, .inl (fun _ => 0))), (q6, .inl (cs 0, 4, .inl (fun _ => 0))), (q7, .inl (cs 3, 4, .inl (fun _ => 0))), (q8, .inl (cs 0, 4, .inl (fun _ => 0))), (q9, .inl (cs 0, 32, .inl (fun _ => 0))), (q10, .inl (cs 0, 4, .inl (fun _ => 0))), (q11, .inl (cs 0, 4, .inl (fun _ => 0))), (q12, .inl (cs 0, 4, .inl (fun _ => 0))), (q13, .inl (cs 0, 4, .inl (fun _ => 0))), (q14, .inl (cs 0, 32, .inl (fun _ => 0))), (q15, .inl (cs 0, 4, .inl (fun _ => 0)))] H := hP
  have hD : va_D A [(h0, .inr (5, [.int 0, .int 0, .int 0, .int 0, .ref q1, .int 0, .ref q2, .ref q3, .ref q4, .ref q5, .ref q6, .ref q7, .ref q8, .ref q9, .ref q10, .ref q11, .ref q12, .ref q13, .ref q14, .null, .null, .null, .null, .null, .null, .int 0, .int 0, .null, .int 0])), (q1, .inl (cs 0, 64, .inl (fun _ => 0))), (q2, .inl (cs 0, 80, .inl (fun _ => 0))), (q3, .inl (cs 0, 80, .inl (fun _ => 0))), (q4, .inl (cs 0, 80, .inl (fun _ => 0))), (q5, .inl (cs 0, 80, .inl (fun _ => 0))), (q6, .inl (cs 0, 4, .inl (fun _ => 0))), (q7, .inl (cs 3, 4, .inl (fun _ => 0))), (q8, .inl (cs 0, 4, .inl (fun _ => 0))), (q9, .inl (cs 0, 32, .inl (fun _ => 0))), (q10, .inl (cs 0, 4, .inl (fun _ => 0))), (q11, .inl (cs 0, 4, .inl (fun _ => 0))), (q12, .inl (cs 0, 4, .inl (fun _ => 0))), (q13, .inl (cs 0, 4, .inl (fun _ => 0))), (q14, .inl (cs 0, 32, .inl (fun _ => 0))), (q15, .inl (cs 0, 4, .inl (fun _ => 0)))] := hD
  refine va_putF (D := D) (ci := 5) (v := .ref q15) (ty := (.array .int)) (C := RX5) (T := TX5) (N := 29) hx hb hts iwX5_init_X5 tyX5 tyX5_ok nmX5 hown hK hP hD hS 0 rfl rfl 19 (by decide) (hts _ lkX5_init_53) (fun _ h9 => h9) rfl hin rfl (by decide +kernel) rfl rfl (Nat.le_of_ble_eq_true rfl) dX5_init_113 (fun H locs hP hD hS => ?_)
  have hP : va_P D vwCl [(h0, .inr (5, [.int 0, .int 0, .int 0, .int 0, .ref q1, .int 0, .ref q2, .ref q3, .ref q4, .ref q5, .ref q6, .ref q7, .ref q8, .ref q9, .ref q10, .ref q11, .ref q12, .ref q13, .ref q14, .ref q15, .null, .null, .null, .null, .null, .int 0, .int 0, .null, .int 0])), (q1, .inl (cs 0, 64, .inl (fun _ => 0))), (q2, .inl (cs 0, 80, .inl (fun _ => 0))), (q3, .inl (cs 0, 80, .inl (fun _ => 0))), (q4, .inl (cs 0, 80, .inl (fun _ => 0))), (q5, .inl (cs 0, 80, .inl (fun _ => 0))), (q6, .inl (cs 0, 4, .inl (fun _ => 0))), (q7, .inl (cs 3, 4, .inl (fun _ => 0))), (q8, .inl (cs 0, 4, .inl (fun _ => 0))), (q9, .inl (cs 0, 32, .inl (fun _ => 0))), (q10, .inl (cs 0, 4, .inl (fun _ => 0))), (q11, .inl (cs 0, 4, .inl (fun _ => 0))), (q12, .inl (cs 0, 4, .inl (fun _ => 0))), (q13, .inl (cs 0, 4, .inl (fun _ => 0))), (q14, .inl (cs 0, 32, .inl (fun _ => 0))), (q15, .inl (cs 0, 4, .inl (fun _ => 0)))] H := hP
  have hD : va_D A [(h0, .inr (5, [.int 0, .int 0, .int 0, .int 0, .ref q1, .int 0, .ref q2, .ref q3, .ref q4, .ref q5, .ref q6, .ref q7, .ref q8, .ref q9, .ref q10, .ref q11, .ref q12, .ref q13, .ref q14, .ref q15, .null, .null, .null, .null, .null, .int 0, .int 0, .null, .int 0])), (q1, .inl (cs 0, 64, .inl (fun _ => 0))), (q2, .inl (cs 0, 80, .inl (fun _ => 0))), (q3, .inl (cs 0, 80, .inl (fun _ => 0))), (q4, .inl (cs 0, 80, .inl (fun _ => 0))), (q5, .inl (cs 0, 80, .inl (fun _ => 0))), (q6, .inl (cs 0, 4, .inl (fun _ => 0))), (q7, .inl (cs 3, 4, .inl (fun _ => 0))), (q8, .inl (cs 0, 4, .inl (fun _ => 0))), (q9, .inl (cs 0, 32, .inl (fun _ => 0))), (q10, .inl (cs 0, 4, .inl (fun _ => 0))), (q11, .inl (cs 0, 4, .inl (fun _ => 0))), (q12, .inl (cs 0, 4, .inl (fun _ => 0))), (q13, .inl (cs 0, 4, .inl (fun _ => 0))), (q14, .inl (cs 0, 32, .inl (fun _ => 0))), (q15, .inl (cs 0, 4, .inl (fun _ => 0)))] := hD
  refine lv_aload_n hx hb dX5_init_116 rfl (lv_at hl 0 rfl) ?_
  refine lv_iconst (v := 4) hx hb dX5_init_117 (by decide) ?_
  refine g_newi (N' := 4) hx hb (hts _ lkX5_init_arrint) hK hP hD hS hA (by decide) rfl (Nat.le_of_ble_eq_true rfl) (Nat.le_of_ble_eq_true rfl) (Nat.le_of_ble_eq_true rfl) dX5_init_118 (fun q16 H hP hD hS => ?_)
  have hP : va_P D vwCl [(h0, .inr (5, [.int 0, .int 0, .int 0, .int 0, .ref q1, .int 0, .ref q2, .ref q3, .ref q4, .ref q5, .ref q6, .ref q7, .ref q8, .ref q9, .ref q10, .ref q11, .ref q12, .ref q13, .ref q14, .ref q15, .null, .null, .null, .null, .null, .int 0, .int 0, .null, .int 0])), (q1, .inl (cs 0, 64, .inl (fun _ => 0))), (q2, .inl (cs 0, 80, .inl (fun _ => 0))), (q3, .inl (cs 0, 80, .inl (fun _ => 0))), (q4, .inl (cs 0, 80, .inl (fun _ => 0))), (q5, .inl (cs 0, 80, .inl (fun _ => 0))), (q6, .inl (cs 0, 4, .inl (fun _ => 0))), (q7, .inl (cs 3, 4, .inl (fun _ => 0))), (q8, .inl (cs 0, 4, .inl (fun _ => 0))), (q9, .inl (cs 0, 32, .inl (fun _ => 0))), (q10, .inl (cs 0, 4, .inl (fun _ => 0))), (q11, .inl (cs 0, 4, .inl (fun _ => 0))), (q12, .inl (cs 0, 4, .inl (fun _ => 0))), (q13, .inl (cs 0, 4, .inl (fun _ => 0))), (q14, .inl (cs 0, 32, .inl (fun _ => 0))), (q15, .inl (cs 0, 4, .inl (fun _ => 0))), (q16, .inl (cs 0, 4, .inl (fun _ => 0)))] H := hP
  have hD : va_D A [(h0, .inr (5, [.int 0, .int 0, .int 0, .int 0, .ref q1, .int 0, .ref q2, .ref q3, .ref q4, .ref q5, .ref q6, .ref q7, .ref q8, .ref q9, .ref q10, .ref q11, .ref q12, .ref q13, .ref q14, .ref q15, .null, .null, .null, .null, .null, .int 0, .int 0, .null, .int 0])), (q1, .inl (cs 0, 64, .inl (fun _ => 0))), (q2, .inl (cs 0, 80, .inl (fun _ => 0))), (q3, .inl (cs 0, 80, .inl (fun _ => 0))), (q4, .inl (cs 0, 80, .inl (fun _ => 0))), (q5, .inl (cs 0, 80, .inl (fun _ => 0))), (q6, .inl (cs 0, 4, .inl (fun _ => 0))), (q7, .inl (cs 3, 4, .inl (fun _ => 0))), (q8, .inl (cs 0, 4, .inl (fun _ => 0))), (q9, .inl (cs 0, 32, .inl (fun _ => 0))), (q10, .inl (cs 0, 4, .inl (fun _ => 0))), (q11, .inl (cs 0, 4, .inl (fun _ => 0))), (q12, .inl (cs 0, 4, .inl (fun _ => 0))), (q13, .inl (cs 0, 4, .inl (fun _ => 0))), (q14, .inl (cs 0, 32, .inl (fun _ => 0))), (q15, .inl (cs 0, 4, .inl (fun _ => 0))), (q16, .inl (cs 0, 4, .inl (fun _ => 0)))] := hD
  refine va_putF (D := D) (ci := 5) (v := .ref q16) (ty := (.array .int)) (C := RX5) (T := TX5) (N := 29) hx hb hts iwX5_init_X5 tyX5 tyX5_ok nmX5 hown hK hP hD hS 0 rfl rfl 20 (by decide) (hts _ lkX5_init_56) (fun _ h9 => h9) rfl hin rfl (by decide +kernel) rfl rfl (Nat.le_of_ble_eq_true rfl) dX5_init_120 (fun H locs hP hD hS => ?_)
  have hP : va_P D vwCl [(h0, .inr (5, [.int 0, .int 0, .int 0, .int 0, .ref q1, .int 0, .ref q2, .ref q3, .ref q4, .ref q5, .ref q6, .ref q7, .ref q8, .ref q9, .ref q10, .ref q11, .ref q12, .ref q13, .ref q14, .ref q15, .ref q16, .null, .null, .null, .null, .int 0, .int 0, .null, .int 0])), (q1, .inl (cs 0, 64, .inl (fun _ => 0))), (q2, .inl (cs 0, 80, .inl (fun _ => 0))), (q3, .inl (cs 0, 80, .inl (fun _ => 0))), (q4, .inl (cs 0, 80, .inl (fun _ => 0))), (q5, .inl (cs 0, 80, .inl (fun _ => 0))), (q6, .inl (cs 0, 4, .inl (fun _ => 0))), (q7, .inl (cs 3, 4, .inl (fun _ => 0))), (q8, .inl (cs 0, 4, .inl (fun _ => 0))), (q9, .inl (cs 0, 32, .inl (fun _ => 0))), (q10, .inl (cs 0, 4, .inl (fun _ => 0))), (q11, .inl (cs 0, 4, .inl (fun _ => 0))), (q12, .inl (cs 0, 4, .inl (fun _ => 0))), (q13, .inl (cs 0, 4, .inl (fun _ => 0))), (q14, .inl (cs 0, 32, .inl (fun _ => 0))), (q15, .inl (cs 0, 4, .inl (fun _ => 0))), (q16, .inl (cs 0, 4, .inl (fun _ => 0)))] H := hP
  have hD : va_D A [(h0, .inr (5, [.int 0, .int 0, .int 0, .int 0, .ref q1, .int 0, .ref q2, .ref q3, .ref q4, .ref q5, .ref q6, .ref q7, .ref q8, .ref q9, .ref q10, .ref q11, .ref q12, .ref q13, .ref q14, .ref q15, .ref q16, .null, .null, .null, .null, .int 0, .int 0, .null, .int 0])), (q1, .inl (cs 0, 64, .inl (fun _ => 0))), (q2, .inl (cs 0, 80, .inl (fun _ => 0))), (q3, .inl (cs 0, 80, .inl (fun _ => 0))), (q4, .inl (cs 0, 80, .inl (fun _ => 0))), (q5, .inl (cs 0, 80, .inl (fun _ => 0))), (q6, .inl (cs 0, 4, .inl (fun _ => 0))), (q7, .inl (cs 3, 4, .inl (fun _ => 0))), (q8, .inl (cs 0, 4, .inl (fun _ => 0))), (q9, .inl (cs 0, 32, .inl (fun _ => 0))), (q10, .inl (cs 0, 4, .inl (fun _ => 0))), (q11, .inl (cs 0, 4, .inl (fun _ => 0))), (q12, .inl (cs 0, 4, .inl (fun _ => 0))), (q13, .inl (cs 0, 4, .inl (fun _ => 0))), (q14, .inl (cs 0, 32, .inl (fun _ => 0))), (q15, .inl (cs 0, 4, .inl (fun _ => 0))), (q16, .inl (cs 0, 4, .inl (fun _ => 0)))] := hD
  refine lv_aload_n hx hb dX5_init_123 rfl (lv_at hl 0 rfl) ?_
  refine lv_iconst (v := 4) hx hb dX5_init_124 (by decide) ?_
  refine g_newl (N' := 4) hx hb (hts _ lkX5_init_arrlong) hK hP hD hS hA (by decide) rfl (Nat.le_of_ble_eq_true rfl) (Nat.le_of_ble_eq_true rfl) (Nat.le_of_ble_eq_true rfl) dX5_init_125 (fun q17 H hP hD hS => ?_)
  have hP : va_P D vwCl [(h0, .inr (5, [.int 0, .int 0, .int 0, .int 0, .ref q1, .int 0, .ref q2, .ref q3, .ref q4, .ref q5, .ref q6, .ref q7, .ref q8, .ref q9, .ref q10, .ref q11, .ref q12, .ref q13, .ref q14, .ref q15, .ref q16, .null, .null, .null, .null, .int 0, .int 0, .null, .int 0])), (q1, .inl (cs 0, 64, .inl (fun _ => 0))), (q2, .inl (cs 0, 80, .inl (fun _ => 0))), (q3, .inl (cs 0, 80, .inl (fun _ => 0))), (q4, .inl (cs 0, 80, .inl (fun _ => 0))), (q5, .inl (cs 0, 80, .inl (fun _ => 0))), (q6, .inl (cs 0, 4, .inl (fun _ => 0))), (q7, .inl (cs 3, 4, .inl (fun _ => 0))), (q8, .inl (cs 0, 4, .inl (fun _ => 0))), (q9, .inl (cs 0, 32, .inl (fun _ => 0))), (q10, .inl (cs 0, 4, .inl (fun _ => 0))), (q11, .inl (cs 0, 4, .inl (fun _ => 0))), (q12, .inl (cs 0, 4, .inl (fun _ => 0))), (q13, .inl (cs 0, 4, .inl (fun _ => 0))), (q14, .inl (cs 0, 32, .inl (fun _ => 0))), (q15, .inl (cs 0, 4, .inl (fun _ => 0))), (q16, .inl (cs 0, 4, .inl (fun _ => 0))), (q17, .inl (cs 2, 4, .inr (.inl (fun _ => 0))))] H := hP
  have hD : va_D A [(h0, .inr (5, [.int 0, .int 0, .int 0, .int 0, .ref q1, .int 0, .ref q2, .ref q3, .ref q4, .ref q5, .ref q6, .ref q7, .ref q8, .ref q9, .ref q10, .ref q11, .ref q12, .ref q13, .ref q14, .ref q15, .ref q16, .null, .null, .null, .null, .int 0, .int 0, .null, .int 0])), (q1, .inl (cs 0, 64, .inl (fun _ => 0))), (q2, .inl (cs 0, 80, .inl (fun _ => 0))), (q3, .inl (cs 0, 80, .inl (fun _ => 0))), (q4, .inl (cs 0, 80, .inl (fun _ => 0))), (q5, .inl (cs 0, 80, .inl (fun _ => 0))), (q6, .inl (cs 0, 4, .inl (fun _ => 0))), (q7, .inl (cs 3, 4, .inl (fun _ => 0))), (q8, .inl (cs 0, 4, .inl (fun _ => 0))), (q9, .inl (cs 0, 32, .inl (fun _ => 0))), (q10, .inl (cs 0, 4, .inl (fun _ => 0))), (q11, .inl (cs 0, 4, .inl (fun _ => 0))), (q12, .inl (cs 0, 4, .inl (fun _ => 0))), (q13, .inl (cs 0, 4, .inl (fun _ => 0))), (q14, .inl (cs 0, 32, .inl (fun _ => 0))), (q15, .inl (cs 0, 4, .inl (fun _ => 0))), (q16, .inl (cs 0, 4, .inl (fun _ => 0))), (q17, .inl (cs 2, 4, .inr (.inl (fun _ => 0))))] := hD
  refine va_putF (D := D) (ci := 5) (v := .ref q17) (ty := (.array .long)) (C := RX5) (T := TX5) (N := 29) hx hb hts iwX5_init_X5 tyX5 tyX5_ok nmX5 hown hK hP hD hS 0 rfl rfl 21 (by decide) (hts _ lkX5_init_59) (fun _ h9 => h9) rfl hin rfl (by decide +kernel) rfl rfl (Nat.le_of_ble_eq_true rfl) dX5_init_127 (fun H locs hP hD hS => ?_)
  have hP : va_P D vwCl [(h0, .inr (5, [.int 0, .int 0, .int 0, .int 0, .ref q1, .int 0, .ref q2, .ref q3, .ref q4, .ref q5, .ref q6, .ref q7, .ref q8, .ref q9, .ref q10, .ref q11, .ref q12, .ref q13, .ref q14, .ref q15, .ref q16, .ref q17, .null, .null, .null, .int 0, .int 0, .null, .int 0])), (q1, .inl (cs 0, 64, .inl (fun _ => 0))), (q2, .inl (cs 0, 80, .inl (fun _ => 0))), (q3, .inl (cs 0, 80, .inl (fun _ => 0))), (q4, .inl (cs 0, 80, .inl (fun _ => 0))), (q5, .inl (cs 0, 80, .inl (fun _ => 0))), (q6, .inl (cs 0, 4, .inl (fun _ => 0))), (q7, .inl (cs 3, 4, .inl (fun _ => 0))), (q8, .inl (cs 0, 4, .inl (fun _ => 0))), (q9, .inl (cs 0, 32, .inl (fun _ => 0))), (q10, .inl (cs 0, 4, .inl (fun _ => 0))), (q11, .inl (cs 0, 4, .inl (fun _ => 0))), (q12, .inl (cs 0, 4, .inl (fun _ => 0))), (q13, .inl (cs 0, 4, .inl (fun _ => 0))), (q14, .inl (cs 0, 32, .inl (fun _ => 0))), (q15, .inl (cs 0, 4, .inl (fun _ => 0))), (q16, .inl (cs 0, 4, .inl (fun _ => 0))), (q17, .inl (cs 2, 4, .inr (.inl (fun _ => 0))))] H := hP
  have hD : va_D A [(h0, .inr (5, [.int 0, .int 0, .int 0, .int 0, .ref q1, .int 0, .ref q2, .ref q3, .ref q4, .ref q5, .ref q6, .ref q7, .ref q8, .ref q9, .ref q10, .ref q11, .ref q12, .ref q13, .ref q14, .ref q15, .ref q16, .ref q17, .null, .null, .null, .int 0, .int 0, .null, .int 0])), (q1, .inl (cs 0, 64, .inl (fun _ => 0))), (q2, .inl (cs 0, 80, .inl (fun _ => 0))), (q3, .inl (cs 0, 80, .inl (fun _ => 0))), (q4, .inl (cs 0, 80, .inl (fun _ => 0))), (q5, .inl (cs 0, 80, .inl (fun _ => 0))), (q6, .inl (cs 0, 4, .inl (fun _ => 0))), (q7, .inl (cs 3, 4, .inl (fun _ => 0))), (q8, .inl (cs 0, 4, .inl (fun _ => 0))), (q9, .inl (cs 0, 32, .inl (fun _ => 0))), (q10, .inl (cs 0, 4, .inl (fun _ => 0))), (q11, .inl (cs 0, 4, .inl (fun _ => 0))), (q12, .inl (cs 0, 4, .inl (fun _ => 0))), (q13, .inl (cs 0, 4, .inl (fun _ => 0))), (q14, .inl (cs 0, 32, .inl (fun _ => 0))), (q15, .inl (cs 0, 4, .inl (fun _ => 0))), (q16, .inl (cs 0, 4, .inl (fun _ => 0))), (q17, .inl (cs 2, 4, .inr (.inl (fun _ => 0))))] := hD
  refine lv_aload_n hx hb dX5_init_130 rfl (lv_at hl 0 rfl) ?_
  refine lv_sipush (v := 256) hx hb dX5_init_131 (by decide) ?_
  refine g_newi (N' := 256) hx hb (hts _ lkX5_init_arrint) hK hP hD hS hA (by decide) rfl (Nat.le_of_ble_eq_true rfl) (Nat.le_of_ble_eq_true rfl) (Nat.le_of_ble_eq_true rfl) dX5_init_134 (fun q18 H hP hD hS => ?_)
  have hP : va_P D vwCl [(h0, .inr (5, [.int 0, .int 0, .int 0, .int 0, .ref q1, .int 0, .ref q2, .ref q3, .ref q4, .ref q5, .ref q6, .ref q7, .ref q8, .ref q9, .ref q10, .ref q11, .ref q12, .ref q13, .ref q14, .ref q15, .ref q16, .ref q17, .null, .null, .null, .int 0, .int 0, .null, .int 0])), (q1, .inl (cs 0, 64, .inl (fun _ => 0))), (q2, .inl (cs 0, 80, .inl (fun _ => 0))), (q3, .inl (cs 0, 80, .inl (fun _ => 0))), (q4, .inl (cs 0, 80, .inl (fun _ => 0))), (q5, .inl (cs 0, 80, .inl (fun _ => 0))), (q6, .inl (cs 0, 4, .inl (fun _ => 0))), (q7, .inl (cs 3, 4, .inl (fun _ => 0))), (q8, .inl (cs 0, 4, .inl (fun _ => 0))), (q9, .inl (cs 0, 32, .inl (fun _ => 0))), (q10, .inl (cs 0, 4, .inl (fun _ => 0))), (q11, .inl (cs 0, 4, .inl (fun _ => 0))), (q12, .inl (cs 0, 4, .inl (fun _ => 0))), (q13, .inl (cs 0, 4, .inl (fun _ => 0))), (q14, .inl (cs 0, 32, .inl (fun _ => 0))), (q15, .inl (cs 0, 4, .inl (fun _ => 0))), (q16, .inl (cs 0, 4, .inl (fun _ => 0))), (q17, .inl (cs 2, 4, .inr (.inl (fun _ => 0)))), (q18, .inl (cs 0, 256, .inl (fun _ => 0)))] H := hP
  have hD : va_D A [(h0, .inr (5, [.int 0, .int 0, .int 0, .int 0, .ref q1, .int 0, .ref q2, .ref q3, .ref q4, .ref q5, .ref q6, .ref q7, .ref q8, .ref q9, .ref q10, .ref q11, .ref q12, .ref q13, .ref q14, .ref q15, .ref q16, .ref q17, .null, .null, .null, .int 0, .int 0, .null, .int 0])), (q1, .inl (cs 0, 64, .inl (fun _ => 0))), (q2, .inl (cs 0, 80, .inl (fun _ => 0))), (q3, .inl (cs 0, 80, .inl (fun _ => 0))), (q4, .inl (cs 0, 80, .inl (fun _ => 0))), (q5, .inl (cs 0, 80, .inl (fun _ => 0))), (q6, .inl (cs 0, 4, .inl (fun _ => 0))), (q7, .inl (cs 3, 4, .inl (fun _ => 0))), (q8, .inl (cs 0, 4, .inl (fun _ => 0))), (q9, .inl (cs 0, 32, .inl (fun _ => 0))), (q10, .inl (cs 0, 4, .inl (fun _ => 0))), (q11, .inl (cs 0, 4, .inl (fun _ => 0))), (q12, .inl (cs 0, 4, .inl (fun _ => 0))), (q13, .inl (cs 0, 4, .inl (fun _ => 0))), (q14, .inl (cs 0, 32, .inl (fun _ => 0))), (q15, .inl (cs 0, 4, .inl (fun _ => 0))), (q16, .inl (cs 0, 4, .inl (fun _ => 0))), (q17, .inl (cs 2, 4, .inr (.inl (fun _ => 0)))), (q18, .inl (cs 0, 256, .inl (fun _ => 0)))] := hD
  refine va_putF (D := D) (ci := 5) (v := .ref q18) (ty := (.array .int)) (C := RX5) (T := TX5) (N := 29) hx hb hts iwX5_init_X5 tyX5 tyX5_ok nmX5 hown hK hP hD hS 0 rfl rfl 22 (by decide) (hts _ lkX5_init_63) (fun _ h9 => h9) rfl hin rfl (by decide +kernel) rfl rfl (Nat.le_of_ble_eq_true rfl) dX5_init_136 (fun H locs hP hD hS => ?_)
  have hP : va_P D vwCl [(h0, .inr (5, [.int 0, .int 0, .int 0, .int 0, .ref q1, .int 0, .ref q2, .ref q3, .ref q4, .ref q5, .ref q6, .ref q7, .ref q8, .ref q9, .ref q10, .ref q11, .ref q12, .ref q13, .ref q14, .ref q15, .ref q16, .ref q17, .ref q18, .null, .null, .int 0, .int 0, .null, .int 0])), (q1, .inl (cs 0, 64, .inl (fun _ => 0))), (q2, .inl (cs 0, 80, .inl (fun _ => 0))), (q3, .inl (cs 0, 80, .inl (fun _ => 0))), (q4, .inl (cs 0, 80, .inl (fun _ => 0))), (q5, .inl (cs 0, 80, .inl (fun _ => 0))), (q6, .inl (cs 0, 4, .inl (fun _ => 0))), (q7, .inl (cs 3, 4, .inl (fun _ => 0))), (q8, .inl (cs 0, 4, .inl (fun _ => 0))), (q9, .inl (cs 0, 32, .inl (fun _ => 0))), (q10, .inl (cs 0, 4, .inl (fun _ => 0))), (q11, .inl (cs 0, 4, .inl (fun _ => 0))), (q12, .inl (cs 0, 4, .inl (fun _ => 0))), (q13, .inl (cs 0, 4, .inl (fun _ => 0))), (q14, .inl (cs 0, 32, .inl (fun _ => 0))), (q15, .inl (cs 0, 4, .inl (fun _ => 0))), (q16, .inl (cs 0, 4, .inl (fun _ => 0))), (q17, .inl (cs 2, 4, .inr (.inl (fun _ => 0)))), (q18, .inl (cs 0, 256, .inl (fun _ => 0)))] H := hP
  have hD : va_D A [(h0, .inr (5, [.int 0, .int 0, .int 0, .int 0, .ref q1, .int 0, .ref q2, .ref q3, .ref q4, .ref q5, .ref q6, .ref q7, .ref q8, .ref q9, .ref q10, .ref q11, .ref q12, .ref q13, .ref q14, .ref q15, .ref q16, .ref q17, .ref q18, .null, .null, .int 0, .int 0, .null, .int 0])), (q1, .inl (cs 0, 64, .inl (fun _ => 0))), (q2, .inl (cs 0, 80, .inl (fun _ => 0))), (q3, .inl (cs 0, 80, .inl (fun _ => 0))), (q4, .inl (cs 0, 80, .inl (fun _ => 0))), (q5, .inl (cs 0, 80, .inl (fun _ => 0))), (q6, .inl (cs 0, 4, .inl (fun _ => 0))), (q7, .inl (cs 3, 4, .inl (fun _ => 0))), (q8, .inl (cs 0, 4, .inl (fun _ => 0))), (q9, .inl (cs 0, 32, .inl (fun _ => 0))), (q10, .inl (cs 0, 4, .inl (fun _ => 0))), (q11, .inl (cs 0, 4, .inl (fun _ => 0))), (q12, .inl (cs 0, 4, .inl (fun _ => 0))), (q13, .inl (cs 0, 4, .inl (fun _ => 0))), (q14, .inl (cs 0, 32, .inl (fun _ => 0))), (q15, .inl (cs 0, 4, .inl (fun _ => 0))), (q16, .inl (cs 0, 4, .inl (fun _ => 0))), (q17, .inl (cs 2, 4, .inr (.inl (fun _ => 0)))), (q18, .inl (cs 0, 256, .inl (fun _ => 0)))] := hD
  refine lv_aload_n hx hb dX5_init_139 rfl (lv_at hl 0 rfl) ?_
  refine lv_iconst (v := 4) hx hb dX5_init_140 (by decide) ?_
  refine g_newi (N' := 4) hx hb (hts _ lkX5_init_arrint) hK hP hD hS hA (by decide) rfl (Nat.le_of_ble_eq_true rfl) (Nat.le_of_ble_eq_true rfl) (Nat.le_of_ble_eq_true rfl) dX5_init_141 (fun q19 H hP hD hS => ?_)
  have hP : va_P D vwCl [(h0, .inr (5, [.int 0, .int 0, .int 0, .int 0, .ref q1, .int 0, .ref q2, .ref q3, .ref q4, .ref q5, .ref q6, .ref q7, .ref q8, .ref q9, .ref q10, .ref q11, .ref q12, .ref q13, .ref q14, .ref q15, .ref q16, .ref q17, .ref q18, .null, .null, .int 0, .int 0, .null, .int 0])), (q1, .inl (cs 0, 64, .inl (fun _ => 0))), (q2, .inl (cs 0, 80, .inl (fun _ => 0))), (q3, .inl (cs 0, 80, .inl (fun _ => 0))), (q4, .inl (cs 0, 80, .inl (fun _ => 0))), (q5, .inl (cs 0, 80, .inl (fun _ => 0))), (q6, .inl (cs 0, 4, .inl (fun _ => 0))), (q7, .inl (cs 3, 4, .inl (fun _ => 0))), (q8, .inl (cs 0, 4, .inl (fun _ => 0))), (q9, .inl (cs 0, 32, .inl (fun _ => 0))), (q10, .inl (cs 0, 4, .inl (fun _ => 0))), (q11, .inl (cs 0, 4, .inl (fun _ => 0))), (q12, .inl (cs 0, 4, .inl (fun _ => 0))), (q13, .inl (cs 0, 4, .inl (fun _ => 0))), (q14, .inl (cs 0, 32, .inl (fun _ => 0))), (q15, .inl (cs 0, 4, .inl (fun _ => 0))), (q16, .inl (cs 0, 4, .inl (fun _ => 0))), (q17, .inl (cs 2, 4, .inr (.inl (fun _ => 0)))), (q18, .inl (cs 0, 256, .inl (fun _ => 0))), (q19, .inl (cs 0, 4, .inl (fun _ => 0)))] H := hP
  have hD : va_D A [(h0, .inr (5, [.int 0, .int 0, .int 0, .int 0, .ref q1, .int 0, .ref q2, .ref q3, .ref q4, .ref q5, .ref q6, .ref q7, .ref q8, .ref q9, .ref q10, .ref q11, .ref q12, .ref q13, .ref q14, .ref q15, .ref q16, .ref q17, .ref q18, .null, .null, .int 0, .int 0, .null, .int 0])), (q1, .inl (cs 0, 64, .inl (fun _ => 0))), (q2, .inl (cs 0, 80, .inl (fun _ => 0))), (q3, .inl (cs 0, 80, .inl (fun _ => 0))), (q4, .inl (cs 0, 80, .inl (fun _ => 0))), (q5, .inl (cs 0, 80, .inl (fun _ => 0))), (q6, .inl (cs 0, 4, .inl (fun _ => 0))), (q7, .inl (cs 3, 4, .inl (fun _ => 0))), (q8, .inl (cs 0, 4, .inl (fun _ => 0))), (q9, .inl (cs 0, 32, .inl (fun _ => 0))), (q10, .inl (cs 0, 4, .inl (fun _ => 0))), (q11, .inl (cs 0, 4, .inl (fun _ => 0))), (q12, .inl (cs 0, 4, .inl (fun _ => 0))), (q13, .inl (cs 0, 4, .inl (fun _ => 0))), (q14, .inl (cs 0, 32, .inl (fun _ => 0))), (q15, .inl (cs 0, 4, .inl (fun _ => 0))), (q16, .inl (cs 0, 4, .inl (fun _ => 0))), (q17, .inl (cs 2, 4, .inr (.inl (fun _ => 0)))), (q18, .inl (cs 0, 256, .inl (fun _ => 0))), (q19, .inl (cs 0, 4, .inl (fun _ => 0)))] := hD
  refine va_putF (D := D) (ci := 5) (v := .ref q19) (ty := (.array .int)) (C := RX5) (T := TX5) (N := 29) hx hb hts iwX5_init_X5 tyX5 tyX5_ok nmX5 hown hK hP hD hS 0 rfl rfl 23 (by decide) (hts _ lkX5_init_66) (fun _ h9 => h9) rfl hin rfl (by decide +kernel) rfl rfl (Nat.le_of_ble_eq_true rfl) dX5_init_143 (fun H locs hP hD hS => ?_)
  have hP : va_P D vwCl [(h0, .inr (5, [.int 0, .int 0, .int 0, .int 0, .ref q1, .int 0, .ref q2, .ref q3, .ref q4, .ref q5, .ref q6, .ref q7, .ref q8, .ref q9, .ref q10, .ref q11, .ref q12, .ref q13, .ref q14, .ref q15, .ref q16, .ref q17, .ref q18, .ref q19, .null, .int 0, .int 0, .null, .int 0])), (q1, .inl (cs 0, 64, .inl (fun _ => 0))), (q2, .inl (cs 0, 80, .inl (fun _ => 0))), (q3, .inl (cs 0, 80, .inl (fun _ => 0))), (q4, .inl (cs 0, 80, .inl (fun _ => 0))), (q5, .inl (cs 0, 80, .inl (fun _ => 0))), (q6, .inl (cs 0, 4, .inl (fun _ => 0))), (q7, .inl (cs 3, 4, .inl (fun _ => 0))), (q8, .inl (cs 0, 4, .inl (fun _ => 0))), (q9, .inl (cs 0, 32, .inl (fun _ => 0))), (q10, .inl (cs 0, 4, .inl (fun _ => 0))), (q11, .inl (cs 0, 4, .inl (fun _ => 0))), (q12, .inl (cs 0, 4, .inl (fun _ => 0))), (q13, .inl (cs 0, 4, .inl (fun _ => 0))), (q14, .inl (cs 0, 32, .inl (fun _ => 0))), (q15, .inl (cs 0, 4, .inl (fun _ => 0))), (q16, .inl (cs 0, 4, .inl (fun _ => 0))), (q17, .inl (cs 2, 4, .inr (.inl (fun _ => 0)))), (q18, .inl (cs 0, 256, .inl (fun _ => 0))), (q19, .inl (cs 0, 4, .inl (fun _ => 0)))] H := hP
  have hD : va_D A [(h0, .inr (5, [.int 0, .int 0, .int 0, .int 0, .ref q1, .int 0, .ref q2, .ref q3, .ref q4, .ref q5, .ref q6, .ref q7, .ref q8, .ref q9, .ref q10, .ref q11, .ref q12, .ref q13, .ref q14, .ref q15, .ref q16, .ref q17, .ref q18, .ref q19, .null, .int 0, .int 0, .null, .int 0])), (q1, .inl (cs 0, 64, .inl (fun _ => 0))), (q2, .inl (cs 0, 80, .inl (fun _ => 0))), (q3, .inl (cs 0, 80, .inl (fun _ => 0))), (q4, .inl (cs 0, 80, .inl (fun _ => 0))), (q5, .inl (cs 0, 80, .inl (fun _ => 0))), (q6, .inl (cs 0, 4, .inl (fun _ => 0))), (q7, .inl (cs 3, 4, .inl (fun _ => 0))), (q8, .inl (cs 0, 4, .inl (fun _ => 0))), (q9, .inl (cs 0, 32, .inl (fun _ => 0))), (q10, .inl (cs 0, 4, .inl (fun _ => 0))), (q11, .inl (cs 0, 4, .inl (fun _ => 0))), (q12, .inl (cs 0, 4, .inl (fun _ => 0))), (q13, .inl (cs 0, 4, .inl (fun _ => 0))), (q14, .inl (cs 0, 32, .inl (fun _ => 0))), (q15, .inl (cs 0, 4, .inl (fun _ => 0))), (q16, .inl (cs 0, 4, .inl (fun _ => 0))), (q17, .inl (cs 2, 4, .inr (.inl (fun _ => 0)))), (q18, .inl (cs 0, 256, .inl (fun _ => 0))), (q19, .inl (cs 0, 4, .inl (fun _ => 0)))] := hD
  refine lv_aload_n hx hb dX5_init_146 rfl (lv_at hl 0 rfl) ?_
  refine lv_iconst (v := 4) hx hb dX5_init_147 (by decide) ?_
  refine g_newi (N' := 4) hx hb (hts _ lkX5_init_arrint) hK hP hD hS hA (by decide) rfl (Nat.le_of_ble_eq_true rfl) (Nat.le_of_ble_eq_true rfl) (Nat.le_of_ble_eq_true rfl) dX5_init_148 (fun q20 H hP hD hS => ?_)
  have hP : va_P D vwCl [(h0, .inr (5, [.int 0, .int 0, .int 0, .int 0, .ref q1, .int 0, .ref q2, .ref q3, .ref q4, .ref q5, .ref q6, .ref q7, .ref q8, .ref q9, .ref q10, .ref q11, .ref q12, .ref q13, .ref q14, .ref q15, .ref q16, .ref q17, .ref q18, .ref q19, .null, .int 0, .int 0, .null, .int 0])), (q1, .inl (cs 0, 64, .inl (fun _ => 0))), (q2, .inl (cs 0, 80, .inl (fun _ => 0))), (q3, .inl (cs 0, 80, .inl (fun _ => 0))), (q4, .inl (cs 0, 80, .inl (fun _ => 0))), (q5, .inl (cs 0, 80, .inl (fun _ => 0))), (q6, .inl (cs 0, 4, .inl (fun _ => 0))), (q7, .inl (cs 3, 4, .inl (fun _ => 0))), (q8, .inl (cs 0, 4, .inl (fun _ => 0))), (q9, .inl (cs 0, 32, .inl (fun _ => 0))), (q10, .inl (cs 0, 4, .inl (fun _ => 0))), (q11, .inl (cs 0, 4, .inl (fun _ => 0))), (q12, .inl (cs 0, 4, .inl (fun _ => 0))), (q13, .inl (cs 0, 4, .inl (fun _ => 0))), (q14, .inl (cs 0, 32, .inl (fun _ => 0))), (q15, .inl (cs 0, 4, .inl (fun _ => 0))), (q16, .inl (cs 0, 4, .inl (fun _ => 0))), (q17, .inl (cs 2, 4, .inr (.inl (fun _ => 0)))), (q18, .inl (cs 0, 256, .inl (fun _ => 0))), (q19, .inl (cs 0, 4, .inl (fun _ => 0))), (q20, .inl (cs 0, 4, .inl (fun _ => 0)))] H := hP
  have hD : va_D A [(h0, .inr (5, [.int 0, .int 0, .int 0, .int 0, .ref q1, .int 0, .ref q2, .ref q3, .ref q4, .ref q5, .ref q6, .ref q7, .ref q8, .ref q9, .ref q10, .ref q11, .ref q12, .ref q13, .ref q14, .ref q15, .ref q16, .ref q17, .ref q18, .ref q19, .null, .int 0, .int 0, .null, .int 0])), (q1, .inl (cs 0, 64, .inl (fun _ => 0))), (q2, .inl (cs 0, 80, .inl (fun _ => 0))), (q3, .inl (cs 0, 80, .inl (fun _ => 0))), (q4, .inl (cs 0, 80, .inl (fun _ => 0))), (q5, .inl (cs 0, 80, .inl (fun _ => 0))), (q6, .inl (cs 0, 4, .inl (fun _ => 0))), (q7, .inl (cs 3, 4, .inl (fun _ => 0))), (q8, .inl (cs 0, 4, .inl (fun _ => 0))), (q9, .inl (cs 0, 32, .inl (fun _ => 0))), (q10, .inl (cs 0, 4, .inl (fun _ => 0))), (q11, .inl (cs 0, 4, .inl (fun _ => 0))), (q12, .inl (cs 0, 4, .inl (fun _ => 0))), (q13, .inl (cs 0, 4, .inl (fun _ => 0))), (q14, .inl (cs 0, 32, .inl (fun _ => 0))), (q15, .inl (cs 0, 4, .inl (fun _ => 0))), (q16, .inl (cs 0, 4, .inl (fun _ => 0))), (q17, .inl (cs 2, 4, .inr (.inl (fun _ => 0)))), (q18, .inl (cs 0, 256, .inl (fun _ => 0))), (q19, .inl (cs 0, 4, .inl (fun _ => 0))), (q20, .inl (cs 0, 4, .inl (fun _ => 0)))] := hD
  refine va_putF (D := D) (ci := 5) (v := .ref q20) (ty := (.array .int)) (C := RX5) (T := TX5) (N := 29) hx hb hts iwX5_init_X5 tyX5 tyX5_ok nmX5 hown hK hP hD hS 0 rfl rfl 24 (by decide) (hts _ lkX5_init_69) (fun _ h9 => h9) rfl hin rfl (by decide +kernel) rfl rfl (Nat.le_of_ble_eq_true rfl) dX5_init_150 (fun H locs hP hD hS => ?_)
  have hP : va_P D vwCl [(h0, .inr (5, [.int 0, .int 0, .int 0, .int 0, .ref q1, .int 0, .ref q2, .ref q3, .ref q4, .ref q5, .ref q6, .ref q7, .ref q8, .ref q9, .ref q10, .ref q11, .ref q12, .ref q13, .ref q14, .ref q15, .ref q16, .ref q17, .ref q18, .ref q19, .ref q20, .int 0, .int 0, .null, .int 0])), (q1, .inl (cs 0, 64, .inl (fun _ => 0))), (q2, .inl (cs 0, 80, .inl (fun _ => 0))), (q3, .inl (cs 0, 80, .inl (fun _ => 0))), (q4, .inl (cs 0, 80, .inl (fun _ => 0))), (q5, .inl (cs 0, 80, .inl (fun _ => 0))), (q6, .inl (cs 0, 4, .inl (fun _ => 0))), (q7, .inl (cs 3, 4, .inl (fun _ => 0))), (q8, .inl (cs 0, 4, .inl (fun _ => 0))), (q9, .inl (cs 0, 32, .inl (fun _ => 0))), (q10, .inl (cs 0, 4, .inl (fun _ => 0))), (q11, .inl (cs 0, 4, .inl (fun _ => 0))), (q12, .inl (cs 0, 4, .inl (fun _ => 0))), (q13, .inl (cs 0, 4, .inl (fun _ => 0))), (q14, .inl (cs 0, 32, .inl (fun _ => 0))), (q15, .inl (cs 0, 4, .inl (fun _ => 0))), (q16, .inl (cs 0, 4, .inl (fun _ => 0))), (q17, .inl (cs 2, 4, .inr (.inl (fun _ => 0)))), (q18, .inl (cs 0, 256, .inl (fun _ => 0))), (q19, .inl (cs 0, 4, .inl (fun _ => 0))), (q20, .inl (cs 0, 4, .inl (fun _ => 0)))] H := hP
  have hD : va_D A [(h0, .inr (5, [.int 0, .int 0, .int 0, .int 0, .ref q1, .int 0, .ref q2, .ref q3, .ref q4, .ref q5, .ref q6, .ref q7, .ref q8, .ref q9, .ref q10, .ref q11, .ref q12, .ref q13, .ref q14, .ref q15, .ref q16, .ref q17, .ref q18, .ref q19, .ref q20, .int 0, .int 0, .null, .int 0])), (q1, .inl (cs 0, 64, .inl (fun _ => 0))), (q2, .inl (cs 0, 80, .inl (fun _ => 0))), (q3, .inl (cs 0, 80, .inl (fun _ => 0))), (q4, .inl (cs 0, 80, .inl (fun _ => 0))), (q5, .inl (cs 0, 80, .inl (fun _ => 0))), (q6, .inl (cs 0, 4, .inl (fun _ => 0))), (q7, .inl (cs 3, 4, .inl (fun _ => 0))), (q8, .inl (cs 0, 4, .inl (fun _ => 0))), (q9, .inl (cs 0, 32, .inl (fun _ => 0))), (q10, .inl (cs 0, 4, .inl (fun _ => 0))), (q11, .inl (cs 0, 4, .inl (fun _ => 0))), (q12, .inl (cs 0, 4, .inl (fun _ => 0))), (q13, .inl (cs 0, 4, .inl (fun _ => 0))), (q14, .inl (cs 0, 32, .inl (fun _ => 0))), (q15, .inl (cs 0, 4, .inl (fun _ => 0))), (q16, .inl (cs 0, 4, .inl (fun _ => 0))), (q17, .inl (cs 2, 4, .inr (.inl (fun _ => 0)))), (q18, .inl (cs 0, 256, .inl (fun _ => 0))), (q19, .inl (cs 0, 4, .inl (fun _ => 0))), (q20, .inl (cs 0, 4, .inl (fun _ => 0)))] := hD
  refine lv_aload_n hx hb dX5_init_153 rfl (lv_at hl 0 rfl) ?_
  refine lv_sipush (v := 400) hx hb dX5_init_154 (by decide) ?_
  refine g_newi (N' := 400) hx hb (hts _ lkX5_init_arrint) hK hP hD hS hA (by decide) rfl (Nat.le_of_ble_eq_true rfl) (Nat.le_of_ble_eq_true rfl) (Nat.le_of_ble_eq_true rfl) dX5_init_157 (fun q21 H hP hD hS => ?_)
  have hP : va_P D vwCl [(h0, .inr (5, [.int 0, .int 0, .int 0, .int 0, .ref q1, .int 0, .ref q2, .ref q3, .ref q4, .ref q5, .ref q6, .ref q7, .ref q8, .ref q9, .ref q10, .ref q11, .ref q12, .ref q13, .ref q14, .ref q15, .ref q16, .ref q17, .ref q18, .ref q19, .ref q20, .int 0, .int 0, .null, .int 0])), (q1, .inl (cs 0, 64, .inl (fun _ => 0))), (q2, .inl (cs 0, 80, .inl (fun _ => 0))), (q3, .inl (cs 0, 80, .inl (fun _ => 0))), (q4, .inl (cs 0, 80, .inl (fun _ => 0))), (q5, .inl (cs 0, 80, .inl (fun _ => 0))), (q6, .inl (cs 0, 4, .inl (fun _ => 0))), (q7, .inl (cs 3, 4, .inl (fun _ => 0))), (q8, .inl (cs 0, 4, .inl (fun _ => 0))), (q9, .inl (cs 0, 32, .inl (fun _ => 0))), (q10, .inl (cs 0, 4, .inl (fun _ => 0))), (q11, .inl (cs 0, 4, .inl (fun _ => 0))), (q12, .inl (cs 0, 4, .inl (fun _ => 0))), (q13, .inl (cs 0, 4, .inl (fun _ => 0))), (q14, .inl (cs 0, 32, .inl (fun _ => 0))), (q15, .inl (cs 0, 4, .inl (fun _ => 0))), (q16, .inl (cs 0, 4, .inl (fun _ => 0))), (q17, .inl (cs 2, 4, .inr (.inl (fun _ => 0)))), (q18, .inl (cs 0, 256, .inl (fun _ => 0))), (q19, .inl (cs 0, 4, .inl (fun _ => 0))), (q20, .inl (cs 0, 4, .inl (fun _ => 0))), (q21, .inl (cs 0, 400, .inl (fun _ => 0)))] H := hP
  have hD : va_D A [(h0, .inr (5, [.int 0, .int 0, .int 0, .int 0, .ref q1, .int 0, .ref q2, .ref q3, .ref q4, .ref q5, .ref q6, .ref q7, .ref q8, .ref q9, .ref q10, .ref q11, .ref q12, .ref q13, .ref q14, .ref q15, .ref q16, .ref q17, .ref q18, .ref q19, .ref q20, .int 0, .int 0, .null, .int 0])), (q1, .inl (cs 0, 64, .inl (fun _ => 0))), (q2, .inl (cs 0, 80, .inl (fun _ => 0))), (q3, .inl (cs 0, 80, .inl (fun _ => 0))), (q4, .inl (cs 0, 80, .inl (fun _ => 0))), (q5, .inl (cs 0, 80, .inl (fun _ => 0))), (q6, .inl (cs 0, 4, .inl (fun _ => 0))), (q7, .inl (cs 3, 4, .inl (fun _ => 0))), (q8, .inl (cs 0, 4, .inl (fun _ => 0))), (q9, .inl (cs 0, 32, .inl (fun _ => 0))), (q10, .inl (cs 0, 4, .inl (fun _ => 0))), (q11, .inl (cs 0, 4, .inl (fun _ => 0))), (q12, .inl (cs 0, 4, .inl (fun _ => 0))), (q13, .inl (cs 0, 4, .inl (fun _ => 0))), (q14, .inl (cs 0, 32, .inl (fun _ => 0))), (q15, .inl (cs 0, 4, .inl (fun _ => 0))), (q16, .inl (cs 0, 4, .inl (fun _ => 0))), (q17, .inl (cs 2, 4, .inr (.inl (fun _ => 0)))), (q18, .inl (cs 0, 256, .inl (fun _ => 0))), (q19, .inl (cs 0, 4, .inl (fun _ => 0))), (q20, .inl (cs 0, 4, .inl (fun _ => 0))), (q21, .inl (cs 0, 400, .inl (fun _ => 0)))] := hD
  refine va_putF (D := D) (ci := 5) (v := .ref q21) (ty := (.array .int)) (C := RX5) (T := TX5) (N := 29) hx hb hts iwX5_init_X5 tyX5 tyX5_ok nmX5 hown hK hP hD hS 0 rfl rfl 27 (by decide) (hts _ lkX5_init_72) (fun _ h9 => h9) rfl hin rfl (by decide +kernel) rfl rfl (Nat.le_of_ble_eq_true rfl) dX5_init_159 (fun H locs hP hD hS => ?_)
  have hP : va_P D vwCl [(h0, .inr (5, [.int 0, .int 0, .int 0, .int 0, .ref q1, .int 0, .ref q2, .ref q3, .ref q4, .ref q5, .ref q6, .ref q7, .ref q8, .ref q9, .ref q10, .ref q11, .ref q12, .ref q13, .ref q14, .ref q15, .ref q16, .ref q17, .ref q18, .ref q19, .ref q20, .int 0, .int 0, .ref q21, .int 0])), (q1, .inl (cs 0, 64, .inl (fun _ => 0))), (q2, .inl (cs 0, 80, .inl (fun _ => 0))), (q3, .inl (cs 0, 80, .inl (fun _ => 0))), (q4, .inl (cs 0, 80, .inl (fun _ => 0))), (q5, .inl (cs 0, 80, .inl (fun _ => 0))), (q6, .inl (cs 0, 4, .inl (fun _ => 0))), (q7, .inl (cs 3, 4, .inl (fun _ => 0))), (q8, .inl (cs 0, 4, .inl (fun _ => 0))), (q9, .inl (cs 0, 32, .inl (fun _ => 0))), (q10, .inl (cs 0, 4, .inl (fun _ => 0))), (q11, .inl (cs 0, 4, .inl (fun _ => 0))), (q12, .inl (cs 0, 4, .inl (fun _ => 0))), (q13, .inl (cs 0, 4, .inl (fun _ => 0))), (q14, .inl (cs 0, 32, .inl (fun _ => 0))), (q15, .inl (cs 0, 4, .inl (fun _ => 0))), (q16, .inl (cs 0, 4, .inl (fun _ => 0))), (q17, .inl (cs 2, 4, .inr (.inl (fun _ => 0)))), (q18, .inl (cs 0, 256, .inl (fun _ => 0))), (q19, .inl (cs 0, 4, .inl (fun _ => 0))), (q20, .inl (cs 0, 4, .inl (fun _ => 0))), (q21, .inl (cs 0, 400, .inl (fun _ => 0)))] H := hP
  have hD : va_D A [(h0, .inr (5, [.int 0, .int 0, .int 0, .int 0, .ref q1, .int 0, .ref q2, .ref q3, .ref q4, .ref q5, .ref q6, .ref q7, .ref q8, .ref q9, .ref q10, .ref q11, .ref q12, .ref q13, .ref q14, .ref q15, .ref q16, .ref q17, .ref q18, .ref q19, .ref q20, .int 0, .int 0, .ref q21, .int 0])), (q1, .inl (cs 0, 64, .inl (fun _ => 0))), (q2, .inl (cs 0, 80, .inl (fun _ => 0))), (q3, .inl (cs 0, 80, .inl (fun _ => 0))), (q4, .inl (cs 0, 80, .inl (fun _ => 0))), (q5, .inl (cs 0, 80, .inl (fun _ => 0))), (q6, .inl (cs 0, 4, .inl (fun _ => 0))), (q7, .inl (cs 3, 4, .inl (fun _ => 0))), (q8, .inl (cs 0, 4, .inl (fun _ => 0))), (q9, .inl (cs 0, 32, .inl (fun _ => 0))), (q10, .inl (cs 0, 4, .inl (fun _ => 0))), (q11, .inl (cs 0, 4, .inl (fun _ => 0))), (q12, .inl (cs 0, 4, .inl (fun _ => 0))), (q13, .inl (cs 0, 4, .inl (fun _ => 0))), (q14, .inl (cs 0, 32, .inl (fun _ => 0))), (q15, .inl (cs 0, 4, .inl (fun _ => 0))), (q16, .inl (cs 0, 4, .inl (fun _ => 0))), (q17, .inl (cs 2, 4, .inr (.inl (fun _ => 0)))), (q18, .inl (cs 0, 256, .inl (fun _ => 0))), (q19, .inl (cs 0, 4, .inl (fun _ => 0))), (q20, .inl (cs 0, 4, .inl (fun _ => 0))), (q21, .inl (cs 0, 400, .inl (fun _ => 0)))] := hD
  refine lv_aload_n hx hb dX5_init_162 rfl (lv_at hl 0 rfl) ?_
  refine lv_iload_n hx hb dX5_init_163 rfl (lv_at hl 1 rfl) ?_
  refine lv_iconst (v := 1) hx hb dX5_init_164 (by decide) ?_
  refine lv_iconst (v := 4) hx hb dX5_init_165 (by decide) ?_
  refine s_call (As := [.int x, .int 1, .int 4]) (rest := [.ref h0]) ⟨hx, hb, hml, hown, hts⟩ (kX5_nearS l x 1 4) (va_cwS 3 hts gX5_init_X5_near rfl rfl rfl (by decide +kernel) ⟨Nat.le_of_ble_eq_true rfl, Nat.le_of_ble_eq_true rfl⟩) hP hS hA hl.1 dX5_init_166 rfl rfl (Nat.le_of_ble_eq_true rfl) ⟨Nat.le_of_ble_eq_true rfl, Nat.le_of_ble_eq_true rfl⟩ (fun H locs hP hS => ?_)
  refine g_top (y := nI n) hn ?_
  refine va_putF (D := D) (ci := 5) (v := .int (nI n)) (ty := .int) (C := RX5) (T := TX5) (N := 29) hx hb hts iwX5_init_X5 tyX5 tyX5_ok nmX5 hown hK hP hD hS 0 rfl rfl 1 (by decide) (hts _ lkX5_init_79) (fun _ h9 => h9) rfl hin rfl (by decide +kernel) rfl rfl (Nat.le_of_ble_eq_true rfl) dX5_init_169 (fun H locs hP hD hS => ?_)
  have hP : va_P D vwCl [(h0, .inr (5, [.int 0, .int (nI n), .int 0, .int 0, .ref q1, .int 0, .ref q2, .ref q3, .ref q4, .ref q5, .ref q6, .ref q7, .ref q8, .ref q9, .ref q10, .ref q11, .ref q12, .ref q13, .ref q14, .ref q15, .ref q16, .ref q17, .ref q18, .ref q19, .ref q20, .int 0, .int 0, .ref q21, .int 0])), (q1, .inl (cs 0, 64, .inl (fun _ => 0))), (q2, .inl (cs 0, 80, .inl (fun _ => 0))), (q3, .inl (cs 0, 80, .inl (fun _ => 0))), (q4, .inl (cs 0, 80, .inl (fun _ => 0))), (q5, .inl (cs 0, 80, .inl (fun _ => 0))), (q6, .inl (cs 0, 4, .inl (fun _ => 0))), (q7, .inl (cs 3, 4, .inl (fun _ => 0))), (q8, .inl (cs 0, 4, .inl (fun _ => 0))), (q9, .inl (cs 0, 32, .inl (fun _ => 0))), (q10, .inl (cs 0, 4, .inl (fun _ => 0))), (q11, .inl (cs 0, 4, .inl (fun _ => 0))), (q12, .inl (cs 0, 4, .inl (fun _ => 0))), (q13, .inl (cs 0, 4, .inl (fun _ => 0))), (q14, .inl (cs 0, 32, .inl (fun _ => 0))), (q15, .inl (cs 0, 4, .inl (fun _ => 0))), (q16, .inl (cs 0, 4, .inl (fun _ => 0))), (q17, .inl (cs 2, 4, .inr (.inl (fun _ => 0)))), (q18, .inl (cs 0, 256, .inl (fun _ => 0))), (q19, .inl (cs 0, 4, .inl (fun _ => 0))), (q20, .inl (cs 0, 4, .inl (fun _ => 0))), (q21, .inl (cs 0, 400, .inl (fun _ => 0)))] H := hP
  have hD : va_D A [(h0, .inr (5, [.int 0, .int (nI n), .int 0, .int 0, .ref q1, .int 0, .ref q2, .ref q3, .ref q4, .ref q5, .ref q6, .ref q7, .ref q8, .ref q9, .ref q10, .ref q11, .ref q12, .ref q13, .ref q14, .ref q15, .ref q16, .ref q17, .ref q18, .ref q19, .ref q20, .int 0, .int 0, .ref q21, .int 0])), (q1, .inl (cs 0, 64, .inl (fun _ => 0))), (q2, .inl (cs 0, 80, .inl (fun _ => 0))), (q3, .inl (cs 0, 80, .inl (fun _ => 0))), (q4, .inl (cs 0, 80, .inl (fun _ => 0))), (q5, .inl (cs 0, 80, .inl (fun _ => 0))), (q6, .inl (cs 0, 4, .inl (fun _ => 0))), (q7, .inl (cs 3, 4, .inl (fun _ => 0))), (q8, .inl (cs 0, 4, .inl (fun _ => 0))), (q9, .inl (cs 0, 32, .inl (fun _ => 0))), (q10, .inl (cs 0, 4, .inl (fun _ => 0))), (q11, .inl (cs 0, 4, .inl (fun _ => 0))), (q12, .inl (cs 0, 4, .inl (fun _ => 0))), (q13, .inl (cs 0, 4, .inl (fun _ => 0))), (q14, .inl (cs 0, 32, .inl (fun _ => 0))), (q15, .inl (cs 0, 4, .inl (fun _ => 0))), (q16, .inl (cs 0, 4, .inl (fun _ => 0))), (q17, .inl (cs 2, 4, .inr (.inl (fun _ => 0)))), (q18, .inl (cs 0, 256, .inl (fun _ => 0))), (q19, .inl (cs 0, 4, .inl (fun _ => 0))), (q20, .inl (cs 0, 4, .inl (fun _ => 0))), (q21, .inl (cs 0, 400, .inl (fun _ => 0)))] := hD
  refine lv_aload_n hx hb dX5_init_172 rfl (lv_at hl 0 rfl) ?_
  refine lv_iconst (v := 1) hx hb dX5_init_173 (by decide) ?_
  refine lv_iload_n hx hb dX5_init_174 rfl (lv_at hl 2 rfl) ?_
  refine lv_iconst (v := 0) hx hb dX5_init_175 (by decide) ?_
  refine lv_iconst (v := 2) hx hb dX5_init_176 (by decide) ?_
  refine s_call (As := [.int y, .int 0, .int 2]) (rest := [.int 1, .ref h0]) ⟨hx, hb, hml, hown, hts⟩ (kX5_nearS l y 0 2) (va_cwS 3 hts gX5_init_X5_near rfl rfl rfl (by decide +kernel) ⟨Nat.le_of_ble_eq_true rfl, Nat.le_of_ble_eq_true rfl⟩) hP hS hA hl.1 dX5_init_177 rfl rfl (Nat.le_of_ble_eq_true rfl) ⟨Nat.le_of_ble_eq_true rfl, Nat.le_of_ble_eq_true rfl⟩ (fun H locs hP hS => ?_)
  refine lv_ishl hx hb dX5_init_180 ?_
  refine g_top (y := S) hS0.symm ?_
  refine va_putF (D := D) (ci := 5) (v := .int S) (ty := .int) (C := RX5) (T := TX5) (N := 29) hx hb hts iwX5_init_X5 tyX5 tyX5_ok nmX5 hown hK hP hD hS 0 rfl rfl 2 (by decide) (hts _ lkX5_init_83) (fun _ h9 => h9) rfl hin rfl (by decide +kernel) rfl rfl (Nat.le_of_ble_eq_true rfl) dX5_init_181 (fun H locs hP hD hS => ?_)
  have hP : va_P D vwCl [(h0, .inr (5, [.int 0, .int (nI n), .int S, .int 0, .ref q1, .int 0, .ref q2, .ref q3, .ref q4, .ref q5, .ref q6, .ref q7, .ref q8, .ref q9, .ref q10, .ref q11, .ref q12, .ref q13, .ref q14, .ref q15, .ref q16, .ref q17, .ref q18, .ref q19, .ref q20, .int 0, .int 0, .ref q21, .int 0])), (q1, .inl (cs 0, 64, .inl (fun _ => 0))), (q2, .inl (cs 0, 80, .inl (fun _ => 0))), (q3, .inl (cs 0, 80, .inl (fun _ => 0))), (q4, .inl (cs 0, 80, .inl (fun _ => 0))), (q5, .inl (cs 0, 80, .inl (fun _ => 0))), (q6, .inl (cs 0, 4, .inl (fun _ => 0))), (q7, .inl (cs 3, 4, .inl (fun _ => 0))), (q8, .inl (cs 0, 4, .inl (fun _ => 0))), (q9, .inl (cs 0, 32, .inl (fun _ => 0))), (q10, .inl (cs 0, 4, .inl (fun _ => 0))), (q11, .inl (cs 0, 4, .inl (fun _ => 0))), (q12, .inl (cs 0, 4, .inl (fun _ => 0))), (q13, .inl (cs 0, 4, .inl (fun _ => 0))), (q14, .inl (cs 0, 32, .inl (fun _ => 0))), (q15, .inl (cs 0, 4, .inl (fun _ => 0))), (q16, .inl (cs 0, 4, .inl (fun _ => 0))), (q17, .inl (cs 2, 4, .inr (.inl (fun _ => 0)))), (q18, .inl (cs 0, 256, .inl (fun _ => 0))), (q19, .inl (cs 0, 4, .inl (fun _ => 0))), (q20, .inl (cs 0, 4, .inl (fun _ => 0))), (q21, .inl (cs 0, 400, .inl (fun _ => 0)))] H := hP
  have hD : va_D A [(h0, .inr (5, [.int 0, .int (nI n), .int S, .int 0, .ref q1, .int 0, .ref q2, .ref q3, .ref q4, .ref q5, .ref q6, .ref q7, .ref q8, .ref q9, .ref q10, .ref q11, .ref q12, .ref q13, .ref q14, .ref q15, .ref q16, .ref q17, .ref q18, .ref q19, .ref q20, .int 0, .int 0, .ref q21, .int 0])), (q1, .inl (cs 0, 64, .inl (fun _ => 0))), (q2, .inl (cs 0, 80, .inl (fun _ => 0))), (q3, .inl (cs 0, 80, .inl (fun _ => 0))), (q4, .inl (cs 0, 80, .inl (fun _ => 0))), (q5, .inl (cs 0, 80, .inl (fun _ => 0))), (q6, .inl (cs 0, 4, .inl (fun _ => 0))), (q7, .inl (cs 3, 4, .inl (fun _ => 0))), (q8, .inl (cs 0, 4, .inl (fun _ => 0))), (q9, .inl (cs 0, 32, .inl (fun _ => 0))), (q10, .inl (cs 0, 4, .inl (fun _ => 0))), (q11, .inl (cs 0, 4, .inl (fun _ => 0))), (q12, .inl (cs 0, 4, .inl (fun _ => 0))), (q13, .inl (cs 0, 4, .inl (fun _ => 0))), (q14, .inl (cs 0, 32, .inl (fun _ => 0))), (q15, .inl (cs 0, 4, .inl (fun _ => 0))), (q16, .inl (cs 0, 4, .inl (fun _ => 0))), (q17, .inl (cs 2, 4, .inr (.inl (fun _ => 0)))), (q18, .inl (cs 0, 256, .inl (fun _ => 0))), (q19, .inl (cs 0, 4, .inl (fun _ => 0))), (q20, .inl (cs 0, 4, .inl (fun _ => 0))), (q21, .inl (cs 0, 400, .inl (fun _ => 0)))] := hD
  refine lv_aload_n hx hb dX5_init_184 rfl (lv_at hl 0 rfl) ?_
  refine lv_iload_n hx hb dX5_init_185 rfl (lv_at hl 3 rfl) ?_
  refine lv_iconst (v := 1) hx hb dX5_init_186 (by decide) ?_
  refine lv_iconst (v := 4) hx hb dX5_init_187 (by decide) ?_
  refine s_call (As := [.int z, .int 1, .int 4]) (rest := [.ref h0]) ⟨hx, hb, hml, hown, hts⟩ (kX5_nearS l z 1 4) (va_cwS 3 hts gX5_init_X5_near rfl rfl rfl (by decide +kernel) ⟨Nat.le_of_ble_eq_true rfl, Nat.le_of_ble_eq_true rfl⟩) hP hS hA hl.1 dX5_init_188 rfl rfl (Nat.le_of_ble_eq_true rfl) ⟨Nat.le_of_ble_eq_true rfl, Nat.le_of_ble_eq_true rfl⟩ (fun H locs hP hS => ?_)
  refine va_putF (D := D) (ci := 5) (v := .int (clp z 1 4)) (ty := .int) (C := RX5) (T := TX5) (N := 29) hx hb hts iwX5_init_X5 tyX5 tyX5_ok nmX5 hown hK hP hD hS 0 rfl rfl 3 (by decide) (hts _ lkX5_init_86) (fun _ h9 => h9) rfl hin rfl (by decide +kernel) rfl rfl (Nat.le_of_ble_eq_true rfl) dX5_init_191 (fun H locs hP hD hS => ?_)
  have hP : va_P D vwCl [(h0, .inr (5, [.int 0, .int (nI n), .int S, .int (clp z 1 4), .ref q1, .int 0, .ref q2, .ref q3, .ref q4, .ref q5, .ref q6, .ref q7, .ref q8, .ref q9, .ref q10, .ref q11, .ref q12, .ref q13, .ref q14, .ref q15, .ref q16, .ref q17, .ref q18, .ref q19, .ref q20, .int 0, .int 0, .ref q21, .int 0])), (q1, .inl (cs 0, 64, .inl (fun _ => 0))), (q2, .inl (cs 0, 80, .inl (fun _ => 0))), (q3, .inl (cs 0, 80, .inl (fun _ => 0))), (q4, .inl (cs 0, 80, .inl (fun _ => 0))), (q5, .inl (cs 0, 80, .inl (fun _ => 0))), (q6, .inl (cs 0, 4, .inl (fun _ => 0))), (q7, .inl (cs 3, 4, .inl (fun _ => 0))), (q8, .inl (cs 0, 4, .inl (fun _ => 0))), (q9, .inl (cs 0, 32, .inl (fun _ => 0))), (q10, .inl (cs 0, 4, .inl (fun _ => 0))), (q11, .inl (cs 0, 4, .inl (fun _ => 0))), (q12, .inl (cs 0, 4, .inl (fun _ => 0))), (q13, .inl (cs 0, 4, .inl (fun _ => 0))), (q14, .inl (cs 0, 32, .inl (fun _ => 0))), (q15, .inl (cs 0, 4, .inl (fun _ => 0))), (q16, .inl (cs 0, 4, .inl (fun _ => 0))), (q17, .inl (cs 2, 4, .inr (.inl (fun _ => 0)))), (q18, .inl (cs 0, 256, .inl (fun _ => 0))), (q19, .inl (cs 0, 4, .inl (fun _ => 0))), (q20, .inl (cs 0, 4, .inl (fun _ => 0))), (q21, .inl (cs 0, 400, .inl (fun _ => 0)))] H := hP
  have hD : va_D A [(h0, .inr (5, [.int 0, .int (nI n), .int S, .int (clp z 1 4), .ref q1, .int 0, .ref q2, .ref q3, .ref q4, .ref q5, .ref q6, .ref q7, .ref q8, .ref q9, .ref q10, .ref q11, .ref q12, .ref q13, .ref q14, .ref q15, .ref q16, .ref q17, .ref q18, .ref q19, .ref q20, .int 0, .int 0, .ref q21, .int 0])), (q1, .inl (cs 0, 64, .inl (fun _ => 0))), (q2, .inl (cs 0, 80, .inl (fun _ => 0))), (q3, .inl (cs 0, 80, .inl (fun _ => 0))), (q4, .inl (cs 0, 80, .inl (fun _ => 0))), (q5, .inl (cs 0, 80, .inl (fun _ => 0))), (q6, .inl (cs 0, 4, .inl (fun _ => 0))), (q7, .inl (cs 3, 4, .inl (fun _ => 0))), (q8, .inl (cs 0, 4, .inl (fun _ => 0))), (q9, .inl (cs 0, 32, .inl (fun _ => 0))), (q10, .inl (cs 0, 4, .inl (fun _ => 0))), (q11, .inl (cs 0, 4, .inl (fun _ => 0))), (q12, .inl (cs 0, 4, .inl (fun _ => 0))), (q13, .inl (cs 0, 4, .inl (fun _ => 0))), (q14, .inl (cs 0, 32, .inl (fun _ => 0))), (q15, .inl (cs 0, 4, .inl (fun _ => 0))), (q16, .inl (cs 0, 4, .inl (fun _ => 0))), (q17, .inl (cs 2, 4, .inr (.inl (fun _ => 0)))), (q18, .inl (cs 0, 256, .inl (fun _ => 0))), (q19, .inl (cs 0, 4, .inl (fun _ => 0))), (q20, .inl (cs 0, 4, .inl (fun _ => 0))), (q21, .inl (cs 0, 400, .inl (fun _ => 0)))] := hD
  obtain ⟨ad, e0, e1, e2, e3, e4, e5, e6, e7, e8, e9, e10, e11, e12, e13, e14, e15, e16, e17, e18, e19, e20, e21⟩ : ∃ ad : Nat → Nat, h0 = ad 0 ∧ q1 = ad 1 ∧ q2 = ad 2 ∧ q3 = ad 3 ∧ q4 = ad 4 ∧ q5 = ad 5 ∧ q6 = ad 6 ∧ q7 = ad 7 ∧ q8 = ad 8 ∧ q9 = ad 9 ∧ q10 = ad 10 ∧ q11 = ad 11 ∧ q12 = ad 12 ∧ q13 = ad 13 ∧ q14 = ad 14 ∧ q15 = ad 15 ∧ q16 = ad 16 ∧ q17 = ad 17 ∧ q18 = ad 18 ∧ q19 = ad 19 ∧ q20 = ad 20 ∧ q21 = ad 21 := ⟨fun i => [h0, q1, q2, q3, q4, q5, q6, q7, q8, q9, q10, q11, q12, q13, q14, q15, q16, q17, q18, q19, q20, q21].getD i 0, rfl, rfl, rfl, rfl, rfl, rfl, rfl, rfl, rfl, rfl, rfl, rfl, rfl, rfl, rfl, rfl, rfl, rfl, rfl, rfl, rfl, rfl⟩
  have eL : [(h0, .inr (5, [.int 0, .int (nI n), .int S, .int (clp z 1 4), .ref q1, .int 0, .ref q2, .ref q3, .ref q4, .ref q5, .ref q6, .ref q7, .ref q8, .ref q9, .ref q10, .ref q11, .ref q12, .ref q13, .ref q14, .ref q15, .ref q16, .ref q17, .ref q18, .ref q19, .ref q20, .int 0, .int 0, .ref q21, .int 0])), (q1, .inl (cs 0, 64, .inl (fun _ => 0))), (q2, .inl (cs 0, 80, .inl (fun _ => 0))), (q3, .inl (cs 0, 80, .inl (fun _ => 0))), (q4, .inl (cs 0, 80, .inl (fun _ => 0))), (q5, .inl (cs 0, 80, .inl (fun _ => 0))), (q6, .inl (cs 0, 4, .inl (fun _ => 0))), (q7, .inl (cs 3, 4, .inl (fun _ => 0))), (q8, .inl (cs 0, 4, .inl (fun _ => 0))), (q9, .inl (cs 0, 32, .inl (fun _ => 0))), (q10, .inl (cs 0, 4, .inl (fun _ => 0))), (q11, .inl (cs 0, 4, .inl (fun _ => 0))), (q12, .inl (cs 0, 4, .inl (fun _ => 0))), (q13, .inl (cs 0, 4, .inl (fun _ => 0))), (q14, .inl (cs 0, 32, .inl (fun _ => 0))), (q15, .inl (cs 0, 4, .inl (fun _ => 0))), (q16, .inl (cs 0, 4, .inl (fun _ => 0))), (q17, .inl (cs 2, 4, .inr (.inl (fun _ => 0)))), (q18, .inl (cs 0, 256, .inl (fun _ => 0))), (q19, .inl (cs 0, 4, .inl (fun _ => 0))), (q20, .inl (cs 0, 4, .inl (fun _ => 0))), (q21, .inl (cs 0, 400, .inl (fun _ => 0)))] = FW 22 ad (CR cs n ad 0 0 (s0 S (clp z 1 4))) := by
    refine FW_eq rfl (fun i hi => ?_)
    simp only [e0, e1, e2, e3, e4, e5, e6, e7, e8, e9, e10, e11, e12, e13, e14, e15, e16, e17, e18, e19, e20, e21]
    rcases (show i = 0 ∨ i = 1 ∨ i = 2 ∨ i = 3 ∨ i = 4 ∨ i = 5 ∨ i = 6 ∨ i = 7 ∨ i = 8 ∨ i = 9 ∨ i = 10 ∨ i = 11 ∨ i = 12 ∨ i = 13 ∨ i = 14 ∨ i = 15 ∨ i = 16 ∨ i = 17 ∨ i = 18 ∨ i = 19 ∨ i = 20 ∨ i = 21 by omega) with rfl | rfl | rfl | rfl | rfl | rfl | rfl | rfl | rfl | rfl | rfl | rfl | rfl | rfl | rfl | rfl | rfl | rfl | rfl | rfl | rfl | rfl <;> rfl
  rw [eL] at hP hD
  exact hret _ _ ad _ _ dX5_init_194 hP hD hS e0.symm

def CI (cs : Nat → ClassId) (n i : Nat) (ad : Nat → Nat) (σ : St) : Nat → va_E := fun x => if x = 1 then .inl (cs 1, n, .inr (.inr (.inr (.inr (fun j => if j < i then some (ad (5 * (j + 2) + 0)) else none))))) else CC cs n ad σ x
def ad5 (ad : Nat → Nat) (N a b c d e : Nat) : Nat → Nat := fun k => if k < N then ad k else if k = N + 0 then a else if k = N + 1 then b else if k = N + 2 then c else if k = N + 3 then d else e
theorem ad5_lt {ad : Nat → Nat} {N a b c d e k : Nat} (h : k < N) : ad5 ad N a b c d e k = ad k := if_pos h
theorem ad5_0 {ad : Nat → Nat} {N a b c d e : Nat} : ad5 ad N a b c d e (N + 0) = a := by simp [ad5]
theorem ad5_1 {ad : Nat → Nat} {N a b c d e : Nat} : ad5 ad N a b c d e (N + 1) = b := by unfold ad5; rw [if_neg (by omega), if_neg (by omega), if_pos rfl]
theorem ad5_2 {ad : Nat → Nat} {N a b c d e : Nat} : ad5 ad N a b c d e (N + 2) = c := by unfold ad5; rw [if_neg (by omega), if_neg (by omega), if_neg (by omega), if_pos rfl]
theorem ad5_3 {ad : Nat → Nat} {N a b c d e : Nat} : ad5 ad N a b c d e (N + 3) = d := by unfold ad5; rw [if_neg (by omega), if_neg (by omega), if_neg (by omega), if_neg (by omega), if_pos rfl]
theorem ad5_4 {ad : Nat → Nat} {N a b c d e : Nat} : ad5 ad N a b c d e (N + 4) = e := by unfold ad5; rw [if_neg (by omega), if_neg (by omega), if_neg (by omega), if_neg (by omega), if_neg (by omega)]
theorem CC_ad {cs : Nat → ClassId} {n : Nat} {ad ad' : Nat → Nat} {σ : St} {i x : Nat} (h : ∀ k, k < 5 * (i + 2) → ad' k = ad k) (hx : x < 5 * (i + 2)) (hx1 : x ≠ 1) : CC cs n ad' σ x = CC cs n ad σ x := by
  have hr : x / 5 < i + 2 := by omega
  have hc : x % 5 < 5 := Nat.mod_lt _ (by decide)
  have hx2 : ¬ (x / 5 = 0 ∧ x % 5 = 1) := by omega
  show CQ cs n ad' σ (x / 5) (x % 5) = CQ cs n ad σ (x / 5) (x % 5)
  generalize x / 5 = r at hr hx2
  generalize x % 5 = c at hc hx2
  rcases r with _ | _ | k
  · rcases (show c = 0 ∨ c = 1 ∨ c = 2 ∨ c = 3 ∨ c = 4 by omega) with rfl | rfl | rfl | rfl | rfl
    · simp only [CQ, h 1 (by omega), h 2 (by omega), h 3 (by omega), h 4 (by omega)]
    · exact absurd ⟨rfl, rfl⟩ hx2
    · rfl
    · simp only [CQ, h 5 (by omega), h 6 (by omega), h 7 (by omega), h 8 (by omega)]
    · simp only [CQ, h 9 (by omega)]
  · rcases (show c = 0 ∨ c = 1 ∨ c = 2 ∨ c = 3 ∨ c = 4 by omega) with rfl | rfl | rfl | rfl | rfl <;> rfl
  · rcases (show c = 0 ∨ c = 1 ∨ c = 2 ∨ c = 3 ∨ c = 4 by omega) with rfl | rfl | rfl | rfl | rfl
    · simp only [CQ, h (5 * (k + 2) + 1) (by omega), h (5 * (k + 2) + 2) (by omega)]
    · rfl
    · simp only [CQ, h (5 * (k + 2) + 3) (by omega), h (5 * (k + 2) + 4) (by omega)]
    · rfl
    · rfl
abbrev coreW (cs : Nat → ClassId) (i q a b c d : Nat) : va_W := [(q, .inr (0, [.int (nI i), .ref a, .ref b, .int 0, .int 0, .int 0, .int 0, .int 0])), (a, .inl (cs 0, 8, .inl (fun _ => 0))), (b, .inr (3, [.ref c, .ref d, .int 0, .int 0, .int 0, .int 0, .int 0, .int 0, .long 0])), (c, .inl (cs 0, 8, .inl (fun _ => 0))), (d, .inl (cs 0, 64, .inl (fun _ => 0)))]
abbrev corE (cs : Nat → ClassId) (n : Nat) (f : Nat → Option Nat) : va_E := .inl (cs 1, n, .inr (.inr (.inr (.inr f))))
theorem CI_next {cs : Nat → ClassId} {n i : Nat} {ad : Nat → Nat} {S Wy : Int32} {q a b c d : Nat} : (FW (5 * (i + 2)) ad (CI cs n i ad (s0 S Wy)) ++ coreW cs i q a b c d).set 1 (ad 1, corE cs n (va_up (fun j => if j < i then some (ad (5 * (j + 2) + 0)) else none) i (some q))) = FW (5 * (i + 1 + 2)) (ad5 ad (5 * (i + 2)) q a b c d) (CI cs n (i + 1) (ad5 ad (5 * (i + 2)) q a b c d) (s0 S Wy)) := by
  have hlt : ∀ k, k < 5 * (i + 2) → ad5 ad (5 * (i + 2)) q a b c d k = ad k := fun k h => ad5_lt h
  refine FW_eq (by rw [List.length_set, List.length_append, FW_len]; rfl) (fun x hx => ?_)
  by_cases h1 : x = 1
  · subst h1
    rw [List.getElem?_set_self (by rw [List.length_append, FW_len]; omega), hlt 1 (by omega)]
    show some (ad 1, corE cs n _) = some (ad 1, corE cs n (fun j => if j < i + 1 then some (ad5 ad (5 * (i + 2)) q a b c d (5 * (j + 2) + 0)) else none))
    have e : va_up (fun j => if j < i then some (ad (5 * (j + 2) + 0)) else none) i (some q) = fun j => if j < i + 1 then some (ad5 ad (5 * (i + 2)) q a b c d (5 * (j + 2) + 0)) else none := by
      funext j
      by_cases hj : j = i
      · subst hj
        rw [va_up_self, if_pos (Nat.lt_succ_self j), ad5_0]
      · rw [va_up_ne _ _ hj]
        by_cases h2 : j < i
        · rw [if_pos h2, if_pos (by omega), hlt _ (by omega)]
        · rw [if_neg h2, if_neg (by omega)]
    rw [e]
  · rw [List.getElem?_set_ne (Ne.symm h1)]
    have hci : ∀ y, y ≠ 1 → CI cs n (i + 1) (ad5 ad (5 * (i + 2)) q a b c d) (s0 S Wy) y = CC cs n (ad5 ad (5 * (i + 2)) q a b c d) (s0 S Wy) y := fun y hy => if_neg hy
    rw [hci x h1]
    by_cases h2 : x < 5 * (i + 2)
    · rw [List.getElem?_append_left (by rw [FW_len]; exact h2), FW_get (e := CC cs n ad (s0 S Wy) x) h2 (if_neg h1), hlt x h2, CC_ad hlt h2 h1]
    · rw [List.getElem?_append_right (by rw [FW_len]; omega), FW_len]
      rcases (show x = 5 * (i + 2) + 0 ∨ x = 5 * (i + 2) + 1 ∨ x = 5 * (i + 2) + 2 ∨ x = 5 * (i + 2) + 3 ∨ x = 5 * (i + 2) + 4 by omega) with rfl | rfl | rfl | rfl | rfl
      · rw [CC_at _ _ _ _ _ _ (by decide), Nat.add_sub_cancel_left, ad5_0]; simp only [CQ, ad5_1, ad5_2]; rfl
      · rw [CC_at _ _ _ _ _ _ (by decide), Nat.add_sub_cancel_left, ad5_1]; rfl
      · rw [CC_at _ _ _ _ _ _ (by decide), Nat.add_sub_cancel_left, ad5_2]; simp only [CQ, ad5_3, ad5_4]; rfl
      · rw [CC_at _ _ _ _ _ _ (by decide), Nat.add_sub_cancel_left, ad5_3]; rfl
      · rw [CC_at _ _ _ _ _ _ (by decide), Nat.add_sub_cancel_left, ad5_4]; rfl

theorem iwX4_init_X0 : ∀ w ∈ wsX00, w ∈ wsX4_init := fun w h => by unfold wsX4_init; simp only [List.mem_cons, List.mem_append, h, true_or, or_true]
theorem iwX4_init_X1 : ∀ w ∈ wsX10, w ∈ wsX4_init := fun w h => by unfold wsX4_init; simp only [List.mem_cons, List.mem_append, h, true_or, or_true]
theorem iwX4_init_X2 : ∀ w ∈ wsX20, w ∈ wsX4_init := fun w h => by unfold wsX4_init; simp only [List.mem_cons, List.mem_append, h, true_or, or_true]
theorem iwX4_init_X4 : ∀ w ∈ wsX40, w ∈ wsX4_init := fun w h => by unfold wsX4_init; simp only [List.mem_cons, List.mem_append, h, true_or, or_true]
theorem lkX4_init_o1 : Cond.methodLink RX4 1 objectInit ∈ wsX4_init := by decide +kernel
theorem lkX4_init_o2 : Cond.instanceMethod objectInit ∈ wsX4_init := by decide +kernel
theorem lkX4_init_o3 : Cond.code objectInit ⟨#[0xb1]⟩ 1 none ∈ wsX4_init := by decide +kernel
theorem lkX4_init_arrint : Cond.arrayClass .int ∈ wsX4_init := by decide +kernel
theorem lkX4_init_9 : Cond.fieldLink RX4 9 "CoreTransactions" "memory" "[I" ∈ wsX4_init := by decide +kernel
theorem lkX4_init_cX1 : Cond.classLink RX4 13 RX1 ∈ wsX4_init := by decide +kernel
theorem lkX4_init_nX1 : Cond.instantiable RX1 5 ∈ wsX4_init := by decide +kernel
theorem lkX4_init_zX1 : Cond.initialized RX1 ∈ wsX4_init := by decide +kernel
theorem lkX4_init_iX1 : Cond.instanceMethod yX1_init ∈ wsX4_init := by decide +kernel
theorem lkX4_init_16 : Cond.fieldLink RX4 16 "CoreTransactions" "program" "LCoreTransactions$Program;" ∈ wsX4_init := by decide +kernel
theorem lkX4_init_cX2 : Cond.classLink RX4 20 RX2 ∈ wsX4_init := by decide +kernel
theorem lkX4_init_nX2 : Cond.instantiable RX2 3 ∈ wsX4_init := by decide +kernel
theorem lkX4_init_zX2 : Cond.initialized RX2 ∈ wsX4_init := by decide +kernel
theorem lkX4_init_iX2 : Cond.instanceMethod yX2_init ∈ wsX4_init := by decide +kernel
theorem lkX4_init_23 : Cond.fieldLink RX4 23 "CoreTransactions" "broken" "LCoreTransactions$Records;" ∈ wsX4_init := by decide +kernel
theorem lkX4_init_31 : Cond.fieldLink RX4 31 "CoreTransactions" "sets" "I" ∈ wsX4_init := by decide +kernel
theorem lkX4_init_35 : Cond.fieldLink RX4 35 "CoreTransactions" "ways" "I" ∈ wsX4_init := by decide +kernel
theorem lkX4_init_cX0 : Cond.classLink RX4 38 RX0 ∈ wsX4_init := by decide +kernel
theorem lkX4_init_40 : Cond.fieldLink RX4 40 "CoreTransactions" "cores" "[LCoreTransactions$Core;" ∈ wsX4_init := by decide +kernel
theorem lkX4_init_nX0 : Cond.instantiable RX0 8 ∈ wsX4_init := by decide +kernel
theorem lkX4_init_zX0 : Cond.initialized RX0 ∈ wsX4_init := by decide +kernel
theorem lkX4_init_mX0 : Cond.methodLink RX4 44 yX0_init ∈ wsX4_init := by decide +kernel
theorem lkX4_init_iX0 : Cond.instanceMethod yX0_init ∈ wsX4_init := by decide +kernel
abbrev rmX4_init : Room := ({ frames := 3, cells := 29, slots := 1184, locals := 53 } : Room)
set_option maxRecDepth 100000 in
set_option maxHeartbeats 8000000 in
theorem init_loop (l : Launch) (D : va_G) (cs : Nat → ClassId) (n : Nat) (hn1 : 1 ≤ n) (hn4 : n ≤ 4) (S Wy x y z : Int32) {p : Program} {e : Env} {s : State} {m : MethodId} {args : Array Value} {below : List Frame} {meth : Method} {c : Code} {A : Nat → Prop} {Q : State → Prop} {h0 : Nat} (hx : p.tables.exec = Jvm.exec) (hb : c.code = cX4_init) (hml : c.maxLocals = 6) (hts : ∀ w ∈ wsX4_init, w.before args s = true) (hown : s.vm.findClass RX4 = some m.cls) (hK : va_K D vwCl (tyL cs) s) (hN : NX s) (hA : ∀ q : Nat, s.heap.size ≤ q → A q)
    (hret : ∀ (H : Heap) (locs : List Loc) (u : Nat → Nat) (pc : Nat) (ls : Array Slot), decode cX4_init pc = .ok (.return_, 1) → va_P D vwCl (FW (5 * (n + 2)) u (CC cs n u (s0 S Wy))) H → va_D A (FW (5 * (n + 2)) u (CC cs n u (s0 S Wy))) → va_S A s.heap H locs → u 0 = h0 → W p l e rmX4_init s m args below meth c H locs 29 1184 Q (F0 m pc ls [])) :
    ∀ (d i : Nat), i + d = n → ∀ (ad : Nat → Nat), ad 0 = h0 → ∀ (H : Heap) (locs : List Loc) (ls : Array Slot), va_P D vwCl (FW (5 * (i + 2)) ad (CI cs n i ad (s0 S Wy))) H → va_D A (FW (5 * (i + 2)) ad (CI cs n i ad (s0 S Wy))) → va_S A s.heap H locs → lv_has ls 6 [(0, .ref (ad 0)), (4, .int (nI n)), (5, .int (nI i))] → W p l e rmX4_init s m args below meth c H locs (9 + 5 * i) (796 + 97 * i) Q (F0 m 76 ls []) := by
  intro d
  induction d with
  | zero =>
    intro i hi ad h0e H locs ls hP hD hS hl
    have hE : i = n := by omega
    subst hE
    refine W.widen (k := 29) (n := 1184) (by omega) (by omega) ?_
    refine lv_iload hx hb dX4_init_76 (lv_at hl 2 rfl) ?_
    refine lv_iload hx hb dX4_init_78 (lv_at hl 1 rfl) ?_
    refine lv_icmp_ge (tgt := 105) hx hb dX4_init_80 (by decide) (fun c1 => ?_) (fun c1 => absurd (Int32.le_refl _) c1)
    have hP2 : va_P D vwCl (FW (5 * (i + 2)) ad (CC cs i ad (s0 S Wy))) H := by
      rw [FW_at] at hP ⊢
      intro k hk
      have h := hP k hk
      by_cases h1 : k = 1
      · subst h1
        exact atq_cong (fun j hj => if_pos hj) h
      · rw [show CI cs i i ad (s0 S Wy) k = CC cs i ad (s0 S Wy) k from if_neg h1] at h
        exact h
    exact hret _ _ ad _ _ dX4_init_105 hP2 (FW_Dall hD _) hS h0e
  | succ d ih =>
    intro i hi ad h0e H locs ls hP hD hS hl
    have hi2 : i < n := by omega
    refine lv_iload hx hb dX4_init_76 (lv_at hl 2 rfl) ?_
    refine lv_iload hx hb dX4_init_78 (lv_at hl 1 rfl) ?_
    refine lv_icmp_ge (tgt := 105) hx hb dX4_init_80 (by decide) (fun c1 => absurd c1 (nI_ge hi2 (by omega))) (fun c1 => ?_)
    refine lv_aload_n hx hb dX4_init_83 rfl (lv_at hl 0 rfl) ?_
    refine va_get (D := D) (ci := 4) (v := .ref (ad 1)) (C := RX4) (T := TX4) (N := 7) hx hb hts iwX4_init_X4 hown hK hP 0 (FW_get (e := .inr (4, [.int S, .int Wy, .ref (ad 1), .ref (ad 2), .ref (ad 3), .ref (ad 4), .int 0])) (by omega) rfl) rfl 2 (by decide) (hts _ lkX4_init_40) (fun _ h9 => h9) rfl dX4_init_84 ?_
    refine lv_iload hx hb dX4_init_87 (lv_at hl 2 rfl) ?_
    refine va_new (D := D) (ci := 0) (fs := [.int 0, .null, .null, .int 0, .int 0, .int 0, .int 0, .int 0]) (C := RX0) (T := TX0) (N := 8) hx hb hts iwX4_init_X0 tyX0 tyX0_ok hown (hts _ lkX4_init_cX0) (hts _ lkX4_init_nX0) (hts _ lkX4_init_zX0) hK hP hD hS hA rfl (by decide +kernel) (by show 9 + 5 * i + 1 ≤ 29; omega) (by show 796 + 97 * i + 8 ≤ 1184; omega) dX4_init_89 (fun q H hP hD hS => ?_)
    refine lv_dup hx hb dX4_init_92 rfl ?_
    refine lv_iload hx hb dX4_init_93 (lv_at hl 2 rfl) ?_
    have gr : (FW (5 * (i + 2)) ad (CI cs n i ad (s0 S Wy)) ++ [(q, .inr (0, [.int 0, .null, .null, .int 0, .int 0, .int 0, .int 0, .int 0]))])[5 * (i + 2)]? = some (q, .inr (0, [.int 0, .null, .null, .int 0, .int 0, .int 0, .int 0, .int 0])) := by
      rw [List.getElem?_append_right (by rw [FW_len]; exact Nat.le_refl _), FW_len, Nat.sub_self]; rfl
    have hPc : va_P D vwCl [(q, .inr (0, [.int 0, .null, .null, .int 0, .int 0, .int 0, .int 0, .int 0]))] H := fun k z hk => by
      rcases k with _ | k
      · cases hk; exact hP _ _ gr
      · simp at hk
    have hDc : va_D A [(q, .inr (0, [.int 0, .null, .null, .int 0, .int 0, .int 0, .int 0, .int 0]))] := ⟨fun a b z1 z2 h1 h2 _ => by
      have h1' := (List.getElem?_eq_some_iff.mp h1).1
      have h2' := (List.getElem?_eq_some_iff.mp h2).1
      simp at h1' h2'
      omega, fun k z hk => by
      rcases k with _ | k
      · cases hk; exact hD.2 _ _ gr
      · simp at hk⟩
    refine i_backF (va_runI (As := [.int (nI i)]) (rest := [.ref q, .int (nI i), .ref (ad 1)]) ⟨hx, hb, hml, hown, hts⟩ (kX0_init l D cs q (nI i) H.size) (cwI 1 hts gX4_init_X0_init rfl rfl rfl (hts _ lkX4_init_zX0) (hts _ lkX4_init_mX0) (hts _ lkX4_init_iX0) rfl (by decide +kernel) ⟨Nat.le_of_ble_eq_true rfl, Nat.le_of_ble_eq_true rfl⟩) (i_pre hPc hK hDc hN) rfl rfl hl.1 rfl (lv_room (Nat.le_of_ble_eq_true rfl)) dX4_init_95 ⟨by show 9 + 5 * i + 1 + 4 ≤ 29; omega, by show 796 + 97 * i + 8 + 89 ≤ 1184; omega⟩) hP hD hS hA (fun u H locs _ hP hD hS => ?_)
    obtain ⟨a, b, c2, d2⟩ := u
    have hP : va_P D vwCl (FW (5 * (i + 2)) ad (CI cs n i ad (s0 S Wy)) ++ coreW cs i q a b c2 d2) H := hP
    have hD : va_D A (FW (5 * (i + 2)) ad (CI cs n i ad (s0 S Wy)) ++ coreW cs i q a b c2 d2) := hD
    refine va_astq hx hb hK hP hD hS 1 1 (5 * (i + 2)) 0 (r := (RX0, TX0, 8)) (by rw [List.getElem?_append_left (by rw [FW_len]; omega)]; exact FW_get (e := .inl (cs 1, n, .inr (.inr (.inr (.inr (fun j => if j < i then some (ad (5 * (j + 2) + 0)) else none)))))) (by omega) (if_pos rfl)) rfl (by rw [List.getElem?_append_right (by rw [FW_len]; exact Nat.le_refl _), FW_len, Nat.sub_self]; rfl) rfl (vp_in_nI hi2 (by omega)) dX4_init_98 (fun H locs hP hD hS => ?_)
    rw [nI_clamp (show i < 2 ^ 31 by omega)] at hP hD
    have hP : va_P D vwCl (FW (5 * (i + 1 + 2)) (ad5 ad (5 * (i + 2)) q a b c2 d2) (CI cs n (i + 1) (ad5 ad (5 * (i + 2)) q a b c2 d2) (s0 S Wy))) H := by rw [← CI_next]; exact hP
    have hD : va_D A (FW (5 * (i + 1 + 2)) (ad5 ad (5 * (i + 2)) q a b c2 d2) (CI cs n (i + 1) (ad5 ad (5 * (i + 2)) q a b c2 d2) (s0 S Wy))) := by rw [← CI_next]; exact hD
    refine lv_iinc (v := nI (i + 1)) (lv' := [(5, .int (nI (i + 1))), (0, .ref (ad 0)), (4, .int (nI n))]) hx hb dX4_init_99 hl (k := 2) rfl (nI_1 i) (by decide) rfl (fun ls hl => ?_)
    refine lv_goto (tgt := 76) hx hb dX4_init_102 (by decide) ?_
    have e0 : ad5 ad (5 * (i + 2)) q a b c2 d2 0 = ad 0 := ad5_lt (by omega)
    have hl : lv_has ls 6 [(5, .int (nI (i + 1))), (0, .ref (ad5 ad (5 * (i + 2)) q a b c2 d2 0)), (4, .int (nI n))] := by rw [e0]; exact hl
    refine W.widen (k := 9 + 5 * (i + 1)) (n := 796 + 97 * (i + 1)) (by omega) (by omega) ?_
    exact ih (i + 1) (by omega) _ (e0.trans h0e) _ _ _ hP hD hS (lv_sub hl [1, 2, 0] rfl)

set_option maxRecDepth 100000 in
set_option maxHeartbeats 8000000 in
theorem kX4_init (l : Launch) (D : va_G) (cs : Nat → ClassId) (h0 : Nat) (n : Nat) (hn1 : 1 ≤ n) (hn4 : n ≤ 4) (x y z S : Int32) (hn : clp x 1 4 = nI n) (hS0 : S = (1 : Int32) <<< (clp y 0 2 &&& 31)) : iMet (S := Nat → Nat) l yX4_init wsX4_init rmX4_init D cs [.ref h0, .int x, .int y, .int z] [(h0, .inr (4, [.int 0, .int 0, .null, .null, .null, .null, .int 0]))] (fun u => FW (5 * (n + 2)) u (CC cs n u (s0 S (clp z 1 4)))) (fun u => u 0 = h0) 29 1184 := by
  refine i_of (cc := cX4_init) (maxL := 6) (by decide) rfl rfl (Nat.le_of_ble_eq_true rfl) ?_
  intro p e s m args below meth c A ls Q hx hb hml hts hown hin hK hN hP hD hA hS hl hret
  have hl : lv_has ls 6 [(0, .ref h0), (1, .int x), (2, .int y), (3, .int z)] := hl
  refine lv_aload_n hx hb dX4_init_0 rfl (lv_at hl 0 rfl) ?_
  refine W.objInit hx hb hown (hts _ lkX4_init_o1) (hts _ lkX4_init_o2) (hts _ lkX4_init_o3) rfl (by rw [hml]; exact hl.1) rfl dX4_init_1 (Nat.le_of_ble_eq_true rfl) (Nat.le_of_ble_eq_true rfl) ?_
  refine W.eq (g2 := F0 m 4 ls []) rfl ?_
  refine lv_aload_n hx hb dX4_init_4 rfl (lv_at hl 0 rfl) ?_
  refine lv_bipush (v := 64) hx hb dX4_init_5 (by decide) ?_
  refine g_newi (N' := 64) hx hb (hts _ lkX4_init_arrint) hK hP hD hS hA (by decide) rfl (Nat.le_of_ble_eq_true rfl) (Nat.le_of_ble_eq_true rfl) (Nat.le_of_ble_eq_true rfl) dX4_init_7 (fun q1 H hP hD hS => ?_)
  have hP : va_P D vwCl [(h0, .inr (4, [.int 0, .int 0, .null, .null, .null, .null, .int 0])), (q1, .inl (cs 0, 64, .inl (fun _ => 0)))] H := hP
  have hD : va_D A [(h0, .inr (4, [.int 0, .int 0, .null, .null, .null, .null, .int 0])), (q1, .inl (cs 0, 64, .inl (fun _ => 0)))] := hD
  refine va_putF (D := D) (ci := 4) (v := .ref q1) (ty := (.array .int)) (C := RX4) (T := TX4) (N := 7) hx hb hts iwX4_init_X4 tyX4 tyX4_ok nmX4 hown hK hP hD hS 0 rfl rfl 3 (by decide) (hts _ lkX4_init_9) (fun _ h9 => h9) rfl hin rfl (by decide +kernel) rfl rfl (Nat.le_of_ble_eq_true rfl) dX4_init_9 (fun H locs hP hD hS => ?_)
  have hP : va_P D vwCl [(h0, .inr (4, [.int 0, .int 0, .null, .ref q1, .null, .null, .int 0])), (q1, .inl (cs 0, 64, .inl (fun _ => 0)))] H := hP
  have hD : va_D A [(h0, .inr (4, [.int 0, .int 0, .null, .ref q1, .null, .null, .int 0])), (q1, .inl (cs 0, 64, .inl (fun _ => 0)))] := hD
  refine lv_aload_n hx hb dX4_init_12 rfl (lv_at hl 0 rfl) ?_
  refine va_new (D := D) (ci := 1) (fs := [.null, .null, .null, .null, .int 0]) (C := RX1) (T := TX1) (N := 5) hx hb hts iwX4_init_X1 tyX1 tyX1_ok hown (hts _ lkX4_init_cX1) (hts _ lkX4_init_nX1) (hts _ lkX4_init_zX1) hK hP hD hS hA rfl (by decide +kernel) (Nat.le_of_ble_eq_true rfl) (Nat.le_of_ble_eq_true rfl) dX4_init_13 (fun q2 H hP hD hS => ?_)
  have hP : va_P D vwCl [(h0, .inr (4, [.int 0, .int 0, .null, .ref q1, .null, .null, .int 0])), (q1, .inl (cs 0, 64, .inl (fun _ => 0))), (q2, .inr (1, [.null, .null, .null, .null, .int 0]))] H := hP
  have hD : va_D A [(h0, .inr (4, [.int 0, .int 0, .null, .ref q1, .null, .null, .int 0])), (q1, .inl (cs 0, 64, .inl (fun _ => 0))), (q2, .inr (1, [.null, .null, .null, .null, .int 0]))] := hD
  refine lv_dup hx hb dX4_init_16 rfl ?_
  refine i_back (wc := [(q2, .inr (1, [.null, .null, .null, .null, .int 0]))]) (wr := [(h0, .inr (4, [.int 0, .int 0, .null, .ref q1, .null, .null, .int 0])), (q1, .inl (cs 0, 64, .inl (fun _ => 0)))]) (va_runIN (As := []) (rest := [.ref q2, .ref h0]) ⟨hx, hb, hml, hown, hts⟩ (kX1_init l D cs q2 H.size) ⟨va_cnB 0 hts gX4_init_X1_init_n15 rfl rfl rfl hN.1 (hts _ lkX4_init_zX1) (by decide +kernel) ⟨Nat.le_of_ble_eq_true rfl, Nat.le_of_ble_eq_true rfl⟩, rfl, (hts _ lkX4_init_iX1)⟩ (i_pre (hP.sub (ws' := [(q2, .inr (1, [.null, .null, .null, .null, .int 0]))]) [2] rfl) hK (hD.sub (ws' := [(q2, .inr (1, [.null, .null, .null, .null, .int 0]))]) [2] (by decide) rfl) hN) rfl rfl hl.1 rfl (lv_room (Nat.le_of_ble_eq_true rfl)) dX4_init_17 ⟨Nat.le_of_ble_eq_true rfl, Nat.le_of_ble_eq_true rfl⟩) hP hD hS hA [2] [0, 1] rfl rfl (by decide) (by decide) (fun uX1 H locs _ hP hD hS => ?_)
  obtain ⟨p1, p2, p3, p4⟩ := uX1
  have hP : va_P D vwCl [(h0, .inr (4, [.int 0, .int 0, .null, .ref q1, .null, .null, .int 0])), (q1, .inl (cs 0, 64, .inl (fun _ => 0))), (q2, .inr (1, [.ref p1, .ref p2, .ref p3, .ref p4, .int 0])), (p1, .inl (cs 0, 80, .inl (fun _ => 0))), (p2, .inl (cs 0, 80, .inl (fun _ => 0))), (p3, .inl (cs 0, 80, .inl (fun _ => 0))), (p4, .inl (cs 0, 80, .inl (fun _ => 0)))] H := hP
  have hD : va_D A [(h0, .inr (4, [.int 0, .int 0, .null, .ref q1, .null, .null, .int 0])), (q1, .inl (cs 0, 64, .inl (fun _ => 0))), (q2, .inr (1, [.ref p1, .ref p2, .ref p3, .ref p4, .int 0])), (p1, .inl (cs 0, 80, .inl (fun _ => 0))), (p2, .inl (cs 0, 80, .inl (fun _ => 0))), (p3, .inl (cs 0, 80, .inl (fun _ => 0))), (p4, .inl (cs 0, 80, .inl (fun _ => 0)))] := hD
  refine va_putF (D := D) (ci := 4) (v := .ref q2) (ty := (.object "CoreTransactions$Program")) (C := RX4) (T := TX4) (N := 7) hx hb hts iwX4_init_X4 tyX4 tyX4_ok nmX4 hown hK hP hD hS 0 rfl rfl 4 (by decide) (hts _ lkX4_init_16) (fun _ h9 => h9) rfl hin rfl (by decide +kernel) rfl rfl (Nat.le_of_ble_eq_true rfl) dX4_init_20 (fun H locs hP hD hS => ?_)
  have hP : va_P D vwCl [(h0, .inr (4, [.int 0, .int 0, .null, .ref q1, .ref q2, .null, .int 0])), (q1, .inl (cs 0, 64, .inl (fun _ => 0))), (q2, .inr (1, [.ref p1, .ref p2, .ref p3, .ref p4, .int 0])), (p1, .inl (cs 0, 80, .inl (fun _ => 0))), (p2, .inl (cs 0, 80, .inl (fun _ => 0))), (p3, .inl (cs 0, 80, .inl (fun _ => 0))), (p4, .inl (cs 0, 80, .inl (fun _ => 0)))] H := hP
  have hD : va_D A [(h0, .inr (4, [.int 0, .int 0, .null, .ref q1, .ref q2, .null, .int 0])), (q1, .inl (cs 0, 64, .inl (fun _ => 0))), (q2, .inr (1, [.ref p1, .ref p2, .ref p3, .ref p4, .int 0])), (p1, .inl (cs 0, 80, .inl (fun _ => 0))), (p2, .inl (cs 0, 80, .inl (fun _ => 0))), (p3, .inl (cs 0, 80, .inl (fun _ => 0))), (p4, .inl (cs 0, 80, .inl (fun _ => 0)))] := hD
  refine lv_aload_n hx hb dX4_init_23 rfl (lv_at hl 0 rfl) ?_
  refine va_new (D := D) (ci := 2) (fs := [.null, .int 0, .int 0]) (C := RX2) (T := TX2) (N := 3) hx hb hts iwX4_init_X2 tyX2 tyX2_ok hown (hts _ lkX4_init_cX2) (hts _ lkX4_init_nX2) (hts _ lkX4_init_zX2) hK hP hD hS hA rfl (by decide +kernel) (Nat.le_of_ble_eq_true rfl) (Nat.le_of_ble_eq_true rfl) dX4_init_24 (fun q3 H hP hD hS => ?_)
  have hP : va_P D vwCl [(h0, .inr (4, [.int 0, .int 0, .null, .ref q1, .ref q2, .null, .int 0])), (q1, .inl (cs 0, 64, .inl (fun _ => 0))), (q2, .inr (1, [.ref p1, .ref p2, .ref p3, .ref p4, .int 0])), (p1, .inl (cs 0, 80, .inl (fun _ => 0))), (p2, .inl (cs 0, 80, .inl (fun _ => 0))), (p3, .inl (cs 0, 80, .inl (fun _ => 0))), (p4, .inl (cs 0, 80, .inl (fun _ => 0))), (q3, .inr (2, [.null, .int 0, .int 0]))] H := hP
  have hD : va_D A [(h0, .inr (4, [.int 0, .int 0, .null, .ref q1, .ref q2, .null, .int 0])), (q1, .inl (cs 0, 64, .inl (fun _ => 0))), (q2, .inr (1, [.ref p1, .ref p2, .ref p3, .ref p4, .int 0])), (p1, .inl (cs 0, 80, .inl (fun _ => 0))), (p2, .inl (cs 0, 80, .inl (fun _ => 0))), (p3, .inl (cs 0, 80, .inl (fun _ => 0))), (p4, .inl (cs 0, 80, .inl (fun _ => 0))), (q3, .inr (2, [.null, .int 0, .int 0]))] := hD
  refine lv_dup hx hb dX4_init_27 rfl ?_
  refine i_back (wc := [(q3, .inr (2, [.null, .int 0, .int 0]))]) (wr := [(h0, .inr (4, [.int 0, .int 0, .null, .ref q1, .ref q2, .null, .int 0])), (q1, .inl (cs 0, 64, .inl (fun _ => 0))), (q2, .inr (1, [.ref p1, .ref p2, .ref p3, .ref p4, .int 0])), (p1, .inl (cs 0, 80, .inl (fun _ => 0))), (p2, .inl (cs 0, 80, .inl (fun _ => 0))), (p3, .inl (cs 0, 80, .inl (fun _ => 0))), (p4, .inl (cs 0, 80, .inl (fun _ => 0)))]) (va_runIN (As := []) (rest := [.ref q3, .ref h0]) ⟨hx, hb, hml, hown, hts⟩ (kX2_init l D cs q3 H.size) ⟨va_cnB 0 hts gX4_init_X2_init_n22 rfl rfl rfl hN.2.1 (hts _ lkX4_init_zX2) (by decide +kernel) ⟨Nat.le_of_ble_eq_true rfl, Nat.le_of_ble_eq_true rfl⟩, rfl, (hts _ lkX4_init_iX2)⟩ (i_pre (hP.sub (ws' := [(q3, .inr (2, [.null, .int 0, .int 0]))]) [7] rfl) hK (hD.sub (ws' := [(q3, .inr (2, [.null, .int 0, .int 0]))]) [7] (by decide) rfl) hN) rfl rfl hl.1 rfl (lv_room (Nat.le_of_ble_eq_true rfl)) dX4_init_28 ⟨Nat.le_of_ble_eq_true rfl, Nat.le_of_ble_eq_true rfl⟩) hP hD hS hA [7] [0, 1, 2, 3, 4, 5, 6] rfl rfl (by decide) (by decide) (fun uX2 H locs _ hP hD hS => ?_)
  generalize uX2 = r1 at hP hD
  have hP : va_P D vwCl [(h0, .inr (4, [.int 0, .int 0, .null, .ref q1, .ref q2, .null, .int 0])), (q1, .inl (cs 0, 64, .inl (fun _ => 0))), (q2, .inr (1, [.ref p1, .ref p2, .ref p3, .ref p4, .int 0])), (p1, .inl (cs 0, 80, .inl (fun _ => 0))), (p2, .inl (cs 0, 80, .inl (fun _ => 0))), (p3, .inl (cs 0, 80, .inl (fun _ => 0))), (p4, .inl (cs 0, 80, .inl (fun _ => 0))), (q3, .inr (2, [.ref r1, .int 0, .int 0])), (r1, .inl (cs 0, 400, .inl (fun _ => 0)))] H := hP
  have hD : va_D A [(h0, .inr (4, [.int 0, .int 0, .null, .ref q1, .ref q2, .null, .int 0])), (q1, .inl (cs 0, 64, .inl (fun _ => 0))), (q2, .inr (1, [.ref p1, .ref p2, .ref p3, .ref p4, .int 0])), (p1, .inl (cs 0, 80, .inl (fun _ => 0))), (p2, .inl (cs 0, 80, .inl (fun _ => 0))), (p3, .inl (cs 0, 80, .inl (fun _ => 0))), (p4, .inl (cs 0, 80, .inl (fun _ => 0))), (q3, .inr (2, [.ref r1, .int 0, .int 0])), (r1, .inl (cs 0, 400, .inl (fun _ => 0)))] := hD
  refine va_putF (D := D) (ci := 4) (v := .ref q3) (ty := (.object "CoreTransactions$Records")) (C := RX4) (T := TX4) (N := 7) hx hb hts iwX4_init_X4 tyX4 tyX4_ok nmX4 hown hK hP hD hS 0 rfl rfl 5 (by decide) (hts _ lkX4_init_23) (fun _ h9 => h9) rfl hin rfl (by decide +kernel) rfl rfl (Nat.le_of_ble_eq_true rfl) dX4_init_31 (fun H locs hP hD hS => ?_)
  have hP : va_P D vwCl [(h0, .inr (4, [.int 0, .int 0, .null, .ref q1, .ref q2, .ref q3, .int 0])), (q1, .inl (cs 0, 64, .inl (fun _ => 0))), (q2, .inr (1, [.ref p1, .ref p2, .ref p3, .ref p4, .int 0])), (p1, .inl (cs 0, 80, .inl (fun _ => 0))), (p2, .inl (cs 0, 80, .inl (fun _ => 0))), (p3, .inl (cs 0, 80, .inl (fun _ => 0))), (p4, .inl (cs 0, 80, .inl (fun _ => 0))), (q3, .inr (2, [.ref r1, .int 0, .int 0])), (r1, .inl (cs 0, 400, .inl (fun _ => 0)))] H := hP
  have hD : va_D A [(h0, .inr (4, [.int 0, .int 0, .null, .ref q1, .ref q2, .ref q3, .int 0])), (q1, .inl (cs 0, 64, .inl (fun _ => 0))), (q2, .inr (1, [.ref p1, .ref p2, .ref p3, .ref p4, .int 0])), (p1, .inl (cs 0, 80, .inl (fun _ => 0))), (p2, .inl (cs 0, 80, .inl (fun _ => 0))), (p3, .inl (cs 0, 80, .inl (fun _ => 0))), (p4, .inl (cs 0, 80, .inl (fun _ => 0))), (q3, .inr (2, [.ref r1, .int 0, .int 0])), (r1, .inl (cs 0, 400, .inl (fun _ => 0)))] := hD
  refine lv_iload_n hx hb dX4_init_34 rfl (lv_at hl 1 rfl) ?_
  refine lv_iconst (v := 1) hx hb dX4_init_35 (by decide) ?_
  refine lv_iconst (v := 4) hx hb dX4_init_36 (by decide) ?_
  refine s_call (As := [.int x, .int 1, .int 4]) (rest := []) ⟨hx, hb, hml, hown, hts⟩ (kX4_nearest l x 1 4 (by decide)) (va_cwS 3 hts gX4_init_X4_nearest rfl rfl rfl (by decide +kernel) ⟨Nat.le_of_ble_eq_true rfl, Nat.le_of_ble_eq_true rfl⟩) hP hS hA hl.1 dX4_init_37 rfl rfl (Nat.le_of_ble_eq_true rfl) ⟨Nat.le_of_ble_eq_true rfl, Nat.le_of_ble_eq_true rfl⟩ (fun H locs hP hS => ?_)
  refine g_top (y := nI n) hn ?_
  refine lv_istore (lv' := [(4, .int (nI n)), (0, .ref h0), (1, .int x), (2, .int y), (3, .int z)]) hx hb dX4_init_40 hl (by decide) rfl (fun ls hl => ?_)
  refine lv_aload_n hx hb dX4_init_42 rfl (lv_at hl 1 rfl) ?_
  refine lv_iconst (v := 1) hx hb dX4_init_43 (by decide) ?_
  refine lv_iload_n hx hb dX4_init_44 rfl (lv_at hl 3 rfl) ?_
  refine lv_iconst (v := 0) hx hb dX4_init_45 (by decide) ?_
  refine lv_iconst (v := 2) hx hb dX4_init_46 (by decide) ?_
  refine s_call (As := [.int y, .int 0, .int 2]) (rest := [.int 1, .ref h0]) ⟨hx, hb, hml, hown, hts⟩ (kX4_nearest l y 0 2 (by decide)) (va_cwS 3 hts gX4_init_X4_nearest rfl rfl rfl (by decide +kernel) ⟨Nat.le_of_ble_eq_true rfl, Nat.le_of_ble_eq_true rfl⟩) hP hS hA hl.1 dX4_init_47 rfl rfl (Nat.le_of_ble_eq_true rfl) ⟨Nat.le_of_ble_eq_true rfl, Nat.le_of_ble_eq_true rfl⟩ (fun H locs hP hS => ?_)
  refine lv_ishl hx hb dX4_init_50 ?_
  refine g_top (y := S) hS0.symm ?_
  refine va_putF (D := D) (ci := 4) (v := .int S) (ty := .int) (C := RX4) (T := TX4) (N := 7) hx hb hts iwX4_init_X4 tyX4 tyX4_ok nmX4 hown hK hP hD hS 0 rfl rfl 0 (by decide) (hts _ lkX4_init_31) (fun _ h9 => h9) rfl hin rfl (by decide +kernel) rfl rfl (Nat.le_of_ble_eq_true rfl) dX4_init_51 (fun H locs hP hD hS => ?_)
  have hP : va_P D vwCl [(h0, .inr (4, [.int S, .int 0, .null, .ref q1, .ref q2, .ref q3, .int 0])), (q1, .inl (cs 0, 64, .inl (fun _ => 0))), (q2, .inr (1, [.ref p1, .ref p2, .ref p3, .ref p4, .int 0])), (p1, .inl (cs 0, 80, .inl (fun _ => 0))), (p2, .inl (cs 0, 80, .inl (fun _ => 0))), (p3, .inl (cs 0, 80, .inl (fun _ => 0))), (p4, .inl (cs 0, 80, .inl (fun _ => 0))), (q3, .inr (2, [.ref r1, .int 0, .int 0])), (r1, .inl (cs 0, 400, .inl (fun _ => 0)))] H := hP
  have hD : va_D A [(h0, .inr (4, [.int S, .int 0, .null, .ref q1, .ref q2, .ref q3, .int 0])), (q1, .inl (cs 0, 64, .inl (fun _ => 0))), (q2, .inr (1, [.ref p1, .ref p2, .ref p3, .ref p4, .int 0])), (p1, .inl (cs 0, 80, .inl (fun _ => 0))), (p2, .inl (cs 0, 80, .inl (fun _ => 0))), (p3, .inl (cs 0, 80, .inl (fun _ => 0))), (p4, .inl (cs 0, 80, .inl (fun _ => 0))), (q3, .inr (2, [.ref r1, .int 0, .int 0])), (r1, .inl (cs 0, 400, .inl (fun _ => 0)))] := hD
  refine lv_aload_n hx hb dX4_init_54 rfl (lv_at hl 1 rfl) ?_
  refine lv_iload_n hx hb dX4_init_55 rfl (lv_at hl 4 rfl) ?_
  refine lv_iconst (v := 1) hx hb dX4_init_56 (by decide) ?_
  refine lv_iconst (v := 4) hx hb dX4_init_57 (by decide) ?_
  refine s_call (As := [.int z, .int 1, .int 4]) (rest := [.ref h0]) ⟨hx, hb, hml, hown, hts⟩ (kX4_nearest l z 1 4 (by decide)) (va_cwS 3 hts gX4_init_X4_nearest rfl rfl rfl (by decide +kernel) ⟨Nat.le_of_ble_eq_true rfl, Nat.le_of_ble_eq_true rfl⟩) hP hS hA hl.1 dX4_init_58 rfl rfl (Nat.le_of_ble_eq_true rfl) ⟨Nat.le_of_ble_eq_true rfl, Nat.le_of_ble_eq_true rfl⟩ (fun H locs hP hS => ?_)
  refine va_putF (D := D) (ci := 4) (v := .int (clp z 1 4)) (ty := .int) (C := RX4) (T := TX4) (N := 7) hx hb hts iwX4_init_X4 tyX4 tyX4_ok nmX4 hown hK hP hD hS 0 rfl rfl 1 (by decide) (hts _ lkX4_init_35) (fun _ h9 => h9) rfl hin rfl (by decide +kernel) rfl rfl (Nat.le_of_ble_eq_true rfl) dX4_init_61 (fun H locs hP hD hS => ?_)
  have hP : va_P D vwCl [(h0, .inr (4, [.int S, .int (clp z 1 4), .null, .ref q1, .ref q2, .ref q3, .int 0])), (q1, .inl (cs 0, 64, .inl (fun _ => 0))), (q2, .inr (1, [.ref p1, .ref p2, .ref p3, .ref p4, .int 0])), (p1, .inl (cs 0, 80, .inl (fun _ => 0))), (p2, .inl (cs 0, 80, .inl (fun _ => 0))), (p3, .inl (cs 0, 80, .inl (fun _ => 0))), (p4, .inl (cs 0, 80, .inl (fun _ => 0))), (q3, .inr (2, [.ref r1, .int 0, .int 0])), (r1, .inl (cs 0, 400, .inl (fun _ => 0)))] H := hP
  have hD : va_D A [(h0, .inr (4, [.int S, .int (clp z 1 4), .null, .ref q1, .ref q2, .ref q3, .int 0])), (q1, .inl (cs 0, 64, .inl (fun _ => 0))), (q2, .inr (1, [.ref p1, .ref p2, .ref p3, .ref p4, .int 0])), (p1, .inl (cs 0, 80, .inl (fun _ => 0))), (p2, .inl (cs 0, 80, .inl (fun _ => 0))), (p3, .inl (cs 0, 80, .inl (fun _ => 0))), (p4, .inl (cs 0, 80, .inl (fun _ => 0))), (q3, .inr (2, [.ref r1, .int 0, .int 0])), (r1, .inl (cs 0, 400, .inl (fun _ => 0)))] := hD
  refine lv_aload_n hx hb dX4_init_64 rfl (lv_at hl 1 rfl) ?_
  refine lv_iload hx hb dX4_init_65 (lv_at hl 0 rfl) ?_
  refine va_newq (C := RX0) (N' := n) hx hb hown (hts _ lkX4_init_cX0) hN.2.2.2 hK hP hD hS hA (nI_pos (by omega)) (nI_clamp (by omega)) (by omega) (Nat.le_of_ble_eq_true rfl) (by show 792 + n ≤ 1184; omega) dX4_init_67 (fun q4 cA H hK1 hP hD hS => ?_)
  obtain rfl := tyL_q hK1
  have hP : va_P D vwCl [(h0, .inr (4, [.int S, .int (clp z 1 4), .null, .ref q1, .ref q2, .ref q3, .int 0])), (q1, .inl (cs 0, 64, .inl (fun _ => 0))), (q2, .inr (1, [.ref p1, .ref p2, .ref p3, .ref p4, .int 0])), (p1, .inl (cs 0, 80, .inl (fun _ => 0))), (p2, .inl (cs 0, 80, .inl (fun _ => 0))), (p3, .inl (cs 0, 80, .inl (fun _ => 0))), (p4, .inl (cs 0, 80, .inl (fun _ => 0))), (q3, .inr (2, [.ref r1, .int 0, .int 0])), (r1, .inl (cs 0, 400, .inl (fun _ => 0))), (q4, .inl (cs 1, n, .inr (.inr (.inr (.inr (fun _ => none))))))] H := hP
  have hD : va_D A [(h0, .inr (4, [.int S, .int (clp z 1 4), .null, .ref q1, .ref q2, .ref q3, .int 0])), (q1, .inl (cs 0, 64, .inl (fun _ => 0))), (q2, .inr (1, [.ref p1, .ref p2, .ref p3, .ref p4, .int 0])), (p1, .inl (cs 0, 80, .inl (fun _ => 0))), (p2, .inl (cs 0, 80, .inl (fun _ => 0))), (p3, .inl (cs 0, 80, .inl (fun _ => 0))), (p4, .inl (cs 0, 80, .inl (fun _ => 0))), (q3, .inr (2, [.ref r1, .int 0, .int 0])), (r1, .inl (cs 0, 400, .inl (fun _ => 0))), (q4, .inl (cs 1, n, .inr (.inr (.inr (.inr (fun _ => none))))))] := hD
  refine va_putF (D := D) (ci := 4) (v := .ref q4) (ty := (.array (.object "CoreTransactions$Core"))) (C := RX4) (T := TX4) (N := 7) hx hb hts iwX4_init_X4 tyX4 tyX4_ok nmX4 hown hK hP hD hS 0 rfl rfl 2 (by decide) (hts _ lkX4_init_40) (fun _ h9 => h9) rfl hin rfl (by decide +kernel) rfl rfl (Nat.le_of_ble_eq_true rfl) dX4_init_70 (fun H locs hP hD hS => ?_)
  have hP : va_P D vwCl [(h0, .inr (4, [.int S, .int (clp z 1 4), .ref q4, .ref q1, .ref q2, .ref q3, .int 0])), (q1, .inl (cs 0, 64, .inl (fun _ => 0))), (q2, .inr (1, [.ref p1, .ref p2, .ref p3, .ref p4, .int 0])), (p1, .inl (cs 0, 80, .inl (fun _ => 0))), (p2, .inl (cs 0, 80, .inl (fun _ => 0))), (p3, .inl (cs 0, 80, .inl (fun _ => 0))), (p4, .inl (cs 0, 80, .inl (fun _ => 0))), (q3, .inr (2, [.ref r1, .int 0, .int 0])), (r1, .inl (cs 0, 400, .inl (fun _ => 0))), (q4, .inl (cs 1, n, .inr (.inr (.inr (.inr (fun _ => none))))))] H := hP
  have hD : va_D A [(h0, .inr (4, [.int S, .int (clp z 1 4), .ref q4, .ref q1, .ref q2, .ref q3, .int 0])), (q1, .inl (cs 0, 64, .inl (fun _ => 0))), (q2, .inr (1, [.ref p1, .ref p2, .ref p3, .ref p4, .int 0])), (p1, .inl (cs 0, 80, .inl (fun _ => 0))), (p2, .inl (cs 0, 80, .inl (fun _ => 0))), (p3, .inl (cs 0, 80, .inl (fun _ => 0))), (p4, .inl (cs 0, 80, .inl (fun _ => 0))), (q3, .inr (2, [.ref r1, .int 0, .int 0])), (r1, .inl (cs 0, 400, .inl (fun _ => 0))), (q4, .inl (cs 1, n, .inr (.inr (.inr (.inr (fun _ => none))))))] := hD
  refine lv_iconst (v := 0) hx hb dX4_init_73 (by decide) ?_
  refine lv_istore (lv' := [(5, .int 0), (4, .int (nI n)), (0, .ref h0), (1, .int x), (2, .int y), (3, .int z)]) hx hb dX4_init_74 hl (by decide) rfl (fun ls hl => ?_)
  refine W.widen (k := 9) (n := 796) (Nat.le_of_ble_eq_true rfl) (by omega) ?_
  have hP := hP.sub (ws' := [(h0, .inr (4, [.int S, .int (clp z 1 4), .ref q4, .ref q1, .ref q2, .ref q3, .int 0])), (q4, .inl (cs 1, n, .inr (.inr (.inr (.inr (fun _ => none)))))), (q1, .inl (cs 0, 64, .inl (fun _ => 0))), (q2, .inr (1, [.ref p1, .ref p2, .ref p3, .ref p4, .int 0])), (q3, .inr (2, [.ref r1, .int 0, .int 0])), (p1, .inl (cs 0, 80, .inl (fun _ => 0))), (p2, .inl (cs 0, 80, .inl (fun _ => 0))), (p3, .inl (cs 0, 80, .inl (fun _ => 0))), (p4, .inl (cs 0, 80, .inl (fun _ => 0))), (r1, .inl (cs 0, 400, .inl (fun _ => 0)))]) [0, 9, 1, 2, 7, 3, 4, 5, 6, 8] rfl
  have hD := hD.sub (ws' := [(h0, .inr (4, [.int S, .int (clp z 1 4), .ref q4, .ref q1, .ref q2, .ref q3, .int 0])), (q4, .inl (cs 1, n, .inr (.inr (.inr (.inr (fun _ => none)))))), (q1, .inl (cs 0, 64, .inl (fun _ => 0))), (q2, .inr (1, [.ref p1, .ref p2, .ref p3, .ref p4, .int 0])), (q3, .inr (2, [.ref r1, .int 0, .int 0])), (p1, .inl (cs 0, 80, .inl (fun _ => 0))), (p2, .inl (cs 0, 80, .inl (fun _ => 0))), (p3, .inl (cs 0, 80, .inl (fun _ => 0))), (p4, .inl (cs 0, 80, .inl (fun _ => 0))), (r1, .inl (cs 0, 400, .inl (fun _ => 0)))]) [0, 9, 1, 2, 7, 3, 4, 5, 6, 8] (by decide) rfl
  obtain ⟨ad, e0, e1, e2, e3, e4, e5, e6, e7, e8, e9⟩ : ∃ ad : Nat → Nat, h0 = ad 0 ∧ q4 = ad 1 ∧ q1 = ad 2 ∧ q2 = ad 3 ∧ q3 = ad 4 ∧ p1 = ad 5 ∧ p2 = ad 6 ∧ p3 = ad 7 ∧ p4 = ad 8 ∧ r1 = ad 9 := ⟨fun i => [h0, q4, q1, q2, q3, p1, p2, p3, p4, r1].getD i 0, rfl, rfl, rfl, rfl, rfl, rfl, rfl, rfl, rfl, rfl⟩
  have eL : [(h0, .inr (4, [.int S, .int (clp z 1 4), .ref q4, .ref q1, .ref q2, .ref q3, .int 0])), (q4, .inl (cs 1, n, .inr (.inr (.inr (.inr (fun _ => none)))))), (q1, .inl (cs 0, 64, .inl (fun _ => 0))), (q2, .inr (1, [.ref p1, .ref p2, .ref p3, .ref p4, .int 0])), (q3, .inr (2, [.ref r1, .int 0, .int 0])), (p1, .inl (cs 0, 80, .inl (fun _ => 0))), (p2, .inl (cs 0, 80, .inl (fun _ => 0))), (p3, .inl (cs 0, 80, .inl (fun _ => 0))), (p4, .inl (cs 0, 80, .inl (fun _ => 0))), (r1, .inl (cs 0, 400, .inl (fun _ => 0)))] = FW (5 * (0 + 2)) ad (CI cs n 0 ad (s0 S (clp z 1 4))) := by
    refine FW_eq rfl (fun i hi => ?_)
    simp only [e0, e1, e2, e3, e4, e5, e6, e7, e8, e9]
    rcases (show i = 0 ∨ i = 1 ∨ i = 2 ∨ i = 3 ∨ i = 4 ∨ i = 5 ∨ i = 6 ∨ i = 7 ∨ i = 8 ∨ i = 9 by omega) with rfl | rfl | rfl | rfl | rfl | rfl | rfl | rfl | rfl | rfl
    · rfl
    · show some (ad 1, corE cs n (fun _ => none)) = some (ad 1, corE cs n (fun j => if j < 0 then some (ad (5 * (j + 2) + 0)) else none))
      rw [show (fun j : Nat => if j < 0 then some (ad (5 * (j + 2) + 0)) else none) = fun _ => none from funext fun j => if_neg (Nat.not_lt_zero j)]
    · rfl
    · rfl
    · rfl
    · rfl
    · rfl
    · rfl
    · rfl
    · rfl
  rw [eL] at hP hD
  rw [e0] at hl
  exact init_loop l D cs n hn1 hn4 S (clp z 1 4) x y z hx hb hml hts hown hK hN hA (fun H locs ad pc ls hd hP hD hS e => hret H locs ad pc ls hd hP hD hS e) n 0 (by omega) ad e0.symm _ _ _ hP hD hS (lv_sub hl [2, 1, 0] rfl)
