/-! the law's own helpers: a call of the class, its answer into the long row, what it throws told by a number -/
def oW (cs : Nat → ClassId) (qo : Nat) (v : Int64) : Nat × va_E := (qo, .inl (cs 2, 1, .inr (.inl (fun j => if j = 0 then v else 0))))
theorem oW_set {v x : Int64} : vp_updL (fun j => if j = 0 then v else 0) (0 : Int32).toNatClampNeg x = fun j => if j = 0 then x else 0 := by
  funext j
  rw [show (0 : Int32).toNatClampNeg = 0 from rfl]
  by_cases h : j = 0
  · subst h; rw [pk_uLs, if_pos rfl]
  · rw [pk_uLn h, if_neg h, if_neg h]
abbrev gPch (D : va_G) (tys : List (ClassId × FieldType)) (N : Nat) (ad : Nat → Nat) (f : Nat → va_E) (w0 : Nat × va_E) (sz : Nat) (av : List Value) : Array Value → State → Prop := va_Pc av (fun U => U.heap.size = sz ∧ va_P D vwCl (w0 :: FW N ad f) U.heap ∧ va_K D vwCl tys U ∧ va_D (fun _ => True) (w0 :: FW N ad f) ∧ XW (va_A (w0 :: FW N ad f) sz) U)
theorem gPch_blind {D : va_G} {tys : List (ClassId × FieldType)} {N : Nat} {ad : Nat → Nat} {f : Nat → va_E} {w0 : Nat × va_E} {sz : Nat} {av : List Value} : FrameBlind (gPch D tys N ad f w0 sz av) := fun a U g mk q => by
  obtain ⟨q0, q1, qP, qK, qD, qX⟩ := q
  exact ⟨q0, q1, qP, va_K.moved (u := U) (U := U.calling g mk a) (Vm.Alike.refl U.vm) qK, qD, XW_same rfl rfl qX⟩
def gHx (l : Launch) (y : MethodName) (ws : List Cond) (rm : Room) (D : va_G) (tys : List (ClassId × FieldType)) (N : Nat) (ad : Nat → Nat) (f : Nat → va_E) (w0 : Nat × va_E) (w1 : Int64 → Nat × va_E) (av : List Value) (post : Int32 → Int64 → Prop) (g : Nat → va_E) : Prop :=
  ∀ sz : Nat, vx_Met l y ws rm (gPch D tys N ad f w0 sz av) (va_Qi post (fun u t => va_P D vwCl (w1 u :: FW N ad g) t.heap) (va_A (w0 :: FW N ad f) sz)) (vx_X (fun (_ : Unit) => False) (fun _ _ _ => True) (va_A (w0 :: FW N ad f) sz)) 1 6 (va_A (w0 :: FW N ad f) sz)
theorem g_ofh {l : Launch} {y : MethodName} {ws ws0 : List Cond} {rm : Room} {D : va_G} {tys : List (ClassId × FieldType)} {N : Nat} {ad : Nat → Nat} {f : Nat → va_E} {w0 : Nat × va_E} {w1 : Int64 → Nat × va_E} {av : List Value} {cc : ByteArray} {maxL : Nat} {hh : List (Nat × Nat × Nat × Nat)} {post : Int32 → Int64 → Prop} {g : Nat → va_E} (hy : plainName y.cls = true) (hw : ws = Cond.codeWith y cc maxL (some .int) hh :: ws0) (hlen : (lg_sl av).length ≤ maxL)
    (k : ∀ (p : Program) (e : Env) (s : State) (m : MethodId) (args : Array Value) (below : List Frame) (meth : Method) (c : Code) (A : Nat → Prop) (ls : Array Slot) (Q : State → Prop), p.tables.exec = Jvm.exec → c.code = cc → c.maxLocals = maxL → (∀ w ∈ ws, w.before args s = true) → s.vm.findClass y.cls = some m.cls → va_K D vwCl tys s → va_P D vwCl (w0 :: FW N ad f) s.heap → va_D A (w0 :: FW N ad f) → (∀ q : Nat, s.heap.size ≤ q → A q) → va_S A s.heap s.heap [] → lv_has ls maxL (lv_args 0 av) → XW A s → c.exceptionTable.toList = tableOf hh →
      (∀ (H : Heap) (locs : List Loc) (r : Int32) (u : Int64) (pc : Nat) (ls : Array Slot), decode cc pc = .ok (.ireturn, 1) → va_P D vwCl (w1 u :: FW N ad g) H → va_S A s.heap H locs → post r u → W p l e rm s m args below meth c H locs 1 6 Q (F0 m pc ls [.int r])) →
      W p l e rm s m args below meth c s.heap [] 0 0 Q (F0 m 0 ls [])) : gHx l y ws rm D tys N ad f w0 w1 av post g := by
  intro sz
  refine vx_ofWH (cc := cc) (maxL := maxL) (ret := some .int) (hh := hh) hy hw ?_
  intro p e s m args below meth c s₁ B hml hv
  obtain ⟨rfl, hsz, hP, hK, hD0, hXW⟩ := hv
  have hts := atoms_spec (ws := ws) B.pre
  have hown : s.vm.findClass y.cls = some m.cls := findClass_of_methodNamed B.named
  have htab := vx_table (x := y) B (hts (Cond.codeWith y cc maxL (some .int) hh) (by rw [hw]; exact List.mem_cons_self))
  subst hsz
  have hD := hD0.self (sz := s.heap.size)
  have hA : ∀ q : Nat, s.heap.size ≤ q → va_A (w0 :: FW N ad f) s.heap.size q := fun q h => Or.inr h
  have hl := lv_entry av (n := maxL) hlen
  have hx := B.exec
  have hb := B.bytes
  have hr := B.returns
  have hlocks := B.notSynchronized
  rw [lg_entry_eq]
  refine k p e s m _ below meth c (va_A (w0 :: FW N ad f) s.heap.size) _ _ hx hb hml hts hown hK hP hD hA va_S.rf hl hXW htab ?_
  intro H locs r u pc ls hdg hP hS hu
  exact vx_ret (W.iret (v := r) hx hb hr (fun t ht hW => ⟨⟨r, u, rfl, hu, by show va_P D vwCl (w1 u :: FW N ad g) t.heap; rw [ht]; exact hP⟩, hS.F ht⟩) hS.2.2 hdg hlocks)
section GH
variable {p : Program} {l : Launch} {e : Env} {R : Room} {s : State} {m : MethodId} {args : Array Value} {below : List Frame} {meth : Method} {c : Code} {H : Heap} {locs : List Loc} {cells slots : Nat} {Q : State → Prop} {A : Nat → Prop} {D : va_G} {tys : List (ClassId × FieldType)} {N : Nat} {ad : Nat → Nat} {f : Nat → va_E} {cc : ByteArray} {pc : Nat} {ls : Array Slot} {rest st0 : List Value}
variable {Ts ws : List Cond} {own C : String} {y : MethodName} {bytes : ByteArray} {maxL nL n index : Nat} {rm : Room} {b : Addr} {As : List Value} {ret : Option FieldType}
theorem g_hx {S : Type} {post : Int32 → S → Prop} {g : S → Nat → va_E} {px : String → Prop} {w0 : Nat × va_E} (F : CallFix p m c cc nL s args Ts own) (hM : gMx l y ws rm D tys N ad f (.ref b :: As) post g px) (cw : CallW R s args own C index y bytes maxL ret ws rm 1 6 n) (hK : va_K D vwCl tys s) (hP : va_P D vwCl (w0 :: FW N ad f) H) (hD : va_D A (w0 :: FW N ad f)) (hS : va_S A s.heap H locs) (hA : ∀ q : Nat, s.heap.size ≤ q → A q) (hXW : XW A s) (q0 : Nat) {ci : Nat} {fs : List Value} {qc : vw_C} (hc : vwCl[ci]? = some qc) (hC : C = qc.1) (he : (FW N ad f)[q0]? = some (b, .inr (ci, fs))) (hsize : ls.size = nL) (hdg : decode cc pc = .ok (.invokevirtual index, 3)) (hn : As.length = n) (hst : st0 = As.reverse ++ .ref b :: rest) (hrm : (rest.map fun v => v.category).sum ≤ 8) (hf : cells + 1 ≤ R.cells ∧ slots + 6 ≤ R.slots)
    (kx : ∀ (E : String) (ce : Cell) (q9 : Addr) (H1 : Heap) (locs1 : List Loc), px E → va_P D vwCl (w0 :: FW N ad f) H1 → va_S A s.heap H1 locs1 → H1[q9]? = some ce → ce.vm = .none → s.vm.findClass E = some ce.cls → vx_W p l e R s m args below meth c H1 locs1 (cells + 1) (slots + 6) Q (F0 m pc ls rest) q9)
    (kk : ∀ (r : Int32) (u : S) (H1 : Heap) (locs1 : List Loc), post r u → va_P D vwCl (w0 :: FW N ad (g u)) H1 → va_S A s.heap H1 locs1 → W p l e R s m args below meth c H1 locs1 (cells + 1) (slots + 6) Q (F0 m (pc + 3) ls (.int r :: rest))) : W p l e R s m args below meth c H locs cells slots Q (F0 m pc ls st0) := by
  have hP1 : va_P D vwCl (FW N ad f) H := fun k q hk => hP (k + 1) q (by rw [List.getElem?_cons_succ]; exact hk)
  have hD1 : va_D A (FW N ad f) := ⟨fun i j p q hp hq e => Nat.succ.inj (hD.1 (i + 1) (j + 1) p q (by rw [List.getElem?_cons_succ]; exact hp) (by rw [List.getElem?_cons_succ]; exact hq) e), fun k q hk => hD.2 (k + 1) q (by rw [List.getElem?_cons_succ]; exact hk)⟩
  have hfr : ∀ q, va_A (FW N ad f) H.size q → A q := fun q h => by
    rcases FW_A.mp h with ⟨i, hi, rfl⟩ | h
    · exact (FW_D.mp hD1).2 i hi
    · exact hA q (Nat.le_trans hS.1 h)
  have hlt : w0.1 < H.size := (hP 0 w0 rfl).lt
  have hw0 : ¬ va_A (FW N ad f) H.size w0.1 := fun h => by
    rcases FW_A.mp h with ⟨i, hi, e⟩ | h
    · exact absurd (hD.1 (i + 1) 0 (ad i, f i) w0 (by rw [List.getElem?_cons_succ]; exact FW_get hi rfl) rfl e) (Nat.succ_ne_zero i)
    · exact absurd h (Nat.not_le.mpr hlt)
  have back : ∀ (H1 : Heap) (g2 : Nat → va_E), (∀ q : Nat, q < H.size → ¬ va_A (FW N ad f) H.size q → H1[q]? = H[q]?) → va_P D vwCl (FW N ad g2) H1 → va_P D vwCl (w0 :: FW N ad g2) H1 := fun H1 g2 hk hP2 k q hq => by
    rcases k with _ | k
    · cases hq
      exact (hP 0 w0 rfl).kept (hk _ hlt hw0)
    · rw [List.getElem?_cons_succ] at hq
      exact hP2 k q hq
  subst hC
  refine vx_calli (vx_runV (As := As) (rest := rest) F (hM H.size) cw ⟨gPcx_blind, va_recv hK hP1 hc he, fun U hU hW => ⟨rfl, by rw [hU], by rw [hU]; exact hP1, va_K.moved hW.alike hK, hD1.weaken (fun _ _ _ _ => trivial), XW_to hXW hW (fun a h1 h2 => by rw [hU]; exact hS.2.1 a h1 h2) hfr⟩⟩ rfl hn hsize hst (lv_room hrm) hdg hf) hS (fun q _ h => hfr q h) hfr (fun q _ h => hfr q h) (fun E ce q9 u t H1 locs1 ht hvm hu hB hz hk hS h9 hv hcl => ?_) (fun r u t H1 locs1 ht hvm hw hB hz1 hk1 hS => ?_)
  · rw [ht] at hB
    exact kx E ce q9 H1 locs1 hB.1 (back H1 f hk hB.2) hS h9 hv hcl
  · rw [ht] at hB
    exact kk r u H1 locs1 hw (back H1 (g u) hk1 hB) hS
end GH
theorem castI {s : State} {args : Array Value} {A : Nat → Prop} (h : XW A s) : (Cond.castable eI eI).before args s = true := va_Nw.use (by decide) h.1
theorem castA {s : State} {args : Array Value} {A : Nat → Prop} (h : XW A s) : (Cond.castable eA eA).before args s = true := va_Nw.use (by decide) h.2.1
theorem castU {s : State} {args : Array Value} {A : Nat → Prop} (h : XW A s) : (Cond.castable eU eU).before args s = true := va_Nw.use (by decide) h.2.2.1

theorem oD {A : Nat → Prop} {N : Nat} {ad : Nat → Nat} {f : Nat → va_E} {w0 : Nat × va_E} (h : va_D A (w0 :: FW N ad f)) (g : Nat → va_E) : va_D A (w0 :: FW N ad g) := by
  have key : ∀ (i : Nat) (p : Nat × va_E), (w0 :: FW N ad g)[i]? = some p → ∃ p2 : Nat × va_E, (w0 :: FW N ad f)[i]? = some p2 ∧ p2.1 = p.1 := fun i p hp => by
    rcases i with _ | i
    · exact ⟨p, hp, rfl⟩
    · rw [List.getElem?_cons_succ] at hp
      obtain ⟨h1, rfl⟩ := FW_inv hp
      exact ⟨(ad i, f i), by rw [List.getElem?_cons_succ]; exact FW_get h1 rfl, rfl⟩
  refine ⟨fun i j p q hp hq e => ?_, fun k q hk => ?_⟩
  · obtain ⟨p2, hp2, ep⟩ := key i p hp
    obtain ⟨q2, hq2, eq⟩ := key j q hq
    exact h.1 i j p2 q2 hp2 hq2 (by rw [ep, eq]; exact e)
  · obtain ⟨q2, hq2, eq⟩ := key k q hk
    rw [← eq]
    exact h.2 k q2 hq2
theorem lkL_instruction_k13 : Cond.classLink RL 13 eA ∈ wsL_instruction := by decide +kernel
theorem lkL_instruction_k15 : Cond.classLink RL 15 eU ∈ wsL_instruction := by decide +kernel
abbrev rmL_instruction : Room := ({ frames := 7, cells := 1, slots := 6, locals := 105 } : Room)
set_option maxRecDepth 100000 in
set_option maxHeartbeats 4000000 in
theorem kL_instruction (l : Launch) (hl0 : l.stackTraces = false) (D : va_G) (cs : Nat → ClassId) (n : Nat) (ad : Nat → Nat) (σ : St) (qo : Nat) (v0 : Int64) (hn4 : n ≤ 4) (o a b d : Int32) (G : Nat) (hI : Inv σ G) : gHx l yL_instruction wsL_instruction rmL_instruction D (tyL cs) (5 * (n + 2)) ad (CC cs n ad σ) (oW cs qo v0) (oW cs qo) [.ref (ad 0), .int o, .int a, .int b, .int d, .ref qo] (fun r u => r = t2 ((0 ≤ o ∧ o < 14) ∧ ((o ≤ 8 ∨ o = 12) → (0 ≤ a ∧ a < 8)) ∧ ((1 ≤ o ∧ o ≤ 8) → (0 ≤ b ∧ b < 8)) ∧ ((1 ≤ o ∧ o ≤ 3) → (0 ≤ d ∧ d < 8))) (¬ σ.1 5 0 0 = 80) ∧ (t2 ((0 ≤ o ∧ o < 14) ∧ ((o ≤ 8 ∨ o = 12) → (0 ≤ a ∧ a < 8)) ∧ ((1 ≤ o ∧ o ≤ 8) → (0 ≤ b ∧ b < 8)) ∧ ((1 ≤ o ∧ o ≤ 3) → (0 ≤ d ∧ d < 8))) (¬ σ.1 5 0 0 = 80) = 0 → u = (σ.1 5 0 0).toInt64)) (CC cs n ad (if t2 ((0 ≤ o ∧ o < 14) ∧ ((o ≤ 8 ∨ o = 12) → (0 ≤ a ∧ a < 8)) ∧ ((1 ≤ o ∧ o ≤ 8) → (0 ≤ b ∧ b < 8)) ∧ ((1 ≤ o ∧ o ≤ 3) → (0 ≤ d ∧ d < 8))) (¬ σ.1 5 0 0 = 80) = 0 then pApp σ o a b d else σ)) := by
  refine g_ofh (cc := cL_instruction) (maxL := 7) (by decide) rfl (Nat.le_of_ble_eq_true rfl) ?_
  intro p e s m args below meth c A ls Q hx hb hml hts hown hK hP hD hA hS hl hXW htab hret
  have hl : lv_has ls 7 [(0, .ref (ad 0)), (1, .int o), (2, .int a), (3, .int b), (4, .int d), (5, .ref qo)] := hl
  refine lv_aload hx hb dL_instruction_0 (lv_at hl 5 rfl) ?_
  refine lv_iconst (v := 0) hx hb dL_instruction_2 (by decide) ?_
  refine lv_aload_n hx hb dL_instruction_3 rfl (lv_at hl 0 rfl) ?_
  refine lv_iload_n hx hb dL_instruction_4 rfl (lv_at hl 1 rfl) ?_
  refine lv_iload_n hx hb dL_instruction_5 rfl (lv_at hl 2 rfl) ?_
  refine lv_iload_n hx hb dL_instruction_6 rfl (lv_at hl 3 rfl) ?_
  refine lv_iload hx hb dL_instruction_7 (lv_at hl 4 rfl) ?_
  refine g_hx (As := [.int o, .int a, .int b, .int d]) (rest := [.int 0, .ref qo]) ⟨hx, hb, hml, hown, hts⟩ (kX4_instruction l hl0 D cs n ad σ hn4 o a b d G hI) (cwV 4 hts gL_instruction_X4_instruction rfl rfl rfl (by decide +kernel) ⟨Nat.le_of_ble_eq_true rfl, Nat.le_of_ble_eq_true rfl⟩) hK hP hD hS hA hXW 0 (ci := 4) rfl rfl cc_obj hl.1 dL_instruction_9 rfl rfl (Nat.le_of_ble_eq_true rfl) ⟨Nat.le_of_ble_eq_true rfl, Nat.le_of_ble_eq_true rfl⟩ (fun E ce q9 H locs hE hP hS h9 hv hcl => ?_) (fun r u H locs hw hP hS => ?_)
  · rcases hE with ⟨rfl, hT⟩ | ⟨rfl, hT⟩
    · refine vx_catch (own := RL) (name := eA) hown [] ⟨0, 14, 17, 13⟩ [⟨0, 14, 21, 15⟩] htab (fun z hz => absurd hz List.not_mem_nil) (by decide) (by decide) (hts _ lkL_instruction_k13) (castA hXW) h9 hv hcl ?_
      refine lv_astore (lv' := [(6, .ref q9), (0, .ref (ad 0)), (1, .int o), (2, .int a), (3, .int b), (4, .int d), (5, .ref qo)]) hx hb dL_instruction_17 hl (by decide) rfl (fun ls hl => ?_)
      refine lv_iconst (v := 1) hx hb dL_instruction_19 (by decide) ?_
      exact hret _ _ 1 v0 _ _ dL_instruction_20 (by rw [hT, if_neg T1ne]; exact hP) hS ⟨hT.symm, fun h => absurd (hT.symm.trans h) T1ne⟩
    · refine vx_catch (own := RL) (name := eU) hown [⟨0, 14, 17, 13⟩] ⟨0, 14, 21, 15⟩ [] htab (fun z hz => by rw [List.mem_singleton.mp hz]; exact Or.inr ⟨by decide, eA, hts _ lkL_instruction_k13, hXW.2.2.2.2.1⟩) (by decide) (by decide) (hts _ lkL_instruction_k15) (castU hXW) h9 hv hcl ?_
      refine lv_astore (lv' := [(6, .ref q9), (0, .ref (ad 0)), (1, .int o), (2, .int a), (3, .int b), (4, .int d), (5, .ref qo)]) hx hb dL_instruction_21 hl (by decide) rfl (fun ls hl => ?_)
      refine lv_iconst (v := 2) hx hb dL_instruction_23 (by decide) ?_
      exact hret _ _ 2 v0 _ _ dL_instruction_24 (by rw [hT, if_neg T2ne]; exact hP) hS ⟨hT.symm, fun h => absurd (hT.symm.trans h) T2ne⟩
  · obtain ⟨hT, rfl⟩ := hw
    refine lv_i2l (v := (σ.1 5 0 0).toInt64) hx hb dL_instruction_12 rfl ?_
    refine va_last hx hb hK hP (oD hD _) hS 0 2 rfl rfl (show vp_in (nI 0) 1 from vp_in_nI (by decide) (by decide)) dL_instruction_13 (fun H locs hP _ hS => ?_)
    have hP : va_P D vwCl (oW cs qo ((σ.1 5 0 0).toInt64) :: FW (5 * (n + 2)) ad (CC cs n ad (pApp σ o a b d))) H := by rw [oW_set] at hP; exact hP
    refine lv_goto (tgt := 25) hx hb dL_instruction_14 (by decide) ?_
    refine lv_iconst (v := 0) hx hb dL_instruction_25 (by decide) ?_
    exact hret _ _ 0 _ _ _ dL_instruction_26 (by rw [if_pos hT]; exact hP) hS ⟨hT.symm, fun _ => rfl⟩

theorem lkL_start_k21 : Cond.classLink RL 21 eI ∈ wsL_start := by decide +kernel
theorem lkL_start_k13 : Cond.classLink RL 13 eA ∈ wsL_start := by decide +kernel
abbrev rmL_start : Room := ({ frames := 7, cells := 1, slots := 6, locals := 105 } : Room)
set_option maxRecDepth 100000 in
set_option maxHeartbeats 4000000 in
theorem kL_start (l : Launch) (hl0 : l.stackTraces = false) (D : va_G) (cs : Nat → ClassId) (n : Nat) (ad : Nat → Nat) (σ : St) (qo : Nat) (v0 : Int64) (hn4 : n ≤ 4) (x y : Int32) (G : Nat) (hI : Inv σ G) : gHx l yL_start wsL_start rmL_start D (tyL cs) (5 * (n + 2)) ad (CC cs n ad σ) (oW cs qo v0) (oW cs qo) [.ref (ad 0), .int x, .int y, .ref qo] (fun r u => r = t2 (0 ≤ x ∧ x < nI n) (0 ≤ y ∧ y ≤ 80) ∧ (t2 (0 ≤ x ∧ x < nI n) (0 ≤ y ∧ y ≤ 80) = 0 → u = (σ.1 13 (iN x) 0).toInt64)) (CC cs n ad (if t2 (0 ≤ x ∧ x < nI n) (0 ≤ y ∧ y ≤ 80) = 0 then pStart σ (iN x) y else σ)) := by
  refine g_ofh (cc := cL_start) (maxL := 5) (by decide) rfl (Nat.le_of_ble_eq_true rfl) ?_
  intro p e s m args below meth c A ls Q hx hb hml hts hown hK hP hD hA hS hl hXW htab hret
  have hl : lv_has ls 5 [(0, .ref (ad 0)), (1, .int x), (2, .int y), (3, .ref qo)] := hl
  refine lv_aload_n hx hb dL_start_0 rfl (lv_at hl 3 rfl) ?_
  refine lv_iconst (v := 0) hx hb dL_start_1 (by decide) ?_
  refine lv_aload_n hx hb dL_start_2 rfl (lv_at hl 0 rfl) ?_
  refine lv_iload_n hx hb dL_start_3 rfl (lv_at hl 1 rfl) ?_
  refine lv_iload_n hx hb dL_start_4 rfl (lv_at hl 2 rfl) ?_
  refine g_hx (As := [.int x, .int y]) (rest := [.int 0, .ref qo]) ⟨hx, hb, hml, hown, hts⟩ (kX4_start l hl0 D cs n ad σ hn4 x y G hI) (cwV 2 hts gL_start_X4_start rfl rfl rfl (by decide +kernel) ⟨Nat.le_of_ble_eq_true rfl, Nat.le_of_ble_eq_true rfl⟩) hK hP hD hS hA hXW 0 (ci := 4) rfl rfl cc_obj hl.1 dL_start_5 rfl rfl (Nat.le_of_ble_eq_true rfl) ⟨Nat.le_of_ble_eq_true rfl, Nat.le_of_ble_eq_true rfl⟩ (fun E ce q9 H locs hE hP hS h9 hv hcl => ?_) (fun r u H locs hw hP hS => ?_)
  · rcases hE with ⟨rfl, hT⟩ | ⟨rfl, hT⟩
    · refine vx_catch (own := RL) (name := eI) hown [] ⟨0, 10, 13, 21⟩ [⟨0, 10, 17, 13⟩] htab (fun z hz => absurd hz List.not_mem_nil) (by decide) (by decide) (hts _ lkL_start_k21) (castI hXW) h9 hv hcl ?_
      refine lv_astore (lv' := [(4, .ref q9), (0, .ref (ad 0)), (1, .int x), (2, .int y), (3, .ref qo)]) hx hb dL_start_13 hl (by decide) rfl (fun ls hl => ?_)
      refine lv_iconst (v := 1) hx hb dL_start_15 (by decide) ?_
      exact hret _ _ 1 v0 _ _ dL_start_16 (by rw [hT, if_neg T1ne]; exact hP) hS ⟨hT.symm, fun h => absurd (hT.symm.trans h) T1ne⟩
    · refine vx_catch (own := RL) (name := eA) hown [⟨0, 10, 13, 21⟩] ⟨0, 10, 17, 13⟩ [] htab (fun z hz => by rw [List.mem_singleton.mp hz]; exact Or.inr ⟨by decide, eI, hts _ lkL_start_k21, hXW.2.2.2.1⟩) (by decide) (by decide) (hts _ lkL_start_k13) (castA hXW) h9 hv hcl ?_
      refine lv_astore (lv' := [(4, .ref q9), (0, .ref (ad 0)), (1, .int x), (2, .int y), (3, .ref qo)]) hx hb dL_start_17 hl (by decide) rfl (fun ls hl => ?_)
      refine lv_iconst (v := 2) hx hb dL_start_19 (by decide) ?_
      exact hret _ _ 2 v0 _ _ dL_start_20 (by rw [hT, if_neg T2ne]; exact hP) hS ⟨hT.symm, fun h => absurd (hT.symm.trans h) T2ne⟩
  · obtain ⟨hT, rfl⟩ := hw
    refine lv_i2l (v := (σ.1 13 (iN x) 0).toInt64) hx hb dL_start_8 rfl ?_
    refine va_last hx hb hK hP (oD hD _) hS 0 2 rfl rfl (show vp_in (nI 0) 1 from vp_in_nI (by decide) (by decide)) dL_start_9 (fun H locs hP _ hS => ?_)
    have hP : va_P D vwCl (oW cs qo ((σ.1 13 (iN x) 0).toInt64) :: FW (5 * (n + 2)) ad (CC cs n ad (pStart σ (iN x) y))) H := by rw [oW_set] at hP; exact hP
    refine lv_goto (tgt := 21) hx hb dL_start_10 (by decide) ?_
    refine lv_iconst (v := 0) hx hb dL_start_21 (by decide) ?_
    exact hret _ _ 0 _ _ _ dL_start_22 (by rw [if_pos hT]; exact hP) hS ⟨hT.symm, fun _ => rfl⟩

theorem lkL_set_k21 : Cond.classLink RL 21 eI ∈ wsL_set := by decide +kernel
abbrev rmL_set : Room := ({ frames := 7, cells := 1, slots := 6, locals := 105 } : Room)
set_option maxRecDepth 100000 in
set_option maxHeartbeats 4000000 in
theorem kL_set (l : Launch) (hl0 : l.stackTraces = false) (D : va_G) (cs : Nat → ClassId) (n : Nat) (ad : Nat → Nat) (σ : St) (qo : Nat) (v0 : Int64) (hn4 : n ≤ 4) (x y v : Int32) (G : Nat) (hI : Inv σ G) : gHx l yL_set wsL_set rmL_set D (tyL cs) (5 * (n + 2)) ad (CC cs n ad σ) (oW cs qo v0) (oW cs qo) [.ref (ad 0), .int x, .int y, .int v, .ref qo] (fun r u => r = t1 ((0 ≤ x ∧ x < nI n) ∧ (0 ≤ y ∧ y < 8)) ∧ (t1 ((0 ≤ x ∧ x < nI n) ∧ (0 ≤ y ∧ y < 8)) = 0 → u = (σ.1 10 (iN x) (iN y)).toInt64)) (CC cs n ad (if t1 ((0 ≤ x ∧ x < nI n) ∧ (0 ≤ y ∧ y < 8)) = 0 then pGive σ (iN x) (iN y) v else σ)) := by
  refine g_ofh (cc := cL_set) (maxL := 6) (by decide) rfl (Nat.le_of_ble_eq_true rfl) ?_
  intro p e s m args below meth c A ls Q hx hb hml hts hown hK hP hD hA hS hl hXW htab hret
  have hl : lv_has ls 6 [(0, .ref (ad 0)), (1, .int x), (2, .int y), (3, .int v), (4, .ref qo)] := hl
  refine lv_aload hx hb dL_set_0 (lv_at hl 4 rfl) ?_
  refine lv_iconst (v := 0) hx hb dL_set_2 (by decide) ?_
  refine lv_aload_n hx hb dL_set_3 rfl (lv_at hl 0 rfl) ?_
  refine lv_iload_n hx hb dL_set_4 rfl (lv_at hl 1 rfl) ?_
  refine lv_iload_n hx hb dL_set_5 rfl (lv_at hl 2 rfl) ?_
  refine lv_iload_n hx hb dL_set_6 rfl (lv_at hl 3 rfl) ?_
  refine g_hx (As := [.int x, .int y, .int v]) (rest := [.int 0, .ref qo]) ⟨hx, hb, hml, hown, hts⟩ (kX4_set l hl0 D cs n ad σ hn4 x y v G hI) (cwV 3 hts gL_set_X4_set rfl rfl rfl (by decide +kernel) ⟨Nat.le_of_ble_eq_true rfl, Nat.le_of_ble_eq_true rfl⟩) hK hP hD hS hA hXW 0 (ci := 4) rfl rfl cc_obj hl.1 dL_set_7 rfl rfl (Nat.le_of_ble_eq_true rfl) ⟨Nat.le_of_ble_eq_true rfl, Nat.le_of_ble_eq_true rfl⟩ (fun E ce q9 H locs hE hP hS h9 hv hcl => ?_) (fun r u H locs hw hP hS => ?_)
  · obtain ⟨rfl, hT⟩ := hE
    refine vx_catch (own := RL) (name := eI) hown [] ⟨0, 12, 15, 21⟩ [] htab (fun z hz => absurd hz List.not_mem_nil) (by decide) (by decide) (hts _ lkL_set_k21) (castI hXW) h9 hv hcl ?_
    refine lv_astore (lv' := [(5, .ref q9), (0, .ref (ad 0)), (1, .int x), (2, .int y), (3, .int v), (4, .ref qo)]) hx hb dL_set_15 hl (by decide) rfl (fun ls hl => ?_)
    refine lv_iconst (v := 1) hx hb dL_set_17 (by decide) ?_
    exact hret _ _ 1 v0 _ _ dL_set_18 (by rw [hT, if_neg T1ne]; exact hP) hS ⟨hT.symm, fun h => absurd (hT.symm.trans h) T1ne⟩
  · obtain ⟨hT, rfl⟩ := hw
    refine lv_i2l (v := (σ.1 10 (iN x) (iN y)).toInt64) hx hb dL_set_10 rfl ?_
    refine va_last hx hb hK hP (oD hD _) hS 0 2 rfl rfl (show vp_in (nI 0) 1 from vp_in_nI (by decide) (by decide)) dL_set_11 (fun H locs hP _ hS => ?_)
    have hP : va_P D vwCl (oW cs qo ((σ.1 10 (iN x) (iN y)).toInt64) :: FW (5 * (n + 2)) ad (CC cs n ad (pGive σ (iN x) (iN y) v))) H := by rw [oW_set] at hP; exact hP
    refine lv_goto (tgt := 19) hx hb dL_set_12 (by decide) ?_
    refine lv_iconst (v := 0) hx hb dL_set_19 (by decide) ?_
    exact hret _ _ 0 _ _ _ dL_set_20 (by rw [if_pos hT]; exact hP) hS ⟨hT.symm, fun _ => rfl⟩

theorem lkL_poke_k21 : Cond.classLink RL 21 eI ∈ wsL_poke := by decide +kernel
abbrev rmL_poke : Room := ({ frames := 7, cells := 1, slots := 6, locals := 130 } : Room)
set_option maxRecDepth 100000 in
set_option maxHeartbeats 4000000 in
theorem kL_poke (l : Launch) (hl0 : l.stackTraces = false) (D : va_G) (cs : Nat → ClassId) (n : Nat) (ad : Nat → Nat) (σ : St) (qo : Nat) (v0 : Int64) (hn4 : n ≤ 4) (x v : Int32) (G : Nat) (hI : Inv σ G) : gHx l yL_poke wsL_poke rmL_poke D (tyL cs) (5 * (n + 2)) ad (CC cs n ad σ) (oW cs qo v0) (oW cs qo) [.ref (ad 0), .int x, .int v, .ref qo] (fun r u => r = t1 (0 ≤ x ∧ x < 64) ∧ (t1 (0 ≤ x ∧ x < 64) = 0 → u = (σ.1 0 0 (iN x)).toInt64)) (CC cs n ad (if t1 (0 ≤ x ∧ x < 64) = 0 then pPoke σ n (iN x) v else σ)) := by
  refine g_ofh (cc := cL_poke) (maxL := 5) (by decide) rfl (Nat.le_of_ble_eq_true rfl) ?_
  intro p e s m args below meth c A ls Q hx hb hml hts hown hK hP hD hA hS hl hXW htab hret
  have hl : lv_has ls 5 [(0, .ref (ad 0)), (1, .int x), (2, .int v), (3, .ref qo)] := hl
  refine lv_aload_n hx hb dL_poke_0 rfl (lv_at hl 3 rfl) ?_
  refine lv_iconst (v := 0) hx hb dL_poke_1 (by decide) ?_
  refine lv_aload_n hx hb dL_poke_2 rfl (lv_at hl 0 rfl) ?_
  refine lv_iload_n hx hb dL_poke_3 rfl (lv_at hl 1 rfl) ?_
  refine lv_iload_n hx hb dL_poke_4 rfl (lv_at hl 2 rfl) ?_
  refine g_hx (As := [.int x, .int v]) (rest := [.int 0, .ref qo]) ⟨hx, hb, hml, hown, hts⟩ (kX4_poke l hl0 D cs n ad σ hn4 x v G hI) (cwV 2 hts gL_poke_X4_poke rfl rfl rfl (by decide +kernel) ⟨Nat.le_of_ble_eq_true rfl, Nat.le_of_ble_eq_true rfl⟩) hK hP hD hS hA hXW 0 (ci := 4) rfl rfl cc_obj hl.1 dL_poke_5 rfl rfl (Nat.le_of_ble_eq_true rfl) ⟨Nat.le_of_ble_eq_true rfl, Nat.le_of_ble_eq_true rfl⟩ (fun E ce q9 H locs hE hP hS h9 hv hcl => ?_) (fun r u H locs hw hP hS => ?_)
  · obtain ⟨rfl, hT⟩ := hE
    refine vx_catch (own := RL) (name := eI) hown [] ⟨0, 10, 13, 21⟩ [] htab (fun z hz => absurd hz List.not_mem_nil) (by decide) (by decide) (hts _ lkL_poke_k21) (castI hXW) h9 hv hcl ?_
    refine lv_astore (lv' := [(4, .ref q9), (0, .ref (ad 0)), (1, .int x), (2, .int v), (3, .ref qo)]) hx hb dL_poke_13 hl (by decide) rfl (fun ls hl => ?_)
    refine lv_iconst (v := 1) hx hb dL_poke_15 (by decide) ?_
    exact hret _ _ 1 v0 _ _ dL_poke_16 (by rw [hT, if_neg T1ne]; exact hP) hS ⟨hT.symm, fun h => absurd (hT.symm.trans h) T1ne⟩
  · obtain ⟨hT, rfl⟩ := hw
    refine lv_i2l (v := (σ.1 0 0 (iN x)).toInt64) hx hb dL_poke_8 rfl ?_
    refine va_last hx hb hK hP (oD hD _) hS 0 2 rfl rfl (show vp_in (nI 0) 1 from vp_in_nI (by decide) (by decide)) dL_poke_9 (fun H locs hP _ hS => ?_)
    have hP : va_P D vwCl (oW cs qo ((σ.1 0 0 (iN x)).toInt64) :: FW (5 * (n + 2)) ad (CC cs n ad (pPoke σ n (iN x) v))) H := by rw [oW_set] at hP; exact hP
    refine lv_goto (tgt := 17) hx hb dL_poke_10 (by decide) ?_
    refine lv_iconst (v := 0) hx hb dL_poke_17 (by decide) ?_
    exact hret _ _ 0 _ _ _ dL_poke_18 (by rw [if_pos hT]; exact hP) hS ⟨hT.symm, fun _ => rfl⟩

theorem lkL_pick_k21 : Cond.classLink RL 21 eI ∈ wsL_pick := by decide +kernel
theorem lkL_pick_k13 : Cond.classLink RL 13 eA ∈ wsL_pick := by decide +kernel
abbrev rmL_pick : Room := ({ frames := 7, cells := 1, slots := 6, locals := 204 } : Room)
set_option maxRecDepth 100000 in
set_option maxHeartbeats 4000000 in
theorem kL_pick (l : Launch) (hl0 : l.stackTraces = false) (D : va_G) (cs : Nat → ClassId) (n : Nat) (ad : Nat → Nat) (σ : St) (qo : Nat) (v0 : Int64) (hn4 : n ≤ 4) (x y : Int32) (G : Nat) (hI : Inv σ G) (hG : G + 2000 < 2 ^ 30) : gHx l yL_pick wsL_pick rmL_pick D (tyL cs) (5 * (n + 2)) ad (CC cs n ad σ) (oW cs qo v0) (oW cs qo) [.ref (ad 0), .int x, .int y, .ref qo] (fun r u => r = t2 (0 ≤ x ∧ x < nI n) (0 ≤ y ∧ y ≤ 2000) ∧ (t2 (0 ≤ x ∧ x < nI n) (0 ≤ y ∧ y ≤ 2000) = 0 → u = ((pPick n (iN x) (iN y) 0 σ).2).toInt64)) (CC cs n ad (if t2 (0 ≤ x ∧ x < nI n) (0 ≤ y ∧ y ≤ 2000) = 0 then (pPick n (iN x) (iN y) 0 σ).1 else σ)) := by
  refine g_ofh (cc := cL_pick) (maxL := 5) (by decide) rfl (Nat.le_of_ble_eq_true rfl) ?_
  intro p e s m args below meth c A ls Q hx hb hml hts hown hK hP hD hA hS hl hXW htab hret
  have hl : lv_has ls 5 [(0, .ref (ad 0)), (1, .int x), (2, .int y), (3, .ref qo)] := hl
  refine lv_aload_n hx hb dL_pick_0 rfl (lv_at hl 3 rfl) ?_
  refine lv_iconst (v := 0) hx hb dL_pick_1 (by decide) ?_
  refine lv_aload_n hx hb dL_pick_2 rfl (lv_at hl 0 rfl) ?_
  refine lv_iload_n hx hb dL_pick_3 rfl (lv_at hl 1 rfl) ?_
  refine lv_iload_n hx hb dL_pick_4 rfl (lv_at hl 2 rfl) ?_
  refine g_hx (As := [.int x, .int y]) (rest := [.int 0, .ref qo]) ⟨hx, hb, hml, hown, hts⟩ (kX4_pick l hl0 D cs n ad σ hn4 x y G hI hG) (cwV 2 hts gL_pick_X4_pick rfl rfl rfl (by decide +kernel) ⟨Nat.le_of_ble_eq_true rfl, Nat.le_of_ble_eq_true rfl⟩) hK hP hD hS hA hXW 0 (ci := 4) rfl rfl cc_obj hl.1 dL_pick_5 rfl rfl (Nat.le_of_ble_eq_true rfl) ⟨Nat.le_of_ble_eq_true rfl, Nat.le_of_ble_eq_true rfl⟩ (fun E ce q9 H locs hE hP hS h9 hv hcl => ?_) (fun r u H locs hw hP hS => ?_)
  · rcases hE with ⟨rfl, hT⟩ | ⟨rfl, hT⟩
    · refine vx_catch (own := RL) (name := eI) hown [] ⟨0, 10, 13, 21⟩ [⟨0, 10, 17, 13⟩] htab (fun z hz => absurd hz List.not_mem_nil) (by decide) (by decide) (hts _ lkL_pick_k21) (castI hXW) h9 hv hcl ?_
      refine lv_astore (lv' := [(4, .ref q9), (0, .ref (ad 0)), (1, .int x), (2, .int y), (3, .ref qo)]) hx hb dL_pick_13 hl (by decide) rfl (fun ls hl => ?_)
      refine lv_iconst (v := 1) hx hb dL_pick_15 (by decide) ?_
      exact hret _ _ 1 v0 _ _ dL_pick_16 (by rw [hT, if_neg T1ne]; exact hP) hS ⟨hT.symm, fun h => absurd (hT.symm.trans h) T1ne⟩
    · refine vx_catch (own := RL) (name := eA) hown [⟨0, 10, 13, 21⟩] ⟨0, 10, 17, 13⟩ [] htab (fun z hz => by rw [List.mem_singleton.mp hz]; exact Or.inr ⟨by decide, eI, hts _ lkL_pick_k21, hXW.2.2.2.1⟩) (by decide) (by decide) (hts _ lkL_pick_k13) (castA hXW) h9 hv hcl ?_
      refine lv_astore (lv' := [(4, .ref q9), (0, .ref (ad 0)), (1, .int x), (2, .int y), (3, .ref qo)]) hx hb dL_pick_17 hl (by decide) rfl (fun ls hl => ?_)
      refine lv_iconst (v := 2) hx hb dL_pick_19 (by decide) ?_
      exact hret _ _ 2 v0 _ _ dL_pick_20 (by rw [hT, if_neg T2ne]; exact hP) hS ⟨hT.symm, fun h => absurd (hT.symm.trans h) T2ne⟩
  · obtain ⟨hT, rfl⟩ := hw
    refine lv_i2l (v := ((pPick n (iN x) (iN y) 0 σ).2).toInt64) hx hb dL_pick_8 rfl ?_
    refine va_last hx hb hK hP (oD hD _) hS 0 2 rfl rfl (show vp_in (nI 0) 1 from vp_in_nI (by decide) (by decide)) dL_pick_9 (fun H locs hP _ hS => ?_)
    have hP : va_P D vwCl (oW cs qo (((pPick n (iN x) (iN y) 0 σ).2).toInt64) :: FW (5 * (n + 2)) ad (CC cs n ad ((pPick n (iN x) (iN y) 0 σ).1))) H := by rw [oW_set] at hP; exact hP
    refine lv_goto (tgt := 21) hx hb dL_pick_10 (by decide) ?_
    refine lv_iconst (v := 0) hx hb dL_pick_21 (by decide) ?_
    exact hret _ _ 0 _ _ _ dL_pick_22 (by rw [if_pos hT]; exact hP) hS ⟨hT.symm, fun _ => rfl⟩

theorem lkL_run_k13 : Cond.classLink RL 13 eA ∈ wsL_run := by decide +kernel
abbrev rmL_run : Room := ({ frames := 7, cells := 1, slots := 6, locals := 205 } : Room)
set_option maxRecDepth 100000 in
set_option maxHeartbeats 4000000 in
theorem kL_run (l : Launch) (hl0 : l.stackTraces = false) (D : va_G) (cs : Nat → ClassId) (n : Nat) (ad : Nat → Nat) (σ : St) (qo : Nat) (v0 : Int64) (hn0 : 0 < n) (hn4 : n ≤ 4) (x y : Int32) (G : Nat) (hI : Inv σ G) (hG : G + 2000 < 2 ^ 30) : gHx l yL_run wsL_run rmL_run D (tyL cs) (5 * (n + 2)) ad (CC cs n ad σ) (oW cs qo v0) (oW cs qo) [.ref (ad 0), .int x, .int y, .ref qo] (fun r u => r = t1 (0 ≤ y ∧ y ≤ 2000) ∧ (t1 (0 ≤ y ∧ y ≤ 2000) = 0 → u = ((pRun n (iN y) x 0 σ).2).toInt64)) (CC cs n ad (if t1 (0 ≤ y ∧ y ≤ 2000) = 0 then (pRun n (iN y) x 0 σ).1 else σ)) := by
  refine g_ofh (cc := cL_run) (maxL := 5) (by decide) rfl (Nat.le_of_ble_eq_true rfl) ?_
  intro p e s m args below meth c A ls Q hx hb hml hts hown hK hP hD hA hS hl hXW htab hret
  have hl : lv_has ls 5 [(0, .ref (ad 0)), (1, .int x), (2, .int y), (3, .ref qo)] := hl
  refine lv_aload_n hx hb dL_run_0 rfl (lv_at hl 3 rfl) ?_
  refine lv_iconst (v := 0) hx hb dL_run_1 (by decide) ?_
  refine lv_aload_n hx hb dL_run_2 rfl (lv_at hl 0 rfl) ?_
  refine lv_iload_n hx hb dL_run_3 rfl (lv_at hl 1 rfl) ?_
  refine lv_iload_n hx hb dL_run_4 rfl (lv_at hl 2 rfl) ?_
  refine g_hx (As := [.int x, .int y]) (rest := [.int 0, .ref qo]) ⟨hx, hb, hml, hown, hts⟩ (kX4_run l hl0 D cs n ad σ hn0 hn4 x y G hI hG) (cwV 2 hts gL_run_X4_run rfl rfl rfl (by decide +kernel) ⟨Nat.le_of_ble_eq_true rfl, Nat.le_of_ble_eq_true rfl⟩) hK hP hD hS hA hXW 0 (ci := 4) rfl rfl cc_obj hl.1 dL_run_5 rfl rfl (Nat.le_of_ble_eq_true rfl) ⟨Nat.le_of_ble_eq_true rfl, Nat.le_of_ble_eq_true rfl⟩ (fun E ce q9 H locs hE hP hS h9 hv hcl => ?_) (fun r u H locs hw hP hS => ?_)
  · obtain ⟨rfl, hT⟩ := hE
    refine vx_catch (own := RL) (name := eA) hown [] ⟨0, 10, 13, 13⟩ [] htab (fun z hz => absurd hz List.not_mem_nil) (by decide) (by decide) (hts _ lkL_run_k13) (castA hXW) h9 hv hcl ?_
    refine lv_astore (lv' := [(4, .ref q9), (0, .ref (ad 0)), (1, .int x), (2, .int y), (3, .ref qo)]) hx hb dL_run_13 hl (by decide) rfl (fun ls hl => ?_)
    refine lv_iconst (v := 1) hx hb dL_run_15 (by decide) ?_
    exact hret _ _ 1 v0 _ _ dL_run_16 (by rw [hT, if_neg T1ne]; exact hP) hS ⟨hT.symm, fun h => absurd (hT.symm.trans h) T1ne⟩
  · obtain ⟨hT, rfl⟩ := hw
    refine lv_i2l (v := ((pRun n (iN y) x 0 σ).2).toInt64) hx hb dL_run_8 rfl ?_
    refine va_last hx hb hK hP (oD hD _) hS 0 2 rfl rfl (show vp_in (nI 0) 1 from vp_in_nI (by decide) (by decide)) dL_run_9 (fun H locs hP _ hS => ?_)
    have hP : va_P D vwCl (oW cs qo (((pRun n (iN y) x 0 σ).2).toInt64) :: FW (5 * (n + 2)) ad (CC cs n ad ((pRun n (iN y) x 0 σ).1))) H := by rw [oW_set] at hP; exact hP
    refine lv_goto (tgt := 17) hx hb dL_run_10 (by decide) ?_
    refine lv_iconst (v := 0) hx hb dL_run_17 (by decide) ?_
    exact hret _ _ 0 _ _ _ dL_run_18 (by rw [if_pos hT]; exact hP) hS ⟨hT.symm, fun _ => rfl⟩

theorem lkL_register_k21 : Cond.classLink RL 21 eI ∈ wsL_register := by decide +kernel
abbrev rmL_register : Room := ({ frames := 7, cells := 1, slots := 6, locals := 103 } : Room)
set_option maxRecDepth 100000 in
set_option maxHeartbeats 4000000 in
theorem kL_register (l : Launch) (hl0 : l.stackTraces = false) (D : va_G) (cs : Nat → ClassId) (n : Nat) (ad : Nat → Nat) (σ : St) (qo : Nat) (v0 : Int64) (hn4 : n ≤ 4) (x y : Int32) (G : Nat) (hI : Inv σ G) : gHx l yL_register wsL_register rmL_register D (tyL cs) (5 * (n + 2)) ad (CC cs n ad σ) (oW cs qo v0) (oW cs qo) [.ref (ad 0), .int x, .int y, .ref qo] (fun r u => r = t1 ((0 ≤ x ∧ x < nI n) ∧ (0 ≤ y ∧ y < 8)) ∧ (t1 ((0 ≤ x ∧ x < nI n) ∧ (0 ≤ y ∧ y < 8)) = 0 → u = (σ.1 10 (iN x) (iN y)).toInt64)) (CC cs n ad (if t1 ((0 ≤ x ∧ x < nI n) ∧ (0 ≤ y ∧ y < 8)) = 0 then σ else σ)) := by
  refine g_ofh (cc := cL_register) (maxL := 5) (by decide) rfl (Nat.le_of_ble_eq_true rfl) ?_
  intro p e s m args below meth c A ls Q hx hb hml hts hown hK hP hD hA hS hl hXW htab hret
  have hl : lv_has ls 5 [(0, .ref (ad 0)), (1, .int x), (2, .int y), (3, .ref qo)] := hl
  refine lv_aload_n hx hb dL_register_0 rfl (lv_at hl 3 rfl) ?_
  refine lv_iconst (v := 0) hx hb dL_register_1 (by decide) ?_
  refine lv_aload_n hx hb dL_register_2 rfl (lv_at hl 0 rfl) ?_
  refine lv_iload_n hx hb dL_register_3 rfl (lv_at hl 1 rfl) ?_
  refine lv_iload_n hx hb dL_register_4 rfl (lv_at hl 2 rfl) ?_
  refine g_hx (As := [.int x, .int y]) (rest := [.int 0, .ref qo]) ⟨hx, hb, hml, hown, hts⟩ (kX4_register l hl0 D cs n ad σ hn4 x y G hI) (cwV 2 hts gL_register_X4_register rfl rfl rfl (by decide +kernel) ⟨Nat.le_of_ble_eq_true rfl, Nat.le_of_ble_eq_true rfl⟩) hK hP hD hS hA hXW 0 (ci := 4) rfl rfl cc_obj hl.1 dL_register_5 rfl rfl (Nat.le_of_ble_eq_true rfl) ⟨Nat.le_of_ble_eq_true rfl, Nat.le_of_ble_eq_true rfl⟩ (fun E ce q9 H locs hE hP hS h9 hv hcl => ?_) (fun r u H locs hw hP hS => ?_)
  · obtain ⟨rfl, hT⟩ := hE
    refine vx_catch (own := RL) (name := eI) hown [] ⟨0, 10, 13, 21⟩ [] htab (fun z hz => absurd hz List.not_mem_nil) (by decide) (by decide) (hts _ lkL_register_k21) (castI hXW) h9 hv hcl ?_
    refine lv_astore (lv' := [(4, .ref q9), (0, .ref (ad 0)), (1, .int x), (2, .int y), (3, .ref qo)]) hx hb dL_register_13 hl (by decide) rfl (fun ls hl => ?_)
    refine lv_iconst (v := 1) hx hb dL_register_15 (by decide) ?_
    exact hret _ _ 1 v0 _ _ dL_register_16 (by rw [hT, if_neg T1ne]; exact hP) hS ⟨hT.symm, fun h => absurd (hT.symm.trans h) T1ne⟩
  · obtain ⟨hT, rfl⟩ := hw
    refine lv_i2l (v := (σ.1 10 (iN x) (iN y)).toInt64) hx hb dL_register_8 rfl ?_
    refine va_last hx hb hK hP (oD hD _) hS 0 2 rfl rfl (show vp_in (nI 0) 1 from vp_in_nI (by decide) (by decide)) dL_register_9 (fun H locs hP _ hS => ?_)
    have hP : va_P D vwCl (oW cs qo ((σ.1 10 (iN x) (iN y)).toInt64) :: FW (5 * (n + 2)) ad (CC cs n ad (σ))) H := by rw [oW_set] at hP; exact hP
    refine lv_goto (tgt := 17) hx hb dL_register_10 (by decide) ?_
    refine lv_iconst (v := 0) hx hb dL_register_17 (by decide) ?_
    exact hret _ _ 0 _ _ _ dL_register_18 (by rw [if_pos hT]; exact hP) hS ⟨hT.symm, fun _ => rfl⟩

theorem lkL_word_k21 : Cond.classLink RL 21 eI ∈ wsL_word := by decide +kernel
abbrev rmL_word : Room := ({ frames := 7, cells := 1, slots := 6, locals := 102 } : Room)
set_option maxRecDepth 100000 in
set_option maxHeartbeats 4000000 in
theorem kL_word (l : Launch) (hl0 : l.stackTraces = false) (D : va_G) (cs : Nat → ClassId) (n : Nat) (ad : Nat → Nat) (σ : St) (qo : Nat) (v0 : Int64) (hn4 : n ≤ 4) (x : Int32) (G : Nat) (hI : Inv σ G) : gHx l yL_word wsL_word rmL_word D (tyL cs) (5 * (n + 2)) ad (CC cs n ad σ) (oW cs qo v0) (oW cs qo) [.ref (ad 0), .int x, .ref qo] (fun r u => r = t1 (0 ≤ x ∧ x < 64) ∧ (t1 (0 ≤ x ∧ x < 64) = 0 → u = (σ.1 0 0 (iN x)).toInt64)) (CC cs n ad (if t1 (0 ≤ x ∧ x < 64) = 0 then σ else σ)) := by
  refine g_ofh (cc := cL_word) (maxL := 4) (by decide) rfl (Nat.le_of_ble_eq_true rfl) ?_
  intro p e s m args below meth c A ls Q hx hb hml hts hown hK hP hD hA hS hl hXW htab hret
  have hl : lv_has ls 4 [(0, .ref (ad 0)), (1, .int x), (2, .ref qo)] := hl
  refine lv_aload_n hx hb dL_word_0 rfl (lv_at hl 2 rfl) ?_
  refine lv_iconst (v := 0) hx hb dL_word_1 (by decide) ?_
  refine lv_aload_n hx hb dL_word_2 rfl (lv_at hl 0 rfl) ?_
  refine lv_iload_n hx hb dL_word_3 rfl (lv_at hl 1 rfl) ?_
  refine g_hx (As := [.int x]) (rest := [.int 0, .ref qo]) ⟨hx, hb, hml, hown, hts⟩ (kX4_word l hl0 D cs n ad σ hn4 x G hI) (cwV 1 hts gL_word_X4_word rfl rfl rfl (by decide +kernel) ⟨Nat.le_of_ble_eq_true rfl, Nat.le_of_ble_eq_true rfl⟩) hK hP hD hS hA hXW 0 (ci := 4) rfl rfl cc_obj hl.1 dL_word_4 rfl rfl (Nat.le_of_ble_eq_true rfl) ⟨Nat.le_of_ble_eq_true rfl, Nat.le_of_ble_eq_true rfl⟩ (fun E ce q9 H locs hE hP hS h9 hv hcl => ?_) (fun r u H locs hw hP hS => ?_)
  · obtain ⟨rfl, hT⟩ := hE
    refine vx_catch (own := RL) (name := eI) hown [] ⟨0, 9, 12, 21⟩ [] htab (fun z hz => absurd hz List.not_mem_nil) (by decide) (by decide) (hts _ lkL_word_k21) (castI hXW) h9 hv hcl ?_
    refine lv_astore_n (lv' := [(3, .ref q9), (0, .ref (ad 0)), (1, .int x), (2, .ref qo)]) hx hb dL_word_12 rfl hl (by decide) rfl (fun ls hl => ?_)
    refine lv_iconst (v := 1) hx hb dL_word_13 (by decide) ?_
    exact hret _ _ 1 v0 _ _ dL_word_14 (by rw [hT, if_neg T1ne]; exact hP) hS ⟨hT.symm, fun h => absurd (hT.symm.trans h) T1ne⟩
  · obtain ⟨hT, rfl⟩ := hw
    refine lv_i2l (v := (σ.1 0 0 (iN x)).toInt64) hx hb dL_word_7 rfl ?_
    refine va_last hx hb hK hP (oD hD _) hS 0 2 rfl rfl (show vp_in (nI 0) 1 from vp_in_nI (by decide) (by decide)) dL_word_8 (fun H locs hP _ hS => ?_)
    have hP : va_P D vwCl (oW cs qo ((σ.1 0 0 (iN x)).toInt64) :: FW (5 * (n + 2)) ad (CC cs n ad (σ))) H := by rw [oW_set] at hP; exact hP
    refine lv_goto (tgt := 15) hx hb dL_word_9 (by decide) ?_
    refine lv_iconst (v := 0) hx hb dL_word_15 (by decide) ?_
    exact hret _ _ 0 _ _ _ dL_word_16 (by rw [if_pos hT]; exact hP) hS ⟨hT.symm, fun _ => rfl⟩

theorem lkL_seen_k21 : Cond.classLink RL 21 eI ∈ wsL_seen := by decide +kernel
abbrev rmL_seen : Room := ({ frames := 7, cells := 1, slots := 6, locals := 103 } : Room)
set_option maxRecDepth 100000 in
set_option maxHeartbeats 4000000 in
theorem kL_seen (l : Launch) (hl0 : l.stackTraces = false) (D : va_G) (cs : Nat → ClassId) (n : Nat) (ad : Nat → Nat) (σ : St) (qo : Nat) (v0 : Int64) (hn4 : n ≤ 4) (x y : Int32) (G : Nat) (hI : Inv σ G) : gHx l yL_seen wsL_seen rmL_seen D (tyL cs) (5 * (n + 2)) ad (CC cs n ad σ) (oW cs qo v0) (oW cs qo) [.ref (ad 0), .int x, .int y, .ref qo] (fun r u => r = t1 ((0 ≤ x ∧ x < nI n) ∧ (0 ≤ y ∧ y < 64)) ∧ (t1 ((0 ≤ x ∧ x < nI n) ∧ (0 ≤ y ∧ y < 64)) = 0 → u = (pSeen σ (iN x) (iN y)).toInt64)) (CC cs n ad (if t1 ((0 ≤ x ∧ x < nI n) ∧ (0 ≤ y ∧ y < 64)) = 0 then σ else σ)) := by
  refine g_ofh (cc := cL_seen) (maxL := 5) (by decide) rfl (Nat.le_of_ble_eq_true rfl) ?_
  intro p e s m args below meth c A ls Q hx hb hml hts hown hK hP hD hA hS hl hXW htab hret
  have hl : lv_has ls 5 [(0, .ref (ad 0)), (1, .int x), (2, .int y), (3, .ref qo)] := hl
  refine lv_aload_n hx hb dL_seen_0 rfl (lv_at hl 3 rfl) ?_
  refine lv_iconst (v := 0) hx hb dL_seen_1 (by decide) ?_
  refine lv_aload_n hx hb dL_seen_2 rfl (lv_at hl 0 rfl) ?_
  refine lv_iload_n hx hb dL_seen_3 rfl (lv_at hl 1 rfl) ?_
  refine lv_iload_n hx hb dL_seen_4 rfl (lv_at hl 2 rfl) ?_
  refine g_hx (As := [.int x, .int y]) (rest := [.int 0, .ref qo]) ⟨hx, hb, hml, hown, hts⟩ (kX4_seen l hl0 D cs n ad σ hn4 x y G hI) (cwV 2 hts gL_seen_X4_seen rfl rfl rfl (by decide +kernel) ⟨Nat.le_of_ble_eq_true rfl, Nat.le_of_ble_eq_true rfl⟩) hK hP hD hS hA hXW 0 (ci := 4) rfl rfl cc_obj hl.1 dL_seen_5 rfl rfl (Nat.le_of_ble_eq_true rfl) ⟨Nat.le_of_ble_eq_true rfl, Nat.le_of_ble_eq_true rfl⟩ (fun E ce q9 H locs hE hP hS h9 hv hcl => ?_) (fun r u H locs hw hP hS => ?_)
  · obtain ⟨rfl, hT⟩ := hE
    refine vx_catch (own := RL) (name := eI) hown [] ⟨0, 10, 13, 21⟩ [] htab (fun z hz => absurd hz List.not_mem_nil) (by decide) (by decide) (hts _ lkL_seen_k21) (castI hXW) h9 hv hcl ?_
    refine lv_astore (lv' := [(4, .ref q9), (0, .ref (ad 0)), (1, .int x), (2, .int y), (3, .ref qo)]) hx hb dL_seen_13 hl (by decide) rfl (fun ls hl => ?_)
    refine lv_iconst (v := 1) hx hb dL_seen_15 (by decide) ?_
    exact hret _ _ 1 v0 _ _ dL_seen_16 (by rw [hT, if_neg T1ne]; exact hP) hS ⟨hT.symm, fun h => absurd (hT.symm.trans h) T1ne⟩
  · obtain ⟨hT, rfl⟩ := hw
    refine lv_i2l (v := (pSeen σ (iN x) (iN y)).toInt64) hx hb dL_seen_8 rfl ?_
    refine va_last hx hb hK hP (oD hD _) hS 0 2 rfl rfl (show vp_in (nI 0) 1 from vp_in_nI (by decide) (by decide)) dL_seen_9 (fun H locs hP _ hS => ?_)
    have hP : va_P D vwCl (oW cs qo ((pSeen σ (iN x) (iN y)).toInt64) :: FW (5 * (n + 2)) ad (CC cs n ad (σ))) H := by rw [oW_set] at hP; exact hP
    refine lv_goto (tgt := 17) hx hb dL_seen_10 (by decide) ?_
    refine lv_iconst (v := 0) hx hb dL_seen_17 (by decide) ?_
    exact hret _ _ 0 _ _ _ dL_seen_18 (by rw [if_pos hT]; exact hP) hS ⟨hT.symm, fun _ => rfl⟩

theorem lkL_told_k21 : Cond.classLink RL 21 eI ∈ wsL_told := by decide +kernel
theorem lkL_told_k13 : Cond.classLink RL 13 eA ∈ wsL_told := by decide +kernel
abbrev rmL_told : Room := ({ frames := 7, cells := 1, slots := 6, locals := 103 } : Room)
set_option maxRecDepth 100000 in
set_option maxHeartbeats 4000000 in
theorem kL_told (l : Launch) (hl0 : l.stackTraces = false) (D : va_G) (cs : Nat → ClassId) (n : Nat) (ad : Nat → Nat) (σ : St) (qo : Nat) (v0 : Int64) (hn4 : n ≤ 4) (x y : Int32) (G : Nat) (hI : Inv σ G) : gHx l yL_told wsL_told rmL_told D (tyL cs) (5 * (n + 2)) ad (CC cs n ad σ) (oW cs qo v0) (oW cs qo) [.ref (ad 0), .int x, .int y, .ref qo] (fun r u => r = t2 (0 ≤ x ∧ x < nI n) (0 ≤ y ∧ y < 10) ∧ (t2 (0 ≤ x ∧ x < nI n) (0 ≤ y ∧ y < 10) = 0 → u = (pTold σ (iN x) (iN y)).toInt64)) (CC cs n ad (if t2 (0 ≤ x ∧ x < nI n) (0 ≤ y ∧ y < 10) = 0 then σ else σ)) := by
  refine g_ofh (cc := cL_told) (maxL := 5) (by decide) rfl (Nat.le_of_ble_eq_true rfl) ?_
  intro p e s m args below meth c A ls Q hx hb hml hts hown hK hP hD hA hS hl hXW htab hret
  have hl : lv_has ls 5 [(0, .ref (ad 0)), (1, .int x), (2, .int y), (3, .ref qo)] := hl
  refine lv_aload_n hx hb dL_told_0 rfl (lv_at hl 3 rfl) ?_
  refine lv_iconst (v := 0) hx hb dL_told_1 (by decide) ?_
  refine lv_aload_n hx hb dL_told_2 rfl (lv_at hl 0 rfl) ?_
  refine lv_iload_n hx hb dL_told_3 rfl (lv_at hl 1 rfl) ?_
  refine lv_iload_n hx hb dL_told_4 rfl (lv_at hl 2 rfl) ?_
  refine g_hx (As := [.int x, .int y]) (rest := [.int 0, .ref qo]) ⟨hx, hb, hml, hown, hts⟩ (kX4_told l hl0 D cs n ad σ hn4 x y G hI) (cwV 2 hts gL_told_X4_told rfl rfl rfl (by decide +kernel) ⟨Nat.le_of_ble_eq_true rfl, Nat.le_of_ble_eq_true rfl⟩) hK hP hD hS hA hXW 0 (ci := 4) rfl rfl cc_obj hl.1 dL_told_5 rfl rfl (Nat.le_of_ble_eq_true rfl) ⟨Nat.le_of_ble_eq_true rfl, Nat.le_of_ble_eq_true rfl⟩ (fun E ce q9 H locs hE hP hS h9 hv hcl => ?_) (fun r u H locs hw hP hS => ?_)
  · rcases hE with ⟨rfl, hT⟩ | ⟨rfl, hT⟩
    · refine vx_catch (own := RL) (name := eI) hown [] ⟨0, 10, 13, 21⟩ [⟨0, 10, 17, 13⟩] htab (fun z hz => absurd hz List.not_mem_nil) (by decide) (by decide) (hts _ lkL_told_k21) (castI hXW) h9 hv hcl ?_
      refine lv_astore (lv' := [(4, .ref q9), (0, .ref (ad 0)), (1, .int x), (2, .int y), (3, .ref qo)]) hx hb dL_told_13 hl (by decide) rfl (fun ls hl => ?_)
      refine lv_iconst (v := 1) hx hb dL_told_15 (by decide) ?_
      exact hret _ _ 1 v0 _ _ dL_told_16 (by rw [hT, if_neg T1ne]; exact hP) hS ⟨hT.symm, fun h => absurd (hT.symm.trans h) T1ne⟩
    · refine vx_catch (own := RL) (name := eA) hown [⟨0, 10, 13, 21⟩] ⟨0, 10, 17, 13⟩ [] htab (fun z hz => by rw [List.mem_singleton.mp hz]; exact Or.inr ⟨by decide, eI, hts _ lkL_told_k21, hXW.2.2.2.1⟩) (by decide) (by decide) (hts _ lkL_told_k13) (castA hXW) h9 hv hcl ?_
      refine lv_astore (lv' := [(4, .ref q9), (0, .ref (ad 0)), (1, .int x), (2, .int y), (3, .ref qo)]) hx hb dL_told_17 hl (by decide) rfl (fun ls hl => ?_)
      refine lv_iconst (v := 2) hx hb dL_told_19 (by decide) ?_
      exact hret _ _ 2 v0 _ _ dL_told_20 (by rw [hT, if_neg T2ne]; exact hP) hS ⟨hT.symm, fun h => absurd (hT.symm.trans h) T2ne⟩
  · obtain ⟨hT, rfl⟩ := hw
    refine lv_i2l (v := (pTold σ (iN x) (iN y)).toInt64) hx hb dL_told_8 rfl ?_
    refine va_last hx hb hK hP (oD hD _) hS 0 2 rfl rfl (show vp_in (nI 0) 1 from vp_in_nI (by decide) (by decide)) dL_told_9 (fun H locs hP _ hS => ?_)
    have hP : va_P D vwCl (oW cs qo ((pTold σ (iN x) (iN y)).toInt64) :: FW (5 * (n + 2)) ad (CC cs n ad (σ))) H := by rw [oW_set] at hP; exact hP
    refine lv_goto (tgt := 21) hx hb dL_told_10 (by decide) ?_
    refine lv_iconst (v := 0) hx hb dL_told_21 (by decide) ?_
    exact hret _ _ 0 _ _ _ dL_told_22 (by rw [if_pos hT]; exact hP) hS ⟨hT.symm, fun _ => rfl⟩

theorem lkL_record_k21 : Cond.classLink RL 21 eI ∈ wsL_record := by decide +kernel
theorem lkL_record_k13 : Cond.classLink RL 13 eA ∈ wsL_record := by decide +kernel
abbrev rmL_record : Room := ({ frames := 7, cells := 1, slots := 6, locals := 103 } : Room)
set_option maxRecDepth 100000 in
set_option maxHeartbeats 4000000 in
theorem kL_record (l : Launch) (hl0 : l.stackTraces = false) (D : va_G) (cs : Nat → ClassId) (n : Nat) (ad : Nat → Nat) (σ : St) (qo : Nat) (v0 : Int64) (hn4 : n ≤ 4) (x y : Int32) (G : Nat) (hI : Inv σ G) : gHx l yL_record wsL_record rmL_record D (tyL cs) (5 * (n + 2)) ad (CC cs n ad σ) (oW cs qo v0) (oW cs qo) [.ref (ad 0), .int x, .int y, .ref qo] (fun r u => r = t2 (0 ≤ x ∧ x < σ.1 7 0 0) (0 ≤ y ∧ y < 4) ∧ (t2 (0 ≤ x ∧ x < σ.1 7 0 0) (0 ≤ y ∧ y < 4) = 0 → u = (σ.1 24 0 (4 * iN x + iN y)).toInt64)) (CC cs n ad (if t2 (0 ≤ x ∧ x < σ.1 7 0 0) (0 ≤ y ∧ y < 4) = 0 then σ else σ)) := by
  refine g_ofh (cc := cL_record) (maxL := 5) (by decide) rfl (Nat.le_of_ble_eq_true rfl) ?_
  intro p e s m args below meth c A ls Q hx hb hml hts hown hK hP hD hA hS hl hXW htab hret
  have hl : lv_has ls 5 [(0, .ref (ad 0)), (1, .int x), (2, .int y), (3, .ref qo)] := hl
  refine lv_aload_n hx hb dL_record_0 rfl (lv_at hl 3 rfl) ?_
  refine lv_iconst (v := 0) hx hb dL_record_1 (by decide) ?_
  refine lv_aload_n hx hb dL_record_2 rfl (lv_at hl 0 rfl) ?_
  refine lv_iload_n hx hb dL_record_3 rfl (lv_at hl 1 rfl) ?_
  refine lv_iload_n hx hb dL_record_4 rfl (lv_at hl 2 rfl) ?_
  refine g_hx (As := [.int x, .int y]) (rest := [.int 0, .ref qo]) ⟨hx, hb, hml, hown, hts⟩ (kX4_record l hl0 D cs n ad σ hn4 x y G hI) (cwV 2 hts gL_record_X4_record rfl rfl rfl (by decide +kernel) ⟨Nat.le_of_ble_eq_true rfl, Nat.le_of_ble_eq_true rfl⟩) hK hP hD hS hA hXW 0 (ci := 4) rfl rfl cc_obj hl.1 dL_record_5 rfl rfl (Nat.le_of_ble_eq_true rfl) ⟨Nat.le_of_ble_eq_true rfl, Nat.le_of_ble_eq_true rfl⟩ (fun E ce q9 H locs hE hP hS h9 hv hcl => ?_) (fun r u H locs hw hP hS => ?_)
  · rcases hE with ⟨rfl, hT⟩ | ⟨rfl, hT⟩
    · refine vx_catch (own := RL) (name := eI) hown [] ⟨0, 10, 13, 21⟩ [⟨0, 10, 17, 13⟩] htab (fun z hz => absurd hz List.not_mem_nil) (by decide) (by decide) (hts _ lkL_record_k21) (castI hXW) h9 hv hcl ?_
      refine lv_astore (lv' := [(4, .ref q9), (0, .ref (ad 0)), (1, .int x), (2, .int y), (3, .ref qo)]) hx hb dL_record_13 hl (by decide) rfl (fun ls hl => ?_)
      refine lv_iconst (v := 1) hx hb dL_record_15 (by decide) ?_
      exact hret _ _ 1 v0 _ _ dL_record_16 (by rw [hT, if_neg T1ne]; exact hP) hS ⟨hT.symm, fun h => absurd (hT.symm.trans h) T1ne⟩
    · refine vx_catch (own := RL) (name := eA) hown [⟨0, 10, 13, 21⟩] ⟨0, 10, 17, 13⟩ [] htab (fun z hz => by rw [List.mem_singleton.mp hz]; exact Or.inr ⟨by decide, eI, hts _ lkL_record_k21, hXW.2.2.2.1⟩) (by decide) (by decide) (hts _ lkL_record_k13) (castA hXW) h9 hv hcl ?_
      refine lv_astore (lv' := [(4, .ref q9), (0, .ref (ad 0)), (1, .int x), (2, .int y), (3, .ref qo)]) hx hb dL_record_17 hl (by decide) rfl (fun ls hl => ?_)
      refine lv_iconst (v := 2) hx hb dL_record_19 (by decide) ?_
      exact hret _ _ 2 v0 _ _ dL_record_20 (by rw [hT, if_neg T2ne]; exact hP) hS ⟨hT.symm, fun h => absurd (hT.symm.trans h) T2ne⟩
  · obtain ⟨hT, rfl⟩ := hw
    refine lv_i2l (v := (σ.1 24 0 (4 * iN x + iN y)).toInt64) hx hb dL_record_8 rfl ?_
    refine va_last hx hb hK hP (oD hD _) hS 0 2 rfl rfl (show vp_in (nI 0) 1 from vp_in_nI (by decide) (by decide)) dL_record_9 (fun H locs hP _ hS => ?_)
    have hP : va_P D vwCl (oW cs qo ((σ.1 24 0 (4 * iN x + iN y)).toInt64) :: FW (5 * (n + 2)) ad (CC cs n ad (σ))) H := by rw [oW_set] at hP; exact hP
    refine lv_goto (tgt := 21) hx hb dL_record_10 (by decide) ?_
    refine lv_iconst (v := 0) hx hb dL_record_21 (by decide) ?_
    exact hret _ _ 0 _ _ _ dL_record_22 (by rw [if_pos hT]; exact hP) hS ⟨hT.symm, fun _ => rfl⟩
