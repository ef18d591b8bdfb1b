/-! begun with the skeleton of kit/laws -/
/-! THE CLAIM OUT OF ONE WALK OF THE LAW'S BODY. Your part is whole_start (and what it stands on); all else here is the same for every law, but numbers. -/
def R_law : String := "CoreTransactionsLaw"
def lw_P (b : Addr) (xs : List Int32) (args : Array Value) (s : State) : Prop := args = #[.ref b] ∧ s.IntsAt b xs ∧ xs.length ≤ 2563 ∧ (Jvm.Cond.and given_1 narrow_1).before args s = true
def lw_Q (_ : Array Value) (s : State) (o : Outcome) (t : State) : Prop := o = .returned (some (.int 1)) ∧ Framed s o t [] 601024 7293000
def lw_Z (below : List Frame) (a : Array Value) (s : State) : State → Prop := fun t => ∃ o, t.status = .running ∧ Ended t below o ∧ lw_Q a s o t
/-- the law's own end, with 1 on the stack, nothing written that was there before, its room as the claim has it -/
theorem lw_ret {p : Program} {l : Launch} {e : Env} {s : State} {m : MethodId} {below : List Frame} {meth : Method} {c : Code} {b : Nat} (hx : p.tables.exec = Jvm.exec) (hb : c.code = code) (hr : meth.sig.returnType = ret) (hlocks : meth.locks = false) {pc : Nat} {H : Heap} {ls : Array Slot} (hdg : decode code pc = .ok (.ireturn, 1)) : W p l e room_1 s m #[Value.ref b] below meth c H [] 601024 7293000 (lw_Z below #[Value.ref b] s) (F0 m pc ls [.int 1]) := by
  intro T hT X
  obtain ⟨fs, hret, hrun, hended, hW, hframe⟩ := X.leave (v := some (.int 1)) (hlocks := hlocks) (fun h => by rw [hr] at h; cases h)
  have hmeth' : T.vm.method? m = some meth := X.method'
  refine ⟨T.setFrames fs, ?_, .returned (some (.int 1)), hrun, hended, rfl, ⟨_, rfl⟩, hW, hframe⟩
  jvm_step X.here [X.here.top, hx, hb, hdg, hmeth', hr, ret, narrow_b1]
  (try refine ⟨rfl, ?_⟩); (try refine ⟨rfl, ?_⟩)
  first | (intro acts; rw [hret _ acts rfl rfl rfl]) | rw [hret _ _ rfl rfl rfl]
  exact Steps.refl _
/-- what holds at the law's entry: the machine, the code, the tables' words (any of lw_tbl by 'hts w (by decide +kernel)'), the script of L ints xs at the cell b, what the Statement gives of the start (any of its parts by flat_of_before) -/
def lw_At (p : Program) (s : State) (m : MethodId) (meth : Method) (c : Code) (b L : Nat) (xs : Nat → Int32) : Prop :=
  p.tables.exec = Jvm.exec ∧ c.code = code ∧ meth.sig.returnType = ret ∧ c.maxLocals = 7 ∧ s.vm.findClass R_law = some m.cls ∧ (∀ w ∈ lw_tbl, w.before #[Value.ref b] s = true) ∧ va_X b L xs s s.heap ∧ b < s.heap.size ∧ meth.locks = false ∧ (Jvm.Cond.and given_1 narrow_1).before #[Value.ref b] s = true
/-! the law from its entry -/
theorem lw_ai : Cond.arrayClass .int ∈ lw_tbl := List.mem_of_getElem? (i := 85) (by decide +kernel)
theorem lw_al : Cond.arrayClass .long ∈ lw_tbl := List.mem_of_getElem? (i := 645) (by decide +kernel)
theorem lw_az : Cond.arrayClass .boolean ∈ lw_tbl := List.mem_of_getElem? (i := 644) (by decide +kernel)
theorem lw_ao : Cond.arrayOver (.object RX0) ∈ lw_tbl := List.mem_of_getElem? (i := 113) (by decide +kernel)
theorem lw_ci : Cond.castable eI eI ∈ lw_tbl := List.mem_of_getElem? (i := 351) (by decide +kernel)
theorem lw_ca : Cond.castable eA eA ∈ lw_tbl := List.mem_of_getElem? (i := 257) (by decide +kernel)
theorem lw_cu : Cond.castable eU eU ∈ lw_tbl := List.mem_of_getElem? (i := 320) (by decide +kernel)
theorem lw_d1 : Cond.declares (Bundle.init0 "java/lang/RuntimeException") ∈ lw_tbl := List.mem_of_getElem? (i := 258) (by decide +kernel)
theorem lw_d2 : Cond.declares (Bundle.init0 "java/lang/Exception") ∈ lw_tbl := List.mem_of_getElem? (i := 260) (by decide +kernel)
theorem lw_d3 : Cond.declares (Bundle.init0 Bundle.tN) ∈ lw_tbl := List.mem_of_getElem? (i := 262) (by decide +kernel)
theorem lw_lu : Cond.laysStatic Bundle.tN "UNASSIGNED_STACK" Bundle.steD ∈ lw_tbl := List.mem_of_getElem? (i := 282) (by decide +kernel)
theorem lw_ls : Cond.laysStatic Bundle.tN "SUPPRESSED_SENTINEL" Bundle.listD ∈ lw_tbl := List.mem_of_getElem? (i := 284) (by decide +kernel)
theorem lw_ti : Cond.initialized Bundle.tN ∈ lw_tbl := List.mem_of_getElem? (i := 41) (by decide +kernel)
theorem lw_x1 : Cond.methodLinkNest RX4 15 yX1_init RX4 ∈ lw_tbl := List.mem_of_getElem? (i := 60) (by decide +kernel)
theorem lw_x2 : Cond.methodLinkNest RX4 22 yX2_init RX4 ∈ lw_tbl := List.mem_of_getElem? (i := 88) (by decide +kernel)
theorem lw_x3 : Cond.methodLinkNest RX0 17 yX3_init RX4 ∈ lw_tbl := List.mem_of_getElem? (i := 121) (by decide +kernel)
theorem lw_n0 : Cond.instantiable RX0 8 ∈ lw_tbl := List.mem_of_getElem? (i := 114) (by decide +kernel)
theorem lw_n1 : Cond.instantiable RX1 5 ∈ lw_tbl := List.mem_of_getElem? (i := 59) (by decide +kernel)
theorem lw_n2 : Cond.instantiable RX2 3 ∈ lw_tbl := List.mem_of_getElem? (i := 87) (by decide +kernel)
theorem lw_n3 : Cond.instantiable RX3 9 ∈ lw_tbl := List.mem_of_getElem? (i := 120) (by decide +kernel)
theorem lw_n4 : Cond.instantiable RX4 7 ∈ lw_tbl := List.mem_of_getElem? (i := 51) (by decide +kernel)
theorem lw_n5 : Cond.instantiable RX5 29 ∈ lw_tbl := List.mem_of_getElem? (i := 548) (by decide +kernel)
theorem lw_k4 : Cond.classLink RL 8 RX4 ∈ lw_tbl := List.mem_of_getElem? (i := 50) (by decide +kernel)
theorem lw_k5 : Cond.classLink RL 61 RX5 ∈ lw_tbl := List.mem_of_getElem? (i := 547) (by decide +kernel)
theorem lw_i4 : Cond.initialized RX4 ∈ lw_tbl := List.mem_of_getElem? (i := 34) (by decide +kernel)
theorem lw_i5 : Cond.initialized RX5 ∈ lw_tbl := List.mem_of_getElem? (i := 40) (by decide +kernel)
theorem lw_m4 : Cond.methodLink RL 58 yX4_init ∈ lw_tbl := List.mem_of_getElem? (i := 52) (by decide +kernel)
theorem lw_m5 : Cond.methodLink RL 63 yX5_init ∈ lw_tbl := List.mem_of_getElem? (i := 549) (by decide +kernel)
theorem lw_j4 : Cond.instanceMethod yX4_init ∈ lw_tbl := List.mem_of_getElem? (i := 53) (by decide +kernel)
theorem lw_j5 : Cond.instanceMethod yX5_init ∈ lw_tbl := List.mem_of_getElem? (i := 550) (by decide +kernel)
theorem P_apps {D : va_G} {cl : List vw_C} {w1 w2 : va_W} {H : Heap} (h : va_P D cl (w1 ++ w2) H) : va_P D cl w1 H ∧ va_P D cl w2 H := ⟨fun k q hk => h k q (by rw [List.getElem?_append_left (List.getElem?_eq_some_iff.mp hk).1]; exact hk), fun k q hk => h (w1.length + k) q (by rw [List.getElem?_append_right (Nat.le_add_right _ _), Nat.add_sub_cancel_left]; exact hk)⟩
theorem D_apps {A : Nat → Prop} {w1 w2 : va_W} (h : va_D A (w1 ++ w2)) : va_D A w1 ∧ va_D A w2 ∧ ∀ (i j : Nat) (p q : Nat × va_E), w1[i]? = some p → w2[j]? = some q → p.1 ≠ q.1 := by
  have gl : ∀ (k : Nat) (x : Nat × va_E), w1[k]? = some x → (w1 ++ w2)[k]? = some x := fun k x hk => by rw [List.getElem?_append_left (List.getElem?_eq_some_iff.mp hk).1]; exact hk
  have gr : ∀ (k : Nat) (x : Nat × va_E), w2[k]? = some x → (w1 ++ w2)[w1.length + k]? = some x := fun k x hk => by rw [List.getElem?_append_right (Nat.le_add_right _ _), Nat.add_sub_cancel_left]; exact hk
  refine ⟨⟨fun i j p q hp hq e => h.1 i j p q (gl i p hp) (gl j q hq) e, fun k q hk => h.2 k q (gl k q hk)⟩, ⟨fun i j p q hp hq e => Nat.add_left_cancel (h.1 _ _ p q (gr i p hp) (gr j q hq) e), fun k q hk => h.2 _ q (gr k q hk)⟩, fun i j p q hp hq e => ?_⟩
  have h1 := h.1 _ _ p q (gl i p hp) (gr j q hq) e
  have h2 := (List.getElem?_eq_some_iff.mp hp).1
  omega
theorem LD_of {A : Nat → Prop} {N : Nat} {ad ad2 : Nat → Nat} {f g : Nat → va_E} {qo : Nat} {e0 : va_E} (hD : va_D A ((FW N ad f ++ FW 22 ad2 g) ++ [(qo, e0)])) : LD A N ad ad2 qo := by
  obtain ⟨h12, h3, x3⟩ := D_apps hD
  obtain ⟨h1, h2, x12⟩ := D_apps h12
  exact ⟨FW_Dall h1, FW_Dall h2, h3.2 0 _ rfl, fun i hi e => x3 i 0 (ad i, f i) (qo, e0) (by rw [List.getElem?_append_left (by rw [FW_len]; exact hi)]; exact FW_get hi rfl) rfl e, fun j hj e => x3 (N + j) 0 (ad2 j, g j) (qo, e0) (by rw [List.getElem?_append_right (by rw [FW_len]; omega), FW_len, Nat.add_sub_cancel_left]; exact FW_get hj rfl) rfl e, fun i hi j hj e => x12 i j _ _ (FW_get hi rfl) (FW_get hj rfl) e⟩
theorem oW_0 {cs : Nat → ClassId} {qo : Nat} : ((qo, .inl (cs 2, 1, .inr (.inl (fun _ => 0)))) : Nat × va_E) = oW cs qo 0 := by
  unfold oW
  rw [show (fun _ : Nat => (0 : Int64)) = fun j => if j = 0 then 0 else 0 from funext fun j => (ite_self 0).symm]
set_option maxRecDepth 100000 in
set_option maxHeartbeats 8000000 in
/-- from the entry, for every script of at most 2563 ints, the law comes to its end with true -/
theorem whole_start {p : Program} {e : Env} {s : State} {m : MethodId} {below : List Frame} {meth : Method} {c : Code} (l : Launch) (hflags : l.flags = flags0) {b L : Nat} {xs : Nat → Int32} (hL : L ≤ 2563) (C0 : lw_At p s m meth c b L xs) : W p l e room_1 s m #[Value.ref b] below meth c s.heap [] 0 0 (lw_Z below #[Value.ref b] s) (entryFrame m ([Value.ref b] : List Value).toArray 7) := by
  obtain ⟨hx, hb, hr, hml, hown, hts0, hX, hbl, hlocks, hgv⟩ := id C0
  have hl0 : l.stackTraces = false := by unfold Launch.stackTraces; rw [hflags]; decide
  have hts : ∀ w ∈ wsL_law, w.before #[Value.ref b] s = true := fun w h => hts0 w (wsL_law_in w h)
  have hown : s.vm.findClass RL = some m.cls := hown
  have hflat := flat_of_before _ hgv
  have hA : ∀ q : Nat, s.heap.size ≤ q → lA s q := fun _ h => h
  have hbA : ¬ lA s b := Nat.not_le.mpr hbl
  have hnA : ∀ a : Nat, a < s.heap.size → ¬ lA s a := fun a h => Nat.not_le.mpr h
  obtain ⟨c0, i0, k0⟩ := u_known (C := RX0) (T := TX0) (N := 8) (n := 8) hts0 inX0 (hts0 _ lw_n0)
  obtain ⟨c1, i1, k1⟩ := u_known (C := RX1) (T := TX1) (N := 5) (n := 5) hts0 inX1 (hts0 _ lw_n1)
  obtain ⟨c2, i2, k2⟩ := u_known (C := RX2) (T := TX2) (N := 3) (n := 3) hts0 inX2 (hts0 _ lw_n2)
  obtain ⟨c3, i3, k3⟩ := u_known (C := RX3) (T := TX3) (N := 9) (n := 9) hts0 inX3 (hts0 _ lw_n3)
  obtain ⟨c4, i4, k4⟩ := u_known (C := RX4) (T := TX4) (N := 7) (n := 7) hts0 inX4 (hts0 _ lw_n4)
  obtain ⟨c5, i5, k5⟩ := u_known (C := RX5) (T := TX5) (N := 29) (n := 29) hts0 inX5 (hts0 _ lw_n5)
  obtain ⟨dC, dI, hKc⟩ : ∃ (dC : Nat → ClassId) (dI : Nat → Nat → Nat), ∀ (k : Nat) (q : vw_C), vwCl[k]? = some q → u_Kn s q.1 q.2.1 q.2.2 (dC k) (dI k) := by
    refine ⟨fun k => if k = 0 then c0 else if k = 1 then c1 else if k = 2 then c2 else if k = 3 then c3 else if k = 4 then c4 else c5, fun k => if k = 0 then i0 else if k = 1 then i1 else if k = 2 then i2 else if k = 3 then i3 else if k = 4 then i4 else i5, ?_⟩
    intro k q hq
    match k, hq with
    | 0, hq => cases hq; exact k0
    | 1, hq => cases hq; exact k1
    | 2, hq => cases hq; exact k2
    | 3, hq => cases hq; exact k3
    | 4, hq => cases hq; exact k4
    | 5, hq => cases hq; exact k5
    | k + 6, hq => simp at hq
  obtain ⟨aI, kI, oI, hI1, hI2, hI3⟩ := Cond.arrayClass_spec (hts0 _ lw_ai)
  obtain ⟨aJ, kJ, oJ, hJ1, hJ2, hJ3⟩ := Cond.arrayClass_spec (hts0 _ lw_al)
  obtain ⟨aZ, kZ, oZ, hZ1, hZ2, hZ3⟩ := Cond.arrayClass_spec (hts0 _ lw_az)
  obtain ⟨oQ, aQ, kQ, hQ1, hQ2, hQ3, hQ4, hQ5⟩ := Cond.arrayOver_spec (hts0 _ lw_ao)
  obtain ⟨cs, rfl, rfl, rfl, rfl⟩ : ∃ cs : Nat → ClassId, cs 0 = aI ∧ cs 1 = aQ ∧ cs 2 = aJ ∧ cs 3 = aZ := ⟨fun k => if k = 0 then aI else if k = 1 then aQ else if k = 2 then aJ else aZ, rfl, rfl, rfl, rfl⟩
  have hK : va_K (dC, dI) vwCl (tyL cs) s := ⟨hKc, fun k q hk => by
    rcases k with _ | _ | _ | _ | k
    · cases hk; exact ⟨fun n z => ⟨fun k h => (by cases h), kI, hI2, oI, hI3⟩, hI1⟩
    · cases hk; exact ⟨fun n z => ⟨fun k h => (by cases h), kQ, hQ3, oQ, hQ4⟩, kQ, oQ, hQ3, hQ4, hQ1, hQ5⟩
    · cases hk; exact ⟨fun n z => ⟨fun k h => (by cases h), kJ, hJ2, oJ, hJ3⟩, hJ1⟩
    · cases hk; exact ⟨fun n z => ⟨fun k h => (by cases h), kZ, hZ2, oZ, hZ3⟩, hZ1⟩
    · simp at hk⟩
  have hN : NX s := ⟨va_Nw.of rfl (hts0 _ lw_x1), va_Nw.of rfl (hts0 _ lw_x2), va_Nw.of rfl (hts0 _ lw_x3), va_AO.of (hts0 _ lw_ao)⟩
  have hXW : XW (lA s) s := ⟨va_Nw.of rfl (hts0 _ lw_ci), va_Nw.of rfl (hts0 _ lw_ca), va_Nw.of rfl (hts0 _ lw_cu), va_Nc.of (hflat (Cond.not (.castable eA eI)) (by decide +kernel)), va_Nc.of (hflat (Cond.not (.castable eU eA)) (by decide +kernel)), vx_Zqof (hts0 _ lw_lu) (hts0 _ lw_ti) (hflat _ (by decide +kernel)) hnA, vx_Zqof (hts0 _ lw_ls) (hts0 _ lw_ti) (hflat _ (by decide +kernel)) hnA, va_Nw.of rfl (hts0 _ lw_d1), va_Nw.of rfl (hts0 _ lw_d2), va_Nw.of rfl (hts0 _ lw_d3)⟩
  have hS : va_S (lA s) s.heap s.heap [] := va_S.rf
  have hP : va_P (dC, dI) vwCl [] s.heap := fun k q h => by simp at h
  have hD : va_D (lA s) [] := ⟨fun i j p q h => by simp at h, fun k q h => by simp at h⟩
  have hl := lv_entry ([.ref b]) (n := 7) (Nat.le_of_ble_eq_true rfl)
  rw [lg_entry_eq]
  generalize (lg_sl ([.ref b]) ++ List.replicate (7 - (lg_sl ([.ref b])).length) Slot.unset).toArray = ls at hl ⊢
  have hl : lv_has ls 7 [(0, .ref b)] := hl
  refine va_new (ci := 4) (fs := [.int 0, .int 0, .null, .null, .null, .null, .int 0]) (C := RX4) (T := TX4) (N := 7) hx hb hts0 inX4 tyX4 tyX4_ok hown (hts0 _ lw_k4) (hts0 _ lw_n4) (hts0 _ lw_i4) hK hP hD hS hA rfl (by decide +kernel) (Nat.le_of_ble_eq_true rfl) (Nat.le_of_ble_eq_true rfl) dL_law_0 (fun q4 H hP hD hS => ?_)
  have hP : va_P (dC, dI) vwCl [(q4, .inr (4, [.int 0, .int 0, .null, .null, .null, .null, .int 0]))] H := hP
  have hD : va_D (lA s) [(q4, .inr (4, [.int 0, .int 0, .null, .null, .null, .null, .int 0]))] := hD
  refine lv_dup hx hb dL_law_3 rfl ?_
  refine lv_aload_n hx hb dL_law_4 rfl (lv_at hl 0 rfl) ?_
  refine lv_iconst (v := 0) hx hb dL_law_5 (by decide) ?_
  refine g_cell ⟨hx, hb, hml, hown, hts⟩ hL 0 (by decide) (va_cwS 2 hts gL_law_L_cell rfl rfl rfl (by decide +kernel) ⟨Nat.le_of_ble_eq_true rfl, Nat.le_of_ble_eq_true rfl⟩) hX hbl hbA hP hS hA rfl hl.1 dL_law_6 (Nat.le_of_ble_eq_true rfl) ⟨Nat.le_of_ble_eq_true rfl, Nat.le_of_ble_eq_true rfl⟩ (fun H locs hP hS => ?_)
  refine lv_aload_n hx hb dL_law_9 rfl (lv_at hl 0 rfl) ?_
  refine lv_iconst (v := 1) hx hb dL_law_10 (by decide) ?_
  refine g_cell ⟨hx, hb, hml, hown, hts⟩ hL 1 (by decide) (va_cwS 2 hts gL_law_L_cell rfl rfl rfl (by decide +kernel) ⟨Nat.le_of_ble_eq_true rfl, Nat.le_of_ble_eq_true rfl⟩) hX hbl hbA hP hS hA rfl hl.1 dL_law_11 (Nat.le_of_ble_eq_true rfl) ⟨Nat.le_of_ble_eq_true rfl, Nat.le_of_ble_eq_true rfl⟩ (fun H locs hP hS => ?_)
  refine lv_aload_n hx hb dL_law_14 rfl (lv_at hl 0 rfl) ?_
  refine lv_iconst (v := 2) hx hb dL_law_15 (by decide) ?_
  refine g_cell ⟨hx, hb, hml, hown, hts⟩ hL 2 (by decide) (va_cwS 2 hts gL_law_L_cell rfl rfl rfl (by decide +kernel) ⟨Nat.le_of_ble_eq_true rfl, Nat.le_of_ble_eq_true rfl⟩) hX hbl hbA hP hS hA rfl hl.1 dL_law_16 (Nat.le_of_ble_eq_true rfl) ⟨Nat.le_of_ble_eq_true rfl, Nat.le_of_ble_eq_true rfl⟩ (fun H locs hP hS => ?_)
  obtain ⟨n, hn1, hn4, hn⟩ := clp_in (v := cel L xs 0) 1 4 (by decide) (by decide)
  have hn : clp (cel L xs 0) 1 4 = nI n := hn
  obtain ⟨S, hS0⟩ : ∃ z, z = (1 : Int32) <<< (clp (cel L xs 1) 0 2 &&& 31) := ⟨_, rfl⟩
  refine i_back (wc := [(q4, .inr (4, [.int 0, .int 0, .null, .null, .null, .null, .int 0]))]) (wr := []) (va_runI (As := [.int (cel L xs 0), .int (cel L xs 1), .int (cel L xs 2)]) (rest := [.ref q4]) ⟨hx, hb, hml, hown, hts⟩ (kX4_init l (dC, dI) cs q4 n hn1 hn4 (cel L xs 0) (cel L xs 1) (cel L xs 2) S hn hS0 H.size) (cwI 3 hts gL_law_X4_init rfl rfl rfl (hts0 _ lw_i4) (hts0 _ lw_m4) (hts0 _ lw_j4) rfl (by decide +kernel) ⟨Nat.le_of_ble_eq_true rfl, Nat.le_of_ble_eq_true rfl⟩) (i_pre hP hK hD hN) rfl rfl hl.1 rfl (lv_room (Nat.le_of_ble_eq_true rfl)) dL_law_19 ⟨Nat.le_of_ble_eq_true rfl, Nat.le_of_ble_eq_true rfl⟩) hP hD hS hA [0] [] rfl rfl rfl (fun i h => absurd h List.not_mem_nil) (fun ad H locs had hP hD hS => ?_)
  have hP : va_P (dC, dI) vwCl (FW (5 * (n + 2)) ad (CC cs n ad (s0 S (clp (cel L xs 2) 1 4)))) H := hP
  have hD : va_D (lA s) (FW (5 * (n + 2)) ad (CC cs n ad (s0 S (clp (cel L xs 2) 1 4)))) := hD
  rw [← had]
  refine lv_astore_n (lv' := [(1, .ref (ad 0)), (0, .ref b)]) hx hb dL_law_22 rfl hl (by decide) rfl (fun ls hl => ?_)
  refine va_new (ci := 5) (fs := [.int 0, .int 0, .int 0, .int 0, .null, .int 0, .null, .null, .null, .null, .null, .null, .null, .null, .null, .null, .null, .null, .null, .null, .null, .null, .null, .null, .null, .int 0, .int 0, .null, .int 0]) (C := RX5) (T := TX5) (N := 29) hx hb hts0 inX5 tyX5 tyX5_ok hown (hts0 _ lw_k5) (hts0 _ lw_n5) (hts0 _ lw_i5) hK hP hD hS hA rfl (by decide +kernel) (Nat.le_of_ble_eq_true rfl) (Nat.le_of_ble_eq_true rfl) dL_law_23 (fun q5 H hP hD hS => ?_)
  refine lv_dup hx hb dL_law_26 rfl ?_
  refine lv_aload_n hx hb dL_law_27 rfl (lv_at hl 1 rfl) ?_
  refine lv_iconst (v := 0) hx hb dL_law_28 (by decide) ?_
  refine g_cell ⟨hx, hb, hml, hown, hts⟩ hL 0 (by decide) (va_cwS 2 hts gL_law_L_cell rfl rfl rfl (by decide +kernel) ⟨Nat.le_of_ble_eq_true rfl, Nat.le_of_ble_eq_true rfl⟩) hX hbl hbA hP hS hA rfl hl.1 dL_law_29 (Nat.le_of_ble_eq_true rfl) ⟨Nat.le_of_ble_eq_true rfl, Nat.le_of_ble_eq_true rfl⟩ (fun H locs hP hS => ?_)
  refine lv_aload_n hx hb dL_law_32 rfl (lv_at hl 1 rfl) ?_
  refine lv_iconst (v := 1) hx hb dL_law_33 (by decide) ?_
  refine g_cell ⟨hx, hb, hml, hown, hts⟩ hL 1 (by decide) (va_cwS 2 hts gL_law_L_cell rfl rfl rfl (by decide +kernel) ⟨Nat.le_of_ble_eq_true rfl, Nat.le_of_ble_eq_true rfl⟩) hX hbl hbA hP hS hA rfl hl.1 dL_law_34 (Nat.le_of_ble_eq_true rfl) ⟨Nat.le_of_ble_eq_true rfl, Nat.le_of_ble_eq_true rfl⟩ (fun H locs hP hS => ?_)
  refine lv_aload_n hx hb dL_law_37 rfl (lv_at hl 1 rfl) ?_
  refine lv_iconst (v := 2) hx hb dL_law_38 (by decide) ?_
  refine g_cell ⟨hx, hb, hml, hown, hts⟩ hL 2 (by decide) (va_cwS 2 hts gL_law_L_cell rfl rfl rfl (by decide +kernel) ⟨Nat.le_of_ble_eq_true rfl, Nat.le_of_ble_eq_true rfl⟩) hX hbl hbA hP hS hA rfl hl.1 dL_law_39 (Nat.le_of_ble_eq_true rfl) ⟨Nat.le_of_ble_eq_true rfl, Nat.le_of_ble_eq_true rfl⟩ (fun H locs hP hS => ?_)
  refine i_backF (va_runI (As := [.int (cel L xs 0), .int (cel L xs 1), .int (cel L xs 2)]) (rest := [.ref q5]) ⟨hx, hb, hml, hown, hts⟩ (kX5_init l (dC, dI) cs q5 n (cel L xs 0) (cel L xs 1) (cel L xs 2) S hn hS0 H.size) (cwI 3 hts gL_law_X5_init rfl rfl rfl (hts0 _ lw_i5) (hts0 _ lw_m5) (hts0 _ lw_j5) rfl (by decide +kernel) ⟨Nat.le_of_ble_eq_true rfl, Nat.le_of_ble_eq_true rfl⟩) (i_pre (P_apps hP).2 hK (D_apps hD).2.1 hN) rfl rfl hl.1 rfl (lv_room (Nat.le_of_ble_eq_true rfl)) dL_law_42 ⟨Nat.le_of_ble_eq_true rfl, Nat.le_of_ble_eq_true rfl⟩) hP hD hS hA (fun ad2 H locs had2 hP hD hS => ?_)
  rw [← had2]
  refine lv_astore_n (lv' := [(2, .ref (ad2 0)), (1, .ref (ad 0)), (0, .ref b)]) hx hb dL_law_45 rfl hl (by decide) rfl (fun ls hl => ?_)
  refine lv_iconst (v := 1) hx hb dL_law_46 (by decide) ?_
  refine g_newl (N' := 1) hx hb (hts0 _ lw_al) hK hP hD hS hA (by decide) rfl (Nat.le_of_ble_eq_true rfl) (Nat.le_of_ble_eq_true rfl) (Nat.le_of_ble_eq_true rfl) dL_law_47 (fun qo H hP hD hS => ?_)
  refine lv_astore_n (lv' := [(3, .ref qo), (2, .ref (ad2 0)), (1, .ref (ad 0)), (0, .ref b)]) hx hb dL_law_49 rfl hl (by decide) rfl (fun ls hl => ?_)
  refine lv_iconst (v := nI 3) hx hb dL_law_50 (by decide) ?_
  refine lv_istore (lv' := [(4, .int (nI 3)), (3, .ref qo), (2, .ref (ad2 0)), (1, .ref (ad 0)), (0, .ref b)]) hx hb dL_law_51 hl (by decide) rfl (fun ls hl => ?_)
  have hLD : LD (lA s) (5 * (n + 2)) ad ad2 qo := LD_of hD
  obtain ⟨hCR, hO⟩ := P_apps hP
  obtain ⟨hC, hR⟩ := P_apps hCR
  rw [oW_0] at hO
  have hIS : ∃ t, (t = 1 ∨ t = 2 ∨ t = 4) ∧ S = nI t := by rw [hS0]; exact sets_e
  refine W.widen (k := 53 + 0) (n := 2373 + 6 * 0) (Nat.le_of_ble_eq_true rfl) (Nat.le_of_ble_eq_true rfl) ?_
  refine law_loop l hl0 hn1 hn4 hx hb hml hown hts hK hXW hX hbl hLD hL (fun H locs ls k t hk ht hS => ?_) (L + 1) 3 0 (by omega) rfl (Nat.zero_le _) _ _ _ _ _ _ _ (Inv_s0 (Wy := clp (cel L xs 2) 1 4) hIS) hC hR hO hS (lv_sub hl [4, 3, 2, 1, 0] rfl)
  refine va_forget (fun q hq => hS.2.2 q hq) ?_
  refine lv_iconst (v := 1) hx hb dL_law_938 (by decide) ?_
  refine W.widen hk ht ?_
  exact lw_ret hx hb hr hlocks dL_law_939
