/-! the class's own methods under step -/
theorem BA_n {acc : Int32} {ln : Nat} {w : Bool} {m : Nat} {σ : St} (h : ¬ (nI m ≠ acc ∧ tch (pBA acc ln w m σ) m ln w = true)) : pBA acc ln w (m + 1) σ = pBA acc ln w m σ := if_neg h
theorem BA_y {acc : Int32} {ln : Nat} {w : Bool} {m : Nat} {σ : St} (h : nI m ≠ acc ∧ tch (pBA acc ln w m σ) m ln w = true) : pBA acc ln w (m + 1) σ = pBreak (pBA acc ln w m σ) m 4 := if_pos h
theorem mO_n {σ : St} {k ln : Nat} {w : Bool} {m : Nat} (hm : mOld σ k ln w m = false) (h : ¬ (m ≠ k ∧ tch σ m ln w = true ∧ σ.1 19 m 0 < σ.1 19 k 0)) : mOld σ k ln w (m + 1) = false := by
  unfold mOld
  rw [hm, Bool.false_or]
  by_cases h1 : m = k
  · simp [h1]
  · by_cases h2 : tch σ m ln w = true
    · have h3 : ¬ σ.1 19 m 0 < σ.1 19 k 0 := fun q => h ⟨h1, h2, q⟩
      simp [h3]
    · simp [h2]
theorem mO_y {σ : St} {k ln : Nat} {w : Bool} {m : Nat} (h1 : m ≠ k) (h2 : tch σ m ln w = true) (h3 : σ.1 19 m 0 < σ.1 19 k 0) : mOld σ k ln w (m + 1) = true := by
  unfold mOld
  simp [h1, h2, h3]
theorem brk_e {σ : St} {k : Nat} {code : Int32} : pClose (put (put (put (putA (pAdd σ (nI k) (σ.1 20 k 0) code (σ.1 19 k 0)) 10 k (fun j => if j < 8 then (pAdd σ (nI k) (σ.1 20 k 0) code (σ.1 19 k 0)).1 11 k j else (pAdd σ (nI k) (σ.1 20 k 0) code (σ.1 19 k 0)).1 10 k j)) 10 k 1 code) 13 k 0 ((pAdd σ (nI k) (σ.1 20 k 0) code (σ.1 19 k 0)).1 21 k 0)) 17 k 0 ((pAdd σ (nI k) (σ.1 20 k 0) code (σ.1 19 k 0)).1 17 k 0 + 1)) k = pBreak σ k code := by
  have e11 : ∀ j, (pAdd σ (nI k) (σ.1 20 k 0) code (σ.1 19 k 0)).1 11 k j = σ.1 11 k j := fun j => pAdd_at (by decide) (by decide) (by decide) (by decide)
  have e10 : ∀ j, (pAdd σ (nI k) (σ.1 20 k 0) code (σ.1 19 k 0)).1 10 k j = σ.1 10 k j := fun j => pAdd_at (by decide) (by decide) (by decide) (by decide)
  have e21 : (pAdd σ (nI k) (σ.1 20 k 0) code (σ.1 19 k 0)).1 21 k 0 = σ.1 21 k 0 := pAdd_at (by decide) (by decide) (by decide) (by decide)
  have e17 : (pAdd σ (nI k) (σ.1 20 k 0) code (σ.1 19 k 0)).1 17 k 0 = σ.1 17 k 0 := pAdd_at (by decide) (by decide) (by decide) (by decide)
  unfold pBreak
  rw [put_A, e21, e17]
  simp only [e11, e10]

theorem iwX4_wordSeenBy_X0 : ∀ w ∈ wsX00, w ∈ wsX4_wordSeenBy := fun w h => by unfold wsX4_wordSeenBy; simp only [List.mem_cons, List.mem_append, h, true_or, or_true]
theorem iwX4_wordSeenBy_X3 : ∀ w ∈ wsX30, w ∈ wsX4_wordSeenBy := fun w h => by unfold wsX4_wordSeenBy; simp only [List.mem_cons, List.mem_append, h, true_or, or_true]
theorem iwX4_wordSeenBy_X4 : ∀ w ∈ wsX40, w ∈ wsX4_wordSeenBy := fun w h => by unfold wsX4_wordSeenBy; simp only [List.mem_cons, List.mem_append, h, true_or, or_true]
theorem lkX4_wordSeenBy_9 : Cond.fieldLink RX4 9 "CoreTransactions" "memory" "[I" ∈ wsX4_wordSeenBy := by decide +kernel
theorem lkX4_wordSeenBy_74 : Cond.fieldLink RX4 74 "CoreTransactions$Core" "transaction" "LCoreTransactions$Transaction;" ∈ wsX4_wordSeenBy := by decide +kernel
theorem lkX4_wordSeenBy_252 : Cond.fieldLink RX4 252 "CoreTransactions$Transaction" "storedWords" "[I" ∈ wsX4_wordSeenBy := by decide +kernel
abbrev rmX4_wordSeenBy : Room := ({ frames := 1, cells := 0, slots := 0, locals := 21 } : Room)
set_option maxRecDepth 100000 in
set_option maxHeartbeats 4000000 in
theorem kX4_wordSeenBy (l : Launch) (D : va_G) (cs : Nat → ClassId) (n : Nat) (ad : Nat → Nat) (σ : St) (k : Nat) (hk : k < n) (j : Nat) (hj : j < 64) : gMi l yX4_wordSeenBy wsX4_wordSeenBy rmX4_wordSeenBy D (tyL cs) (5 * (n + 2)) ad (CC cs n ad σ) [.ref (ad 0), .ref (ad (5 * (k + 2) + 0)), .int (nI j)] (fun (r : Int32) (u : Unit) => r = pSeen σ k j) (fun (u : Unit) => CC cs n ad σ) := by
  refine g_ofi (cc := cX4_wordSeenBy) (maxL := 3) (by decide) rfl (Nat.le_of_ble_eq_true rfl) rfl rfl ?_
  intro p e s m args below meth c A ls Q hx hb hml hts hown hK hP hD hA hS hl hret
  have hl : lv_has ls 3 [(0, .ref (ad 0)), (1, .ref (ad (5 * (k + 2) + 0))), (2, .int (nI j))] := hl
  refine lv_aload_n hx hb dX4_wordSeenBy_0 rfl (lv_at hl 1 rfl) ?_
  refine va_get (D := D) (ci := 0) (v := .ref (ad (5 * (k + 2) + 2))) (C := RX0) (T := TX0) (N := 8) hx hb hts iwX4_wordSeenBy_X0 hown hK hP (5 * (k + 2) + 0) (cc_core hk) rfl 2 (by decide) (hts _ lkX4_wordSeenBy_74) (fun _ h9 => h9) rfl dX4_wordSeenBy_1 ?_
  refine lv_iload_n hx hb dX4_wordSeenBy_4 rfl (lv_at hl 2 rfl) ?_
  refine g_cvi (As := [.int (nI j)]) ⟨hx, hb, hml, hown, hts⟩ (kX3_hasStored l D cs n ad σ k hk j) (cwV 1 hts gX4_wordSeenBy_X3_hasStored rfl rfl rfl (by decide +kernel) ⟨Nat.le_of_ble_eq_true rfl, Nat.le_of_ble_eq_true rfl⟩) hK hP hD hS hA (5 * (k + 2) + 2) (ci := 3) rfl rfl (cc_tx hk) hl.1 dX4_wordSeenBy_5 rfl rfl (Nat.le_of_ble_eq_true rfl) ⟨Nat.zero_le _, Nat.zero_le _⟩ (fun r _ H locs hw hP hS => ?_)
  obtain rfl : r = bI (hasS σ k j) := hw
  have hP : va_P D vwCl (FW (5 * (n + 2)) ad (CC cs n ad σ)) H := hP
  refine lv_if_eq (tgt := 23) hx hb dX4_wordSeenBy_8 (by decide) (fun c1 => ?_) (fun c1 => ?_)
  · have hmm : hasS σ k j = false := bI0 c1
    refine lv_aload_n hx hb dX4_wordSeenBy_23 rfl (lv_at hl 0 rfl) ?_
    refine va_get (D := D) (ci := 4) (v := .ref (ad 2)) (C := RX4) (T := TX4) (N := 7) hx hb hts iwX4_wordSeenBy_X4 hown hK hP 0 cc_obj rfl 3 (by decide) (hts _ lkX4_wordSeenBy_9) (fun _ h9 => h9) rfl dX4_wordSeenBy_24 ?_
    refine lv_iload_n hx hb dX4_wordSeenBy_27 rfl (lv_at hl 2 rfl) ?_
    refine g_iald (t0 := 0) (v := σ.1 0 0 j) hx hb hK hP cc_mem rfl j rfl hj (by decide) rfl dX4_wordSeenBy_28 ?_
    exact hret _ _ _ _ () _ _ dX4_wordSeenBy_29 hP hS (by simp [pSeen, hmm]) (rfl)
  · have hmm : hasS σ k j = true := bI1 c1
    refine lv_aload_n hx hb dX4_wordSeenBy_11 rfl (lv_at hl 1 rfl) ?_
    refine va_get (D := D) (ci := 0) (v := .ref (ad (5 * (k + 2) + 2))) (C := RX0) (T := TX0) (N := 8) hx hb hts iwX4_wordSeenBy_X0 hown hK hP (5 * (k + 2) + 0) (cc_core hk) rfl 2 (by decide) (hts _ lkX4_wordSeenBy_74) (fun _ h9 => h9) rfl dX4_wordSeenBy_12 ?_
    refine va_get (D := D) (ci := 3) (v := .ref (ad (5 * (k + 2) + 4))) (C := RX3) (T := TX3) (N := 9) hx hb hts iwX4_wordSeenBy_X3 hown hK hP (5 * (k + 2) + 2) (cc_tx hk) rfl 1 (by decide) (hts _ lkX4_wordSeenBy_252) (fun _ h9 => h9) rfl dX4_wordSeenBy_15 ?_
    refine lv_iload_n hx hb dX4_wordSeenBy_18 rfl (lv_at hl 2 rfl) ?_
    refine g_iald (t0 := 0) (v := σ.1 12 k j) hx hb hK hP (cc_stw hk) rfl j rfl hj (by decide) rfl dX4_wordSeenBy_19 ?_
    refine lv_goto (tgt := 29) hx hb dX4_wordSeenBy_20 (by decide) ?_
    exact hret _ _ _ _ () _ _ dX4_wordSeenBy_29 hP hS (by simp [pSeen, hmm]) (rfl)

theorem iwX4_write_X0 : ∀ w ∈ wsX00, w ∈ wsX4_write := fun w h => by unfold wsX4_write; simp only [List.mem_cons, List.mem_append, h, true_or, or_true]
theorem iwX4_write_X3 : ∀ w ∈ wsX30, w ∈ wsX4_write := fun w h => by unfold wsX4_write; simp only [List.mem_cons, List.mem_append, h, true_or, or_true]
theorem iwX4_write_X4 : ∀ w ∈ wsX40, w ∈ wsX4_write := fun w h => by unfold wsX4_write; simp only [List.mem_cons, List.mem_append, h, true_or, or_true]
theorem lkX4_write_9 : Cond.fieldLink RX4 9 "CoreTransactions" "memory" "[I" ∈ wsX4_write := by decide +kernel
theorem lkX4_write_74 : Cond.fieldLink RX4 74 "CoreTransactions$Core" "transaction" "LCoreTransactions$Transaction;" ∈ wsX4_write := by decide +kernel
theorem lkX4_write_186 : Cond.fieldLink RX4 186 "CoreTransactions$Transaction" "depth" "I" ∈ wsX4_write := by decide +kernel
abbrev rmX4_write : Room := ({ frames := 1, cells := 0, slots := 0, locals := 22 } : Room)
set_option maxRecDepth 100000 in
set_option maxHeartbeats 4000000 in
theorem kX4_write (l : Launch) (D : va_G) (cs : Nat → ClassId) (n : Nat) (ad : Nat → Nat) (σ : St) (k : Nat) (hk : k < n) (j : Nat) (hj : j < 64) (v : Int32) : gMv l yX4_write wsX4_write rmX4_write D (tyL cs) (5 * (n + 2)) ad (CC cs n ad σ) [.ref (ad 0), .ref (ad (5 * (k + 2) + 0)), .int (nI j), .int v] (fun (u : Unit) => True) (fun (u : Unit) => CC cs n ad (pWrite σ k j v)) := by
  refine g_ofv (cc := cX4_write) (maxL := 4) (by decide) rfl (Nat.le_of_ble_eq_true rfl) rfl rfl ?_
  intro p e s m args below meth c A ls Q hx hb hml hts hown hK hP hD hA hS hl hret
  have hl : lv_has ls 4 [(0, .ref (ad 0)), (1, .ref (ad (5 * (k + 2) + 0))), (2, .int (nI j)), (3, .int v)] := hl
  refine lv_aload_n hx hb dX4_write_0 rfl (lv_at hl 1 rfl) ?_
  refine va_get (D := D) (ci := 0) (v := .ref (ad (5 * (k + 2) + 2))) (C := RX0) (T := TX0) (N := 8) hx hb hts iwX4_write_X0 hown hK hP (5 * (k + 2) + 0) (cc_core hk) rfl 2 (by decide) (hts _ lkX4_write_74) (fun _ h9 => h9) rfl dX4_write_1 ?_
  refine va_get (D := D) (ci := 3) (v := .int (σ.1 18 k 0)) (C := RX3) (T := TX3) (N := 9) hx hb hts iwX4_write_X3 hown hK hP (5 * (k + 2) + 2) (cc_tx hk) rfl 2 (by decide) (hts _ lkX4_write_186) (fun _ h9 => h9) rfl dX4_write_4 ?_
  refine lv_if_le (tgt := 22) hx hb dX4_write_7 (by decide) (fun c1 => ?_) (fun c1 => ?_)
  · refine lv_aload_n hx hb dX4_write_22 rfl (lv_at hl 0 rfl) ?_
    refine va_get (D := D) (ci := 4) (v := .ref (ad 2)) (C := RX4) (T := TX4) (N := 7) hx hb hts iwX4_write_X4 hown hK hP 0 cc_obj rfl 3 (by decide) (hts _ lkX4_write_9) (fun _ h9 => h9) rfl dX4_write_23 ?_
    refine lv_iload_n hx hb dX4_write_26 rfl (lv_at hl 2 rfl) ?_
    refine lv_iload_n hx hb dX4_write_27 rfl (lv_at hl 3 rfl) ?_
    refine g_iast (t0 := 0) hx hb hK hP hD hS cc_mem rfl j rfl hj (by decide) dX4_write_28 (fun H locs hP hS => ?_)
    obtain ⟨σ2, eσ2⟩ : ∃ z, z = put σ 0 0 j v := ⟨_, rfl⟩
    have hP : va_P D vwCl (FW (5 * (n + 2)) ad (CC cs n ad σ2)) H := by rw [eσ2]; exact FW_P hP cu_mem
    exact hret _ _ _ () _ _ dX4_write_29 hP hS (trivial) (by unfold pWrite; rw [if_neg (Int32.not_lt.mpr c1)]; simp only [eσ2]; first | done | rfl)
  · refine lv_aload_n hx hb dX4_write_10 rfl (lv_at hl 1 rfl) ?_
    refine va_get (D := D) (ci := 0) (v := .ref (ad (5 * (k + 2) + 2))) (C := RX0) (T := TX0) (N := 8) hx hb hts iwX4_write_X0 hown hK hP (5 * (k + 2) + 0) (cc_core hk) rfl 2 (by decide) (hts _ lkX4_write_74) (fun _ h9 => h9) rfl dX4_write_11 ?_
    refine lv_iload_n hx hb dX4_write_14 rfl (lv_at hl 2 rfl) ?_
    refine lv_iload_n hx hb dX4_write_15 rfl (lv_at hl 3 rfl) ?_
    refine g_cvv (As := [.int (nI j), .int v]) ⟨hx, hb, hml, hown, hts⟩ (kX3_keep l D cs n ad σ k hk j hj v) (cwV 2 hts gX4_write_X3_keep rfl rfl rfl (by decide +kernel) ⟨Nat.le_of_ble_eq_true rfl, Nat.le_of_ble_eq_true rfl⟩) hK hP hD hS hA (5 * (k + 2) + 2) (ci := 3) rfl rfl (cc_tx hk) hl.1 dX4_write_16 rfl rfl (Nat.le_of_ble_eq_true rfl) ⟨Nat.zero_le _, Nat.zero_le _⟩ (fun _ H locs hw hP hS => ?_)
    obtain ⟨σ3, eσ3⟩ : ∃ z, z = pKeep σ k j v := ⟨_, rfl⟩
    have hP : va_P D vwCl (FW (5 * (n + 2)) ad (CC cs n ad σ3)) H := by rw [eσ3]; exact hP
    refine lv_goto (tgt := 29) hx hb dX4_write_19 (by decide) ?_
    exact hret _ _ _ () _ _ dX4_write_29 hP hS (trivial) (by unfold pWrite; rw [if_pos (Int32.not_le.mp c1)]; simp only [eσ3]; first | done | rfl)

theorem iwX4_breakOff_X0 : ∀ w ∈ wsX00, w ∈ wsX4_breakOff := fun w h => by unfold wsX4_breakOff; simp only [List.mem_cons, List.mem_append, h, true_or, or_true]
theorem iwX4_breakOff_X3 : ∀ w ∈ wsX30, w ∈ wsX4_breakOff := fun w h => by unfold wsX4_breakOff; simp only [List.mem_cons, List.mem_append, h, true_or, or_true]
theorem iwX4_breakOff_X4 : ∀ w ∈ wsX40, w ∈ wsX4_breakOff := fun w h => by unfold wsX4_breakOff; simp only [List.mem_cons, List.mem_append, h, true_or, or_true]
theorem lkX4_breakOff_23 : Cond.fieldLink RX4 23 "CoreTransactions" "broken" "LCoreTransactions$Records;" ∈ wsX4_breakOff := by decide +kernel
theorem lkX4_breakOff_71 : Cond.fieldLink RX4 71 "CoreTransactions$Core" "place" "I" ∈ wsX4_breakOff := by decide +kernel
theorem lkX4_breakOff_74 : Cond.fieldLink RX4 74 "CoreTransactions$Core" "transaction" "LCoreTransactions$Transaction;" ∈ wsX4_breakOff := by decide +kernel
theorem lkX4_breakOff_90 : Cond.fieldLink RX4 90 "CoreTransactions$Core" "registers" "[I" ∈ wsX4_breakOff := by decide +kernel
theorem lkX4_breakOff_210 : Cond.fieldLink RX4 210 "CoreTransactions$Core" "number" "I" ∈ wsX4_breakOff := by decide +kernel
theorem lkX4_breakOff_224 : Cond.fieldLink RX4 224 "CoreTransactions$Transaction" "age" "I" ∈ wsX4_breakOff := by decide +kernel
theorem lkX4_breakOff_227 : Cond.fieldLink RX4 227 "CoreTransactions$Transaction" "beginPlace" "I" ∈ wsX4_breakOff := by decide +kernel
theorem lkX4_breakOff_234 : Cond.fieldLink RX4 234 "CoreTransactions$Transaction" "keptRegisters" "[I" ∈ wsX4_breakOff := by decide +kernel
theorem lkX4_breakOff_243 : Cond.fieldLink RX4 243 "CoreTransactions$Transaction" "keptPlace" "I" ∈ wsX4_breakOff := by decide +kernel
theorem lkX4_breakOff_246 : Cond.fieldLink RX4 246 "CoreTransactions$Core" "brokenOff" "I" ∈ wsX4_breakOff := by decide +kernel
theorem lkX4_breakOff_ml : Cond.methodLink RX4 237 arraycopyName ∈ wsX4_breakOff := by decide +kernel
theorem lkX4_breakOff_na : Cond.native arraycopyName ∈ wsX4_breakOff := by decide +kernel
theorem lkX4_breakOff_sta : Cond.static arraycopyName ∈ wsX4_breakOff := by decide +kernel
theorem lkX4_breakOff_ini : Cond.initialized "java/lang/System" ∈ wsX4_breakOff := by decide +kernel
abbrev rmX4_breakOff : Room := ({ frames := 1, cells := 0, slots := 0, locals := 60 } : Room)
set_option maxRecDepth 100000 in
set_option maxHeartbeats 4000000 in
theorem kX4_breakOff (l : Launch) (D : va_G) (cs : Nat → ClassId) (n : Nat) (ad : Nat → Nat) (σ : St) (k : Nat) (hk : k < n) (code : Int32) (hQ : okQ σ) : gMv l yX4_breakOff wsX4_breakOff rmX4_breakOff D (tyL cs) (5 * (n + 2)) ad (CC cs n ad σ) [.ref (ad 0), .ref (ad (5 * (k + 2) + 0)), .int code] (fun (u : Unit) => True) (fun (u : Unit) => CC cs n ad (pBreak σ k code)) := by
  refine g_ofv (cc := cX4_breakOff) (maxL := 4) (by decide) rfl (Nat.le_of_ble_eq_true rfl) rfl rfl ?_
  intro p e s m args below meth c A ls Q hx hb hml hts hown hK hP hD hA hS hl hret
  have hl : lv_has ls 4 [(0, .ref (ad 0)), (1, .ref (ad (5 * (k + 2) + 0))), (2, .int code)] := hl
  obtain ⟨o, q, ho2, hq2, ho, hq⟩ := hQ
  refine lv_aload_n hx hb dX4_breakOff_0 rfl (lv_at hl 1 rfl) ?_
  refine va_get (D := D) (ci := 0) (v := .ref (ad (5 * (k + 2) + 2))) (C := RX0) (T := TX0) (N := 8) hx hb hts iwX4_breakOff_X0 hown hK hP (5 * (k + 2) + 0) (cc_core hk) rfl 2 (by decide) (hts _ lkX4_breakOff_74) (fun _ h9 => h9) rfl dX4_breakOff_1 ?_
  refine lv_astore_n (lv' := [(3, .ref (ad (5 * (k + 2) + 2))), (0, .ref (ad 0)), (1, .ref (ad (5 * (k + 2) + 0))), (2, .int code)]) hx hb dX4_breakOff_4 rfl hl (by decide) rfl (fun ls hl => ?_)
  refine lv_aload_n hx hb dX4_breakOff_5 rfl (lv_at hl 1 rfl) ?_
  refine va_get (D := D) (ci := 4) (v := .ref (ad 4)) (C := RX4) (T := TX4) (N := 7) hx hb hts iwX4_breakOff_X4 hown hK hP 0 cc_obj rfl 5 (by decide) (hts _ lkX4_breakOff_23) (fun _ h9 => h9) rfl dX4_breakOff_6 ?_
  refine lv_aload_n hx hb dX4_breakOff_9 rfl (lv_at hl 2 rfl) ?_
  refine va_get (D := D) (ci := 0) (v := .int (nI k)) (C := RX0) (T := TX0) (N := 8) hx hb hts iwX4_breakOff_X0 hown hK hP (5 * (k + 2) + 0) (cc_core hk) rfl 0 (by decide) (hts _ lkX4_breakOff_210) (fun _ h9 => h9) rfl dX4_breakOff_10 ?_
  refine lv_aload_n hx hb dX4_breakOff_13 rfl (lv_at hl 0 rfl) ?_
  refine va_get (D := D) (ci := 3) (v := .int (σ.1 20 k 0)) (C := RX3) (T := TX3) (N := 9) hx hb hts iwX4_breakOff_X3 hown hK hP (5 * (k + 2) + 2) (cc_tx hk) rfl 4 (by decide) (hts _ lkX4_breakOff_227) (fun _ h9 => h9) rfl dX4_breakOff_14 ?_
  refine lv_iload_n hx hb dX4_breakOff_17 rfl (lv_at hl 3 rfl) ?_
  refine lv_aload_n hx hb dX4_breakOff_18 rfl (lv_at hl 0 rfl) ?_
  refine va_get (D := D) (ci := 3) (v := .int (σ.1 19 k 0)) (C := RX3) (T := TX3) (N := 9) hx hb hts iwX4_breakOff_X3 hown hK hP (5 * (k + 2) + 2) (cc_tx hk) rfl 3 (by decide) (hts _ lkX4_breakOff_224) (fun _ h9 => h9) rfl dX4_breakOff_19 ?_
  refine g_cvv (As := [.int (nI k), .int (σ.1 20 k 0), .int code, .int (σ.1 19 k 0)]) ⟨hx, hb, hml, hown, hts⟩ (kX2_add l D cs n ad σ (nI k) (σ.1 20 k 0) code (σ.1 19 k 0) o q ho hq ho2 hq2) (cwV 4 hts gX4_breakOff_X2_add rfl rfl rfl (by decide +kernel) ⟨Nat.le_of_ble_eq_true rfl, Nat.le_of_ble_eq_true rfl⟩) hK hP hD hS hA 4 (ci := 2) rfl rfl cc_rec hl.1 dX4_breakOff_22 rfl rfl (Nat.le_of_ble_eq_true rfl) ⟨Nat.zero_le _, Nat.zero_le _⟩ (fun _ H locs hw hP hS => ?_)
  obtain ⟨σ1, eσ1⟩ : ∃ z, z = pAdd σ (nI k) (σ.1 20 k 0) code (σ.1 19 k 0) := ⟨_, rfl⟩
  have hP : va_P D vwCl (FW (5 * (n + 2)) ad (CC cs n ad σ1)) H := by rw [eσ1]; exact hP
  refine lv_aload_n hx hb dX4_breakOff_25 rfl (lv_at hl 0 rfl) ?_
  refine va_get (D := D) (ci := 3) (v := .ref (ad (5 * (k + 2) + 3))) (C := RX3) (T := TX3) (N := 9) hx hb hts iwX4_breakOff_X3 hown hK hP (5 * (k + 2) + 2) (cc_tx hk) rfl 0 (by decide) (hts _ lkX4_breakOff_234) (fun _ h9 => h9) rfl dX4_breakOff_26 ?_
  refine lv_iconst (v := 0) hx hb dX4_breakOff_29 (by decide) ?_
  refine lv_aload_n hx hb dX4_breakOff_30 rfl (lv_at hl 2 rfl) ?_
  refine va_get (D := D) (ci := 0) (v := .ref (ad (5 * (k + 2) + 1))) (C := RX0) (T := TX0) (N := 8) hx hb hts iwX4_breakOff_X0 hown hK hP (5 * (k + 2) + 0) (cc_core hk) rfl 1 (by decide) (hts _ lkX4_breakOff_90) (fun _ h9 => h9) rfl dX4_breakOff_31 ?_
  refine lv_iconst (v := 0) hx hb dX4_breakOff_34 (by decide) ?_
  refine lv_bipush (v := 8) hx hb dX4_breakOff_35 (by decide) ?_
  refine va_copyi hx hb (hml.trans hl.1.symm) hown (hts _ lkX4_breakOff_ml) (hts _ lkX4_breakOff_na) (hts _ lkX4_breakOff_sta) (hts _ lkX4_breakOff_ini) hK hP (hD _) hS (5 * (k + 2) + 3) (5 * (k + 2) + 1) 0 0 (cc_kept hk) (cc_regs hk) rfl rfl rfl (by decide) (by decide) (by decide) (by decide) (by decide) (fun _ _ => rfl) (by decide) (by decide) dX4_breakOff_37 (fun H locs hP _ hS => ?_)
  rw [cpy8] at hP
  obtain ⟨σ2, eσ2⟩ : ∃ z, z = putA σ1 10 k (fun j => if j < 8 then σ1.1 11 k j else σ1.1 10 k j) := ⟨_, rfl⟩
  have hP : va_P D vwCl (FW (5 * (n + 2)) ad (CC cs n ad σ2)) H := by rw [eσ2]; exact FW_P hP cu_regsA
  refine lv_aload_n hx hb dX4_breakOff_40 rfl (lv_at hl 2 rfl) ?_
  refine lv_iconst (v := 1) hx hb dX4_breakOff_41 (by decide) ?_
  refine lv_iload_n hx hb dX4_breakOff_42 rfl (lv_at hl 3 rfl) ?_
  refine g_cvv (As := [.int 1, .int code]) ⟨hx, hb, hml, hown, hts⟩ (kX0_put l D cs n ad σ2 k hk 1 (by decide) code) (cwV 2 hts gX4_breakOff_X0_put rfl rfl rfl (by decide +kernel) ⟨Nat.le_of_ble_eq_true rfl, Nat.le_of_ble_eq_true rfl⟩) hK hP hD hS hA (5 * (k + 2) + 0) (ci := 0) rfl rfl (cc_core hk) hl.1 dX4_breakOff_43 rfl rfl (Nat.le_of_ble_eq_true rfl) ⟨Nat.zero_le _, Nat.zero_le _⟩ (fun _ H locs hw hP hS => ?_)
  obtain ⟨σ3, eσ3⟩ : ∃ z, z = put σ2 10 k 1 code := ⟨_, rfl⟩
  have hP : va_P D vwCl (FW (5 * (n + 2)) ad (CC cs n ad σ3)) H := by rw [eσ3]; exact hP
  refine lv_aload_n hx hb dX4_breakOff_46 rfl (lv_at hl 2 rfl) ?_
  refine lv_aload_n hx hb dX4_breakOff_47 rfl (lv_at hl 0 rfl) ?_
  refine va_get (D := D) (ci := 3) (v := .int (σ3.1 21 k 0)) (C := RX3) (T := TX3) (N := 9) hx hb hts iwX4_breakOff_X3 hown hK hP (5 * (k + 2) + 2) (cc_tx hk) rfl 5 (by decide) (hts _ lkX4_breakOff_243) (fun _ h9 => h9) rfl dX4_breakOff_48 ?_
  refine va_put (D := D) (ci := 0) (v := .int (σ3.1 21 k 0)) (ty := .int) (C := RX0) (T := TX0) (N := 8) hx hb hts iwX4_breakOff_X0 tyX0 tyX0_ok nmX0 hown hK hP (hD _) hS (5 * (k + 2) + 0) (cc_core hk) rfl 3 (by decide) (hts _ lkX4_breakOff_71) (fun _ h9 => h9) rfl (by decide +kernel) rfl rfl (Nat.le_of_ble_eq_true rfl) dX4_breakOff_51 (fun H locs hP _ hS => ?_)
  obtain ⟨σ4, eσ4⟩ : ∃ z, z = put σ3 13 k 0 (σ3.1 21 k 0) := ⟨_, rfl⟩
  have hP : va_P D vwCl (FW (5 * (n + 2)) ad (CC cs n ad σ4)) H := by rw [eσ4]; exact FW_P hP cu_core_3
  refine lv_aload_n hx hb dX4_breakOff_54 rfl (lv_at hl 2 rfl) ?_
  refine lv_dup hx hb dX4_breakOff_55 rfl ?_
  refine va_get (D := D) (ci := 0) (v := .int (σ4.1 17 k 0)) (C := RX0) (T := TX0) (N := 8) hx hb hts iwX4_breakOff_X0 hown hK hP (5 * (k + 2) + 0) (cc_core hk) rfl 7 (by decide) (hts _ lkX4_breakOff_246) (fun _ h9 => h9) rfl dX4_breakOff_56 ?_
  refine lv_iconst (v := 1) hx hb dX4_breakOff_59 (by decide) ?_
  refine lv_iadd hx hb dX4_breakOff_60 ?_
  refine va_put (D := D) (ci := 0) (v := .int ((σ4.1 17 k 0) + 1)) (ty := .int) (C := RX0) (T := TX0) (N := 8) hx hb hts iwX4_breakOff_X0 tyX0 tyX0_ok nmX0 hown hK hP (hD _) hS (5 * (k + 2) + 0) (cc_core hk) rfl 7 (by decide) (hts _ lkX4_breakOff_246) (fun _ h9 => h9) rfl (by decide +kernel) rfl rfl (Nat.le_of_ble_eq_true rfl) dX4_breakOff_61 (fun H locs hP _ hS => ?_)
  obtain ⟨σ5, eσ5⟩ : ∃ z, z = put σ4 17 k 0 ((σ4.1 17 k 0) + 1) := ⟨_, rfl⟩
  have hP : va_P D vwCl (FW (5 * (n + 2)) ad (CC cs n ad σ5)) H := by rw [eσ5]; exact FW_P hP cu_core_7
  refine lv_aload_n hx hb dX4_breakOff_64 rfl (lv_at hl 0 rfl) ?_
  refine g_cvv (As := []) ⟨hx, hb, hml, hown, hts⟩ (kX3_close l D cs n ad σ5 k hk) (cwV 0 hts gX4_breakOff_X3_close rfl rfl rfl (by decide +kernel) ⟨Nat.le_of_ble_eq_true rfl, Nat.le_of_ble_eq_true rfl⟩) hK hP hD hS hA (5 * (k + 2) + 2) (ci := 3) rfl rfl (cc_tx hk) hl.1 dX4_breakOff_65 rfl rfl (Nat.le_of_ble_eq_true rfl) ⟨Nat.zero_le _, Nat.zero_le _⟩ (fun _ H locs hw hP hS => ?_)
  obtain ⟨σ6, eσ6⟩ : ∃ z, z = pClose σ5 k := ⟨_, rfl⟩
  have hP : va_P D vwCl (FW (5 * (n + 2)) ad (CC cs n ad σ6)) H := by rw [eσ6]; exact hP
  exact hret _ _ _ () _ _ dX4_breakOff_68 hP hS (trivial) (by simp only [eσ6, eσ5, eσ4, eσ3, eσ2, eσ1]; exact congrArg (CC cs n ad) brk_e)

theorem iwX4_breaksOff_X0 : ∀ w ∈ wsX00, w ∈ wsX4_breaksOff := fun w h => by unfold wsX4_breaksOff; simp only [List.mem_cons, List.mem_append, h, true_or, or_true]
theorem iwX4_breaksOff_X3 : ∀ w ∈ wsX30, w ∈ wsX4_breaksOff := fun w h => by unfold wsX4_breaksOff; simp only [List.mem_cons, List.mem_append, h, true_or, or_true]
theorem lkX4_breaksOff_74 : Cond.fieldLink RX4 74 "CoreTransactions$Core" "transaction" "LCoreTransactions$Transaction;" ∈ wsX4_breaksOff := by decide +kernel
theorem lkX4_breaksOff_186 : Cond.fieldLink RX4 186 "CoreTransactions$Transaction" "depth" "I" ∈ wsX4_breaksOff := by decide +kernel
abbrev rmX4_breaksOff : Room := ({ frames := 2, cells := 0, slots := 0, locals := 83 } : Room)
set_option maxRecDepth 100000 in
set_option maxHeartbeats 4000000 in
theorem kX4_breaksOff (l : Launch) (D : va_G) (cs : Nat → ClassId) (n : Nat) (ad : Nat → Nat) (σ : St) (k : Nat) (hk : k < n) (code : Int32) (hQ : okQ σ) : gMi l yX4_breaksOff wsX4_breaksOff rmX4_breaksOff D (tyL cs) (5 * (n + 2)) ad (CC cs n ad σ) [.ref (ad 0), .ref (ad (5 * (k + 2) + 0)), .int code] (fun (r : Int32) (u : Unit) => r = bI (decide (¬ σ.1 18 k 0 = 0))) (fun (u : Unit) => CC cs n ad (if σ.1 18 k 0 = 0 then σ else pBreak σ k code)) := by
  refine g_ofz (cc := cX4_breaksOff) (maxL := 3) (by decide) rfl (Nat.le_of_ble_eq_true rfl) rfl rfl ?_
  intro p e s m args below meth c A ls Q hx hb hml hts hown hK hP hD hA hS hl hret
  have hl : lv_has ls 3 [(0, .ref (ad 0)), (1, .ref (ad (5 * (k + 2) + 0))), (2, .int code)] := hl
  refine lv_aload_n hx hb dX4_breaksOff_0 rfl (lv_at hl 1 rfl) ?_
  refine va_get (D := D) (ci := 0) (v := .ref (ad (5 * (k + 2) + 2))) (C := RX0) (T := TX0) (N := 8) hx hb hts iwX4_breaksOff_X0 hown hK hP (5 * (k + 2) + 0) (cc_core hk) rfl 2 (by decide) (hts _ lkX4_breaksOff_74) (fun _ h9 => h9) rfl dX4_breaksOff_1 ?_
  refine va_get (D := D) (ci := 3) (v := .int (σ.1 18 k 0)) (C := RX3) (T := TX3) (N := 9) hx hb hts iwX4_breaksOff_X3 hown hK hP (5 * (k + 2) + 2) (cc_tx hk) rfl 2 (by decide) (hts _ lkX4_breaksOff_186) (fun _ h9 => h9) rfl dX4_breaksOff_4 ?_
  refine lv_if_ne (tgt := 12) hx hb dX4_breaksOff_7 (by decide) (fun c1 => ?_) (fun c1 => ?_)
  · refine lv_aload_n hx hb dX4_breaksOff_12 rfl (lv_at hl 0 rfl) ?_
    refine lv_aload_n hx hb dX4_breaksOff_13 rfl (lv_at hl 1 rfl) ?_
    refine lv_iload_n hx hb dX4_breaksOff_14 rfl (lv_at hl 2 rfl) ?_
    refine g_cvv (As := [.ref (ad (5 * (k + 2) + 0)), .int code]) ⟨hx, hb, hml, hown, hts⟩ (kX4_breakOff l D cs n ad σ k hk code hQ) (cwV 2 hts gX4_breaksOff_X4_breakOff rfl rfl rfl (by decide +kernel) ⟨Nat.le_of_ble_eq_true rfl, Nat.le_of_ble_eq_true rfl⟩) hK hP hD hS hA 0 (ci := 4) rfl rfl cc_obj hl.1 dX4_breaksOff_15 rfl rfl (Nat.le_of_ble_eq_true rfl) ⟨Nat.zero_le _, Nat.zero_le _⟩ (fun _ H locs hw hP hS => ?_)
    obtain ⟨σ2, eσ2⟩ : ∃ z, z = pBreak σ k code := ⟨_, rfl⟩
    have hP : va_P D vwCl (FW (5 * (n + 2)) ad (CC cs n ad σ2)) H := by rw [eσ2]; exact hP
    refine lv_iconst (v := 1) hx hb dX4_breaksOff_18 (by decide) ?_
    exact hret _ _ _ _ () _ _ dX4_breaksOff_19 hP hS (Or.inr rfl) ((bI_d c1).symm) (by rw [if_neg c1]; simp only [eσ2]; first | done | rfl)
  · refine lv_iconst (v := 0) hx hb dX4_breaksOff_10 (by decide) ?_
    exact hret _ _ _ _ () _ _ dX4_breaksOff_11 hP hS (Or.inl rfl) ((bI_n (fun h => h c1)).symm) (by rw [if_pos c1])

theorem iwX4_fault_X0 : ∀ w ∈ wsX00, w ∈ wsX4_fault := fun w h => by unfold wsX4_fault; simp only [List.mem_cons, List.mem_append, h, true_or, or_true]
theorem iwX4_fault_X3 : ∀ w ∈ wsX30, w ∈ wsX4_fault := fun w h => by unfold wsX4_fault; simp only [List.mem_cons, List.mem_append, h, true_or, or_true]
theorem lkX4_fault_74 : Cond.fieldLink RX4 74 "CoreTransactions$Core" "transaction" "LCoreTransactions$Transaction;" ∈ wsX4_fault := by decide +kernel
theorem lkX4_fault_83 : Cond.fieldLink RX4 83 "CoreTransactions$Core" "ended" "Z" ∈ wsX4_fault := by decide +kernel
theorem lkX4_fault_186 : Cond.fieldLink RX4 186 "CoreTransactions$Transaction" "depth" "I" ∈ wsX4_fault := by decide +kernel
abbrev rmX4_fault : Room := ({ frames := 2, cells := 0, slots := 0, locals := 83 } : Room)
set_option maxRecDepth 100000 in
set_option maxHeartbeats 4000000 in
theorem kX4_fault (l : Launch) (D : va_G) (cs : Nat → ClassId) (n : Nat) (ad : Nat → Nat) (σ : St) (k : Nat) (hk : k < n) (hQ : okQ σ) : gMv l yX4_fault wsX4_fault rmX4_fault D (tyL cs) (5 * (n + 2)) ad (CC cs n ad σ) [.ref (ad 0), .ref (ad (5 * (k + 2) + 0))] (fun (u : Unit) => True) (fun (u : Unit) => CC cs n ad (pFault σ k)) := by
  refine g_ofv (cc := cX4_fault) (maxL := 2) (by decide) rfl (Nat.le_of_ble_eq_true rfl) rfl rfl ?_
  intro p e s m args below meth c A ls Q hx hb hml hts hown hK hP hD hA hS hl hret
  have hl : lv_has ls 2 [(0, .ref (ad 0)), (1, .ref (ad (5 * (k + 2) + 0)))] := hl
  refine lv_aload_n hx hb dX4_fault_0 rfl (lv_at hl 1 rfl) ?_
  refine va_get (D := D) (ci := 0) (v := .ref (ad (5 * (k + 2) + 2))) (C := RX0) (T := TX0) (N := 8) hx hb hts iwX4_fault_X0 hown hK hP (5 * (k + 2) + 0) (cc_core hk) rfl 2 (by decide) (hts _ lkX4_fault_74) (fun _ h9 => h9) rfl dX4_fault_1 ?_
  refine va_get (D := D) (ci := 3) (v := .int (σ.1 18 k 0)) (C := RX3) (T := TX3) (N := 9) hx hb hts iwX4_fault_X3 hown hK hP (5 * (k + 2) + 2) (cc_tx hk) rfl 2 (by decide) (hts _ lkX4_fault_186) (fun _ h9 => h9) rfl dX4_fault_4 ?_
  refine lv_if_le (tgt := 19) hx hb dX4_fault_7 (by decide) (fun c1 => ?_) (fun c1 => ?_)
  · refine lv_aload_n hx hb dX4_fault_19 rfl (lv_at hl 1 rfl) ?_
    refine lv_iconst (v := 1) hx hb dX4_fault_20 (by decide) ?_
    refine va_put (D := D) (ci := 0) (v := .int 1) (ty := .boolean) (C := RX0) (T := TX0) (N := 8) hx hb hts iwX4_fault_X0 tyX0 tyX0_ok nmX0 hown hK hP (hD _) hS (5 * (k + 2) + 0) (cc_core hk) rfl 4 (by decide) (hts _ lkX4_fault_83) (fun _ h9 => h9) rfl (by decide +kernel) rfl rfl (Nat.le_of_ble_eq_true rfl) dX4_fault_21 (fun H locs hP _ hS => ?_)
    obtain ⟨σ2, eσ2⟩ : ∃ z, z = put σ 14 k 0 1 := ⟨_, rfl⟩
    have hP : va_P D vwCl (FW (5 * (n + 2)) ad (CC cs n ad σ2)) H := by rw [eσ2]; exact FW_P hP cu_core_4
    exact hret _ _ _ () _ _ dX4_fault_24 hP hS (trivial) (by unfold pFault; rw [if_neg (Int32.not_lt.mpr c1)]; simp only [eσ2]; first | done | rfl)
  · refine lv_aload_n hx hb dX4_fault_10 rfl (lv_at hl 0 rfl) ?_
    refine lv_aload_n hx hb dX4_fault_11 rfl (lv_at hl 1 rfl) ?_
    refine lv_iconst (v := 1) hx hb dX4_fault_12 (by decide) ?_
    refine g_cvv (As := [.ref (ad (5 * (k + 2) + 0)), .int 1]) ⟨hx, hb, hml, hown, hts⟩ (kX4_breakOff l D cs n ad σ k hk 1 hQ) (cwV 2 hts gX4_fault_X4_breakOff rfl rfl rfl (by decide +kernel) ⟨Nat.le_of_ble_eq_true rfl, Nat.le_of_ble_eq_true rfl⟩) hK hP hD hS hA 0 (ci := 4) rfl rfl cc_obj hl.1 dX4_fault_13 rfl rfl (Nat.le_of_ble_eq_true rfl) ⟨Nat.zero_le _, Nat.zero_le _⟩ (fun _ H locs hw hP hS => ?_)
    obtain ⟨σ3, eσ3⟩ : ∃ z, z = pBreak σ k 1 := ⟨_, rfl⟩
    have hP : va_P D vwCl (FW (5 * (n + 2)) ad (CC cs n ad σ3)) H := by rw [eσ3]; exact hP
    refine lv_goto (tgt := 24) hx hb dX4_fault_16 (by decide) ?_
    exact hret _ _ _ () _ _ dX4_fault_24 hP hS (trivial) (by unfold pFault; rw [if_pos (Int32.not_le.mp c1)]; simp only [eσ3]; first | done | rfl)

theorem iwX4_begin_X0 : ∀ w ∈ wsX00, w ∈ wsX4_begin := fun w h => by unfold wsX4_begin; simp only [List.mem_cons, List.mem_append, h, true_or, or_true]
theorem iwX4_begin_X1 : ∀ w ∈ wsX10, w ∈ wsX4_begin := fun w h => by unfold wsX4_begin; simp only [List.mem_cons, List.mem_append, h, true_or, or_true]
theorem iwX4_begin_X3 : ∀ w ∈ wsX30, w ∈ wsX4_begin := fun w h => by unfold wsX4_begin; simp only [List.mem_cons, List.mem_append, h, true_or, or_true]
theorem iwX4_begin_X4 : ∀ w ∈ wsX40, w ∈ wsX4_begin := fun w h => by unfold wsX4_begin; simp only [List.mem_cons, List.mem_append, h, true_or, or_true]
theorem lkX4_begin_16 : Cond.fieldLink RX4 16 "CoreTransactions" "program" "LCoreTransactions$Program;" ∈ wsX4_begin := by decide +kernel
theorem lkX4_begin_74 : Cond.fieldLink RX4 74 "CoreTransactions$Core" "transaction" "LCoreTransactions$Transaction;" ∈ wsX4_begin := by decide +kernel
theorem lkX4_begin_90 : Cond.fieldLink RX4 90 "CoreTransactions$Core" "registers" "[I" ∈ wsX4_begin := by decide +kernel
theorem lkX4_begin_132 : Cond.fieldLink RX4 132 "CoreTransactions" "lastAge" "I" ∈ wsX4_begin := by decide +kernel
theorem lkX4_begin_160 : Cond.fieldLink RX4 160 "CoreTransactions$Program" "c" "[I" ∈ wsX4_begin := by decide +kernel
theorem lkX4_begin_186 : Cond.fieldLink RX4 186 "CoreTransactions$Transaction" "depth" "I" ∈ wsX4_begin := by decide +kernel
abbrev rmX4_begin : Room := ({ frames := 2, cells := 0, slots := 0, locals := 84 } : Room)
set_option maxRecDepth 100000 in
set_option maxHeartbeats 4000000 in
theorem kX4_begin (l : Launch) (D : va_G) (cs : Nat → ClassId) (n : Nat) (ad : Nat → Nat) (σ : St) (k : Nat) (hk : k < n) (i : Nat) (hi80 : i < 80) (hQ : okQ σ) : gMi l yX4_begin wsX4_begin rmX4_begin D (tyL cs) (5 * (n + 2)) ad (CC cs n ad σ) [.ref (ad 0), .ref (ad (5 * (k + 2) + 0)), .int (nI i)] (fun (r : Int32) (u : Unit) => r = bI (pBegin σ k i).2) (fun (u : Unit) => CC cs n ad (pBegin σ k i).1) := by
  refine g_ofz (cc := cX4_begin) (maxL := 4) (by decide) rfl (Nat.le_of_ble_eq_true rfl) rfl rfl ?_
  intro p e s m args below meth c A ls Q hx hb hml hts hown hK hP hD hA hS hl hret
  have hl : lv_has ls 4 [(0, .ref (ad 0)), (1, .ref (ad (5 * (k + 2) + 0))), (2, .int (nI i))] := hl
  refine lv_aload_n hx hb dX4_begin_0 rfl (lv_at hl 1 rfl) ?_
  refine va_get (D := D) (ci := 0) (v := .ref (ad (5 * (k + 2) + 2))) (C := RX0) (T := TX0) (N := 8) hx hb hts iwX4_begin_X0 hown hK hP (5 * (k + 2) + 0) (cc_core hk) rfl 2 (by decide) (hts _ lkX4_begin_74) (fun _ h9 => h9) rfl dX4_begin_1 ?_
  refine lv_astore_n (lv' := [(3, .ref (ad (5 * (k + 2) + 2))), (0, .ref (ad 0)), (1, .ref (ad (5 * (k + 2) + 0))), (2, .int (nI i))]) hx hb dX4_begin_4 rfl hl (by decide) rfl (fun ls hl => ?_)
  refine lv_aload_n hx hb dX4_begin_5 rfl (lv_at hl 0 rfl) ?_
  refine va_get (D := D) (ci := 3) (v := .int (σ.1 18 k 0)) (C := RX3) (T := TX3) (N := 9) hx hb hts iwX4_begin_X3 hown hK hP (5 * (k + 2) + 2) (cc_tx hk) rfl 2 (by decide) (hts _ lkX4_begin_186) (fun _ h9 => h9) rfl dX4_begin_6 ?_
  refine lv_bipush (v := 8) hx hb dX4_begin_9 (by decide) ?_
  refine lv_icmp_lt (tgt := 22) hx hb dX4_begin_11 (by decide) (fun c1 => ?_) (fun c1 => ?_)
  · refine lv_aload_n hx hb dX4_begin_22 rfl (lv_at hl 0 rfl) ?_
    refine va_get (D := D) (ci := 3) (v := .int (σ.1 18 k 0)) (C := RX3) (T := TX3) (N := 9) hx hb hts iwX4_begin_X3 hown hK hP (5 * (k + 2) + 2) (cc_tx hk) rfl 2 (by decide) (hts _ lkX4_begin_186) (fun _ h9 => h9) rfl dX4_begin_23 ?_
    refine lv_if_ne (tgt := 61) hx hb dX4_begin_26 (by decide) (fun c2 => ?_) (fun c2 => ?_)
    · have hbeg : pBegin σ k i = (put σ 18 k 0 (σ.1 18 k 0 + 1), true) := (if_neg (Int32.not_le.mpr c1)).trans (if_neg c2)
      refine lv_aload_n hx hb dX4_begin_61 rfl (lv_at hl 0 rfl) ?_
      refine lv_dup hx hb dX4_begin_62 rfl ?_
      refine va_get (D := D) (ci := 3) (v := .int (σ.1 18 k 0)) (C := RX3) (T := TX3) (N := 9) hx hb hts iwX4_begin_X3 hown hK hP (5 * (k + 2) + 2) (cc_tx hk) rfl 2 (by decide) (hts _ lkX4_begin_186) (fun _ h9 => h9) rfl dX4_begin_63 ?_
      refine lv_iconst (v := 1) hx hb dX4_begin_66 (by decide) ?_
      refine lv_iadd hx hb dX4_begin_67 ?_
      refine va_put (D := D) (ci := 3) (v := .int ((σ.1 18 k 0) + 1)) (ty := .int) (C := RX3) (T := TX3) (N := 9) hx hb hts iwX4_begin_X3 tyX3 tyX3_ok nmX3 hown hK hP (hD _) hS (5 * (k + 2) + 2) (cc_tx hk) rfl 2 (by decide) (hts _ lkX4_begin_186) (fun _ h9 => h9) rfl (by decide +kernel) rfl rfl (Nat.le_of_ble_eq_true rfl) dX4_begin_68 (fun H locs hP _ hS => ?_)
      obtain ⟨σ3, eσ3⟩ : ∃ z, z = put σ 18 k 0 ((σ.1 18 k 0) + 1) := ⟨_, rfl⟩
      have hP : va_P D vwCl (FW (5 * (n + 2)) ad (CC cs n ad σ3)) H := by rw [eσ3]; exact FW_P hP cu_tx_2
      refine lv_iconst (v := 1) hx hb dX4_begin_71 (by decide) ?_
      exact hret _ _ _ _ () _ _ dX4_begin_72 hP hS (Or.inr rfl) (by rw [hbeg]; rfl) (by rw [hbeg]; simp only [eσ3]; first | done | rfl)
    · have hbeg : pBegin σ k i = (put (pOpen (put σ 9 0 0 (σ.1 9 0 0 + 1)) k (σ.1 9 0 0 + 1) (nI i) (σ.1 4 0 i)) 18 k 0 (σ.1 18 k 0 + 1), true) := (if_neg (Int32.not_le.mpr c1)).trans (if_pos c2)
      refine lv_aload_n hx hb dX4_begin_29 rfl (lv_at hl 1 rfl) ?_
      refine lv_dup hx hb dX4_begin_30 rfl ?_
      refine va_get (D := D) (ci := 4) (v := .int (σ.1 9 0 0)) (C := RX4) (T := TX4) (N := 7) hx hb hts iwX4_begin_X4 hown hK hP 0 cc_obj rfl 6 (by decide) (hts _ lkX4_begin_132) (fun _ h9 => h9) rfl dX4_begin_31 ?_
      refine lv_iconst (v := 1) hx hb dX4_begin_34 (by decide) ?_
      refine lv_iadd hx hb dX4_begin_35 ?_
      refine va_put (D := D) (ci := 4) (v := .int ((σ.1 9 0 0) + 1)) (ty := .int) (C := RX4) (T := TX4) (N := 7) hx hb hts iwX4_begin_X4 tyX4 tyX4_ok nmX4 hown hK hP (hD _) hS 0 cc_obj rfl 6 (by decide) (hts _ lkX4_begin_132) (fun _ h9 => h9) rfl (by decide +kernel) rfl rfl (Nat.le_of_ble_eq_true rfl) dX4_begin_36 (fun H locs hP _ hS => ?_)
      obtain ⟨σ4, eσ4⟩ : ∃ z, z = put σ 9 0 0 ((σ.1 9 0 0) + 1) := ⟨_, rfl⟩
      have hP : va_P D vwCl (FW (5 * (n + 2)) ad (CC cs n ad σ4)) H := by rw [eσ4]; exact FW_P hP cu_obj_6
      refine lv_aload_n hx hb dX4_begin_39 rfl (lv_at hl 0 rfl) ?_
      refine lv_aload_n hx hb dX4_begin_40 rfl (lv_at hl 1 rfl) ?_
      refine va_get (D := D) (ci := 4) (v := .int (σ4.1 9 0 0)) (C := RX4) (T := TX4) (N := 7) hx hb hts iwX4_begin_X4 hown hK hP 0 cc_obj rfl 6 (by decide) (hts _ lkX4_begin_132) (fun _ h9 => h9) rfl dX4_begin_41 ?_
      refine lv_iload_n hx hb dX4_begin_44 rfl (lv_at hl 3 rfl) ?_
      refine lv_aload_n hx hb dX4_begin_45 rfl (lv_at hl 1 rfl) ?_
      refine va_get (D := D) (ci := 4) (v := .ref (ad 3)) (C := RX4) (T := TX4) (N := 7) hx hb hts iwX4_begin_X4 hown hK hP 0 cc_obj rfl 4 (by decide) (hts _ lkX4_begin_16) (fun _ h9 => h9) rfl dX4_begin_46 ?_
      refine va_get (D := D) (ci := 1) (v := .ref (ad 8)) (C := RX1) (T := TX1) (N := 5) hx hb hts iwX4_begin_X1 hown hK hP 3 cc_pro rfl 3 (by decide) (hts _ lkX4_begin_160) (fun _ h9 => h9) rfl dX4_begin_49 ?_
      refine lv_iload_n hx hb dX4_begin_52 rfl (lv_at hl 3 rfl) ?_
      refine g_iald (t0 := 0) (v := σ4.1 4 0 i) hx hb hK hP cc_pc rfl i rfl hi80 (by decide) rfl dX4_begin_53 ?_
      refine lv_aload_n hx hb dX4_begin_54 rfl (lv_at hl 2 rfl) ?_
      refine va_get (D := D) (ci := 0) (v := .ref (ad (5 * (k + 2) + 1))) (C := RX0) (T := TX0) (N := 8) hx hb hts iwX4_begin_X0 hown hK hP (5 * (k + 2) + 0) (cc_core hk) rfl 1 (by decide) (hts _ lkX4_begin_90) (fun _ h9 => h9) rfl dX4_begin_55 ?_
      refine g_cvv (As := [.int (σ4.1 9 0 0), .int (nI i), .int (σ4.1 4 0 i), .ref (ad (5 * (k + 2) + 1))]) ⟨hx, hb, hml, hown, hts⟩ (kX3_open l D cs n ad σ4 k hk (σ4.1 9 0 0) (nI i) (σ4.1 4 0 i)) (cwV 4 hts gX4_begin_X3_open rfl rfl rfl (by decide +kernel) ⟨Nat.le_of_ble_eq_true rfl, Nat.le_of_ble_eq_true rfl⟩) hK hP hD hS hA (5 * (k + 2) + 2) (ci := 3) rfl rfl (cc_tx hk) hl.1 dX4_begin_58 rfl rfl (Nat.le_of_ble_eq_true rfl) ⟨Nat.zero_le _, Nat.zero_le _⟩ (fun _ H locs hw hP hS => ?_)
      obtain ⟨σ5, eσ5⟩ : ∃ z, z = pOpen σ4 k (σ4.1 9 0 0) (nI i) (σ4.1 4 0 i) := ⟨_, rfl⟩
      have hP : va_P D vwCl (FW (5 * (n + 2)) ad (CC cs n ad σ5)) H := by rw [eσ5]; exact hP
      refine lv_aload_n hx hb dX4_begin_61 rfl (lv_at hl 0 rfl) ?_
      refine lv_dup hx hb dX4_begin_62 rfl ?_
      refine va_get (D := D) (ci := 3) (v := .int (σ5.1 18 k 0)) (C := RX3) (T := TX3) (N := 9) hx hb hts iwX4_begin_X3 hown hK hP (5 * (k + 2) + 2) (cc_tx hk) rfl 2 (by decide) (hts _ lkX4_begin_186) (fun _ h9 => h9) rfl dX4_begin_63 ?_
      refine lv_iconst (v := 1) hx hb dX4_begin_66 (by decide) ?_
      refine lv_iadd hx hb dX4_begin_67 ?_
      refine va_put (D := D) (ci := 3) (v := .int ((σ5.1 18 k 0) + 1)) (ty := .int) (C := RX3) (T := TX3) (N := 9) hx hb hts iwX4_begin_X3 tyX3 tyX3_ok nmX3 hown hK hP (hD _) hS (5 * (k + 2) + 2) (cc_tx hk) rfl 2 (by decide) (hts _ lkX4_begin_186) (fun _ h9 => h9) rfl (by decide +kernel) rfl rfl (Nat.le_of_ble_eq_true rfl) dX4_begin_68 (fun H locs hP _ hS => ?_)
      obtain ⟨σ6, eσ6⟩ : ∃ z, z = put σ5 18 k 0 ((σ5.1 18 k 0) + 1) := ⟨_, rfl⟩
      have hP : va_P D vwCl (FW (5 * (n + 2)) ad (CC cs n ad σ6)) H := by rw [eσ6]; exact FW_P hP cu_tx_2
      refine lv_iconst (v := 1) hx hb dX4_begin_71 (by decide) ?_
      exact hret _ _ _ _ () _ _ dX4_begin_72 hP hS (Or.inr rfl) (by rw [hbeg]; rfl) (by rw [hbeg]; simp only [eσ6, eσ5, eσ4]; first | done | rfl)
  · have hbeg : pBegin σ k i = (pBreak σ k 2, false) := if_pos (Int32.not_lt.mp c1)
    refine lv_aload_n hx hb dX4_begin_14 rfl (lv_at hl 1 rfl) ?_
    refine lv_aload_n hx hb dX4_begin_15 rfl (lv_at hl 2 rfl) ?_
    refine lv_iconst (v := 2) hx hb dX4_begin_16 (by decide) ?_
    refine g_cvv (As := [.ref (ad (5 * (k + 2) + 0)), .int 2]) ⟨hx, hb, hml, hown, hts⟩ (kX4_breakOff l D cs n ad σ k hk 2 hQ) (cwV 2 hts gX4_begin_X4_breakOff rfl rfl rfl (by decide +kernel) ⟨Nat.le_of_ble_eq_true rfl, Nat.le_of_ble_eq_true rfl⟩) hK hP hD hS hA 0 (ci := 4) rfl rfl cc_obj hl.1 dX4_begin_17 rfl rfl (Nat.le_of_ble_eq_true rfl) ⟨Nat.zero_le _, Nat.zero_le _⟩ (fun _ H locs hw hP hS => ?_)
    obtain ⟨σ7, eσ7⟩ : ∃ z, z = pBreak σ k 2 := ⟨_, rfl⟩
    have hP : va_P D vwCl (FW (5 * (n + 2)) ad (CC cs n ad σ7)) H := by rw [eσ7]; exact hP
    refine lv_iconst (v := 0) hx hb dX4_begin_20 (by decide) ?_
    exact hret _ _ _ _ () _ _ dX4_begin_21 hP hS (Or.inl rfl) (by rw [hbeg]; rfl) (by rw [hbeg]; simp only [eσ7]; first | done | rfl)

theorem iwX4_end_X0 : ∀ w ∈ wsX00, w ∈ wsX4_end := fun w h => by unfold wsX4_end; simp only [List.mem_cons, List.mem_append, h, true_or, or_true]
theorem iwX4_end_X3 : ∀ w ∈ wsX30, w ∈ wsX4_end := fun w h => by unfold wsX4_end; simp only [List.mem_cons, List.mem_append, h, true_or, or_true]
theorem iwX4_end_X4 : ∀ w ∈ wsX40, w ∈ wsX4_end := fun w h => by unfold wsX4_end; simp only [List.mem_cons, List.mem_append, h, true_or, or_true]
theorem lkX4_end_9 : Cond.fieldLink RX4 9 "CoreTransactions" "memory" "[I" ∈ wsX4_end := by decide +kernel
theorem lkX4_end_74 : Cond.fieldLink RX4 74 "CoreTransactions$Core" "transaction" "LCoreTransactions$Transaction;" ∈ wsX4_end := by decide +kernel
theorem lkX4_end_186 : Cond.fieldLink RX4 186 "CoreTransactions$Transaction" "depth" "I" ∈ wsX4_end := by decide +kernel
theorem lkX4_end_201 : Cond.fieldLink RX4 201 "CoreTransactions$Core" "committed" "I" ∈ wsX4_end := by decide +kernel
abbrev rmX4_end : Room := ({ frames := 2, cells := 0, slots := 0, locals := 43 } : Room)
set_option maxRecDepth 100000 in
set_option maxHeartbeats 4000000 in
theorem kX4_end (l : Launch) (D : va_G) (cs : Nat → ClassId) (n : Nat) (ad : Nat → Nat) (σ : St) (k : Nat) (hk : k < n) : gMv l yX4_end wsX4_end rmX4_end D (tyL cs) (5 * (n + 2)) ad (CC cs n ad σ) [.ref (ad 0), .ref (ad (5 * (k + 2) + 0))] (fun (u : Unit) => True) (fun (u : Unit) => CC cs n ad (pEnd σ k)) := by
  refine g_ofv (cc := cX4_end) (maxL := 3) (by decide) rfl (Nat.le_of_ble_eq_true rfl) rfl rfl ?_
  intro p e s m args below meth c A ls Q hx hb hml hts hown hK hP hD hA hS hl hret
  have hl : lv_has ls 3 [(0, .ref (ad 0)), (1, .ref (ad (5 * (k + 2) + 0)))] := hl
  refine lv_aload_n hx hb dX4_end_0 rfl (lv_at hl 1 rfl) ?_
  refine va_get (D := D) (ci := 0) (v := .ref (ad (5 * (k + 2) + 2))) (C := RX0) (T := TX0) (N := 8) hx hb hts iwX4_end_X0 hown hK hP (5 * (k + 2) + 0) (cc_core hk) rfl 2 (by decide) (hts _ lkX4_end_74) (fun _ h9 => h9) rfl dX4_end_1 ?_
  refine lv_astore_n (lv' := [(2, .ref (ad (5 * (k + 2) + 2))), (0, .ref (ad 0)), (1, .ref (ad (5 * (k + 2) + 0)))]) hx hb dX4_end_4 rfl hl (by decide) rfl (fun ls hl => ?_)
  refine lv_aload_n hx hb dX4_end_5 rfl (lv_at hl 0 rfl) ?_
  refine va_get (D := D) (ci := 3) (v := .int (σ.1 18 k 0)) (C := RX3) (T := TX3) (N := 9) hx hb hts iwX4_end_X3 hown hK hP (5 * (k + 2) + 2) (cc_tx hk) rfl 2 (by decide) (hts _ lkX4_end_186) (fun _ h9 => h9) rfl dX4_end_6 ?_
  refine lv_iconst (v := 1) hx hb dX4_end_9 (by decide) ?_
  refine lv_icmp_ne (tgt := 38) hx hb dX4_end_10 (by decide) (fun c1 => ?_) (fun c1 => ?_)
  · refine lv_aload_n hx hb dX4_end_38 rfl (lv_at hl 0 rfl) ?_
    refine va_get (D := D) (ci := 3) (v := .int (σ.1 18 k 0)) (C := RX3) (T := TX3) (N := 9) hx hb hts iwX4_end_X3 hown hK hP (5 * (k + 2) + 2) (cc_tx hk) rfl 2 (by decide) (hts _ lkX4_end_186) (fun _ h9 => h9) rfl dX4_end_39 ?_
    refine lv_iconst (v := 1) hx hb dX4_end_42 (by decide) ?_
    refine lv_icmp_le (tgt := 56) hx hb dX4_end_43 (by decide) (fun c2 => ?_) (fun c2 => ?_)
    · exact hret _ _ _ () _ _ dX4_end_56 hP hS (trivial) (by unfold pEnd; rw [if_neg c1, if_neg (Int32.not_lt.mpr c2)]; first | done | rfl)
    · refine lv_aload_n hx hb dX4_end_46 rfl (lv_at hl 0 rfl) ?_
      refine lv_dup hx hb dX4_end_47 rfl ?_
      refine va_get (D := D) (ci := 3) (v := .int (σ.1 18 k 0)) (C := RX3) (T := TX3) (N := 9) hx hb hts iwX4_end_X3 hown hK hP (5 * (k + 2) + 2) (cc_tx hk) rfl 2 (by decide) (hts _ lkX4_end_186) (fun _ h9 => h9) rfl dX4_end_48 ?_
      refine lv_iconst (v := 1) hx hb dX4_end_51 (by decide) ?_
      refine lv_isub hx hb dX4_end_52 ?_
      refine va_put (D := D) (ci := 3) (v := .int ((σ.1 18 k 0) - 1)) (ty := .int) (C := RX3) (T := TX3) (N := 9) hx hb hts iwX4_end_X3 tyX3 tyX3_ok nmX3 hown hK hP (hD _) hS (5 * (k + 2) + 2) (cc_tx hk) rfl 2 (by decide) (hts _ lkX4_end_186) (fun _ h9 => h9) rfl (by decide +kernel) rfl rfl (Nat.le_of_ble_eq_true rfl) dX4_end_53 (fun H locs hP _ hS => ?_)
      obtain ⟨σ3, eσ3⟩ : ∃ z, z = put σ 18 k 0 ((σ.1 18 k 0) - 1) := ⟨_, rfl⟩
      have hP : va_P D vwCl (FW (5 * (n + 2)) ad (CC cs n ad σ3)) H := by rw [eσ3]; exact FW_P hP cu_tx_2
      exact hret _ _ _ () _ _ dX4_end_56 hP hS (trivial) (by unfold pEnd; rw [if_neg c1, if_pos (Int32.not_le.mp c2)]; simp only [eσ3]; first | done | rfl)
  · refine lv_aload_n hx hb dX4_end_13 rfl (lv_at hl 0 rfl) ?_
    refine lv_aload_n hx hb dX4_end_14 rfl (lv_at hl 1 rfl) ?_
    refine va_get (D := D) (ci := 4) (v := .ref (ad 2)) (C := RX4) (T := TX4) (N := 7) hx hb hts iwX4_end_X4 hown hK hP 0 cc_obj rfl 3 (by decide) (hts _ lkX4_end_9) (fun _ h9 => h9) rfl dX4_end_15 ?_
    refine g_cvv (As := [.ref (ad 2)]) ⟨hx, hb, hml, hown, hts⟩ (kX3_writeTo l D cs n ad σ k hk) (cwV 1 hts gX4_end_X3_writeTo rfl rfl rfl (by decide +kernel) ⟨Nat.le_of_ble_eq_true rfl, Nat.le_of_ble_eq_true rfl⟩) hK hP hD hS hA (5 * (k + 2) + 2) (ci := 3) rfl rfl (cc_tx hk) hl.1 dX4_end_18 rfl rfl (Nat.le_of_ble_eq_true rfl) ⟨Nat.zero_le _, Nat.zero_le _⟩ (fun _ H locs hw hP hS => ?_)
    obtain ⟨σ4, eσ4⟩ : ∃ z, z = pMemo σ k 64 := ⟨_, rfl⟩
    have hP : va_P D vwCl (FW (5 * (n + 2)) ad (CC cs n ad σ4)) H := by rw [eσ4]; exact hP
    refine lv_aload_n hx hb dX4_end_21 rfl (lv_at hl 0 rfl) ?_
    refine g_cvv (As := []) ⟨hx, hb, hml, hown, hts⟩ (kX3_close l D cs n ad σ4 k hk) (cwV 0 hts gX4_end_X3_close rfl rfl rfl (by decide +kernel) ⟨Nat.le_of_ble_eq_true rfl, Nat.le_of_ble_eq_true rfl⟩) hK hP hD hS hA (5 * (k + 2) + 2) (ci := 3) rfl rfl (cc_tx hk) hl.1 dX4_end_22 rfl rfl (Nat.le_of_ble_eq_true rfl) ⟨Nat.zero_le _, Nat.zero_le _⟩ (fun _ H locs hw hP hS => ?_)
    obtain ⟨σ5, eσ5⟩ : ∃ z, z = pClose σ4 k := ⟨_, rfl⟩
    have hP : va_P D vwCl (FW (5 * (n + 2)) ad (CC cs n ad σ5)) H := by rw [eσ5]; exact hP
    refine lv_aload_n hx hb dX4_end_25 rfl (lv_at hl 2 rfl) ?_
    refine lv_dup hx hb dX4_end_26 rfl ?_
    refine va_get (D := D) (ci := 0) (v := .int (σ5.1 16 k 0)) (C := RX0) (T := TX0) (N := 8) hx hb hts iwX4_end_X0 hown hK hP (5 * (k + 2) + 0) (cc_core hk) rfl 6 (by decide) (hts _ lkX4_end_201) (fun _ h9 => h9) rfl dX4_end_27 ?_
    refine lv_iconst (v := 1) hx hb dX4_end_30 (by decide) ?_
    refine lv_iadd hx hb dX4_end_31 ?_
    refine va_put (D := D) (ci := 0) (v := .int ((σ5.1 16 k 0) + 1)) (ty := .int) (C := RX0) (T := TX0) (N := 8) hx hb hts iwX4_end_X0 tyX0 tyX0_ok nmX0 hown hK hP (hD _) hS (5 * (k + 2) + 0) (cc_core hk) rfl 6 (by decide) (hts _ lkX4_end_201) (fun _ h9 => h9) rfl (by decide +kernel) rfl rfl (Nat.le_of_ble_eq_true rfl) dX4_end_32 (fun H locs hP _ hS => ?_)
    obtain ⟨σ6, eσ6⟩ : ∃ z, z = put σ5 16 k 0 ((σ5.1 16 k 0) + 1) := ⟨_, rfl⟩
    have hP : va_P D vwCl (FW (5 * (n + 2)) ad (CC cs n ad σ6)) H := by rw [eσ6]; exact FW_P hP cu_core_6
    refine lv_goto (tgt := 56) hx hb dX4_end_35 (by decide) ?_
    exact hret _ _ _ () _ _ dX4_end_56 hP hS (trivial) (by unfold pEnd; rw [if_pos c1]; simp only [eσ6, eσ5, eσ4]; first | done | rfl)

theorem iwX4_meetsOlder_X0 : ∀ w ∈ wsX00, w ∈ wsX4_meetsOlder := fun w h => by unfold wsX4_meetsOlder; simp only [List.mem_cons, List.mem_append, h, true_or, or_true]
theorem iwX4_meetsOlder_X3 : ∀ w ∈ wsX30, w ∈ wsX4_meetsOlder := fun w h => by unfold wsX4_meetsOlder; simp only [List.mem_cons, List.mem_append, h, true_or, or_true]
theorem iwX4_meetsOlder_X4 : ∀ w ∈ wsX40, w ∈ wsX4_meetsOlder := fun w h => by unfold wsX4_meetsOlder; simp only [List.mem_cons, List.mem_append, h, true_or, or_true]
theorem lkX4_meetsOlder_40 : Cond.fieldLink RX4 40 "CoreTransactions" "cores" "[LCoreTransactions$Core;" ∈ wsX4_meetsOlder := by decide +kernel
theorem lkX4_meetsOlder_74 : Cond.fieldLink RX4 74 "CoreTransactions$Core" "transaction" "LCoreTransactions$Transaction;" ∈ wsX4_meetsOlder := by decide +kernel
theorem lkX4_meetsOlder_210 : Cond.fieldLink RX4 210 "CoreTransactions$Core" "number" "I" ∈ wsX4_meetsOlder := by decide +kernel
theorem lkX4_meetsOlder_224 : Cond.fieldLink RX4 224 "CoreTransactions$Transaction" "age" "I" ∈ wsX4_meetsOlder := by decide +kernel
abbrev rmX4_meetsOlder : Room := ({ frames := 1, cells := 0, slots := 0, locals := 23 } : Room)
set_option maxRecDepth 100000 in
set_option maxHeartbeats 4000000 in
theorem kX4_meetsOlder (l : Launch) (D : va_G) (cs : Nat → ClassId) (n : Nat) (ad : Nat → Nat) (σ : St) (k : Nat) (hk : k < n) (hn31 : n < 2 ^ 31) (ln : Nat) (w : Bool) : gMi l yX4_meetsOlder wsX4_meetsOlder rmX4_meetsOlder D (tyL cs) (5 * (n + 2)) ad (CC cs n ad σ) [.ref (ad 0), .ref (ad (5 * (k + 2) + 0)), .int (nI ln), .int (bI w)] (fun (r : Int32) (u : Unit) => r = bI (mOld σ k ln w n)) (fun (u : Unit) => CC cs n ad σ) := by
  refine g_ofz (cc := cX4_meetsOlder) (maxL := 6) (by decide) rfl (Nat.le_of_ble_eq_true rfl) rfl rfl ?_
  intro p e s m args below meth c A ls Q hx hb hml hts hown hK hP hD hA hS hl hret
  have hl : lv_has ls 6 [(0, .ref (ad 0)), (1, .ref (ad (5 * (k + 2) + 0))), (2, .int (nI ln)), (3, .int (bI w))] := hl
  refine lv_iconst (v := 0) hx hb dX4_meetsOlder_0 (by decide) ?_
  refine lv_istore (lv' := [(4, .int 0), (0, .ref (ad 0)), (1, .ref (ad (5 * (k + 2) + 0))), (2, .int (nI ln)), (3, .int (bI w))]) hx hb dX4_meetsOlder_1 hl (by decide) rfl (fun ls hl => ?_)
  have loop : ∀ (d i : Nat), i + d = n → mOld σ k ln w i = false → ∀ (H : Heap) (locs : List Loc) (ls : Array Slot), va_P D vwCl (FW (5 * (n + 2)) ad (CC cs n ad (σ))) H → va_S A s.heap H locs → lv_has ls 6 [(0, .ref (ad 0)), (1, .ref (ad (5 * (k + 2) + 0))), (2, .int (nI ln)), (3, .int (bI w)), (4, .int (nI i))] → W p l e rmX4_meetsOlder s m args below meth c H locs 0 0 Q (F0 m 3 ls []) := by
    intro d
    induction d with
    | zero =>
      intro i hi hm H locs ls hP hS hl
      have hE : i = n := by omega
      try rw [hE] at hP
      try rw [hE] at hl
      try rw [hE] at hm
      obtain ⟨σ1, eσ1⟩ : ∃ z, z = σ := ⟨_, rfl⟩
      have hP : va_P D vwCl (FW (5 * (n + 2)) ad (CC cs n ad σ1)) H := by rw [eσ1]; exact hP
      refine lv_iload hx hb dX4_meetsOlder_3 (lv_at hl 4 rfl) ?_
      refine lv_aload_n hx hb dX4_meetsOlder_5 rfl (lv_at hl 0 rfl) ?_
      refine va_get (D := D) (ci := 4) (v := .ref (ad 1)) (C := RX4) (T := TX4) (N := 7) hx hb hts iwX4_meetsOlder_X4 hown hK hP 0 cc_obj rfl 2 (by decide) (hts _ lkX4_meetsOlder_40) (fun _ h9 => h9) rfl dX4_meetsOlder_6 ?_
      refine va_alen hx hb hK hP 1 1 cc_cor rfl (v := nI n) rfl dX4_meetsOlder_9 ?_
      refine lv_icmp_ge (tgt := 67) hx hb dX4_meetsOlder_10 (by decide) (fun c2 => ?_) (fun c2 => absurd (Int32.le_refl _) c2)
      refine lv_iconst (v := 0) hx hb dX4_meetsOlder_67 (by decide) ?_
      exact hret _ _ _ _ () _ _ dX4_meetsOlder_68 hP hS (Or.inl rfl) (by rw [hm]; rfl) (by simp only [eσ1]; first | done | rfl)
    | succ d ih =>
      intro i hi hm H locs ls hP hS hl
      have hi2 : i < n := by omega
      obtain ⟨σ3, eσ3⟩ : ∃ z, z = σ := ⟨_, rfl⟩
      have hP : va_P D vwCl (FW (5 * (n + 2)) ad (CC cs n ad σ3)) H := by rw [eσ3]; exact hP
      refine lv_iload hx hb dX4_meetsOlder_3 (lv_at hl 4 rfl) ?_
      refine lv_aload_n hx hb dX4_meetsOlder_5 rfl (lv_at hl 0 rfl) ?_
      refine va_get (D := D) (ci := 4) (v := .ref (ad 1)) (C := RX4) (T := TX4) (N := 7) hx hb hts iwX4_meetsOlder_X4 hown hK hP 0 cc_obj rfl 2 (by decide) (hts _ lkX4_meetsOlder_40) (fun _ h9 => h9) rfl dX4_meetsOlder_6 ?_
      refine va_alen hx hb hK hP 1 1 cc_cor rfl (v := nI n) rfl dX4_meetsOlder_9 ?_
      refine lv_icmp_ge (tgt := 67) hx hb dX4_meetsOlder_10 (by decide) (fun c4 => absurd c4 (nI_ge hi2 hn31)) (fun c4 => ?_)
      refine lv_aload_n hx hb dX4_meetsOlder_13 rfl (lv_at hl 0 rfl) ?_
      refine va_get (D := D) (ci := 4) (v := .ref (ad 1)) (C := RX4) (T := TX4) (N := 7) hx hb hts iwX4_meetsOlder_X4 hown hK hP 0 cc_obj rfl 2 (by decide) (hts _ lkX4_meetsOlder_40) (fun _ h9 => h9) rfl dX4_meetsOlder_14 ?_
      refine lv_iload hx hb dX4_meetsOlder_17 (lv_at hl 4 rfl) ?_
      refine g_aald (t0 := 1) (v := ad (5 * (i + 2) + 0)) hx hb hK hP cc_cor rfl i rfl hi2 hn31 rfl dX4_meetsOlder_19 ?_
      refine va_get (D := D) (ci := 0) (v := .ref (ad (5 * (i + 2) + 2))) (C := RX0) (T := TX0) (N := 8) hx hb hts iwX4_meetsOlder_X0 hown hK hP (5 * (i + 2) + 0) (cc_core hi2) rfl 2 (by decide) (hts _ lkX4_meetsOlder_74) (fun _ h9 => h9) rfl dX4_meetsOlder_20 ?_
      refine lv_astore (lv' := [(5, .ref (ad (5 * (i + 2) + 2))), (0, .ref (ad 0)), (1, .ref (ad (5 * (k + 2) + 0))), (2, .int (nI ln)), (3, .int (bI w)), (4, .int (nI i))]) hx hb dX4_meetsOlder_23 hl (by decide) rfl (fun ls hl => ?_)
      refine lv_iload hx hb dX4_meetsOlder_25 (lv_at hl 5 rfl) ?_
      refine lv_aload_n hx hb dX4_meetsOlder_27 rfl (lv_at hl 2 rfl) ?_
      refine va_get (D := D) (ci := 0) (v := .int (nI k)) (C := RX0) (T := TX0) (N := 8) hx hb hts iwX4_meetsOlder_X0 hown hK hP (5 * (k + 2) + 0) (cc_core hk) rfl 0 (by decide) (hts _ lkX4_meetsOlder_210) (fun _ h9 => h9) rfl dX4_meetsOlder_28 ?_
      refine lv_icmp_eq (tgt := 61) hx hb dX4_meetsOlder_31 (by decide) (fun c5 => ?_) (fun c5 => ?_)
      · have hik : i = k := (nI_eq (by omega) (by omega)).mp c5
        refine lv_iinc (v := nI (i + 1)) (lv' := [(4, .int (nI (i + 1))), (5, .ref (ad (5 * (i + 2) + 2))), (0, .ref (ad 0)), (1, .ref (ad (5 * (k + 2) + 0))), (2, .int (nI ln)), (3, .int (bI w))]) hx hb dX4_meetsOlder_61 hl (k := 5) rfl (nI_1 i) (by decide) rfl (fun ls hl => ?_)
        refine lv_goto (tgt := 3) hx hb dX4_meetsOlder_64 (by decide) ?_
        exact ih (i + 1) (by omega) (mO_n hm (fun h => h.1 hik)) _ _ _ (by simp only [eσ3] at hP; exact hP) hS (lv_sub hl [2, 3, 4, 5, 0] rfl)
      · have hik : i ≠ k := fun h => c5 (by rw [h])
        refine lv_aload hx hb dX4_meetsOlder_34 (lv_at hl 0 rfl) ?_
        refine lv_iload_n hx hb dX4_meetsOlder_36 rfl (lv_at hl 3 rfl) ?_
        refine lv_iload_n hx hb dX4_meetsOlder_37 rfl (lv_at hl 4 rfl) ?_
        refine g_cvi (As := [.int (nI ln), .int (bI w)]) ⟨hx, hb, hml, hown, hts⟩ (kX3_touches l D cs n ad σ3 i hi2 ln w) (cwV 2 hts gX4_meetsOlder_X3_touches rfl rfl rfl (by decide +kernel) ⟨Nat.le_of_ble_eq_true rfl, Nat.le_of_ble_eq_true rfl⟩) hK hP hD hS hA (5 * (i + 2) + 2) (ci := 3) rfl rfl (cc_tx hi2) hl.1 dX4_meetsOlder_38 rfl rfl (Nat.le_of_ble_eq_true rfl) ⟨Nat.zero_le _, Nat.zero_le _⟩ (fun r _ H locs hw hP hS => ?_)
        obtain rfl : r = bI (tch σ3 i ln w) := hw
        have hP : va_P D vwCl (FW (5 * (n + 2)) ad (CC cs n ad σ3)) H := hP
        refine lv_if_eq (tgt := 61) hx hb dX4_meetsOlder_41 (by decide) (fun c6 => ?_) (fun c6 => ?_)
        · have htc : tch σ i ln w = false := bI0 (by first | exact c6 | (simp only [eσ3] at c6; exact c6))
          refine lv_iinc (v := nI (i + 1)) (lv' := [(4, .int (nI (i + 1))), (5, .ref (ad (5 * (i + 2) + 2))), (0, .ref (ad 0)), (1, .ref (ad (5 * (k + 2) + 0))), (2, .int (nI ln)), (3, .int (bI w))]) hx hb dX4_meetsOlder_61 hl (k := 5) rfl (nI_1 i) (by decide) rfl (fun ls hl => ?_)
          refine lv_goto (tgt := 3) hx hb dX4_meetsOlder_64 (by decide) ?_
          exact ih (i + 1) (by omega) (mO_n hm (fun h => by rw [htc] at h; exact absurd h.2.1 (by decide))) _ _ _ (by simp only [eσ3] at hP; exact hP) hS (lv_sub hl [2, 3, 4, 5, 0] rfl)
        · have htc : tch σ i ln w = true := bI1 (by first | exact c6 | (simp only [eσ3] at c6; exact c6))
          refine lv_aload hx hb dX4_meetsOlder_44 (lv_at hl 0 rfl) ?_
          refine va_get (D := D) (ci := 3) (v := .int (σ3.1 19 i 0)) (C := RX3) (T := TX3) (N := 9) hx hb hts iwX4_meetsOlder_X3 hown hK hP (5 * (i + 2) + 2) (cc_tx hi2) rfl 3 (by decide) (hts _ lkX4_meetsOlder_224) (fun _ h9 => h9) rfl dX4_meetsOlder_46 ?_
          refine lv_aload_n hx hb dX4_meetsOlder_49 rfl (lv_at hl 2 rfl) ?_
          refine va_get (D := D) (ci := 0) (v := .ref (ad (5 * (k + 2) + 2))) (C := RX0) (T := TX0) (N := 8) hx hb hts iwX4_meetsOlder_X0 hown hK hP (5 * (k + 2) + 0) (cc_core hk) rfl 2 (by decide) (hts _ lkX4_meetsOlder_74) (fun _ h9 => h9) rfl dX4_meetsOlder_50 ?_
          refine va_get (D := D) (ci := 3) (v := .int (σ3.1 19 k 0)) (C := RX3) (T := TX3) (N := 9) hx hb hts iwX4_meetsOlder_X3 hown hK hP (5 * (k + 2) + 2) (cc_tx hk) rfl 3 (by decide) (hts _ lkX4_meetsOlder_224) (fun _ h9 => h9) rfl dX4_meetsOlder_53 ?_
          refine lv_icmp_ge (tgt := 61) hx hb dX4_meetsOlder_56 (by decide) (fun c7 => ?_) (fun c7 => ?_)
          · simp only [eσ3] at c7
            refine lv_iinc (v := nI (i + 1)) (lv' := [(4, .int (nI (i + 1))), (5, .ref (ad (5 * (i + 2) + 2))), (0, .ref (ad 0)), (1, .ref (ad (5 * (k + 2) + 0))), (2, .int (nI ln)), (3, .int (bI w))]) hx hb dX4_meetsOlder_61 hl (k := 5) rfl (nI_1 i) (by decide) rfl (fun ls hl => ?_)
            refine lv_goto (tgt := 3) hx hb dX4_meetsOlder_64 (by decide) ?_
            exact ih (i + 1) (by omega) (mO_n hm (fun h => absurd h.2.2 (Int32.not_lt.mpr c7))) _ _ _ (by simp only [eσ3] at hP; exact hP) hS (lv_sub hl [2, 3, 4, 5, 0] rfl)
          · simp only [eσ3] at c7
            refine lv_iconst (v := 1) hx hb dX4_meetsOlder_59 (by decide) ?_
            exact hret _ _ _ _ () _ _ dX4_meetsOlder_60 hP hS (Or.inr rfl) (by rw [mOld_mono (show i + 1 ≤ n from hi2) (mO_y hik htc (Int32.not_le.mp c7))]; rfl) (by simp only [eσ3]; first | done | rfl)
  exact loop (n) 0 (by omega) rfl _ _ _ (hP) hS (lv_sub hl [1, 2, 3, 4, 0] rfl)

theorem iwX4_breakOffAll_X0 : ∀ w ∈ wsX00, w ∈ wsX4_breakOffAll := fun w h => by unfold wsX4_breakOffAll; simp only [List.mem_cons, List.mem_append, h, true_or, or_true]
theorem iwX4_breakOffAll_X4 : ∀ w ∈ wsX40, w ∈ wsX4_breakOffAll := fun w h => by unfold wsX4_breakOffAll; simp only [List.mem_cons, List.mem_append, h, true_or, or_true]
theorem lkX4_breakOffAll_40 : Cond.fieldLink RX4 40 "CoreTransactions" "cores" "[LCoreTransactions$Core;" ∈ wsX4_breakOffAll := by decide +kernel
theorem lkX4_breakOffAll_74 : Cond.fieldLink RX4 74 "CoreTransactions$Core" "transaction" "LCoreTransactions$Transaction;" ∈ wsX4_breakOffAll := by decide +kernel
abbrev rmX4_breakOffAll : Room := ({ frames := 2, cells := 0, slots := 0, locals := 83 } : Room)
set_option maxRecDepth 100000 in
set_option maxHeartbeats 4000000 in
theorem kX4_breakOffAll (l : Launch) (D : va_G) (cs : Nat → ClassId) (n : Nat) (ad : Nat → Nat) (σ : St) (hn31 : n < 2 ^ 31) (acc : Int32) (ln : Nat) (w : Bool) (hQ : okQ σ) : gMv l yX4_breakOffAll wsX4_breakOffAll rmX4_breakOffAll D (tyL cs) (5 * (n + 2)) ad (CC cs n ad σ) [.ref (ad 0), .int acc, .int (nI ln), .int (bI w)] (fun (u : Unit) => True) (fun (u : Unit) => CC cs n ad (pBA acc ln w n σ)) := by
  refine g_ofv (cc := cX4_breakOffAll) (maxL := 5) (by decide) rfl (Nat.le_of_ble_eq_true rfl) rfl rfl ?_
  intro p e s m args below meth c A ls Q hx hb hml hts hown hK hP hD hA hS hl hret
  have hl : lv_has ls 5 [(0, .ref (ad 0)), (1, .int acc), (2, .int (nI ln)), (3, .int (bI w))] := hl
  refine lv_iconst (v := 0) hx hb dX4_breakOffAll_0 (by decide) ?_
  refine lv_istore (lv' := [(4, .int 0), (0, .ref (ad 0)), (1, .int acc), (2, .int (nI ln)), (3, .int (bI w))]) hx hb dX4_breakOffAll_1 hl (by decide) rfl (fun ls hl => ?_)
  have loop : ∀ (d i : Nat), i + d = n →  ∀ (H : Heap) (locs : List Loc) (ls : Array Slot), va_P D vwCl (FW (5 * (n + 2)) ad (CC cs n ad (pBA acc ln w i σ))) H → va_S A s.heap H locs → lv_has ls 5 [(0, .ref (ad 0)), (1, .int acc), (2, .int (nI ln)), (3, .int (bI w)), (4, .int (nI i))] → W p l e rmX4_breakOffAll s m args below meth c H locs 0 0 Q (F0 m 3 ls []) := by
    intro d
    induction d with
    | zero =>
      intro i hi  H locs ls hP hS hl
      have hE : i = n := by omega
      try rw [hE] at hP
      try rw [hE] at hl
      obtain ⟨σ1, eσ1⟩ : ∃ z, z = pBA acc ln w n σ := ⟨_, rfl⟩
      have hP : va_P D vwCl (FW (5 * (n + 2)) ad (CC cs n ad σ1)) H := by rw [eσ1]; exact hP
      refine lv_iload hx hb dX4_breakOffAll_3 (lv_at hl 4 rfl) ?_
      refine lv_aload_n hx hb dX4_breakOffAll_5 rfl (lv_at hl 0 rfl) ?_
      refine va_get (D := D) (ci := 4) (v := .ref (ad 1)) (C := RX4) (T := TX4) (N := 7) hx hb hts iwX4_breakOffAll_X4 hown hK hP 0 cc_obj rfl 2 (by decide) (hts _ lkX4_breakOffAll_40) (fun _ h9 => h9) rfl dX4_breakOffAll_6 ?_
      refine va_alen hx hb hK hP 1 1 cc_cor rfl (v := nI n) rfl dX4_breakOffAll_9 ?_
      refine lv_icmp_ge (tgt := 55) hx hb dX4_breakOffAll_10 (by decide) (fun c2 => ?_) (fun c2 => absurd (Int32.le_refl _) c2)
      exact hret _ _ _ () _ _ dX4_breakOffAll_55 hP hS (trivial) (by simp only [eσ1]; first | done | rfl)
    | succ d ih =>
      intro i hi  H locs ls hP hS hl
      have hi2 : i < n := by omega
      obtain ⟨σ3, eσ3⟩ : ∃ z, z = pBA acc ln w i σ := ⟨_, rfl⟩
      have hP : va_P D vwCl (FW (5 * (n + 2)) ad (CC cs n ad σ3)) H := by rw [eσ3]; exact hP
      refine lv_iload hx hb dX4_breakOffAll_3 (lv_at hl 4 rfl) ?_
      refine lv_aload_n hx hb dX4_breakOffAll_5 rfl (lv_at hl 0 rfl) ?_
      refine va_get (D := D) (ci := 4) (v := .ref (ad 1)) (C := RX4) (T := TX4) (N := 7) hx hb hts iwX4_breakOffAll_X4 hown hK hP 0 cc_obj rfl 2 (by decide) (hts _ lkX4_breakOffAll_40) (fun _ h9 => h9) rfl dX4_breakOffAll_6 ?_
      refine va_alen hx hb hK hP 1 1 cc_cor rfl (v := nI n) rfl dX4_breakOffAll_9 ?_
      refine lv_icmp_ge (tgt := 55) hx hb dX4_breakOffAll_10 (by decide) (fun c4 => absurd c4 (nI_ge hi2 hn31)) (fun c4 => ?_)
      refine lv_iload hx hb dX4_breakOffAll_13 (lv_at hl 4 rfl) ?_
      refine lv_iload_n hx hb dX4_breakOffAll_15 rfl (lv_at hl 1 rfl) ?_
      refine lv_icmp_eq (tgt := 49) hx hb dX4_breakOffAll_16 (by decide) (fun c5 => ?_) (fun c5 => ?_)
      · have hst : pBA acc ln w (i + 1) σ = pBA acc ln w i σ := BA_n (fun h => h.1 c5)
        refine lv_iinc (v := nI (i + 1)) (lv' := [(4, .int (nI (i + 1))), (0, .ref (ad 0)), (1, .int acc), (2, .int (nI ln)), (3, .int (bI w))]) hx hb dX4_breakOffAll_49 hl (k := 4) rfl (nI_1 i) (by decide) rfl (fun ls hl => ?_)
        refine lv_goto (tgt := 3) hx hb dX4_breakOffAll_52 (by decide) ?_
        exact ih (i + 1) (by omega)  _ _ _ (by simp only [eσ3] at hP; rw [hst]; exact hP) hS (lv_sub hl [1, 2, 3, 4, 0] rfl)
      · refine lv_aload_n hx hb dX4_breakOffAll_19 rfl (lv_at hl 0 rfl) ?_
        refine va_get (D := D) (ci := 4) (v := .ref (ad 1)) (C := RX4) (T := TX4) (N := 7) hx hb hts iwX4_breakOffAll_X4 hown hK hP 0 cc_obj rfl 2 (by decide) (hts _ lkX4_breakOffAll_40) (fun _ h9 => h9) rfl dX4_breakOffAll_20 ?_
        refine lv_iload hx hb dX4_breakOffAll_23 (lv_at hl 4 rfl) ?_
        refine g_aald (t0 := 1) (v := ad (5 * (i + 2) + 0)) hx hb hK hP cc_cor rfl i rfl hi2 hn31 rfl dX4_breakOffAll_25 ?_
        refine va_get (D := D) (ci := 0) (v := .ref (ad (5 * (i + 2) + 2))) (C := RX0) (T := TX0) (N := 8) hx hb hts iwX4_breakOffAll_X0 hown hK hP (5 * (i + 2) + 0) (cc_core hi2) rfl 2 (by decide) (hts _ lkX4_breakOffAll_74) (fun _ h9 => h9) rfl dX4_breakOffAll_26 ?_
        refine lv_iload_n hx hb dX4_breakOffAll_29 rfl (lv_at hl 2 rfl) ?_
        refine lv_iload_n hx hb dX4_breakOffAll_30 rfl (lv_at hl 3 rfl) ?_
        refine g_cvi (As := [.int (nI ln), .int (bI w)]) ⟨hx, hb, hml, hown, hts⟩ (kX3_touches l D cs n ad σ3 i hi2 ln w) (cwV 2 hts gX4_breakOffAll_X3_touches rfl rfl rfl (by decide +kernel) ⟨Nat.le_of_ble_eq_true rfl, Nat.le_of_ble_eq_true rfl⟩) hK hP hD hS hA (5 * (i + 2) + 2) (ci := 3) rfl rfl (cc_tx hi2) hl.1 dX4_breakOffAll_31 rfl rfl (Nat.le_of_ble_eq_true rfl) ⟨Nat.zero_le _, Nat.zero_le _⟩ (fun r _ H locs hw hP hS => ?_)
        obtain rfl : r = bI (tch σ3 i ln w) := hw
        have hP : va_P D vwCl (FW (5 * (n + 2)) ad (CC cs n ad σ3)) H := hP
        refine lv_if_eq (tgt := 49) hx hb dX4_breakOffAll_34 (by decide) (fun c6 => ?_) (fun c6 => ?_)
        · have hst : pBA acc ln w (i + 1) σ = pBA acc ln w i σ := BA_n (fun h => by have h2 := bI0 c6; simp only [eσ3] at h2; rw [h2] at h; exact absurd h.2 (by decide))
          refine lv_iinc (v := nI (i + 1)) (lv' := [(4, .int (nI (i + 1))), (0, .ref (ad 0)), (1, .int acc), (2, .int (nI ln)), (3, .int (bI w))]) hx hb dX4_breakOffAll_49 hl (k := 4) rfl (nI_1 i) (by decide) rfl (fun ls hl => ?_)
          refine lv_goto (tgt := 3) hx hb dX4_breakOffAll_52 (by decide) ?_
          exact ih (i + 1) (by omega)  _ _ _ (by simp only [eσ3] at hP; rw [hst]; exact hP) hS (lv_sub hl [1, 2, 3, 4, 0] rfl)
        · have hst : pBA acc ln w (i + 1) σ = pBreak (pBA acc ln w i σ) i 4 := BA_y ⟨c5, by have h2 := bI1 c6; simp only [eσ3] at h2; exact h2⟩
          refine lv_aload_n hx hb dX4_breakOffAll_37 rfl (lv_at hl 0 rfl) ?_
          refine lv_aload_n hx hb dX4_breakOffAll_38 rfl (lv_at hl 0 rfl) ?_
          refine va_get (D := D) (ci := 4) (v := .ref (ad 1)) (C := RX4) (T := TX4) (N := 7) hx hb hts iwX4_breakOffAll_X4 hown hK hP 0 cc_obj rfl 2 (by decide) (hts _ lkX4_breakOffAll_40) (fun _ h9 => h9) rfl dX4_breakOffAll_39 ?_
          refine lv_iload hx hb dX4_breakOffAll_42 (lv_at hl 4 rfl) ?_
          refine g_aald (t0 := 1) (v := ad (5 * (i + 2) + 0)) hx hb hK hP cc_cor rfl i rfl hi2 hn31 rfl dX4_breakOffAll_44 ?_
          refine lv_iconst (v := 4) hx hb dX4_breakOffAll_45 (by decide) ?_
          refine g_cvv (As := [.ref (ad (5 * (i + 2) + 0)), .int 4]) ⟨hx, hb, hml, hown, hts⟩ (kX4_breakOff l D cs n ad σ3 i hi2 4 (by simp only [eσ3]; exact okQ_BA hQ i)) (cwV 2 hts gX4_breakOffAll_X4_breakOff rfl rfl rfl (by decide +kernel) ⟨Nat.le_of_ble_eq_true rfl, Nat.le_of_ble_eq_true rfl⟩) hK hP hD hS hA 0 (ci := 4) rfl rfl cc_obj hl.1 dX4_breakOffAll_46 rfl rfl (Nat.le_of_ble_eq_true rfl) ⟨Nat.zero_le _, Nat.zero_le _⟩ (fun _ H locs hw hP hS => ?_)
          obtain ⟨σ7, eσ7⟩ : ∃ z, z = pBreak σ3 i 4 := ⟨_, rfl⟩
          have hP : va_P D vwCl (FW (5 * (n + 2)) ad (CC cs n ad σ7)) H := by rw [eσ7]; exact hP
          refine lv_iinc (v := nI (i + 1)) (lv' := [(4, .int (nI (i + 1))), (0, .ref (ad 0)), (1, .int acc), (2, .int (nI ln)), (3, .int (bI w))]) hx hb dX4_breakOffAll_49 hl (k := 4) rfl (nI_1 i) (by decide) rfl (fun ls hl => ?_)
          refine lv_goto (tgt := 3) hx hb dX4_breakOffAll_52 (by decide) ?_
          exact ih (i + 1) (by omega)  _ _ _ (by simp only [eσ7, eσ3] at hP; rw [hst]; exact hP) hS (lv_sub hl [1, 2, 3, 4, 0] rfl)
  exact loop (n) 0 (by omega)  _ _ _ (hP) hS (lv_sub hl [1, 2, 3, 4, 0] rfl)

theorem iwX4_mayAccess_X0 : ∀ w ∈ wsX00, w ∈ wsX4_mayAccess := fun w h => by unfold wsX4_mayAccess; simp only [List.mem_cons, List.mem_append, h, true_or, or_true]
theorem iwX4_mayAccess_X3 : ∀ w ∈ wsX30, w ∈ wsX4_mayAccess := fun w h => by unfold wsX4_mayAccess; simp only [List.mem_cons, List.mem_append, h, true_or, or_true]
theorem iwX4_mayAccess_X4 : ∀ w ∈ wsX40, w ∈ wsX4_mayAccess := fun w h => by unfold wsX4_mayAccess; simp only [List.mem_cons, List.mem_append, h, true_or, or_true]
theorem lkX4_mayAccess_31 : Cond.fieldLink RX4 31 "CoreTransactions" "sets" "I" ∈ wsX4_mayAccess := by decide +kernel
theorem lkX4_mayAccess_35 : Cond.fieldLink RX4 35 "CoreTransactions" "ways" "I" ∈ wsX4_mayAccess := by decide +kernel
theorem lkX4_mayAccess_74 : Cond.fieldLink RX4 74 "CoreTransactions$Core" "transaction" "LCoreTransactions$Transaction;" ∈ wsX4_mayAccess := by decide +kernel
theorem lkX4_mayAccess_186 : Cond.fieldLink RX4 186 "CoreTransactions$Transaction" "depth" "I" ∈ wsX4_mayAccess := by decide +kernel
theorem lkX4_mayAccess_210 : Cond.fieldLink RX4 210 "CoreTransactions$Core" "number" "I" ∈ wsX4_mayAccess := by decide +kernel
abbrev rmX4_mayAccess : Room := ({ frames := 3, cells := 0, slots := 0, locals := 107 } : Room)
set_option maxRecDepth 100000 in
set_option maxHeartbeats 4000000 in
theorem kX4_mayAccess (l : Launch) (D : va_G) (cs : Nat → ClassId) (n : Nat) (ad : Nat → Nat) (σ : St) (k : Nat) (hk : k < n) (hn31 : n < 2 ^ 31) (x : Int32) (w : Bool) (hQ : okQ σ) (hSt : okS σ) : gMi l yX4_mayAccess wsX4_mayAccess rmX4_mayAccess D (tyL cs) (5 * (n + 2)) ad (CC cs n ad σ) [.ref (ad 0), .ref (ad (5 * (k + 2) + 0)), .int x, .int (bI w)] (fun (r : Int32) (u : Unit) => r = bI (pMay σ n k x w).2) (fun (u : Unit) => CC cs n ad (pMay σ n k x w).1) := by
  refine g_ofz (cc := cX4_mayAccess) (maxL := 5) (by decide) rfl (Nat.le_of_ble_eq_true rfl) rfl rfl ?_
  intro p e s m args below meth c A ls Q hx hb hml hts hown hK hP hD hA hS hl hret
  have hl : lv_has ls 5 [(0, .ref (ad 0)), (1, .ref (ad (5 * (k + 2) + 0))), (2, .int x), (3, .int (bI w))] := hl
  obtain ⟨q2, hq2, hq2e⟩ := hSt
  refine lv_iload_n hx hb dX4_mayAccess_0 rfl (lv_at hl 2 rfl) ?_
  refine g_csi (As := [.int x]) ⟨hx, hb, hml, hown, hts⟩ (kX4_isWord l D cs n ad σ x) (va_cwS 1 hts gX4_mayAccess_X4_isWord rfl rfl rfl (by decide +kernel) ⟨Nat.le_of_ble_eq_true rfl, Nat.le_of_ble_eq_true rfl⟩) hK hP hD hS hA hl.1 dX4_mayAccess_1 rfl rfl (Nat.le_of_ble_eq_true rfl) ⟨Nat.zero_le _, Nat.zero_le _⟩ (fun r _ H locs hw hP hS => ?_)
  obtain rfl : r = bI (decide (0 ≤ x ∧ x < 64)) := hw
  have hP : va_P D vwCl (FW (5 * (n + 2)) ad (CC cs n ad σ)) H := hP
  refine lv_if_ne (tgt := 14) hx hb dX4_mayAccess_4 (by decide) (fun c1 => ?_) (fun c1 => ?_)
  · have hx0 : 0 ≤ x ∧ x < 64 := of_decide_eq_true (bI1 c1)
    obtain ⟨j, hj, hxj⟩ := i32_of (N := 64) (by decide) hx0.1 hx0.2
    refine lv_iload_n hx hb dX4_mayAccess_14 rfl (lv_at hl 2 rfl) ?_
    refine lv_iconst (v := 4) hx hb dX4_mayAccess_15 (by decide) ?_
    refine lv_idiv hx hb dX4_mayAccess_16 (by decide) ?_
    refine g_top (y := nI (j / 4)) (by rw [hxj]; exact pk_div (a := j) (d := 4) (by omega) (by decide) (by decide)) ?_
    refine lv_istore (lv' := [(4, .int (nI (j / 4))), (0, .ref (ad 0)), (1, .ref (ad (5 * (k + 2) + 0))), (2, .int x), (3, .int (bI w))]) hx hb dX4_mayAccess_17 hl (by decide) rfl (fun ls hl => ?_)
    refine lv_aload_n hx hb dX4_mayAccess_19 rfl (lv_at hl 1 rfl) ?_
    refine lv_aload_n hx hb dX4_mayAccess_20 rfl (lv_at hl 2 rfl) ?_
    refine lv_iload hx hb dX4_mayAccess_21 (lv_at hl 0 rfl) ?_
    refine lv_iload_n hx hb dX4_mayAccess_23 rfl (lv_at hl 4 rfl) ?_
    refine g_cvi (As := [.ref (ad (5 * (k + 2) + 0)), .int (nI (j / 4)), .int (bI w)]) ⟨hx, hb, hml, hown, hts⟩ (kX4_meetsOlder l D cs n ad σ k hk hn31 (j / 4) w) (cwV 3 hts gX4_mayAccess_X4_meetsOlder rfl rfl rfl (by decide +kernel) ⟨Nat.le_of_ble_eq_true rfl, Nat.le_of_ble_eq_true rfl⟩) hK hP hD hS hA 0 (ci := 4) rfl rfl cc_obj hl.1 dX4_mayAccess_24 rfl rfl (Nat.le_of_ble_eq_true rfl) ⟨Nat.zero_le _, Nat.zero_le _⟩ (fun r _ H locs hw hP hS => ?_)
    obtain rfl : r = bI (mOld σ k (j / 4) w n) := hw
    have hP : va_P D vwCl (FW (5 * (n + 2)) ad (CC cs n ad σ)) H := hP
    refine lv_if_eq (tgt := 38) hx hb dX4_mayAccess_27 (by decide) (fun c2 => ?_) (fun c2 => ?_)
    · have hmo : ¬ mOld σ k (j / 4) w n = true := by rw [bI0 c2]; decide
      refine lv_aload_n hx hb dX4_mayAccess_38 rfl (lv_at hl 1 rfl) ?_
      refine lv_aload_n hx hb dX4_mayAccess_39 rfl (lv_at hl 2 rfl) ?_
      refine va_get (D := D) (ci := 0) (v := .int (nI k)) (C := RX0) (T := TX0) (N := 8) hx hb hts iwX4_mayAccess_X0 hown hK hP (5 * (k + 2) + 0) (cc_core hk) rfl 0 (by decide) (hts _ lkX4_mayAccess_210) (fun _ h9 => h9) rfl dX4_mayAccess_40 ?_
      refine lv_iload hx hb dX4_mayAccess_43 (lv_at hl 0 rfl) ?_
      refine lv_iload_n hx hb dX4_mayAccess_45 rfl (lv_at hl 4 rfl) ?_
      refine g_cvv (As := [.int (nI k), .int (nI (j / 4)), .int (bI w)]) ⟨hx, hb, hml, hown, hts⟩ (kX4_breakOffAll l D cs n ad σ hn31 (nI k) (j / 4) w hQ) (cwV 3 hts gX4_mayAccess_X4_breakOffAll rfl rfl rfl (by decide +kernel) ⟨Nat.le_of_ble_eq_true rfl, Nat.le_of_ble_eq_true rfl⟩) hK hP hD hS hA 0 (ci := 4) rfl rfl cc_obj hl.1 dX4_mayAccess_46 rfl rfl (Nat.le_of_ble_eq_true rfl) ⟨Nat.zero_le _, Nat.zero_le _⟩ (fun _ H locs hw hP hS => ?_)
      obtain ⟨σ3, eσ3⟩ : ∃ z, z = pBA (nI k) (j / 4) w n σ := ⟨_, rfl⟩
      have hP : va_P D vwCl (FW (5 * (n + 2)) ad (CC cs n ad σ3)) H := by rw [eσ3]; exact hP
      refine lv_aload_n hx hb dX4_mayAccess_49 rfl (lv_at hl 2 rfl) ?_
      refine va_get (D := D) (ci := 0) (v := .ref (ad (5 * (k + 2) + 2))) (C := RX0) (T := TX0) (N := 8) hx hb hts iwX4_mayAccess_X0 hown hK hP (5 * (k + 2) + 0) (cc_core hk) rfl 2 (by decide) (hts _ lkX4_mayAccess_74) (fun _ h9 => h9) rfl dX4_mayAccess_50 ?_
      refine va_get (D := D) (ci := 3) (v := .int (σ3.1 18 k 0)) (C := RX3) (T := TX3) (N := 9) hx hb hts iwX4_mayAccess_X3 hown hK hP (5 * (k + 2) + 2) (cc_tx hk) rfl 2 (by decide) (hts _ lkX4_mayAccess_186) (fun _ h9 => h9) rfl dX4_mayAccess_53 ?_
      refine lv_if_ne (tgt := 61) hx hb dX4_mayAccess_56 (by decide) (fun c4 => ?_) (fun c4 => ?_)
      · simp only [eσ3] at c4
        refine lv_aload_n hx hb dX4_mayAccess_61 rfl (lv_at hl 2 rfl) ?_
        refine va_get (D := D) (ci := 0) (v := .ref (ad (5 * (k + 2) + 2))) (C := RX0) (T := TX0) (N := 8) hx hb hts iwX4_mayAccess_X0 hown hK hP (5 * (k + 2) + 0) (cc_core hk) rfl 2 (by decide) (hts _ lkX4_mayAccess_74) (fun _ h9 => h9) rfl dX4_mayAccess_62 ?_
        refine lv_iload hx hb dX4_mayAccess_65 (lv_at hl 0 rfl) ?_
        refine lv_iload_n hx hb dX4_mayAccess_67 rfl (lv_at hl 4 rfl) ?_
        refine g_cvv (As := [.int (nI (j / 4)), .int (bI w)]) ⟨hx, hb, hml, hown, hts⟩ (kX3_mark l D cs n ad σ3 k hk (j / 4) w) (cwV 2 hts gX4_mayAccess_X3_mark rfl rfl rfl (by decide +kernel) ⟨Nat.le_of_ble_eq_true rfl, Nat.le_of_ble_eq_true rfl⟩) hK hP hD hS hA (5 * (k + 2) + 2) (ci := 3) rfl rfl (cc_tx hk) hl.1 dX4_mayAccess_68 rfl rfl (Nat.le_of_ble_eq_true rfl) ⟨Nat.zero_le _, Nat.zero_le _⟩ (fun _ H locs hw hP hS => ?_)
        obtain ⟨σ5, eσ5⟩ : ∃ z, z = pMark σ3 k (j / 4) w := ⟨_, rfl⟩
        have hP : va_P D vwCl (FW (5 * (n + 2)) ad (CC cs n ad σ5)) H := by rw [eσ5]; exact hP
        refine lv_aload_n hx hb dX4_mayAccess_71 rfl (lv_at hl 2 rfl) ?_
        refine va_get (D := D) (ci := 0) (v := .ref (ad (5 * (k + 2) + 2))) (C := RX0) (T := TX0) (N := 8) hx hb hts iwX4_mayAccess_X0 hown hK hP (5 * (k + 2) + 0) (cc_core hk) rfl 2 (by decide) (hts _ lkX4_mayAccess_74) (fun _ h9 => h9) rfl dX4_mayAccess_72 ?_
        refine lv_iload hx hb dX4_mayAccess_75 (lv_at hl 0 rfl) ?_
        refine lv_aload_n hx hb dX4_mayAccess_77 rfl (lv_at hl 1 rfl) ?_
        refine va_get (D := D) (ci := 4) (v := .int (σ5.1 27 0 0)) (C := RX4) (T := TX4) (N := 7) hx hb hts iwX4_mayAccess_X4 hown hK hP 0 cc_obj rfl 0 (by decide) (hts _ lkX4_mayAccess_31) (fun _ h9 => h9) rfl dX4_mayAccess_78 ?_
        refine g_top (y := nI q2) (by simp only [eσ5, eσ3]; rw [pMark_at (by decide) (by decide), pBA_at (by decide) (by decide) (by decide) (by decide) (Or.inr (by decide))]; exact hq2e) ?_
        refine lv_irem hx hb dX4_mayAccess_81 (nI_ne0 (by omega) (by omega)) ?_
        refine g_top (y := nI (j / 4 % q2)) (pk_rem (by omega) (by omega) (by omega)) ?_
        refine lv_aload_n hx hb dX4_mayAccess_82 rfl (lv_at hl 1 rfl) ?_
        refine va_get (D := D) (ci := 4) (v := .int (σ5.1 27 0 0)) (C := RX4) (T := TX4) (N := 7) hx hb hts iwX4_mayAccess_X4 hown hK hP 0 cc_obj rfl 0 (by decide) (hts _ lkX4_mayAccess_31) (fun _ h9 => h9) rfl dX4_mayAccess_83 ?_
        refine g_top (y := nI q2) (by simp only [eσ5, eσ3]; rw [pMark_at (by decide) (by decide), pBA_at (by decide) (by decide) (by decide) (by decide) (Or.inr (by decide))]; exact hq2e) ?_
        refine g_cvi (As := [.int (nI (j / 4 % q2)), .int (nI q2)]) ⟨hx, hb, hml, hown, hts⟩ (kX3_linesInSet l D cs n ad σ5 k hk (j / 4 % q2) q2 (by omega) (by omega) (by have := Nat.mod_lt (j / 4) (show 0 < q2 by omega); omega)) (cwV 2 hts gX4_mayAccess_X3_linesInSet rfl rfl rfl (by decide +kernel) ⟨Nat.le_of_ble_eq_true rfl, Nat.le_of_ble_eq_true rfl⟩) hK hP hD hS hA (5 * (k + 2) + 2) (ci := 3) rfl rfl (cc_tx hk) hl.1 dX4_mayAccess_86 rfl rfl (Nat.le_of_ble_eq_true rfl) ⟨Nat.zero_le _, Nat.zero_le _⟩ (fun r _ H locs hw hP hS => ?_)
        obtain rfl : r = nI (cntL σ5 k q2 (j / 4 % q2) 16) := hw
        have hP : va_P D vwCl (FW (5 * (n + 2)) ad (CC cs n ad σ5)) H := hP
        refine lv_aload_n hx hb dX4_mayAccess_89 rfl (lv_at hl 1 rfl) ?_
        refine va_get (D := D) (ci := 4) (v := .int (σ5.1 28 0 0)) (C := RX4) (T := TX4) (N := 7) hx hb hts iwX4_mayAccess_X4 hown hK hP 0 cc_obj rfl 1 (by decide) (hts _ lkX4_mayAccess_35) (fun _ h9 => h9) rfl dX4_mayAccess_90 ?_
        refine lv_icmp_le (tgt := 104) hx hb dX4_mayAccess_93 (by decide) (fun c6 => ?_) (fun c6 => ?_)
        · simp only [eσ5, eσ3] at c6
          rw [pMark_at (by decide) (by decide), pBA_at (by decide) (by decide) (by decide) (by decide) (Or.inr (by decide))] at c6
          have hpm : pMay σ n k x w = (pMark (pBA (nI k) (j / 4) w n σ) k (j / 4) w, true) := by rw [hxj, pMay_in hj, if_neg hmo, if_neg c4, hq2e, iN_nI (show q2 < 2 ^ 31 by omega), if_neg (Int32.not_lt.mpr c6)]
          refine lv_iconst (v := 1) hx hb dX4_mayAccess_104 (by decide) ?_
          exact hret _ _ _ _ () _ _ dX4_mayAccess_105 hP hS (Or.inr rfl) (by rw [hpm]; rfl) (by rw [hpm]; simp only [eσ5, eσ3]; first | done | rfl)
        · simp only [eσ5, eσ3] at c6
          rw [pMark_at (by decide) (by decide), pBA_at (by decide) (by decide) (by decide) (by decide) (Or.inr (by decide))] at c6
          have hpm : pMay σ n k x w = (pBreak (pMark (pBA (nI k) (j / 4) w n σ) k (j / 4) w) k 3, false) := by rw [hxj, pMay_in hj, if_neg hmo, if_neg c4, hq2e, iN_nI (show q2 < 2 ^ 31 by omega), if_pos (Int32.not_le.mp c6)]
          refine lv_aload_n hx hb dX4_mayAccess_96 rfl (lv_at hl 1 rfl) ?_
          refine lv_aload_n hx hb dX4_mayAccess_97 rfl (lv_at hl 2 rfl) ?_
          refine lv_iconst (v := 3) hx hb dX4_mayAccess_98 (by decide) ?_
          refine g_cvv (As := [.ref (ad (5 * (k + 2) + 0)), .int 3]) ⟨hx, hb, hml, hown, hts⟩ (kX4_breakOff l D cs n ad σ5 k hk 3 (by simp only [eσ5, eσ3]; exact okQ_of (okQ_BA hQ n) (pMark_at (by decide) (by decide)) (pMark_at (by decide) (by decide)))) (cwV 2 hts gX4_mayAccess_X4_breakOff rfl rfl rfl (by decide +kernel) ⟨Nat.le_of_ble_eq_true rfl, Nat.le_of_ble_eq_true rfl⟩) hK hP hD hS hA 0 (ci := 4) rfl rfl cc_obj hl.1 dX4_mayAccess_99 rfl rfl (Nat.le_of_ble_eq_true rfl) ⟨Nat.zero_le _, Nat.zero_le _⟩ (fun _ H locs hw hP hS => ?_)
          obtain ⟨σ7, eσ7⟩ : ∃ z, z = pBreak σ5 k 3 := ⟨_, rfl⟩
          have hP : va_P D vwCl (FW (5 * (n + 2)) ad (CC cs n ad σ7)) H := by rw [eσ7]; exact hP
          refine lv_iconst (v := 0) hx hb dX4_mayAccess_102 (by decide) ?_
          exact hret _ _ _ _ () _ _ dX4_mayAccess_103 hP hS (Or.inl rfl) (by rw [hpm]; rfl) (by rw [hpm]; simp only [eσ7, eσ5, eσ3]; first | done | rfl)
      · simp only [eσ3] at c4
        have hpm : pMay σ n k x w = (pBA (nI k) (j / 4) w n σ, true) := by rw [hxj, pMay_in hj, if_neg hmo, if_pos c4]
        refine lv_iconst (v := 1) hx hb dX4_mayAccess_59 (by decide) ?_
        exact hret _ _ _ _ () _ _ dX4_mayAccess_60 hP hS (Or.inr rfl) (by rw [hpm]; rfl) (by rw [hpm]; simp only [eσ3]; first | done | rfl)
    · have hmo : mOld σ k (j / 4) w n = true := bI1 c2
      have hpm : pMay σ n k x w = (pBreak σ k 4, false) := by rw [hxj, pMay_in hj, if_pos hmo]
      refine lv_aload_n hx hb dX4_mayAccess_30 rfl (lv_at hl 1 rfl) ?_
      refine lv_aload_n hx hb dX4_mayAccess_31 rfl (lv_at hl 2 rfl) ?_
      refine lv_iconst (v := 4) hx hb dX4_mayAccess_32 (by decide) ?_
      refine g_cvv (As := [.ref (ad (5 * (k + 2) + 0)), .int 4]) ⟨hx, hb, hml, hown, hts⟩ (kX4_breakOff l D cs n ad σ k hk 4 hQ) (cwV 2 hts gX4_mayAccess_X4_breakOff rfl rfl rfl (by decide +kernel) ⟨Nat.le_of_ble_eq_true rfl, Nat.le_of_ble_eq_true rfl⟩) hK hP hD hS hA 0 (ci := 4) rfl rfl cc_obj hl.1 dX4_mayAccess_33 rfl rfl (Nat.le_of_ble_eq_true rfl) ⟨Nat.zero_le _, Nat.zero_le _⟩ (fun _ H locs hw hP hS => ?_)
      obtain ⟨σ8, eσ8⟩ : ∃ z, z = pBreak σ k 4 := ⟨_, rfl⟩
      have hP : va_P D vwCl (FW (5 * (n + 2)) ad (CC cs n ad σ8)) H := by rw [eσ8]; exact hP
      refine lv_iconst (v := 0) hx hb dX4_mayAccess_36 (by decide) ?_
      exact hret _ _ _ _ () _ _ dX4_mayAccess_37 hP hS (Or.inl rfl) (by rw [hpm]; rfl) (by rw [hpm]; simp only [eσ8]; first | done | rfl)
  · have hpm : pMay σ n k x w = (pFault σ k, false) := pMay_out (of_decide_eq_false (bI0 c1))
    refine lv_aload_n hx hb dX4_mayAccess_7 rfl (lv_at hl 0 rfl) ?_
    refine lv_aload_n hx hb dX4_mayAccess_8 rfl (lv_at hl 1 rfl) ?_
    refine g_cvv (As := [.ref (ad (5 * (k + 2) + 0))]) ⟨hx, hb, hml, hown, hts⟩ (kX4_fault l D cs n ad σ k hk hQ) (cwV 1 hts gX4_mayAccess_X4_fault rfl rfl rfl (by decide +kernel) ⟨Nat.le_of_ble_eq_true rfl, Nat.le_of_ble_eq_true rfl⟩) hK hP hD hS hA 0 (ci := 4) rfl rfl cc_obj hl.1 dX4_mayAccess_9 rfl rfl (Nat.le_of_ble_eq_true rfl) ⟨Nat.zero_le _, Nat.zero_le _⟩ (fun _ H locs hw hP hS => ?_)
    obtain ⟨σ9, eσ9⟩ : ∃ z, z = pFault σ k := ⟨_, rfl⟩
    have hP : va_P D vwCl (FW (5 * (n + 2)) ad (CC cs n ad σ9)) H := by rw [eσ9]; exact hP
    refine lv_iconst (v := 0) hx hb dX4_mayAccess_12 (by decide) ?_
    exact hret _ _ _ _ () _ _ dX4_mayAccess_13 hP hS (Or.inl rfl) (by rw [hpm]; rfl) (by rw [hpm]; simp only [eσ9]; first | done | rfl)
