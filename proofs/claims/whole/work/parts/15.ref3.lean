/-! the reference: an instruction, a step -/
theorem iwX5_sees_X5 : ∀ w ∈ wsX50, w ∈ wsX5_sees := fun w h => by unfold wsX5_sees; simp only [List.mem_cons, List.mem_append, h, true_or, or_true]
theorem lkX5_sees_7 : Cond.fieldLink RX5 7 "CoreTransactionsModel" "memory" "[I" ∈ wsX5_sees := by decide +kernel
theorem lkX5_sees_59 : Cond.fieldLink RX5 59 "CoreTransactionsModel" "stores" "[J" ∈ wsX5_sees := by decide +kernel
theorem lkX5_sees_63 : Cond.fieldLink RX5 63 "CoreTransactionsModel" "stored" "[I" ∈ wsX5_sees := by decide +kernel
abbrev rmX5_sees : Room := ({ frames := 0, cells := 0, slots := 0, locals := 0 } : Room)
set_option maxRecDepth 100000 in
set_option maxHeartbeats 4000000 in
theorem kX5_sees (l : Launch) (D : va_G) (cs : Nat → ClassId) (n : Nat) (ad : Nat → Nat) (th nx : Int32) (σ : St) (k : Nat) (hk4 : k < 4) (j : Nat) (hj : j < 64) : gMi l yX5_sees wsX5_sees rmX5_sees D (tyL cs) 22 ad (CR cs n ad th nx σ) [.ref (ad 0), .int (nI k), .int (nI j)] (fun (r : Int32) (u : Unit) => r = pSeen σ k j) (fun (u : Unit) => CR cs n ad th nx σ) := by
  refine g_ofi (cc := cX5_sees) (maxL := 3) (by decide) rfl (Nat.le_of_ble_eq_true rfl) rfl rfl ?_
  intro p e s m args below meth c A ls Q hx hb hml hts hown hK hP hD hA hS hl hret
  have hl : lv_has ls 3 [(0, .ref (ad 0)), (1, .int (nI k)), (2, .int (nI j))] := hl
  refine lv_aload_n hx hb dX5_sees_0 rfl (lv_at hl 0 rfl) ?_
  refine va_get (D := D) (ci := 5) (v := .ref (ad 17)) (C := RX5) (T := TX5) (N := 29) hx hb hts iwX5_sees_X5 hown hK hP 0 cr_obj rfl 21 (by decide) (hts _ lkX5_sees_59) (fun _ h9 => h9) rfl dX5_sees_1 ?_
  refine lv_iload_n hx hb dX5_sees_4 rfl (lv_at hl 1 rfl) ?_
  refine g_lald (t0 := 2) (v := σ.2 k) hx hb hK hP cr_stores rfl k rfl hk4 (by decide) rfl dX5_sees_5 ?_
  refine lv_iload_n hx hb dX5_sees_6 rfl (lv_at hl 2 rfl) ?_
  refine lv_lshr (v := (σ.2 k) >>> ((nI j).toInt64 &&& 63)) hx hb dX5_sees_7 rfl ?_
  refine lv_lconst (v := 1) hx hb dX5_sees_8 (by decide) ?_
  refine lv_land hx hb dX5_sees_9 ?_
  refine lv_lconst (v := 1) hx hb dX5_sees_10 (by decide) ?_
  refine W.lcmp hx hb dX5_sees_11 ?_
  refine lv_if_ne (tgt := 29) hx hb dX5_sees_12 (by decide) (fun c1 => ?_) (fun c1 => ?_)
  · have hmm : hasS σ k j = false := decide_eq_false (lcmp_n c1)
    refine lv_aload_n hx hb dX5_sees_29 rfl (lv_at hl 0 rfl) ?_
    refine va_get (D := D) (ci := 5) (v := .ref (ad 1)) (C := RX5) (T := TX5) (N := 29) hx hb hts iwX5_sees_X5 hown hK hP 0 cr_obj rfl 4 (by decide) (hts _ lkX5_sees_7) (fun _ h9 => h9) rfl dX5_sees_30 ?_
    refine lv_iload_n hx hb dX5_sees_33 rfl (lv_at hl 2 rfl) ?_
    refine g_iald (t0 := 0) (v := σ.1 0 0 j) hx hb hK hP cr_mem rfl j rfl hj (by decide) rfl dX5_sees_34 ?_
    exact hret _ _ _ _ () _ _ dX5_sees_35 hP hS (by simp [pSeen, hmm]) (rfl)
  · have hmm : hasS σ k j = true := decide_eq_true (lcmp_1 c1)
    refine lv_aload_n hx hb dX5_sees_15 rfl (lv_at hl 0 rfl) ?_
    refine va_get (D := D) (ci := 5) (v := .ref (ad 18)) (C := RX5) (T := TX5) (N := 29) hx hb hts iwX5_sees_X5 hown hK hP 0 cr_obj rfl 22 (by decide) (hts _ lkX5_sees_63) (fun _ h9 => h9) rfl dX5_sees_16 ?_
    refine lv_bipush (v := 64) hx hb dX5_sees_19 (by decide) ?_
    refine lv_iload_n hx hb dX5_sees_21 rfl (lv_at hl 1 rfl) ?_
    refine lv_imul hx hb dX5_sees_22 ?_
    refine g_top (y := nI (64 * k)) (nI_64 k) ?_
    refine lv_iload_n hx hb dX5_sees_23 rfl (lv_at hl 2 rfl) ?_
    refine lv_iadd hx hb dX5_sees_24 ?_
    refine g_top (y := nI (64 * k + j)) (nI_add _ _) ?_
    refine g_iald (t0 := 0) (v := σ.1 12 k j) hx hb hK hP cr_stored rfl (64 * k + j) rfl (by omega) (by decide) (congr (congrArg (σ.1 12) (q64 hj).1) (q64 hj).2) dX5_sees_25 ?_
    refine lv_goto (tgt := 35) hx hb dX5_sees_26 (by decide) ?_
    exact hret _ _ _ _ () _ _ dX5_sees_35 hP hS (by simp [pSeen, hmm]) (rfl)

theorem iwX5_commit_X5 : ∀ w ∈ wsX50, w ∈ wsX5_commit := fun w h => by unfold wsX5_commit; simp only [List.mem_cons, List.mem_append, h, true_or, or_true]
theorem lkX5_commit_7 : Cond.fieldLink RX5 7 "CoreTransactionsModel" "memory" "[I" ∈ wsX5_commit := by decide +kernel
theorem lkX5_commit_66 : Cond.fieldLink RX5 66 "CoreTransactionsModel" "committed" "[I" ∈ wsX5_commit := by decide +kernel
abbrev rmX5_commit : Room := ({ frames := 1, cells := 0, slots := 0, locals := 22 } : Room)
set_option maxRecDepth 100000 in
set_option maxHeartbeats 4000000 in
theorem kX5_commit (l : Launch) (D : va_G) (cs : Nat → ClassId) (n : Nat) (ad : Nat → Nat) (th nx : Int32) (σ : St) (k : Nat) (hk4 : k < 4) : gMv l yX5_commit wsX5_commit rmX5_commit D (tyL cs) 22 ad (CR cs n ad th nx σ) [.ref (ad 0), .int (nI k)] (fun (u : Unit) => True) (fun (u : Unit) => CR cs n ad th nx (put (pClose (pMemo σ k 64) k) 16 k 0 (σ.1 16 k 0 + 1))) := by
  refine g_ofv (cc := cX5_commit) (maxL := 3) (by decide) rfl (Nat.le_of_ble_eq_true rfl) rfl rfl ?_
  intro p e s m args below meth c A ls Q hx hb hml hts hown hK hP hD hA hS hl hret
  have hl : lv_has ls 3 [(0, .ref (ad 0)), (1, .int (nI k))] := hl
  refine lv_iconst (v := 0) hx hb dX5_commit_0 (by decide) ?_
  refine lv_istore_n (lv' := [(2, .int 0), (0, .ref (ad 0)), (1, .int (nI k))]) hx hb dX5_commit_1 rfl hl (by decide) rfl (fun ls hl => ?_)
  have loop : ∀ (d i : Nat), i + d = 64 →  ∀ (H : Heap) (locs : List Loc) (ls : Array Slot), va_P D vwCl (FW 22 ad (CR cs n ad th nx (pMemo σ k i))) H → va_S A s.heap H locs → lv_has ls 3 [(0, .ref (ad 0)), (1, .int (nI k)), (2, .int (nI i))] → W p l e rmX5_commit s m args below meth c H locs 0 0 Q (F0 m 2 ls []) := by
    intro d
    induction d with
    | zero =>
      intro i hi  H locs ls hP hS hl
      obtain rfl : i = 64 := by omega
      obtain ⟨σ1, eσ1⟩ : ∃ z, z = pMemo σ k 64 := ⟨_, rfl⟩
      have hP : va_P D vwCl (FW 22 ad (CR cs n ad th nx σ1)) H := by rw [eσ1]; exact hP
      refine lv_iload_n hx hb dX5_commit_2 rfl (lv_at hl 2 rfl) ?_
      refine lv_bipush (v := 64) hx hb dX5_commit_3 (by decide) ?_
      refine lv_icmp_ge (tgt := 26) hx hb dX5_commit_5 (by decide) (fun c2 => ?_) (fun c2 => absurd (show (64 : Int32) ≤ nI 64 from Int32.le_refl _) c2)
      refine lv_aload_n hx hb dX5_commit_26 rfl (lv_at hl 0 rfl) ?_
      refine va_get (D := D) (ci := 5) (v := .ref (ad 19)) (C := RX5) (T := TX5) (N := 29) hx hb hts iwX5_commit_X5 hown hK hP 0 cr_obj rfl 23 (by decide) (hts _ lkX5_commit_66) (fun _ h9 => h9) rfl dX5_commit_27 ?_
      refine lv_iload_n hx hb dX5_commit_30 rfl (lv_at hl 1 rfl) ?_
      refine lv_dup2_11 hx hb dX5_commit_31 rfl rfl ?_
      refine g_iald (t0 := 0) (v := σ1.1 16 k 0) hx hb hK hP cr_committed rfl k rfl hk4 (by decide) rfl dX5_commit_32 ?_
      refine lv_iconst (v := 1) hx hb dX5_commit_33 (by decide) ?_
      refine lv_iadd hx hb dX5_commit_34 ?_
      refine g_iast (t0 := 0) hx hb hK hP hD hS cr_committed rfl k rfl hk4 (by decide) dX5_commit_35 (fun H locs hP hS => ?_)
      obtain ⟨σ3, eσ3⟩ : ∃ z, z = put σ1 16 k 0 ((σ1.1 16 k 0) + 1) := ⟨_, rfl⟩
      have hP : va_P D vwCl (FW 22 ad (CR cs n ad th nx σ3)) H := by rw [eσ3]; exact cru_committed hP
      refine lv_aload_n hx hb dX5_commit_36 rfl (lv_at hl 0 rfl) ?_
      refine lv_iload_n hx hb dX5_commit_37 rfl (lv_at hl 1 rfl) ?_
      refine g_cvv (As := [.int (nI k)]) ⟨hx, hb, hml, hown, hts⟩ (kX5_leave l D cs n ad th nx σ3 k hk4) (cwV 1 hts gX5_commit_X5_leave rfl rfl rfl (by decide +kernel) ⟨Nat.le_of_ble_eq_true rfl, Nat.le_of_ble_eq_true rfl⟩) hK hP hD hS hA 0 (ci := 5) rfl rfl cr_obj hl.1 dX5_commit_38 rfl rfl (Nat.le_of_ble_eq_true rfl) ⟨Nat.zero_le _, Nat.zero_le _⟩ (fun _ H locs hw hP hS => ?_)
      obtain ⟨σ4, eσ4⟩ : ∃ z, z = pClose σ3 k := ⟨_, rfl⟩
      have hP : va_P D vwCl (FW 22 ad (CR cs n ad th nx σ4)) H := by rw [eσ4]; exact hP
      exact hret _ _ _ () _ _ dX5_commit_41 hP hS (trivial) (by simp only [eσ4, eσ3, eσ1]; rw [pClose_put (by decide)]; rfl)
    | succ d ih =>
      intro i hi  H locs ls hP hS hl
      have hi2 : i < 64 := by omega
      obtain ⟨σ5, eσ5⟩ : ∃ z, z = pMemo σ k i := ⟨_, rfl⟩
      have hP : va_P D vwCl (FW 22 ad (CR cs n ad th nx σ5)) H := by rw [eσ5]; exact hP
      refine lv_iload_n hx hb dX5_commit_2 rfl (lv_at hl 2 rfl) ?_
      refine lv_bipush (v := 64) hx hb dX5_commit_3 (by decide) ?_
      refine lv_icmp_ge (tgt := 26) hx hb dX5_commit_5 (by decide) (fun c6 => absurd c6 (nI_ge hi2 (show 64 < 2 ^ 31 by decide))) (fun c6 => ?_)
      refine lv_aload_n hx hb dX5_commit_8 rfl (lv_at hl 0 rfl) ?_
      refine va_get (D := D) (ci := 5) (v := .ref (ad 1)) (C := RX5) (T := TX5) (N := 29) hx hb hts iwX5_commit_X5 hown hK hP 0 cr_obj rfl 4 (by decide) (hts _ lkX5_commit_7) (fun _ h9 => h9) rfl dX5_commit_9 ?_
      refine lv_iload_n hx hb dX5_commit_12 rfl (lv_at hl 2 rfl) ?_
      refine lv_aload_n hx hb dX5_commit_13 rfl (lv_at hl 0 rfl) ?_
      refine lv_iload_n hx hb dX5_commit_14 rfl (lv_at hl 1 rfl) ?_
      refine lv_iload_n hx hb dX5_commit_15 rfl (lv_at hl 2 rfl) ?_
      refine g_cvi (As := [.int (nI k), .int (nI i)]) ⟨hx, hb, hml, hown, hts⟩ (kX5_sees l D cs n ad th nx σ5 k hk4 i hi2) (cwV 2 hts gX5_commit_X5_sees rfl rfl rfl (by decide +kernel) ⟨Nat.le_of_ble_eq_true rfl, Nat.le_of_ble_eq_true rfl⟩) hK hP hD hS hA 0 (ci := 5) rfl rfl cr_obj hl.1 dX5_commit_16 rfl rfl (Nat.le_of_ble_eq_true rfl) ⟨Nat.zero_le _, Nat.zero_le _⟩ (fun r _ H locs hw hP hS => ?_)
      obtain rfl : r = pSeen σ5 k i := hw
      have hP : va_P D vwCl (FW 22 ad (CR cs n ad th nx σ5)) H := hP
      refine g_iast (t0 := 0) hx hb hK hP hD hS cr_mem rfl i rfl hi2 (by decide) dX5_commit_19 (fun H locs hP hS => ?_)
      obtain ⟨σ7, eσ7⟩ : ∃ z, z = put σ5 0 0 i (pSeen σ5 k i) := ⟨_, rfl⟩
      have hP : va_P D vwCl (FW 22 ad (CR cs n ad th nx σ7)) H := by rw [eσ7]; exact cru_mem hP
      refine lv_iinc (v := nI (i + 1)) (lv' := [(2, .int (nI (i + 1))), (0, .ref (ad 0)), (1, .int (nI k))]) hx hb dX5_commit_20 hl (k := 2) rfl (nI_1 i) (by decide) rfl (fun ls hl => ?_)
      refine lv_goto (tgt := 2) hx hb dX5_commit_23 (by decide) ?_
      exact ih (i + 1) (by omega)  _ _ _ (by simp only [eσ7, eσ5] at hP; rw [memo_s] at hP; exact hP) hS (lv_sub hl [1, 2, 0] rfl)
  exact loop (64) 0 (by omega)  _ _ _ (by rw [memo_0]; exact hP) hS (lv_sub hl [1, 2, 0] rfl)

theorem iwX5_faults_X5 : ∀ w ∈ wsX50, w ∈ wsX5_faults := fun w h => by unfold wsX5_faults; simp only [List.mem_cons, List.mem_append, h, true_or, or_true]
theorem lkX5_faults_28 : Cond.fieldLink RX5 28 "CoreTransactionsModel" "ended" "[Z" ∈ wsX5_faults := by decide +kernel
theorem lkX5_faults_38 : Cond.fieldLink RX5 38 "CoreTransactionsModel" "depths" "[I" ∈ wsX5_faults := by decide +kernel
abbrev rmX5_faults : Room := ({ frames := 2, cells := 0, slots := 0, locals := 44 } : Room)
set_option maxRecDepth 100000 in
set_option maxHeartbeats 4000000 in
theorem kX5_faults (l : Launch) (D : va_G) (cs : Nat → ClassId) (n : Nat) (ad : Nat → Nat) (th nx : Int32) (σ : St) (k : Nat) (hk4 : k < 4) (G : Nat) (hI : Inv σ G) : gMi l yX5_faults wsX5_faults rmX5_faults D (tyL cs) 22 ad (CR cs n ad th nx σ) [.ref (ad 0), .int (nI k)] (fun (r : Int32) (u : Unit) => r = 0) (fun (u : Unit) => CR cs n ad th nx (pFault σ k)) := by
  refine g_ofz (cc := cX5_faults) (maxL := 2) (by decide) rfl (Nat.le_of_ble_eq_true rfl) rfl rfl ?_
  intro p e s m args below meth c A ls Q hx hb hml hts hown hK hP hD hA hS hl hret
  have hl : lv_has ls 2 [(0, .ref (ad 0)), (1, .int (nI k))] := hl
  refine lv_aload_n hx hb dX5_faults_0 rfl (lv_at hl 0 rfl) ?_
  refine va_get (D := D) (ci := 5) (v := .ref (ad 10)) (C := RX5) (T := TX5) (N := 29) hx hb hts iwX5_faults_X5 hown hK hP 0 cr_obj rfl 14 (by decide) (hts _ lkX5_faults_38) (fun _ h9 => h9) rfl dX5_faults_1 ?_
  refine lv_iload_n hx hb dX5_faults_4 rfl (lv_at hl 1 rfl) ?_
  refine g_iald (t0 := 0) (v := σ.1 18 k 0) hx hb hK hP cr_depths rfl k rfl hk4 (by decide) rfl dX5_faults_5 ?_
  refine lv_if_le (tgt := 18) hx hb dX5_faults_6 (by decide) (fun c1 => ?_) (fun c1 => ?_)
  · refine lv_aload_n hx hb dX5_faults_18 rfl (lv_at hl 0 rfl) ?_
    refine va_get (D := D) (ci := 5) (v := .ref (ad 7)) (C := RX5) (T := TX5) (N := 29) hx hb hts iwX5_faults_X5 hown hK hP 0 cr_obj rfl 11 (by decide) (hts _ lkX5_faults_28) (fun _ h9 => h9) rfl dX5_faults_19 ?_
    refine lv_iload_n hx hb dX5_faults_22 rfl (lv_at hl 1 rfl) ?_
    refine lv_iconst (v := 1) hx hb dX5_faults_23 (by decide) ?_
    refine g_zast (t0 := 3) hx hb hK hP hD hS cr_ended rfl k rfl hk4 (by decide) (by decide) dX5_faults_24 (fun H locs hP hS => ?_)
    obtain ⟨σ2, eσ2⟩ : ∃ z, z = put σ 14 k 0 1 := ⟨_, rfl⟩
    have hP : va_P D vwCl (FW 22 ad (CR cs n ad th nx σ2)) H := by rw [eσ2]; exact cru_ended hP
    refine lv_iconst (v := 0) hx hb dX5_faults_25 (by decide) ?_
    exact hret _ _ _ _ () _ _ dX5_faults_26 hP hS (Or.inl rfl) (rfl) (by unfold pFault; rw [if_neg (Int32.not_lt.mpr c1)]; simp only [eσ2]; first | done | rfl)
  · refine lv_aload_n hx hb dX5_faults_9 rfl (lv_at hl 0 rfl) ?_
    refine lv_iload_n hx hb dX5_faults_10 rfl (lv_at hl 1 rfl) ?_
    refine lv_iconst (v := 1) hx hb dX5_faults_11 (by decide) ?_
    refine g_cvv (As := [.int (nI k), .int 1]) ⟨hx, hb, hml, hown, hts⟩ (kX5_brk l D cs n ad th nx σ k hk4 1 G hI) (cwV 2 hts gX5_faults_X5_breakOff rfl rfl rfl (by decide +kernel) ⟨Nat.le_of_ble_eq_true rfl, Nat.le_of_ble_eq_true rfl⟩) hK hP hD hS hA 0 (ci := 5) rfl rfl cr_obj hl.1 dX5_faults_12 rfl rfl (Nat.le_of_ble_eq_true rfl) ⟨Nat.zero_le _, Nat.zero_le _⟩ (fun _ H locs hw hP hS => ?_)
    obtain ⟨σ3, eσ3⟩ : ∃ z, z = pBreak σ k 1 := ⟨_, rfl⟩
    have hP : va_P D vwCl (FW 22 ad (CR cs n ad th nx σ3)) H := by rw [eσ3]; exact hP
    refine lv_goto (tgt := 25) hx hb dX5_faults_15 (by decide) ?_
    refine lv_iconst (v := 0) hx hb dX5_faults_25 (by decide) ?_
    exact hret _ _ _ _ () _ _ dX5_faults_26 hP hS (Or.inl rfl) (rfl) (by unfold pFault; rw [if_pos (Int32.not_le.mp c1)]; simp only [eσ3]; first | done | rfl)

abbrev rmX5_load : Room := ({ frames := 4, cells := 0, slots := 0, locals := 94 } : Room)
set_option maxRecDepth 100000 in
set_option maxHeartbeats 4000000 in
theorem kX5_load (l : Launch) (D : va_G) (cs : Nat → ClassId) (n : Nat) (ad : Nat → Nat) (th nx : Int32) (σ : St) (k : Nat) (hk4 : k < 4) (hn4 : n ≤ 4) (a : Nat) (ha8 : a < 8) (x : Int32) (G : Nat) (hI : Inv σ G) : gMi l yX5_load wsX5_load rmX5_load D (tyL cs) 22 ad (CR cs n ad th nx σ) [.ref (ad 0), .int (nI k), .int (nI a), .int x] (fun (r : Int32) (u : Unit) => r = bI (pMay σ n k x false).2) (fun (u : Unit) => CR cs n ad th nx (if (pMay σ n k x false).2 = true then pGive (pMay σ n k x false).1 k a (pSeen (pMay σ n k x false).1 k (iN x)) else (pMay σ n k x false).1)) := by
  refine g_ofz (cc := cX5_load) (maxL := 4) (by decide) rfl (Nat.le_of_ble_eq_true rfl) rfl rfl ?_
  intro p e s m args below meth c A ls Q hx hb hml hts hown hK hP hD hA hS hl hret
  have hl : lv_has ls 4 [(0, .ref (ad 0)), (1, .int (nI k)), (2, .int (nI a)), (3, .int x)] := hl
  refine lv_iload_n hx hb dX5_load_0 rfl (lv_at hl 3 rfl) ?_
  refine lv_bipush (v := 64) hx hb dX5_load_1 (by decide) ?_
  refine g_csi (As := [.int x, .int 64]) ⟨hx, hb, hml, hown, hts⟩ (kX5_isIn l D cs n ad th nx σ (x) (64)) (va_cwS 2 hts gX5_load_X5_isIn rfl rfl rfl (by decide +kernel) ⟨Nat.le_of_ble_eq_true rfl, Nat.le_of_ble_eq_true rfl⟩) hK hP hD hS hA hl.1 dX5_load_3 rfl rfl (Nat.le_of_ble_eq_true rfl) ⟨Nat.zero_le _, Nat.zero_le _⟩ (fun r _ H locs hw hP hS => ?_)
  obtain rfl : r = bI (decide (0 ≤ x ∧ x < 64)) := hw
  have hP : va_P D vwCl (FW 22 ad (CR cs n ad th nx σ)) H := hP
  refine lv_if_ne (tgt := 15) hx hb dX5_load_6 (by decide) (fun c1 => ?_) (fun c1 => ?_)
  · have hx0 : 0 ≤ x ∧ x < 64 := of_decide_eq_true (bI1 c1)
    obtain ⟨j, hj, hxj⟩ := i32_of (N := 64) (by decide) hx0.1 hx0.2
    refine lv_aload_n hx hb dX5_load_15 rfl (lv_at hl 0 rfl) ?_
    refine lv_iload_n hx hb dX5_load_16 rfl (lv_at hl 1 rfl) ?_
    refine lv_iload_n hx hb dX5_load_17 rfl (lv_at hl 3 rfl) ?_
    refine g_top (y := nI j) (hxj) ?_
    refine lv_iconst (v := 0) hx hb dX5_load_18 (by decide) ?_
    refine g_cvi (As := [.int (nI k), .int (nI j), .int 0]) ⟨hx, hb, hml, hown, hts⟩ (kX5_comes l D cs n ad th nx σ k hk4 hn4 j hj false G hI) (cwV 3 hts gX5_load_X5_comes rfl rfl rfl (by decide +kernel) ⟨Nat.le_of_ble_eq_true rfl, Nat.le_of_ble_eq_true rfl⟩) hK hP hD hS hA 0 (ci := 5) rfl rfl cr_obj hl.1 dX5_load_19 rfl rfl (Nat.le_of_ble_eq_true rfl) ⟨Nat.zero_le _, Nat.zero_le _⟩ (fun r _ H locs hw hP hS => ?_)
    obtain rfl : r = bI (pMay σ n k (nI j) false).2 := hw
    obtain ⟨σ2, eσ2⟩ : ∃ z, z = (pMay σ n k (nI j) false).1 := ⟨_, rfl⟩
    have hP : va_P D vwCl (FW 22 ad (CR cs n ad th nx σ2)) H := by rw [eσ2]; exact hP
    refine lv_if_ne (tgt := 27) hx hb dX5_load_22 (by decide) (fun c3 => ?_) (fun c3 => ?_)
    · have hpm : (pMay σ n k x false).2 = true := by rw [hxj]; exact bI1 c3
      refine lv_aload_n hx hb dX5_load_27 rfl (lv_at hl 0 rfl) ?_
      refine lv_iload_n hx hb dX5_load_28 rfl (lv_at hl 1 rfl) ?_
      refine lv_iload_n hx hb dX5_load_29 rfl (lv_at hl 2 rfl) ?_
      refine lv_aload_n hx hb dX5_load_30 rfl (lv_at hl 0 rfl) ?_
      refine lv_iload_n hx hb dX5_load_31 rfl (lv_at hl 1 rfl) ?_
      refine lv_iload_n hx hb dX5_load_32 rfl (lv_at hl 3 rfl) ?_
      refine g_top (y := nI j) (hxj) ?_
      refine g_cvi (As := [.int (nI k), .int (nI j)]) ⟨hx, hb, hml, hown, hts⟩ (kX5_sees l D cs n ad th nx σ2 k hk4 j hj) (cwV 2 hts gX5_load_X5_sees rfl rfl rfl (by decide +kernel) ⟨Nat.le_of_ble_eq_true rfl, Nat.le_of_ble_eq_true rfl⟩) hK hP hD hS hA 0 (ci := 5) rfl rfl cr_obj hl.1 dX5_load_33 rfl rfl (Nat.le_of_ble_eq_true rfl) ⟨Nat.zero_le _, Nat.zero_le _⟩ (fun r _ H locs hw hP hS => ?_)
      obtain rfl : r = pSeen σ2 k j := hw
      have hP : va_P D vwCl (FW 22 ad (CR cs n ad th nx σ2)) H := hP
      refine g_cvv (As := [.int (nI k), .int (nI a), .int (pSeen σ2 k j)]) ⟨hx, hb, hml, hown, hts⟩ (kX5_give l D cs n ad th nx σ2 k hk4 a ha8 (pSeen σ2 k j)) (cwV 3 hts gX5_load_X5_give rfl rfl rfl (by decide +kernel) ⟨Nat.le_of_ble_eq_true rfl, Nat.le_of_ble_eq_true rfl⟩) hK hP hD hS hA 0 (ci := 5) rfl rfl cr_obj hl.1 dX5_load_36 rfl rfl (Nat.le_of_ble_eq_true rfl) ⟨Nat.zero_le _, Nat.zero_le _⟩ (fun _ H locs hw hP hS => ?_)
      obtain ⟨σ4, eσ4⟩ : ∃ z, z = pGive σ2 k a (pSeen σ2 k j) := ⟨_, rfl⟩
      have hP : va_P D vwCl (FW 22 ad (CR cs n ad th nx σ4)) H := by rw [eσ4]; exact hP
      refine lv_iconst (v := 1) hx hb dX5_load_39 (by decide) ?_
      exact hret _ _ _ _ () _ _ dX5_load_40 hP hS (Or.inr rfl) (by rw [hpm]; rfl) (by rw [if_pos hpm, hxj, iN_nI (show j < 2 ^ 31 by omega)]; simp only [eσ4, eσ2])
    · have hpm : ¬ (pMay σ n k x false).2 = true := by rw [hxj, bI0 c3]; decide
      refine lv_iconst (v := 0) hx hb dX5_load_25 (by decide) ?_
      exact hret _ _ _ _ () _ _ dX5_load_26 hP hS (Or.inl rfl) (by rw [Bool.eq_false_iff.mpr hpm]; rfl) (by rw [if_neg hpm, hxj]; simp only [eσ2])
  · have hpm : pMay σ n k x false = (pFault σ k, false) := pMay_out (of_decide_eq_false (bI0 c1))
    refine lv_aload_n hx hb dX5_load_9 rfl (lv_at hl 0 rfl) ?_
    refine lv_iload_n hx hb dX5_load_10 rfl (lv_at hl 1 rfl) ?_
    refine g_cvi (As := [.int (nI k)]) ⟨hx, hb, hml, hown, hts⟩ (kX5_faults l D cs n ad th nx σ k hk4 G hI) (cwV 1 hts gX5_load_X5_faults rfl rfl rfl (by decide +kernel) ⟨Nat.le_of_ble_eq_true rfl, Nat.le_of_ble_eq_true rfl⟩) hK hP hD hS hA 0 (ci := 5) rfl rfl cr_obj hl.1 dX5_load_11 rfl rfl (Nat.le_of_ble_eq_true rfl) ⟨Nat.zero_le _, Nat.zero_le _⟩ (fun r _ H locs hw hP hS => ?_)
    obtain rfl : r = 0 := hw
    obtain ⟨σ5, eσ5⟩ : ∃ z, z = pFault σ k := ⟨_, rfl⟩
    have hP : va_P D vwCl (FW 22 ad (CR cs n ad th nx σ5)) H := by rw [eσ5]; exact hP
    exact hret _ _ _ _ () _ _ dX5_load_14 hP hS (Or.inl rfl) (by rw [hpm]; rfl) (by rw [hpm]; simp only [eσ5]; rfl)

theorem iwX5_store_X5 : ∀ w ∈ wsX50, w ∈ wsX5_store := fun w h => by unfold wsX5_store; simp only [List.mem_cons, List.mem_append, h, true_or, or_true]
theorem lkX5_store_7 : Cond.fieldLink RX5 7 "CoreTransactionsModel" "memory" "[I" ∈ wsX5_store := by decide +kernel
theorem lkX5_store_38 : Cond.fieldLink RX5 38 "CoreTransactionsModel" "depths" "[I" ∈ wsX5_store := by decide +kernel
theorem lkX5_store_59 : Cond.fieldLink RX5 59 "CoreTransactionsModel" "stores" "[J" ∈ wsX5_store := by decide +kernel
theorem lkX5_store_63 : Cond.fieldLink RX5 63 "CoreTransactionsModel" "stored" "[I" ∈ wsX5_store := by decide +kernel
abbrev rmX5_store : Room := ({ frames := 4, cells := 0, slots := 0, locals := 94 } : Room)
set_option maxRecDepth 100000 in
set_option maxHeartbeats 4000000 in
theorem kX5_store (l : Launch) (D : va_G) (cs : Nat → ClassId) (n : Nat) (ad : Nat → Nat) (th nx : Int32) (σ : St) (k : Nat) (hk4 : k < 4) (hn4 : n ≤ 4) (a : Nat) (ha8 : a < 8) (x : Int32) (G : Nat) (hI : Inv σ G) : gMi l yX5_store wsX5_store rmX5_store D (tyL cs) 22 ad (CR cs n ad th nx σ) [.ref (ad 0), .int (nI k), .int (nI a), .int x] (fun (r : Int32) (u : Unit) => r = bI (pMay σ n k x true).2) (fun (u : Unit) => CR cs n ad th nx (if (pMay σ n k x true).2 = true then pWrite (pMay σ n k x true).1 k (iN x) (σ.1 10 k a) else (pMay σ n k x true).1)) := by
  refine g_ofz (cc := cX5_store) (maxL := 4) (by decide) rfl (Nat.le_of_ble_eq_true rfl) rfl rfl ?_
  intro p e s m args below meth c A ls Q hx hb hml hts hown hK hP hD hA hS hl hret
  have hl : lv_has ls 4 [(0, .ref (ad 0)), (1, .int (nI k)), (2, .int (nI a)), (3, .int x)] := hl
  refine lv_iload_n hx hb dX5_store_0 rfl (lv_at hl 3 rfl) ?_
  refine lv_bipush (v := 64) hx hb dX5_store_1 (by decide) ?_
  refine g_csi (As := [.int x, .int 64]) ⟨hx, hb, hml, hown, hts⟩ (kX5_isIn l D cs n ad th nx σ (x) (64)) (va_cwS 2 hts gX5_store_X5_isIn rfl rfl rfl (by decide +kernel) ⟨Nat.le_of_ble_eq_true rfl, Nat.le_of_ble_eq_true rfl⟩) hK hP hD hS hA hl.1 dX5_store_3 rfl rfl (Nat.le_of_ble_eq_true rfl) ⟨Nat.zero_le _, Nat.zero_le _⟩ (fun r _ H locs hw hP hS => ?_)
  obtain rfl : r = bI (decide (0 ≤ x ∧ x < 64)) := hw
  have hP : va_P D vwCl (FW 22 ad (CR cs n ad th nx σ)) H := hP
  refine lv_if_ne (tgt := 15) hx hb dX5_store_6 (by decide) (fun c1 => ?_) (fun c1 => ?_)
  · have hx0 : 0 ≤ x ∧ x < 64 := of_decide_eq_true (bI1 c1)
    obtain ⟨j, hj, hxj⟩ := i32_of (N := 64) (by decide) hx0.1 hx0.2
    refine lv_aload_n hx hb dX5_store_15 rfl (lv_at hl 0 rfl) ?_
    refine lv_iload_n hx hb dX5_store_16 rfl (lv_at hl 1 rfl) ?_
    refine lv_iload_n hx hb dX5_store_17 rfl (lv_at hl 3 rfl) ?_
    refine g_top (y := nI j) (hxj) ?_
    refine lv_iconst (v := 1) hx hb dX5_store_18 (by decide) ?_
    refine g_cvi (As := [.int (nI k), .int (nI j), .int 1]) ⟨hx, hb, hml, hown, hts⟩ (kX5_comes l D cs n ad th nx σ k hk4 hn4 j hj true G hI) (cwV 3 hts gX5_store_X5_comes rfl rfl rfl (by decide +kernel) ⟨Nat.le_of_ble_eq_true rfl, Nat.le_of_ble_eq_true rfl⟩) hK hP hD hS hA 0 (ci := 5) rfl rfl cr_obj hl.1 dX5_store_19 rfl rfl (Nat.le_of_ble_eq_true rfl) ⟨Nat.zero_le _, Nat.zero_le _⟩ (fun r _ H locs hw hP hS => ?_)
    obtain rfl : r = bI (pMay σ n k (nI j) true).2 := hw
    obtain ⟨σ2, eσ2⟩ : ∃ z, z = (pMay σ n k (nI j) true).1 := ⟨_, rfl⟩
    have hP : va_P D vwCl (FW 22 ad (CR cs n ad th nx σ2)) H := by rw [eσ2]; exact hP
    refine lv_if_ne (tgt := 27) hx hb dX5_store_22 (by decide) (fun c3 => ?_) (fun c3 => ?_)
    · have hpm : (pMay σ n k x true).2 = true := by rw [hxj]; exact bI1 c3
      refine lv_aload_n hx hb dX5_store_27 rfl (lv_at hl 0 rfl) ?_
      refine va_get (D := D) (ci := 5) (v := .ref (ad 10)) (C := RX5) (T := TX5) (N := 29) hx hb hts iwX5_store_X5 hown hK hP 0 cr_obj rfl 14 (by decide) (hts _ lkX5_store_38) (fun _ h9 => h9) rfl dX5_store_28 ?_
      refine lv_iload_n hx hb dX5_store_31 rfl (lv_at hl 1 rfl) ?_
      refine g_iald (t0 := 0) (v := σ2.1 18 k 0) hx hb hK hP cr_depths rfl k rfl hk4 (by decide) rfl dX5_store_32 ?_
      refine lv_if_ne (tgt := 51) hx hb dX5_store_33 (by decide) (fun c4 => ?_) (fun c4 => ?_)
      · simp only [eσ2] at c4
        refine lv_aload_n hx hb dX5_store_51 rfl (lv_at hl 0 rfl) ?_
        refine va_get (D := D) (ci := 5) (v := .ref (ad 17)) (C := RX5) (T := TX5) (N := 29) hx hb hts iwX5_store_X5 hown hK hP 0 cr_obj rfl 21 (by decide) (hts _ lkX5_store_59) (fun _ h9 => h9) rfl dX5_store_52 ?_
        refine lv_iload_n hx hb dX5_store_55 rfl (lv_at hl 1 rfl) ?_
        refine lv_aload_n hx hb dX5_store_56 rfl (lv_at hl 0 rfl) ?_
        refine va_get (D := D) (ci := 5) (v := .ref (ad 17)) (C := RX5) (T := TX5) (N := 29) hx hb hts iwX5_store_X5 hown hK hP 0 cr_obj rfl 21 (by decide) (hts _ lkX5_store_59) (fun _ h9 => h9) rfl dX5_store_57 ?_
        refine lv_iload_n hx hb dX5_store_60 rfl (lv_at hl 1 rfl) ?_
        refine g_lald (t0 := 2) (v := σ2.2 k) hx hb hK hP cr_stores rfl k rfl hk4 (by decide) rfl dX5_store_61 ?_
        refine lv_lconst (v := 1) hx hb dX5_store_62 (by decide) ?_
        refine lv_iload_n hx hb dX5_store_63 rfl (lv_at hl 3 rfl) ?_
        refine g_top (y := nI j) (hxj) ?_
        refine lv_lshl (v := 1 <<< ((nI j).toInt64 &&& 63)) hx hb dX5_store_64 rfl ?_
        refine lv_lor hx hb dX5_store_65 ?_
        refine g_last (t0 := 2) hx hb hK hP hD hS cr_stores rfl k rfl hk4 (by decide) dX5_store_66 (fun H locs hP hS => ?_)
        obtain ⟨σ5, eσ5⟩ : ∃ z, z = putL σ2 k ((σ2.2 k) ||| (1 <<< ((nI j).toInt64 &&& 63))) := ⟨_, rfl⟩
        have hP : va_P D vwCl (FW 22 ad (CR cs n ad th nx σ5)) H := by rw [eσ5]; exact cru_stores hP
        refine lv_aload_n hx hb dX5_store_67 rfl (lv_at hl 0 rfl) ?_
        refine va_get (D := D) (ci := 5) (v := .ref (ad 18)) (C := RX5) (T := TX5) (N := 29) hx hb hts iwX5_store_X5 hown hK hP 0 cr_obj rfl 22 (by decide) (hts _ lkX5_store_63) (fun _ h9 => h9) rfl dX5_store_68 ?_
        refine lv_bipush (v := 64) hx hb dX5_store_71 (by decide) ?_
        refine lv_iload_n hx hb dX5_store_73 rfl (lv_at hl 1 rfl) ?_
        refine lv_imul hx hb dX5_store_74 ?_
        refine g_top (y := nI (64 * k)) (nI_64 k) ?_
        refine lv_iload_n hx hb dX5_store_75 rfl (lv_at hl 3 rfl) ?_
        refine g_top (y := nI j) (hxj) ?_
        refine lv_iadd hx hb dX5_store_76 ?_
        refine g_top (y := nI (64 * k + j)) (nI_add _ _) ?_
        refine lv_aload_n hx hb dX5_store_77 rfl (lv_at hl 0 rfl) ?_
        refine lv_iload_n hx hb dX5_store_78 rfl (lv_at hl 1 rfl) ?_
        refine lv_iload_n hx hb dX5_store_79 rfl (lv_at hl 2 rfl) ?_
        refine g_cvi (As := [.int (nI k), .int (nI a)]) ⟨hx, hb, hml, hown, hts⟩ (kX5_get l D cs n ad th nx σ5 k hk4 a ha8 (by simp only [eσ5, eσ2, putL_at]; exact ((Inv_may hI hk4 hn4).2.2.2.2.2 k hk4).1)) (cwV 2 hts gX5_store_X5_get rfl rfl rfl (by decide +kernel) ⟨Nat.le_of_ble_eq_true rfl, Nat.le_of_ble_eq_true rfl⟩) hK hP hD hS hA 0 (ci := 5) rfl rfl cr_obj hl.1 dX5_store_80 rfl rfl (Nat.le_of_ble_eq_true rfl) ⟨Nat.zero_le _, Nat.zero_le _⟩ (fun r _ H locs hw hP hS => ?_)
        obtain rfl : r = σ5.1 10 k a := hw
        have hP : va_P D vwCl (FW 22 ad (CR cs n ad th nx σ5)) H := hP
        refine g_iast (t0 := 0) hx hb hK hP hD hS cr_stored rfl (64 * k + j) rfl (by omega) (by decide) dX5_store_83 (fun H locs hP hS => ?_)
        obtain ⟨σ6, eσ6⟩ : ∃ z, z = put σ5 12 k j (σ5.1 10 k a) := ⟨_, rfl⟩
        have hP : va_P D vwCl (FW 22 ad (CR cs n ad th nx σ6)) H := by rw [eσ6]; have h8 := cru_stored hP; rw [(q64 hj).1, (q64 hj).2] at h8; exact h8
        refine lv_iconst (v := 1) hx hb dX5_store_84 (by decide) ?_
        exact hret _ _ _ _ () _ _ dX5_store_85 hP hS (Or.inr rfl) (by rw [hpm]; rfl) (by rw [if_pos hpm]; unfold pWrite; rw [hxj, if_pos (dep_pos ((Inv_may hI hk4 hn4).2.2.2.2.2 k hk4) c4), iN_nI (show j < 2 ^ 31 by omega), ← pMay_ok (σ := σ) (n := n) (x := nI j) (w := true) (f := 10) (j := a) (by rw [← hxj]; exact hpm) (by decide) (by decide) (by decide) (by decide) (by decide) (by decide)]; simp only [eσ6, eσ5, eσ2]; first | done | rfl)
      · simp only [eσ2] at c4
        refine lv_aload_n hx hb dX5_store_36 rfl (lv_at hl 0 rfl) ?_
        refine va_get (D := D) (ci := 5) (v := .ref (ad 1)) (C := RX5) (T := TX5) (N := 29) hx hb hts iwX5_store_X5 hown hK hP 0 cr_obj rfl 4 (by decide) (hts _ lkX5_store_7) (fun _ h9 => h9) rfl dX5_store_37 ?_
        refine lv_iload_n hx hb dX5_store_40 rfl (lv_at hl 3 rfl) ?_
        refine g_top (y := nI j) (hxj) ?_
        refine lv_aload_n hx hb dX5_store_41 rfl (lv_at hl 0 rfl) ?_
        refine lv_iload_n hx hb dX5_store_42 rfl (lv_at hl 1 rfl) ?_
        refine lv_iload_n hx hb dX5_store_43 rfl (lv_at hl 2 rfl) ?_
        refine g_cvi (As := [.int (nI k), .int (nI a)]) ⟨hx, hb, hml, hown, hts⟩ (kX5_get l D cs n ad th nx σ2 k hk4 a ha8 (by simp only [eσ2]; exact ((Inv_may hI hk4 hn4).2.2.2.2.2 k hk4).1)) (cwV 2 hts gX5_store_X5_get rfl rfl rfl (by decide +kernel) ⟨Nat.le_of_ble_eq_true rfl, Nat.le_of_ble_eq_true rfl⟩) hK hP hD hS hA 0 (ci := 5) rfl rfl cr_obj hl.1 dX5_store_44 rfl rfl (Nat.le_of_ble_eq_true rfl) ⟨Nat.zero_le _, Nat.zero_le _⟩ (fun r _ H locs hw hP hS => ?_)
        obtain rfl : r = σ2.1 10 k a := hw
        have hP : va_P D vwCl (FW 22 ad (CR cs n ad th nx σ2)) H := hP
        refine g_iast (t0 := 0) hx hb hK hP hD hS cr_mem rfl j rfl hj (by decide) dX5_store_47 (fun H locs hP hS => ?_)
        obtain ⟨σ7, eσ7⟩ : ∃ z, z = put σ2 0 0 j (σ2.1 10 k a) := ⟨_, rfl⟩
        have hP : va_P D vwCl (FW 22 ad (CR cs n ad th nx σ7)) H := by rw [eσ7]; exact cru_mem hP
        refine lv_goto (tgt := 84) hx hb dX5_store_48 (by decide) ?_
        refine lv_iconst (v := 1) hx hb dX5_store_84 (by decide) ?_
        exact hret _ _ _ _ () _ _ dX5_store_85 hP hS (Or.inr rfl) (by rw [hpm]; rfl) (by rw [if_pos hpm]; unfold pWrite; rw [hxj, if_neg (fun h => absurd h (by rw [c4]; decide)), iN_nI (show j < 2 ^ 31 by omega), ← pMay_ok (σ := σ) (n := n) (x := nI j) (w := true) (f := 10) (j := a) (by rw [← hxj]; exact hpm) (by decide) (by decide) (by decide) (by decide) (by decide) (by decide)]; simp only [eσ7, eσ2]; first | done | rfl)
    · have hpm : ¬ (pMay σ n k x true).2 = true := by rw [hxj, bI0 c3]; decide
      refine lv_iconst (v := 0) hx hb dX5_store_25 (by decide) ?_
      exact hret _ _ _ _ () _ _ dX5_store_26 hP hS (Or.inl rfl) (by rw [Bool.eq_false_iff.mpr hpm]; rfl) (by rw [if_neg hpm, hxj]; simp only [eσ2])
  · have hpm : pMay σ n k x true = (pFault σ k, false) := pMay_out (of_decide_eq_false (bI0 c1))
    refine lv_aload_n hx hb dX5_store_9 rfl (lv_at hl 0 rfl) ?_
    refine lv_iload_n hx hb dX5_store_10 rfl (lv_at hl 1 rfl) ?_
    refine g_cvi (As := [.int (nI k)]) ⟨hx, hb, hml, hown, hts⟩ (kX5_faults l D cs n ad th nx σ k hk4 G hI) (cwV 1 hts gX5_store_X5_faults rfl rfl rfl (by decide +kernel) ⟨Nat.le_of_ble_eq_true rfl, Nat.le_of_ble_eq_true rfl⟩) hK hP hD hS hA 0 (ci := 5) rfl rfl cr_obj hl.1 dX5_store_11 rfl rfl (Nat.le_of_ble_eq_true rfl) ⟨Nat.zero_le _, Nat.zero_le _⟩ (fun r _ H locs hw hP hS => ?_)
    obtain rfl : r = 0 := hw
    obtain ⟨σ8, eσ8⟩ : ∃ z, z = pFault σ k := ⟨_, rfl⟩
    have hP : va_P D vwCl (FW 22 ad (CR cs n ad th nx σ8)) H := by rw [eσ8]; exact hP
    exact hret _ _ _ _ () _ _ dX5_store_14 hP hS (Or.inl rfl) (by rw [hpm]; rfl) (by rw [hpm]; simp only [eσ8]; rfl)

theorem kep_step {σ : St} {k : Nat} (i j : Nat) : (if j < i + 1 then σ.1 10 k j else σ.1 11 k j) = if j = i then (putA σ 11 k (fun j => if j < i then σ.1 10 k j else σ.1 11 k j)).1 10 k i else (if j < i then σ.1 10 k j else σ.1 11 k j) := by
  by_cases h1 : j = i
  · subst h1
    rw [if_pos (Nat.lt_succ_self j), if_pos rfl]
    simp [putA]
  · rw [if_neg h1]
    by_cases h2 : j < i
    · rw [if_pos h2, if_pos (by omega)]
    · rw [if_neg h2, if_neg (by omega)]
theorem iwX5_begin_X5 : ∀ w ∈ wsX50, w ∈ wsX5_begin := fun w h => by unfold wsX5_begin; simp only [List.mem_cons, List.mem_append, h, true_or, or_true]
theorem lkX5_begin_35 : Cond.fieldLink RX5 35 "CoreTransactionsModel" "registers" "[I" ∈ wsX5_begin := by decide +kernel
theorem lkX5_begin_38 : Cond.fieldLink RX5 38 "CoreTransactionsModel" "depths" "[I" ∈ wsX5_begin := by decide +kernel
theorem lkX5_begin_41 : Cond.fieldLink RX5 41 "CoreTransactionsModel" "ages" "[I" ∈ wsX5_begin := by decide +kernel
theorem lkX5_begin_44 : Cond.fieldLink RX5 44 "CoreTransactionsModel" "begins" "[I" ∈ wsX5_begin := by decide +kernel
theorem lkX5_begin_47 : Cond.fieldLink RX5 47 "CoreTransactionsModel" "returns" "[I" ∈ wsX5_begin := by decide +kernel
theorem lkX5_begin_50 : Cond.fieldLink RX5 50 "CoreTransactionsModel" "keptRegisters" "[I" ∈ wsX5_begin := by decide +kernel
theorem lkX5_begin_148 : Cond.fieldLink RX5 148 "CoreTransactionsModel" "age" "I" ∈ wsX5_begin := by decide +kernel
abbrev rmX5_begin : Room := ({ frames := 2, cells := 0, slots := 0, locals := 44 } : Room)
set_option maxRecDepth 100000 in
set_option maxHeartbeats 4000000 in
theorem kX5_begin (l : Launch) (D : va_G) (cs : Nat → ClassId) (n : Nat) (ad : Nat → Nat) (th nx : Int32) (σ : St) (k : Nat) (hk4 : k < 4) (i : Nat) (hi80 : i < 80) (G : Nat) (hI : Inv σ G) : gMi l yX5_begin wsX5_begin rmX5_begin D (tyL cs) 22 ad (CR cs n ad th nx σ) [.ref (ad 0), .int (nI k), .int (nI i), .int (σ.1 4 0 i)] (fun (r : Int32) (u : Unit) => r = bI (pBegin σ k i).2) (fun (u : Unit) => CR cs n ad th nx (pBegin σ k i).1) := by
  refine g_ofz (cc := cX5_begin) (maxL := 5) (by decide) rfl (Nat.le_of_ble_eq_true rfl) rfl rfl ?_
  intro p e s m args below meth c A ls Q hx hb hml hts hown hK hP hD hA hS hl hret
  have hl : lv_has ls 5 [(0, .ref (ad 0)), (1, .int (nI k)), (2, .int (nI i)), (3, .int (σ.1 4 0 i))] := hl
  refine lv_aload_n hx hb dX5_begin_0 rfl (lv_at hl 0 rfl) ?_
  refine va_get (D := D) (ci := 5) (v := .ref (ad 10)) (C := RX5) (T := TX5) (N := 29) hx hb hts iwX5_begin_X5 hown hK hP 0 cr_obj rfl 14 (by decide) (hts _ lkX5_begin_38) (fun _ h9 => h9) rfl dX5_begin_1 ?_
  refine lv_iload_n hx hb dX5_begin_4 rfl (lv_at hl 1 rfl) ?_
  refine g_iald (t0 := 0) (v := σ.1 18 k 0) hx hb hK hP cr_depths rfl k rfl hk4 (by decide) rfl dX5_begin_5 ?_
  refine lv_bipush (v := 8) hx hb dX5_begin_6 (by decide) ?_
  refine lv_icmp_ne (tgt := 19) hx hb dX5_begin_8 (by decide) (fun c1 => ?_) (fun c1 => ?_)
  · have hd8 : ¬ 8 ≤ σ.1 18 k 0 := dep_8 (hI.2.2.2.2.2 k hk4) c1
    refine lv_aload_n hx hb dX5_begin_19 rfl (lv_at hl 0 rfl) ?_
    refine va_get (D := D) (ci := 5) (v := .ref (ad 10)) (C := RX5) (T := TX5) (N := 29) hx hb hts iwX5_begin_X5 hown hK hP 0 cr_obj rfl 14 (by decide) (hts _ lkX5_begin_38) (fun _ h9 => h9) rfl dX5_begin_20 ?_
    refine lv_iload_n hx hb dX5_begin_23 rfl (lv_at hl 1 rfl) ?_
    refine g_iald (t0 := 0) (v := σ.1 18 k 0) hx hb hK hP cr_depths rfl k rfl hk4 (by decide) rfl dX5_begin_24 ?_
    refine lv_if_ne (tgt := 102) hx hb dX5_begin_25 (by decide) (fun c2 => ?_) (fun c2 => ?_)
    · have hbeg : pBegin σ k i = (put σ 18 k 0 (σ.1 18 k 0 + 1), true) := (if_neg hd8).trans (if_neg c2)
      refine lv_aload_n hx hb dX5_begin_102 rfl (lv_at hl 0 rfl) ?_
      refine va_get (D := D) (ci := 5) (v := .ref (ad 10)) (C := RX5) (T := TX5) (N := 29) hx hb hts iwX5_begin_X5 hown hK hP 0 cr_obj rfl 14 (by decide) (hts _ lkX5_begin_38) (fun _ h9 => h9) rfl dX5_begin_103 ?_
      refine lv_iload_n hx hb dX5_begin_106 rfl (lv_at hl 1 rfl) ?_
      refine lv_dup2_11 hx hb dX5_begin_107 rfl rfl ?_
      refine g_iald (t0 := 0) (v := σ.1 18 k 0) hx hb hK hP cr_depths rfl k rfl hk4 (by decide) rfl dX5_begin_108 ?_
      refine lv_iconst (v := 1) hx hb dX5_begin_109 (by decide) ?_
      refine lv_iadd hx hb dX5_begin_110 ?_
      refine g_iast (t0 := 0) hx hb hK hP hD hS cr_depths rfl k rfl hk4 (by decide) dX5_begin_111 (fun H locs hP hS => ?_)
      obtain ⟨σ3, eσ3⟩ : ∃ z, z = put σ 18 k 0 ((σ.1 18 k 0) + 1) := ⟨_, rfl⟩
      have hP : va_P D vwCl (FW 22 ad (CR cs n ad th nx σ3)) H := by rw [eσ3]; exact cru_depths hP
      refine lv_iconst (v := 1) hx hb dX5_begin_112 (by decide) ?_
      exact hret _ _ _ _ () _ _ dX5_begin_113 hP hS (Or.inr rfl) (by rw [hbeg]; rfl) (by rw [hbeg]; simp only [eσ3]; first | done | rfl)
    · have hbeg : pBegin σ k i = (put (pOpen (put σ 9 0 0 (σ.1 9 0 0 + 1)) k (σ.1 9 0 0 + 1) (nI i) (σ.1 4 0 i)) 18 k 0 (σ.1 18 k 0 + 1), true) := (if_neg hd8).trans (if_pos c2)
      refine lv_aload_n hx hb dX5_begin_28 rfl (lv_at hl 0 rfl) ?_
      refine lv_dup hx hb dX5_begin_29 rfl ?_
      refine va_get (D := D) (ci := 5) (v := .int (σ.1 9 0 0)) (C := RX5) (T := TX5) (N := 29) hx hb hts iwX5_begin_X5 hown hK hP 0 cr_obj rfl 25 (by decide) (hts _ lkX5_begin_148) (fun _ h9 => h9) rfl dX5_begin_30 ?_
      refine lv_iconst (v := 1) hx hb dX5_begin_33 (by decide) ?_
      refine lv_iadd hx hb dX5_begin_34 ?_
      refine va_put (D := D) (ci := 5) (v := .int ((σ.1 9 0 0) + 1)) (ty := .int) (C := RX5) (T := TX5) (N := 29) hx hb hts iwX5_begin_X5 tyX5 tyX5_ok nmX5 hown hK hP (hD _) hS 0 cr_obj rfl 25 (by decide) (hts _ lkX5_begin_148) (fun _ h9 => h9) rfl (by decide +kernel) rfl rfl (Nat.le_of_ble_eq_true rfl) dX5_begin_35 (fun H locs hP _ hS => ?_)
      obtain ⟨σ4, eσ4⟩ : ∃ z, z = put σ 9 0 0 ((σ.1 9 0 0) + 1) := ⟨_, rfl⟩
      have hP : va_P D vwCl (FW 22 ad (CR cs n ad th nx σ4)) H := by rw [eσ4]; exact cru_obj_25 hP
      refine lv_aload_n hx hb dX5_begin_38 rfl (lv_at hl 0 rfl) ?_
      refine va_get (D := D) (ci := 5) (v := .ref (ad 11)) (C := RX5) (T := TX5) (N := 29) hx hb hts iwX5_begin_X5 hown hK hP 0 cr_obj rfl 15 (by decide) (hts _ lkX5_begin_41) (fun _ h9 => h9) rfl dX5_begin_39 ?_
      refine lv_iload_n hx hb dX5_begin_42 rfl (lv_at hl 1 rfl) ?_
      refine lv_aload_n hx hb dX5_begin_43 rfl (lv_at hl 0 rfl) ?_
      refine va_get (D := D) (ci := 5) (v := .int (σ4.1 9 0 0)) (C := RX5) (T := TX5) (N := 29) hx hb hts iwX5_begin_X5 hown hK hP 0 cr_obj rfl 25 (by decide) (hts _ lkX5_begin_148) (fun _ h9 => h9) rfl dX5_begin_44 ?_
      refine g_top (y := σ.1 9 0 0 + 1) (by simp only [eσ4]; rfl) ?_
      refine g_iast (t0 := 0) hx hb hK hP hD hS cr_ages rfl k rfl hk4 (by decide) dX5_begin_47 (fun H locs hP hS => ?_)
      obtain ⟨σ5, eσ5⟩ : ∃ z, z = put σ4 19 k 0 (σ.1 9 0 0 + 1) := ⟨_, rfl⟩
      have hP : va_P D vwCl (FW 22 ad (CR cs n ad th nx σ5)) H := by rw [eσ5]; exact cru_ages hP
      refine lv_aload_n hx hb dX5_begin_48 rfl (lv_at hl 0 rfl) ?_
      refine va_get (D := D) (ci := 5) (v := .ref (ad 12)) (C := RX5) (T := TX5) (N := 29) hx hb hts iwX5_begin_X5 hown hK hP 0 cr_obj rfl 16 (by decide) (hts _ lkX5_begin_44) (fun _ h9 => h9) rfl dX5_begin_49 ?_
      refine lv_iload_n hx hb dX5_begin_52 rfl (lv_at hl 1 rfl) ?_
      refine lv_iload_n hx hb dX5_begin_53 rfl (lv_at hl 2 rfl) ?_
      refine g_iast (t0 := 0) hx hb hK hP hD hS cr_begins rfl k rfl hk4 (by decide) dX5_begin_54 (fun H locs hP hS => ?_)
      obtain ⟨σ6, eσ6⟩ : ∃ z, z = put σ5 20 k 0 (nI i) := ⟨_, rfl⟩
      have hP : va_P D vwCl (FW 22 ad (CR cs n ad th nx σ6)) H := by rw [eσ6]; exact cru_begins hP
      refine lv_aload_n hx hb dX5_begin_55 rfl (lv_at hl 0 rfl) ?_
      refine va_get (D := D) (ci := 5) (v := .ref (ad 13)) (C := RX5) (T := TX5) (N := 29) hx hb hts iwX5_begin_X5 hown hK hP 0 cr_obj rfl 17 (by decide) (hts _ lkX5_begin_47) (fun _ h9 => h9) rfl dX5_begin_56 ?_
      refine lv_iload_n hx hb dX5_begin_59 rfl (lv_at hl 1 rfl) ?_
      refine lv_iload_n hx hb dX5_begin_60 rfl (lv_at hl 3 rfl) ?_
      refine g_iast (t0 := 0) hx hb hK hP hD hS cr_returns rfl k rfl hk4 (by decide) dX5_begin_61 (fun H locs hP hS => ?_)
      obtain ⟨σ7, eσ7⟩ : ∃ z, z = put σ6 21 k 0 (σ.1 4 0 i) := ⟨_, rfl⟩
      have hP : va_P D vwCl (FW 22 ad (CR cs n ad th nx σ7)) H := by rw [eσ7]; exact cru_returns hP
      obtain ⟨τ8, eτ8⟩ : ∃ z, z = σ7 := ⟨_, rfl⟩
      rw [← eτ8] at hP
      refine lv_iconst (v := 0) hx hb dX5_begin_62 (by decide) ?_
      refine lv_istore (lv' := [(4, .int 0), (0, .ref (ad 0)), (1, .int (nI k)), (2, .int (nI i)), (3, .int (σ.1 4 0 i))]) hx hb dX5_begin_63 hl (by decide) rfl (fun ls hl => ?_)
      have loop : ∀ (d r9 : Nat), r9 + d = 8 →  ∀ (H : Heap) (locs : List Loc) (ls : Array Slot), va_P D vwCl (FW 22 ad (CR cs n ad th nx (putA τ8 11 k (fun j => if j < r9 then τ8.1 10 k j else τ8.1 11 k j)))) H → va_S A s.heap H locs → lv_has ls 5 [(0, .ref (ad 0)), (1, .int (nI k)), (2, .int (nI i)), (3, .int (σ.1 4 0 i)), (4, .int (nI r9))] → W p l e rmX5_begin s m args below meth c H locs 0 0 Q (F0 m 65 ls []) := by
        intro d
        induction d with
        | zero =>
          intro r9 hi  H locs ls hP hS hl
          obtain rfl : r9 = 8 := by omega
          obtain ⟨σ9, eσ9⟩ : ∃ z, z = putA τ8 11 k (fun j => if j < 8 then τ8.1 10 k j else τ8.1 11 k j) := ⟨_, rfl⟩
          have hP : va_P D vwCl (FW 22 ad (CR cs n ad th nx σ9)) H := by rw [eσ9]; exact hP
          refine lv_iload hx hb dX5_begin_65 (lv_at hl 4 rfl) ?_
          refine lv_bipush (v := 8) hx hb dX5_begin_67 (by decide) ?_
          refine lv_icmp_ge (tgt := 102) hx hb dX5_begin_69 (by decide) (fun c10 => ?_) (fun c10 => absurd (show (8 : Int32) ≤ nI 8 from Int32.le_refl _) c10)
          refine lv_aload_n hx hb dX5_begin_102 rfl (lv_at hl 0 rfl) ?_
          refine va_get (D := D) (ci := 5) (v := .ref (ad 10)) (C := RX5) (T := TX5) (N := 29) hx hb hts iwX5_begin_X5 hown hK hP 0 cr_obj rfl 14 (by decide) (hts _ lkX5_begin_38) (fun _ h9 => h9) rfl dX5_begin_103 ?_
          refine lv_iload_n hx hb dX5_begin_106 rfl (lv_at hl 1 rfl) ?_
          refine lv_dup2_11 hx hb dX5_begin_107 rfl rfl ?_
          refine g_iald (t0 := 0) (v := σ9.1 18 k 0) hx hb hK hP cr_depths rfl k rfl hk4 (by decide) rfl dX5_begin_108 ?_
          refine lv_iconst (v := 1) hx hb dX5_begin_109 (by decide) ?_
          refine lv_iadd hx hb dX5_begin_110 ?_
          refine g_iast (t0 := 0) hx hb hK hP hD hS cr_depths rfl k rfl hk4 (by decide) dX5_begin_111 (fun H locs hP hS => ?_)
          obtain ⟨σ11, eσ11⟩ : ∃ z, z = put σ9 18 k 0 ((σ9.1 18 k 0) + 1) := ⟨_, rfl⟩
          have hP : va_P D vwCl (FW 22 ad (CR cs n ad th nx σ11)) H := by rw [eσ11]; exact cru_depths hP
          refine lv_iconst (v := 1) hx hb dX5_begin_112 (by decide) ?_
          exact hret _ _ _ _ () _ _ dX5_begin_113 hP hS (Or.inr rfl) (by rw [hbeg]; rfl) (by rw [hbeg]; simp only [eσ11, eσ9, eτ8, eσ7, eσ6, eσ5, eσ4]; first | done | rfl)
        | succ d ih =>
          intro r9 hi  H locs ls hP hS hl
          have hi2 : r9 < 8 := by omega
          obtain ⟨σ12, eσ12⟩ : ∃ z, z = putA τ8 11 k (fun j => if j < r9 then τ8.1 10 k j else τ8.1 11 k j) := ⟨_, rfl⟩
          have hP : va_P D vwCl (FW 22 ad (CR cs n ad th nx σ12)) H := by rw [eσ12]; exact hP
          refine lv_iload hx hb dX5_begin_65 (lv_at hl 4 rfl) ?_
          refine lv_bipush (v := 8) hx hb dX5_begin_67 (by decide) ?_
          refine lv_icmp_ge (tgt := 102) hx hb dX5_begin_69 (by decide) (fun c13 => absurd c13 (nI_ge hi2 (show 8 < 2 ^ 31 by decide))) (fun c13 => ?_)
          refine lv_aload_n hx hb dX5_begin_72 rfl (lv_at hl 0 rfl) ?_
          refine va_get (D := D) (ci := 5) (v := .ref (ad 14)) (C := RX5) (T := TX5) (N := 29) hx hb hts iwX5_begin_X5 hown hK hP 0 cr_obj rfl 18 (by decide) (hts _ lkX5_begin_50) (fun _ h9 => h9) rfl dX5_begin_73 ?_
          refine lv_bipush (v := 8) hx hb dX5_begin_76 (by decide) ?_
          refine lv_iload_n hx hb dX5_begin_78 rfl (lv_at hl 1 rfl) ?_
          refine lv_imul hx hb dX5_begin_79 ?_
          refine g_top (y := nI (8 * k)) (nI_8 k) ?_
          refine lv_iload hx hb dX5_begin_80 (lv_at hl 4 rfl) ?_
          refine lv_iadd hx hb dX5_begin_82 ?_
          refine g_top (y := nI (8 * k + r9)) (nI_add _ _) ?_
          refine lv_aload_n hx hb dX5_begin_83 rfl (lv_at hl 0 rfl) ?_
          refine va_get (D := D) (ci := 5) (v := .ref (ad 9)) (C := RX5) (T := TX5) (N := 29) hx hb hts iwX5_begin_X5 hown hK hP 0 cr_obj rfl 13 (by decide) (hts _ lkX5_begin_35) (fun _ h9 => h9) rfl dX5_begin_84 ?_
          refine lv_bipush (v := 8) hx hb dX5_begin_87 (by decide) ?_
          refine lv_iload_n hx hb dX5_begin_89 rfl (lv_at hl 1 rfl) ?_
          refine lv_imul hx hb dX5_begin_90 ?_
          refine g_top (y := nI (8 * k)) (nI_8 k) ?_
          refine lv_iload hx hb dX5_begin_91 (lv_at hl 4 rfl) ?_
          refine lv_iadd hx hb dX5_begin_93 ?_
          refine g_top (y := nI (8 * k + r9)) (nI_add _ _) ?_
          refine g_iald (t0 := 0) (v := σ12.1 10 k r9) hx hb hK hP cr_registers rfl (8 * k + r9) rfl (by omega) (by decide) (congr (congrArg (σ12.1 10) (q8 hi2).1) (q8 hi2).2) dX5_begin_94 ?_
          refine g_iast (t0 := 0) hx hb hK hP hD hS cr_kept rfl (8 * k + r9) rfl (by omega) (by decide) dX5_begin_95 (fun H locs hP hS => ?_)
          obtain ⟨σ14, eσ14⟩ : ∃ z, z = put σ12 11 k r9 (σ12.1 10 k r9) := ⟨_, rfl⟩
          have hP : va_P D vwCl (FW 22 ad (CR cs n ad th nx σ14)) H := by rw [eσ14]; have h8 := cru_kept hP; rw [(q8 hi2).1, (q8 hi2).2] at h8; exact h8
          refine lv_iinc (v := nI (r9 + 1)) (lv' := [(4, .int (nI (r9 + 1))), (0, .ref (ad 0)), (1, .int (nI k)), (2, .int (nI i)), (3, .int (σ.1 4 0 i))]) hx hb dX5_begin_96 hl (k := 4) rfl (nI_1 r9) (by decide) rfl (fun ls hl => ?_)
          refine lv_goto (tgt := 65) hx hb dX5_begin_99 (by decide) ?_
          exact ih (r9 + 1) (by omega)  _ _ _ (by simp only [eσ14, eσ12] at hP; rw [putA_step (g' := fun j => if j < r9 + 1 then τ8.1 10 k j else τ8.1 11 k j) (fun j => kep_step r9 j)] at hP; exact hP) hS (lv_sub hl [1, 2, 3, 4, 0] rfl)
      exact loop (8) 0 (by omega)  _ _ _ (by rw [putA_0 (fun j => by simp)]; exact hP) hS (lv_sub hl [1, 2, 3, 4, 0] rfl)
  · have hbeg : pBegin σ k i = (pBreak σ k 2, false) := if_pos (by rw [c1]; decide)
    refine lv_aload_n hx hb dX5_begin_11 rfl (lv_at hl 0 rfl) ?_
    refine lv_iload_n hx hb dX5_begin_12 rfl (lv_at hl 1 rfl) ?_
    refine lv_iconst (v := 2) hx hb dX5_begin_13 (by decide) ?_
    refine g_cvv (As := [.int (nI k), .int 2]) ⟨hx, hb, hml, hown, hts⟩ (kX5_brk l D cs n ad th nx σ k hk4 2 G hI) (cwV 2 hts gX5_begin_X5_breakOff rfl rfl rfl (by decide +kernel) ⟨Nat.le_of_ble_eq_true rfl, Nat.le_of_ble_eq_true rfl⟩) hK hP hD hS hA 0 (ci := 5) rfl rfl cr_obj hl.1 dX5_begin_14 rfl rfl (Nat.le_of_ble_eq_true rfl) ⟨Nat.zero_le _, Nat.zero_le _⟩ (fun _ H locs hw hP hS => ?_)
    obtain ⟨σ15, eσ15⟩ : ∃ z, z = pBreak σ k 2 := ⟨_, rfl⟩
    have hP : va_P D vwCl (FW 22 ad (CR cs n ad th nx σ15)) H := by rw [eσ15]; exact hP
    refine lv_iconst (v := 0) hx hb dX5_begin_17 (by decide) ?_
    exact hret _ _ _ _ () _ _ dX5_begin_18 hP hS (Or.inl rfl) (by rw [hbeg]; rfl) (by rw [hbeg]; simp only [eσ15]; first | done | rfl)

theorem iwX5_end_X5 : ∀ w ∈ wsX50, w ∈ wsX5_end := fun w h => by unfold wsX5_end; simp only [List.mem_cons, List.mem_append, h, true_or, or_true]
theorem lkX5_end_38 : Cond.fieldLink RX5 38 "CoreTransactionsModel" "depths" "[I" ∈ wsX5_end := by decide +kernel
abbrev rmX5_end : Room := ({ frames := 2, cells := 0, slots := 0, locals := 44 } : Room)
set_option maxRecDepth 100000 in
set_option maxHeartbeats 4000000 in
theorem kX5_end (l : Launch) (D : va_G) (cs : Nat → ClassId) (n : Nat) (ad : Nat → Nat) (th nx : Int32) (σ : St) (k : Nat) (hk4 : k < 4) : gMv l yX5_end wsX5_end rmX5_end D (tyL cs) 22 ad (CR cs n ad th nx σ) [.ref (ad 0), .int (nI k)] (fun (u : Unit) => True) (fun (u : Unit) => CR cs n ad th nx (pEnd σ k)) := by
  refine g_ofv (cc := cX5_end) (maxL := 2) (by decide) rfl (Nat.le_of_ble_eq_true rfl) rfl rfl ?_
  intro p e s m args below meth c A ls Q hx hb hml hts hown hK hP hD hA hS hl hret
  have hl : lv_has ls 2 [(0, .ref (ad 0)), (1, .int (nI k))] := hl
  refine lv_aload_n hx hb dX5_end_0 rfl (lv_at hl 0 rfl) ?_
  refine va_get (D := D) (ci := 5) (v := .ref (ad 10)) (C := RX5) (T := TX5) (N := 29) hx hb hts iwX5_end_X5 hown hK hP 0 cr_obj rfl 14 (by decide) (hts _ lkX5_end_38) (fun _ h9 => h9) rfl dX5_end_1 ?_
  refine lv_iload_n hx hb dX5_end_4 rfl (lv_at hl 1 rfl) ?_
  refine g_iald (t0 := 0) (v := σ.1 18 k 0) hx hb hK hP cr_depths rfl k rfl hk4 (by decide) rfl dX5_end_5 ?_
  refine lv_iconst (v := 1) hx hb dX5_end_6 (by decide) ?_
  refine lv_icmp_ne (tgt := 18) hx hb dX5_end_7 (by decide) (fun c1 => ?_) (fun c1 => ?_)
  · refine lv_aload_n hx hb dX5_end_18 rfl (lv_at hl 0 rfl) ?_
    refine va_get (D := D) (ci := 5) (v := .ref (ad 10)) (C := RX5) (T := TX5) (N := 29) hx hb hts iwX5_end_X5 hown hK hP 0 cr_obj rfl 14 (by decide) (hts _ lkX5_end_38) (fun _ h9 => h9) rfl dX5_end_19 ?_
    refine lv_iload_n hx hb dX5_end_22 rfl (lv_at hl 1 rfl) ?_
    refine g_iald (t0 := 0) (v := σ.1 18 k 0) hx hb hK hP cr_depths rfl k rfl hk4 (by decide) rfl dX5_end_23 ?_
    refine lv_iconst (v := 1) hx hb dX5_end_24 (by decide) ?_
    refine lv_icmp_le (tgt := 38) hx hb dX5_end_25 (by decide) (fun c2 => ?_) (fun c2 => ?_)
    · exact hret _ _ _ () _ _ dX5_end_38 hP hS (trivial) (by unfold pEnd; rw [if_neg c1, if_neg (Int32.not_lt.mpr c2)]; first | done | rfl)
    · refine lv_aload_n hx hb dX5_end_28 rfl (lv_at hl 0 rfl) ?_
      refine va_get (D := D) (ci := 5) (v := .ref (ad 10)) (C := RX5) (T := TX5) (N := 29) hx hb hts iwX5_end_X5 hown hK hP 0 cr_obj rfl 14 (by decide) (hts _ lkX5_end_38) (fun _ h9 => h9) rfl dX5_end_29 ?_
      refine lv_iload_n hx hb dX5_end_32 rfl (lv_at hl 1 rfl) ?_
      refine lv_dup2_11 hx hb dX5_end_33 rfl rfl ?_
      refine g_iald (t0 := 0) (v := σ.1 18 k 0) hx hb hK hP cr_depths rfl k rfl hk4 (by decide) rfl dX5_end_34 ?_
      refine lv_iconst (v := 1) hx hb dX5_end_35 (by decide) ?_
      refine lv_isub hx hb dX5_end_36 ?_
      refine g_iast (t0 := 0) hx hb hK hP hD hS cr_depths rfl k rfl hk4 (by decide) dX5_end_37 (fun H locs hP hS => ?_)
      obtain ⟨σ3, eσ3⟩ : ∃ z, z = put σ 18 k 0 ((σ.1 18 k 0) - 1) := ⟨_, rfl⟩
      have hP : va_P D vwCl (FW 22 ad (CR cs n ad th nx σ3)) H := by rw [eσ3]; exact cru_depths hP
      exact hret _ _ _ () _ _ dX5_end_38 hP hS (trivial) (by unfold pEnd; rw [if_neg c1, if_pos (Int32.not_le.mp c2)]; simp only [eσ3]; first | done | rfl)
  · refine lv_aload_n hx hb dX5_end_10 rfl (lv_at hl 0 rfl) ?_
    refine lv_iload_n hx hb dX5_end_11 rfl (lv_at hl 1 rfl) ?_
    refine g_cvv (As := [.int (nI k)]) ⟨hx, hb, hml, hown, hts⟩ (kX5_commit l D cs n ad th nx σ k hk4) (cwV 1 hts gX5_end_X5_commit rfl rfl rfl (by decide +kernel) ⟨Nat.le_of_ble_eq_true rfl, Nat.le_of_ble_eq_true rfl⟩) hK hP hD hS hA 0 (ci := 5) rfl rfl cr_obj hl.1 dX5_end_12 rfl rfl (Nat.le_of_ble_eq_true rfl) ⟨Nat.zero_le _, Nat.zero_le _⟩ (fun _ H locs hw hP hS => ?_)
    obtain ⟨σ4, eσ4⟩ : ∃ z, z = put (pClose (pMemo σ k 64) k) 16 k 0 (σ.1 16 k 0 + 1) := ⟨_, rfl⟩
    have hP : va_P D vwCl (FW 22 ad (CR cs n ad th nx σ4)) H := by rw [eσ4]; exact hP
    refine lv_goto (tgt := 38) hx hb dX5_end_15 (by decide) ?_
    exact hret _ _ _ () _ _ dX5_end_38 hP hS (trivial) (by unfold pEnd; rw [if_pos c1]; simp only [eσ4]; first | done | rfl)

theorem iwX5_abort_X5 : ∀ w ∈ wsX50, w ∈ wsX5_abort := fun w h => by unfold wsX5_abort; simp only [List.mem_cons, List.mem_append, h, true_or, or_true]
theorem lkX5_abort_38 : Cond.fieldLink RX5 38 "CoreTransactionsModel" "depths" "[I" ∈ wsX5_abort := by decide +kernel
abbrev rmX5_abort : Room := ({ frames := 2, cells := 0, slots := 0, locals := 44 } : Room)
set_option maxRecDepth 100000 in
set_option maxHeartbeats 4000000 in
theorem kX5_abort (l : Launch) (D : va_G) (cs : Nat → ClassId) (n : Nat) (ad : Nat → Nat) (th nx : Int32) (σ : St) (k : Nat) (hk4 : k < 4) (code : Int32) (G : Nat) (hI : Inv σ G) : gMi l yX5_abort wsX5_abort rmX5_abort D (tyL cs) 22 ad (CR cs n ad th nx σ) [.ref (ad 0), .int (nI k), .int code] (fun (r : Int32) (u : Unit) => r = bI (decide (σ.1 18 k 0 = 0))) (fun (u : Unit) => CR cs n ad th nx (if σ.1 18 k 0 = 0 then σ else pBreak σ k code)) := by
  refine g_ofz (cc := cX5_abort) (maxL := 3) (by decide) rfl (Nat.le_of_ble_eq_true rfl) rfl rfl ?_
  intro p e s m args below meth c A ls Q hx hb hml hts hown hK hP hD hA hS hl hret
  have hl : lv_has ls 3 [(0, .ref (ad 0)), (1, .int (nI k)), (2, .int code)] := hl
  refine lv_aload_n hx hb dX5_abort_0 rfl (lv_at hl 0 rfl) ?_
  refine va_get (D := D) (ci := 5) (v := .ref (ad 10)) (C := RX5) (T := TX5) (N := 29) hx hb hts iwX5_abort_X5 hown hK hP 0 cr_obj rfl 14 (by decide) (hts _ lkX5_abort_38) (fun _ h9 => h9) rfl dX5_abort_1 ?_
  refine lv_iload_n hx hb dX5_abort_4 rfl (lv_at hl 1 rfl) ?_
  refine g_iald (t0 := 0) (v := σ.1 18 k 0) hx hb hK hP cr_depths rfl k rfl hk4 (by decide) rfl dX5_abort_5 ?_
  refine lv_if_ne (tgt := 11) hx hb dX5_abort_6 (by decide) (fun c1 => ?_) (fun c1 => ?_)
  · refine lv_aload_n hx hb dX5_abort_11 rfl (lv_at hl 0 rfl) ?_
    refine lv_iload_n hx hb dX5_abort_12 rfl (lv_at hl 1 rfl) ?_
    refine lv_iload_n hx hb dX5_abort_13 rfl (lv_at hl 2 rfl) ?_
    refine g_cvv (As := [.int (nI k), .int code]) ⟨hx, hb, hml, hown, hts⟩ (kX5_brk l D cs n ad th nx σ k hk4 code G hI) (cwV 2 hts gX5_abort_X5_breakOff rfl rfl rfl (by decide +kernel) ⟨Nat.le_of_ble_eq_true rfl, Nat.le_of_ble_eq_true rfl⟩) hK hP hD hS hA 0 (ci := 5) rfl rfl cr_obj hl.1 dX5_abort_14 rfl rfl (Nat.le_of_ble_eq_true rfl) ⟨Nat.zero_le _, Nat.zero_le _⟩ (fun _ H locs hw hP hS => ?_)
    obtain ⟨σ2, eσ2⟩ : ∃ z, z = pBreak σ k code := ⟨_, rfl⟩
    have hP : va_P D vwCl (FW 22 ad (CR cs n ad th nx σ2)) H := by rw [eσ2]; exact hP
    refine lv_iconst (v := 0) hx hb dX5_abort_17 (by decide) ?_
    exact hret _ _ _ _ () _ _ dX5_abort_18 hP hS (Or.inl rfl) ((bI_n c1).symm) (by rw [if_neg c1]; simp only [eσ2]; first | done | rfl)
  · refine lv_iconst (v := 1) hx hb dX5_abort_9 (by decide) ?_
    exact hret _ _ _ _ () _ _ dX5_abort_10 hP hS (Or.inr rfl) ((bI_d c1).symm) (by rw [if_pos c1])

theorem iwX5_does_X5 : ∀ w ∈ wsX50, w ∈ wsX5_does := fun w h => by unfold wsX5_does; simp only [List.mem_cons, List.mem_append, h, true_or, or_true]
theorem lkX5_does_13 : Cond.fieldLink RX5 13 "CoreTransactionsModel" "operations" "[I" ∈ wsX5_does := by decide +kernel
theorem lkX5_does_16 : Cond.fieldLink RX5 16 "CoreTransactionsModel" "as" "[I" ∈ wsX5_does := by decide +kernel
theorem lkX5_does_19 : Cond.fieldLink RX5 19 "CoreTransactionsModel" "bs" "[I" ∈ wsX5_does := by decide +kernel
theorem lkX5_does_22 : Cond.fieldLink RX5 22 "CoreTransactionsModel" "cs" "[I" ∈ wsX5_does := by decide +kernel
theorem lkX5_does_28 : Cond.fieldLink RX5 28 "CoreTransactionsModel" "ended" "[Z" ∈ wsX5_does := by decide +kernel
theorem lkX5_does_38 : Cond.fieldLink RX5 38 "CoreTransactionsModel" "depths" "[I" ∈ wsX5_does := by decide +kernel
theorem lkX5_does_161 : Cond.fieldLink RX5 161 "CoreTransactionsModel" "next" "I" ∈ wsX5_does := by decide +kernel
abbrev rmX5_does : Room := ({ frames := 5, cells := 0, slots := 0, locals := 117 } : Room)
set_option maxRecDepth 100000 in
set_option maxHeartbeats 4000000 in
theorem kX5_does (l : Launch) (D : va_G) (cs : Nat → ClassId) (n : Nat) (ad : Nat → Nat) (th nx : Int32) (σ : St) (k : Nat) (hk4 : k < 4) (hn4 : n ≤ 4) (i o : Nat) (hi80 : i < 80) (ho : σ.1 1 0 i = nI o) (ho13 : o ≤ 13) (hok : okI σ i) (G : Nat) (hI : Inv σ G) (hnx : nx = nI i + 1) : gMi l yX5_does wsX5_does rmX5_does D (tyL cs) 22 ad (CR cs n ad th nx σ) [.ref (ad 0), .int (nI k), .int (nI i)] (fun (r : Int32) (u : Int32) => r = bI (pDoes σ n k i).2.2 ∧ ((pDoes σ n k i).2.2 = true → u = (pDoes σ n k i).2.1)) (fun (u : Int32) => CR cs n ad th u (pDoes σ n k i).1) := by
  refine g_ofz (cc := cX5_does) (maxL := 6) (by decide) rfl (Nat.le_of_ble_eq_true rfl) rfl rfl ?_
  intro p e s m args below meth c A ls Q hx hb hml hts hown hK hP hD hA hS hl hret
  have hl : lv_has ls 6 [(0, .ref (ad 0)), (1, .int (nI k)), (2, .int (nI i))] := hl
  refine lv_aload_n hx hb dX5_does_0 rfl (lv_at hl 0 rfl) ?_
  refine va_get (D := D) (ci := 5) (v := .ref (ad 3)) (C := RX5) (T := TX5) (N := 29) hx hb hts iwX5_does_X5 hown hK hP 0 cr_obj rfl 7 (by decide) (hts _ lkX5_does_16) (fun _ h9 => h9) rfl dX5_does_1 ?_
  refine lv_iload_n hx hb dX5_does_4 rfl (lv_at hl 2 rfl) ?_
  refine g_iald (t0 := 0) (v := σ.1 2 0 i) hx hb hK hP cr_as rfl i rfl hi80 (by decide) rfl dX5_does_5 ?_
  refine lv_istore_n (lv' := [(3, .int (σ.1 2 0 i)), (0, .ref (ad 0)), (1, .int (nI k)), (2, .int (nI i))]) hx hb dX5_does_6 rfl hl (by decide) rfl (fun ls hl => ?_)
  refine lv_aload_n hx hb dX5_does_7 rfl (lv_at hl 1 rfl) ?_
  refine va_get (D := D) (ci := 5) (v := .ref (ad 4)) (C := RX5) (T := TX5) (N := 29) hx hb hts iwX5_does_X5 hown hK hP 0 cr_obj rfl 8 (by decide) (hts _ lkX5_does_19) (fun _ h9 => h9) rfl dX5_does_8 ?_
  refine lv_iload_n hx hb dX5_does_11 rfl (lv_at hl 3 rfl) ?_
  refine g_iald (t0 := 0) (v := σ.1 3 0 i) hx hb hK hP cr_bs rfl i rfl hi80 (by decide) rfl dX5_does_12 ?_
  refine lv_istore (lv' := [(4, .int (σ.1 3 0 i)), (3, .int (σ.1 2 0 i)), (0, .ref (ad 0)), (1, .int (nI k)), (2, .int (nI i))]) hx hb dX5_does_13 hl (by decide) rfl (fun ls hl => ?_)
  refine lv_aload_n hx hb dX5_does_15 rfl (lv_at hl 2 rfl) ?_
  refine va_get (D := D) (ci := 5) (v := .ref (ad 5)) (C := RX5) (T := TX5) (N := 29) hx hb hts iwX5_does_X5 hown hK hP 0 cr_obj rfl 9 (by decide) (hts _ lkX5_does_22) (fun _ h9 => h9) rfl dX5_does_16 ?_
  refine lv_iload_n hx hb dX5_does_19 rfl (lv_at hl 4 rfl) ?_
  refine g_iald (t0 := 0) (v := σ.1 4 0 i) hx hb hK hP cr_cs rfl i rfl hi80 (by decide) rfl dX5_does_20 ?_
  refine lv_istore (lv' := [(5, .int (σ.1 4 0 i)), (4, .int (σ.1 3 0 i)), (3, .int (σ.1 2 0 i)), (0, .ref (ad 0)), (1, .int (nI k)), (2, .int (nI i))]) hx hb dX5_does_21 hl (by decide) rfl (fun ls hl => ?_)
  refine lv_aload_n hx hb dX5_does_23 rfl (lv_at hl 3 rfl) ?_
  refine va_get (D := D) (ci := 5) (v := .ref (ad 2)) (C := RX5) (T := TX5) (N := 29) hx hb hts iwX5_does_X5 hown hK hP 0 cr_obj rfl 6 (by decide) (hts _ lkX5_does_13) (fun _ h9 => h9) rfl dX5_does_24 ?_
  refine lv_iload_n hx hb dX5_does_27 rfl (lv_at hl 5 rfl) ?_
  refine g_iald (t0 := 0) (v := σ.1 1 0 i) hx hb hK hP cr_ops rfl i rfl hi80 (by decide) rfl dX5_does_28 ?_
  rcases (show o = 0 ∨ o = 1 ∨ o = 2 ∨ o = 3 ∨ o = 4 ∨ o = 5 ∨ o = 6 ∨ o = 7 ∨ o = 8 ∨ o = 9 ∨ o = 10 ∨ o = 11 ∨ o = 12 ∨ o = 13 by omega) with hov | hov | hov | hov | hov | hov | hov | hov | hov | hov | hov | hov | hov | hov
  · have hop : σ.1 1 0 i = 0 := by rw [ho, hov]; rfl
    refine g_top (y := 0) hop ?_
    refine lv_tableIn (tgt := 100) hx hb dX5_does_29 (by decide) (by decide) rfl (by decide) ?_
    obtain ⟨a, ha8, hae⟩ := isR_nI (hok.2.2.1 (Or.inl (by rw [hop]; decide)))
    have hdo := doe_0 (n := n) (k := k) hop
    rw [hae, iN_nI (show a < 2 ^ 31 by omega)] at hdo
    refine lv_aload_n hx hb dX5_does_100 rfl (lv_at hl 3 rfl) ?_
    refine lv_iload_n hx hb dX5_does_101 rfl (lv_at hl 4 rfl) ?_
    refine lv_iload_n hx hb dX5_does_102 rfl (lv_at hl 2 rfl) ?_
    refine g_top (y := nI a) (hae) ?_
    refine lv_iload hx hb dX5_does_103 (lv_at hl 0 rfl) ?_
    refine g_cvv (As := [.int (nI k), .int (nI a), .int (σ.1 4 0 i)]) ⟨hx, hb, hml, hown, hts⟩ (kX5_give l D cs n ad th nx σ k hk4 a ha8 (σ.1 4 0 i)) (cwV 3 hts gX5_does_X5_give rfl rfl rfl (by decide +kernel) ⟨Nat.le_of_ble_eq_true rfl, Nat.le_of_ble_eq_true rfl⟩) hK hP hD hS hA 0 (ci := 5) rfl rfl cr_obj hl.1 dX5_does_105 rfl rfl (Nat.le_of_ble_eq_true rfl) ⟨Nat.zero_le _, Nat.zero_le _⟩ (fun _ H locs hw hP hS => ?_)
    obtain ⟨σ1, eσ1⟩ : ∃ z, z = pGive σ k a (σ.1 4 0 i) := ⟨_, rfl⟩
    have hP : va_P D vwCl (FW 22 ad (CR cs n ad th nx σ1)) H := by rw [eσ1]; exact hP
    refine lv_iconst (v := 1) hx hb dX5_does_108 (by decide) ?_
    exact hret _ _ _ _ nx _ _ dX5_does_109 hP hS (Or.inr rfl) (by rw [hdo]; exact ⟨rfl, fun _ => hnx⟩) (by rw [hdo]; simp only [eσ1]; first | done | rfl)
  · have hop : σ.1 1 0 i = 1 := by rw [ho, hov]; rfl
    refine g_top (y := 1) hop ?_
    refine lv_tableIn (tgt := 110) hx hb dX5_does_29 (by decide) (by decide) rfl (by decide) ?_
    obtain ⟨a, ha8, hae⟩ := isR_nI (hok.2.2.1 (Or.inl (by rw [hop]; decide)))
    obtain ⟨b, hb8, hbe⟩ := isR_nI (hok.2.2.2.1 ⟨by rw [hop]; decide, by rw [hop]; decide⟩)
    obtain ⟨d, hd8, hde⟩ := isR_nI (hok.2.2.2.2 ⟨by rw [hop]; decide, by rw [hop]; decide⟩)
    have hdo := doe_1 (n := n) (k := k) hop
    rw [hae, hbe, hde, iN_nI (show a < 2 ^ 31 by omega), iN_nI (show b < 2 ^ 31 by omega), iN_nI (show d < 2 ^ 31 by omega)] at hdo
    refine lv_aload_n hx hb dX5_does_110 rfl (lv_at hl 3 rfl) ?_
    refine lv_iload_n hx hb dX5_does_111 rfl (lv_at hl 4 rfl) ?_
    refine lv_iload_n hx hb dX5_does_112 rfl (lv_at hl 2 rfl) ?_
    refine g_top (y := nI a) (hae) ?_
    refine lv_aload_n hx hb dX5_does_113 rfl (lv_at hl 3 rfl) ?_
    refine lv_iload_n hx hb dX5_does_114 rfl (lv_at hl 4 rfl) ?_
    refine lv_iload hx hb dX5_does_115 (lv_at hl 1 rfl) ?_
    refine g_top (y := nI b) (hbe) ?_
    refine g_cvi (As := [.int (nI k), .int (nI b)]) ⟨hx, hb, hml, hown, hts⟩ (kX5_get l D cs n ad th nx σ k hk4 b hb8 (hI.2.2.2.2.2 k hk4).1) (cwV 2 hts gX5_does_X5_get rfl rfl rfl (by decide +kernel) ⟨Nat.le_of_ble_eq_true rfl, Nat.le_of_ble_eq_true rfl⟩) hK hP hD hS hA 0 (ci := 5) rfl rfl cr_obj hl.1 dX5_does_117 rfl rfl (Nat.le_of_ble_eq_true rfl) ⟨Nat.zero_le _, Nat.zero_le _⟩ (fun r _ H locs hw hP hS => ?_)
    obtain rfl : r = σ.1 10 k b := hw
    have hP : va_P D vwCl (FW 22 ad (CR cs n ad th nx σ)) H := hP
    refine lv_aload_n hx hb dX5_does_120 rfl (lv_at hl 3 rfl) ?_
    refine lv_iload_n hx hb dX5_does_121 rfl (lv_at hl 4 rfl) ?_
    refine lv_iload hx hb dX5_does_122 (lv_at hl 0 rfl) ?_
    refine g_top (y := nI d) (hde) ?_
    refine g_cvi (As := [.int (nI k), .int (nI d)]) ⟨hx, hb, hml, hown, hts⟩ (kX5_get l D cs n ad th nx σ k hk4 d hd8 (hI.2.2.2.2.2 k hk4).1) (cwV 2 hts gX5_does_X5_get rfl rfl rfl (by decide +kernel) ⟨Nat.le_of_ble_eq_true rfl, Nat.le_of_ble_eq_true rfl⟩) hK hP hD hS hA 0 (ci := 5) rfl rfl cr_obj hl.1 dX5_does_124 rfl rfl (Nat.le_of_ble_eq_true rfl) ⟨Nat.zero_le _, Nat.zero_le _⟩ (fun r _ H locs hw hP hS => ?_)
    obtain rfl : r = σ.1 10 k d := hw
    have hP : va_P D vwCl (FW 22 ad (CR cs n ad th nx σ)) H := hP
    refine lv_iadd hx hb dX5_does_127 ?_
    refine g_cvv (As := [.int (nI k), .int (nI a), .int ((σ.1 10 k b) + (σ.1 10 k d))]) ⟨hx, hb, hml, hown, hts⟩ (kX5_give l D cs n ad th nx σ k hk4 a ha8 (σ.1 10 k b + σ.1 10 k d)) (cwV 3 hts gX5_does_X5_give rfl rfl rfl (by decide +kernel) ⟨Nat.le_of_ble_eq_true rfl, Nat.le_of_ble_eq_true rfl⟩) hK hP hD hS hA 0 (ci := 5) rfl rfl cr_obj hl.1 dX5_does_128 rfl rfl (Nat.le_of_ble_eq_true rfl) ⟨Nat.zero_le _, Nat.zero_le _⟩ (fun _ H locs hw hP hS => ?_)
    obtain ⟨σ2, eσ2⟩ : ∃ z, z = pGive σ k a (σ.1 10 k b + σ.1 10 k d) := ⟨_, rfl⟩
    have hP : va_P D vwCl (FW 22 ad (CR cs n ad th nx σ2)) H := by rw [eσ2]; exact hP
    refine lv_iconst (v := 1) hx hb dX5_does_131 (by decide) ?_
    exact hret _ _ _ _ nx _ _ dX5_does_132 hP hS (Or.inr rfl) (by rw [hdo]; exact ⟨rfl, fun _ => hnx⟩) (by rw [hdo]; simp only [eσ2]; first | done | rfl)
  · have hop : σ.1 1 0 i = 2 := by rw [ho, hov]; rfl
    refine g_top (y := 2) hop ?_
    refine lv_tableIn (tgt := 133) hx hb dX5_does_29 (by decide) (by decide) rfl (by decide) ?_
    obtain ⟨a, ha8, hae⟩ := isR_nI (hok.2.2.1 (Or.inl (by rw [hop]; decide)))
    obtain ⟨b, hb8, hbe⟩ := isR_nI (hok.2.2.2.1 ⟨by rw [hop]; decide, by rw [hop]; decide⟩)
    obtain ⟨d, hd8, hde⟩ := isR_nI (hok.2.2.2.2 ⟨by rw [hop]; decide, by rw [hop]; decide⟩)
    have hdo := doe_2 (n := n) (k := k) hop
    rw [hae, hbe, hde, iN_nI (show a < 2 ^ 31 by omega), iN_nI (show b < 2 ^ 31 by omega), iN_nI (show d < 2 ^ 31 by omega)] at hdo
    refine lv_aload_n hx hb dX5_does_133 rfl (lv_at hl 3 rfl) ?_
    refine lv_iload_n hx hb dX5_does_134 rfl (lv_at hl 4 rfl) ?_
    refine lv_iload_n hx hb dX5_does_135 rfl (lv_at hl 2 rfl) ?_
    refine g_top (y := nI a) (hae) ?_
    refine lv_aload_n hx hb dX5_does_136 rfl (lv_at hl 3 rfl) ?_
    refine lv_iload_n hx hb dX5_does_137 rfl (lv_at hl 4 rfl) ?_
    refine lv_iload hx hb dX5_does_138 (lv_at hl 1 rfl) ?_
    refine g_top (y := nI b) (hbe) ?_
    refine g_cvi (As := [.int (nI k), .int (nI b)]) ⟨hx, hb, hml, hown, hts⟩ (kX5_get l D cs n ad th nx σ k hk4 b hb8 (hI.2.2.2.2.2 k hk4).1) (cwV 2 hts gX5_does_X5_get rfl rfl rfl (by decide +kernel) ⟨Nat.le_of_ble_eq_true rfl, Nat.le_of_ble_eq_true rfl⟩) hK hP hD hS hA 0 (ci := 5) rfl rfl cr_obj hl.1 dX5_does_140 rfl rfl (Nat.le_of_ble_eq_true rfl) ⟨Nat.zero_le _, Nat.zero_le _⟩ (fun r _ H locs hw hP hS => ?_)
    obtain rfl : r = σ.1 10 k b := hw
    have hP : va_P D vwCl (FW 22 ad (CR cs n ad th nx σ)) H := hP
    refine lv_aload_n hx hb dX5_does_143 rfl (lv_at hl 3 rfl) ?_
    refine lv_iload_n hx hb dX5_does_144 rfl (lv_at hl 4 rfl) ?_
    refine lv_iload hx hb dX5_does_145 (lv_at hl 0 rfl) ?_
    refine g_top (y := nI d) (hde) ?_
    refine g_cvi (As := [.int (nI k), .int (nI d)]) ⟨hx, hb, hml, hown, hts⟩ (kX5_get l D cs n ad th nx σ k hk4 d hd8 (hI.2.2.2.2.2 k hk4).1) (cwV 2 hts gX5_does_X5_get rfl rfl rfl (by decide +kernel) ⟨Nat.le_of_ble_eq_true rfl, Nat.le_of_ble_eq_true rfl⟩) hK hP hD hS hA 0 (ci := 5) rfl rfl cr_obj hl.1 dX5_does_147 rfl rfl (Nat.le_of_ble_eq_true rfl) ⟨Nat.zero_le _, Nat.zero_le _⟩ (fun r _ H locs hw hP hS => ?_)
    obtain rfl : r = σ.1 10 k d := hw
    have hP : va_P D vwCl (FW 22 ad (CR cs n ad th nx σ)) H := hP
    refine lv_isub hx hb dX5_does_150 ?_
    refine g_cvv (As := [.int (nI k), .int (nI a), .int ((σ.1 10 k b) - (σ.1 10 k d))]) ⟨hx, hb, hml, hown, hts⟩ (kX5_give l D cs n ad th nx σ k hk4 a ha8 (σ.1 10 k b - σ.1 10 k d)) (cwV 3 hts gX5_does_X5_give rfl rfl rfl (by decide +kernel) ⟨Nat.le_of_ble_eq_true rfl, Nat.le_of_ble_eq_true rfl⟩) hK hP hD hS hA 0 (ci := 5) rfl rfl cr_obj hl.1 dX5_does_151 rfl rfl (Nat.le_of_ble_eq_true rfl) ⟨Nat.zero_le _, Nat.zero_le _⟩ (fun _ H locs hw hP hS => ?_)
    obtain ⟨σ3, eσ3⟩ : ∃ z, z = pGive σ k a (σ.1 10 k b - σ.1 10 k d) := ⟨_, rfl⟩
    have hP : va_P D vwCl (FW 22 ad (CR cs n ad th nx σ3)) H := by rw [eσ3]; exact hP
    refine lv_iconst (v := 1) hx hb dX5_does_154 (by decide) ?_
    exact hret _ _ _ _ nx _ _ dX5_does_155 hP hS (Or.inr rfl) (by rw [hdo]; exact ⟨rfl, fun _ => hnx⟩) (by rw [hdo]; simp only [eσ3]; first | done | rfl)
  · have hop : σ.1 1 0 i = 3 := by rw [ho, hov]; rfl
    refine g_top (y := 3) hop ?_
    refine lv_tableIn (tgt := 156) hx hb dX5_does_29 (by decide) (by decide) rfl (by decide) ?_
    obtain ⟨a, ha8, hae⟩ := isR_nI (hok.2.2.1 (Or.inl (by rw [hop]; decide)))
    obtain ⟨b, hb8, hbe⟩ := isR_nI (hok.2.2.2.1 ⟨by rw [hop]; decide, by rw [hop]; decide⟩)
    obtain ⟨d, hd8, hde⟩ := isR_nI (hok.2.2.2.2 ⟨by rw [hop]; decide, by rw [hop]; decide⟩)
    have hdo := doe_3 (n := n) (k := k) hop
    rw [hae, hbe, hde, iN_nI (show a < 2 ^ 31 by omega), iN_nI (show b < 2 ^ 31 by omega), iN_nI (show d < 2 ^ 31 by omega)] at hdo
    refine lv_aload_n hx hb dX5_does_156 rfl (lv_at hl 3 rfl) ?_
    refine lv_iload_n hx hb dX5_does_157 rfl (lv_at hl 4 rfl) ?_
    refine lv_iload_n hx hb dX5_does_158 rfl (lv_at hl 2 rfl) ?_
    refine g_top (y := nI a) (hae) ?_
    refine lv_aload_n hx hb dX5_does_159 rfl (lv_at hl 3 rfl) ?_
    refine lv_iload_n hx hb dX5_does_160 rfl (lv_at hl 4 rfl) ?_
    refine lv_iload hx hb dX5_does_161 (lv_at hl 1 rfl) ?_
    refine g_top (y := nI b) (hbe) ?_
    refine g_cvi (As := [.int (nI k), .int (nI b)]) ⟨hx, hb, hml, hown, hts⟩ (kX5_get l D cs n ad th nx σ k hk4 b hb8 (hI.2.2.2.2.2 k hk4).1) (cwV 2 hts gX5_does_X5_get rfl rfl rfl (by decide +kernel) ⟨Nat.le_of_ble_eq_true rfl, Nat.le_of_ble_eq_true rfl⟩) hK hP hD hS hA 0 (ci := 5) rfl rfl cr_obj hl.1 dX5_does_163 rfl rfl (Nat.le_of_ble_eq_true rfl) ⟨Nat.zero_le _, Nat.zero_le _⟩ (fun r _ H locs hw hP hS => ?_)
    obtain rfl : r = σ.1 10 k b := hw
    have hP : va_P D vwCl (FW 22 ad (CR cs n ad th nx σ)) H := hP
    refine lv_aload_n hx hb dX5_does_166 rfl (lv_at hl 3 rfl) ?_
    refine lv_iload_n hx hb dX5_does_167 rfl (lv_at hl 4 rfl) ?_
    refine lv_iload hx hb dX5_does_168 (lv_at hl 0 rfl) ?_
    refine g_top (y := nI d) (hde) ?_
    refine g_cvi (As := [.int (nI k), .int (nI d)]) ⟨hx, hb, hml, hown, hts⟩ (kX5_get l D cs n ad th nx σ k hk4 d hd8 (hI.2.2.2.2.2 k hk4).1) (cwV 2 hts gX5_does_X5_get rfl rfl rfl (by decide +kernel) ⟨Nat.le_of_ble_eq_true rfl, Nat.le_of_ble_eq_true rfl⟩) hK hP hD hS hA 0 (ci := 5) rfl rfl cr_obj hl.1 dX5_does_170 rfl rfl (Nat.le_of_ble_eq_true rfl) ⟨Nat.zero_le _, Nat.zero_le _⟩ (fun r _ H locs hw hP hS => ?_)
    obtain rfl : r = σ.1 10 k d := hw
    have hP : va_P D vwCl (FW 22 ad (CR cs n ad th nx σ)) H := hP
    refine lv_imul hx hb dX5_does_173 ?_
    refine g_cvv (As := [.int (nI k), .int (nI a), .int ((σ.1 10 k b) * (σ.1 10 k d))]) ⟨hx, hb, hml, hown, hts⟩ (kX5_give l D cs n ad th nx σ k hk4 a ha8 (σ.1 10 k b * σ.1 10 k d)) (cwV 3 hts gX5_does_X5_give rfl rfl rfl (by decide +kernel) ⟨Nat.le_of_ble_eq_true rfl, Nat.le_of_ble_eq_true rfl⟩) hK hP hD hS hA 0 (ci := 5) rfl rfl cr_obj hl.1 dX5_does_174 rfl rfl (Nat.le_of_ble_eq_true rfl) ⟨Nat.zero_le _, Nat.zero_le _⟩ (fun _ H locs hw hP hS => ?_)
    obtain ⟨σ4, eσ4⟩ : ∃ z, z = pGive σ k a (σ.1 10 k b * σ.1 10 k d) := ⟨_, rfl⟩
    have hP : va_P D vwCl (FW 22 ad (CR cs n ad th nx σ4)) H := by rw [eσ4]; exact hP
    refine lv_iconst (v := 1) hx hb dX5_does_177 (by decide) ?_
    exact hret _ _ _ _ nx _ _ dX5_does_178 hP hS (Or.inr rfl) (by rw [hdo]; exact ⟨rfl, fun _ => hnx⟩) (by rw [hdo]; simp only [eσ4]; first | done | rfl)
  · have hop : σ.1 1 0 i = 4 := by rw [ho, hov]; rfl
    refine g_top (y := 4) hop ?_
    refine lv_tableIn (tgt := 179) hx hb dX5_does_29 (by decide) (by decide) rfl (by decide) ?_
    obtain ⟨a, ha8, hae⟩ := isR_nI (hok.2.2.1 (Or.inl (by rw [hop]; decide)))
    obtain ⟨b, hb8, hbe⟩ := isR_nI (hok.2.2.2.1 ⟨by rw [hop]; decide, by rw [hop]; decide⟩)
    have hdo := doe_4 (n := n) (k := k) hop
    rw [hae, hbe, iN_nI (show a < 2 ^ 31 by omega), iN_nI (show b < 2 ^ 31 by omega)] at hdo
    refine lv_aload_n hx hb dX5_does_179 rfl (lv_at hl 3 rfl) ?_
    refine lv_iload_n hx hb dX5_does_180 rfl (lv_at hl 4 rfl) ?_
    refine lv_iload_n hx hb dX5_does_181 rfl (lv_at hl 2 rfl) ?_
    refine g_top (y := nI a) (hae) ?_
    refine lv_aload_n hx hb dX5_does_182 rfl (lv_at hl 3 rfl) ?_
    refine lv_iload_n hx hb dX5_does_183 rfl (lv_at hl 4 rfl) ?_
    refine lv_iload hx hb dX5_does_184 (lv_at hl 1 rfl) ?_
    refine g_top (y := nI b) (hbe) ?_
    refine g_cvi (As := [.int (nI k), .int (nI b)]) ⟨hx, hb, hml, hown, hts⟩ (kX5_get l D cs n ad th nx σ k hk4 b hb8 (hI.2.2.2.2.2 k hk4).1) (cwV 2 hts gX5_does_X5_get rfl rfl rfl (by decide +kernel) ⟨Nat.le_of_ble_eq_true rfl, Nat.le_of_ble_eq_true rfl⟩) hK hP hD hS hA 0 (ci := 5) rfl rfl cr_obj hl.1 dX5_does_186 rfl rfl (Nat.le_of_ble_eq_true rfl) ⟨Nat.zero_le _, Nat.zero_le _⟩ (fun r _ H locs hw hP hS => ?_)
    obtain rfl : r = σ.1 10 k b := hw
    have hP : va_P D vwCl (FW 22 ad (CR cs n ad th nx σ)) H := hP
    refine lv_iload hx hb dX5_does_189 (lv_at hl 0 rfl) ?_
    refine lv_iadd hx hb dX5_does_191 ?_
    refine g_cvv (As := [.int (nI k), .int (nI a), .int ((σ.1 10 k b) + (σ.1 4 0 i))]) ⟨hx, hb, hml, hown, hts⟩ (kX5_give l D cs n ad th nx σ k hk4 a ha8 (σ.1 10 k b + σ.1 4 0 i)) (cwV 3 hts gX5_does_X5_give rfl rfl rfl (by decide +kernel) ⟨Nat.le_of_ble_eq_true rfl, Nat.le_of_ble_eq_true rfl⟩) hK hP hD hS hA 0 (ci := 5) rfl rfl cr_obj hl.1 dX5_does_192 rfl rfl (Nat.le_of_ble_eq_true rfl) ⟨Nat.zero_le _, Nat.zero_le _⟩ (fun _ H locs hw hP hS => ?_)
    obtain ⟨σ5, eσ5⟩ : ∃ z, z = pGive σ k a (σ.1 10 k b + σ.1 4 0 i) := ⟨_, rfl⟩
    have hP : va_P D vwCl (FW 22 ad (CR cs n ad th nx σ5)) H := by rw [eσ5]; exact hP
    refine lv_iconst (v := 1) hx hb dX5_does_195 (by decide) ?_
    exact hret _ _ _ _ nx _ _ dX5_does_196 hP hS (Or.inr rfl) (by rw [hdo]; exact ⟨rfl, fun _ => hnx⟩) (by rw [hdo]; simp only [eσ5]; first | done | rfl)
  · have hop : σ.1 1 0 i = 5 := by rw [ho, hov]; rfl
    refine g_top (y := 5) hop ?_
    refine lv_tableIn (tgt := 197) hx hb dX5_does_29 (by decide) (by decide) rfl (by decide) ?_
    obtain ⟨a, ha8, hae⟩ := isR_nI (hok.2.2.1 (Or.inl (by rw [hop]; decide)))
    obtain ⟨b, hb8, hbe⟩ := isR_nI (hok.2.2.2.1 ⟨by rw [hop]; decide, by rw [hop]; decide⟩)
    have hdo := doe_5 (n := n) (k := k) hop
    rw [hae, hbe, iN_nI (show a < 2 ^ 31 by omega), iN_nI (show b < 2 ^ 31 by omega)] at hdo
    refine lv_aload_n hx hb dX5_does_197 rfl (lv_at hl 3 rfl) ?_
    refine lv_iload_n hx hb dX5_does_198 rfl (lv_at hl 4 rfl) ?_
    refine lv_iload_n hx hb dX5_does_199 rfl (lv_at hl 2 rfl) ?_
    refine g_top (y := nI a) (hae) ?_
    refine lv_aload_n hx hb dX5_does_200 rfl (lv_at hl 3 rfl) ?_
    refine lv_iload_n hx hb dX5_does_201 rfl (lv_at hl 4 rfl) ?_
    refine lv_iload hx hb dX5_does_202 (lv_at hl 1 rfl) ?_
    refine g_top (y := nI b) (hbe) ?_
    refine g_cvi (As := [.int (nI k), .int (nI b)]) ⟨hx, hb, hml, hown, hts⟩ (kX5_get l D cs n ad th nx σ k hk4 b hb8 (hI.2.2.2.2.2 k hk4).1) (cwV 2 hts gX5_does_X5_get rfl rfl rfl (by decide +kernel) ⟨Nat.le_of_ble_eq_true rfl, Nat.le_of_ble_eq_true rfl⟩) hK hP hD hS hA 0 (ci := 5) rfl rfl cr_obj hl.1 dX5_does_204 rfl rfl (Nat.le_of_ble_eq_true rfl) ⟨Nat.zero_le _, Nat.zero_le _⟩ (fun r _ H locs hw hP hS => ?_)
    obtain rfl : r = σ.1 10 k b := hw
    have hP : va_P D vwCl (FW 22 ad (CR cs n ad th nx σ)) H := hP
    refine lv_iload hx hb dX5_does_207 (lv_at hl 0 rfl) ?_
    refine lv_iadd hx hb dX5_does_209 ?_
    refine g_cvi (As := [.int (nI k), .int (nI a), .int ((σ.1 10 k b) + (σ.1 4 0 i))]) ⟨hx, hb, hml, hown, hts⟩ (kX5_load l D cs n ad th nx σ k hk4 hn4 a ha8 (σ.1 10 k b + σ.1 4 0 i) G hI) (cwV 3 hts gX5_does_X5_load rfl rfl rfl (by decide +kernel) ⟨Nat.le_of_ble_eq_true rfl, Nat.le_of_ble_eq_true rfl⟩) hK hP hD hS hA 0 (ci := 5) rfl rfl cr_obj hl.1 dX5_does_210 rfl rfl (Nat.le_of_ble_eq_true rfl) ⟨Nat.zero_le _, Nat.zero_le _⟩ (fun r _ H locs hw hP hS => ?_)
    obtain rfl : r = bI (pMay σ n k (σ.1 10 k b + σ.1 4 0 i) false).2 := hw
    obtain ⟨σ6, eσ6⟩ : ∃ z, z = if (pMay σ n k (σ.1 10 k b + σ.1 4 0 i) false).2 = true then pGive (pMay σ n k (σ.1 10 k b + σ.1 4 0 i) false).1 k a (pSeen (pMay σ n k (σ.1 10 k b + σ.1 4 0 i) false).1 k (iN (σ.1 10 k b + σ.1 4 0 i))) else (pMay σ n k (σ.1 10 k b + σ.1 4 0 i) false).1 := ⟨_, rfl⟩
    have hP : va_P D vwCl (FW 22 ad (CR cs n ad th nx σ6)) H := by rw [eσ6]; exact hP
    exact hret _ _ _ _ nx _ _ dX5_does_213 hP hS (zq_bI _) (by rw [hdo]; split <;> rename_i h9 <;> simp only [h9] <;> exact ⟨by first | rfl | trivial, fun _ => hnx⟩) (by rw [hdo]; simp only [eσ6]; split <;> rfl)
  · have hop : σ.1 1 0 i = 6 := by rw [ho, hov]; rfl
    refine g_top (y := 6) hop ?_
    refine lv_tableIn (tgt := 214) hx hb dX5_does_29 (by decide) (by decide) rfl (by decide) ?_
    obtain ⟨a, ha8, hae⟩ := isR_nI (hok.2.2.1 (Or.inl (by rw [hop]; decide)))
    obtain ⟨b, hb8, hbe⟩ := isR_nI (hok.2.2.2.1 ⟨by rw [hop]; decide, by rw [hop]; decide⟩)
    have hdo := doe_6 (n := n) (k := k) hop
    rw [hae, hbe, iN_nI (show a < 2 ^ 31 by omega), iN_nI (show b < 2 ^ 31 by omega)] at hdo
    refine lv_aload_n hx hb dX5_does_214 rfl (lv_at hl 3 rfl) ?_
    refine lv_iload_n hx hb dX5_does_215 rfl (lv_at hl 4 rfl) ?_
    refine lv_iload_n hx hb dX5_does_216 rfl (lv_at hl 2 rfl) ?_
    refine g_top (y := nI a) (hae) ?_
    refine lv_aload_n hx hb dX5_does_217 rfl (lv_at hl 3 rfl) ?_
    refine lv_iload_n hx hb dX5_does_218 rfl (lv_at hl 4 rfl) ?_
    refine lv_iload hx hb dX5_does_219 (lv_at hl 1 rfl) ?_
    refine g_top (y := nI b) (hbe) ?_
    refine g_cvi (As := [.int (nI k), .int (nI b)]) ⟨hx, hb, hml, hown, hts⟩ (kX5_get l D cs n ad th nx σ k hk4 b hb8 (hI.2.2.2.2.2 k hk4).1) (cwV 2 hts gX5_does_X5_get rfl rfl rfl (by decide +kernel) ⟨Nat.le_of_ble_eq_true rfl, Nat.le_of_ble_eq_true rfl⟩) hK hP hD hS hA 0 (ci := 5) rfl rfl cr_obj hl.1 dX5_does_221 rfl rfl (Nat.le_of_ble_eq_true rfl) ⟨Nat.zero_le _, Nat.zero_le _⟩ (fun r _ H locs hw hP hS => ?_)
    obtain rfl : r = σ.1 10 k b := hw
    have hP : va_P D vwCl (FW 22 ad (CR cs n ad th nx σ)) H := hP
    refine lv_iload hx hb dX5_does_224 (lv_at hl 0 rfl) ?_
    refine lv_iadd hx hb dX5_does_226 ?_
    refine g_cvi (As := [.int (nI k), .int (nI a), .int ((σ.1 10 k b) + (σ.1 4 0 i))]) ⟨hx, hb, hml, hown, hts⟩ (kX5_store l D cs n ad th nx σ k hk4 hn4 a ha8 (σ.1 10 k b + σ.1 4 0 i) G hI) (cwV 3 hts gX5_does_X5_store rfl rfl rfl (by decide +kernel) ⟨Nat.le_of_ble_eq_true rfl, Nat.le_of_ble_eq_true rfl⟩) hK hP hD hS hA 0 (ci := 5) rfl rfl cr_obj hl.1 dX5_does_227 rfl rfl (Nat.le_of_ble_eq_true rfl) ⟨Nat.zero_le _, Nat.zero_le _⟩ (fun r _ H locs hw hP hS => ?_)
    obtain rfl : r = bI (pMay σ n k (σ.1 10 k b + σ.1 4 0 i) true).2 := hw
    obtain ⟨σ7, eσ7⟩ : ∃ z, z = if (pMay σ n k (σ.1 10 k b + σ.1 4 0 i) true).2 = true then pWrite (pMay σ n k (σ.1 10 k b + σ.1 4 0 i) true).1 k (iN (σ.1 10 k b + σ.1 4 0 i)) (σ.1 10 k a) else (pMay σ n k (σ.1 10 k b + σ.1 4 0 i) true).1 := ⟨_, rfl⟩
    have hP : va_P D vwCl (FW 22 ad (CR cs n ad th nx σ7)) H := by rw [eσ7]; exact hP
    exact hret _ _ _ _ nx _ _ dX5_does_230 hP hS (zq_bI _) (by rw [hdo]; split <;> rename_i h9 <;> simp only [h9] <;> exact ⟨by first | rfl | trivial, fun _ => hnx⟩) (by rw [hdo]; simp only [eσ7]; split <;> rfl)
  · have hop : σ.1 1 0 i = 7 := by rw [ho, hov]; rfl
    refine g_top (y := 7) hop ?_
    refine lv_tableIn (tgt := 231) hx hb dX5_does_29 (by decide) (by decide) rfl (by decide) ?_
    obtain ⟨a, ha8, hae⟩ := isR_nI (hok.2.2.1 (Or.inl (by rw [hop]; decide)))
    obtain ⟨b, hb8, hbe⟩ := isR_nI (hok.2.2.2.1 ⟨by rw [hop]; decide, by rw [hop]; decide⟩)
    have hdo := doe_7 (n := n) (k := k) hop
    rw [hae, hbe, iN_nI (show a < 2 ^ 31 by omega), iN_nI (show b < 2 ^ 31 by omega)] at hdo
    refine lv_aload_n hx hb dX5_does_231 rfl (lv_at hl 3 rfl) ?_
    refine lv_aload_n hx hb dX5_does_232 rfl (lv_at hl 3 rfl) ?_
    refine lv_iload_n hx hb dX5_does_233 rfl (lv_at hl 4 rfl) ?_
    refine lv_iload_n hx hb dX5_does_234 rfl (lv_at hl 2 rfl) ?_
    refine g_top (y := nI a) (hae) ?_
    refine g_cvi (As := [.int (nI k), .int (nI a)]) ⟨hx, hb, hml, hown, hts⟩ (kX5_get l D cs n ad th nx σ k hk4 a ha8 (hI.2.2.2.2.2 k hk4).1) (cwV 2 hts gX5_does_X5_get rfl rfl rfl (by decide +kernel) ⟨Nat.le_of_ble_eq_true rfl, Nat.le_of_ble_eq_true rfl⟩) hK hP hD hS hA 0 (ci := 5) rfl rfl cr_obj hl.1 dX5_does_235 rfl rfl (Nat.le_of_ble_eq_true rfl) ⟨Nat.zero_le _, Nat.zero_le _⟩ (fun r _ H locs hw hP hS => ?_)
    obtain rfl : r = σ.1 10 k a := hw
    have hP : va_P D vwCl (FW 22 ad (CR cs n ad th nx σ)) H := hP
    refine lv_aload_n hx hb dX5_does_238 rfl (lv_at hl 3 rfl) ?_
    refine lv_iload_n hx hb dX5_does_239 rfl (lv_at hl 4 rfl) ?_
    refine lv_iload hx hb dX5_does_240 (lv_at hl 1 rfl) ?_
    refine g_top (y := nI b) (hbe) ?_
    refine g_cvi (As := [.int (nI k), .int (nI b)]) ⟨hx, hb, hml, hown, hts⟩ (kX5_get l D cs n ad th nx σ k hk4 b hb8 (hI.2.2.2.2.2 k hk4).1) (cwV 2 hts gX5_does_X5_get rfl rfl rfl (by decide +kernel) ⟨Nat.le_of_ble_eq_true rfl, Nat.le_of_ble_eq_true rfl⟩) hK hP hD hS hA 0 (ci := 5) rfl rfl cr_obj hl.1 dX5_does_242 rfl rfl (Nat.le_of_ble_eq_true rfl) ⟨Nat.zero_le _, Nat.zero_le _⟩ (fun r _ H locs hw hP hS => ?_)
    obtain rfl : r = σ.1 10 k b := hw
    have hP : va_P D vwCl (FW 22 ad (CR cs n ad th nx σ)) H := hP
    refine lv_icmp_ge (tgt := 253) hx hb dX5_does_245 (by decide) (fun c8 => ?_) (fun c8 => ?_)
    · rw [if_neg (Int32.not_lt.mpr c8)] at hdo
      refine lv_aload_n hx hb dX5_does_253 rfl (lv_at hl 3 rfl) ?_
      refine va_get (D := D) (ci := 5) (v := .int nx) (C := RX5) (T := TX5) (N := 29) hx hb hts iwX5_does_X5 hown hK hP 0 cr_obj rfl 28 (by decide) (hts _ lkX5_does_161) (fun _ h9 => h9) rfl dX5_does_254 ?_
      refine va_put (D := D) (ci := 5) (v := .int nx) (ty := .int) (C := RX5) (T := TX5) (N := 29) hx hb hts iwX5_does_X5 tyX5 tyX5_ok nmX5 hown hK hP (hD _) hS 0 cr_obj rfl 28 (by decide) (hts _ lkX5_does_161) (fun _ h9 => h9) rfl (by decide +kernel) rfl rfl (Nat.le_of_ble_eq_true rfl) dX5_does_257 (fun H locs hP _ hS => ?_)
      have hP := cru_nx hP
      have hP : va_P D vwCl (FW 22 ad (CR cs n ad th nx σ)) H := hP
      refine lv_iconst (v := 1) hx hb dX5_does_260 (by decide) ?_
      exact hret _ _ _ _ nx _ _ dX5_does_261 hP hS (Or.inr rfl) (by rw [hdo]; exact ⟨rfl, fun _ => by first | rfl | exact hnx⟩) (by rw [hdo]; first | done | rfl)
    · rw [if_pos (Int32.not_le.mp c8)] at hdo
      refine lv_iload hx hb dX5_does_248 (lv_at hl 0 rfl) ?_
      refine lv_goto (tgt := 257) hx hb dX5_does_250 (by decide) ?_
      refine va_put (D := D) (ci := 5) (v := .int (σ.1 4 0 i)) (ty := .int) (C := RX5) (T := TX5) (N := 29) hx hb hts iwX5_does_X5 tyX5 tyX5_ok nmX5 hown hK hP (hD _) hS 0 cr_obj rfl 28 (by decide) (hts _ lkX5_does_161) (fun _ h9 => h9) rfl (by decide +kernel) rfl rfl (Nat.le_of_ble_eq_true rfl) dX5_does_257 (fun H locs hP _ hS => ?_)
      have hP := cru_nx hP
      have hP : va_P D vwCl (FW 22 ad (CR cs n ad th (σ.1 4 0 i) σ)) H := hP
      refine lv_iconst (v := 1) hx hb dX5_does_260 (by decide) ?_
      exact hret _ _ _ _ (σ.1 4 0 i) _ _ dX5_does_261 hP hS (Or.inr rfl) (by rw [hdo]; exact ⟨rfl, fun _ => by first | rfl | exact hnx⟩) (by rw [hdo]; first | done | rfl)
  · have hop : σ.1 1 0 i = 8 := by rw [ho, hov]; rfl
    refine g_top (y := 8) hop ?_
    refine lv_tableIn (tgt := 262) hx hb dX5_does_29 (by decide) (by decide) rfl (by decide) ?_
    obtain ⟨a, ha8, hae⟩ := isR_nI (hok.2.2.1 (Or.inl (by rw [hop]; decide)))
    obtain ⟨b, hb8, hbe⟩ := isR_nI (hok.2.2.2.1 ⟨by rw [hop]; decide, by rw [hop]; decide⟩)
    have hdo := doe_8 (n := n) (k := k) hop
    rw [hae, hbe, iN_nI (show a < 2 ^ 31 by omega), iN_nI (show b < 2 ^ 31 by omega)] at hdo
    refine lv_aload_n hx hb dX5_does_262 rfl (lv_at hl 3 rfl) ?_
    refine lv_aload_n hx hb dX5_does_263 rfl (lv_at hl 3 rfl) ?_
    refine lv_iload_n hx hb dX5_does_264 rfl (lv_at hl 4 rfl) ?_
    refine lv_iload_n hx hb dX5_does_265 rfl (lv_at hl 2 rfl) ?_
    refine g_top (y := nI a) (hae) ?_
    refine g_cvi (As := [.int (nI k), .int (nI a)]) ⟨hx, hb, hml, hown, hts⟩ (kX5_get l D cs n ad th nx σ k hk4 a ha8 (hI.2.2.2.2.2 k hk4).1) (cwV 2 hts gX5_does_X5_get rfl rfl rfl (by decide +kernel) ⟨Nat.le_of_ble_eq_true rfl, Nat.le_of_ble_eq_true rfl⟩) hK hP hD hS hA 0 (ci := 5) rfl rfl cr_obj hl.1 dX5_does_266 rfl rfl (Nat.le_of_ble_eq_true rfl) ⟨Nat.zero_le _, Nat.zero_le _⟩ (fun r _ H locs hw hP hS => ?_)
    obtain rfl : r = σ.1 10 k a := hw
    have hP : va_P D vwCl (FW 22 ad (CR cs n ad th nx σ)) H := hP
    refine lv_aload_n hx hb dX5_does_269 rfl (lv_at hl 3 rfl) ?_
    refine lv_iload_n hx hb dX5_does_270 rfl (lv_at hl 4 rfl) ?_
    refine lv_iload hx hb dX5_does_271 (lv_at hl 1 rfl) ?_
    refine g_top (y := nI b) (hbe) ?_
    refine g_cvi (As := [.int (nI k), .int (nI b)]) ⟨hx, hb, hml, hown, hts⟩ (kX5_get l D cs n ad th nx σ k hk4 b hb8 (hI.2.2.2.2.2 k hk4).1) (cwV 2 hts gX5_does_X5_get rfl rfl rfl (by decide +kernel) ⟨Nat.le_of_ble_eq_true rfl, Nat.le_of_ble_eq_true rfl⟩) hK hP hD hS hA 0 (ci := 5) rfl rfl cr_obj hl.1 dX5_does_273 rfl rfl (Nat.le_of_ble_eq_true rfl) ⟨Nat.zero_le _, Nat.zero_le _⟩ (fun r _ H locs hw hP hS => ?_)
    obtain rfl : r = σ.1 10 k b := hw
    have hP : va_P D vwCl (FW 22 ad (CR cs n ad th nx σ)) H := hP
    refine lv_icmp_eq (tgt := 284) hx hb dX5_does_276 (by decide) (fun c9 => ?_) (fun c9 => ?_)
    · rw [if_neg (fun h => h c9)] at hdo
      refine lv_aload_n hx hb dX5_does_284 rfl (lv_at hl 3 rfl) ?_
      refine va_get (D := D) (ci := 5) (v := .int nx) (C := RX5) (T := TX5) (N := 29) hx hb hts iwX5_does_X5 hown hK hP 0 cr_obj rfl 28 (by decide) (hts _ lkX5_does_161) (fun _ h9 => h9) rfl dX5_does_285 ?_
      refine va_put (D := D) (ci := 5) (v := .int nx) (ty := .int) (C := RX5) (T := TX5) (N := 29) hx hb hts iwX5_does_X5 tyX5 tyX5_ok nmX5 hown hK hP (hD _) hS 0 cr_obj rfl 28 (by decide) (hts _ lkX5_does_161) (fun _ h9 => h9) rfl (by decide +kernel) rfl rfl (Nat.le_of_ble_eq_true rfl) dX5_does_288 (fun H locs hP _ hS => ?_)
      have hP := cru_nx hP
      have hP : va_P D vwCl (FW 22 ad (CR cs n ad th nx σ)) H := hP
      refine lv_iconst (v := 1) hx hb dX5_does_291 (by decide) ?_
      exact hret _ _ _ _ nx _ _ dX5_does_292 hP hS (Or.inr rfl) (by rw [hdo]; exact ⟨rfl, fun _ => by first | rfl | exact hnx⟩) (by rw [hdo]; first | done | rfl)
    · rw [if_pos c9] at hdo
      refine lv_iload hx hb dX5_does_279 (lv_at hl 0 rfl) ?_
      refine lv_goto (tgt := 288) hx hb dX5_does_281 (by decide) ?_
      refine va_put (D := D) (ci := 5) (v := .int (σ.1 4 0 i)) (ty := .int) (C := RX5) (T := TX5) (N := 29) hx hb hts iwX5_does_X5 tyX5 tyX5_ok nmX5 hown hK hP (hD _) hS 0 cr_obj rfl 28 (by decide) (hts _ lkX5_does_161) (fun _ h9 => h9) rfl (by decide +kernel) rfl rfl (Nat.le_of_ble_eq_true rfl) dX5_does_288 (fun H locs hP _ hS => ?_)
      have hP := cru_nx hP
      have hP : va_P D vwCl (FW 22 ad (CR cs n ad th (σ.1 4 0 i) σ)) H := hP
      refine lv_iconst (v := 1) hx hb dX5_does_291 (by decide) ?_
      exact hret _ _ _ _ (σ.1 4 0 i) _ _ dX5_does_292 hP hS (Or.inr rfl) (by rw [hdo]; exact ⟨rfl, fun _ => by first | rfl | exact hnx⟩) (by rw [hdo]; first | done | rfl)
  · have hop : σ.1 1 0 i = 9 := by rw [ho, hov]; rfl
    refine g_top (y := 9) hop ?_
    refine lv_tableIn (tgt := 293) hx hb dX5_does_29 (by decide) (by decide) rfl (by decide) ?_
    have hdo := doe_9 (n := n) (k := k) hop
    refine lv_aload_n hx hb dX5_does_293 rfl (lv_at hl 3 rfl) ?_
    refine lv_iload hx hb dX5_does_294 (lv_at hl 0 rfl) ?_
    refine va_put (D := D) (ci := 5) (v := .int (σ.1 4 0 i)) (ty := .int) (C := RX5) (T := TX5) (N := 29) hx hb hts iwX5_does_X5 tyX5 tyX5_ok nmX5 hown hK hP (hD _) hS 0 cr_obj rfl 28 (by decide) (hts _ lkX5_does_161) (fun _ h9 => h9) rfl (by decide +kernel) rfl rfl (Nat.le_of_ble_eq_true rfl) dX5_does_296 (fun H locs hP _ hS => ?_)
    have hP := cru_nx hP
    have hP : va_P D vwCl (FW 22 ad (CR cs n ad th (σ.1 4 0 i) σ)) H := hP
    refine lv_iconst (v := 1) hx hb dX5_does_299 (by decide) ?_
    exact hret _ _ _ _ (σ.1 4 0 i) _ _ dX5_does_300 hP hS (Or.inr rfl) (by rw [hdo]; exact ⟨rfl, fun _ => rfl⟩) (by rw [hdo]; first | done | rfl)
  · have hop : σ.1 1 0 i = 10 := by rw [ho, hov]; rfl
    refine g_top (y := 10) hop ?_
    refine lv_tableIn (tgt := 301) hx hb dX5_does_29 (by decide) (by decide) rfl (by decide) ?_
    have hdo := doe_10 (n := n) (k := k) hop
    refine lv_aload_n hx hb dX5_does_301 rfl (lv_at hl 3 rfl) ?_
    refine lv_iload_n hx hb dX5_does_302 rfl (lv_at hl 4 rfl) ?_
    refine lv_iload_n hx hb dX5_does_303 rfl (lv_at hl 5 rfl) ?_
    refine lv_iload hx hb dX5_does_304 (lv_at hl 0 rfl) ?_
    refine g_cvi (As := [.int (nI k), .int (nI i), .int (σ.1 4 0 i)]) ⟨hx, hb, hml, hown, hts⟩ (kX5_begin l D cs n ad th nx σ k hk4 i hi80 G hI) (cwV 3 hts gX5_does_X5_begin rfl rfl rfl (by decide +kernel) ⟨Nat.le_of_ble_eq_true rfl, Nat.le_of_ble_eq_true rfl⟩) hK hP hD hS hA 0 (ci := 5) rfl rfl cr_obj hl.1 dX5_does_306 rfl rfl (Nat.le_of_ble_eq_true rfl) ⟨Nat.zero_le _, Nat.zero_le _⟩ (fun r _ H locs hw hP hS => ?_)
    obtain rfl : r = bI (pBegin σ k i).2 := hw
    obtain ⟨σ10, eσ10⟩ : ∃ z, z = (pBegin σ k i).1 := ⟨_, rfl⟩
    have hP : va_P D vwCl (FW 22 ad (CR cs n ad th nx σ10)) H := by rw [eσ10]; exact hP
    exact hret _ _ _ _ nx _ _ dX5_does_309 hP hS (zq_bI _) (by rw [hdo]; exact ⟨rfl, fun _ => hnx⟩) (by rw [hdo]; simp only [eσ10]; first | done | rfl)
  · have hop : σ.1 1 0 i = 11 := by rw [ho, hov]; rfl
    refine g_top (y := 11) hop ?_
    refine lv_tableIn (tgt := 310) hx hb dX5_does_29 (by decide) (by decide) rfl (by decide) ?_
    have hdo := doe_11 (n := n) (k := k) hop
    refine lv_aload_n hx hb dX5_does_310 rfl (lv_at hl 3 rfl) ?_
    refine lv_iload_n hx hb dX5_does_311 rfl (lv_at hl 4 rfl) ?_
    refine g_cvv (As := [.int (nI k)]) ⟨hx, hb, hml, hown, hts⟩ (kX5_end l D cs n ad th nx σ k hk4) (cwV 1 hts gX5_does_X5_end rfl rfl rfl (by decide +kernel) ⟨Nat.le_of_ble_eq_true rfl, Nat.le_of_ble_eq_true rfl⟩) hK hP hD hS hA 0 (ci := 5) rfl rfl cr_obj hl.1 dX5_does_312 rfl rfl (Nat.le_of_ble_eq_true rfl) ⟨Nat.zero_le _, Nat.zero_le _⟩ (fun _ H locs hw hP hS => ?_)
    obtain ⟨σ11, eσ11⟩ : ∃ z, z = pEnd σ k := ⟨_, rfl⟩
    have hP : va_P D vwCl (FW 22 ad (CR cs n ad th nx σ11)) H := by rw [eσ11]; exact hP
    refine lv_iconst (v := 1) hx hb dX5_does_315 (by decide) ?_
    exact hret _ _ _ _ nx _ _ dX5_does_316 hP hS (Or.inr rfl) (by rw [hdo]; exact ⟨rfl, fun _ => hnx⟩) (by rw [hdo]; simp only [eσ11]; first | done | rfl)
  · have hop : σ.1 1 0 i = 12 := by rw [ho, hov]; rfl
    refine g_top (y := 12) hop ?_
    refine lv_tableIn (tgt := 317) hx hb dX5_does_29 (by decide) (by decide) rfl (by decide) ?_
    obtain ⟨a, ha8, hae⟩ := isR_nI (hok.2.2.1 (Or.inr hop))
    have hdo := doe_12 (n := n) (k := k) hop
    rw [hae, iN_nI (show a < 2 ^ 31 by omega)] at hdo
    refine lv_aload_n hx hb dX5_does_317 rfl (lv_at hl 3 rfl) ?_
    refine lv_iload_n hx hb dX5_does_318 rfl (lv_at hl 4 rfl) ?_
    refine lv_sipush (v := 256) hx hb dX5_does_319 (by decide) ?_
    refine lv_aload_n hx hb dX5_does_322 rfl (lv_at hl 3 rfl) ?_
    refine lv_iload_n hx hb dX5_does_323 rfl (lv_at hl 4 rfl) ?_
    refine lv_iload_n hx hb dX5_does_324 rfl (lv_at hl 2 rfl) ?_
    refine g_top (y := nI a) (hae) ?_
    refine g_cvi (As := [.int (nI k), .int (nI a)]) ⟨hx, hb, hml, hown, hts⟩ (kX5_get l D cs n ad th nx σ k hk4 a ha8 (hI.2.2.2.2.2 k hk4).1) (cwV 2 hts gX5_does_X5_get rfl rfl rfl (by decide +kernel) ⟨Nat.le_of_ble_eq_true rfl, Nat.le_of_ble_eq_true rfl⟩) hK hP hD hS hA 0 (ci := 5) rfl rfl cr_obj hl.1 dX5_does_325 rfl rfl (Nat.le_of_ble_eq_true rfl) ⟨Nat.zero_le _, Nat.zero_le _⟩ (fun r _ H locs hw hP hS => ?_)
    obtain rfl : r = σ.1 10 k a := hw
    have hP : va_P D vwCl (FW 22 ad (CR cs n ad th nx σ)) H := hP
    refine lv_iadd hx hb dX5_does_328 ?_
    refine g_cvi (As := [.int (nI k), .int (256 + (σ.1 10 k a))]) ⟨hx, hb, hml, hown, hts⟩ (kX5_abort l D cs n ad th nx σ k hk4 (256 + σ.1 10 k a) G hI) (cwV 2 hts gX5_does_X5_abort rfl rfl rfl (by decide +kernel) ⟨Nat.le_of_ble_eq_true rfl, Nat.le_of_ble_eq_true rfl⟩) hK hP hD hS hA 0 (ci := 5) rfl rfl cr_obj hl.1 dX5_does_329 rfl rfl (Nat.le_of_ble_eq_true rfl) ⟨Nat.zero_le _, Nat.zero_le _⟩ (fun r _ H locs hw hP hS => ?_)
    obtain rfl : r = bI (decide (σ.1 18 k 0 = 0)) := hw
    obtain ⟨σ12, eσ12⟩ : ∃ z, z = if σ.1 18 k 0 = 0 then σ else pBreak σ k (256 + σ.1 10 k a) := ⟨_, rfl⟩
    have hP : va_P D vwCl (FW 22 ad (CR cs n ad th nx σ12)) H := by rw [eσ12]; exact hP
    exact hret _ _ _ _ nx _ _ dX5_does_332 hP hS (zq_bI _) (by rw [hdo]; split <;> rename_i h9 <;> simp only [h9] <;> exact ⟨by first | rfl | trivial, fun _ => hnx⟩) (by rw [hdo]; simp only [eσ12]; split <;> rfl)
  · have hop : σ.1 1 0 i = 13 := by rw [ho, hov]; rfl
    refine g_top (y := 13) hop ?_
    refine lv_tableIn (tgt := 333) hx hb dX5_does_29 (by decide) (by decide) rfl (by decide) ?_
    have hdo := doe_13 (n := n) (k := k) hop
    refine lv_aload_n hx hb dX5_does_333 rfl (lv_at hl 3 rfl) ?_
    refine va_get (D := D) (ci := 5) (v := .ref (ad 7)) (C := RX5) (T := TX5) (N := 29) hx hb hts iwX5_does_X5 hown hK hP 0 cr_obj rfl 11 (by decide) (hts _ lkX5_does_28) (fun _ h9 => h9) rfl dX5_does_334 ?_
    refine lv_iload_n hx hb dX5_does_337 rfl (lv_at hl 4 rfl) ?_
    refine lv_aload_n hx hb dX5_does_338 rfl (lv_at hl 3 rfl) ?_
    refine va_get (D := D) (ci := 5) (v := .ref (ad 10)) (C := RX5) (T := TX5) (N := 29) hx hb hts iwX5_does_X5 hown hK hP 0 cr_obj rfl 14 (by decide) (hts _ lkX5_does_38) (fun _ h9 => h9) rfl dX5_does_339 ?_
    refine lv_iload_n hx hb dX5_does_342 rfl (lv_at hl 4 rfl) ?_
    refine g_iald (t0 := 0) (v := σ.1 18 k 0) hx hb hK hP cr_depths rfl k rfl hk4 (by decide) rfl dX5_does_343 ?_
    refine lv_if_ne (tgt := 351) hx hb dX5_does_344 (by decide) (fun c13 => ?_) (fun c13 => ?_)
    · rw [if_neg c13] at hdo
      refine lv_iconst (v := 0) hx hb dX5_does_351 (by decide) ?_
      refine g_zast (t0 := 3) hx hb hK hP hD hS cr_ended rfl k rfl hk4 (by decide) (by decide) dX5_does_352 (fun H locs hP hS => ?_)
      obtain ⟨σ14, eσ14⟩ : ∃ z, z = put σ 14 k 0 0 := ⟨_, rfl⟩
      have hP : va_P D vwCl (FW 22 ad (CR cs n ad th nx σ14)) H := by rw [eσ14]; exact cru_ended hP
      refine lv_aload_n hx hb dX5_does_353 rfl (lv_at hl 3 rfl) ?_
      refine lv_iload_n hx hb dX5_does_354 rfl (lv_at hl 4 rfl) ?_
      refine lv_iconst (v := 5) hx hb dX5_does_355 (by decide) ?_
      refine g_cvi (As := [.int (nI k), .int 5]) ⟨hx, hb, hml, hown, hts⟩ (kX5_abort l D cs n ad th nx σ14 k hk4 5 G (by simp only [eσ14]; exact Inv_end14 hI (by first | exact Or.inl rfl | exact Or.inr rfl) hk4)) (cwV 2 hts gX5_does_X5_abort rfl rfl rfl (by decide +kernel) ⟨Nat.le_of_ble_eq_true rfl, Nat.le_of_ble_eq_true rfl⟩) hK hP hD hS hA 0 (ci := 5) rfl rfl cr_obj hl.1 dX5_does_356 rfl rfl (Nat.le_of_ble_eq_true rfl) ⟨Nat.zero_le _, Nat.zero_le _⟩ (fun r _ H locs hw hP hS => ?_)
      obtain rfl : r = bI (decide (σ14.1 18 k 0 = 0)) := hw
      obtain ⟨σ15, eσ15⟩ : ∃ z, z = if σ14.1 18 k 0 = 0 then σ14 else pBreak σ14 k 5 := ⟨_, rfl⟩
      have hP : va_P D vwCl (FW 22 ad (CR cs n ad th nx σ15)) H := by rw [eσ15]; exact hP
      exact hret _ _ _ _ nx _ _ dX5_does_359 hP hS (zq_bI _) (by rw [hdo]; simp only [eσ15, eσ14]; first | exact ⟨bI_d (by assumption), fun _ => hnx⟩ | exact ⟨bI_n (by assumption), fun _ => hnx⟩) (by rw [hdo]; simp only [eσ15, eσ14]; first | exact if_pos (by assumption) ▸ rfl | (rw [if_pos (by assumption)]) | (rw [if_neg (by assumption)]))
    · rw [if_pos c13] at hdo
      refine lv_iconst (v := 1) hx hb dX5_does_347 (by decide) ?_
      refine lv_goto (tgt := 352) hx hb dX5_does_348 (by decide) ?_
      refine g_zast (t0 := 3) hx hb hK hP hD hS cr_ended rfl k rfl hk4 (by decide) (by decide) dX5_does_352 (fun H locs hP hS => ?_)
      obtain ⟨σ16, eσ16⟩ : ∃ z, z = put σ 14 k 0 1 := ⟨_, rfl⟩
      have hP : va_P D vwCl (FW 22 ad (CR cs n ad th nx σ16)) H := by rw [eσ16]; exact cru_ended hP
      refine lv_aload_n hx hb dX5_does_353 rfl (lv_at hl 3 rfl) ?_
      refine lv_iload_n hx hb dX5_does_354 rfl (lv_at hl 4 rfl) ?_
      refine lv_iconst (v := 5) hx hb dX5_does_355 (by decide) ?_
      refine g_cvi (As := [.int (nI k), .int 5]) ⟨hx, hb, hml, hown, hts⟩ (kX5_abort l D cs n ad th nx σ16 k hk4 5 G (by simp only [eσ16]; exact Inv_end14 hI (by first | exact Or.inl rfl | exact Or.inr rfl) hk4)) (cwV 2 hts gX5_does_X5_abort rfl rfl rfl (by decide +kernel) ⟨Nat.le_of_ble_eq_true rfl, Nat.le_of_ble_eq_true rfl⟩) hK hP hD hS hA 0 (ci := 5) rfl rfl cr_obj hl.1 dX5_does_356 rfl rfl (Nat.le_of_ble_eq_true rfl) ⟨Nat.zero_le _, Nat.zero_le _⟩ (fun r _ H locs hw hP hS => ?_)
      obtain rfl : r = bI (decide (σ16.1 18 k 0 = 0)) := hw
      obtain ⟨σ17, eσ17⟩ : ∃ z, z = if σ16.1 18 k 0 = 0 then σ16 else pBreak σ16 k 5 := ⟨_, rfl⟩
      have hP : va_P D vwCl (FW 22 ad (CR cs n ad th nx σ17)) H := by rw [eσ17]; exact hP
      exact hret _ _ _ _ nx _ _ dX5_does_359 hP hS (zq_bI _) (by rw [hdo]; simp only [eσ17, eσ16]; first | exact ⟨bI_d (by assumption), fun _ => hnx⟩ | exact ⟨bI_n (by assumption), fun _ => hnx⟩) (by rw [hdo]; simp only [eσ17, eσ16]; first | exact if_pos (by assumption) ▸ rfl | (rw [if_pos (by assumption)]) | (rw [if_neg (by assumption)]))

theorem iwX5_step_X5 : ∀ w ∈ wsX50, w ∈ wsX5_step := fun w h => by unfold wsX5_step; simp only [List.mem_cons, List.mem_append, h, true_or, or_true]
theorem lkX5_step_25 : Cond.fieldLink RX5 25 "CoreTransactionsModel" "places" "[I" ∈ wsX5_step := by decide +kernel
theorem lkX5_step_28 : Cond.fieldLink RX5 28 "CoreTransactionsModel" "ended" "[Z" ∈ wsX5_step := by decide +kernel
theorem lkX5_step_32 : Cond.fieldLink RX5 32 "CoreTransactionsModel" "retired" "[I" ∈ wsX5_step := by decide +kernel
theorem lkX5_step_106 : Cond.fieldLink RX5 106 "CoreTransactionsModel" "size" "I" ∈ wsX5_step := by decide +kernel
theorem lkX5_step_161 : Cond.fieldLink RX5 161 "CoreTransactionsModel" "next" "I" ∈ wsX5_step := by decide +kernel
abbrev rmX5_step : Room := ({ frames := 6, cells := 0, slots := 0, locals := 142 } : Room)
set_option maxRecDepth 100000 in
set_option maxHeartbeats 4000000 in
theorem kX5_step (l : Launch) (D : va_G) (cs : Nat → ClassId) (n : Nat) (ad : Nat → Nat) (th nx : Int32) (σ : St) (k : Nat) (hk4 : k < 4) (hn4 : n ≤ 4) (G : Nat) (hI : Inv σ G) : gMi l yX5_step wsX5_step rmX5_step D (tyL cs) 22 ad (CR cs n ad th nx σ) [.ref (ad 0), .int (nI k)] (fun (r : Int32) (u : Int32) => r = (pStep σ n k).2) (fun (u : Int32) => CR cs n ad th u (pStep σ n k).1) := by
  refine g_ofi (cc := cX5_step) (maxL := 3) (by decide) rfl (Nat.le_of_ble_eq_true rfl) rfl rfl ?_
  intro p e s m args below meth c A ls Q hx hb hml hts hown hK hP hD hA hS hl hret
  have hl : lv_has ls 3 [(0, .ref (ad 0)), (1, .int (nI k))] := hl
  refine lv_aload_n hx hb dX5_step_0 rfl (lv_at hl 0 rfl) ?_
  refine va_get (D := D) (ci := 5) (v := .ref (ad 7)) (C := RX5) (T := TX5) (N := 29) hx hb hts iwX5_step_X5 hown hK hP 0 cr_obj rfl 11 (by decide) (hts _ lkX5_step_28) (fun _ h9 => h9) rfl dX5_step_1 ?_
  refine lv_iload_n hx hb dX5_step_4 rfl (lv_at hl 1 rfl) ?_
  refine g_zald (t0 := 3) (v := σ.1 14 k 0) hx hb hK hP cr_ended rfl k rfl hk4 (by decide) rfl dX5_step_5 ?_
  refine lv_if_eq (tgt := 11) hx hb dX5_step_6 (by decide) (fun c1 => ?_) (fun c1 => ?_)
  · have he0 : ¬ (σ.1 14 k 0 ≠ 0) := fun h => h c1
    refine lv_aload_n hx hb dX5_step_11 rfl (lv_at hl 0 rfl) ?_
    refine va_get (D := D) (ci := 5) (v := .ref (ad 6)) (C := RX5) (T := TX5) (N := 29) hx hb hts iwX5_step_X5 hown hK hP 0 cr_obj rfl 10 (by decide) (hts _ lkX5_step_25) (fun _ h9 => h9) rfl dX5_step_12 ?_
    refine lv_iload_n hx hb dX5_step_15 rfl (lv_at hl 1 rfl) ?_
    refine g_iald (t0 := 0) (v := σ.1 13 k 0) hx hb hK hP cr_places rfl k rfl hk4 (by decide) rfl dX5_step_16 ?_
    refine lv_istore_n (lv' := [(2, .int (σ.1 13 k 0)), (0, .ref (ad 0)), (1, .int (nI k))]) hx hb dX5_step_17 rfl hl (by decide) rfl (fun ls hl => ?_)
    refine lv_iload_n hx hb dX5_step_18 rfl (lv_at hl 0 rfl) ?_
    refine lv_aload_n hx hb dX5_step_19 rfl (lv_at hl 1 rfl) ?_
    refine va_get (D := D) (ci := 5) (v := .int (σ.1 5 0 0)) (C := RX5) (T := TX5) (N := 29) hx hb hts iwX5_step_X5 hown hK hP 0 cr_obj rfl 5 (by decide) (hts _ lkX5_step_106) (fun _ h9 => h9) rfl dX5_step_20 ?_
    refine g_csi (As := [.int (σ.1 13 k 0), .int (σ.1 5 0 0)]) ⟨hx, hb, hml, hown, hts⟩ (kX5_isIn l D cs n ad th nx σ (σ.1 13 k 0) (σ.1 5 0 0)) (va_cwS 2 hts gX5_step_X5_isIn rfl rfl rfl (by decide +kernel) ⟨Nat.le_of_ble_eq_true rfl, Nat.le_of_ble_eq_true rfl⟩) hK hP hD hS hA hl.1 dX5_step_23 rfl rfl (Nat.le_of_ble_eq_true rfl) ⟨Nat.zero_le _, Nat.zero_le _⟩ (fun r _ H locs hw hP hS => ?_)
    obtain rfl : r = bI (decide (0 ≤ σ.1 13 k 0 ∧ σ.1 13 k 0 < σ.1 5 0 0)) := hw
    have hP : va_P D vwCl (FW 22 ad (CR cs n ad th nx σ)) H := hP
    refine lv_if_ne (tgt := 37) hx hb dX5_step_26 (by decide) (fun c2 => ?_) (fun c2 => ?_)
    · have hpl : 0 ≤ σ.1 13 k 0 ∧ σ.1 13 k 0 < σ.1 5 0 0 := of_decide_eq_true (bI1 c2)
      obtain ⟨L, hL80, hLe, hLo⟩ := hI.2.1
      obtain ⟨i, hiL, hie⟩ := i32_of (N := L) (by omega) hpl.1 (by rw [← hLe]; exact hpl.2)
      have hok := hLo i hiL
      obtain ⟨o, ho13, ho⟩ := i32_ofle (N := 13) (by decide) hok.1 hok.2.1
      have hst : pStep σ n k = (if (pExec σ n k i).2 = true then (put (pExec σ n k i).1 15 k 0 ((pExec σ n k i).1.1 15 k 0 + 1), 1) else ((pExec σ n k i).1, 0)) := by unfold pStep; rw [if_neg he0, if_pos hpl, hie, iN_nI (show i < 2 ^ 31 by omega)]
      refine lv_aload_n hx hb dX5_step_37 rfl (lv_at hl 1 rfl) ?_
      refine lv_iload_n hx hb dX5_step_38 rfl (lv_at hl 0 rfl) ?_
      refine g_top (y := nI i) (hie) ?_
      refine lv_iconst (v := 1) hx hb dX5_step_39 (by decide) ?_
      refine lv_iadd hx hb dX5_step_40 ?_
      refine va_put (D := D) (ci := 5) (v := .int ((nI i) + 1)) (ty := .int) (C := RX5) (T := TX5) (N := 29) hx hb hts iwX5_step_X5 tyX5 tyX5_ok nmX5 hown hK hP (hD _) hS 0 cr_obj rfl 28 (by decide) (hts _ lkX5_step_161) (fun _ h9 => h9) rfl (by decide +kernel) rfl rfl (Nat.le_of_ble_eq_true rfl) dX5_step_41 (fun H locs hP _ hS => ?_)
      have hP := cru_nx hP
      have hP : va_P D vwCl (FW 22 ad (CR cs n ad th ((nI i) + 1) σ)) H := hP
      refine lv_aload_n hx hb dX5_step_44 rfl (lv_at hl 1 rfl) ?_
      refine lv_iload_n hx hb dX5_step_45 rfl (lv_at hl 2 rfl) ?_
      refine lv_iload_n hx hb dX5_step_46 rfl (lv_at hl 0 rfl) ?_
      refine g_top (y := nI i) (hie) ?_
      refine g_cvi (As := [.int (nI k), .int (nI i)]) ⟨hx, hb, hml, hown, hts⟩ (kX5_does l D cs n ad th ((nI i) + 1) σ k hk4 hn4 i o (by omega) ho ho13 hok G hI rfl) (cwV 2 hts gX5_step_X5_does rfl rfl rfl (by decide +kernel) ⟨Nat.le_of_ble_eq_true rfl, Nat.le_of_ble_eq_true rfl⟩) hK hP hD hS hA 0 (ci := 5) rfl rfl cr_obj hl.1 dX5_step_47 rfl rfl (Nat.le_of_ble_eq_true rfl) ⟨Nat.zero_le _, Nat.zero_le _⟩ (fun r nx2 H locs hw hP hS => ?_)
      obtain rfl : r = bI (pDoes σ n k i).2.2 := hw.1
      obtain ⟨σ3, eσ3⟩ : ∃ z, z = (pDoes σ n k i).1 := ⟨_, rfl⟩
      have hP : va_P D vwCl (FW 22 ad (CR cs n ad th nx2 σ3)) H := by rw [eσ3]; exact hP
      refine lv_if_ne (tgt := 55) hx hb dX5_step_50 (by decide) (fun c4 => ?_) (fun c4 => ?_)
      · have hdd : (pDoes σ n k i).2.2 = true := bI1 c4
        have hex : pExec σ n k i = (put (pDoes σ n k i).1 13 k 0 (pDoes σ n k i).2.1, true) := if_pos hdd
        rw [hex, if_pos rfl] at hst
        have hnn := hw.2 hdd
        refine lv_aload_n hx hb dX5_step_55 rfl (lv_at hl 1 rfl) ?_
        refine va_get (D := D) (ci := 5) (v := .ref (ad 6)) (C := RX5) (T := TX5) (N := 29) hx hb hts iwX5_step_X5 hown hK hP 0 cr_obj rfl 10 (by decide) (hts _ lkX5_step_25) (fun _ h9 => h9) rfl dX5_step_56 ?_
        refine lv_iload_n hx hb dX5_step_59 rfl (lv_at hl 2 rfl) ?_
        refine lv_aload_n hx hb dX5_step_60 rfl (lv_at hl 1 rfl) ?_
        refine va_get (D := D) (ci := 5) (v := .int nx2) (C := RX5) (T := TX5) (N := 29) hx hb hts iwX5_step_X5 hown hK hP 0 cr_obj rfl 28 (by decide) (hts _ lkX5_step_161) (fun _ h9 => h9) rfl dX5_step_61 ?_
        refine g_iast (t0 := 0) hx hb hK hP hD hS cr_places rfl k rfl hk4 (by decide) dX5_step_64 (fun H locs hP hS => ?_)
        obtain ⟨σ5, eσ5⟩ : ∃ z, z = put σ3 13 k 0 nx2 := ⟨_, rfl⟩
        have hP : va_P D vwCl (FW 22 ad (CR cs n ad th nx2 σ5)) H := by rw [eσ5]; exact cru_places hP
        refine lv_aload_n hx hb dX5_step_65 rfl (lv_at hl 1 rfl) ?_
        refine va_get (D := D) (ci := 5) (v := .ref (ad 8)) (C := RX5) (T := TX5) (N := 29) hx hb hts iwX5_step_X5 hown hK hP 0 cr_obj rfl 12 (by decide) (hts _ lkX5_step_32) (fun _ h9 => h9) rfl dX5_step_66 ?_
        refine lv_iload_n hx hb dX5_step_69 rfl (lv_at hl 2 rfl) ?_
        refine lv_dup2_11 hx hb dX5_step_70 rfl rfl ?_
        refine g_iald (t0 := 0) (v := σ5.1 15 k 0) hx hb hK hP cr_retired rfl k rfl hk4 (by decide) rfl dX5_step_71 ?_
        refine lv_iconst (v := 1) hx hb dX5_step_72 (by decide) ?_
        refine lv_iadd hx hb dX5_step_73 ?_
        refine g_iast (t0 := 0) hx hb hK hP hD hS cr_retired rfl k rfl hk4 (by decide) dX5_step_74 (fun H locs hP hS => ?_)
        obtain ⟨σ6, eσ6⟩ : ∃ z, z = put σ5 15 k 0 ((σ5.1 15 k 0) + 1) := ⟨_, rfl⟩
        have hP : va_P D vwCl (FW 22 ad (CR cs n ad th nx2 σ6)) H := by rw [eσ6]; exact cru_retired hP
        refine lv_iconst (v := 1) hx hb dX5_step_75 (by decide) ?_
        exact hret _ _ _ _ nx2 _ _ dX5_step_76 hP hS (by rw [hst]) (by rw [hst]; simp only [eσ6, eσ5, eσ3, hnn]; first | done | rfl)
      · have hdd : ¬ (pDoes σ n k i).2.2 = true := by rw [bI0 c4]; decide
        have hex : pExec σ n k i = ((pDoes σ n k i).1, false) := if_neg hdd
        rw [hex, if_neg Bool.false_ne_true] at hst
        refine lv_iconst (v := 0) hx hb dX5_step_53 (by decide) ?_
        exact hret _ _ _ _ nx2 _ _ dX5_step_54 hP hS (by rw [hst]) (by rw [hst]; simp only [eσ3]; first | done | rfl)
    · have hst : pStep σ n k = (pFault σ k, 0) := (if_neg he0).trans (if_neg (of_decide_eq_false (bI0 c2)))
      refine lv_aload_n hx hb dX5_step_29 rfl (lv_at hl 1 rfl) ?_
      refine lv_iload_n hx hb dX5_step_30 rfl (lv_at hl 2 rfl) ?_
      refine g_cvi (As := [.int (nI k)]) ⟨hx, hb, hml, hown, hts⟩ (kX5_faults l D cs n ad th nx σ k hk4 G hI) (cwV 1 hts gX5_step_X5_faults rfl rfl rfl (by decide +kernel) ⟨Nat.le_of_ble_eq_true rfl, Nat.le_of_ble_eq_true rfl⟩) hK hP hD hS hA 0 (ci := 5) rfl rfl cr_obj hl.1 dX5_step_31 rfl rfl (Nat.le_of_ble_eq_true rfl) ⟨Nat.zero_le _, Nat.zero_le _⟩ (fun r _ H locs hw hP hS => ?_)
      obtain rfl : r = 0 := hw
      obtain ⟨σ7, eσ7⟩ : ∃ z, z = pFault σ k := ⟨_, rfl⟩
      have hP : va_P D vwCl (FW 22 ad (CR cs n ad th nx σ7)) H := by rw [eσ7]; exact hP
      refine lv_pop hx hb dX5_step_34 rfl ?_
      refine lv_iconst (v := 0) hx hb dX5_step_35 (by decide) ?_
      exact hret _ _ _ _ nx _ _ dX5_step_36 hP hS (by rw [hst]) (by rw [hst]; simp only [eσ7]; first | done | rfl)
  · have hst : pStep σ n k = (σ, 0) := if_pos c1
    refine lv_iconst (v := 0) hx hb dX5_step_9 (by decide) ?_
    exact hret _ _ _ _ nx _ _ dX5_step_10 hP hS (by rw [hst]) (by rw [hst]; first | done | rfl)
