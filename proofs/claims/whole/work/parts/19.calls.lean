/-! the class: its calls -/
theorem le13 {o : Int32} : ¬ 13 < o ↔ o < 14 := by
  rw [Int32.lt_iff_toInt_lt, Int32.lt_iff_toInt_lt, show (13 : Int32).toInt = 13 by decide, show (14 : Int32).toInt = 14 by decide]
  omega
theorem start_e {σ : St} {k : Nat} {y : Int32} : put (put (pClose σ k) 13 k 0 y) 14 k 0 0 = pStart σ k y := by
  refine Prod.ext (funext fun f => funext fun k' => funext fun j => ?_) rfl
  simp only [pStart, pClose, put, putL]
  by_cases a : f = 14
  · simp [a]
  · by_cases b : f = 13
    · simp [b]
    · simp [a, b]
theorem iwX4_instruction_X1 : ∀ w ∈ wsX10, w ∈ wsX4_instruction := fun w h => by unfold wsX4_instruction; simp only [List.mem_cons, List.mem_append, h, true_or, or_true]
theorem iwX4_instruction_X4 : ∀ w ∈ wsX40, w ∈ wsX4_instruction := fun w h => by unfold wsX4_instruction; simp only [List.mem_cons, List.mem_append, h, true_or, or_true]
theorem lkX4_instruction_16 : Cond.fieldLink RX4 16 "CoreTransactions" "program" "LCoreTransactions$Program;" ∈ wsX4_instruction := by decide +kernel
theorem lkX4_instruction_54 : Cond.fieldLink RX4 54 "CoreTransactions$Program" "length" "I" ∈ wsX4_instruction := by decide +kernel
theorem lkX4_instruction_k51 : Cond.classLink RX4 51 eA ∈ wsX4_instruction := by decide +kernel
theorem lkX4_instruction_j51 : Cond.initialized eA ∈ wsX4_instruction := by decide +kernel
theorem ieX4_instruction_53 : ∀ w ∈ (vx_at0 RX4 53 eA nmsX).filter goodWord, w ∈ wsX4_instruction := fun w h => List.mem_cons_of_mem _ (List.mem_append_left _ (List.mem_append_right _ h))
theorem lkX4_instruction_k57 : Cond.classLink RX4 57 eU ∈ wsX4_instruction := by decide +kernel
theorem lkX4_instruction_j57 : Cond.initialized eU ∈ wsX4_instruction := by decide +kernel
theorem ieX4_instruction_59 : ∀ w ∈ (vx_at0 RX4 59 eU nmsX).filter goodWord, w ∈ wsX4_instruction := fun w h => List.mem_cons_of_mem _ (List.mem_append_right _ h)
abbrev rmX4_instruction : Room := ({ frames := 6, cells := 1, slots := 6, locals := 81 } : Room)
set_option maxRecDepth 100000 in
set_option maxHeartbeats 4000000 in
theorem kX4_instruction (l : Launch) (hl0 : l.stackTraces = false) (D : va_G) (cs : Nat → ClassId) (n : Nat) (ad : Nat → Nat) (σ : St) (hn4 : n ≤ 4) (o a b d : Int32) (G : Nat) (hI : Inv σ G) : gMx l yX4_instruction wsX4_instruction rmX4_instruction D (tyL cs) (5 * (n + 2)) ad (CC cs n ad σ) [.ref (ad 0), .int o, .int a, .int b, .int d] (fun (r : Int32) (u : Unit) => t2 ((0 ≤ o ∧ o < 14) ∧ ((o ≤ 8 ∨ o = 12) → (0 ≤ a ∧ a < 8)) ∧ ((1 ≤ o ∧ o ≤ 8) → (0 ≤ b ∧ b < 8)) ∧ ((1 ≤ o ∧ o ≤ 3) → (0 ≤ d ∧ d < 8))) (¬ σ.1 5 0 0 = 80) = 0 ∧ r = σ.1 5 0 0) (fun (u : Unit) => CC cs n ad (pApp σ o a b d)) (fun E => (E = eA ∧ t2 ((0 ≤ o ∧ o < 14) ∧ ((o ≤ 8 ∨ o = 12) → (0 ≤ a ∧ a < 8)) ∧ ((1 ≤ o ∧ o ≤ 8) → (0 ≤ b ∧ b < 8)) ∧ ((1 ≤ o ∧ o ≤ 3) → (0 ≤ d ∧ d < 8))) (¬ σ.1 5 0 0 = 80) = 1) ∨ (E = eU ∧ t2 ((0 ≤ o ∧ o < 14) ∧ ((o ≤ 8 ∨ o = 12) → (0 ≤ a ∧ a < 8)) ∧ ((1 ≤ o ∧ o ≤ 8) → (0 ≤ b ∧ b < 8)) ∧ ((1 ≤ o ∧ o ≤ 3) → (0 ≤ d ∧ d < 8))) (¬ σ.1 5 0 0 = 80) = 2)) := by
  refine g_ofx hl0 (cc := cX4_instruction) (maxL := 5) (by decide) rfl (Nat.le_of_ble_eq_true rfl) rfl rfl (by decide) ?_
  intro p e s m args below meth c A ls Q hx hb hml hts hown hK hP hD hA hS hl hXW hret hthrow
  have hl : lv_has ls 5 [(0, .ref (ad 0)), (1, .int o), (2, .int a), (3, .int b), (4, .int d)] := hl
  refine lv_iload_n hx hb dX4_instruction_0 rfl (lv_at hl 1 rfl) ?_
  refine lv_if_lt (tgt := 21) hx hb dX4_instruction_1 (by decide) (fun c1 => ?_) (fun c1 => ?_)
  · have hT : t2 ((0 ≤ o ∧ o < 14) ∧ ((o ≤ 8 ∨ o = 12) → (0 ≤ a ∧ a < 8)) ∧ ((1 ≤ o ∧ o ≤ 8) → (0 ≤ b ∧ b < 8)) ∧ ((1 ≤ o ∧ o ≤ 3) → (0 ≤ d ∧ d < 8))) (¬ σ.1 5 0 0 = 80) = 1 := t2_1 (fun h => absurd h.1.1 (Int32.not_le.mpr c1))
    exact hthrow _ _ eA 51 53 21 _ [] (by decide +kernel) (hts _ lkX4_instruction_k51) (hts _ lkX4_instruction_j51) (vx_hat (fun w h => hts w (ieX4_instruction_53 w h)) xat_53 (xB_use hXW.2.1 hXW)) xot_53 hl.1 dX4_instruction_21 dX4_instruction_24 dX4_instruction_25 dX4_instruction_28 hP hS (Or.inl ⟨rfl, hT⟩) (Nat.le_of_ble_eq_true rfl)
  · refine lv_iload_n hx hb dX4_instruction_4 rfl (lv_at hl 1 rfl) ?_
    refine lv_bipush (v := 13) hx hb dX4_instruction_5 (by decide) ?_
    refine lv_icmp_gt (tgt := 21) hx hb dX4_instruction_7 (by decide) (fun c2 => ?_) (fun c2 => ?_)
    · have hT : t2 ((0 ≤ o ∧ o < 14) ∧ ((o ≤ 8 ∨ o = 12) → (0 ≤ a ∧ a < 8)) ∧ ((1 ≤ o ∧ o ≤ 8) → (0 ≤ b ∧ b < 8)) ∧ ((1 ≤ o ∧ o ≤ 3) → (0 ≤ d ∧ d < 8))) (¬ σ.1 5 0 0 = 80) = 1 := t2_1 (fun h => absurd c2 (le13.mpr h.1.2))
      exact hthrow _ _ eA 51 53 21 _ [] (by decide +kernel) (hts _ lkX4_instruction_k51) (hts _ lkX4_instruction_j51) (vx_hat (fun w h => hts w (ieX4_instruction_53 w h)) xat_53 (xB_use hXW.2.1 hXW)) xot_53 hl.1 dX4_instruction_21 dX4_instruction_24 dX4_instruction_25 dX4_instruction_28 hP hS (Or.inl ⟨rfl, hT⟩) (Nat.le_of_ble_eq_true rfl)
    · refine lv_iload_n hx hb dX4_instruction_10 rfl (lv_at hl 1 rfl) ?_
      refine lv_iload_n hx hb dX4_instruction_11 rfl (lv_at hl 2 rfl) ?_
      refine lv_iload_n hx hb dX4_instruction_12 rfl (lv_at hl 3 rfl) ?_
      refine lv_iload hx hb dX4_instruction_13 (lv_at hl 4 rfl) ?_
      refine g_csi (As := [.int o, .int a, .int b, .int d]) ⟨hx, hb, hml, hown, hts⟩ (kX4_namesRegisters l D cs n ad σ o a b d) (va_cwS 4 hts gX4_instruction_X4_namesRegisters rfl rfl rfl (by decide +kernel) ⟨Nat.le_of_ble_eq_true rfl, Nat.le_of_ble_eq_true rfl⟩) hK hP hD hS hA hl.1 dX4_instruction_15 rfl rfl (Nat.le_of_ble_eq_true rfl) ⟨Nat.zero_le _, Nat.zero_le _⟩ (fun r _ H locs hw hP hS => ?_)
      obtain rfl : r = bI (decide (((o ≤ 8 ∨ o = 12) → (0 ≤ a ∧ a < 8)) ∧ ((1 ≤ o ∧ o ≤ 8) → (0 ≤ b ∧ b < 8)) ∧ ((1 ≤ o ∧ o ≤ 3) → (0 ≤ d ∧ d < 8)))) := hw
      have hP : va_P D vwCl (FW (5 * (n + 2)) ad (CC cs n ad σ)) H := hP
      refine lv_if_ne (tgt := 29) hx hb dX4_instruction_18 (by decide) (fun c3 => ?_) (fun c3 => ?_)
      · have hG : ((0 ≤ o ∧ o < 14) ∧ ((o ≤ 8 ∨ o = 12) → (0 ≤ a ∧ a < 8)) ∧ ((1 ≤ o ∧ o ≤ 8) → (0 ≤ b ∧ b < 8)) ∧ ((1 ≤ o ∧ o ≤ 3) → (0 ≤ d ∧ d < 8))) := ⟨⟨Int32.not_lt.mp c1, le13.mp c2⟩, of_decide_eq_true (bI1 c3)⟩
        refine lv_aload_n hx hb dX4_instruction_29 rfl (lv_at hl 0 rfl) ?_
        refine va_get (D := D) (ci := 4) (v := .ref (ad 3)) (C := RX4) (T := TX4) (N := 7) hx hb hts iwX4_instruction_X4 hown hK hP 0 cc_obj rfl 4 (by decide) (hts _ lkX4_instruction_16) (fun _ h9 => h9) rfl dX4_instruction_30 ?_
        refine va_get (D := D) (ci := 1) (v := .int (σ.1 5 0 0)) (C := RX1) (T := TX1) (N := 5) hx hb hts iwX4_instruction_X1 hown hK hP 3 cc_pro rfl 4 (by decide) (hts _ lkX4_instruction_54) (fun _ h9 => h9) rfl dX4_instruction_33 ?_
        refine lv_bipush (v := 80) hx hb dX4_instruction_36 (by decide) ?_
        refine lv_icmp_lt (tgt := 49) hx hb dX4_instruction_38 (by decide) (fun c4 => ?_) (fun c4 => ?_)
        · obtain ⟨L, hL80, hL, hLo⟩ := hI.2.1
          have hL8 : L < 80 := (nI_ltI (b := 80) (by omega) (by decide)).mp (by rw [← hL]; exact c4)
          have hT : t2 ((0 ≤ o ∧ o < 14) ∧ ((o ≤ 8 ∨ o = 12) → (0 ≤ a ∧ a < 8)) ∧ ((1 ≤ o ∧ o ≤ 8) → (0 ≤ b ∧ b < 8)) ∧ ((1 ≤ o ∧ o ≤ 3) → (0 ≤ d ∧ d < 8))) (¬ σ.1 5 0 0 = 80) = 0 := t2_0 hG (fun h => absurd c4 (by rw [h]; decide))
          refine lv_aload_n hx hb dX4_instruction_49 rfl (lv_at hl 0 rfl) ?_
          refine va_get (D := D) (ci := 4) (v := .ref (ad 3)) (C := RX4) (T := TX4) (N := 7) hx hb hts iwX4_instruction_X4 hown hK hP 0 cc_obj rfl 4 (by decide) (hts _ lkX4_instruction_16) (fun _ h9 => h9) rfl dX4_instruction_50 ?_
          refine lv_iload_n hx hb dX4_instruction_53 rfl (lv_at hl 1 rfl) ?_
          refine lv_iload_n hx hb dX4_instruction_54 rfl (lv_at hl 2 rfl) ?_
          refine lv_iload_n hx hb dX4_instruction_55 rfl (lv_at hl 3 rfl) ?_
          refine lv_iload hx hb dX4_instruction_56 (lv_at hl 4 rfl) ?_
          refine g_cvi (As := [.int o, .int a, .int b, .int d]) ⟨hx, hb, hml, hown, hts⟩ (kX1_append l D cs n ad σ o a b d L hL hL8) (cwV 4 hts gX4_instruction_X1_append rfl rfl rfl (by decide +kernel) ⟨Nat.le_of_ble_eq_true rfl, Nat.le_of_ble_eq_true rfl⟩) hK hP hD hS hA 3 (ci := 1) rfl rfl cc_pro hl.1 dX4_instruction_58 rfl rfl (Nat.le_of_ble_eq_true rfl) ⟨Nat.zero_le _, Nat.zero_le _⟩ (fun r _ H locs hw hP hS => ?_)
          obtain rfl : r = σ.1 5 0 0 := hw
          obtain ⟨σ5, eσ5⟩ : ∃ z, z = pApp σ o a b d := ⟨_, rfl⟩
          have hP : va_P D vwCl (FW (5 * (n + 2)) ad (CC cs n ad σ5)) H := by rw [eσ5]; exact hP
          exact hret _ _ _ _ () _ _ dX4_instruction_61 hP hS (⟨hT, rfl⟩) (by simp only [eσ5]; first | done | rfl)
        · obtain ⟨L, hL80, hL, hLo⟩ := hI.2.1
          have hL8 : L = 80 := Nat.le_antisymm hL80 (Nat.le_of_not_lt (fun q => c4 (by rw [hL]; exact (nI_ltI (b := 80) (by omega) (by decide)).mpr q)))
          have hT : t2 ((0 ≤ o ∧ o < 14) ∧ ((o ≤ 8 ∨ o = 12) → (0 ≤ a ∧ a < 8)) ∧ ((1 ≤ o ∧ o ≤ 8) → (0 ≤ b ∧ b < 8)) ∧ ((1 ≤ o ∧ o ≤ 3) → (0 ≤ d ∧ d < 8))) (¬ σ.1 5 0 0 = 80) = 2 := t2_2 hG (fun h => h (by rw [hL, hL8]; rfl))
          exact hthrow _ _ eU 57 59 41 _ [] (by decide +kernel) (hts _ lkX4_instruction_k57) (hts _ lkX4_instruction_j57) (vx_hat (fun w h => hts w (ieX4_instruction_59 w h)) xat_59 (xB_use hXW.2.2.1 hXW)) xot_59 hl.1 dX4_instruction_41 dX4_instruction_44 dX4_instruction_45 dX4_instruction_48 hP hS (Or.inr ⟨rfl, hT⟩) (Nat.le_of_ble_eq_true rfl)
      · have hNR : ¬ (((o ≤ 8 ∨ o = 12) → (0 ≤ a ∧ a < 8)) ∧ ((1 ≤ o ∧ o ≤ 8) → (0 ≤ b ∧ b < 8)) ∧ ((1 ≤ o ∧ o ≤ 3) → (0 ≤ d ∧ d < 8))) := of_decide_eq_false (bI0 c3)
        have hT : t2 ((0 ≤ o ∧ o < 14) ∧ ((o ≤ 8 ∨ o = 12) → (0 ≤ a ∧ a < 8)) ∧ ((1 ≤ o ∧ o ≤ 8) → (0 ≤ b ∧ b < 8)) ∧ ((1 ≤ o ∧ o ≤ 3) → (0 ≤ d ∧ d < 8))) (¬ σ.1 5 0 0 = 80) = 1 := t2_1 (fun h => hNR h.2)
        exact hthrow _ _ eA 51 53 21 _ [] (by decide +kernel) (hts _ lkX4_instruction_k51) (hts _ lkX4_instruction_j51) (vx_hat (fun w h => hts w (ieX4_instruction_53 w h)) xat_53 (xB_use hXW.2.1 hXW)) xot_53 hl.1 dX4_instruction_21 dX4_instruction_24 dX4_instruction_25 dX4_instruction_28 hP hS (Or.inl ⟨rfl, hT⟩) (Nat.le_of_ble_eq_true rfl)

theorem iwX4_start_X0 : ∀ w ∈ wsX00, w ∈ wsX4_start := fun w h => by unfold wsX4_start; simp only [List.mem_cons, List.mem_append, h, true_or, or_true]
theorem iwX4_start_X4 : ∀ w ∈ wsX40, w ∈ wsX4_start := fun w h => by unfold wsX4_start; simp only [List.mem_cons, List.mem_append, h, true_or, or_true]
theorem lkX4_start_40 : Cond.fieldLink RX4 40 "CoreTransactions" "cores" "[LCoreTransactions$Core;" ∈ wsX4_start := by decide +kernel
theorem lkX4_start_71 : Cond.fieldLink RX4 71 "CoreTransactions$Core" "place" "I" ∈ wsX4_start := by decide +kernel
theorem lkX4_start_74 : Cond.fieldLink RX4 74 "CoreTransactions$Core" "transaction" "LCoreTransactions$Transaction;" ∈ wsX4_start := by decide +kernel
theorem lkX4_start_83 : Cond.fieldLink RX4 83 "CoreTransactions$Core" "ended" "Z" ∈ wsX4_start := by decide +kernel
theorem lkX4_start_k51 : Cond.classLink RX4 51 eA ∈ wsX4_start := by decide +kernel
theorem lkX4_start_j51 : Cond.initialized eA ∈ wsX4_start := by decide +kernel
theorem ieX4_start_53 : ∀ w ∈ (vx_at0 RX4 53 eA nmsX).filter goodWord, w ∈ wsX4_start := fun w h => List.mem_cons_of_mem _ (List.mem_append_right _ h)
theorem lkX4_start_k68 : Cond.classLink RX4 68 eI ∈ wsX4_start := by decide +kernel
theorem lkX4_start_j68 : Cond.initialized eI ∈ wsX4_start := by decide +kernel
theorem ieX4_start_70 : ∀ w ∈ (vx_at0 RX4 70 eI nmsX).filter goodWord, w ∈ wsX4_start := fun w h => List.mem_cons_of_mem _ (List.mem_append_left _ (List.mem_append_right _ h))
abbrev rmX4_start : Room := ({ frames := 6, cells := 1, slots := 6, locals := 81 } : Room)
set_option maxRecDepth 100000 in
set_option maxHeartbeats 4000000 in
theorem kX4_start (l : Launch) (hl0 : l.stackTraces = false) (D : va_G) (cs : Nat → ClassId) (n : Nat) (ad : Nat → Nat) (σ : St) (hn4 : n ≤ 4) (x y : Int32) (G : Nat) (hI : Inv σ G) : gMx l yX4_start wsX4_start rmX4_start D (tyL cs) (5 * (n + 2)) ad (CC cs n ad σ) [.ref (ad 0), .int x, .int y] (fun (r : Int32) (u : Unit) => t2 (0 ≤ x ∧ x < nI n) (0 ≤ y ∧ y ≤ 80) = 0 ∧ r = σ.1 13 (iN x) 0) (fun (u : Unit) => CC cs n ad (pStart σ (iN x) y)) (fun E => (E = eI ∧ t2 (0 ≤ x ∧ x < nI n) (0 ≤ y ∧ y ≤ 80) = 1) ∨ (E = eA ∧ t2 (0 ≤ x ∧ x < nI n) (0 ≤ y ∧ y ≤ 80) = 2)) := by
  refine g_ofx hl0 (cc := cX4_start) (maxL := 5) (by decide) rfl (Nat.le_of_ble_eq_true rfl) rfl rfl (by decide) ?_
  intro p e s m args below meth c A ls Q hx hb hml hts hown hK hP hD hA hS hl hXW hret hthrow
  have hl : lv_has ls 5 [(0, .ref (ad 0)), (1, .int x), (2, .int y)] := hl
  refine lv_aload_n hx hb dX4_start_0 rfl (lv_at hl 0 rfl) ?_
  refine lv_iload_n hx hb dX4_start_1 rfl (lv_at hl 1 rfl) ?_
  refine g_cvi (As := [.int x]) ⟨hx, hb, hml, hown, hts⟩ (kX4_isCore l D cs n ad σ x) (cwV 1 hts gX4_start_X4_isCore rfl rfl rfl (by decide +kernel) ⟨Nat.le_of_ble_eq_true rfl, Nat.le_of_ble_eq_true rfl⟩) hK hP hD hS hA 0 (ci := 4) rfl rfl cc_obj hl.1 dX4_start_2 rfl rfl (Nat.le_of_ble_eq_true rfl) ⟨Nat.zero_le _, Nat.zero_le _⟩ (fun r _ H locs hw hP hS => ?_)
  obtain rfl : r = bI (decide (0 ≤ x ∧ x < nI n)) := hw
  have hP : va_P D vwCl (FW (5 * (n + 2)) ad (CC cs n ad σ)) H := hP
  refine lv_if_ne (tgt := 16) hx hb dX4_start_5 (by decide) (fun c1 => ?_) (fun c1 => ?_)
  · have hC : (0 ≤ x ∧ x < nI n) := of_decide_eq_true (bI1 c1)
    refine lv_iload_n hx hb dX4_start_16 rfl (lv_at hl 2 rfl) ?_
    refine lv_if_lt (tgt := 26) hx hb dX4_start_17 (by decide) (fun c2 => ?_) (fun c2 => ?_)
    · have hT : t2 (0 ≤ x ∧ x < nI n) (0 ≤ y ∧ y ≤ 80) = 2 := t2_2 hC (fun h => absurd h.1 (Int32.not_le.mpr c2))
      exact hthrow _ _ eA 51 53 26 _ [] (by decide +kernel) (hts _ lkX4_start_k51) (hts _ lkX4_start_j51) (vx_hat (fun w h => hts w (ieX4_start_53 w h)) xat_53 (xB_use hXW.2.1 hXW)) xot_53 hl.1 dX4_start_26 dX4_start_29 dX4_start_30 dX4_start_33 hP hS (Or.inr ⟨rfl, hT⟩) (Nat.le_of_ble_eq_true rfl)
    · refine lv_iload_n hx hb dX4_start_20 rfl (lv_at hl 2 rfl) ?_
      refine lv_bipush (v := 80) hx hb dX4_start_21 (by decide) ?_
      refine lv_icmp_le (tgt := 34) hx hb dX4_start_23 (by decide) (fun c3 => ?_) (fun c3 => ?_)
      · have hT : t2 (0 ≤ x ∧ x < nI n) (0 ≤ y ∧ y ≤ 80) = 0 := t2_0 hC ⟨Int32.not_lt.mp c2, c3⟩
        obtain ⟨k, hkn, hxk⟩ := i32_of (N := n) (by omega) hC.1 hC.2
        have hn31 : n < 2 ^ 31 := by omega
        have hik : iN x = k := by rw [hxk]; exact iN_nI (by omega)
        refine lv_aload_n hx hb dX4_start_34 rfl (lv_at hl 0 rfl) ?_
        refine va_get (D := D) (ci := 4) (v := .ref (ad 1)) (C := RX4) (T := TX4) (N := 7) hx hb hts iwX4_start_X4 hown hK hP 0 cc_obj rfl 2 (by decide) (hts _ lkX4_start_40) (fun _ h9 => h9) rfl dX4_start_35 ?_
        refine lv_iload_n hx hb dX4_start_38 rfl (lv_at hl 1 rfl) ?_
        refine g_aald (t0 := 1) (v := ad (5 * (k + 2) + 0)) hx hb hK hP cc_cor rfl k hxk hkn hn31 rfl dX4_start_39 ?_
        refine lv_astore_n (lv' := [(3, .ref (ad (5 * (k + 2) + 0))), (0, .ref (ad 0)), (1, .int x), (2, .int y)]) hx hb dX4_start_40 rfl hl (by decide) rfl (fun ls hl => ?_)
        refine lv_aload_n hx hb dX4_start_41 rfl (lv_at hl 0 rfl) ?_
        refine va_get (D := D) (ci := 0) (v := .int (σ.1 13 k 0)) (C := RX0) (T := TX0) (N := 8) hx hb hts iwX4_start_X0 hown hK hP (5 * (k + 2) + 0) (cc_core hkn) rfl 3 (by decide) (hts _ lkX4_start_71) (fun _ h9 => h9) rfl dX4_start_42 ?_
        refine lv_istore (lv' := [(4, .int (σ.1 13 k 0)), (3, .ref (ad (5 * (k + 2) + 0))), (0, .ref (ad 0)), (1, .int x), (2, .int y)]) hx hb dX4_start_45 hl (by decide) rfl (fun ls hl => ?_)
        refine lv_aload_n hx hb dX4_start_47 rfl (lv_at hl 1 rfl) ?_
        refine va_get (D := D) (ci := 0) (v := .ref (ad (5 * (k + 2) + 2))) (C := RX0) (T := TX0) (N := 8) hx hb hts iwX4_start_X0 hown hK hP (5 * (k + 2) + 0) (cc_core hkn) rfl 2 (by decide) (hts _ lkX4_start_74) (fun _ h9 => h9) rfl dX4_start_48 ?_
        refine g_cvv (As := []) ⟨hx, hb, hml, hown, hts⟩ (kX3_close l D cs n ad σ k hkn) (cwV 0 hts gX4_start_X3_close rfl rfl rfl (by decide +kernel) ⟨Nat.le_of_ble_eq_true rfl, Nat.le_of_ble_eq_true rfl⟩) hK hP hD hS hA (5 * (k + 2) + 2) (ci := 3) rfl rfl (cc_tx hkn) hl.1 dX4_start_51 rfl rfl (Nat.le_of_ble_eq_true rfl) ⟨Nat.zero_le _, Nat.zero_le _⟩ (fun _ H locs hw hP hS => ?_)
        obtain ⟨σ4, eσ4⟩ : ∃ z, z = pClose σ k := ⟨_, rfl⟩
        have hP : va_P D vwCl (FW (5 * (n + 2)) ad (CC cs n ad σ4)) H := by rw [eσ4]; exact hP
        refine lv_aload_n hx hb dX4_start_54 rfl (lv_at hl 1 rfl) ?_
        refine lv_iload_n hx hb dX4_start_55 rfl (lv_at hl 4 rfl) ?_
        refine va_put (D := D) (ci := 0) (v := .int y) (ty := .int) (C := RX0) (T := TX0) (N := 8) hx hb hts iwX4_start_X0 tyX0 tyX0_ok nmX0 hown hK hP (hD _) hS (5 * (k + 2) + 0) (cc_core hkn) rfl 3 (by decide) (hts _ lkX4_start_71) (fun _ h9 => h9) rfl (by decide +kernel) rfl rfl (Nat.le_of_ble_eq_true rfl) dX4_start_56 (fun H locs hP _ hS => ?_)
        obtain ⟨σ5, eσ5⟩ : ∃ z, z = put σ4 13 k 0 y := ⟨_, rfl⟩
        have hP : va_P D vwCl (FW (5 * (n + 2)) ad (CC cs n ad σ5)) H := by rw [eσ5]; exact FW_P hP cu_core_3
        refine lv_aload_n hx hb dX4_start_59 rfl (lv_at hl 1 rfl) ?_
        refine lv_iconst (v := 0) hx hb dX4_start_60 (by decide) ?_
        refine va_put (D := D) (ci := 0) (v := .int 0) (ty := .boolean) (C := RX0) (T := TX0) (N := 8) hx hb hts iwX4_start_X0 tyX0 tyX0_ok nmX0 hown hK hP (hD _) hS (5 * (k + 2) + 0) (cc_core hkn) rfl 4 (by decide) (hts _ lkX4_start_83) (fun _ h9 => h9) rfl (by decide +kernel) rfl rfl (Nat.le_of_ble_eq_true rfl) dX4_start_61 (fun H locs hP _ hS => ?_)
        obtain ⟨σ6, eσ6⟩ : ∃ z, z = put σ5 14 k 0 0 := ⟨_, rfl⟩
        have hP : va_P D vwCl (FW (5 * (n + 2)) ad (CC cs n ad σ6)) H := by rw [eσ6]; exact FW_P hP cu_core_4
        refine lv_iload hx hb dX4_start_64 (lv_at hl 0 rfl) ?_
        exact hret _ _ _ _ () _ _ dX4_start_66 hP hS (⟨hT, by rw [hik]⟩) (by rw [hik]; simp only [eσ6, eσ5, eσ4]; rw [start_e])
      · have hT : t2 (0 ≤ x ∧ x < nI n) (0 ≤ y ∧ y ≤ 80) = 2 := t2_2 hC (fun h => c3 h.2)
        exact hthrow _ _ eA 51 53 26 _ [] (by decide +kernel) (hts _ lkX4_start_k51) (hts _ lkX4_start_j51) (vx_hat (fun w h => hts w (ieX4_start_53 w h)) xat_53 (xB_use hXW.2.1 hXW)) xot_53 hl.1 dX4_start_26 dX4_start_29 dX4_start_30 dX4_start_33 hP hS (Or.inr ⟨rfl, hT⟩) (Nat.le_of_ble_eq_true rfl)
  · have hC : ¬ (0 ≤ x ∧ x < nI n) := of_decide_eq_false (bI0 c1)
    have hT : t2 (0 ≤ x ∧ x < nI n) (0 ≤ y ∧ y ≤ 80) = 1 := t2_1 hC
    exact hthrow _ _ eI 68 70 8 _ [] (by decide +kernel) (hts _ lkX4_start_k68) (hts _ lkX4_start_j68) (vx_hat (fun w h => hts w (ieX4_start_70 w h)) xat_70 (xB_use hXW.1 hXW)) xot_70 hl.1 dX4_start_8 dX4_start_11 dX4_start_12 dX4_start_15 hP hS (Or.inl ⟨rfl, hT⟩) (Nat.le_of_ble_eq_true rfl)

theorem iwX4_set_X0 : ∀ w ∈ wsX00, w ∈ wsX4_set := fun w h => by unfold wsX4_set; simp only [List.mem_cons, List.mem_append, h, true_or, or_true]
theorem iwX4_set_X4 : ∀ w ∈ wsX40, w ∈ wsX4_set := fun w h => by unfold wsX4_set; simp only [List.mem_cons, List.mem_append, h, true_or, or_true]
theorem lkX4_set_40 : Cond.fieldLink RX4 40 "CoreTransactions" "cores" "[LCoreTransactions$Core;" ∈ wsX4_set := by decide +kernel
theorem lkX4_set_90 : Cond.fieldLink RX4 90 "CoreTransactions$Core" "registers" "[I" ∈ wsX4_set := by decide +kernel
theorem lkX4_set_k68 : Cond.classLink RX4 68 eI ∈ wsX4_set := by decide +kernel
theorem lkX4_set_j68 : Cond.initialized eI ∈ wsX4_set := by decide +kernel
theorem ieX4_set_70 : ∀ w ∈ (vx_at0 RX4 70 eI nmsX).filter goodWord, w ∈ wsX4_set := fun w h => List.mem_cons_of_mem _ (List.mem_append_right _ h)
abbrev rmX4_set : Room := ({ frames := 6, cells := 1, slots := 6, locals := 81 } : Room)
set_option maxRecDepth 100000 in
set_option maxHeartbeats 4000000 in
theorem kX4_set (l : Launch) (hl0 : l.stackTraces = false) (D : va_G) (cs : Nat → ClassId) (n : Nat) (ad : Nat → Nat) (σ : St) (hn4 : n ≤ 4) (x y v : Int32) (G : Nat) (hI : Inv σ G) : gMx l yX4_set wsX4_set rmX4_set D (tyL cs) (5 * (n + 2)) ad (CC cs n ad σ) [.ref (ad 0), .int x, .int y, .int v] (fun (r : Int32) (u : Unit) => t1 ((0 ≤ x ∧ x < nI n) ∧ (0 ≤ y ∧ y < 8)) = 0 ∧ r = σ.1 10 (iN x) (iN y)) (fun (u : Unit) => CC cs n ad (pGive σ (iN x) (iN y) v)) (fun E => (E = eI ∧ t1 ((0 ≤ x ∧ x < nI n) ∧ (0 ≤ y ∧ y < 8)) = 1)) := by
  refine g_ofx hl0 (cc := cX4_set) (maxL := 5) (by decide) rfl (Nat.le_of_ble_eq_true rfl) rfl rfl (by decide) ?_
  intro p e s m args below meth c A ls Q hx hb hml hts hown hK hP hD hA hS hl hXW hret hthrow
  have hl : lv_has ls 5 [(0, .ref (ad 0)), (1, .int x), (2, .int y), (3, .int v)] := hl
  refine lv_aload_n hx hb dX4_set_0 rfl (lv_at hl 0 rfl) ?_
  refine lv_iload_n hx hb dX4_set_1 rfl (lv_at hl 1 rfl) ?_
  refine g_cvi (As := [.int x]) ⟨hx, hb, hml, hown, hts⟩ (kX4_isCore l D cs n ad σ x) (cwV 1 hts gX4_set_X4_isCore rfl rfl rfl (by decide +kernel) ⟨Nat.le_of_ble_eq_true rfl, Nat.le_of_ble_eq_true rfl⟩) hK hP hD hS hA 0 (ci := 4) rfl rfl cc_obj hl.1 dX4_set_2 rfl rfl (Nat.le_of_ble_eq_true rfl) ⟨Nat.zero_le _, Nat.zero_le _⟩ (fun r _ H locs hw hP hS => ?_)
  obtain rfl : r = bI (decide (0 ≤ x ∧ x < nI n)) := hw
  have hP : va_P D vwCl (FW (5 * (n + 2)) ad (CC cs n ad σ)) H := hP
  refine lv_if_eq (tgt := 15) hx hb dX4_set_5 (by decide) (fun c1 => ?_) (fun c1 => ?_)
  · have hC : ¬ (0 ≤ x ∧ x < nI n) := of_decide_eq_false (bI0 c1)
    have hT : t1 ((0 ≤ x ∧ x < nI n) ∧ (0 ≤ y ∧ y < 8)) = 1 := t1_1 (fun h => hC h.1)
    exact hthrow _ _ eI 68 70 15 _ [] (by decide +kernel) (hts _ lkX4_set_k68) (hts _ lkX4_set_j68) (vx_hat (fun w h => hts w (ieX4_set_70 w h)) xat_70 (xB_use hXW.1 hXW)) xot_70 hl.1 dX4_set_15 dX4_set_18 dX4_set_19 dX4_set_22 hP hS (⟨rfl, hT⟩) (Nat.le_of_ble_eq_true rfl)
  · have hC : (0 ≤ x ∧ x < nI n) := of_decide_eq_true (bI1 c1)
    refine lv_iload_n hx hb dX4_set_8 rfl (lv_at hl 2 rfl) ?_
    refine g_csi (As := [.int y]) ⟨hx, hb, hml, hown, hts⟩ (kX4_isRegister l D cs n ad σ y) (va_cwS 1 hts gX4_set_X4_isRegister rfl rfl rfl (by decide +kernel) ⟨Nat.le_of_ble_eq_true rfl, Nat.le_of_ble_eq_true rfl⟩) hK hP hD hS hA hl.1 dX4_set_9 rfl rfl (Nat.le_of_ble_eq_true rfl) ⟨Nat.zero_le _, Nat.zero_le _⟩ (fun r _ H locs hw hP hS => ?_)
    obtain rfl : r = bI (decide (0 ≤ y ∧ y < 8)) := hw
    have hP : va_P D vwCl (FW (5 * (n + 2)) ad (CC cs n ad σ)) H := hP
    refine lv_if_ne (tgt := 23) hx hb dX4_set_12 (by decide) (fun c2 => ?_) (fun c2 => ?_)
    · have hRy : 0 ≤ y ∧ y < 8 := of_decide_eq_true (bI1 c2)
      have hT : t1 ((0 ≤ x ∧ x < nI n) ∧ (0 ≤ y ∧ y < 8)) = 0 := t1_0 ⟨hC, hRy⟩
      obtain ⟨k, hkn, hxk⟩ := i32_of (N := n) (by omega) hC.1 hC.2
      have hn31 : n < 2 ^ 31 := by omega
      have hik : iN x = k := by rw [hxk]; exact iN_nI (by omega)
      obtain ⟨j, hj, hyj⟩ := i32_of (N := 8) (by decide) hRy.1 hRy.2
      have hij : iN y = j := by rw [hyj]; exact iN_nI (by omega)
      refine lv_aload_n hx hb dX4_set_23 rfl (lv_at hl 0 rfl) ?_
      refine va_get (D := D) (ci := 4) (v := .ref (ad 1)) (C := RX4) (T := TX4) (N := 7) hx hb hts iwX4_set_X4 hown hK hP 0 cc_obj rfl 2 (by decide) (hts _ lkX4_set_40) (fun _ h9 => h9) rfl dX4_set_24 ?_
      refine lv_iload_n hx hb dX4_set_27 rfl (lv_at hl 1 rfl) ?_
      refine g_aald (t0 := 1) (v := ad (5 * (k + 2) + 0)) hx hb hK hP cc_cor rfl k hxk hkn hn31 rfl dX4_set_28 ?_
      refine va_get (D := D) (ci := 0) (v := .ref (ad (5 * (k + 2) + 1))) (C := RX0) (T := TX0) (N := 8) hx hb hts iwX4_set_X0 hown hK hP (5 * (k + 2) + 0) (cc_core hkn) rfl 1 (by decide) (hts _ lkX4_set_90) (fun _ h9 => h9) rfl dX4_set_29 ?_
      refine lv_iload_n hx hb dX4_set_32 rfl (lv_at hl 2 rfl) ?_
      refine g_iald (t0 := 0) (v := σ.1 10 k j) hx hb hK hP (cc_regs hkn) rfl j hyj hj (by decide) rfl dX4_set_33 ?_
      refine lv_istore (lv' := [(4, .int (σ.1 10 k j)), (0, .ref (ad 0)), (1, .int x), (2, .int y), (3, .int v)]) hx hb dX4_set_34 hl (by decide) rfl (fun ls hl => ?_)
      refine lv_aload_n hx hb dX4_set_36 rfl (lv_at hl 1 rfl) ?_
      refine va_get (D := D) (ci := 4) (v := .ref (ad 1)) (C := RX4) (T := TX4) (N := 7) hx hb hts iwX4_set_X4 hown hK hP 0 cc_obj rfl 2 (by decide) (hts _ lkX4_set_40) (fun _ h9 => h9) rfl dX4_set_37 ?_
      refine lv_iload_n hx hb dX4_set_40 rfl (lv_at hl 2 rfl) ?_
      refine g_aald (t0 := 1) (v := ad (5 * (k + 2) + 0)) hx hb hK hP cc_cor rfl k hxk hkn hn31 rfl dX4_set_41 ?_
      refine lv_iload_n hx hb dX4_set_42 rfl (lv_at hl 3 rfl) ?_
      refine g_top (y := nI j) (hyj) ?_
      refine lv_iload_n hx hb dX4_set_43 rfl (lv_at hl 4 rfl) ?_
      refine g_cvv (As := [.int (nI j), .int v]) ⟨hx, hb, hml, hown, hts⟩ (kX0_put l D cs n ad σ k hkn j hj v) (cwV 2 hts gX4_set_X0_put rfl rfl rfl (by decide +kernel) ⟨Nat.le_of_ble_eq_true rfl, Nat.le_of_ble_eq_true rfl⟩) hK hP hD hS hA (5 * (k + 2) + 0) (ci := 0) rfl rfl (cc_core hkn) hl.1 dX4_set_44 rfl rfl (Nat.le_of_ble_eq_true rfl) ⟨Nat.zero_le _, Nat.zero_le _⟩ (fun _ H locs hw hP hS => ?_)
      obtain ⟨σ3, eσ3⟩ : ∃ z, z = pGive σ k j v := ⟨_, rfl⟩
      have hP : va_P D vwCl (FW (5 * (n + 2)) ad (CC cs n ad σ3)) H := by rw [eσ3]; exact hP
      refine lv_iload hx hb dX4_set_47 (lv_at hl 0 rfl) ?_
      exact hret _ _ _ _ () _ _ dX4_set_49 hP hS (⟨hT, by rw [hik, hij]⟩) (by rw [hik, hij]; simp only [eσ3])
    · have hRy : ¬ (0 ≤ y ∧ y < 8) := of_decide_eq_false (bI0 c2)
      have hT : t1 ((0 ≤ x ∧ x < nI n) ∧ (0 ≤ y ∧ y < 8)) = 1 := t1_1 (fun h => hRy h.2)
      exact hthrow _ _ eI 68 70 15 _ [] (by decide +kernel) (hts _ lkX4_set_k68) (hts _ lkX4_set_j68) (vx_hat (fun w h => hts w (ieX4_set_70 w h)) xat_70 (xB_use hXW.1 hXW)) xot_70 hl.1 dX4_set_15 dX4_set_18 dX4_set_19 dX4_set_22 hP hS (⟨rfl, hT⟩) (Nat.le_of_ble_eq_true rfl)

theorem iwX4_poke_X4 : ∀ w ∈ wsX40, w ∈ wsX4_poke := fun w h => by unfold wsX4_poke; simp only [List.mem_cons, List.mem_append, h, true_or, or_true]
theorem lkX4_poke_9 : Cond.fieldLink RX4 9 "CoreTransactions" "memory" "[I" ∈ wsX4_poke := by decide +kernel
theorem lkX4_poke_k68 : Cond.classLink RX4 68 eI ∈ wsX4_poke := by decide +kernel
theorem lkX4_poke_j68 : Cond.initialized eI ∈ wsX4_poke := by decide +kernel
theorem ieX4_poke_70 : ∀ w ∈ (vx_at0 RX4 70 eI nmsX).filter goodWord, w ∈ wsX4_poke := fun w h => List.mem_cons_of_mem _ (List.mem_append_right _ h)
abbrev rmX4_poke : Room := ({ frames := 6, cells := 1, slots := 6, locals := 107 } : Room)
set_option maxRecDepth 100000 in
set_option maxHeartbeats 4000000 in
theorem kX4_poke (l : Launch) (hl0 : l.stackTraces = false) (D : va_G) (cs : Nat → ClassId) (n : Nat) (ad : Nat → Nat) (σ : St) (hn4 : n ≤ 4) (x v : Int32) (G : Nat) (hI : Inv σ G) : gMx l yX4_poke wsX4_poke rmX4_poke D (tyL cs) (5 * (n + 2)) ad (CC cs n ad σ) [.ref (ad 0), .int x, .int v] (fun (r : Int32) (u : Unit) => t1 (0 ≤ x ∧ x < 64) = 0 ∧ r = σ.1 0 0 (iN x)) (fun (u : Unit) => CC cs n ad (pPoke σ n (iN x) v)) (fun E => (E = eI ∧ t1 (0 ≤ x ∧ x < 64) = 1)) := by
  refine g_ofx hl0 (cc := cX4_poke) (maxL := 4) (by decide) rfl (Nat.le_of_ble_eq_true rfl) rfl rfl (by decide) ?_
  intro p e s m args below meth c A ls Q hx hb hml hts hown hK hP hD hA hS hl hXW hret hthrow
  have hl : lv_has ls 4 [(0, .ref (ad 0)), (1, .int x), (2, .int v)] := hl
  refine lv_iload_n hx hb dX4_poke_0 rfl (lv_at hl 1 rfl) ?_
  refine g_csi (As := [.int x]) ⟨hx, hb, hml, hown, hts⟩ (kX4_isWord l D cs n ad σ x) (va_cwS 1 hts gX4_poke_X4_isWord rfl rfl rfl (by decide +kernel) ⟨Nat.le_of_ble_eq_true rfl, Nat.le_of_ble_eq_true rfl⟩) hK hP hD hS hA hl.1 dX4_poke_1 rfl rfl (Nat.le_of_ble_eq_true rfl) ⟨Nat.zero_le _, Nat.zero_le _⟩ (fun r _ H locs hw hP hS => ?_)
  obtain rfl : r = bI (decide (0 ≤ x ∧ x < 64)) := hw
  have hP : va_P D vwCl (FW (5 * (n + 2)) ad (CC cs n ad σ)) H := hP
  refine lv_if_ne (tgt := 15) hx hb dX4_poke_4 (by decide) (fun c1 => ?_) (fun c1 => ?_)
  · have hW : 0 ≤ x ∧ x < 64 := of_decide_eq_true (bI1 c1)
    have hT : t1 (0 ≤ x ∧ x < 64) = 0 := t1_0 hW
    obtain ⟨j, hj, hxj⟩ := i32_of (N := 64) (by decide) hW.1 hW.2
    have hij : iN x = j := by rw [hxj]; exact iN_nI (by omega)
    refine lv_aload_n hx hb dX4_poke_15 rfl (lv_at hl 0 rfl) ?_
    refine lv_iconst (v := -1) hx hb dX4_poke_16 (by decide) ?_
    refine lv_iload_n hx hb dX4_poke_17 rfl (lv_at hl 1 rfl) ?_
    refine g_top (y := nI j) (hxj) ?_
    refine lv_iconst (v := 4) hx hb dX4_poke_18 (by decide) ?_
    refine lv_idiv hx hb dX4_poke_19 (by decide) ?_
    refine g_top (y := nI (j / 4)) (pk_div (a := j) (d := 4) (by omega) (by decide) (by decide)) ?_
    refine lv_iconst (v := 1) hx hb dX4_poke_20 (by decide) ?_
    refine g_cvv (As := [.int ((-1)), .int (nI (j / 4)), .int 1]) ⟨hx, hb, hml, hown, hts⟩ (kX4_breakOffAll l D cs n ad σ (by omega) (-1) (j / 4) true (okQ_Inv hI)) (cwV 3 hts gX4_poke_X4_breakOffAll rfl rfl rfl (by decide +kernel) ⟨Nat.le_of_ble_eq_true rfl, Nat.le_of_ble_eq_true rfl⟩) hK hP hD hS hA 0 (ci := 4) rfl rfl cc_obj hl.1 dX4_poke_21 rfl rfl (Nat.le_of_ble_eq_true rfl) ⟨Nat.zero_le _, Nat.zero_le _⟩ (fun _ H locs hw hP hS => ?_)
    obtain ⟨σ2, eσ2⟩ : ∃ z, z = pBA (-1) (j / 4) true n σ := ⟨_, rfl⟩
    have hP : va_P D vwCl (FW (5 * (n + 2)) ad (CC cs n ad σ2)) H := by rw [eσ2]; exact hP
    refine lv_aload_n hx hb dX4_poke_24 rfl (lv_at hl 0 rfl) ?_
    refine va_get (D := D) (ci := 4) (v := .ref (ad 2)) (C := RX4) (T := TX4) (N := 7) hx hb hts iwX4_poke_X4 hown hK hP 0 cc_obj rfl 3 (by decide) (hts _ lkX4_poke_9) (fun _ h9 => h9) rfl dX4_poke_25 ?_
    refine lv_iload_n hx hb dX4_poke_28 rfl (lv_at hl 1 rfl) ?_
    refine g_iald (t0 := 0) (v := σ2.1 0 0 j) hx hb hK hP cc_mem rfl j hxj hj (by decide) rfl dX4_poke_29 ?_
    refine lv_istore_n (lv' := [(3, .int (σ2.1 0 0 j)), (0, .ref (ad 0)), (1, .int x), (2, .int v)]) hx hb dX4_poke_30 rfl hl (by decide) rfl (fun ls hl => ?_)
    refine lv_aload_n hx hb dX4_poke_31 rfl (lv_at hl 1 rfl) ?_
    refine va_get (D := D) (ci := 4) (v := .ref (ad 2)) (C := RX4) (T := TX4) (N := 7) hx hb hts iwX4_poke_X4 hown hK hP 0 cc_obj rfl 3 (by decide) (hts _ lkX4_poke_9) (fun _ h9 => h9) rfl dX4_poke_32 ?_
    refine lv_iload_n hx hb dX4_poke_35 rfl (lv_at hl 2 rfl) ?_
    refine lv_iload_n hx hb dX4_poke_36 rfl (lv_at hl 3 rfl) ?_
    refine g_iast (t0 := 0) hx hb hK hP hD hS cc_mem rfl j hxj hj (by decide) dX4_poke_37 (fun H locs hP hS => ?_)
    obtain ⟨σ3, eσ3⟩ : ∃ z, z = put σ2 0 0 j v := ⟨_, rfl⟩
    have hP : va_P D vwCl (FW (5 * (n + 2)) ad (CC cs n ad σ3)) H := by rw [eσ3]; exact FW_P hP cu_mem
    refine lv_iload_n hx hb dX4_poke_38 rfl (lv_at hl 0 rfl) ?_
    exact hret _ _ _ _ () _ _ dX4_poke_39 hP hS (⟨hT, by rw [hij]; simp only [eσ2]; exact pBA_at (by decide) (by decide) (by decide) (by decide) (Or.inr (by decide)) n⟩) (by rw [hij]; simp only [eσ3, eσ2]; rfl)
  · have hW : ¬ (0 ≤ x ∧ x < 64) := of_decide_eq_false (bI0 c1)
    have hT : t1 (0 ≤ x ∧ x < 64) = 1 := t1_1 hW
    exact hthrow _ _ eI 68 70 7 _ [] (by decide +kernel) (hts _ lkX4_poke_k68) (hts _ lkX4_poke_j68) (vx_hat (fun w h => hts w (ieX4_poke_70 w h)) xat_70 (xB_use hXW.1 hXW)) xot_70 hl.1 dX4_poke_7 dX4_poke_10 dX4_poke_11 dX4_poke_14 hP hS (⟨rfl, hT⟩) (Nat.le_of_ble_eq_true rfl)

theorem iwX4_register_X0 : ∀ w ∈ wsX00, w ∈ wsX4_register := fun w h => by unfold wsX4_register; simp only [List.mem_cons, List.mem_append, h, true_or, or_true]
theorem iwX4_register_X4 : ∀ w ∈ wsX40, w ∈ wsX4_register := fun w h => by unfold wsX4_register; simp only [List.mem_cons, List.mem_append, h, true_or, or_true]
theorem lkX4_register_40 : Cond.fieldLink RX4 40 "CoreTransactions" "cores" "[LCoreTransactions$Core;" ∈ wsX4_register := by decide +kernel
theorem lkX4_register_90 : Cond.fieldLink RX4 90 "CoreTransactions$Core" "registers" "[I" ∈ wsX4_register := by decide +kernel
theorem lkX4_register_k68 : Cond.classLink RX4 68 eI ∈ wsX4_register := by decide +kernel
theorem lkX4_register_j68 : Cond.initialized eI ∈ wsX4_register := by decide +kernel
theorem ieX4_register_70 : ∀ w ∈ (vx_at0 RX4 70 eI nmsX).filter goodWord, w ∈ wsX4_register := fun w h => List.mem_cons_of_mem _ (List.mem_append_right _ h)
abbrev rmX4_register : Room := ({ frames := 6, cells := 1, slots := 6, locals := 81 } : Room)
set_option maxRecDepth 100000 in
set_option maxHeartbeats 4000000 in
theorem kX4_register (l : Launch) (hl0 : l.stackTraces = false) (D : va_G) (cs : Nat → ClassId) (n : Nat) (ad : Nat → Nat) (σ : St) (hn4 : n ≤ 4) (x y : Int32) (G : Nat) (hI : Inv σ G) : gMx l yX4_register wsX4_register rmX4_register D (tyL cs) (5 * (n + 2)) ad (CC cs n ad σ) [.ref (ad 0), .int x, .int y] (fun (r : Int32) (u : Unit) => t1 ((0 ≤ x ∧ x < nI n) ∧ (0 ≤ y ∧ y < 8)) = 0 ∧ r = σ.1 10 (iN x) (iN y)) (fun (u : Unit) => CC cs n ad (σ)) (fun E => (E = eI ∧ t1 ((0 ≤ x ∧ x < nI n) ∧ (0 ≤ y ∧ y < 8)) = 1)) := by
  refine g_ofx hl0 (cc := cX4_register) (maxL := 3) (by decide) rfl (Nat.le_of_ble_eq_true rfl) rfl rfl (by decide) ?_
  intro p e s m args below meth c A ls Q hx hb hml hts hown hK hP hD hA hS hl hXW hret hthrow
  have hl : lv_has ls 3 [(0, .ref (ad 0)), (1, .int x), (2, .int y)] := hl
  refine lv_aload_n hx hb dX4_register_0 rfl (lv_at hl 0 rfl) ?_
  refine lv_iload_n hx hb dX4_register_1 rfl (lv_at hl 1 rfl) ?_
  refine g_cvi (As := [.int x]) ⟨hx, hb, hml, hown, hts⟩ (kX4_isCore l D cs n ad σ x) (cwV 1 hts gX4_register_X4_isCore rfl rfl rfl (by decide +kernel) ⟨Nat.le_of_ble_eq_true rfl, Nat.le_of_ble_eq_true rfl⟩) hK hP hD hS hA 0 (ci := 4) rfl rfl cc_obj hl.1 dX4_register_2 rfl rfl (Nat.le_of_ble_eq_true rfl) ⟨Nat.zero_le _, Nat.zero_le _⟩ (fun r _ H locs hw hP hS => ?_)
  obtain rfl : r = bI (decide (0 ≤ x ∧ x < nI n)) := hw
  have hP : va_P D vwCl (FW (5 * (n + 2)) ad (CC cs n ad σ)) H := hP
  refine lv_if_eq (tgt := 15) hx hb dX4_register_5 (by decide) (fun c1 => ?_) (fun c1 => ?_)
  · have hC : ¬ (0 ≤ x ∧ x < nI n) := of_decide_eq_false (bI0 c1)
    have hT : t1 ((0 ≤ x ∧ x < nI n) ∧ (0 ≤ y ∧ y < 8)) = 1 := t1_1 (fun h => hC h.1)
    exact hthrow _ _ eI 68 70 15 _ [] (by decide +kernel) (hts _ lkX4_register_k68) (hts _ lkX4_register_j68) (vx_hat (fun w h => hts w (ieX4_register_70 w h)) xat_70 (xB_use hXW.1 hXW)) xot_70 hl.1 dX4_register_15 dX4_register_18 dX4_register_19 dX4_register_22 hP hS (⟨rfl, hT⟩) (Nat.le_of_ble_eq_true rfl)
  · have hC : (0 ≤ x ∧ x < nI n) := of_decide_eq_true (bI1 c1)
    refine lv_iload_n hx hb dX4_register_8 rfl (lv_at hl 2 rfl) ?_
    refine g_csi (As := [.int y]) ⟨hx, hb, hml, hown, hts⟩ (kX4_isRegister l D cs n ad σ y) (va_cwS 1 hts gX4_register_X4_isRegister rfl rfl rfl (by decide +kernel) ⟨Nat.le_of_ble_eq_true rfl, Nat.le_of_ble_eq_true rfl⟩) hK hP hD hS hA hl.1 dX4_register_9 rfl rfl (Nat.le_of_ble_eq_true rfl) ⟨Nat.zero_le _, Nat.zero_le _⟩ (fun r _ H locs hw hP hS => ?_)
    obtain rfl : r = bI (decide (0 ≤ y ∧ y < 8)) := hw
    have hP : va_P D vwCl (FW (5 * (n + 2)) ad (CC cs n ad σ)) H := hP
    refine lv_if_ne (tgt := 23) hx hb dX4_register_12 (by decide) (fun c2 => ?_) (fun c2 => ?_)
    · have hRy : 0 ≤ y ∧ y < 8 := of_decide_eq_true (bI1 c2)
      have hT : t1 ((0 ≤ x ∧ x < nI n) ∧ (0 ≤ y ∧ y < 8)) = 0 := t1_0 ⟨hC, hRy⟩
      obtain ⟨k, hkn, hxk⟩ := i32_of (N := n) (by omega) hC.1 hC.2
      have hn31 : n < 2 ^ 31 := by omega
      have hik : iN x = k := by rw [hxk]; exact iN_nI (by omega)
      obtain ⟨j, hj, hyj⟩ := i32_of (N := 8) (by decide) hRy.1 hRy.2
      have hij : iN y = j := by rw [hyj]; exact iN_nI (by omega)
      refine lv_aload_n hx hb dX4_register_23 rfl (lv_at hl 0 rfl) ?_
      refine va_get (D := D) (ci := 4) (v := .ref (ad 1)) (C := RX4) (T := TX4) (N := 7) hx hb hts iwX4_register_X4 hown hK hP 0 cc_obj rfl 2 (by decide) (hts _ lkX4_register_40) (fun _ h9 => h9) rfl dX4_register_24 ?_
      refine lv_iload_n hx hb dX4_register_27 rfl (lv_at hl 1 rfl) ?_
      refine g_aald (t0 := 1) (v := ad (5 * (k + 2) + 0)) hx hb hK hP cc_cor rfl k hxk hkn hn31 rfl dX4_register_28 ?_
      refine va_get (D := D) (ci := 0) (v := .ref (ad (5 * (k + 2) + 1))) (C := RX0) (T := TX0) (N := 8) hx hb hts iwX4_register_X0 hown hK hP (5 * (k + 2) + 0) (cc_core hkn) rfl 1 (by decide) (hts _ lkX4_register_90) (fun _ h9 => h9) rfl dX4_register_29 ?_
      refine lv_iload_n hx hb dX4_register_32 rfl (lv_at hl 2 rfl) ?_
      refine g_iald (t0 := 0) (v := σ.1 10 k j) hx hb hK hP (cc_regs hkn) rfl j hyj hj (by decide) rfl dX4_register_33 ?_
      exact hret _ _ _ _ () _ _ dX4_register_34 hP hS (⟨hT, by rw [hik, hij]⟩) (rfl)
    · have hRy : ¬ (0 ≤ y ∧ y < 8) := of_decide_eq_false (bI0 c2)
      have hT : t1 ((0 ≤ x ∧ x < nI n) ∧ (0 ≤ y ∧ y < 8)) = 1 := t1_1 (fun h => hRy h.2)
      exact hthrow _ _ eI 68 70 15 _ [] (by decide +kernel) (hts _ lkX4_register_k68) (hts _ lkX4_register_j68) (vx_hat (fun w h => hts w (ieX4_register_70 w h)) xat_70 (xB_use hXW.1 hXW)) xot_70 hl.1 dX4_register_15 dX4_register_18 dX4_register_19 dX4_register_22 hP hS (⟨rfl, hT⟩) (Nat.le_of_ble_eq_true rfl)

theorem iwX4_word_X4 : ∀ w ∈ wsX40, w ∈ wsX4_word := fun w h => by unfold wsX4_word; simp only [List.mem_cons, List.mem_append, h, true_or, or_true]
theorem lkX4_word_9 : Cond.fieldLink RX4 9 "CoreTransactions" "memory" "[I" ∈ wsX4_word := by decide +kernel
theorem lkX4_word_k68 : Cond.classLink RX4 68 eI ∈ wsX4_word := by decide +kernel
theorem lkX4_word_j68 : Cond.initialized eI ∈ wsX4_word := by decide +kernel
theorem ieX4_word_70 : ∀ w ∈ (vx_at0 RX4 70 eI nmsX).filter goodWord, w ∈ wsX4_word := fun w h => List.mem_cons_of_mem _ (List.mem_append_right _ h)
abbrev rmX4_word : Room := ({ frames := 6, cells := 1, slots := 6, locals := 81 } : Room)
set_option maxRecDepth 100000 in
set_option maxHeartbeats 4000000 in
theorem kX4_word (l : Launch) (hl0 : l.stackTraces = false) (D : va_G) (cs : Nat → ClassId) (n : Nat) (ad : Nat → Nat) (σ : St) (hn4 : n ≤ 4) (x : Int32) (G : Nat) (hI : Inv σ G) : gMx l yX4_word wsX4_word rmX4_word D (tyL cs) (5 * (n + 2)) ad (CC cs n ad σ) [.ref (ad 0), .int x] (fun (r : Int32) (u : Unit) => t1 (0 ≤ x ∧ x < 64) = 0 ∧ r = σ.1 0 0 (iN x)) (fun (u : Unit) => CC cs n ad (σ)) (fun E => (E = eI ∧ t1 (0 ≤ x ∧ x < 64) = 1)) := by
  refine g_ofx hl0 (cc := cX4_word) (maxL := 2) (by decide) rfl (Nat.le_of_ble_eq_true rfl) rfl rfl (by decide) ?_
  intro p e s m args below meth c A ls Q hx hb hml hts hown hK hP hD hA hS hl hXW hret hthrow
  have hl : lv_has ls 2 [(0, .ref (ad 0)), (1, .int x)] := hl
  refine lv_iload_n hx hb dX4_word_0 rfl (lv_at hl 1 rfl) ?_
  refine g_csi (As := [.int x]) ⟨hx, hb, hml, hown, hts⟩ (kX4_isWord l D cs n ad σ x) (va_cwS 1 hts gX4_word_X4_isWord rfl rfl rfl (by decide +kernel) ⟨Nat.le_of_ble_eq_true rfl, Nat.le_of_ble_eq_true rfl⟩) hK hP hD hS hA hl.1 dX4_word_1 rfl rfl (Nat.le_of_ble_eq_true rfl) ⟨Nat.zero_le _, Nat.zero_le _⟩ (fun r _ H locs hw hP hS => ?_)
  obtain rfl : r = bI (decide (0 ≤ x ∧ x < 64)) := hw
  have hP : va_P D vwCl (FW (5 * (n + 2)) ad (CC cs n ad σ)) H := hP
  refine lv_if_ne (tgt := 15) hx hb dX4_word_4 (by decide) (fun c1 => ?_) (fun c1 => ?_)
  · have hW : 0 ≤ x ∧ x < 64 := of_decide_eq_true (bI1 c1)
    have hT : t1 (0 ≤ x ∧ x < 64) = 0 := t1_0 hW
    obtain ⟨j, hj, hxj⟩ := i32_of (N := 64) (by decide) hW.1 hW.2
    have hij : iN x = j := by rw [hxj]; exact iN_nI (by omega)
    refine lv_aload_n hx hb dX4_word_15 rfl (lv_at hl 0 rfl) ?_
    refine va_get (D := D) (ci := 4) (v := .ref (ad 2)) (C := RX4) (T := TX4) (N := 7) hx hb hts iwX4_word_X4 hown hK hP 0 cc_obj rfl 3 (by decide) (hts _ lkX4_word_9) (fun _ h9 => h9) rfl dX4_word_16 ?_
    refine lv_iload_n hx hb dX4_word_19 rfl (lv_at hl 1 rfl) ?_
    refine g_iald (t0 := 0) (v := σ.1 0 0 j) hx hb hK hP cc_mem rfl j hxj hj (by decide) rfl dX4_word_20 ?_
    exact hret _ _ _ _ () _ _ dX4_word_21 hP hS (⟨hT, by rw [hij]⟩) (rfl)
  · have hW : ¬ (0 ≤ x ∧ x < 64) := of_decide_eq_false (bI0 c1)
    have hT : t1 (0 ≤ x ∧ x < 64) = 1 := t1_1 hW
    exact hthrow _ _ eI 68 70 7 _ [] (by decide +kernel) (hts _ lkX4_word_k68) (hts _ lkX4_word_j68) (vx_hat (fun w h => hts w (ieX4_word_70 w h)) xat_70 (xB_use hXW.1 hXW)) xot_70 hl.1 dX4_word_7 dX4_word_10 dX4_word_11 dX4_word_14 hP hS (⟨rfl, hT⟩) (Nat.le_of_ble_eq_true rfl)

theorem iwX4_seen_X4 : ∀ w ∈ wsX40, w ∈ wsX4_seen := fun w h => by unfold wsX4_seen; simp only [List.mem_cons, List.mem_append, h, true_or, or_true]
theorem lkX4_seen_40 : Cond.fieldLink RX4 40 "CoreTransactions" "cores" "[LCoreTransactions$Core;" ∈ wsX4_seen := by decide +kernel
theorem lkX4_seen_k68 : Cond.classLink RX4 68 eI ∈ wsX4_seen := by decide +kernel
theorem lkX4_seen_j68 : Cond.initialized eI ∈ wsX4_seen := by decide +kernel
theorem ieX4_seen_70 : ∀ w ∈ (vx_at0 RX4 70 eI nmsX).filter goodWord, w ∈ wsX4_seen := fun w h => List.mem_cons_of_mem _ (List.mem_append_right _ h)
abbrev rmX4_seen : Room := ({ frames := 6, cells := 1, slots := 6, locals := 81 } : Room)
set_option maxRecDepth 100000 in
set_option maxHeartbeats 4000000 in
theorem kX4_seen (l : Launch) (hl0 : l.stackTraces = false) (D : va_G) (cs : Nat → ClassId) (n : Nat) (ad : Nat → Nat) (σ : St) (hn4 : n ≤ 4) (x y : Int32) (G : Nat) (hI : Inv σ G) : gMx l yX4_seen wsX4_seen rmX4_seen D (tyL cs) (5 * (n + 2)) ad (CC cs n ad σ) [.ref (ad 0), .int x, .int y] (fun (r : Int32) (u : Unit) => t1 ((0 ≤ x ∧ x < nI n) ∧ (0 ≤ y ∧ y < 64)) = 0 ∧ r = pSeen σ (iN x) (iN y)) (fun (u : Unit) => CC cs n ad (σ)) (fun E => (E = eI ∧ t1 ((0 ≤ x ∧ x < nI n) ∧ (0 ≤ y ∧ y < 64)) = 1)) := by
  refine g_ofx hl0 (cc := cX4_seen) (maxL := 3) (by decide) rfl (Nat.le_of_ble_eq_true rfl) rfl rfl (by decide) ?_
  intro p e s m args below meth c A ls Q hx hb hml hts hown hK hP hD hA hS hl hXW hret hthrow
  have hl : lv_has ls 3 [(0, .ref (ad 0)), (1, .int x), (2, .int y)] := hl
  refine lv_aload_n hx hb dX4_seen_0 rfl (lv_at hl 0 rfl) ?_
  refine lv_iload_n hx hb dX4_seen_1 rfl (lv_at hl 1 rfl) ?_
  refine g_cvi (As := [.int x]) ⟨hx, hb, hml, hown, hts⟩ (kX4_isCore l D cs n ad σ x) (cwV 1 hts gX4_seen_X4_isCore rfl rfl rfl (by decide +kernel) ⟨Nat.le_of_ble_eq_true rfl, Nat.le_of_ble_eq_true rfl⟩) hK hP hD hS hA 0 (ci := 4) rfl rfl cc_obj hl.1 dX4_seen_2 rfl rfl (Nat.le_of_ble_eq_true rfl) ⟨Nat.zero_le _, Nat.zero_le _⟩ (fun r _ H locs hw hP hS => ?_)
  obtain rfl : r = bI (decide (0 ≤ x ∧ x < nI n)) := hw
  have hP : va_P D vwCl (FW (5 * (n + 2)) ad (CC cs n ad σ)) H := hP
  refine lv_if_eq (tgt := 15) hx hb dX4_seen_5 (by decide) (fun c1 => ?_) (fun c1 => ?_)
  · have hC : ¬ (0 ≤ x ∧ x < nI n) := of_decide_eq_false (bI0 c1)
    have hT : t1 ((0 ≤ x ∧ x < nI n) ∧ (0 ≤ y ∧ y < 64)) = 1 := t1_1 (fun h => hC h.1)
    exact hthrow _ _ eI 68 70 15 _ [] (by decide +kernel) (hts _ lkX4_seen_k68) (hts _ lkX4_seen_j68) (vx_hat (fun w h => hts w (ieX4_seen_70 w h)) xat_70 (xB_use hXW.1 hXW)) xot_70 hl.1 dX4_seen_15 dX4_seen_18 dX4_seen_19 dX4_seen_22 hP hS (⟨rfl, hT⟩) (Nat.le_of_ble_eq_true rfl)
  · have hC : (0 ≤ x ∧ x < nI n) := of_decide_eq_true (bI1 c1)
    refine lv_iload_n hx hb dX4_seen_8 rfl (lv_at hl 2 rfl) ?_
    refine g_csi (As := [.int y]) ⟨hx, hb, hml, hown, hts⟩ (kX4_isWord l D cs n ad σ y) (va_cwS 1 hts gX4_seen_X4_isWord rfl rfl rfl (by decide +kernel) ⟨Nat.le_of_ble_eq_true rfl, Nat.le_of_ble_eq_true rfl⟩) hK hP hD hS hA hl.1 dX4_seen_9 rfl rfl (Nat.le_of_ble_eq_true rfl) ⟨Nat.zero_le _, Nat.zero_le _⟩ (fun r _ H locs hw hP hS => ?_)
    obtain rfl : r = bI (decide (0 ≤ y ∧ y < 64)) := hw
    have hP : va_P D vwCl (FW (5 * (n + 2)) ad (CC cs n ad σ)) H := hP
    refine lv_if_ne (tgt := 23) hx hb dX4_seen_12 (by decide) (fun c2 => ?_) (fun c2 => ?_)
    · have hRy : 0 ≤ y ∧ y < 64 := of_decide_eq_true (bI1 c2)
      have hT : t1 ((0 ≤ x ∧ x < nI n) ∧ (0 ≤ y ∧ y < 64)) = 0 := t1_0 ⟨hC, hRy⟩
      obtain ⟨k, hkn, hxk⟩ := i32_of (N := n) (by omega) hC.1 hC.2
      have hn31 : n < 2 ^ 31 := by omega
      have hik : iN x = k := by rw [hxk]; exact iN_nI (by omega)
      obtain ⟨j, hj, hyj⟩ := i32_of (N := 64) (by decide) hRy.1 hRy.2
      have hij : iN y = j := by rw [hyj]; exact iN_nI (by omega)
      refine lv_aload_n hx hb dX4_seen_23 rfl (lv_at hl 0 rfl) ?_
      refine lv_aload_n hx hb dX4_seen_24 rfl (lv_at hl 0 rfl) ?_
      refine va_get (D := D) (ci := 4) (v := .ref (ad 1)) (C := RX4) (T := TX4) (N := 7) hx hb hts iwX4_seen_X4 hown hK hP 0 cc_obj rfl 2 (by decide) (hts _ lkX4_seen_40) (fun _ h9 => h9) rfl dX4_seen_25 ?_
      refine lv_iload_n hx hb dX4_seen_28 rfl (lv_at hl 1 rfl) ?_
      refine g_aald (t0 := 1) (v := ad (5 * (k + 2) + 0)) hx hb hK hP cc_cor rfl k hxk hkn hn31 rfl dX4_seen_29 ?_
      refine lv_iload_n hx hb dX4_seen_30 rfl (lv_at hl 2 rfl) ?_
      refine g_top (y := nI j) (hyj) ?_
      refine g_cvi (As := [.ref (ad (5 * (k + 2) + 0)), .int (nI j)]) ⟨hx, hb, hml, hown, hts⟩ (kX4_wordSeenBy l D cs n ad σ k hkn j hj) (cwV 2 hts gX4_seen_X4_wordSeenBy rfl rfl rfl (by decide +kernel) ⟨Nat.le_of_ble_eq_true rfl, Nat.le_of_ble_eq_true rfl⟩) hK hP hD hS hA 0 (ci := 4) rfl rfl cc_obj hl.1 dX4_seen_31 rfl rfl (Nat.le_of_ble_eq_true rfl) ⟨Nat.zero_le _, Nat.zero_le _⟩ (fun r _ H locs hw hP hS => ?_)
      obtain rfl : r = pSeen σ k j := hw
      have hP : va_P D vwCl (FW (5 * (n + 2)) ad (CC cs n ad σ)) H := hP
      exact hret _ _ _ _ () _ _ dX4_seen_34 hP hS (⟨hT, by rw [hik, hij]⟩) (rfl)
    · have hRy : ¬ (0 ≤ y ∧ y < 64) := of_decide_eq_false (bI0 c2)
      have hT : t1 ((0 ≤ x ∧ x < nI n) ∧ (0 ≤ y ∧ y < 64)) = 1 := t1_1 (fun h => hRy h.2)
      exact hthrow _ _ eI 68 70 15 _ [] (by decide +kernel) (hts _ lkX4_seen_k68) (hts _ lkX4_seen_j68) (vx_hat (fun w h => hts w (ieX4_seen_70 w h)) xat_70 (xB_use hXW.1 hXW)) xot_70 hl.1 dX4_seen_15 dX4_seen_18 dX4_seen_19 dX4_seen_22 hP hS (⟨rfl, hT⟩) (Nat.le_of_ble_eq_true rfl)

theorem iwX4_told_X4 : ∀ w ∈ wsX40, w ∈ wsX4_told := fun w h => by unfold wsX4_told; simp only [List.mem_cons, List.mem_append, h, true_or, or_true]
theorem lkX4_told_40 : Cond.fieldLink RX4 40 "CoreTransactions" "cores" "[LCoreTransactions$Core;" ∈ wsX4_told := by decide +kernel
theorem lkX4_told_k51 : Cond.classLink RX4 51 eA ∈ wsX4_told := by decide +kernel
theorem lkX4_told_j51 : Cond.initialized eA ∈ wsX4_told := by decide +kernel
theorem ieX4_told_53 : ∀ w ∈ (vx_at0 RX4 53 eA nmsX).filter goodWord, w ∈ wsX4_told := fun w h => List.mem_cons_of_mem _ (List.mem_append_right _ h)
theorem lkX4_told_k68 : Cond.classLink RX4 68 eI ∈ wsX4_told := by decide +kernel
theorem lkX4_told_j68 : Cond.initialized eI ∈ wsX4_told := by decide +kernel
theorem ieX4_told_70 : ∀ w ∈ (vx_at0 RX4 70 eI nmsX).filter goodWord, w ∈ wsX4_told := fun w h => List.mem_cons_of_mem _ (List.mem_append_left _ (List.mem_append_right _ h))
abbrev rmX4_told : Room := ({ frames := 6, cells := 1, slots := 6, locals := 81 } : Room)
set_option maxRecDepth 100000 in
set_option maxHeartbeats 4000000 in
theorem kX4_told (l : Launch) (hl0 : l.stackTraces = false) (D : va_G) (cs : Nat → ClassId) (n : Nat) (ad : Nat → Nat) (σ : St) (hn4 : n ≤ 4) (x y : Int32) (G : Nat) (hI : Inv σ G) : gMx l yX4_told wsX4_told rmX4_told D (tyL cs) (5 * (n + 2)) ad (CC cs n ad σ) [.ref (ad 0), .int x, .int y] (fun (r : Int32) (u : Unit) => t2 (0 ≤ x ∧ x < nI n) (0 ≤ y ∧ y < 10) = 0 ∧ r = pTold σ (iN x) (iN y)) (fun (u : Unit) => CC cs n ad (σ)) (fun E => (E = eI ∧ t2 (0 ≤ x ∧ x < nI n) (0 ≤ y ∧ y < 10) = 1) ∨ (E = eA ∧ t2 (0 ≤ x ∧ x < nI n) (0 ≤ y ∧ y < 10) = 2)) := by
  refine g_ofx hl0 (cc := cX4_told) (maxL := 3) (by decide) rfl (Nat.le_of_ble_eq_true rfl) rfl rfl (by decide) ?_
  intro p e s m args below meth c A ls Q hx hb hml hts hown hK hP hD hA hS hl hXW hret hthrow
  have hl : lv_has ls 3 [(0, .ref (ad 0)), (1, .int x), (2, .int y)] := hl
  refine lv_aload_n hx hb dX4_told_0 rfl (lv_at hl 0 rfl) ?_
  refine lv_iload_n hx hb dX4_told_1 rfl (lv_at hl 1 rfl) ?_
  refine g_cvi (As := [.int x]) ⟨hx, hb, hml, hown, hts⟩ (kX4_isCore l D cs n ad σ x) (cwV 1 hts gX4_told_X4_isCore rfl rfl rfl (by decide +kernel) ⟨Nat.le_of_ble_eq_true rfl, Nat.le_of_ble_eq_true rfl⟩) hK hP hD hS hA 0 (ci := 4) rfl rfl cc_obj hl.1 dX4_told_2 rfl rfl (Nat.le_of_ble_eq_true rfl) ⟨Nat.zero_le _, Nat.zero_le _⟩ (fun r _ H locs hw hP hS => ?_)
  obtain rfl : r = bI (decide (0 ≤ x ∧ x < nI n)) := hw
  have hP : va_P D vwCl (FW (5 * (n + 2)) ad (CC cs n ad σ)) H := hP
  refine lv_if_ne (tgt := 16) hx hb dX4_told_5 (by decide) (fun c1 => ?_) (fun c1 => ?_)
  · have hC : (0 ≤ x ∧ x < nI n) := of_decide_eq_true (bI1 c1)
    refine lv_iload_n hx hb dX4_told_16 rfl (lv_at hl 2 rfl) ?_
    refine lv_if_lt (tgt := 26) hx hb dX4_told_17 (by decide) (fun c2 => ?_) (fun c2 => ?_)
    · have hT : t2 (0 ≤ x ∧ x < nI n) (0 ≤ y ∧ y < 10) = 2 := t2_2 hC (fun h => absurd h.1 (Int32.not_le.mpr c2))
      exact hthrow _ _ eA 51 53 26 _ [] (by decide +kernel) (hts _ lkX4_told_k51) (hts _ lkX4_told_j51) (vx_hat (fun w h => hts w (ieX4_told_53 w h)) xat_53 (xB_use hXW.2.1 hXW)) xot_53 hl.1 dX4_told_26 dX4_told_29 dX4_told_30 dX4_told_33 hP hS (Or.inr ⟨rfl, hT⟩) (Nat.le_of_ble_eq_true rfl)
    · refine lv_iload_n hx hb dX4_told_20 rfl (lv_at hl 2 rfl) ?_
      refine lv_bipush (v := 10) hx hb dX4_told_21 (by decide) ?_
      refine lv_icmp_lt (tgt := 34) hx hb dX4_told_23 (by decide) (fun c3 => ?_) (fun c3 => ?_)
      · have hRy : 0 ≤ y ∧ y < 10 := ⟨Int32.not_lt.mp c2, c3⟩
        have hT : t2 (0 ≤ x ∧ x < nI n) (0 ≤ y ∧ y < 10) = 0 := t2_0 hC hRy
        obtain ⟨k, hkn, hxk⟩ := i32_of (N := n) (by omega) hC.1 hC.2
        have hn31 : n < 2 ^ 31 := by omega
        have hik : iN x = k := by rw [hxk]; exact iN_nI (by omega)
        obtain ⟨w, hw10, hyw⟩ := i32_of (N := 10) (by decide) hRy.1 hRy.2
        have hiw : iN y = w := by rw [hyw]; exact iN_nI (by omega)
        obtain ⟨-, -, -, -, -, ⟨yr, hyr, her⟩, ⟨yw, hyw2, hew⟩, -⟩ := hI.2.2.2.2.2 k (by omega)
        obtain ⟨yl, hyl, hel⟩ := wb_of (σ.2 k)
        refine lv_aload_n hx hb dX4_told_34 rfl (lv_at hl 0 rfl) ?_
        refine va_get (D := D) (ci := 4) (v := .ref (ad 1)) (C := RX4) (T := TX4) (N := 7) hx hb hts iwX4_told_X4 hown hK hP 0 cc_obj rfl 2 (by decide) (hts _ lkX4_told_40) (fun _ h9 => h9) rfl dX4_told_35 ?_
        refine lv_iload_n hx hb dX4_told_38 rfl (lv_at hl 1 rfl) ?_
        refine g_aald (t0 := 1) (v := ad (5 * (k + 2) + 0)) hx hb hK hP cc_cor rfl k hxk hkn hn31 rfl dX4_told_39 ?_
        refine lv_iload_n hx hb dX4_told_40 rfl (lv_at hl 2 rfl) ?_
        refine g_top (y := nI w) (hyw) ?_
        refine g_csi (As := [.ref (ad (5 * (k + 2) + 0)), .int (nI w)]) ⟨hx, hb, hml, hown, hts⟩ (kX4_factOf l D cs n ad σ k hkn w hw10 yr yw yl hyr hyw2 hyl her hew hel) (va_cwS 2 hts gX4_told_X4_factOf rfl rfl rfl (by decide +kernel) ⟨Nat.le_of_ble_eq_true rfl, Nat.le_of_ble_eq_true rfl⟩) hK hP hD hS hA hl.1 dX4_told_41 rfl rfl (Nat.le_of_ble_eq_true rfl) ⟨Nat.zero_le _, Nat.zero_le _⟩ (fun r _ H locs hw hP hS => ?_)
        obtain rfl : r = pTold σ k w := hw
        have hP : va_P D vwCl (FW (5 * (n + 2)) ad (CC cs n ad σ)) H := hP
        exact hret _ _ _ _ () _ _ dX4_told_44 hP hS (⟨hT, by rw [hik, hiw]⟩) (rfl)
      · have hT : t2 (0 ≤ x ∧ x < nI n) (0 ≤ y ∧ y < 10) = 2 := t2_2 hC (fun h => c3 h.2)
        exact hthrow _ _ eA 51 53 26 _ [] (by decide +kernel) (hts _ lkX4_told_k51) (hts _ lkX4_told_j51) (vx_hat (fun w h => hts w (ieX4_told_53 w h)) xat_53 (xB_use hXW.2.1 hXW)) xot_53 hl.1 dX4_told_26 dX4_told_29 dX4_told_30 dX4_told_33 hP hS (Or.inr ⟨rfl, hT⟩) (Nat.le_of_ble_eq_true rfl)
  · have hC : ¬ (0 ≤ x ∧ x < nI n) := of_decide_eq_false (bI0 c1)
    have hT : t2 (0 ≤ x ∧ x < nI n) (0 ≤ y ∧ y < 10) = 1 := t2_1 hC
    exact hthrow _ _ eI 68 70 8 _ [] (by decide +kernel) (hts _ lkX4_told_k68) (hts _ lkX4_told_j68) (vx_hat (fun w h => hts w (ieX4_told_70 w h)) xat_70 (xB_use hXW.1 hXW)) xot_70 hl.1 dX4_told_8 dX4_told_11 dX4_told_12 dX4_told_15 hP hS (Or.inl ⟨rfl, hT⟩) (Nat.le_of_ble_eq_true rfl)

theorem iwX4_records_X2 : ∀ w ∈ wsX20, w ∈ wsX4_records := fun w h => by unfold wsX4_records; simp only [List.mem_cons, List.mem_append, h, true_or, or_true]
theorem iwX4_records_X4 : ∀ w ∈ wsX40, w ∈ wsX4_records := fun w h => by unfold wsX4_records; simp only [List.mem_cons, List.mem_append, h, true_or, or_true]
theorem lkX4_records_23 : Cond.fieldLink RX4 23 "CoreTransactions" "broken" "LCoreTransactions$Records;" ∈ wsX4_records := by decide +kernel
theorem lkX4_records_119 : Cond.fieldLink RX4 119 "CoreTransactions$Records" "count" "I" ∈ wsX4_records := by decide +kernel
abbrev rmX4_records : Room := ({ frames := 0, cells := 0, slots := 0, locals := 0 } : Room)
set_option maxRecDepth 100000 in
set_option maxHeartbeats 4000000 in
theorem kX4_records (l : Launch) (D : va_G) (cs : Nat → ClassId) (n : Nat) (ad : Nat → Nat) (σ : St)  : gMi l yX4_records wsX4_records rmX4_records D (tyL cs) (5 * (n + 2)) ad (CC cs n ad σ) [.ref (ad 0)] (fun (r : Int32) (u : Unit) => r = σ.1 7 0 0) (fun (u : Unit) => CC cs n ad σ) := by
  refine g_ofi (cc := cX4_records) (maxL := 1) (by decide) rfl (Nat.le_of_ble_eq_true rfl) rfl rfl ?_
  intro p e s m args below meth c A ls Q hx hb hml hts hown hK hP hD hA hS hl hret
  have hl : lv_has ls 1 [(0, .ref (ad 0))] := hl
  refine lv_aload_n hx hb dX4_records_0 rfl (lv_at hl 0 rfl) ?_
  refine va_get (D := D) (ci := 4) (v := .ref (ad 4)) (C := RX4) (T := TX4) (N := 7) hx hb hts iwX4_records_X4 hown hK hP 0 cc_obj rfl 5 (by decide) (hts _ lkX4_records_23) (fun _ h9 => h9) rfl dX4_records_1 ?_
  refine va_get (D := D) (ci := 2) (v := .int (σ.1 7 0 0)) (C := RX2) (T := TX2) (N := 3) hx hb hts iwX4_records_X2 hown hK hP 4 cc_rec rfl 1 (by decide) (hts _ lkX4_records_119) (fun _ h9 => h9) rfl dX4_records_4 ?_
  exact hret _ _ _ _ () _ _ dX4_records_7 hP hS (rfl) (rfl)

theorem iwX4_record_X2 : ∀ w ∈ wsX20, w ∈ wsX4_record := fun w h => by unfold wsX4_record; simp only [List.mem_cons, List.mem_append, h, true_or, or_true]
theorem iwX4_record_X4 : ∀ w ∈ wsX40, w ∈ wsX4_record := fun w h => by unfold wsX4_record; simp only [List.mem_cons, List.mem_append, h, true_or, or_true]
theorem lkX4_record_23 : Cond.fieldLink RX4 23 "CoreTransactions" "broken" "LCoreTransactions$Records;" ∈ wsX4_record := by decide +kernel
theorem lkX4_record_119 : Cond.fieldLink RX4 119 "CoreTransactions$Records" "count" "I" ∈ wsX4_record := by decide +kernel
theorem lkX4_record_k68 : Cond.classLink RX4 68 eI ∈ wsX4_record := by decide +kernel
theorem lkX4_record_j68 : Cond.initialized eI ∈ wsX4_record := by decide +kernel
theorem ieX4_record_70 : ∀ w ∈ (vx_at0 RX4 70 eI nmsX).filter goodWord, w ∈ wsX4_record := fun w h => List.mem_cons_of_mem _ (List.mem_append_left _ (List.mem_append_right _ h))
theorem lkX4_record_k51 : Cond.classLink RX4 51 eA ∈ wsX4_record := by decide +kernel
theorem lkX4_record_j51 : Cond.initialized eA ∈ wsX4_record := by decide +kernel
theorem ieX4_record_53 : ∀ w ∈ (vx_at0 RX4 53 eA nmsX).filter goodWord, w ∈ wsX4_record := fun w h => List.mem_cons_of_mem _ (List.mem_append_right _ h)
abbrev rmX4_record : Room := ({ frames := 6, cells := 1, slots := 6, locals := 81 } : Room)
set_option maxRecDepth 100000 in
set_option maxHeartbeats 4000000 in
theorem kX4_record (l : Launch) (hl0 : l.stackTraces = false) (D : va_G) (cs : Nat → ClassId) (n : Nat) (ad : Nat → Nat) (σ : St) (hn4 : n ≤ 4) (x y : Int32) (G : Nat) (hI : Inv σ G) : gMx l yX4_record wsX4_record rmX4_record D (tyL cs) (5 * (n + 2)) ad (CC cs n ad σ) [.ref (ad 0), .int x, .int y] (fun (r : Int32) (u : Unit) => t2 (0 ≤ x ∧ x < σ.1 7 0 0) (0 ≤ y ∧ y < 4) = 0 ∧ r = σ.1 24 0 (4 * iN x + iN y)) (fun (u : Unit) => CC cs n ad (σ)) (fun E => (E = eI ∧ t2 (0 ≤ x ∧ x < σ.1 7 0 0) (0 ≤ y ∧ y < 4) = 1) ∨ (E = eA ∧ t2 (0 ≤ x ∧ x < σ.1 7 0 0) (0 ≤ y ∧ y < 4) = 2)) := by
  refine g_ofx hl0 (cc := cX4_record) (maxL := 3) (by decide) rfl (Nat.le_of_ble_eq_true rfl) rfl rfl (by decide) ?_
  intro p e s m args below meth c A ls Q hx hb hml hts hown hK hP hD hA hS hl hXW hret hthrow
  have hl : lv_has ls 3 [(0, .ref (ad 0)), (1, .int x), (2, .int y)] := hl
  refine lv_iload_n hx hb dX4_record_0 rfl (lv_at hl 1 rfl) ?_
  refine lv_if_lt (tgt := 15) hx hb dX4_record_1 (by decide) (fun c1 => ?_) (fun c1 => ?_)
  · have hT : t2 (0 ≤ x ∧ x < σ.1 7 0 0) (0 ≤ y ∧ y < 4) = 1 := t2_1 (fun h => absurd h.1 (Int32.not_le.mpr c1))
    exact hthrow _ _ eI 68 70 15 _ [] (by decide +kernel) (hts _ lkX4_record_k68) (hts _ lkX4_record_j68) (vx_hat (fun w h => hts w (ieX4_record_70 w h)) xat_70 (xB_use hXW.1 hXW)) xot_70 hl.1 dX4_record_15 dX4_record_18 dX4_record_19 dX4_record_22 hP hS (Or.inl ⟨rfl, hT⟩) (Nat.le_of_ble_eq_true rfl)
  · refine lv_iload_n hx hb dX4_record_4 rfl (lv_at hl 1 rfl) ?_
    refine lv_aload_n hx hb dX4_record_5 rfl (lv_at hl 0 rfl) ?_
    refine va_get (D := D) (ci := 4) (v := .ref (ad 4)) (C := RX4) (T := TX4) (N := 7) hx hb hts iwX4_record_X4 hown hK hP 0 cc_obj rfl 5 (by decide) (hts _ lkX4_record_23) (fun _ h9 => h9) rfl dX4_record_6 ?_
    refine va_get (D := D) (ci := 2) (v := .int (σ.1 7 0 0)) (C := RX2) (T := TX2) (N := 3) hx hb hts iwX4_record_X2 hown hK hP 4 cc_rec rfl 1 (by decide) (hts _ lkX4_record_119) (fun _ h9 => h9) rfl dX4_record_9 ?_
    refine lv_icmp_lt (tgt := 23) hx hb dX4_record_12 (by decide) (fun c2 => ?_) (fun c2 => ?_)
    · have hC : 0 ≤ x ∧ x < σ.1 7 0 0 := ⟨Int32.not_lt.mp c1, c2⟩
      refine lv_iload_n hx hb dX4_record_23 rfl (lv_at hl 2 rfl) ?_
      refine lv_if_lt (tgt := 32) hx hb dX4_record_24 (by decide) (fun c3 => ?_) (fun c3 => ?_)
      · have hT : t2 (0 ≤ x ∧ x < σ.1 7 0 0) (0 ≤ y ∧ y < 4) = 2 := t2_2 hC (fun h => absurd h.1 (Int32.not_le.mpr c3))
        exact hthrow _ _ eA 51 53 32 _ [] (by decide +kernel) (hts _ lkX4_record_k51) (hts _ lkX4_record_j51) (vx_hat (fun w h => hts w (ieX4_record_53 w h)) xat_53 (xB_use hXW.2.1 hXW)) xot_53 hl.1 dX4_record_32 dX4_record_35 dX4_record_36 dX4_record_39 hP hS (Or.inr ⟨rfl, hT⟩) (Nat.le_of_ble_eq_true rfl)
      · refine lv_iload_n hx hb dX4_record_27 rfl (lv_at hl 2 rfl) ?_
        refine lv_iconst (v := 4) hx hb dX4_record_28 (by decide) ?_
        refine lv_icmp_lt (tgt := 40) hx hb dX4_record_29 (by decide) (fun c4 => ?_) (fun c4 => ?_)
        · have hRy : 0 ≤ y ∧ y < 4 := ⟨Int32.not_lt.mp c3, c4⟩
          have hT : t2 (0 ≤ x ∧ x < σ.1 7 0 0) (0 ≤ y ∧ y < 4) = 0 := t2_0 hC hRy
          obtain ⟨o9, q, ho2, hq2, ho, hq, hring⟩ := hI.2.2.2.1
          obtain ⟨i, hiq, hxi⟩ := i32_of (N := q) (by omega) hC.1 (by rw [← hq]; exact hC.2)
          have hii : iN x = i := by rw [hxi]; exact iN_nI (by omega)
          obtain ⟨j, hj, hyj⟩ := i32_of (N := 4) (by decide) hRy.1 hRy.2
          have hij : iN y = j := by rw [hyj]; exact iN_nI (by omega)
          refine lv_aload_n hx hb dX4_record_40 rfl (lv_at hl 0 rfl) ?_
          refine va_get (D := D) (ci := 4) (v := .ref (ad 4)) (C := RX4) (T := TX4) (N := 7) hx hb hts iwX4_record_X4 hown hK hP 0 cc_obj rfl 5 (by decide) (hts _ lkX4_record_23) (fun _ h9 => h9) rfl dX4_record_41 ?_
          refine lv_iload_n hx hb dX4_record_44 rfl (lv_at hl 1 rfl) ?_
          refine g_top (y := nI i) (hxi) ?_
          refine lv_iload_n hx hb dX4_record_45 rfl (lv_at hl 2 rfl) ?_
          refine g_top (y := nI j) (hyj) ?_
          refine g_cvi (As := [.int (nI i), .int (nI j)]) ⟨hx, hb, hml, hown, hts⟩ (kX2_field l D cs n ad σ o9 i j ho ho2 (by omega) hj) (cwV 2 hts gX4_record_X2_field rfl rfl rfl (by decide +kernel) ⟨Nat.le_of_ble_eq_true rfl, Nat.le_of_ble_eq_true rfl⟩) hK hP hD hS hA 4 (ci := 2) rfl rfl cc_rec hl.1 dX4_record_46 rfl rfl (Nat.le_of_ble_eq_true rfl) ⟨Nat.zero_le _, Nat.zero_le _⟩ (fun r _ H locs hw hP hS => ?_)
          obtain rfl : r = σ.1 6 0 ((o9 + i) % 100 * 4 + j) := hw
          have hP : va_P D vwCl (FW (5 * (n + 2)) ad (CC cs n ad σ)) H := hP
          exact hret _ _ _ _ () _ _ dX4_record_49 hP hS (⟨hT, by rw [hii, hij]; exact hring i j hiq hj⟩) (rfl)
        · have hT : t2 (0 ≤ x ∧ x < σ.1 7 0 0) (0 ≤ y ∧ y < 4) = 2 := t2_2 hC (fun h => c4 h.2)
          exact hthrow _ _ eA 51 53 32 _ [] (by decide +kernel) (hts _ lkX4_record_k51) (hts _ lkX4_record_j51) (vx_hat (fun w h => hts w (ieX4_record_53 w h)) xat_53 (xB_use hXW.2.1 hXW)) xot_53 hl.1 dX4_record_32 dX4_record_35 dX4_record_36 dX4_record_39 hP hS (Or.inr ⟨rfl, hT⟩) (Nat.le_of_ble_eq_true rfl)
    · have hT : t2 (0 ≤ x ∧ x < σ.1 7 0 0) (0 ≤ y ∧ y < 4) = 1 := t2_1 (fun h => c2 h.2)
      exact hthrow _ _ eI 68 70 15 _ [] (by decide +kernel) (hts _ lkX4_record_k68) (hts _ lkX4_record_j68) (vx_hat (fun w h => hts w (ieX4_record_70 w h)) xat_70 (xB_use hXW.1 hXW)) xot_70 hl.1 dX4_record_15 dX4_record_18 dX4_record_19 dX4_record_22 hP hS (Or.inl ⟨rfl, hT⟩) (Nat.le_of_ble_eq_true rfl)

theorem iwX4_pick_X0 : ∀ w ∈ wsX00, w ∈ wsX4_pick := fun w h => by unfold wsX4_pick; simp only [List.mem_cons, List.mem_append, h, true_or, or_true]
theorem iwX4_pick_X4 : ∀ w ∈ wsX40, w ∈ wsX4_pick := fun w h => by unfold wsX4_pick; simp only [List.mem_cons, List.mem_append, h, true_or, or_true]
theorem lkX4_pick_40 : Cond.fieldLink RX4 40 "CoreTransactions" "cores" "[LCoreTransactions$Core;" ∈ wsX4_pick := by decide +kernel
theorem lkX4_pick_83 : Cond.fieldLink RX4 83 "CoreTransactions$Core" "ended" "Z" ∈ wsX4_pick := by decide +kernel
theorem lkX4_pick_k51 : Cond.classLink RX4 51 eA ∈ wsX4_pick := by decide +kernel
theorem lkX4_pick_j51 : Cond.initialized eA ∈ wsX4_pick := by decide +kernel
theorem ieX4_pick_53 : ∀ w ∈ (vx_at0 RX4 53 eA nmsX).filter goodWord, w ∈ wsX4_pick := fun w h => List.mem_cons_of_mem _ (List.mem_append_right _ h)
theorem lkX4_pick_k68 : Cond.classLink RX4 68 eI ∈ wsX4_pick := by decide +kernel
theorem lkX4_pick_j68 : Cond.initialized eI ∈ wsX4_pick := by decide +kernel
theorem ieX4_pick_70 : ∀ w ∈ (vx_at0 RX4 70 eI nmsX).filter goodWord, w ∈ wsX4_pick := fun w h => List.mem_cons_of_mem _ (List.mem_append_left _ (List.mem_append_right _ h))
abbrev rmX4_pick : Room := ({ frames := 6, cells := 1, slots := 6, locals := 180 } : Room)
set_option maxRecDepth 100000 in
set_option maxHeartbeats 4000000 in
theorem kX4_pick (l : Launch) (hl0 : l.stackTraces = false) (D : va_G) (cs : Nat → ClassId) (n : Nat) (ad : Nat → Nat) (σ : St) (hn4 : n ≤ 4) (x y : Int32) (G : Nat) (hI : Inv σ G) (hG : G + 2000 < 2 ^ 30) : gMx l yX4_pick wsX4_pick rmX4_pick D (tyL cs) (5 * (n + 2)) ad (CC cs n ad σ) [.ref (ad 0), .int x, .int y] (fun (r : Int32) (u : Unit) => t2 (0 ≤ x ∧ x < nI n) (0 ≤ y ∧ y ≤ 2000) = 0 ∧ r = (pPick n (iN x) (iN y) 0 σ).2) (fun (u : Unit) => CC cs n ad ((pPick n (iN x) (iN y) 0 σ).1)) (fun E => (E = eI ∧ t2 (0 ≤ x ∧ x < nI n) (0 ≤ y ∧ y ≤ 2000) = 1) ∨ (E = eA ∧ t2 (0 ≤ x ∧ x < nI n) (0 ≤ y ∧ y ≤ 2000) = 2)) := by
  refine g_ofx hl0 (cc := cX4_pick) (maxL := 5) (by decide) rfl (Nat.le_of_ble_eq_true rfl) rfl rfl (by decide) ?_
  intro p e s m args below meth c A ls Q hx hb hml hts hown hK hP hD hA hS hl hXW hret hthrow
  have hl : lv_has ls 5 [(0, .ref (ad 0)), (1, .int x), (2, .int y)] := hl
  refine lv_aload_n hx hb dX4_pick_0 rfl (lv_at hl 0 rfl) ?_
  refine lv_iload_n hx hb dX4_pick_1 rfl (lv_at hl 1 rfl) ?_
  refine g_cvi (As := [.int x]) ⟨hx, hb, hml, hown, hts⟩ (kX4_isCore l D cs n ad σ x) (cwV 1 hts gX4_pick_X4_isCore rfl rfl rfl (by decide +kernel) ⟨Nat.le_of_ble_eq_true rfl, Nat.le_of_ble_eq_true rfl⟩) hK hP hD hS hA 0 (ci := 4) rfl rfl cc_obj hl.1 dX4_pick_2 rfl rfl (Nat.le_of_ble_eq_true rfl) ⟨Nat.zero_le _, Nat.zero_le _⟩ (fun r _ H locs hw hP hS => ?_)
  obtain rfl : r = bI (decide (0 ≤ x ∧ x < nI n)) := hw
  have hP : va_P D vwCl (FW (5 * (n + 2)) ad (CC cs n ad σ)) H := hP
  refine lv_if_ne (tgt := 16) hx hb dX4_pick_5 (by decide) (fun c1 => ?_) (fun c1 => ?_)
  · have hC : (0 ≤ x ∧ x < nI n) := of_decide_eq_true (bI1 c1)
    refine lv_iload_n hx hb dX4_pick_16 rfl (lv_at hl 2 rfl) ?_
    refine g_csi (As := [.int y]) ⟨hx, hb, hml, hown, hts⟩ (kX4_isManyPicks l D cs n ad σ y) (va_cwS 1 hts gX4_pick_X4_isManyPicks rfl rfl rfl (by decide +kernel) ⟨Nat.le_of_ble_eq_true rfl, Nat.le_of_ble_eq_true rfl⟩) hK hP hD hS hA hl.1 dX4_pick_17 rfl rfl (Nat.le_of_ble_eq_true rfl) ⟨Nat.zero_le _, Nat.zero_le _⟩ (fun r _ H locs hw hP hS => ?_)
    obtain rfl : r = bI (decide (0 ≤ y ∧ y ≤ 2000)) := hw
    have hP : va_P D vwCl (FW (5 * (n + 2)) ad (CC cs n ad σ)) H := hP
    refine lv_if_ne (tgt := 31) hx hb dX4_pick_20 (by decide) (fun c2 => ?_) (fun c2 => ?_)
    · have hM : 0 ≤ y ∧ y ≤ 2000 := of_decide_eq_true (bI1 c2)
      have hT : t2 (0 ≤ x ∧ x < nI n) (0 ≤ y ∧ y ≤ 2000) = 0 := t2_0 hC hM
      obtain ⟨k, hkn, hxk⟩ := i32_of (N := n) (by omega) hC.1 hC.2
      have hn31 : n < 2 ^ 31 := by omega
      have hik : iN x = k := by rw [hxk]; exact iN_nI (by omega)
      obtain ⟨t, ht, hyt⟩ := i32_ofle (N := 2000) (by decide) hM.1 hM.2
      have hit : iN y = t := by rw [hyt]; exact iN_nI (by omega)
      refine lv_iconst (v := 0) hx hb dX4_pick_31 (by decide) ?_
      refine lv_istore_n (lv' := [(3, .int 0), (0, .ref (ad 0)), (1, .int x), (2, .int y)]) hx hb dX4_pick_32 rfl hl (by decide) rfl (fun ls hl => ?_)
      refine lv_iconst (v := 0) hx hb dX4_pick_33 (by decide) ?_
      refine lv_istore (lv' := [(4, .int 0), (3, .int 0), (0, .ref (ad 0)), (1, .int x), (2, .int y)]) hx hb dX4_pick_34 hl (by decide) rfl (fun ls hl => ?_)
      have loop : ∀ (d i : Nat), i + d = t → ∀  (acc : Int32) (μ : St), Inv μ (G + i) → pPick n k d acc μ = pPick n k t 0 σ → ∀ (H : Heap) (locs : List Loc) (ls : Array Slot), va_P D vwCl (FW (5 * (n + 2)) ad (CC cs n ad μ)) H → va_S A s.heap H locs → lv_has ls 5 [(0, .ref (ad 0)), (1, .int x), (2, .int y), (3, .int acc), (4, .int (nI i))] → W p l e rmX4_pick s m args below meth c H locs 0 0 Q (F0 m 36 ls []) := by
        intro d
        induction d with
        | zero =>
          intro i hi acc μ hIm hpp H locs ls hP hS hl
          obtain rfl : i = t := by omega
          refine lv_iload hx hb dX4_pick_36 (lv_at hl 4 rfl) ?_
          refine lv_iload_n hx hb dX4_pick_38 rfl (lv_at hl 2 rfl) ?_
          refine lv_icmp_ge (tgt := 73) hx hb dX4_pick_39 (by decide) (fun c3 => ?_) (fun c3 => absurd (by rw [hyt]; exact Int32.le_refl _) c3)
          refine lv_iload_n hx hb dX4_pick_73 rfl (lv_at hl 3 rfl) ?_
          exact hret _ _ _ _ () _ _ dX4_pick_74 hP hS (⟨hT, by rw [hik, hit, ← hpp]; rfl⟩) (by rw [hik, hit, ← hpp]; rfl)
        | succ d ih =>
          intro i hi acc μ hIm hpp H locs ls hP hS hl
          have hi2 : i < t := by omega
          refine lv_iload hx hb dX4_pick_36 (lv_at hl 4 rfl) ?_
          refine lv_iload_n hx hb dX4_pick_38 rfl (lv_at hl 2 rfl) ?_
          refine lv_icmp_ge (tgt := 73) hx hb dX4_pick_39 (by decide) (fun c4 => absurd c4 (by rw [hyt]; exact nI_ge hi2 (by omega))) (fun c4 => ?_)
          refine lv_aload_n hx hb dX4_pick_42 rfl (lv_at hl 0 rfl) ?_
          refine va_get (D := D) (ci := 4) (v := .ref (ad 1)) (C := RX4) (T := TX4) (N := 7) hx hb hts iwX4_pick_X4 hown hK hP 0 cc_obj rfl 2 (by decide) (hts _ lkX4_pick_40) (fun _ h9 => h9) rfl dX4_pick_43 ?_
          refine lv_iload_n hx hb dX4_pick_46 rfl (lv_at hl 1 rfl) ?_
          refine g_aald (t0 := 1) (v := ad (5 * (k + 2) + 0)) hx hb hK hP cc_cor rfl k hxk hkn hn31 rfl dX4_pick_47 ?_
          refine va_get (D := D) (ci := 0) (v := .int (μ.1 14 k 0)) (C := RX0) (T := TX0) (N := 8) hx hb hts iwX4_pick_X0 hown hK hP (5 * (k + 2) + 0) (cc_core hkn) rfl 4 (by decide) (hts _ lkX4_pick_83) (fun _ h9 => h9) rfl dX4_pick_48 ?_
          refine lv_if_ne (tgt := 73) hx hb dX4_pick_51 (by decide) (fun c5 => ?_) (fun c5 => ?_)
          · refine lv_iload_n hx hb dX4_pick_73 rfl (lv_at hl 3 rfl) ?_
            exact hret _ _ _ _ () _ _ dX4_pick_74 hP hS (⟨hT, by rw [hik, hit, ← hpp]; show _ = (if μ.1 14 k 0 ≠ 0 then (μ, acc) else _).2; rw [if_pos c5]⟩) (by rw [hik, hit, ← hpp]; show _ = CC cs n ad (if μ.1 14 k 0 ≠ 0 then (μ, acc) else _).1; rw [if_pos c5])
          · have hen : ¬ (μ.1 14 k 0 ≠ 0) := fun h => h c5
            refine lv_iload_n hx hb dX4_pick_54 rfl (lv_at hl 3 rfl) ?_
            refine lv_aload_n hx hb dX4_pick_55 rfl (lv_at hl 0 rfl) ?_
            refine lv_aload_n hx hb dX4_pick_56 rfl (lv_at hl 0 rfl) ?_
            refine va_get (D := D) (ci := 4) (v := .ref (ad 1)) (C := RX4) (T := TX4) (N := 7) hx hb hts iwX4_pick_X4 hown hK hP 0 cc_obj rfl 2 (by decide) (hts _ lkX4_pick_40) (fun _ h9 => h9) rfl dX4_pick_57 ?_
            refine lv_iload_n hx hb dX4_pick_60 rfl (lv_at hl 1 rfl) ?_
            refine g_aald (t0 := 1) (v := ad (5 * (k + 2) + 0)) hx hb hK hP cc_cor rfl k hxk hkn hn31 rfl dX4_pick_61 ?_
            refine g_cvi (As := [.ref (ad (5 * (k + 2) + 0))]) ⟨hx, hb, hml, hown, hts⟩ (kX4_step l D cs n ad μ k hkn (by omega) hIm.2.1 (okQ_Inv hIm) hIm.2.2.2.2.1) (cwV 1 hts gX4_pick_X4_step rfl rfl rfl (by decide +kernel) ⟨Nat.le_of_ble_eq_true rfl, Nat.le_of_ble_eq_true rfl⟩) hK hP hD hS hA 0 (ci := 4) rfl rfl cc_obj hl.1 dX4_pick_62 rfl rfl (Nat.le_of_ble_eq_true rfl) ⟨Nat.zero_le _, Nat.zero_le _⟩ (fun r _ H locs hw hP hS => ?_)
            obtain rfl : r = (pStep μ n k).2 := hw
            obtain ⟨σ6, eσ6⟩ : ∃ z, z = (pStep μ n k).1 := ⟨_, rfl⟩
            have hP : va_P D vwCl (FW (5 * (n + 2)) ad (CC cs n ad σ6)) H := by rw [eσ6]; exact hP
            refine lv_iadd hx hb dX4_pick_65 ?_
            refine lv_istore_n (lv' := [(3, .int (acc + ((pStep μ n k).2))), (0, .ref (ad 0)), (1, .int x), (2, .int y), (4, .int (nI i))]) hx hb dX4_pick_66 rfl hl (by decide) rfl (fun ls hl => ?_)
            refine lv_iinc (v := nI (i + 1)) (lv' := [(4, .int (nI (i + 1))), (3, .int (acc + ((pStep μ n k).2))), (0, .ref (ad 0)), (1, .int x), (2, .int y)]) hx hb dX4_pick_67 hl (k := 4) rfl (nI_1 i) (by decide) rfl (fun ls hl => ?_)
            refine lv_goto (tgt := 36) hx hb dX4_pick_70 (by decide) ?_
            exact ih (i + 1) (by omega) (acc + (pStep μ n k).2) (pStep μ n k).1 (by have := Inv_step (n := n) (k := k) hIm (by omega) hn4 (by omega); exact this) (by rw [← hpp]; show _ = (if μ.1 14 k 0 ≠ 0 then (μ, acc) else pPick n k d (acc + (pStep μ n k).2) (pStep μ n k).1); rw [if_neg hen]) _ _ _ (by simp only [eσ6] at hP; exact hP) hS (lv_sub hl [2, 3, 4, 1, 0] rfl)
      exact loop t 0 (by omega)  0 σ hI rfl _ _ _ hP hS (lv_sub hl [2, 3, 4, 1, 0] rfl)
    · have hM : ¬ (0 ≤ y ∧ y ≤ 2000) := of_decide_eq_false (bI0 c2)
      have hT : t2 (0 ≤ x ∧ x < nI n) (0 ≤ y ∧ y ≤ 2000) = 2 := t2_2 hC hM
      exact hthrow _ _ eA 51 53 23 _ [] (by decide +kernel) (hts _ lkX4_pick_k51) (hts _ lkX4_pick_j51) (vx_hat (fun w h => hts w (ieX4_pick_53 w h)) xat_53 (xB_use hXW.2.1 hXW)) xot_53 hl.1 dX4_pick_23 dX4_pick_26 dX4_pick_27 dX4_pick_30 hP hS (Or.inr ⟨rfl, hT⟩) (Nat.le_of_ble_eq_true rfl)
  · have hC : ¬ (0 ≤ x ∧ x < nI n) := of_decide_eq_false (bI0 c1)
    have hT : t2 (0 ≤ x ∧ x < nI n) (0 ≤ y ∧ y ≤ 2000) = 1 := t2_1 hC
    exact hthrow _ _ eI 68 70 8 _ [] (by decide +kernel) (hts _ lkX4_pick_k68) (hts _ lkX4_pick_j68) (vx_hat (fun w h => hts w (ieX4_pick_70 w h)) xat_70 (xB_use hXW.1 hXW)) xot_70 hl.1 dX4_pick_8 dX4_pick_11 dX4_pick_12 dX4_pick_15 hP hS (Or.inl ⟨rfl, hT⟩) (Nat.le_of_ble_eq_true rfl)

theorem iwX4_run_X4 : ∀ w ∈ wsX40, w ∈ wsX4_run := fun w h => by unfold wsX4_run; simp only [List.mem_cons, List.mem_append, h, true_or, or_true]
theorem lkX4_run_40 : Cond.fieldLink RX4 40 "CoreTransactions" "cores" "[LCoreTransactions$Core;" ∈ wsX4_run := by decide +kernel
theorem lkX4_run_111 : Cond.constant RX4 111 1103515245 ∈ wsX4_run := by decide +kernel
theorem lkX4_run_k51 : Cond.classLink RX4 51 eA ∈ wsX4_run := by decide +kernel
theorem lkX4_run_j51 : Cond.initialized eA ∈ wsX4_run := by decide +kernel
theorem ieX4_run_53 : ∀ w ∈ (vx_at0 RX4 53 eA nmsX).filter goodWord, w ∈ wsX4_run := fun w h => List.mem_cons_of_mem _ (List.mem_append_right _ h)
abbrev rmX4_run : Room := ({ frames := 6, cells := 1, slots := 6, locals := 180 } : Room)
set_option maxRecDepth 100000 in
set_option maxHeartbeats 4000000 in
theorem kX4_run (l : Launch) (hl0 : l.stackTraces = false) (D : va_G) (cs : Nat → ClassId) (n : Nat) (ad : Nat → Nat) (σ : St) (hn0 : 0 < n) (hn4 : n ≤ 4) (x y : Int32) (G : Nat) (hI : Inv σ G) (hG : G + 2000 < 2 ^ 30) : gMx l yX4_run wsX4_run rmX4_run D (tyL cs) (5 * (n + 2)) ad (CC cs n ad σ) [.ref (ad 0), .int x, .int y] (fun (r : Int32) (u : Unit) => t1 (0 ≤ y ∧ y ≤ 2000) = 0 ∧ r = (pRun n (iN y) x 0 σ).2) (fun (u : Unit) => CC cs n ad ((pRun n (iN y) x 0 σ).1)) (fun E => (E = eA ∧ t1 (0 ≤ y ∧ y ≤ 2000) = 1)) := by
  refine g_ofx hl0 (cc := cX4_run) (maxL := 6) (by decide) rfl (Nat.le_of_ble_eq_true rfl) rfl rfl (by decide) ?_
  intro p e s m args below meth c A ls Q hx hb hml hts hown hK hP hD hA hS hl hXW hret hthrow
  have hl : lv_has ls 6 [(0, .ref (ad 0)), (1, .int x), (2, .int y)] := hl
  refine lv_iload_n hx hb dX4_run_0 rfl (lv_at hl 2 rfl) ?_
  refine g_csi (As := [.int y]) ⟨hx, hb, hml, hown, hts⟩ (kX4_isManyPicks l D cs n ad σ y) (va_cwS 1 hts gX4_run_X4_isManyPicks rfl rfl rfl (by decide +kernel) ⟨Nat.le_of_ble_eq_true rfl, Nat.le_of_ble_eq_true rfl⟩) hK hP hD hS hA hl.1 dX4_run_1 rfl rfl (Nat.le_of_ble_eq_true rfl) ⟨Nat.zero_le _, Nat.zero_le _⟩ (fun r _ H locs hw hP hS => ?_)
  obtain rfl : r = bI (decide (0 ≤ y ∧ y ≤ 2000)) := hw
  have hP : va_P D vwCl (FW (5 * (n + 2)) ad (CC cs n ad σ)) H := hP
  refine lv_if_ne (tgt := 15) hx hb dX4_run_4 (by decide) (fun c1 => ?_) (fun c1 => ?_)
  · have hM : 0 ≤ y ∧ y ≤ 2000 := of_decide_eq_true (bI1 c1)
    have hT : t1 (0 ≤ y ∧ y ≤ 2000) = 0 := t1_0 hM
    have hn31 : n < 2 ^ 31 := by omega
    obtain ⟨t, ht, hyt⟩ := i32_ofle (N := 2000) (by decide) hM.1 hM.2
    have hit : iN y = t := by rw [hyt]; exact iN_nI (by omega)
    refine lv_iconst (v := 0) hx hb dX4_run_15 (by decide) ?_
    refine lv_istore_n (lv' := [(3, .int 0), (0, .ref (ad 0)), (1, .int x), (2, .int y)]) hx hb dX4_run_16 rfl hl (by decide) rfl (fun ls hl => ?_)
    refine lv_iload_n hx hb dX4_run_17 rfl (lv_at hl 2 rfl) ?_
    refine lv_istore (lv' := [(4, .int x), (3, .int 0), (0, .ref (ad 0)), (1, .int x), (2, .int y)]) hx hb dX4_run_18 hl (by decide) rfl (fun ls hl => ?_)
    refine lv_iconst (v := 0) hx hb dX4_run_20 (by decide) ?_
    refine lv_istore (lv' := [(5, .int 0), (4, .int x), (3, .int 0), (0, .ref (ad 0)), (1, .int x), (2, .int y)]) hx hb dX4_run_21 hl (by decide) rfl (fun ls hl => ?_)
    have loop : ∀ (d i : Nat), i + d = t → ∀ (x3 : Int32) (acc : Int32) (μ : St), Inv μ (G + i) → pRun n d x3 acc μ = pRun n t x 0 σ → ∀ (H : Heap) (locs : List Loc) (ls : Array Slot), va_P D vwCl (FW (5 * (n + 2)) ad (CC cs n ad μ)) H → va_S A s.heap H locs → lv_has ls 6 [(0, .ref (ad 0)), (1, .int x), (2, .int y), (3, .int acc), (4, .int x3), (5, .int (nI i))] → W p l e rmX4_run s m args below meth c H locs 0 0 Q (F0 m 23 ls []) := by
      intro d
      induction d with
      | zero =>
        intro i hi x3 acc μ hIm hpp H locs ls hP hS hl
        obtain rfl : i = t := by omega
        refine lv_iload hx hb dX4_run_23 (lv_at hl 5 rfl) ?_
        refine lv_iload_n hx hb dX4_run_25 rfl (lv_at hl 2 rfl) ?_
        refine lv_icmp_ge (tgt := 69) hx hb dX4_run_26 (by decide) (fun c2 => ?_) (fun c2 => absurd (by rw [hyt]; exact Int32.le_refl _) c2)
        refine lv_iload_n hx hb dX4_run_69 rfl (lv_at hl 3 rfl) ?_
        exact hret _ _ _ _ () _ _ dX4_run_70 hP hS (⟨hT, by rw [hit, ← hpp]; rfl⟩) (by rw [hit, ← hpp]; rfl)
      | succ d ih =>
        intro i hi x3 acc μ hIm hpp H locs ls hP hS hl
        have hi2 : i < t := by omega
        refine lv_iload hx hb dX4_run_23 (lv_at hl 5 rfl) ?_
        refine lv_iload_n hx hb dX4_run_25 rfl (lv_at hl 2 rfl) ?_
        refine lv_icmp_ge (tgt := 69) hx hb dX4_run_26 (by decide) (fun c3 => absurd c3 (by rw [hyt]; exact nI_ge hi2 (by omega))) (fun c3 => ?_)
        have hkr : rcore (rnd x3) n < n := Nat.mod_lt _ hn0
        refine lv_iload hx hb dX4_run_29 (lv_at hl 4 rfl) ?_
        refine lv_ldc (v := 1103515245) hx hb hown (hts _ lkX4_run_111) dX4_run_31 ?_
        refine lv_imul hx hb dX4_run_33 ?_
        refine lv_sipush (v := 12345) hx hb dX4_run_34 (by decide) ?_
        refine lv_iadd hx hb dX4_run_37 ?_
        refine g_top (y := rnd x3) (rfl) ?_
        refine lv_istore (lv' := [(4, .int (rnd x3)), (0, .ref (ad 0)), (1, .int x), (2, .int y), (3, .int acc), (5, .int (nI i))]) hx hb dX4_run_38 hl (by decide) rfl (fun ls hl => ?_)
        refine lv_iload_n hx hb dX4_run_40 rfl (lv_at hl 4 rfl) ?_
        refine lv_aload_n hx hb dX4_run_41 rfl (lv_at hl 1 rfl) ?_
        refine lv_aload_n hx hb dX4_run_42 rfl (lv_at hl 1 rfl) ?_
        refine va_get (D := D) (ci := 4) (v := .ref (ad 1)) (C := RX4) (T := TX4) (N := 7) hx hb hts iwX4_run_X4 hown hK hP 0 cc_obj rfl 2 (by decide) (hts _ lkX4_run_40) (fun _ h9 => h9) rfl dX4_run_43 ?_
        refine lv_iload hx hb dX4_run_46 (lv_at hl 0 rfl) ?_
        refine lv_bipush (v := 16) hx hb dX4_run_48 (by decide) ?_
        refine lv_iushr (v := ((rnd x3).toUInt32 >>> ((16 : Int32).toUInt32 &&& Int32.toUInt32 31)).toInt32) hx hb dX4_run_50 rfl ?_
        refine g_top (y := nI ((rnd x3).toBitVec.toNat / 65536)) (ush16 _) ?_
        refine lv_aload_n hx hb dX4_run_51 rfl (lv_at hl 1 rfl) ?_
        refine va_get (D := D) (ci := 4) (v := .ref (ad 1)) (C := RX4) (T := TX4) (N := 7) hx hb hts iwX4_run_X4 hown hK hP 0 cc_obj rfl 2 (by decide) (hts _ lkX4_run_40) (fun _ h9 => h9) rfl dX4_run_52 ?_
        refine va_alen hx hb hK hP 1 1 cc_cor rfl (v := nI n) rfl dX4_run_55 ?_
        refine lv_irem hx hb dX4_run_56 (nI_ne0 hn0 (by omega)) ?_
        refine g_top (y := nI (rcore (rnd x3) n)) (rcore_e hn0 hn4) ?_
        refine g_aald (t0 := 1) (v := ad (5 * ((rcore (rnd x3) n) + 2) + 0)) hx hb hK hP cc_cor rfl ((rcore (rnd x3) n)) rfl hkr hn31 rfl dX4_run_57 ?_
        refine g_cvi (As := [.ref (ad (5 * ((rcore (rnd x3) n) + 2) + 0))]) ⟨hx, hb, hml, hown, hts⟩ (kX4_step l D cs n ad μ (rcore (rnd x3) n) hkr (by omega) hIm.2.1 (okQ_Inv hIm) hIm.2.2.2.2.1) (cwV 1 hts gX4_run_X4_step rfl rfl rfl (by decide +kernel) ⟨Nat.le_of_ble_eq_true rfl, Nat.le_of_ble_eq_true rfl⟩) hK hP hD hS hA 0 (ci := 4) rfl rfl cc_obj hl.1 dX4_run_58 rfl rfl (Nat.le_of_ble_eq_true rfl) ⟨Nat.zero_le _, Nat.zero_le _⟩ (fun r _ H locs hw hP hS => ?_)
        obtain rfl : r = (pStep μ n (rcore (rnd x3) n)).2 := hw
        obtain ⟨σ4, eσ4⟩ : ∃ z, z = (pStep μ n (rcore (rnd x3) n)).1 := ⟨_, rfl⟩
        have hP : va_P D vwCl (FW (5 * (n + 2)) ad (CC cs n ad σ4)) H := by rw [eσ4]; exact hP
        refine lv_iadd hx hb dX4_run_61 ?_
        refine lv_istore_n (lv' := [(3, .int (acc + ((pStep μ n (rcore (rnd x3) n)).2))), (4, .int (rnd x3)), (0, .ref (ad 0)), (1, .int x), (2, .int y), (5, .int (nI i))]) hx hb dX4_run_62 rfl hl (by decide) rfl (fun ls hl => ?_)
        refine lv_iinc (v := nI (i + 1)) (lv' := [(5, .int (nI (i + 1))), (3, .int (acc + ((pStep μ n (rcore (rnd x3) n)).2))), (4, .int (rnd x3)), (0, .ref (ad 0)), (1, .int x), (2, .int y)]) hx hb dX4_run_63 hl (k := 5) rfl (nI_1 i) (by decide) rfl (fun ls hl => ?_)
        refine lv_goto (tgt := 23) hx hb dX4_run_66 (by decide) ?_
        exact ih (i + 1) (by omega) (rnd x3) (acc + (pStep μ n (rcore (rnd x3) n)).2) (pStep μ n (rcore (rnd x3) n)).1 (by have := Inv_step (n := n) (k := rcore (rnd x3) n) hIm (by omega) hn4 (by omega); exact this) (by rw [← hpp]; rfl) _ _ _ (by simp only [eσ4] at hP; exact hP) hS (lv_sub hl [3, 4, 5, 1, 2, 0] rfl)
    exact loop t 0 (by omega) x 0 σ hI rfl _ _ _ hP hS (lv_sub hl [3, 4, 5, 2, 1, 0] rfl)
  · have hM : ¬ (0 ≤ y ∧ y ≤ 2000) := of_decide_eq_false (bI0 c1)
    have hT : t1 (0 ≤ y ∧ y ≤ 2000) = 1 := t1_1 hM
    exact hthrow _ _ eA 51 53 7 _ [] (by decide +kernel) (hts _ lkX4_run_k51) (hts _ lkX4_run_j51) (vx_hat (fun w h => hts w (ieX4_run_53 w h)) xat_53 (xB_use hXW.2.1 hXW)) xot_53 hl.1 dX4_run_7 dX4_run_10 dX4_run_11 dX4_run_14 hP hS (⟨rfl, hT⟩) (Nat.le_of_ble_eq_true rfl)

def rstN : Nat → St → St
  | 0, σ => σ
  | m + 1, σ => pReset (rstN m σ) m
theorem pReset_at {σ : St} {k f k' j : Nat} : (pReset σ k).1 f k' j = if inS f ∧ k' = k ∧ j = 0 then 0 else if f = 10 ∧ k' = k ∧ j < 8 then 0 else σ.1 f k' j := by
  simp only [pReset, pClose, put, putA, putL, inS]
  by_cases a10 : f = 10
  · subst a10; simp; by_cases hk : k' = k <;> by_cases hj : j < 8 <;> simp [hk, hj]
  · by_cases hk : k' = k ∧ j = 0
    · obtain ⟨rfl, rfl⟩ := hk
      simp only [and_self, and_true]
      by_cases a13 : f = 13
      · simp [a13]
      · by_cases a14 : f = 14
        · simp [a14]
        · by_cases a15 : f = 15
          · simp [a15]
          · by_cases a16 : f = 16
            · simp [a16]
            · by_cases a17 : f = 17
              · simp [a17]
              · by_cases a18 : f = 18
                · simp [a18]
                · by_cases a19 : f = 19
                  · simp [a19]
                  · by_cases a22 : f = 22
                    · simp [a22]
                    · by_cases a23 : f = 23
                      · simp [a23]
                      · simp [a10, a13, a14, a15, a16, a17, a18, a19, a22, a23]
    · simp [hk, a10]
theorem pReset_2 {σ : St} {k k' : Nat} : (pReset σ k).2 k' = if k' = k then 0 else σ.2 k' := rfl
theorem rstN_at {σ : St} {f k j : Nat} : ∀ m, (rstN m σ).1 f k j = if inS f ∧ k < m ∧ j = 0 then 0 else if f = 10 ∧ k < m ∧ j < 8 then 0 else σ.1 f k j
  | 0 => by rw [if_neg (fun q => absurd q.2.1 (Nat.not_lt_zero k)), if_neg (fun q => absurd q.2.1 (Nat.not_lt_zero k))]; rfl
  | m + 1 => by
    show (pReset (rstN m σ) m).1 f k j = _
    rw [pReset_at, rstN_at m]
    by_cases e : k = m
    · subst e
      by_cases h1 : inS f ∧ j = 0
      · rw [if_pos ⟨h1.1, rfl, h1.2⟩, if_pos ⟨h1.1, Nat.lt_succ_self k, h1.2⟩]
      · rw [if_neg (fun q => h1 ⟨q.1, q.2.2⟩), if_neg (c := inS f ∧ k < k + 1 ∧ j = 0) (fun q => h1 ⟨q.1, q.2.2⟩)]
        by_cases h2 : f = 10 ∧ j < 8
        · rw [if_pos ⟨h2.1, rfl, h2.2⟩, if_pos ⟨h2.1, Nat.lt_succ_self k, h2.2⟩]
        · rw [if_neg (fun q => h2 ⟨q.1, q.2.2⟩), if_neg (c := f = 10 ∧ k < k + 1 ∧ j < 8) (fun q => h2 ⟨q.1, q.2.2⟩), if_neg (fun q => h1 ⟨q.1, q.2.2⟩), if_neg (fun q => h2 ⟨q.1, q.2.2⟩)]
    · rw [if_neg (fun q => e q.2.1), if_neg (fun q => e q.2.1)]
      have hlt : k < m + 1 ↔ k < m := by omega
      simp only [hlt]
theorem rstN_2 {σ : St} {k : Nat} : ∀ m, (rstN m σ).2 k = if k < m then 0 else σ.2 k
  | 0 => rfl
  | m + 1 => by
    show (pReset (rstN m σ) m).2 k = _
    rw [pReset_2, rstN_2 m]
    by_cases h : k = m
    · rw [if_pos h, if_pos (by omega)]
    · rw [if_neg h]
      have hlt : k < m + 1 ↔ k < m := by omega
      simp only [hlt]
theorem clear_e {σ : St} {n : Nat} (hn4 : n ≤ 4) {f k j : Nat} (hk : k < n) (h24 : f ≠ 24) : (put (put (put (put (putA (rstN n σ) 0 0 (fun j => if j < 64 then 0 else (rstN n σ).1 0 0 j)) 5 0 0 0) 7 0 0 0) 8 0 0 0) 9 0 0 0).1 f k j = (pClr σ).1 f k j := by
  show _ = (if (inS f) ∧ k < 4 ∧ j = 0 then 0 else if f = 10 ∧ k < 4 ∧ j < 8 then 0 else if f = 0 ∧ k = 0 ∧ j < 64 then 0 else if (f = 5 ∨ f = 7 ∨ f = 8 ∨ f = 9) ∧ k = 0 ∧ j = 0 then 0 else σ.1 f k j)
  simp only [put, putA]
  have hk4 : k < 4 := by omega
  by_cases a9 : f = 9
  · subst a9; simp only [rstN_at]; simp [inS]; try (by_cases e : k = 0 ∧ j = 0 <;> simp [e])
  · by_cases a8 : f = 8
    · subst a8; simp only [rstN_at]; simp [inS]; try (by_cases e : k = 0 ∧ j = 0 <;> simp [e])
    · by_cases a7 : f = 7
      · subst a7; simp only [rstN_at]; simp [inS]; try (by_cases e : k = 0 ∧ j = 0 <;> simp [e])
      · by_cases a5 : f = 5
        · subst a5; simp only [rstN_at]; simp [inS]; try (by_cases e : k = 0 ∧ j = 0 <;> simp [e])
        · simp only [a9, a8, a7, a5, false_and, if_false, false_or]
          by_cases a0 : f = 0
          · subst a0
            rw [rstN_at, rstN_at]
            by_cases e : k = 0
            · subst e; simp [inS]
            · simp [inS, e]
          · simp only [a0, false_and, if_false]
            rw [rstN_at]
            simp only [hk, hk4]
theorem iwX4_clear_X1 : ∀ w ∈ wsX10, w ∈ wsX4_clear := fun w h => by unfold wsX4_clear; simp only [List.mem_cons, List.mem_append, h, true_or, or_true]
theorem iwX4_clear_X4 : ∀ w ∈ wsX40, w ∈ wsX4_clear := fun w h => by unfold wsX4_clear; simp only [List.mem_cons, List.mem_append, h, true_or, or_true]
theorem lkX4_clear_9 : Cond.fieldLink RX4 9 "CoreTransactions" "memory" "[I" ∈ wsX4_clear := by decide +kernel
theorem lkX4_clear_16 : Cond.fieldLink RX4 16 "CoreTransactions" "program" "LCoreTransactions$Program;" ∈ wsX4_clear := by decide +kernel
theorem lkX4_clear_23 : Cond.fieldLink RX4 23 "CoreTransactions" "broken" "LCoreTransactions$Records;" ∈ wsX4_clear := by decide +kernel
theorem lkX4_clear_40 : Cond.fieldLink RX4 40 "CoreTransactions" "cores" "[LCoreTransactions$Core;" ∈ wsX4_clear := by decide +kernel
theorem lkX4_clear_54 : Cond.fieldLink RX4 54 "CoreTransactions$Program" "length" "I" ∈ wsX4_clear := by decide +kernel
theorem lkX4_clear_132 : Cond.fieldLink RX4 132 "CoreTransactions" "lastAge" "I" ∈ wsX4_clear := by decide +kernel
abbrev rmX4_clear : Room := ({ frames := 2, cells := 0, slots := 0, locals := 41 } : Room)
set_option maxRecDepth 100000 in
set_option maxHeartbeats 4000000 in
theorem kX4_clear (l : Launch) (D : va_G) (cs : Nat → ClassId) (n : Nat) (ad : Nat → Nat) (σ : St) (hn0 : 0 < n) (hn4 : n ≤ 4) : gMv l yX4_clear wsX4_clear rmX4_clear D (tyL cs) (5 * (n + 2)) ad (CC cs n ad σ) [.ref (ad 0)] (fun (u : Unit) => True) (fun (u : Unit) => CC cs n ad (pClr σ)) := by
  refine g_ofv (cc := cX4_clear) (maxL := 2) (by decide) rfl (Nat.le_of_ble_eq_true rfl) rfl rfl ?_
  intro p e s m args below meth c A ls Q hx hb hml hts hown hK hP hD hA hS hl hret
  have hl : lv_has ls 2 [(0, .ref (ad 0))] := hl
  have hn31 : n < 2 ^ 31 := by omega
  refine lv_iconst (v := 0) hx hb dX4_clear_0 (by decide) ?_
  refine lv_istore_n (lv' := [(1, .int 0), (0, .ref (ad 0))]) hx hb dX4_clear_1 rfl hl (by decide) rfl (fun ls hl => ?_)
  have loop : ∀ (d i : Nat), i + d = n →  ∀ (H : Heap) (locs : List Loc) (ls : Array Slot), va_P D vwCl (FW (5 * (n + 2)) ad (CC cs n ad (rstN i σ))) H → va_S A s.heap H locs → lv_has ls 2 [(0, .ref (ad 0)), (1, .int (nI i))] → W p l e rmX4_clear s m args below meth c H locs 0 0 Q (F0 m 2 ls []) := by
    intro d
    induction d with
    | zero =>
      intro i hi  H locs ls hP hS hl
      have hE : i = n := by omega
      try rw [hE] at hP
      try rw [hE] at hl
      obtain ⟨σ1, eσ1⟩ : ∃ z, z = rstN n σ := ⟨_, rfl⟩
      have hP : va_P D vwCl (FW (5 * (n + 2)) ad (CC cs n ad σ1)) H := by rw [eσ1]; exact hP
      refine lv_iload_n hx hb dX4_clear_2 rfl (lv_at hl 1 rfl) ?_
      refine lv_aload_n hx hb dX4_clear_3 rfl (lv_at hl 0 rfl) ?_
      refine va_get (D := D) (ci := 4) (v := .ref (ad 1)) (C := RX4) (T := TX4) (N := 7) hx hb hts iwX4_clear_X4 hown hK hP 0 cc_obj rfl 2 (by decide) (hts _ lkX4_clear_40) (fun _ h9 => h9) rfl dX4_clear_4 ?_
      refine va_alen hx hb hK hP 1 1 cc_cor rfl (v := nI n) rfl dX4_clear_7 ?_
      refine lv_icmp_ge (tgt := 26) hx hb dX4_clear_8 (by decide) (fun c2 => ?_) (fun c2 => absurd (Int32.le_refl _) c2)
      obtain ⟨τ3, eτ3⟩ : ∃ z, z = σ1 := ⟨_, rfl⟩
      rw [← eτ3] at hP
      refine lv_iconst (v := 0) hx hb dX4_clear_26 (by decide) ?_
      refine lv_istore_n (lv' := [(1, .int 0), (0, .ref (ad 0))]) hx hb dX4_clear_27 rfl hl (by decide) rfl (fun ls hl => ?_)
      have loop2 : ∀ (d i : Nat), i + d = 64 →  ∀ (H : Heap) (locs : List Loc) (ls : Array Slot), va_P D vwCl (FW (5 * (n + 2)) ad (CC cs n ad (putA τ3 0 0 (fun j => if j < i then 0 else τ3.1 0 0 j)))) H → va_S A s.heap H locs → lv_has ls 2 [(0, .ref (ad 0)), (1, .int (nI i))] → W p l e rmX4_clear s m args below meth c H locs 0 0 Q (F0 m 28 ls []) := by
        intro d
        induction d with
        | zero =>
          intro i hi  H locs ls hP hS hl
          obtain rfl : i = 64 := by omega
          obtain ⟨σ4, eσ4⟩ : ∃ z, z = putA τ3 0 0 (fun j => if j < 64 then 0 else τ3.1 0 0 j) := ⟨_, rfl⟩
          have hP : va_P D vwCl (FW (5 * (n + 2)) ad (CC cs n ad σ4)) H := by rw [eσ4]; exact hP
          refine lv_iload_n hx hb dX4_clear_28 rfl (lv_at hl 1 rfl) ?_
          refine lv_bipush (v := 64) hx hb dX4_clear_29 (by decide) ?_
          refine lv_icmp_ge (tgt := 47) hx hb dX4_clear_31 (by decide) (fun c5 => ?_) (fun c5 => absurd (show (64 : Int32) ≤ nI 64 from Int32.le_refl _) c5)
          refine lv_aload_n hx hb dX4_clear_47 rfl (lv_at hl 0 rfl) ?_
          refine va_get (D := D) (ci := 4) (v := .ref (ad 3)) (C := RX4) (T := TX4) (N := 7) hx hb hts iwX4_clear_X4 hown hK hP 0 cc_obj rfl 4 (by decide) (hts _ lkX4_clear_16) (fun _ h9 => h9) rfl dX4_clear_48 ?_
          refine lv_iconst (v := 0) hx hb dX4_clear_51 (by decide) ?_
          refine va_put (D := D) (ci := 1) (v := .int 0) (ty := .int) (C := RX1) (T := TX1) (N := 5) hx hb hts iwX4_clear_X1 tyX1 tyX1_ok nmX1 hown hK hP (hD _) hS 3 cc_pro rfl 4 (by decide) (hts _ lkX4_clear_54) (fun _ h9 => h9) rfl (by decide +kernel) rfl rfl (Nat.le_of_ble_eq_true rfl) dX4_clear_52 (fun H locs hP _ hS => ?_)
          obtain ⟨σ6, eσ6⟩ : ∃ z, z = put σ4 5 0 0 0 := ⟨_, rfl⟩
          have hP : va_P D vwCl (FW (5 * (n + 2)) ad (CC cs n ad σ6)) H := by rw [eσ6]; exact FW_P hP cu_pro_4
          refine lv_aload_n hx hb dX4_clear_55 rfl (lv_at hl 0 rfl) ?_
          refine va_get (D := D) (ci := 4) (v := .ref (ad 4)) (C := RX4) (T := TX4) (N := 7) hx hb hts iwX4_clear_X4 hown hK hP 0 cc_obj rfl 5 (by decide) (hts _ lkX4_clear_23) (fun _ h9 => h9) rfl dX4_clear_56 ?_
          refine g_cvv (As := []) ⟨hx, hb, hml, hown, hts⟩ (kX2_forget l D cs n ad σ6) (cwV 0 hts gX4_clear_X2_forget rfl rfl rfl (by decide +kernel) ⟨Nat.le_of_ble_eq_true rfl, Nat.le_of_ble_eq_true rfl⟩) hK hP hD hS hA 4 (ci := 2) rfl rfl cc_rec hl.1 dX4_clear_59 rfl rfl (Nat.le_of_ble_eq_true rfl) ⟨Nat.zero_le _, Nat.zero_le _⟩ (fun _ H locs hw hP hS => ?_)
          obtain ⟨σ7, eσ7⟩ : ∃ z, z = put (put σ6 7 0 0 0) 8 0 0 0 := ⟨_, rfl⟩
          have hP : va_P D vwCl (FW (5 * (n + 2)) ad (CC cs n ad σ7)) H := by rw [eσ7]; exact hP
          refine lv_aload_n hx hb dX4_clear_62 rfl (lv_at hl 0 rfl) ?_
          refine lv_iconst (v := 0) hx hb dX4_clear_63 (by decide) ?_
          refine va_put (D := D) (ci := 4) (v := .int 0) (ty := .int) (C := RX4) (T := TX4) (N := 7) hx hb hts iwX4_clear_X4 tyX4 tyX4_ok nmX4 hown hK hP (hD _) hS 0 cc_obj rfl 6 (by decide) (hts _ lkX4_clear_132) (fun _ h9 => h9) rfl (by decide +kernel) rfl rfl (Nat.le_of_ble_eq_true rfl) dX4_clear_64 (fun H locs hP _ hS => ?_)
          obtain ⟨σ8, eσ8⟩ : ∃ z, z = put σ7 9 0 0 0 := ⟨_, rfl⟩
          have hP : va_P D vwCl (FW (5 * (n + 2)) ad (CC cs n ad σ8)) H := by rw [eσ8]; exact FW_P hP cu_obj_6
          have hP : va_P D vwCl (FW (5 * (n + 2)) ad (CC cs n ad (pClr σ))) H := by
            refine FW_cong (CC_ext hn0 (fun f k j h24 hk => ?_) (fun k hk => ?_)) hP
            · simp only [eσ8, eσ7, eσ6, eσ4, eτ3, eσ1, hE]; exact clear_e hn4 hk h24
            · simp only [eσ8, eσ7, eσ6, eσ4, eτ3, eσ1, hE]; show (rstN n σ).2 k = if k < 4 then 0 else σ.2 k; rw [rstN_2, if_pos hk, if_pos (show k < 4 by omega)]
          exact hret _ _ _ () _ _ dX4_clear_67 hP hS (trivial) (rfl)
        | succ d ih =>
          intro i hi  H locs ls hP hS hl
          have hi2 : i < 64 := by omega
          obtain ⟨σ9, eσ9⟩ : ∃ z, z = putA τ3 0 0 (fun j => if j < i then 0 else τ3.1 0 0 j) := ⟨_, rfl⟩
          have hP : va_P D vwCl (FW (5 * (n + 2)) ad (CC cs n ad σ9)) H := by rw [eσ9]; exact hP
          refine lv_iload_n hx hb dX4_clear_28 rfl (lv_at hl 1 rfl) ?_
          refine lv_bipush (v := 64) hx hb dX4_clear_29 (by decide) ?_
          refine lv_icmp_ge (tgt := 47) hx hb dX4_clear_31 (by decide) (fun c10 => absurd c10 (nI_ge hi2 (show 64 < 2 ^ 31 by decide))) (fun c10 => ?_)
          refine lv_aload_n hx hb dX4_clear_34 rfl (lv_at hl 0 rfl) ?_
          refine va_get (D := D) (ci := 4) (v := .ref (ad 2)) (C := RX4) (T := TX4) (N := 7) hx hb hts iwX4_clear_X4 hown hK hP 0 cc_obj rfl 3 (by decide) (hts _ lkX4_clear_9) (fun _ h9 => h9) rfl dX4_clear_35 ?_
          refine lv_iload_n hx hb dX4_clear_38 rfl (lv_at hl 1 rfl) ?_
          refine lv_iconst (v := 0) hx hb dX4_clear_39 (by decide) ?_
          refine g_iast (t0 := 0) hx hb hK hP hD hS cc_mem rfl i rfl hi2 (by decide) dX4_clear_40 (fun H locs hP hS => ?_)
          obtain ⟨σ11, eσ11⟩ : ∃ z, z = put σ9 0 0 i 0 := ⟨_, rfl⟩
          have hP : va_P D vwCl (FW (5 * (n + 2)) ad (CC cs n ad σ11)) H := by rw [eσ11]; exact FW_P hP cu_mem
          refine lv_iinc (v := nI (i + 1)) (lv' := [(1, .int (nI (i + 1))), (0, .ref (ad 0))]) hx hb dX4_clear_41 hl (k := 1) rfl (nI_1 i) (by decide) rfl (fun ls hl => ?_)
          refine lv_goto (tgt := 28) hx hb dX4_clear_44 (by decide) ?_
          exact ih (i + 1) (by omega)  _ _ _ (by simp only [eσ11, eσ9] at hP; rw [putA_step (g' := fun j => if j < i + 1 then 0 else τ3.1 0 0 j) (fun j => by by_cases h1 : j = i <;> by_cases h2 : j < i <;> simp [h1, h2] <;> omega)] at hP; exact hP) hS (lv_sub hl [1, 0] rfl)
      exact loop2 (64) 0 (by omega)  _ _ _ (by rw [putA_0 (fun j => by simp)]; exact hP) hS (lv_sub hl [1, 0] rfl)
    | succ d ih =>
      intro i hi  H locs ls hP hS hl
      have hi2 : i < n := by omega
      obtain ⟨σ12, eσ12⟩ : ∃ z, z = rstN i σ := ⟨_, rfl⟩
      have hP : va_P D vwCl (FW (5 * (n + 2)) ad (CC cs n ad σ12)) H := by rw [eσ12]; exact hP
      refine lv_iload_n hx hb dX4_clear_2 rfl (lv_at hl 1 rfl) ?_
      refine lv_aload_n hx hb dX4_clear_3 rfl (lv_at hl 0 rfl) ?_
      refine va_get (D := D) (ci := 4) (v := .ref (ad 1)) (C := RX4) (T := TX4) (N := 7) hx hb hts iwX4_clear_X4 hown hK hP 0 cc_obj rfl 2 (by decide) (hts _ lkX4_clear_40) (fun _ h9 => h9) rfl dX4_clear_4 ?_
      refine va_alen hx hb hK hP 1 1 cc_cor rfl (v := nI n) rfl dX4_clear_7 ?_
      refine lv_icmp_ge (tgt := 26) hx hb dX4_clear_8 (by decide) (fun c13 => absurd c13 (nI_ge hi2 (by omega))) (fun c13 => ?_)
      refine lv_aload_n hx hb dX4_clear_11 rfl (lv_at hl 0 rfl) ?_
      refine va_get (D := D) (ci := 4) (v := .ref (ad 1)) (C := RX4) (T := TX4) (N := 7) hx hb hts iwX4_clear_X4 hown hK hP 0 cc_obj rfl 2 (by decide) (hts _ lkX4_clear_40) (fun _ h9 => h9) rfl dX4_clear_12 ?_
      refine lv_iload_n hx hb dX4_clear_15 rfl (lv_at hl 1 rfl) ?_
      refine g_aald (t0 := 1) (v := ad (5 * (i + 2) + 0)) hx hb hK hP cc_cor rfl i rfl hi2 hn31 rfl dX4_clear_16 ?_
      refine g_cvv (As := []) ⟨hx, hb, hml, hown, hts⟩ (kX0_reset l D cs n ad σ12 i hi2) (cwV 0 hts gX4_clear_X0_reset rfl rfl rfl (by decide +kernel) ⟨Nat.le_of_ble_eq_true rfl, Nat.le_of_ble_eq_true rfl⟩) hK hP hD hS hA (5 * (i + 2) + 0) (ci := 0) rfl rfl (cc_core hi2) hl.1 dX4_clear_17 rfl rfl (Nat.le_of_ble_eq_true rfl) ⟨Nat.zero_le _, Nat.zero_le _⟩ (fun _ H locs hw hP hS => ?_)
      obtain ⟨σ14, eσ14⟩ : ∃ z, z = pReset σ12 i := ⟨_, rfl⟩
      have hP : va_P D vwCl (FW (5 * (n + 2)) ad (CC cs n ad σ14)) H := by rw [eσ14]; exact hP
      refine lv_iinc (v := nI (i + 1)) (lv' := [(1, .int (nI (i + 1))), (0, .ref (ad 0))]) hx hb dX4_clear_20 hl (k := 1) rfl (nI_1 i) (by decide) rfl (fun ls hl => ?_)
      refine lv_goto (tgt := 2) hx hb dX4_clear_23 (by decide) ?_
      exact ih (i + 1) (by omega)  _ _ _ (by simp only [eσ14, eσ12] at hP; exact hP) hS (lv_sub hl [1, 0] rfl)
  exact loop (n) 0 (by omega)  _ _ _ (hP) hS (lv_sub hl [1, 0] rfl)
