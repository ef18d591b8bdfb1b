/-! what the calls tell -/
def t1 (P : Prop) [Decidable P] : Int32 := if P then 0 else 1
def t2 (P Q : Prop) [Decidable P] [Decidable Q] : Int32 := if P then (if Q then 0 else 2) else 1
theorem t1_0 {P : Prop} [Decidable P] (h : P) : t1 P = 0 := if_pos h
theorem t1_1 {P : Prop} [Decidable P] (h : ¬ P) : t1 P = 1 := if_neg h
theorem t2_0 {P Q : Prop} [Decidable P] [Decidable Q] (h : P) (h2 : Q) : t2 P Q = 0 := by unfold t2; rw [if_pos h, if_pos h2]
theorem t2_2 {P Q : Prop} [Decidable P] [Decidable Q] (h : P) (h2 : ¬ Q) : t2 P Q = 2 := by unfold t2; rw [if_pos h, if_neg h2]
theorem t2_1 {P Q : Prop} [Decidable P] [Decidable Q] (h : ¬ P) : t2 P Q = 1 := if_neg h
def pStart (σ : St) (k : Nat) (y : Int32) : St := pClose (put (put σ 13 k 0 y) 14 k 0 0) k
def pPoke (σ : St) (n j : Nat) (v : Int32) : St := put (pBA (-1) (j / 4) true n σ) 0 0 j v
def cntB (x : Int64) : Nat → Nat
  | 0 => 0
  | m + 1 => cntB x m + (if ((x >>> ((nI m).toInt64 &&& 63)) &&& 1) = 1 then 1 else 0)
def pTold (σ : St) (k w : Nat) : Int32 :=
  if w = 0 then σ.1 13 k 0 else if w = 1 then (if σ.1 14 k 0 = 0 then 0 else 1) else if w = 2 then σ.1 15 k 0 else if w = 3 then σ.1 18 k 0 else if w = 4 then σ.1 19 k 0
  else if w = 5 then nI (cntB (σ.1 22 k 0).toInt64 64) else if w = 6 then nI (cntB (σ.1 23 k 0).toInt64 64) else if w = 7 then nI (cntB (σ.2 k) 64) else if w = 8 then σ.1 16 k 0 else σ.1 17 k 0
theorem T1ne : ¬ (1 : Int32) = 0 := by decide
theorem T2ne : ¬ (2 : Int32) = 0 := by decide

/-! the reference: its calls -/
abbrev rmX5_namesA : Room := ({ frames := 0, cells := 0, slots := 0, locals := 0 } : Room)
set_option maxRecDepth 100000 in
set_option maxHeartbeats 4000000 in
theorem kX5_namesA (l : Launch) (D : va_G) (cs : Nat → ClassId) (n : Nat) (ad : Nat → Nat) (th nx : Int32) (σ : St) (o : Int32) : gMi l yX5_namesA wsX5_namesA rmX5_namesA D (tyL cs) 22 ad (CR cs n ad th nx σ) [.int o] (fun (r : Int32) (u : Unit) => r = bI (decide (o ≤ 8 ∨ o = 12))) (fun (u : Unit) => CR cs n ad th nx σ) := by
  refine g_ofz (cc := cX5_namesA) (maxL := 1) (by decide) rfl (Nat.le_of_ble_eq_true rfl) rfl rfl ?_
  intro p e s m args below meth c A ls Q hx hb hml hts hown hK hP hD hA hS hl hret
  have hl : lv_has ls 1 [(0, .int o)] := hl
  refine lv_iload_n hx hb dX5_namesA_0 rfl (lv_at hl 0 rfl) ?_
  refine lv_bipush (v := 8) hx hb dX5_namesA_1 (by decide) ?_
  refine lv_icmp_le (tgt := 12) hx hb dX5_namesA_3 (by decide) (fun c1 => ?_) (fun c1 => ?_)
  · refine lv_iconst (v := 1) hx hb dX5_namesA_12 (by decide) ?_
    refine lv_goto (tgt := 17) hx hb dX5_namesA_13 (by decide) ?_
    exact hret _ _ _ _ () _ _ dX5_namesA_17 hP hS (Or.inr rfl) ((bI_d (Or.inl c1)).symm) (rfl)
  · refine lv_iload_n hx hb dX5_namesA_6 rfl (lv_at hl 0 rfl) ?_
    refine lv_bipush (v := 12) hx hb dX5_namesA_7 (by decide) ?_
    refine lv_icmp_ne (tgt := 16) hx hb dX5_namesA_9 (by decide) (fun c2 => ?_) (fun c2 => ?_)
    · refine lv_iconst (v := 0) hx hb dX5_namesA_16 (by decide) ?_
      exact hret _ _ _ _ () _ _ dX5_namesA_17 hP hS (Or.inl rfl) ((bI_n (fun h => h.elim c1 c2)).symm) (rfl)
    · refine lv_iconst (v := 1) hx hb dX5_namesA_12 (by decide) ?_
      refine lv_goto (tgt := 17) hx hb dX5_namesA_13 (by decide) ?_
      exact hret _ _ _ _ () _ _ dX5_namesA_17 hP hS (Or.inr rfl) ((bI_d (Or.inr c2)).symm) (rfl)

abbrev rmX5_namesB : Room := ({ frames := 0, cells := 0, slots := 0, locals := 0 } : Room)
set_option maxRecDepth 100000 in
set_option maxHeartbeats 4000000 in
theorem kX5_namesB (l : Launch) (D : va_G) (cs : Nat → ClassId) (n : Nat) (ad : Nat → Nat) (th nx : Int32) (σ : St) (o : Int32) : gMi l yX5_namesB wsX5_namesB rmX5_namesB D (tyL cs) 22 ad (CR cs n ad th nx σ) [.int o] (fun (r : Int32) (u : Unit) => r = bI (decide (1 ≤ o ∧ o ≤ 8))) (fun (u : Unit) => CR cs n ad th nx σ) := by
  refine g_ofz (cc := cX5_namesB) (maxL := 1) (by decide) rfl (Nat.le_of_ble_eq_true rfl) rfl rfl ?_
  intro p e s m args below meth c A ls Q hx hb hml hts hown hK hP hD hA hS hl hret
  have hl : lv_has ls 1 [(0, .int o)] := hl
  refine lv_iload_n hx hb dX5_namesB_0 rfl (lv_at hl 0 rfl) ?_
  refine lv_iconst (v := 1) hx hb dX5_namesB_1 (by decide) ?_
  refine lv_icmp_lt (tgt := 15) hx hb dX5_namesB_2 (by decide) (fun c1 => ?_) (fun c1 => ?_)
  · refine lv_iconst (v := 0) hx hb dX5_namesB_15 (by decide) ?_
    exact hret _ _ _ _ () _ _ dX5_namesB_16 hP hS (Or.inl rfl) ((bI_n (fun h => absurd h.1 (Int32.not_le.mpr c1))).symm) (rfl)
  · refine lv_iload_n hx hb dX5_namesB_5 rfl (lv_at hl 0 rfl) ?_
    refine lv_bipush (v := 8) hx hb dX5_namesB_6 (by decide) ?_
    refine lv_icmp_gt (tgt := 15) hx hb dX5_namesB_8 (by decide) (fun c2 => ?_) (fun c2 => ?_)
    · refine lv_iconst (v := 0) hx hb dX5_namesB_15 (by decide) ?_
      exact hret _ _ _ _ () _ _ dX5_namesB_16 hP hS (Or.inl rfl) ((bI_n (fun h => absurd h.2 (Int32.not_le.mpr c2))).symm) (rfl)
    · refine lv_iconst (v := 1) hx hb dX5_namesB_11 (by decide) ?_
      refine lv_goto (tgt := 16) hx hb dX5_namesB_12 (by decide) ?_
      exact hret _ _ _ _ () _ _ dX5_namesB_16 hP hS (Or.inr rfl) ((bI_d ⟨Int32.not_lt.mp c1, Int32.not_lt.mp c2⟩).symm) (rfl)

abbrev rmX5_namesC : Room := ({ frames := 0, cells := 0, slots := 0, locals := 0 } : Room)
set_option maxRecDepth 100000 in
set_option maxHeartbeats 4000000 in
theorem kX5_namesC (l : Launch) (D : va_G) (cs : Nat → ClassId) (n : Nat) (ad : Nat → Nat) (th nx : Int32) (σ : St) (o : Int32) : gMi l yX5_namesC wsX5_namesC rmX5_namesC D (tyL cs) 22 ad (CR cs n ad th nx σ) [.int o] (fun (r : Int32) (u : Unit) => r = bI (decide (1 ≤ o ∧ o ≤ 3))) (fun (u : Unit) => CR cs n ad th nx σ) := by
  refine g_ofz (cc := cX5_namesC) (maxL := 1) (by decide) rfl (Nat.le_of_ble_eq_true rfl) rfl rfl ?_
  intro p e s m args below meth c A ls Q hx hb hml hts hown hK hP hD hA hS hl hret
  have hl : lv_has ls 1 [(0, .int o)] := hl
  refine lv_iload_n hx hb dX5_namesC_0 rfl (lv_at hl 0 rfl) ?_
  refine lv_iconst (v := 1) hx hb dX5_namesC_1 (by decide) ?_
  refine lv_icmp_lt (tgt := 14) hx hb dX5_namesC_2 (by decide) (fun c1 => ?_) (fun c1 => ?_)
  · refine lv_iconst (v := 0) hx hb dX5_namesC_14 (by decide) ?_
    exact hret _ _ _ _ () _ _ dX5_namesC_15 hP hS (Or.inl rfl) ((bI_n (fun h => absurd h.1 (Int32.not_le.mpr c1))).symm) (rfl)
  · refine lv_iload_n hx hb dX5_namesC_5 rfl (lv_at hl 0 rfl) ?_
    refine lv_iconst (v := 3) hx hb dX5_namesC_6 (by decide) ?_
    refine lv_icmp_gt (tgt := 14) hx hb dX5_namesC_7 (by decide) (fun c2 => ?_) (fun c2 => ?_)
    · refine lv_iconst (v := 0) hx hb dX5_namesC_14 (by decide) ?_
      exact hret _ _ _ _ () _ _ dX5_namesC_15 hP hS (Or.inl rfl) ((bI_n (fun h => absurd h.2 (Int32.not_le.mpr c2))).symm) (rfl)
    · refine lv_iconst (v := 1) hx hb dX5_namesC_10 (by decide) ?_
      refine lv_goto (tgt := 15) hx hb dX5_namesC_11 (by decide) ?_
      exact hret _ _ _ _ () _ _ dX5_namesC_15 hP hS (Or.inr rfl) ((bI_d ⟨Int32.not_lt.mp c1, Int32.not_lt.mp c2⟩).symm) (rfl)

theorem iwX5_thrown_X5 : ∀ w ∈ wsX50, w ∈ wsX5_thrown := fun w h => by unfold wsX5_thrown; simp only [List.mem_cons, List.mem_append, h, true_or, or_true]
theorem lkX5_thrown_89 : Cond.fieldLink RX5 89 "CoreTransactionsModel" "thrown" "I" ∈ wsX5_thrown := by decide +kernel
abbrev rmX5_thrown : Room := ({ frames := 0, cells := 0, slots := 0, locals := 0 } : Room)
set_option maxRecDepth 100000 in
set_option maxHeartbeats 4000000 in
theorem kX5_thrown (l : Launch) (D : va_G) (cs : Nat → ClassId) (n : Nat) (ad : Nat → Nat) (th nx : Int32) (σ : St)  : gMi l yX5_thrown wsX5_thrown rmX5_thrown D (tyL cs) 22 ad (CR cs n ad th nx σ) [.ref (ad 0)] (fun (r : Int32) (u : Unit) => r = th) (fun (u : Unit) => CR cs n ad th nx σ) := by
  refine g_ofi (cc := cX5_thrown) (maxL := 1) (by decide) rfl (Nat.le_of_ble_eq_true rfl) rfl rfl ?_
  intro p e s m args below meth c A ls Q hx hb hml hts hown hK hP hD hA hS hl hret
  have hl : lv_has ls 1 [(0, .ref (ad 0))] := hl
  refine lv_aload_n hx hb dX5_thrown_0 rfl (lv_at hl 0 rfl) ?_
  refine va_get (D := D) (ci := 5) (v := .int th) (C := RX5) (T := TX5) (N := 29) hx hb hts iwX5_thrown_X5 hown hK hP 0 cr_obj rfl 0 (by decide) (hts _ lkX5_thrown_89) (fun _ h9 => h9) rfl dX5_thrown_1 ?_
  exact hret _ _ _ _ () _ _ dX5_thrown_4 hP hS (rfl) (rfl)

abbrev rmX5_near : Room := ({ frames := 0, cells := 0, slots := 0, locals := 0 } : Room)
set_option maxRecDepth 100000 in
set_option maxHeartbeats 4000000 in
theorem kX5_near (l : Launch) (D : va_G) (cs : Nat → ClassId) (n : Nat) (ad : Nat → Nat) (th nx : Int32) (σ : St) (v lo hi : Int32) : gMi l yX5_near wsX5_near rmX5_near D (tyL cs) 22 ad (CR cs n ad th nx σ) [.int v, .int lo, .int hi] (fun (r : Int32) (u : Unit) => r = if v < lo then lo else if hi < v then hi else v) (fun (u : Unit) => CR cs n ad th nx σ) := by
  refine g_ofi (cc := cX5_near) (maxL := 3) (by decide) rfl (Nat.le_of_ble_eq_true rfl) rfl rfl ?_
  intro p e s m args below meth c A ls Q hx hb hml hts hown hK hP hD hA hS hl hret
  have hl : lv_has ls 3 [(0, .int v), (1, .int lo), (2, .int hi)] := hl
  refine lv_iload_n hx hb dX5_near_0 rfl (lv_at hl 0 rfl) ?_
  refine lv_iload_n hx hb dX5_near_1 rfl (lv_at hl 1 rfl) ?_
  refine lv_icmp_ge (tgt := 9) hx hb dX5_near_2 (by decide) (fun c1 => ?_) (fun c1 => ?_)
  · refine lv_iload_n hx hb dX5_near_9 rfl (lv_at hl 0 rfl) ?_
    refine lv_iload_n hx hb dX5_near_10 rfl (lv_at hl 2 rfl) ?_
    refine lv_icmp_le (tgt := 18) hx hb dX5_near_11 (by decide) (fun c2 => ?_) (fun c2 => ?_)
    · refine lv_iload_n hx hb dX5_near_18 rfl (lv_at hl 0 rfl) ?_
      exact hret _ _ _ _ () _ _ dX5_near_19 hP hS (by rw [if_neg (Int32.not_lt.mpr c1), if_neg (Int32.not_lt.mpr c2)]) (rfl)
    · refine lv_iload_n hx hb dX5_near_14 rfl (lv_at hl 2 rfl) ?_
      refine lv_goto (tgt := 19) hx hb dX5_near_15 (by decide) ?_
      exact hret _ _ _ _ () _ _ dX5_near_19 hP hS (by rw [if_neg (Int32.not_lt.mpr c1), if_pos (Int32.not_le.mp c2)]) (rfl)
  · refine lv_iload_n hx hb dX5_near_5 rfl (lv_at hl 1 rfl) ?_
    refine lv_goto (tgt := 19) hx hb dX5_near_6 (by decide) ?_
    exact hret _ _ _ _ () _ _ dX5_near_19 hP hS (by rw [if_pos (Int32.not_le.mp c1)]) (rfl)

theorem iwX5_instruction_X5 : ∀ w ∈ wsX50, w ∈ wsX5_instruction := fun w h => by unfold wsX5_instruction; simp only [List.mem_cons, List.mem_append, h, true_or, or_true]
theorem lkX5_instruction_13 : Cond.fieldLink RX5 13 "CoreTransactionsModel" "operations" "[I" ∈ wsX5_instruction := by decide +kernel
theorem lkX5_instruction_16 : Cond.fieldLink RX5 16 "CoreTransactionsModel" "as" "[I" ∈ wsX5_instruction := by decide +kernel
theorem lkX5_instruction_19 : Cond.fieldLink RX5 19 "CoreTransactionsModel" "bs" "[I" ∈ wsX5_instruction := by decide +kernel
theorem lkX5_instruction_22 : Cond.fieldLink RX5 22 "CoreTransactionsModel" "cs" "[I" ∈ wsX5_instruction := by decide +kernel
theorem lkX5_instruction_89 : Cond.fieldLink RX5 89 "CoreTransactionsModel" "thrown" "I" ∈ wsX5_instruction := by decide +kernel
theorem lkX5_instruction_106 : Cond.fieldLink RX5 106 "CoreTransactionsModel" "size" "I" ∈ wsX5_instruction := by decide +kernel
abbrev rmX5_instruction : Room := ({ frames := 1, cells := 0, slots := 0, locals := 21 } : Room)
set_option maxRecDepth 100000 in
set_option maxHeartbeats 4000000 in
theorem kX5_instruction (l : Launch) (D : va_G) (cs : Nat → ClassId) (n : Nat) (ad : Nat → Nat) (th nx : Int32) (σ : St) (hn4 : n ≤ 4) (o a b d : Int32) (G : Nat) (hI : Inv σ G) : gMi l yX5_instruction wsX5_instruction rmX5_instruction D (tyL cs) 22 ad (CR cs n ad th nx σ) [.ref (ad 0), .int o, .int a, .int b, .int d] (fun (r : Int32) (u : Int32) => t2 ((0 ≤ o ∧ o < 14) ∧ ((o ≤ 8 ∨ o = 12) → (0 ≤ a ∧ a < 8)) ∧ ((1 ≤ o ∧ o ≤ 8) → (0 ≤ b ∧ b < 8)) ∧ ((1 ≤ o ∧ o ≤ 3) → (0 ≤ d ∧ d < 8))) (¬ σ.1 5 0 0 = 80) = 0 → r = σ.1 5 0 0) (fun (u : Int32) => CR cs n ad (t2 ((0 ≤ o ∧ o < 14) ∧ ((o ≤ 8 ∨ o = 12) → (0 ≤ a ∧ a < 8)) ∧ ((1 ≤ o ∧ o ≤ 8) → (0 ≤ b ∧ b < 8)) ∧ ((1 ≤ o ∧ o ≤ 3) → (0 ≤ d ∧ d < 8))) (¬ σ.1 5 0 0 = 80)) u (if t2 ((0 ≤ o ∧ o < 14) ∧ ((o ≤ 8 ∨ o = 12) → (0 ≤ a ∧ a < 8)) ∧ ((1 ≤ o ∧ o ≤ 8) → (0 ≤ b ∧ b < 8)) ∧ ((1 ≤ o ∧ o ≤ 3) → (0 ≤ d ∧ d < 8))) (¬ σ.1 5 0 0 = 80) = 0 then pApp σ o a b d else σ)) := by
  refine g_ofi (cc := cX5_instruction) (maxL := 6) (by decide) rfl (Nat.le_of_ble_eq_true rfl) rfl rfl ?_
  intro p e s m args below meth c A ls Q hx hb hml hts hown hK hP hD hA hS hl hret
  have hl : lv_has ls 6 [(0, .ref (ad 0)), (1, .int o), (2, .int a), (3, .int b), (4, .int d)] := hl
  refine lv_iload_n hx hb dX5_instruction_0 rfl (lv_at hl 1 rfl) ?_
  refine lv_bipush (v := 14) hx hb dX5_instruction_1 (by decide) ?_
  refine g_csi (As := [.int o, .int 14]) ⟨hx, hb, hml, hown, hts⟩ (kX5_isIn l D cs n ad th nx σ (o) (14)) (va_cwS 2 hts gX5_instruction_X5_isIn rfl rfl rfl (by decide +kernel) ⟨Nat.le_of_ble_eq_true rfl, Nat.le_of_ble_eq_true rfl⟩) hK hP hD hS hA hl.1 dX5_instruction_3 rfl rfl (Nat.le_of_ble_eq_true rfl) ⟨Nat.zero_le _, Nat.zero_le _⟩ (fun r _ H locs hw hP hS => ?_)
  obtain rfl : r = bI (decide (0 ≤ o ∧ o < 14)) := hw
  have hP : va_P D vwCl (FW 22 ad (CR cs n ad th nx σ)) H := hP
  refine lv_istore (lv' := [(5, .int (bI (decide (0 ≤ o ∧ o < 14)))), (0, .ref (ad 0)), (1, .int o), (2, .int a), (3, .int b), (4, .int d)]) hx hb dX5_instruction_6 hl (by decide) rfl (fun ls hl => ?_)
  refine lv_iload hx hb dX5_instruction_8 (lv_at hl 0 rfl) ?_
  have J67 : ∀ (H : Heap) (locs : List Loc) (ls : Array Slot), va_P D vwCl (FW 22 ad (CR cs n ad th nx σ)) H → va_S A s.heap H locs → lv_has ls 6 [(5, .int (bI (decide (0 ≤ o ∧ o < 14)))), (0, .ref (ad 0)), (1, .int o), (2, .int a), (3, .int b), (4, .int d)] → W p l e rmX5_instruction s m args below meth c H locs 0 0 Q (F0 m 67 ls [.int (bI (decide ((0 ≤ o ∧ o < 14) ∧ ((o ≤ 8 ∨ o = 12) → (0 ≤ a ∧ a < 8)) ∧ ((1 ≤ o ∧ o ≤ 8) → (0 ≤ b ∧ b < 8)) ∧ ((1 ≤ o ∧ o ≤ 3) → (0 ≤ d ∧ d < 8)))))]) := by
    intro H locs ls hP hS hl
    refine lv_istore (lv' := [(5, .int (bI (decide ((0 ≤ o ∧ o < 14) ∧ ((o ≤ 8 ∨ o = 12) → (0 ≤ a ∧ a < 8)) ∧ ((1 ≤ o ∧ o ≤ 8) → (0 ≤ b ∧ b < 8)) ∧ ((1 ≤ o ∧ o ≤ 3) → (0 ≤ d ∧ d < 8)))))), (0, .ref (ad 0)), (1, .int o), (2, .int a), (3, .int b), (4, .int d)]) hx hb dX5_instruction_67 hl (by decide) rfl (fun ls hl => ?_)
    refine lv_aload_n hx hb dX5_instruction_69 rfl (lv_at hl 1 rfl) ?_
    refine lv_iload hx hb dX5_instruction_70 (lv_at hl 0 rfl) ?_
    refine lv_if_ne (tgt := 79) hx hb dX5_instruction_72 (by decide) (fun c1 => ?_) (fun c1 => ?_)
    · have hG : ((0 ≤ o ∧ o < 14) ∧ ((o ≤ 8 ∨ o = 12) → (0 ≤ a ∧ a < 8)) ∧ ((1 ≤ o ∧ o ≤ 8) → (0 ≤ b ∧ b < 8)) ∧ ((1 ≤ o ∧ o ≤ 3) → (0 ≤ d ∧ d < 8))) := of_decide_eq_true (bI1 c1)
      refine lv_aload_n hx hb dX5_instruction_79 rfl (lv_at hl 1 rfl) ?_
      refine va_get (D := D) (ci := 5) (v := .int (σ.1 5 0 0)) (C := RX5) (T := TX5) (N := 29) hx hb hts iwX5_instruction_X5 hown hK hP 0 cr_obj rfl 5 (by decide) (hts _ lkX5_instruction_106) (fun _ h9 => h9) rfl dX5_instruction_80 ?_
      refine lv_bipush (v := 80) hx hb dX5_instruction_83 (by decide) ?_
      refine lv_icmp_ne (tgt := 92) hx hb dX5_instruction_85 (by decide) (fun c2 => ?_) (fun c2 => ?_)
      · have hT : t2 ((0 ≤ o ∧ o < 14) ∧ ((o ≤ 8 ∨ o = 12) → (0 ≤ a ∧ a < 8)) ∧ ((1 ≤ o ∧ o ≤ 8) → (0 ≤ b ∧ b < 8)) ∧ ((1 ≤ o ∧ o ≤ 3) → (0 ≤ d ∧ d < 8))) (¬ σ.1 5 0 0 = 80) = 0 := t2_0 hG c2
        obtain ⟨L, hL80, hL, hLo⟩ := hI.2.1
        have hL8 : L < 80 := Nat.lt_of_le_of_ne hL80 (fun h => c2 (by rw [hL, h]; rfl))
        refine lv_iconst (v := 0) hx hb dX5_instruction_92 (by decide) ?_
        refine va_put (D := D) (ci := 5) (v := .int 0) (ty := .int) (C := RX5) (T := TX5) (N := 29) hx hb hts iwX5_instruction_X5 tyX5 tyX5_ok nmX5 hown hK hP (hD _) hS 0 cr_obj rfl 0 (by decide) (hts _ lkX5_instruction_89) (fun _ h9 => h9) rfl (by decide +kernel) rfl rfl (Nat.le_of_ble_eq_true rfl) dX5_instruction_93 (fun H locs hP _ hS => ?_)
        have hP := cru_th hP
        have hP : va_P D vwCl (FW 22 ad (CR cs n ad 0 nx σ)) H := hP
        refine lv_aload_n hx hb dX5_instruction_96 rfl (lv_at hl 1 rfl) ?_
        refine va_get (D := D) (ci := 5) (v := .int 0) (C := RX5) (T := TX5) (N := 29) hx hb hts iwX5_instruction_X5 hown hK hP 0 cr_obj rfl 0 (by decide) (hts _ lkX5_instruction_89) (fun _ h9 => h9) rfl dX5_instruction_97 ?_
        refine lv_if_le (tgt := 105) hx hb dX5_instruction_100 (by decide) (fun c3 => ?_) (fun c3 => absurd (by decide) c3)
        refine lv_aload_n hx hb dX5_instruction_105 rfl (lv_at hl 1 rfl) ?_
        refine va_get (D := D) (ci := 5) (v := .ref (ad 2)) (C := RX5) (T := TX5) (N := 29) hx hb hts iwX5_instruction_X5 hown hK hP 0 cr_obj rfl 6 (by decide) (hts _ lkX5_instruction_13) (fun _ h9 => h9) rfl dX5_instruction_106 ?_
        refine lv_aload_n hx hb dX5_instruction_109 rfl (lv_at hl 1 rfl) ?_
        refine va_get (D := D) (ci := 5) (v := .int (σ.1 5 0 0)) (C := RX5) (T := TX5) (N := 29) hx hb hts iwX5_instruction_X5 hown hK hP 0 cr_obj rfl 5 (by decide) (hts _ lkX5_instruction_106) (fun _ h9 => h9) rfl dX5_instruction_110 ?_
        refine lv_iload_n hx hb dX5_instruction_113 rfl (lv_at hl 2 rfl) ?_
        refine g_iast (t0 := 0) hx hb hK hP hD hS cr_ops rfl L hL hL8 (by decide) dX5_instruction_114 (fun H locs hP hS => ?_)
        obtain ⟨σ4, eσ4⟩ : ∃ z, z = put σ 1 0 L o := ⟨_, rfl⟩
        have hP : va_P D vwCl (FW 22 ad (CR cs n ad 0 nx σ4)) H := by rw [eσ4]; exact cru_ops hP
        refine lv_aload_n hx hb dX5_instruction_115 rfl (lv_at hl 1 rfl) ?_
        refine va_get (D := D) (ci := 5) (v := .ref (ad 3)) (C := RX5) (T := TX5) (N := 29) hx hb hts iwX5_instruction_X5 hown hK hP 0 cr_obj rfl 7 (by decide) (hts _ lkX5_instruction_16) (fun _ h9 => h9) rfl dX5_instruction_116 ?_
        refine lv_aload_n hx hb dX5_instruction_119 rfl (lv_at hl 1 rfl) ?_
        refine va_get (D := D) (ci := 5) (v := .int (σ4.1 5 0 0)) (C := RX5) (T := TX5) (N := 29) hx hb hts iwX5_instruction_X5 hown hK hP 0 cr_obj rfl 5 (by decide) (hts _ lkX5_instruction_106) (fun _ h9 => h9) rfl dX5_instruction_120 ?_
        refine lv_iload_n hx hb dX5_instruction_123 rfl (lv_at hl 3 rfl) ?_
        refine g_iast (t0 := 0) hx hb hK hP hD hS cr_as rfl L (by simp only [eσ4]; exact hL) hL8 (by decide) dX5_instruction_124 (fun H locs hP hS => ?_)
        obtain ⟨σ5, eσ5⟩ : ∃ z, z = put σ4 2 0 L a := ⟨_, rfl⟩
        have hP : va_P D vwCl (FW 22 ad (CR cs n ad 0 nx σ5)) H := by rw [eσ5]; exact cru_as hP
        refine lv_aload_n hx hb dX5_instruction_125 rfl (lv_at hl 1 rfl) ?_
        refine va_get (D := D) (ci := 5) (v := .ref (ad 4)) (C := RX5) (T := TX5) (N := 29) hx hb hts iwX5_instruction_X5 hown hK hP 0 cr_obj rfl 8 (by decide) (hts _ lkX5_instruction_19) (fun _ h9 => h9) rfl dX5_instruction_126 ?_
        refine lv_aload_n hx hb dX5_instruction_129 rfl (lv_at hl 1 rfl) ?_
        refine va_get (D := D) (ci := 5) (v := .int (σ5.1 5 0 0)) (C := RX5) (T := TX5) (N := 29) hx hb hts iwX5_instruction_X5 hown hK hP 0 cr_obj rfl 5 (by decide) (hts _ lkX5_instruction_106) (fun _ h9 => h9) rfl dX5_instruction_130 ?_
        refine lv_iload_n hx hb dX5_instruction_133 rfl (lv_at hl 4 rfl) ?_
        refine g_iast (t0 := 0) hx hb hK hP hD hS cr_bs rfl L (by simp only [eσ5, eσ4]; exact hL) hL8 (by decide) dX5_instruction_134 (fun H locs hP hS => ?_)
        obtain ⟨σ6, eσ6⟩ : ∃ z, z = put σ5 3 0 L b := ⟨_, rfl⟩
        have hP : va_P D vwCl (FW 22 ad (CR cs n ad 0 nx σ6)) H := by rw [eσ6]; exact cru_bs hP
        refine lv_aload_n hx hb dX5_instruction_135 rfl (lv_at hl 1 rfl) ?_
        refine va_get (D := D) (ci := 5) (v := .ref (ad 5)) (C := RX5) (T := TX5) (N := 29) hx hb hts iwX5_instruction_X5 hown hK hP 0 cr_obj rfl 9 (by decide) (hts _ lkX5_instruction_22) (fun _ h9 => h9) rfl dX5_instruction_136 ?_
        refine lv_aload_n hx hb dX5_instruction_139 rfl (lv_at hl 1 rfl) ?_
        refine va_get (D := D) (ci := 5) (v := .int (σ6.1 5 0 0)) (C := RX5) (T := TX5) (N := 29) hx hb hts iwX5_instruction_X5 hown hK hP 0 cr_obj rfl 5 (by decide) (hts _ lkX5_instruction_106) (fun _ h9 => h9) rfl dX5_instruction_140 ?_
        refine lv_iload hx hb dX5_instruction_143 (lv_at hl 5 rfl) ?_
        refine g_iast (t0 := 0) hx hb hK hP hD hS cr_cs rfl L (by simp only [eσ6, eσ5, eσ4]; exact hL) hL8 (by decide) dX5_instruction_145 (fun H locs hP hS => ?_)
        obtain ⟨σ7, eσ7⟩ : ∃ z, z = put σ6 4 0 L d := ⟨_, rfl⟩
        have hP : va_P D vwCl (FW 22 ad (CR cs n ad 0 nx σ7)) H := by rw [eσ7]; exact cru_cs hP
        refine lv_aload_n hx hb dX5_instruction_146 rfl (lv_at hl 1 rfl) ?_
        refine lv_dup hx hb dX5_instruction_147 rfl ?_
        refine va_get (D := D) (ci := 5) (v := .int (σ7.1 5 0 0)) (C := RX5) (T := TX5) (N := 29) hx hb hts iwX5_instruction_X5 hown hK hP 0 cr_obj rfl 5 (by decide) (hts _ lkX5_instruction_106) (fun _ h9 => h9) rfl dX5_instruction_148 ?_
        refine lv_iconst (v := 1) hx hb dX5_instruction_151 (by decide) ?_
        refine lv_iadd hx hb dX5_instruction_152 ?_
        refine va_put (D := D) (ci := 5) (v := .int ((σ7.1 5 0 0) + 1)) (ty := .int) (C := RX5) (T := TX5) (N := 29) hx hb hts iwX5_instruction_X5 tyX5 tyX5_ok nmX5 hown hK hP (hD _) hS 0 cr_obj rfl 5 (by decide) (hts _ lkX5_instruction_106) (fun _ h9 => h9) rfl (by decide +kernel) rfl rfl (Nat.le_of_ble_eq_true rfl) dX5_instruction_153 (fun H locs hP _ hS => ?_)
        obtain ⟨σ8, eσ8⟩ : ∃ z, z = put σ7 5 0 0 ((σ7.1 5 0 0) + 1) := ⟨_, rfl⟩
        have hP : va_P D vwCl (FW 22 ad (CR cs n ad 0 nx σ8)) H := by rw [eσ8]; exact cru_obj_5 hP
        refine lv_aload_n hx hb dX5_instruction_156 rfl (lv_at hl 1 rfl) ?_
        refine va_get (D := D) (ci := 5) (v := .int (σ8.1 5 0 0)) (C := RX5) (T := TX5) (N := 29) hx hb hts iwX5_instruction_X5 hown hK hP 0 cr_obj rfl 5 (by decide) (hts _ lkX5_instruction_106) (fun _ h9 => h9) rfl dX5_instruction_157 ?_
        refine lv_iconst (v := 1) hx hb dX5_instruction_160 (by decide) ?_
        refine lv_isub hx hb dX5_instruction_161 ?_
        exact hret _ _ _ _ nx _ _ dX5_instruction_162 hP hS (fun _ => by simp only [eσ8, eσ7, eσ6, eσ5, eσ4]; show σ.1 5 0 0 + 1 - 1 = _; rw [hL, nI_1]; exact nI_pred L) (by rw [hT, if_pos rfl]; first | done | (simp only [eσ8, eσ7, eσ6, eσ5, eσ4]; rw [show pApp σ o a b d = put (put (put (put (put σ 1 0 L o) 2 0 L a) 3 0 L b) 4 0 L d) 5 0 0 (σ.1 5 0 0 + 1) from by unfold pApp; rw [hL, iN_nI (show L < 2 ^ 31 by omega)]]; rfl))
      · have hT : t2 ((0 ≤ o ∧ o < 14) ∧ ((o ≤ 8 ∨ o = 12) → (0 ≤ a ∧ a < 8)) ∧ ((1 ≤ o ∧ o ≤ 8) → (0 ≤ b ∧ b < 8)) ∧ ((1 ≤ o ∧ o ≤ 3) → (0 ≤ d ∧ d < 8))) (¬ σ.1 5 0 0 = 80) = 2 := t2_2 hG (fun h => h c2)
        refine lv_iconst (v := 2) hx hb dX5_instruction_88 (by decide) ?_
        refine lv_goto (tgt := 93) hx hb dX5_instruction_89 (by decide) ?_
        refine va_put (D := D) (ci := 5) (v := .int 2) (ty := .int) (C := RX5) (T := TX5) (N := 29) hx hb hts iwX5_instruction_X5 tyX5 tyX5_ok nmX5 hown hK hP (hD _) hS 0 cr_obj rfl 0 (by decide) (hts _ lkX5_instruction_89) (fun _ h9 => h9) rfl (by decide +kernel) rfl rfl (Nat.le_of_ble_eq_true rfl) dX5_instruction_93 (fun H locs hP _ hS => ?_)
        have hP := cru_th hP
        have hP : va_P D vwCl (FW 22 ad (CR cs n ad 2 nx σ)) H := hP
        refine lv_aload_n hx hb dX5_instruction_96 rfl (lv_at hl 1 rfl) ?_
        refine va_get (D := D) (ci := 5) (v := .int 2) (C := RX5) (T := TX5) (N := 29) hx hb hts iwX5_instruction_X5 hown hK hP 0 cr_obj rfl 0 (by decide) (hts _ lkX5_instruction_89) (fun _ h9 => h9) rfl dX5_instruction_97 ?_
        refine lv_if_le (tgt := 105) hx hb dX5_instruction_100 (by decide) (fun c9 => absurd c9 (by decide)) (fun c9 => ?_)
        refine lv_iconst (v := 0) hx hb dX5_instruction_103 (by decide) ?_
        exact hret _ _ _ _ nx _ _ dX5_instruction_104 hP hS (fun h => absurd (hT.symm.trans h) T2ne) (by rw [hT, if_neg T2ne])
    · have hG : ¬ ((0 ≤ o ∧ o < 14) ∧ ((o ≤ 8 ∨ o = 12) → (0 ≤ a ∧ a < 8)) ∧ ((1 ≤ o ∧ o ≤ 8) → (0 ≤ b ∧ b < 8)) ∧ ((1 ≤ o ∧ o ≤ 3) → (0 ≤ d ∧ d < 8))) := of_decide_eq_false (bI0 c1)
      have hT : t2 ((0 ≤ o ∧ o < 14) ∧ ((o ≤ 8 ∨ o = 12) → (0 ≤ a ∧ a < 8)) ∧ ((1 ≤ o ∧ o ≤ 8) → (0 ≤ b ∧ b < 8)) ∧ ((1 ≤ o ∧ o ≤ 3) → (0 ≤ d ∧ d < 8))) (¬ σ.1 5 0 0 = 80) = 1 := t2_1 hG
      refine lv_iconst (v := 1) hx hb dX5_instruction_75 (by decide) ?_
      refine lv_goto (tgt := 93) hx hb dX5_instruction_76 (by decide) ?_
      refine va_put (D := D) (ci := 5) (v := .int 1) (ty := .int) (C := RX5) (T := TX5) (N := 29) hx hb hts iwX5_instruction_X5 tyX5 tyX5_ok nmX5 hown hK hP (hD _) hS 0 cr_obj rfl 0 (by decide) (hts _ lkX5_instruction_89) (fun _ h9 => h9) rfl (by decide +kernel) rfl rfl (Nat.le_of_ble_eq_true rfl) dX5_instruction_93 (fun H locs hP _ hS => ?_)
      have hP := cru_th hP
      have hP : va_P D vwCl (FW 22 ad (CR cs n ad 1 nx σ)) H := hP
      refine lv_aload_n hx hb dX5_instruction_96 rfl (lv_at hl 1 rfl) ?_
      refine va_get (D := D) (ci := 5) (v := .int 1) (C := RX5) (T := TX5) (N := 29) hx hb hts iwX5_instruction_X5 hown hK hP 0 cr_obj rfl 0 (by decide) (hts _ lkX5_instruction_89) (fun _ h9 => h9) rfl dX5_instruction_97 ?_
      refine lv_if_le (tgt := 105) hx hb dX5_instruction_100 (by decide) (fun c10 => absurd c10 (by decide)) (fun c10 => ?_)
      refine lv_iconst (v := 0) hx hb dX5_instruction_103 (by decide) ?_
      exact hret _ _ _ _ nx _ _ dX5_instruction_104 hP hS (fun h => absurd (hT.symm.trans h) T1ne) (by rw [hT, if_neg T1ne])
  refine lv_if_eq (tgt := 66) hx hb dX5_instruction_10 (by decide) (fun c11 => ?_) (fun c11 => ?_)
  · have h14 : ¬ (0 ≤ o ∧ o < 14) := of_decide_eq_false (bI0 c11)
    refine lv_iconst (v := 0) hx hb dX5_instruction_66 (by decide) ?_
    refine g_top (y := bI (decide ((0 ≤ o ∧ o < 14) ∧ ((o ≤ 8 ∨ o = 12) → (0 ≤ a ∧ a < 8)) ∧ ((1 ≤ o ∧ o ≤ 8) → (0 ≤ b ∧ b < 8)) ∧ ((1 ≤ o ∧ o ≤ 3) → (0 ≤ d ∧ d < 8))))) ((bI_n (fun h => h14 h.1)).symm) ?_
    exact J67 _ _ _ hP hS (lv_sub hl [0, 1, 2, 3, 4, 5] rfl)
  · have h14 : 0 ≤ o ∧ o < 14 := of_decide_eq_true (bI1 c11)
    refine lv_iload_n hx hb dX5_instruction_13 rfl (lv_at hl 2 rfl) ?_
    refine g_csi (As := [.int o]) ⟨hx, hb, hml, hown, hts⟩ (kX5_namesA l D cs n ad th nx σ o) (va_cwS 1 hts gX5_instruction_X5_namesA rfl rfl rfl (by decide +kernel) ⟨Nat.le_of_ble_eq_true rfl, Nat.le_of_ble_eq_true rfl⟩) hK hP hD hS hA hl.1 dX5_instruction_14 rfl rfl (Nat.le_of_ble_eq_true rfl) ⟨Nat.zero_le _, Nat.zero_le _⟩ (fun r _ H locs hw hP hS => ?_)
    obtain rfl : r = bI (decide (o ≤ 8 ∨ o = 12)) := hw
    have hP : va_P D vwCl (FW 22 ad (CR cs n ad th nx σ)) H := hP
    refine lv_if_eq (tgt := 29) hx hb dX5_instruction_17 (by decide) (fun c12 => ?_) (fun c12 => ?_)
    · have hNA : ¬ (o ≤ 8 ∨ o = 12) := of_decide_eq_false (bI0 c12)
      refine lv_iload_n hx hb dX5_instruction_29 rfl (lv_at hl 2 rfl) ?_
      refine g_csi (As := [.int o]) ⟨hx, hb, hml, hown, hts⟩ (kX5_namesB l D cs n ad th nx σ o) (va_cwS 1 hts gX5_instruction_X5_namesB rfl rfl rfl (by decide +kernel) ⟨Nat.le_of_ble_eq_true rfl, Nat.le_of_ble_eq_true rfl⟩) hK hP hD hS hA hl.1 dX5_instruction_30 rfl rfl (Nat.le_of_ble_eq_true rfl) ⟨Nat.zero_le _, Nat.zero_le _⟩ (fun r _ H locs hw hP hS => ?_)
      obtain rfl : r = bI (decide (1 ≤ o ∧ o ≤ 8)) := hw
      have hP : va_P D vwCl (FW 22 ad (CR cs n ad th nx σ)) H := hP
      refine lv_if_eq (tgt := 45) hx hb dX5_instruction_33 (by decide) (fun c13 => ?_) (fun c13 => ?_)
      · have hB : ¬ (1 ≤ o ∧ o ≤ 8) := of_decide_eq_false (bI0 c13)
        refine lv_iload_n hx hb dX5_instruction_45 rfl (lv_at hl 2 rfl) ?_
        refine g_csi (As := [.int o]) ⟨hx, hb, hml, hown, hts⟩ (kX5_namesC l D cs n ad th nx σ o) (va_cwS 1 hts gX5_instruction_X5_namesC rfl rfl rfl (by decide +kernel) ⟨Nat.le_of_ble_eq_true rfl, Nat.le_of_ble_eq_true rfl⟩) hK hP hD hS hA hl.1 dX5_instruction_46 rfl rfl (Nat.le_of_ble_eq_true rfl) ⟨Nat.zero_le _, Nat.zero_le _⟩ (fun r _ H locs hw hP hS => ?_)
        obtain rfl : r = bI (decide (1 ≤ o ∧ o ≤ 3)) := hw
        have hP : va_P D vwCl (FW 22 ad (CR cs n ad th nx σ)) H := hP
        refine lv_if_eq (tgt := 62) hx hb dX5_instruction_49 (by decide) (fun c14 => ?_) (fun c14 => ?_)
        · have hC : ¬ (1 ≤ o ∧ o ≤ 3) := of_decide_eq_false (bI0 c14)
          refine lv_iconst (v := 1) hx hb dX5_instruction_62 (by decide) ?_
          refine lv_goto (tgt := 67) hx hb dX5_instruction_63 (by decide) ?_
          refine g_top (y := bI (decide ((0 ≤ o ∧ o < 14) ∧ ((o ≤ 8 ∨ o = 12) → (0 ≤ a ∧ a < 8)) ∧ ((1 ≤ o ∧ o ≤ 8) → (0 ≤ b ∧ b < 8)) ∧ ((1 ≤ o ∧ o ≤ 3) → (0 ≤ d ∧ d < 8))))) ((bI_d ⟨h14, fun h => absurd h hNA, fun h => absurd h hB, fun h => absurd h hC⟩).symm) ?_
          exact J67 _ _ _ hP hS (lv_sub hl [0, 1, 2, 3, 4, 5] rfl)
        · have hC : 1 ≤ o ∧ o ≤ 3 := of_decide_eq_true (bI1 c14)
          refine lv_iload hx hb dX5_instruction_52 (lv_at hl 5 rfl) ?_
          refine lv_bipush (v := 8) hx hb dX5_instruction_54 (by decide) ?_
          refine g_csi (As := [.int d, .int 8]) ⟨hx, hb, hml, hown, hts⟩ (kX5_isIn l D cs n ad th nx σ (d) (8)) (va_cwS 2 hts gX5_instruction_X5_isIn rfl rfl rfl (by decide +kernel) ⟨Nat.le_of_ble_eq_true rfl, Nat.le_of_ble_eq_true rfl⟩) hK hP hD hS hA hl.1 dX5_instruction_56 rfl rfl (Nat.le_of_ble_eq_true rfl) ⟨Nat.zero_le _, Nat.zero_le _⟩ (fun r _ H locs hw hP hS => ?_)
          obtain rfl : r = bI (decide (0 ≤ d ∧ d < 8)) := hw
          have hP : va_P D vwCl (FW 22 ad (CR cs n ad th nx σ)) H := hP
          refine lv_if_eq (tgt := 66) hx hb dX5_instruction_59 (by decide) (fun c15 => ?_) (fun c15 => ?_)
          · have hRd : ¬ (0 ≤ d ∧ d < 8) := of_decide_eq_false (bI0 c15)
            refine lv_iconst (v := 0) hx hb dX5_instruction_66 (by decide) ?_
            refine g_top (y := bI (decide ((0 ≤ o ∧ o < 14) ∧ ((o ≤ 8 ∨ o = 12) → (0 ≤ a ∧ a < 8)) ∧ ((1 ≤ o ∧ o ≤ 8) → (0 ≤ b ∧ b < 8)) ∧ ((1 ≤ o ∧ o ≤ 3) → (0 ≤ d ∧ d < 8))))) ((bI_n (fun h => hRd (h.2.2.2 hC))).symm) ?_
            exact J67 _ _ _ hP hS (lv_sub hl [0, 1, 2, 3, 4, 5] rfl)
          · have hRd : 0 ≤ d ∧ d < 8 := of_decide_eq_true (bI1 c15)
            refine lv_iconst (v := 1) hx hb dX5_instruction_62 (by decide) ?_
            refine lv_goto (tgt := 67) hx hb dX5_instruction_63 (by decide) ?_
            refine g_top (y := bI (decide ((0 ≤ o ∧ o < 14) ∧ ((o ≤ 8 ∨ o = 12) → (0 ≤ a ∧ a < 8)) ∧ ((1 ≤ o ∧ o ≤ 8) → (0 ≤ b ∧ b < 8)) ∧ ((1 ≤ o ∧ o ≤ 3) → (0 ≤ d ∧ d < 8))))) ((bI_d ⟨h14, fun h => absurd h hNA, fun h => absurd h hB, fun _ => hRd⟩).symm) ?_
            exact J67 _ _ _ hP hS (lv_sub hl [0, 1, 2, 3, 4, 5] rfl)
      · have hB : 1 ≤ o ∧ o ≤ 8 := of_decide_eq_true (bI1 c13)
        refine lv_iload_n hx hb dX5_instruction_36 rfl (lv_at hl 4 rfl) ?_
        refine lv_bipush (v := 8) hx hb dX5_instruction_37 (by decide) ?_
        refine g_csi (As := [.int b, .int 8]) ⟨hx, hb, hml, hown, hts⟩ (kX5_isIn l D cs n ad th nx σ (b) (8)) (va_cwS 2 hts gX5_instruction_X5_isIn rfl rfl rfl (by decide +kernel) ⟨Nat.le_of_ble_eq_true rfl, Nat.le_of_ble_eq_true rfl⟩) hK hP hD hS hA hl.1 dX5_instruction_39 rfl rfl (Nat.le_of_ble_eq_true rfl) ⟨Nat.zero_le _, Nat.zero_le _⟩ (fun r _ H locs hw hP hS => ?_)
        obtain rfl : r = bI (decide (0 ≤ b ∧ b < 8)) := hw
        have hP : va_P D vwCl (FW 22 ad (CR cs n ad th nx σ)) H := hP
        refine lv_if_eq (tgt := 66) hx hb dX5_instruction_42 (by decide) (fun c16 => ?_) (fun c16 => ?_)
        · have hRb : ¬ (0 ≤ b ∧ b < 8) := of_decide_eq_false (bI0 c16)
          refine lv_iconst (v := 0) hx hb dX5_instruction_66 (by decide) ?_
          refine g_top (y := bI (decide ((0 ≤ o ∧ o < 14) ∧ ((o ≤ 8 ∨ o = 12) → (0 ≤ a ∧ a < 8)) ∧ ((1 ≤ o ∧ o ≤ 8) → (0 ≤ b ∧ b < 8)) ∧ ((1 ≤ o ∧ o ≤ 3) → (0 ≤ d ∧ d < 8))))) ((bI_n (fun h => hRb (h.2.2.1 hB))).symm) ?_
          exact J67 _ _ _ hP hS (lv_sub hl [0, 1, 2, 3, 4, 5] rfl)
        · have hRb : 0 ≤ b ∧ b < 8 := of_decide_eq_true (bI1 c16)
          refine lv_iload_n hx hb dX5_instruction_45 rfl (lv_at hl 2 rfl) ?_
          refine g_csi (As := [.int o]) ⟨hx, hb, hml, hown, hts⟩ (kX5_namesC l D cs n ad th nx σ o) (va_cwS 1 hts gX5_instruction_X5_namesC rfl rfl rfl (by decide +kernel) ⟨Nat.le_of_ble_eq_true rfl, Nat.le_of_ble_eq_true rfl⟩) hK hP hD hS hA hl.1 dX5_instruction_46 rfl rfl (Nat.le_of_ble_eq_true rfl) ⟨Nat.zero_le _, Nat.zero_le _⟩ (fun r _ H locs hw hP hS => ?_)
          obtain rfl : r = bI (decide (1 ≤ o ∧ o ≤ 3)) := hw
          have hP : va_P D vwCl (FW 22 ad (CR cs n ad th nx σ)) H := hP
          refine lv_if_eq (tgt := 62) hx hb dX5_instruction_49 (by decide) (fun c17 => ?_) (fun c17 => ?_)
          · have hC : ¬ (1 ≤ o ∧ o ≤ 3) := of_decide_eq_false (bI0 c17)
            refine lv_iconst (v := 1) hx hb dX5_instruction_62 (by decide) ?_
            refine lv_goto (tgt := 67) hx hb dX5_instruction_63 (by decide) ?_
            refine g_top (y := bI (decide ((0 ≤ o ∧ o < 14) ∧ ((o ≤ 8 ∨ o = 12) → (0 ≤ a ∧ a < 8)) ∧ ((1 ≤ o ∧ o ≤ 8) → (0 ≤ b ∧ b < 8)) ∧ ((1 ≤ o ∧ o ≤ 3) → (0 ≤ d ∧ d < 8))))) ((bI_d ⟨h14, fun h => absurd h hNA, fun _ => hRb, fun h => absurd h hC⟩).symm) ?_
            exact J67 _ _ _ hP hS (lv_sub hl [0, 1, 2, 3, 4, 5] rfl)
          · have hC : 1 ≤ o ∧ o ≤ 3 := of_decide_eq_true (bI1 c17)
            refine lv_iload hx hb dX5_instruction_52 (lv_at hl 5 rfl) ?_
            refine lv_bipush (v := 8) hx hb dX5_instruction_54 (by decide) ?_
            refine g_csi (As := [.int d, .int 8]) ⟨hx, hb, hml, hown, hts⟩ (kX5_isIn l D cs n ad th nx σ (d) (8)) (va_cwS 2 hts gX5_instruction_X5_isIn rfl rfl rfl (by decide +kernel) ⟨Nat.le_of_ble_eq_true rfl, Nat.le_of_ble_eq_true rfl⟩) hK hP hD hS hA hl.1 dX5_instruction_56 rfl rfl (Nat.le_of_ble_eq_true rfl) ⟨Nat.zero_le _, Nat.zero_le _⟩ (fun r _ H locs hw hP hS => ?_)
            obtain rfl : r = bI (decide (0 ≤ d ∧ d < 8)) := hw
            have hP : va_P D vwCl (FW 22 ad (CR cs n ad th nx σ)) H := hP
            refine lv_if_eq (tgt := 66) hx hb dX5_instruction_59 (by decide) (fun c18 => ?_) (fun c18 => ?_)
            · have hRd : ¬ (0 ≤ d ∧ d < 8) := of_decide_eq_false (bI0 c18)
              refine lv_iconst (v := 0) hx hb dX5_instruction_66 (by decide) ?_
              refine g_top (y := bI (decide ((0 ≤ o ∧ o < 14) ∧ ((o ≤ 8 ∨ o = 12) → (0 ≤ a ∧ a < 8)) ∧ ((1 ≤ o ∧ o ≤ 8) → (0 ≤ b ∧ b < 8)) ∧ ((1 ≤ o ∧ o ≤ 3) → (0 ≤ d ∧ d < 8))))) ((bI_n (fun h => hRd (h.2.2.2 hC))).symm) ?_
              exact J67 _ _ _ hP hS (lv_sub hl [0, 1, 2, 3, 4, 5] rfl)
            · have hRd : 0 ≤ d ∧ d < 8 := of_decide_eq_true (bI1 c18)
              refine lv_iconst (v := 1) hx hb dX5_instruction_62 (by decide) ?_
              refine lv_goto (tgt := 67) hx hb dX5_instruction_63 (by decide) ?_
              refine g_top (y := bI (decide ((0 ≤ o ∧ o < 14) ∧ ((o ≤ 8 ∨ o = 12) → (0 ≤ a ∧ a < 8)) ∧ ((1 ≤ o ∧ o ≤ 8) → (0 ≤ b ∧ b < 8)) ∧ ((1 ≤ o ∧ o ≤ 3) → (0 ≤ d ∧ d < 8))))) ((bI_d ⟨h14, fun h => absurd h hNA, fun _ => hRb, fun _ => hRd⟩).symm) ?_
              exact J67 _ _ _ hP hS (lv_sub hl [0, 1, 2, 3, 4, 5] rfl)
    · have hNA : o ≤ 8 ∨ o = 12 := of_decide_eq_true (bI1 c12)
      refine lv_iload_n hx hb dX5_instruction_20 rfl (lv_at hl 3 rfl) ?_
      refine lv_bipush (v := 8) hx hb dX5_instruction_21 (by decide) ?_
      refine g_csi (As := [.int a, .int 8]) ⟨hx, hb, hml, hown, hts⟩ (kX5_isIn l D cs n ad th nx σ (a) (8)) (va_cwS 2 hts gX5_instruction_X5_isIn rfl rfl rfl (by decide +kernel) ⟨Nat.le_of_ble_eq_true rfl, Nat.le_of_ble_eq_true rfl⟩) hK hP hD hS hA hl.1 dX5_instruction_23 rfl rfl (Nat.le_of_ble_eq_true rfl) ⟨Nat.zero_le _, Nat.zero_le _⟩ (fun r _ H locs hw hP hS => ?_)
      obtain rfl : r = bI (decide (0 ≤ a ∧ a < 8)) := hw
      have hP : va_P D vwCl (FW 22 ad (CR cs n ad th nx σ)) H := hP
      refine lv_if_eq (tgt := 66) hx hb dX5_instruction_26 (by decide) (fun c19 => ?_) (fun c19 => ?_)
      · have hRa : ¬ (0 ≤ a ∧ a < 8) := of_decide_eq_false (bI0 c19)
        refine lv_iconst (v := 0) hx hb dX5_instruction_66 (by decide) ?_
        refine g_top (y := bI (decide ((0 ≤ o ∧ o < 14) ∧ ((o ≤ 8 ∨ o = 12) → (0 ≤ a ∧ a < 8)) ∧ ((1 ≤ o ∧ o ≤ 8) → (0 ≤ b ∧ b < 8)) ∧ ((1 ≤ o ∧ o ≤ 3) → (0 ≤ d ∧ d < 8))))) ((bI_n (fun h => hRa (h.2.1 hNA))).symm) ?_
        exact J67 _ _ _ hP hS (lv_sub hl [0, 1, 2, 3, 4, 5] rfl)
      · have hRa : 0 ≤ a ∧ a < 8 := of_decide_eq_true (bI1 c19)
        refine lv_iload_n hx hb dX5_instruction_29 rfl (lv_at hl 2 rfl) ?_
        refine g_csi (As := [.int o]) ⟨hx, hb, hml, hown, hts⟩ (kX5_namesB l D cs n ad th nx σ o) (va_cwS 1 hts gX5_instruction_X5_namesB rfl rfl rfl (by decide +kernel) ⟨Nat.le_of_ble_eq_true rfl, Nat.le_of_ble_eq_true rfl⟩) hK hP hD hS hA hl.1 dX5_instruction_30 rfl rfl (Nat.le_of_ble_eq_true rfl) ⟨Nat.zero_le _, Nat.zero_le _⟩ (fun r _ H locs hw hP hS => ?_)
        obtain rfl : r = bI (decide (1 ≤ o ∧ o ≤ 8)) := hw
        have hP : va_P D vwCl (FW 22 ad (CR cs n ad th nx σ)) H := hP
        refine lv_if_eq (tgt := 45) hx hb dX5_instruction_33 (by decide) (fun c20 => ?_) (fun c20 => ?_)
        · have hB : ¬ (1 ≤ o ∧ o ≤ 8) := of_decide_eq_false (bI0 c20)
          refine lv_iload_n hx hb dX5_instruction_45 rfl (lv_at hl 2 rfl) ?_
          refine g_csi (As := [.int o]) ⟨hx, hb, hml, hown, hts⟩ (kX5_namesC l D cs n ad th nx σ o) (va_cwS 1 hts gX5_instruction_X5_namesC rfl rfl rfl (by decide +kernel) ⟨Nat.le_of_ble_eq_true rfl, Nat.le_of_ble_eq_true rfl⟩) hK hP hD hS hA hl.1 dX5_instruction_46 rfl rfl (Nat.le_of_ble_eq_true rfl) ⟨Nat.zero_le _, Nat.zero_le _⟩ (fun r _ H locs hw hP hS => ?_)
          obtain rfl : r = bI (decide (1 ≤ o ∧ o ≤ 3)) := hw
          have hP : va_P D vwCl (FW 22 ad (CR cs n ad th nx σ)) H := hP
          refine lv_if_eq (tgt := 62) hx hb dX5_instruction_49 (by decide) (fun c21 => ?_) (fun c21 => ?_)
          · have hC : ¬ (1 ≤ o ∧ o ≤ 3) := of_decide_eq_false (bI0 c21)
            refine lv_iconst (v := 1) hx hb dX5_instruction_62 (by decide) ?_
            refine lv_goto (tgt := 67) hx hb dX5_instruction_63 (by decide) ?_
            refine g_top (y := bI (decide ((0 ≤ o ∧ o < 14) ∧ ((o ≤ 8 ∨ o = 12) → (0 ≤ a ∧ a < 8)) ∧ ((1 ≤ o ∧ o ≤ 8) → (0 ≤ b ∧ b < 8)) ∧ ((1 ≤ o ∧ o ≤ 3) → (0 ≤ d ∧ d < 8))))) ((bI_d ⟨h14, fun _ => hRa, fun h => absurd h hB, fun h => absurd h hC⟩).symm) ?_
            exact J67 _ _ _ hP hS (lv_sub hl [0, 1, 2, 3, 4, 5] rfl)
          · have hC : 1 ≤ o ∧ o ≤ 3 := of_decide_eq_true (bI1 c21)
            refine lv_iload hx hb dX5_instruction_52 (lv_at hl 5 rfl) ?_
            refine lv_bipush (v := 8) hx hb dX5_instruction_54 (by decide) ?_
            refine g_csi (As := [.int d, .int 8]) ⟨hx, hb, hml, hown, hts⟩ (kX5_isIn l D cs n ad th nx σ (d) (8)) (va_cwS 2 hts gX5_instruction_X5_isIn rfl rfl rfl (by decide +kernel) ⟨Nat.le_of_ble_eq_true rfl, Nat.le_of_ble_eq_true rfl⟩) hK hP hD hS hA hl.1 dX5_instruction_56 rfl rfl (Nat.le_of_ble_eq_true rfl) ⟨Nat.zero_le _, Nat.zero_le _⟩ (fun r _ H locs hw hP hS => ?_)
            obtain rfl : r = bI (decide (0 ≤ d ∧ d < 8)) := hw
            have hP : va_P D vwCl (FW 22 ad (CR cs n ad th nx σ)) H := hP
            refine lv_if_eq (tgt := 66) hx hb dX5_instruction_59 (by decide) (fun c22 => ?_) (fun c22 => ?_)
            · have hRd : ¬ (0 ≤ d ∧ d < 8) := of_decide_eq_false (bI0 c22)
              refine lv_iconst (v := 0) hx hb dX5_instruction_66 (by decide) ?_
              refine g_top (y := bI (decide ((0 ≤ o ∧ o < 14) ∧ ((o ≤ 8 ∨ o = 12) → (0 ≤ a ∧ a < 8)) ∧ ((1 ≤ o ∧ o ≤ 8) → (0 ≤ b ∧ b < 8)) ∧ ((1 ≤ o ∧ o ≤ 3) → (0 ≤ d ∧ d < 8))))) ((bI_n (fun h => hRd (h.2.2.2 hC))).symm) ?_
              exact J67 _ _ _ hP hS (lv_sub hl [0, 1, 2, 3, 4, 5] rfl)
            · have hRd : 0 ≤ d ∧ d < 8 := of_decide_eq_true (bI1 c22)
              refine lv_iconst (v := 1) hx hb dX5_instruction_62 (by decide) ?_
              refine lv_goto (tgt := 67) hx hb dX5_instruction_63 (by decide) ?_
              refine g_top (y := bI (decide ((0 ≤ o ∧ o < 14) ∧ ((o ≤ 8 ∨ o = 12) → (0 ≤ a ∧ a < 8)) ∧ ((1 ≤ o ∧ o ≤ 8) → (0 ≤ b ∧ b < 8)) ∧ ((1 ≤ o ∧ o ≤ 3) → (0 ≤ d ∧ d < 8))))) ((bI_d ⟨h14, fun _ => hRa, fun h => absurd h hB, fun _ => hRd⟩).symm) ?_
              exact J67 _ _ _ hP hS (lv_sub hl [0, 1, 2, 3, 4, 5] rfl)
        · have hB : 1 ≤ o ∧ o ≤ 8 := of_decide_eq_true (bI1 c20)
          refine lv_iload_n hx hb dX5_instruction_36 rfl (lv_at hl 4 rfl) ?_
          refine lv_bipush (v := 8) hx hb dX5_instruction_37 (by decide) ?_
          refine g_csi (As := [.int b, .int 8]) ⟨hx, hb, hml, hown, hts⟩ (kX5_isIn l D cs n ad th nx σ (b) (8)) (va_cwS 2 hts gX5_instruction_X5_isIn rfl rfl rfl (by decide +kernel) ⟨Nat.le_of_ble_eq_true rfl, Nat.le_of_ble_eq_true rfl⟩) hK hP hD hS hA hl.1 dX5_instruction_39 rfl rfl (Nat.le_of_ble_eq_true rfl) ⟨Nat.zero_le _, Nat.zero_le _⟩ (fun r _ H locs hw hP hS => ?_)
          obtain rfl : r = bI (decide (0 ≤ b ∧ b < 8)) := hw
          have hP : va_P D vwCl (FW 22 ad (CR cs n ad th nx σ)) H := hP
          refine lv_if_eq (tgt := 66) hx hb dX5_instruction_42 (by decide) (fun c23 => ?_) (fun c23 => ?_)
          · have hRb : ¬ (0 ≤ b ∧ b < 8) := of_decide_eq_false (bI0 c23)
            refine lv_iconst (v := 0) hx hb dX5_instruction_66 (by decide) ?_
            refine g_top (y := bI (decide ((0 ≤ o ∧ o < 14) ∧ ((o ≤ 8 ∨ o = 12) → (0 ≤ a ∧ a < 8)) ∧ ((1 ≤ o ∧ o ≤ 8) → (0 ≤ b ∧ b < 8)) ∧ ((1 ≤ o ∧ o ≤ 3) → (0 ≤ d ∧ d < 8))))) ((bI_n (fun h => hRb (h.2.2.1 hB))).symm) ?_
            exact J67 _ _ _ hP hS (lv_sub hl [0, 1, 2, 3, 4, 5] rfl)
          · have hRb : 0 ≤ b ∧ b < 8 := of_decide_eq_true (bI1 c23)
            refine lv_iload_n hx hb dX5_instruction_45 rfl (lv_at hl 2 rfl) ?_
            refine g_csi (As := [.int o]) ⟨hx, hb, hml, hown, hts⟩ (kX5_namesC l D cs n ad th nx σ o) (va_cwS 1 hts gX5_instruction_X5_namesC rfl rfl rfl (by decide +kernel) ⟨Nat.le_of_ble_eq_true rfl, Nat.le_of_ble_eq_true rfl⟩) hK hP hD hS hA hl.1 dX5_instruction_46 rfl rfl (Nat.le_of_ble_eq_true rfl) ⟨Nat.zero_le _, Nat.zero_le _⟩ (fun r _ H locs hw hP hS => ?_)
            obtain rfl : r = bI (decide (1 ≤ o ∧ o ≤ 3)) := hw
            have hP : va_P D vwCl (FW 22 ad (CR cs n ad th nx σ)) H := hP
            refine lv_if_eq (tgt := 62) hx hb dX5_instruction_49 (by decide) (fun c24 => ?_) (fun c24 => ?_)
            · have hC : ¬ (1 ≤ o ∧ o ≤ 3) := of_decide_eq_false (bI0 c24)
              refine lv_iconst (v := 1) hx hb dX5_instruction_62 (by decide) ?_
              refine lv_goto (tgt := 67) hx hb dX5_instruction_63 (by decide) ?_
              refine g_top (y := bI (decide ((0 ≤ o ∧ o < 14) ∧ ((o ≤ 8 ∨ o = 12) → (0 ≤ a ∧ a < 8)) ∧ ((1 ≤ o ∧ o ≤ 8) → (0 ≤ b ∧ b < 8)) ∧ ((1 ≤ o ∧ o ≤ 3) → (0 ≤ d ∧ d < 8))))) ((bI_d ⟨h14, fun _ => hRa, fun _ => hRb, fun h => absurd h hC⟩).symm) ?_
              exact J67 _ _ _ hP hS (lv_sub hl [0, 1, 2, 3, 4, 5] rfl)
            · have hC : 1 ≤ o ∧ o ≤ 3 := of_decide_eq_true (bI1 c24)
              refine lv_iload hx hb dX5_instruction_52 (lv_at hl 5 rfl) ?_
              refine lv_bipush (v := 8) hx hb dX5_instruction_54 (by decide) ?_
              refine g_csi (As := [.int d, .int 8]) ⟨hx, hb, hml, hown, hts⟩ (kX5_isIn l D cs n ad th nx σ (d) (8)) (va_cwS 2 hts gX5_instruction_X5_isIn rfl rfl rfl (by decide +kernel) ⟨Nat.le_of_ble_eq_true rfl, Nat.le_of_ble_eq_true rfl⟩) hK hP hD hS hA hl.1 dX5_instruction_56 rfl rfl (Nat.le_of_ble_eq_true rfl) ⟨Nat.zero_le _, Nat.zero_le _⟩ (fun r _ H locs hw hP hS => ?_)
              obtain rfl : r = bI (decide (0 ≤ d ∧ d < 8)) := hw
              have hP : va_P D vwCl (FW 22 ad (CR cs n ad th nx σ)) H := hP
              refine lv_if_eq (tgt := 66) hx hb dX5_instruction_59 (by decide) (fun c25 => ?_) (fun c25 => ?_)
              · have hRd : ¬ (0 ≤ d ∧ d < 8) := of_decide_eq_false (bI0 c25)
                refine lv_iconst (v := 0) hx hb dX5_instruction_66 (by decide) ?_
                refine g_top (y := bI (decide ((0 ≤ o ∧ o < 14) ∧ ((o ≤ 8 ∨ o = 12) → (0 ≤ a ∧ a < 8)) ∧ ((1 ≤ o ∧ o ≤ 8) → (0 ≤ b ∧ b < 8)) ∧ ((1 ≤ o ∧ o ≤ 3) → (0 ≤ d ∧ d < 8))))) ((bI_n (fun h => hRd (h.2.2.2 hC))).symm) ?_
                exact J67 _ _ _ hP hS (lv_sub hl [0, 1, 2, 3, 4, 5] rfl)
              · have hRd : 0 ≤ d ∧ d < 8 := of_decide_eq_true (bI1 c25)
                refine lv_iconst (v := 1) hx hb dX5_instruction_62 (by decide) ?_
                refine lv_goto (tgt := 67) hx hb dX5_instruction_63 (by decide) ?_
                refine g_top (y := bI (decide ((0 ≤ o ∧ o < 14) ∧ ((o ≤ 8 ∨ o = 12) → (0 ≤ a ∧ a < 8)) ∧ ((1 ≤ o ∧ o ≤ 8) → (0 ≤ b ∧ b < 8)) ∧ ((1 ≤ o ∧ o ≤ 3) → (0 ≤ d ∧ d < 8))))) ((bI_d ⟨h14, fun _ => hRa, fun _ => hRb, fun _ => hRd⟩).symm) ?_
                exact J67 _ _ _ hP hS (lv_sub hl [0, 1, 2, 3, 4, 5] rfl)

theorem iwX5_start_X5 : ∀ w ∈ wsX50, w ∈ wsX5_start := fun w h => by unfold wsX5_start; simp only [List.mem_cons, List.mem_append, h, true_or, or_true]
theorem lkX5_start_25 : Cond.fieldLink RX5 25 "CoreTransactionsModel" "places" "[I" ∈ wsX5_start := by decide +kernel
theorem lkX5_start_28 : Cond.fieldLink RX5 28 "CoreTransactionsModel" "ended" "[Z" ∈ wsX5_start := by decide +kernel
theorem lkX5_start_79 : Cond.fieldLink RX5 79 "CoreTransactionsModel" "cores" "I" ∈ wsX5_start := by decide +kernel
theorem lkX5_start_89 : Cond.fieldLink RX5 89 "CoreTransactionsModel" "thrown" "I" ∈ wsX5_start := by decide +kernel
abbrev rmX5_start : Room := ({ frames := 1, cells := 0, slots := 0, locals := 21 } : Room)
set_option maxRecDepth 100000 in
set_option maxHeartbeats 4000000 in
theorem kX5_start (l : Launch) (D : va_G) (cs : Nat → ClassId) (n : Nat) (ad : Nat → Nat) (th nx : Int32) (σ : St) (hn4 : n ≤ 4) (x y : Int32) (G : Nat) (hI : Inv σ G) : gMi l yX5_start wsX5_start rmX5_start D (tyL cs) 22 ad (CR cs n ad th nx σ) [.ref (ad 0), .int x, .int y] (fun (r : Int32) (u : Int32) => t2 (0 ≤ x ∧ x < nI n) (0 ≤ y ∧ y ≤ 80) = 0 → r = σ.1 13 (iN x) 0) (fun (u : Int32) => CR cs n ad (t2 (0 ≤ x ∧ x < nI n) (0 ≤ y ∧ y ≤ 80)) u (if t2 (0 ≤ x ∧ x < nI n) (0 ≤ y ∧ y ≤ 80) = 0 then pStart σ (iN x) y else σ)) := by
  refine g_ofi (cc := cX5_start) (maxL := 4) (by decide) rfl (Nat.le_of_ble_eq_true rfl) rfl rfl ?_
  intro p e s m args below meth c A ls Q hx hb hml hts hown hK hP hD hA hS hl hret
  have hl : lv_has ls 4 [(0, .ref (ad 0)), (1, .int x), (2, .int y)] := hl
  refine lv_aload_n hx hb dX5_start_0 rfl (lv_at hl 0 rfl) ?_
  refine lv_iload_n hx hb dX5_start_1 rfl (lv_at hl 1 rfl) ?_
  refine lv_aload_n hx hb dX5_start_2 rfl (lv_at hl 0 rfl) ?_
  refine va_get (D := D) (ci := 5) (v := .int (nI n)) (C := RX5) (T := TX5) (N := 29) hx hb hts iwX5_start_X5 hown hK hP 0 cr_obj rfl 1 (by decide) (hts _ lkX5_start_79) (fun _ h9 => h9) rfl dX5_start_3 ?_
  refine g_csi (As := [.int x, .int (nI n)]) ⟨hx, hb, hml, hown, hts⟩ (kX5_isIn l D cs n ad th nx σ (x) (nI n)) (va_cwS 2 hts gX5_start_X5_isIn rfl rfl rfl (by decide +kernel) ⟨Nat.le_of_ble_eq_true rfl, Nat.le_of_ble_eq_true rfl⟩) hK hP hD hS hA hl.1 dX5_start_6 rfl rfl (Nat.le_of_ble_eq_true rfl) ⟨Nat.zero_le _, Nat.zero_le _⟩ (fun r _ H locs hw hP hS => ?_)
  obtain rfl : r = bI (decide (0 ≤ x ∧ x < nI n)) := hw
  have hP : va_P D vwCl (FW 22 ad (CR cs n ad th nx σ)) H := hP
  refine lv_if_ne (tgt := 16) hx hb dX5_start_9 (by decide) (fun c1 => ?_) (fun c1 => ?_)
  · have hC : (0 ≤ x ∧ x < nI n) := of_decide_eq_true (bI1 c1)
    refine lv_iload_n hx hb dX5_start_16 rfl (lv_at hl 2 rfl) ?_
    refine lv_if_lt (tgt := 26) hx hb dX5_start_17 (by decide) (fun c2 => ?_) (fun c2 => ?_)
    · have hT : t2 (0 ≤ x ∧ x < nI n) (0 ≤ y ∧ y ≤ 80) = 2 := t2_2 hC (fun h => absurd h.1 (Int32.not_le.mpr c2))
      refine lv_iconst (v := 2) hx hb dX5_start_26 (by decide) ?_
      refine lv_goto (tgt := 31) hx hb dX5_start_27 (by decide) ?_
      refine va_put (D := D) (ci := 5) (v := .int 2) (ty := .int) (C := RX5) (T := TX5) (N := 29) hx hb hts iwX5_start_X5 tyX5 tyX5_ok nmX5 hown hK hP (hD _) hS 0 cr_obj rfl 0 (by decide) (hts _ lkX5_start_89) (fun _ h9 => h9) rfl (by decide +kernel) rfl rfl (Nat.le_of_ble_eq_true rfl) dX5_start_31 (fun H locs hP _ hS => ?_)
      have hP := cru_th hP
      have hP : va_P D vwCl (FW 22 ad (CR cs n ad 2 nx σ)) H := hP
      refine lv_aload_n hx hb dX5_start_34 rfl (lv_at hl 0 rfl) ?_
      refine va_get (D := D) (ci := 5) (v := .int 2) (C := RX5) (T := TX5) (N := 29) hx hb hts iwX5_start_X5 hown hK hP 0 cr_obj rfl 0 (by decide) (hts _ lkX5_start_89) (fun _ h9 => h9) rfl dX5_start_35 ?_
      refine lv_if_le (tgt := 43) hx hb dX5_start_38 (by decide) (fun c3 => absurd c3 (by decide)) (fun c3 => ?_)
      refine lv_iconst (v := 0) hx hb dX5_start_41 (by decide) ?_
      exact hret _ _ _ _ nx _ _ dX5_start_42 hP hS (fun h => absurd (hT.symm.trans h) T2ne) (by rw [hT, if_neg T2ne])
    · refine lv_iload_n hx hb dX5_start_20 rfl (lv_at hl 2 rfl) ?_
      refine lv_bipush (v := 80) hx hb dX5_start_21 (by decide) ?_
      refine lv_icmp_le (tgt := 30) hx hb dX5_start_23 (by decide) (fun c4 => ?_) (fun c4 => ?_)
      · have hT : t2 (0 ≤ x ∧ x < nI n) (0 ≤ y ∧ y ≤ 80) = 0 := t2_0 hC ⟨Int32.not_lt.mp c2, c4⟩
        refine lv_iconst (v := 0) hx hb dX5_start_30 (by decide) ?_
        refine va_put (D := D) (ci := 5) (v := .int 0) (ty := .int) (C := RX5) (T := TX5) (N := 29) hx hb hts iwX5_start_X5 tyX5 tyX5_ok nmX5 hown hK hP (hD _) hS 0 cr_obj rfl 0 (by decide) (hts _ lkX5_start_89) (fun _ h9 => h9) rfl (by decide +kernel) rfl rfl (Nat.le_of_ble_eq_true rfl) dX5_start_31 (fun H locs hP _ hS => ?_)
        have hP := cru_th hP
        have hP : va_P D vwCl (FW 22 ad (CR cs n ad 0 nx σ)) H := hP
        refine lv_aload_n hx hb dX5_start_34 rfl (lv_at hl 0 rfl) ?_
        refine va_get (D := D) (ci := 5) (v := .int 0) (C := RX5) (T := TX5) (N := 29) hx hb hts iwX5_start_X5 hown hK hP 0 cr_obj rfl 0 (by decide) (hts _ lkX5_start_89) (fun _ h9 => h9) rfl dX5_start_35 ?_
        refine lv_if_le (tgt := 43) hx hb dX5_start_38 (by decide) (fun c5 => ?_) (fun c5 => absurd (by decide) c5)
        obtain ⟨k, hkn, hxk⟩ := i32_of (N := n) (by omega) hC.1 hC.2
        have hk4 : k < 4 := by omega
        have hik : iN x = k := by rw [hxk]; exact iN_nI (by omega)
        refine lv_aload_n hx hb dX5_start_43 rfl (lv_at hl 0 rfl) ?_
        refine va_get (D := D) (ci := 5) (v := .ref (ad 6)) (C := RX5) (T := TX5) (N := 29) hx hb hts iwX5_start_X5 hown hK hP 0 cr_obj rfl 10 (by decide) (hts _ lkX5_start_25) (fun _ h9 => h9) rfl dX5_start_44 ?_
        refine lv_iload_n hx hb dX5_start_47 rfl (lv_at hl 1 rfl) ?_
        refine g_iald (t0 := 0) (v := σ.1 13 k 0) hx hb hK hP cr_places rfl k hxk hk4 (by decide) rfl dX5_start_48 ?_
        refine lv_istore_n (lv' := [(3, .int (σ.1 13 k 0)), (0, .ref (ad 0)), (1, .int x), (2, .int y)]) hx hb dX5_start_49 rfl hl (by decide) rfl (fun ls hl => ?_)
        refine lv_aload_n hx hb dX5_start_50 rfl (lv_at hl 1 rfl) ?_
        refine va_get (D := D) (ci := 5) (v := .ref (ad 6)) (C := RX5) (T := TX5) (N := 29) hx hb hts iwX5_start_X5 hown hK hP 0 cr_obj rfl 10 (by decide) (hts _ lkX5_start_25) (fun _ h9 => h9) rfl dX5_start_51 ?_
        refine lv_iload_n hx hb dX5_start_54 rfl (lv_at hl 2 rfl) ?_
        refine lv_iload_n hx hb dX5_start_55 rfl (lv_at hl 3 rfl) ?_
        refine g_iast (t0 := 0) hx hb hK hP hD hS cr_places rfl k hxk hk4 (by decide) dX5_start_56 (fun H locs hP hS => ?_)
        obtain ⟨σ6, eσ6⟩ : ∃ z, z = put σ 13 k 0 y := ⟨_, rfl⟩
        have hP : va_P D vwCl (FW 22 ad (CR cs n ad 0 nx σ6)) H := by rw [eσ6]; exact cru_places hP
        refine lv_aload_n hx hb dX5_start_57 rfl (lv_at hl 1 rfl) ?_
        refine va_get (D := D) (ci := 5) (v := .ref (ad 7)) (C := RX5) (T := TX5) (N := 29) hx hb hts iwX5_start_X5 hown hK hP 0 cr_obj rfl 11 (by decide) (hts _ lkX5_start_28) (fun _ h9 => h9) rfl dX5_start_58 ?_
        refine lv_iload_n hx hb dX5_start_61 rfl (lv_at hl 2 rfl) ?_
        refine lv_iconst (v := 0) hx hb dX5_start_62 (by decide) ?_
        refine g_zast (t0 := 3) hx hb hK hP hD hS cr_ended rfl k hxk hk4 (by decide) (by decide) dX5_start_63 (fun H locs hP hS => ?_)
        obtain ⟨σ7, eσ7⟩ : ∃ z, z = put σ6 14 k 0 0 := ⟨_, rfl⟩
        have hP : va_P D vwCl (FW 22 ad (CR cs n ad 0 nx σ7)) H := by rw [eσ7]; exact cru_ended hP
        refine lv_aload_n hx hb dX5_start_64 rfl (lv_at hl 1 rfl) ?_
        refine lv_iload_n hx hb dX5_start_65 rfl (lv_at hl 2 rfl) ?_
        refine g_top (y := nI k) (hxk) ?_
        refine g_cvv (As := [.int (nI k)]) ⟨hx, hb, hml, hown, hts⟩ (kX5_leave l D cs n ad 0 nx σ7 k hk4) (cwV 1 hts gX5_start_X5_leave rfl rfl rfl (by decide +kernel) ⟨Nat.le_of_ble_eq_true rfl, Nat.le_of_ble_eq_true rfl⟩) hK hP hD hS hA 0 (ci := 5) rfl rfl cr_obj hl.1 dX5_start_66 rfl rfl (Nat.le_of_ble_eq_true rfl) ⟨Nat.zero_le _, Nat.zero_le _⟩ (fun _ H locs hw hP hS => ?_)
        obtain ⟨σ8, eσ8⟩ : ∃ z, z = pClose σ7 k := ⟨_, rfl⟩
        have hP : va_P D vwCl (FW 22 ad (CR cs n ad 0 nx σ8)) H := by rw [eσ8]; exact hP
        refine lv_iload_n hx hb dX5_start_69 rfl (lv_at hl 0 rfl) ?_
        exact hret _ _ _ _ nx _ _ dX5_start_70 hP hS (fun _ => by rw [hik]) (by rw [hT, if_pos rfl]; first | done | (rw [hik]; simp only [eσ8, eσ7, eσ6]; rfl))
      · have hT : t2 (0 ≤ x ∧ x < nI n) (0 ≤ y ∧ y ≤ 80) = 2 := t2_2 hC (fun h => c4 h.2)
        refine lv_iconst (v := 2) hx hb dX5_start_26 (by decide) ?_
        refine lv_goto (tgt := 31) hx hb dX5_start_27 (by decide) ?_
        refine va_put (D := D) (ci := 5) (v := .int 2) (ty := .int) (C := RX5) (T := TX5) (N := 29) hx hb hts iwX5_start_X5 tyX5 tyX5_ok nmX5 hown hK hP (hD _) hS 0 cr_obj rfl 0 (by decide) (hts _ lkX5_start_89) (fun _ h9 => h9) rfl (by decide +kernel) rfl rfl (Nat.le_of_ble_eq_true rfl) dX5_start_31 (fun H locs hP _ hS => ?_)
        have hP := cru_th hP
        have hP : va_P D vwCl (FW 22 ad (CR cs n ad 2 nx σ)) H := hP
        refine lv_aload_n hx hb dX5_start_34 rfl (lv_at hl 0 rfl) ?_
        refine va_get (D := D) (ci := 5) (v := .int 2) (C := RX5) (T := TX5) (N := 29) hx hb hts iwX5_start_X5 hown hK hP 0 cr_obj rfl 0 (by decide) (hts _ lkX5_start_89) (fun _ h9 => h9) rfl dX5_start_35 ?_
        refine lv_if_le (tgt := 43) hx hb dX5_start_38 (by decide) (fun c9 => absurd c9 (by decide)) (fun c9 => ?_)
        refine lv_iconst (v := 0) hx hb dX5_start_41 (by decide) ?_
        exact hret _ _ _ _ nx _ _ dX5_start_42 hP hS (fun h => absurd (hT.symm.trans h) T2ne) (by rw [hT, if_neg T2ne])
  · have hC : ¬ (0 ≤ x ∧ x < nI n) := of_decide_eq_false (bI0 c1)
    have hT : t2 (0 ≤ x ∧ x < nI n) (0 ≤ y ∧ y ≤ 80) = 1 := t2_1 hC
    refine lv_iconst (v := 1) hx hb dX5_start_12 (by decide) ?_
    refine lv_goto (tgt := 31) hx hb dX5_start_13 (by decide) ?_
    refine va_put (D := D) (ci := 5) (v := .int 1) (ty := .int) (C := RX5) (T := TX5) (N := 29) hx hb hts iwX5_start_X5 tyX5 tyX5_ok nmX5 hown hK hP (hD _) hS 0 cr_obj rfl 0 (by decide) (hts _ lkX5_start_89) (fun _ h9 => h9) rfl (by decide +kernel) rfl rfl (Nat.le_of_ble_eq_true rfl) dX5_start_31 (fun H locs hP _ hS => ?_)
    have hP := cru_th hP
    have hP : va_P D vwCl (FW 22 ad (CR cs n ad 1 nx σ)) H := hP
    refine lv_aload_n hx hb dX5_start_34 rfl (lv_at hl 0 rfl) ?_
    refine va_get (D := D) (ci := 5) (v := .int 1) (C := RX5) (T := TX5) (N := 29) hx hb hts iwX5_start_X5 hown hK hP 0 cr_obj rfl 0 (by decide) (hts _ lkX5_start_89) (fun _ h9 => h9) rfl dX5_start_35 ?_
    refine lv_if_le (tgt := 43) hx hb dX5_start_38 (by decide) (fun c10 => absurd c10 (by decide)) (fun c10 => ?_)
    refine lv_iconst (v := 0) hx hb dX5_start_41 (by decide) ?_
    exact hret _ _ _ _ nx _ _ dX5_start_42 hP hS (fun h => absurd (hT.symm.trans h) T1ne) (by rw [hT, if_neg T1ne])

theorem iwX5_set_X5 : ∀ w ∈ wsX50, w ∈ wsX5_set := fun w h => by unfold wsX5_set; simp only [List.mem_cons, List.mem_append, h, true_or, or_true]
theorem lkX5_set_79 : Cond.fieldLink RX5 79 "CoreTransactionsModel" "cores" "I" ∈ wsX5_set := by decide +kernel
theorem lkX5_set_89 : Cond.fieldLink RX5 89 "CoreTransactionsModel" "thrown" "I" ∈ wsX5_set := by decide +kernel
abbrev rmX5_set : Room := ({ frames := 1, cells := 0, slots := 0, locals := 23 } : Room)
set_option maxRecDepth 100000 in
set_option maxHeartbeats 4000000 in
theorem kX5_set (l : Launch) (D : va_G) (cs : Nat → ClassId) (n : Nat) (ad : Nat → Nat) (th nx : Int32) (σ : St) (hn4 : n ≤ 4) (x y v : Int32) (G : Nat) (hI : Inv σ G) : gMi l yX5_set wsX5_set rmX5_set D (tyL cs) 22 ad (CR cs n ad th nx σ) [.ref (ad 0), .int x, .int y, .int v] (fun (r : Int32) (u : Int32) => t1 ((0 ≤ x ∧ x < nI n) ∧ (0 ≤ y ∧ y < 8)) = 0 → r = σ.1 10 (iN x) (iN y)) (fun (u : Int32) => CR cs n ad (t1 ((0 ≤ x ∧ x < nI n) ∧ (0 ≤ y ∧ y < 8))) u (if t1 ((0 ≤ x ∧ x < nI n) ∧ (0 ≤ y ∧ y < 8)) = 0 then pGive σ (iN x) (iN y) v else σ)) := by
  refine g_ofi (cc := cX5_set) (maxL := 5) (by decide) rfl (Nat.le_of_ble_eq_true rfl) rfl rfl ?_
  intro p e s m args below meth c A ls Q hx hb hml hts hown hK hP hD hA hS hl hret
  have hl : lv_has ls 5 [(0, .ref (ad 0)), (1, .int x), (2, .int y), (3, .int v)] := hl
  refine lv_aload_n hx hb dX5_set_0 rfl (lv_at hl 0 rfl) ?_
  refine lv_iload_n hx hb dX5_set_1 rfl (lv_at hl 1 rfl) ?_
  refine lv_aload_n hx hb dX5_set_2 rfl (lv_at hl 0 rfl) ?_
  refine va_get (D := D) (ci := 5) (v := .int (nI n)) (C := RX5) (T := TX5) (N := 29) hx hb hts iwX5_set_X5 hown hK hP 0 cr_obj rfl 1 (by decide) (hts _ lkX5_set_79) (fun _ h9 => h9) rfl dX5_set_3 ?_
  refine g_csi (As := [.int x, .int (nI n)]) ⟨hx, hb, hml, hown, hts⟩ (kX5_isIn l D cs n ad th nx σ (x) (nI n)) (va_cwS 2 hts gX5_set_X5_isIn rfl rfl rfl (by decide +kernel) ⟨Nat.le_of_ble_eq_true rfl, Nat.le_of_ble_eq_true rfl⟩) hK hP hD hS hA hl.1 dX5_set_6 rfl rfl (Nat.le_of_ble_eq_true rfl) ⟨Nat.zero_le _, Nat.zero_le _⟩ (fun r _ H locs hw hP hS => ?_)
  obtain rfl : r = bI (decide (0 ≤ x ∧ x < nI n)) := hw
  have hP : va_P D vwCl (FW 22 ad (CR cs n ad th nx σ)) H := hP
  refine lv_if_eq (tgt := 25) hx hb dX5_set_9 (by decide) (fun c1 => ?_) (fun c1 => ?_)
  · have hC : ¬ (0 ≤ x ∧ x < nI n) := of_decide_eq_false (bI0 c1)
    have hT : t1 ((0 ≤ x ∧ x < nI n) ∧ (0 ≤ y ∧ y < 8)) = 1 := t1_1 (fun h => hC h.1)
    refine lv_iconst (v := 1) hx hb dX5_set_25 (by decide) ?_
    refine va_put (D := D) (ci := 5) (v := .int 1) (ty := .int) (C := RX5) (T := TX5) (N := 29) hx hb hts iwX5_set_X5 tyX5 tyX5_ok nmX5 hown hK hP (hD _) hS 0 cr_obj rfl 0 (by decide) (hts _ lkX5_set_89) (fun _ h9 => h9) rfl (by decide +kernel) rfl rfl (Nat.le_of_ble_eq_true rfl) dX5_set_26 (fun H locs hP _ hS => ?_)
    have hP := cru_th hP
    have hP : va_P D vwCl (FW 22 ad (CR cs n ad 1 nx σ)) H := hP
    refine lv_aload_n hx hb dX5_set_29 rfl (lv_at hl 0 rfl) ?_
    refine va_get (D := D) (ci := 5) (v := .int 1) (C := RX5) (T := TX5) (N := 29) hx hb hts iwX5_set_X5 hown hK hP 0 cr_obj rfl 0 (by decide) (hts _ lkX5_set_89) (fun _ h9 => h9) rfl dX5_set_30 ?_
    refine lv_if_le (tgt := 38) hx hb dX5_set_33 (by decide) (fun c2 => absurd c2 (by decide)) (fun c2 => ?_)
    refine lv_iconst (v := 0) hx hb dX5_set_36 (by decide) ?_
    exact hret _ _ _ _ nx _ _ dX5_set_37 hP hS (fun h => absurd (hT.symm.trans h) T1ne) (by rw [hT, if_neg T1ne])
  · have hC : (0 ≤ x ∧ x < nI n) := of_decide_eq_true (bI1 c1)
    refine lv_iload_n hx hb dX5_set_12 rfl (lv_at hl 2 rfl) ?_
    refine lv_bipush (v := 8) hx hb dX5_set_13 (by decide) ?_
    refine g_csi (As := [.int y, .int 8]) ⟨hx, hb, hml, hown, hts⟩ (kX5_isIn l D cs n ad th nx σ (y) (8)) (va_cwS 2 hts gX5_set_X5_isIn rfl rfl rfl (by decide +kernel) ⟨Nat.le_of_ble_eq_true rfl, Nat.le_of_ble_eq_true rfl⟩) hK hP hD hS hA hl.1 dX5_set_15 rfl rfl (Nat.le_of_ble_eq_true rfl) ⟨Nat.zero_le _, Nat.zero_le _⟩ (fun r _ H locs hw hP hS => ?_)
    obtain rfl : r = bI (decide (0 ≤ y ∧ y < 8)) := hw
    have hP : va_P D vwCl (FW 22 ad (CR cs n ad th nx σ)) H := hP
    refine lv_if_eq (tgt := 25) hx hb dX5_set_18 (by decide) (fun c3 => ?_) (fun c3 => ?_)
    · have hRy : ¬ (0 ≤ y ∧ y < 8) := of_decide_eq_false (bI0 c3)
      have hT : t1 ((0 ≤ x ∧ x < nI n) ∧ (0 ≤ y ∧ y < 8)) = 1 := t1_1 (fun h => hRy h.2)
      refine lv_iconst (v := 1) hx hb dX5_set_25 (by decide) ?_
      refine va_put (D := D) (ci := 5) (v := .int 1) (ty := .int) (C := RX5) (T := TX5) (N := 29) hx hb hts iwX5_set_X5 tyX5 tyX5_ok nmX5 hown hK hP (hD _) hS 0 cr_obj rfl 0 (by decide) (hts _ lkX5_set_89) (fun _ h9 => h9) rfl (by decide +kernel) rfl rfl (Nat.le_of_ble_eq_true rfl) dX5_set_26 (fun H locs hP _ hS => ?_)
      have hP := cru_th hP
      have hP : va_P D vwCl (FW 22 ad (CR cs n ad 1 nx σ)) H := hP
      refine lv_aload_n hx hb dX5_set_29 rfl (lv_at hl 0 rfl) ?_
      refine va_get (D := D) (ci := 5) (v := .int 1) (C := RX5) (T := TX5) (N := 29) hx hb hts iwX5_set_X5 hown hK hP 0 cr_obj rfl 0 (by decide) (hts _ lkX5_set_89) (fun _ h9 => h9) rfl dX5_set_30 ?_
      refine lv_if_le (tgt := 38) hx hb dX5_set_33 (by decide) (fun c4 => absurd c4 (by decide)) (fun c4 => ?_)
      refine lv_iconst (v := 0) hx hb dX5_set_36 (by decide) ?_
      exact hret _ _ _ _ nx _ _ dX5_set_37 hP hS (fun h => absurd (hT.symm.trans h) T1ne) (by rw [hT, if_neg T1ne])
    · have hRy : 0 ≤ y ∧ y < 8 := of_decide_eq_true (bI1 c3)
      have hT : t1 ((0 ≤ x ∧ x < nI n) ∧ (0 ≤ y ∧ y < 8)) = 0 := t1_0 ⟨hC, hRy⟩
      refine lv_iconst (v := 0) hx hb dX5_set_21 (by decide) ?_
      refine lv_goto (tgt := 26) hx hb dX5_set_22 (by decide) ?_
      refine va_put (D := D) (ci := 5) (v := .int 0) (ty := .int) (C := RX5) (T := TX5) (N := 29) hx hb hts iwX5_set_X5 tyX5 tyX5_ok nmX5 hown hK hP (hD _) hS 0 cr_obj rfl 0 (by decide) (hts _ lkX5_set_89) (fun _ h9 => h9) rfl (by decide +kernel) rfl rfl (Nat.le_of_ble_eq_true rfl) dX5_set_26 (fun H locs hP _ hS => ?_)
      have hP := cru_th hP
      have hP : va_P D vwCl (FW 22 ad (CR cs n ad 0 nx σ)) H := hP
      refine lv_aload_n hx hb dX5_set_29 rfl (lv_at hl 0 rfl) ?_
      refine va_get (D := D) (ci := 5) (v := .int 0) (C := RX5) (T := TX5) (N := 29) hx hb hts iwX5_set_X5 hown hK hP 0 cr_obj rfl 0 (by decide) (hts _ lkX5_set_89) (fun _ h9 => h9) rfl dX5_set_30 ?_
      refine lv_if_le (tgt := 38) hx hb dX5_set_33 (by decide) (fun c5 => ?_) (fun c5 => absurd (by decide) c5)
      obtain ⟨k, hkn, hxk⟩ := i32_of (N := n) (by omega) hC.1 hC.2
      have hk4 : k < 4 := by omega
      have hik : iN x = k := by rw [hxk]; exact iN_nI (by omega)
      obtain ⟨j, hj, hyj⟩ := i32_of (N := 8) (by decide) hRy.1 hRy.2
      have hij : iN y = j := by rw [hyj]; exact iN_nI (by omega)
      refine lv_aload_n hx hb dX5_set_38 rfl (lv_at hl 0 rfl) ?_
      refine lv_iload_n hx hb dX5_set_39 rfl (lv_at hl 1 rfl) ?_
      refine g_top (y := nI k) (hxk) ?_
      refine lv_iload_n hx hb dX5_set_40 rfl (lv_at hl 2 rfl) ?_
      refine g_top (y := nI j) (hyj) ?_
      refine g_cvi (As := [.int (nI k), .int (nI j)]) ⟨hx, hb, hml, hown, hts⟩ (kX5_get l D cs n ad 0 nx σ k hk4 j hj (hI.2.2.2.2.2 k hk4).1) (cwV 2 hts gX5_set_X5_get rfl rfl rfl (by decide +kernel) ⟨Nat.le_of_ble_eq_true rfl, Nat.le_of_ble_eq_true rfl⟩) hK hP hD hS hA 0 (ci := 5) rfl rfl cr_obj hl.1 dX5_set_41 rfl rfl (Nat.le_of_ble_eq_true rfl) ⟨Nat.zero_le _, Nat.zero_le _⟩ (fun r _ H locs hw hP hS => ?_)
      obtain rfl : r = σ.1 10 k j := hw
      have hP : va_P D vwCl (FW 22 ad (CR cs n ad 0 nx σ)) H := hP
      refine lv_istore (lv' := [(4, .int (σ.1 10 k j)), (0, .ref (ad 0)), (1, .int x), (2, .int y), (3, .int v)]) hx hb dX5_set_44 hl (by decide) rfl (fun ls hl => ?_)
      refine lv_aload_n hx hb dX5_set_46 rfl (lv_at hl 1 rfl) ?_
      refine lv_iload_n hx hb dX5_set_47 rfl (lv_at hl 2 rfl) ?_
      refine g_top (y := nI k) (hxk) ?_
      refine lv_iload_n hx hb dX5_set_48 rfl (lv_at hl 3 rfl) ?_
      refine g_top (y := nI j) (hyj) ?_
      refine lv_iload_n hx hb dX5_set_49 rfl (lv_at hl 4 rfl) ?_
      refine g_cvv (As := [.int (nI k), .int (nI j), .int v]) ⟨hx, hb, hml, hown, hts⟩ (kX5_give l D cs n ad 0 nx σ k hk4 j hj v) (cwV 3 hts gX5_set_X5_give rfl rfl rfl (by decide +kernel) ⟨Nat.le_of_ble_eq_true rfl, Nat.le_of_ble_eq_true rfl⟩) hK hP hD hS hA 0 (ci := 5) rfl rfl cr_obj hl.1 dX5_set_50 rfl rfl (Nat.le_of_ble_eq_true rfl) ⟨Nat.zero_le _, Nat.zero_le _⟩ (fun _ H locs hw hP hS => ?_)
      obtain ⟨σ6, eσ6⟩ : ∃ z, z = pGive σ k j v := ⟨_, rfl⟩
      have hP : va_P D vwCl (FW 22 ad (CR cs n ad 0 nx σ6)) H := by rw [eσ6]; exact hP
      refine lv_iload hx hb dX5_set_53 (lv_at hl 0 rfl) ?_
      exact hret _ _ _ _ nx _ _ dX5_set_55 hP hS (fun _ => by rw [hik, hij]) (by rw [hT, if_pos rfl]; first | done | (rw [hik, hij]; simp only [eσ6]))

theorem iwX5_poke_X5 : ∀ w ∈ wsX50, w ∈ wsX5_poke := fun w h => by unfold wsX5_poke; simp only [List.mem_cons, List.mem_append, h, true_or, or_true]
theorem lkX5_poke_7 : Cond.fieldLink RX5 7 "CoreTransactionsModel" "memory" "[I" ∈ wsX5_poke := by decide +kernel
theorem lkX5_poke_89 : Cond.fieldLink RX5 89 "CoreTransactionsModel" "thrown" "I" ∈ wsX5_poke := by decide +kernel
abbrev rmX5_poke : Room := ({ frames := 3, cells := 0, slots := 0, locals := 68 } : Room)
set_option maxRecDepth 100000 in
set_option maxHeartbeats 4000000 in
theorem kX5_poke (l : Launch) (D : va_G) (cs : Nat → ClassId) (n : Nat) (ad : Nat → Nat) (th nx : Int32) (σ : St) (hn4 : n ≤ 4) (x v : Int32) (G : Nat) (hI : Inv σ G) : gMi l yX5_poke wsX5_poke rmX5_poke D (tyL cs) 22 ad (CR cs n ad th nx σ) [.ref (ad 0), .int x, .int v] (fun (r : Int32) (u : Int32) => t1 (0 ≤ x ∧ x < 64) = 0 → r = σ.1 0 0 (iN x)) (fun (u : Int32) => CR cs n ad (t1 (0 ≤ x ∧ x < 64)) u (if t1 (0 ≤ x ∧ x < 64) = 0 then pPoke σ n (iN x) v else σ)) := by
  refine g_ofi (cc := cX5_poke) (maxL := 4) (by decide) rfl (Nat.le_of_ble_eq_true rfl) rfl rfl ?_
  intro p e s m args below meth c A ls Q hx hb hml hts hown hK hP hD hA hS hl hret
  have hl : lv_has ls 4 [(0, .ref (ad 0)), (1, .int x), (2, .int v)] := hl
  refine lv_aload_n hx hb dX5_poke_0 rfl (lv_at hl 0 rfl) ?_
  refine lv_iload_n hx hb dX5_poke_1 rfl (lv_at hl 1 rfl) ?_
  refine lv_bipush (v := 64) hx hb dX5_poke_2 (by decide) ?_
  refine g_csi (As := [.int x, .int 64]) ⟨hx, hb, hml, hown, hts⟩ (kX5_isIn l D cs n ad th nx σ (x) (64)) (va_cwS 2 hts gX5_poke_X5_isIn rfl rfl rfl (by decide +kernel) ⟨Nat.le_of_ble_eq_true rfl, Nat.le_of_ble_eq_true rfl⟩) hK hP hD hS hA hl.1 dX5_poke_4 rfl rfl (Nat.le_of_ble_eq_true rfl) ⟨Nat.zero_le _, Nat.zero_le _⟩ (fun r _ H locs hw hP hS => ?_)
  obtain rfl : r = bI (decide (0 ≤ x ∧ x < 64)) := hw
  have hP : va_P D vwCl (FW 22 ad (CR cs n ad th nx σ)) H := hP
  refine lv_if_eq (tgt := 14) hx hb dX5_poke_7 (by decide) (fun c1 => ?_) (fun c1 => ?_)
  · have hW : ¬ (0 ≤ x ∧ x < 64) := of_decide_eq_false (bI0 c1)
    have hT : t1 (0 ≤ x ∧ x < 64) = 1 := t1_1 hW
    refine lv_iconst (v := 1) hx hb dX5_poke_14 (by decide) ?_
    refine va_put (D := D) (ci := 5) (v := .int 1) (ty := .int) (C := RX5) (T := TX5) (N := 29) hx hb hts iwX5_poke_X5 tyX5 tyX5_ok nmX5 hown hK hP (hD _) hS 0 cr_obj rfl 0 (by decide) (hts _ lkX5_poke_89) (fun _ h9 => h9) rfl (by decide +kernel) rfl rfl (Nat.le_of_ble_eq_true rfl) dX5_poke_15 (fun H locs hP _ hS => ?_)
    have hP := cru_th hP
    have hP : va_P D vwCl (FW 22 ad (CR cs n ad 1 nx σ)) H := hP
    refine lv_aload_n hx hb dX5_poke_18 rfl (lv_at hl 0 rfl) ?_
    refine va_get (D := D) (ci := 5) (v := .int 1) (C := RX5) (T := TX5) (N := 29) hx hb hts iwX5_poke_X5 hown hK hP 0 cr_obj rfl 0 (by decide) (hts _ lkX5_poke_89) (fun _ h9 => h9) rfl dX5_poke_19 ?_
    refine lv_if_le (tgt := 27) hx hb dX5_poke_22 (by decide) (fun c2 => absurd c2 (by decide)) (fun c2 => ?_)
    refine lv_iconst (v := 0) hx hb dX5_poke_25 (by decide) ?_
    exact hret _ _ _ _ nx _ _ dX5_poke_26 hP hS (fun h => absurd (hT.symm.trans h) T1ne) (by rw [hT, if_neg T1ne])
  · have hW : 0 ≤ x ∧ x < 64 := of_decide_eq_true (bI1 c1)
    have hT : t1 (0 ≤ x ∧ x < 64) = 0 := t1_0 hW
    refine lv_iconst (v := 0) hx hb dX5_poke_10 (by decide) ?_
    refine lv_goto (tgt := 15) hx hb dX5_poke_11 (by decide) ?_
    refine va_put (D := D) (ci := 5) (v := .int 0) (ty := .int) (C := RX5) (T := TX5) (N := 29) hx hb hts iwX5_poke_X5 tyX5 tyX5_ok nmX5 hown hK hP (hD _) hS 0 cr_obj rfl 0 (by decide) (hts _ lkX5_poke_89) (fun _ h9 => h9) rfl (by decide +kernel) rfl rfl (Nat.le_of_ble_eq_true rfl) dX5_poke_15 (fun H locs hP _ hS => ?_)
    have hP := cru_th hP
    have hP : va_P D vwCl (FW 22 ad (CR cs n ad 0 nx σ)) H := hP
    refine lv_aload_n hx hb dX5_poke_18 rfl (lv_at hl 0 rfl) ?_
    refine va_get (D := D) (ci := 5) (v := .int 0) (C := RX5) (T := TX5) (N := 29) hx hb hts iwX5_poke_X5 hown hK hP 0 cr_obj rfl 0 (by decide) (hts _ lkX5_poke_89) (fun _ h9 => h9) rfl dX5_poke_19 ?_
    refine lv_if_le (tgt := 27) hx hb dX5_poke_22 (by decide) (fun c3 => ?_) (fun c3 => absurd (by decide) c3)
    obtain ⟨j, hj, hxj⟩ := i32_of (N := 64) (by decide) hW.1 hW.2
    have hij : iN x = j := by rw [hxj]; exact iN_nI (by omega)
    refine lv_aload_n hx hb dX5_poke_27 rfl (lv_at hl 0 rfl) ?_
    refine va_get (D := D) (ci := 5) (v := .ref (ad 1)) (C := RX5) (T := TX5) (N := 29) hx hb hts iwX5_poke_X5 hown hK hP 0 cr_obj rfl 4 (by decide) (hts _ lkX5_poke_7) (fun _ h9 => h9) rfl dX5_poke_28 ?_
    refine lv_iload_n hx hb dX5_poke_31 rfl (lv_at hl 1 rfl) ?_
    refine g_iald (t0 := 0) (v := σ.1 0 0 j) hx hb hK hP cr_mem rfl j hxj hj (by decide) rfl dX5_poke_32 ?_
    refine lv_istore_n (lv' := [(3, .int (σ.1 0 0 j)), (0, .ref (ad 0)), (1, .int x), (2, .int v)]) hx hb dX5_poke_33 rfl hl (by decide) rfl (fun ls hl => ?_)
    refine lv_aload_n hx hb dX5_poke_34 rfl (lv_at hl 1 rfl) ?_
    refine lv_iconst (v := -1) hx hb dX5_poke_35 (by decide) ?_
    refine lv_iload_n hx hb dX5_poke_36 rfl (lv_at hl 2 rfl) ?_
    refine g_top (y := nI j) (hxj) ?_
    refine lv_iconst (v := 4) hx hb dX5_poke_37 (by decide) ?_
    refine lv_idiv hx hb dX5_poke_38 (by decide) ?_
    refine g_top (y := nI (j / 4)) (pk_div (a := j) (d := 4) (by omega) (by decide) (by decide)) ?_
    refine lv_iconst (v := 1) hx hb dX5_poke_39 (by decide) ?_
    refine g_cvv (As := [.int ((-1)), .int (nI (j / 4)), .int 1]) ⟨hx, hb, hml, hown, hts⟩ (kX5_breakOthers l D cs n ad 0 nx σ hn4 (-1) (j / 4) true G hI) (cwV 3 hts gX5_poke_X5_breakOthers rfl rfl rfl (by decide +kernel) ⟨Nat.le_of_ble_eq_true rfl, Nat.le_of_ble_eq_true rfl⟩) hK hP hD hS hA 0 (ci := 5) rfl rfl cr_obj hl.1 dX5_poke_40 rfl rfl (Nat.le_of_ble_eq_true rfl) ⟨Nat.zero_le _, Nat.zero_le _⟩ (fun _ H locs hw hP hS => ?_)
    obtain ⟨σ4, eσ4⟩ : ∃ z, z = pBA (-1) (j / 4) true n σ := ⟨_, rfl⟩
    have hP : va_P D vwCl (FW 22 ad (CR cs n ad 0 nx σ4)) H := by rw [eσ4]; exact hP
    refine lv_aload_n hx hb dX5_poke_43 rfl (lv_at hl 1 rfl) ?_
    refine va_get (D := D) (ci := 5) (v := .ref (ad 1)) (C := RX5) (T := TX5) (N := 29) hx hb hts iwX5_poke_X5 hown hK hP 0 cr_obj rfl 4 (by decide) (hts _ lkX5_poke_7) (fun _ h9 => h9) rfl dX5_poke_44 ?_
    refine lv_iload_n hx hb dX5_poke_47 rfl (lv_at hl 2 rfl) ?_
    refine lv_iload_n hx hb dX5_poke_48 rfl (lv_at hl 3 rfl) ?_
    refine g_iast (t0 := 0) hx hb hK hP hD hS cr_mem rfl j hxj hj (by decide) dX5_poke_49 (fun H locs hP hS => ?_)
    obtain ⟨σ5, eσ5⟩ : ∃ z, z = put σ4 0 0 j v := ⟨_, rfl⟩
    have hP : va_P D vwCl (FW 22 ad (CR cs n ad 0 nx σ5)) H := by rw [eσ5]; exact cru_mem hP
    refine lv_iload_n hx hb dX5_poke_50 rfl (lv_at hl 0 rfl) ?_
    exact hret _ _ _ _ nx _ _ dX5_poke_51 hP hS (fun _ => by rw [hij]) (by rw [hT, if_pos rfl]; first | done | (rw [hij]; simp only [eσ5, eσ4]; rfl))

theorem iwX5_register_X5 : ∀ w ∈ wsX50, w ∈ wsX5_register := fun w h => by unfold wsX5_register; simp only [List.mem_cons, List.mem_append, h, true_or, or_true]
theorem lkX5_register_79 : Cond.fieldLink RX5 79 "CoreTransactionsModel" "cores" "I" ∈ wsX5_register := by decide +kernel
theorem lkX5_register_89 : Cond.fieldLink RX5 89 "CoreTransactionsModel" "thrown" "I" ∈ wsX5_register := by decide +kernel
abbrev rmX5_register : Room := ({ frames := 1, cells := 0, slots := 0, locals := 22 } : Room)
set_option maxRecDepth 100000 in
set_option maxHeartbeats 4000000 in
theorem kX5_register (l : Launch) (D : va_G) (cs : Nat → ClassId) (n : Nat) (ad : Nat → Nat) (th nx : Int32) (σ : St) (hn4 : n ≤ 4) (x y : Int32) (G : Nat) (hI : Inv σ G) : gMi l yX5_register wsX5_register rmX5_register D (tyL cs) 22 ad (CR cs n ad th nx σ) [.ref (ad 0), .int x, .int y] (fun (r : Int32) (u : Int32) => t1 ((0 ≤ x ∧ x < nI n) ∧ (0 ≤ y ∧ y < 8)) = 0 → r = σ.1 10 (iN x) (iN y)) (fun (u : Int32) => CR cs n ad (t1 ((0 ≤ x ∧ x < nI n) ∧ (0 ≤ y ∧ y < 8))) u (if t1 ((0 ≤ x ∧ x < nI n) ∧ (0 ≤ y ∧ y < 8)) = 0 then σ else σ)) := by
  refine g_ofi (cc := cX5_register) (maxL := 3) (by decide) rfl (Nat.le_of_ble_eq_true rfl) rfl rfl ?_
  intro p e s m args below meth c A ls Q hx hb hml hts hown hK hP hD hA hS hl hret
  have hl : lv_has ls 3 [(0, .ref (ad 0)), (1, .int x), (2, .int y)] := hl
  refine lv_aload_n hx hb dX5_register_0 rfl (lv_at hl 0 rfl) ?_
  refine lv_iload_n hx hb dX5_register_1 rfl (lv_at hl 1 rfl) ?_
  refine lv_aload_n hx hb dX5_register_2 rfl (lv_at hl 0 rfl) ?_
  refine va_get (D := D) (ci := 5) (v := .int (nI n)) (C := RX5) (T := TX5) (N := 29) hx hb hts iwX5_register_X5 hown hK hP 0 cr_obj rfl 1 (by decide) (hts _ lkX5_register_79) (fun _ h9 => h9) rfl dX5_register_3 ?_
  refine g_csi (As := [.int x, .int (nI n)]) ⟨hx, hb, hml, hown, hts⟩ (kX5_isIn l D cs n ad th nx σ (x) (nI n)) (va_cwS 2 hts gX5_register_X5_isIn rfl rfl rfl (by decide +kernel) ⟨Nat.le_of_ble_eq_true rfl, Nat.le_of_ble_eq_true rfl⟩) hK hP hD hS hA hl.1 dX5_register_6 rfl rfl (Nat.le_of_ble_eq_true rfl) ⟨Nat.zero_le _, Nat.zero_le _⟩ (fun r _ H locs hw hP hS => ?_)
  obtain rfl : r = bI (decide (0 ≤ x ∧ x < nI n)) := hw
  have hP : va_P D vwCl (FW 22 ad (CR cs n ad th nx σ)) H := hP
  refine lv_if_eq (tgt := 25) hx hb dX5_register_9 (by decide) (fun c1 => ?_) (fun c1 => ?_)
  · have hC : ¬ (0 ≤ x ∧ x < nI n) := of_decide_eq_false (bI0 c1)
    have hT : t1 ((0 ≤ x ∧ x < nI n) ∧ (0 ≤ y ∧ y < 8)) = 1 := t1_1 (fun h => hC h.1)
    refine lv_iconst (v := 1) hx hb dX5_register_25 (by decide) ?_
    refine va_put (D := D) (ci := 5) (v := .int 1) (ty := .int) (C := RX5) (T := TX5) (N := 29) hx hb hts iwX5_register_X5 tyX5 tyX5_ok nmX5 hown hK hP (hD _) hS 0 cr_obj rfl 0 (by decide) (hts _ lkX5_register_89) (fun _ h9 => h9) rfl (by decide +kernel) rfl rfl (Nat.le_of_ble_eq_true rfl) dX5_register_26 (fun H locs hP _ hS => ?_)
    have hP := cru_th hP
    have hP : va_P D vwCl (FW 22 ad (CR cs n ad 1 nx σ)) H := hP
    refine lv_aload_n hx hb dX5_register_29 rfl (lv_at hl 0 rfl) ?_
    refine va_get (D := D) (ci := 5) (v := .int 1) (C := RX5) (T := TX5) (N := 29) hx hb hts iwX5_register_X5 hown hK hP 0 cr_obj rfl 0 (by decide) (hts _ lkX5_register_89) (fun _ h9 => h9) rfl dX5_register_30 ?_
    refine lv_if_le (tgt := 40) hx hb dX5_register_33 (by decide) (fun c2 => absurd c2 (by decide)) (fun c2 => ?_)
    refine lv_iconst (v := 0) hx hb dX5_register_36 (by decide) ?_
    refine lv_goto (tgt := 46) hx hb dX5_register_37 (by decide) ?_
    exact hret _ _ _ _ nx _ _ dX5_register_46 hP hS (fun h => absurd (hT.symm.trans h) T1ne) (by rw [hT, if_neg T1ne])
  · have hC : (0 ≤ x ∧ x < nI n) := of_decide_eq_true (bI1 c1)
    refine lv_iload_n hx hb dX5_register_12 rfl (lv_at hl 2 rfl) ?_
    refine lv_bipush (v := 8) hx hb dX5_register_13 (by decide) ?_
    refine g_csi (As := [.int y, .int 8]) ⟨hx, hb, hml, hown, hts⟩ (kX5_isIn l D cs n ad th nx σ (y) (8)) (va_cwS 2 hts gX5_register_X5_isIn rfl rfl rfl (by decide +kernel) ⟨Nat.le_of_ble_eq_true rfl, Nat.le_of_ble_eq_true rfl⟩) hK hP hD hS hA hl.1 dX5_register_15 rfl rfl (Nat.le_of_ble_eq_true rfl) ⟨Nat.zero_le _, Nat.zero_le _⟩ (fun r _ H locs hw hP hS => ?_)
    obtain rfl : r = bI (decide (0 ≤ y ∧ y < 8)) := hw
    have hP : va_P D vwCl (FW 22 ad (CR cs n ad th nx σ)) H := hP
    refine lv_if_eq (tgt := 25) hx hb dX5_register_18 (by decide) (fun c3 => ?_) (fun c3 => ?_)
    · have hRy : ¬ (0 ≤ y ∧ y < 8) := of_decide_eq_false (bI0 c3)
      have hT : t1 ((0 ≤ x ∧ x < nI n) ∧ (0 ≤ y ∧ y < 8)) = 1 := t1_1 (fun h => hRy h.2)
      refine lv_iconst (v := 1) hx hb dX5_register_25 (by decide) ?_
      refine va_put (D := D) (ci := 5) (v := .int 1) (ty := .int) (C := RX5) (T := TX5) (N := 29) hx hb hts iwX5_register_X5 tyX5 tyX5_ok nmX5 hown hK hP (hD _) hS 0 cr_obj rfl 0 (by decide) (hts _ lkX5_register_89) (fun _ h9 => h9) rfl (by decide +kernel) rfl rfl (Nat.le_of_ble_eq_true rfl) dX5_register_26 (fun H locs hP _ hS => ?_)
      have hP := cru_th hP
      have hP : va_P D vwCl (FW 22 ad (CR cs n ad 1 nx σ)) H := hP
      refine lv_aload_n hx hb dX5_register_29 rfl (lv_at hl 0 rfl) ?_
      refine va_get (D := D) (ci := 5) (v := .int 1) (C := RX5) (T := TX5) (N := 29) hx hb hts iwX5_register_X5 hown hK hP 0 cr_obj rfl 0 (by decide) (hts _ lkX5_register_89) (fun _ h9 => h9) rfl dX5_register_30 ?_
      refine lv_if_le (tgt := 40) hx hb dX5_register_33 (by decide) (fun c4 => absurd c4 (by decide)) (fun c4 => ?_)
      refine lv_iconst (v := 0) hx hb dX5_register_36 (by decide) ?_
      refine lv_goto (tgt := 46) hx hb dX5_register_37 (by decide) ?_
      exact hret _ _ _ _ nx _ _ dX5_register_46 hP hS (fun h => absurd (hT.symm.trans h) T1ne) (by rw [hT, if_neg T1ne])
    · have hRy : 0 ≤ y ∧ y < 8 := of_decide_eq_true (bI1 c3)
      have hT : t1 ((0 ≤ x ∧ x < nI n) ∧ (0 ≤ y ∧ y < 8)) = 0 := t1_0 ⟨hC, hRy⟩
      refine lv_iconst (v := 0) hx hb dX5_register_21 (by decide) ?_
      refine lv_goto (tgt := 26) hx hb dX5_register_22 (by decide) ?_
      refine va_put (D := D) (ci := 5) (v := .int 0) (ty := .int) (C := RX5) (T := TX5) (N := 29) hx hb hts iwX5_register_X5 tyX5 tyX5_ok nmX5 hown hK hP (hD _) hS 0 cr_obj rfl 0 (by decide) (hts _ lkX5_register_89) (fun _ h9 => h9) rfl (by decide +kernel) rfl rfl (Nat.le_of_ble_eq_true rfl) dX5_register_26 (fun H locs hP _ hS => ?_)
      have hP := cru_th hP
      have hP : va_P D vwCl (FW 22 ad (CR cs n ad 0 nx σ)) H := hP
      refine lv_aload_n hx hb dX5_register_29 rfl (lv_at hl 0 rfl) ?_
      refine va_get (D := D) (ci := 5) (v := .int 0) (C := RX5) (T := TX5) (N := 29) hx hb hts iwX5_register_X5 hown hK hP 0 cr_obj rfl 0 (by decide) (hts _ lkX5_register_89) (fun _ h9 => h9) rfl dX5_register_30 ?_
      refine lv_if_le (tgt := 40) hx hb dX5_register_33 (by decide) (fun c5 => ?_) (fun c5 => absurd (by decide) c5)
      obtain ⟨k, hkn, hxk⟩ := i32_of (N := n) (by omega) hC.1 hC.2
      have hk4 : k < 4 := by omega
      have hik : iN x = k := by rw [hxk]; exact iN_nI (by omega)
      obtain ⟨j, hj, hyj⟩ := i32_of (N := 8) (by decide) hRy.1 hRy.2
      have hij : iN y = j := by rw [hyj]; exact iN_nI (by omega)
      refine lv_aload_n hx hb dX5_register_40 rfl (lv_at hl 0 rfl) ?_
      refine lv_iload_n hx hb dX5_register_41 rfl (lv_at hl 1 rfl) ?_
      refine g_top (y := nI k) (hxk) ?_
      refine lv_iload_n hx hb dX5_register_42 rfl (lv_at hl 2 rfl) ?_
      refine g_top (y := nI j) (hyj) ?_
      refine g_cvi (As := [.int (nI k), .int (nI j)]) ⟨hx, hb, hml, hown, hts⟩ (kX5_get l D cs n ad 0 nx σ k hk4 j hj (hI.2.2.2.2.2 k hk4).1) (cwV 2 hts gX5_register_X5_get rfl rfl rfl (by decide +kernel) ⟨Nat.le_of_ble_eq_true rfl, Nat.le_of_ble_eq_true rfl⟩) hK hP hD hS hA 0 (ci := 5) rfl rfl cr_obj hl.1 dX5_register_43 rfl rfl (Nat.le_of_ble_eq_true rfl) ⟨Nat.zero_le _, Nat.zero_le _⟩ (fun r _ H locs hw hP hS => ?_)
      obtain rfl : r = σ.1 10 k j := hw
      have hP : va_P D vwCl (FW 22 ad (CR cs n ad 0 nx σ)) H := hP
      exact hret _ _ _ _ nx _ _ dX5_register_46 hP hS (fun _ => by rw [hik, hij]) (by rw [hT, if_pos rfl]; first | done | (rfl))

theorem iwX5_seen_X5 : ∀ w ∈ wsX50, w ∈ wsX5_seen := fun w h => by unfold wsX5_seen; simp only [List.mem_cons, List.mem_append, h, true_or, or_true]
theorem lkX5_seen_79 : Cond.fieldLink RX5 79 "CoreTransactionsModel" "cores" "I" ∈ wsX5_seen := by decide +kernel
theorem lkX5_seen_89 : Cond.fieldLink RX5 89 "CoreTransactionsModel" "thrown" "I" ∈ wsX5_seen := by decide +kernel
abbrev rmX5_seen : Room := ({ frames := 1, cells := 0, slots := 0, locals := 22 } : Room)
set_option maxRecDepth 100000 in
set_option maxHeartbeats 4000000 in
theorem kX5_seen (l : Launch) (D : va_G) (cs : Nat → ClassId) (n : Nat) (ad : Nat → Nat) (th nx : Int32) (σ : St) (hn4 : n ≤ 4) (x y : Int32) (G : Nat) (hI : Inv σ G) : gMi l yX5_seen wsX5_seen rmX5_seen D (tyL cs) 22 ad (CR cs n ad th nx σ) [.ref (ad 0), .int x, .int y] (fun (r : Int32) (u : Int32) => t1 ((0 ≤ x ∧ x < nI n) ∧ (0 ≤ y ∧ y < 64)) = 0 → r = pSeen σ (iN x) (iN y)) (fun (u : Int32) => CR cs n ad (t1 ((0 ≤ x ∧ x < nI n) ∧ (0 ≤ y ∧ y < 64))) u (if t1 ((0 ≤ x ∧ x < nI n) ∧ (0 ≤ y ∧ y < 64)) = 0 then σ else σ)) := by
  refine g_ofi (cc := cX5_seen) (maxL := 3) (by decide) rfl (Nat.le_of_ble_eq_true rfl) rfl rfl ?_
  intro p e s m args below meth c A ls Q hx hb hml hts hown hK hP hD hA hS hl hret
  have hl : lv_has ls 3 [(0, .ref (ad 0)), (1, .int x), (2, .int y)] := hl
  refine lv_aload_n hx hb dX5_seen_0 rfl (lv_at hl 0 rfl) ?_
  refine lv_iload_n hx hb dX5_seen_1 rfl (lv_at hl 1 rfl) ?_
  refine lv_aload_n hx hb dX5_seen_2 rfl (lv_at hl 0 rfl) ?_
  refine va_get (D := D) (ci := 5) (v := .int (nI n)) (C := RX5) (T := TX5) (N := 29) hx hb hts iwX5_seen_X5 hown hK hP 0 cr_obj rfl 1 (by decide) (hts _ lkX5_seen_79) (fun _ h9 => h9) rfl dX5_seen_3 ?_
  refine g_csi (As := [.int x, .int (nI n)]) ⟨hx, hb, hml, hown, hts⟩ (kX5_isIn l D cs n ad th nx σ (x) (nI n)) (va_cwS 2 hts gX5_seen_X5_isIn rfl rfl rfl (by decide +kernel) ⟨Nat.le_of_ble_eq_true rfl, Nat.le_of_ble_eq_true rfl⟩) hK hP hD hS hA hl.1 dX5_seen_6 rfl rfl (Nat.le_of_ble_eq_true rfl) ⟨Nat.zero_le _, Nat.zero_le _⟩ (fun r _ H locs hw hP hS => ?_)
  obtain rfl : r = bI (decide (0 ≤ x ∧ x < nI n)) := hw
  have hP : va_P D vwCl (FW 22 ad (CR cs n ad th nx σ)) H := hP
  refine lv_if_eq (tgt := 25) hx hb dX5_seen_9 (by decide) (fun c1 => ?_) (fun c1 => ?_)
  · have hC : ¬ (0 ≤ x ∧ x < nI n) := of_decide_eq_false (bI0 c1)
    have hT : t1 ((0 ≤ x ∧ x < nI n) ∧ (0 ≤ y ∧ y < 64)) = 1 := t1_1 (fun h => hC h.1)
    refine lv_iconst (v := 1) hx hb dX5_seen_25 (by decide) ?_
    refine va_put (D := D) (ci := 5) (v := .int 1) (ty := .int) (C := RX5) (T := TX5) (N := 29) hx hb hts iwX5_seen_X5 tyX5 tyX5_ok nmX5 hown hK hP (hD _) hS 0 cr_obj rfl 0 (by decide) (hts _ lkX5_seen_89) (fun _ h9 => h9) rfl (by decide +kernel) rfl rfl (Nat.le_of_ble_eq_true rfl) dX5_seen_26 (fun H locs hP _ hS => ?_)
    have hP := cru_th hP
    have hP : va_P D vwCl (FW 22 ad (CR cs n ad 1 nx σ)) H := hP
    refine lv_aload_n hx hb dX5_seen_29 rfl (lv_at hl 0 rfl) ?_
    refine va_get (D := D) (ci := 5) (v := .int 1) (C := RX5) (T := TX5) (N := 29) hx hb hts iwX5_seen_X5 hown hK hP 0 cr_obj rfl 0 (by decide) (hts _ lkX5_seen_89) (fun _ h9 => h9) rfl dX5_seen_30 ?_
    refine lv_if_le (tgt := 40) hx hb dX5_seen_33 (by decide) (fun c2 => absurd c2 (by decide)) (fun c2 => ?_)
    refine lv_iconst (v := 0) hx hb dX5_seen_36 (by decide) ?_
    refine lv_goto (tgt := 46) hx hb dX5_seen_37 (by decide) ?_
    exact hret _ _ _ _ nx _ _ dX5_seen_46 hP hS (fun h => absurd (hT.symm.trans h) T1ne) (by rw [hT, if_neg T1ne])
  · have hC : (0 ≤ x ∧ x < nI n) := of_decide_eq_true (bI1 c1)
    refine lv_iload_n hx hb dX5_seen_12 rfl (lv_at hl 2 rfl) ?_
    refine lv_bipush (v := 64) hx hb dX5_seen_13 (by decide) ?_
    refine g_csi (As := [.int y, .int 64]) ⟨hx, hb, hml, hown, hts⟩ (kX5_isIn l D cs n ad th nx σ (y) (64)) (va_cwS 2 hts gX5_seen_X5_isIn rfl rfl rfl (by decide +kernel) ⟨Nat.le_of_ble_eq_true rfl, Nat.le_of_ble_eq_true rfl⟩) hK hP hD hS hA hl.1 dX5_seen_15 rfl rfl (Nat.le_of_ble_eq_true rfl) ⟨Nat.zero_le _, Nat.zero_le _⟩ (fun r _ H locs hw hP hS => ?_)
    obtain rfl : r = bI (decide (0 ≤ y ∧ y < 64)) := hw
    have hP : va_P D vwCl (FW 22 ad (CR cs n ad th nx σ)) H := hP
    refine lv_if_eq (tgt := 25) hx hb dX5_seen_18 (by decide) (fun c3 => ?_) (fun c3 => ?_)
    · have hRy : ¬ (0 ≤ y ∧ y < 64) := of_decide_eq_false (bI0 c3)
      have hT : t1 ((0 ≤ x ∧ x < nI n) ∧ (0 ≤ y ∧ y < 64)) = 1 := t1_1 (fun h => hRy h.2)
      refine lv_iconst (v := 1) hx hb dX5_seen_25 (by decide) ?_
      refine va_put (D := D) (ci := 5) (v := .int 1) (ty := .int) (C := RX5) (T := TX5) (N := 29) hx hb hts iwX5_seen_X5 tyX5 tyX5_ok nmX5 hown hK hP (hD _) hS 0 cr_obj rfl 0 (by decide) (hts _ lkX5_seen_89) (fun _ h9 => h9) rfl (by decide +kernel) rfl rfl (Nat.le_of_ble_eq_true rfl) dX5_seen_26 (fun H locs hP _ hS => ?_)
      have hP := cru_th hP
      have hP : va_P D vwCl (FW 22 ad (CR cs n ad 1 nx σ)) H := hP
      refine lv_aload_n hx hb dX5_seen_29 rfl (lv_at hl 0 rfl) ?_
      refine va_get (D := D) (ci := 5) (v := .int 1) (C := RX5) (T := TX5) (N := 29) hx hb hts iwX5_seen_X5 hown hK hP 0 cr_obj rfl 0 (by decide) (hts _ lkX5_seen_89) (fun _ h9 => h9) rfl dX5_seen_30 ?_
      refine lv_if_le (tgt := 40) hx hb dX5_seen_33 (by decide) (fun c4 => absurd c4 (by decide)) (fun c4 => ?_)
      refine lv_iconst (v := 0) hx hb dX5_seen_36 (by decide) ?_
      refine lv_goto (tgt := 46) hx hb dX5_seen_37 (by decide) ?_
      exact hret _ _ _ _ nx _ _ dX5_seen_46 hP hS (fun h => absurd (hT.symm.trans h) T1ne) (by rw [hT, if_neg T1ne])
    · have hRy : 0 ≤ y ∧ y < 64 := of_decide_eq_true (bI1 c3)
      have hT : t1 ((0 ≤ x ∧ x < nI n) ∧ (0 ≤ y ∧ y < 64)) = 0 := t1_0 ⟨hC, hRy⟩
      refine lv_iconst (v := 0) hx hb dX5_seen_21 (by decide) ?_
      refine lv_goto (tgt := 26) hx hb dX5_seen_22 (by decide) ?_
      refine va_put (D := D) (ci := 5) (v := .int 0) (ty := .int) (C := RX5) (T := TX5) (N := 29) hx hb hts iwX5_seen_X5 tyX5 tyX5_ok nmX5 hown hK hP (hD _) hS 0 cr_obj rfl 0 (by decide) (hts _ lkX5_seen_89) (fun _ h9 => h9) rfl (by decide +kernel) rfl rfl (Nat.le_of_ble_eq_true rfl) dX5_seen_26 (fun H locs hP _ hS => ?_)
      have hP := cru_th hP
      have hP : va_P D vwCl (FW 22 ad (CR cs n ad 0 nx σ)) H := hP
      refine lv_aload_n hx hb dX5_seen_29 rfl (lv_at hl 0 rfl) ?_
      refine va_get (D := D) (ci := 5) (v := .int 0) (C := RX5) (T := TX5) (N := 29) hx hb hts iwX5_seen_X5 hown hK hP 0 cr_obj rfl 0 (by decide) (hts _ lkX5_seen_89) (fun _ h9 => h9) rfl dX5_seen_30 ?_
      refine lv_if_le (tgt := 40) hx hb dX5_seen_33 (by decide) (fun c5 => ?_) (fun c5 => absurd (by decide) c5)
      obtain ⟨k, hkn, hxk⟩ := i32_of (N := n) (by omega) hC.1 hC.2
      have hk4 : k < 4 := by omega
      have hik : iN x = k := by rw [hxk]; exact iN_nI (by omega)
      obtain ⟨j, hj, hyj⟩ := i32_of (N := 64) (by decide) hRy.1 hRy.2
      have hij : iN y = j := by rw [hyj]; exact iN_nI (by omega)
      refine lv_aload_n hx hb dX5_seen_40 rfl (lv_at hl 0 rfl) ?_
      refine lv_iload_n hx hb dX5_seen_41 rfl (lv_at hl 1 rfl) ?_
      refine g_top (y := nI k) (hxk) ?_
      refine lv_iload_n hx hb dX5_seen_42 rfl (lv_at hl 2 rfl) ?_
      refine g_top (y := nI j) (hyj) ?_
      refine g_cvi (As := [.int (nI k), .int (nI j)]) ⟨hx, hb, hml, hown, hts⟩ (kX5_sees l D cs n ad 0 nx σ k hk4 j hj) (cwV 2 hts gX5_seen_X5_sees rfl rfl rfl (by decide +kernel) ⟨Nat.le_of_ble_eq_true rfl, Nat.le_of_ble_eq_true rfl⟩) hK hP hD hS hA 0 (ci := 5) rfl rfl cr_obj hl.1 dX5_seen_43 rfl rfl (Nat.le_of_ble_eq_true rfl) ⟨Nat.zero_le _, Nat.zero_le _⟩ (fun r _ H locs hw hP hS => ?_)
      obtain rfl : r = pSeen σ k j := hw
      have hP : va_P D vwCl (FW 22 ad (CR cs n ad 0 nx σ)) H := hP
      exact hret _ _ _ _ nx _ _ dX5_seen_46 hP hS (fun _ => by rw [hik, hij]) (by rw [hT, if_pos rfl]; first | done | (rfl))

theorem iwX5_word_X5 : ∀ w ∈ wsX50, w ∈ wsX5_word := fun w h => by unfold wsX5_word; simp only [List.mem_cons, List.mem_append, h, true_or, or_true]
theorem lkX5_word_7 : Cond.fieldLink RX5 7 "CoreTransactionsModel" "memory" "[I" ∈ wsX5_word := by decide +kernel
theorem lkX5_word_89 : Cond.fieldLink RX5 89 "CoreTransactionsModel" "thrown" "I" ∈ wsX5_word := by decide +kernel
abbrev rmX5_word : Room := ({ frames := 1, cells := 0, slots := 0, locals := 21 } : Room)
set_option maxRecDepth 100000 in
set_option maxHeartbeats 4000000 in
theorem kX5_word (l : Launch) (D : va_G) (cs : Nat → ClassId) (n : Nat) (ad : Nat → Nat) (th nx : Int32) (σ : St) (hn4 : n ≤ 4) (x : Int32) (G : Nat) (hI : Inv σ G) : gMi l yX5_word wsX5_word rmX5_word D (tyL cs) 22 ad (CR cs n ad th nx σ) [.ref (ad 0), .int x] (fun (r : Int32) (u : Int32) => t1 (0 ≤ x ∧ x < 64) = 0 → r = σ.1 0 0 (iN x)) (fun (u : Int32) => CR cs n ad (t1 (0 ≤ x ∧ x < 64)) u (if t1 (0 ≤ x ∧ x < 64) = 0 then σ else σ)) := by
  refine g_ofi (cc := cX5_word) (maxL := 2) (by decide) rfl (Nat.le_of_ble_eq_true rfl) rfl rfl ?_
  intro p e s m args below meth c A ls Q hx hb hml hts hown hK hP hD hA hS hl hret
  have hl : lv_has ls 2 [(0, .ref (ad 0)), (1, .int x)] := hl
  refine lv_aload_n hx hb dX5_word_0 rfl (lv_at hl 0 rfl) ?_
  refine lv_iload_n hx hb dX5_word_1 rfl (lv_at hl 1 rfl) ?_
  refine lv_bipush (v := 64) hx hb dX5_word_2 (by decide) ?_
  refine g_csi (As := [.int x, .int 64]) ⟨hx, hb, hml, hown, hts⟩ (kX5_isIn l D cs n ad th nx σ (x) (64)) (va_cwS 2 hts gX5_word_X5_isIn rfl rfl rfl (by decide +kernel) ⟨Nat.le_of_ble_eq_true rfl, Nat.le_of_ble_eq_true rfl⟩) hK hP hD hS hA hl.1 dX5_word_4 rfl rfl (Nat.le_of_ble_eq_true rfl) ⟨Nat.zero_le _, Nat.zero_le _⟩ (fun r _ H locs hw hP hS => ?_)
  obtain rfl : r = bI (decide (0 ≤ x ∧ x < 64)) := hw
  have hP : va_P D vwCl (FW 22 ad (CR cs n ad th nx σ)) H := hP
  refine lv_if_eq (tgt := 14) hx hb dX5_word_7 (by decide) (fun c1 => ?_) (fun c1 => ?_)
  · have hW : ¬ (0 ≤ x ∧ x < 64) := of_decide_eq_false (bI0 c1)
    have hT : t1 (0 ≤ x ∧ x < 64) = 1 := t1_1 hW
    refine lv_iconst (v := 1) hx hb dX5_word_14 (by decide) ?_
    refine va_put (D := D) (ci := 5) (v := .int 1) (ty := .int) (C := RX5) (T := TX5) (N := 29) hx hb hts iwX5_word_X5 tyX5 tyX5_ok nmX5 hown hK hP (hD _) hS 0 cr_obj rfl 0 (by decide) (hts _ lkX5_word_89) (fun _ h9 => h9) rfl (by decide +kernel) rfl rfl (Nat.le_of_ble_eq_true rfl) dX5_word_15 (fun H locs hP _ hS => ?_)
    have hP := cru_th hP
    have hP : va_P D vwCl (FW 22 ad (CR cs n ad 1 nx σ)) H := hP
    refine lv_aload_n hx hb dX5_word_18 rfl (lv_at hl 0 rfl) ?_
    refine va_get (D := D) (ci := 5) (v := .int 1) (C := RX5) (T := TX5) (N := 29) hx hb hts iwX5_word_X5 hown hK hP 0 cr_obj rfl 0 (by decide) (hts _ lkX5_word_89) (fun _ h9 => h9) rfl dX5_word_19 ?_
    refine lv_if_le (tgt := 29) hx hb dX5_word_22 (by decide) (fun c2 => absurd c2 (by decide)) (fun c2 => ?_)
    refine lv_iconst (v := 0) hx hb dX5_word_25 (by decide) ?_
    refine lv_goto (tgt := 35) hx hb dX5_word_26 (by decide) ?_
    exact hret _ _ _ _ nx _ _ dX5_word_35 hP hS (fun h => absurd (hT.symm.trans h) T1ne) (by rw [hT, if_neg T1ne])
  · have hW : 0 ≤ x ∧ x < 64 := of_decide_eq_true (bI1 c1)
    have hT : t1 (0 ≤ x ∧ x < 64) = 0 := t1_0 hW
    refine lv_iconst (v := 0) hx hb dX5_word_10 (by decide) ?_
    refine lv_goto (tgt := 15) hx hb dX5_word_11 (by decide) ?_
    refine va_put (D := D) (ci := 5) (v := .int 0) (ty := .int) (C := RX5) (T := TX5) (N := 29) hx hb hts iwX5_word_X5 tyX5 tyX5_ok nmX5 hown hK hP (hD _) hS 0 cr_obj rfl 0 (by decide) (hts _ lkX5_word_89) (fun _ h9 => h9) rfl (by decide +kernel) rfl rfl (Nat.le_of_ble_eq_true rfl) dX5_word_15 (fun H locs hP _ hS => ?_)
    have hP := cru_th hP
    have hP : va_P D vwCl (FW 22 ad (CR cs n ad 0 nx σ)) H := hP
    refine lv_aload_n hx hb dX5_word_18 rfl (lv_at hl 0 rfl) ?_
    refine va_get (D := D) (ci := 5) (v := .int 0) (C := RX5) (T := TX5) (N := 29) hx hb hts iwX5_word_X5 hown hK hP 0 cr_obj rfl 0 (by decide) (hts _ lkX5_word_89) (fun _ h9 => h9) rfl dX5_word_19 ?_
    refine lv_if_le (tgt := 29) hx hb dX5_word_22 (by decide) (fun c3 => ?_) (fun c3 => absurd (by decide) c3)
    obtain ⟨j, hj, hxj⟩ := i32_of (N := 64) (by decide) hW.1 hW.2
    have hij : iN x = j := by rw [hxj]; exact iN_nI (by omega)
    refine lv_aload_n hx hb dX5_word_29 rfl (lv_at hl 0 rfl) ?_
    refine va_get (D := D) (ci := 5) (v := .ref (ad 1)) (C := RX5) (T := TX5) (N := 29) hx hb hts iwX5_word_X5 hown hK hP 0 cr_obj rfl 4 (by decide) (hts _ lkX5_word_7) (fun _ h9 => h9) rfl dX5_word_30 ?_
    refine lv_iload_n hx hb dX5_word_33 rfl (lv_at hl 1 rfl) ?_
    refine g_iald (t0 := 0) (v := σ.1 0 0 j) hx hb hK hP cr_mem rfl j hxj hj (by decide) rfl dX5_word_34 ?_
    exact hret _ _ _ _ nx _ _ dX5_word_35 hP hS (fun _ => by rw [hij]) (by rw [hT, if_pos rfl]; first | done | (rfl))

abbrev rmX5_bits : Room := ({ frames := 0, cells := 0, slots := 0, locals := 0 } : Room)
set_option maxRecDepth 100000 in
set_option maxHeartbeats 4000000 in
theorem kX5_bits (l : Launch) (D : va_G) (cs : Nat → ClassId) (n : Nat) (ad : Nat → Nat) (th nx : Int32) (σ : St) (v : Int64) : gMi l yX5_bits wsX5_bits rmX5_bits D (tyL cs) 22 ad (CR cs n ad th nx σ) [.long v] (fun (r : Int32) (u : Unit) => r = nI (cntB v 64)) (fun (u : Unit) => CR cs n ad th nx σ) := by
  refine g_ofi (cc := cX5_bits) (maxL := 4) (by decide) rfl (Nat.le_of_ble_eq_true rfl) rfl rfl ?_
  intro p e s m args below meth c A ls Q hx hb hml hts hown hK hP hD hA hS hl hret
  have hl : lv_has ls 4 [(0, .long v)] := hl
  refine lv_iconst (v := 0) hx hb dX5_bits_0 (by decide) ?_
  refine lv_istore_n (lv' := [(2, .int 0), (0, .long v)]) hx hb dX5_bits_1 rfl hl (by decide) rfl (fun ls hl => ?_)
  refine lv_iconst (v := 0) hx hb dX5_bits_2 (by decide) ?_
  refine lv_istore_n (lv' := [(3, .int 0), (2, .int 0), (0, .long v)]) hx hb dX5_bits_3 rfl hl (by decide) rfl (fun ls hl => ?_)
  have loop : ∀ (d i : Nat), i + d = 64 → ∀ (q : Nat), q = cntB v i → ∀ (H : Heap) (locs : List Loc) (ls : Array Slot), va_P D vwCl (FW 22 ad (CR cs n ad th nx (σ))) H → va_S A s.heap H locs → lv_has ls 4 [(0, .long v), (2, .int (nI q)), (3, .int (nI i))] → W p l e rmX5_bits s m args below meth c H locs 0 0 Q (F0 m 4 ls []) := by
    intro d
    induction d with
    | zero =>
      intro i hi q hq H locs ls hP hS hl
      obtain rfl : i = 64 := by omega
      obtain ⟨σ1, eσ1⟩ : ∃ z, z = σ := ⟨_, rfl⟩
      have hP : va_P D vwCl (FW 22 ad (CR cs n ad th nx σ1)) H := by rw [eσ1]; exact hP
      refine lv_iload_n hx hb dX5_bits_4 rfl (lv_at hl 2 rfl) ?_
      refine lv_bipush (v := 64) hx hb dX5_bits_5 (by decide) ?_
      refine lv_icmp_ge (tgt := 34) hx hb dX5_bits_7 (by decide) (fun c2 => ?_) (fun c2 => absurd (show (64 : Int32) ≤ nI 64 from Int32.le_refl _) c2)
      refine lv_iload_n hx hb dX5_bits_34 rfl (lv_at hl 1 rfl) ?_
      exact hret _ _ _ _ () _ _ dX5_bits_35 hP hS (by rw [hq]) (by simp only [eσ1]; first | done | rfl)
    | succ d ih =>
      intro i hi q hq H locs ls hP hS hl
      have hi2 : i < 64 := by omega
      obtain ⟨σ3, eσ3⟩ : ∃ z, z = σ := ⟨_, rfl⟩
      have hP : va_P D vwCl (FW 22 ad (CR cs n ad th nx σ3)) H := by rw [eσ3]; exact hP
      refine lv_iload_n hx hb dX5_bits_4 rfl (lv_at hl 2 rfl) ?_
      refine lv_bipush (v := 64) hx hb dX5_bits_5 (by decide) ?_
      refine lv_icmp_ge (tgt := 34) hx hb dX5_bits_7 (by decide) (fun c4 => absurd c4 (nI_ge hi2 (show 64 < 2 ^ 31 by decide))) (fun c4 => ?_)
      refine lv_lload_n hx hb dX5_bits_10 rfl (lv_at hl 0 rfl) ?_
      refine lv_iload_n hx hb dX5_bits_11 rfl (lv_at hl 2 rfl) ?_
      refine lv_lshr (v := v >>> ((nI i).toInt64 &&& 63)) hx hb dX5_bits_12 rfl ?_
      refine lv_lconst (v := 1) hx hb dX5_bits_13 (by decide) ?_
      refine lv_land hx hb dX5_bits_14 ?_
      refine lv_lconst (v := 1) hx hb dX5_bits_15 (by decide) ?_
      refine W.lcmp hx hb dX5_bits_16 ?_
      refine lv_if_ne (tgt := 26) hx hb dX5_bits_17 (by decide) (fun c5 => ?_) (fun c5 => ?_)
      · refine lv_iload_n hx hb dX5_bits_26 rfl (lv_at hl 1 rfl) ?_
        refine lv_istore_n (lv' := [(2, .int (nI q)), (0, .long v), (3, .int (nI i))]) hx hb dX5_bits_27 rfl hl (by decide) rfl (fun ls hl => ?_)
        refine lv_iinc (v := nI (i + 1)) (lv' := [(3, .int (nI (i + 1))), (2, .int (nI q)), (0, .long v)]) hx hb dX5_bits_28 hl (k := 2) rfl (nI_1 i) (by decide) rfl (fun ls hl => ?_)
        refine lv_goto (tgt := 4) hx hb dX5_bits_31 (by decide) ?_
        exact ih (i + 1) (by omega) q (by rw [hq]; show _ = cntB v i + (if _ then 1 else 0); rw [if_neg (lcmp_n c5)]; rfl) _ _ _ (by simp only [eσ3] at hP; exact hP) hS (lv_sub hl [2, 1, 0] rfl)
      · refine lv_iload_n hx hb dX5_bits_20 rfl (lv_at hl 1 rfl) ?_
        refine lv_iconst (v := 1) hx hb dX5_bits_21 (by decide) ?_
        refine lv_iadd hx hb dX5_bits_22 ?_
        refine g_top (y := nI (q + 1)) (nI_add _ 1) ?_
        refine lv_goto (tgt := 27) hx hb dX5_bits_23 (by decide) ?_
        refine lv_istore_n (lv' := [(2, .int (nI (q + 1))), (0, .long v), (3, .int (nI i))]) hx hb dX5_bits_27 rfl hl (by decide) rfl (fun ls hl => ?_)
        refine lv_iinc (v := nI (i + 1)) (lv' := [(3, .int (nI (i + 1))), (2, .int (nI (q + 1))), (0, .long v)]) hx hb dX5_bits_28 hl (k := 2) rfl (nI_1 i) (by decide) rfl (fun ls hl => ?_)
        refine lv_goto (tgt := 4) hx hb dX5_bits_31 (by decide) ?_
        exact ih (i + 1) (by omega) (q + 1) (by rw [hq]; show _ = cntB v i + (if _ then 1 else 0); rw [if_pos (lcmp_1 c5)]) _ _ _ (by simp only [eσ3] at hP; exact hP) hS (lv_sub hl [2, 1, 0] rfl)
  exact loop (64) 0 (by omega) 0 rfl _ _ _ (hP) hS (lv_sub hl [2, 1, 0] rfl)

theorem iwX5_told_X5 : ∀ w ∈ wsX50, w ∈ wsX5_told := fun w h => by unfold wsX5_told; simp only [List.mem_cons, List.mem_append, h, true_or, or_true]
theorem lkX5_told_25 : Cond.fieldLink RX5 25 "CoreTransactionsModel" "places" "[I" ∈ wsX5_told := by decide +kernel
theorem lkX5_told_28 : Cond.fieldLink RX5 28 "CoreTransactionsModel" "ended" "[Z" ∈ wsX5_told := by decide +kernel
theorem lkX5_told_32 : Cond.fieldLink RX5 32 "CoreTransactionsModel" "retired" "[I" ∈ wsX5_told := by decide +kernel
theorem lkX5_told_38 : Cond.fieldLink RX5 38 "CoreTransactionsModel" "depths" "[I" ∈ wsX5_told := by decide +kernel
theorem lkX5_told_41 : Cond.fieldLink RX5 41 "CoreTransactionsModel" "ages" "[I" ∈ wsX5_told := by decide +kernel
theorem lkX5_told_53 : Cond.fieldLink RX5 53 "CoreTransactionsModel" "reads" "[I" ∈ wsX5_told := by decide +kernel
theorem lkX5_told_56 : Cond.fieldLink RX5 56 "CoreTransactionsModel" "writes" "[I" ∈ wsX5_told := by decide +kernel
theorem lkX5_told_59 : Cond.fieldLink RX5 59 "CoreTransactionsModel" "stores" "[J" ∈ wsX5_told := by decide +kernel
theorem lkX5_told_66 : Cond.fieldLink RX5 66 "CoreTransactionsModel" "committed" "[I" ∈ wsX5_told := by decide +kernel
theorem lkX5_told_69 : Cond.fieldLink RX5 69 "CoreTransactionsModel" "broken" "[I" ∈ wsX5_told := by decide +kernel
theorem lkX5_told_79 : Cond.fieldLink RX5 79 "CoreTransactionsModel" "cores" "I" ∈ wsX5_told := by decide +kernel
theorem lkX5_told_89 : Cond.fieldLink RX5 89 "CoreTransactionsModel" "thrown" "I" ∈ wsX5_told := by decide +kernel
abbrev rmX5_told : Room := ({ frames := 1, cells := 0, slots := 0, locals := 23 } : Room)
set_option maxRecDepth 100000 in
set_option maxHeartbeats 4000000 in
theorem kX5_told (l : Launch) (D : va_G) (cs : Nat → ClassId) (n : Nat) (ad : Nat → Nat) (th nx : Int32) (σ : St) (hn4 : n ≤ 4) (x y : Int32) (G : Nat) (hI : Inv σ G) : gMi l yX5_told wsX5_told rmX5_told D (tyL cs) 22 ad (CR cs n ad th nx σ) [.ref (ad 0), .int x, .int y] (fun (r : Int32) (u : Int32) => t2 (0 ≤ x ∧ x < nI n) (0 ≤ y ∧ y < 10) = 0 → r = pTold σ (iN x) (iN y)) (fun (u : Int32) => CR cs n ad (t2 (0 ≤ x ∧ x < nI n) (0 ≤ y ∧ y < 10)) u (if t2 (0 ≤ x ∧ x < nI n) (0 ≤ y ∧ y < 10) = 0 then σ else σ)) := by
  refine g_ofi (cc := cX5_told) (maxL := 3) (by decide) rfl (Nat.le_of_ble_eq_true rfl) rfl rfl ?_
  intro p e s m args below meth c A ls Q hx hb hml hts hown hK hP hD hA hS hl hret
  have hl : lv_has ls 3 [(0, .ref (ad 0)), (1, .int x), (2, .int y)] := hl
  refine lv_aload_n hx hb dX5_told_0 rfl (lv_at hl 0 rfl) ?_
  refine lv_iload_n hx hb dX5_told_1 rfl (lv_at hl 1 rfl) ?_
  refine lv_aload_n hx hb dX5_told_2 rfl (lv_at hl 0 rfl) ?_
  refine va_get (D := D) (ci := 5) (v := .int (nI n)) (C := RX5) (T := TX5) (N := 29) hx hb hts iwX5_told_X5 hown hK hP 0 cr_obj rfl 1 (by decide) (hts _ lkX5_told_79) (fun _ h9 => h9) rfl dX5_told_3 ?_
  refine g_csi (As := [.int x, .int (nI n)]) ⟨hx, hb, hml, hown, hts⟩ (kX5_isIn l D cs n ad th nx σ (x) (nI n)) (va_cwS 2 hts gX5_told_X5_isIn rfl rfl rfl (by decide +kernel) ⟨Nat.le_of_ble_eq_true rfl, Nat.le_of_ble_eq_true rfl⟩) hK hP hD hS hA hl.1 dX5_told_6 rfl rfl (Nat.le_of_ble_eq_true rfl) ⟨Nat.zero_le _, Nat.zero_le _⟩ (fun r _ H locs hw hP hS => ?_)
  obtain rfl : r = bI (decide (0 ≤ x ∧ x < nI n)) := hw
  have hP : va_P D vwCl (FW 22 ad (CR cs n ad th nx σ)) H := hP
  refine lv_if_ne (tgt := 16) hx hb dX5_told_9 (by decide) (fun c1 => ?_) (fun c1 => ?_)
  · have hC : (0 ≤ x ∧ x < nI n) := of_decide_eq_true (bI1 c1)
    refine lv_iload_n hx hb dX5_told_16 rfl (lv_at hl 2 rfl) ?_
    refine lv_bipush (v := 10) hx hb dX5_told_17 (by decide) ?_
    refine g_csi (As := [.int y, .int 10]) ⟨hx, hb, hml, hown, hts⟩ (kX5_isIn l D cs n ad th nx σ (y) (10)) (va_cwS 2 hts gX5_told_X5_isIn rfl rfl rfl (by decide +kernel) ⟨Nat.le_of_ble_eq_true rfl, Nat.le_of_ble_eq_true rfl⟩) hK hP hD hS hA hl.1 dX5_told_19 rfl rfl (Nat.le_of_ble_eq_true rfl) ⟨Nat.zero_le _, Nat.zero_le _⟩ (fun r _ H locs hw hP hS => ?_)
    obtain rfl : r = bI (decide (0 ≤ y ∧ y < 10)) := hw
    have hP : va_P D vwCl (FW 22 ad (CR cs n ad th nx σ)) H := hP
    refine lv_if_eq (tgt := 29) hx hb dX5_told_22 (by decide) (fun c2 => ?_) (fun c2 => ?_)
    · have hRy : ¬ (0 ≤ y ∧ y < 10) := of_decide_eq_false (bI0 c2)
      have hT : t2 (0 ≤ x ∧ x < nI n) (0 ≤ y ∧ y < 10) = 2 := t2_2 hC hRy
      refine lv_iconst (v := 2) hx hb dX5_told_29 (by decide) ?_
      refine va_put (D := D) (ci := 5) (v := .int 2) (ty := .int) (C := RX5) (T := TX5) (N := 29) hx hb hts iwX5_told_X5 tyX5 tyX5_ok nmX5 hown hK hP (hD _) hS 0 cr_obj rfl 0 (by decide) (hts _ lkX5_told_89) (fun _ h9 => h9) rfl (by decide +kernel) rfl rfl (Nat.le_of_ble_eq_true rfl) dX5_told_30 (fun H locs hP _ hS => ?_)
      have hP := cru_th hP
      have hP : va_P D vwCl (FW 22 ad (CR cs n ad 2 nx σ)) H := hP
      refine lv_aload_n hx hb dX5_told_33 rfl (lv_at hl 0 rfl) ?_
      refine va_get (D := D) (ci := 5) (v := .int 2) (C := RX5) (T := TX5) (N := 29) hx hb hts iwX5_told_X5 hown hK hP 0 cr_obj rfl 0 (by decide) (hts _ lkX5_told_89) (fun _ h9 => h9) rfl dX5_told_34 ?_
      refine lv_if_le (tgt := 42) hx hb dX5_told_37 (by decide) (fun c3 => absurd c3 (by decide)) (fun c3 => ?_)
      refine lv_iconst (v := 0) hx hb dX5_told_40 (by decide) ?_
      exact hret _ _ _ _ nx _ _ dX5_told_41 hP hS (fun h => absurd (hT.symm.trans h) T2ne) (by rw [hT, if_neg T2ne])
    · have hRy : 0 ≤ y ∧ y < 10 := of_decide_eq_true (bI1 c2)
      have hT : t2 (0 ≤ x ∧ x < nI n) (0 ≤ y ∧ y < 10) = 0 := t2_0 hC hRy
      refine lv_iconst (v := 0) hx hb dX5_told_25 (by decide) ?_
      refine lv_goto (tgt := 30) hx hb dX5_told_26 (by decide) ?_
      refine va_put (D := D) (ci := 5) (v := .int 0) (ty := .int) (C := RX5) (T := TX5) (N := 29) hx hb hts iwX5_told_X5 tyX5 tyX5_ok nmX5 hown hK hP (hD _) hS 0 cr_obj rfl 0 (by decide) (hts _ lkX5_told_89) (fun _ h9 => h9) rfl (by decide +kernel) rfl rfl (Nat.le_of_ble_eq_true rfl) dX5_told_30 (fun H locs hP _ hS => ?_)
      have hP := cru_th hP
      have hP : va_P D vwCl (FW 22 ad (CR cs n ad 0 nx σ)) H := hP
      refine lv_aload_n hx hb dX5_told_33 rfl (lv_at hl 0 rfl) ?_
      refine va_get (D := D) (ci := 5) (v := .int 0) (C := RX5) (T := TX5) (N := 29) hx hb hts iwX5_told_X5 hown hK hP 0 cr_obj rfl 0 (by decide) (hts _ lkX5_told_89) (fun _ h9 => h9) rfl dX5_told_34 ?_
      refine lv_if_le (tgt := 42) hx hb dX5_told_37 (by decide) (fun c4 => ?_) (fun c4 => absurd (by decide) c4)
      obtain ⟨k, hkn, hxk⟩ := i32_of (N := n) (by omega) hC.1 hC.2
      have hk4 : k < 4 := by omega
      have hik : iN x = k := by rw [hxk]; exact iN_nI (by omega)
      obtain ⟨w, hw10, hyw⟩ := i32_of (N := 10) (by decide) hRy.1 hRy.2
      have hiw : iN y = w := by rw [hyw]; exact iN_nI (by omega)
      refine lv_iload_n hx hb dX5_told_42 rfl (lv_at hl 2 rfl) ?_
      rcases (show w = 0 ∨ w = 1 ∨ w = 2 ∨ w = 3 ∨ w = 4 ∨ w = 5 ∨ w = 6 ∨ w = 7 ∨ w = 8 ∨ w = 9 by omega) with hov | hov | hov | hov | hov | hov | hov | hov | hov | hov
      · refine g_top (y := 0) (by rw [hyw, hov]; rfl) ?_
        refine lv_tableIn (tgt := 92) hx hb dX5_told_43 (by decide) (by decide) rfl (by decide) ?_
        refine lv_aload_n hx hb dX5_told_92 rfl (lv_at hl 0 rfl) ?_
        refine va_get (D := D) (ci := 5) (v := .ref (ad 6)) (C := RX5) (T := TX5) (N := 29) hx hb hts iwX5_told_X5 hown hK hP 0 cr_obj rfl 10 (by decide) (hts _ lkX5_told_25) (fun _ h9 => h9) rfl dX5_told_93 ?_
        refine lv_iload_n hx hb dX5_told_96 rfl (lv_at hl 1 rfl) ?_
        refine g_iald (t0 := 0) (v := σ.1 13 k 0) hx hb hK hP cr_places rfl k hxk hk4 (by decide) rfl dX5_told_97 ?_
        exact hret _ _ _ _ nx _ _ dX5_told_98 hP hS (fun _ => by rw [hik, hiw, hov]; simp [pTold]) (by rw [hT, if_pos rfl])
      · refine g_top (y := 1) (by rw [hyw, hov]; rfl) ?_
        refine lv_tableIn (tgt := 99) hx hb dX5_told_43 (by decide) (by decide) rfl (by decide) ?_
        refine lv_aload_n hx hb dX5_told_99 rfl (lv_at hl 0 rfl) ?_
        refine va_get (D := D) (ci := 5) (v := .ref (ad 7)) (C := RX5) (T := TX5) (N := 29) hx hb hts iwX5_told_X5 hown hK hP 0 cr_obj rfl 11 (by decide) (hts _ lkX5_told_28) (fun _ h9 => h9) rfl dX5_told_100 ?_
        refine lv_iload_n hx hb dX5_told_103 rfl (lv_at hl 1 rfl) ?_
        refine g_zald (t0 := 3) (v := σ.1 14 k 0) hx hb hK hP cr_ended rfl k hxk hk4 (by decide) rfl dX5_told_104 ?_
        refine lv_if_eq (tgt := 112) hx hb dX5_told_105 (by decide) (fun c5 => ?_) (fun c5 => ?_)
        · refine lv_iconst (v := 0) hx hb dX5_told_112 (by decide) ?_
          exact hret _ _ _ _ nx _ _ dX5_told_113 hP hS (fun _ => by rw [hik, hiw, hov]; simp [pTold, c5]) (by rw [hT, if_pos rfl])
        · refine lv_iconst (v := 1) hx hb dX5_told_108 (by decide) ?_
          refine lv_goto (tgt := 113) hx hb dX5_told_109 (by decide) ?_
          exact hret _ _ _ _ nx _ _ dX5_told_113 hP hS (fun _ => by rw [hik, hiw, hov]; simp [pTold, c5]) (by rw [hT, if_pos rfl])
      · refine g_top (y := 2) (by rw [hyw, hov]; rfl) ?_
        refine lv_tableIn (tgt := 114) hx hb dX5_told_43 (by decide) (by decide) rfl (by decide) ?_
        refine lv_aload_n hx hb dX5_told_114 rfl (lv_at hl 0 rfl) ?_
        refine va_get (D := D) (ci := 5) (v := .ref (ad 8)) (C := RX5) (T := TX5) (N := 29) hx hb hts iwX5_told_X5 hown hK hP 0 cr_obj rfl 12 (by decide) (hts _ lkX5_told_32) (fun _ h9 => h9) rfl dX5_told_115 ?_
        refine lv_iload_n hx hb dX5_told_118 rfl (lv_at hl 1 rfl) ?_
        refine g_iald (t0 := 0) (v := σ.1 15 k 0) hx hb hK hP cr_retired rfl k hxk hk4 (by decide) rfl dX5_told_119 ?_
        exact hret _ _ _ _ nx _ _ dX5_told_120 hP hS (fun _ => by rw [hik, hiw, hov]; simp [pTold]) (by rw [hT, if_pos rfl])
      · refine g_top (y := 3) (by rw [hyw, hov]; rfl) ?_
        refine lv_tableIn (tgt := 121) hx hb dX5_told_43 (by decide) (by decide) rfl (by decide) ?_
        refine lv_aload_n hx hb dX5_told_121 rfl (lv_at hl 0 rfl) ?_
        refine va_get (D := D) (ci := 5) (v := .ref (ad 10)) (C := RX5) (T := TX5) (N := 29) hx hb hts iwX5_told_X5 hown hK hP 0 cr_obj rfl 14 (by decide) (hts _ lkX5_told_38) (fun _ h9 => h9) rfl dX5_told_122 ?_
        refine lv_iload_n hx hb dX5_told_125 rfl (lv_at hl 1 rfl) ?_
        refine g_iald (t0 := 0) (v := σ.1 18 k 0) hx hb hK hP cr_depths rfl k hxk hk4 (by decide) rfl dX5_told_126 ?_
        exact hret _ _ _ _ nx _ _ dX5_told_127 hP hS (fun _ => by rw [hik, hiw, hov]; simp [pTold]) (by rw [hT, if_pos rfl])
      · refine g_top (y := 4) (by rw [hyw, hov]; rfl) ?_
        refine lv_tableIn (tgt := 128) hx hb dX5_told_43 (by decide) (by decide) rfl (by decide) ?_
        refine lv_aload_n hx hb dX5_told_128 rfl (lv_at hl 0 rfl) ?_
        refine va_get (D := D) (ci := 5) (v := .ref (ad 11)) (C := RX5) (T := TX5) (N := 29) hx hb hts iwX5_told_X5 hown hK hP 0 cr_obj rfl 15 (by decide) (hts _ lkX5_told_41) (fun _ h9 => h9) rfl dX5_told_129 ?_
        refine lv_iload_n hx hb dX5_told_132 rfl (lv_at hl 1 rfl) ?_
        refine g_iald (t0 := 0) (v := σ.1 19 k 0) hx hb hK hP cr_ages rfl k hxk hk4 (by decide) rfl dX5_told_133 ?_
        exact hret _ _ _ _ nx _ _ dX5_told_134 hP hS (fun _ => by rw [hik, hiw, hov]; simp [pTold]) (by rw [hT, if_pos rfl])
      · refine g_top (y := 5) (by rw [hyw, hov]; rfl) ?_
        refine lv_tableIn (tgt := 135) hx hb dX5_told_43 (by decide) (by decide) rfl (by decide) ?_
        refine lv_aload_n hx hb dX5_told_135 rfl (lv_at hl 0 rfl) ?_
        refine va_get (D := D) (ci := 5) (v := .ref (ad 15)) (C := RX5) (T := TX5) (N := 29) hx hb hts iwX5_told_X5 hown hK hP 0 cr_obj rfl 19 (by decide) (hts _ lkX5_told_53) (fun _ h9 => h9) rfl dX5_told_136 ?_
        refine lv_iload_n hx hb dX5_told_139 rfl (lv_at hl 1 rfl) ?_
        refine g_iald (t0 := 0) (v := σ.1 22 k 0) hx hb hK hP cr_reads rfl k hxk hk4 (by decide) rfl dX5_told_140 ?_
        refine lv_i2l (v := (σ.1 22 k 0).toInt64) hx hb dX5_told_141 rfl ?_
        refine g_csi (As := [.long ((σ.1 22 k 0).toInt64)]) ⟨hx, hb, hml, hown, hts⟩ (kX5_bits l D cs n ad 0 nx σ ((σ.1 22 k 0).toInt64)) (va_cwS 1 hts gX5_told_X5_bits rfl rfl rfl (by decide +kernel) ⟨Nat.le_of_ble_eq_true rfl, Nat.le_of_ble_eq_true rfl⟩) hK hP hD hS hA hl.1 dX5_told_142 rfl rfl (Nat.le_of_ble_eq_true rfl) ⟨Nat.zero_le _, Nat.zero_le _⟩ (fun r _ H locs hw hP hS => ?_)
        obtain rfl : r = nI (cntB ((σ.1 22 k 0).toInt64) 64) := hw
        have hP : va_P D vwCl (FW 22 ad (CR cs n ad 0 nx σ)) H := hP
        exact hret _ _ _ _ nx _ _ dX5_told_145 hP hS (fun _ => by rw [hik, hiw, hov]; simp [pTold]) (by rw [hT, if_pos rfl])
      · refine g_top (y := 6) (by rw [hyw, hov]; rfl) ?_
        refine lv_tableIn (tgt := 146) hx hb dX5_told_43 (by decide) (by decide) rfl (by decide) ?_
        refine lv_aload_n hx hb dX5_told_146 rfl (lv_at hl 0 rfl) ?_
        refine va_get (D := D) (ci := 5) (v := .ref (ad 16)) (C := RX5) (T := TX5) (N := 29) hx hb hts iwX5_told_X5 hown hK hP 0 cr_obj rfl 20 (by decide) (hts _ lkX5_told_56) (fun _ h9 => h9) rfl dX5_told_147 ?_
        refine lv_iload_n hx hb dX5_told_150 rfl (lv_at hl 1 rfl) ?_
        refine g_iald (t0 := 0) (v := σ.1 23 k 0) hx hb hK hP cr_writes rfl k hxk hk4 (by decide) rfl dX5_told_151 ?_
        refine lv_i2l (v := (σ.1 23 k 0).toInt64) hx hb dX5_told_152 rfl ?_
        refine g_csi (As := [.long ((σ.1 23 k 0).toInt64)]) ⟨hx, hb, hml, hown, hts⟩ (kX5_bits l D cs n ad 0 nx σ ((σ.1 23 k 0).toInt64)) (va_cwS 1 hts gX5_told_X5_bits rfl rfl rfl (by decide +kernel) ⟨Nat.le_of_ble_eq_true rfl, Nat.le_of_ble_eq_true rfl⟩) hK hP hD hS hA hl.1 dX5_told_153 rfl rfl (Nat.le_of_ble_eq_true rfl) ⟨Nat.zero_le _, Nat.zero_le _⟩ (fun r _ H locs hw hP hS => ?_)
        obtain rfl : r = nI (cntB ((σ.1 23 k 0).toInt64) 64) := hw
        have hP : va_P D vwCl (FW 22 ad (CR cs n ad 0 nx σ)) H := hP
        exact hret _ _ _ _ nx _ _ dX5_told_156 hP hS (fun _ => by rw [hik, hiw, hov]; simp [pTold]) (by rw [hT, if_pos rfl])
      · refine g_top (y := 7) (by rw [hyw, hov]; rfl) ?_
        refine lv_tableIn (tgt := 157) hx hb dX5_told_43 (by decide) (by decide) rfl (by decide) ?_
        refine lv_aload_n hx hb dX5_told_157 rfl (lv_at hl 0 rfl) ?_
        refine va_get (D := D) (ci := 5) (v := .ref (ad 17)) (C := RX5) (T := TX5) (N := 29) hx hb hts iwX5_told_X5 hown hK hP 0 cr_obj rfl 21 (by decide) (hts _ lkX5_told_59) (fun _ h9 => h9) rfl dX5_told_158 ?_
        refine lv_iload_n hx hb dX5_told_161 rfl (lv_at hl 1 rfl) ?_
        refine g_lald (t0 := 2) (v := σ.2 k) hx hb hK hP cr_stores rfl k hxk hk4 (by decide) rfl dX5_told_162 ?_
        refine g_csi (As := [.long (σ.2 k)]) ⟨hx, hb, hml, hown, hts⟩ (kX5_bits l D cs n ad 0 nx σ (σ.2 k)) (va_cwS 1 hts gX5_told_X5_bits rfl rfl rfl (by decide +kernel) ⟨Nat.le_of_ble_eq_true rfl, Nat.le_of_ble_eq_true rfl⟩) hK hP hD hS hA hl.1 dX5_told_163 rfl rfl (Nat.le_of_ble_eq_true rfl) ⟨Nat.zero_le _, Nat.zero_le _⟩ (fun r _ H locs hw hP hS => ?_)
        obtain rfl : r = nI (cntB (σ.2 k) 64) := hw
        have hP : va_P D vwCl (FW 22 ad (CR cs n ad 0 nx σ)) H := hP
        exact hret _ _ _ _ nx _ _ dX5_told_166 hP hS (fun _ => by rw [hik, hiw, hov]; simp [pTold]) (by rw [hT, if_pos rfl])
      · refine g_top (y := 8) (by rw [hyw, hov]; rfl) ?_
        refine lv_tableIn (tgt := 167) hx hb dX5_told_43 (by decide) (by decide) rfl (by decide) ?_
        refine lv_aload_n hx hb dX5_told_167 rfl (lv_at hl 0 rfl) ?_
        refine va_get (D := D) (ci := 5) (v := .ref (ad 19)) (C := RX5) (T := TX5) (N := 29) hx hb hts iwX5_told_X5 hown hK hP 0 cr_obj rfl 23 (by decide) (hts _ lkX5_told_66) (fun _ h9 => h9) rfl dX5_told_168 ?_
        refine lv_iload_n hx hb dX5_told_171 rfl (lv_at hl 1 rfl) ?_
        refine g_iald (t0 := 0) (v := σ.1 16 k 0) hx hb hK hP cr_committed rfl k hxk hk4 (by decide) rfl dX5_told_172 ?_
        exact hret _ _ _ _ nx _ _ dX5_told_173 hP hS (fun _ => by rw [hik, hiw, hov]; simp [pTold]) (by rw [hT, if_pos rfl])
      · refine g_top (y := 9) (by rw [hyw, hov]; rfl) ?_
        refine lv_tableOut (tgt := 174) hx hb dX5_told_43 (Or.inr (by decide)) (by decide) ?_
        refine lv_aload_n hx hb dX5_told_174 rfl (lv_at hl 0 rfl) ?_
        refine va_get (D := D) (ci := 5) (v := .ref (ad 20)) (C := RX5) (T := TX5) (N := 29) hx hb hts iwX5_told_X5 hown hK hP 0 cr_obj rfl 24 (by decide) (hts _ lkX5_told_69) (fun _ h9 => h9) rfl dX5_told_175 ?_
        refine lv_iload_n hx hb dX5_told_178 rfl (lv_at hl 1 rfl) ?_
        refine g_iald (t0 := 0) (v := σ.1 17 k 0) hx hb hK hP cr_broken rfl k hxk hk4 (by decide) rfl dX5_told_179 ?_
        exact hret _ _ _ _ nx _ _ dX5_told_180 hP hS (fun _ => by rw [hik, hiw, hov]; simp [pTold]) (by rw [hT, if_pos rfl])
  · have hC : ¬ (0 ≤ x ∧ x < nI n) := of_decide_eq_false (bI0 c1)
    have hT : t2 (0 ≤ x ∧ x < nI n) (0 ≤ y ∧ y < 10) = 1 := t2_1 hC
    refine lv_iconst (v := 1) hx hb dX5_told_12 (by decide) ?_
    refine lv_goto (tgt := 30) hx hb dX5_told_13 (by decide) ?_
    refine va_put (D := D) (ci := 5) (v := .int 1) (ty := .int) (C := RX5) (T := TX5) (N := 29) hx hb hts iwX5_told_X5 tyX5 tyX5_ok nmX5 hown hK hP (hD _) hS 0 cr_obj rfl 0 (by decide) (hts _ lkX5_told_89) (fun _ h9 => h9) rfl (by decide +kernel) rfl rfl (Nat.le_of_ble_eq_true rfl) dX5_told_30 (fun H locs hP _ hS => ?_)
    have hP := cru_th hP
    have hP : va_P D vwCl (FW 22 ad (CR cs n ad 1 nx σ)) H := hP
    refine lv_aload_n hx hb dX5_told_33 rfl (lv_at hl 0 rfl) ?_
    refine va_get (D := D) (ci := 5) (v := .int 1) (C := RX5) (T := TX5) (N := 29) hx hb hts iwX5_told_X5 hown hK hP 0 cr_obj rfl 0 (by decide) (hts _ lkX5_told_89) (fun _ h9 => h9) rfl dX5_told_34 ?_
    refine lv_if_le (tgt := 42) hx hb dX5_told_37 (by decide) (fun c6 => absurd c6 (by decide)) (fun c6 => ?_)
    refine lv_iconst (v := 0) hx hb dX5_told_40 (by decide) ?_
    exact hret _ _ _ _ nx _ _ dX5_told_41 hP hS (fun h => absurd (hT.symm.trans h) T1ne) (by rw [hT, if_neg T1ne])

theorem iwX5_records_X5 : ∀ w ∈ wsX50, w ∈ wsX5_records := fun w h => by unfold wsX5_records; simp only [List.mem_cons, List.mem_append, h, true_or, or_true]
theorem lkX5_records_89 : Cond.fieldLink RX5 89 "CoreTransactionsModel" "thrown" "I" ∈ wsX5_records := by decide +kernel
theorem lkX5_records_121 : Cond.fieldLink RX5 121 "CoreTransactionsModel" "recordCount" "I" ∈ wsX5_records := by decide +kernel
abbrev rmX5_records : Room := ({ frames := 0, cells := 0, slots := 0, locals := 0 } : Room)
set_option maxRecDepth 100000 in
set_option maxHeartbeats 4000000 in
theorem kX5_records (l : Launch) (D : va_G) (cs : Nat → ClassId) (n : Nat) (ad : Nat → Nat) (th nx : Int32) (σ : St)  : gMi l yX5_records wsX5_records rmX5_records D (tyL cs) 22 ad (CR cs n ad th nx σ) [.ref (ad 0)] (fun (r : Int32) (u : Int32) => r = σ.1 7 0 0) (fun (u : Int32) => CR cs n ad 0 u σ) := by
  refine g_ofi (cc := cX5_records) (maxL := 1) (by decide) rfl (Nat.le_of_ble_eq_true rfl) rfl rfl ?_
  intro p e s m args below meth c A ls Q hx hb hml hts hown hK hP hD hA hS hl hret
  have hl : lv_has ls 1 [(0, .ref (ad 0))] := hl
  refine lv_aload_n hx hb dX5_records_0 rfl (lv_at hl 0 rfl) ?_
  refine lv_iconst (v := 0) hx hb dX5_records_1 (by decide) ?_
  refine va_put (D := D) (ci := 5) (v := .int 0) (ty := .int) (C := RX5) (T := TX5) (N := 29) hx hb hts iwX5_records_X5 tyX5 tyX5_ok nmX5 hown hK hP (hD _) hS 0 cr_obj rfl 0 (by decide) (hts _ lkX5_records_89) (fun _ h9 => h9) rfl (by decide +kernel) rfl rfl (Nat.le_of_ble_eq_true rfl) dX5_records_2 (fun H locs hP _ hS => ?_)
  have hP := cru_th hP
  have hP : va_P D vwCl (FW 22 ad (CR cs n ad 0 nx σ)) H := hP
  refine lv_aload_n hx hb dX5_records_5 rfl (lv_at hl 0 rfl) ?_
  refine va_get (D := D) (ci := 5) (v := .int (σ.1 7 0 0)) (C := RX5) (T := TX5) (N := 29) hx hb hts iwX5_records_X5 hown hK hP 0 cr_obj rfl 26 (by decide) (hts _ lkX5_records_121) (fun _ h9 => h9) rfl dX5_records_6 ?_
  exact hret _ _ _ _ nx _ _ dX5_records_9 hP hS (rfl) (rfl)

theorem iwX5_record_X5 : ∀ w ∈ wsX50, w ∈ wsX5_record := fun w h => by unfold wsX5_record; simp only [List.mem_cons, List.mem_append, h, true_or, or_true]
theorem lkX5_record_72 : Cond.fieldLink RX5 72 "CoreTransactionsModel" "recordCells" "[I" ∈ wsX5_record := by decide +kernel
theorem lkX5_record_89 : Cond.fieldLink RX5 89 "CoreTransactionsModel" "thrown" "I" ∈ wsX5_record := by decide +kernel
theorem lkX5_record_121 : Cond.fieldLink RX5 121 "CoreTransactionsModel" "recordCount" "I" ∈ wsX5_record := by decide +kernel
abbrev rmX5_record : Room := ({ frames := 1, cells := 0, slots := 0, locals := 21 } : Room)
set_option maxRecDepth 100000 in
set_option maxHeartbeats 4000000 in
theorem kX5_record (l : Launch) (D : va_G) (cs : Nat → ClassId) (n : Nat) (ad : Nat → Nat) (th nx : Int32) (σ : St) (hn4 : n ≤ 4) (x y : Int32) (G : Nat) (hI : Inv σ G) : gMi l yX5_record wsX5_record rmX5_record D (tyL cs) 22 ad (CR cs n ad th nx σ) [.ref (ad 0), .int x, .int y] (fun (r : Int32) (u : Int32) => t2 (0 ≤ x ∧ x < σ.1 7 0 0) (0 ≤ y ∧ y < 4) = 0 → r = σ.1 24 0 (4 * iN x + iN y)) (fun (u : Int32) => CR cs n ad (t2 (0 ≤ x ∧ x < σ.1 7 0 0) (0 ≤ y ∧ y < 4)) u (if t2 (0 ≤ x ∧ x < σ.1 7 0 0) (0 ≤ y ∧ y < 4) = 0 then σ else σ)) := by
  refine g_ofi (cc := cX5_record) (maxL := 3) (by decide) rfl (Nat.le_of_ble_eq_true rfl) rfl rfl ?_
  intro p e s m args below meth c A ls Q hx hb hml hts hown hK hP hD hA hS hl hret
  have hl : lv_has ls 3 [(0, .ref (ad 0)), (1, .int x), (2, .int y)] := hl
  refine lv_aload_n hx hb dX5_record_0 rfl (lv_at hl 0 rfl) ?_
  refine lv_iload_n hx hb dX5_record_1 rfl (lv_at hl 1 rfl) ?_
  refine lv_aload_n hx hb dX5_record_2 rfl (lv_at hl 0 rfl) ?_
  refine va_get (D := D) (ci := 5) (v := .int (σ.1 7 0 0)) (C := RX5) (T := TX5) (N := 29) hx hb hts iwX5_record_X5 hown hK hP 0 cr_obj rfl 26 (by decide) (hts _ lkX5_record_121) (fun _ h9 => h9) rfl dX5_record_3 ?_
  refine g_csi (As := [.int x, .int (σ.1 7 0 0)]) ⟨hx, hb, hml, hown, hts⟩ (kX5_isIn l D cs n ad th nx σ (x) (σ.1 7 0 0)) (va_cwS 2 hts gX5_record_X5_isIn rfl rfl rfl (by decide +kernel) ⟨Nat.le_of_ble_eq_true rfl, Nat.le_of_ble_eq_true rfl⟩) hK hP hD hS hA hl.1 dX5_record_6 rfl rfl (Nat.le_of_ble_eq_true rfl) ⟨Nat.zero_le _, Nat.zero_le _⟩ (fun r _ H locs hw hP hS => ?_)
  obtain rfl : r = bI (decide (0 ≤ x ∧ x < σ.1 7 0 0)) := hw
  have hP : va_P D vwCl (FW 22 ad (CR cs n ad th nx σ)) H := hP
  refine lv_if_ne (tgt := 16) hx hb dX5_record_9 (by decide) (fun c1 => ?_) (fun c1 => ?_)
  · have hC : 0 ≤ x ∧ x < σ.1 7 0 0 := of_decide_eq_true (bI1 c1)
    refine lv_iload_n hx hb dX5_record_16 rfl (lv_at hl 2 rfl) ?_
    refine lv_iconst (v := 4) hx hb dX5_record_17 (by decide) ?_
    refine g_csi (As := [.int y, .int 4]) ⟨hx, hb, hml, hown, hts⟩ (kX5_isIn l D cs n ad th nx σ (y) (4)) (va_cwS 2 hts gX5_record_X5_isIn rfl rfl rfl (by decide +kernel) ⟨Nat.le_of_ble_eq_true rfl, Nat.le_of_ble_eq_true rfl⟩) hK hP hD hS hA hl.1 dX5_record_18 rfl rfl (Nat.le_of_ble_eq_true rfl) ⟨Nat.zero_le _, Nat.zero_le _⟩ (fun r _ H locs hw hP hS => ?_)
    obtain rfl : r = bI (decide (0 ≤ y ∧ y < 4)) := hw
    have hP : va_P D vwCl (FW 22 ad (CR cs n ad th nx σ)) H := hP
    refine lv_if_eq (tgt := 28) hx hb dX5_record_21 (by decide) (fun c2 => ?_) (fun c2 => ?_)
    · have hRy : ¬ (0 ≤ y ∧ y < 4) := of_decide_eq_false (bI0 c2)
      have hT : t2 (0 ≤ x ∧ x < σ.1 7 0 0) (0 ≤ y ∧ y < 4) = 2 := t2_2 hC hRy
      refine lv_iconst (v := 2) hx hb dX5_record_28 (by decide) ?_
      refine va_put (D := D) (ci := 5) (v := .int 2) (ty := .int) (C := RX5) (T := TX5) (N := 29) hx hb hts iwX5_record_X5 tyX5 tyX5_ok nmX5 hown hK hP (hD _) hS 0 cr_obj rfl 0 (by decide) (hts _ lkX5_record_89) (fun _ h9 => h9) rfl (by decide +kernel) rfl rfl (Nat.le_of_ble_eq_true rfl) dX5_record_29 (fun H locs hP _ hS => ?_)
      have hP := cru_th hP
      have hP : va_P D vwCl (FW 22 ad (CR cs n ad 2 nx σ)) H := hP
      refine lv_aload_n hx hb dX5_record_32 rfl (lv_at hl 0 rfl) ?_
      refine va_get (D := D) (ci := 5) (v := .int 2) (C := RX5) (T := TX5) (N := 29) hx hb hts iwX5_record_X5 hown hK hP 0 cr_obj rfl 0 (by decide) (hts _ lkX5_record_89) (fun _ h9 => h9) rfl dX5_record_33 ?_
      refine lv_if_le (tgt := 43) hx hb dX5_record_36 (by decide) (fun c3 => absurd c3 (by decide)) (fun c3 => ?_)
      refine lv_iconst (v := 0) hx hb dX5_record_39 (by decide) ?_
      refine lv_goto (tgt := 53) hx hb dX5_record_40 (by decide) ?_
      exact hret _ _ _ _ nx _ _ dX5_record_53 hP hS (fun h => absurd (hT.symm.trans h) T2ne) (by rw [hT, if_neg T2ne])
    · have hRy : 0 ≤ y ∧ y < 4 := of_decide_eq_true (bI1 c2)
      have hT : t2 (0 ≤ x ∧ x < σ.1 7 0 0) (0 ≤ y ∧ y < 4) = 0 := t2_0 hC hRy
      refine lv_iconst (v := 0) hx hb dX5_record_24 (by decide) ?_
      refine lv_goto (tgt := 29) hx hb dX5_record_25 (by decide) ?_
      refine va_put (D := D) (ci := 5) (v := .int 0) (ty := .int) (C := RX5) (T := TX5) (N := 29) hx hb hts iwX5_record_X5 tyX5 tyX5_ok nmX5 hown hK hP (hD _) hS 0 cr_obj rfl 0 (by decide) (hts _ lkX5_record_89) (fun _ h9 => h9) rfl (by decide +kernel) rfl rfl (Nat.le_of_ble_eq_true rfl) dX5_record_29 (fun H locs hP _ hS => ?_)
      have hP := cru_th hP
      have hP : va_P D vwCl (FW 22 ad (CR cs n ad 0 nx σ)) H := hP
      refine lv_aload_n hx hb dX5_record_32 rfl (lv_at hl 0 rfl) ?_
      refine va_get (D := D) (ci := 5) (v := .int 0) (C := RX5) (T := TX5) (N := 29) hx hb hts iwX5_record_X5 hown hK hP 0 cr_obj rfl 0 (by decide) (hts _ lkX5_record_89) (fun _ h9 => h9) rfl dX5_record_33 ?_
      refine lv_if_le (tgt := 43) hx hb dX5_record_36 (by decide) (fun c4 => ?_) (fun c4 => absurd (by decide) c4)
      obtain ⟨o9, q, ho2, hq2, ho, hq, hring⟩ := hI.2.2.2.1
      obtain ⟨i, hiq, hxi⟩ := i32_of (N := q) (by omega) hC.1 (by rw [← hq]; exact hC.2)
      have hii : iN x = i := by rw [hxi]; exact iN_nI (by omega)
      obtain ⟨j, hj, hyj⟩ := i32_of (N := 4) (by decide) hRy.1 hRy.2
      have hij : iN y = j := by rw [hyj]; exact iN_nI (by omega)
      refine lv_aload_n hx hb dX5_record_43 rfl (lv_at hl 0 rfl) ?_
      refine va_get (D := D) (ci := 5) (v := .ref (ad 21)) (C := RX5) (T := TX5) (N := 29) hx hb hts iwX5_record_X5 hown hK hP 0 cr_obj rfl 27 (by decide) (hts _ lkX5_record_72) (fun _ h9 => h9) rfl dX5_record_44 ?_
      refine lv_iconst (v := 4) hx hb dX5_record_47 (by decide) ?_
      refine lv_iload_n hx hb dX5_record_48 rfl (lv_at hl 1 rfl) ?_
      refine g_top (y := nI i) (hxi) ?_
      refine lv_imul hx hb dX5_record_49 ?_
      refine g_top (y := nI (4 * i)) (nI_4 i) ?_
      refine lv_iload_n hx hb dX5_record_50 rfl (lv_at hl 2 rfl) ?_
      refine g_top (y := nI j) (hyj) ?_
      refine lv_iadd hx hb dX5_record_51 ?_
      refine g_top (y := nI (4 * i + j)) (nI_add _ _) ?_
      refine g_iald (t0 := 0) (v := σ.1 24 0 (4 * i + j)) hx hb hK hP cr_recs rfl (4 * i + j) rfl (by omega) (by decide) rfl dX5_record_52 ?_
      exact hret _ _ _ _ nx _ _ dX5_record_53 hP hS (fun _ => by rw [hii, hij]) (by rw [hT, if_pos rfl]; first | done | (rfl))
  · have hC : ¬ (0 ≤ x ∧ x < σ.1 7 0 0) := of_decide_eq_false (bI0 c1)
    have hT : t2 (0 ≤ x ∧ x < σ.1 7 0 0) (0 ≤ y ∧ y < 4) = 1 := t2_1 hC
    refine lv_iconst (v := 1) hx hb dX5_record_12 (by decide) ?_
    refine lv_goto (tgt := 29) hx hb dX5_record_13 (by decide) ?_
    refine va_put (D := D) (ci := 5) (v := .int 1) (ty := .int) (C := RX5) (T := TX5) (N := 29) hx hb hts iwX5_record_X5 tyX5 tyX5_ok nmX5 hown hK hP (hD _) hS 0 cr_obj rfl 0 (by decide) (hts _ lkX5_record_89) (fun _ h9 => h9) rfl (by decide +kernel) rfl rfl (Nat.le_of_ble_eq_true rfl) dX5_record_29 (fun H locs hP _ hS => ?_)
    have hP := cru_th hP
    have hP : va_P D vwCl (FW 22 ad (CR cs n ad 1 nx σ)) H := hP
    refine lv_aload_n hx hb dX5_record_32 rfl (lv_at hl 0 rfl) ?_
    refine va_get (D := D) (ci := 5) (v := .int 1) (C := RX5) (T := TX5) (N := 29) hx hb hts iwX5_record_X5 hown hK hP 0 cr_obj rfl 0 (by decide) (hts _ lkX5_record_89) (fun _ h9 => h9) rfl dX5_record_33 ?_
    refine lv_if_le (tgt := 43) hx hb dX5_record_36 (by decide) (fun c5 => absurd c5 (by decide)) (fun c5 => ?_)
    refine lv_iconst (v := 0) hx hb dX5_record_39 (by decide) ?_
    refine lv_goto (tgt := 53) hx hb dX5_record_40 (by decide) ?_
    exact hret _ _ _ _ nx _ _ dX5_record_53 hP hS (fun h => absurd (hT.symm.trans h) T1ne) (by rw [hT, if_neg T1ne])

theorem ush16 (x : Int32) : (x.toUInt32 >>> ((16 : Int32).toUInt32 &&& Int32.toUInt32 31)).toInt32 = nI (x.toBitVec.toNat / 65536) := by
  have h := pk_ushr x 16 16 (by decide)
  apply Int32.toBitVec_inj.mp
  apply BitVec.eq_of_toNat_eq
  rw [h]
  have hx : x.toBitVec.toNat < 2 ^ 32 := x.toBitVec.isLt
  exact (pk_tn (n := x.toBitVec.toNat / 65536) (by omega)).symm
theorem rcore_e {x : Int32} {n : Nat} (hn : 0 < n) (hn4 : n ≤ 4) : nI (x.toBitVec.toNat / 65536) - nI (x.toBitVec.toNat / 65536) / nI n * nI n = nI (rcore x n) := by
  have hx : x.toBitVec.toNat < 2 ^ 32 := x.toBitVec.isLt
  exact pk_rem (by omega) hn (by omega)
theorem iwX5_pick_X5 : ∀ w ∈ wsX50, w ∈ wsX5_pick := fun w h => by unfold wsX5_pick; simp only [List.mem_cons, List.mem_append, h, true_or, or_true]
theorem lkX5_pick_28 : Cond.fieldLink RX5 28 "CoreTransactionsModel" "ended" "[Z" ∈ wsX5_pick := by decide +kernel
theorem lkX5_pick_79 : Cond.fieldLink RX5 79 "CoreTransactionsModel" "cores" "I" ∈ wsX5_pick := by decide +kernel
theorem lkX5_pick_89 : Cond.fieldLink RX5 89 "CoreTransactionsModel" "thrown" "I" ∈ wsX5_pick := by decide +kernel
abbrev rmX5_pick : Room := ({ frames := 7, cells := 0, slots := 0, locals := 164 } : Room)
set_option maxRecDepth 100000 in
set_option maxHeartbeats 4000000 in
theorem kX5_pick (l : Launch) (D : va_G) (cs : Nat → ClassId) (n : Nat) (ad : Nat → Nat) (th nx : Int32) (σ : St) (hn4 : n ≤ 4) (x y : Int32) (G : Nat) (hI : Inv σ G) (hG : G + 2000 < 2 ^ 30) : gMi l yX5_pick wsX5_pick rmX5_pick D (tyL cs) 22 ad (CR cs n ad th nx σ) [.ref (ad 0), .int x, .int y] (fun (r : Int32) (u : Int32) => t2 (0 ≤ x ∧ x < nI n) (0 ≤ y ∧ y ≤ 2000) = 0 → r = (pPick n (iN x) (iN y) 0 σ).2) (fun (u : Int32) => CR cs n ad (t2 (0 ≤ x ∧ x < nI n) (0 ≤ y ∧ y ≤ 2000)) u (if t2 (0 ≤ x ∧ x < nI n) (0 ≤ y ∧ y ≤ 2000) = 0 then (pPick n (iN x) (iN y) 0 σ).1 else σ)) := by
  refine g_ofi (cc := cX5_pick) (maxL := 5) (by decide) rfl (Nat.le_of_ble_eq_true rfl) rfl rfl ?_
  intro p e s m args below meth c A ls Q hx hb hml hts hown hK hP hD hA hS hl hret
  have hl : lv_has ls 5 [(0, .ref (ad 0)), (1, .int x), (2, .int y)] := hl
  refine lv_aload_n hx hb dX5_pick_0 rfl (lv_at hl 0 rfl) ?_
  refine lv_iload_n hx hb dX5_pick_1 rfl (lv_at hl 1 rfl) ?_
  refine lv_aload_n hx hb dX5_pick_2 rfl (lv_at hl 0 rfl) ?_
  refine va_get (D := D) (ci := 5) (v := .int (nI n)) (C := RX5) (T := TX5) (N := 29) hx hb hts iwX5_pick_X5 hown hK hP 0 cr_obj rfl 1 (by decide) (hts _ lkX5_pick_79) (fun _ h9 => h9) rfl dX5_pick_3 ?_
  refine g_csi (As := [.int x, .int (nI n)]) ⟨hx, hb, hml, hown, hts⟩ (kX5_isIn l D cs n ad th nx σ (x) (nI n)) (va_cwS 2 hts gX5_pick_X5_isIn rfl rfl rfl (by decide +kernel) ⟨Nat.le_of_ble_eq_true rfl, Nat.le_of_ble_eq_true rfl⟩) hK hP hD hS hA hl.1 dX5_pick_6 rfl rfl (Nat.le_of_ble_eq_true rfl) ⟨Nat.zero_le _, Nat.zero_le _⟩ (fun r _ H locs hw hP hS => ?_)
  obtain rfl : r = bI (decide (0 ≤ x ∧ x < nI n)) := hw
  have hP : va_P D vwCl (FW 22 ad (CR cs n ad th nx σ)) H := hP
  refine lv_if_ne (tgt := 16) hx hb dX5_pick_9 (by decide) (fun c1 => ?_) (fun c1 => ?_)
  · have hC : (0 ≤ x ∧ x < nI n) := of_decide_eq_true (bI1 c1)
    refine lv_iload_n hx hb dX5_pick_16 rfl (lv_at hl 2 rfl) ?_
    refine lv_if_lt (tgt := 27) hx hb dX5_pick_17 (by decide) (fun c2 => ?_) (fun c2 => ?_)
    · have hT : t2 (0 ≤ x ∧ x < nI n) (0 ≤ y ∧ y ≤ 2000) = 2 := t2_2 hC (fun h => absurd h.1 (Int32.not_le.mpr c2))
      refine lv_iconst (v := 2) hx hb dX5_pick_27 (by decide) ?_
      refine lv_goto (tgt := 32) hx hb dX5_pick_28 (by decide) ?_
      refine va_put (D := D) (ci := 5) (v := .int 2) (ty := .int) (C := RX5) (T := TX5) (N := 29) hx hb hts iwX5_pick_X5 tyX5 tyX5_ok nmX5 hown hK hP (hD _) hS 0 cr_obj rfl 0 (by decide) (hts _ lkX5_pick_89) (fun _ h9 => h9) rfl (by decide +kernel) rfl rfl (Nat.le_of_ble_eq_true rfl) dX5_pick_32 (fun H locs hP _ hS => ?_)
      have hP := cru_th hP
      have hP : va_P D vwCl (FW 22 ad (CR cs n ad 2 nx σ)) H := hP
      refine lv_iconst (v := 0) hx hb dX5_pick_35 (by decide) ?_
      refine lv_istore_n (lv' := [(3, .int 0), (0, .ref (ad 0)), (1, .int x), (2, .int y)]) hx hb dX5_pick_36 rfl hl (by decide) rfl (fun ls hl => ?_)
      refine lv_iconst (v := 0) hx hb dX5_pick_37 (by decide) ?_
      refine lv_istore (lv' := [(4, .int 0), (3, .int 0), (0, .ref (ad 0)), (1, .int x), (2, .int y)]) hx hb dX5_pick_38 hl (by decide) rfl (fun ls hl => ?_)
      refine lv_iload hx hb dX5_pick_40 (lv_at hl 0 rfl) ?_
      refine lv_iload_n hx hb dX5_pick_42 rfl (lv_at hl 4 rfl) ?_
      refine lv_icmp_ge (tgt := 76) hx hb dX5_pick_43 (by decide) (fun c3 => ?_) (fun c3 => ?_)
      · refine lv_iload_n hx hb dX5_pick_76 rfl (lv_at hl 1 rfl) ?_
        exact hret _ _ _ _ nx _ _ dX5_pick_77 hP hS (fun h => absurd (hT.symm.trans h) T2ne) (by rw [hT, if_neg T2ne])
      · refine lv_aload_n hx hb dX5_pick_46 rfl (lv_at hl 2 rfl) ?_
        refine va_get (D := D) (ci := 5) (v := .int 2) (C := RX5) (T := TX5) (N := 29) hx hb hts iwX5_pick_X5 hown hK hP 0 cr_obj rfl 0 (by decide) (hts _ lkX5_pick_89) (fun _ h9 => h9) rfl dX5_pick_47 ?_
        refine lv_if_ne (tgt := 76) hx hb dX5_pick_50 (by decide) (fun c4 => ?_) (fun c4 => absurd c4 (by decide))
        refine lv_iload_n hx hb dX5_pick_76 rfl (lv_at hl 1 rfl) ?_
        exact hret _ _ _ _ nx _ _ dX5_pick_77 hP hS (fun h => absurd (hT.symm.trans h) T2ne) (by rw [hT, if_neg T2ne])
    · refine lv_iload_n hx hb dX5_pick_20 rfl (lv_at hl 2 rfl) ?_
      refine lv_sipush (v := 2000) hx hb dX5_pick_21 (by decide) ?_
      refine lv_icmp_le (tgt := 31) hx hb dX5_pick_24 (by decide) (fun c5 => ?_) (fun c5 => ?_)
      · have hT : t2 (0 ≤ x ∧ x < nI n) (0 ≤ y ∧ y ≤ 2000) = 0 := t2_0 hC ⟨Int32.not_lt.mp c2, c5⟩
        obtain ⟨k, hkn, hxk⟩ := i32_of (N := n) (by omega) hC.1 hC.2
        have hk4 : k < 4 := by omega
        have hik : iN x = k := by rw [hxk]; exact iN_nI (by omega)
        obtain ⟨t, ht, hyt⟩ := i32_ofle (N := 2000) (by decide) (Int32.not_lt.mp c2) c5
        have hit : iN y = t := by rw [hyt]; exact iN_nI (by omega)
        refine lv_iconst (v := 0) hx hb dX5_pick_31 (by decide) ?_
        refine va_put (D := D) (ci := 5) (v := .int 0) (ty := .int) (C := RX5) (T := TX5) (N := 29) hx hb hts iwX5_pick_X5 tyX5 tyX5_ok nmX5 hown hK hP (hD _) hS 0 cr_obj rfl 0 (by decide) (hts _ lkX5_pick_89) (fun _ h9 => h9) rfl (by decide +kernel) rfl rfl (Nat.le_of_ble_eq_true rfl) dX5_pick_32 (fun H locs hP _ hS => ?_)
        have hP := cru_th hP
        have hP : va_P D vwCl (FW 22 ad (CR cs n ad 0 nx σ)) H := hP
        refine lv_iconst (v := 0) hx hb dX5_pick_35 (by decide) ?_
        refine lv_istore_n (lv' := [(3, .int 0), (0, .ref (ad 0)), (1, .int x), (2, .int y)]) hx hb dX5_pick_36 rfl hl (by decide) rfl (fun ls hl => ?_)
        refine lv_iconst (v := 0) hx hb dX5_pick_37 (by decide) ?_
        refine lv_istore (lv' := [(4, .int 0), (3, .int 0), (0, .ref (ad 0)), (1, .int x), (2, .int y)]) hx hb dX5_pick_38 hl (by decide) rfl (fun ls hl => ?_)
        have loop : ∀ (d i : Nat), i + d = t → ∀  (acc : Int32) (μ : St) (nx2 : Int32), Inv μ (G + i) → pPick n k d acc μ = pPick n k t 0 σ → ∀ (H : Heap) (locs : List Loc) (ls : Array Slot), va_P D vwCl (FW 22 ad (CR cs n ad 0 nx2 μ)) H → va_S A s.heap H locs → lv_has ls 5 [(0, .ref (ad 0)), (1, .int x), (2, .int y), (3, .int acc), (4, .int (nI i))] → W p l e rmX5_pick s m args below meth c H locs 0 0 Q (F0 m 40 ls []) := by
          intro d
          induction d with
          | zero =>
            intro i hi acc μ nx2 hIm hpp H locs ls hP hS hl
            obtain rfl : i = t := by omega
            refine lv_iload hx hb dX5_pick_40 (lv_at hl 4 rfl) ?_
            refine lv_iload_n hx hb dX5_pick_42 rfl (lv_at hl 2 rfl) ?_
            refine lv_icmp_ge (tgt := 76) hx hb dX5_pick_43 (by decide) (fun c6 => ?_) (fun c6 => absurd (by rw [hyt]; exact Int32.le_refl _) c6)
            refine lv_iload_n hx hb dX5_pick_76 rfl (lv_at hl 3 rfl) ?_
            exact hret _ _ _ _ nx2 _ _ dX5_pick_77 hP hS (fun _ => by rw [hik, hit, ← hpp]; rfl) (by rw [hT, if_pos rfl, hik, hit, ← hpp]; rfl)
          | succ d ih =>
            intro i hi acc μ nx2 hIm hpp H locs ls hP hS hl
            have hi2 : i < t := by omega
            refine lv_iload hx hb dX5_pick_40 (lv_at hl 4 rfl) ?_
            refine lv_iload_n hx hb dX5_pick_42 rfl (lv_at hl 2 rfl) ?_
            refine lv_icmp_ge (tgt := 76) hx hb dX5_pick_43 (by decide) (fun c7 => absurd c7 (by rw [hyt]; exact nI_ge hi2 (by omega))) (fun c7 => ?_)
            refine lv_aload_n hx hb dX5_pick_46 rfl (lv_at hl 0 rfl) ?_
            refine va_get (D := D) (ci := 5) (v := .int 0) (C := RX5) (T := TX5) (N := 29) hx hb hts iwX5_pick_X5 hown hK hP 0 cr_obj rfl 0 (by decide) (hts _ lkX5_pick_89) (fun _ h9 => h9) rfl dX5_pick_47 ?_
            refine lv_if_ne (tgt := 76) hx hb dX5_pick_50 (by decide) (fun c8 => absurd rfl c8) (fun c8 => ?_)
            refine lv_aload_n hx hb dX5_pick_53 rfl (lv_at hl 0 rfl) ?_
            refine va_get (D := D) (ci := 5) (v := .ref (ad 7)) (C := RX5) (T := TX5) (N := 29) hx hb hts iwX5_pick_X5 hown hK hP 0 cr_obj rfl 11 (by decide) (hts _ lkX5_pick_28) (fun _ h9 => h9) rfl dX5_pick_54 ?_
            refine lv_iload_n hx hb dX5_pick_57 rfl (lv_at hl 1 rfl) ?_
            refine g_zald (t0 := 3) (v := μ.1 14 k 0) hx hb hK hP cr_ended rfl k hxk hk4 (by decide) rfl dX5_pick_58 ?_
            refine lv_if_ne (tgt := 76) hx hb dX5_pick_59 (by decide) (fun c9 => ?_) (fun c9 => ?_)
            · refine lv_iload_n hx hb dX5_pick_76 rfl (lv_at hl 3 rfl) ?_
              exact hret _ _ _ _ nx2 _ _ dX5_pick_77 hP hS (fun _ => by rw [hik, hit, ← hpp]; show _ = (if μ.1 14 k 0 ≠ 0 then (μ, acc) else _).2; rw [if_pos c9]) (by rw [hT, if_pos rfl, hik, hit, ← hpp]; show _ = CR cs n ad 0 _ (if μ.1 14 k 0 ≠ 0 then (μ, acc) else _).1; rw [if_pos c9])
            · have hen : ¬ (μ.1 14 k 0 ≠ 0) := fun h => h c9
              refine lv_iload_n hx hb dX5_pick_62 rfl (lv_at hl 3 rfl) ?_
              refine lv_aload_n hx hb dX5_pick_63 rfl (lv_at hl 0 rfl) ?_
              refine lv_iload_n hx hb dX5_pick_64 rfl (lv_at hl 1 rfl) ?_
              refine g_top (y := nI k) (hxk) ?_
              refine g_cvi (As := [.int (nI k)]) ⟨hx, hb, hml, hown, hts⟩ (kX5_step l D cs n ad 0 nx2 μ k hk4 hn4 (G + i) hIm) (cwV 1 hts gX5_pick_X5_step rfl rfl rfl (by decide +kernel) ⟨Nat.le_of_ble_eq_true rfl, Nat.le_of_ble_eq_true rfl⟩) hK hP hD hS hA 0 (ci := 5) rfl rfl cr_obj hl.1 dX5_pick_65 rfl rfl (Nat.le_of_ble_eq_true rfl) ⟨Nat.zero_le _, Nat.zero_le _⟩ (fun r nx3 H locs hw hP hS => ?_)
              obtain rfl : r = (pStep μ n k).2 := hw
              obtain ⟨σ10, eσ10⟩ : ∃ z, z = (pStep μ n k).1 := ⟨_, rfl⟩
              have hP : va_P D vwCl (FW 22 ad (CR cs n ad 0 nx3 σ10)) H := by rw [eσ10]; exact hP
              refine lv_iadd hx hb dX5_pick_68 ?_
              refine lv_istore_n (lv' := [(3, .int (acc + ((pStep μ n k).2))), (0, .ref (ad 0)), (1, .int x), (2, .int y), (4, .int (nI i))]) hx hb dX5_pick_69 rfl hl (by decide) rfl (fun ls hl => ?_)
              refine lv_iinc (v := nI (i + 1)) (lv' := [(4, .int (nI (i + 1))), (3, .int (acc + ((pStep μ n k).2))), (0, .ref (ad 0)), (1, .int x), (2, .int y)]) hx hb dX5_pick_70 hl (k := 4) rfl (nI_1 i) (by decide) rfl (fun ls hl => ?_)
              refine lv_goto (tgt := 40) hx hb dX5_pick_73 (by decide) ?_
              exact ih (i + 1) (by omega) (acc + (pStep μ n k).2) (pStep μ n k).1 nx3 (by have := Inv_step (n := n) (k := k) hIm hk4 hn4 (by omega); exact this) (by rw [← hpp]; show _ = (if μ.1 14 k 0 ≠ 0 then (μ, acc) else pPick n k d (acc + (pStep μ n k).2) (pStep μ n k).1); rw [if_neg hen]) _ _ _ (by simp only [eσ10] at hP; exact hP) hS (lv_sub hl [2, 3, 4, 1, 0] rfl)
        exact loop t 0 (by omega)  0 σ nx hI rfl _ _ _ hP hS (lv_sub hl [2, 3, 4, 1, 0] rfl)
      · have hT : t2 (0 ≤ x ∧ x < nI n) (0 ≤ y ∧ y ≤ 2000) = 2 := t2_2 hC (fun h => c5 h.2)
        refine lv_iconst (v := 2) hx hb dX5_pick_27 (by decide) ?_
        refine lv_goto (tgt := 32) hx hb dX5_pick_28 (by decide) ?_
        refine va_put (D := D) (ci := 5) (v := .int 2) (ty := .int) (C := RX5) (T := TX5) (N := 29) hx hb hts iwX5_pick_X5 tyX5 tyX5_ok nmX5 hown hK hP (hD _) hS 0 cr_obj rfl 0 (by decide) (hts _ lkX5_pick_89) (fun _ h9 => h9) rfl (by decide +kernel) rfl rfl (Nat.le_of_ble_eq_true rfl) dX5_pick_32 (fun H locs hP _ hS => ?_)
        have hP := cru_th hP
        have hP : va_P D vwCl (FW 22 ad (CR cs n ad 2 nx σ)) H := hP
        refine lv_iconst (v := 0) hx hb dX5_pick_35 (by decide) ?_
        refine lv_istore_n (lv' := [(3, .int 0), (0, .ref (ad 0)), (1, .int x), (2, .int y)]) hx hb dX5_pick_36 rfl hl (by decide) rfl (fun ls hl => ?_)
        refine lv_iconst (v := 0) hx hb dX5_pick_37 (by decide) ?_
        refine lv_istore (lv' := [(4, .int 0), (3, .int 0), (0, .ref (ad 0)), (1, .int x), (2, .int y)]) hx hb dX5_pick_38 hl (by decide) rfl (fun ls hl => ?_)
        refine lv_iload hx hb dX5_pick_40 (lv_at hl 0 rfl) ?_
        refine lv_iload_n hx hb dX5_pick_42 rfl (lv_at hl 4 rfl) ?_
        refine lv_icmp_ge (tgt := 76) hx hb dX5_pick_43 (by decide) (fun c11 => ?_) (fun c11 => ?_)
        · refine lv_iload_n hx hb dX5_pick_76 rfl (lv_at hl 1 rfl) ?_
          exact hret _ _ _ _ nx _ _ dX5_pick_77 hP hS (fun h => absurd (hT.symm.trans h) T2ne) (by rw [hT, if_neg T2ne])
        · refine lv_aload_n hx hb dX5_pick_46 rfl (lv_at hl 2 rfl) ?_
          refine va_get (D := D) (ci := 5) (v := .int 2) (C := RX5) (T := TX5) (N := 29) hx hb hts iwX5_pick_X5 hown hK hP 0 cr_obj rfl 0 (by decide) (hts _ lkX5_pick_89) (fun _ h9 => h9) rfl dX5_pick_47 ?_
          refine lv_if_ne (tgt := 76) hx hb dX5_pick_50 (by decide) (fun c12 => ?_) (fun c12 => absurd c12 (by decide))
          refine lv_iload_n hx hb dX5_pick_76 rfl (lv_at hl 1 rfl) ?_
          exact hret _ _ _ _ nx _ _ dX5_pick_77 hP hS (fun h => absurd (hT.symm.trans h) T2ne) (by rw [hT, if_neg T2ne])
  · have hC : ¬ (0 ≤ x ∧ x < nI n) := of_decide_eq_false (bI0 c1)
    have hT : t2 (0 ≤ x ∧ x < nI n) (0 ≤ y ∧ y ≤ 2000) = 1 := t2_1 hC
    refine lv_iconst (v := 1) hx hb dX5_pick_12 (by decide) ?_
    refine lv_goto (tgt := 32) hx hb dX5_pick_13 (by decide) ?_
    refine va_put (D := D) (ci := 5) (v := .int 1) (ty := .int) (C := RX5) (T := TX5) (N := 29) hx hb hts iwX5_pick_X5 tyX5 tyX5_ok nmX5 hown hK hP (hD _) hS 0 cr_obj rfl 0 (by decide) (hts _ lkX5_pick_89) (fun _ h9 => h9) rfl (by decide +kernel) rfl rfl (Nat.le_of_ble_eq_true rfl) dX5_pick_32 (fun H locs hP _ hS => ?_)
    have hP := cru_th hP
    have hP : va_P D vwCl (FW 22 ad (CR cs n ad 1 nx σ)) H := hP
    refine lv_iconst (v := 0) hx hb dX5_pick_35 (by decide) ?_
    refine lv_istore_n (lv' := [(3, .int 0), (0, .ref (ad 0)), (1, .int x), (2, .int y)]) hx hb dX5_pick_36 rfl hl (by decide) rfl (fun ls hl => ?_)
    refine lv_iconst (v := 0) hx hb dX5_pick_37 (by decide) ?_
    refine lv_istore (lv' := [(4, .int 0), (3, .int 0), (0, .ref (ad 0)), (1, .int x), (2, .int y)]) hx hb dX5_pick_38 hl (by decide) rfl (fun ls hl => ?_)
    refine lv_iload hx hb dX5_pick_40 (lv_at hl 0 rfl) ?_
    refine lv_iload_n hx hb dX5_pick_42 rfl (lv_at hl 4 rfl) ?_
    refine lv_icmp_ge (tgt := 76) hx hb dX5_pick_43 (by decide) (fun c13 => ?_) (fun c13 => ?_)
    · refine lv_iload_n hx hb dX5_pick_76 rfl (lv_at hl 1 rfl) ?_
      exact hret _ _ _ _ nx _ _ dX5_pick_77 hP hS (fun h => absurd (hT.symm.trans h) T1ne) (by rw [hT, if_neg T1ne])
    · refine lv_aload_n hx hb dX5_pick_46 rfl (lv_at hl 2 rfl) ?_
      refine va_get (D := D) (ci := 5) (v := .int 1) (C := RX5) (T := TX5) (N := 29) hx hb hts iwX5_pick_X5 hown hK hP 0 cr_obj rfl 0 (by decide) (hts _ lkX5_pick_89) (fun _ h9 => h9) rfl dX5_pick_47 ?_
      refine lv_if_ne (tgt := 76) hx hb dX5_pick_50 (by decide) (fun c14 => ?_) (fun c14 => absurd c14 (by decide))
      refine lv_iload_n hx hb dX5_pick_76 rfl (lv_at hl 1 rfl) ?_
      exact hret _ _ _ _ nx _ _ dX5_pick_77 hP hS (fun h => absurd (hT.symm.trans h) T1ne) (by rw [hT, if_neg T1ne])

theorem iwX5_run_X5 : ∀ w ∈ wsX50, w ∈ wsX5_run := fun w h => by unfold wsX5_run; simp only [List.mem_cons, List.mem_append, h, true_or, or_true]
theorem lkX5_run_79 : Cond.fieldLink RX5 79 "CoreTransactionsModel" "cores" "I" ∈ wsX5_run := by decide +kernel
theorem lkX5_run_89 : Cond.fieldLink RX5 89 "CoreTransactionsModel" "thrown" "I" ∈ wsX5_run := by decide +kernel
theorem lkX5_run_180 : Cond.constant RX5 180 1103515245 ∈ wsX5_run := by decide +kernel
abbrev rmX5_run : Room := ({ frames := 7, cells := 0, slots := 0, locals := 164 } : Room)
set_option maxRecDepth 100000 in
set_option maxHeartbeats 4000000 in
theorem kX5_run (l : Launch) (D : va_G) (cs : Nat → ClassId) (n : Nat) (ad : Nat → Nat) (th nx : Int32) (σ : St) (hn0 : 0 < n) (hn4 : n ≤ 4) (x y : Int32) (G : Nat) (hI : Inv σ G) (hG : G + 2000 < 2 ^ 30) : gMi l yX5_run wsX5_run rmX5_run D (tyL cs) 22 ad (CR cs n ad th nx σ) [.ref (ad 0), .int x, .int y] (fun (r : Int32) (u : Int32) => t1 (0 ≤ y ∧ y ≤ 2000) = 0 → r = (pRun n (iN y) x 0 σ).2) (fun (u : Int32) => CR cs n ad (t1 (0 ≤ y ∧ y ≤ 2000)) u (if t1 (0 ≤ y ∧ y ≤ 2000) = 0 then (pRun n (iN y) x 0 σ).1 else σ)) := by
  refine g_ofi (cc := cX5_run) (maxL := 6) (by decide) rfl (Nat.le_of_ble_eq_true rfl) rfl rfl ?_
  intro p e s m args below meth c A ls Q hx hb hml hts hown hK hP hD hA hS hl hret
  have hl : lv_has ls 6 [(0, .ref (ad 0)), (1, .int x), (2, .int y)] := hl
  refine lv_aload_n hx hb dX5_run_0 rfl (lv_at hl 0 rfl) ?_
  refine lv_iload_n hx hb dX5_run_1 rfl (lv_at hl 2 rfl) ?_
  refine lv_if_lt (tgt := 12) hx hb dX5_run_2 (by decide) (fun c1 => ?_) (fun c1 => ?_)
  · have hT : t1 (0 ≤ y ∧ y ≤ 2000) = 1 := t1_1 (fun h => absurd h.1 (Int32.not_le.mpr c1))
    refine lv_iconst (v := 1) hx hb dX5_run_12 (by decide) ?_
    refine lv_goto (tgt := 17) hx hb dX5_run_13 (by decide) ?_
    refine va_put (D := D) (ci := 5) (v := .int 1) (ty := .int) (C := RX5) (T := TX5) (N := 29) hx hb hts iwX5_run_X5 tyX5 tyX5_ok nmX5 hown hK hP (hD _) hS 0 cr_obj rfl 0 (by decide) (hts _ lkX5_run_89) (fun _ h9 => h9) rfl (by decide +kernel) rfl rfl (Nat.le_of_ble_eq_true rfl) dX5_run_17 (fun H locs hP _ hS => ?_)
    have hP := cru_th hP
    have hP : va_P D vwCl (FW 22 ad (CR cs n ad 1 nx σ)) H := hP
    refine lv_iload_n hx hb dX5_run_20 rfl (lv_at hl 1 rfl) ?_
    refine lv_istore_n (lv' := [(3, .int x), (0, .ref (ad 0)), (1, .int x), (2, .int y)]) hx hb dX5_run_21 rfl hl (by decide) rfl (fun ls hl => ?_)
    refine lv_iconst (v := 0) hx hb dX5_run_22 (by decide) ?_
    refine lv_istore (lv' := [(4, .int 0), (3, .int x), (0, .ref (ad 0)), (1, .int x), (2, .int y)]) hx hb dX5_run_23 hl (by decide) rfl (fun ls hl => ?_)
    refine lv_iconst (v := 0) hx hb dX5_run_25 (by decide) ?_
    refine lv_istore (lv' := [(5, .int 0), (4, .int 0), (3, .int x), (0, .ref (ad 0)), (1, .int x), (2, .int y)]) hx hb dX5_run_26 hl (by decide) rfl (fun ls hl => ?_)
    refine lv_iload hx hb dX5_run_28 (lv_at hl 0 rfl) ?_
    refine lv_iload_n hx hb dX5_run_30 rfl (lv_at hl 5 rfl) ?_
    refine lv_icmp_ge (tgt := 74) hx hb dX5_run_31 (by decide) (fun c2 => ?_) (fun c2 => ?_)
    · refine lv_iload hx hb dX5_run_74 (lv_at hl 1 rfl) ?_
      exact hret _ _ _ _ nx _ _ dX5_run_76 hP hS (fun h => absurd (hT.symm.trans h) T1ne) (by rw [hT, if_neg T1ne])
    · refine lv_aload_n hx hb dX5_run_34 rfl (lv_at hl 3 rfl) ?_
      refine va_get (D := D) (ci := 5) (v := .int 1) (C := RX5) (T := TX5) (N := 29) hx hb hts iwX5_run_X5 hown hK hP 0 cr_obj rfl 0 (by decide) (hts _ lkX5_run_89) (fun _ h9 => h9) rfl dX5_run_35 ?_
      refine lv_if_ne (tgt := 74) hx hb dX5_run_38 (by decide) (fun c3 => ?_) (fun c3 => absurd c3 (by decide))
      refine lv_iload hx hb dX5_run_74 (lv_at hl 1 rfl) ?_
      exact hret _ _ _ _ nx _ _ dX5_run_76 hP hS (fun h => absurd (hT.symm.trans h) T1ne) (by rw [hT, if_neg T1ne])
  · refine lv_iload_n hx hb dX5_run_5 rfl (lv_at hl 2 rfl) ?_
    refine lv_sipush (v := 2000) hx hb dX5_run_6 (by decide) ?_
    refine lv_icmp_le (tgt := 16) hx hb dX5_run_9 (by decide) (fun c4 => ?_) (fun c4 => ?_)
    · have hT : t1 (0 ≤ y ∧ y ≤ 2000) = 0 := t1_0 ⟨Int32.not_lt.mp c1, c4⟩
      obtain ⟨t, ht, hyt⟩ := i32_ofle (N := 2000) (by decide) (Int32.not_lt.mp c1) c4
      have hit : iN y = t := by rw [hyt]; exact iN_nI (by omega)
      refine lv_iconst (v := 0) hx hb dX5_run_16 (by decide) ?_
      refine va_put (D := D) (ci := 5) (v := .int 0) (ty := .int) (C := RX5) (T := TX5) (N := 29) hx hb hts iwX5_run_X5 tyX5 tyX5_ok nmX5 hown hK hP (hD _) hS 0 cr_obj rfl 0 (by decide) (hts _ lkX5_run_89) (fun _ h9 => h9) rfl (by decide +kernel) rfl rfl (Nat.le_of_ble_eq_true rfl) dX5_run_17 (fun H locs hP _ hS => ?_)
      have hP := cru_th hP
      have hP : va_P D vwCl (FW 22 ad (CR cs n ad 0 nx σ)) H := hP
      refine lv_iload_n hx hb dX5_run_20 rfl (lv_at hl 1 rfl) ?_
      refine lv_istore_n (lv' := [(3, .int x), (0, .ref (ad 0)), (1, .int x), (2, .int y)]) hx hb dX5_run_21 rfl hl (by decide) rfl (fun ls hl => ?_)
      refine lv_iconst (v := 0) hx hb dX5_run_22 (by decide) ?_
      refine lv_istore (lv' := [(4, .int 0), (3, .int x), (0, .ref (ad 0)), (1, .int x), (2, .int y)]) hx hb dX5_run_23 hl (by decide) rfl (fun ls hl => ?_)
      refine lv_iconst (v := 0) hx hb dX5_run_25 (by decide) ?_
      refine lv_istore (lv' := [(5, .int 0), (4, .int 0), (3, .int x), (0, .ref (ad 0)), (1, .int x), (2, .int y)]) hx hb dX5_run_26 hl (by decide) rfl (fun ls hl => ?_)
      have loop : ∀ (d i : Nat), i + d = t → ∀ (x3 : Int32) (acc : Int32) (μ : St) (nx2 : Int32), Inv μ (G + i) → pRun n d x3 acc μ = pRun n t x 0 σ → ∀ (H : Heap) (locs : List Loc) (ls : Array Slot), va_P D vwCl (FW 22 ad (CR cs n ad 0 nx2 μ)) H → va_S A s.heap H locs → lv_has ls 6 [(0, .ref (ad 0)), (1, .int x), (2, .int y), (3, .int x3), (4, .int acc), (5, .int (nI i))] → W p l e rmX5_run s m args below meth c H locs 0 0 Q (F0 m 28 ls []) := by
        intro d
        induction d with
        | zero =>
          intro i hi x3 acc μ nx2 hIm hpp H locs ls hP hS hl
          obtain rfl : i = t := by omega
          refine lv_iload hx hb dX5_run_28 (lv_at hl 5 rfl) ?_
          refine lv_iload_n hx hb dX5_run_30 rfl (lv_at hl 2 rfl) ?_
          refine lv_icmp_ge (tgt := 74) hx hb dX5_run_31 (by decide) (fun c5 => ?_) (fun c5 => absurd (by rw [hyt]; exact Int32.le_refl _) c5)
          refine lv_iload hx hb dX5_run_74 (lv_at hl 4 rfl) ?_
          exact hret _ _ _ _ nx2 _ _ dX5_run_76 hP hS (fun _ => by rw [hit, ← hpp]; rfl) (by rw [hT, if_pos rfl, hit, ← hpp]; rfl)
        | succ d ih =>
          intro i hi x3 acc μ nx2 hIm hpp H locs ls hP hS hl
          have hi2 : i < t := by omega
          refine lv_iload hx hb dX5_run_28 (lv_at hl 5 rfl) ?_
          refine lv_iload_n hx hb dX5_run_30 rfl (lv_at hl 2 rfl) ?_
          refine lv_icmp_ge (tgt := 74) hx hb dX5_run_31 (by decide) (fun c6 => absurd c6 (by rw [hyt]; exact nI_ge hi2 (by omega))) (fun c6 => ?_)
          refine lv_aload_n hx hb dX5_run_34 rfl (lv_at hl 0 rfl) ?_
          refine va_get (D := D) (ci := 5) (v := .int 0) (C := RX5) (T := TX5) (N := 29) hx hb hts iwX5_run_X5 hown hK hP 0 cr_obj rfl 0 (by decide) (hts _ lkX5_run_89) (fun _ h9 => h9) rfl dX5_run_35 ?_
          refine lv_if_ne (tgt := 74) hx hb dX5_run_38 (by decide) (fun c7 => absurd rfl c7) (fun c7 => ?_)
          have hkr : rcore (rnd x3) n < n := Nat.mod_lt _ hn0
          refine lv_iload_n hx hb dX5_run_41 rfl (lv_at hl 3 rfl) ?_
          refine lv_ldc (v := 1103515245) hx hb hown (hts _ lkX5_run_180) dX5_run_42 ?_
          refine lv_imul hx hb dX5_run_44 ?_
          refine lv_sipush (v := 12345) hx hb dX5_run_45 (by decide) ?_
          refine lv_iadd hx hb dX5_run_48 ?_
          refine g_top (y := rnd x3) (rfl) ?_
          refine lv_istore_n (lv' := [(3, .int (rnd x3)), (0, .ref (ad 0)), (1, .int x), (2, .int y), (4, .int acc), (5, .int (nI i))]) hx hb dX5_run_49 rfl hl (by decide) rfl (fun ls hl => ?_)
          refine lv_iload hx hb dX5_run_50 (lv_at hl 4 rfl) ?_
          refine lv_aload_n hx hb dX5_run_52 rfl (lv_at hl 1 rfl) ?_
          refine lv_iload_n hx hb dX5_run_53 rfl (lv_at hl 0 rfl) ?_
          refine lv_bipush (v := 16) hx hb dX5_run_54 (by decide) ?_
          refine lv_iushr (v := ((rnd x3).toUInt32 >>> ((16 : Int32).toUInt32 &&& Int32.toUInt32 31)).toInt32) hx hb dX5_run_56 rfl ?_
          refine g_top (y := nI ((rnd x3).toBitVec.toNat / 65536)) (ush16 _) ?_
          refine lv_aload_n hx hb dX5_run_57 rfl (lv_at hl 1 rfl) ?_
          refine va_get (D := D) (ci := 5) (v := .int (nI n)) (C := RX5) (T := TX5) (N := 29) hx hb hts iwX5_run_X5 hown hK hP 0 cr_obj rfl 1 (by decide) (hts _ lkX5_run_79) (fun _ h9 => h9) rfl dX5_run_58 ?_
          refine lv_irem hx hb dX5_run_61 (nI_ne0 hn0 (by omega)) ?_
          refine g_top (y := nI (rcore (rnd x3) n)) (rcore_e hn0 hn4) ?_
          refine g_cvi (As := [.int (nI (rcore (rnd x3) n))]) ⟨hx, hb, hml, hown, hts⟩ (kX5_step l D cs n ad 0 nx2 μ (rcore (rnd x3) n) (by omega) hn4 (G + i) hIm) (cwV 1 hts gX5_run_X5_step rfl rfl rfl (by decide +kernel) ⟨Nat.le_of_ble_eq_true rfl, Nat.le_of_ble_eq_true rfl⟩) hK hP hD hS hA 0 (ci := 5) rfl rfl cr_obj hl.1 dX5_run_62 rfl rfl (Nat.le_of_ble_eq_true rfl) ⟨Nat.zero_le _, Nat.zero_le _⟩ (fun r nx3 H locs hw hP hS => ?_)
          obtain rfl : r = (pStep μ n (rcore (rnd x3) n)).2 := hw
          obtain ⟨σ8, eσ8⟩ : ∃ z, z = (pStep μ n (rcore (rnd x3) n)).1 := ⟨_, rfl⟩
          have hP : va_P D vwCl (FW 22 ad (CR cs n ad 0 nx3 σ8)) H := by rw [eσ8]; exact hP
          refine lv_iadd hx hb dX5_run_65 ?_
          refine lv_istore (lv' := [(4, .int (acc + ((pStep μ n (rcore (rnd x3) n)).2))), (3, .int (rnd x3)), (0, .ref (ad 0)), (1, .int x), (2, .int y), (5, .int (nI i))]) hx hb dX5_run_66 hl (by decide) rfl (fun ls hl => ?_)
          refine lv_iinc (v := nI (i + 1)) (lv' := [(5, .int (nI (i + 1))), (4, .int (acc + ((pStep μ n (rcore (rnd x3) n)).2))), (3, .int (rnd x3)), (0, .ref (ad 0)), (1, .int x), (2, .int y)]) hx hb dX5_run_68 hl (k := 5) rfl (nI_1 i) (by decide) rfl (fun ls hl => ?_)
          refine lv_goto (tgt := 28) hx hb dX5_run_71 (by decide) ?_
          exact ih (i + 1) (by omega) (rnd x3) (acc + (pStep μ n (rcore (rnd x3) n)).2) (pStep μ n (rcore (rnd x3) n)).1 nx3 (by have := Inv_step (n := n) (k := rcore (rnd x3) n) hIm (by omega) hn4 (by omega); exact this) (by rw [← hpp]; rfl) _ _ _ (by simp only [eσ8] at hP; exact hP) hS (lv_sub hl [3, 4, 5, 2, 1, 0] rfl)
      exact loop t 0 (by omega) x 0 σ nx hI rfl _ _ _ hP hS (lv_sub hl [3, 4, 5, 2, 1, 0] rfl)
    · have hT : t1 (0 ≤ y ∧ y ≤ 2000) = 1 := t1_1 (fun h => c4 h.2)
      refine lv_iconst (v := 1) hx hb dX5_run_12 (by decide) ?_
      refine lv_goto (tgt := 17) hx hb dX5_run_13 (by decide) ?_
      refine va_put (D := D) (ci := 5) (v := .int 1) (ty := .int) (C := RX5) (T := TX5) (N := 29) hx hb hts iwX5_run_X5 tyX5 tyX5_ok nmX5 hown hK hP (hD _) hS 0 cr_obj rfl 0 (by decide) (hts _ lkX5_run_89) (fun _ h9 => h9) rfl (by decide +kernel) rfl rfl (Nat.le_of_ble_eq_true rfl) dX5_run_17 (fun H locs hP _ hS => ?_)
      have hP := cru_th hP
      have hP : va_P D vwCl (FW 22 ad (CR cs n ad 1 nx σ)) H := hP
      refine lv_iload_n hx hb dX5_run_20 rfl (lv_at hl 1 rfl) ?_
      refine lv_istore_n (lv' := [(3, .int x), (0, .ref (ad 0)), (1, .int x), (2, .int y)]) hx hb dX5_run_21 rfl hl (by decide) rfl (fun ls hl => ?_)
      refine lv_iconst (v := 0) hx hb dX5_run_22 (by decide) ?_
      refine lv_istore (lv' := [(4, .int 0), (3, .int x), (0, .ref (ad 0)), (1, .int x), (2, .int y)]) hx hb dX5_run_23 hl (by decide) rfl (fun ls hl => ?_)
      refine lv_iconst (v := 0) hx hb dX5_run_25 (by decide) ?_
      refine lv_istore (lv' := [(5, .int 0), (4, .int 0), (3, .int x), (0, .ref (ad 0)), (1, .int x), (2, .int y)]) hx hb dX5_run_26 hl (by decide) rfl (fun ls hl => ?_)
      refine lv_iload hx hb dX5_run_28 (lv_at hl 0 rfl) ?_
      refine lv_iload_n hx hb dX5_run_30 rfl (lv_at hl 5 rfl) ?_
      refine lv_icmp_ge (tgt := 74) hx hb dX5_run_31 (by decide) (fun c9 => ?_) (fun c9 => ?_)
      · refine lv_iload hx hb dX5_run_74 (lv_at hl 1 rfl) ?_
        exact hret _ _ _ _ nx _ _ dX5_run_76 hP hS (fun h => absurd (hT.symm.trans h) T1ne) (by rw [hT, if_neg T1ne])
      · refine lv_aload_n hx hb dX5_run_34 rfl (lv_at hl 3 rfl) ?_
        refine va_get (D := D) (ci := 5) (v := .int 1) (C := RX5) (T := TX5) (N := 29) hx hb hts iwX5_run_X5 hown hK hP 0 cr_obj rfl 0 (by decide) (hts _ lkX5_run_89) (fun _ h9 => h9) rfl dX5_run_35 ?_
        refine lv_if_ne (tgt := 74) hx hb dX5_run_38 (by decide) (fun c10 => ?_) (fun c10 => absurd c10 (by decide))
        refine lv_iload hx hb dX5_run_74 (lv_at hl 1 rfl) ?_
        exact hret _ _ _ _ nx _ _ dX5_run_76 hP hS (fun h => absurd (hT.symm.trans h) T1ne) (by rw [hT, if_neg T1ne])
