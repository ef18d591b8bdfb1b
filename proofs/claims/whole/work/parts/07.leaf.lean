/-! the class's leaves: transaction, core, program, records -/
theorem bI0 {w : Bool} (h : bI w = 0) : w = false := by cases w <;> simp_all [bI]
theorem bI1 {w : Bool} (h : ¬ bI w = 0) : w = true := by cases w <;> simp_all [bI]
theorem zq_bI (w : Bool) : zq (bI w) := by cases w <;> simp [bI, zq]
theorem bI_d {P : Prop} [Decidable P] (h : P) : bI (decide P) = 1 := by simp [bI, h]
theorem bI_n {P : Prop} [Decidable P] (h : ¬ P) : bI (decide P) = 0 := by simp [bI, h]
theorem put_A (σ : St) (f k j : Nat) (v : Int32) (g : Nat → Int32) : put (putA σ f k g) f k j v = putA σ f k (upd g j v) := by
  refine Prod.ext (funext fun f' => funext fun k' => funext fun j' => ?_) rfl
  simp only [put, putA, upd]
  by_cases h1 : f' = f <;> by_cases h2 : k' = k <;> by_cases h3 : j' = j <;> simp [h1, h2, h3]
theorem put_0 (σ : St) (f k j : Nat) (v : Int32) : put σ f k j v = putA σ f k (upd (fun i => σ.1 f k i) j v) := by
  refine Prod.ext (funext fun f' => funext fun k' => funext fun j' => ?_) rfl
  simp only [put, putA, upd]
  by_cases h1 : f' = f <;> by_cases h2 : k' = k <;> by_cases h3 : j' = j <;> simp [h1, h2, h3]
theorem putA_step {σ : St} {f k i : Nat} {v : Int32} {g g' : Nat → Int32} (h : ∀ j, g' j = if j = i then v else g j) : put (putA σ f k g) f k i v = putA σ f k g' := by
  rw [put_A]; congr 1; funext j; rw [h]; rfl
theorem putA_0 {σ : St} {f k : Nat} {g : Nat → Int32} (h : ∀ j, g j = σ.1 f k j) : putA σ f k g = σ := by
  refine Prod.ext (funext fun f' => funext fun k' => funext fun j' => ?_) rfl
  simp only [putA]
  by_cases h1 : f' = f <;> by_cases h2 : k' = k <;> simp [h1, h2, h]
theorem put_c {σ : St} {f k j f2 k2 j2 : Nat} {v v2 : Int32} (h : f ≠ f2) : put (put σ f k j v) f2 k2 j2 v2 = put (put σ f2 k2 j2 v2) f k j v := by
  refine Prod.ext (funext fun f' => funext fun k' => funext fun j' => ?_) rfl
  simp only [put]
  by_cases h1 : f' = f
  · subst h1; simp [h]
  · simp [h1]
theorem nI_lit (n : Nat) : (OfNat.ofNat n : Int32) = nI n := rfl
theorem lcmp_1 {x : Int64} (h : lg_cmp x 1 = 0) : x = 1 := by
  unfold lg_cmp at h
  by_cases h1 : x > 1
  · rw [if_pos h1] at h; exact absurd h (by decide)
  · rw [if_neg h1] at h
    by_cases h2 : x = 1
    · exact h2
    · rw [if_neg h2] at h; exact absurd h (by decide)
theorem lcmp_n {x : Int64} (h : ¬ lg_cmp x 1 = 0) : ¬ x = 1 := by
  intro e; subst e; exact h (by decide)

theorem iwX3_close_X3 : ∀ w ∈ wsX30, w ∈ wsX3_close := fun w h => by unfold wsX3_close; simp only [List.mem_cons, List.mem_append, h, true_or, or_true]
theorem lkX3_close_18 : Cond.fieldLink RX3 18 "CoreTransactions$Transaction" "age" "I" ∈ wsX3_close := by decide +kernel
theorem lkX3_close_34 : Cond.fieldLink RX3 34 "CoreTransactions$Transaction" "depth" "I" ∈ wsX3_close := by decide +kernel
theorem lkX3_close_37 : Cond.fieldLink RX3 37 "CoreTransactions$Transaction" "linesRead" "I" ∈ wsX3_close := by decide +kernel
theorem lkX3_close_40 : Cond.fieldLink RX3 40 "CoreTransactions$Transaction" "linesWritten" "I" ∈ wsX3_close := by decide +kernel
theorem lkX3_close_43 : Cond.fieldLink RX3 43 "CoreTransactions$Transaction" "stored" "J" ∈ wsX3_close := by decide +kernel
abbrev rmX3_close : Room := ({ frames := 0, cells := 0, slots := 0, locals := 0 } : Room)
set_option maxRecDepth 100000 in
set_option maxHeartbeats 4000000 in
theorem kX3_close (l : Launch) (D : va_G) (cs : Nat → ClassId) (n : Nat) (ad : Nat → Nat) (σ : St) (k : Nat) (hk : k < n) : gMv l yX3_close wsX3_close rmX3_close D (tyL cs) (5 * (n + 2)) ad (CC cs n ad σ) [.ref (ad (5 * (k + 2) + 2))] (fun (u : Unit) => True) (fun (u : Unit) => CC cs n ad (pClose σ k)) := by
  refine g_ofv (cc := cX3_close) (maxL := 1) (by decide) rfl (Nat.le_of_ble_eq_true rfl) rfl rfl ?_
  intro p e s m args below meth c A ls Q hx hb hml hts hown hK hP hD hA hS hl hret
  have hl : lv_has ls 1 [(0, .ref (ad (5 * (k + 2) + 2)))] := hl
  refine lv_aload_n hx hb dX3_close_0 rfl (lv_at hl 0 rfl) ?_
  refine lv_iconst (v := 0) hx hb dX3_close_1 (by decide) ?_
  refine va_put (D := D) (ci := 3) (v := .int 0) (ty := .int) (C := RX3) (T := TX3) (N := 9) hx hb hts iwX3_close_X3 tyX3 tyX3_ok nmX3 hown hK hP (hD _) hS (5 * (k + 2) + 2) (cc_tx hk) rfl 2 (by decide) (hts _ lkX3_close_34) (fun _ h9 => h9) rfl (by decide +kernel) rfl rfl (Nat.le_of_ble_eq_true rfl) dX3_close_2 (fun H locs hP _ hS => ?_)
  obtain ⟨σ1, eσ1⟩ : ∃ z, z = put σ 18 k 0 0 := ⟨_, rfl⟩
  have hP : va_P D vwCl (FW (5 * (n + 2)) ad (CC cs n ad σ1)) H := by rw [eσ1]; exact FW_P hP cu_tx_2
  refine lv_aload_n hx hb dX3_close_5 rfl (lv_at hl 0 rfl) ?_
  refine lv_iconst (v := 0) hx hb dX3_close_6 (by decide) ?_
  refine va_put (D := D) (ci := 3) (v := .int 0) (ty := .int) (C := RX3) (T := TX3) (N := 9) hx hb hts iwX3_close_X3 tyX3 tyX3_ok nmX3 hown hK hP (hD _) hS (5 * (k + 2) + 2) (cc_tx hk) rfl 3 (by decide) (hts _ lkX3_close_18) (fun _ h9 => h9) rfl (by decide +kernel) rfl rfl (Nat.le_of_ble_eq_true rfl) dX3_close_7 (fun H locs hP _ hS => ?_)
  obtain ⟨σ2, eσ2⟩ : ∃ z, z = put σ1 19 k 0 0 := ⟨_, rfl⟩
  have hP : va_P D vwCl (FW (5 * (n + 2)) ad (CC cs n ad σ2)) H := by rw [eσ2]; exact FW_P hP cu_tx_3
  refine lv_aload_n hx hb dX3_close_10 rfl (lv_at hl 0 rfl) ?_
  refine lv_iconst (v := 0) hx hb dX3_close_11 (by decide) ?_
  refine va_put (D := D) (ci := 3) (v := .int 0) (ty := .int) (C := RX3) (T := TX3) (N := 9) hx hb hts iwX3_close_X3 tyX3 tyX3_ok nmX3 hown hK hP (hD _) hS (5 * (k + 2) + 2) (cc_tx hk) rfl 6 (by decide) (hts _ lkX3_close_37) (fun _ h9 => h9) rfl (by decide +kernel) rfl rfl (Nat.le_of_ble_eq_true rfl) dX3_close_12 (fun H locs hP _ hS => ?_)
  obtain ⟨σ3, eσ3⟩ : ∃ z, z = put σ2 22 k 0 0 := ⟨_, rfl⟩
  have hP : va_P D vwCl (FW (5 * (n + 2)) ad (CC cs n ad σ3)) H := by rw [eσ3]; exact FW_P hP cu_tx_6
  refine lv_aload_n hx hb dX3_close_15 rfl (lv_at hl 0 rfl) ?_
  refine lv_iconst (v := 0) hx hb dX3_close_16 (by decide) ?_
  refine va_put (D := D) (ci := 3) (v := .int 0) (ty := .int) (C := RX3) (T := TX3) (N := 9) hx hb hts iwX3_close_X3 tyX3 tyX3_ok nmX3 hown hK hP (hD _) hS (5 * (k + 2) + 2) (cc_tx hk) rfl 7 (by decide) (hts _ lkX3_close_40) (fun _ h9 => h9) rfl (by decide +kernel) rfl rfl (Nat.le_of_ble_eq_true rfl) dX3_close_17 (fun H locs hP _ hS => ?_)
  obtain ⟨σ4, eσ4⟩ : ∃ z, z = put σ3 23 k 0 0 := ⟨_, rfl⟩
  have hP : va_P D vwCl (FW (5 * (n + 2)) ad (CC cs n ad σ4)) H := by rw [eσ4]; exact FW_P hP cu_tx_7
  refine lv_aload_n hx hb dX3_close_20 rfl (lv_at hl 0 rfl) ?_
  refine lv_lconst (v := 0) hx hb dX3_close_21 (by decide) ?_
  refine va_put (D := D) (ci := 3) (v := .long 0) (ty := .long) (C := RX3) (T := TX3) (N := 9) hx hb hts iwX3_close_X3 tyX3 tyX3_ok nmX3 hown hK hP (hD _) hS (5 * (k + 2) + 2) (cc_tx hk) rfl 8 (by decide) (hts _ lkX3_close_43) (fun _ h9 => h9) rfl (by decide +kernel) rfl rfl (Nat.le_of_ble_eq_true rfl) dX3_close_22 (fun H locs hP _ hS => ?_)
  obtain ⟨σ5, eσ5⟩ : ∃ z, z = putL σ4 k 0 := ⟨_, rfl⟩
  have hP : va_P D vwCl (FW (5 * (n + 2)) ad (CC cs n ad σ5)) H := by rw [eσ5]; exact FW_P hP cu_tx_8
  exact hret _ _ _ () _ _ dX3_close_25 hP hS (trivial) (by simp only [eσ5, eσ4, eσ3, eσ2, eσ1]; first | done | rfl)

theorem iwX3_touches_X3 : ∀ w ∈ wsX30, w ∈ wsX3_touches := fun w h => by unfold wsX3_touches; simp only [List.mem_cons, List.mem_append, h, true_or, or_true]
theorem lkX3_touches_37 : Cond.fieldLink RX3 37 "CoreTransactions$Transaction" "linesRead" "I" ∈ wsX3_touches := by decide +kernel
theorem lkX3_touches_40 : Cond.fieldLink RX3 40 "CoreTransactions$Transaction" "linesWritten" "I" ∈ wsX3_touches := by decide +kernel
abbrev rmX3_touches : Room := ({ frames := 0, cells := 0, slots := 0, locals := 0 } : Room)
set_option maxRecDepth 100000 in
set_option maxHeartbeats 4000000 in
theorem kX3_touches (l : Launch) (D : va_G) (cs : Nat → ClassId) (n : Nat) (ad : Nat → Nat) (σ : St) (k : Nat) (hk : k < n) (ln : Nat) (w : Bool) : gMi l yX3_touches wsX3_touches rmX3_touches D (tyL cs) (5 * (n + 2)) ad (CC cs n ad σ) [.ref (ad (5 * (k + 2) + 2)), .int (nI ln), .int (bI w)] (fun (r : Int32) (u : Unit) => r = bI (tch σ k ln w)) (fun (u : Unit) => CC cs n ad σ) := by
  refine g_ofz (cc := cX3_touches) (maxL := 4) (by decide) rfl (Nat.le_of_ble_eq_true rfl) rfl rfl ?_
  intro p e s m args below meth c A ls Q hx hb hml hts hown hK hP hD hA hS hl hret
  have hl : lv_has ls 4 [(0, .ref (ad (5 * (k + 2) + 2))), (1, .int (nI ln)), (2, .int (bI w))] := hl
  refine lv_iload_n hx hb dX3_touches_0 rfl (lv_at hl 2 rfl) ?_
  refine lv_if_eq (tgt := 16) hx hb dX3_touches_1 (by decide) (fun c1 => ?_) (fun c1 => ?_)
  · have hw0 : w = false := bI0 c1
    refine lv_aload_n hx hb dX3_touches_16 rfl (lv_at hl 0 rfl) ?_
    refine va_get (D := D) (ci := 3) (v := .int (σ.1 23 k 0)) (C := RX3) (T := TX3) (N := 9) hx hb hts iwX3_touches_X3 hown hK hP (5 * (k + 2) + 2) (cc_tx hk) rfl 7 (by decide) (hts _ lkX3_touches_40) (fun _ h9 => h9) rfl dX3_touches_17 ?_
    refine lv_istore_n (lv' := [(3, .int (σ.1 23 k 0)), (0, .ref (ad (5 * (k + 2) + 2))), (1, .int (nI ln)), (2, .int (bI w))]) hx hb dX3_touches_20 rfl hl (by decide) rfl (fun ls hl => ?_)
    refine lv_iload_n hx hb dX3_touches_21 rfl (lv_at hl 0 rfl) ?_
    refine lv_iload_n hx hb dX3_touches_22 rfl (lv_at hl 2 rfl) ?_
    refine lv_ishr hx hb dX3_touches_23 ?_
    refine lv_iconst (v := 1) hx hb dX3_touches_24 (by decide) ?_
    refine lv_iand hx hb dX3_touches_25 ?_
    refine lv_iconst (v := 1) hx hb dX3_touches_26 (by decide) ?_
    refine lv_icmp_ne (tgt := 34) hx hb dX3_touches_27 (by decide) (fun c2 => ?_) (fun c2 => ?_)
    · refine lv_iconst (v := 0) hx hb dX3_touches_34 (by decide) ?_
      exact hret _ _ _ _ () _ _ dX3_touches_35 hP hS (Or.inl rfl) (by rw [hw0]; exact (bI_n (by simpa using c2)).symm) (rfl)
    · refine lv_iconst (v := 1) hx hb dX3_touches_30 (by decide) ?_
      refine lv_goto (tgt := 35) hx hb dX3_touches_31 (by decide) ?_
      exact hret _ _ _ _ () _ _ dX3_touches_35 hP hS (Or.inr rfl) (by rw [hw0]; exact (bI_d (by simpa using c2)).symm) (rfl)
  · have hw0 : w = true := bI1 c1
    refine lv_aload_n hx hb dX3_touches_4 rfl (lv_at hl 0 rfl) ?_
    refine va_get (D := D) (ci := 3) (v := .int (σ.1 22 k 0)) (C := RX3) (T := TX3) (N := 9) hx hb hts iwX3_touches_X3 hown hK hP (5 * (k + 2) + 2) (cc_tx hk) rfl 6 (by decide) (hts _ lkX3_touches_37) (fun _ h9 => h9) rfl dX3_touches_5 ?_
    refine lv_aload_n hx hb dX3_touches_8 rfl (lv_at hl 0 rfl) ?_
    refine va_get (D := D) (ci := 3) (v := .int (σ.1 23 k 0)) (C := RX3) (T := TX3) (N := 9) hx hb hts iwX3_touches_X3 hown hK hP (5 * (k + 2) + 2) (cc_tx hk) rfl 7 (by decide) (hts _ lkX3_touches_40) (fun _ h9 => h9) rfl dX3_touches_9 ?_
    refine lv_ior hx hb dX3_touches_12 ?_
    refine lv_goto (tgt := 20) hx hb dX3_touches_13 (by decide) ?_
    refine lv_istore_n (lv' := [(3, .int ((σ.1 22 k 0) ||| (σ.1 23 k 0))), (0, .ref (ad (5 * (k + 2) + 2))), (1, .int (nI ln)), (2, .int (bI w))]) hx hb dX3_touches_20 rfl hl (by decide) rfl (fun ls hl => ?_)
    refine lv_iload_n hx hb dX3_touches_21 rfl (lv_at hl 0 rfl) ?_
    refine lv_iload_n hx hb dX3_touches_22 rfl (lv_at hl 2 rfl) ?_
    refine lv_ishr hx hb dX3_touches_23 ?_
    refine lv_iconst (v := 1) hx hb dX3_touches_24 (by decide) ?_
    refine lv_iand hx hb dX3_touches_25 ?_
    refine lv_iconst (v := 1) hx hb dX3_touches_26 (by decide) ?_
    refine lv_icmp_ne (tgt := 34) hx hb dX3_touches_27 (by decide) (fun c3 => ?_) (fun c3 => ?_)
    · refine lv_iconst (v := 0) hx hb dX3_touches_34 (by decide) ?_
      exact hret _ _ _ _ () _ _ dX3_touches_35 hP hS (Or.inl rfl) (by rw [hw0]; exact (bI_n (by simpa using c3)).symm) (rfl)
    · refine lv_iconst (v := 1) hx hb dX3_touches_30 (by decide) ?_
      refine lv_goto (tgt := 35) hx hb dX3_touches_31 (by decide) ?_
      exact hret _ _ _ _ () _ _ dX3_touches_35 hP hS (Or.inr rfl) (by rw [hw0]; exact (bI_d (by simpa using c3)).symm) (rfl)

theorem iwX3_mark_X3 : ∀ w ∈ wsX30, w ∈ wsX3_mark := fun w h => by unfold wsX3_mark; simp only [List.mem_cons, List.mem_append, h, true_or, or_true]
theorem lkX3_mark_37 : Cond.fieldLink RX3 37 "CoreTransactions$Transaction" "linesRead" "I" ∈ wsX3_mark := by decide +kernel
theorem lkX3_mark_40 : Cond.fieldLink RX3 40 "CoreTransactions$Transaction" "linesWritten" "I" ∈ wsX3_mark := by decide +kernel
abbrev rmX3_mark : Room := ({ frames := 0, cells := 0, slots := 0, locals := 0 } : Room)
set_option maxRecDepth 100000 in
set_option maxHeartbeats 4000000 in
theorem kX3_mark (l : Launch) (D : va_G) (cs : Nat → ClassId) (n : Nat) (ad : Nat → Nat) (σ : St) (k : Nat) (hk : k < n) (ln : Nat) (w : Bool) : gMv l yX3_mark wsX3_mark rmX3_mark D (tyL cs) (5 * (n + 2)) ad (CC cs n ad σ) [.ref (ad (5 * (k + 2) + 2)), .int (nI ln), .int (bI w)] (fun (u : Unit) => True) (fun (u : Unit) => CC cs n ad (pMark σ k ln w)) := by
  refine g_ofv (cc := cX3_mark) (maxL := 3) (by decide) rfl (Nat.le_of_ble_eq_true rfl) rfl rfl ?_
  intro p e s m args below meth c A ls Q hx hb hml hts hown hK hP hD hA hS hl hret
  have hl : lv_has ls 3 [(0, .ref (ad (5 * (k + 2) + 2))), (1, .int (nI ln)), (2, .int (bI w))] := hl
  refine lv_iload_n hx hb dX3_mark_0 rfl (lv_at hl 2 rfl) ?_
  refine lv_if_eq (tgt := 19) hx hb dX3_mark_1 (by decide) (fun c1 => ?_) (fun c1 => ?_)
  · have hw0 : w = false := bI0 c1
    refine lv_aload_n hx hb dX3_mark_19 rfl (lv_at hl 0 rfl) ?_
    refine lv_dup hx hb dX3_mark_20 rfl ?_
    refine va_get (D := D) (ci := 3) (v := .int (σ.1 22 k 0)) (C := RX3) (T := TX3) (N := 9) hx hb hts iwX3_mark_X3 hown hK hP (5 * (k + 2) + 2) (cc_tx hk) rfl 6 (by decide) (hts _ lkX3_mark_37) (fun _ h9 => h9) rfl dX3_mark_21 ?_
    refine lv_iconst (v := 1) hx hb dX3_mark_24 (by decide) ?_
    refine lv_iload_n hx hb dX3_mark_25 rfl (lv_at hl 1 rfl) ?_
    refine lv_ishl hx hb dX3_mark_26 ?_
    refine lv_ior hx hb dX3_mark_27 ?_
    refine va_put (D := D) (ci := 3) (v := .int ((σ.1 22 k 0) ||| (1 <<< ((nI ln) &&& 31)))) (ty := .int) (C := RX3) (T := TX3) (N := 9) hx hb hts iwX3_mark_X3 tyX3 tyX3_ok nmX3 hown hK hP (hD _) hS (5 * (k + 2) + 2) (cc_tx hk) rfl 6 (by decide) (hts _ lkX3_mark_37) (fun _ h9 => h9) rfl (by decide +kernel) rfl rfl (Nat.le_of_ble_eq_true rfl) dX3_mark_28 (fun H locs hP _ hS => ?_)
    obtain ⟨σ2, eσ2⟩ : ∃ z, z = put σ 22 k 0 ((σ.1 22 k 0) ||| (1 <<< ((nI ln) &&& 31))) := ⟨_, rfl⟩
    have hP : va_P D vwCl (FW (5 * (n + 2)) ad (CC cs n ad σ2)) H := by rw [eσ2]; exact FW_P hP cu_tx_6
    exact hret _ _ _ () _ _ dX3_mark_31 hP hS (trivial) (by rw [hw0]; simp only [eσ2]; first | done | rfl)
  · have hw0 : w = true := bI1 c1
    refine lv_aload_n hx hb dX3_mark_4 rfl (lv_at hl 0 rfl) ?_
    refine lv_dup hx hb dX3_mark_5 rfl ?_
    refine va_get (D := D) (ci := 3) (v := .int (σ.1 23 k 0)) (C := RX3) (T := TX3) (N := 9) hx hb hts iwX3_mark_X3 hown hK hP (5 * (k + 2) + 2) (cc_tx hk) rfl 7 (by decide) (hts _ lkX3_mark_40) (fun _ h9 => h9) rfl dX3_mark_6 ?_
    refine lv_iconst (v := 1) hx hb dX3_mark_9 (by decide) ?_
    refine lv_iload_n hx hb dX3_mark_10 rfl (lv_at hl 1 rfl) ?_
    refine lv_ishl hx hb dX3_mark_11 ?_
    refine lv_ior hx hb dX3_mark_12 ?_
    refine va_put (D := D) (ci := 3) (v := .int ((σ.1 23 k 0) ||| (1 <<< ((nI ln) &&& 31)))) (ty := .int) (C := RX3) (T := TX3) (N := 9) hx hb hts iwX3_mark_X3 tyX3 tyX3_ok nmX3 hown hK hP (hD _) hS (5 * (k + 2) + 2) (cc_tx hk) rfl 7 (by decide) (hts _ lkX3_mark_40) (fun _ h9 => h9) rfl (by decide +kernel) rfl rfl (Nat.le_of_ble_eq_true rfl) dX3_mark_13 (fun H locs hP _ hS => ?_)
    obtain ⟨σ3, eσ3⟩ : ∃ z, z = put σ 23 k 0 ((σ.1 23 k 0) ||| (1 <<< ((nI ln) &&& 31))) := ⟨_, rfl⟩
    have hP : va_P D vwCl (FW (5 * (n + 2)) ad (CC cs n ad σ3)) H := by rw [eσ3]; exact FW_P hP cu_tx_7
    refine lv_goto (tgt := 31) hx hb dX3_mark_16 (by decide) ?_
    exact hret _ _ _ () _ _ dX3_mark_31 hP hS (trivial) (by rw [hw0]; simp only [eσ3]; first | done | rfl)

theorem iwX3_hasStored_X3 : ∀ w ∈ wsX30, w ∈ wsX3_hasStored := fun w h => by unfold wsX3_hasStored; simp only [List.mem_cons, List.mem_append, h, true_or, or_true]
theorem lkX3_hasStored_43 : Cond.fieldLink RX3 43 "CoreTransactions$Transaction" "stored" "J" ∈ wsX3_hasStored := by decide +kernel
abbrev rmX3_hasStored : Room := ({ frames := 0, cells := 0, slots := 0, locals := 0 } : Room)
set_option maxRecDepth 100000 in
set_option maxHeartbeats 4000000 in
theorem kX3_hasStored (l : Launch) (D : va_G) (cs : Nat → ClassId) (n : Nat) (ad : Nat → Nat) (σ : St) (k : Nat) (hk : k < n) (j : Nat) : gMi l yX3_hasStored wsX3_hasStored rmX3_hasStored D (tyL cs) (5 * (n + 2)) ad (CC cs n ad σ) [.ref (ad (5 * (k + 2) + 2)), .int (nI j)] (fun (r : Int32) (u : Unit) => r = bI (hasS σ k j)) (fun (u : Unit) => CC cs n ad σ) := by
  refine g_ofz (cc := cX3_hasStored) (maxL := 2) (by decide) rfl (Nat.le_of_ble_eq_true rfl) rfl rfl ?_
  intro p e s m args below meth c A ls Q hx hb hml hts hown hK hP hD hA hS hl hret
  have hl : lv_has ls 2 [(0, .ref (ad (5 * (k + 2) + 2))), (1, .int (nI j))] := hl
  refine lv_aload_n hx hb dX3_hasStored_0 rfl (lv_at hl 0 rfl) ?_
  refine va_get (D := D) (ci := 3) (v := .long (σ.2 k)) (C := RX3) (T := TX3) (N := 9) hx hb hts iwX3_hasStored_X3 hown hK hP (5 * (k + 2) + 2) (cc_tx hk) rfl 8 (by decide) (hts _ lkX3_hasStored_43) (fun _ h9 => h9) rfl dX3_hasStored_1 ?_
  refine lv_iload_n hx hb dX3_hasStored_4 rfl (lv_at hl 1 rfl) ?_
  refine lv_lshr (v := (σ.2 k) >>> ((nI j).toInt64 &&& 63)) hx hb dX3_hasStored_5 rfl ?_
  refine lv_lconst (v := 1) hx hb dX3_hasStored_6 (by decide) ?_
  refine lv_land hx hb dX3_hasStored_7 ?_
  refine lv_lconst (v := 1) hx hb dX3_hasStored_8 (by decide) ?_
  refine W.lcmp hx hb dX3_hasStored_9 ?_
  refine lv_if_ne (tgt := 17) hx hb dX3_hasStored_10 (by decide) (fun c1 => ?_) (fun c1 => ?_)
  · refine lv_iconst (v := 0) hx hb dX3_hasStored_17 (by decide) ?_
    exact hret _ _ _ _ () _ _ dX3_hasStored_18 hP hS (Or.inl rfl) ((bI_n (lcmp_n c1)).symm) (rfl)
  · refine lv_iconst (v := 1) hx hb dX3_hasStored_13 (by decide) ?_
    refine lv_goto (tgt := 18) hx hb dX3_hasStored_14 (by decide) ?_
    exact hret _ _ _ _ () _ _ dX3_hasStored_18 hP hS (Or.inr rfl) ((bI_d (lcmp_1 c1)).symm) (rfl)

theorem iwX3_keep_X3 : ∀ w ∈ wsX30, w ∈ wsX3_keep := fun w h => by unfold wsX3_keep; simp only [List.mem_cons, List.mem_append, h, true_or, or_true]
theorem lkX3_keep_15 : Cond.fieldLink RX3 15 "CoreTransactions$Transaction" "storedWords" "[I" ∈ wsX3_keep := by decide +kernel
theorem lkX3_keep_43 : Cond.fieldLink RX3 43 "CoreTransactions$Transaction" "stored" "J" ∈ wsX3_keep := by decide +kernel
abbrev rmX3_keep : Room := ({ frames := 0, cells := 0, slots := 0, locals := 0 } : Room)
set_option maxRecDepth 100000 in
set_option maxHeartbeats 4000000 in
theorem kX3_keep (l : Launch) (D : va_G) (cs : Nat → ClassId) (n : Nat) (ad : Nat → Nat) (σ : St) (k : Nat) (hk : k < n) (j : Nat) (hj : j < 64) (v : Int32) : gMv l yX3_keep wsX3_keep rmX3_keep D (tyL cs) (5 * (n + 2)) ad (CC cs n ad σ) [.ref (ad (5 * (k + 2) + 2)), .int (nI j), .int v] (fun (u : Unit) => True) (fun (u : Unit) => CC cs n ad (pKeep σ k j v)) := by
  refine g_ofv (cc := cX3_keep) (maxL := 3) (by decide) rfl (Nat.le_of_ble_eq_true rfl) rfl rfl ?_
  intro p e s m args below meth c A ls Q hx hb hml hts hown hK hP hD hA hS hl hret
  have hl : lv_has ls 3 [(0, .ref (ad (5 * (k + 2) + 2))), (1, .int (nI j)), (2, .int v)] := hl
  refine lv_aload_n hx hb dX3_keep_0 rfl (lv_at hl 0 rfl) ?_
  refine lv_dup hx hb dX3_keep_1 rfl ?_
  refine va_get (D := D) (ci := 3) (v := .long (σ.2 k)) (C := RX3) (T := TX3) (N := 9) hx hb hts iwX3_keep_X3 hown hK hP (5 * (k + 2) + 2) (cc_tx hk) rfl 8 (by decide) (hts _ lkX3_keep_43) (fun _ h9 => h9) rfl dX3_keep_2 ?_
  refine lv_lconst (v := 1) hx hb dX3_keep_5 (by decide) ?_
  refine lv_iload_n hx hb dX3_keep_6 rfl (lv_at hl 1 rfl) ?_
  refine lv_lshl (v := 1 <<< ((nI j).toInt64 &&& 63)) hx hb dX3_keep_7 rfl ?_
  refine lv_lor hx hb dX3_keep_8 ?_
  refine va_put (D := D) (ci := 3) (v := .long ((σ.2 k) ||| (1 <<< ((nI j).toInt64 &&& 63)))) (ty := .long) (C := RX3) (T := TX3) (N := 9) hx hb hts iwX3_keep_X3 tyX3 tyX3_ok nmX3 hown hK hP (hD _) hS (5 * (k + 2) + 2) (cc_tx hk) rfl 8 (by decide) (hts _ lkX3_keep_43) (fun _ h9 => h9) rfl (by decide +kernel) rfl rfl (Nat.le_of_ble_eq_true rfl) dX3_keep_9 (fun H locs hP _ hS => ?_)
  obtain ⟨σ1, eσ1⟩ : ∃ z, z = putL σ k ((σ.2 k) ||| (1 <<< ((nI j).toInt64 &&& 63))) := ⟨_, rfl⟩
  have hP : va_P D vwCl (FW (5 * (n + 2)) ad (CC cs n ad σ1)) H := by rw [eσ1]; exact FW_P hP cu_tx_8
  refine lv_aload_n hx hb dX3_keep_12 rfl (lv_at hl 0 rfl) ?_
  refine va_get (D := D) (ci := 3) (v := .ref (ad (5 * (k + 2) + 4))) (C := RX3) (T := TX3) (N := 9) hx hb hts iwX3_keep_X3 hown hK hP (5 * (k + 2) + 2) (cc_tx hk) rfl 1 (by decide) (hts _ lkX3_keep_15) (fun _ h9 => h9) rfl dX3_keep_13 ?_
  refine lv_iload_n hx hb dX3_keep_16 rfl (lv_at hl 1 rfl) ?_
  refine lv_iload_n hx hb dX3_keep_17 rfl (lv_at hl 2 rfl) ?_
  refine g_iast (t0 := 0) hx hb hK hP hD hS (cc_stw hk) rfl j rfl hj (by decide) dX3_keep_18 (fun H locs hP hS => ?_)
  obtain ⟨σ2, eσ2⟩ : ∃ z, z = put σ1 12 k j v := ⟨_, rfl⟩
  have hP : va_P D vwCl (FW (5 * (n + 2)) ad (CC cs n ad σ2)) H := by rw [eσ2]; exact FW_P hP cu_stw
  exact hret _ _ _ () _ _ dX3_keep_19 hP hS (trivial) (by simp only [eσ2, eσ1]; first | done | rfl)

theorem iwX0_put_X0 : ∀ w ∈ wsX00, w ∈ wsX0_put := fun w h => by unfold wsX0_put; simp only [List.mem_cons, List.mem_append, h, true_or, or_true]
theorem lkX0_put_9 : Cond.fieldLink RX0 9 "CoreTransactions$Core" "registers" "[I" ∈ wsX0_put := by decide +kernel
abbrev rmX0_put : Room := ({ frames := 0, cells := 0, slots := 0, locals := 0 } : Room)
set_option maxRecDepth 100000 in
set_option maxHeartbeats 4000000 in
theorem kX0_put (l : Launch) (D : va_G) (cs : Nat → ClassId) (n : Nat) (ad : Nat → Nat) (σ : St) (k : Nat) (hk : k < n) (j : Nat) (hj : j < 8) (v : Int32) : gMv l yX0_put wsX0_put rmX0_put D (tyL cs) (5 * (n + 2)) ad (CC cs n ad σ) [.ref (ad (5 * (k + 2) + 0)), .int (nI j), .int v] (fun (u : Unit) => True) (fun (u : Unit) => CC cs n ad (pGive σ k j v)) := by
  refine g_ofv (cc := cX0_put) (maxL := 3) (by decide) rfl (Nat.le_of_ble_eq_true rfl) rfl rfl ?_
  intro p e s m args below meth c A ls Q hx hb hml hts hown hK hP hD hA hS hl hret
  have hl : lv_has ls 3 [(0, .ref (ad (5 * (k + 2) + 0))), (1, .int (nI j)), (2, .int v)] := hl
  refine lv_iload_n hx hb dX0_put_0 rfl (lv_at hl 1 rfl) ?_
  refine lv_if_eq (tgt := 11) hx hb dX0_put_1 (by decide) (fun c1 => ?_) (fun c1 => ?_)
  · have hj0 : j = 0 := (nI_eq (by omega) (by omega)).mp (c1 : nI j = nI 0)
    exact hret _ _ _ () _ _ dX0_put_11 hP hS (trivial) (by simp only [pGive, hj0, if_true, if_false])
  · have hj0 : ¬ j = 0 := fun h => c1 (by rw [h]; rfl)
    refine lv_aload_n hx hb dX0_put_4 rfl (lv_at hl 0 rfl) ?_
    refine va_get (D := D) (ci := 0) (v := .ref (ad (5 * (k + 2) + 1))) (C := RX0) (T := TX0) (N := 8) hx hb hts iwX0_put_X0 hown hK hP (5 * (k + 2) + 0) (cc_core hk) rfl 1 (by decide) (hts _ lkX0_put_9) (fun _ h9 => h9) rfl dX0_put_5 ?_
    refine lv_iload_n hx hb dX0_put_8 rfl (lv_at hl 1 rfl) ?_
    refine lv_iload_n hx hb dX0_put_9 rfl (lv_at hl 2 rfl) ?_
    refine g_iast (t0 := 0) hx hb hK hP hD hS (cc_regs hk) rfl j rfl hj (by decide) dX0_put_10 (fun H locs hP hS => ?_)
    obtain ⟨σ2, eσ2⟩ : ∃ z, z = put σ 10 k j v := ⟨_, rfl⟩
    have hP : va_P D vwCl (FW (5 * (n + 2)) ad (CC cs n ad σ2)) H := by rw [eσ2]; exact FW_P hP cu_regs
    exact hret _ _ _ () _ _ dX0_put_11 hP hS (trivial) (by simp only [eσ2]; simp only [pGive, hj0, if_true, if_false])

theorem iwX2_forget_X2 : ∀ w ∈ wsX20, w ∈ wsX2_forget := fun w h => by unfold wsX2_forget; simp only [List.mem_cons, List.mem_append, h, true_or, or_true]
theorem lkX2_forget_15 : Cond.fieldLink RX2 15 "CoreTransactions$Records" "oldest" "I" ∈ wsX2_forget := by decide +kernel
theorem lkX2_forget_19 : Cond.fieldLink RX2 19 "CoreTransactions$Records" "count" "I" ∈ wsX2_forget := by decide +kernel
abbrev rmX2_forget : Room := ({ frames := 0, cells := 0, slots := 0, locals := 0 } : Room)
set_option maxRecDepth 100000 in
set_option maxHeartbeats 4000000 in
theorem kX2_forget (l : Launch) (D : va_G) (cs : Nat → ClassId) (n : Nat) (ad : Nat → Nat) (σ : St)  : gMv l yX2_forget wsX2_forget rmX2_forget D (tyL cs) (5 * (n + 2)) ad (CC cs n ad σ) [.ref (ad 4)] (fun (u : Unit) => True) (fun (u : Unit) => CC cs n ad (put (put σ 7 0 0 0) 8 0 0 0)) := by
  refine g_ofv (cc := cX2_forget) (maxL := 1) (by decide) rfl (Nat.le_of_ble_eq_true rfl) rfl rfl ?_
  intro p e s m args below meth c A ls Q hx hb hml hts hown hK hP hD hA hS hl hret
  have hl : lv_has ls 1 [(0, .ref (ad 4))] := hl
  refine lv_aload_n hx hb dX2_forget_0 rfl (lv_at hl 0 rfl) ?_
  refine lv_iconst (v := 0) hx hb dX2_forget_1 (by decide) ?_
  refine va_put (D := D) (ci := 2) (v := .int 0) (ty := .int) (C := RX2) (T := TX2) (N := 3) hx hb hts iwX2_forget_X2 tyX2 tyX2_ok nmX2 hown hK hP (hD _) hS 4 cc_rec rfl 1 (by decide) (hts _ lkX2_forget_19) (fun _ h9 => h9) rfl (by decide +kernel) rfl rfl (Nat.le_of_ble_eq_true rfl) dX2_forget_2 (fun H locs hP _ hS => ?_)
  obtain ⟨σ1, eσ1⟩ : ∃ z, z = put σ 7 0 0 0 := ⟨_, rfl⟩
  have hP : va_P D vwCl (FW (5 * (n + 2)) ad (CC cs n ad σ1)) H := by rw [eσ1]; exact FW_P hP cu_rec_1
  refine lv_aload_n hx hb dX2_forget_5 rfl (lv_at hl 0 rfl) ?_
  refine lv_iconst (v := 0) hx hb dX2_forget_6 (by decide) ?_
  refine va_put (D := D) (ci := 2) (v := .int 0) (ty := .int) (C := RX2) (T := TX2) (N := 3) hx hb hts iwX2_forget_X2 tyX2 tyX2_ok nmX2 hown hK hP (hD _) hS 4 cc_rec rfl 2 (by decide) (hts _ lkX2_forget_15) (fun _ h9 => h9) rfl (by decide +kernel) rfl rfl (Nat.le_of_ble_eq_true rfl) dX2_forget_7 (fun H locs hP _ hS => ?_)
  obtain ⟨σ2, eσ2⟩ : ∃ z, z = put σ1 8 0 0 0 := ⟨_, rfl⟩
  have hP : va_P D vwCl (FW (5 * (n + 2)) ad (CC cs n ad σ2)) H := by rw [eσ2]; exact FW_P hP cu_rec_2
  exact hret _ _ _ () _ _ dX2_forget_10 hP hS (trivial) (by simp only [eσ2, eσ1]; first | done | rfl)

theorem iwX2_field_X2 : ∀ w ∈ wsX20, w ∈ wsX2_field := fun w h => by unfold wsX2_field; simp only [List.mem_cons, List.mem_append, h, true_or, or_true]
theorem lkX2_field_9 : Cond.fieldLink RX2 9 "CoreTransactions$Records" "fields" "[I" ∈ wsX2_field := by decide +kernel
theorem lkX2_field_15 : Cond.fieldLink RX2 15 "CoreTransactions$Records" "oldest" "I" ∈ wsX2_field := by decide +kernel
abbrev rmX2_field : Room := ({ frames := 0, cells := 0, slots := 0, locals := 0 } : Room)
set_option maxRecDepth 100000 in
set_option maxHeartbeats 4000000 in
theorem kX2_field (l : Launch) (D : va_G) (cs : Nat → ClassId) (n : Nat) (ad : Nat → Nat) (σ : St) (o i w : Nat) (ho : σ.1 8 0 0 = nI o) (ho2 : o < 100) (hi : i < 100) (hw4 : w < 4) : gMi l yX2_field wsX2_field rmX2_field D (tyL cs) (5 * (n + 2)) ad (CC cs n ad σ) [.ref (ad 4), .int (nI i), .int (nI w)] (fun (r : Int32) (u : Unit) => r = σ.1 6 0 ((o + i) % 100 * 4 + w)) (fun (u : Unit) => CC cs n ad σ) := by
  refine g_ofi (cc := cX2_field) (maxL := 3) (by decide) rfl (Nat.le_of_ble_eq_true rfl) rfl rfl ?_
  intro p e s m args below meth c A ls Q hx hb hml hts hown hK hP hD hA hS hl hret
  have hl : lv_has ls 3 [(0, .ref (ad 4)), (1, .int (nI i)), (2, .int (nI w))] := hl
  refine lv_aload_n hx hb dX2_field_0 rfl (lv_at hl 0 rfl) ?_
  refine va_get (D := D) (ci := 2) (v := .ref (ad 9)) (C := RX2) (T := TX2) (N := 3) hx hb hts iwX2_field_X2 hown hK hP 4 cc_rec rfl 0 (by decide) (hts _ lkX2_field_9) (fun _ h9 => h9) rfl dX2_field_1 ?_
  refine lv_aload_n hx hb dX2_field_4 rfl (lv_at hl 0 rfl) ?_
  refine va_get (D := D) (ci := 2) (v := .int (σ.1 8 0 0)) (C := RX2) (T := TX2) (N := 3) hx hb hts iwX2_field_X2 hown hK hP 4 cc_rec rfl 2 (by decide) (hts _ lkX2_field_15) (fun _ h9 => h9) rfl dX2_field_5 ?_
  refine lv_iload_n hx hb dX2_field_8 rfl (lv_at hl 1 rfl) ?_
  refine lv_iadd hx hb dX2_field_9 ?_
  refine g_top (y := nI (o + i)) (by rw [ho, nI_add]) ?_
  refine lv_bipush (v := 100) hx hb dX2_field_10 (by decide) ?_
  refine lv_irem hx hb dX2_field_12 (by decide) ?_
  refine g_top (y := nI ((o + i) % 100)) (pk_rem (by omega) (by decide) (by decide)) ?_
  refine lv_iconst (v := 4) hx hb dX2_field_13 (by decide) ?_
  refine lv_imul hx hb dX2_field_14 ?_
  refine g_top (y := nI ((o + i) % 100 * 4)) (pk_mul _ 4) ?_
  refine lv_iload_n hx hb dX2_field_15 rfl (lv_at hl 2 rfl) ?_
  refine lv_iadd hx hb dX2_field_16 ?_
  refine g_top (y := nI ((o + i) % 100 * 4 + w)) (nI_add _ _) ?_
  refine g_iald (t0 := 0) (v := σ.1 6 0 ((o + i) % 100 * 4 + w)) hx hb hK hP cc_fld rfl ((o + i) % 100 * 4 + w) rfl (by omega) (by decide) rfl dX2_field_17 ?_
  exact hret _ _ _ _ () _ _ dX2_field_18 hP hS (rfl) (rfl)

theorem iwX1_append_X1 : ∀ w ∈ wsX10, w ∈ wsX1_append := fun w h => by unfold wsX1_append; simp only [List.mem_cons, List.mem_append, h, true_or, or_true]
theorem lkX1_append_9 : Cond.fieldLink RX1 9 "CoreTransactions$Program" "operations" "[I" ∈ wsX1_append := by decide +kernel
theorem lkX1_append_15 : Cond.fieldLink RX1 15 "CoreTransactions$Program" "a" "[I" ∈ wsX1_append := by decide +kernel
theorem lkX1_append_18 : Cond.fieldLink RX1 18 "CoreTransactions$Program" "b" "[I" ∈ wsX1_append := by decide +kernel
theorem lkX1_append_21 : Cond.fieldLink RX1 21 "CoreTransactions$Program" "c" "[I" ∈ wsX1_append := by decide +kernel
theorem lkX1_append_24 : Cond.fieldLink RX1 24 "CoreTransactions$Program" "length" "I" ∈ wsX1_append := by decide +kernel
abbrev rmX1_append : Room := ({ frames := 0, cells := 0, slots := 0, locals := 0 } : Room)
set_option maxRecDepth 100000 in
set_option maxHeartbeats 4000000 in
theorem kX1_append (l : Launch) (D : va_G) (cs : Nat → ClassId) (n : Nat) (ad : Nat → Nat) (σ : St) (o a b d : Int32) (L : Nat) (hL : σ.1 5 0 0 = nI L) (hL8 : L < 80) : gMi l yX1_append wsX1_append rmX1_append D (tyL cs) (5 * (n + 2)) ad (CC cs n ad σ) [.ref (ad 3), .int o, .int a, .int b, .int d] (fun (r : Int32) (u : Unit) => r = σ.1 5 0 0) (fun (u : Unit) => CC cs n ad (pApp σ o a b d)) := by
  refine g_ofi (cc := cX1_append) (maxL := 6) (by decide) rfl (Nat.le_of_ble_eq_true rfl) rfl rfl ?_
  intro p e s m args below meth c A ls Q hx hb hml hts hown hK hP hD hA hS hl hret
  have hl : lv_has ls 6 [(0, .ref (ad 3)), (1, .int o), (2, .int a), (3, .int b), (4, .int d)] := hl
  refine lv_aload_n hx hb dX1_append_0 rfl (lv_at hl 0 rfl) ?_
  refine va_get (D := D) (ci := 1) (v := .int (σ.1 5 0 0)) (C := RX1) (T := TX1) (N := 5) hx hb hts iwX1_append_X1 hown hK hP 3 cc_pro rfl 4 (by decide) (hts _ lkX1_append_24) (fun _ h9 => h9) rfl dX1_append_1 ?_
  refine lv_istore (lv' := [(5, .int (σ.1 5 0 0)), (0, .ref (ad 3)), (1, .int o), (2, .int a), (3, .int b), (4, .int d)]) hx hb dX1_append_4 hl (by decide) rfl (fun ls hl => ?_)
  refine lv_aload_n hx hb dX1_append_6 rfl (lv_at hl 1 rfl) ?_
  refine va_get (D := D) (ci := 1) (v := .ref (ad 5)) (C := RX1) (T := TX1) (N := 5) hx hb hts iwX1_append_X1 hown hK hP 3 cc_pro rfl 0 (by decide) (hts _ lkX1_append_9) (fun _ h9 => h9) rfl dX1_append_7 ?_
  refine lv_iload hx hb dX1_append_10 (lv_at hl 0 rfl) ?_
  refine lv_iload_n hx hb dX1_append_12 rfl (lv_at hl 2 rfl) ?_
  refine g_iast (t0 := 0) hx hb hK hP hD hS cc_ops rfl L hL hL8 (by decide) dX1_append_13 (fun H locs hP hS => ?_)
  obtain ⟨σ1, eσ1⟩ : ∃ z, z = put σ 1 0 L o := ⟨_, rfl⟩
  have hP : va_P D vwCl (FW (5 * (n + 2)) ad (CC cs n ad σ1)) H := by rw [eσ1]; exact FW_P hP cu_ops
  refine lv_aload_n hx hb dX1_append_14 rfl (lv_at hl 1 rfl) ?_
  refine va_get (D := D) (ci := 1) (v := .ref (ad 6)) (C := RX1) (T := TX1) (N := 5) hx hb hts iwX1_append_X1 hown hK hP 3 cc_pro rfl 1 (by decide) (hts _ lkX1_append_15) (fun _ h9 => h9) rfl dX1_append_15 ?_
  refine lv_iload hx hb dX1_append_18 (lv_at hl 0 rfl) ?_
  refine lv_iload_n hx hb dX1_append_20 rfl (lv_at hl 3 rfl) ?_
  refine g_iast (t0 := 0) hx hb hK hP hD hS cc_pa rfl L hL hL8 (by decide) dX1_append_21 (fun H locs hP hS => ?_)
  obtain ⟨σ2, eσ2⟩ : ∃ z, z = put σ1 2 0 L a := ⟨_, rfl⟩
  have hP : va_P D vwCl (FW (5 * (n + 2)) ad (CC cs n ad σ2)) H := by rw [eσ2]; exact FW_P hP cu_pa
  refine lv_aload_n hx hb dX1_append_22 rfl (lv_at hl 1 rfl) ?_
  refine va_get (D := D) (ci := 1) (v := .ref (ad 7)) (C := RX1) (T := TX1) (N := 5) hx hb hts iwX1_append_X1 hown hK hP 3 cc_pro rfl 2 (by decide) (hts _ lkX1_append_18) (fun _ h9 => h9) rfl dX1_append_23 ?_
  refine lv_iload hx hb dX1_append_26 (lv_at hl 0 rfl) ?_
  refine lv_iload_n hx hb dX1_append_28 rfl (lv_at hl 4 rfl) ?_
  refine g_iast (t0 := 0) hx hb hK hP hD hS cc_pb rfl L hL hL8 (by decide) dX1_append_29 (fun H locs hP hS => ?_)
  obtain ⟨σ3, eσ3⟩ : ∃ z, z = put σ2 3 0 L b := ⟨_, rfl⟩
  have hP : va_P D vwCl (FW (5 * (n + 2)) ad (CC cs n ad σ3)) H := by rw [eσ3]; exact FW_P hP cu_pb
  refine lv_aload_n hx hb dX1_append_30 rfl (lv_at hl 1 rfl) ?_
  refine va_get (D := D) (ci := 1) (v := .ref (ad 8)) (C := RX1) (T := TX1) (N := 5) hx hb hts iwX1_append_X1 hown hK hP 3 cc_pro rfl 3 (by decide) (hts _ lkX1_append_21) (fun _ h9 => h9) rfl dX1_append_31 ?_
  refine lv_iload hx hb dX1_append_34 (lv_at hl 0 rfl) ?_
  refine lv_iload hx hb dX1_append_36 (lv_at hl 5 rfl) ?_
  refine g_iast (t0 := 0) hx hb hK hP hD hS cc_pc rfl L hL hL8 (by decide) dX1_append_38 (fun H locs hP hS => ?_)
  obtain ⟨σ4, eσ4⟩ : ∃ z, z = put σ3 4 0 L d := ⟨_, rfl⟩
  have hP : va_P D vwCl (FW (5 * (n + 2)) ad (CC cs n ad σ4)) H := by rw [eσ4]; exact FW_P hP cu_pc
  refine lv_aload_n hx hb dX1_append_39 rfl (lv_at hl 1 rfl) ?_
  refine lv_dup hx hb dX1_append_40 rfl ?_
  refine va_get (D := D) (ci := 1) (v := .int (σ4.1 5 0 0)) (C := RX1) (T := TX1) (N := 5) hx hb hts iwX1_append_X1 hown hK hP 3 cc_pro rfl 4 (by decide) (hts _ lkX1_append_24) (fun _ h9 => h9) rfl dX1_append_41 ?_
  refine lv_iconst (v := 1) hx hb dX1_append_44 (by decide) ?_
  refine lv_iadd hx hb dX1_append_45 ?_
  refine va_put (D := D) (ci := 1) (v := .int ((σ4.1 5 0 0) + 1)) (ty := .int) (C := RX1) (T := TX1) (N := 5) hx hb hts iwX1_append_X1 tyX1 tyX1_ok nmX1 hown hK hP (hD _) hS 3 cc_pro rfl 4 (by decide) (hts _ lkX1_append_24) (fun _ h9 => h9) rfl (by decide +kernel) rfl rfl (Nat.le_of_ble_eq_true rfl) dX1_append_46 (fun H locs hP _ hS => ?_)
  obtain ⟨σ5, eσ5⟩ : ∃ z, z = put σ4 5 0 0 ((σ4.1 5 0 0) + 1) := ⟨_, rfl⟩
  have hP : va_P D vwCl (FW (5 * (n + 2)) ad (CC cs n ad σ5)) H := by rw [eσ5]; exact FW_P hP cu_pro_4
  refine lv_iload hx hb dX1_append_49 (lv_at hl 0 rfl) ?_
  exact hret _ _ _ _ () _ _ dX1_append_51 hP hS (rfl) (by simp only [eσ5, eσ4, eσ3, eσ2, eσ1]; rw [show pApp σ o a b d = put (put (put (put (put σ 1 0 L o) 2 0 L a) 3 0 L b) 4 0 L d) 5 0 0 (σ.1 5 0 0 + 1) from by unfold pApp; rw [hL, iN_nI (show L < 2 ^ 31 by omega)]]; rfl)
