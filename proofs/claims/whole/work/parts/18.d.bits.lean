/-! bitCount, factOf, namesRegisters -/
theorem lkJ6_bitCount_0f7a4_265 : Cond.constant RJ6 265 1431655765 ∈ wsJ6_bitCount_0f7a4 := by decide +kernel
theorem lkJ6_bitCount_0f7a4_266 : Cond.constant RJ6 266 858993459 ∈ wsJ6_bitCount_0f7a4 := by decide +kernel
theorem lkJ6_bitCount_0f7a4_267 : Cond.constant RJ6 267 252645135 ∈ wsJ6_bitCount_0f7a4 := by decide +kernel
abbrev rmJ6_bitCount_0f7a4 : Room := ({ frames := 0, cells := 0, slots := 0, locals := 0 } : Room)
set_option maxRecDepth 100000 in
set_option maxHeartbeats 4000000 in
theorem kJ6_bitCount_0f7a4 (l : Launch) (D : va_G) (cs : Nat → ClassId) (n : Nat) (ad : Nat → Nat) (σ : St) (y : Nat) (hy : y < 65536) : gMi l yJ6_bitCount_0f7a4 wsJ6_bitCount_0f7a4 rmJ6_bitCount_0f7a4 D (tyL cs) (5 * (n + 2)) ad (CC cs n ad σ) [.int (nI y)] (fun (r : Int32) (u : Unit) => r = nI (bq 32 y)) (fun (u : Unit) => CC cs n ad σ) := by
  refine g_ofi (cc := cJ6_bitCount_0f7a4) (maxL := 1) (by decide) rfl (Nat.le_of_ble_eq_true rfl) rfl rfl ?_
  intro p e s m args below meth c A ls Q hx hb hml hts hown hK hP hD hA hS hl hret
  have hl : lv_has ls 1 [(0, .int (nI y))] := hl
  refine lv_iload_n hx hb dJ6_bitCount_0f7a4_0 rfl (lv_at hl 0 rfl) ?_
  refine lv_iload_n hx hb dJ6_bitCount_0f7a4_1 rfl (lv_at hl 0 rfl) ?_
  refine lv_iconst (v := 1) hx hb dJ6_bitCount_0f7a4_2 (by decide) ?_
  refine lv_iushr (v := nI (y / 2)) hx hb dJ6_bitCount_0f7a4_3 (pk_ushrN (n := y) (by omega) 1 1 (by decide)) ?_
  refine lv_ldcw (v := 1431655765) hx hb hown (hts _ lkJ6_bitCount_0f7a4_265) dJ6_bitCount_0f7a4_4 ?_
  refine lv_iand hx hb dJ6_bitCount_0f7a4_7 ?_
  refine g_top (y := nI (y / 2 &&& 1431655765)) (bc_and (y / 2) 1431655765) ?_
  obtain ⟨y1, hy1⟩ : ∃ z, z = y - (y / 2 &&& 1431655765) := ⟨_, rfl⟩
  have b1 : y1 < 65536 := by omega
  refine lv_isub hx hb dJ6_bitCount_0f7a4_8 ?_
  refine g_top (y := nI y1) (by rw [hy1]; exact pk_sub (Nat.le_trans Nat.and_le_left (Nat.div_le_self _ _))) ?_
  refine lv_istore_n (lv' := [(0, .int (nI y1))]) hx hb dJ6_bitCount_0f7a4_9 rfl hl (by decide) rfl (fun ls hl => ?_)
  refine lv_iload_n hx hb dJ6_bitCount_0f7a4_10 rfl (lv_at hl 0 rfl) ?_
  refine lv_ldcw (v := 858993459) hx hb hown (hts _ lkJ6_bitCount_0f7a4_266) dJ6_bitCount_0f7a4_11 ?_
  refine lv_iand hx hb dJ6_bitCount_0f7a4_14 ?_
  refine g_top (y := nI (y1 &&& 858993459)) (bc_and y1 858993459) ?_
  refine lv_iload_n hx hb dJ6_bitCount_0f7a4_15 rfl (lv_at hl 0 rfl) ?_
  refine lv_iconst (v := 2) hx hb dJ6_bitCount_0f7a4_16 (by decide) ?_
  refine lv_iushr (v := nI (y1 / 4)) hx hb dJ6_bitCount_0f7a4_17 (pk_ushrN (n := y1) (by omega) 2 2 (by decide)) ?_
  refine lv_ldcw (v := 858993459) hx hb hown (hts _ lkJ6_bitCount_0f7a4_266) dJ6_bitCount_0f7a4_18 ?_
  refine lv_iand hx hb dJ6_bitCount_0f7a4_21 ?_
  refine g_top (y := nI (y1 / 4 &&& 858993459)) (bc_and (y1 / 4) 858993459) ?_
  obtain ⟨y2, hy2⟩ : ∃ z, z = (y1 &&& 858993459) + (y1 / 4 &&& 858993459) := ⟨_, rfl⟩
  have b2 : y2 < 4294967296 / 2 := by have := @Nat.and_le_right y1 858993459; have := @Nat.and_le_right (y1 / 4) 858993459; omega
  refine lv_iadd hx hb dJ6_bitCount_0f7a4_22 ?_
  refine g_top (y := nI y2) (by rw [hy2]; exact nI_add _ _) ?_
  refine lv_istore_n (lv' := [(0, .int (nI y2))]) hx hb dJ6_bitCount_0f7a4_23 rfl hl (by decide) rfl (fun ls hl => ?_)
  refine lv_iload_n hx hb dJ6_bitCount_0f7a4_24 rfl (lv_at hl 0 rfl) ?_
  refine lv_iload_n hx hb dJ6_bitCount_0f7a4_25 rfl (lv_at hl 0 rfl) ?_
  refine lv_iconst (v := 4) hx hb dJ6_bitCount_0f7a4_26 (by decide) ?_
  refine lv_iushr (v := nI (y2 / 16)) hx hb dJ6_bitCount_0f7a4_27 (pk_ushrN (n := y2) (by omega) 4 4 (by decide)) ?_
  refine lv_iadd hx hb dJ6_bitCount_0f7a4_28 ?_
  refine g_top (y := nI (y2 + y2 / 16)) (nI_add _ _) ?_
  refine lv_ldcw (v := 252645135) hx hb hown (hts _ lkJ6_bitCount_0f7a4_267) dJ6_bitCount_0f7a4_29 ?_
  obtain ⟨y3, hy3⟩ : ∃ z, z = (y2 + y2 / 16) &&& 252645135 := ⟨_, rfl⟩
  have b3 : y3 ≤ 252645135 := by rw [hy3]; exact Nat.and_le_right
  refine lv_iand hx hb dJ6_bitCount_0f7a4_32 ?_
  refine g_top (y := nI y3) (by rw [hy3]; exact bc_and _ 252645135) ?_
  refine lv_istore_n (lv' := [(0, .int (nI y3))]) hx hb dJ6_bitCount_0f7a4_33 rfl hl (by decide) rfl (fun ls hl => ?_)
  refine lv_iload_n hx hb dJ6_bitCount_0f7a4_34 rfl (lv_at hl 0 rfl) ?_
  refine lv_iload_n hx hb dJ6_bitCount_0f7a4_35 rfl (lv_at hl 0 rfl) ?_
  refine lv_bipush (v := 8) hx hb dJ6_bitCount_0f7a4_36 (by decide) ?_
  refine lv_iushr (v := nI (y3 / 256)) hx hb dJ6_bitCount_0f7a4_38 (pk_ushrN (n := y3) (by omega) 8 8 (by decide)) ?_
  obtain ⟨y4, hy4⟩ : ∃ z, z = y3 + y3 / 256 := ⟨_, rfl⟩
  have b4 : y4 < 4294967296 := by omega
  refine lv_iadd hx hb dJ6_bitCount_0f7a4_39 ?_
  refine g_top (y := nI y4) (by rw [hy4]; exact nI_add _ _) ?_
  refine lv_istore_n (lv' := [(0, .int (nI y4))]) hx hb dJ6_bitCount_0f7a4_40 rfl hl (by decide) rfl (fun ls hl => ?_)
  refine lv_iload_n hx hb dJ6_bitCount_0f7a4_41 rfl (lv_at hl 0 rfl) ?_
  refine lv_iload_n hx hb dJ6_bitCount_0f7a4_42 rfl (lv_at hl 0 rfl) ?_
  refine lv_bipush (v := 16) hx hb dJ6_bitCount_0f7a4_43 (by decide) ?_
  refine lv_iushr (v := nI (y4 / 65536)) hx hb dJ6_bitCount_0f7a4_45 (pk_ushrN (n := y4) (by omega) 16 16 (by decide)) ?_
  obtain ⟨y5, hy5⟩ : ∃ z, z = y4 + y4 / 65536 := ⟨_, rfl⟩
  refine lv_iadd hx hb dJ6_bitCount_0f7a4_46 ?_
  refine g_top (y := nI y5) (by rw [hy5]; exact nI_add _ _) ?_
  refine lv_istore_n (lv' := [(0, .int (nI y5))]) hx hb dJ6_bitCount_0f7a4_47 rfl hl (by decide) rfl (fun ls hl => ?_)
  refine lv_iload_n hx hb dJ6_bitCount_0f7a4_48 rfl (lv_at hl 0 rfl) ?_
  refine lv_bipush (v := 63) hx hb dJ6_bitCount_0f7a4_49 (by decide) ?_
  refine lv_iand hx hb dJ6_bitCount_0f7a4_51 ?_
  refine g_top (y := nI (y5 % 64)) (pk_andN (by omega) 6 (by decide)) ?_
  exact hret _ _ _ _ () _ _ dJ6_bitCount_0f7a4_52 hP hS (by rw [bcI hy1 hy2 hy3 hy4 hy5]) (rfl)

theorem lkJ13_bitCount_95d88_314 : Cond.constantLong RJ13 314 6148914691236517205 ∈ wsJ13_bitCount_95d88 := by decide +kernel
theorem lkJ13_bitCount_95d88_316 : Cond.constantLong RJ13 316 3689348814741910323 ∈ wsJ13_bitCount_95d88 := by decide +kernel
theorem lkJ13_bitCount_95d88_318 : Cond.constantLong RJ13 318 1085102592571150095 ∈ wsJ13_bitCount_95d88 := by decide +kernel
abbrev rmJ13_bitCount_95d88 : Room := ({ frames := 0, cells := 0, slots := 0, locals := 0 } : Room)
set_option maxRecDepth 100000 in
set_option maxHeartbeats 4000000 in
theorem kJ13_bitCount_95d88 (l : Launch) (D : va_G) (cs : Nat → ClassId) (n : Nat) (ad : Nat → Nat) (σ : St) (y : Nat) (hy : y < 18446744073709551616) : gMi l yJ13_bitCount_95d88 wsJ13_bitCount_95d88 rmJ13_bitCount_95d88 D (tyL cs) (5 * (n + 2)) ad (CC cs n ad σ) [.long (lN y)] (fun (r : Int32) (u : Unit) => r = nI (bq 64 y)) (fun (u : Unit) => CC cs n ad σ) := by
  refine g_ofi (cc := cJ13_bitCount_95d88) (maxL := 2) (by decide) rfl (Nat.le_of_ble_eq_true rfl) rfl rfl ?_
  intro p e s m args below meth c A ls Q hx hb hml hts hown hK hP hD hA hS hl hret
  have hl : lv_has ls 2 [(0, .long (lN y))] := hl
  refine lv_lload_n hx hb dJ13_bitCount_95d88_0 rfl (lv_at hl 0 rfl) ?_
  refine lv_lload_n hx hb dJ13_bitCount_95d88_1 rfl (lv_at hl 0 rfl) ?_
  refine lv_iconst (v := 1) hx hb dJ13_bitCount_95d88_2 (by decide) ?_
  refine lv_lushr (v := lN (y / 2)) hx hb dJ13_bitCount_95d88_3 (wb_shr (n := y) (k := 1) (by omega) (by decide)) ?_
  refine lv_ldc2 (v := 6148914691236517205) hx hb hown (hts _ lkJ13_bitCount_95d88_314) dJ13_bitCount_95d88_4 ?_
  refine lv_land hx hb dJ13_bitCount_95d88_7 ?_
  refine g_topl (y := lN (y / 2 &&& 6148914691236517205)) (wb_and (a := y / 2) (b := 6148914691236517205) (by omega) (by decide)) ?_
  obtain ⟨y1, hy1⟩ : ∃ z, z = y - (y / 2 &&& 6148914691236517205) := ⟨_, rfl⟩
  have b1 : y1 < 18446744073709551616 := by omega
  refine lv_lsub hx hb dJ13_bitCount_95d88_8 ?_
  refine g_topl (y := lN y1) (by rw [hy1]; exact lN_sub (Nat.le_trans Nat.and_le_left (Nat.div_le_self _ _))) ?_
  refine lv_lstore_n (lv' := [(0, .long (lN y1))]) hx hb dJ13_bitCount_95d88_9 rfl hl (by decide) rfl (fun ls hl => ?_)
  refine lv_lload_n hx hb dJ13_bitCount_95d88_10 rfl (lv_at hl 0 rfl) ?_
  refine lv_ldc2 (v := 3689348814741910323) hx hb hown (hts _ lkJ13_bitCount_95d88_316) dJ13_bitCount_95d88_11 ?_
  refine lv_land hx hb dJ13_bitCount_95d88_14 ?_
  refine g_topl (y := lN (y1 &&& 3689348814741910323)) (wb_and (a := y1) (b := 3689348814741910323) (by omega) (by decide)) ?_
  refine lv_lload_n hx hb dJ13_bitCount_95d88_15 rfl (lv_at hl 0 rfl) ?_
  refine lv_iconst (v := 2) hx hb dJ13_bitCount_95d88_16 (by decide) ?_
  refine lv_lushr (v := lN (y1 / 4)) hx hb dJ13_bitCount_95d88_17 (wb_shr (n := y1) (k := 2) (by omega) (by decide)) ?_
  refine lv_ldc2 (v := 3689348814741910323) hx hb hown (hts _ lkJ13_bitCount_95d88_316) dJ13_bitCount_95d88_18 ?_
  refine lv_land hx hb dJ13_bitCount_95d88_21 ?_
  refine g_topl (y := lN (y1 / 4 &&& 3689348814741910323)) (wb_and (a := y1 / 4) (b := 3689348814741910323) (by omega) (by decide)) ?_
  obtain ⟨y2, hy2⟩ : ∃ z, z = (y1 &&& 3689348814741910323) + (y1 / 4 &&& 3689348814741910323) := ⟨_, rfl⟩
  have b2 : y2 ≤ 2 * 3689348814741910323 := by have := @Nat.and_le_right y1 3689348814741910323; have := @Nat.and_le_right (y1 / 4) 3689348814741910323; omega
  refine lv_ladd hx hb dJ13_bitCount_95d88_22 ?_
  refine g_topl (y := lN y2) (by rw [hy2]; exact lN_add _ _) ?_
  refine lv_lstore_n (lv' := [(0, .long (lN y2))]) hx hb dJ13_bitCount_95d88_23 rfl hl (by decide) rfl (fun ls hl => ?_)
  refine lv_lload_n hx hb dJ13_bitCount_95d88_24 rfl (lv_at hl 0 rfl) ?_
  refine lv_lload_n hx hb dJ13_bitCount_95d88_25 rfl (lv_at hl 0 rfl) ?_
  refine lv_iconst (v := 4) hx hb dJ13_bitCount_95d88_26 (by decide) ?_
  refine lv_lushr (v := lN (y2 / 16)) hx hb dJ13_bitCount_95d88_27 (wb_shr (n := y2) (k := 4) (by omega) (by decide)) ?_
  refine lv_ladd hx hb dJ13_bitCount_95d88_28 ?_
  refine g_topl (y := lN (y2 + y2 / 16)) (lN_add _ _) ?_
  refine lv_ldc2 (v := 1085102592571150095) hx hb hown (hts _ lkJ13_bitCount_95d88_318) dJ13_bitCount_95d88_29 ?_
  obtain ⟨y3, hy3⟩ : ∃ z, z = (y2 + y2 / 16) &&& 1085102592571150095 := ⟨_, rfl⟩
  have b3 : y3 ≤ 1085102592571150095 := by rw [hy3]; exact Nat.and_le_right
  refine lv_land hx hb dJ13_bitCount_95d88_32 ?_
  refine g_topl (y := lN y3) (by rw [hy3]; exact wb_and (a := y2 + y2 / 16) (b := 1085102592571150095) (by omega) (by decide)) ?_
  refine lv_lstore_n (lv' := [(0, .long (lN y3))]) hx hb dJ13_bitCount_95d88_33 rfl hl (by decide) rfl (fun ls hl => ?_)
  refine lv_lload_n hx hb dJ13_bitCount_95d88_34 rfl (lv_at hl 0 rfl) ?_
  refine lv_lload_n hx hb dJ13_bitCount_95d88_35 rfl (lv_at hl 0 rfl) ?_
  refine lv_bipush (v := 8) hx hb dJ13_bitCount_95d88_36 (by decide) ?_
  refine lv_lushr (v := lN (y3 / 256)) hx hb dJ13_bitCount_95d88_38 (wb_shr (n := y3) (k := 8) (by omega) (by decide)) ?_
  obtain ⟨y4, hy4⟩ : ∃ z, z = y3 + y3 / 256 := ⟨_, rfl⟩
  have b4 : y4 < 18446744073709551616 := by omega
  refine lv_ladd hx hb dJ13_bitCount_95d88_39 ?_
  refine g_topl (y := lN y4) (by rw [hy4]; exact lN_add _ _) ?_
  refine lv_lstore_n (lv' := [(0, .long (lN y4))]) hx hb dJ13_bitCount_95d88_40 rfl hl (by decide) rfl (fun ls hl => ?_)
  refine lv_lload_n hx hb dJ13_bitCount_95d88_41 rfl (lv_at hl 0 rfl) ?_
  refine lv_lload_n hx hb dJ13_bitCount_95d88_42 rfl (lv_at hl 0 rfl) ?_
  refine lv_bipush (v := 16) hx hb dJ13_bitCount_95d88_43 (by decide) ?_
  refine lv_lushr (v := lN (y4 / 65536)) hx hb dJ13_bitCount_95d88_45 (wb_shr (n := y4) (k := 16) (by omega) (by decide)) ?_
  obtain ⟨y5, hy5⟩ : ∃ z, z = y4 + y4 / 65536 := ⟨_, rfl⟩
  have b5 : y5 < 18446744073709551616 := by omega
  refine lv_ladd hx hb dJ13_bitCount_95d88_46 ?_
  refine g_topl (y := lN y5) (by rw [hy5]; exact lN_add _ _) ?_
  refine lv_lstore_n (lv' := [(0, .long (lN y5))]) hx hb dJ13_bitCount_95d88_47 rfl hl (by decide) rfl (fun ls hl => ?_)
  refine lv_lload_n hx hb dJ13_bitCount_95d88_48 rfl (lv_at hl 0 rfl) ?_
  refine lv_lload_n hx hb dJ13_bitCount_95d88_49 rfl (lv_at hl 0 rfl) ?_
  refine lv_bipush (v := 32) hx hb dJ13_bitCount_95d88_50 (by decide) ?_
  refine lv_lushr (v := lN (y5 / 4294967296)) hx hb dJ13_bitCount_95d88_52 (wb_shr (n := y5) (k := 32) (by omega) (by decide)) ?_
  obtain ⟨y6, hy6⟩ : ∃ z, z = y5 + y5 / 4294967296 := ⟨_, rfl⟩
  refine lv_ladd hx hb dJ13_bitCount_95d88_53 ?_
  refine g_topl (y := lN y6) (by rw [hy6]; exact lN_add _ _) ?_
  refine lv_lstore_n (lv' := [(0, .long (lN y6))]) hx hb dJ13_bitCount_95d88_54 rfl hl (by decide) rfl (fun ls hl => ?_)
  refine lv_lload_n hx hb dJ13_bitCount_95d88_55 rfl (lv_at hl 0 rfl) ?_
  refine lv_l2i (v := nI y6) hx hb dJ13_bitCount_95d88_56 (lN_i y6) ?_
  refine lv_bipush (v := 127) hx hb dJ13_bitCount_95d88_57 (by decide) ?_
  refine lv_iand hx hb dJ13_bitCount_95d88_59 ?_
  refine g_top (y := nI (y6 % 128)) (i_and7 y6) ?_
  exact hret _ _ _ _ () _ _ dJ13_bitCount_95d88_60 hP hS (by rw [bcL hy1 hy2 hy3 hy4 hy5 hy6]) (rfl)

theorem iwX4_factOf_X0 : ∀ w ∈ wsX00, w ∈ wsX4_factOf := fun w h => by unfold wsX4_factOf; simp only [List.mem_cons, List.mem_append, h, true_or, or_true]
theorem iwX4_factOf_X3 : ∀ w ∈ wsX30, w ∈ wsX4_factOf := fun w h => by unfold wsX4_factOf; simp only [List.mem_cons, List.mem_append, h, true_or, or_true]
theorem lkX4_factOf_71 : Cond.fieldLink RX4 71 "CoreTransactions$Core" "place" "I" ∈ wsX4_factOf := by decide +kernel
theorem lkX4_factOf_74 : Cond.fieldLink RX4 74 "CoreTransactions$Core" "transaction" "LCoreTransactions$Transaction;" ∈ wsX4_factOf := by decide +kernel
theorem lkX4_factOf_83 : Cond.fieldLink RX4 83 "CoreTransactions$Core" "ended" "Z" ∈ wsX4_factOf := by decide +kernel
theorem lkX4_factOf_151 : Cond.fieldLink RX4 151 "CoreTransactions$Core" "retired" "I" ∈ wsX4_factOf := by decide +kernel
theorem lkX4_factOf_186 : Cond.fieldLink RX4 186 "CoreTransactions$Transaction" "depth" "I" ∈ wsX4_factOf := by decide +kernel
theorem lkX4_factOf_201 : Cond.fieldLink RX4 201 "CoreTransactions$Core" "committed" "I" ∈ wsX4_factOf := by decide +kernel
theorem lkX4_factOf_224 : Cond.fieldLink RX4 224 "CoreTransactions$Transaction" "age" "I" ∈ wsX4_factOf := by decide +kernel
theorem lkX4_factOf_246 : Cond.fieldLink RX4 246 "CoreTransactions$Core" "brokenOff" "I" ∈ wsX4_factOf := by decide +kernel
theorem lkX4_factOf_255 : Cond.fieldLink RX4 255 "CoreTransactions$Transaction" "linesRead" "I" ∈ wsX4_factOf := by decide +kernel
theorem lkX4_factOf_264 : Cond.fieldLink RX4 264 "CoreTransactions$Transaction" "linesWritten" "I" ∈ wsX4_factOf := by decide +kernel
theorem lkX4_factOf_267 : Cond.fieldLink RX4 267 "CoreTransactions$Transaction" "stored" "J" ∈ wsX4_factOf := by decide +kernel
abbrev rmX4_factOf : Room := ({ frames := 1, cells := 0, slots := 0, locals := 21 } : Room)
set_option maxRecDepth 100000 in
set_option maxHeartbeats 4000000 in
theorem kX4_factOf (l : Launch) (D : va_G) (cs : Nat → ClassId) (n : Nat) (ad : Nat → Nat) (σ : St) (k : Nat) (hk : k < n) (w : Nat) (hw10 : w < 10) (yr yw yl : Nat) (hyr : yr < 65536) (hyw : yw < 65536) (hyl : yl < 18446744073709551616) (her : σ.1 22 k 0 = nI yr) (hew : σ.1 23 k 0 = nI yw) (hel : σ.2 k = lN yl) : gMi l yX4_factOf wsX4_factOf rmX4_factOf D (tyL cs) (5 * (n + 2)) ad (CC cs n ad σ) [.ref (ad (5 * (k + 2) + 0)), .int (nI w)] (fun (r : Int32) (u : Unit) => r = pTold σ k w) (fun (u : Unit) => CC cs n ad σ) := by
  refine g_ofi (cc := cX4_factOf) (maxL := 3) (by decide) rfl (Nat.le_of_ble_eq_true rfl) rfl rfl ?_
  intro p e s m args below meth c A ls Q hx hb hml hts hown hK hP hD hA hS hl hret
  have hl : lv_has ls 3 [(0, .ref (ad (5 * (k + 2) + 0))), (1, .int (nI w))] := hl
  refine lv_aload_n hx hb dX4_factOf_0 rfl (lv_at hl 0 rfl) ?_
  refine va_get (D := D) (ci := 0) (v := .ref (ad (5 * (k + 2) + 2))) (C := RX0) (T := TX0) (N := 8) hx hb hts iwX4_factOf_X0 hown hK hP (5 * (k + 2) + 0) (cc_core hk) rfl 2 (by decide) (hts _ lkX4_factOf_74) (fun _ h9 => h9) rfl dX4_factOf_1 ?_
  refine lv_astore_n (lv' := [(2, .ref (ad (5 * (k + 2) + 2))), (0, .ref (ad (5 * (k + 2) + 0))), (1, .int (nI w))]) hx hb dX4_factOf_4 rfl hl (by decide) rfl (fun ls hl => ?_)
  refine lv_iload_n hx hb dX4_factOf_5 rfl (lv_at hl 2 rfl) ?_
  rcases (show w = 0 ∨ w = 1 ∨ w = 2 ∨ w = 3 ∨ w = 4 ∨ w = 5 ∨ w = 6 ∨ w = 7 ∨ w = 8 ∨ w = 9 by omega) with hov | hov | hov | hov | hov | hov | hov | hov | hov | hov
  · refine g_top (y := 0) (by rw [hov]; rfl) ?_
    refine lv_tableIn (tgt := 56) hx hb dX4_factOf_6 (by decide) (by decide) rfl (by decide) ?_
    refine lv_aload_n hx hb dX4_factOf_56 rfl (lv_at hl 1 rfl) ?_
    refine va_get (D := D) (ci := 0) (v := .int (σ.1 13 k 0)) (C := RX0) (T := TX0) (N := 8) hx hb hts iwX4_factOf_X0 hown hK hP (5 * (k + 2) + 0) (cc_core hk) rfl 3 (by decide) (hts _ lkX4_factOf_71) (fun _ h9 => h9) rfl dX4_factOf_57 ?_
    exact hret _ _ _ _ () _ _ dX4_factOf_60 hP hS (by rw [hov]; simp [pTold]) (rfl)
  · refine g_top (y := 1) (by rw [hov]; rfl) ?_
    refine lv_tableIn (tgt := 61) hx hb dX4_factOf_6 (by decide) (by decide) rfl (by decide) ?_
    refine lv_aload_n hx hb dX4_factOf_61 rfl (lv_at hl 1 rfl) ?_
    refine va_get (D := D) (ci := 0) (v := .int (σ.1 14 k 0)) (C := RX0) (T := TX0) (N := 8) hx hb hts iwX4_factOf_X0 hown hK hP (5 * (k + 2) + 0) (cc_core hk) rfl 4 (by decide) (hts _ lkX4_factOf_83) (fun _ h9 => h9) rfl dX4_factOf_62 ?_
    refine lv_if_eq (tgt := 72) hx hb dX4_factOf_65 (by decide) (fun c1 => ?_) (fun c1 => ?_)
    · refine lv_iconst (v := 0) hx hb dX4_factOf_72 (by decide) ?_
      exact hret _ _ _ _ () _ _ dX4_factOf_73 hP hS (by rw [hov]; simp [pTold, c1]) (rfl)
    · refine lv_iconst (v := 1) hx hb dX4_factOf_68 (by decide) ?_
      refine lv_goto (tgt := 73) hx hb dX4_factOf_69 (by decide) ?_
      exact hret _ _ _ _ () _ _ dX4_factOf_73 hP hS (by rw [hov]; simp [pTold, c1]) (rfl)
  · refine g_top (y := 2) (by rw [hov]; rfl) ?_
    refine lv_tableIn (tgt := 74) hx hb dX4_factOf_6 (by decide) (by decide) rfl (by decide) ?_
    refine lv_aload_n hx hb dX4_factOf_74 rfl (lv_at hl 1 rfl) ?_
    refine va_get (D := D) (ci := 0) (v := .int (σ.1 15 k 0)) (C := RX0) (T := TX0) (N := 8) hx hb hts iwX4_factOf_X0 hown hK hP (5 * (k + 2) + 0) (cc_core hk) rfl 5 (by decide) (hts _ lkX4_factOf_151) (fun _ h9 => h9) rfl dX4_factOf_75 ?_
    exact hret _ _ _ _ () _ _ dX4_factOf_78 hP hS (by rw [hov]; simp [pTold]) (rfl)
  · refine g_top (y := 3) (by rw [hov]; rfl) ?_
    refine lv_tableIn (tgt := 79) hx hb dX4_factOf_6 (by decide) (by decide) rfl (by decide) ?_
    refine lv_aload_n hx hb dX4_factOf_79 rfl (lv_at hl 0 rfl) ?_
    refine va_get (D := D) (ci := 3) (v := .int (σ.1 18 k 0)) (C := RX3) (T := TX3) (N := 9) hx hb hts iwX4_factOf_X3 hown hK hP (5 * (k + 2) + 2) (cc_tx hk) rfl 2 (by decide) (hts _ lkX4_factOf_186) (fun _ h9 => h9) rfl dX4_factOf_80 ?_
    exact hret _ _ _ _ () _ _ dX4_factOf_83 hP hS (by rw [hov]; simp [pTold]) (rfl)
  · refine g_top (y := 4) (by rw [hov]; rfl) ?_
    refine lv_tableIn (tgt := 84) hx hb dX4_factOf_6 (by decide) (by decide) rfl (by decide) ?_
    refine lv_aload_n hx hb dX4_factOf_84 rfl (lv_at hl 0 rfl) ?_
    refine va_get (D := D) (ci := 3) (v := .int (σ.1 19 k 0)) (C := RX3) (T := TX3) (N := 9) hx hb hts iwX4_factOf_X3 hown hK hP (5 * (k + 2) + 2) (cc_tx hk) rfl 3 (by decide) (hts _ lkX4_factOf_224) (fun _ h9 => h9) rfl dX4_factOf_85 ?_
    exact hret _ _ _ _ () _ _ dX4_factOf_88 hP hS (by rw [hov]; simp [pTold]) (rfl)
  · refine g_top (y := 5) (by rw [hov]; rfl) ?_
    refine lv_tableIn (tgt := 89) hx hb dX4_factOf_6 (by decide) (by decide) rfl (by decide) ?_
    refine lv_aload_n hx hb dX4_factOf_89 rfl (lv_at hl 0 rfl) ?_
    refine va_get (D := D) (ci := 3) (v := .int (σ.1 22 k 0)) (C := RX3) (T := TX3) (N := 9) hx hb hts iwX4_factOf_X3 hown hK hP (5 * (k + 2) + 2) (cc_tx hk) rfl 6 (by decide) (hts _ lkX4_factOf_255) (fun _ h9 => h9) rfl dX4_factOf_90 ?_
    refine g_top (y := nI yr) (her) ?_
    refine g_csi (As := [.int (nI yr)]) ⟨hx, hb, hml, hown, hts⟩ (kJ6_bitCount_0f7a4 l D cs n ad σ yr hyr) (va_cwS 1 hts gX4_factOf_J6_bitCount_0f7a4 rfl rfl rfl (by decide +kernel) ⟨Nat.le_of_ble_eq_true rfl, Nat.le_of_ble_eq_true rfl⟩) hK hP hD hS hA hl.1 dX4_factOf_93 rfl rfl (Nat.le_of_ble_eq_true rfl) ⟨Nat.zero_le _, Nat.zero_le _⟩ (fun r _ H locs hw hP hS => ?_)
    obtain rfl : r = nI (bq 32 yr) := hw
    have hP : va_P D vwCl (FW (5 * (n + 2)) ad (CC cs n ad σ)) H := hP
    exact hret _ _ _ _ () _ _ dX4_factOf_96 hP hS (by rw [hov]; simp [pTold, her, cntB_I hyr]) (rfl)
  · refine g_top (y := 6) (by rw [hov]; rfl) ?_
    refine lv_tableIn (tgt := 97) hx hb dX4_factOf_6 (by decide) (by decide) rfl (by decide) ?_
    refine lv_aload_n hx hb dX4_factOf_97 rfl (lv_at hl 0 rfl) ?_
    refine va_get (D := D) (ci := 3) (v := .int (σ.1 23 k 0)) (C := RX3) (T := TX3) (N := 9) hx hb hts iwX4_factOf_X3 hown hK hP (5 * (k + 2) + 2) (cc_tx hk) rfl 7 (by decide) (hts _ lkX4_factOf_264) (fun _ h9 => h9) rfl dX4_factOf_98 ?_
    refine g_top (y := nI yw) (hew) ?_
    refine g_csi (As := [.int (nI yw)]) ⟨hx, hb, hml, hown, hts⟩ (kJ6_bitCount_0f7a4 l D cs n ad σ yw hyw) (va_cwS 1 hts gX4_factOf_J6_bitCount_0f7a4 rfl rfl rfl (by decide +kernel) ⟨Nat.le_of_ble_eq_true rfl, Nat.le_of_ble_eq_true rfl⟩) hK hP hD hS hA hl.1 dX4_factOf_101 rfl rfl (Nat.le_of_ble_eq_true rfl) ⟨Nat.zero_le _, Nat.zero_le _⟩ (fun r _ H locs hw hP hS => ?_)
    obtain rfl : r = nI (bq 32 yw) := hw
    have hP : va_P D vwCl (FW (5 * (n + 2)) ad (CC cs n ad σ)) H := hP
    exact hret _ _ _ _ () _ _ dX4_factOf_104 hP hS (by rw [hov]; simp [pTold, hew, cntB_I hyw]) (rfl)
  · refine g_top (y := 7) (by rw [hov]; rfl) ?_
    refine lv_tableIn (tgt := 105) hx hb dX4_factOf_6 (by decide) (by decide) rfl (by decide) ?_
    refine lv_aload_n hx hb dX4_factOf_105 rfl (lv_at hl 0 rfl) ?_
    refine va_get (D := D) (ci := 3) (v := .long (σ.2 k)) (C := RX3) (T := TX3) (N := 9) hx hb hts iwX4_factOf_X3 hown hK hP (5 * (k + 2) + 2) (cc_tx hk) rfl 8 (by decide) (hts _ lkX4_factOf_267) (fun _ h9 => h9) rfl dX4_factOf_106 ?_
    refine g_topl (y := lN yl) (hel) ?_
    refine g_csi (As := [.long (lN yl)]) ⟨hx, hb, hml, hown, hts⟩ (kJ13_bitCount_95d88 l D cs n ad σ yl hyl) (va_cwS 1 hts gX4_factOf_J13_bitCount_95d88 rfl rfl rfl (by decide +kernel) ⟨Nat.le_of_ble_eq_true rfl, Nat.le_of_ble_eq_true rfl⟩) hK hP hD hS hA hl.1 dX4_factOf_109 rfl rfl (Nat.le_of_ble_eq_true rfl) ⟨Nat.zero_le _, Nat.zero_le _⟩ (fun r _ H locs hw hP hS => ?_)
    obtain rfl : r = nI (bq 64 yl) := hw
    have hP : va_P D vwCl (FW (5 * (n + 2)) ad (CC cs n ad σ)) H := hP
    exact hret _ _ _ _ () _ _ dX4_factOf_112 hP hS (by rw [hov]; simp [pTold, hel, cntB_bq 64 (Nat.le_refl 64)]) (rfl)
  · refine g_top (y := 8) (by rw [hov]; rfl) ?_
    refine lv_tableIn (tgt := 113) hx hb dX4_factOf_6 (by decide) (by decide) rfl (by decide) ?_
    refine lv_aload_n hx hb dX4_factOf_113 rfl (lv_at hl 1 rfl) ?_
    refine va_get (D := D) (ci := 0) (v := .int (σ.1 16 k 0)) (C := RX0) (T := TX0) (N := 8) hx hb hts iwX4_factOf_X0 hown hK hP (5 * (k + 2) + 0) (cc_core hk) rfl 6 (by decide) (hts _ lkX4_factOf_201) (fun _ h9 => h9) rfl dX4_factOf_114 ?_
    exact hret _ _ _ _ () _ _ dX4_factOf_117 hP hS (by rw [hov]; simp [pTold]) (rfl)
  · refine g_top (y := 9) (by rw [hov]; rfl) ?_
    refine lv_tableOut (tgt := 118) hx hb dX4_factOf_6 (Or.inr (by decide)) (by decide) ?_
    refine lv_aload_n hx hb dX4_factOf_118 rfl (lv_at hl 1 rfl) ?_
    refine va_get (D := D) (ci := 0) (v := .int (σ.1 17 k 0)) (C := RX0) (T := TX0) (N := 8) hx hb hts iwX4_factOf_X0 hown hK hP (5 * (k + 2) + 0) (cc_core hk) rfl 7 (by decide) (hts _ lkX4_factOf_246) (fun _ h9 => h9) rfl dX4_factOf_119 ?_
    exact hret _ _ _ _ () _ _ dX4_factOf_122 hP hS (by rw [hov]; simp [pTold]) (rfl)

abbrev rmX4_namesRegisters : Room := ({ frames := 1, cells := 0, slots := 0, locals := 20 } : Room)
set_option maxRecDepth 100000 in
set_option maxHeartbeats 4000000 in
theorem kX4_namesRegisters (l : Launch) (D : va_G) (cs : Nat → ClassId) (n : Nat) (ad : Nat → Nat) (σ : St) (o a b d : Int32) : gMi l yX4_namesRegisters wsX4_namesRegisters rmX4_namesRegisters D (tyL cs) (5 * (n + 2)) ad (CC cs n ad σ) [.int o, .int a, .int b, .int d] (fun (r : Int32) (u : Unit) => r = bI (decide (((o ≤ 8 ∨ o = 12) → (0 ≤ a ∧ a < 8)) ∧ ((1 ≤ o ∧ o ≤ 8) → (0 ≤ b ∧ b < 8)) ∧ ((1 ≤ o ∧ o ≤ 3) → (0 ≤ d ∧ d < 8))))) (fun (u : Unit) => CC cs n ad σ) := by
  refine g_ofz (cc := cX4_namesRegisters) (maxL := 7) (by decide) rfl (Nat.le_of_ble_eq_true rfl) rfl rfl ?_
  intro p e s m args below meth c A ls Q hx hb hml hts hown hK hP hD hA hS hl hret
  have hl : lv_has ls 7 [(0, .int o), (1, .int a), (2, .int b), (3, .int d)] := hl
  have J17 : ∀ (H : Heap) (locs : List Loc) (ls : Array Slot), va_P D vwCl (FW (5 * (n + 2)) ad (CC cs n ad σ)) H → va_S A s.heap H locs → lv_has ls 7 [(0, .int o), (1, .int a), (2, .int b), (3, .int d)] → W p l e rmX4_namesRegisters s m args below meth c H locs 0 0 Q (F0 m 17 ls [.int (bI (decide (o ≤ 8 ∨ o = 12)))]) := by
    intro H locs ls hP hS hl
    refine lv_istore (lv' := [(4, .int (bI (decide (o ≤ 8 ∨ o = 12)))), (0, .int o), (1, .int a), (2, .int b), (3, .int d)]) hx hb dX4_namesRegisters_17 hl (by decide) rfl (fun ls hl => ?_)
    have J35 : ∀ (H : Heap) (locs : List Loc) (ls : Array Slot), va_P D vwCl (FW (5 * (n + 2)) ad (CC cs n ad σ)) H → va_S A s.heap H locs → lv_has ls 7 [(4, .int (bI (decide (o ≤ 8 ∨ o = 12)))), (0, .int o), (1, .int a), (2, .int b), (3, .int d)] → W p l e rmX4_namesRegisters s m args below meth c H locs 0 0 Q (F0 m 35 ls [.int (bI (decide (1 ≤ o ∧ o ≤ 8)))]) := by
      intro H locs ls hP hS hl
      refine lv_istore (lv' := [(5, .int (bI (decide (1 ≤ o ∧ o ≤ 8)))), (4, .int (bI (decide (o ≤ 8 ∨ o = 12)))), (0, .int o), (1, .int a), (2, .int b), (3, .int d)]) hx hb dX4_namesRegisters_35 hl (by decide) rfl (fun ls hl => ?_)
      have J52 : ∀ (H : Heap) (locs : List Loc) (ls : Array Slot), va_P D vwCl (FW (5 * (n + 2)) ad (CC cs n ad σ)) H → va_S A s.heap H locs → lv_has ls 7 [(5, .int (bI (decide (1 ≤ o ∧ o ≤ 8)))), (4, .int (bI (decide (o ≤ 8 ∨ o = 12)))), (0, .int o), (1, .int a), (2, .int b), (3, .int d)] → W p l e rmX4_namesRegisters s m args below meth c H locs 0 0 Q (F0 m 52 ls [.int (bI (decide (1 ≤ o ∧ o ≤ 3)))]) := by
        intro H locs ls hP hS hl
        refine lv_istore (lv' := [(6, .int (bI (decide (1 ≤ o ∧ o ≤ 3)))), (5, .int (bI (decide (1 ≤ o ∧ o ≤ 8)))), (4, .int (bI (decide (o ≤ 8 ∨ o = 12)))), (0, .int o), (1, .int a), (2, .int b), (3, .int d)]) hx hb dX4_namesRegisters_52 hl (by decide) rfl (fun ls hl => ?_)
        have J95 : ∀ (H : Heap) (locs : List Loc) (ls : Array Slot), va_P D vwCl (FW (5 * (n + 2)) ad (CC cs n ad σ)) H → va_S A s.heap H locs → lv_has ls 7 [(6, .int (bI (decide (1 ≤ o ∧ o ≤ 3)))), (5, .int (bI (decide (1 ≤ o ∧ o ≤ 8)))), (4, .int (bI (decide (o ≤ 8 ∨ o = 12)))), (0, .int o), (1, .int a), (2, .int b), (3, .int d)] → W p l e rmX4_namesRegisters s m args below meth c H locs 0 0 Q (F0 m 95 ls [.int (bI (decide (((o ≤ 8 ∨ o = 12) → (0 ≤ a ∧ a < 8)) ∧ ((1 ≤ o ∧ o ≤ 8) → (0 ≤ b ∧ b < 8)) ∧ ((1 ≤ o ∧ o ≤ 3) → (0 ≤ d ∧ d < 8)))))]) := by
          intro H locs ls hP hS hl
          exact hret _ _ _ _ () _ _ dX4_namesRegisters_95 hP hS (zq_bI _) (rfl) (rfl)
        refine lv_iload hx hb dX4_namesRegisters_54 (lv_at hl 2 rfl) ?_
        refine lv_if_eq (tgt := 66) hx hb dX4_namesRegisters_56 (by decide) (fun c1 => ?_) (fun c1 => ?_)
        · have hNA : ¬ (o ≤ 8 ∨ o = 12) := of_decide_eq_false (bI0 c1)
          refine lv_iload hx hb dX4_namesRegisters_66 (lv_at hl 1 rfl) ?_
          refine lv_if_eq (tgt := 78) hx hb dX4_namesRegisters_68 (by decide) (fun c2 => ?_) (fun c2 => ?_)
          · have hB : ¬ (1 ≤ o ∧ o ≤ 8) := of_decide_eq_false (bI0 c2)
            refine lv_iload hx hb dX4_namesRegisters_78 (lv_at hl 0 rfl) ?_
            refine lv_if_eq (tgt := 90) hx hb dX4_namesRegisters_80 (by decide) (fun c3 => ?_) (fun c3 => ?_)
            · have hC : ¬ (1 ≤ o ∧ o ≤ 3) := of_decide_eq_false (bI0 c3)
              refine lv_iconst (v := 1) hx hb dX4_namesRegisters_90 (by decide) ?_
              refine lv_goto (tgt := 95) hx hb dX4_namesRegisters_91 (by decide) ?_
              refine g_top (y := bI (decide (((o ≤ 8 ∨ o = 12) → (0 ≤ a ∧ a < 8)) ∧ ((1 ≤ o ∧ o ≤ 8) → (0 ≤ b ∧ b < 8)) ∧ ((1 ≤ o ∧ o ≤ 3) → (0 ≤ d ∧ d < 8))))) ((bI_d ⟨fun h => absurd h hNA, fun h => absurd h hB, fun h => absurd h hC⟩).symm) ?_
              exact J95 _ _ _ hP hS (lv_sub hl [0, 1, 2, 3, 4, 5, 6] rfl)
            · have hC : 1 ≤ o ∧ o ≤ 3 := of_decide_eq_true (bI1 c3)
              refine lv_iload_n hx hb dX4_namesRegisters_83 rfl (lv_at hl 6 rfl) ?_
              refine g_csi (As := [.int d]) ⟨hx, hb, hml, hown, hts⟩ (kX4_isRegister l D cs n ad σ d) (va_cwS 1 hts gX4_namesRegisters_X4_isRegister rfl rfl rfl (by decide +kernel) ⟨Nat.le_of_ble_eq_true rfl, Nat.le_of_ble_eq_true rfl⟩) hK hP hD hS hA hl.1 dX4_namesRegisters_84 rfl rfl (Nat.le_of_ble_eq_true rfl) ⟨Nat.zero_le _, Nat.zero_le _⟩ (fun r _ H locs hw hP hS => ?_)
              obtain rfl : r = bI (decide (0 ≤ d ∧ d < 8)) := hw
              have hP : va_P D vwCl (FW (5 * (n + 2)) ad (CC cs n ad σ)) H := hP
              refine lv_if_eq (tgt := 94) hx hb dX4_namesRegisters_87 (by decide) (fun c4 => ?_) (fun c4 => ?_)
              · have hRd : ¬ (0 ≤ d ∧ d < 8) := of_decide_eq_false (bI0 c4)
                refine lv_iconst (v := 0) hx hb dX4_namesRegisters_94 (by decide) ?_
                refine g_top (y := bI (decide (((o ≤ 8 ∨ o = 12) → (0 ≤ a ∧ a < 8)) ∧ ((1 ≤ o ∧ o ≤ 8) → (0 ≤ b ∧ b < 8)) ∧ ((1 ≤ o ∧ o ≤ 3) → (0 ≤ d ∧ d < 8))))) ((bI_n (fun h => hRd (h.2.2 hC))).symm) ?_
                exact J95 _ _ _ hP hS (lv_sub hl [0, 1, 2, 3, 4, 5, 6] rfl)
              · have hRd : 0 ≤ d ∧ d < 8 := of_decide_eq_true (bI1 c4)
                refine lv_iconst (v := 1) hx hb dX4_namesRegisters_90 (by decide) ?_
                refine lv_goto (tgt := 95) hx hb dX4_namesRegisters_91 (by decide) ?_
                refine g_top (y := bI (decide (((o ≤ 8 ∨ o = 12) → (0 ≤ a ∧ a < 8)) ∧ ((1 ≤ o ∧ o ≤ 8) → (0 ≤ b ∧ b < 8)) ∧ ((1 ≤ o ∧ o ≤ 3) → (0 ≤ d ∧ d < 8))))) ((bI_d ⟨fun h => absurd h hNA, fun h => absurd h hB, fun _ => hRd⟩).symm) ?_
                exact J95 _ _ _ hP hS (lv_sub hl [0, 1, 2, 3, 4, 5, 6] rfl)
          · have hB : 1 ≤ o ∧ o ≤ 8 := of_decide_eq_true (bI1 c2)
            refine lv_iload_n hx hb dX4_namesRegisters_71 rfl (lv_at hl 5 rfl) ?_
            refine g_csi (As := [.int b]) ⟨hx, hb, hml, hown, hts⟩ (kX4_isRegister l D cs n ad σ b) (va_cwS 1 hts gX4_namesRegisters_X4_isRegister rfl rfl rfl (by decide +kernel) ⟨Nat.le_of_ble_eq_true rfl, Nat.le_of_ble_eq_true rfl⟩) hK hP hD hS hA hl.1 dX4_namesRegisters_72 rfl rfl (Nat.le_of_ble_eq_true rfl) ⟨Nat.zero_le _, Nat.zero_le _⟩ (fun r _ H locs hw hP hS => ?_)
            obtain rfl : r = bI (decide (0 ≤ b ∧ b < 8)) := hw
            have hP : va_P D vwCl (FW (5 * (n + 2)) ad (CC cs n ad σ)) H := hP
            refine lv_if_eq (tgt := 94) hx hb dX4_namesRegisters_75 (by decide) (fun c5 => ?_) (fun c5 => ?_)
            · have hRb : ¬ (0 ≤ b ∧ b < 8) := of_decide_eq_false (bI0 c5)
              refine lv_iconst (v := 0) hx hb dX4_namesRegisters_94 (by decide) ?_
              refine g_top (y := bI (decide (((o ≤ 8 ∨ o = 12) → (0 ≤ a ∧ a < 8)) ∧ ((1 ≤ o ∧ o ≤ 8) → (0 ≤ b ∧ b < 8)) ∧ ((1 ≤ o ∧ o ≤ 3) → (0 ≤ d ∧ d < 8))))) ((bI_n (fun h => hRb (h.2.1 hB))).symm) ?_
              exact J95 _ _ _ hP hS (lv_sub hl [0, 1, 2, 3, 4, 5, 6] rfl)
            · have hRb : 0 ≤ b ∧ b < 8 := of_decide_eq_true (bI1 c5)
              refine lv_iload hx hb dX4_namesRegisters_78 (lv_at hl 0 rfl) ?_
              refine lv_if_eq (tgt := 90) hx hb dX4_namesRegisters_80 (by decide) (fun c6 => ?_) (fun c6 => ?_)
              · have hC : ¬ (1 ≤ o ∧ o ≤ 3) := of_decide_eq_false (bI0 c6)
                refine lv_iconst (v := 1) hx hb dX4_namesRegisters_90 (by decide) ?_
                refine lv_goto (tgt := 95) hx hb dX4_namesRegisters_91 (by decide) ?_
                refine g_top (y := bI (decide (((o ≤ 8 ∨ o = 12) → (0 ≤ a ∧ a < 8)) ∧ ((1 ≤ o ∧ o ≤ 8) → (0 ≤ b ∧ b < 8)) ∧ ((1 ≤ o ∧ o ≤ 3) → (0 ≤ d ∧ d < 8))))) ((bI_d ⟨fun h => absurd h hNA, fun _ => hRb, fun h => absurd h hC⟩).symm) ?_
                exact J95 _ _ _ hP hS (lv_sub hl [0, 1, 2, 3, 4, 5, 6] rfl)
              · have hC : 1 ≤ o ∧ o ≤ 3 := of_decide_eq_true (bI1 c6)
                refine lv_iload_n hx hb dX4_namesRegisters_83 rfl (lv_at hl 6 rfl) ?_
                refine g_csi (As := [.int d]) ⟨hx, hb, hml, hown, hts⟩ (kX4_isRegister l D cs n ad σ d) (va_cwS 1 hts gX4_namesRegisters_X4_isRegister rfl rfl rfl (by decide +kernel) ⟨Nat.le_of_ble_eq_true rfl, Nat.le_of_ble_eq_true rfl⟩) hK hP hD hS hA hl.1 dX4_namesRegisters_84 rfl rfl (Nat.le_of_ble_eq_true rfl) ⟨Nat.zero_le _, Nat.zero_le _⟩ (fun r _ H locs hw hP hS => ?_)
                obtain rfl : r = bI (decide (0 ≤ d ∧ d < 8)) := hw
                have hP : va_P D vwCl (FW (5 * (n + 2)) ad (CC cs n ad σ)) H := hP
                refine lv_if_eq (tgt := 94) hx hb dX4_namesRegisters_87 (by decide) (fun c7 => ?_) (fun c7 => ?_)
                · have hRd : ¬ (0 ≤ d ∧ d < 8) := of_decide_eq_false (bI0 c7)
                  refine lv_iconst (v := 0) hx hb dX4_namesRegisters_94 (by decide) ?_
                  refine g_top (y := bI (decide (((o ≤ 8 ∨ o = 12) → (0 ≤ a ∧ a < 8)) ∧ ((1 ≤ o ∧ o ≤ 8) → (0 ≤ b ∧ b < 8)) ∧ ((1 ≤ o ∧ o ≤ 3) → (0 ≤ d ∧ d < 8))))) ((bI_n (fun h => hRd (h.2.2 hC))).symm) ?_
                  exact J95 _ _ _ hP hS (lv_sub hl [0, 1, 2, 3, 4, 5, 6] rfl)
                · have hRd : 0 ≤ d ∧ d < 8 := of_decide_eq_true (bI1 c7)
                  refine lv_iconst (v := 1) hx hb dX4_namesRegisters_90 (by decide) ?_
                  refine lv_goto (tgt := 95) hx hb dX4_namesRegisters_91 (by decide) ?_
                  refine g_top (y := bI (decide (((o ≤ 8 ∨ o = 12) → (0 ≤ a ∧ a < 8)) ∧ ((1 ≤ o ∧ o ≤ 8) → (0 ≤ b ∧ b < 8)) ∧ ((1 ≤ o ∧ o ≤ 3) → (0 ≤ d ∧ d < 8))))) ((bI_d ⟨fun h => absurd h hNA, fun _ => hRb, fun _ => hRd⟩).symm) ?_
                  exact J95 _ _ _ hP hS (lv_sub hl [0, 1, 2, 3, 4, 5, 6] rfl)
        · have hNA : o ≤ 8 ∨ o = 12 := of_decide_eq_true (bI1 c1)
          refine lv_iload_n hx hb dX4_namesRegisters_59 rfl (lv_at hl 4 rfl) ?_
          refine g_csi (As := [.int a]) ⟨hx, hb, hml, hown, hts⟩ (kX4_isRegister l D cs n ad σ a) (va_cwS 1 hts gX4_namesRegisters_X4_isRegister rfl rfl rfl (by decide +kernel) ⟨Nat.le_of_ble_eq_true rfl, Nat.le_of_ble_eq_true rfl⟩) hK hP hD hS hA hl.1 dX4_namesRegisters_60 rfl rfl (Nat.le_of_ble_eq_true rfl) ⟨Nat.zero_le _, Nat.zero_le _⟩ (fun r _ H locs hw hP hS => ?_)
          obtain rfl : r = bI (decide (0 ≤ a ∧ a < 8)) := hw
          have hP : va_P D vwCl (FW (5 * (n + 2)) ad (CC cs n ad σ)) H := hP
          refine lv_if_eq (tgt := 94) hx hb dX4_namesRegisters_63 (by decide) (fun c8 => ?_) (fun c8 => ?_)
          · have hRa : ¬ (0 ≤ a ∧ a < 8) := of_decide_eq_false (bI0 c8)
            refine lv_iconst (v := 0) hx hb dX4_namesRegisters_94 (by decide) ?_
            refine g_top (y := bI (decide (((o ≤ 8 ∨ o = 12) → (0 ≤ a ∧ a < 8)) ∧ ((1 ≤ o ∧ o ≤ 8) → (0 ≤ b ∧ b < 8)) ∧ ((1 ≤ o ∧ o ≤ 3) → (0 ≤ d ∧ d < 8))))) ((bI_n (fun h => hRa (h.1 hNA))).symm) ?_
            exact J95 _ _ _ hP hS (lv_sub hl [0, 1, 2, 3, 4, 5, 6] rfl)
          · have hRa : 0 ≤ a ∧ a < 8 := of_decide_eq_true (bI1 c8)
            refine lv_iload hx hb dX4_namesRegisters_66 (lv_at hl 1 rfl) ?_
            refine lv_if_eq (tgt := 78) hx hb dX4_namesRegisters_68 (by decide) (fun c9 => ?_) (fun c9 => ?_)
            · have hB : ¬ (1 ≤ o ∧ o ≤ 8) := of_decide_eq_false (bI0 c9)
              refine lv_iload hx hb dX4_namesRegisters_78 (lv_at hl 0 rfl) ?_
              refine lv_if_eq (tgt := 90) hx hb dX4_namesRegisters_80 (by decide) (fun c10 => ?_) (fun c10 => ?_)
              · have hC : ¬ (1 ≤ o ∧ o ≤ 3) := of_decide_eq_false (bI0 c10)
                refine lv_iconst (v := 1) hx hb dX4_namesRegisters_90 (by decide) ?_
                refine lv_goto (tgt := 95) hx hb dX4_namesRegisters_91 (by decide) ?_
                refine g_top (y := bI (decide (((o ≤ 8 ∨ o = 12) → (0 ≤ a ∧ a < 8)) ∧ ((1 ≤ o ∧ o ≤ 8) → (0 ≤ b ∧ b < 8)) ∧ ((1 ≤ o ∧ o ≤ 3) → (0 ≤ d ∧ d < 8))))) ((bI_d ⟨fun _ => hRa, fun h => absurd h hB, fun h => absurd h hC⟩).symm) ?_
                exact J95 _ _ _ hP hS (lv_sub hl [0, 1, 2, 3, 4, 5, 6] rfl)
              · have hC : 1 ≤ o ∧ o ≤ 3 := of_decide_eq_true (bI1 c10)
                refine lv_iload_n hx hb dX4_namesRegisters_83 rfl (lv_at hl 6 rfl) ?_
                refine g_csi (As := [.int d]) ⟨hx, hb, hml, hown, hts⟩ (kX4_isRegister l D cs n ad σ d) (va_cwS 1 hts gX4_namesRegisters_X4_isRegister rfl rfl rfl (by decide +kernel) ⟨Nat.le_of_ble_eq_true rfl, Nat.le_of_ble_eq_true rfl⟩) hK hP hD hS hA hl.1 dX4_namesRegisters_84 rfl rfl (Nat.le_of_ble_eq_true rfl) ⟨Nat.zero_le _, Nat.zero_le _⟩ (fun r _ H locs hw hP hS => ?_)
                obtain rfl : r = bI (decide (0 ≤ d ∧ d < 8)) := hw
                have hP : va_P D vwCl (FW (5 * (n + 2)) ad (CC cs n ad σ)) H := hP
                refine lv_if_eq (tgt := 94) hx hb dX4_namesRegisters_87 (by decide) (fun c11 => ?_) (fun c11 => ?_)
                · have hRd : ¬ (0 ≤ d ∧ d < 8) := of_decide_eq_false (bI0 c11)
                  refine lv_iconst (v := 0) hx hb dX4_namesRegisters_94 (by decide) ?_
                  refine g_top (y := bI (decide (((o ≤ 8 ∨ o = 12) → (0 ≤ a ∧ a < 8)) ∧ ((1 ≤ o ∧ o ≤ 8) → (0 ≤ b ∧ b < 8)) ∧ ((1 ≤ o ∧ o ≤ 3) → (0 ≤ d ∧ d < 8))))) ((bI_n (fun h => hRd (h.2.2 hC))).symm) ?_
                  exact J95 _ _ _ hP hS (lv_sub hl [0, 1, 2, 3, 4, 5, 6] rfl)
                · have hRd : 0 ≤ d ∧ d < 8 := of_decide_eq_true (bI1 c11)
                  refine lv_iconst (v := 1) hx hb dX4_namesRegisters_90 (by decide) ?_
                  refine lv_goto (tgt := 95) hx hb dX4_namesRegisters_91 (by decide) ?_
                  refine g_top (y := bI (decide (((o ≤ 8 ∨ o = 12) → (0 ≤ a ∧ a < 8)) ∧ ((1 ≤ o ∧ o ≤ 8) → (0 ≤ b ∧ b < 8)) ∧ ((1 ≤ o ∧ o ≤ 3) → (0 ≤ d ∧ d < 8))))) ((bI_d ⟨fun _ => hRa, fun h => absurd h hB, fun _ => hRd⟩).symm) ?_
                  exact J95 _ _ _ hP hS (lv_sub hl [0, 1, 2, 3, 4, 5, 6] rfl)
            · have hB : 1 ≤ o ∧ o ≤ 8 := of_decide_eq_true (bI1 c9)
              refine lv_iload_n hx hb dX4_namesRegisters_71 rfl (lv_at hl 5 rfl) ?_
              refine g_csi (As := [.int b]) ⟨hx, hb, hml, hown, hts⟩ (kX4_isRegister l D cs n ad σ b) (va_cwS 1 hts gX4_namesRegisters_X4_isRegister rfl rfl rfl (by decide +kernel) ⟨Nat.le_of_ble_eq_true rfl, Nat.le_of_ble_eq_true rfl⟩) hK hP hD hS hA hl.1 dX4_namesRegisters_72 rfl rfl (Nat.le_of_ble_eq_true rfl) ⟨Nat.zero_le _, Nat.zero_le _⟩ (fun r _ H locs hw hP hS => ?_)
              obtain rfl : r = bI (decide (0 ≤ b ∧ b < 8)) := hw
              have hP : va_P D vwCl (FW (5 * (n + 2)) ad (CC cs n ad σ)) H := hP
              refine lv_if_eq (tgt := 94) hx hb dX4_namesRegisters_75 (by decide) (fun c12 => ?_) (fun c12 => ?_)
              · have hRb : ¬ (0 ≤ b ∧ b < 8) := of_decide_eq_false (bI0 c12)
                refine lv_iconst (v := 0) hx hb dX4_namesRegisters_94 (by decide) ?_
                refine g_top (y := bI (decide (((o ≤ 8 ∨ o = 12) → (0 ≤ a ∧ a < 8)) ∧ ((1 ≤ o ∧ o ≤ 8) → (0 ≤ b ∧ b < 8)) ∧ ((1 ≤ o ∧ o ≤ 3) → (0 ≤ d ∧ d < 8))))) ((bI_n (fun h => hRb (h.2.1 hB))).symm) ?_
                exact J95 _ _ _ hP hS (lv_sub hl [0, 1, 2, 3, 4, 5, 6] rfl)
              · have hRb : 0 ≤ b ∧ b < 8 := of_decide_eq_true (bI1 c12)
                refine lv_iload hx hb dX4_namesRegisters_78 (lv_at hl 0 rfl) ?_
                refine lv_if_eq (tgt := 90) hx hb dX4_namesRegisters_80 (by decide) (fun c13 => ?_) (fun c13 => ?_)
                · have hC : ¬ (1 ≤ o ∧ o ≤ 3) := of_decide_eq_false (bI0 c13)
                  refine lv_iconst (v := 1) hx hb dX4_namesRegisters_90 (by decide) ?_
                  refine lv_goto (tgt := 95) hx hb dX4_namesRegisters_91 (by decide) ?_
                  refine g_top (y := bI (decide (((o ≤ 8 ∨ o = 12) → (0 ≤ a ∧ a < 8)) ∧ ((1 ≤ o ∧ o ≤ 8) → (0 ≤ b ∧ b < 8)) ∧ ((1 ≤ o ∧ o ≤ 3) → (0 ≤ d ∧ d < 8))))) ((bI_d ⟨fun _ => hRa, fun _ => hRb, fun h => absurd h hC⟩).symm) ?_
                  exact J95 _ _ _ hP hS (lv_sub hl [0, 1, 2, 3, 4, 5, 6] rfl)
                · have hC : 1 ≤ o ∧ o ≤ 3 := of_decide_eq_true (bI1 c13)
                  refine lv_iload_n hx hb dX4_namesRegisters_83 rfl (lv_at hl 6 rfl) ?_
                  refine g_csi (As := [.int d]) ⟨hx, hb, hml, hown, hts⟩ (kX4_isRegister l D cs n ad σ d) (va_cwS 1 hts gX4_namesRegisters_X4_isRegister rfl rfl rfl (by decide +kernel) ⟨Nat.le_of_ble_eq_true rfl, Nat.le_of_ble_eq_true rfl⟩) hK hP hD hS hA hl.1 dX4_namesRegisters_84 rfl rfl (Nat.le_of_ble_eq_true rfl) ⟨Nat.zero_le _, Nat.zero_le _⟩ (fun r _ H locs hw hP hS => ?_)
                  obtain rfl : r = bI (decide (0 ≤ d ∧ d < 8)) := hw
                  have hP : va_P D vwCl (FW (5 * (n + 2)) ad (CC cs n ad σ)) H := hP
                  refine lv_if_eq (tgt := 94) hx hb dX4_namesRegisters_87 (by decide) (fun c14 => ?_) (fun c14 => ?_)
                  · have hRd : ¬ (0 ≤ d ∧ d < 8) := of_decide_eq_false (bI0 c14)
                    refine lv_iconst (v := 0) hx hb dX4_namesRegisters_94 (by decide) ?_
                    refine g_top (y := bI (decide (((o ≤ 8 ∨ o = 12) → (0 ≤ a ∧ a < 8)) ∧ ((1 ≤ o ∧ o ≤ 8) → (0 ≤ b ∧ b < 8)) ∧ ((1 ≤ o ∧ o ≤ 3) → (0 ≤ d ∧ d < 8))))) ((bI_n (fun h => hRd (h.2.2 hC))).symm) ?_
                    exact J95 _ _ _ hP hS (lv_sub hl [0, 1, 2, 3, 4, 5, 6] rfl)
                  · have hRd : 0 ≤ d ∧ d < 8 := of_decide_eq_true (bI1 c14)
                    refine lv_iconst (v := 1) hx hb dX4_namesRegisters_90 (by decide) ?_
                    refine lv_goto (tgt := 95) hx hb dX4_namesRegisters_91 (by decide) ?_
                    refine g_top (y := bI (decide (((o ≤ 8 ∨ o = 12) → (0 ≤ a ∧ a < 8)) ∧ ((1 ≤ o ∧ o ≤ 8) → (0 ≤ b ∧ b < 8)) ∧ ((1 ≤ o ∧ o ≤ 3) → (0 ≤ d ∧ d < 8))))) ((bI_d ⟨fun _ => hRa, fun _ => hRb, fun _ => hRd⟩).symm) ?_
                    exact J95 _ _ _ hP hS (lv_sub hl [0, 1, 2, 3, 4, 5, 6] rfl)
      refine lv_iload_n hx hb dX4_namesRegisters_37 rfl (lv_at hl 2 rfl) ?_
      refine lv_iconst (v := 1) hx hb dX4_namesRegisters_38 (by decide) ?_
      refine lv_icmp_lt (tgt := 51) hx hb dX4_namesRegisters_39 (by decide) (fun c15 => ?_) (fun c15 => ?_)
      · refine lv_iconst (v := 0) hx hb dX4_namesRegisters_51 (by decide) ?_
        refine g_top (y := bI (decide (1 ≤ o ∧ o ≤ 3))) ((bI_n (fun h => absurd h.1 (Int32.not_le.mpr c15))).symm) ?_
        exact J52 _ _ _ hP hS (lv_sub hl [0, 1, 2, 3, 4, 5] rfl)
      · refine lv_iload_n hx hb dX4_namesRegisters_42 rfl (lv_at hl 2 rfl) ?_
        refine lv_iconst (v := 3) hx hb dX4_namesRegisters_43 (by decide) ?_
        refine lv_icmp_gt (tgt := 51) hx hb dX4_namesRegisters_44 (by decide) (fun c16 => ?_) (fun c16 => ?_)
        · refine lv_iconst (v := 0) hx hb dX4_namesRegisters_51 (by decide) ?_
          refine g_top (y := bI (decide (1 ≤ o ∧ o ≤ 3))) ((bI_n (fun h => absurd h.2 (Int32.not_le.mpr c16))).symm) ?_
          exact J52 _ _ _ hP hS (lv_sub hl [0, 1, 2, 3, 4, 5] rfl)
        · refine lv_iconst (v := 1) hx hb dX4_namesRegisters_47 (by decide) ?_
          refine lv_goto (tgt := 52) hx hb dX4_namesRegisters_48 (by decide) ?_
          refine g_top (y := bI (decide (1 ≤ o ∧ o ≤ 3))) ((bI_d ⟨Int32.not_lt.mp c15, Int32.not_lt.mp c16⟩).symm) ?_
          exact J52 _ _ _ hP hS (lv_sub hl [0, 1, 2, 3, 4, 5] rfl)
    refine lv_iload_n hx hb dX4_namesRegisters_19 rfl (lv_at hl 1 rfl) ?_
    refine lv_iconst (v := 1) hx hb dX4_namesRegisters_20 (by decide) ?_
    refine lv_icmp_lt (tgt := 34) hx hb dX4_namesRegisters_21 (by decide) (fun c17 => ?_) (fun c17 => ?_)
    · refine lv_iconst (v := 0) hx hb dX4_namesRegisters_34 (by decide) ?_
      refine g_top (y := bI (decide (1 ≤ o ∧ o ≤ 8))) ((bI_n (fun h => absurd h.1 (Int32.not_le.mpr c17))).symm) ?_
      exact J35 _ _ _ hP hS (lv_sub hl [0, 1, 2, 3, 4] rfl)
    · refine lv_iload_n hx hb dX4_namesRegisters_24 rfl (lv_at hl 1 rfl) ?_
      refine lv_bipush (v := 8) hx hb dX4_namesRegisters_25 (by decide) ?_
      refine lv_icmp_gt (tgt := 34) hx hb dX4_namesRegisters_27 (by decide) (fun c18 => ?_) (fun c18 => ?_)
      · refine lv_iconst (v := 0) hx hb dX4_namesRegisters_34 (by decide) ?_
        refine g_top (y := bI (decide (1 ≤ o ∧ o ≤ 8))) ((bI_n (fun h => absurd h.2 (Int32.not_le.mpr c18))).symm) ?_
        exact J35 _ _ _ hP hS (lv_sub hl [0, 1, 2, 3, 4] rfl)
      · refine lv_iconst (v := 1) hx hb dX4_namesRegisters_30 (by decide) ?_
        refine lv_goto (tgt := 35) hx hb dX4_namesRegisters_31 (by decide) ?_
        refine g_top (y := bI (decide (1 ≤ o ∧ o ≤ 8))) ((bI_d ⟨Int32.not_lt.mp c17, Int32.not_lt.mp c18⟩).symm) ?_
        exact J35 _ _ _ hP hS (lv_sub hl [0, 1, 2, 3, 4] rfl)
  refine lv_iload_n hx hb dX4_namesRegisters_0 rfl (lv_at hl 0 rfl) ?_
  refine lv_bipush (v := 8) hx hb dX4_namesRegisters_1 (by decide) ?_
  refine lv_icmp_le (tgt := 12) hx hb dX4_namesRegisters_3 (by decide) (fun c19 => ?_) (fun c19 => ?_)
  · refine lv_iconst (v := 1) hx hb dX4_namesRegisters_12 (by decide) ?_
    refine lv_goto (tgt := 17) hx hb dX4_namesRegisters_13 (by decide) ?_
    refine g_top (y := bI (decide (o ≤ 8 ∨ o = 12))) ((bI_d (Or.inl c19)).symm) ?_
    exact J17 _ _ _ hP hS (lv_sub hl [0, 1, 2, 3] rfl)
  · refine lv_iload_n hx hb dX4_namesRegisters_6 rfl (lv_at hl 0 rfl) ?_
    refine lv_bipush (v := 12) hx hb dX4_namesRegisters_7 (by decide) ?_
    refine lv_icmp_ne (tgt := 16) hx hb dX4_namesRegisters_9 (by decide) (fun c20 => ?_) (fun c20 => ?_)
    · refine lv_iconst (v := 0) hx hb dX4_namesRegisters_16 (by decide) ?_
      refine g_top (y := bI (decide (o ≤ 8 ∨ o = 12))) ((bI_n (fun h => h.elim c19 c20)).symm) ?_
      exact J17 _ _ _ hP hS (lv_sub hl [0, 1, 2, 3] rfl)
    · refine lv_iconst (v := 1) hx hb dX4_namesRegisters_12 (by decide) ?_
      refine lv_goto (tgt := 17) hx hb dX4_namesRegisters_13 (by decide) ?_
      refine g_top (y := bI (decide (o ≤ 8 ∨ o = 12))) ((bI_d (Or.inr c20)).symm) ?_
      exact J17 _ _ _ hP hS (lv_sub hl [0, 1, 2, 3] rfl)
