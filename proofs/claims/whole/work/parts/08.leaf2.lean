/-! more leaves: records, copies, counts -/
theorem CC_24 {cs : Nat → ClassId} {n : Nat} {ad : Nat → Nat} {σ : St} {g : Nat → Int32} : CC cs n ad (putA σ 24 0 g) = CC cs n ad σ := by
  funext i
  show CQ cs n ad (putA σ 24 0 g) (i / 5) (i % 5) = CQ cs n ad σ (i / 5) (i % 5)
  generalize i / 5 = r
  have hc : i % 5 < 5 := by omega
  generalize i % 5 = c at hc
  rcases r with _ | _ | k <;> (rcases (show c = 0 ∨ c = 1 ∨ c = 2 ∨ c = 3 ∨ c = 4 by omega) with rfl | rfl | rfl | rfl | rfl) <;> simp [CQ, putA]
theorem cpy8 {f g : Nat → Int32} : va_cpy f g (0 : Int32).toNatClampNeg (0 : Int32).toNatClampNeg (8 : Int32).toNatClampNeg = fun j => if j < 8 then f j else g j := by
  have e0 : (0 : Int32).toNatClampNeg = 0 := by decide
  have e8 : (8 : Int32).toNatClampNeg = 8 := by decide
  rw [e0, e8]
  funext j
  simp [va_cpy]
theorem pAdd_eq {σ : St} {o q : Nat} (ho : σ.1 8 0 0 = nI o) (hq : σ.1 7 0 0 = nI q) (ho2 : o < 100) (hq2 : q ≤ 100) (a b c d : Int32) : ∃ g, pAdd σ a b c d = putA (if q < 100 then put (putA σ 6 0 (upd (upd (upd (upd (fun j => σ.1 6 0 j) ((o + q) % 100 * 4) a) ((o + q) % 100 * 4 + 1) b) ((o + q) % 100 * 4 + 2) c) ((o + q) % 100 * 4 + 3) d)) 7 0 0 (nI (q + 1)) else put (putA σ 6 0 (upd (upd (upd (upd (fun j => σ.1 6 0 j) ((o + q) % 100 * 4) a) ((o + q) % 100 * 4 + 1) b) ((o + q) % 100 * 4 + 2) c) ((o + q) % 100 * 4 + 3) d)) 8 0 0 (nI ((o + 1) % 100))) 24 0 g := by
  unfold pAdd
  rw [ho, hq, iN_nI (show o < 2 ^ 31 by omega), iN_nI (show q < 2 ^ 31 by omega)]
  exact ⟨_, rfl⟩
theorem and1 (x : Int32) : x &&& 1 = nI 0 ∨ x &&& 1 = nI 1 := by
  obtain ⟨j, h, e⟩ := pk_andE x (m := 1) 1 (by decide)
  rcases (show j = 0 ∨ j = 1 by omega) with rfl | rfl
  · exact Or.inl e
  · exact Or.inr e
theorem cnt_s {σ : St} {k s t i : Nat} (h : i % s = t) : nI (cntL σ k s t i) + (((σ.1 22 k 0 ||| σ.1 23 k 0) >>> (nI i &&& 31)) &&& 1) = nI (cntL σ k s t (i + 1)) := by
  simp only [cntL, h, lnb, true_and]
  rcases and1 ((σ.1 22 k 0 ||| σ.1 23 k 0) >>> (nI i &&& 31)) with e | e
  · rw [e, nI_add]; rfl
  · rw [e, nI_add]; rfl
theorem cnt_n {σ : St} {k s t i : Nat} (h : ¬ i % s = t) : cntL σ k s t (i + 1) = cntL σ k s t i := by
  simp [cntL, h]
def pReset (σ : St) (k : Nat) : St := put (put (put (put (put (pClose (putA σ 10 k (fun j => if j < 8 then 0 else σ.1 10 k j)) k) 13 k 0 0) 14 k 0 0) 15 k 0 0) 16 k 0 0) 17 k 0 0
theorem hasS_memo {σ : St} {k m j : Nat} : hasS (pMemo σ k m) k j = hasS σ k j := rfl
theorem memo_y {σ : St} {k i : Nat} (h : hasS σ k i = true) : put (pMemo σ k i) 0 0 i (σ.1 12 k i) = pMemo σ k (i + 1) := by
  refine putA_step (fun j => ?_)
  by_cases h1 : j = i
  · subst h1; simp [pSeen, h]
  · rw [if_neg h1]
    by_cases h2 : j < i
    · rw [if_pos h2, if_pos (by omega)]
    · rw [if_neg h2, if_neg (by omega)]
theorem memo_n {σ : St} {k i : Nat} (h : hasS σ k i = false) : pMemo σ k (i + 1) = pMemo σ k i := by
  unfold pMemo
  congr 1
  funext j
  by_cases h1 : j = i
  · subst h1; simp [pSeen, h]
  · by_cases h2 : j < i
    · rw [if_pos h2, if_pos (by omega)]
    · rw [if_neg h2, if_neg (by omega)]
theorem memo_0 {σ : St} {k : Nat} : pMemo σ k 0 = σ := putA_0 (fun j => by simp)

theorem iwX2_add_X2 : ∀ w ∈ wsX20, w ∈ wsX2_add := fun w h => by unfold wsX2_add; simp only [List.mem_cons, List.mem_append, h, true_or, or_true]
theorem lkX2_add_9 : Cond.fieldLink RX2 9 "CoreTransactions$Records" "fields" "[I" ∈ wsX2_add := by decide +kernel
theorem lkX2_add_15 : Cond.fieldLink RX2 15 "CoreTransactions$Records" "oldest" "I" ∈ wsX2_add := by decide +kernel
theorem lkX2_add_19 : Cond.fieldLink RX2 19 "CoreTransactions$Records" "count" "I" ∈ wsX2_add := by decide +kernel
abbrev rmX2_add : Room := ({ frames := 0, cells := 0, slots := 0, locals := 0 } : Room)
set_option maxRecDepth 100000 in
set_option maxHeartbeats 4000000 in
theorem kX2_add (l : Launch) (D : va_G) (cs : Nat → ClassId) (n : Nat) (ad : Nat → Nat) (σ : St) (a b c2 d2 : Int32) (o q : Nat) (ho : σ.1 8 0 0 = nI o) (hq : σ.1 7 0 0 = nI q) (ho2 : o < 100) (hq2 : q ≤ 100) : gMv l yX2_add wsX2_add rmX2_add D (tyL cs) (5 * (n + 2)) ad (CC cs n ad σ) [.ref (ad 4), .int a, .int b, .int c2, .int d2] (fun (u : Unit) => True) (fun (u : Unit) => CC cs n ad (pAdd σ a b c2 d2)) := by
  refine g_ofv (cc := cX2_add) (maxL := 6) (by decide) rfl (Nat.le_of_ble_eq_true rfl) rfl rfl ?_
  intro p e s m args below meth c A ls Q hx hb hml hts hown hK hP hD hA hS hl hret
  have hl : lv_has ls 6 [(0, .ref (ad 4)), (1, .int a), (2, .int b), (3, .int c2), (4, .int d2)] := hl
  refine lv_aload_n hx hb dX2_add_0 rfl (lv_at hl 0 rfl) ?_
  refine va_get (D := D) (ci := 2) (v := .int (σ.1 8 0 0)) (C := RX2) (T := TX2) (N := 3) hx hb hts iwX2_add_X2 hown hK hP 4 cc_rec rfl 2 (by decide) (hts _ lkX2_add_15) (fun _ h9 => h9) rfl dX2_add_1 ?_
  refine lv_aload_n hx hb dX2_add_4 rfl (lv_at hl 0 rfl) ?_
  refine va_get (D := D) (ci := 2) (v := .int (σ.1 7 0 0)) (C := RX2) (T := TX2) (N := 3) hx hb hts iwX2_add_X2 hown hK hP 4 cc_rec rfl 1 (by decide) (hts _ lkX2_add_19) (fun _ h9 => h9) rfl dX2_add_5 ?_
  refine lv_iadd hx hb dX2_add_8 ?_
  refine g_top (y := nI (o + q)) (by rw [ho, hq, nI_add]) ?_
  refine lv_bipush (v := 100) hx hb dX2_add_9 (by decide) ?_
  refine lv_irem hx hb dX2_add_11 (by decide) ?_
  refine g_top (y := nI ((o + q) % 100)) (pk_rem (by omega) (by decide) (by decide)) ?_
  refine lv_iconst (v := 4) hx hb dX2_add_12 (by decide) ?_
  refine lv_imul hx hb dX2_add_13 ?_
  refine g_top (y := nI ((o + q) % 100 * 4)) (pk_mul _ 4) ?_
  refine lv_istore (lv' := [(5, .int (nI ((o + q) % 100 * 4))), (0, .ref (ad 4)), (1, .int a), (2, .int b), (3, .int c2), (4, .int d2)]) hx hb dX2_add_14 hl (by decide) rfl (fun ls hl => ?_)
  refine lv_aload_n hx hb dX2_add_16 rfl (lv_at hl 1 rfl) ?_
  refine va_get (D := D) (ci := 2) (v := .ref (ad 9)) (C := RX2) (T := TX2) (N := 3) hx hb hts iwX2_add_X2 hown hK hP 4 cc_rec rfl 0 (by decide) (hts _ lkX2_add_9) (fun _ h9 => h9) rfl dX2_add_17 ?_
  refine lv_iload hx hb dX2_add_20 (lv_at hl 0 rfl) ?_
  refine lv_iload_n hx hb dX2_add_22 rfl (lv_at hl 2 rfl) ?_
  refine g_iast (t0 := 0) hx hb hK hP hD hS cc_fld rfl ((o + q) % 100 * 4) rfl (by omega) (by decide) dX2_add_23 (fun H locs hP hS => ?_)
  obtain ⟨σ1, eσ1⟩ : ∃ z, z = put σ 6 0 ((o + q) % 100 * 4) a := ⟨_, rfl⟩
  have hP : va_P D vwCl (FW (5 * (n + 2)) ad (CC cs n ad σ1)) H := by rw [eσ1]; exact FW_P hP cu_fld
  refine lv_aload_n hx hb dX2_add_24 rfl (lv_at hl 1 rfl) ?_
  refine va_get (D := D) (ci := 2) (v := .ref (ad 9)) (C := RX2) (T := TX2) (N := 3) hx hb hts iwX2_add_X2 hown hK hP 4 cc_rec rfl 0 (by decide) (hts _ lkX2_add_9) (fun _ h9 => h9) rfl dX2_add_25 ?_
  refine lv_iload hx hb dX2_add_28 (lv_at hl 0 rfl) ?_
  refine lv_iconst (v := 1) hx hb dX2_add_30 (by decide) ?_
  refine lv_iadd hx hb dX2_add_31 ?_
  refine g_top (y := nI ((o + q) % 100 * 4 + 1)) (nI_add _ 1) ?_
  refine lv_iload_n hx hb dX2_add_32 rfl (lv_at hl 3 rfl) ?_
  refine g_iast (t0 := 0) hx hb hK hP hD hS cc_fld rfl ((o + q) % 100 * 4 + 1) rfl (by omega) (by decide) dX2_add_33 (fun H locs hP hS => ?_)
  obtain ⟨σ2, eσ2⟩ : ∃ z, z = put σ1 6 0 ((o + q) % 100 * 4 + 1) b := ⟨_, rfl⟩
  have hP : va_P D vwCl (FW (5 * (n + 2)) ad (CC cs n ad σ2)) H := by rw [eσ2]; exact FW_P hP cu_fld
  refine lv_aload_n hx hb dX2_add_34 rfl (lv_at hl 1 rfl) ?_
  refine va_get (D := D) (ci := 2) (v := .ref (ad 9)) (C := RX2) (T := TX2) (N := 3) hx hb hts iwX2_add_X2 hown hK hP 4 cc_rec rfl 0 (by decide) (hts _ lkX2_add_9) (fun _ h9 => h9) rfl dX2_add_35 ?_
  refine lv_iload hx hb dX2_add_38 (lv_at hl 0 rfl) ?_
  refine lv_iconst (v := 2) hx hb dX2_add_40 (by decide) ?_
  refine lv_iadd hx hb dX2_add_41 ?_
  refine g_top (y := nI ((o + q) % 100 * 4 + 2)) (nI_add _ 2) ?_
  refine lv_iload_n hx hb dX2_add_42 rfl (lv_at hl 4 rfl) ?_
  refine g_iast (t0 := 0) hx hb hK hP hD hS cc_fld rfl ((o + q) % 100 * 4 + 2) rfl (by omega) (by decide) dX2_add_43 (fun H locs hP hS => ?_)
  obtain ⟨σ3, eσ3⟩ : ∃ z, z = put σ2 6 0 ((o + q) % 100 * 4 + 2) c2 := ⟨_, rfl⟩
  have hP : va_P D vwCl (FW (5 * (n + 2)) ad (CC cs n ad σ3)) H := by rw [eσ3]; exact FW_P hP cu_fld
  refine lv_aload_n hx hb dX2_add_44 rfl (lv_at hl 1 rfl) ?_
  refine va_get (D := D) (ci := 2) (v := .ref (ad 9)) (C := RX2) (T := TX2) (N := 3) hx hb hts iwX2_add_X2 hown hK hP 4 cc_rec rfl 0 (by decide) (hts _ lkX2_add_9) (fun _ h9 => h9) rfl dX2_add_45 ?_
  refine lv_iload hx hb dX2_add_48 (lv_at hl 0 rfl) ?_
  refine lv_iconst (v := 3) hx hb dX2_add_50 (by decide) ?_
  refine lv_iadd hx hb dX2_add_51 ?_
  refine g_top (y := nI ((o + q) % 100 * 4 + 3)) (nI_add _ 3) ?_
  refine lv_iload hx hb dX2_add_52 (lv_at hl 5 rfl) ?_
  refine g_iast (t0 := 0) hx hb hK hP hD hS cc_fld rfl ((o + q) % 100 * 4 + 3) rfl (by omega) (by decide) dX2_add_54 (fun H locs hP hS => ?_)
  obtain ⟨σ4, eσ4⟩ : ∃ z, z = put σ3 6 0 ((o + q) % 100 * 4 + 3) d2 := ⟨_, rfl⟩
  have hP : va_P D vwCl (FW (5 * (n + 2)) ad (CC cs n ad σ4)) H := by rw [eσ4]; exact FW_P hP cu_fld
  refine lv_aload_n hx hb dX2_add_55 rfl (lv_at hl 1 rfl) ?_
  refine va_get (D := D) (ci := 2) (v := .int (σ4.1 7 0 0)) (C := RX2) (T := TX2) (N := 3) hx hb hts iwX2_add_X2 hown hK hP 4 cc_rec rfl 1 (by decide) (hts _ lkX2_add_19) (fun _ h9 => h9) rfl dX2_add_56 ?_
  refine g_top (y := nI q) (by simp only [eσ4, eσ3, eσ2, eσ1]; exact hq) ?_
  refine lv_bipush (v := 100) hx hb dX2_add_59 (by decide) ?_
  refine lv_icmp_ge (tgt := 77) hx hb dX2_add_61 (by decide) (fun c5 => ?_) (fun c5 => ?_)
  · have h100 : ¬ q < 100 := fun h => nI_ge h (show 100 < 2 ^ 31 by decide) c5
    refine lv_aload_n hx hb dX2_add_77 rfl (lv_at hl 1 rfl) ?_
    refine lv_aload_n hx hb dX2_add_78 rfl (lv_at hl 1 rfl) ?_
    refine va_get (D := D) (ci := 2) (v := .int (σ4.1 8 0 0)) (C := RX2) (T := TX2) (N := 3) hx hb hts iwX2_add_X2 hown hK hP 4 cc_rec rfl 2 (by decide) (hts _ lkX2_add_15) (fun _ h9 => h9) rfl dX2_add_79 ?_
    refine g_top (y := nI o) (by simp only [eσ4, eσ3, eσ2, eσ1]; exact ho) ?_
    refine lv_iconst (v := 1) hx hb dX2_add_82 (by decide) ?_
    refine lv_iadd hx hb dX2_add_83 ?_
    refine g_top (y := nI (o + 1)) (nI_add _ 1) ?_
    refine lv_bipush (v := 100) hx hb dX2_add_84 (by decide) ?_
    refine lv_irem hx hb dX2_add_86 (by decide) ?_
    refine g_top (y := nI ((o + 1) % 100)) (pk_rem (by omega) (by decide) (by decide)) ?_
    refine va_put (D := D) (ci := 2) (v := .int (nI ((o + 1) % 100))) (ty := .int) (C := RX2) (T := TX2) (N := 3) hx hb hts iwX2_add_X2 tyX2 tyX2_ok nmX2 hown hK hP (hD _) hS 4 cc_rec rfl 2 (by decide) (hts _ lkX2_add_15) (fun _ h9 => h9) rfl (by decide +kernel) rfl rfl (Nat.le_of_ble_eq_true rfl) dX2_add_87 (fun H locs hP _ hS => ?_)
    obtain ⟨σ6, eσ6⟩ : ∃ z, z = put σ4 8 0 0 (nI ((o + 1) % 100)) := ⟨_, rfl⟩
    have hP : va_P D vwCl (FW (5 * (n + 2)) ad (CC cs n ad σ6)) H := by rw [eσ6]; exact FW_P hP cu_rec_2
    exact hret _ _ _ () _ _ dX2_add_90 hP hS (trivial) (by obtain ⟨g, hg⟩ := pAdd_eq ho hq ho2 hq2 a b c2 d2; rw [hg, CC_24, if_neg h100]; simp only [eσ6, eσ4, eσ3, eσ2, eσ1]; rw [put_0 σ, put_A, put_A, put_A])
  · have h100 : q < 100 := Nat.lt_of_not_le (fun h => c5 (nI_le h (by omega)))
    refine lv_aload_n hx hb dX2_add_64 rfl (lv_at hl 1 rfl) ?_
    refine lv_dup hx hb dX2_add_65 rfl ?_
    refine va_get (D := D) (ci := 2) (v := .int (σ4.1 7 0 0)) (C := RX2) (T := TX2) (N := 3) hx hb hts iwX2_add_X2 hown hK hP 4 cc_rec rfl 1 (by decide) (hts _ lkX2_add_19) (fun _ h9 => h9) rfl dX2_add_66 ?_
    refine g_top (y := nI q) (by simp only [eσ4, eσ3, eσ2, eσ1]; exact hq) ?_
    refine lv_iconst (v := 1) hx hb dX2_add_69 (by decide) ?_
    refine lv_iadd hx hb dX2_add_70 ?_
    refine g_top (y := nI (q + 1)) (nI_add _ 1) ?_
    refine va_put (D := D) (ci := 2) (v := .int (nI (q + 1))) (ty := .int) (C := RX2) (T := TX2) (N := 3) hx hb hts iwX2_add_X2 tyX2 tyX2_ok nmX2 hown hK hP (hD _) hS 4 cc_rec rfl 1 (by decide) (hts _ lkX2_add_19) (fun _ h9 => h9) rfl (by decide +kernel) rfl rfl (Nat.le_of_ble_eq_true rfl) dX2_add_71 (fun H locs hP _ hS => ?_)
    obtain ⟨σ7, eσ7⟩ : ∃ z, z = put σ4 7 0 0 (nI (q + 1)) := ⟨_, rfl⟩
    have hP : va_P D vwCl (FW (5 * (n + 2)) ad (CC cs n ad σ7)) H := by rw [eσ7]; exact FW_P hP cu_rec_1
    refine lv_goto (tgt := 90) hx hb dX2_add_74 (by decide) ?_
    exact hret _ _ _ () _ _ dX2_add_90 hP hS (trivial) (by obtain ⟨g, hg⟩ := pAdd_eq ho hq ho2 hq2 a b c2 d2; rw [hg, CC_24, if_pos h100]; simp only [eσ7, eσ4, eσ3, eσ2, eσ1]; rw [put_0 σ, put_A, put_A, put_A])

theorem iwX3_open_X3 : ∀ w ∈ wsX30, w ∈ wsX3_open := fun w h => by unfold wsX3_open; simp only [List.mem_cons, List.mem_append, h, true_or, or_true]
theorem lkX3_open_9 : Cond.fieldLink RX3 9 "CoreTransactions$Transaction" "keptRegisters" "[I" ∈ wsX3_open := by decide +kernel
theorem lkX3_open_18 : Cond.fieldLink RX3 18 "CoreTransactions$Transaction" "age" "I" ∈ wsX3_open := by decide +kernel
theorem lkX3_open_22 : Cond.fieldLink RX3 22 "CoreTransactions$Transaction" "beginPlace" "I" ∈ wsX3_open := by decide +kernel
theorem lkX3_open_25 : Cond.fieldLink RX3 25 "CoreTransactions$Transaction" "keptPlace" "I" ∈ wsX3_open := by decide +kernel
theorem lkX3_open_ml : Cond.methodLink RX3 28 arraycopyName ∈ wsX3_open := by decide +kernel
theorem lkX3_open_na : Cond.native arraycopyName ∈ wsX3_open := by decide +kernel
theorem lkX3_open_sta : Cond.static arraycopyName ∈ wsX3_open := by decide +kernel
theorem lkX3_open_ini : Cond.initialized "java/lang/System" ∈ wsX3_open := by decide +kernel
abbrev rmX3_open : Room := ({ frames := 1, cells := 0, slots := 0, locals := 60 } : Room)
set_option maxRecDepth 100000 in
set_option maxHeartbeats 4000000 in
theorem kX3_open (l : Launch) (D : va_G) (cs : Nat → ClassId) (n : Nat) (ad : Nat → Nat) (σ : St) (k : Nat) (hk : k < n) (g b d2 : Int32) : gMv l yX3_open wsX3_open rmX3_open D (tyL cs) (5 * (n + 2)) ad (CC cs n ad σ) [.ref (ad (5 * (k + 2) + 2)), .int g, .int b, .int d2, .ref (ad (5 * (k + 2) + 1))] (fun (u : Unit) => True) (fun (u : Unit) => CC cs n ad (pOpen σ k g b d2)) := by
  refine g_ofv (cc := cX3_open) (maxL := 5) (by decide) rfl (Nat.le_of_ble_eq_true rfl) rfl rfl ?_
  intro p e s m args below meth c A ls Q hx hb hml hts hown hK hP hD hA hS hl hret
  have hl : lv_has ls 5 [(0, .ref (ad (5 * (k + 2) + 2))), (1, .int g), (2, .int b), (3, .int d2), (4, .ref (ad (5 * (k + 2) + 1)))] := hl
  refine lv_aload_n hx hb dX3_open_0 rfl (lv_at hl 0 rfl) ?_
  refine lv_iload_n hx hb dX3_open_1 rfl (lv_at hl 1 rfl) ?_
  refine va_put (D := D) (ci := 3) (v := .int g) (ty := .int) (C := RX3) (T := TX3) (N := 9) hx hb hts iwX3_open_X3 tyX3 tyX3_ok nmX3 hown hK hP (hD _) hS (5 * (k + 2) + 2) (cc_tx hk) rfl 3 (by decide) (hts _ lkX3_open_18) (fun _ h9 => h9) rfl (by decide +kernel) rfl rfl (Nat.le_of_ble_eq_true rfl) dX3_open_2 (fun H locs hP _ hS => ?_)
  obtain ⟨σ1, eσ1⟩ : ∃ z, z = put σ 19 k 0 g := ⟨_, rfl⟩
  have hP : va_P D vwCl (FW (5 * (n + 2)) ad (CC cs n ad σ1)) H := by rw [eσ1]; exact FW_P hP cu_tx_3
  refine lv_aload_n hx hb dX3_open_5 rfl (lv_at hl 0 rfl) ?_
  refine lv_iload_n hx hb dX3_open_6 rfl (lv_at hl 2 rfl) ?_
  refine va_put (D := D) (ci := 3) (v := .int b) (ty := .int) (C := RX3) (T := TX3) (N := 9) hx hb hts iwX3_open_X3 tyX3 tyX3_ok nmX3 hown hK hP (hD _) hS (5 * (k + 2) + 2) (cc_tx hk) rfl 4 (by decide) (hts _ lkX3_open_22) (fun _ h9 => h9) rfl (by decide +kernel) rfl rfl (Nat.le_of_ble_eq_true rfl) dX3_open_7 (fun H locs hP _ hS => ?_)
  obtain ⟨σ2, eσ2⟩ : ∃ z, z = put σ1 20 k 0 b := ⟨_, rfl⟩
  have hP : va_P D vwCl (FW (5 * (n + 2)) ad (CC cs n ad σ2)) H := by rw [eσ2]; exact FW_P hP cu_tx_4
  refine lv_aload_n hx hb dX3_open_10 rfl (lv_at hl 0 rfl) ?_
  refine lv_iload_n hx hb dX3_open_11 rfl (lv_at hl 3 rfl) ?_
  refine va_put (D := D) (ci := 3) (v := .int d2) (ty := .int) (C := RX3) (T := TX3) (N := 9) hx hb hts iwX3_open_X3 tyX3 tyX3_ok nmX3 hown hK hP (hD _) hS (5 * (k + 2) + 2) (cc_tx hk) rfl 5 (by decide) (hts _ lkX3_open_25) (fun _ h9 => h9) rfl (by decide +kernel) rfl rfl (Nat.le_of_ble_eq_true rfl) dX3_open_12 (fun H locs hP _ hS => ?_)
  obtain ⟨σ3, eσ3⟩ : ∃ z, z = put σ2 21 k 0 d2 := ⟨_, rfl⟩
  have hP : va_P D vwCl (FW (5 * (n + 2)) ad (CC cs n ad σ3)) H := by rw [eσ3]; exact FW_P hP cu_tx_5
  refine lv_aload hx hb dX3_open_15 (lv_at hl 4 rfl) ?_
  refine lv_iconst (v := 0) hx hb dX3_open_17 (by decide) ?_
  refine lv_aload_n hx hb dX3_open_18 rfl (lv_at hl 0 rfl) ?_
  refine va_get (D := D) (ci := 3) (v := .ref (ad (5 * (k + 2) + 3))) (C := RX3) (T := TX3) (N := 9) hx hb hts iwX3_open_X3 hown hK hP (5 * (k + 2) + 2) (cc_tx hk) rfl 0 (by decide) (hts _ lkX3_open_9) (fun _ h9 => h9) rfl dX3_open_19 ?_
  refine lv_iconst (v := 0) hx hb dX3_open_22 (by decide) ?_
  refine lv_bipush (v := 8) hx hb dX3_open_23 (by decide) ?_
  refine va_copyi hx hb (hml.trans hl.1.symm) hown (hts _ lkX3_open_ml) (hts _ lkX3_open_na) (hts _ lkX3_open_sta) (hts _ lkX3_open_ini) hK hP (hD _) hS (5 * (k + 2) + 1) (5 * (k + 2) + 3) 0 0 (cc_regs hk) (cc_kept hk) rfl rfl rfl (by decide) (by decide) (by decide) (by decide) (by decide) (fun _ _ => rfl) (by decide) (by decide) dX3_open_25 (fun H locs hP _ hS => ?_)
  rw [cpy8] at hP
  obtain ⟨σ4, eσ4⟩ : ∃ z, z = putA σ3 11 k (fun j => if j < 8 then σ3.1 10 k j else σ3.1 11 k j) := ⟨_, rfl⟩
  have hP : va_P D vwCl (FW (5 * (n + 2)) ad (CC cs n ad σ4)) H := by rw [eσ4]; exact FW_P hP cu_keptA
  exact hret _ _ _ () _ _ dX3_open_28 hP hS (trivial) (by simp only [eσ4, eσ3, eσ2, eσ1]; first | done | rfl)

theorem iwX3_linesInSet_X3 : ∀ w ∈ wsX30, w ∈ wsX3_linesInSet := fun w h => by unfold wsX3_linesInSet; simp only [List.mem_cons, List.mem_append, h, true_or, or_true]
theorem lkX3_linesInSet_37 : Cond.fieldLink RX3 37 "CoreTransactions$Transaction" "linesRead" "I" ∈ wsX3_linesInSet := by decide +kernel
theorem lkX3_linesInSet_40 : Cond.fieldLink RX3 40 "CoreTransactions$Transaction" "linesWritten" "I" ∈ wsX3_linesInSet := by decide +kernel
abbrev rmX3_linesInSet : Room := ({ frames := 0, cells := 0, slots := 0, locals := 0 } : Room)
set_option maxRecDepth 100000 in
set_option maxHeartbeats 4000000 in
theorem kX3_linesInSet (l : Launch) (D : va_G) (cs : Nat → ClassId) (n : Nat) (ad : Nat → Nat) (σ : St) (k : Nat) (hk : k < n) (t q2 : Nat) (hq0 : 0 < q2) (hq1 : q2 < 2 ^ 31) (ht1 : t < 2 ^ 31) : gMi l yX3_linesInSet wsX3_linesInSet rmX3_linesInSet D (tyL cs) (5 * (n + 2)) ad (CC cs n ad σ) [.ref (ad (5 * (k + 2) + 2)), .int (nI t), .int (nI q2)] (fun (r : Int32) (u : Unit) => r = nI (cntL σ k q2 t 16)) (fun (u : Unit) => CC cs n ad σ) := by
  refine g_ofi (cc := cX3_linesInSet) (maxL := 5) (by decide) rfl (Nat.le_of_ble_eq_true rfl) rfl rfl ?_
  intro p e s m args below meth c A ls Q hx hb hml hts hown hK hP hD hA hS hl hret
  have hl : lv_has ls 5 [(0, .ref (ad (5 * (k + 2) + 2))), (1, .int (nI t)), (2, .int (nI q2))] := hl
  refine lv_iconst (v := 0) hx hb dX3_linesInSet_0 (by decide) ?_
  refine lv_istore_n (lv' := [(3, .int 0), (0, .ref (ad (5 * (k + 2) + 2))), (1, .int (nI t)), (2, .int (nI q2))]) hx hb dX3_linesInSet_1 rfl hl (by decide) rfl (fun ls hl => ?_)
  refine lv_iconst (v := 0) hx hb dX3_linesInSet_2 (by decide) ?_
  refine lv_istore (lv' := [(4, .int 0), (3, .int 0), (0, .ref (ad (5 * (k + 2) + 2))), (1, .int (nI t)), (2, .int (nI q2))]) hx hb dX3_linesInSet_3 hl (by decide) rfl (fun ls hl => ?_)
  have loop : ∀ (d i : Nat), i + d = 16 → ∀ (q : Nat), q = cntL σ k q2 t i → ∀ (H : Heap) (locs : List Loc) (ls : Array Slot), va_P D vwCl (FW (5 * (n + 2)) ad (CC cs n ad (σ))) H → va_S A s.heap H locs → lv_has ls 5 [(0, .ref (ad (5 * (k + 2) + 2))), (1, .int (nI t)), (2, .int (nI q2)), (3, .int (nI q)), (4, .int (nI i))] → W p l e rmX3_linesInSet s m args below meth c H locs 0 0 Q (F0 m 5 ls []) := by
    intro d
    induction d with
    | zero =>
      intro i hi q hq H locs ls hP hS hl
      obtain rfl : i = 16 := by omega
      obtain ⟨σ1, eσ1⟩ : ∃ z, z = σ := ⟨_, rfl⟩
      have hP : va_P D vwCl (FW (5 * (n + 2)) ad (CC cs n ad σ1)) H := by rw [eσ1]; exact hP
      refine lv_iload hx hb dX3_linesInSet_5 (lv_at hl 4 rfl) ?_
      refine lv_bipush (v := 16) hx hb dX3_linesInSet_7 (by decide) ?_
      refine lv_icmp_ge (tgt := 43) hx hb dX3_linesInSet_9 (by decide) (fun c2 => ?_) (fun c2 => absurd (show (16 : Int32) ≤ nI 16 from Int32.le_refl _) c2)
      refine lv_iload_n hx hb dX3_linesInSet_43 rfl (lv_at hl 3 rfl) ?_
      exact hret _ _ _ _ () _ _ dX3_linesInSet_44 hP hS (by rw [hq]) (by simp only [eσ1]; first | done | rfl)
    | succ d ih =>
      intro i hi q hq H locs ls hP hS hl
      have hi2 : i < 16 := by omega
      obtain ⟨σ3, eσ3⟩ : ∃ z, z = σ := ⟨_, rfl⟩
      have hP : va_P D vwCl (FW (5 * (n + 2)) ad (CC cs n ad σ3)) H := by rw [eσ3]; exact hP
      refine lv_iload hx hb dX3_linesInSet_5 (lv_at hl 4 rfl) ?_
      refine lv_bipush (v := 16) hx hb dX3_linesInSet_7 (by decide) ?_
      refine lv_icmp_ge (tgt := 43) hx hb dX3_linesInSet_9 (by decide) (fun c4 => absurd c4 (nI_ge hi2 (show 16 < 2 ^ 31 by decide))) (fun c4 => ?_)
      refine lv_iload hx hb dX3_linesInSet_12 (lv_at hl 4 rfl) ?_
      refine lv_iload_n hx hb dX3_linesInSet_14 rfl (lv_at hl 2 rfl) ?_
      refine lv_irem hx hb dX3_linesInSet_15 (nI_ne0 hq0 hq1) ?_
      refine g_top (y := nI (i % q2)) (pk_rem (by omega) hq0 hq1) ?_
      refine lv_iload_n hx hb dX3_linesInSet_16 rfl (lv_at hl 1 rfl) ?_
      refine lv_icmp_ne (tgt := 37) hx hb dX3_linesInSet_17 (by decide) (fun c5 => ?_) (fun c5 => ?_)
      · have hm : ¬ i % q2 = t := fun h => c5 (by rw [h])
        refine lv_iinc (v := nI (i + 1)) (lv' := [(4, .int (nI (i + 1))), (0, .ref (ad (5 * (k + 2) + 2))), (1, .int (nI t)), (2, .int (nI q2)), (3, .int (nI q))]) hx hb dX3_linesInSet_37 hl (k := 4) rfl (nI_1 i) (by decide) rfl (fun ls hl => ?_)
        refine lv_goto (tgt := 5) hx hb dX3_linesInSet_40 (by decide) ?_
        exact ih (i + 1) (by omega) q (by rw [hq, cnt_n hm]) _ _ _ (by simp only [eσ3] at hP; exact hP) hS (lv_sub hl [1, 2, 3, 4, 0] rfl)
      · have hm : i % q2 = t := (nI_eq (by have := Nat.mod_lt i hq0; omega) ht1).mp c5
        refine lv_iload_n hx hb dX3_linesInSet_20 rfl (lv_at hl 3 rfl) ?_
        refine lv_aload_n hx hb dX3_linesInSet_21 rfl (lv_at hl 0 rfl) ?_
        refine va_get (D := D) (ci := 3) (v := .int (σ3.1 22 k 0)) (C := RX3) (T := TX3) (N := 9) hx hb hts iwX3_linesInSet_X3 hown hK hP (5 * (k + 2) + 2) (cc_tx hk) rfl 6 (by decide) (hts _ lkX3_linesInSet_37) (fun _ h9 => h9) rfl dX3_linesInSet_22 ?_
        refine lv_aload_n hx hb dX3_linesInSet_25 rfl (lv_at hl 0 rfl) ?_
        refine va_get (D := D) (ci := 3) (v := .int (σ3.1 23 k 0)) (C := RX3) (T := TX3) (N := 9) hx hb hts iwX3_linesInSet_X3 hown hK hP (5 * (k + 2) + 2) (cc_tx hk) rfl 7 (by decide) (hts _ lkX3_linesInSet_40) (fun _ h9 => h9) rfl dX3_linesInSet_26 ?_
        refine lv_ior hx hb dX3_linesInSet_29 ?_
        refine lv_iload hx hb dX3_linesInSet_30 (lv_at hl 4 rfl) ?_
        refine lv_ishr hx hb dX3_linesInSet_32 ?_
        refine lv_iconst (v := 1) hx hb dX3_linesInSet_33 (by decide) ?_
        refine lv_iand hx hb dX3_linesInSet_34 ?_
        refine lv_iadd hx hb dX3_linesInSet_35 ?_
        refine g_top (y := nI (cntL σ k q2 t (i + 1))) (by simp only [hq, eσ3]; exact cnt_s hm) ?_
        refine lv_istore_n (lv' := [(3, .int (nI (cntL σ k q2 t (i + 1)))), (0, .ref (ad (5 * (k + 2) + 2))), (1, .int (nI t)), (2, .int (nI q2)), (4, .int (nI i))]) hx hb dX3_linesInSet_36 rfl hl (by decide) rfl (fun ls hl => ?_)
        refine lv_iinc (v := nI (i + 1)) (lv' := [(4, .int (nI (i + 1))), (3, .int (nI (cntL σ k q2 t (i + 1)))), (0, .ref (ad (5 * (k + 2) + 2))), (1, .int (nI t)), (2, .int (nI q2))]) hx hb dX3_linesInSet_37 hl (k := 4) rfl (nI_1 i) (by decide) rfl (fun ls hl => ?_)
        refine lv_goto (tgt := 5) hx hb dX3_linesInSet_40 (by decide) ?_
        exact ih (i + 1) (by omega) (cntL σ k q2 t (i + 1)) (rfl) _ _ _ (by simp only [eσ3] at hP; exact hP) hS (lv_sub hl [2, 3, 4, 1, 0] rfl)
  exact loop (16) 0 (by omega) 0 rfl _ _ _ (hP) hS (lv_sub hl [2, 3, 4, 1, 0] rfl)

theorem iwX3_writeTo_X3 : ∀ w ∈ wsX30, w ∈ wsX3_writeTo := fun w h => by unfold wsX3_writeTo; simp only [List.mem_cons, List.mem_append, h, true_or, or_true]
theorem lkX3_writeTo_15 : Cond.fieldLink RX3 15 "CoreTransactions$Transaction" "storedWords" "[I" ∈ wsX3_writeTo := by decide +kernel
abbrev rmX3_writeTo : Room := ({ frames := 1, cells := 0, slots := 0, locals := 21 } : Room)
set_option maxRecDepth 100000 in
set_option maxHeartbeats 4000000 in
theorem kX3_writeTo (l : Launch) (D : va_G) (cs : Nat → ClassId) (n : Nat) (ad : Nat → Nat) (σ : St) (k : Nat) (hk : k < n) : gMv l yX3_writeTo wsX3_writeTo rmX3_writeTo D (tyL cs) (5 * (n + 2)) ad (CC cs n ad σ) [.ref (ad (5 * (k + 2) + 2)), .ref (ad 2)] (fun (u : Unit) => True) (fun (u : Unit) => CC cs n ad (pMemo σ k 64)) := by
  refine g_ofv (cc := cX3_writeTo) (maxL := 3) (by decide) rfl (Nat.le_of_ble_eq_true rfl) rfl rfl ?_
  intro p e s m args below meth c A ls Q hx hb hml hts hown hK hP hD hA hS hl hret
  have hl : lv_has ls 3 [(0, .ref (ad (5 * (k + 2) + 2))), (1, .ref (ad 2))] := hl
  refine lv_iconst (v := 0) hx hb dX3_writeTo_0 (by decide) ?_
  refine lv_istore_n (lv' := [(2, .int 0), (0, .ref (ad (5 * (k + 2) + 2))), (1, .ref (ad 2))]) hx hb dX3_writeTo_1 rfl hl (by decide) rfl (fun ls hl => ?_)
  have loop : ∀ (d i : Nat), i + d = 64 →  ∀ (H : Heap) (locs : List Loc) (ls : Array Slot), va_P D vwCl (FW (5 * (n + 2)) ad (CC cs n ad (pMemo σ k i))) H → va_S A s.heap H locs → lv_has ls 3 [(0, .ref (ad (5 * (k + 2) + 2))), (1, .ref (ad 2)), (2, .int (nI i))] → W p l e rmX3_writeTo s m args below meth c H locs 0 0 Q (F0 m 2 ls []) := by
    intro d
    induction d with
    | zero =>
      intro i hi  H locs ls hP hS hl
      obtain rfl : i = 64 := by omega
      obtain ⟨σ1, eσ1⟩ : ∃ z, z = pMemo σ k 64 := ⟨_, rfl⟩
      have hP : va_P D vwCl (FW (5 * (n + 2)) ad (CC cs n ad σ1)) H := by rw [eσ1]; exact hP
      refine lv_iload_n hx hb dX3_writeTo_2 rfl (lv_at hl 2 rfl) ?_
      refine lv_bipush (v := 64) hx hb dX3_writeTo_3 (by decide) ?_
      refine lv_icmp_ge (tgt := 31) hx hb dX3_writeTo_5 (by decide) (fun c2 => ?_) (fun c2 => absurd (show (64 : Int32) ≤ nI 64 from Int32.le_refl _) c2)
      exact hret _ _ _ () _ _ dX3_writeTo_31 hP hS (trivial) (by simp only [eσ1]; first | done | rfl)
    | succ d ih =>
      intro i hi  H locs ls hP hS hl
      have hi2 : i < 64 := by omega
      obtain ⟨σ3, eσ3⟩ : ∃ z, z = pMemo σ k i := ⟨_, rfl⟩
      have hP : va_P D vwCl (FW (5 * (n + 2)) ad (CC cs n ad σ3)) H := by rw [eσ3]; exact hP
      refine lv_iload_n hx hb dX3_writeTo_2 rfl (lv_at hl 2 rfl) ?_
      refine lv_bipush (v := 64) hx hb dX3_writeTo_3 (by decide) ?_
      refine lv_icmp_ge (tgt := 31) hx hb dX3_writeTo_5 (by decide) (fun c4 => absurd c4 (nI_ge hi2 (show 64 < 2 ^ 31 by decide))) (fun c4 => ?_)
      refine lv_aload_n hx hb dX3_writeTo_8 rfl (lv_at hl 0 rfl) ?_
      refine lv_iload_n hx hb dX3_writeTo_9 rfl (lv_at hl 2 rfl) ?_
      refine g_cvi (As := [.int (nI i)]) ⟨hx, hb, hml, hown, hts⟩ (kX3_hasStored l D cs n ad σ3 k hk i) (cwV 1 hts gX3_writeTo_X3_hasStored rfl rfl rfl (by decide +kernel) ⟨Nat.le_of_ble_eq_true rfl, Nat.le_of_ble_eq_true rfl⟩) hK hP hD hS hA (5 * (k + 2) + 2) (ci := 3) rfl rfl (cc_tx hk) hl.1 dX3_writeTo_10 rfl rfl (Nat.le_of_ble_eq_true rfl) ⟨Nat.zero_le _, Nat.zero_le _⟩ (fun r _ H locs hw hP hS => ?_)
      obtain rfl : r = bI (hasS σ3 k i) := hw
      have hP : va_P D vwCl (FW (5 * (n + 2)) ad (CC cs n ad σ3)) H := hP
      refine lv_if_eq (tgt := 25) hx hb dX3_writeTo_13 (by decide) (fun c5 => ?_) (fun c5 => ?_)
      · have hm : hasS σ3 k i = false := bI0 c5
        refine lv_iinc (v := nI (i + 1)) (lv' := [(2, .int (nI (i + 1))), (0, .ref (ad (5 * (k + 2) + 2))), (1, .ref (ad 2))]) hx hb dX3_writeTo_25 hl (k := 2) rfl (nI_1 i) (by decide) rfl (fun ls hl => ?_)
        refine lv_goto (tgt := 2) hx hb dX3_writeTo_28 (by decide) ?_
        exact ih (i + 1) (by omega)  _ _ _ (by simp only [eσ3] at hP hm; rw [memo_n (σ := σ) hm]; exact hP) hS (lv_sub hl [1, 2, 0] rfl)
      · have hm : hasS σ3 k i = true := bI1 c5
        refine lv_aload_n hx hb dX3_writeTo_16 rfl (lv_at hl 1 rfl) ?_
        refine lv_iload_n hx hb dX3_writeTo_17 rfl (lv_at hl 2 rfl) ?_
        refine lv_aload_n hx hb dX3_writeTo_18 rfl (lv_at hl 0 rfl) ?_
        refine va_get (D := D) (ci := 3) (v := .ref (ad (5 * (k + 2) + 4))) (C := RX3) (T := TX3) (N := 9) hx hb hts iwX3_writeTo_X3 hown hK hP (5 * (k + 2) + 2) (cc_tx hk) rfl 1 (by decide) (hts _ lkX3_writeTo_15) (fun _ h9 => h9) rfl dX3_writeTo_19 ?_
        refine lv_iload_n hx hb dX3_writeTo_22 rfl (lv_at hl 2 rfl) ?_
        refine g_iald (t0 := 0) (v := σ3.1 12 k i) hx hb hK hP (cc_stw hk) rfl i rfl hi2 (by decide) rfl dX3_writeTo_23 ?_
        refine g_iast (t0 := 0) hx hb hK hP hD hS cc_mem rfl i rfl hi2 (by decide) dX3_writeTo_24 (fun H locs hP hS => ?_)
        obtain ⟨σ6, eσ6⟩ : ∃ z, z = put σ3 0 0 i (σ3.1 12 k i) := ⟨_, rfl⟩
        have hP : va_P D vwCl (FW (5 * (n + 2)) ad (CC cs n ad σ6)) H := by rw [eσ6]; exact FW_P hP cu_mem
        refine lv_iinc (v := nI (i + 1)) (lv' := [(2, .int (nI (i + 1))), (0, .ref (ad (5 * (k + 2) + 2))), (1, .ref (ad 2))]) hx hb dX3_writeTo_25 hl (k := 2) rfl (nI_1 i) (by decide) rfl (fun ls hl => ?_)
        refine lv_goto (tgt := 2) hx hb dX3_writeTo_28 (by decide) ?_
        exact ih (i + 1) (by omega)  _ _ _ (by simp only [eσ6, eσ3] at hP hm; rw [← memo_y (σ := σ) hm]; exact hP) hS (lv_sub hl [1, 2, 0] rfl)
  exact loop (64) 0 (by omega)  _ _ _ (by rw [memo_0]; exact hP) hS (lv_sub hl [1, 2, 0] rfl)

theorem iwX0_reset_X0 : ∀ w ∈ wsX00, w ∈ wsX0_reset := fun w h => by unfold wsX0_reset; simp only [List.mem_cons, List.mem_append, h, true_or, or_true]
theorem lkX0_reset_9 : Cond.fieldLink RX0 9 "CoreTransactions$Core" "registers" "[I" ∈ wsX0_reset := by decide +kernel
theorem lkX0_reset_18 : Cond.fieldLink RX0 18 "CoreTransactions$Core" "transaction" "LCoreTransactions$Transaction;" ∈ wsX0_reset := by decide +kernel
theorem lkX0_reset_29 : Cond.fieldLink RX0 29 "CoreTransactions$Core" "place" "I" ∈ wsX0_reset := by decide +kernel
theorem lkX0_reset_32 : Cond.fieldLink RX0 32 "CoreTransactions$Core" "ended" "Z" ∈ wsX0_reset := by decide +kernel
theorem lkX0_reset_36 : Cond.fieldLink RX0 36 "CoreTransactions$Core" "retired" "I" ∈ wsX0_reset := by decide +kernel
theorem lkX0_reset_39 : Cond.fieldLink RX0 39 "CoreTransactions$Core" "committed" "I" ∈ wsX0_reset := by decide +kernel
theorem lkX0_reset_42 : Cond.fieldLink RX0 42 "CoreTransactions$Core" "brokenOff" "I" ∈ wsX0_reset := by decide +kernel
abbrev rmX0_reset : Room := ({ frames := 1, cells := 0, slots := 0, locals := 20 } : Room)
set_option maxRecDepth 100000 in
set_option maxHeartbeats 4000000 in
theorem kX0_reset (l : Launch) (D : va_G) (cs : Nat → ClassId) (n : Nat) (ad : Nat → Nat) (σ : St) (k : Nat) (hk : k < n) : gMv l yX0_reset wsX0_reset rmX0_reset D (tyL cs) (5 * (n + 2)) ad (CC cs n ad σ) [.ref (ad (5 * (k + 2) + 0))] (fun (u : Unit) => True) (fun (u : Unit) => CC cs n ad (pReset σ k)) := by
  refine g_ofv (cc := cX0_reset) (maxL := 2) (by decide) rfl (Nat.le_of_ble_eq_true rfl) rfl rfl ?_
  intro p e s m args below meth c A ls Q hx hb hml hts hown hK hP hD hA hS hl hret
  have hl : lv_has ls 2 [(0, .ref (ad (5 * (k + 2) + 0)))] := hl
  refine lv_iconst (v := 0) hx hb dX0_reset_0 (by decide) ?_
  refine lv_istore_n (lv' := [(1, .int 0), (0, .ref (ad (5 * (k + 2) + 0)))]) hx hb dX0_reset_1 rfl hl (by decide) rfl (fun ls hl => ?_)
  have loop : ∀ (d i : Nat), i + d = 8 →  ∀ (H : Heap) (locs : List Loc) (ls : Array Slot), va_P D vwCl (FW (5 * (n + 2)) ad (CC cs n ad (putA σ 10 k (fun j => if j < i then 0 else σ.1 10 k j)))) H → va_S A s.heap H locs → lv_has ls 2 [(0, .ref (ad (5 * (k + 2) + 0))), (1, .int (nI i))] → W p l e rmX0_reset s m args below meth c H locs 0 0 Q (F0 m 2 ls []) := by
    intro d
    induction d with
    | zero =>
      intro i hi  H locs ls hP hS hl
      obtain rfl : i = 8 := by omega
      obtain ⟨σ1, eσ1⟩ : ∃ z, z = putA σ 10 k (fun j => if j < 8 then 0 else σ.1 10 k j) := ⟨_, rfl⟩
      have hP : va_P D vwCl (FW (5 * (n + 2)) ad (CC cs n ad σ1)) H := by rw [eσ1]; exact hP
      refine lv_iload_n hx hb dX0_reset_2 rfl (lv_at hl 1 rfl) ?_
      refine lv_bipush (v := 8) hx hb dX0_reset_3 (by decide) ?_
      refine lv_icmp_ge (tgt := 21) hx hb dX0_reset_5 (by decide) (fun c2 => ?_) (fun c2 => absurd (show (8 : Int32) ≤ nI 8 from Int32.le_refl _) c2)
      refine lv_aload_n hx hb dX0_reset_21 rfl (lv_at hl 0 rfl) ?_
      refine va_get (D := D) (ci := 0) (v := .ref (ad (5 * (k + 2) + 2))) (C := RX0) (T := TX0) (N := 8) hx hb hts iwX0_reset_X0 hown hK hP (5 * (k + 2) + 0) (cc_core hk) rfl 2 (by decide) (hts _ lkX0_reset_18) (fun _ h9 => h9) rfl dX0_reset_22 ?_
      refine g_cvv (As := []) ⟨hx, hb, hml, hown, hts⟩ (kX3_close l D cs n ad σ1 k hk) (cwV 0 hts gX0_reset_X3_close rfl rfl rfl (by decide +kernel) ⟨Nat.le_of_ble_eq_true rfl, Nat.le_of_ble_eq_true rfl⟩) hK hP hD hS hA (5 * (k + 2) + 2) (ci := 3) rfl rfl (cc_tx hk) hl.1 dX0_reset_25 rfl rfl (Nat.le_of_ble_eq_true rfl) ⟨Nat.zero_le _, Nat.zero_le _⟩ (fun _ H locs hw hP hS => ?_)
      obtain ⟨σ3, eσ3⟩ : ∃ z, z = pClose σ1 k := ⟨_, rfl⟩
      have hP : va_P D vwCl (FW (5 * (n + 2)) ad (CC cs n ad σ3)) H := by rw [eσ3]; exact hP
      refine lv_aload_n hx hb dX0_reset_28 rfl (lv_at hl 0 rfl) ?_
      refine lv_iconst (v := 0) hx hb dX0_reset_29 (by decide) ?_
      refine va_put (D := D) (ci := 0) (v := .int 0) (ty := .int) (C := RX0) (T := TX0) (N := 8) hx hb hts iwX0_reset_X0 tyX0 tyX0_ok nmX0 hown hK hP (hD _) hS (5 * (k + 2) + 0) (cc_core hk) rfl 3 (by decide) (hts _ lkX0_reset_29) (fun _ h9 => h9) rfl (by decide +kernel) rfl rfl (Nat.le_of_ble_eq_true rfl) dX0_reset_30 (fun H locs hP _ hS => ?_)
      obtain ⟨σ4, eσ4⟩ : ∃ z, z = put σ3 13 k 0 0 := ⟨_, rfl⟩
      have hP : va_P D vwCl (FW (5 * (n + 2)) ad (CC cs n ad σ4)) H := by rw [eσ4]; exact FW_P hP cu_core_3
      refine lv_aload_n hx hb dX0_reset_33 rfl (lv_at hl 0 rfl) ?_
      refine lv_iconst (v := 0) hx hb dX0_reset_34 (by decide) ?_
      refine va_put (D := D) (ci := 0) (v := .int 0) (ty := .boolean) (C := RX0) (T := TX0) (N := 8) hx hb hts iwX0_reset_X0 tyX0 tyX0_ok nmX0 hown hK hP (hD _) hS (5 * (k + 2) + 0) (cc_core hk) rfl 4 (by decide) (hts _ lkX0_reset_32) (fun _ h9 => h9) rfl (by decide +kernel) rfl rfl (Nat.le_of_ble_eq_true rfl) dX0_reset_35 (fun H locs hP _ hS => ?_)
      obtain ⟨σ5, eσ5⟩ : ∃ z, z = put σ4 14 k 0 0 := ⟨_, rfl⟩
      have hP : va_P D vwCl (FW (5 * (n + 2)) ad (CC cs n ad σ5)) H := by rw [eσ5]; exact FW_P hP cu_core_4
      refine lv_aload_n hx hb dX0_reset_38 rfl (lv_at hl 0 rfl) ?_
      refine lv_iconst (v := 0) hx hb dX0_reset_39 (by decide) ?_
      refine va_put (D := D) (ci := 0) (v := .int 0) (ty := .int) (C := RX0) (T := TX0) (N := 8) hx hb hts iwX0_reset_X0 tyX0 tyX0_ok nmX0 hown hK hP (hD _) hS (5 * (k + 2) + 0) (cc_core hk) rfl 5 (by decide) (hts _ lkX0_reset_36) (fun _ h9 => h9) rfl (by decide +kernel) rfl rfl (Nat.le_of_ble_eq_true rfl) dX0_reset_40 (fun H locs hP _ hS => ?_)
      obtain ⟨σ6, eσ6⟩ : ∃ z, z = put σ5 15 k 0 0 := ⟨_, rfl⟩
      have hP : va_P D vwCl (FW (5 * (n + 2)) ad (CC cs n ad σ6)) H := by rw [eσ6]; exact FW_P hP cu_core_5
      refine lv_aload_n hx hb dX0_reset_43 rfl (lv_at hl 0 rfl) ?_
      refine lv_iconst (v := 0) hx hb dX0_reset_44 (by decide) ?_
      refine va_put (D := D) (ci := 0) (v := .int 0) (ty := .int) (C := RX0) (T := TX0) (N := 8) hx hb hts iwX0_reset_X0 tyX0 tyX0_ok nmX0 hown hK hP (hD _) hS (5 * (k + 2) + 0) (cc_core hk) rfl 6 (by decide) (hts _ lkX0_reset_39) (fun _ h9 => h9) rfl (by decide +kernel) rfl rfl (Nat.le_of_ble_eq_true rfl) dX0_reset_45 (fun H locs hP _ hS => ?_)
      obtain ⟨σ7, eσ7⟩ : ∃ z, z = put σ6 16 k 0 0 := ⟨_, rfl⟩
      have hP : va_P D vwCl (FW (5 * (n + 2)) ad (CC cs n ad σ7)) H := by rw [eσ7]; exact FW_P hP cu_core_6
      refine lv_aload_n hx hb dX0_reset_48 rfl (lv_at hl 0 rfl) ?_
      refine lv_iconst (v := 0) hx hb dX0_reset_49 (by decide) ?_
      refine va_put (D := D) (ci := 0) (v := .int 0) (ty := .int) (C := RX0) (T := TX0) (N := 8) hx hb hts iwX0_reset_X0 tyX0 tyX0_ok nmX0 hown hK hP (hD _) hS (5 * (k + 2) + 0) (cc_core hk) rfl 7 (by decide) (hts _ lkX0_reset_42) (fun _ h9 => h9) rfl (by decide +kernel) rfl rfl (Nat.le_of_ble_eq_true rfl) dX0_reset_50 (fun H locs hP _ hS => ?_)
      obtain ⟨σ8, eσ8⟩ : ∃ z, z = put σ7 17 k 0 0 := ⟨_, rfl⟩
      have hP : va_P D vwCl (FW (5 * (n + 2)) ad (CC cs n ad σ8)) H := by rw [eσ8]; exact FW_P hP cu_core_7
      exact hret _ _ _ () _ _ dX0_reset_53 hP hS (trivial) (by simp only [eσ8, eσ7, eσ6, eσ5, eσ4, eσ3, eσ1]; first | done | rfl)
    | succ d ih =>
      intro i hi  H locs ls hP hS hl
      have hi2 : i < 8 := by omega
      obtain ⟨σ9, eσ9⟩ : ∃ z, z = putA σ 10 k (fun j => if j < i then 0 else σ.1 10 k j) := ⟨_, rfl⟩
      have hP : va_P D vwCl (FW (5 * (n + 2)) ad (CC cs n ad σ9)) H := by rw [eσ9]; exact hP
      refine lv_iload_n hx hb dX0_reset_2 rfl (lv_at hl 1 rfl) ?_
      refine lv_bipush (v := 8) hx hb dX0_reset_3 (by decide) ?_
      refine lv_icmp_ge (tgt := 21) hx hb dX0_reset_5 (by decide) (fun c10 => absurd c10 (nI_ge hi2 (show 8 < 2 ^ 31 by decide))) (fun c10 => ?_)
      refine lv_aload_n hx hb dX0_reset_8 rfl (lv_at hl 0 rfl) ?_
      refine va_get (D := D) (ci := 0) (v := .ref (ad (5 * (k + 2) + 1))) (C := RX0) (T := TX0) (N := 8) hx hb hts iwX0_reset_X0 hown hK hP (5 * (k + 2) + 0) (cc_core hk) rfl 1 (by decide) (hts _ lkX0_reset_9) (fun _ h9 => h9) rfl dX0_reset_9 ?_
      refine lv_iload_n hx hb dX0_reset_12 rfl (lv_at hl 1 rfl) ?_
      refine lv_iconst (v := 0) hx hb dX0_reset_13 (by decide) ?_
      refine g_iast (t0 := 0) hx hb hK hP hD hS (cc_regs hk) rfl i rfl hi2 (by decide) dX0_reset_14 (fun H locs hP hS => ?_)
      obtain ⟨σ11, eσ11⟩ : ∃ z, z = put σ9 10 k i 0 := ⟨_, rfl⟩
      have hP : va_P D vwCl (FW (5 * (n + 2)) ad (CC cs n ad σ11)) H := by rw [eσ11]; exact FW_P hP cu_regs
      refine lv_iinc (v := nI (i + 1)) (lv' := [(1, .int (nI (i + 1))), (0, .ref (ad (5 * (k + 2) + 0)))]) hx hb dX0_reset_15 hl (k := 1) rfl (nI_1 i) (by decide) rfl (fun ls hl => ?_)
      refine lv_goto (tgt := 2) hx hb dX0_reset_18 (by decide) ?_
      exact ih (i + 1) (by omega)  _ _ _ (by simp only [eσ11, eσ9] at hP; rw [putA_step (g' := fun j => if j < i + 1 then 0 else σ.1 10 k j) (fun j => by by_cases h1 : j = i <;> by_cases h2 : j < i <;> simp [h1, h2] <;> omega)] at hP; exact hP) hS (lv_sub hl [1, 0] rfl)
  exact loop (8) 0 (by omega)  _ _ _ (by rw [putA_0 (fun j => by simp)]; exact hP) hS (lv_sub hl [1, 0] rfl)

abbrev rmX4_isRegister : Room := ({ frames := 0, cells := 0, slots := 0, locals := 0 } : Room)
set_option maxRecDepth 100000 in
set_option maxHeartbeats 4000000 in
theorem kX4_isRegister (l : Launch) (D : va_G) (cs : Nat → ClassId) (n : Nat) (ad : Nat → Nat) (σ : St) (x : Int32) : gMi l yX4_isRegister wsX4_isRegister rmX4_isRegister D (tyL cs) (5 * (n + 2)) ad (CC cs n ad σ) [.int x] (fun (r : Int32) (u : Unit) => r = bI (decide (0 ≤ x ∧ x < 8))) (fun (u : Unit) => CC cs n ad σ) := by
  refine g_ofz (cc := cX4_isRegister) (maxL := 1) (by decide) rfl (Nat.le_of_ble_eq_true rfl) rfl rfl ?_
  intro p e s m args below meth c A ls Q hx hb hml hts hown hK hP hD hA hS hl hret
  have hl : lv_has ls 1 [(0, .int x)] := hl
  refine lv_iload_n hx hb dX4_isRegister_0 rfl (lv_at hl 0 rfl) ?_
  refine lv_if_lt (tgt := 14) hx hb dX4_isRegister_1 (by decide) (fun c1 => ?_) (fun c1 => ?_)
  · refine lv_iconst (v := 0) hx hb dX4_isRegister_14 (by decide) ?_
    exact hret _ _ _ _ () _ _ dX4_isRegister_15 hP hS (Or.inl rfl) ((bI_n (fun h => absurd h.1 (Int32.not_le.mpr c1))).symm) (rfl)
  · refine lv_iload_n hx hb dX4_isRegister_4 rfl (lv_at hl 0 rfl) ?_
    refine lv_bipush (v := 8) hx hb dX4_isRegister_5 (by decide) ?_
    refine lv_icmp_ge (tgt := 14) hx hb dX4_isRegister_7 (by decide) (fun c2 => ?_) (fun c2 => ?_)
    · refine lv_iconst (v := 0) hx hb dX4_isRegister_14 (by decide) ?_
      exact hret _ _ _ _ () _ _ dX4_isRegister_15 hP hS (Or.inl rfl) ((bI_n (fun h => absurd h.2 (Int32.not_lt.mpr c2))).symm) (rfl)
    · refine lv_iconst (v := 1) hx hb dX4_isRegister_10 (by decide) ?_
      refine lv_goto (tgt := 15) hx hb dX4_isRegister_11 (by decide) ?_
      exact hret _ _ _ _ () _ _ dX4_isRegister_15 hP hS (Or.inr rfl) ((bI_d ⟨Int32.not_lt.mp c1, Int32.not_le.mp c2⟩).symm) (rfl)

abbrev rmX4_isWord : Room := ({ frames := 0, cells := 0, slots := 0, locals := 0 } : Room)
set_option maxRecDepth 100000 in
set_option maxHeartbeats 4000000 in
theorem kX4_isWord (l : Launch) (D : va_G) (cs : Nat → ClassId) (n : Nat) (ad : Nat → Nat) (σ : St) (x : Int32) : gMi l yX4_isWord wsX4_isWord rmX4_isWord D (tyL cs) (5 * (n + 2)) ad (CC cs n ad σ) [.int x] (fun (r : Int32) (u : Unit) => r = bI (decide (0 ≤ x ∧ x < 64))) (fun (u : Unit) => CC cs n ad σ) := by
  refine g_ofz (cc := cX4_isWord) (maxL := 1) (by decide) rfl (Nat.le_of_ble_eq_true rfl) rfl rfl ?_
  intro p e s m args below meth c A ls Q hx hb hml hts hown hK hP hD hA hS hl hret
  have hl : lv_has ls 1 [(0, .int x)] := hl
  refine lv_iload_n hx hb dX4_isWord_0 rfl (lv_at hl 0 rfl) ?_
  refine lv_if_lt (tgt := 14) hx hb dX4_isWord_1 (by decide) (fun c1 => ?_) (fun c1 => ?_)
  · refine lv_iconst (v := 0) hx hb dX4_isWord_14 (by decide) ?_
    exact hret _ _ _ _ () _ _ dX4_isWord_15 hP hS (Or.inl rfl) ((bI_n (fun h => absurd h.1 (Int32.not_le.mpr c1))).symm) (rfl)
  · refine lv_iload_n hx hb dX4_isWord_4 rfl (lv_at hl 0 rfl) ?_
    refine lv_bipush (v := 64) hx hb dX4_isWord_5 (by decide) ?_
    refine lv_icmp_ge (tgt := 14) hx hb dX4_isWord_7 (by decide) (fun c2 => ?_) (fun c2 => ?_)
    · refine lv_iconst (v := 0) hx hb dX4_isWord_14 (by decide) ?_
      exact hret _ _ _ _ () _ _ dX4_isWord_15 hP hS (Or.inl rfl) ((bI_n (fun h => absurd h.2 (Int32.not_lt.mpr c2))).symm) (rfl)
    · refine lv_iconst (v := 1) hx hb dX4_isWord_10 (by decide) ?_
      refine lv_goto (tgt := 15) hx hb dX4_isWord_11 (by decide) ?_
      exact hret _ _ _ _ () _ _ dX4_isWord_15 hP hS (Or.inr rfl) ((bI_d ⟨Int32.not_lt.mp c1, Int32.not_le.mp c2⟩).symm) (rfl)

abbrev rmX4_isManyPicks : Room := ({ frames := 0, cells := 0, slots := 0, locals := 0 } : Room)
set_option maxRecDepth 100000 in
set_option maxHeartbeats 4000000 in
theorem kX4_isManyPicks (l : Launch) (D : va_G) (cs : Nat → ClassId) (n : Nat) (ad : Nat → Nat) (σ : St) (x : Int32) : gMi l yX4_isManyPicks wsX4_isManyPicks rmX4_isManyPicks D (tyL cs) (5 * (n + 2)) ad (CC cs n ad σ) [.int x] (fun (r : Int32) (u : Unit) => r = bI (decide (0 ≤ x ∧ x ≤ 2000))) (fun (u : Unit) => CC cs n ad σ) := by
  refine g_ofz (cc := cX4_isManyPicks) (maxL := 1) (by decide) rfl (Nat.le_of_ble_eq_true rfl) rfl rfl ?_
  intro p e s m args below meth c A ls Q hx hb hml hts hown hK hP hD hA hS hl hret
  have hl : lv_has ls 1 [(0, .int x)] := hl
  refine lv_iload_n hx hb dX4_isManyPicks_0 rfl (lv_at hl 0 rfl) ?_
  refine lv_if_lt (tgt := 15) hx hb dX4_isManyPicks_1 (by decide) (fun c1 => ?_) (fun c1 => ?_)
  · refine lv_iconst (v := 0) hx hb dX4_isManyPicks_15 (by decide) ?_
    exact hret _ _ _ _ () _ _ dX4_isManyPicks_16 hP hS (Or.inl rfl) ((bI_n (fun h => absurd h.1 (Int32.not_le.mpr c1))).symm) (rfl)
  · refine lv_iload_n hx hb dX4_isManyPicks_4 rfl (lv_at hl 0 rfl) ?_
    refine lv_sipush (v := 2000) hx hb dX4_isManyPicks_5 (by decide) ?_
    refine lv_icmp_gt (tgt := 15) hx hb dX4_isManyPicks_8 (by decide) (fun c2 => ?_) (fun c2 => ?_)
    · refine lv_iconst (v := 0) hx hb dX4_isManyPicks_15 (by decide) ?_
      exact hret _ _ _ _ () _ _ dX4_isManyPicks_16 hP hS (Or.inl rfl) ((bI_n (fun h => absurd h.2 (Int32.not_le.mpr c2))).symm) (rfl)
    · refine lv_iconst (v := 1) hx hb dX4_isManyPicks_11 (by decide) ?_
      refine lv_goto (tgt := 16) hx hb dX4_isManyPicks_12 (by decide) ?_
      exact hret _ _ _ _ () _ _ dX4_isManyPicks_16 hP hS (Or.inr rfl) ((bI_d ⟨Int32.not_lt.mp c1, Int32.not_lt.mp c2⟩).symm) (rfl)

theorem iwX4_isCore_X4 : ∀ w ∈ wsX40, w ∈ wsX4_isCore := fun w h => by unfold wsX4_isCore; simp only [List.mem_cons, List.mem_append, h, true_or, or_true]
theorem lkX4_isCore_40 : Cond.fieldLink RX4 40 "CoreTransactions" "cores" "[LCoreTransactions$Core;" ∈ wsX4_isCore := by decide +kernel
abbrev rmX4_isCore : Room := ({ frames := 0, cells := 0, slots := 0, locals := 0 } : Room)
set_option maxRecDepth 100000 in
set_option maxHeartbeats 4000000 in
theorem kX4_isCore (l : Launch) (D : va_G) (cs : Nat → ClassId) (n : Nat) (ad : Nat → Nat) (σ : St) (x : Int32) : gMi l yX4_isCore wsX4_isCore rmX4_isCore D (tyL cs) (5 * (n + 2)) ad (CC cs n ad σ) [.ref (ad 0), .int x] (fun (r : Int32) (u : Unit) => r = bI (decide (0 ≤ x ∧ x < nI n))) (fun (u : Unit) => CC cs n ad σ) := by
  refine g_ofz (cc := cX4_isCore) (maxL := 2) (by decide) rfl (Nat.le_of_ble_eq_true rfl) rfl rfl ?_
  intro p e s m args below meth c A ls Q hx hb hml hts hown hK hP hD hA hS hl hret
  have hl : lv_has ls 2 [(0, .ref (ad 0)), (1, .int x)] := hl
  refine lv_iload_n hx hb dX4_isCore_0 rfl (lv_at hl 1 rfl) ?_
  refine lv_if_lt (tgt := 17) hx hb dX4_isCore_1 (by decide) (fun c1 => ?_) (fun c1 => ?_)
  · refine lv_iconst (v := 0) hx hb dX4_isCore_17 (by decide) ?_
    exact hret _ _ _ _ () _ _ dX4_isCore_18 hP hS (Or.inl rfl) ((bI_n (fun h => absurd h.1 (Int32.not_le.mpr c1))).symm) (rfl)
  · refine lv_iload_n hx hb dX4_isCore_4 rfl (lv_at hl 1 rfl) ?_
    refine lv_aload_n hx hb dX4_isCore_5 rfl (lv_at hl 0 rfl) ?_
    refine va_get (D := D) (ci := 4) (v := .ref (ad 1)) (C := RX4) (T := TX4) (N := 7) hx hb hts iwX4_isCore_X4 hown hK hP 0 cc_obj rfl 2 (by decide) (hts _ lkX4_isCore_40) (fun _ h9 => h9) rfl dX4_isCore_6 ?_
    refine va_alen hx hb hK hP 1 1 cc_cor rfl (v := nI n) rfl dX4_isCore_9 ?_
    refine lv_icmp_ge (tgt := 17) hx hb dX4_isCore_10 (by decide) (fun c2 => ?_) (fun c2 => ?_)
    · refine lv_iconst (v := 0) hx hb dX4_isCore_17 (by decide) ?_
      exact hret _ _ _ _ () _ _ dX4_isCore_18 hP hS (Or.inl rfl) ((bI_n (fun h => absurd h.2 (Int32.not_lt.mpr c2))).symm) (rfl)
    · refine lv_iconst (v := 1) hx hb dX4_isCore_13 (by decide) ?_
      refine lv_goto (tgt := 18) hx hb dX4_isCore_14 (by decide) ?_
      exact hret _ _ _ _ () _ _ dX4_isCore_18 hP hS (Or.inr rfl) ((bI_d ⟨Int32.not_lt.mp c1, Int32.not_le.mp c2⟩).symm) (rfl)
