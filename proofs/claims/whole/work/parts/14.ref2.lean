/-! the reference: conflicts, accesses, an instruction, a step -/
theorem kX5_brk (l : Launch) (D : va_G) (cs : Nat → ClassId) (n : Nat) (ad : Nat → Nat) (th nx : Int32) (σ : St) (k : Nat) (hk4 : k < 4) (code : Int32) (G : Nat) (hI : Inv σ G) : gMv l yX5_breakOff wsX5_breakOff rmX5_breakOff D (tyL cs) 22 ad (CR cs n ad th nx σ) [.ref (ad 0), .int (nI k), .int code] (fun (u : Unit) => True) (fun (u : Unit) => CR cs n ad th nx (pBreak σ k code)) := by
  obtain ⟨-, -, -, ⟨o, q, ho2, hq2, ho, hq, -⟩, -, b6⟩ := hI
  exact kX5_breakOff l D cs n ad th nx σ k hk4 code o q ho hq ho2 hq2 (b6 k hk4).1 (b6 k hk4).2.1
theorem dep_pos {σ : St} {G k : Nat} (h : okK σ G k) (h0 : ¬ σ.1 18 k 0 = 0) : 0 < σ.1 18 k 0 := by
  obtain ⟨-, -, -, ⟨d, hd, e⟩, -⟩ := h
  rw [e] at h0 ⊢
  exact (nI_ltI (a := 0) (by decide) (by omega)).mpr (by have := nI_jn h0; omega)
theorem dep_8 {σ : St} {G k : Nat} (h : okK σ G k) (h0 : ¬ σ.1 18 k 0 = 8) : ¬ 8 ≤ σ.1 18 k 0 := by
  obtain ⟨-, -, -, ⟨d, hd, e⟩, -⟩ := h
  rw [e] at h0 ⊢
  intro q
  have h1 := (nI_leI (a := 8) (by decide) (by omega)).mp q
  exact h0 (by rw [show d = 8 by omega]; rfl)
theorem cnt_1 {σ : St} {k s t l q : Nat} (hs : s = 1 ∨ s = 2 ∨ s = 4) (hl : l < 16) (ht : l % s = t) (hq : q = cntL σ k s t (min l 16)) (hb : (((σ.1 22 k 0 ||| σ.1 23 k 0) >>> (nI l &&& 31)) &&& 1) = 1) : q + 1 = cntL σ k s t (min (l + s) 16) := by
  rw [cnt_min hs hl ht, hq, show min l 16 = l by omega]
  show _ = cntL σ k s t l + (if l % s = t ∧ lnb σ k l = true then 1 else 0)
  rw [if_pos ⟨ht, by unfold lnb; rw [decide_eq_true_eq]; exact hb⟩]
theorem cnt_2 {σ : St} {k s t l q : Nat} (hs : s = 1 ∨ s = 2 ∨ s = 4) (hl : l < 16) (ht : l % s = t) (hq : q = cntL σ k s t (min l 16)) (hb : ¬ (((σ.1 22 k 0 ||| σ.1 23 k 0) >>> (nI l &&& 31)) &&& 1) = 1) : q = cntL σ k s t (min (l + s) 16) := by
  rw [cnt_min hs hl ht, hq, show min l 16 = l by omega]
  show _ = cntL σ k s t l + (if l % s = t ∧ lnb σ k l = true then 1 else 0)
  rw [if_neg (fun h => hb (by have := h.2; unfold lnb at this; rw [decide_eq_true_eq] at this; exact this))]
  rfl

theorem iwX5_meets_X5 : ∀ w ∈ wsX50, w ∈ wsX5_meets := fun w h => by unfold wsX5_meets; simp only [List.mem_cons, List.mem_append, h, true_or, or_true]
theorem lkX5_meets_38 : Cond.fieldLink RX5 38 "CoreTransactionsModel" "depths" "[I" ∈ wsX5_meets := by decide +kernel
theorem lkX5_meets_53 : Cond.fieldLink RX5 53 "CoreTransactionsModel" "reads" "[I" ∈ wsX5_meets := by decide +kernel
theorem lkX5_meets_56 : Cond.fieldLink RX5 56 "CoreTransactionsModel" "writes" "[I" ∈ wsX5_meets := by decide +kernel
abbrev rmX5_meets : Room := ({ frames := 0, cells := 0, slots := 0, locals := 0 } : Room)
set_option maxRecDepth 100000 in
set_option maxHeartbeats 4000000 in
theorem kX5_meets (l : Launch) (D : va_G) (cs : Nat → ClassId) (n : Nat) (ad : Nat → Nat) (th nx : Int32) (σ : St) (o ln : Nat) (ho4 : o < 4) (w : Bool) (G : Nat) (hKo : okK σ G o) : gMi l yX5_meets wsX5_meets rmX5_meets D (tyL cs) 22 ad (CR cs n ad th nx σ) [.ref (ad 0), .int (nI o), .int (nI ln), .int (bI w)] (fun (r : Int32) (u : Unit) => r = bI (tch σ o ln w)) (fun (u : Unit) => CR cs n ad th nx σ) := by
  refine g_ofz (cc := cX5_meets) (maxL := 5) (by decide) rfl (Nat.le_of_ble_eq_true rfl) rfl rfl ?_
  intro p e s m args below meth c A ls Q hx hb hml hts hown hK hP hD hA hS hl hret
  have hl : lv_has ls 5 [(0, .ref (ad 0)), (1, .int (nI o)), (2, .int (nI ln)), (3, .int (bI w))] := hl
  refine lv_iload_n hx hb dX5_meets_0 rfl (lv_at hl 3 rfl) ?_
  refine lv_if_eq (tgt := 20) hx hb dX5_meets_1 (by decide) (fun c1 => ?_) (fun c1 => ?_)
  · have hw0 : w = false := bI0 c1
    refine lv_aload_n hx hb dX5_meets_20 rfl (lv_at hl 0 rfl) ?_
    refine va_get (D := D) (ci := 5) (v := .ref (ad 16)) (C := RX5) (T := TX5) (N := 29) hx hb hts iwX5_meets_X5 hown hK hP 0 cr_obj rfl 20 (by decide) (hts _ lkX5_meets_56) (fun _ h9 => h9) rfl dX5_meets_21 ?_
    refine lv_iload_n hx hb dX5_meets_24 rfl (lv_at hl 1 rfl) ?_
    refine g_iald (t0 := 0) (v := σ.1 23 o 0) hx hb hK hP cr_writes rfl o rfl ho4 (by decide) rfl dX5_meets_25 ?_
    refine lv_istore (lv' := [(4, .int (σ.1 23 o 0)), (0, .ref (ad 0)), (1, .int (nI o)), (2, .int (nI ln)), (3, .int (bI w))]) hx hb dX5_meets_26 hl (by decide) rfl (fun ls hl => ?_)
    refine lv_aload_n hx hb dX5_meets_28 rfl (lv_at hl 1 rfl) ?_
    refine va_get (D := D) (ci := 5) (v := .ref (ad 10)) (C := RX5) (T := TX5) (N := 29) hx hb hts iwX5_meets_X5 hown hK hP 0 cr_obj rfl 14 (by decide) (hts _ lkX5_meets_38) (fun _ h9 => h9) rfl dX5_meets_29 ?_
    refine lv_iload_n hx hb dX5_meets_32 rfl (lv_at hl 2 rfl) ?_
    refine g_iald (t0 := 0) (v := σ.1 18 o 0) hx hb hK hP cr_depths rfl o rfl ho4 (by decide) rfl dX5_meets_33 ?_
    refine lv_if_le (tgt := 51) hx hb dX5_meets_34 (by decide) (fun c2 => ?_) (fun c2 => ?_)
    · refine lv_iconst (v := 0) hx hb dX5_meets_51 (by decide) ?_
      exact hret _ _ _ _ () _ _ dX5_meets_52 hP hS (Or.inl rfl) (by rw [tch_0 hKo c2]; rfl) (rfl)
    · refine lv_iload hx hb dX5_meets_37 (lv_at hl 0 rfl) ?_
      refine lv_iload_n hx hb dX5_meets_39 rfl (lv_at hl 3 rfl) ?_
      refine lv_ishr hx hb dX5_meets_40 ?_
      refine lv_iconst (v := 1) hx hb dX5_meets_41 (by decide) ?_
      refine lv_iand hx hb dX5_meets_42 ?_
      refine lv_iconst (v := 1) hx hb dX5_meets_43 (by decide) ?_
      refine lv_icmp_ne (tgt := 51) hx hb dX5_meets_44 (by decide) (fun c3 => ?_) (fun c3 => ?_)
      · refine lv_iconst (v := 0) hx hb dX5_meets_51 (by decide) ?_
        exact hret _ _ _ _ () _ _ dX5_meets_52 hP hS (Or.inl rfl) (by rw [hw0]; exact (bI_n (by simpa using c3)).symm) (rfl)
      · refine lv_iconst (v := 1) hx hb dX5_meets_47 (by decide) ?_
        refine lv_goto (tgt := 52) hx hb dX5_meets_48 (by decide) ?_
        exact hret _ _ _ _ () _ _ dX5_meets_52 hP hS (Or.inr rfl) (by rw [hw0]; exact (bI_d (by simpa using c3)).symm) (rfl)
  · have hw0 : w = true := bI1 c1
    refine lv_aload_n hx hb dX5_meets_4 rfl (lv_at hl 0 rfl) ?_
    refine va_get (D := D) (ci := 5) (v := .ref (ad 15)) (C := RX5) (T := TX5) (N := 29) hx hb hts iwX5_meets_X5 hown hK hP 0 cr_obj rfl 19 (by decide) (hts _ lkX5_meets_53) (fun _ h9 => h9) rfl dX5_meets_5 ?_
    refine lv_iload_n hx hb dX5_meets_8 rfl (lv_at hl 1 rfl) ?_
    refine g_iald (t0 := 0) (v := σ.1 22 o 0) hx hb hK hP cr_reads rfl o rfl ho4 (by decide) rfl dX5_meets_9 ?_
    refine lv_aload_n hx hb dX5_meets_10 rfl (lv_at hl 0 rfl) ?_
    refine va_get (D := D) (ci := 5) (v := .ref (ad 16)) (C := RX5) (T := TX5) (N := 29) hx hb hts iwX5_meets_X5 hown hK hP 0 cr_obj rfl 20 (by decide) (hts _ lkX5_meets_56) (fun _ h9 => h9) rfl dX5_meets_11 ?_
    refine lv_iload_n hx hb dX5_meets_14 rfl (lv_at hl 1 rfl) ?_
    refine g_iald (t0 := 0) (v := σ.1 23 o 0) hx hb hK hP cr_writes rfl o rfl ho4 (by decide) rfl dX5_meets_15 ?_
    refine lv_ior hx hb dX5_meets_16 ?_
    refine lv_goto (tgt := 26) hx hb dX5_meets_17 (by decide) ?_
    refine lv_istore (lv' := [(4, .int ((σ.1 22 o 0) ||| (σ.1 23 o 0))), (0, .ref (ad 0)), (1, .int (nI o)), (2, .int (nI ln)), (3, .int (bI w))]) hx hb dX5_meets_26 hl (by decide) rfl (fun ls hl => ?_)
    refine lv_aload_n hx hb dX5_meets_28 rfl (lv_at hl 1 rfl) ?_
    refine va_get (D := D) (ci := 5) (v := .ref (ad 10)) (C := RX5) (T := TX5) (N := 29) hx hb hts iwX5_meets_X5 hown hK hP 0 cr_obj rfl 14 (by decide) (hts _ lkX5_meets_38) (fun _ h9 => h9) rfl dX5_meets_29 ?_
    refine lv_iload_n hx hb dX5_meets_32 rfl (lv_at hl 2 rfl) ?_
    refine g_iald (t0 := 0) (v := σ.1 18 o 0) hx hb hK hP cr_depths rfl o rfl ho4 (by decide) rfl dX5_meets_33 ?_
    refine lv_if_le (tgt := 51) hx hb dX5_meets_34 (by decide) (fun c4 => ?_) (fun c4 => ?_)
    · refine lv_iconst (v := 0) hx hb dX5_meets_51 (by decide) ?_
      exact hret _ _ _ _ () _ _ dX5_meets_52 hP hS (Or.inl rfl) (by rw [tch_0 hKo c4]; rfl) (rfl)
    · refine lv_iload hx hb dX5_meets_37 (lv_at hl 0 rfl) ?_
      refine lv_iload_n hx hb dX5_meets_39 rfl (lv_at hl 3 rfl) ?_
      refine lv_ishr hx hb dX5_meets_40 ?_
      refine lv_iconst (v := 1) hx hb dX5_meets_41 (by decide) ?_
      refine lv_iand hx hb dX5_meets_42 ?_
      refine lv_iconst (v := 1) hx hb dX5_meets_43 (by decide) ?_
      refine lv_icmp_ne (tgt := 51) hx hb dX5_meets_44 (by decide) (fun c5 => ?_) (fun c5 => ?_)
      · refine lv_iconst (v := 0) hx hb dX5_meets_51 (by decide) ?_
        exact hret _ _ _ _ () _ _ dX5_meets_52 hP hS (Or.inl rfl) (by rw [hw0]; exact (bI_n (by simpa using c5)).symm) (rfl)
      · refine lv_iconst (v := 1) hx hb dX5_meets_47 (by decide) ?_
        refine lv_goto (tgt := 52) hx hb dX5_meets_48 (by decide) ?_
        exact hret _ _ _ _ () _ _ dX5_meets_52 hP hS (Or.inr rfl) (by rw [hw0]; exact (bI_d (by simpa using c5)).symm) (rfl)

theorem iwX5_breakOthers_X5 : ∀ w ∈ wsX50, w ∈ wsX5_breakOthers := fun w h => by unfold wsX5_breakOthers; simp only [List.mem_cons, List.mem_append, h, true_or, or_true]
theorem lkX5_breakOthers_79 : Cond.fieldLink RX5 79 "CoreTransactionsModel" "cores" "I" ∈ wsX5_breakOthers := by decide +kernel
abbrev rmX5_breakOthers : Room := ({ frames := 2, cells := 0, slots := 0, locals := 44 } : Room)
set_option maxRecDepth 100000 in
set_option maxHeartbeats 4000000 in
theorem kX5_breakOthers (l : Launch) (D : va_G) (cs : Nat → ClassId) (n : Nat) (ad : Nat → Nat) (th nx : Int32) (σ : St) (hn4 : n ≤ 4) (acc : Int32) (ln : Nat) (w : Bool) (G : Nat) (hI : Inv σ G) : gMv l yX5_breakOthers wsX5_breakOthers rmX5_breakOthers D (tyL cs) 22 ad (CR cs n ad th nx σ) [.ref (ad 0), .int acc, .int (nI ln), .int (bI w)] (fun (u : Unit) => True) (fun (u : Unit) => CR cs n ad th nx (pBA acc ln w n σ)) := by
  refine g_ofv (cc := cX5_breakOthers) (maxL := 5) (by decide) rfl (Nat.le_of_ble_eq_true rfl) rfl rfl ?_
  intro p e s m args below meth c A ls Q hx hb hml hts hown hK hP hD hA hS hl hret
  have hl : lv_has ls 5 [(0, .ref (ad 0)), (1, .int acc), (2, .int (nI ln)), (3, .int (bI w))] := hl
  refine lv_iconst (v := 0) hx hb dX5_breakOthers_0 (by decide) ?_
  refine lv_istore (lv' := [(4, .int 0), (0, .ref (ad 0)), (1, .int acc), (2, .int (nI ln)), (3, .int (bI w))]) hx hb dX5_breakOthers_1 hl (by decide) rfl (fun ls hl => ?_)
  have loop : ∀ (d i : Nat), i + d = n →  ∀ (H : Heap) (locs : List Loc) (ls : Array Slot), va_P D vwCl (FW 22 ad (CR cs n ad th nx (pBA acc ln w i σ))) H → va_S A s.heap H locs → lv_has ls 5 [(0, .ref (ad 0)), (1, .int acc), (2, .int (nI ln)), (3, .int (bI w)), (4, .int (nI i))] → W p l e rmX5_breakOthers s m args below meth c H locs 0 0 Q (F0 m 3 ls []) := by
    intro d
    induction d with
    | zero =>
      intro i hi  H locs ls hP hS hl
      have hE : i = n := by omega
      try rw [hE] at hP
      try rw [hE] at hl
      obtain ⟨σ1, eσ1⟩ : ∃ z, z = pBA acc ln w n σ := ⟨_, rfl⟩
      have hP : va_P D vwCl (FW 22 ad (CR cs n ad th nx σ1)) H := by rw [eσ1]; exact hP
      refine lv_iload hx hb dX5_breakOthers_3 (lv_at hl 4 rfl) ?_
      refine lv_aload_n hx hb dX5_breakOthers_5 rfl (lv_at hl 0 rfl) ?_
      refine va_get (D := D) (ci := 5) (v := .int (nI n)) (C := RX5) (T := TX5) (N := 29) hx hb hts iwX5_breakOthers_X5 hown hK hP 0 cr_obj rfl 1 (by decide) (hts _ lkX5_breakOthers_79) (fun _ h9 => h9) rfl dX5_breakOthers_6 ?_
      refine lv_icmp_ge (tgt := 42) hx hb dX5_breakOthers_9 (by decide) (fun c2 => ?_) (fun c2 => absurd (Int32.le_refl _) c2)
      exact hret _ _ _ () _ _ dX5_breakOthers_42 hP hS (trivial) (by simp only [eσ1]; first | done | rfl)
    | succ d ih =>
      intro i hi  H locs ls hP hS hl
      have hi2 : i < n := by omega
      obtain ⟨σ3, eσ3⟩ : ∃ z, z = pBA acc ln w i σ := ⟨_, rfl⟩
      have hP : va_P D vwCl (FW 22 ad (CR cs n ad th nx σ3)) H := by rw [eσ3]; exact hP
      refine lv_iload hx hb dX5_breakOthers_3 (lv_at hl 4 rfl) ?_
      refine lv_aload_n hx hb dX5_breakOthers_5 rfl (lv_at hl 0 rfl) ?_
      refine va_get (D := D) (ci := 5) (v := .int (nI n)) (C := RX5) (T := TX5) (N := 29) hx hb hts iwX5_breakOthers_X5 hown hK hP 0 cr_obj rfl 1 (by decide) (hts _ lkX5_breakOthers_79) (fun _ h9 => h9) rfl dX5_breakOthers_6 ?_
      refine lv_icmp_ge (tgt := 42) hx hb dX5_breakOthers_9 (by decide) (fun c4 => absurd c4 (nI_ge hi2 (by omega))) (fun c4 => ?_)
      refine lv_iload hx hb dX5_breakOthers_12 (lv_at hl 4 rfl) ?_
      refine lv_iload_n hx hb dX5_breakOthers_14 rfl (lv_at hl 1 rfl) ?_
      refine lv_icmp_eq (tgt := 36) hx hb dX5_breakOthers_15 (by decide) (fun c5 => ?_) (fun c5 => ?_)
      · have hst : pBA acc ln w (i + 1) σ = pBA acc ln w i σ := BA_n (fun h => h.1 c5)
        refine lv_iinc (v := nI (i + 1)) (lv' := [(4, .int (nI (i + 1))), (0, .ref (ad 0)), (1, .int acc), (2, .int (nI ln)), (3, .int (bI w))]) hx hb dX5_breakOthers_36 hl (k := 4) rfl (nI_1 i) (by decide) rfl (fun ls hl => ?_)
        refine lv_goto (tgt := 3) hx hb dX5_breakOthers_39 (by decide) ?_
        exact ih (i + 1) (by omega)  _ _ _ (by simp only [eσ3] at hP; rw [hst]; exact hP) hS (lv_sub hl [1, 2, 3, 4, 0] rfl)
      · refine lv_aload_n hx hb dX5_breakOthers_18 rfl (lv_at hl 0 rfl) ?_
        refine lv_iload hx hb dX5_breakOthers_19 (lv_at hl 4 rfl) ?_
        refine lv_iload_n hx hb dX5_breakOthers_21 rfl (lv_at hl 2 rfl) ?_
        refine lv_iload_n hx hb dX5_breakOthers_22 rfl (lv_at hl 3 rfl) ?_
        refine g_cvi (As := [.int (nI i), .int (nI ln), .int (bI w)]) ⟨hx, hb, hml, hown, hts⟩ (kX5_meets l D cs n ad th nx σ3 i ln (by omega) w G (by simp only [eσ3]; exact (Inv_BA hI i (by omega)).2.2.2.2.2 i (by omega))) (cwV 3 hts gX5_breakOthers_X5_meets rfl rfl rfl (by decide +kernel) ⟨Nat.le_of_ble_eq_true rfl, Nat.le_of_ble_eq_true rfl⟩) hK hP hD hS hA 0 (ci := 5) rfl rfl cr_obj hl.1 dX5_breakOthers_23 rfl rfl (Nat.le_of_ble_eq_true rfl) ⟨Nat.zero_le _, Nat.zero_le _⟩ (fun r _ H locs hw hP hS => ?_)
        obtain rfl : r = bI (tch σ3 i ln w) := hw
        have hP : va_P D vwCl (FW 22 ad (CR cs n ad th nx σ3)) H := hP
        refine lv_if_eq (tgt := 36) hx hb dX5_breakOthers_26 (by decide) (fun c6 => ?_) (fun c6 => ?_)
        · have hst : pBA acc ln w (i + 1) σ = pBA acc ln w i σ := BA_n (fun h => by have h2 := bI0 c6; simp only [eσ3] at h2; rw [h2] at h; exact absurd h.2 (by decide))
          refine lv_iinc (v := nI (i + 1)) (lv' := [(4, .int (nI (i + 1))), (0, .ref (ad 0)), (1, .int acc), (2, .int (nI ln)), (3, .int (bI w))]) hx hb dX5_breakOthers_36 hl (k := 4) rfl (nI_1 i) (by decide) rfl (fun ls hl => ?_)
          refine lv_goto (tgt := 3) hx hb dX5_breakOthers_39 (by decide) ?_
          exact ih (i + 1) (by omega)  _ _ _ (by simp only [eσ3] at hP; rw [hst]; exact hP) hS (lv_sub hl [1, 2, 3, 4, 0] rfl)
        · have hst : pBA acc ln w (i + 1) σ = pBreak (pBA acc ln w i σ) i 4 := BA_y ⟨c5, by have h2 := bI1 c6; simp only [eσ3] at h2; exact h2⟩
          refine lv_aload_n hx hb dX5_breakOthers_29 rfl (lv_at hl 0 rfl) ?_
          refine lv_iload hx hb dX5_breakOthers_30 (lv_at hl 4 rfl) ?_
          refine lv_iconst (v := 4) hx hb dX5_breakOthers_32 (by decide) ?_
          refine g_cvv (As := [.int (nI i), .int 4]) ⟨hx, hb, hml, hown, hts⟩ (kX5_brk l D cs n ad th nx σ3 i (by omega) 4 G (by simp only [eσ3]; exact Inv_BA hI i (by omega))) (cwV 2 hts gX5_breakOthers_X5_breakOff rfl rfl rfl (by decide +kernel) ⟨Nat.le_of_ble_eq_true rfl, Nat.le_of_ble_eq_true rfl⟩) hK hP hD hS hA 0 (ci := 5) rfl rfl cr_obj hl.1 dX5_breakOthers_33 rfl rfl (Nat.le_of_ble_eq_true rfl) ⟨Nat.zero_le _, Nat.zero_le _⟩ (fun _ H locs hw hP hS => ?_)
          obtain ⟨σ7, eσ7⟩ : ∃ z, z = pBreak σ3 i 4 := ⟨_, rfl⟩
          have hP : va_P D vwCl (FW 22 ad (CR cs n ad th nx σ7)) H := by rw [eσ7]; exact hP
          refine lv_iinc (v := nI (i + 1)) (lv' := [(4, .int (nI (i + 1))), (0, .ref (ad 0)), (1, .int acc), (2, .int (nI ln)), (3, .int (bI w))]) hx hb dX5_breakOthers_36 hl (k := 4) rfl (nI_1 i) (by decide) rfl (fun ls hl => ?_)
          refine lv_goto (tgt := 3) hx hb dX5_breakOthers_39 (by decide) ?_
          exact ih (i + 1) (by omega)  _ _ _ (by simp only [eσ7, eσ3] at hP; rw [hst]; exact hP) hS (lv_sub hl [1, 2, 3, 4, 0] rfl)
  exact loop (n) 0 (by omega)  _ _ _ (hP) hS (lv_sub hl [1, 2, 3, 4, 0] rfl)

theorem cnt_00 {σ : St} {k s : Nat} (t : Nat) (h : t < s) : cntL σ k s t t = 0 := by
  have key : ∀ m, m ≤ t → cntL σ k s t m = 0 := by
    intro m
    induction m with
    | zero => intro _; rfl
    | succ m ih =>
      intro hm
      rw [cnt_n (by rw [Nat.mod_eq_of_lt (by omega)]; omega), ih (by omega)]
  exact key t (Nat.le_refl t)
theorem iwX5_linesInSet_X5 : ∀ w ∈ wsX50, w ∈ wsX5_linesInSet := fun w h => by unfold wsX5_linesInSet; simp only [List.mem_cons, List.mem_append, h, true_or, or_true]
theorem lkX5_linesInSet_53 : Cond.fieldLink RX5 53 "CoreTransactionsModel" "reads" "[I" ∈ wsX5_linesInSet := by decide +kernel
theorem lkX5_linesInSet_56 : Cond.fieldLink RX5 56 "CoreTransactionsModel" "writes" "[I" ∈ wsX5_linesInSet := by decide +kernel
theorem lkX5_linesInSet_83 : Cond.fieldLink RX5 83 "CoreTransactionsModel" "sets" "I" ∈ wsX5_linesInSet := by decide +kernel
abbrev rmX5_linesInSet : Room := ({ frames := 0, cells := 0, slots := 0, locals := 0 } : Room)
set_option maxRecDepth 100000 in
set_option maxHeartbeats 4000000 in
theorem kX5_linesInSet (l : Launch) (D : va_G) (cs : Nat → ClassId) (n : Nat) (ad : Nat → Nat) (th nx : Int32) (σ : St) (k : Nat) (hk4 : k < 4) (ln q2 : Nat) (hln : ln < 16) (hqs : q2 = 1 ∨ q2 = 2 ∨ q2 = 4) (hq2e : σ.1 27 0 0 = nI q2) : gMi l yX5_linesInSet wsX5_linesInSet rmX5_linesInSet D (tyL cs) 22 ad (CR cs n ad th nx σ) [.ref (ad 0), .int (nI k), .int (nI ln)] (fun (r : Int32) (u : Unit) => r = nI (cntL σ k q2 (ln % q2) 16)) (fun (u : Unit) => CR cs n ad th nx σ) := by
  refine g_ofi (cc := cX5_linesInSet) (maxL := 5) (by decide) rfl (Nat.le_of_ble_eq_true rfl) rfl rfl ?_
  intro p e s m args below meth c A ls Q hx hb hml hts hown hK hP hD hA hS hl hret
  have hl : lv_has ls 5 [(0, .ref (ad 0)), (1, .int (nI k)), (2, .int (nI ln))] := hl
  refine lv_iconst (v := 0) hx hb dX5_linesInSet_0 (by decide) ?_
  refine lv_istore_n (lv' := [(3, .int 0), (0, .ref (ad 0)), (1, .int (nI k)), (2, .int (nI ln))]) hx hb dX5_linesInSet_1 rfl hl (by decide) rfl (fun ls hl => ?_)
  refine lv_iload_n hx hb dX5_linesInSet_2 rfl (lv_at hl 3 rfl) ?_
  refine lv_aload_n hx hb dX5_linesInSet_3 rfl (lv_at hl 1 rfl) ?_
  refine va_get (D := D) (ci := 5) (v := .int (σ.1 27 0 0)) (C := RX5) (T := TX5) (N := 29) hx hb hts iwX5_linesInSet_X5 hown hK hP 0 cr_obj rfl 2 (by decide) (hts _ lkX5_linesInSet_83) (fun _ h9 => h9) rfl dX5_linesInSet_4 ?_
  refine g_top (y := nI q2) (hq2e) ?_
  refine lv_irem hx hb dX5_linesInSet_7 (nI_ne0 (by omega) (by omega)) ?_
  refine g_top (y := nI (ln % q2)) (pk_rem (by omega) (by omega) (by omega)) ?_
  refine lv_istore (lv' := [(4, .int (nI (ln % q2))), (3, .int 0), (0, .ref (ad 0)), (1, .int (nI k)), (2, .int (nI ln))]) hx hb dX5_linesInSet_8 hl (by decide) rfl (fun ls hl => ?_)
  have loop : ∀ (d i : Nat), 16 - i ≤ d → i % q2 = ln % q2 → i < 20 → ∀ (q : Nat), q = cntL σ k q2 (ln % q2) (min i 16) → ∀ (H : Heap) (locs : List Loc) (ls : Array Slot), va_P D vwCl (FW 22 ad (CR cs n ad th nx σ)) H → va_S A s.heap H locs → lv_has ls 5 [(0, .ref (ad 0)), (1, .int (nI k)), (2, .int (nI ln)), (3, .int (nI q)), (4, .int (nI i))] → W p l e rmX5_linesInSet s m args below meth c H locs 0 0 Q (F0 m 10 ls []) := by
    intro d
    induction d with
    | zero =>
      intro i hi him hi20 q hq H locs ls hP hS hl
      obtain ⟨σ1, eσ1⟩ : ∃ z, z = σ := ⟨_, rfl⟩
      have hP : va_P D vwCl (FW 22 ad (CR cs n ad th nx σ1)) H := by rw [eσ1]; exact hP
      refine lv_iload hx hb dX5_linesInSet_10 (lv_at hl 4 rfl) ?_
      refine lv_bipush (v := 16) hx hb dX5_linesInSet_12 (by decide) ?_
      refine lv_icmp_ge (tgt := 59) hx hb dX5_linesInSet_14 (by decide) (fun c2 => ?_) (fun c2 => absurd (show (16 : Int32) ≤ nI i from nI_le (a := 16) (by omega) (by omega)) c2)
      have hi16 : 16 ≤ i := by omega
      refine lv_iload_n hx hb dX5_linesInSet_59 rfl (lv_at hl 3 rfl) ?_
      exact hret _ _ _ _ () _ _ dX5_linesInSet_60 hP hS (by rw [hq, show min i 16 = 16 by omega]) (by simp only [eσ1]; first | done | rfl)
    | succ d ih =>
      intro i hi him hi20 q hq H locs ls hP hS hl
      obtain ⟨σ3, eσ3⟩ : ∃ z, z = σ := ⟨_, rfl⟩
      have hP : va_P D vwCl (FW 22 ad (CR cs n ad th nx σ3)) H := by rw [eσ3]; exact hP
      refine lv_iload hx hb dX5_linesInSet_10 (lv_at hl 4 rfl) ?_
      refine lv_bipush (v := 16) hx hb dX5_linesInSet_12 (by decide) ?_
      refine lv_icmp_ge (tgt := 59) hx hb dX5_linesInSet_14 (by decide) (fun c4 => ?_) (fun c4 => ?_)
      · have hi16 : 16 ≤ i := (nI_leI (a := 16) (by decide) (by omega)).mp c4
        refine lv_iload_n hx hb dX5_linesInSet_59 rfl (lv_at hl 3 rfl) ?_
        exact hret _ _ _ _ () _ _ dX5_linesInSet_60 hP hS (by rw [hq, show min i 16 = 16 by omega]) (by simp only [eσ3]; first | done | rfl)
      · have hi16 : i < 16 := Nat.lt_of_not_le (fun h => c4 (show (16 : Int32) ≤ nI i from nI_le (a := 16) h (by omega)))
        refine lv_aload_n hx hb dX5_linesInSet_17 rfl (lv_at hl 0 rfl) ?_
        refine va_get (D := D) (ci := 5) (v := .ref (ad 15)) (C := RX5) (T := TX5) (N := 29) hx hb hts iwX5_linesInSet_X5 hown hK hP 0 cr_obj rfl 19 (by decide) (hts _ lkX5_linesInSet_53) (fun _ h9 => h9) rfl dX5_linesInSet_18 ?_
        refine lv_iload_n hx hb dX5_linesInSet_21 rfl (lv_at hl 1 rfl) ?_
        refine g_iald (t0 := 0) (v := σ3.1 22 k 0) hx hb hK hP cr_reads rfl k rfl hk4 (by decide) rfl dX5_linesInSet_22 ?_
        refine lv_aload_n hx hb dX5_linesInSet_23 rfl (lv_at hl 0 rfl) ?_
        refine va_get (D := D) (ci := 5) (v := .ref (ad 16)) (C := RX5) (T := TX5) (N := 29) hx hb hts iwX5_linesInSet_X5 hown hK hP 0 cr_obj rfl 20 (by decide) (hts _ lkX5_linesInSet_56) (fun _ h9 => h9) rfl dX5_linesInSet_24 ?_
        refine lv_iload_n hx hb dX5_linesInSet_27 rfl (lv_at hl 1 rfl) ?_
        refine g_iald (t0 := 0) (v := σ3.1 23 k 0) hx hb hK hP cr_writes rfl k rfl hk4 (by decide) rfl dX5_linesInSet_28 ?_
        refine lv_ior hx hb dX5_linesInSet_29 ?_
        refine lv_iload hx hb dX5_linesInSet_30 (lv_at hl 4 rfl) ?_
        refine lv_ishr hx hb dX5_linesInSet_32 ?_
        refine lv_iconst (v := 1) hx hb dX5_linesInSet_33 (by decide) ?_
        refine lv_iand hx hb dX5_linesInSet_34 ?_
        refine lv_iconst (v := 1) hx hb dX5_linesInSet_35 (by decide) ?_
        refine lv_icmp_ne (tgt := 45) hx hb dX5_linesInSet_36 (by decide) (fun c5 => ?_) (fun c5 => ?_)
        · simp only [eσ3] at c5
          refine lv_iload_n hx hb dX5_linesInSet_45 rfl (lv_at hl 3 rfl) ?_
          refine lv_istore_n (lv' := [(3, .int (nI q)), (0, .ref (ad 0)), (1, .int (nI k)), (2, .int (nI ln)), (4, .int (nI i))]) hx hb dX5_linesInSet_46 rfl hl (by decide) rfl (fun ls hl => ?_)
          refine lv_iload hx hb dX5_linesInSet_47 (lv_at hl 4 rfl) ?_
          refine lv_aload_n hx hb dX5_linesInSet_49 rfl (lv_at hl 1 rfl) ?_
          refine va_get (D := D) (ci := 5) (v := .int (σ3.1 27 0 0)) (C := RX5) (T := TX5) (N := 29) hx hb hts iwX5_linesInSet_X5 hown hK hP 0 cr_obj rfl 2 (by decide) (hts _ lkX5_linesInSet_83) (fun _ h9 => h9) rfl dX5_linesInSet_50 ?_
          refine g_top (y := nI q2) (by simp only [eσ3]; exact hq2e) ?_
          refine lv_iadd hx hb dX5_linesInSet_53 ?_
          refine g_top (y := nI (i + q2)) (nI_add _ _) ?_
          refine lv_istore (lv' := [(4, .int (nI (i + q2))), (3, .int (nI q)), (0, .ref (ad 0)), (1, .int (nI k)), (2, .int (nI ln))]) hx hb dX5_linesInSet_54 hl (by decide) rfl (fun ls hl => ?_)
          refine lv_goto (tgt := 10) hx hb dX5_linesInSet_56 (by decide) ?_
          exact ih (i + q2) (by omega) (by rw [Nat.add_mod_right]; exact him) (by omega) q (cnt_2 hqs hi16 him hq c5) _ _ _ (by simp only [eσ3] at hP; exact hP) hS (lv_sub hl [2, 3, 4, 1, 0] rfl)
        · simp only [eσ3] at c5
          refine lv_iload_n hx hb dX5_linesInSet_39 rfl (lv_at hl 3 rfl) ?_
          refine lv_iconst (v := 1) hx hb dX5_linesInSet_40 (by decide) ?_
          refine lv_iadd hx hb dX5_linesInSet_41 ?_
          refine g_top (y := nI (q + 1)) (nI_add _ 1) ?_
          refine lv_goto (tgt := 46) hx hb dX5_linesInSet_42 (by decide) ?_
          refine lv_istore_n (lv' := [(3, .int (nI (q + 1))), (0, .ref (ad 0)), (1, .int (nI k)), (2, .int (nI ln)), (4, .int (nI i))]) hx hb dX5_linesInSet_46 rfl hl (by decide) rfl (fun ls hl => ?_)
          refine lv_iload hx hb dX5_linesInSet_47 (lv_at hl 4 rfl) ?_
          refine lv_aload_n hx hb dX5_linesInSet_49 rfl (lv_at hl 1 rfl) ?_
          refine va_get (D := D) (ci := 5) (v := .int (σ3.1 27 0 0)) (C := RX5) (T := TX5) (N := 29) hx hb hts iwX5_linesInSet_X5 hown hK hP 0 cr_obj rfl 2 (by decide) (hts _ lkX5_linesInSet_83) (fun _ h9 => h9) rfl dX5_linesInSet_50 ?_
          refine g_top (y := nI q2) (by simp only [eσ3]; exact hq2e) ?_
          refine lv_iadd hx hb dX5_linesInSet_53 ?_
          refine g_top (y := nI (i + q2)) (nI_add _ _) ?_
          refine lv_istore (lv' := [(4, .int (nI (i + q2))), (3, .int (nI (q + 1))), (0, .ref (ad 0)), (1, .int (nI k)), (2, .int (nI ln))]) hx hb dX5_linesInSet_54 hl (by decide) rfl (fun ls hl => ?_)
          refine lv_goto (tgt := 10) hx hb dX5_linesInSet_56 (by decide) ?_
          exact ih (i + q2) (by omega) (by rw [Nat.add_mod_right]; exact him) (by omega) (q + 1) (cnt_1 hqs hi16 him hq c5) _ _ _ (by simp only [eσ3] at hP; exact hP) hS (lv_sub hl [2, 3, 4, 1, 0] rfl)
  exact loop 16 (ln % q2) (by omega) (Nat.mod_mod _ _) (by have := Nat.mod_lt ln (show 0 < q2 by omega); omega) 0 (by rw [show min (ln % q2) 16 = ln % q2 by have := Nat.mod_lt ln (show 0 < q2 by omega); omega]; exact (cnt_00 _ (Nat.mod_lt ln (show 0 < q2 by omega))).symm) _ _ _ hP hS (lv_sub hl [2, 3, 4, 1, 0] rfl)

theorem iwX5_comes_X5 : ∀ w ∈ wsX50, w ∈ wsX5_comes := fun w h => by unfold wsX5_comes; simp only [List.mem_cons, List.mem_append, h, true_or, or_true]
theorem lkX5_comes_38 : Cond.fieldLink RX5 38 "CoreTransactionsModel" "depths" "[I" ∈ wsX5_comes := by decide +kernel
theorem lkX5_comes_41 : Cond.fieldLink RX5 41 "CoreTransactionsModel" "ages" "[I" ∈ wsX5_comes := by decide +kernel
theorem lkX5_comes_53 : Cond.fieldLink RX5 53 "CoreTransactionsModel" "reads" "[I" ∈ wsX5_comes := by decide +kernel
theorem lkX5_comes_56 : Cond.fieldLink RX5 56 "CoreTransactionsModel" "writes" "[I" ∈ wsX5_comes := by decide +kernel
theorem lkX5_comes_79 : Cond.fieldLink RX5 79 "CoreTransactionsModel" "cores" "I" ∈ wsX5_comes := by decide +kernel
theorem lkX5_comes_86 : Cond.fieldLink RX5 86 "CoreTransactionsModel" "ways" "I" ∈ wsX5_comes := by decide +kernel
abbrev rmX5_comes : Room := ({ frames := 3, cells := 0, slots := 0, locals := 68 } : Room)
set_option maxRecDepth 100000 in
set_option maxHeartbeats 4000000 in
theorem kX5_comes (l : Launch) (D : va_G) (cs : Nat → ClassId) (n : Nat) (ad : Nat → Nat) (th nx : Int32) (σ : St) (k : Nat) (hk4 : k < 4) (hn4 : n ≤ 4) (j : Nat) (hj : j < 64) (w : Bool) (G : Nat) (hI : Inv σ G) : gMi l yX5_comes wsX5_comes rmX5_comes D (tyL cs) 22 ad (CR cs n ad th nx σ) [.ref (ad 0), .int (nI k), .int (nI j), .int (bI w)] (fun (r : Int32) (u : Unit) => r = bI (pMay σ n k (nI j) w).2) (fun (u : Unit) => CR cs n ad th nx (pMay σ n k (nI j) w).1) := by
  refine g_ofz (cc := cX5_comes) (maxL := 7) (by decide) rfl (Nat.le_of_ble_eq_true rfl) rfl rfl ?_
  intro p e s m args below meth c A ls Q hx hb hml hts hown hK hP hD hA hS hl hret
  have hl : lv_has ls 7 [(0, .ref (ad 0)), (1, .int (nI k)), (2, .int (nI j)), (3, .int (bI w))] := hl
  obtain ⟨q2, hqs, hq2e⟩ := hI.2.2.2.2.1
  refine lv_iload_n hx hb dX5_comes_0 rfl (lv_at hl 2 rfl) ?_
  refine lv_iconst (v := 4) hx hb dX5_comes_1 (by decide) ?_
  refine lv_idiv hx hb dX5_comes_2 (by decide) ?_
  refine g_top (y := nI (j / 4)) (pk_div (a := j) (d := 4) (by omega) (by decide) (by decide)) ?_
  refine lv_istore (lv' := [(4, .int (nI (j / 4))), (0, .ref (ad 0)), (1, .int (nI k)), (2, .int (nI j)), (3, .int (bI w))]) hx hb dX5_comes_3 hl (by decide) rfl (fun ls hl => ?_)
  refine lv_iconst (v := 0) hx hb dX5_comes_5 (by decide) ?_
  refine lv_istore (lv' := [(5, .int 0), (4, .int (nI (j / 4))), (0, .ref (ad 0)), (1, .int (nI k)), (2, .int (nI j)), (3, .int (bI w))]) hx hb dX5_comes_6 hl (by decide) rfl (fun ls hl => ?_)
  refine lv_iconst (v := 0) hx hb dX5_comes_8 (by decide) ?_
  refine lv_istore (lv' := [(6, .int 0), (5, .int 0), (4, .int (nI (j / 4))), (0, .ref (ad 0)), (1, .int (nI k)), (2, .int (nI j)), (3, .int (bI w))]) hx hb dX5_comes_9 hl (by decide) rfl (fun ls hl => ?_)
  have loop : ∀ (d i : Nat), i + d = n → ∀ (v : Int32), v = bI (mOld σ k (j / 4) w i) → ∀ (H : Heap) (locs : List Loc) (ls : Array Slot), va_P D vwCl (FW 22 ad (CR cs n ad th nx (σ))) H → va_S A s.heap H locs → lv_has ls 7 [(0, .ref (ad 0)), (1, .int (nI k)), (2, .int (nI j)), (3, .int (bI w)), (4, .int (nI (j / 4))), (5, .int v), (6, .int (nI i))] → W p l e rmX5_comes s m args below meth c H locs 0 0 Q (F0 m 11 ls []) := by
    intro d
    induction d with
    | zero =>
      intro i hi v hv H locs ls hP hS hl
      have hE : i = n := by omega
      try rw [hE] at hP
      try rw [hE] at hl
      try rw [hE] at hv
      obtain ⟨σ1, eσ1⟩ : ∃ z, z = σ := ⟨_, rfl⟩
      have hP : va_P D vwCl (FW 22 ad (CR cs n ad th nx σ1)) H := by rw [eσ1]; exact hP
      refine lv_iload hx hb dX5_comes_11 (lv_at hl 6 rfl) ?_
      refine lv_aload_n hx hb dX5_comes_13 rfl (lv_at hl 0 rfl) ?_
      refine va_get (D := D) (ci := 5) (v := .int (nI n)) (C := RX5) (T := TX5) (N := 29) hx hb hts iwX5_comes_X5 hown hK hP 0 cr_obj rfl 1 (by decide) (hts _ lkX5_comes_79) (fun _ h9 => h9) rfl dX5_comes_14 ?_
      refine lv_icmp_ge (tgt := 72) hx hb dX5_comes_17 (by decide) (fun c2 => ?_) (fun c2 => absurd (Int32.le_refl _) c2)
      refine lv_aload_n hx hb dX5_comes_72 rfl (lv_at hl 0 rfl) ?_
      refine va_get (D := D) (ci := 5) (v := .ref (ad 10)) (C := RX5) (T := TX5) (N := 29) hx hb hts iwX5_comes_X5 hown hK hP 0 cr_obj rfl 14 (by decide) (hts _ lkX5_comes_38) (fun _ h9 => h9) rfl dX5_comes_73 ?_
      refine lv_iload_n hx hb dX5_comes_76 rfl (lv_at hl 1 rfl) ?_
      refine g_iald (t0 := 0) (v := σ1.1 18 k 0) hx hb hK hP cr_depths rfl k rfl hk4 (by decide) rfl dX5_comes_77 ?_
      refine lv_if_le (tgt := 94) hx hb dX5_comes_78 (by decide) (fun c3 => ?_) (fun c3 => ?_)
      · simp only [eσ1] at c3
        have hmo : ¬ mOld σ k (j / 4) w n = true := by rw [mOld_0 hI.1 hI.2.2.2.2.2 hk4 c3 n hn4]; decide
        refine lv_aload_n hx hb dX5_comes_94 rfl (lv_at hl 0 rfl) ?_
        refine lv_iload_n hx hb dX5_comes_95 rfl (lv_at hl 1 rfl) ?_
        refine lv_iload hx hb dX5_comes_96 (lv_at hl 4 rfl) ?_
        refine lv_iload_n hx hb dX5_comes_98 rfl (lv_at hl 3 rfl) ?_
        refine g_cvv (As := [.int (nI k), .int (nI (j / 4)), .int (bI w)]) ⟨hx, hb, hml, hown, hts⟩ (kX5_breakOthers l D cs n ad th nx σ1 hn4 (nI k) (j / 4) w G (by simp only [eσ1]; exact hI)) (cwV 3 hts gX5_comes_X5_breakOthers rfl rfl rfl (by decide +kernel) ⟨Nat.le_of_ble_eq_true rfl, Nat.le_of_ble_eq_true rfl⟩) hK hP hD hS hA 0 (ci := 5) rfl rfl cr_obj hl.1 dX5_comes_99 rfl rfl (Nat.le_of_ble_eq_true rfl) ⟨Nat.zero_le _, Nat.zero_le _⟩ (fun _ H locs hw hP hS => ?_)
        obtain ⟨σ4, eσ4⟩ : ∃ z, z = pBA (nI k) (j / 4) w n σ1 := ⟨_, rfl⟩
        have hP : va_P D vwCl (FW 22 ad (CR cs n ad th nx σ4)) H := by rw [eσ4]; exact hP
        refine lv_aload_n hx hb dX5_comes_102 rfl (lv_at hl 0 rfl) ?_
        refine va_get (D := D) (ci := 5) (v := .ref (ad 10)) (C := RX5) (T := TX5) (N := 29) hx hb hts iwX5_comes_X5 hown hK hP 0 cr_obj rfl 14 (by decide) (hts _ lkX5_comes_38) (fun _ h9 => h9) rfl dX5_comes_103 ?_
        refine lv_iload_n hx hb dX5_comes_106 rfl (lv_at hl 1 rfl) ?_
        refine g_iald (t0 := 0) (v := σ4.1 18 k 0) hx hb hK hP cr_depths rfl k rfl hk4 (by decide) rfl dX5_comes_107 ?_
        refine lv_if_ne (tgt := 113) hx hb dX5_comes_108 (by decide) (fun c5 => ?_) (fun c5 => ?_)
        · simp only [eσ4, eσ1] at c5
          have hd0 : ¬ (pBA (nI k) (j / 4) w n σ).1 18 k 0 = 0 := c5
          refine lv_iload_n hx hb dX5_comes_113 rfl (lv_at hl 3 rfl) ?_
          refine lv_if_eq (tgt := 137) hx hb dX5_comes_114 (by decide) (fun c6 => ?_) (fun c6 => ?_)
          · have hw0 : w = false := bI0 c6
            have pMk : ∀ τ : St, put τ 22 k 0 (τ.1 22 k 0 ||| ((1 : Int32) <<< (nI (j / 4) &&& 31))) = pMark τ k (j / 4) w := fun τ => by rw [hw0]; rfl
            refine lv_aload_n hx hb dX5_comes_137 rfl (lv_at hl 0 rfl) ?_
            refine va_get (D := D) (ci := 5) (v := .ref (ad 15)) (C := RX5) (T := TX5) (N := 29) hx hb hts iwX5_comes_X5 hown hK hP 0 cr_obj rfl 19 (by decide) (hts _ lkX5_comes_53) (fun _ h9 => h9) rfl dX5_comes_138 ?_
            refine lv_iload_n hx hb dX5_comes_141 rfl (lv_at hl 1 rfl) ?_
            refine lv_aload_n hx hb dX5_comes_142 rfl (lv_at hl 0 rfl) ?_
            refine va_get (D := D) (ci := 5) (v := .ref (ad 15)) (C := RX5) (T := TX5) (N := 29) hx hb hts iwX5_comes_X5 hown hK hP 0 cr_obj rfl 19 (by decide) (hts _ lkX5_comes_53) (fun _ h9 => h9) rfl dX5_comes_143 ?_
            refine lv_iload_n hx hb dX5_comes_146 rfl (lv_at hl 1 rfl) ?_
            refine g_iald (t0 := 0) (v := σ4.1 22 k 0) hx hb hK hP cr_reads rfl k rfl hk4 (by decide) rfl dX5_comes_147 ?_
            refine lv_iconst (v := 1) hx hb dX5_comes_148 (by decide) ?_
            refine lv_iload hx hb dX5_comes_149 (lv_at hl 4 rfl) ?_
            refine lv_ishl hx hb dX5_comes_151 ?_
            refine lv_ior hx hb dX5_comes_152 ?_
            refine g_iast (t0 := 0) hx hb hK hP hD hS cr_reads rfl k rfl hk4 (by decide) dX5_comes_153 (fun H locs hP hS => ?_)
            obtain ⟨σ7, eσ7⟩ : ∃ z, z = put σ4 22 k 0 ((σ4.1 22 k 0) ||| (1 <<< ((nI (j / 4)) &&& 31))) := ⟨_, rfl⟩
            have hP : va_P D vwCl (FW 22 ad (CR cs n ad th nx σ7)) H := by rw [eσ7]; exact cru_reads hP
            refine lv_aload_n hx hb dX5_comes_154 rfl (lv_at hl 0 rfl) ?_
            refine lv_iload_n hx hb dX5_comes_155 rfl (lv_at hl 1 rfl) ?_
            refine lv_iload hx hb dX5_comes_156 (lv_at hl 4 rfl) ?_
            refine g_cvi (As := [.int (nI k), .int (nI (j / 4))]) ⟨hx, hb, hml, hown, hts⟩ (kX5_linesInSet l D cs n ad th nx σ7 k hk4 (j / 4) q2 (by omega) hqs (by simp only [eσ7, eσ4, eσ1]; rw [pMk, pMark_at (by decide) (by decide), pBA_at (by decide) (by decide) (by decide) (by decide) (Or.inr (by decide))]; exact hq2e)) (cwV 2 hts gX5_comes_X5_linesInSet rfl rfl rfl (by decide +kernel) ⟨Nat.le_of_ble_eq_true rfl, Nat.le_of_ble_eq_true rfl⟩) hK hP hD hS hA 0 (ci := 5) rfl rfl cr_obj hl.1 dX5_comes_158 rfl rfl (Nat.le_of_ble_eq_true rfl) ⟨Nat.zero_le _, Nat.zero_le _⟩ (fun r _ H locs hw hP hS => ?_)
            obtain rfl : r = nI (cntL σ7 k q2 (j / 4 % q2) 16) := hw
            have hP : va_P D vwCl (FW 22 ad (CR cs n ad th nx σ7)) H := hP
            refine lv_aload_n hx hb dX5_comes_161 rfl (lv_at hl 0 rfl) ?_
            refine va_get (D := D) (ci := 5) (v := .int (σ7.1 28 0 0)) (C := RX5) (T := TX5) (N := 29) hx hb hts iwX5_comes_X5 hown hK hP 0 cr_obj rfl 3 (by decide) (hts _ lkX5_comes_86) (fun _ h9 => h9) rfl dX5_comes_162 ?_
            refine lv_icmp_le (tgt := 176) hx hb dX5_comes_165 (by decide) (fun c8 => ?_) (fun c8 => ?_)
            · simp only [eσ7, eσ4, eσ1] at c8
              rw [pMk, pMark_at (f := 28) (by decide) (by decide), pBA_at (f := 28) (by decide) (by decide) (by decide) (by decide) (Or.inr (by decide))] at c8
              have hpm : pMay σ n k (nI j) w = (pMark (pBA (nI k) (j / 4) w n σ) k (j / 4) w, true) := by rw [pMay_in hj, if_neg hmo, if_neg hd0, hq2e, iN_nI (show q2 < 2 ^ 31 by omega), if_neg (Int32.not_lt.mpr c8)]
              refine lv_iconst (v := 1) hx hb dX5_comes_176 (by decide) ?_
              exact hret _ _ _ _ () _ _ dX5_comes_177 hP hS (Or.inr rfl) (by rw [hpm]; rfl) (by rw [hpm]; simp only [eσ7, eσ4, eσ1]; first | done | rfl | (rw [pMk]))
            · simp only [eσ7, eσ4, eσ1] at c8
              rw [pMk, pMark_at (f := 28) (by decide) (by decide), pBA_at (f := 28) (by decide) (by decide) (by decide) (by decide) (Or.inr (by decide))] at c8
              have hpm : pMay σ n k (nI j) w = (pBreak (pMark (pBA (nI k) (j / 4) w n σ) k (j / 4) w) k 3, false) := by rw [pMay_in hj, if_neg hmo, if_neg hd0, hq2e, iN_nI (show q2 < 2 ^ 31 by omega), if_pos (Int32.not_le.mp c8)]
              refine lv_aload_n hx hb dX5_comes_168 rfl (lv_at hl 0 rfl) ?_
              refine lv_iload_n hx hb dX5_comes_169 rfl (lv_at hl 1 rfl) ?_
              refine lv_iconst (v := 3) hx hb dX5_comes_170 (by decide) ?_
              refine g_cvv (As := [.int (nI k), .int 3]) ⟨hx, hb, hml, hown, hts⟩ (kX5_brk l D cs n ad th nx σ7 k hk4 3 G (by simp only [eσ7, eσ4, eσ1]; rw [pMk]; exact Inv_mark (Inv_BA hI n hn4) hk4 (by omega) hd0)) (cwV 2 hts gX5_comes_X5_breakOff rfl rfl rfl (by decide +kernel) ⟨Nat.le_of_ble_eq_true rfl, Nat.le_of_ble_eq_true rfl⟩) hK hP hD hS hA 0 (ci := 5) rfl rfl cr_obj hl.1 dX5_comes_171 rfl rfl (Nat.le_of_ble_eq_true rfl) ⟨Nat.zero_le _, Nat.zero_le _⟩ (fun _ H locs hw hP hS => ?_)
              obtain ⟨σ9, eσ9⟩ : ∃ z, z = pBreak σ7 k 3 := ⟨_, rfl⟩
              have hP : va_P D vwCl (FW 22 ad (CR cs n ad th nx σ9)) H := by rw [eσ9]; exact hP
              refine lv_iconst (v := 0) hx hb dX5_comes_174 (by decide) ?_
              exact hret _ _ _ _ () _ _ dX5_comes_175 hP hS (Or.inl rfl) (by rw [hpm]; rfl) (by rw [hpm]; simp only [eσ9, eσ7, eσ4, eσ1]; first | done | rfl | (rw [pMk]))
          · have hw0 : w = true := bI1 c6
            have pMk : ∀ τ : St, put τ 23 k 0 (τ.1 23 k 0 ||| ((1 : Int32) <<< (nI (j / 4) &&& 31))) = pMark τ k (j / 4) w := fun τ => by rw [hw0]; rfl
            refine lv_aload_n hx hb dX5_comes_117 rfl (lv_at hl 0 rfl) ?_
            refine va_get (D := D) (ci := 5) (v := .ref (ad 16)) (C := RX5) (T := TX5) (N := 29) hx hb hts iwX5_comes_X5 hown hK hP 0 cr_obj rfl 20 (by decide) (hts _ lkX5_comes_56) (fun _ h9 => h9) rfl dX5_comes_118 ?_
            refine lv_iload_n hx hb dX5_comes_121 rfl (lv_at hl 1 rfl) ?_
            refine lv_aload_n hx hb dX5_comes_122 rfl (lv_at hl 0 rfl) ?_
            refine va_get (D := D) (ci := 5) (v := .ref (ad 16)) (C := RX5) (T := TX5) (N := 29) hx hb hts iwX5_comes_X5 hown hK hP 0 cr_obj rfl 20 (by decide) (hts _ lkX5_comes_56) (fun _ h9 => h9) rfl dX5_comes_123 ?_
            refine lv_iload_n hx hb dX5_comes_126 rfl (lv_at hl 1 rfl) ?_
            refine g_iald (t0 := 0) (v := σ4.1 23 k 0) hx hb hK hP cr_writes rfl k rfl hk4 (by decide) rfl dX5_comes_127 ?_
            refine lv_iconst (v := 1) hx hb dX5_comes_128 (by decide) ?_
            refine lv_iload hx hb dX5_comes_129 (lv_at hl 4 rfl) ?_
            refine lv_ishl hx hb dX5_comes_131 ?_
            refine lv_ior hx hb dX5_comes_132 ?_
            refine g_iast (t0 := 0) hx hb hK hP hD hS cr_writes rfl k rfl hk4 (by decide) dX5_comes_133 (fun H locs hP hS => ?_)
            obtain ⟨σ10, eσ10⟩ : ∃ z, z = put σ4 23 k 0 ((σ4.1 23 k 0) ||| (1 <<< ((nI (j / 4)) &&& 31))) := ⟨_, rfl⟩
            have hP : va_P D vwCl (FW 22 ad (CR cs n ad th nx σ10)) H := by rw [eσ10]; exact cru_writes hP
            refine lv_goto (tgt := 154) hx hb dX5_comes_134 (by decide) ?_
            refine lv_aload_n hx hb dX5_comes_154 rfl (lv_at hl 0 rfl) ?_
            refine lv_iload_n hx hb dX5_comes_155 rfl (lv_at hl 1 rfl) ?_
            refine lv_iload hx hb dX5_comes_156 (lv_at hl 4 rfl) ?_
            refine g_cvi (As := [.int (nI k), .int (nI (j / 4))]) ⟨hx, hb, hml, hown, hts⟩ (kX5_linesInSet l D cs n ad th nx σ10 k hk4 (j / 4) q2 (by omega) hqs (by simp only [eσ10, eσ4, eσ1]; rw [pMk, pMark_at (by decide) (by decide), pBA_at (by decide) (by decide) (by decide) (by decide) (Or.inr (by decide))]; exact hq2e)) (cwV 2 hts gX5_comes_X5_linesInSet rfl rfl rfl (by decide +kernel) ⟨Nat.le_of_ble_eq_true rfl, Nat.le_of_ble_eq_true rfl⟩) hK hP hD hS hA 0 (ci := 5) rfl rfl cr_obj hl.1 dX5_comes_158 rfl rfl (Nat.le_of_ble_eq_true rfl) ⟨Nat.zero_le _, Nat.zero_le _⟩ (fun r _ H locs hw hP hS => ?_)
            obtain rfl : r = nI (cntL σ10 k q2 (j / 4 % q2) 16) := hw
            have hP : va_P D vwCl (FW 22 ad (CR cs n ad th nx σ10)) H := hP
            refine lv_aload_n hx hb dX5_comes_161 rfl (lv_at hl 0 rfl) ?_
            refine va_get (D := D) (ci := 5) (v := .int (σ10.1 28 0 0)) (C := RX5) (T := TX5) (N := 29) hx hb hts iwX5_comes_X5 hown hK hP 0 cr_obj rfl 3 (by decide) (hts _ lkX5_comes_86) (fun _ h9 => h9) rfl dX5_comes_162 ?_
            refine lv_icmp_le (tgt := 176) hx hb dX5_comes_165 (by decide) (fun c11 => ?_) (fun c11 => ?_)
            · simp only [eσ10, eσ4, eσ1] at c11
              rw [pMk, pMark_at (f := 28) (by decide) (by decide), pBA_at (f := 28) (by decide) (by decide) (by decide) (by decide) (Or.inr (by decide))] at c11
              have hpm : pMay σ n k (nI j) w = (pMark (pBA (nI k) (j / 4) w n σ) k (j / 4) w, true) := by rw [pMay_in hj, if_neg hmo, if_neg hd0, hq2e, iN_nI (show q2 < 2 ^ 31 by omega), if_neg (Int32.not_lt.mpr c11)]
              refine lv_iconst (v := 1) hx hb dX5_comes_176 (by decide) ?_
              exact hret _ _ _ _ () _ _ dX5_comes_177 hP hS (Or.inr rfl) (by rw [hpm]; rfl) (by rw [hpm]; simp only [eσ10, eσ4, eσ1]; first | done | rfl | (rw [pMk]))
            · simp only [eσ10, eσ4, eσ1] at c11
              rw [pMk, pMark_at (f := 28) (by decide) (by decide), pBA_at (f := 28) (by decide) (by decide) (by decide) (by decide) (Or.inr (by decide))] at c11
              have hpm : pMay σ n k (nI j) w = (pBreak (pMark (pBA (nI k) (j / 4) w n σ) k (j / 4) w) k 3, false) := by rw [pMay_in hj, if_neg hmo, if_neg hd0, hq2e, iN_nI (show q2 < 2 ^ 31 by omega), if_pos (Int32.not_le.mp c11)]
              refine lv_aload_n hx hb dX5_comes_168 rfl (lv_at hl 0 rfl) ?_
              refine lv_iload_n hx hb dX5_comes_169 rfl (lv_at hl 1 rfl) ?_
              refine lv_iconst (v := 3) hx hb dX5_comes_170 (by decide) ?_
              refine g_cvv (As := [.int (nI k), .int 3]) ⟨hx, hb, hml, hown, hts⟩ (kX5_brk l D cs n ad th nx σ10 k hk4 3 G (by simp only [eσ10, eσ4, eσ1]; rw [pMk]; exact Inv_mark (Inv_BA hI n hn4) hk4 (by omega) hd0)) (cwV 2 hts gX5_comes_X5_breakOff rfl rfl rfl (by decide +kernel) ⟨Nat.le_of_ble_eq_true rfl, Nat.le_of_ble_eq_true rfl⟩) hK hP hD hS hA 0 (ci := 5) rfl rfl cr_obj hl.1 dX5_comes_171 rfl rfl (Nat.le_of_ble_eq_true rfl) ⟨Nat.zero_le _, Nat.zero_le _⟩ (fun _ H locs hw hP hS => ?_)
              obtain ⟨σ12, eσ12⟩ : ∃ z, z = pBreak σ10 k 3 := ⟨_, rfl⟩
              have hP : va_P D vwCl (FW 22 ad (CR cs n ad th nx σ12)) H := by rw [eσ12]; exact hP
              refine lv_iconst (v := 0) hx hb dX5_comes_174 (by decide) ?_
              exact hret _ _ _ _ () _ _ dX5_comes_175 hP hS (Or.inl rfl) (by rw [hpm]; rfl) (by rw [hpm]; simp only [eσ12, eσ10, eσ4, eσ1]; first | done | rfl | (rw [pMk]))
        · simp only [eσ4, eσ1] at c5
          have hpm : pMay σ n k (nI j) w = (pBA (nI k) (j / 4) w n σ, true) := by rw [pMay_in hj, if_neg hmo, if_pos c5]
          refine lv_iconst (v := 1) hx hb dX5_comes_111 (by decide) ?_
          exact hret _ _ _ _ () _ _ dX5_comes_112 hP hS (Or.inr rfl) (by rw [hpm]; rfl) (by rw [hpm]; simp only [eσ4, eσ1]; first | done | rfl | (rw [pMk]))
      · refine lv_iload hx hb dX5_comes_81 (lv_at hl 5 rfl) ?_
        refine lv_if_eq (tgt := 94) hx hb dX5_comes_83 (by decide) (fun c13 => ?_) (fun c13 => ?_)
        · have hmo : ¬ mOld σ k (j / 4) w n = true := fun h => absurd ((bI0 (hv.symm.trans c13)).symm.trans h) (by decide)
          refine lv_aload_n hx hb dX5_comes_94 rfl (lv_at hl 0 rfl) ?_
          refine lv_iload_n hx hb dX5_comes_95 rfl (lv_at hl 1 rfl) ?_
          refine lv_iload hx hb dX5_comes_96 (lv_at hl 4 rfl) ?_
          refine lv_iload_n hx hb dX5_comes_98 rfl (lv_at hl 3 rfl) ?_
          refine g_cvv (As := [.int (nI k), .int (nI (j / 4)), .int (bI w)]) ⟨hx, hb, hml, hown, hts⟩ (kX5_breakOthers l D cs n ad th nx σ1 hn4 (nI k) (j / 4) w G (by simp only [eσ1]; exact hI)) (cwV 3 hts gX5_comes_X5_breakOthers rfl rfl rfl (by decide +kernel) ⟨Nat.le_of_ble_eq_true rfl, Nat.le_of_ble_eq_true rfl⟩) hK hP hD hS hA 0 (ci := 5) rfl rfl cr_obj hl.1 dX5_comes_99 rfl rfl (Nat.le_of_ble_eq_true rfl) ⟨Nat.zero_le _, Nat.zero_le _⟩ (fun _ H locs hw hP hS => ?_)
          obtain ⟨σ14, eσ14⟩ : ∃ z, z = pBA (nI k) (j / 4) w n σ1 := ⟨_, rfl⟩
          have hP : va_P D vwCl (FW 22 ad (CR cs n ad th nx σ14)) H := by rw [eσ14]; exact hP
          refine lv_aload_n hx hb dX5_comes_102 rfl (lv_at hl 0 rfl) ?_
          refine va_get (D := D) (ci := 5) (v := .ref (ad 10)) (C := RX5) (T := TX5) (N := 29) hx hb hts iwX5_comes_X5 hown hK hP 0 cr_obj rfl 14 (by decide) (hts _ lkX5_comes_38) (fun _ h9 => h9) rfl dX5_comes_103 ?_
          refine lv_iload_n hx hb dX5_comes_106 rfl (lv_at hl 1 rfl) ?_
          refine g_iald (t0 := 0) (v := σ14.1 18 k 0) hx hb hK hP cr_depths rfl k rfl hk4 (by decide) rfl dX5_comes_107 ?_
          refine lv_if_ne (tgt := 113) hx hb dX5_comes_108 (by decide) (fun c15 => ?_) (fun c15 => ?_)
          · simp only [eσ14, eσ1] at c15
            have hd0 : ¬ (pBA (nI k) (j / 4) w n σ).1 18 k 0 = 0 := c15
            refine lv_iload_n hx hb dX5_comes_113 rfl (lv_at hl 3 rfl) ?_
            refine lv_if_eq (tgt := 137) hx hb dX5_comes_114 (by decide) (fun c16 => ?_) (fun c16 => ?_)
            · have hw0 : w = false := bI0 c16
              have pMk : ∀ τ : St, put τ 22 k 0 (τ.1 22 k 0 ||| ((1 : Int32) <<< (nI (j / 4) &&& 31))) = pMark τ k (j / 4) w := fun τ => by rw [hw0]; rfl
              refine lv_aload_n hx hb dX5_comes_137 rfl (lv_at hl 0 rfl) ?_
              refine va_get (D := D) (ci := 5) (v := .ref (ad 15)) (C := RX5) (T := TX5) (N := 29) hx hb hts iwX5_comes_X5 hown hK hP 0 cr_obj rfl 19 (by decide) (hts _ lkX5_comes_53) (fun _ h9 => h9) rfl dX5_comes_138 ?_
              refine lv_iload_n hx hb dX5_comes_141 rfl (lv_at hl 1 rfl) ?_
              refine lv_aload_n hx hb dX5_comes_142 rfl (lv_at hl 0 rfl) ?_
              refine va_get (D := D) (ci := 5) (v := .ref (ad 15)) (C := RX5) (T := TX5) (N := 29) hx hb hts iwX5_comes_X5 hown hK hP 0 cr_obj rfl 19 (by decide) (hts _ lkX5_comes_53) (fun _ h9 => h9) rfl dX5_comes_143 ?_
              refine lv_iload_n hx hb dX5_comes_146 rfl (lv_at hl 1 rfl) ?_
              refine g_iald (t0 := 0) (v := σ14.1 22 k 0) hx hb hK hP cr_reads rfl k rfl hk4 (by decide) rfl dX5_comes_147 ?_
              refine lv_iconst (v := 1) hx hb dX5_comes_148 (by decide) ?_
              refine lv_iload hx hb dX5_comes_149 (lv_at hl 4 rfl) ?_
              refine lv_ishl hx hb dX5_comes_151 ?_
              refine lv_ior hx hb dX5_comes_152 ?_
              refine g_iast (t0 := 0) hx hb hK hP hD hS cr_reads rfl k rfl hk4 (by decide) dX5_comes_153 (fun H locs hP hS => ?_)
              obtain ⟨σ17, eσ17⟩ : ∃ z, z = put σ14 22 k 0 ((σ14.1 22 k 0) ||| (1 <<< ((nI (j / 4)) &&& 31))) := ⟨_, rfl⟩
              have hP : va_P D vwCl (FW 22 ad (CR cs n ad th nx σ17)) H := by rw [eσ17]; exact cru_reads hP
              refine lv_aload_n hx hb dX5_comes_154 rfl (lv_at hl 0 rfl) ?_
              refine lv_iload_n hx hb dX5_comes_155 rfl (lv_at hl 1 rfl) ?_
              refine lv_iload hx hb dX5_comes_156 (lv_at hl 4 rfl) ?_
              refine g_cvi (As := [.int (nI k), .int (nI (j / 4))]) ⟨hx, hb, hml, hown, hts⟩ (kX5_linesInSet l D cs n ad th nx σ17 k hk4 (j / 4) q2 (by omega) hqs (by simp only [eσ17, eσ14, eσ1]; rw [pMk, pMark_at (by decide) (by decide), pBA_at (by decide) (by decide) (by decide) (by decide) (Or.inr (by decide))]; exact hq2e)) (cwV 2 hts gX5_comes_X5_linesInSet rfl rfl rfl (by decide +kernel) ⟨Nat.le_of_ble_eq_true rfl, Nat.le_of_ble_eq_true rfl⟩) hK hP hD hS hA 0 (ci := 5) rfl rfl cr_obj hl.1 dX5_comes_158 rfl rfl (Nat.le_of_ble_eq_true rfl) ⟨Nat.zero_le _, Nat.zero_le _⟩ (fun r _ H locs hw hP hS => ?_)
              obtain rfl : r = nI (cntL σ17 k q2 (j / 4 % q2) 16) := hw
              have hP : va_P D vwCl (FW 22 ad (CR cs n ad th nx σ17)) H := hP
              refine lv_aload_n hx hb dX5_comes_161 rfl (lv_at hl 0 rfl) ?_
              refine va_get (D := D) (ci := 5) (v := .int (σ17.1 28 0 0)) (C := RX5) (T := TX5) (N := 29) hx hb hts iwX5_comes_X5 hown hK hP 0 cr_obj rfl 3 (by decide) (hts _ lkX5_comes_86) (fun _ h9 => h9) rfl dX5_comes_162 ?_
              refine lv_icmp_le (tgt := 176) hx hb dX5_comes_165 (by decide) (fun c18 => ?_) (fun c18 => ?_)
              · simp only [eσ17, eσ14, eσ1] at c18
                rw [pMk, pMark_at (f := 28) (by decide) (by decide), pBA_at (f := 28) (by decide) (by decide) (by decide) (by decide) (Or.inr (by decide))] at c18
                have hpm : pMay σ n k (nI j) w = (pMark (pBA (nI k) (j / 4) w n σ) k (j / 4) w, true) := by rw [pMay_in hj, if_neg hmo, if_neg hd0, hq2e, iN_nI (show q2 < 2 ^ 31 by omega), if_neg (Int32.not_lt.mpr c18)]
                refine lv_iconst (v := 1) hx hb dX5_comes_176 (by decide) ?_
                exact hret _ _ _ _ () _ _ dX5_comes_177 hP hS (Or.inr rfl) (by rw [hpm]; rfl) (by rw [hpm]; simp only [eσ17, eσ14, eσ1]; first | done | rfl | (rw [pMk]))
              · simp only [eσ17, eσ14, eσ1] at c18
                rw [pMk, pMark_at (f := 28) (by decide) (by decide), pBA_at (f := 28) (by decide) (by decide) (by decide) (by decide) (Or.inr (by decide))] at c18
                have hpm : pMay σ n k (nI j) w = (pBreak (pMark (pBA (nI k) (j / 4) w n σ) k (j / 4) w) k 3, false) := by rw [pMay_in hj, if_neg hmo, if_neg hd0, hq2e, iN_nI (show q2 < 2 ^ 31 by omega), if_pos (Int32.not_le.mp c18)]
                refine lv_aload_n hx hb dX5_comes_168 rfl (lv_at hl 0 rfl) ?_
                refine lv_iload_n hx hb dX5_comes_169 rfl (lv_at hl 1 rfl) ?_
                refine lv_iconst (v := 3) hx hb dX5_comes_170 (by decide) ?_
                refine g_cvv (As := [.int (nI k), .int 3]) ⟨hx, hb, hml, hown, hts⟩ (kX5_brk l D cs n ad th nx σ17 k hk4 3 G (by simp only [eσ17, eσ14, eσ1]; rw [pMk]; exact Inv_mark (Inv_BA hI n hn4) hk4 (by omega) hd0)) (cwV 2 hts gX5_comes_X5_breakOff rfl rfl rfl (by decide +kernel) ⟨Nat.le_of_ble_eq_true rfl, Nat.le_of_ble_eq_true rfl⟩) hK hP hD hS hA 0 (ci := 5) rfl rfl cr_obj hl.1 dX5_comes_171 rfl rfl (Nat.le_of_ble_eq_true rfl) ⟨Nat.zero_le _, Nat.zero_le _⟩ (fun _ H locs hw hP hS => ?_)
                obtain ⟨σ19, eσ19⟩ : ∃ z, z = pBreak σ17 k 3 := ⟨_, rfl⟩
                have hP : va_P D vwCl (FW 22 ad (CR cs n ad th nx σ19)) H := by rw [eσ19]; exact hP
                refine lv_iconst (v := 0) hx hb dX5_comes_174 (by decide) ?_
                exact hret _ _ _ _ () _ _ dX5_comes_175 hP hS (Or.inl rfl) (by rw [hpm]; rfl) (by rw [hpm]; simp only [eσ19, eσ17, eσ14, eσ1]; first | done | rfl | (rw [pMk]))
            · have hw0 : w = true := bI1 c16
              have pMk : ∀ τ : St, put τ 23 k 0 (τ.1 23 k 0 ||| ((1 : Int32) <<< (nI (j / 4) &&& 31))) = pMark τ k (j / 4) w := fun τ => by rw [hw0]; rfl
              refine lv_aload_n hx hb dX5_comes_117 rfl (lv_at hl 0 rfl) ?_
              refine va_get (D := D) (ci := 5) (v := .ref (ad 16)) (C := RX5) (T := TX5) (N := 29) hx hb hts iwX5_comes_X5 hown hK hP 0 cr_obj rfl 20 (by decide) (hts _ lkX5_comes_56) (fun _ h9 => h9) rfl dX5_comes_118 ?_
              refine lv_iload_n hx hb dX5_comes_121 rfl (lv_at hl 1 rfl) ?_
              refine lv_aload_n hx hb dX5_comes_122 rfl (lv_at hl 0 rfl) ?_
              refine va_get (D := D) (ci := 5) (v := .ref (ad 16)) (C := RX5) (T := TX5) (N := 29) hx hb hts iwX5_comes_X5 hown hK hP 0 cr_obj rfl 20 (by decide) (hts _ lkX5_comes_56) (fun _ h9 => h9) rfl dX5_comes_123 ?_
              refine lv_iload_n hx hb dX5_comes_126 rfl (lv_at hl 1 rfl) ?_
              refine g_iald (t0 := 0) (v := σ14.1 23 k 0) hx hb hK hP cr_writes rfl k rfl hk4 (by decide) rfl dX5_comes_127 ?_
              refine lv_iconst (v := 1) hx hb dX5_comes_128 (by decide) ?_
              refine lv_iload hx hb dX5_comes_129 (lv_at hl 4 rfl) ?_
              refine lv_ishl hx hb dX5_comes_131 ?_
              refine lv_ior hx hb dX5_comes_132 ?_
              refine g_iast (t0 := 0) hx hb hK hP hD hS cr_writes rfl k rfl hk4 (by decide) dX5_comes_133 (fun H locs hP hS => ?_)
              obtain ⟨σ20, eσ20⟩ : ∃ z, z = put σ14 23 k 0 ((σ14.1 23 k 0) ||| (1 <<< ((nI (j / 4)) &&& 31))) := ⟨_, rfl⟩
              have hP : va_P D vwCl (FW 22 ad (CR cs n ad th nx σ20)) H := by rw [eσ20]; exact cru_writes hP
              refine lv_goto (tgt := 154) hx hb dX5_comes_134 (by decide) ?_
              refine lv_aload_n hx hb dX5_comes_154 rfl (lv_at hl 0 rfl) ?_
              refine lv_iload_n hx hb dX5_comes_155 rfl (lv_at hl 1 rfl) ?_
              refine lv_iload hx hb dX5_comes_156 (lv_at hl 4 rfl) ?_
              refine g_cvi (As := [.int (nI k), .int (nI (j / 4))]) ⟨hx, hb, hml, hown, hts⟩ (kX5_linesInSet l D cs n ad th nx σ20 k hk4 (j / 4) q2 (by omega) hqs (by simp only [eσ20, eσ14, eσ1]; rw [pMk, pMark_at (by decide) (by decide), pBA_at (by decide) (by decide) (by decide) (by decide) (Or.inr (by decide))]; exact hq2e)) (cwV 2 hts gX5_comes_X5_linesInSet rfl rfl rfl (by decide +kernel) ⟨Nat.le_of_ble_eq_true rfl, Nat.le_of_ble_eq_true rfl⟩) hK hP hD hS hA 0 (ci := 5) rfl rfl cr_obj hl.1 dX5_comes_158 rfl rfl (Nat.le_of_ble_eq_true rfl) ⟨Nat.zero_le _, Nat.zero_le _⟩ (fun r _ H locs hw hP hS => ?_)
              obtain rfl : r = nI (cntL σ20 k q2 (j / 4 % q2) 16) := hw
              have hP : va_P D vwCl (FW 22 ad (CR cs n ad th nx σ20)) H := hP
              refine lv_aload_n hx hb dX5_comes_161 rfl (lv_at hl 0 rfl) ?_
              refine va_get (D := D) (ci := 5) (v := .int (σ20.1 28 0 0)) (C := RX5) (T := TX5) (N := 29) hx hb hts iwX5_comes_X5 hown hK hP 0 cr_obj rfl 3 (by decide) (hts _ lkX5_comes_86) (fun _ h9 => h9) rfl dX5_comes_162 ?_
              refine lv_icmp_le (tgt := 176) hx hb dX5_comes_165 (by decide) (fun c21 => ?_) (fun c21 => ?_)
              · simp only [eσ20, eσ14, eσ1] at c21
                rw [pMk, pMark_at (f := 28) (by decide) (by decide), pBA_at (f := 28) (by decide) (by decide) (by decide) (by decide) (Or.inr (by decide))] at c21
                have hpm : pMay σ n k (nI j) w = (pMark (pBA (nI k) (j / 4) w n σ) k (j / 4) w, true) := by rw [pMay_in hj, if_neg hmo, if_neg hd0, hq2e, iN_nI (show q2 < 2 ^ 31 by omega), if_neg (Int32.not_lt.mpr c21)]
                refine lv_iconst (v := 1) hx hb dX5_comes_176 (by decide) ?_
                exact hret _ _ _ _ () _ _ dX5_comes_177 hP hS (Or.inr rfl) (by rw [hpm]; rfl) (by rw [hpm]; simp only [eσ20, eσ14, eσ1]; first | done | rfl | (rw [pMk]))
              · simp only [eσ20, eσ14, eσ1] at c21
                rw [pMk, pMark_at (f := 28) (by decide) (by decide), pBA_at (f := 28) (by decide) (by decide) (by decide) (by decide) (Or.inr (by decide))] at c21
                have hpm : pMay σ n k (nI j) w = (pBreak (pMark (pBA (nI k) (j / 4) w n σ) k (j / 4) w) k 3, false) := by rw [pMay_in hj, if_neg hmo, if_neg hd0, hq2e, iN_nI (show q2 < 2 ^ 31 by omega), if_pos (Int32.not_le.mp c21)]
                refine lv_aload_n hx hb dX5_comes_168 rfl (lv_at hl 0 rfl) ?_
                refine lv_iload_n hx hb dX5_comes_169 rfl (lv_at hl 1 rfl) ?_
                refine lv_iconst (v := 3) hx hb dX5_comes_170 (by decide) ?_
                refine g_cvv (As := [.int (nI k), .int 3]) ⟨hx, hb, hml, hown, hts⟩ (kX5_brk l D cs n ad th nx σ20 k hk4 3 G (by simp only [eσ20, eσ14, eσ1]; rw [pMk]; exact Inv_mark (Inv_BA hI n hn4) hk4 (by omega) hd0)) (cwV 2 hts gX5_comes_X5_breakOff rfl rfl rfl (by decide +kernel) ⟨Nat.le_of_ble_eq_true rfl, Nat.le_of_ble_eq_true rfl⟩) hK hP hD hS hA 0 (ci := 5) rfl rfl cr_obj hl.1 dX5_comes_171 rfl rfl (Nat.le_of_ble_eq_true rfl) ⟨Nat.zero_le _, Nat.zero_le _⟩ (fun _ H locs hw hP hS => ?_)
                obtain ⟨σ22, eσ22⟩ : ∃ z, z = pBreak σ20 k 3 := ⟨_, rfl⟩
                have hP : va_P D vwCl (FW 22 ad (CR cs n ad th nx σ22)) H := by rw [eσ22]; exact hP
                refine lv_iconst (v := 0) hx hb dX5_comes_174 (by decide) ?_
                exact hret _ _ _ _ () _ _ dX5_comes_175 hP hS (Or.inl rfl) (by rw [hpm]; rfl) (by rw [hpm]; simp only [eσ22, eσ20, eσ14, eσ1]; first | done | rfl | (rw [pMk]))
          · simp only [eσ14, eσ1] at c15
            have hpm : pMay σ n k (nI j) w = (pBA (nI k) (j / 4) w n σ, true) := by rw [pMay_in hj, if_neg hmo, if_pos c15]
            refine lv_iconst (v := 1) hx hb dX5_comes_111 (by decide) ?_
            exact hret _ _ _ _ () _ _ dX5_comes_112 hP hS (Or.inr rfl) (by rw [hpm]; rfl) (by rw [hpm]; simp only [eσ14, eσ1]; first | done | rfl | (rw [pMk]))
        · have hmo : mOld σ k (j / 4) w n = true := bI1 (fun h => c13 (hv.trans h))
          have hpm : pMay σ n k (nI j) w = (pBreak σ k 4, false) := by rw [pMay_in hj, if_pos hmo]
          refine lv_aload_n hx hb dX5_comes_86 rfl (lv_at hl 0 rfl) ?_
          refine lv_iload_n hx hb dX5_comes_87 rfl (lv_at hl 1 rfl) ?_
          refine lv_iconst (v := 4) hx hb dX5_comes_88 (by decide) ?_
          refine g_cvv (As := [.int (nI k), .int 4]) ⟨hx, hb, hml, hown, hts⟩ (kX5_brk l D cs n ad th nx σ1 k hk4 4 G (by simp only [eσ1]; exact hI)) (cwV 2 hts gX5_comes_X5_breakOff rfl rfl rfl (by decide +kernel) ⟨Nat.le_of_ble_eq_true rfl, Nat.le_of_ble_eq_true rfl⟩) hK hP hD hS hA 0 (ci := 5) rfl rfl cr_obj hl.1 dX5_comes_89 rfl rfl (Nat.le_of_ble_eq_true rfl) ⟨Nat.zero_le _, Nat.zero_le _⟩ (fun _ H locs hw hP hS => ?_)
          obtain ⟨σ23, eσ23⟩ : ∃ z, z = pBreak σ1 k 4 := ⟨_, rfl⟩
          have hP : va_P D vwCl (FW 22 ad (CR cs n ad th nx σ23)) H := by rw [eσ23]; exact hP
          refine lv_iconst (v := 0) hx hb dX5_comes_92 (by decide) ?_
          exact hret _ _ _ _ () _ _ dX5_comes_93 hP hS (Or.inl rfl) (by rw [hpm]; rfl) (by rw [hpm]; simp only [eσ23, eσ1]; first | done | rfl | (rw [pMk]))
    | succ d ih =>
      intro i hi v hv H locs ls hP hS hl
      have hi2 : i < n := by omega
      obtain ⟨σ24, eσ24⟩ : ∃ z, z = σ := ⟨_, rfl⟩
      have hP : va_P D vwCl (FW 22 ad (CR cs n ad th nx σ24)) H := by rw [eσ24]; exact hP
      refine lv_iload hx hb dX5_comes_11 (lv_at hl 6 rfl) ?_
      refine lv_aload_n hx hb dX5_comes_13 rfl (lv_at hl 0 rfl) ?_
      refine va_get (D := D) (ci := 5) (v := .int (nI n)) (C := RX5) (T := TX5) (N := 29) hx hb hts iwX5_comes_X5 hown hK hP 0 cr_obj rfl 1 (by decide) (hts _ lkX5_comes_79) (fun _ h9 => h9) rfl dX5_comes_14 ?_
      refine lv_icmp_ge (tgt := 72) hx hb dX5_comes_17 (by decide) (fun c25 => absurd c25 (nI_ge hi2 (by omega))) (fun c25 => ?_)
      refine lv_iload hx hb dX5_comes_20 (lv_at hl 5 rfl) ?_
      refine lv_if_ne (tgt := 59) hx hb dX5_comes_22 (by decide) (fun c26 => ?_) (fun c26 => ?_)
      · refine lv_iconst (v := 1) hx hb dX5_comes_59 (by decide) ?_
        refine lv_goto (tgt := 64) hx hb dX5_comes_60 (by decide) ?_
        refine lv_istore (lv' := [(5, .int 1), (0, .ref (ad 0)), (1, .int (nI k)), (2, .int (nI j)), (3, .int (bI w)), (4, .int (nI (j / 4))), (6, .int (nI i))]) hx hb dX5_comes_64 hl (by decide) rfl (fun ls hl => ?_)
        refine lv_iinc (v := nI (i + 1)) (lv' := [(6, .int (nI (i + 1))), (5, .int 1), (0, .ref (ad 0)), (1, .int (nI k)), (2, .int (nI j)), (3, .int (bI w)), (4, .int (nI (j / 4)))]) hx hb dX5_comes_66 hl (k := 6) rfl (nI_1 i) (by decide) rfl (fun ls hl => ?_)
        refine lv_goto (tgt := 11) hx hb dX5_comes_69 (by decide) ?_
        exact ih (i + 1) (by omega) 1 (by rw [mOld_mono (show i ≤ i + 1 by omega) (bI1 (fun h => c26 (hv.trans h)))]; rfl) _ _ _ (by simp only [eσ24] at hP; exact hP) hS (lv_sub hl [2, 3, 4, 5, 6, 1, 0] rfl)
      · have hmf : mOld σ k (j / 4) w i = false := bI0 (hv.symm.trans c26)
        refine lv_iload hx hb dX5_comes_25 (lv_at hl 6 rfl) ?_
        refine lv_iload_n hx hb dX5_comes_27 rfl (lv_at hl 1 rfl) ?_
        refine lv_icmp_eq (tgt := 63) hx hb dX5_comes_28 (by decide) (fun c27 => ?_) (fun c27 => ?_)
        · have hik : i = k := (nI_eq (by omega) (by omega)).mp c27
          refine lv_iconst (v := 0) hx hb dX5_comes_63 (by decide) ?_
          refine lv_istore (lv' := [(5, .int 0), (0, .ref (ad 0)), (1, .int (nI k)), (2, .int (nI j)), (3, .int (bI w)), (4, .int (nI (j / 4))), (6, .int (nI i))]) hx hb dX5_comes_64 hl (by decide) rfl (fun ls hl => ?_)
          refine lv_iinc (v := nI (i + 1)) (lv' := [(6, .int (nI (i + 1))), (5, .int 0), (0, .ref (ad 0)), (1, .int (nI k)), (2, .int (nI j)), (3, .int (bI w)), (4, .int (nI (j / 4)))]) hx hb dX5_comes_66 hl (k := 6) rfl (nI_1 i) (by decide) rfl (fun ls hl => ?_)
          refine lv_goto (tgt := 11) hx hb dX5_comes_69 (by decide) ?_
          exact ih (i + 1) (by omega) 0 (by rw [mO_n hmf (fun h => h.1 hik)]; rfl) _ _ _ (by simp only [eσ24] at hP; exact hP) hS (lv_sub hl [2, 3, 4, 5, 6, 1, 0] rfl)
        · have hik : i ≠ k := fun h => c27 (by rw [h])
          refine lv_aload_n hx hb dX5_comes_31 rfl (lv_at hl 0 rfl) ?_
          refine lv_iload hx hb dX5_comes_32 (lv_at hl 6 rfl) ?_
          refine lv_iload hx hb dX5_comes_34 (lv_at hl 4 rfl) ?_
          refine lv_iload_n hx hb dX5_comes_36 rfl (lv_at hl 3 rfl) ?_
          refine g_cvi (As := [.int (nI i), .int (nI (j / 4)), .int (bI w)]) ⟨hx, hb, hml, hown, hts⟩ (kX5_meets l D cs n ad th nx σ24 i (j / 4) (by omega) w G (by simp only [eσ24]; exact hI.2.2.2.2.2 i (by omega))) (cwV 3 hts gX5_comes_X5_meets rfl rfl rfl (by decide +kernel) ⟨Nat.le_of_ble_eq_true rfl, Nat.le_of_ble_eq_true rfl⟩) hK hP hD hS hA 0 (ci := 5) rfl rfl cr_obj hl.1 dX5_comes_37 rfl rfl (Nat.le_of_ble_eq_true rfl) ⟨Nat.zero_le _, Nat.zero_le _⟩ (fun r _ H locs hw hP hS => ?_)
          obtain rfl : r = bI (tch σ24 i (j / 4) w) := hw
          have hP : va_P D vwCl (FW 22 ad (CR cs n ad th nx σ24)) H := hP
          refine lv_if_eq (tgt := 63) hx hb dX5_comes_40 (by decide) (fun c28 => ?_) (fun c28 => ?_)
          · have htc : tch σ i (j / 4) w = false := bI0 (by simp only [eσ24] at c28; exact c28)
            refine lv_iconst (v := 0) hx hb dX5_comes_63 (by decide) ?_
            refine lv_istore (lv' := [(5, .int 0), (0, .ref (ad 0)), (1, .int (nI k)), (2, .int (nI j)), (3, .int (bI w)), (4, .int (nI (j / 4))), (6, .int (nI i))]) hx hb dX5_comes_64 hl (by decide) rfl (fun ls hl => ?_)
            refine lv_iinc (v := nI (i + 1)) (lv' := [(6, .int (nI (i + 1))), (5, .int 0), (0, .ref (ad 0)), (1, .int (nI k)), (2, .int (nI j)), (3, .int (bI w)), (4, .int (nI (j / 4)))]) hx hb dX5_comes_66 hl (k := 6) rfl (nI_1 i) (by decide) rfl (fun ls hl => ?_)
            refine lv_goto (tgt := 11) hx hb dX5_comes_69 (by decide) ?_
            exact ih (i + 1) (by omega) 0 (by rw [mO_n hmf (fun h => by rw [htc] at h; exact absurd h.2.1 (by decide))]; rfl) _ _ _ (by simp only [eσ24] at hP; exact hP) hS (lv_sub hl [2, 3, 4, 5, 6, 1, 0] rfl)
          · have htc : tch σ i (j / 4) w = true := bI1 (by simp only [eσ24] at c28; exact c28)
            refine lv_aload_n hx hb dX5_comes_43 rfl (lv_at hl 0 rfl) ?_
            refine va_get (D := D) (ci := 5) (v := .ref (ad 11)) (C := RX5) (T := TX5) (N := 29) hx hb hts iwX5_comes_X5 hown hK hP 0 cr_obj rfl 15 (by decide) (hts _ lkX5_comes_41) (fun _ h9 => h9) rfl dX5_comes_44 ?_
            refine lv_iload hx hb dX5_comes_47 (lv_at hl 6 rfl) ?_
            refine g_iald (t0 := 0) (v := σ24.1 19 i 0) hx hb hK hP cr_ages rfl i rfl (by omega) (by decide) rfl dX5_comes_49 ?_
            refine lv_aload_n hx hb dX5_comes_50 rfl (lv_at hl 0 rfl) ?_
            refine va_get (D := D) (ci := 5) (v := .ref (ad 11)) (C := RX5) (T := TX5) (N := 29) hx hb hts iwX5_comes_X5 hown hK hP 0 cr_obj rfl 15 (by decide) (hts _ lkX5_comes_41) (fun _ h9 => h9) rfl dX5_comes_51 ?_
            refine lv_iload_n hx hb dX5_comes_54 rfl (lv_at hl 1 rfl) ?_
            refine g_iald (t0 := 0) (v := σ24.1 19 k 0) hx hb hK hP cr_ages rfl k rfl hk4 (by decide) rfl dX5_comes_55 ?_
            refine lv_icmp_ge (tgt := 63) hx hb dX5_comes_56 (by decide) (fun c29 => ?_) (fun c29 => ?_)
            · simp only [eσ24] at c29
              refine lv_iconst (v := 0) hx hb dX5_comes_63 (by decide) ?_
              refine lv_istore (lv' := [(5, .int 0), (0, .ref (ad 0)), (1, .int (nI k)), (2, .int (nI j)), (3, .int (bI w)), (4, .int (nI (j / 4))), (6, .int (nI i))]) hx hb dX5_comes_64 hl (by decide) rfl (fun ls hl => ?_)
              refine lv_iinc (v := nI (i + 1)) (lv' := [(6, .int (nI (i + 1))), (5, .int 0), (0, .ref (ad 0)), (1, .int (nI k)), (2, .int (nI j)), (3, .int (bI w)), (4, .int (nI (j / 4)))]) hx hb dX5_comes_66 hl (k := 6) rfl (nI_1 i) (by decide) rfl (fun ls hl => ?_)
              refine lv_goto (tgt := 11) hx hb dX5_comes_69 (by decide) ?_
              exact ih (i + 1) (by omega) 0 (by rw [mO_n hmf (fun h => absurd h.2.2 (Int32.not_lt.mpr c29))]; rfl) _ _ _ (by simp only [eσ24] at hP; exact hP) hS (lv_sub hl [2, 3, 4, 5, 6, 1, 0] rfl)
            · simp only [eσ24] at c29
              refine lv_iconst (v := 1) hx hb dX5_comes_59 (by decide) ?_
              refine lv_goto (tgt := 64) hx hb dX5_comes_60 (by decide) ?_
              refine lv_istore (lv' := [(5, .int 1), (0, .ref (ad 0)), (1, .int (nI k)), (2, .int (nI j)), (3, .int (bI w)), (4, .int (nI (j / 4))), (6, .int (nI i))]) hx hb dX5_comes_64 hl (by decide) rfl (fun ls hl => ?_)
              refine lv_iinc (v := nI (i + 1)) (lv' := [(6, .int (nI (i + 1))), (5, .int 1), (0, .ref (ad 0)), (1, .int (nI k)), (2, .int (nI j)), (3, .int (bI w)), (4, .int (nI (j / 4)))]) hx hb dX5_comes_66 hl (k := 6) rfl (nI_1 i) (by decide) rfl (fun ls hl => ?_)
              refine lv_goto (tgt := 11) hx hb dX5_comes_69 (by decide) ?_
              exact ih (i + 1) (by omega) 1 (by rw [mO_y hik htc (Int32.not_le.mp c29)]; rfl) _ _ _ (by simp only [eσ24] at hP; exact hP) hS (lv_sub hl [2, 3, 4, 5, 6, 1, 0] rfl)
  exact loop (n) 0 (by omega) 0 rfl _ _ _ (hP) hS (lv_sub hl [3, 4, 5, 6, 2, 1, 0] rfl)
