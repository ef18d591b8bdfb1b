/-! an instruction and a step of the class -/
theorem doe_0 {σ : St} {n k i : Nat} (h : σ.1 1 0 i = 0) : pDoes σ n k i = (pGive σ k (iN (σ.1 2 0 i)) (σ.1 4 0 i), nI i + 1, true) := by simp [pDoes, h]
theorem doe_1 {σ : St} {n k i : Nat} (h : σ.1 1 0 i = 1) : pDoes σ n k i = (pGive σ k (iN (σ.1 2 0 i)) (σ.1 10 k (iN (σ.1 3 0 i)) + σ.1 10 k (iN (σ.1 4 0 i))), nI i + 1, true) := by simp [pDoes, h]
theorem doe_2 {σ : St} {n k i : Nat} (h : σ.1 1 0 i = 2) : pDoes σ n k i = (pGive σ k (iN (σ.1 2 0 i)) (σ.1 10 k (iN (σ.1 3 0 i)) - σ.1 10 k (iN (σ.1 4 0 i))), nI i + 1, true) := by simp [pDoes, h]
theorem doe_3 {σ : St} {n k i : Nat} (h : σ.1 1 0 i = 3) : pDoes σ n k i = (pGive σ k (iN (σ.1 2 0 i)) (σ.1 10 k (iN (σ.1 3 0 i)) * σ.1 10 k (iN (σ.1 4 0 i))), nI i + 1, true) := by simp [pDoes, h]
theorem doe_4 {σ : St} {n k i : Nat} (h : σ.1 1 0 i = 4) : pDoes σ n k i = (pGive σ k (iN (σ.1 2 0 i)) (σ.1 10 k (iN (σ.1 3 0 i)) + σ.1 4 0 i), nI i + 1, true) := by simp [pDoes, h]
theorem doe_7 {σ : St} {n k i : Nat} (h : σ.1 1 0 i = 7) : pDoes σ n k i = (σ, if σ.1 10 k (iN (σ.1 2 0 i)) < σ.1 10 k (iN (σ.1 3 0 i)) then σ.1 4 0 i else nI i + 1, true) := by simp [pDoes, h]
theorem doe_8 {σ : St} {n k i : Nat} (h : σ.1 1 0 i = 8) : pDoes σ n k i = (σ, if σ.1 10 k (iN (σ.1 2 0 i)) ≠ σ.1 10 k (iN (σ.1 3 0 i)) then σ.1 4 0 i else nI i + 1, true) := by simp [pDoes, h]
theorem doe_9 {σ : St} {n k i : Nat} (h : σ.1 1 0 i = 9) : pDoes σ n k i = (σ, σ.1 4 0 i, true) := by simp [pDoes, h]
theorem doe_10 {σ : St} {n k i : Nat} (h : σ.1 1 0 i = 10) : pDoes σ n k i = ((pBegin σ k i).1, nI i + 1, (pBegin σ k i).2) := by simp [pDoes, h]
theorem doe_11 {σ : St} {n k i : Nat} (h : σ.1 1 0 i = 11) : pDoes σ n k i = (pEnd σ k, nI i + 1, true) := by simp [pDoes, h]
theorem doe_5 {σ : St} {n k i : Nat} (h : σ.1 1 0 i = 5) : pDoes σ n k i = if (pMay σ n k (σ.1 10 k (iN (σ.1 3 0 i)) + σ.1 4 0 i) false).2 = true then (pGive (pMay σ n k (σ.1 10 k (iN (σ.1 3 0 i)) + σ.1 4 0 i) false).1 k (iN (σ.1 2 0 i)) (pSeen (pMay σ n k (σ.1 10 k (iN (σ.1 3 0 i)) + σ.1 4 0 i) false).1 k (iN (σ.1 10 k (iN (σ.1 3 0 i)) + σ.1 4 0 i))), nI i + 1, true) else ((pMay σ n k (σ.1 10 k (iN (σ.1 3 0 i)) + σ.1 4 0 i) false).1, nI i + 1, false) := by
  unfold pDoes
  dsimp only
  rw [h]
  rfl
theorem doe_6 {σ : St} {n k i : Nat} (h : σ.1 1 0 i = 6) : pDoes σ n k i = if (pMay σ n k (σ.1 10 k (iN (σ.1 3 0 i)) + σ.1 4 0 i) true).2 = true then (pWrite (pMay σ n k (σ.1 10 k (iN (σ.1 3 0 i)) + σ.1 4 0 i) true).1 k (iN (σ.1 10 k (iN (σ.1 3 0 i)) + σ.1 4 0 i)) (σ.1 10 k (iN (σ.1 2 0 i))), nI i + 1, true) else ((pMay σ n k (σ.1 10 k (iN (σ.1 3 0 i)) + σ.1 4 0 i) true).1, nI i + 1, false) := by
  unfold pDoes
  dsimp only
  rw [h]
  rfl
theorem doe_12 {σ : St} {n k i : Nat} (h : σ.1 1 0 i = 12) : pDoes σ n k i = if σ.1 18 k 0 = 0 then (σ, nI i + 1, true) else (pBreak σ k (256 + σ.1 10 k (iN (σ.1 2 0 i))), nI i + 1, false) := by
  unfold pDoes
  dsimp only
  rw [h]
  rfl
theorem doe_13 {σ : St} {n k i : Nat} (h : σ.1 1 0 i = 13) : pDoes σ n k i = if σ.1 18 k 0 = 0 then (put σ 14 k 0 1, nI i + 1, true) else (pBreak (put σ 14 k 0 0) k 5, nI i + 1, false) := by
  unfold pDoes
  dsimp only
  rw [h]
  rfl
theorem put14_break {σ : St} {k : Nat} {v c : Int32} : put (pBreak σ k c) 14 k 0 v = pBreak (put σ 14 k 0 v) k c := by
  unfold pBreak pClose pAdd
  refine Prod.ext (funext fun f' => funext fun k' => funext fun j' => ?_) (funext fun k' => ?_)
  case refine_2 => by_cases h2 : iN (σ.1 7 0 0) < 100 <;> simp [put, putA, putL, h2]
  by_cases h : f' = 14
  · subst h
    by_cases h2 : iN (σ.1 7 0 0) < 100 <;> simp [put, putA, putL, h2]
  · by_cases h2 : iN (σ.1 7 0 0) < 100 <;> simp [put, putA, putL, h, h2]
theorem isR_nI {x : Int32} (h : isR x) : ∃ a, a < 8 ∧ x = nI a := i32_of (N := 8) (by decide) h.1 h.2
theorem pMay_word {σ : St} {n k : Nat} {x : Int32} {w : Bool} (h : (pMay σ n k x w).2 = true) : ∃ j, j < 64 ∧ x = nI j := by
  by_cases h1 : 0 ≤ x ∧ x < 64
  · exact i32_of (N := 64) (by decide) h1.1 h1.2
  · rw [pMay_out h1] at h; cases h
theorem iwX4_executeTransactional_X0 : ∀ w ∈ wsX00, w ∈ wsX4_executeTransactional := fun w h => by unfold wsX4_executeTransactional; simp only [List.mem_cons, List.mem_append, h, true_or, or_true]
theorem iwX4_executeTransactional_X1 : ∀ w ∈ wsX10, w ∈ wsX4_executeTransactional := fun w h => by unfold wsX4_executeTransactional; simp only [List.mem_cons, List.mem_append, h, true_or, or_true]
theorem iwX4_executeTransactional_X4 : ∀ w ∈ wsX40, w ∈ wsX4_executeTransactional := fun w h => by unfold wsX4_executeTransactional; simp only [List.mem_cons, List.mem_append, h, true_or, or_true]
theorem lkX4_executeTransactional_16 : Cond.fieldLink RX4 16 "CoreTransactions" "program" "LCoreTransactions$Program;" ∈ wsX4_executeTransactional := by decide +kernel
theorem lkX4_executeTransactional_83 : Cond.fieldLink RX4 83 "CoreTransactions$Core" "ended" "Z" ∈ wsX4_executeTransactional := by decide +kernel
theorem lkX4_executeTransactional_90 : Cond.fieldLink RX4 90 "CoreTransactions$Core" "registers" "[I" ∈ wsX4_executeTransactional := by decide +kernel
theorem lkX4_executeTransactional_154 : Cond.fieldLink RX4 154 "CoreTransactions$Program" "a" "[I" ∈ wsX4_executeTransactional := by decide +kernel
theorem lkX4_executeTransactional_163 : Cond.fieldLink RX4 163 "CoreTransactions$Program" "operations" "[I" ∈ wsX4_executeTransactional := by decide +kernel
abbrev rmX4_executeTransactional : Room := ({ frames := 3, cells := 0, slots := 0, locals := 107 } : Room)
set_option maxRecDepth 100000 in
set_option maxHeartbeats 4000000 in
theorem kX4_executeTransactional (l : Launch) (D : va_G) (cs : Nat → ClassId) (n : Nat) (ad : Nat → Nat) (σ : St) (k : Nat) (hk : k < n) (hn31 : n < 2 ^ 31) (i o : Nat) (hi80 : i < 80) (ho : σ.1 1 0 i = nI o) (ho10 : 10 ≤ o) (ho13 : o ≤ 13) (hok : okI σ i) (hQ : okQ σ) : gMi l yX4_executeTransactional wsX4_executeTransactional rmX4_executeTransactional D (tyL cs) (5 * (n + 2)) ad (CC cs n ad σ) [.ref (ad 0), .ref (ad (5 * (k + 2) + 0)), .int (nI i)] (fun (r : Int32) (u : Unit) => r = bI (pDoes σ n k i).2.2) (fun (u : Unit) => CC cs n ad (pDoes σ n k i).1) := by
  refine g_ofz (cc := cX4_executeTransactional) (maxL := 3) (by decide) rfl (Nat.le_of_ble_eq_true rfl) rfl rfl ?_
  intro p e s m args below meth c A ls Q hx hb hml hts hown hK hP hD hA hS hl hret
  have hl : lv_has ls 3 [(0, .ref (ad 0)), (1, .ref (ad (5 * (k + 2) + 0))), (2, .int (nI i))] := hl
  refine lv_aload_n hx hb dX4_executeTransactional_0 rfl (lv_at hl 0 rfl) ?_
  refine va_get (D := D) (ci := 4) (v := .ref (ad 3)) (C := RX4) (T := TX4) (N := 7) hx hb hts iwX4_executeTransactional_X4 hown hK hP 0 cc_obj rfl 4 (by decide) (hts _ lkX4_executeTransactional_16) (fun _ h9 => h9) rfl dX4_executeTransactional_1 ?_
  refine va_get (D := D) (ci := 1) (v := .ref (ad 5)) (C := RX1) (T := TX1) (N := 5) hx hb hts iwX4_executeTransactional_X1 hown hK hP 3 cc_pro rfl 0 (by decide) (hts _ lkX4_executeTransactional_163) (fun _ h9 => h9) rfl dX4_executeTransactional_4 ?_
  refine lv_iload_n hx hb dX4_executeTransactional_7 rfl (lv_at hl 2 rfl) ?_
  refine g_iald (t0 := 0) (v := σ.1 1 0 i) hx hb hK hP cc_ops rfl i rfl hi80 (by decide) rfl dX4_executeTransactional_8 ?_
  rcases (show o = 10 ∨ o = 11 ∨ o = 12 ∨ o = 13 by omega) with hov | hov | hov | hov
  · have hop : σ.1 1 0 i = 10 := by rw [ho, hov]; rfl
    refine g_top (y := 10) hop ?_
    refine lv_tableIn (tgt := 36) hx hb dX4_executeTransactional_9 (by decide) (by decide) rfl (by decide) ?_
    refine lv_aload_n hx hb dX4_executeTransactional_36 rfl (lv_at hl 0 rfl) ?_
    refine lv_aload_n hx hb dX4_executeTransactional_37 rfl (lv_at hl 1 rfl) ?_
    refine lv_iload_n hx hb dX4_executeTransactional_38 rfl (lv_at hl 2 rfl) ?_
    refine g_cvi (As := [.ref (ad (5 * (k + 2) + 0)), .int (nI i)]) ⟨hx, hb, hml, hown, hts⟩ (kX4_begin l D cs n ad σ k hk i hi80 hQ) (cwV 2 hts gX4_executeTransactional_X4_begin rfl rfl rfl (by decide +kernel) ⟨Nat.le_of_ble_eq_true rfl, Nat.le_of_ble_eq_true rfl⟩) hK hP hD hS hA 0 (ci := 4) rfl rfl cc_obj hl.1 dX4_executeTransactional_39 rfl rfl (Nat.le_of_ble_eq_true rfl) ⟨Nat.zero_le _, Nat.zero_le _⟩ (fun r _ H locs hw hP hS => ?_)
    obtain rfl : r = bI (pBegin σ k i).2 := hw
    obtain ⟨σ1, eσ1⟩ : ∃ z, z = (pBegin σ k i).1 := ⟨_, rfl⟩
    have hP : va_P D vwCl (FW (5 * (n + 2)) ad (CC cs n ad σ1)) H := by rw [eσ1]; exact hP
    exact hret _ _ _ _ () _ _ dX4_executeTransactional_42 hP hS (zq_bI _) (by rw [doe_10 hop]) (by rw [doe_10 hop]; simp only [eσ1]; first | done | rfl)
  · have hop : σ.1 1 0 i = 11 := by rw [ho, hov]; rfl
    refine g_top (y := 11) hop ?_
    refine lv_tableIn (tgt := 43) hx hb dX4_executeTransactional_9 (by decide) (by decide) rfl (by decide) ?_
    refine lv_aload_n hx hb dX4_executeTransactional_43 rfl (lv_at hl 0 rfl) ?_
    refine lv_aload_n hx hb dX4_executeTransactional_44 rfl (lv_at hl 1 rfl) ?_
    refine g_cvv (As := [.ref (ad (5 * (k + 2) + 0))]) ⟨hx, hb, hml, hown, hts⟩ (kX4_end l D cs n ad σ k hk) (cwV 1 hts gX4_executeTransactional_X4_end rfl rfl rfl (by decide +kernel) ⟨Nat.le_of_ble_eq_true rfl, Nat.le_of_ble_eq_true rfl⟩) hK hP hD hS hA 0 (ci := 4) rfl rfl cc_obj hl.1 dX4_executeTransactional_45 rfl rfl (Nat.le_of_ble_eq_true rfl) ⟨Nat.zero_le _, Nat.zero_le _⟩ (fun _ H locs hw hP hS => ?_)
    obtain ⟨σ2, eσ2⟩ : ∃ z, z = pEnd σ k := ⟨_, rfl⟩
    have hP : va_P D vwCl (FW (5 * (n + 2)) ad (CC cs n ad σ2)) H := by rw [eσ2]; exact hP
    refine lv_iconst (v := 1) hx hb dX4_executeTransactional_48 (by decide) ?_
    exact hret _ _ _ _ () _ _ dX4_executeTransactional_49 hP hS (Or.inr rfl) (by rw [doe_11 hop]; rfl) (by rw [doe_11 hop]; simp only [eσ2]; first | done | rfl)
  · have hop : σ.1 1 0 i = 12 := by rw [ho, hov]; rfl
    refine g_top (y := 12) hop ?_
    refine lv_tableIn (tgt := 50) hx hb dX4_executeTransactional_9 (by decide) (by decide) rfl (by decide) ?_
    obtain ⟨a, ha8, hae⟩ := isR_nI (hok.2.2.1 (Or.inr hop))
    refine lv_aload_n hx hb dX4_executeTransactional_50 rfl (lv_at hl 0 rfl) ?_
    refine lv_aload_n hx hb dX4_executeTransactional_51 rfl (lv_at hl 1 rfl) ?_
    refine lv_sipush (v := 256) hx hb dX4_executeTransactional_52 (by decide) ?_
    refine lv_aload_n hx hb dX4_executeTransactional_55 rfl (lv_at hl 1 rfl) ?_
    refine va_get (D := D) (ci := 0) (v := .ref (ad (5 * (k + 2) + 1))) (C := RX0) (T := TX0) (N := 8) hx hb hts iwX4_executeTransactional_X0 hown hK hP (5 * (k + 2) + 0) (cc_core hk) rfl 1 (by decide) (hts _ lkX4_executeTransactional_90) (fun _ h9 => h9) rfl dX4_executeTransactional_56 ?_
    refine lv_aload_n hx hb dX4_executeTransactional_59 rfl (lv_at hl 0 rfl) ?_
    refine va_get (D := D) (ci := 4) (v := .ref (ad 3)) (C := RX4) (T := TX4) (N := 7) hx hb hts iwX4_executeTransactional_X4 hown hK hP 0 cc_obj rfl 4 (by decide) (hts _ lkX4_executeTransactional_16) (fun _ h9 => h9) rfl dX4_executeTransactional_60 ?_
    refine va_get (D := D) (ci := 1) (v := .ref (ad 6)) (C := RX1) (T := TX1) (N := 5) hx hb hts iwX4_executeTransactional_X1 hown hK hP 3 cc_pro rfl 1 (by decide) (hts _ lkX4_executeTransactional_154) (fun _ h9 => h9) rfl dX4_executeTransactional_63 ?_
    refine lv_iload_n hx hb dX4_executeTransactional_66 rfl (lv_at hl 2 rfl) ?_
    refine g_iald (t0 := 0) (v := σ.1 2 0 i) hx hb hK hP cc_pa rfl i rfl hi80 (by decide) rfl dX4_executeTransactional_67 ?_
    refine g_iald (t0 := 0) (v := σ.1 10 k a) hx hb hK hP (cc_regs hk) rfl a hae ha8 (by decide) rfl dX4_executeTransactional_68 ?_
    refine lv_iadd hx hb dX4_executeTransactional_69 ?_
    refine g_cvi (As := [.ref (ad (5 * (k + 2) + 0)), .int (256 + (σ.1 10 k a))]) ⟨hx, hb, hml, hown, hts⟩ (kX4_breaksOff l D cs n ad σ k hk (256 + σ.1 10 k a) hQ) (cwV 2 hts gX4_executeTransactional_X4_breaksOff rfl rfl rfl (by decide +kernel) ⟨Nat.le_of_ble_eq_true rfl, Nat.le_of_ble_eq_true rfl⟩) hK hP hD hS hA 0 (ci := 4) rfl rfl cc_obj hl.1 dX4_executeTransactional_70 rfl rfl (Nat.le_of_ble_eq_true rfl) ⟨Nat.zero_le _, Nat.zero_le _⟩ (fun r _ H locs hw hP hS => ?_)
    obtain rfl : r = bI (decide (¬ σ.1 18 k 0 = 0)) := hw
    obtain ⟨σ3, eσ3⟩ : ∃ z, z = if σ.1 18 k 0 = 0 then σ else pBreak σ k (256 + σ.1 10 k a) := ⟨_, rfl⟩
    have hP : va_P D vwCl (FW (5 * (n + 2)) ad (CC cs n ad σ3)) H := by rw [eσ3]; exact hP
    refine lv_if_ne (tgt := 80) hx hb dX4_executeTransactional_73 (by decide) (fun c4 => ?_) (fun c4 => ?_)
    · have hd : ¬ σ.1 18 k 0 = 0 := of_decide_eq_true (bI1 c4)
      have hdo := doe_12 (n := n) (k := k) hop
      rw [if_neg hd, hae, iN_nI (show a < 2 ^ 31 by omega)] at hdo
      rw [if_neg hd] at eσ3
      refine lv_iconst (v := 0) hx hb dX4_executeTransactional_80 (by decide) ?_
      exact hret _ _ _ _ () _ _ dX4_executeTransactional_81 hP hS (Or.inl rfl) (by rw [hdo]; rfl) (by rw [hdo]; simp only [eσ3]; first | done | rfl)
    · have hd : σ.1 18 k 0 = 0 := Classical.not_not.mp (of_decide_eq_false (bI0 c4))
      have hdo := doe_12 (n := n) (k := k) hop
      rw [if_pos hd] at hdo
      rw [if_pos hd] at eσ3
      refine lv_iconst (v := 1) hx hb dX4_executeTransactional_76 (by decide) ?_
      refine lv_goto (tgt := 81) hx hb dX4_executeTransactional_77 (by decide) ?_
      exact hret _ _ _ _ () _ _ dX4_executeTransactional_81 hP hS (Or.inr rfl) (by rw [hdo]; rfl) (by rw [hdo]; simp only [eσ3]; first | done | rfl)
  · refine g_top (y := nI o) ho ?_
    refine lv_tableOut (tgt := 82) hx hb dX4_executeTransactional_9 (Or.inr (by rw [nI_toInt (by omega)]; omega)) (by decide) ?_
    have hop : σ.1 1 0 i = 13 := by rw [ho, hov]; rfl
    refine lv_aload_n hx hb dX4_executeTransactional_82 rfl (lv_at hl 1 rfl) ?_
    refine lv_aload_n hx hb dX4_executeTransactional_83 rfl (lv_at hl 0 rfl) ?_
    refine lv_aload_n hx hb dX4_executeTransactional_84 rfl (lv_at hl 1 rfl) ?_
    refine lv_iconst (v := 5) hx hb dX4_executeTransactional_85 (by decide) ?_
    refine g_cvi (As := [.ref (ad (5 * (k + 2) + 0)), .int 5]) ⟨hx, hb, hml, hown, hts⟩ (kX4_breaksOff l D cs n ad σ k hk 5 hQ) (cwV 2 hts gX4_executeTransactional_X4_breaksOff rfl rfl rfl (by decide +kernel) ⟨Nat.le_of_ble_eq_true rfl, Nat.le_of_ble_eq_true rfl⟩) hK hP hD hS hA 0 (ci := 4) rfl rfl cc_obj hl.1 dX4_executeTransactional_86 rfl rfl (Nat.le_of_ble_eq_true rfl) ⟨Nat.zero_le _, Nat.zero_le _⟩ (fun r _ H locs hw hP hS => ?_)
    obtain rfl : r = bI (decide (¬ σ.1 18 k 0 = 0)) := hw
    obtain ⟨σ5, eσ5⟩ : ∃ z, z = if σ.1 18 k 0 = 0 then σ else pBreak σ k 5 := ⟨_, rfl⟩
    have hP : va_P D vwCl (FW (5 * (n + 2)) ad (CC cs n ad σ5)) H := by rw [eσ5]; exact hP
    refine lv_if_ne (tgt := 96) hx hb dX4_executeTransactional_89 (by decide) (fun c6 => ?_) (fun c6 => ?_)
    · have hd : ¬ σ.1 18 k 0 = 0 := of_decide_eq_true (bI1 c6)
      have hdo := doe_13 (n := n) (k := k) hop
      rw [if_neg hd, ← put14_break] at hdo
      rw [if_neg hd] at eσ5
      refine lv_iconst (v := 0) hx hb dX4_executeTransactional_96 (by decide) ?_
      refine va_put (D := D) (ci := 0) (v := .int 0) (ty := .boolean) (C := RX0) (T := TX0) (N := 8) hx hb hts iwX4_executeTransactional_X0 tyX0 tyX0_ok nmX0 hown hK hP (hD _) hS (5 * (k + 2) + 0) (cc_core hk) rfl 4 (by decide) (hts _ lkX4_executeTransactional_83) (fun _ h9 => h9) rfl (by decide +kernel) rfl rfl (Nat.le_of_ble_eq_true rfl) dX4_executeTransactional_97 (fun H locs hP _ hS => ?_)
      obtain ⟨σ7, eσ7⟩ : ∃ z, z = put σ5 14 k 0 0 := ⟨_, rfl⟩
      have hP : va_P D vwCl (FW (5 * (n + 2)) ad (CC cs n ad σ7)) H := by rw [eσ7]; exact FW_P hP cu_core_4
      refine lv_aload_n hx hb dX4_executeTransactional_100 rfl (lv_at hl 1 rfl) ?_
      refine va_get (D := D) (ci := 0) (v := .int (σ7.1 14 k 0)) (C := RX0) (T := TX0) (N := 8) hx hb hts iwX4_executeTransactional_X0 hown hK hP (5 * (k + 2) + 0) (cc_core hk) rfl 4 (by decide) (hts _ lkX4_executeTransactional_83) (fun _ h9 => h9) rfl dX4_executeTransactional_101 ?_
      refine g_top (y := 0) (by rw [eσ7]; simp [put]) ?_
      exact hret _ _ _ _ () _ _ dX4_executeTransactional_104 hP hS (Or.inl rfl) (by rw [hdo]; rfl) (by rw [hdo]; simp only [eσ7, eσ5]; first | done | rfl)
    · have hd : σ.1 18 k 0 = 0 := Classical.not_not.mp (of_decide_eq_false (bI0 c6))
      have hdo := doe_13 (n := n) (k := k) hop
      rw [if_pos hd] at hdo
      rw [if_pos hd] at eσ5
      refine lv_iconst (v := 1) hx hb dX4_executeTransactional_92 (by decide) ?_
      refine lv_goto (tgt := 97) hx hb dX4_executeTransactional_93 (by decide) ?_
      refine va_put (D := D) (ci := 0) (v := .int 1) (ty := .boolean) (C := RX0) (T := TX0) (N := 8) hx hb hts iwX4_executeTransactional_X0 tyX0 tyX0_ok nmX0 hown hK hP (hD _) hS (5 * (k + 2) + 0) (cc_core hk) rfl 4 (by decide) (hts _ lkX4_executeTransactional_83) (fun _ h9 => h9) rfl (by decide +kernel) rfl rfl (Nat.le_of_ble_eq_true rfl) dX4_executeTransactional_97 (fun H locs hP _ hS => ?_)
      obtain ⟨σ8, eσ8⟩ : ∃ z, z = put σ5 14 k 0 1 := ⟨_, rfl⟩
      have hP : va_P D vwCl (FW (5 * (n + 2)) ad (CC cs n ad σ8)) H := by rw [eσ8]; exact FW_P hP cu_core_4
      refine lv_aload_n hx hb dX4_executeTransactional_100 rfl (lv_at hl 1 rfl) ?_
      refine va_get (D := D) (ci := 0) (v := .int (σ8.1 14 k 0)) (C := RX0) (T := TX0) (N := 8) hx hb hts iwX4_executeTransactional_X0 hown hK hP (5 * (k + 2) + 0) (cc_core hk) rfl 4 (by decide) (hts _ lkX4_executeTransactional_83) (fun _ h9 => h9) rfl dX4_executeTransactional_101 ?_
      refine g_top (y := 1) (by rw [eσ8]; simp [put]) ?_
      exact hret _ _ _ _ () _ _ dX4_executeTransactional_104 hP hS (Or.inr rfl) (by rw [hdo]; rfl) (by rw [hdo]; simp only [eσ8, eσ5]; first | done | rfl)

theorem doe_nx {σ : St} {n k i o : Nat} (ho : σ.1 1 0 i = nI o) (h10 : 10 ≤ o) (h13 : o ≤ 13) : (pDoes σ n k i).2.1 = nI i + 1 := by
  rcases (show o = 10 ∨ o = 11 ∨ o = 12 ∨ o = 13 by omega) with h | h | h | h
  · rw [doe_10 (by rw [ho, h]; rfl)]
  · rw [doe_11 (by rw [ho, h]; rfl)]
  · rw [doe_12 (by rw [ho, h]; rfl)]; split <;> rfl
  · rw [doe_13 (by rw [ho, h]; rfl)]; split <;> rfl
theorem iwX4_execute_X0 : ∀ w ∈ wsX00, w ∈ wsX4_execute := fun w h => by unfold wsX4_execute; simp only [List.mem_cons, List.mem_append, h, true_or, or_true]
theorem iwX4_execute_X1 : ∀ w ∈ wsX10, w ∈ wsX4_execute := fun w h => by unfold wsX4_execute; simp only [List.mem_cons, List.mem_append, h, true_or, or_true]
theorem iwX4_execute_X4 : ∀ w ∈ wsX40, w ∈ wsX4_execute := fun w h => by unfold wsX4_execute; simp only [List.mem_cons, List.mem_append, h, true_or, or_true]
theorem lkX4_execute_16 : Cond.fieldLink RX4 16 "CoreTransactions" "program" "LCoreTransactions$Program;" ∈ wsX4_execute := by decide +kernel
theorem lkX4_execute_71 : Cond.fieldLink RX4 71 "CoreTransactions$Core" "place" "I" ∈ wsX4_execute := by decide +kernel
theorem lkX4_execute_90 : Cond.fieldLink RX4 90 "CoreTransactions$Core" "registers" "[I" ∈ wsX4_execute := by decide +kernel
theorem lkX4_execute_154 : Cond.fieldLink RX4 154 "CoreTransactions$Program" "a" "[I" ∈ wsX4_execute := by decide +kernel
theorem lkX4_execute_157 : Cond.fieldLink RX4 157 "CoreTransactions$Program" "b" "[I" ∈ wsX4_execute := by decide +kernel
theorem lkX4_execute_160 : Cond.fieldLink RX4 160 "CoreTransactions$Program" "c" "[I" ∈ wsX4_execute := by decide +kernel
theorem lkX4_execute_163 : Cond.fieldLink RX4 163 "CoreTransactions$Program" "operations" "[I" ∈ wsX4_execute := by decide +kernel
abbrev rmX4_execute : Room := ({ frames := 4, cells := 0, slots := 0, locals := 131 } : Room)
set_option maxRecDepth 100000 in
set_option maxHeartbeats 4000000 in
theorem kX4_execute (l : Launch) (D : va_G) (cs : Nat → ClassId) (n : Nat) (ad : Nat → Nat) (σ : St) (k : Nat) (hk : k < n) (hn31 : n < 2 ^ 31) (i o : Nat) (hi80 : i < 80) (ho : σ.1 1 0 i = nI o) (ho13 : o ≤ 13) (hok : okI σ i) (hQ : okQ σ) (hSt : okS σ) : gMi l yX4_execute wsX4_execute rmX4_execute D (tyL cs) (5 * (n + 2)) ad (CC cs n ad σ) [.ref (ad 0), .ref (ad (5 * (k + 2) + 0)), .int (nI i)] (fun (r : Int32) (u : Unit) => r = bI (pExec σ n k i).2) (fun (u : Unit) => CC cs n ad (pExec σ n k i).1) := by
  refine g_ofz (cc := cX4_execute) (maxL := 8) (by decide) rfl (Nat.le_of_ble_eq_true rfl) rfl rfl ?_
  intro p e s m args below meth c A ls Q hx hb hml hts hown hK hP hD hA hS hl hret
  have hl : lv_has ls 8 [(0, .ref (ad 0)), (1, .ref (ad (5 * (k + 2) + 0))), (2, .int (nI i))] := hl
  refine lv_aload_n hx hb dX4_execute_0 rfl (lv_at hl 1 rfl) ?_
  refine va_get (D := D) (ci := 0) (v := .ref (ad (5 * (k + 2) + 1))) (C := RX0) (T := TX0) (N := 8) hx hb hts iwX4_execute_X0 hown hK hP (5 * (k + 2) + 0) (cc_core hk) rfl 1 (by decide) (hts _ lkX4_execute_90) (fun _ h9 => h9) rfl dX4_execute_1 ?_
  refine lv_astore_n (lv' := [(3, .ref (ad (5 * (k + 2) + 1))), (0, .ref (ad 0)), (1, .ref (ad (5 * (k + 2) + 0))), (2, .int (nI i))]) hx hb dX4_execute_4 rfl hl (by decide) rfl (fun ls hl => ?_)
  refine lv_aload_n hx hb dX4_execute_5 rfl (lv_at hl 1 rfl) ?_
  refine va_get (D := D) (ci := 4) (v := .ref (ad 3)) (C := RX4) (T := TX4) (N := 7) hx hb hts iwX4_execute_X4 hown hK hP 0 cc_obj rfl 4 (by decide) (hts _ lkX4_execute_16) (fun _ h9 => h9) rfl dX4_execute_6 ?_
  refine va_get (D := D) (ci := 1) (v := .ref (ad 6)) (C := RX1) (T := TX1) (N := 5) hx hb hts iwX4_execute_X1 hown hK hP 3 cc_pro rfl 1 (by decide) (hts _ lkX4_execute_154) (fun _ h9 => h9) rfl dX4_execute_9 ?_
  refine lv_iload_n hx hb dX4_execute_12 rfl (lv_at hl 3 rfl) ?_
  refine g_iald (t0 := 0) (v := σ.1 2 0 i) hx hb hK hP cc_pa rfl i rfl hi80 (by decide) rfl dX4_execute_13 ?_
  refine lv_istore (lv' := [(4, .int (σ.1 2 0 i)), (3, .ref (ad (5 * (k + 2) + 1))), (0, .ref (ad 0)), (1, .ref (ad (5 * (k + 2) + 0))), (2, .int (nI i))]) hx hb dX4_execute_14 hl (by decide) rfl (fun ls hl => ?_)
  refine lv_aload_n hx hb dX4_execute_16 rfl (lv_at hl 2 rfl) ?_
  refine va_get (D := D) (ci := 4) (v := .ref (ad 3)) (C := RX4) (T := TX4) (N := 7) hx hb hts iwX4_execute_X4 hown hK hP 0 cc_obj rfl 4 (by decide) (hts _ lkX4_execute_16) (fun _ h9 => h9) rfl dX4_execute_17 ?_
  refine va_get (D := D) (ci := 1) (v := .ref (ad 7)) (C := RX1) (T := TX1) (N := 5) hx hb hts iwX4_execute_X1 hown hK hP 3 cc_pro rfl 2 (by decide) (hts _ lkX4_execute_157) (fun _ h9 => h9) rfl dX4_execute_20 ?_
  refine lv_iload_n hx hb dX4_execute_23 rfl (lv_at hl 4 rfl) ?_
  refine g_iald (t0 := 0) (v := σ.1 3 0 i) hx hb hK hP cc_pb rfl i rfl hi80 (by decide) rfl dX4_execute_24 ?_
  refine lv_istore (lv' := [(5, .int (σ.1 3 0 i)), (4, .int (σ.1 2 0 i)), (3, .ref (ad (5 * (k + 2) + 1))), (0, .ref (ad 0)), (1, .ref (ad (5 * (k + 2) + 0))), (2, .int (nI i))]) hx hb dX4_execute_25 hl (by decide) rfl (fun ls hl => ?_)
  refine lv_aload_n hx hb dX4_execute_27 rfl (lv_at hl 3 rfl) ?_
  refine va_get (D := D) (ci := 4) (v := .ref (ad 3)) (C := RX4) (T := TX4) (N := 7) hx hb hts iwX4_execute_X4 hown hK hP 0 cc_obj rfl 4 (by decide) (hts _ lkX4_execute_16) (fun _ h9 => h9) rfl dX4_execute_28 ?_
  refine va_get (D := D) (ci := 1) (v := .ref (ad 8)) (C := RX1) (T := TX1) (N := 5) hx hb hts iwX4_execute_X1 hown hK hP 3 cc_pro rfl 3 (by decide) (hts _ lkX4_execute_160) (fun _ h9 => h9) rfl dX4_execute_31 ?_
  refine lv_iload_n hx hb dX4_execute_34 rfl (lv_at hl 5 rfl) ?_
  refine g_iald (t0 := 0) (v := σ.1 4 0 i) hx hb hK hP cc_pc rfl i rfl hi80 (by decide) rfl dX4_execute_35 ?_
  refine lv_istore (lv' := [(6, .int (σ.1 4 0 i)), (5, .int (σ.1 3 0 i)), (4, .int (σ.1 2 0 i)), (3, .ref (ad (5 * (k + 2) + 1))), (0, .ref (ad 0)), (1, .ref (ad (5 * (k + 2) + 0))), (2, .int (nI i))]) hx hb dX4_execute_36 hl (by decide) rfl (fun ls hl => ?_)
  refine lv_iload_n hx hb dX4_execute_38 rfl (lv_at hl 6 rfl) ?_
  refine lv_iconst (v := 1) hx hb dX4_execute_39 (by decide) ?_
  refine lv_iadd hx hb dX4_execute_40 ?_
  refine g_top (y := nI i + 1) (rfl) ?_
  refine lv_istore (lv' := [(7, .int (nI i + 1)), (6, .int (σ.1 4 0 i)), (5, .int (σ.1 3 0 i)), (4, .int (σ.1 2 0 i)), (3, .ref (ad (5 * (k + 2) + 1))), (0, .ref (ad 0)), (1, .ref (ad (5 * (k + 2) + 0))), (2, .int (nI i))]) hx hb dX4_execute_41 hl (by decide) rfl (fun ls hl => ?_)
  refine lv_aload_n hx hb dX4_execute_43 rfl (lv_at hl 5 rfl) ?_
  refine va_get (D := D) (ci := 4) (v := .ref (ad 3)) (C := RX4) (T := TX4) (N := 7) hx hb hts iwX4_execute_X4 hown hK hP 0 cc_obj rfl 4 (by decide) (hts _ lkX4_execute_16) (fun _ h9 => h9) rfl dX4_execute_44 ?_
  refine va_get (D := D) (ci := 1) (v := .ref (ad 5)) (C := RX1) (T := TX1) (N := 5) hx hb hts iwX4_execute_X1 hown hK hP 3 cc_pro rfl 0 (by decide) (hts _ lkX4_execute_163) (fun _ h9 => h9) rfl dX4_execute_47 ?_
  refine lv_iload_n hx hb dX4_execute_50 rfl (lv_at hl 7 rfl) ?_
  refine g_iald (t0 := 0) (v := σ.1 1 0 i) hx hb hK hP cc_ops rfl i rfl hi80 (by decide) rfl dX4_execute_51 ?_
  rcases (show o = 0 ∨ o = 1 ∨ o = 2 ∨ o = 3 ∨ o = 4 ∨ o = 5 ∨ o = 6 ∨ o = 7 ∨ o = 8 ∨ o = 9 ∨ 10 ≤ o by omega) with hov | hov | hov | hov | hov | hov | hov | hov | hov | hov | hov
  · have hop : σ.1 1 0 i = 0 := by rw [ho, hov]; rfl
    refine g_top (y := 0) hop ?_
    refine lv_tableIn (tgt := 108) hx hb dX4_execute_52 (by decide) (by decide) rfl (by decide) ?_
    obtain ⟨a, ha8, hae⟩ := isR_nI (hok.2.2.1 (Or.inl (by rw [hop]; decide)))
    have hdo := doe_0 (n := n) (k := k) hop
    rw [hae, iN_nI (show a < 2 ^ 31 by omega)] at hdo
    have hex := pExec_t hdo
    refine lv_aload_n hx hb dX4_execute_108 rfl (lv_at hl 6 rfl) ?_
    refine lv_iload hx hb dX4_execute_109 (lv_at hl 3 rfl) ?_
    refine g_top (y := nI a) (hae) ?_
    refine lv_iload hx hb dX4_execute_111 (lv_at hl 1 rfl) ?_
    refine g_cvv (As := [.int (nI a), .int (σ.1 4 0 i)]) ⟨hx, hb, hml, hown, hts⟩ (kX0_put l D cs n ad σ k hk a ha8 (σ.1 4 0 i)) (cwV 2 hts gX4_execute_X0_put rfl rfl rfl (by decide +kernel) ⟨Nat.le_of_ble_eq_true rfl, Nat.le_of_ble_eq_true rfl⟩) hK hP hD hS hA (5 * (k + 2) + 0) (ci := 0) rfl rfl (cc_core hk) hl.1 dX4_execute_113 rfl rfl (Nat.le_of_ble_eq_true rfl) ⟨Nat.zero_le _, Nat.zero_le _⟩ (fun _ H locs hw hP hS => ?_)
    obtain ⟨σ1, eσ1⟩ : ∃ z, z = pGive σ k a (σ.1 4 0 i) := ⟨_, rfl⟩
    have hP : va_P D vwCl (FW (5 * (n + 2)) ad (CC cs n ad σ1)) H := by rw [eσ1]; exact hP
    refine lv_goto (tgt := 329) hx hb dX4_execute_116 (by decide) ?_
    refine lv_aload_n hx hb dX4_execute_329 rfl (lv_at hl 6 rfl) ?_
    refine lv_iload hx hb dX4_execute_330 (lv_at hl 0 rfl) ?_
    refine va_put (D := D) (ci := 0) (v := .int (nI i + 1)) (ty := .int) (C := RX0) (T := TX0) (N := 8) hx hb hts iwX4_execute_X0 tyX0 tyX0_ok nmX0 hown hK hP (hD _) hS (5 * (k + 2) + 0) (cc_core hk) rfl 3 (by decide) (hts _ lkX4_execute_71) (fun _ h9 => h9) rfl (by decide +kernel) rfl rfl (Nat.le_of_ble_eq_true rfl) dX4_execute_332 (fun H locs hP _ hS => ?_)
    obtain ⟨σ2, eσ2⟩ : ∃ z, z = put σ1 13 k 0 (nI i + 1) := ⟨_, rfl⟩
    have hP : va_P D vwCl (FW (5 * (n + 2)) ad (CC cs n ad σ2)) H := by rw [eσ2]; exact FW_P hP cu_core_3
    refine lv_iconst (v := 1) hx hb dX4_execute_335 (by decide) ?_
    exact hret _ _ _ _ () _ _ dX4_execute_336 hP hS (Or.inr rfl) (by rw [hex]; rfl) (by rw [hex]; simp only [eσ2, eσ1]; first | done | rfl)
  · have hop : σ.1 1 0 i = 1 := by rw [ho, hov]; rfl
    refine g_top (y := 1) hop ?_
    refine lv_tableIn (tgt := 119) hx hb dX4_execute_52 (by decide) (by decide) rfl (by decide) ?_
    obtain ⟨a, ha8, hae⟩ := isR_nI (hok.2.2.1 (Or.inl (by rw [hop]; decide)))
    obtain ⟨b, hb8, hbe⟩ := isR_nI (hok.2.2.2.1 ⟨by rw [hop]; decide, by rw [hop]; decide⟩)
    obtain ⟨d, hd8, hde⟩ := isR_nI (hok.2.2.2.2 ⟨by rw [hop]; decide, by rw [hop]; decide⟩)
    have hdo := doe_1 (n := n) (k := k) hop
    rw [hae, hbe, hde, iN_nI (show a < 2 ^ 31 by omega), iN_nI (show b < 2 ^ 31 by omega), iN_nI (show d < 2 ^ 31 by omega)] at hdo
    have hex := pExec_t hdo
    refine lv_aload_n hx hb dX4_execute_119 rfl (lv_at hl 6 rfl) ?_
    refine lv_iload hx hb dX4_execute_120 (lv_at hl 3 rfl) ?_
    refine g_top (y := nI a) (hae) ?_
    refine lv_aload_n hx hb dX4_execute_122 rfl (lv_at hl 4 rfl) ?_
    refine lv_iload hx hb dX4_execute_123 (lv_at hl 2 rfl) ?_
    refine g_iald (t0 := 0) (v := σ.1 10 k b) hx hb hK hP (cc_regs hk) rfl b hbe hb8 (by decide) rfl dX4_execute_125 ?_
    refine lv_aload_n hx hb dX4_execute_126 rfl (lv_at hl 4 rfl) ?_
    refine lv_iload hx hb dX4_execute_127 (lv_at hl 1 rfl) ?_
    refine g_iald (t0 := 0) (v := σ.1 10 k d) hx hb hK hP (cc_regs hk) rfl d hde hd8 (by decide) rfl dX4_execute_129 ?_
    refine lv_iadd hx hb dX4_execute_130 ?_
    refine g_cvv (As := [.int (nI a), .int ((σ.1 10 k b) + (σ.1 10 k d))]) ⟨hx, hb, hml, hown, hts⟩ (kX0_put l D cs n ad σ k hk a ha8 (σ.1 10 k b + σ.1 10 k d)) (cwV 2 hts gX4_execute_X0_put rfl rfl rfl (by decide +kernel) ⟨Nat.le_of_ble_eq_true rfl, Nat.le_of_ble_eq_true rfl⟩) hK hP hD hS hA (5 * (k + 2) + 0) (ci := 0) rfl rfl (cc_core hk) hl.1 dX4_execute_131 rfl rfl (Nat.le_of_ble_eq_true rfl) ⟨Nat.zero_le _, Nat.zero_le _⟩ (fun _ H locs hw hP hS => ?_)
    obtain ⟨σ3, eσ3⟩ : ∃ z, z = pGive σ k a (σ.1 10 k b + σ.1 10 k d) := ⟨_, rfl⟩
    have hP : va_P D vwCl (FW (5 * (n + 2)) ad (CC cs n ad σ3)) H := by rw [eσ3]; exact hP
    refine lv_goto (tgt := 329) hx hb dX4_execute_134 (by decide) ?_
    refine lv_aload_n hx hb dX4_execute_329 rfl (lv_at hl 6 rfl) ?_
    refine lv_iload hx hb dX4_execute_330 (lv_at hl 0 rfl) ?_
    refine va_put (D := D) (ci := 0) (v := .int (nI i + 1)) (ty := .int) (C := RX0) (T := TX0) (N := 8) hx hb hts iwX4_execute_X0 tyX0 tyX0_ok nmX0 hown hK hP (hD _) hS (5 * (k + 2) + 0) (cc_core hk) rfl 3 (by decide) (hts _ lkX4_execute_71) (fun _ h9 => h9) rfl (by decide +kernel) rfl rfl (Nat.le_of_ble_eq_true rfl) dX4_execute_332 (fun H locs hP _ hS => ?_)
    obtain ⟨σ4, eσ4⟩ : ∃ z, z = put σ3 13 k 0 (nI i + 1) := ⟨_, rfl⟩
    have hP : va_P D vwCl (FW (5 * (n + 2)) ad (CC cs n ad σ4)) H := by rw [eσ4]; exact FW_P hP cu_core_3
    refine lv_iconst (v := 1) hx hb dX4_execute_335 (by decide) ?_
    exact hret _ _ _ _ () _ _ dX4_execute_336 hP hS (Or.inr rfl) (by rw [hex]; rfl) (by rw [hex]; simp only [eσ4, eσ3]; first | done | rfl)
  · have hop : σ.1 1 0 i = 2 := by rw [ho, hov]; rfl
    refine g_top (y := 2) hop ?_
    refine lv_tableIn (tgt := 137) hx hb dX4_execute_52 (by decide) (by decide) rfl (by decide) ?_
    obtain ⟨a, ha8, hae⟩ := isR_nI (hok.2.2.1 (Or.inl (by rw [hop]; decide)))
    obtain ⟨b, hb8, hbe⟩ := isR_nI (hok.2.2.2.1 ⟨by rw [hop]; decide, by rw [hop]; decide⟩)
    obtain ⟨d, hd8, hde⟩ := isR_nI (hok.2.2.2.2 ⟨by rw [hop]; decide, by rw [hop]; decide⟩)
    have hdo := doe_2 (n := n) (k := k) hop
    rw [hae, hbe, hde, iN_nI (show a < 2 ^ 31 by omega), iN_nI (show b < 2 ^ 31 by omega), iN_nI (show d < 2 ^ 31 by omega)] at hdo
    have hex := pExec_t hdo
    refine lv_aload_n hx hb dX4_execute_137 rfl (lv_at hl 6 rfl) ?_
    refine lv_iload hx hb dX4_execute_138 (lv_at hl 3 rfl) ?_
    refine g_top (y := nI a) (hae) ?_
    refine lv_aload_n hx hb dX4_execute_140 rfl (lv_at hl 4 rfl) ?_
    refine lv_iload hx hb dX4_execute_141 (lv_at hl 2 rfl) ?_
    refine g_iald (t0 := 0) (v := σ.1 10 k b) hx hb hK hP (cc_regs hk) rfl b hbe hb8 (by decide) rfl dX4_execute_143 ?_
    refine lv_aload_n hx hb dX4_execute_144 rfl (lv_at hl 4 rfl) ?_
    refine lv_iload hx hb dX4_execute_145 (lv_at hl 1 rfl) ?_
    refine g_iald (t0 := 0) (v := σ.1 10 k d) hx hb hK hP (cc_regs hk) rfl d hde hd8 (by decide) rfl dX4_execute_147 ?_
    refine lv_isub hx hb dX4_execute_148 ?_
    refine g_cvv (As := [.int (nI a), .int ((σ.1 10 k b) - (σ.1 10 k d))]) ⟨hx, hb, hml, hown, hts⟩ (kX0_put l D cs n ad σ k hk a ha8 (σ.1 10 k b - σ.1 10 k d)) (cwV 2 hts gX4_execute_X0_put rfl rfl rfl (by decide +kernel) ⟨Nat.le_of_ble_eq_true rfl, Nat.le_of_ble_eq_true rfl⟩) hK hP hD hS hA (5 * (k + 2) + 0) (ci := 0) rfl rfl (cc_core hk) hl.1 dX4_execute_149 rfl rfl (Nat.le_of_ble_eq_true rfl) ⟨Nat.zero_le _, Nat.zero_le _⟩ (fun _ H locs hw hP hS => ?_)
    obtain ⟨σ5, eσ5⟩ : ∃ z, z = pGive σ k a (σ.1 10 k b - σ.1 10 k d) := ⟨_, rfl⟩
    have hP : va_P D vwCl (FW (5 * (n + 2)) ad (CC cs n ad σ5)) H := by rw [eσ5]; exact hP
    refine lv_goto (tgt := 329) hx hb dX4_execute_152 (by decide) ?_
    refine lv_aload_n hx hb dX4_execute_329 rfl (lv_at hl 6 rfl) ?_
    refine lv_iload hx hb dX4_execute_330 (lv_at hl 0 rfl) ?_
    refine va_put (D := D) (ci := 0) (v := .int (nI i + 1)) (ty := .int) (C := RX0) (T := TX0) (N := 8) hx hb hts iwX4_execute_X0 tyX0 tyX0_ok nmX0 hown hK hP (hD _) hS (5 * (k + 2) + 0) (cc_core hk) rfl 3 (by decide) (hts _ lkX4_execute_71) (fun _ h9 => h9) rfl (by decide +kernel) rfl rfl (Nat.le_of_ble_eq_true rfl) dX4_execute_332 (fun H locs hP _ hS => ?_)
    obtain ⟨σ6, eσ6⟩ : ∃ z, z = put σ5 13 k 0 (nI i + 1) := ⟨_, rfl⟩
    have hP : va_P D vwCl (FW (5 * (n + 2)) ad (CC cs n ad σ6)) H := by rw [eσ6]; exact FW_P hP cu_core_3
    refine lv_iconst (v := 1) hx hb dX4_execute_335 (by decide) ?_
    exact hret _ _ _ _ () _ _ dX4_execute_336 hP hS (Or.inr rfl) (by rw [hex]; rfl) (by rw [hex]; simp only [eσ6, eσ5]; first | done | rfl)
  · have hop : σ.1 1 0 i = 3 := by rw [ho, hov]; rfl
    refine g_top (y := 3) hop ?_
    refine lv_tableIn (tgt := 155) hx hb dX4_execute_52 (by decide) (by decide) rfl (by decide) ?_
    obtain ⟨a, ha8, hae⟩ := isR_nI (hok.2.2.1 (Or.inl (by rw [hop]; decide)))
    obtain ⟨b, hb8, hbe⟩ := isR_nI (hok.2.2.2.1 ⟨by rw [hop]; decide, by rw [hop]; decide⟩)
    obtain ⟨d, hd8, hde⟩ := isR_nI (hok.2.2.2.2 ⟨by rw [hop]; decide, by rw [hop]; decide⟩)
    have hdo := doe_3 (n := n) (k := k) hop
    rw [hae, hbe, hde, iN_nI (show a < 2 ^ 31 by omega), iN_nI (show b < 2 ^ 31 by omega), iN_nI (show d < 2 ^ 31 by omega)] at hdo
    have hex := pExec_t hdo
    refine lv_aload_n hx hb dX4_execute_155 rfl (lv_at hl 6 rfl) ?_
    refine lv_iload hx hb dX4_execute_156 (lv_at hl 3 rfl) ?_
    refine g_top (y := nI a) (hae) ?_
    refine lv_aload_n hx hb dX4_execute_158 rfl (lv_at hl 4 rfl) ?_
    refine lv_iload hx hb dX4_execute_159 (lv_at hl 2 rfl) ?_
    refine g_iald (t0 := 0) (v := σ.1 10 k b) hx hb hK hP (cc_regs hk) rfl b hbe hb8 (by decide) rfl dX4_execute_161 ?_
    refine lv_aload_n hx hb dX4_execute_162 rfl (lv_at hl 4 rfl) ?_
    refine lv_iload hx hb dX4_execute_163 (lv_at hl 1 rfl) ?_
    refine g_iald (t0 := 0) (v := σ.1 10 k d) hx hb hK hP (cc_regs hk) rfl d hde hd8 (by decide) rfl dX4_execute_165 ?_
    refine lv_imul hx hb dX4_execute_166 ?_
    refine g_cvv (As := [.int (nI a), .int ((σ.1 10 k b) * (σ.1 10 k d))]) ⟨hx, hb, hml, hown, hts⟩ (kX0_put l D cs n ad σ k hk a ha8 (σ.1 10 k b * σ.1 10 k d)) (cwV 2 hts gX4_execute_X0_put rfl rfl rfl (by decide +kernel) ⟨Nat.le_of_ble_eq_true rfl, Nat.le_of_ble_eq_true rfl⟩) hK hP hD hS hA (5 * (k + 2) + 0) (ci := 0) rfl rfl (cc_core hk) hl.1 dX4_execute_167 rfl rfl (Nat.le_of_ble_eq_true rfl) ⟨Nat.zero_le _, Nat.zero_le _⟩ (fun _ H locs hw hP hS => ?_)
    obtain ⟨σ7, eσ7⟩ : ∃ z, z = pGive σ k a (σ.1 10 k b * σ.1 10 k d) := ⟨_, rfl⟩
    have hP : va_P D vwCl (FW (5 * (n + 2)) ad (CC cs n ad σ7)) H := by rw [eσ7]; exact hP
    refine lv_goto (tgt := 329) hx hb dX4_execute_170 (by decide) ?_
    refine lv_aload_n hx hb dX4_execute_329 rfl (lv_at hl 6 rfl) ?_
    refine lv_iload hx hb dX4_execute_330 (lv_at hl 0 rfl) ?_
    refine va_put (D := D) (ci := 0) (v := .int (nI i + 1)) (ty := .int) (C := RX0) (T := TX0) (N := 8) hx hb hts iwX4_execute_X0 tyX0 tyX0_ok nmX0 hown hK hP (hD _) hS (5 * (k + 2) + 0) (cc_core hk) rfl 3 (by decide) (hts _ lkX4_execute_71) (fun _ h9 => h9) rfl (by decide +kernel) rfl rfl (Nat.le_of_ble_eq_true rfl) dX4_execute_332 (fun H locs hP _ hS => ?_)
    obtain ⟨σ8, eσ8⟩ : ∃ z, z = put σ7 13 k 0 (nI i + 1) := ⟨_, rfl⟩
    have hP : va_P D vwCl (FW (5 * (n + 2)) ad (CC cs n ad σ8)) H := by rw [eσ8]; exact FW_P hP cu_core_3
    refine lv_iconst (v := 1) hx hb dX4_execute_335 (by decide) ?_
    exact hret _ _ _ _ () _ _ dX4_execute_336 hP hS (Or.inr rfl) (by rw [hex]; rfl) (by rw [hex]; simp only [eσ8, eσ7]; first | done | rfl)
  · have hop : σ.1 1 0 i = 4 := by rw [ho, hov]; rfl
    refine g_top (y := 4) hop ?_
    refine lv_tableIn (tgt := 173) hx hb dX4_execute_52 (by decide) (by decide) rfl (by decide) ?_
    obtain ⟨a, ha8, hae⟩ := isR_nI (hok.2.2.1 (Or.inl (by rw [hop]; decide)))
    obtain ⟨b, hb8, hbe⟩ := isR_nI (hok.2.2.2.1 ⟨by rw [hop]; decide, by rw [hop]; decide⟩)
    have hdo := doe_4 (n := n) (k := k) hop
    rw [hae, hbe, iN_nI (show a < 2 ^ 31 by omega), iN_nI (show b < 2 ^ 31 by omega)] at hdo
    have hex := pExec_t hdo
    refine lv_aload_n hx hb dX4_execute_173 rfl (lv_at hl 6 rfl) ?_
    refine lv_iload hx hb dX4_execute_174 (lv_at hl 3 rfl) ?_
    refine g_top (y := nI a) (hae) ?_
    refine lv_aload_n hx hb dX4_execute_176 rfl (lv_at hl 4 rfl) ?_
    refine lv_iload hx hb dX4_execute_177 (lv_at hl 2 rfl) ?_
    refine g_iald (t0 := 0) (v := σ.1 10 k b) hx hb hK hP (cc_regs hk) rfl b hbe hb8 (by decide) rfl dX4_execute_179 ?_
    refine lv_iload hx hb dX4_execute_180 (lv_at hl 1 rfl) ?_
    refine lv_iadd hx hb dX4_execute_182 ?_
    refine g_cvv (As := [.int (nI a), .int ((σ.1 10 k b) + (σ.1 4 0 i))]) ⟨hx, hb, hml, hown, hts⟩ (kX0_put l D cs n ad σ k hk a ha8 (σ.1 10 k b + σ.1 4 0 i)) (cwV 2 hts gX4_execute_X0_put rfl rfl rfl (by decide +kernel) ⟨Nat.le_of_ble_eq_true rfl, Nat.le_of_ble_eq_true rfl⟩) hK hP hD hS hA (5 * (k + 2) + 0) (ci := 0) rfl rfl (cc_core hk) hl.1 dX4_execute_183 rfl rfl (Nat.le_of_ble_eq_true rfl) ⟨Nat.zero_le _, Nat.zero_le _⟩ (fun _ H locs hw hP hS => ?_)
    obtain ⟨σ9, eσ9⟩ : ∃ z, z = pGive σ k a (σ.1 10 k b + σ.1 4 0 i) := ⟨_, rfl⟩
    have hP : va_P D vwCl (FW (5 * (n + 2)) ad (CC cs n ad σ9)) H := by rw [eσ9]; exact hP
    refine lv_goto (tgt := 329) hx hb dX4_execute_186 (by decide) ?_
    refine lv_aload_n hx hb dX4_execute_329 rfl (lv_at hl 6 rfl) ?_
    refine lv_iload hx hb dX4_execute_330 (lv_at hl 0 rfl) ?_
    refine va_put (D := D) (ci := 0) (v := .int (nI i + 1)) (ty := .int) (C := RX0) (T := TX0) (N := 8) hx hb hts iwX4_execute_X0 tyX0 tyX0_ok nmX0 hown hK hP (hD _) hS (5 * (k + 2) + 0) (cc_core hk) rfl 3 (by decide) (hts _ lkX4_execute_71) (fun _ h9 => h9) rfl (by decide +kernel) rfl rfl (Nat.le_of_ble_eq_true rfl) dX4_execute_332 (fun H locs hP _ hS => ?_)
    obtain ⟨σ10, eσ10⟩ : ∃ z, z = put σ9 13 k 0 (nI i + 1) := ⟨_, rfl⟩
    have hP : va_P D vwCl (FW (5 * (n + 2)) ad (CC cs n ad σ10)) H := by rw [eσ10]; exact FW_P hP cu_core_3
    refine lv_iconst (v := 1) hx hb dX4_execute_335 (by decide) ?_
    exact hret _ _ _ _ () _ _ dX4_execute_336 hP hS (Or.inr rfl) (by rw [hex]; rfl) (by rw [hex]; simp only [eσ10, eσ9]; first | done | rfl)
  · have hop : σ.1 1 0 i = 5 := by rw [ho, hov]; rfl
    refine g_top (y := 5) hop ?_
    refine lv_tableIn (tgt := 189) hx hb dX4_execute_52 (by decide) (by decide) rfl (by decide) ?_
    obtain ⟨a, ha8, hae⟩ := isR_nI (hok.2.2.1 (Or.inl (by rw [hop]; decide)))
    obtain ⟨b, hb8, hbe⟩ := isR_nI (hok.2.2.2.1 ⟨by rw [hop]; decide, by rw [hop]; decide⟩)
    refine lv_aload_n hx hb dX4_execute_189 rfl (lv_at hl 5 rfl) ?_
    refine lv_aload_n hx hb dX4_execute_190 rfl (lv_at hl 6 rfl) ?_
    refine lv_aload_n hx hb dX4_execute_191 rfl (lv_at hl 4 rfl) ?_
    refine lv_iload hx hb dX4_execute_192 (lv_at hl 2 rfl) ?_
    refine g_iald (t0 := 0) (v := σ.1 10 k b) hx hb hK hP (cc_regs hk) rfl b hbe hb8 (by decide) rfl dX4_execute_194 ?_
    refine lv_iload hx hb dX4_execute_195 (lv_at hl 1 rfl) ?_
    refine lv_iadd hx hb dX4_execute_197 ?_
    refine lv_iconst (v := 0) hx hb dX4_execute_198 (by decide) ?_
    refine g_cvi (As := [.ref (ad (5 * (k + 2) + 0)), .int ((σ.1 10 k b) + (σ.1 4 0 i)), .int 0]) ⟨hx, hb, hml, hown, hts⟩ (kX4_mayAccess l D cs n ad σ k hk hn31 (σ.1 10 k b + σ.1 4 0 i) false hQ hSt) (cwV 3 hts gX4_execute_X4_mayAccess rfl rfl rfl (by decide +kernel) ⟨Nat.le_of_ble_eq_true rfl, Nat.le_of_ble_eq_true rfl⟩) hK hP hD hS hA 0 (ci := 4) rfl rfl cc_obj hl.1 dX4_execute_199 rfl rfl (Nat.le_of_ble_eq_true rfl) ⟨Nat.zero_le _, Nat.zero_le _⟩ (fun r _ H locs hw hP hS => ?_)
    obtain rfl : r = bI (pMay σ n k (σ.1 10 k b + σ.1 4 0 i) false).2 := hw
    obtain ⟨σ11, eσ11⟩ : ∃ z, z = (pMay σ n k (σ.1 10 k b + σ.1 4 0 i) false).1 := ⟨_, rfl⟩
    have hP : va_P D vwCl (FW (5 * (n + 2)) ad (CC cs n ad σ11)) H := by rw [eσ11]; exact hP
    refine lv_if_ne (tgt := 207) hx hb dX4_execute_202 (by decide) (fun c12 => ?_) (fun c12 => ?_)
    · have hpm : (pMay σ n k (σ.1 10 k b + σ.1 4 0 i) false).2 = true := bI1 c12
      obtain ⟨j, hj, hje⟩ := pMay_word hpm
      have hdo := doe_5 (n := n) (k := k) hop
      rw [hae, hbe, iN_nI (show a < 2 ^ 31 by omega), iN_nI (show b < 2 ^ 31 by omega), if_pos hpm] at hdo
      have hex := pExec_t hdo
      have hrb : σ11.1 10 k b = σ.1 10 k b := by rw [eσ11]; exact pMay_ok hpm (by decide) (by decide) (by decide) (by decide) (by decide) (by decide)
      have hra : σ11.1 10 k a = σ.1 10 k a := by rw [eσ11]; exact pMay_ok hpm (by decide) (by decide) (by decide) (by decide) (by decide) (by decide)
      refine lv_aload_n hx hb dX4_execute_207 rfl (lv_at hl 6 rfl) ?_
      refine lv_iload hx hb dX4_execute_208 (lv_at hl 3 rfl) ?_
      refine g_top (y := nI a) (hae) ?_
      refine lv_aload_n hx hb dX4_execute_210 rfl (lv_at hl 5 rfl) ?_
      refine lv_aload_n hx hb dX4_execute_211 rfl (lv_at hl 6 rfl) ?_
      refine lv_aload_n hx hb dX4_execute_212 rfl (lv_at hl 4 rfl) ?_
      refine lv_iload hx hb dX4_execute_213 (lv_at hl 2 rfl) ?_
      refine g_iald (t0 := 0) (v := σ11.1 10 k b) hx hb hK hP (cc_regs hk) rfl b hbe hb8 (by decide) rfl dX4_execute_215 ?_
      refine lv_iload hx hb dX4_execute_216 (lv_at hl 1 rfl) ?_
      refine lv_iadd hx hb dX4_execute_218 ?_
      refine g_top (y := nI j) (by rw [hrb]; exact hje) ?_
      refine g_cvi (As := [.ref (ad (5 * (k + 2) + 0)), .int (nI j)]) ⟨hx, hb, hml, hown, hts⟩ (kX4_wordSeenBy l D cs n ad σ11 k hk j hj) (cwV 2 hts gX4_execute_X4_wordSeenBy rfl rfl rfl (by decide +kernel) ⟨Nat.le_of_ble_eq_true rfl, Nat.le_of_ble_eq_true rfl⟩) hK hP hD hS hA 0 (ci := 4) rfl rfl cc_obj hl.1 dX4_execute_219 rfl rfl (Nat.le_of_ble_eq_true rfl) ⟨Nat.zero_le _, Nat.zero_le _⟩ (fun r _ H locs hw hP hS => ?_)
      obtain rfl : r = pSeen σ11 k j := hw
      have hP : va_P D vwCl (FW (5 * (n + 2)) ad (CC cs n ad σ11)) H := hP
      refine g_cvv (As := [.int (nI a), .int (pSeen σ11 k j)]) ⟨hx, hb, hml, hown, hts⟩ (kX0_put l D cs n ad σ11 k hk a ha8 (pSeen σ11 k j)) (cwV 2 hts gX4_execute_X0_put rfl rfl rfl (by decide +kernel) ⟨Nat.le_of_ble_eq_true rfl, Nat.le_of_ble_eq_true rfl⟩) hK hP hD hS hA (5 * (k + 2) + 0) (ci := 0) rfl rfl (cc_core hk) hl.1 dX4_execute_222 rfl rfl (Nat.le_of_ble_eq_true rfl) ⟨Nat.zero_le _, Nat.zero_le _⟩ (fun _ H locs hw hP hS => ?_)
      obtain ⟨σ13, eσ13⟩ : ∃ z, z = pGive σ11 k a (pSeen σ11 k j) := ⟨_, rfl⟩
      have hP : va_P D vwCl (FW (5 * (n + 2)) ad (CC cs n ad σ13)) H := by rw [eσ13]; exact hP
      refine lv_goto (tgt := 329) hx hb dX4_execute_225 (by decide) ?_
      refine lv_aload_n hx hb dX4_execute_329 rfl (lv_at hl 6 rfl) ?_
      refine lv_iload hx hb dX4_execute_330 (lv_at hl 0 rfl) ?_
      refine va_put (D := D) (ci := 0) (v := .int (nI i + 1)) (ty := .int) (C := RX0) (T := TX0) (N := 8) hx hb hts iwX4_execute_X0 tyX0 tyX0_ok nmX0 hown hK hP (hD _) hS (5 * (k + 2) + 0) (cc_core hk) rfl 3 (by decide) (hts _ lkX4_execute_71) (fun _ h9 => h9) rfl (by decide +kernel) rfl rfl (Nat.le_of_ble_eq_true rfl) dX4_execute_332 (fun H locs hP _ hS => ?_)
      obtain ⟨σ14, eσ14⟩ : ∃ z, z = put σ13 13 k 0 (nI i + 1) := ⟨_, rfl⟩
      have hP : va_P D vwCl (FW (5 * (n + 2)) ad (CC cs n ad σ14)) H := by rw [eσ14]; exact FW_P hP cu_core_3
      refine lv_iconst (v := 1) hx hb dX4_execute_335 (by decide) ?_
      exact hret _ _ _ _ () _ _ dX4_execute_336 hP hS (Or.inr rfl) (by rw [hex]; rfl) (by rw [hex]; simp only [eσ14, eσ13, eσ11]; try rw [hje, iN_nI (show j < 2 ^ 31 by omega)])
    · have hpm : ¬ (pMay σ n k (σ.1 10 k b + σ.1 4 0 i) false).2 = true := by rw [bI0 c12]; decide
      have hdo := doe_5 (n := n) (k := k) hop
      rw [hae, hbe, iN_nI (show a < 2 ^ 31 by omega), iN_nI (show b < 2 ^ 31 by omega), if_neg hpm] at hdo
      have hex := pExec_f hdo
      refine lv_iconst (v := 0) hx hb dX4_execute_205 (by decide) ?_
      exact hret _ _ _ _ () _ _ dX4_execute_206 hP hS (Or.inl rfl) (by rw [hex]; rfl) (by rw [hex]; simp only [eσ11]; first | done | rfl)
  · have hop : σ.1 1 0 i = 6 := by rw [ho, hov]; rfl
    refine g_top (y := 6) hop ?_
    refine lv_tableIn (tgt := 228) hx hb dX4_execute_52 (by decide) (by decide) rfl (by decide) ?_
    obtain ⟨a, ha8, hae⟩ := isR_nI (hok.2.2.1 (Or.inl (by rw [hop]; decide)))
    obtain ⟨b, hb8, hbe⟩ := isR_nI (hok.2.2.2.1 ⟨by rw [hop]; decide, by rw [hop]; decide⟩)
    refine lv_aload_n hx hb dX4_execute_228 rfl (lv_at hl 5 rfl) ?_
    refine lv_aload_n hx hb dX4_execute_229 rfl (lv_at hl 6 rfl) ?_
    refine lv_aload_n hx hb dX4_execute_230 rfl (lv_at hl 4 rfl) ?_
    refine lv_iload hx hb dX4_execute_231 (lv_at hl 2 rfl) ?_
    refine g_iald (t0 := 0) (v := σ.1 10 k b) hx hb hK hP (cc_regs hk) rfl b hbe hb8 (by decide) rfl dX4_execute_233 ?_
    refine lv_iload hx hb dX4_execute_234 (lv_at hl 1 rfl) ?_
    refine lv_iadd hx hb dX4_execute_236 ?_
    refine lv_iconst (v := 1) hx hb dX4_execute_237 (by decide) ?_
    refine g_cvi (As := [.ref (ad (5 * (k + 2) + 0)), .int ((σ.1 10 k b) + (σ.1 4 0 i)), .int 1]) ⟨hx, hb, hml, hown, hts⟩ (kX4_mayAccess l D cs n ad σ k hk hn31 (σ.1 10 k b + σ.1 4 0 i) true hQ hSt) (cwV 3 hts gX4_execute_X4_mayAccess rfl rfl rfl (by decide +kernel) ⟨Nat.le_of_ble_eq_true rfl, Nat.le_of_ble_eq_true rfl⟩) hK hP hD hS hA 0 (ci := 4) rfl rfl cc_obj hl.1 dX4_execute_238 rfl rfl (Nat.le_of_ble_eq_true rfl) ⟨Nat.zero_le _, Nat.zero_le _⟩ (fun r _ H locs hw hP hS => ?_)
    obtain rfl : r = bI (pMay σ n k (σ.1 10 k b + σ.1 4 0 i) true).2 := hw
    obtain ⟨σ15, eσ15⟩ : ∃ z, z = (pMay σ n k (σ.1 10 k b + σ.1 4 0 i) true).1 := ⟨_, rfl⟩
    have hP : va_P D vwCl (FW (5 * (n + 2)) ad (CC cs n ad σ15)) H := by rw [eσ15]; exact hP
    refine lv_if_ne (tgt := 246) hx hb dX4_execute_241 (by decide) (fun c16 => ?_) (fun c16 => ?_)
    · have hpm : (pMay σ n k (σ.1 10 k b + σ.1 4 0 i) true).2 = true := bI1 c16
      obtain ⟨j, hj, hje⟩ := pMay_word hpm
      have hdo := doe_6 (n := n) (k := k) hop
      rw [hae, hbe, iN_nI (show a < 2 ^ 31 by omega), iN_nI (show b < 2 ^ 31 by omega), if_pos hpm] at hdo
      have hex := pExec_t hdo
      have hrb : σ15.1 10 k b = σ.1 10 k b := by rw [eσ15]; exact pMay_ok hpm (by decide) (by decide) (by decide) (by decide) (by decide) (by decide)
      have hra : σ15.1 10 k a = σ.1 10 k a := by rw [eσ15]; exact pMay_ok hpm (by decide) (by decide) (by decide) (by decide) (by decide) (by decide)
      refine lv_aload_n hx hb dX4_execute_246 rfl (lv_at hl 5 rfl) ?_
      refine lv_aload_n hx hb dX4_execute_247 rfl (lv_at hl 6 rfl) ?_
      refine lv_aload_n hx hb dX4_execute_248 rfl (lv_at hl 4 rfl) ?_
      refine lv_iload hx hb dX4_execute_249 (lv_at hl 2 rfl) ?_
      refine g_iald (t0 := 0) (v := σ15.1 10 k b) hx hb hK hP (cc_regs hk) rfl b hbe hb8 (by decide) rfl dX4_execute_251 ?_
      refine lv_iload hx hb dX4_execute_252 (lv_at hl 1 rfl) ?_
      refine lv_iadd hx hb dX4_execute_254 ?_
      refine g_top (y := nI j) (by rw [hrb]; exact hje) ?_
      refine lv_aload_n hx hb dX4_execute_255 rfl (lv_at hl 4 rfl) ?_
      refine lv_iload hx hb dX4_execute_256 (lv_at hl 3 rfl) ?_
      refine g_iald (t0 := 0) (v := σ15.1 10 k a) hx hb hK hP (cc_regs hk) rfl a hae ha8 (by decide) rfl dX4_execute_258 ?_
      refine g_top (y := σ.1 10 k a) (hra) ?_
      refine g_cvv (As := [.ref (ad (5 * (k + 2) + 0)), .int (nI j), .int (σ.1 10 k a)]) ⟨hx, hb, hml, hown, hts⟩ (kX4_write l D cs n ad σ15 k hk j hj (σ.1 10 k a)) (cwV 3 hts gX4_execute_X4_write rfl rfl rfl (by decide +kernel) ⟨Nat.le_of_ble_eq_true rfl, Nat.le_of_ble_eq_true rfl⟩) hK hP hD hS hA 0 (ci := 4) rfl rfl cc_obj hl.1 dX4_execute_259 rfl rfl (Nat.le_of_ble_eq_true rfl) ⟨Nat.zero_le _, Nat.zero_le _⟩ (fun _ H locs hw hP hS => ?_)
      obtain ⟨σ17, eσ17⟩ : ∃ z, z = pWrite σ15 k j (σ.1 10 k a) := ⟨_, rfl⟩
      have hP : va_P D vwCl (FW (5 * (n + 2)) ad (CC cs n ad σ17)) H := by rw [eσ17]; exact hP
      refine lv_goto (tgt := 329) hx hb dX4_execute_262 (by decide) ?_
      refine lv_aload_n hx hb dX4_execute_329 rfl (lv_at hl 6 rfl) ?_
      refine lv_iload hx hb dX4_execute_330 (lv_at hl 0 rfl) ?_
      refine va_put (D := D) (ci := 0) (v := .int (nI i + 1)) (ty := .int) (C := RX0) (T := TX0) (N := 8) hx hb hts iwX4_execute_X0 tyX0 tyX0_ok nmX0 hown hK hP (hD _) hS (5 * (k + 2) + 0) (cc_core hk) rfl 3 (by decide) (hts _ lkX4_execute_71) (fun _ h9 => h9) rfl (by decide +kernel) rfl rfl (Nat.le_of_ble_eq_true rfl) dX4_execute_332 (fun H locs hP _ hS => ?_)
      obtain ⟨σ18, eσ18⟩ : ∃ z, z = put σ17 13 k 0 (nI i + 1) := ⟨_, rfl⟩
      have hP : va_P D vwCl (FW (5 * (n + 2)) ad (CC cs n ad σ18)) H := by rw [eσ18]; exact FW_P hP cu_core_3
      refine lv_iconst (v := 1) hx hb dX4_execute_335 (by decide) ?_
      exact hret _ _ _ _ () _ _ dX4_execute_336 hP hS (Or.inr rfl) (by rw [hex]; rfl) (by rw [hex]; simp only [eσ18, eσ17, eσ15]; try rw [hje, iN_nI (show j < 2 ^ 31 by omega)])
    · have hpm : ¬ (pMay σ n k (σ.1 10 k b + σ.1 4 0 i) true).2 = true := by rw [bI0 c16]; decide
      have hdo := doe_6 (n := n) (k := k) hop
      rw [hae, hbe, iN_nI (show a < 2 ^ 31 by omega), iN_nI (show b < 2 ^ 31 by omega), if_neg hpm] at hdo
      have hex := pExec_f hdo
      refine lv_iconst (v := 0) hx hb dX4_execute_244 (by decide) ?_
      exact hret _ _ _ _ () _ _ dX4_execute_245 hP hS (Or.inl rfl) (by rw [hex]; rfl) (by rw [hex]; simp only [eσ15]; first | done | rfl)
  · have hop : σ.1 1 0 i = 7 := by rw [ho, hov]; rfl
    refine g_top (y := 7) hop ?_
    refine lv_tableIn (tgt := 265) hx hb dX4_execute_52 (by decide) (by decide) rfl (by decide) ?_
    obtain ⟨a, ha8, hae⟩ := isR_nI (hok.2.2.1 (Or.inl (by rw [hop]; decide)))
    obtain ⟨b, hb8, hbe⟩ := isR_nI (hok.2.2.2.1 ⟨by rw [hop]; decide, by rw [hop]; decide⟩)
    have hdo := doe_7 (n := n) (k := k) hop
    rw [hae, hbe, iN_nI (show a < 2 ^ 31 by omega), iN_nI (show b < 2 ^ 31 by omega)] at hdo
    refine lv_aload_n hx hb dX4_execute_265 rfl (lv_at hl 4 rfl) ?_
    refine lv_iload hx hb dX4_execute_266 (lv_at hl 3 rfl) ?_
    refine g_iald (t0 := 0) (v := σ.1 10 k a) hx hb hK hP (cc_regs hk) rfl a hae ha8 (by decide) rfl dX4_execute_268 ?_
    refine lv_aload_n hx hb dX4_execute_269 rfl (lv_at hl 4 rfl) ?_
    refine lv_iload hx hb dX4_execute_270 (lv_at hl 2 rfl) ?_
    refine g_iald (t0 := 0) (v := σ.1 10 k b) hx hb hK hP (cc_regs hk) rfl b hbe hb8 (by decide) rfl dX4_execute_272 ?_
    refine lv_icmp_ge (tgt := 281) hx hb dX4_execute_273 (by decide) (fun c19 => ?_) (fun c19 => ?_)
    · rw [if_neg (Int32.not_lt.mpr c19)] at hdo
      have hex := pExec_t hdo
      refine lv_iload hx hb dX4_execute_281 (lv_at hl 0 rfl) ?_
      refine lv_istore (lv' := [(7, .int (nI i + 1)), (6, .int (σ.1 4 0 i)), (5, .int (σ.1 3 0 i)), (4, .int (σ.1 2 0 i)), (3, .ref (ad (5 * (k + 2) + 1))), (0, .ref (ad 0)), (1, .ref (ad (5 * (k + 2) + 0))), (2, .int (nI i))]) hx hb dX4_execute_283 hl (by decide) rfl (fun ls hl => ?_)
      refine lv_goto (tgt := 329) hx hb dX4_execute_285 (by decide) ?_
      refine lv_aload_n hx hb dX4_execute_329 rfl (lv_at hl 6 rfl) ?_
      refine lv_iload hx hb dX4_execute_330 (lv_at hl 0 rfl) ?_
      refine va_put (D := D) (ci := 0) (v := .int (nI i + 1)) (ty := .int) (C := RX0) (T := TX0) (N := 8) hx hb hts iwX4_execute_X0 tyX0 tyX0_ok nmX0 hown hK hP (hD _) hS (5 * (k + 2) + 0) (cc_core hk) rfl 3 (by decide) (hts _ lkX4_execute_71) (fun _ h9 => h9) rfl (by decide +kernel) rfl rfl (Nat.le_of_ble_eq_true rfl) dX4_execute_332 (fun H locs hP _ hS => ?_)
      obtain ⟨σ20, eσ20⟩ : ∃ z, z = put σ 13 k 0 (nI i + 1) := ⟨_, rfl⟩
      have hP : va_P D vwCl (FW (5 * (n + 2)) ad (CC cs n ad σ20)) H := by rw [eσ20]; exact FW_P hP cu_core_3
      refine lv_iconst (v := 1) hx hb dX4_execute_335 (by decide) ?_
      exact hret _ _ _ _ () _ _ dX4_execute_336 hP hS (Or.inr rfl) (by rw [hex]; rfl) (by rw [hex]; simp only [eσ20]; first | done | rfl)
    · rw [if_pos (Int32.not_le.mp c19)] at hdo
      have hex := pExec_t hdo
      refine lv_iload hx hb dX4_execute_276 (lv_at hl 1 rfl) ?_
      refine lv_goto (tgt := 283) hx hb dX4_execute_278 (by decide) ?_
      refine lv_istore (lv' := [(7, .int (σ.1 4 0 i)), (6, .int (σ.1 4 0 i)), (5, .int (σ.1 3 0 i)), (4, .int (σ.1 2 0 i)), (3, .ref (ad (5 * (k + 2) + 1))), (0, .ref (ad 0)), (1, .ref (ad (5 * (k + 2) + 0))), (2, .int (nI i))]) hx hb dX4_execute_283 hl (by decide) rfl (fun ls hl => ?_)
      refine lv_goto (tgt := 329) hx hb dX4_execute_285 (by decide) ?_
      refine lv_aload_n hx hb dX4_execute_329 rfl (lv_at hl 6 rfl) ?_
      refine lv_iload hx hb dX4_execute_330 (lv_at hl 0 rfl) ?_
      refine va_put (D := D) (ci := 0) (v := .int (σ.1 4 0 i)) (ty := .int) (C := RX0) (T := TX0) (N := 8) hx hb hts iwX4_execute_X0 tyX0 tyX0_ok nmX0 hown hK hP (hD _) hS (5 * (k + 2) + 0) (cc_core hk) rfl 3 (by decide) (hts _ lkX4_execute_71) (fun _ h9 => h9) rfl (by decide +kernel) rfl rfl (Nat.le_of_ble_eq_true rfl) dX4_execute_332 (fun H locs hP _ hS => ?_)
      obtain ⟨σ21, eσ21⟩ : ∃ z, z = put σ 13 k 0 (σ.1 4 0 i) := ⟨_, rfl⟩
      have hP : va_P D vwCl (FW (5 * (n + 2)) ad (CC cs n ad σ21)) H := by rw [eσ21]; exact FW_P hP cu_core_3
      refine lv_iconst (v := 1) hx hb dX4_execute_335 (by decide) ?_
      exact hret _ _ _ _ () _ _ dX4_execute_336 hP hS (Or.inr rfl) (by rw [hex]; rfl) (by rw [hex]; simp only [eσ21]; first | done | rfl)
  · have hop : σ.1 1 0 i = 8 := by rw [ho, hov]; rfl
    refine g_top (y := 8) hop ?_
    refine lv_tableIn (tgt := 288) hx hb dX4_execute_52 (by decide) (by decide) rfl (by decide) ?_
    obtain ⟨a, ha8, hae⟩ := isR_nI (hok.2.2.1 (Or.inl (by rw [hop]; decide)))
    obtain ⟨b, hb8, hbe⟩ := isR_nI (hok.2.2.2.1 ⟨by rw [hop]; decide, by rw [hop]; decide⟩)
    have hdo := doe_8 (n := n) (k := k) hop
    rw [hae, hbe, iN_nI (show a < 2 ^ 31 by omega), iN_nI (show b < 2 ^ 31 by omega)] at hdo
    refine lv_aload_n hx hb dX4_execute_288 rfl (lv_at hl 4 rfl) ?_
    refine lv_iload hx hb dX4_execute_289 (lv_at hl 3 rfl) ?_
    refine g_iald (t0 := 0) (v := σ.1 10 k a) hx hb hK hP (cc_regs hk) rfl a hae ha8 (by decide) rfl dX4_execute_291 ?_
    refine lv_aload_n hx hb dX4_execute_292 rfl (lv_at hl 4 rfl) ?_
    refine lv_iload hx hb dX4_execute_293 (lv_at hl 2 rfl) ?_
    refine g_iald (t0 := 0) (v := σ.1 10 k b) hx hb hK hP (cc_regs hk) rfl b hbe hb8 (by decide) rfl dX4_execute_295 ?_
    refine lv_icmp_eq (tgt := 304) hx hb dX4_execute_296 (by decide) (fun c22 => ?_) (fun c22 => ?_)
    · rw [if_neg (fun h => h c22)] at hdo
      have hex := pExec_t hdo
      refine lv_iload hx hb dX4_execute_304 (lv_at hl 0 rfl) ?_
      refine lv_istore (lv' := [(7, .int (nI i + 1)), (6, .int (σ.1 4 0 i)), (5, .int (σ.1 3 0 i)), (4, .int (σ.1 2 0 i)), (3, .ref (ad (5 * (k + 2) + 1))), (0, .ref (ad 0)), (1, .ref (ad (5 * (k + 2) + 0))), (2, .int (nI i))]) hx hb dX4_execute_306 hl (by decide) rfl (fun ls hl => ?_)
      refine lv_goto (tgt := 329) hx hb dX4_execute_308 (by decide) ?_
      refine lv_aload_n hx hb dX4_execute_329 rfl (lv_at hl 6 rfl) ?_
      refine lv_iload hx hb dX4_execute_330 (lv_at hl 0 rfl) ?_
      refine va_put (D := D) (ci := 0) (v := .int (nI i + 1)) (ty := .int) (C := RX0) (T := TX0) (N := 8) hx hb hts iwX4_execute_X0 tyX0 tyX0_ok nmX0 hown hK hP (hD _) hS (5 * (k + 2) + 0) (cc_core hk) rfl 3 (by decide) (hts _ lkX4_execute_71) (fun _ h9 => h9) rfl (by decide +kernel) rfl rfl (Nat.le_of_ble_eq_true rfl) dX4_execute_332 (fun H locs hP _ hS => ?_)
      obtain ⟨σ23, eσ23⟩ : ∃ z, z = put σ 13 k 0 (nI i + 1) := ⟨_, rfl⟩
      have hP : va_P D vwCl (FW (5 * (n + 2)) ad (CC cs n ad σ23)) H := by rw [eσ23]; exact FW_P hP cu_core_3
      refine lv_iconst (v := 1) hx hb dX4_execute_335 (by decide) ?_
      exact hret _ _ _ _ () _ _ dX4_execute_336 hP hS (Or.inr rfl) (by rw [hex]; rfl) (by rw [hex]; simp only [eσ23]; first | done | rfl)
    · rw [if_pos (c22)] at hdo
      have hex := pExec_t hdo
      refine lv_iload hx hb dX4_execute_299 (lv_at hl 1 rfl) ?_
      refine lv_goto (tgt := 306) hx hb dX4_execute_301 (by decide) ?_
      refine lv_istore (lv' := [(7, .int (σ.1 4 0 i)), (6, .int (σ.1 4 0 i)), (5, .int (σ.1 3 0 i)), (4, .int (σ.1 2 0 i)), (3, .ref (ad (5 * (k + 2) + 1))), (0, .ref (ad 0)), (1, .ref (ad (5 * (k + 2) + 0))), (2, .int (nI i))]) hx hb dX4_execute_306 hl (by decide) rfl (fun ls hl => ?_)
      refine lv_goto (tgt := 329) hx hb dX4_execute_308 (by decide) ?_
      refine lv_aload_n hx hb dX4_execute_329 rfl (lv_at hl 6 rfl) ?_
      refine lv_iload hx hb dX4_execute_330 (lv_at hl 0 rfl) ?_
      refine va_put (D := D) (ci := 0) (v := .int (σ.1 4 0 i)) (ty := .int) (C := RX0) (T := TX0) (N := 8) hx hb hts iwX4_execute_X0 tyX0 tyX0_ok nmX0 hown hK hP (hD _) hS (5 * (k + 2) + 0) (cc_core hk) rfl 3 (by decide) (hts _ lkX4_execute_71) (fun _ h9 => h9) rfl (by decide +kernel) rfl rfl (Nat.le_of_ble_eq_true rfl) dX4_execute_332 (fun H locs hP _ hS => ?_)
      obtain ⟨σ24, eσ24⟩ : ∃ z, z = put σ 13 k 0 (σ.1 4 0 i) := ⟨_, rfl⟩
      have hP : va_P D vwCl (FW (5 * (n + 2)) ad (CC cs n ad σ24)) H := by rw [eσ24]; exact FW_P hP cu_core_3
      refine lv_iconst (v := 1) hx hb dX4_execute_335 (by decide) ?_
      exact hret _ _ _ _ () _ _ dX4_execute_336 hP hS (Or.inr rfl) (by rw [hex]; rfl) (by rw [hex]; simp only [eσ24]; first | done | rfl)
  · have hop : σ.1 1 0 i = 9 := by rw [ho, hov]; rfl
    refine g_top (y := 9) hop ?_
    refine lv_tableIn (tgt := 311) hx hb dX4_execute_52 (by decide) (by decide) rfl (by decide) ?_
    have hdo := doe_9 (n := n) (k := k) hop
    have hex := pExec_t hdo
    refine lv_iload hx hb dX4_execute_311 (lv_at hl 1 rfl) ?_
    refine lv_istore (lv' := [(7, .int (σ.1 4 0 i)), (6, .int (σ.1 4 0 i)), (5, .int (σ.1 3 0 i)), (4, .int (σ.1 2 0 i)), (3, .ref (ad (5 * (k + 2) + 1))), (0, .ref (ad 0)), (1, .ref (ad (5 * (k + 2) + 0))), (2, .int (nI i))]) hx hb dX4_execute_313 hl (by decide) rfl (fun ls hl => ?_)
    refine lv_goto (tgt := 329) hx hb dX4_execute_315 (by decide) ?_
    refine lv_aload_n hx hb dX4_execute_329 rfl (lv_at hl 6 rfl) ?_
    refine lv_iload hx hb dX4_execute_330 (lv_at hl 0 rfl) ?_
    refine va_put (D := D) (ci := 0) (v := .int (σ.1 4 0 i)) (ty := .int) (C := RX0) (T := TX0) (N := 8) hx hb hts iwX4_execute_X0 tyX0 tyX0_ok nmX0 hown hK hP (hD _) hS (5 * (k + 2) + 0) (cc_core hk) rfl 3 (by decide) (hts _ lkX4_execute_71) (fun _ h9 => h9) rfl (by decide +kernel) rfl rfl (Nat.le_of_ble_eq_true rfl) dX4_execute_332 (fun H locs hP _ hS => ?_)
    obtain ⟨σ25, eσ25⟩ : ∃ z, z = put σ 13 k 0 (σ.1 4 0 i) := ⟨_, rfl⟩
    have hP : va_P D vwCl (FW (5 * (n + 2)) ad (CC cs n ad σ25)) H := by rw [eσ25]; exact FW_P hP cu_core_3
    refine lv_iconst (v := 1) hx hb dX4_execute_335 (by decide) ?_
    exact hret _ _ _ _ () _ _ dX4_execute_336 hP hS (Or.inr rfl) (by rw [hex]; rfl) (by rw [hex]; simp only [eσ25]; first | done | rfl)
  · refine g_top (y := nI o) ho ?_
    refine lv_tableOut (tgt := 318) hx hb dX4_execute_52 (Or.inr (by rw [nI_toInt (by omega)]; omega)) (by decide) ?_
    refine lv_aload_n hx hb dX4_execute_318 rfl (lv_at hl 5 rfl) ?_
    refine lv_aload_n hx hb dX4_execute_319 rfl (lv_at hl 6 rfl) ?_
    refine lv_iload_n hx hb dX4_execute_320 rfl (lv_at hl 7 rfl) ?_
    refine g_cvi (As := [.ref (ad (5 * (k + 2) + 0)), .int (nI i)]) ⟨hx, hb, hml, hown, hts⟩ (kX4_executeTransactional l D cs n ad σ k hk hn31 i o hi80 ho hov (by omega) hok hQ) (cwV 2 hts gX4_execute_X4_executeTransactional rfl rfl rfl (by decide +kernel) ⟨Nat.le_of_ble_eq_true rfl, Nat.le_of_ble_eq_true rfl⟩) hK hP hD hS hA 0 (ci := 4) rfl rfl cc_obj hl.1 dX4_execute_321 rfl rfl (Nat.le_of_ble_eq_true rfl) ⟨Nat.zero_le _, Nat.zero_le _⟩ (fun r _ H locs hw hP hS => ?_)
    obtain rfl : r = bI (pDoes σ n k i).2.2 := hw
    obtain ⟨σ26, eσ26⟩ : ∃ z, z = (pDoes σ n k i).1 := ⟨_, rfl⟩
    have hP : va_P D vwCl (FW (5 * (n + 2)) ad (CC cs n ad σ26)) H := by rw [eσ26]; exact hP
    refine lv_if_ne (tgt := 329) hx hb dX4_execute_324 (by decide) (fun c27 => ?_) (fun c27 => ?_)
    · have hdd : (pDoes σ n k i).2.2 = true := bI1 c27
      have hex : pExec σ n k i = (put (pDoes σ n k i).1 13 k 0 (pDoes σ n k i).2.1, true) := if_pos hdd
      have hnx : (pDoes σ n k i).2.1 = nI i + 1 := doe_nx ho hov (by omega)
      rw [hnx] at hex
      refine lv_aload_n hx hb dX4_execute_329 rfl (lv_at hl 6 rfl) ?_
      refine lv_iload hx hb dX4_execute_330 (lv_at hl 0 rfl) ?_
      refine va_put (D := D) (ci := 0) (v := .int (nI i + 1)) (ty := .int) (C := RX0) (T := TX0) (N := 8) hx hb hts iwX4_execute_X0 tyX0 tyX0_ok nmX0 hown hK hP (hD _) hS (5 * (k + 2) + 0) (cc_core hk) rfl 3 (by decide) (hts _ lkX4_execute_71) (fun _ h9 => h9) rfl (by decide +kernel) rfl rfl (Nat.le_of_ble_eq_true rfl) dX4_execute_332 (fun H locs hP _ hS => ?_)
      obtain ⟨σ28, eσ28⟩ : ∃ z, z = put σ26 13 k 0 (nI i + 1) := ⟨_, rfl⟩
      have hP : va_P D vwCl (FW (5 * (n + 2)) ad (CC cs n ad σ28)) H := by rw [eσ28]; exact FW_P hP cu_core_3
      refine lv_iconst (v := 1) hx hb dX4_execute_335 (by decide) ?_
      exact hret _ _ _ _ () _ _ dX4_execute_336 hP hS (Or.inr rfl) (by rw [hex]; rfl) (by rw [hex]; simp only [eσ28, eσ26]; first | done | rfl)
    · have hdd : ¬ (pDoes σ n k i).2.2 = true := by rw [bI0 c27]; decide
      have hex : pExec σ n k i = ((pDoes σ n k i).1, false) := if_neg hdd
      refine lv_iconst (v := 0) hx hb dX4_execute_327 (by decide) ?_
      exact hret _ _ _ _ () _ _ dX4_execute_328 hP hS (Or.inl rfl) (by rw [hex]; rfl) (by rw [hex]; simp only [eσ26]; first | done | rfl)

theorem iwX4_step_X0 : ∀ w ∈ wsX00, w ∈ wsX4_step := fun w h => by unfold wsX4_step; simp only [List.mem_cons, List.mem_append, h, true_or, or_true]
theorem iwX4_step_X1 : ∀ w ∈ wsX10, w ∈ wsX4_step := fun w h => by unfold wsX4_step; simp only [List.mem_cons, List.mem_append, h, true_or, or_true]
theorem iwX4_step_X4 : ∀ w ∈ wsX40, w ∈ wsX4_step := fun w h => by unfold wsX4_step; simp only [List.mem_cons, List.mem_append, h, true_or, or_true]
theorem lkX4_step_16 : Cond.fieldLink RX4 16 "CoreTransactions" "program" "LCoreTransactions$Program;" ∈ wsX4_step := by decide +kernel
theorem lkX4_step_54 : Cond.fieldLink RX4 54 "CoreTransactions$Program" "length" "I" ∈ wsX4_step := by decide +kernel
theorem lkX4_step_71 : Cond.fieldLink RX4 71 "CoreTransactions$Core" "place" "I" ∈ wsX4_step := by decide +kernel
theorem lkX4_step_83 : Cond.fieldLink RX4 83 "CoreTransactions$Core" "ended" "Z" ∈ wsX4_step := by decide +kernel
theorem lkX4_step_151 : Cond.fieldLink RX4 151 "CoreTransactions$Core" "retired" "I" ∈ wsX4_step := by decide +kernel
abbrev rmX4_step : Room := ({ frames := 5, cells := 0, slots := 0, locals := 158 } : Room)
set_option maxRecDepth 100000 in
set_option maxHeartbeats 4000000 in
theorem kX4_step (l : Launch) (D : va_G) (cs : Nat → ClassId) (n : Nat) (ad : Nat → Nat) (σ : St) (k : Nat) (hk : k < n) (hn31 : n < 2 ^ 31) (hPr : ∃ L, L ≤ 80 ∧ σ.1 5 0 0 = nI L ∧ ∀ i, i < L → okI σ i) (hQ : okQ σ) (hSt : okS σ) : gMi l yX4_step wsX4_step rmX4_step D (tyL cs) (5 * (n + 2)) ad (CC cs n ad σ) [.ref (ad 0), .ref (ad (5 * (k + 2) + 0))] (fun (r : Int32) (u : Unit) => r = (pStep σ n k).2) (fun (u : Unit) => CC cs n ad (pStep σ n k).1) := by
  refine g_ofi (cc := cX4_step) (maxL := 3) (by decide) rfl (Nat.le_of_ble_eq_true rfl) rfl rfl ?_
  intro p e s m args below meth c A ls Q hx hb hml hts hown hK hP hD hA hS hl hret
  have hl : lv_has ls 3 [(0, .ref (ad 0)), (1, .ref (ad (5 * (k + 2) + 0)))] := hl
  refine lv_aload_n hx hb dX4_step_0 rfl (lv_at hl 1 rfl) ?_
  refine va_get (D := D) (ci := 0) (v := .int (σ.1 14 k 0)) (C := RX0) (T := TX0) (N := 8) hx hb hts iwX4_step_X0 hown hK hP (5 * (k + 2) + 0) (cc_core hk) rfl 4 (by decide) (hts _ lkX4_step_83) (fun _ h9 => h9) rfl dX4_step_1 ?_
  refine lv_if_eq (tgt := 9) hx hb dX4_step_4 (by decide) (fun c1 => ?_) (fun c1 => ?_)
  · have he0 : ¬ (σ.1 14 k 0 ≠ 0) := fun h => h c1
    refine lv_iconst (v := 0) hx hb dX4_step_9 (by decide) ?_
    refine lv_istore_n (lv' := [(2, .int 0), (0, .ref (ad 0)), (1, .ref (ad (5 * (k + 2) + 0)))]) hx hb dX4_step_10 rfl hl (by decide) rfl (fun ls hl => ?_)
    refine lv_aload_n hx hb dX4_step_11 rfl (lv_at hl 2 rfl) ?_
    refine va_get (D := D) (ci := 0) (v := .int (σ.1 13 k 0)) (C := RX0) (T := TX0) (N := 8) hx hb hts iwX4_step_X0 hown hK hP (5 * (k + 2) + 0) (cc_core hk) rfl 3 (by decide) (hts _ lkX4_step_71) (fun _ h9 => h9) rfl dX4_step_12 ?_
    refine lv_if_lt (tgt := 32) hx hb dX4_step_15 (by decide) (fun c2 => ?_) (fun c2 => ?_)
    · have hst : pStep σ n k = (pFault σ k, 0) := (if_neg he0).trans (if_neg (fun h => absurd h.1 (Int32.not_le.mpr c2)))
      refine lv_aload_n hx hb dX4_step_32 rfl (lv_at hl 1 rfl) ?_
      refine lv_aload_n hx hb dX4_step_33 rfl (lv_at hl 2 rfl) ?_
      refine g_cvv (As := [.ref (ad (5 * (k + 2) + 0))]) ⟨hx, hb, hml, hown, hts⟩ (kX4_fault l D cs n ad σ k hk hQ) (cwV 1 hts gX4_step_X4_fault rfl rfl rfl (by decide +kernel) ⟨Nat.le_of_ble_eq_true rfl, Nat.le_of_ble_eq_true rfl⟩) hK hP hD hS hA 0 (ci := 4) rfl rfl cc_obj hl.1 dX4_step_34 rfl rfl (Nat.le_of_ble_eq_true rfl) ⟨Nat.zero_le _, Nat.zero_le _⟩ (fun _ H locs hw hP hS => ?_)
      obtain ⟨σ3, eσ3⟩ : ∃ z, z = pFault σ k := ⟨_, rfl⟩
      have hP : va_P D vwCl (FW (5 * (n + 2)) ad (CC cs n ad σ3)) H := by rw [eσ3]; exact hP
      refine lv_goto (tgt := 50) hx hb dX4_step_37 (by decide) ?_
      refine lv_iload_n hx hb dX4_step_50 rfl (lv_at hl 0 rfl) ?_
      refine lv_if_ne (tgt := 56) hx hb dX4_step_51 (by decide) (fun c4 => absurd rfl c4) (fun c4 => ?_)
      refine lv_iconst (v := 0) hx hb dX4_step_54 (by decide) ?_
      exact hret _ _ _ _ () _ _ dX4_step_55 hP hS (by rw [hst]) (by rw [hst]; simp only [eσ3]; first | done | rfl)
    · refine lv_aload_n hx hb dX4_step_18 rfl (lv_at hl 2 rfl) ?_
      refine va_get (D := D) (ci := 0) (v := .int (σ.1 13 k 0)) (C := RX0) (T := TX0) (N := 8) hx hb hts iwX4_step_X0 hown hK hP (5 * (k + 2) + 0) (cc_core hk) rfl 3 (by decide) (hts _ lkX4_step_71) (fun _ h9 => h9) rfl dX4_step_19 ?_
      refine lv_aload_n hx hb dX4_step_22 rfl (lv_at hl 1 rfl) ?_
      refine va_get (D := D) (ci := 4) (v := .ref (ad 3)) (C := RX4) (T := TX4) (N := 7) hx hb hts iwX4_step_X4 hown hK hP 0 cc_obj rfl 4 (by decide) (hts _ lkX4_step_16) (fun _ h9 => h9) rfl dX4_step_23 ?_
      refine va_get (D := D) (ci := 1) (v := .int (σ.1 5 0 0)) (C := RX1) (T := TX1) (N := 5) hx hb hts iwX4_step_X1 hown hK hP 3 cc_pro rfl 4 (by decide) (hts _ lkX4_step_54) (fun _ h9 => h9) rfl dX4_step_26 ?_
      refine lv_icmp_lt (tgt := 40) hx hb dX4_step_29 (by decide) (fun c5 => ?_) (fun c5 => ?_)
      · have hpl : 0 ≤ σ.1 13 k 0 ∧ σ.1 13 k 0 < σ.1 5 0 0 := ⟨Int32.not_lt.mp c2, c5⟩
        obtain ⟨L, hL80, hLe, hLo⟩ := hPr
        obtain ⟨i, hiL, hie⟩ := i32_of (N := L) (by omega) hpl.1 (by rw [← hLe]; exact hpl.2)
        have hok := hLo i hiL
        obtain ⟨o, ho13, ho⟩ := i32_ofle (N := 13) (by decide) hok.1 hok.2.1
        have hst : pStep σ n k = (if (pExec σ n k i).2 = true then (put (pExec σ n k i).1 15 k 0 ((pExec σ n k i).1.1 15 k 0 + 1), 1) else ((pExec σ n k i).1, 0)) := by unfold pStep; rw [if_neg he0, if_pos hpl, hie, iN_nI (show i < 2 ^ 31 by omega)]
        refine lv_aload_n hx hb dX4_step_40 rfl (lv_at hl 1 rfl) ?_
        refine lv_aload_n hx hb dX4_step_41 rfl (lv_at hl 2 rfl) ?_
        refine lv_aload_n hx hb dX4_step_42 rfl (lv_at hl 2 rfl) ?_
        refine va_get (D := D) (ci := 0) (v := .int (σ.1 13 k 0)) (C := RX0) (T := TX0) (N := 8) hx hb hts iwX4_step_X0 hown hK hP (5 * (k + 2) + 0) (cc_core hk) rfl 3 (by decide) (hts _ lkX4_step_71) (fun _ h9 => h9) rfl dX4_step_43 ?_
        refine g_top (y := nI i) (hie) ?_
        refine g_cvi (As := [.ref (ad (5 * (k + 2) + 0)), .int (nI i)]) ⟨hx, hb, hml, hown, hts⟩ (kX4_execute l D cs n ad σ k hk hn31 i o (by omega) ho ho13 hok hQ hSt) (cwV 2 hts gX4_step_X4_execute rfl rfl rfl (by decide +kernel) ⟨Nat.le_of_ble_eq_true rfl, Nat.le_of_ble_eq_true rfl⟩) hK hP hD hS hA 0 (ci := 4) rfl rfl cc_obj hl.1 dX4_step_46 rfl rfl (Nat.le_of_ble_eq_true rfl) ⟨Nat.zero_le _, Nat.zero_le _⟩ (fun r _ H locs hw hP hS => ?_)
        obtain rfl : r = bI (pExec σ n k i).2 := hw
        obtain ⟨σ6, eσ6⟩ : ∃ z, z = (pExec σ n k i).1 := ⟨_, rfl⟩
        have hP : va_P D vwCl (FW (5 * (n + 2)) ad (CC cs n ad σ6)) H := by rw [eσ6]; exact hP
        refine lv_istore_n (lv' := [(2, .int (bI (pExec σ n k i).2)), (0, .ref (ad 0)), (1, .ref (ad (5 * (k + 2) + 0)))]) hx hb dX4_step_49 rfl hl (by decide) rfl (fun ls hl => ?_)
        refine lv_iload_n hx hb dX4_step_50 rfl (lv_at hl 0 rfl) ?_
        refine lv_if_ne (tgt := 56) hx hb dX4_step_51 (by decide) (fun c7 => ?_) (fun c7 => ?_)
        · rw [if_pos (bI1 c7)] at hst
          refine lv_aload_n hx hb dX4_step_56 rfl (lv_at hl 2 rfl) ?_
          refine lv_dup hx hb dX4_step_57 rfl ?_
          refine va_get (D := D) (ci := 0) (v := .int (σ6.1 15 k 0)) (C := RX0) (T := TX0) (N := 8) hx hb hts iwX4_step_X0 hown hK hP (5 * (k + 2) + 0) (cc_core hk) rfl 5 (by decide) (hts _ lkX4_step_151) (fun _ h9 => h9) rfl dX4_step_58 ?_
          refine lv_iconst (v := 1) hx hb dX4_step_61 (by decide) ?_
          refine lv_iadd hx hb dX4_step_62 ?_
          refine va_put (D := D) (ci := 0) (v := .int ((σ6.1 15 k 0) + 1)) (ty := .int) (C := RX0) (T := TX0) (N := 8) hx hb hts iwX4_step_X0 tyX0 tyX0_ok nmX0 hown hK hP (hD _) hS (5 * (k + 2) + 0) (cc_core hk) rfl 5 (by decide) (hts _ lkX4_step_151) (fun _ h9 => h9) rfl (by decide +kernel) rfl rfl (Nat.le_of_ble_eq_true rfl) dX4_step_63 (fun H locs hP _ hS => ?_)
          obtain ⟨σ8, eσ8⟩ : ∃ z, z = put σ6 15 k 0 ((σ6.1 15 k 0) + 1) := ⟨_, rfl⟩
          have hP : va_P D vwCl (FW (5 * (n + 2)) ad (CC cs n ad σ8)) H := by rw [eσ8]; exact FW_P hP cu_core_5
          refine lv_iconst (v := 1) hx hb dX4_step_66 (by decide) ?_
          exact hret _ _ _ _ () _ _ dX4_step_67 hP hS (by rw [hst]) (by rw [hst]; simp only [eσ8, eσ6]; first | done | rfl)
        · rw [if_neg (by rw [bI0 c7]; decide)] at hst
          refine lv_iconst (v := 0) hx hb dX4_step_54 (by decide) ?_
          exact hret _ _ _ _ () _ _ dX4_step_55 hP hS (by rw [hst]) (by rw [hst]; simp only [eσ6]; first | done | rfl)
      · have hst : pStep σ n k = (pFault σ k, 0) := (if_neg he0).trans (if_neg (fun h => c5 h.2))
        refine lv_aload_n hx hb dX4_step_32 rfl (lv_at hl 1 rfl) ?_
        refine lv_aload_n hx hb dX4_step_33 rfl (lv_at hl 2 rfl) ?_
        refine g_cvv (As := [.ref (ad (5 * (k + 2) + 0))]) ⟨hx, hb, hml, hown, hts⟩ (kX4_fault l D cs n ad σ k hk hQ) (cwV 1 hts gX4_step_X4_fault rfl rfl rfl (by decide +kernel) ⟨Nat.le_of_ble_eq_true rfl, Nat.le_of_ble_eq_true rfl⟩) hK hP hD hS hA 0 (ci := 4) rfl rfl cc_obj hl.1 dX4_step_34 rfl rfl (Nat.le_of_ble_eq_true rfl) ⟨Nat.zero_le _, Nat.zero_le _⟩ (fun _ H locs hw hP hS => ?_)
        obtain ⟨σ9, eσ9⟩ : ∃ z, z = pFault σ k := ⟨_, rfl⟩
        have hP : va_P D vwCl (FW (5 * (n + 2)) ad (CC cs n ad σ9)) H := by rw [eσ9]; exact hP
        refine lv_goto (tgt := 50) hx hb dX4_step_37 (by decide) ?_
        refine lv_iload_n hx hb dX4_step_50 rfl (lv_at hl 0 rfl) ?_
        refine lv_if_ne (tgt := 56) hx hb dX4_step_51 (by decide) (fun c10 => absurd rfl c10) (fun c10 => ?_)
        refine lv_iconst (v := 0) hx hb dX4_step_54 (by decide) ?_
        exact hret _ _ _ _ () _ _ dX4_step_55 hP hS (by rw [hst]) (by rw [hst]; simp only [eσ9]; first | done | rfl)
  · have hst : pStep σ n k = (σ, 0) := if_pos c1
    refine lv_iconst (v := 0) hx hb dX4_step_7 (by decide) ?_
    exact hret _ _ _ _ () _ _ dX4_step_8 hP hS (by rw [hst]) (by rw [hst])
