/-! the reference: clear; the ground of calls that throw -/
def clrN : Nat → St → St
  | 0, σ => σ
  | m + 1, σ => pClose (put (put (put (put (put (clrN m σ) 13 m 0 0) 14 m 0 0) 15 m 0 0) 16 m 0 0) 17 m 0 0) m
def clrR (i : Nat) (σ : St) : St := (fun f k j => if f = 10 ∧ 8 * k + j < i ∧ j < 8 then 0 else σ.1 f k j, σ.2)
abbrev inS (f : Nat) : Prop := f = 13 ∨ f = 14 ∨ f = 15 ∨ f = 16 ∨ f = 17 ∨ f = 18 ∨ f = 19 ∨ f = 22 ∨ f = 23
theorem clrN_at {σ : St} {f k j : Nat} : ∀ m, ((inS f ∧ k < m ∧ j = 0) → (clrN m σ).1 f k j = 0) ∧ (¬ (inS f ∧ k < m ∧ j = 0) → (clrN m σ).1 f k j = σ.1 f k j)
  | 0 => ⟨fun h => absurd h.2.1 (Nat.not_lt_zero k), fun _ => rfl⟩
  | m + 1 => by
    have ih := clrN_at (σ := σ) (f := f) (k := k) (j := j) m
    have hu : (clrN (m + 1) σ).1 f k j = if inS f ∧ k = m ∧ j = 0 then 0 else (clrN m σ).1 f k j := by
      show (pClose _ m).1 f k j = _
      simp only [pClose, put, putL, inS]
      by_cases hk : k = m ∧ j = 0
      · obtain ⟨rfl, rfl⟩ := hk
        simp only [and_self, and_true]
        by_cases a13 : f = 13
        · simp [a13]
        · by_cases a14 : f = 14
          · simp [a14]
          · by_cases a15 : f = 15
            · simp [a15]
            · by_cases a16 : f = 16
              · simp [a16]
              · by_cases a17 : f = 17
                · simp [a17]
                · by_cases a18 : f = 18
                  · simp [a18]
                  · by_cases a19 : f = 19
                    · simp [a19]
                    · by_cases a22 : f = 22
                      · simp [a22]
                      · by_cases a23 : f = 23
                        · simp [a23]
                        · simp [a13, a14, a15, a16, a17, a18, a19, a22, a23]
      · simp [hk]
    rw [hu]
    constructor
    · intro h
      by_cases hk : k = m
      · rw [if_pos ⟨h.1, hk, h.2.2⟩]
      · rw [if_neg (fun q => hk q.2.1)]
        exact ih.1 ⟨h.1, by omega, h.2.2⟩
    · intro h
      rw [if_neg (fun q => h ⟨q.1, by omega, q.2.2⟩)]
      exact ih.2 (fun q => h ⟨q.1, by omega, q.2.2⟩)
theorem clrN_2 {σ : St} {k : Nat} : ∀ m, (clrN m σ).2 k = if k < m then 0 else σ.2 k
  | 0 => rfl
  | m + 1 => by
    show (if k = m then 0 else (clrN m σ).2 k) = _
    rw [clrN_2 m]
    by_cases h : k = m
    · rw [if_pos h, if_pos (by omega)]
    · rw [if_neg h]
      by_cases h2 : k < m
      · rw [if_pos h2, if_pos (by omega)]
      · rw [if_neg h2, if_neg (by omega)]
theorem clrR_s {σ : St} {i : Nat} : put (clrR i σ) 10 (i / 8) (i % 8) 0 = clrR (i + 1) σ := by
  refine Prod.ext (funext fun f => funext fun k => funext fun j => ?_) rfl
  simp only [put, clrR]
  by_cases hf : f = 10
  · subst hf
    by_cases h1 : k = i / 8 ∧ j = i % 8
    · rw [if_pos ⟨rfl, h1⟩, if_pos ⟨rfl, by omega, by omega⟩]
    · rw [if_neg (fun q => h1 q.2)]
      by_cases h2 : 8 * k + j < i ∧ j < 8
      · rw [if_pos ⟨rfl, h2⟩, if_pos ⟨rfl, by omega, h2.2⟩]
      · rw [if_neg (fun q => h2 q.2), if_neg (fun q => h2 ⟨by omega, q.2.2⟩)]
  · simp [hf]
theorem clrR_0 {σ : St} : clrR 0 σ = σ := by
  refine Prod.ext (funext fun f => funext fun k => funext fun j => ?_) rfl
  simp [clrR]
theorem eqv_clr {σ : St} : eqv (clrR 32 (clrN 4 (putA (put (put (put σ 5 0 0 0) 9 0 0 0) 7 0 0 0) 0 0 (fun j => if j < 64 then 0 else (put (put (put σ 5 0 0 0) 9 0 0 0) 7 0 0 0).1 0 0 j)))) (pClr σ) := by
  refine ⟨fun f k j h6 h8 => ?_, ?_⟩
  · have h := clrN_at (σ := putA (put (put (put σ 5 0 0 0) 9 0 0 0) 7 0 0 0) 0 0 (fun j => if j < 64 then 0 else (put (put (put σ 5 0 0 0) 9 0 0 0) 7 0 0 0).1 0 0 j)) (f := f) (k := k) (j := j) 4
    show (if f = 10 ∧ 8 * k + j < 32 ∧ j < 8 then 0 else (clrN 4 _).1 f k j) = (if (inS f) ∧ k < 4 ∧ j = 0 then 0 else if f = 10 ∧ k < 4 ∧ j < 8 then 0 else if f = 0 ∧ k = 0 ∧ j < 64 then 0 else if (f = 5 ∨ f = 7 ∨ f = 8 ∨ f = 9) ∧ k = 0 ∧ j = 0 then 0 else σ.1 f k j)
    by_cases hS : inS f ∧ k < 4 ∧ j = 0
    · rw [if_pos hS, if_neg (fun q => by have := hS.1; unfold inS at this; omega)]
      exact h.1 hS
    · rw [if_neg hS, h.2 hS]
      by_cases h10 : f = 10
      · subst h10
        by_cases hk : k < 4 ∧ j < 8
        · rw [if_pos ⟨rfl, by omega, hk.2⟩, if_pos ⟨rfl, hk⟩]
        · rw [if_neg (fun q => hk ⟨by omega, q.2.2⟩), if_neg (fun q => hk q.2)]
          simp [put, putA]
      · rw [if_neg (fun q => h10 q.1), if_neg (fun q => h10 q.1)]
        simp only [put, putA]
        by_cases h0 : f = 0
        · subst h0
          by_cases hk : k = 0
          · subst hk; simp
          · simp [hk]
        · by_cases h5 : f = 5
          · subst h5; simp
          · by_cases h7 : f = 7
            · subst h7; simp
            · by_cases h9 : f = 9
              · subst h9; simp
              · simp [h0, h5, h7, h9, h8]
  · funext k
    show (clrN 4 _).2 k = _
    rw [clrN_2]
    rfl

theorem iwX5_clear_X5 : ∀ w ∈ wsX50, w ∈ wsX5_clear := fun w h => by unfold wsX5_clear; simp only [List.mem_cons, List.mem_append, h, true_or, or_true]
theorem lkX5_clear_7 : Cond.fieldLink RX5 7 "CoreTransactionsModel" "memory" "[I" ∈ wsX5_clear := by decide +kernel
theorem lkX5_clear_25 : Cond.fieldLink RX5 25 "CoreTransactionsModel" "places" "[I" ∈ wsX5_clear := by decide +kernel
theorem lkX5_clear_28 : Cond.fieldLink RX5 28 "CoreTransactionsModel" "ended" "[Z" ∈ wsX5_clear := by decide +kernel
theorem lkX5_clear_32 : Cond.fieldLink RX5 32 "CoreTransactionsModel" "retired" "[I" ∈ wsX5_clear := by decide +kernel
theorem lkX5_clear_35 : Cond.fieldLink RX5 35 "CoreTransactionsModel" "registers" "[I" ∈ wsX5_clear := by decide +kernel
theorem lkX5_clear_66 : Cond.fieldLink RX5 66 "CoreTransactionsModel" "committed" "[I" ∈ wsX5_clear := by decide +kernel
theorem lkX5_clear_69 : Cond.fieldLink RX5 69 "CoreTransactionsModel" "broken" "[I" ∈ wsX5_clear := by decide +kernel
theorem lkX5_clear_89 : Cond.fieldLink RX5 89 "CoreTransactionsModel" "thrown" "I" ∈ wsX5_clear := by decide +kernel
theorem lkX5_clear_106 : Cond.fieldLink RX5 106 "CoreTransactionsModel" "size" "I" ∈ wsX5_clear := by decide +kernel
theorem lkX5_clear_121 : Cond.fieldLink RX5 121 "CoreTransactionsModel" "recordCount" "I" ∈ wsX5_clear := by decide +kernel
theorem lkX5_clear_148 : Cond.fieldLink RX5 148 "CoreTransactionsModel" "age" "I" ∈ wsX5_clear := by decide +kernel
abbrev rmX5_clear : Room := ({ frames := 1, cells := 0, slots := 0, locals := 21 } : Room)
set_option maxRecDepth 100000 in
set_option maxHeartbeats 4000000 in
theorem kX5_clear (l : Launch) (D : va_G) (cs : Nat → ClassId) (n : Nat) (ad : Nat → Nat) (th nx : Int32) (σ : St)  : gMv l yX5_clear wsX5_clear rmX5_clear D (tyL cs) 22 ad (CR cs n ad th nx σ) [.ref (ad 0)] (fun (u : Int32) => True) (fun (u : Int32) => CR cs n ad 0 u (pClr σ)) := by
  refine g_ofv (cc := cX5_clear) (maxL := 2) (by decide) rfl (Nat.le_of_ble_eq_true rfl) rfl rfl ?_
  intro p e s m args below meth c A ls Q hx hb hml hts hown hK hP hD hA hS hl hret
  have hl : lv_has ls 2 [(0, .ref (ad 0))] := hl
  refine lv_aload_n hx hb dX5_clear_0 rfl (lv_at hl 0 rfl) ?_
  refine lv_iconst (v := 0) hx hb dX5_clear_1 (by decide) ?_
  refine va_put (D := D) (ci := 5) (v := .int 0) (ty := .int) (C := RX5) (T := TX5) (N := 29) hx hb hts iwX5_clear_X5 tyX5 tyX5_ok nmX5 hown hK hP (hD _) hS 0 cr_obj rfl 0 (by decide) (hts _ lkX5_clear_89) (fun _ h9 => h9) rfl (by decide +kernel) rfl rfl (Nat.le_of_ble_eq_true rfl) dX5_clear_2 (fun H locs hP _ hS => ?_)
  have hP := cru_th hP
  have hP : va_P D vwCl (FW 22 ad (CR cs n ad 0 nx σ)) H := hP
  refine lv_aload_n hx hb dX5_clear_5 rfl (lv_at hl 0 rfl) ?_
  refine lv_iconst (v := 0) hx hb dX5_clear_6 (by decide) ?_
  refine va_put (D := D) (ci := 5) (v := .int 0) (ty := .int) (C := RX5) (T := TX5) (N := 29) hx hb hts iwX5_clear_X5 tyX5 tyX5_ok nmX5 hown hK hP (hD _) hS 0 cr_obj rfl 5 (by decide) (hts _ lkX5_clear_106) (fun _ h9 => h9) rfl (by decide +kernel) rfl rfl (Nat.le_of_ble_eq_true rfl) dX5_clear_7 (fun H locs hP _ hS => ?_)
  obtain ⟨σ1, eσ1⟩ : ∃ z, z = put σ 5 0 0 0 := ⟨_, rfl⟩
  have hP : va_P D vwCl (FW 22 ad (CR cs n ad 0 nx σ1)) H := by rw [eσ1]; exact cru_obj_5 hP
  refine lv_aload_n hx hb dX5_clear_10 rfl (lv_at hl 0 rfl) ?_
  refine lv_iconst (v := 0) hx hb dX5_clear_11 (by decide) ?_
  refine va_put (D := D) (ci := 5) (v := .int 0) (ty := .int) (C := RX5) (T := TX5) (N := 29) hx hb hts iwX5_clear_X5 tyX5 tyX5_ok nmX5 hown hK hP (hD _) hS 0 cr_obj rfl 25 (by decide) (hts _ lkX5_clear_148) (fun _ h9 => h9) rfl (by decide +kernel) rfl rfl (Nat.le_of_ble_eq_true rfl) dX5_clear_12 (fun H locs hP _ hS => ?_)
  obtain ⟨σ2, eσ2⟩ : ∃ z, z = put σ1 9 0 0 0 := ⟨_, rfl⟩
  have hP : va_P D vwCl (FW 22 ad (CR cs n ad 0 nx σ2)) H := by rw [eσ2]; exact cru_obj_25 hP
  refine lv_aload_n hx hb dX5_clear_15 rfl (lv_at hl 0 rfl) ?_
  refine lv_iconst (v := 0) hx hb dX5_clear_16 (by decide) ?_
  refine va_put (D := D) (ci := 5) (v := .int 0) (ty := .int) (C := RX5) (T := TX5) (N := 29) hx hb hts iwX5_clear_X5 tyX5 tyX5_ok nmX5 hown hK hP (hD _) hS 0 cr_obj rfl 26 (by decide) (hts _ lkX5_clear_121) (fun _ h9 => h9) rfl (by decide +kernel) rfl rfl (Nat.le_of_ble_eq_true rfl) dX5_clear_17 (fun H locs hP _ hS => ?_)
  obtain ⟨σ3, eσ3⟩ : ∃ z, z = put σ2 7 0 0 0 := ⟨_, rfl⟩
  have hP : va_P D vwCl (FW 22 ad (CR cs n ad 0 nx σ3)) H := by rw [eσ3]; exact cru_obj_26 hP
  obtain ⟨τ4, eτ4⟩ : ∃ z, z = σ3 := ⟨_, rfl⟩
  rw [← eτ4] at hP
  refine lv_iconst (v := 0) hx hb dX5_clear_20 (by decide) ?_
  refine lv_istore_n (lv' := [(1, .int 0), (0, .ref (ad 0))]) hx hb dX5_clear_21 rfl hl (by decide) rfl (fun ls hl => ?_)
  have loop : ∀ (d i : Nat), i + d = 64 →  ∀ (H : Heap) (locs : List Loc) (ls : Array Slot), va_P D vwCl (FW 22 ad (CR cs n ad 0 nx (putA τ4 0 0 (fun j => if j < i then 0 else τ4.1 0 0 j)))) H → va_S A s.heap H locs → lv_has ls 2 [(0, .ref (ad 0)), (1, .int (nI i))] → W p l e rmX5_clear s m args below meth c H locs 0 0 Q (F0 m 22 ls []) := by
    intro d
    induction d with
    | zero =>
      intro i hi  H locs ls hP hS hl
      obtain rfl : i = 64 := by omega
      obtain ⟨σ5, eσ5⟩ : ∃ z, z = putA τ4 0 0 (fun j => if j < 64 then 0 else τ4.1 0 0 j) := ⟨_, rfl⟩
      have hP : va_P D vwCl (FW 22 ad (CR cs n ad 0 nx σ5)) H := by rw [eσ5]; exact hP
      refine lv_iload_n hx hb dX5_clear_22 rfl (lv_at hl 1 rfl) ?_
      refine lv_bipush (v := 64) hx hb dX5_clear_23 (by decide) ?_
      refine lv_icmp_ge (tgt := 41) hx hb dX5_clear_25 (by decide) (fun c6 => ?_) (fun c6 => absurd (show (64 : Int32) ≤ nI 64 from Int32.le_refl _) c6)
      obtain ⟨τ7, eτ7⟩ : ∃ z, z = σ5 := ⟨_, rfl⟩
      rw [← eτ7] at hP
      refine lv_iconst (v := 0) hx hb dX5_clear_41 (by decide) ?_
      refine lv_istore_n (lv' := [(1, .int 0), (0, .ref (ad 0))]) hx hb dX5_clear_42 rfl hl (by decide) rfl (fun ls hl => ?_)
      have loop2 : ∀ (d i : Nat), i + d = 4 →  ∀ (H : Heap) (locs : List Loc) (ls : Array Slot), va_P D vwCl (FW 22 ad (CR cs n ad 0 nx (clrN i τ7))) H → va_S A s.heap H locs → lv_has ls 2 [(0, .ref (ad 0)), (1, .int (nI i))] → W p l e rmX5_clear s m args below meth c H locs 0 0 Q (F0 m 43 ls []) := by
        intro d
        induction d with
        | zero =>
          intro i hi  H locs ls hP hS hl
          obtain rfl : i = 4 := by omega
          obtain ⟨σ8, eσ8⟩ : ∃ z, z = clrN 4 τ7 := ⟨_, rfl⟩
          have hP : va_P D vwCl (FW 22 ad (CR cs n ad 0 nx σ8)) H := by rw [eσ8]; exact hP
          refine lv_iload_n hx hb dX5_clear_43 rfl (lv_at hl 1 rfl) ?_
          refine lv_iconst (v := 4) hx hb dX5_clear_44 (by decide) ?_
          refine lv_icmp_ge (tgt := 94) hx hb dX5_clear_45 (by decide) (fun c9 => ?_) (fun c9 => absurd (show (4 : Int32) ≤ nI 4 from Int32.le_refl _) c9)
          obtain ⟨τ10, eτ10⟩ : ∃ z, z = σ8 := ⟨_, rfl⟩
          rw [← eτ10] at hP
          refine lv_iconst (v := 0) hx hb dX5_clear_94 (by decide) ?_
          refine lv_istore_n (lv' := [(1, .int 0), (0, .ref (ad 0))]) hx hb dX5_clear_95 rfl hl (by decide) rfl (fun ls hl => ?_)
          have loop3 : ∀ (d i : Nat), i + d = 32 →  ∀ (H : Heap) (locs : List Loc) (ls : Array Slot), va_P D vwCl (FW 22 ad (CR cs n ad 0 nx (clrR i τ10))) H → va_S A s.heap H locs → lv_has ls 2 [(0, .ref (ad 0)), (1, .int (nI i))] → W p l e rmX5_clear s m args below meth c H locs 0 0 Q (F0 m 96 ls []) := by
            intro d
            induction d with
            | zero =>
              intro i hi  H locs ls hP hS hl
              obtain rfl : i = 32 := by omega
              obtain ⟨σ11, eσ11⟩ : ∃ z, z = clrR 32 τ10 := ⟨_, rfl⟩
              have hP : va_P D vwCl (FW 22 ad (CR cs n ad 0 nx σ11)) H := by rw [eσ11]; exact hP
              refine lv_iload_n hx hb dX5_clear_96 rfl (lv_at hl 1 rfl) ?_
              refine lv_bipush (v := 32) hx hb dX5_clear_97 (by decide) ?_
              refine lv_icmp_ge (tgt := 115) hx hb dX5_clear_99 (by decide) (fun c12 => ?_) (fun c12 => absurd (show (32 : Int32) ≤ nI 32 from Int32.le_refl _) c12)
              exact hret _ _ _ nx _ _ dX5_clear_115 hP hS (trivial) (by simp only [eσ11, eτ10, eσ8, eτ7, eσ5, eτ4, eσ3, eσ2, eσ1]; exact CR_eqv eqv_clr)
            | succ d ih =>
              intro i hi  H locs ls hP hS hl
              have hi2 : i < 32 := by omega
              obtain ⟨σ13, eσ13⟩ : ∃ z, z = clrR i τ10 := ⟨_, rfl⟩
              have hP : va_P D vwCl (FW 22 ad (CR cs n ad 0 nx σ13)) H := by rw [eσ13]; exact hP
              refine lv_iload_n hx hb dX5_clear_96 rfl (lv_at hl 1 rfl) ?_
              refine lv_bipush (v := 32) hx hb dX5_clear_97 (by decide) ?_
              refine lv_icmp_ge (tgt := 115) hx hb dX5_clear_99 (by decide) (fun c14 => absurd c14 (nI_ge hi2 (show 32 < 2 ^ 31 by decide))) (fun c14 => ?_)
              refine lv_aload_n hx hb dX5_clear_102 rfl (lv_at hl 0 rfl) ?_
              refine va_get (D := D) (ci := 5) (v := .ref (ad 9)) (C := RX5) (T := TX5) (N := 29) hx hb hts iwX5_clear_X5 hown hK hP 0 cr_obj rfl 13 (by decide) (hts _ lkX5_clear_35) (fun _ h9 => h9) rfl dX5_clear_103 ?_
              refine lv_iload_n hx hb dX5_clear_106 rfl (lv_at hl 1 rfl) ?_
              refine lv_iconst (v := 0) hx hb dX5_clear_107 (by decide) ?_
              refine g_iast (t0 := 0) hx hb hK hP hD hS cr_registers rfl i rfl hi2 (by decide) dX5_clear_108 (fun H locs hP hS => ?_)
              obtain ⟨σ15, eσ15⟩ : ∃ z, z = put σ13 10 (i / 8) (i % 8) 0 := ⟨_, rfl⟩
              have hP : va_P D vwCl (FW 22 ad (CR cs n ad 0 nx σ15)) H := by rw [eσ15]; exact cru_registers hP
              refine lv_iinc (v := nI (i + 1)) (lv' := [(1, .int (nI (i + 1))), (0, .ref (ad 0))]) hx hb dX5_clear_109 hl (k := 1) rfl (nI_1 i) (by decide) rfl (fun ls hl => ?_)
              refine lv_goto (tgt := 96) hx hb dX5_clear_112 (by decide) ?_
              exact ih (i + 1) (by omega)  _ _ _ (by simp only [eσ15, eσ13] at hP; rw [clrR_s] at hP; exact hP) hS (lv_sub hl [1, 0] rfl)
          exact loop3 (32) 0 (by omega)  _ _ _ (by rw [clrR_0]; exact hP) hS (lv_sub hl [1, 0] rfl)
        | succ d ih =>
          intro i hi  H locs ls hP hS hl
          have hi2 : i < 4 := by omega
          obtain ⟨σ16, eσ16⟩ : ∃ z, z = clrN i τ7 := ⟨_, rfl⟩
          have hP : va_P D vwCl (FW 22 ad (CR cs n ad 0 nx σ16)) H := by rw [eσ16]; exact hP
          refine lv_iload_n hx hb dX5_clear_43 rfl (lv_at hl 1 rfl) ?_
          refine lv_iconst (v := 4) hx hb dX5_clear_44 (by decide) ?_
          refine lv_icmp_ge (tgt := 94) hx hb dX5_clear_45 (by decide) (fun c17 => absurd c17 (nI_ge hi2 (show 4 < 2 ^ 31 by decide))) (fun c17 => ?_)
          refine lv_aload_n hx hb dX5_clear_48 rfl (lv_at hl 0 rfl) ?_
          refine va_get (D := D) (ci := 5) (v := .ref (ad 6)) (C := RX5) (T := TX5) (N := 29) hx hb hts iwX5_clear_X5 hown hK hP 0 cr_obj rfl 10 (by decide) (hts _ lkX5_clear_25) (fun _ h9 => h9) rfl dX5_clear_49 ?_
          refine lv_iload_n hx hb dX5_clear_52 rfl (lv_at hl 1 rfl) ?_
          refine lv_iconst (v := 0) hx hb dX5_clear_53 (by decide) ?_
          refine g_iast (t0 := 0) hx hb hK hP hD hS cr_places rfl i rfl hi2 (by decide) dX5_clear_54 (fun H locs hP hS => ?_)
          obtain ⟨σ18, eσ18⟩ : ∃ z, z = put σ16 13 i 0 0 := ⟨_, rfl⟩
          have hP : va_P D vwCl (FW 22 ad (CR cs n ad 0 nx σ18)) H := by rw [eσ18]; exact cru_places hP
          refine lv_aload_n hx hb dX5_clear_55 rfl (lv_at hl 0 rfl) ?_
          refine va_get (D := D) (ci := 5) (v := .ref (ad 7)) (C := RX5) (T := TX5) (N := 29) hx hb hts iwX5_clear_X5 hown hK hP 0 cr_obj rfl 11 (by decide) (hts _ lkX5_clear_28) (fun _ h9 => h9) rfl dX5_clear_56 ?_
          refine lv_iload_n hx hb dX5_clear_59 rfl (lv_at hl 1 rfl) ?_
          refine lv_iconst (v := 0) hx hb dX5_clear_60 (by decide) ?_
          refine g_zast (t0 := 3) hx hb hK hP hD hS cr_ended rfl i rfl hi2 (by decide) (by decide) dX5_clear_61 (fun H locs hP hS => ?_)
          obtain ⟨σ19, eσ19⟩ : ∃ z, z = put σ18 14 i 0 0 := ⟨_, rfl⟩
          have hP : va_P D vwCl (FW 22 ad (CR cs n ad 0 nx σ19)) H := by rw [eσ19]; exact cru_ended hP
          refine lv_aload_n hx hb dX5_clear_62 rfl (lv_at hl 0 rfl) ?_
          refine va_get (D := D) (ci := 5) (v := .ref (ad 8)) (C := RX5) (T := TX5) (N := 29) hx hb hts iwX5_clear_X5 hown hK hP 0 cr_obj rfl 12 (by decide) (hts _ lkX5_clear_32) (fun _ h9 => h9) rfl dX5_clear_63 ?_
          refine lv_iload_n hx hb dX5_clear_66 rfl (lv_at hl 1 rfl) ?_
          refine lv_iconst (v := 0) hx hb dX5_clear_67 (by decide) ?_
          refine g_iast (t0 := 0) hx hb hK hP hD hS cr_retired rfl i rfl hi2 (by decide) dX5_clear_68 (fun H locs hP hS => ?_)
          obtain ⟨σ20, eσ20⟩ : ∃ z, z = put σ19 15 i 0 0 := ⟨_, rfl⟩
          have hP : va_P D vwCl (FW 22 ad (CR cs n ad 0 nx σ20)) H := by rw [eσ20]; exact cru_retired hP
          refine lv_aload_n hx hb dX5_clear_69 rfl (lv_at hl 0 rfl) ?_
          refine va_get (D := D) (ci := 5) (v := .ref (ad 19)) (C := RX5) (T := TX5) (N := 29) hx hb hts iwX5_clear_X5 hown hK hP 0 cr_obj rfl 23 (by decide) (hts _ lkX5_clear_66) (fun _ h9 => h9) rfl dX5_clear_70 ?_
          refine lv_iload_n hx hb dX5_clear_73 rfl (lv_at hl 1 rfl) ?_
          refine lv_iconst (v := 0) hx hb dX5_clear_74 (by decide) ?_
          refine g_iast (t0 := 0) hx hb hK hP hD hS cr_committed rfl i rfl hi2 (by decide) dX5_clear_75 (fun H locs hP hS => ?_)
          obtain ⟨σ21, eσ21⟩ : ∃ z, z = put σ20 16 i 0 0 := ⟨_, rfl⟩
          have hP : va_P D vwCl (FW 22 ad (CR cs n ad 0 nx σ21)) H := by rw [eσ21]; exact cru_committed hP
          refine lv_aload_n hx hb dX5_clear_76 rfl (lv_at hl 0 rfl) ?_
          refine va_get (D := D) (ci := 5) (v := .ref (ad 20)) (C := RX5) (T := TX5) (N := 29) hx hb hts iwX5_clear_X5 hown hK hP 0 cr_obj rfl 24 (by decide) (hts _ lkX5_clear_69) (fun _ h9 => h9) rfl dX5_clear_77 ?_
          refine lv_iload_n hx hb dX5_clear_80 rfl (lv_at hl 1 rfl) ?_
          refine lv_iconst (v := 0) hx hb dX5_clear_81 (by decide) ?_
          refine g_iast (t0 := 0) hx hb hK hP hD hS cr_broken rfl i rfl hi2 (by decide) dX5_clear_82 (fun H locs hP hS => ?_)
          obtain ⟨σ22, eσ22⟩ : ∃ z, z = put σ21 17 i 0 0 := ⟨_, rfl⟩
          have hP : va_P D vwCl (FW 22 ad (CR cs n ad 0 nx σ22)) H := by rw [eσ22]; exact cru_broken hP
          refine lv_aload_n hx hb dX5_clear_83 rfl (lv_at hl 0 rfl) ?_
          refine lv_iload_n hx hb dX5_clear_84 rfl (lv_at hl 1 rfl) ?_
          refine g_cvv (As := [.int (nI i)]) ⟨hx, hb, hml, hown, hts⟩ (kX5_leave l D cs n ad 0 nx σ22 i hi2) (cwV 1 hts gX5_clear_X5_leave rfl rfl rfl (by decide +kernel) ⟨Nat.le_of_ble_eq_true rfl, Nat.le_of_ble_eq_true rfl⟩) hK hP hD hS hA 0 (ci := 5) rfl rfl cr_obj hl.1 dX5_clear_85 rfl rfl (Nat.le_of_ble_eq_true rfl) ⟨Nat.zero_le _, Nat.zero_le _⟩ (fun _ H locs hw hP hS => ?_)
          obtain ⟨σ23, eσ23⟩ : ∃ z, z = pClose σ22 i := ⟨_, rfl⟩
          have hP : va_P D vwCl (FW 22 ad (CR cs n ad 0 nx σ23)) H := by rw [eσ23]; exact hP
          refine lv_iinc (v := nI (i + 1)) (lv' := [(1, .int (nI (i + 1))), (0, .ref (ad 0))]) hx hb dX5_clear_88 hl (k := 1) rfl (nI_1 i) (by decide) rfl (fun ls hl => ?_)
          refine lv_goto (tgt := 43) hx hb dX5_clear_91 (by decide) ?_
          exact ih (i + 1) (by omega)  _ _ _ (by simp only [eσ23, eσ22, eσ21, eσ20, eσ19, eσ18, eσ16] at hP; exact hP) hS (lv_sub hl [1, 0] rfl)
      exact loop2 (4) 0 (by omega)  _ _ _ (hP) hS (lv_sub hl [1, 0] rfl)
    | succ d ih =>
      intro i hi  H locs ls hP hS hl
      have hi2 : i < 64 := by omega
      obtain ⟨σ24, eσ24⟩ : ∃ z, z = putA τ4 0 0 (fun j => if j < i then 0 else τ4.1 0 0 j) := ⟨_, rfl⟩
      have hP : va_P D vwCl (FW 22 ad (CR cs n ad 0 nx σ24)) H := by rw [eσ24]; exact hP
      refine lv_iload_n hx hb dX5_clear_22 rfl (lv_at hl 1 rfl) ?_
      refine lv_bipush (v := 64) hx hb dX5_clear_23 (by decide) ?_
      refine lv_icmp_ge (tgt := 41) hx hb dX5_clear_25 (by decide) (fun c25 => absurd c25 (nI_ge hi2 (show 64 < 2 ^ 31 by decide))) (fun c25 => ?_)
      refine lv_aload_n hx hb dX5_clear_28 rfl (lv_at hl 0 rfl) ?_
      refine va_get (D := D) (ci := 5) (v := .ref (ad 1)) (C := RX5) (T := TX5) (N := 29) hx hb hts iwX5_clear_X5 hown hK hP 0 cr_obj rfl 4 (by decide) (hts _ lkX5_clear_7) (fun _ h9 => h9) rfl dX5_clear_29 ?_
      refine lv_iload_n hx hb dX5_clear_32 rfl (lv_at hl 1 rfl) ?_
      refine lv_iconst (v := 0) hx hb dX5_clear_33 (by decide) ?_
      refine g_iast (t0 := 0) hx hb hK hP hD hS cr_mem rfl i rfl hi2 (by decide) dX5_clear_34 (fun H locs hP hS => ?_)
      obtain ⟨σ26, eσ26⟩ : ∃ z, z = put σ24 0 0 i 0 := ⟨_, rfl⟩
      have hP : va_P D vwCl (FW 22 ad (CR cs n ad 0 nx σ26)) H := by rw [eσ26]; exact cru_mem hP
      refine lv_iinc (v := nI (i + 1)) (lv' := [(1, .int (nI (i + 1))), (0, .ref (ad 0))]) hx hb dX5_clear_35 hl (k := 1) rfl (nI_1 i) (by decide) rfl (fun ls hl => ?_)
      refine lv_goto (tgt := 22) hx hb dX5_clear_38 (by decide) ?_
      exact ih (i + 1) (by omega)  _ _ _ (by simp only [eσ26, eσ24] at hP; rw [putA_step (g' := fun j => if j < i + 1 then 0 else τ4.1 0 0 j) (fun j => by by_cases h1 : j = i <;> by_cases h2 : j < i <;> simp [h1, h2] <;> omega)] at hP; exact hP) hS (lv_sub hl [1, 0] rfl)
  exact loop (64) 0 (by omega)  _ _ _ (by rw [putA_0 (fun j => by simp)]; exact hP) hS (lv_sub hl [1, 0] rfl)


theorem FW_cong {D : va_G} {cl : List vw_C} {N : Nat} {ad : Nat → Nat} {f g : Nat → va_E} {H : Heap} (h : ∀ i, i < N → f i = g i) (hP : va_P D cl (FW N ad f) H) : va_P D cl (FW N ad g) H := by
  rw [FW_at] at hP ⊢
  intro i hi
  rw [← h i hi]
  exact hP i hi
theorem CC_ext {cs : Nat → ClassId} {n : Nat} {ad : Nat → Nat} {τ σ : St} (hn0 : 0 < n) (h : ∀ f k j, f ≠ 24 → k < n → τ.1 f k j = σ.1 f k j) (h2 : ∀ k, k < n → τ.2 k = σ.2 k) : ∀ i, i < 5 * (n + 2) → CC cs n ad τ i = CC cs n ad σ i := by
  intro i hi
  show CQ cs n ad τ (i / 5) (i % 5) = CQ cs n ad σ (i / 5) (i % 5)
  have hc : i % 5 < 5 := by omega
  have hr : i / 5 < n + 2 := by omega
  generalize i / 5 = r at hr
  generalize i % 5 = c at hc
  have hh : ∀ f k, f ≠ 24 → k < n → τ.1 f k = σ.1 f k := fun f k a b => funext fun j => h f k j a b
  rcases r with _ | _ | k
  · rcases (show c = 0 ∨ c = 1 ∨ c = 2 ∨ c = 3 ∨ c = 4 by omega) with rfl | rfl | rfl | rfl | rfl <;> simp [CQ, hh _ 0 _ hn0]
  · rcases (show c = 0 ∨ c = 1 ∨ c = 2 ∨ c = 3 ∨ c = 4 by omega) with rfl | rfl | rfl | rfl | rfl <;> simp [CQ, hh _ 0 _ hn0]
  · have hk : k < n := by omega
    rcases (show c = 0 ∨ c = 1 ∨ c = 2 ∨ c = 3 ∨ c = 4 by omega) with rfl | rfl | rfl | rfl | rfl <;> simp [CQ, hh _ k _ hk, h2 k hk]
/-! calls that throw -/
def eI : String := "java/lang/IndexOutOfBoundsException"
def eA : String := "java/lang/IllegalArgumentException"
def eU : String := "java/lang/UnsupportedOperationException"
abbrev nmsX : List String := ["java/lang/RuntimeException", "java/lang/Exception"]
/-- the words of a throw that a call may warm -/
abbrev xB (X : String) : List Cond := [.castable X X, .declares (Bundle.init0 "java/lang/RuntimeException"), .declares (Bundle.init0 "java/lang/Exception"), .declares (Bundle.init0 Bundle.tN)]
def DX (U : State) : Prop := va_Nw (.declares (Bundle.init0 "java/lang/RuntimeException")) U ∧ va_Nw (.declares (Bundle.init0 "java/lang/Exception")) U ∧ va_Nw (.declares (Bundle.init0 Bundle.tN)) U
/-- what the throws stand on: the castable words, and Throwable's two statics, outside of what may change -/
def XW (B : Nat → Prop) (U : State) : Prop := va_Nw (.castable eI eI) U ∧ va_Nw (.castable eA eA) U ∧ va_Nw (.castable eU eU) U ∧ va_Nc eA eI U ∧ va_Nc eU eA U ∧ vx_Zq Bundle.tN "UNASSIGNED_STACK" Bundle.steD B U U.heap ∧ vx_Zq Bundle.tN "SUPPRESSED_SENTINEL" Bundle.listD B U U.heap ∧ DX U
theorem XW_to {A B : Nat → Prop} {s U : State} (h : XW A s) (hW : s.WarmedH U.vm) (hk : ∀ a : Nat, a < s.heap.size → ¬ A a → U.heap[a]? = s.heap[a]?) (hAB : ∀ q, B q → A q) : XW B U := by
  obtain ⟨h1, h2, h3, h4, h5, h6, h7, d1, d2, d3⟩ := h
  exact ⟨h1.warmC hW, h2.warmC hW, h3.warmC hW, h4.moved hW.alike, h5.moved hW.alike, ((vx_Zq.moved hW.alike h6).kept hk).narrow hAB, ((vx_Zq.moved hW.alike h7).kept hk).narrow hAB, d1.warmD hW, d2.warmD hW, d3.warmD hW⟩
theorem XW_same {B : Nat → Prop} {U V : State} (hvm : U.vm = V.vm) (hh : V.heap = U.heap) (h : XW B U) : XW B V := by
  obtain ⟨h1, h2, h3, h4, h5, h6, h7, d1, d2, d3⟩ := h
  have ha : U.vm.Alike V.vm := by rw [← hvm]; exact Vm.Alike.refl U.vm
  exact ⟨h1.same rfl hvm, h2.same rfl hvm, h3.same rfl hvm, h4.moved ha, h5.moved ha, by rw [hh]; exact vx_Zq.moved ha h6, by rw [hh]; exact vx_Zq.moved ha h7, va_Nw.same rfl hvm d1, va_Nw.same rfl hvm d2, va_Nw.same rfl hvm d3⟩
theorem xB_use {X : String} {A : Nat → Prop} {s : State} {args : Array Value} (h : va_Nw (.castable X X) s) (hX : XW A s) : ∀ w ∈ xB X, w.before args s = true := vx_c (va_Nw.use rfl h) (vx_c (va_Nw.use rfl hX.2.2.2.2.2.2.2.1) (vx_c (va_Nw.use rfl hX.2.2.2.2.2.2.2.2.1) (vx_c (va_Nw.use rfl hX.2.2.2.2.2.2.2.2.2) vx_n)))
abbrev gPcx (D : va_G) (tys : List (ClassId × FieldType)) (N : Nat) (ad : Nat → Nat) (f : Nat → va_E) (sz : Nat) (av : List Value) : Array Value → State → Prop := va_Pc av (fun U => U.heap.size = sz ∧ va_P D vwCl (FW N ad f) U.heap ∧ va_K D vwCl tys U ∧ va_D (fun _ => True) (FW N ad f) ∧ XW (va_A (FW N ad f) sz) U)
theorem gPcx_blind {D : va_G} {tys : List (ClassId × FieldType)} {N : Nat} {ad : Nat → Nat} {f : Nat → va_E} {sz : Nat} {av : List Value} : FrameBlind (gPcx D tys N ad f sz av) := fun a U g mk q => by
  obtain ⟨q0, q1, qP, qK, qD, qX⟩ := q
  exact ⟨q0, q1, qP, va_K.moved (u := U) (U := U.calling g mk a) (Vm.Alike.refl U.vm) qK, qD, XW_same rfl rfl qX⟩
def gMx {S : Type} (l : Launch) (y : MethodName) (ws : List Cond) (rm : Room) (D : va_G) (tys : List (ClassId × FieldType)) (N : Nat) (ad : Nat → Nat) (f : Nat → va_E) (av : List Value) (post : Int32 → S → Prop) (g : S → Nat → va_E) (px : String → Prop) : Prop :=
  ∀ sz : Nat, vx_Met l y ws rm (gPcx D tys N ad f sz av) (va_Qi post (fun u t => va_P D vwCl (FW N ad (g u)) t.heap) (va_A (FW N ad f) sz)) (vx_X (fun (_ : Unit) => True) (fun E _ t => px E ∧ va_P D vwCl (FW N ad f) t.heap) (va_A (FW N ad f) sz)) 1 6 (va_A (FW N ad f) sz)
theorem g_ofx {S : Type} {l : Launch} (hl0 : l.stackTraces = false) {y : MethodName} {ws ws0 : List Cond} {rm : Room} {D : va_G} {tys : List (ClassId × FieldType)} {N : Nat} {ad : Nat → Nat} {f : Nat → va_E} {av : List Value} {cc : ByteArray} {maxL : Nat} {post : Int32 → S → Prop} {g : S → Nat → va_E} {px : String → Prop} (hy : plainName y.cls = true) (hw : ws = Cond.code y cc maxL (some .int) :: ws0) (hlen : (lg_sl av).length ≤ maxL) (hrc : rm.cells = 1) (hrs : rm.slots = 6) (hrf : 5 < rm.frames)
    (k : ∀ (p : Program) (e : Env) (s : State) (m : MethodId) (args : Array Value) (below : List Frame) (meth : Method) (c : Code) (A : Nat → Prop) (ls : Array Slot) (Q : State → Prop), p.tables.exec = Jvm.exec → c.code = cc → c.maxLocals = maxL → (∀ w ∈ ws, w.before args s = true) → s.vm.findClass y.cls = some m.cls → va_K D vwCl tys s → va_P D vwCl (FW N ad f) s.heap → (∀ g, va_D A (FW N ad g)) → (∀ q : Nat, s.heap.size ≤ q → A q) → va_S A s.heap s.heap [] → lv_has ls maxL (lv_args 0 av) → XW A s →
      (∀ (H : Heap) (locs : List Loc) (f' : Nat → va_E) (v : Int32) (u : S) (pc : Nat) (ls : Array Slot), decode cc pc = .ok (.ireturn, 1) → va_P D vwCl (FW N ad f') H → va_S A s.heap H locs → post v u → f' = g u → W p l e rm s m args below meth c H locs 0 0 Q (F0 m pc ls [.int v])) →
      (∀ (H : Heap) (locs : List Loc) (cls : String) (ik ic pc : Nat) (ls : Array Slot) (rest : List Value), Bundle.fit cls = true → (Cond.classLink y.cls ik cls).before args s = true → (Cond.initialized cls).before args s = true → (∀ w ∈ vx_at0 y.cls ic cls nmsX, w.before args s = true) → (∀ w ∈ Cond.classLink y.cls ik cls :: Cond.initialized cls :: vx_at0 y.cls ic cls nmsX, vx_ot w = true) → ls.size = maxL → decode cc pc = .ok (.new ik, 3) → decode cc (pc + 3) = .ok (.dup, 1) → decode cc (pc + 4) = .ok (.invokespecial ic, 3) → decode cc (pc + 7) = .ok (.athrow, 1) → va_P D vwCl (FW N ad f) H → va_S A s.heap H locs → px cls → (rest.map fun v => v.category).sum + 81 ≤ rm.locals → W p l e rm s m args below meth c H locs 0 0 Q (F0 m pc ls rest)) →
      W p l e rm s m args below meth c s.heap [] 0 0 Q (F0 m 0 ls [])) : gMx l y ws rm D tys N ad f av post g px := by
  intro sz
  refine vx_ofW (cc := cc) (maxL := maxL) (ret := some .int) hy hw ?_
  intro p e s m args below meth c s₁ B hml hex hv
  obtain ⟨rfl, hsz, hP, hK, hD0, hXW⟩ := hv
  have hts := atoms_spec (ws := ws) B.pre
  have hown : s.vm.findClass y.cls = some m.cls := findClass_of_methodNamed B.named
  subst hsz
  have hD := hD0.self (sz := s.heap.size)
  have hA : ∀ q : Nat, s.heap.size ≤ q → va_A (FW N ad f) s.heap.size q := fun q h => Or.inr h
  have hl := lv_entry av (n := maxL) hlen
  have hx := B.exec
  have hb := B.bytes
  have hr := B.returns
  have hlocks := B.notSynchronized
  rw [lg_entry_eq]
  refine k p e s m _ below meth c (va_A (FW N ad f) s.heap.size) _ _ hx hb hml hts hown hK hP (FW_Dall hD) hA va_S.rf hl hXW ?_ ?_
  · intro H locs f2 v u pc ls hdg hP hS hu hg
    refine W.widen (k := 1) (n := 6) (by omega) (by omega) ?_
    exact vx_ret (W.iret (v := v) hx hb hr (fun t ht hW => ⟨⟨v, u, rfl, hu, by show va_P D vwCl (FW N ad (g u)) t.heap; rw [ht, ← hg]; exact hP⟩, hS.F ht⟩) hS.2.2 hdg hlocks)
  · intro H locs cls ik ic pc ls rest hfit hk hini hat hgood hsize d0 d3 d4 d7 hP hS hpx hrm
    exact vx_throw0 hx hb hl0 (names := nmsX) hown hfit (by decide) hk hini hat hgood hXW.2.2.2.2.2.1 hXW.2.2.2.2.2.2.1 hS (hsize.trans hml.symm) d0 d3 d4 d7 (fun x hx => (hex x hx).elim) (show 2 + 3 < rm.frames by omega) (show (rest.map fun v => v.category).sum + (13 * (2 + 1) + 42) ≤ rm.locals by omega) (show 0 + 1 ≤ rm.cells by omega) (show 0 + 6 ≤ rm.slots by omega) hlocks
      (fun t _ hsz hk => ⟨(), trivial, ⟨hpx, FW_at.mpr (fun i hi => (FW_at.mp hP i hi).kept (hk _ (FW_at.mp hP i hi).lt))⟩, Nat.le_trans hS.1 hsz, fun q h1 h2 => by rw [hk q (Nat.lt_of_lt_of_le h1 hS.1)]; exact hS.2.1 q h1 h2⟩) hS.2.2 (by omega) (by omega)

theorem xat_70 : ∀ w ∈ (vx_at0 RX4 70 eI nmsX).filter (fun w => !goodWord w), w ∈ xB eI := by decide +kernel
theorem xot_70 : ∀ w ∈ Cond.classLink RX4 68 eI :: Cond.initialized eI :: vx_at0 RX4 70 eI nmsX, vx_ot w = true := by decide +kernel
theorem xat_53 : ∀ w ∈ (vx_at0 RX4 53 eA nmsX).filter (fun w => !goodWord w), w ∈ xB eA := by decide +kernel
theorem xot_53 : ∀ w ∈ Cond.classLink RX4 51 eA :: Cond.initialized eA :: vx_at0 RX4 53 eA nmsX, vx_ot w = true := by decide +kernel
theorem xat_59 : ∀ w ∈ (vx_at0 RX4 59 eU nmsX).filter (fun w => !goodWord w), w ∈ xB eU := by decide +kernel
theorem xot_59 : ∀ w ∈ Cond.classLink RX4 57 eU :: Cond.initialized eU :: vx_at0 RX4 59 eU nmsX, vx_ot w = true := by decide +kernel