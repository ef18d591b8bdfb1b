/-! the reference: its methods under step -/
theorem q8 {k j : Nat} (hj : j < 8) : (8 * k + j) / 8 = k ∧ (8 * k + j) % 8 = j := by omega
theorem q64 {k j : Nat} (hj : j < 64) : (64 * k + j) / 64 = k ∧ (64 * k + j) % 64 = j := by omega
theorem nI_8 (k : Nat) : (8 : Int32) * nI k = nI (8 * k) := pk_mul 8 k
theorem nI_64 (k : Nat) : (64 : Int32) * nI k = nI (64 * k) := pk_mul 64 k
theorem nI_4 (k : Nat) : (4 : Int32) * nI k = nI (4 * k) := pk_mul 4 k
theorem nI_j0 {j : Nat} (hj : j < 2 ^ 31) (h : nI j = 0) : j = 0 := (nI_eq hj (by decide)).mp (h : nI j = nI 0)
theorem nI_jn {j : Nat} (h : ¬ nI j = 0) : ¬ j = 0 := fun e => h (by rw [e]; rfl)
/-- the reference sees all rows but the ring -/
def eqv (τ σ : St) : Prop := (∀ f k j, f ≠ 6 → f ≠ 8 → τ.1 f k j = σ.1 f k j) ∧ τ.2 = σ.2
theorem eqv_r (σ : St) : eqv σ σ := ⟨fun _ _ _ _ _ => rfl, rfl⟩
theorem eqv_put {a b : St} {f k j : Nat} {v w : Int32} (h : eqv a b) (hv : v = w) : eqv (put a f k j v) (put b f k j w) := by
  subst hv
  refine ⟨fun f' k' j' h6 h8 => ?_, h.2⟩
  simp only [put]
  rw [h.1 f' k' j' h6 h8]
theorem eqv_putA {a b : St} {f k : Nat} {g g' : Nat → Int32} (h : eqv a b) (hv : g = g') : eqv (putA a f k g) (putA b f k g') := by
  subst hv
  refine ⟨fun f' k' j' h6 h8 => ?_, h.2⟩
  simp only [putA]
  rw [h.1 f' k' j' h6 h8]
theorem eqv_close {a b : St} {k : Nat} (h : eqv a b) : eqv (pClose a k) (pClose b k) := by
  refine ⟨fun f' k' j' h6 h8 => ?_, ?_⟩
  · simp only [pClose, put, putL]
    rw [h.1 f' k' j' h6 h8]
  · simp only [pClose, putL, put]
    rw [h.2]
theorem CR_eqv {cs : Nat → ClassId} {n : Nat} {ad : Nat → Nat} {th nx : Int32} {τ σ : St} (h : eqv τ σ) : CR cs n ad th nx τ = CR cs n ad th nx σ := by
  obtain ⟨h1, h2⟩ := h
  funext i
  unfold CR
  split <;> simp only [h2, h1 0 _ _ (by decide) (by decide), h1 1 _ _ (by decide) (by decide), h1 2 _ _ (by decide) (by decide), h1 3 _ _ (by decide) (by decide), h1 4 _ _ (by decide) (by decide), h1 5 _ _ (by decide) (by decide), h1 7 _ _ (by decide) (by decide), h1 9 _ _ (by decide) (by decide), h1 10 _ _ (by decide) (by decide), h1 11 _ _ (by decide) (by decide), h1 12 _ _ (by decide) (by decide), h1 13 _ _ (by decide) (by decide), h1 14 _ _ (by decide) (by decide), h1 15 _ _ (by decide) (by decide), h1 16 _ _ (by decide) (by decide), h1 17 _ _ (by decide) (by decide), h1 18 _ _ (by decide) (by decide), h1 19 _ _ (by decide) (by decide), h1 20 _ _ (by decide) (by decide), h1 21 _ _ (by decide) (by decide), h1 22 _ _ (by decide) (by decide), h1 23 _ _ (by decide) (by decide), h1 24 _ _ (by decide) (by decide), h1 27 _ _ (by decide) (by decide), h1 28 _ _ (by decide) (by decide)]
/-- the reference's records, as they are written, are those of pAdd -/
theorem eqv_add1 {σ : St} {o q : Nat} (ho : σ.1 8 0 0 = nI o) (hq : σ.1 7 0 0 = nI q) (ho2 : o < 100) (h1 : q < 100) {a b c d : Int32} : eqv (put (put (put (put (put σ 24 0 (4 * q) a) 24 0 (4 * q + 1) b) 24 0 (4 * q + 2) c) 24 0 (4 * q + 3) d) 7 0 0 (nI (q + 1))) (pAdd σ a b c d) := by
  rw [put_0 σ, put_A, put_A, put_A]
  refine ⟨fun f k j h6 h8 => ?_, ?_⟩
  · simp only [pAdd, ho, hq, iN_nI (show o < 2 ^ 31 by omega), iN_nI (show q < 2 ^ 31 by omega), if_pos h1]
    simp only [put, putA, h6, false_and, if_false]
    by_cases e : f = 24
    · subst e; simp
    · simp [e]
  · simp only [pAdd, ho, hq, iN_nI (show o < 2 ^ 31 by omega), iN_nI (show q < 2 ^ 31 by omega), if_pos h1]; rfl
theorem eqv_add2 {σ : St} {o q : Nat} (ho : σ.1 8 0 0 = nI o) (hq : σ.1 7 0 0 = nI q) (ho2 : o < 100) (h1 : q = 100) {a b c d : Int32} : eqv (put (put (put (put (put (put (putA σ 24 0 (fun j => if j < 396 then σ.1 24 0 (j + 4) else σ.1 24 0 j)) 7 0 0 (nI 99)) 24 0 (4 * 99) a) 24 0 (4 * 99 + 1) b) 24 0 (4 * 99 + 2) c) 24 0 (4 * 99 + 3) d) 7 0 0 (nI (99 + 1))) (pAdd σ a b c d) := by
  have h2 : ¬ q < 100 := by omega
  rw [put_c (σ := putA σ 24 0 _) (show (7 : Nat) ≠ 24 by decide), put_c (σ := put (putA σ 24 0 _) 24 0 _ a) (show (7 : Nat) ≠ 24 by decide), put_c (σ := put (put (putA σ 24 0 _) 24 0 _ a) 24 0 _ b) (show (7 : Nat) ≠ 24 by decide), put_c (σ := put (put (put (putA σ 24 0 _) 24 0 _ a) 24 0 _ b) 24 0 _ c) (show (7 : Nat) ≠ 24 by decide), put_A, put_A, put_A, put_A]
  refine ⟨fun f k j h6 h8 => ?_, ?_⟩
  · simp only [pAdd, ho, hq, iN_nI (show o < 2 ^ 31 by omega), iN_nI (show q < 2 ^ 31 by omega), if_neg h2]
    simp only [put, putA, h6, h8, false_and, if_false]
    by_cases e : f = 24
    · subst e; simp
    · by_cases e2 : f = 7 ∧ k = 0 ∧ j = 0
      · obtain ⟨rfl, rfl, rfl⟩ := e2
        simp [hq, h1]
      · simp only [e2, e, if_false, false_and]
  · simp only [pAdd, ho, hq, iN_nI (show o < 2 ^ 31 by omega), iN_nI (show q < 2 ^ 31 by omega), if_neg h2]; rfl
theorem eqv_brk {σ ρ : St} {k : Nat} {code : Int32} (h : eqv ρ (pAdd σ (nI k) (σ.1 20 k 0) code (σ.1 19 k 0))) (h0 : σ.1 10 k 0 = 0) (h1 : σ.1 11 k 0 = 0) : eqv (pClose (put (put (put (putA ρ 10 k (fun j => if 1 ≤ j ∧ j < 8 then ρ.1 11 k j else ρ.1 10 k j)) 10 k 1 code) 13 k 0 (ρ.1 21 k 0)) 17 k 0 (ρ.1 17 k 0 + 1)) k) (pBreak σ k code) := by
  have hp : ∀ f j, f ≠ 6 → f ≠ 7 → f ≠ 8 → f ≠ 24 → ρ.1 f k j = σ.1 f k j := fun f j a1 a2 a3 a4 => (h.1 f k j a1 a3).trans (pAdd_at a1 a2 a3 a4)
  unfold pBreak
  rw [put_A]
  refine eqv_close (eqv_put (eqv_put (eqv_putA h ?_) (hp 21 0 (by decide) (by decide) (by decide) (by decide))) (by rw [hp 17 0 (by decide) (by decide) (by decide) (by decide)]))
  congr 1
  funext j
  rw [hp 11 j (by decide) (by decide) (by decide) (by decide), hp 10 j (by decide) (by decide) (by decide) (by decide)]
  by_cases hj : j = 0
  · subst hj; simp [h0, h1]
  · have : 1 ≤ j := by omega
    simp [this]
theorem tch_0 {σ : St} {G o ln : Nat} {w : Bool} (h : okK σ G o) (hd : σ.1 18 o 0 ≤ 0) : tch σ o ln w = false := by
  obtain ⟨-, -, -, ⟨d, hd8, e⟩, -, -, -, a8⟩ := h
  have hd0 : d = 0 := by
    rw [e] at hd
    have := (nI_leI (b := 0) (by omega) (by decide)).mp hd
    omega
  obtain ⟨-, h22, h23, -⟩ := a8 (by rw [e, hd0]; rfl)
  unfold tch
  rw [h22, h23]
  cases w <;> simp
theorem mOld_0 {σ : St} {G k ln : Nat} {w : Bool} (hG : G < 2 ^ 30) (h : ∀ k, k < 4 → okK σ G k) (hk4 : k < 4) (hd : σ.1 18 k 0 ≤ 0) : ∀ m, m ≤ 4 → mOld σ k ln w m = false
  | 0, _ => rfl
  | m + 1, hm => by
    obtain ⟨-, -, -, ⟨d, hd8, e⟩, -, -, -, a8⟩ := h k hk4
    have hd0 : d = 0 := by
      rw [e] at hd
      have := (nI_leI (b := 0) (by omega) (by decide)).mp hd
      omega
    obtain ⟨h19, -⟩ := a8 (by rw [e, hd0]; rfl)
    obtain ⟨-, -, -, -, ⟨g, hg, eg⟩, -⟩ := h m (by omega)
    refine mO_n (mOld_0 hG h hk4 hd m (by omega)) (fun q => ?_)
    have := q.2.2
    rw [h19, eg] at this
    exact nI_pos (by omega) this
theorem memo_s {σ : St} {k i : Nat} : put (pMemo σ k i) 0 0 i (pSeen (pMemo σ k i) k i) = pMemo σ k (i + 1) := by
  refine putA_step (fun j => ?_)
  by_cases h1 : j = i
  · subst h1
    rw [if_pos rfl, if_pos (Nat.lt_succ_self j)]
    unfold pSeen
    rw [hasS_memo]
    split
    · rfl
    · show _ = (if j < j then pSeen σ k j else σ.1 0 0 j)
      rw [if_neg (Nat.lt_irrefl j)]
  · rw [if_neg h1]
    by_cases h2 : j < i
    · rw [if_pos h2, if_pos (by omega)]
    · rw [if_neg h2, if_neg (by omega)]
theorem cnt_skip {σ : St} {k s t l : Nat} : ∀ e, (∀ m, l < m → m < l + 1 + e → m % s ≠ t) → cntL σ k s t (l + 1 + e) = cntL σ k s t (l + 1)
  | 0, _ => rfl
  | e + 1, h => by
    show cntL σ k s t (l + 1 + e + 1) = _
    rw [cnt_n (h (l + 1 + e) (by omega) (by omega))]
    exact cnt_skip e (fun m h1 h2 => h m h1 (by omega))
theorem cnt_min {σ : St} {k s t l : Nat} (hs : s = 1 ∨ s = 2 ∨ s = 4) (hl : l < 16) (ht : l % s = t) : cntL σ k s t (min (l + s) 16) = cntL σ k s t (l + 1) := by
  obtain ⟨e, he, hes⟩ : ∃ e, min (l + s) 16 = l + 1 + e ∧ e < s := ⟨min (l + s) 16 - (l + 1), by omega, by omega⟩
  rw [he]
  refine cnt_skip e (fun m h1 h2 => ?_)
  rcases hs with rfl | rfl | rfl <;> omega
theorem pClose_put {σ : St} {k f j : Nat} {v : Int32} (h : f ≠ 18 ∧ f ≠ 19 ∧ f ≠ 22 ∧ f ≠ 23) : pClose (put σ f k j v) k = put (pClose σ k) f k j v := by
  unfold pClose
  rw [put_c (σ := σ) h.1, put_c (σ := put σ 18 k 0 0) h.2.1, put_c (σ := put (put σ 18 k 0 0) 19 k 0 0) h.2.2.1, put_c (σ := put (put (put σ 18 k 0 0) 19 k 0 0) 22 k 0 0) h.2.2.2]
  rfl

abbrev rmX5_isIn : Room := ({ frames := 0, cells := 0, slots := 0, locals := 0 } : Room)
set_option maxRecDepth 100000 in
set_option maxHeartbeats 4000000 in
theorem kX5_isIn (l : Launch) (D : va_G) (cs : Nat → ClassId) (n : Nat) (ad : Nat → Nat) (th nx : Int32) (σ : St) (x y : Int32) : gMi l yX5_isIn wsX5_isIn rmX5_isIn D (tyL cs) 22 ad (CR cs n ad th nx σ) [.int x, .int y] (fun (r : Int32) (u : Unit) => r = bI (decide (0 ≤ x ∧ x < y))) (fun (u : Unit) => CR cs n ad th nx σ) := by
  refine g_ofz (cc := cX5_isIn) (maxL := 2) (by decide) rfl (Nat.le_of_ble_eq_true rfl) rfl rfl ?_
  intro p e s m args below meth c A ls Q hx hb hml hts hown hK hP hD hA hS hl hret
  have hl : lv_has ls 2 [(0, .int x), (1, .int y)] := hl
  refine lv_iload_n hx hb dX5_isIn_0 rfl (lv_at hl 0 rfl) ?_
  refine lv_if_lt (tgt := 13) hx hb dX5_isIn_1 (by decide) (fun c1 => ?_) (fun c1 => ?_)
  · refine lv_iconst (v := 0) hx hb dX5_isIn_13 (by decide) ?_
    exact hret _ _ _ _ () _ _ dX5_isIn_14 hP hS (Or.inl rfl) ((bI_n (fun h => absurd h.1 (Int32.not_le.mpr c1))).symm) (rfl)
  · refine lv_iload_n hx hb dX5_isIn_4 rfl (lv_at hl 0 rfl) ?_
    refine lv_iload_n hx hb dX5_isIn_5 rfl (lv_at hl 1 rfl) ?_
    refine lv_icmp_ge (tgt := 13) hx hb dX5_isIn_6 (by decide) (fun c2 => ?_) (fun c2 => ?_)
    · refine lv_iconst (v := 0) hx hb dX5_isIn_13 (by decide) ?_
      exact hret _ _ _ _ () _ _ dX5_isIn_14 hP hS (Or.inl rfl) ((bI_n (fun h => absurd h.2 (Int32.not_lt.mpr c2))).symm) (rfl)
    · refine lv_iconst (v := 1) hx hb dX5_isIn_9 (by decide) ?_
      refine lv_goto (tgt := 14) hx hb dX5_isIn_10 (by decide) ?_
      exact hret _ _ _ _ () _ _ dX5_isIn_14 hP hS (Or.inr rfl) ((bI_d ⟨Int32.not_lt.mp c1, Int32.not_le.mp c2⟩).symm) (rfl)

theorem iwX5_leave_X5 : ∀ w ∈ wsX50, w ∈ wsX5_leave := fun w h => by unfold wsX5_leave; simp only [List.mem_cons, List.mem_append, h, true_or, or_true]
theorem lkX5_leave_38 : Cond.fieldLink RX5 38 "CoreTransactionsModel" "depths" "[I" ∈ wsX5_leave := by decide +kernel
theorem lkX5_leave_41 : Cond.fieldLink RX5 41 "CoreTransactionsModel" "ages" "[I" ∈ wsX5_leave := by decide +kernel
theorem lkX5_leave_53 : Cond.fieldLink RX5 53 "CoreTransactionsModel" "reads" "[I" ∈ wsX5_leave := by decide +kernel
theorem lkX5_leave_56 : Cond.fieldLink RX5 56 "CoreTransactionsModel" "writes" "[I" ∈ wsX5_leave := by decide +kernel
theorem lkX5_leave_59 : Cond.fieldLink RX5 59 "CoreTransactionsModel" "stores" "[J" ∈ wsX5_leave := by decide +kernel
abbrev rmX5_leave : Room := ({ frames := 0, cells := 0, slots := 0, locals := 0 } : Room)
set_option maxRecDepth 100000 in
set_option maxHeartbeats 4000000 in
theorem kX5_leave (l : Launch) (D : va_G) (cs : Nat → ClassId) (n : Nat) (ad : Nat → Nat) (th nx : Int32) (σ : St) (k : Nat) (hk4 : k < 4) : gMv l yX5_leave wsX5_leave rmX5_leave D (tyL cs) 22 ad (CR cs n ad th nx σ) [.ref (ad 0), .int (nI k)] (fun (u : Unit) => True) (fun (u : Unit) => CR cs n ad th nx (pClose σ k)) := by
  refine g_ofv (cc := cX5_leave) (maxL := 2) (by decide) rfl (Nat.le_of_ble_eq_true rfl) rfl rfl ?_
  intro p e s m args below meth c A ls Q hx hb hml hts hown hK hP hD hA hS hl hret
  have hl : lv_has ls 2 [(0, .ref (ad 0)), (1, .int (nI k))] := hl
  refine lv_aload_n hx hb dX5_leave_0 rfl (lv_at hl 0 rfl) ?_
  refine va_get (D := D) (ci := 5) (v := .ref (ad 10)) (C := RX5) (T := TX5) (N := 29) hx hb hts iwX5_leave_X5 hown hK hP 0 cr_obj rfl 14 (by decide) (hts _ lkX5_leave_38) (fun _ h9 => h9) rfl dX5_leave_1 ?_
  refine lv_iload_n hx hb dX5_leave_4 rfl (lv_at hl 1 rfl) ?_
  refine lv_iconst (v := 0) hx hb dX5_leave_5 (by decide) ?_
  refine g_iast (t0 := 0) hx hb hK hP hD hS cr_depths rfl k rfl hk4 (by decide) dX5_leave_6 (fun H locs hP hS => ?_)
  obtain ⟨σ1, eσ1⟩ : ∃ z, z = put σ 18 k 0 0 := ⟨_, rfl⟩
  have hP : va_P D vwCl (FW 22 ad (CR cs n ad th nx σ1)) H := by rw [eσ1]; exact cru_depths hP
  refine lv_aload_n hx hb dX5_leave_7 rfl (lv_at hl 0 rfl) ?_
  refine va_get (D := D) (ci := 5) (v := .ref (ad 11)) (C := RX5) (T := TX5) (N := 29) hx hb hts iwX5_leave_X5 hown hK hP 0 cr_obj rfl 15 (by decide) (hts _ lkX5_leave_41) (fun _ h9 => h9) rfl dX5_leave_8 ?_
  refine lv_iload_n hx hb dX5_leave_11 rfl (lv_at hl 1 rfl) ?_
  refine lv_iconst (v := 0) hx hb dX5_leave_12 (by decide) ?_
  refine g_iast (t0 := 0) hx hb hK hP hD hS cr_ages rfl k rfl hk4 (by decide) dX5_leave_13 (fun H locs hP hS => ?_)
  obtain ⟨σ2, eσ2⟩ : ∃ z, z = put σ1 19 k 0 0 := ⟨_, rfl⟩
  have hP : va_P D vwCl (FW 22 ad (CR cs n ad th nx σ2)) H := by rw [eσ2]; exact cru_ages hP
  refine lv_aload_n hx hb dX5_leave_14 rfl (lv_at hl 0 rfl) ?_
  refine va_get (D := D) (ci := 5) (v := .ref (ad 15)) (C := RX5) (T := TX5) (N := 29) hx hb hts iwX5_leave_X5 hown hK hP 0 cr_obj rfl 19 (by decide) (hts _ lkX5_leave_53) (fun _ h9 => h9) rfl dX5_leave_15 ?_
  refine lv_iload_n hx hb dX5_leave_18 rfl (lv_at hl 1 rfl) ?_
  refine lv_iconst (v := 0) hx hb dX5_leave_19 (by decide) ?_
  refine g_iast (t0 := 0) hx hb hK hP hD hS cr_reads rfl k rfl hk4 (by decide) dX5_leave_20 (fun H locs hP hS => ?_)
  obtain ⟨σ3, eσ3⟩ : ∃ z, z = put σ2 22 k 0 0 := ⟨_, rfl⟩
  have hP : va_P D vwCl (FW 22 ad (CR cs n ad th nx σ3)) H := by rw [eσ3]; exact cru_reads hP
  refine lv_aload_n hx hb dX5_leave_21 rfl (lv_at hl 0 rfl) ?_
  refine va_get (D := D) (ci := 5) (v := .ref (ad 16)) (C := RX5) (T := TX5) (N := 29) hx hb hts iwX5_leave_X5 hown hK hP 0 cr_obj rfl 20 (by decide) (hts _ lkX5_leave_56) (fun _ h9 => h9) rfl dX5_leave_22 ?_
  refine lv_iload_n hx hb dX5_leave_25 rfl (lv_at hl 1 rfl) ?_
  refine lv_iconst (v := 0) hx hb dX5_leave_26 (by decide) ?_
  refine g_iast (t0 := 0) hx hb hK hP hD hS cr_writes rfl k rfl hk4 (by decide) dX5_leave_27 (fun H locs hP hS => ?_)
  obtain ⟨σ4, eσ4⟩ : ∃ z, z = put σ3 23 k 0 0 := ⟨_, rfl⟩
  have hP : va_P D vwCl (FW 22 ad (CR cs n ad th nx σ4)) H := by rw [eσ4]; exact cru_writes hP
  refine lv_aload_n hx hb dX5_leave_28 rfl (lv_at hl 0 rfl) ?_
  refine va_get (D := D) (ci := 5) (v := .ref (ad 17)) (C := RX5) (T := TX5) (N := 29) hx hb hts iwX5_leave_X5 hown hK hP 0 cr_obj rfl 21 (by decide) (hts _ lkX5_leave_59) (fun _ h9 => h9) rfl dX5_leave_29 ?_
  refine lv_iload_n hx hb dX5_leave_32 rfl (lv_at hl 1 rfl) ?_
  refine lv_lconst (v := 0) hx hb dX5_leave_33 (by decide) ?_
  refine g_last (t0 := 2) hx hb hK hP hD hS cr_stores rfl k rfl hk4 (by decide) dX5_leave_34 (fun H locs hP hS => ?_)
  obtain ⟨σ5, eσ5⟩ : ∃ z, z = putL σ4 k 0 := ⟨_, rfl⟩
  have hP : va_P D vwCl (FW 22 ad (CR cs n ad th nx σ5)) H := by rw [eσ5]; exact cru_stores hP
  exact hret _ _ _ () _ _ dX5_leave_35 hP hS (trivial) (by simp only [eσ5, eσ4, eσ3, eσ2, eσ1]; first | done | rfl)

theorem iwX5_get_X5 : ∀ w ∈ wsX50, w ∈ wsX5_get := fun w h => by unfold wsX5_get; simp only [List.mem_cons, List.mem_append, h, true_or, or_true]
theorem lkX5_get_35 : Cond.fieldLink RX5 35 "CoreTransactionsModel" "registers" "[I" ∈ wsX5_get := by decide +kernel
abbrev rmX5_get : Room := ({ frames := 0, cells := 0, slots := 0, locals := 0 } : Room)
set_option maxRecDepth 100000 in
set_option maxHeartbeats 4000000 in
theorem kX5_get (l : Launch) (D : va_G) (cs : Nat → ClassId) (n : Nat) (ad : Nat → Nat) (th nx : Int32) (σ : St) (k : Nat) (hk4 : k < 4) (j : Nat) (hj : j < 8) (h0 : σ.1 10 k 0 = 0) : gMi l yX5_get wsX5_get rmX5_get D (tyL cs) 22 ad (CR cs n ad th nx σ) [.ref (ad 0), .int (nI k), .int (nI j)] (fun (r : Int32) (u : Unit) => r = σ.1 10 k j) (fun (u : Unit) => CR cs n ad th nx σ) := by
  refine g_ofi (cc := cX5_get) (maxL := 3) (by decide) rfl (Nat.le_of_ble_eq_true rfl) rfl rfl ?_
  intro p e s m args below meth c A ls Q hx hb hml hts hown hK hP hD hA hS hl hret
  have hl : lv_has ls 3 [(0, .ref (ad 0)), (1, .int (nI k)), (2, .int (nI j))] := hl
  refine lv_iload_n hx hb dX5_get_0 rfl (lv_at hl 2 rfl) ?_
  refine lv_if_ne (tgt := 8) hx hb dX5_get_1 (by decide) (fun c1 => ?_) (fun c1 => ?_)
  · refine lv_aload_n hx hb dX5_get_8 rfl (lv_at hl 0 rfl) ?_
    refine va_get (D := D) (ci := 5) (v := .ref (ad 9)) (C := RX5) (T := TX5) (N := 29) hx hb hts iwX5_get_X5 hown hK hP 0 cr_obj rfl 13 (by decide) (hts _ lkX5_get_35) (fun _ h9 => h9) rfl dX5_get_9 ?_
    refine lv_bipush (v := 8) hx hb dX5_get_12 (by decide) ?_
    refine lv_iload_n hx hb dX5_get_14 rfl (lv_at hl 1 rfl) ?_
    refine lv_imul hx hb dX5_get_15 ?_
    refine g_top (y := nI (8 * k)) (nI_8 k) ?_
    refine lv_iload_n hx hb dX5_get_16 rfl (lv_at hl 2 rfl) ?_
    refine lv_iadd hx hb dX5_get_17 ?_
    refine g_top (y := nI (8 * k + j)) (nI_add _ _) ?_
    refine g_iald (t0 := 0) (v := σ.1 10 k j) hx hb hK hP cr_registers rfl (8 * k + j) rfl (by omega) (by decide) (by show _ = _; exact congr (congrArg (σ.1 10) (q8 hj).1) (q8 hj).2) dX5_get_18 ?_
    exact hret _ _ _ _ () _ _ dX5_get_19 hP hS (rfl) (rfl)
  · have hj0 : j = 0 := nI_j0 (by omega) c1
    refine lv_iconst (v := 0) hx hb dX5_get_4 (by decide) ?_
    refine lv_goto (tgt := 19) hx hb dX5_get_5 (by decide) ?_
    exact hret _ _ _ _ () _ _ dX5_get_19 hP hS (by rw [hj0, h0]) (rfl)

theorem iwX5_give_X5 : ∀ w ∈ wsX50, w ∈ wsX5_give := fun w h => by unfold wsX5_give; simp only [List.mem_cons, List.mem_append, h, true_or, or_true]
theorem lkX5_give_35 : Cond.fieldLink RX5 35 "CoreTransactionsModel" "registers" "[I" ∈ wsX5_give := by decide +kernel
abbrev rmX5_give : Room := ({ frames := 0, cells := 0, slots := 0, locals := 0 } : Room)
set_option maxRecDepth 100000 in
set_option maxHeartbeats 4000000 in
theorem kX5_give (l : Launch) (D : va_G) (cs : Nat → ClassId) (n : Nat) (ad : Nat → Nat) (th nx : Int32) (σ : St) (k : Nat) (hk4 : k < 4) (j : Nat) (hj : j < 8) (v : Int32) : gMv l yX5_give wsX5_give rmX5_give D (tyL cs) 22 ad (CR cs n ad th nx σ) [.ref (ad 0), .int (nI k), .int (nI j), .int v] (fun (u : Unit) => True) (fun (u : Unit) => CR cs n ad th nx (pGive σ k j v)) := by
  refine g_ofv (cc := cX5_give) (maxL := 4) (by decide) rfl (Nat.le_of_ble_eq_true rfl) rfl rfl ?_
  intro p e s m args below meth c A ls Q hx hb hml hts hown hK hP hD hA hS hl hret
  have hl : lv_has ls 4 [(0, .ref (ad 0)), (1, .int (nI k)), (2, .int (nI j)), (3, .int v)] := hl
  refine lv_iload_n hx hb dX5_give_0 rfl (lv_at hl 2 rfl) ?_
  refine lv_if_eq (tgt := 16) hx hb dX5_give_1 (by decide) (fun c1 => ?_) (fun c1 => ?_)
  · have hj0 : j = 0 := nI_j0 (by omega) c1
    exact hret _ _ _ () _ _ dX5_give_16 hP hS (trivial) (by simp only [pGive, hj0, if_true, if_false])
  · have hj0 : ¬ j = 0 := nI_jn c1
    refine lv_aload_n hx hb dX5_give_4 rfl (lv_at hl 0 rfl) ?_
    refine va_get (D := D) (ci := 5) (v := .ref (ad 9)) (C := RX5) (T := TX5) (N := 29) hx hb hts iwX5_give_X5 hown hK hP 0 cr_obj rfl 13 (by decide) (hts _ lkX5_give_35) (fun _ h9 => h9) rfl dX5_give_5 ?_
    refine lv_bipush (v := 8) hx hb dX5_give_8 (by decide) ?_
    refine lv_iload_n hx hb dX5_give_10 rfl (lv_at hl 1 rfl) ?_
    refine lv_imul hx hb dX5_give_11 ?_
    refine g_top (y := nI (8 * k)) (nI_8 k) ?_
    refine lv_iload_n hx hb dX5_give_12 rfl (lv_at hl 2 rfl) ?_
    refine lv_iadd hx hb dX5_give_13 ?_
    refine g_top (y := nI (8 * k + j)) (nI_add _ _) ?_
    refine lv_iload_n hx hb dX5_give_14 rfl (lv_at hl 3 rfl) ?_
    refine g_iast (t0 := 0) hx hb hK hP hD hS cr_registers rfl (8 * k + j) rfl (by omega) (by decide) dX5_give_15 (fun H locs hP hS => ?_)
    obtain ⟨σ2, eσ2⟩ : ∃ z, z = put σ 10 k j v := ⟨_, rfl⟩
    have hP : va_P D vwCl (FW 22 ad (CR cs n ad th nx σ2)) H := by rw [eσ2]; have h8 := cru_registers hP; rw [(q8 hj).1, (q8 hj).2] at h8; exact h8
    exact hret _ _ _ () _ _ dX5_give_16 hP hS (trivial) (by simp only [eσ2]; simp only [pGive, hj0, if_true, if_false])

theorem shl_step {σ : St} (i j : Nat) : (if j < i + 1 then σ.1 24 0 (j + 4) else σ.1 24 0 j) = if j = i then (putA σ 24 0 (fun j => if j < i then σ.1 24 0 (j + 4) else σ.1 24 0 j)).1 24 0 (i + 4) else (if j < i then σ.1 24 0 (j + 4) else σ.1 24 0 j) := by
  by_cases h1 : j = i
  · subst h1
    rw [if_pos (Nat.lt_succ_self j), if_pos rfl]
    show _ = (if j + 4 < j then σ.1 24 0 (j + 4 + 4) else σ.1 24 0 (j + 4))
    rw [if_neg (by omega)]
  · rw [if_neg h1]
    by_cases h2 : j < i
    · rw [if_pos h2, if_pos (by omega)]
    · rw [if_neg h2, if_neg (by omega)]
theorem reg_step {σ : St} {k : Nat} (i j : Nat) (h : 1 ≤ i) : (if 1 ≤ j ∧ j < i + 1 then σ.1 11 k j else σ.1 10 k j) = if j = i then (putA σ 10 k (fun j => if 1 ≤ j ∧ j < i then σ.1 11 k j else σ.1 10 k j)).1 11 k i else (if 1 ≤ j ∧ j < i then σ.1 11 k j else σ.1 10 k j) := by
  by_cases h1 : j = i
  · subst h1
    rw [if_pos ⟨h, Nat.lt_succ_self j⟩, if_pos rfl]
    simp [putA]
  · rw [if_neg h1]
    by_cases h2 : 1 ≤ j ∧ j < i
    · rw [if_pos h2, if_pos ⟨h2.1, by omega⟩]
    · rw [if_neg h2, if_neg (by omega)]

theorem iwX5_breakOff_X5 : ∀ w ∈ wsX50, w ∈ wsX5_breakOff := fun w h => by unfold wsX5_breakOff; simp only [List.mem_cons, List.mem_append, h, true_or, or_true]
theorem lkX5_breakOff_25 : Cond.fieldLink RX5 25 "CoreTransactionsModel" "places" "[I" ∈ wsX5_breakOff := by decide +kernel
theorem lkX5_breakOff_35 : Cond.fieldLink RX5 35 "CoreTransactionsModel" "registers" "[I" ∈ wsX5_breakOff := by decide +kernel
theorem lkX5_breakOff_41 : Cond.fieldLink RX5 41 "CoreTransactionsModel" "ages" "[I" ∈ wsX5_breakOff := by decide +kernel
theorem lkX5_breakOff_44 : Cond.fieldLink RX5 44 "CoreTransactionsModel" "begins" "[I" ∈ wsX5_breakOff := by decide +kernel
theorem lkX5_breakOff_47 : Cond.fieldLink RX5 47 "CoreTransactionsModel" "returns" "[I" ∈ wsX5_breakOff := by decide +kernel
theorem lkX5_breakOff_50 : Cond.fieldLink RX5 50 "CoreTransactionsModel" "keptRegisters" "[I" ∈ wsX5_breakOff := by decide +kernel
theorem lkX5_breakOff_69 : Cond.fieldLink RX5 69 "CoreTransactionsModel" "broken" "[I" ∈ wsX5_breakOff := by decide +kernel
theorem lkX5_breakOff_72 : Cond.fieldLink RX5 72 "CoreTransactionsModel" "recordCells" "[I" ∈ wsX5_breakOff := by decide +kernel
theorem lkX5_breakOff_121 : Cond.fieldLink RX5 121 "CoreTransactionsModel" "recordCount" "I" ∈ wsX5_breakOff := by decide +kernel
abbrev rmX5_breakOff : Room := ({ frames := 1, cells := 0, slots := 0, locals := 21 } : Room)
set_option maxRecDepth 100000 in
set_option maxHeartbeats 4000000 in
theorem kX5_breakOff (l : Launch) (D : va_G) (cs : Nat → ClassId) (n : Nat) (ad : Nat → Nat) (th nx : Int32) (σ : St) (k : Nat) (hk4 : k < 4) (code : Int32) (o q : Nat) (ho : σ.1 8 0 0 = nI o) (hq : σ.1 7 0 0 = nI q) (ho2 : o < 100) (hq2 : q ≤ 100) (h0 : σ.1 10 k 0 = 0) (h1 : σ.1 11 k 0 = 0) : gMv l yX5_breakOff wsX5_breakOff rmX5_breakOff D (tyL cs) 22 ad (CR cs n ad th nx σ) [.ref (ad 0), .int (nI k), .int code] (fun (u : Unit) => True) (fun (u : Unit) => CR cs n ad th nx (pBreak σ k code)) := by
  refine g_ofv (cc := cX5_breakOff) (maxL := 4) (by decide) rfl (Nat.le_of_ble_eq_true rfl) rfl rfl ?_
  intro p e s m args below meth c A ls Q hx hb hml hts hown hK hP hD hA hS hl hret
  have hl : lv_has ls 4 [(0, .ref (ad 0)), (1, .int (nI k)), (2, .int code)] := hl
  refine lv_aload_n hx hb dX5_breakOff_0 rfl (lv_at hl 0 rfl) ?_
  refine va_get (D := D) (ci := 5) (v := .int (σ.1 7 0 0)) (C := RX5) (T := TX5) (N := 29) hx hb hts iwX5_breakOff_X5 hown hK hP 0 cr_obj rfl 26 (by decide) (hts _ lkX5_breakOff_121) (fun _ h9 => h9) rfl dX5_breakOff_1 ?_
  refine lv_bipush (v := 100) hx hb dX5_breakOff_4 (by decide) ?_
  refine lv_icmp_ne (tgt := 48) hx hb dX5_breakOff_6 (by decide) (fun c1 => ?_) (fun c1 => ?_)
  · have hqe : q < 100 := Nat.lt_of_le_of_ne hq2 (fun h => c1 (by rw [hq, h]; rfl))
    refine lv_aload_n hx hb dX5_breakOff_48 rfl (lv_at hl 0 rfl) ?_
    refine va_get (D := D) (ci := 5) (v := .ref (ad 21)) (C := RX5) (T := TX5) (N := 29) hx hb hts iwX5_breakOff_X5 hown hK hP 0 cr_obj rfl 27 (by decide) (hts _ lkX5_breakOff_72) (fun _ h9 => h9) rfl dX5_breakOff_49 ?_
    refine lv_iconst (v := 4) hx hb dX5_breakOff_52 (by decide) ?_
    refine lv_aload_n hx hb dX5_breakOff_53 rfl (lv_at hl 0 rfl) ?_
    refine va_get (D := D) (ci := 5) (v := .int (σ.1 7 0 0)) (C := RX5) (T := TX5) (N := 29) hx hb hts iwX5_breakOff_X5 hown hK hP 0 cr_obj rfl 26 (by decide) (hts _ lkX5_breakOff_121) (fun _ h9 => h9) rfl dX5_breakOff_54 ?_
    refine g_top (y := nI q) (by first | exact hq | rfl) ?_
    refine lv_imul hx hb dX5_breakOff_57 ?_
    refine g_top (y := nI (4 * q)) (nI_4 _) ?_
    refine lv_iload_n hx hb dX5_breakOff_58 rfl (lv_at hl 1 rfl) ?_
    refine g_iast (t0 := 0) hx hb hK hP hD hS cr_recs rfl (4 * q) rfl (by omega) (by decide) dX5_breakOff_59 (fun H locs hP hS => ?_)
    obtain ⟨σ2, eσ2⟩ : ∃ z, z = put σ 24 0 (4 * q) (nI k) := ⟨_, rfl⟩
    have hP : va_P D vwCl (FW 22 ad (CR cs n ad th nx σ2)) H := by rw [eσ2]; exact cru_recs hP
    refine lv_aload_n hx hb dX5_breakOff_60 rfl (lv_at hl 0 rfl) ?_
    refine va_get (D := D) (ci := 5) (v := .ref (ad 21)) (C := RX5) (T := TX5) (N := 29) hx hb hts iwX5_breakOff_X5 hown hK hP 0 cr_obj rfl 27 (by decide) (hts _ lkX5_breakOff_72) (fun _ h9 => h9) rfl dX5_breakOff_61 ?_
    refine lv_iconst (v := 4) hx hb dX5_breakOff_64 (by decide) ?_
    refine lv_aload_n hx hb dX5_breakOff_65 rfl (lv_at hl 0 rfl) ?_
    refine va_get (D := D) (ci := 5) (v := .int (σ2.1 7 0 0)) (C := RX5) (T := TX5) (N := 29) hx hb hts iwX5_breakOff_X5 hown hK hP 0 cr_obj rfl 26 (by decide) (hts _ lkX5_breakOff_121) (fun _ h9 => h9) rfl dX5_breakOff_66 ?_
    refine g_top (y := nI q) (by simp only [eσ2]; first | exact hq | rfl) ?_
    refine lv_imul hx hb dX5_breakOff_69 ?_
    refine g_top (y := nI (4 * q)) (nI_4 _) ?_
    refine lv_iconst (v := 1) hx hb dX5_breakOff_70 (by decide) ?_
    refine lv_iadd hx hb dX5_breakOff_71 ?_
    refine g_top (y := nI (4 * q + 1)) (nI_add _ 1) ?_
    refine lv_aload_n hx hb dX5_breakOff_72 rfl (lv_at hl 0 rfl) ?_
    refine va_get (D := D) (ci := 5) (v := .ref (ad 12)) (C := RX5) (T := TX5) (N := 29) hx hb hts iwX5_breakOff_X5 hown hK hP 0 cr_obj rfl 16 (by decide) (hts _ lkX5_breakOff_44) (fun _ h9 => h9) rfl dX5_breakOff_73 ?_
    refine lv_iload_n hx hb dX5_breakOff_76 rfl (lv_at hl 1 rfl) ?_
    refine g_iald (t0 := 0) (v := σ2.1 20 k 0) hx hb hK hP cr_begins rfl k rfl hk4 (by decide) rfl dX5_breakOff_77 ?_
    refine g_iast (t0 := 0) hx hb hK hP hD hS cr_recs rfl (4 * q + 1) rfl (by omega) (by decide) dX5_breakOff_78 (fun H locs hP hS => ?_)
    obtain ⟨σ3, eσ3⟩ : ∃ z, z = put σ2 24 0 (4 * q + 1) (σ2.1 20 k 0) := ⟨_, rfl⟩
    have hP : va_P D vwCl (FW 22 ad (CR cs n ad th nx σ3)) H := by rw [eσ3]; exact cru_recs hP
    refine lv_aload_n hx hb dX5_breakOff_79 rfl (lv_at hl 0 rfl) ?_
    refine va_get (D := D) (ci := 5) (v := .ref (ad 21)) (C := RX5) (T := TX5) (N := 29) hx hb hts iwX5_breakOff_X5 hown hK hP 0 cr_obj rfl 27 (by decide) (hts _ lkX5_breakOff_72) (fun _ h9 => h9) rfl dX5_breakOff_80 ?_
    refine lv_iconst (v := 4) hx hb dX5_breakOff_83 (by decide) ?_
    refine lv_aload_n hx hb dX5_breakOff_84 rfl (lv_at hl 0 rfl) ?_
    refine va_get (D := D) (ci := 5) (v := .int (σ3.1 7 0 0)) (C := RX5) (T := TX5) (N := 29) hx hb hts iwX5_breakOff_X5 hown hK hP 0 cr_obj rfl 26 (by decide) (hts _ lkX5_breakOff_121) (fun _ h9 => h9) rfl dX5_breakOff_85 ?_
    refine g_top (y := nI q) (by simp only [eσ3, eσ2]; first | exact hq | rfl) ?_
    refine lv_imul hx hb dX5_breakOff_88 ?_
    refine g_top (y := nI (4 * q)) (nI_4 _) ?_
    refine lv_iconst (v := 2) hx hb dX5_breakOff_89 (by decide) ?_
    refine lv_iadd hx hb dX5_breakOff_90 ?_
    refine g_top (y := nI (4 * q + 2)) (nI_add _ 2) ?_
    refine lv_iload_n hx hb dX5_breakOff_91 rfl (lv_at hl 2 rfl) ?_
    refine g_iast (t0 := 0) hx hb hK hP hD hS cr_recs rfl (4 * q + 2) rfl (by omega) (by decide) dX5_breakOff_92 (fun H locs hP hS => ?_)
    obtain ⟨σ4, eσ4⟩ : ∃ z, z = put σ3 24 0 (4 * q + 2) code := ⟨_, rfl⟩
    have hP : va_P D vwCl (FW 22 ad (CR cs n ad th nx σ4)) H := by rw [eσ4]; exact cru_recs hP
    refine lv_aload_n hx hb dX5_breakOff_93 rfl (lv_at hl 0 rfl) ?_
    refine va_get (D := D) (ci := 5) (v := .ref (ad 21)) (C := RX5) (T := TX5) (N := 29) hx hb hts iwX5_breakOff_X5 hown hK hP 0 cr_obj rfl 27 (by decide) (hts _ lkX5_breakOff_72) (fun _ h9 => h9) rfl dX5_breakOff_94 ?_
    refine lv_iconst (v := 4) hx hb dX5_breakOff_97 (by decide) ?_
    refine lv_aload_n hx hb dX5_breakOff_98 rfl (lv_at hl 0 rfl) ?_
    refine va_get (D := D) (ci := 5) (v := .int (σ4.1 7 0 0)) (C := RX5) (T := TX5) (N := 29) hx hb hts iwX5_breakOff_X5 hown hK hP 0 cr_obj rfl 26 (by decide) (hts _ lkX5_breakOff_121) (fun _ h9 => h9) rfl dX5_breakOff_99 ?_
    refine g_top (y := nI q) (by simp only [eσ4, eσ3, eσ2]; first | exact hq | rfl) ?_
    refine lv_imul hx hb dX5_breakOff_102 ?_
    refine g_top (y := nI (4 * q)) (nI_4 _) ?_
    refine lv_iconst (v := 3) hx hb dX5_breakOff_103 (by decide) ?_
    refine lv_iadd hx hb dX5_breakOff_104 ?_
    refine g_top (y := nI (4 * q + 3)) (nI_add _ 3) ?_
    refine lv_aload_n hx hb dX5_breakOff_105 rfl (lv_at hl 0 rfl) ?_
    refine va_get (D := D) (ci := 5) (v := .ref (ad 11)) (C := RX5) (T := TX5) (N := 29) hx hb hts iwX5_breakOff_X5 hown hK hP 0 cr_obj rfl 15 (by decide) (hts _ lkX5_breakOff_41) (fun _ h9 => h9) rfl dX5_breakOff_106 ?_
    refine lv_iload_n hx hb dX5_breakOff_109 rfl (lv_at hl 1 rfl) ?_
    refine g_iald (t0 := 0) (v := σ4.1 19 k 0) hx hb hK hP cr_ages rfl k rfl hk4 (by decide) rfl dX5_breakOff_110 ?_
    refine g_iast (t0 := 0) hx hb hK hP hD hS cr_recs rfl (4 * q + 3) rfl (by omega) (by decide) dX5_breakOff_111 (fun H locs hP hS => ?_)
    obtain ⟨σ5, eσ5⟩ : ∃ z, z = put σ4 24 0 (4 * q + 3) (σ4.1 19 k 0) := ⟨_, rfl⟩
    have hP : va_P D vwCl (FW 22 ad (CR cs n ad th nx σ5)) H := by rw [eσ5]; exact cru_recs hP
    refine lv_aload_n hx hb dX5_breakOff_112 rfl (lv_at hl 0 rfl) ?_
    refine lv_dup hx hb dX5_breakOff_113 rfl ?_
    refine va_get (D := D) (ci := 5) (v := .int (σ5.1 7 0 0)) (C := RX5) (T := TX5) (N := 29) hx hb hts iwX5_breakOff_X5 hown hK hP 0 cr_obj rfl 26 (by decide) (hts _ lkX5_breakOff_121) (fun _ h9 => h9) rfl dX5_breakOff_114 ?_
    refine g_top (y := nI q) (by simp only [eσ5, eσ4, eσ3, eσ2]; first | exact hq | rfl) ?_
    refine lv_iconst (v := 1) hx hb dX5_breakOff_117 (by decide) ?_
    refine lv_iadd hx hb dX5_breakOff_118 ?_
    refine g_top (y := nI (q + 1)) (nI_add _ 1) ?_
    refine va_put (D := D) (ci := 5) (v := .int (nI (q + 1))) (ty := .int) (C := RX5) (T := TX5) (N := 29) hx hb hts iwX5_breakOff_X5 tyX5 tyX5_ok nmX5 hown hK hP (hD _) hS 0 cr_obj rfl 26 (by decide) (hts _ lkX5_breakOff_121) (fun _ h9 => h9) rfl (by decide +kernel) rfl rfl (Nat.le_of_ble_eq_true rfl) dX5_breakOff_119 (fun H locs hP _ hS => ?_)
    obtain ⟨σ6, eσ6⟩ : ∃ z, z = put σ5 7 0 0 (nI (q + 1)) := ⟨_, rfl⟩
    have hP : va_P D vwCl (FW 22 ad (CR cs n ad th nx σ6)) H := by rw [eσ6]; exact cru_obj_26 hP
    obtain ⟨τ7, eτ7⟩ : ∃ z, z = σ6 := ⟨_, rfl⟩
    rw [← eτ7] at hP
    have hev : eqv τ7 (pAdd σ (nI k) (σ.1 20 k 0) code (σ.1 19 k 0)) := by
      simp only [eτ7, eσ6, eσ5, eσ4, eσ3, eσ2]; exact eqv_add1 ho hq ho2 hqe
    refine lv_iconst (v := 1) hx hb dX5_breakOff_122 (by decide) ?_
    refine lv_istore_n (lv' := [(3, .int 1), (0, .ref (ad 0)), (1, .int (nI k)), (2, .int code)]) hx hb dX5_breakOff_123 rfl hl (by decide) rfl (fun ls hl => ?_)
    have loop2 : ∀ (d i : Nat), i + d = 8 → 1 ≤ i → ∀ (H : Heap) (locs : List Loc) (ls : Array Slot), va_P D vwCl (FW 22 ad (CR cs n ad th nx (putA τ7 10 k (fun j => if 1 ≤ j ∧ j < i then τ7.1 11 k j else τ7.1 10 k j)))) H → va_S A s.heap H locs → lv_has ls 4 [(0, .ref (ad 0)), (1, .int (nI k)), (2, .int code), (3, .int (nI i))] → W p l e rmX5_breakOff s m args below meth c H locs 0 0 Q (F0 m 124 ls []) := by
      intro d
      induction d with
      | zero =>
        intro i hi hi1 H locs ls hP hS hl
        obtain rfl : i = 8 := by omega
        obtain ⟨σ8, eσ8⟩ : ∃ z, z = putA τ7 10 k (fun j => if 1 ≤ j ∧ j < 8 then τ7.1 11 k j else τ7.1 10 k j) := ⟨_, rfl⟩
        have hP : va_P D vwCl (FW 22 ad (CR cs n ad th nx σ8)) H := by rw [eσ8]; exact hP
        refine lv_iload_n hx hb dX5_breakOff_124 rfl (lv_at hl 3 rfl) ?_
        refine lv_bipush (v := 8) hx hb dX5_breakOff_125 (by decide) ?_
        refine lv_icmp_ge (tgt := 158) hx hb dX5_breakOff_127 (by decide) (fun c9 => ?_) (fun c9 => absurd (show (8 : Int32) ≤ nI 8 from Int32.le_refl _) c9)
        refine lv_aload_n hx hb dX5_breakOff_158 rfl (lv_at hl 0 rfl) ?_
        refine va_get (D := D) (ci := 5) (v := .ref (ad 9)) (C := RX5) (T := TX5) (N := 29) hx hb hts iwX5_breakOff_X5 hown hK hP 0 cr_obj rfl 13 (by decide) (hts _ lkX5_breakOff_35) (fun _ h9 => h9) rfl dX5_breakOff_159 ?_
        refine lv_bipush (v := 8) hx hb dX5_breakOff_162 (by decide) ?_
        refine lv_iload_n hx hb dX5_breakOff_164 rfl (lv_at hl 1 rfl) ?_
        refine lv_imul hx hb dX5_breakOff_165 ?_
        refine g_top (y := nI (8 * k)) (nI_8 k) ?_
        refine lv_iconst (v := 1) hx hb dX5_breakOff_166 (by decide) ?_
        refine lv_iadd hx hb dX5_breakOff_167 ?_
        refine g_top (y := nI (8 * k + 1)) (nI_add _ 1) ?_
        refine lv_iload_n hx hb dX5_breakOff_168 rfl (lv_at hl 2 rfl) ?_
        refine g_iast (t0 := 0) hx hb hK hP hD hS cr_registers rfl (8 * k + 1) rfl (by omega) (by decide) dX5_breakOff_169 (fun H locs hP hS => ?_)
        obtain ⟨σ10, eσ10⟩ : ∃ z, z = put σ8 10 k 1 code := ⟨_, rfl⟩
        have hP : va_P D vwCl (FW 22 ad (CR cs n ad th nx σ10)) H := by rw [eσ10]; have h8 := cru_registers hP; rw [(q8 (show 1 < 8 by decide)).1, (q8 (show 1 < 8 by decide)).2] at h8; exact h8
        refine lv_aload_n hx hb dX5_breakOff_170 rfl (lv_at hl 0 rfl) ?_
        refine va_get (D := D) (ci := 5) (v := .ref (ad 6)) (C := RX5) (T := TX5) (N := 29) hx hb hts iwX5_breakOff_X5 hown hK hP 0 cr_obj rfl 10 (by decide) (hts _ lkX5_breakOff_25) (fun _ h9 => h9) rfl dX5_breakOff_171 ?_
        refine lv_iload_n hx hb dX5_breakOff_174 rfl (lv_at hl 1 rfl) ?_
        refine lv_aload_n hx hb dX5_breakOff_175 rfl (lv_at hl 0 rfl) ?_
        refine va_get (D := D) (ci := 5) (v := .ref (ad 13)) (C := RX5) (T := TX5) (N := 29) hx hb hts iwX5_breakOff_X5 hown hK hP 0 cr_obj rfl 17 (by decide) (hts _ lkX5_breakOff_47) (fun _ h9 => h9) rfl dX5_breakOff_176 ?_
        refine lv_iload_n hx hb dX5_breakOff_179 rfl (lv_at hl 1 rfl) ?_
        refine g_iald (t0 := 0) (v := σ10.1 21 k 0) hx hb hK hP cr_returns rfl k rfl hk4 (by decide) rfl dX5_breakOff_180 ?_
        refine g_iast (t0 := 0) hx hb hK hP hD hS cr_places rfl k rfl hk4 (by decide) dX5_breakOff_181 (fun H locs hP hS => ?_)
        obtain ⟨σ11, eσ11⟩ : ∃ z, z = put σ10 13 k 0 (σ10.1 21 k 0) := ⟨_, rfl⟩
        have hP : va_P D vwCl (FW 22 ad (CR cs n ad th nx σ11)) H := by rw [eσ11]; exact cru_places hP
        refine lv_aload_n hx hb dX5_breakOff_182 rfl (lv_at hl 0 rfl) ?_
        refine va_get (D := D) (ci := 5) (v := .ref (ad 20)) (C := RX5) (T := TX5) (N := 29) hx hb hts iwX5_breakOff_X5 hown hK hP 0 cr_obj rfl 24 (by decide) (hts _ lkX5_breakOff_69) (fun _ h9 => h9) rfl dX5_breakOff_183 ?_
        refine lv_iload_n hx hb dX5_breakOff_186 rfl (lv_at hl 1 rfl) ?_
        refine lv_dup2_11 hx hb dX5_breakOff_187 rfl rfl ?_
        refine g_iald (t0 := 0) (v := σ11.1 17 k 0) hx hb hK hP cr_broken rfl k rfl hk4 (by decide) rfl dX5_breakOff_188 ?_
        refine lv_iconst (v := 1) hx hb dX5_breakOff_189 (by decide) ?_
        refine lv_iadd hx hb dX5_breakOff_190 ?_
        refine g_iast (t0 := 0) hx hb hK hP hD hS cr_broken rfl k rfl hk4 (by decide) dX5_breakOff_191 (fun H locs hP hS => ?_)
        obtain ⟨σ12, eσ12⟩ : ∃ z, z = put σ11 17 k 0 ((σ11.1 17 k 0) + 1) := ⟨_, rfl⟩
        have hP : va_P D vwCl (FW 22 ad (CR cs n ad th nx σ12)) H := by rw [eσ12]; exact cru_broken hP
        refine lv_aload_n hx hb dX5_breakOff_192 rfl (lv_at hl 0 rfl) ?_
        refine lv_iload_n hx hb dX5_breakOff_193 rfl (lv_at hl 1 rfl) ?_
        refine g_cvv (As := [.int (nI k)]) ⟨hx, hb, hml, hown, hts⟩ (kX5_leave l D cs n ad th nx σ12 k hk4) (cwV 1 hts gX5_breakOff_X5_leave rfl rfl rfl (by decide +kernel) ⟨Nat.le_of_ble_eq_true rfl, Nat.le_of_ble_eq_true rfl⟩) hK hP hD hS hA 0 (ci := 5) rfl rfl cr_obj hl.1 dX5_breakOff_194 rfl rfl (Nat.le_of_ble_eq_true rfl) ⟨Nat.zero_le _, Nat.zero_le _⟩ (fun _ H locs hw hP hS => ?_)
        obtain ⟨σ13, eσ13⟩ : ∃ z, z = pClose σ12 k := ⟨_, rfl⟩
        have hP : va_P D vwCl (FW 22 ad (CR cs n ad th nx σ13)) H := by rw [eσ13]; exact hP
        exact hret _ _ _ () _ _ dX5_breakOff_197 hP hS (trivial) (by simp only [eσ13, eσ12, eσ11, eσ10, eσ8]; exact CR_eqv (eqv_brk hev h0 h1))
      | succ d ih =>
        intro i hi hi1 H locs ls hP hS hl
        have hi2 : i < 8 := by omega
        obtain ⟨σ14, eσ14⟩ : ∃ z, z = putA τ7 10 k (fun j => if 1 ≤ j ∧ j < i then τ7.1 11 k j else τ7.1 10 k j) := ⟨_, rfl⟩
        have hP : va_P D vwCl (FW 22 ad (CR cs n ad th nx σ14)) H := by rw [eσ14]; exact hP
        refine lv_iload_n hx hb dX5_breakOff_124 rfl (lv_at hl 3 rfl) ?_
        refine lv_bipush (v := 8) hx hb dX5_breakOff_125 (by decide) ?_
        refine lv_icmp_ge (tgt := 158) hx hb dX5_breakOff_127 (by decide) (fun c15 => absurd c15 (nI_ge hi2 (show 8 < 2 ^ 31 by decide))) (fun c15 => ?_)
        refine lv_aload_n hx hb dX5_breakOff_130 rfl (lv_at hl 0 rfl) ?_
        refine va_get (D := D) (ci := 5) (v := .ref (ad 9)) (C := RX5) (T := TX5) (N := 29) hx hb hts iwX5_breakOff_X5 hown hK hP 0 cr_obj rfl 13 (by decide) (hts _ lkX5_breakOff_35) (fun _ h9 => h9) rfl dX5_breakOff_131 ?_
        refine lv_bipush (v := 8) hx hb dX5_breakOff_134 (by decide) ?_
        refine lv_iload_n hx hb dX5_breakOff_136 rfl (lv_at hl 1 rfl) ?_
        refine lv_imul hx hb dX5_breakOff_137 ?_
        refine g_top (y := nI (8 * k)) (nI_8 k) ?_
        refine lv_iload_n hx hb dX5_breakOff_138 rfl (lv_at hl 3 rfl) ?_
        refine lv_iadd hx hb dX5_breakOff_139 ?_
        refine g_top (y := nI (8 * k + i)) (nI_add _ _) ?_
        refine lv_aload_n hx hb dX5_breakOff_140 rfl (lv_at hl 0 rfl) ?_
        refine va_get (D := D) (ci := 5) (v := .ref (ad 14)) (C := RX5) (T := TX5) (N := 29) hx hb hts iwX5_breakOff_X5 hown hK hP 0 cr_obj rfl 18 (by decide) (hts _ lkX5_breakOff_50) (fun _ h9 => h9) rfl dX5_breakOff_141 ?_
        refine lv_bipush (v := 8) hx hb dX5_breakOff_144 (by decide) ?_
        refine lv_iload_n hx hb dX5_breakOff_146 rfl (lv_at hl 1 rfl) ?_
        refine lv_imul hx hb dX5_breakOff_147 ?_
        refine g_top (y := nI (8 * k)) (nI_8 k) ?_
        refine lv_iload_n hx hb dX5_breakOff_148 rfl (lv_at hl 3 rfl) ?_
        refine lv_iadd hx hb dX5_breakOff_149 ?_
        refine g_top (y := nI (8 * k + i)) (nI_add _ _) ?_
        refine g_iald (t0 := 0) (v := σ14.1 11 k i) hx hb hK hP cr_kept rfl (8 * k + i) rfl (by omega) (by decide) (by show _ = _; exact congr (congrArg (σ14.1 11) (q8 hi2).1) (q8 hi2).2) dX5_breakOff_150 ?_
        refine g_iast (t0 := 0) hx hb hK hP hD hS cr_registers rfl (8 * k + i) rfl (by omega) (by decide) dX5_breakOff_151 (fun H locs hP hS => ?_)
        obtain ⟨σ16, eσ16⟩ : ∃ z, z = put σ14 10 k i (σ14.1 11 k i) := ⟨_, rfl⟩
        have hP : va_P D vwCl (FW 22 ad (CR cs n ad th nx σ16)) H := by rw [eσ16]; have h8 := cru_registers hP; rw [(q8 hi2).1, (q8 hi2).2] at h8; exact h8
        refine lv_iinc (v := nI (i + 1)) (lv' := [(3, .int (nI (i + 1))), (0, .ref (ad 0)), (1, .int (nI k)), (2, .int code)]) hx hb dX5_breakOff_152 hl (k := 3) rfl (nI_1 i) (by decide) rfl (fun ls hl => ?_)
        refine lv_goto (tgt := 124) hx hb dX5_breakOff_155 (by decide) ?_
        exact ih (i + 1) (by omega) (by omega) _ _ _ (by simp only [eσ16, eσ14] at hP; rw [putA_step (g' := fun j => if 1 ≤ j ∧ j < i + 1 then τ7.1 11 k j else τ7.1 10 k j) (fun j => reg_step i j hi1)] at hP; exact hP) hS (lv_sub hl [1, 2, 3, 0] rfl)
    exact loop2 (7) 1 (by omega) (Nat.le_refl 1) _ _ _ (by rw [putA_0 (fun j => by rw [if_neg (by omega)])]; exact hP) hS (lv_sub hl [1, 2, 3, 0] rfl)
  · have hq100 : q = 100 := (nI_eq (b := 100) (by omega) (by decide)).mp (hq.symm.trans c1)
    refine lv_iconst (v := 0) hx hb dX5_breakOff_9 (by decide) ?_
    refine lv_istore_n (lv' := [(3, .int 0), (0, .ref (ad 0)), (1, .int (nI k)), (2, .int code)]) hx hb dX5_breakOff_10 rfl hl (by decide) rfl (fun ls hl => ?_)
    have loop : ∀ (d i : Nat), i + d = 396 →  ∀ (H : Heap) (locs : List Loc) (ls : Array Slot), va_P D vwCl (FW 22 ad (CR cs n ad th nx (putA σ 24 0 (fun j => if j < i then σ.1 24 0 (j + 4) else σ.1 24 0 j)))) H → va_S A s.heap H locs → lv_has ls 4 [(0, .ref (ad 0)), (1, .int (nI k)), (2, .int code), (3, .int (nI i))] → W p l e rmX5_breakOff s m args below meth c H locs 0 0 Q (F0 m 11 ls []) := by
      intro d
      induction d with
      | zero =>
        intro i hi  H locs ls hP hS hl
        obtain rfl : i = 396 := by omega
        obtain ⟨σ17, eσ17⟩ : ∃ z, z = putA σ 24 0 (fun j => if j < 396 then σ.1 24 0 (j + 4) else σ.1 24 0 j) := ⟨_, rfl⟩
        have hP : va_P D vwCl (FW 22 ad (CR cs n ad th nx σ17)) H := by rw [eσ17]; exact hP
        refine lv_iload_n hx hb dX5_breakOff_11 rfl (lv_at hl 3 rfl) ?_
        refine lv_sipush (v := 396) hx hb dX5_breakOff_12 (by decide) ?_
        refine lv_icmp_ge (tgt := 38) hx hb dX5_breakOff_15 (by decide) (fun c18 => ?_) (fun c18 => absurd (show (396 : Int32) ≤ nI 396 from Int32.le_refl _) c18)
        refine lv_aload_n hx hb dX5_breakOff_38 rfl (lv_at hl 0 rfl) ?_
        refine lv_dup hx hb dX5_breakOff_39 rfl ?_
        refine va_get (D := D) (ci := 5) (v := .int (σ17.1 7 0 0)) (C := RX5) (T := TX5) (N := 29) hx hb hts iwX5_breakOff_X5 hown hK hP 0 cr_obj rfl 26 (by decide) (hts _ lkX5_breakOff_121) (fun _ h9 => h9) rfl dX5_breakOff_40 ?_
        refine g_top (y := nI 100) (by simp only [eσ17]; exact hq.trans (by rw [hq100])) ?_
        refine lv_iconst (v := 1) hx hb dX5_breakOff_43 (by decide) ?_
        refine lv_isub hx hb dX5_breakOff_44 ?_
        refine g_top (y := nI 99) (rfl) ?_
        refine va_put (D := D) (ci := 5) (v := .int (nI 99)) (ty := .int) (C := RX5) (T := TX5) (N := 29) hx hb hts iwX5_breakOff_X5 tyX5 tyX5_ok nmX5 hown hK hP (hD _) hS 0 cr_obj rfl 26 (by decide) (hts _ lkX5_breakOff_121) (fun _ h9 => h9) rfl (by decide +kernel) rfl rfl (Nat.le_of_ble_eq_true rfl) dX5_breakOff_45 (fun H locs hP _ hS => ?_)
        obtain ⟨σ19, eσ19⟩ : ∃ z, z = put σ17 7 0 0 (nI 99) := ⟨_, rfl⟩
        have hP : va_P D vwCl (FW 22 ad (CR cs n ad th nx σ19)) H := by rw [eσ19]; exact cru_obj_26 hP
        refine lv_aload_n hx hb dX5_breakOff_48 rfl (lv_at hl 0 rfl) ?_
        refine va_get (D := D) (ci := 5) (v := .ref (ad 21)) (C := RX5) (T := TX5) (N := 29) hx hb hts iwX5_breakOff_X5 hown hK hP 0 cr_obj rfl 27 (by decide) (hts _ lkX5_breakOff_72) (fun _ h9 => h9) rfl dX5_breakOff_49 ?_
        refine lv_iconst (v := 4) hx hb dX5_breakOff_52 (by decide) ?_
        refine lv_aload_n hx hb dX5_breakOff_53 rfl (lv_at hl 0 rfl) ?_
        refine va_get (D := D) (ci := 5) (v := .int (σ19.1 7 0 0)) (C := RX5) (T := TX5) (N := 29) hx hb hts iwX5_breakOff_X5 hown hK hP 0 cr_obj rfl 26 (by decide) (hts _ lkX5_breakOff_121) (fun _ h9 => h9) rfl dX5_breakOff_54 ?_
        refine g_top (y := nI 99) (by simp only [eσ19, eσ17]; first | exact hq | rfl) ?_
        refine lv_imul hx hb dX5_breakOff_57 ?_
        refine g_top (y := nI (4 * 99)) (nI_4 _) ?_
        refine lv_iload_n hx hb dX5_breakOff_58 rfl (lv_at hl 1 rfl) ?_
        refine g_iast (t0 := 0) hx hb hK hP hD hS cr_recs rfl (4 * 99) rfl (by omega) (by decide) dX5_breakOff_59 (fun H locs hP hS => ?_)
        obtain ⟨σ20, eσ20⟩ : ∃ z, z = put σ19 24 0 (4 * 99) (nI k) := ⟨_, rfl⟩
        have hP : va_P D vwCl (FW 22 ad (CR cs n ad th nx σ20)) H := by rw [eσ20]; exact cru_recs hP
        refine lv_aload_n hx hb dX5_breakOff_60 rfl (lv_at hl 0 rfl) ?_
        refine va_get (D := D) (ci := 5) (v := .ref (ad 21)) (C := RX5) (T := TX5) (N := 29) hx hb hts iwX5_breakOff_X5 hown hK hP 0 cr_obj rfl 27 (by decide) (hts _ lkX5_breakOff_72) (fun _ h9 => h9) rfl dX5_breakOff_61 ?_
        refine lv_iconst (v := 4) hx hb dX5_breakOff_64 (by decide) ?_
        refine lv_aload_n hx hb dX5_breakOff_65 rfl (lv_at hl 0 rfl) ?_
        refine va_get (D := D) (ci := 5) (v := .int (σ20.1 7 0 0)) (C := RX5) (T := TX5) (N := 29) hx hb hts iwX5_breakOff_X5 hown hK hP 0 cr_obj rfl 26 (by decide) (hts _ lkX5_breakOff_121) (fun _ h9 => h9) rfl dX5_breakOff_66 ?_
        refine g_top (y := nI 99) (by simp only [eσ20, eσ19, eσ17]; first | exact hq | rfl) ?_
        refine lv_imul hx hb dX5_breakOff_69 ?_
        refine g_top (y := nI (4 * 99)) (nI_4 _) ?_
        refine lv_iconst (v := 1) hx hb dX5_breakOff_70 (by decide) ?_
        refine lv_iadd hx hb dX5_breakOff_71 ?_
        refine g_top (y := nI (4 * 99 + 1)) (nI_add _ 1) ?_
        refine lv_aload_n hx hb dX5_breakOff_72 rfl (lv_at hl 0 rfl) ?_
        refine va_get (D := D) (ci := 5) (v := .ref (ad 12)) (C := RX5) (T := TX5) (N := 29) hx hb hts iwX5_breakOff_X5 hown hK hP 0 cr_obj rfl 16 (by decide) (hts _ lkX5_breakOff_44) (fun _ h9 => h9) rfl dX5_breakOff_73 ?_
        refine lv_iload_n hx hb dX5_breakOff_76 rfl (lv_at hl 1 rfl) ?_
        refine g_iald (t0 := 0) (v := σ20.1 20 k 0) hx hb hK hP cr_begins rfl k rfl hk4 (by decide) rfl dX5_breakOff_77 ?_
        refine g_iast (t0 := 0) hx hb hK hP hD hS cr_recs rfl (4 * 99 + 1) rfl (by omega) (by decide) dX5_breakOff_78 (fun H locs hP hS => ?_)
        obtain ⟨σ21, eσ21⟩ : ∃ z, z = put σ20 24 0 (4 * 99 + 1) (σ20.1 20 k 0) := ⟨_, rfl⟩
        have hP : va_P D vwCl (FW 22 ad (CR cs n ad th nx σ21)) H := by rw [eσ21]; exact cru_recs hP
        refine lv_aload_n hx hb dX5_breakOff_79 rfl (lv_at hl 0 rfl) ?_
        refine va_get (D := D) (ci := 5) (v := .ref (ad 21)) (C := RX5) (T := TX5) (N := 29) hx hb hts iwX5_breakOff_X5 hown hK hP 0 cr_obj rfl 27 (by decide) (hts _ lkX5_breakOff_72) (fun _ h9 => h9) rfl dX5_breakOff_80 ?_
        refine lv_iconst (v := 4) hx hb dX5_breakOff_83 (by decide) ?_
        refine lv_aload_n hx hb dX5_breakOff_84 rfl (lv_at hl 0 rfl) ?_
        refine va_get (D := D) (ci := 5) (v := .int (σ21.1 7 0 0)) (C := RX5) (T := TX5) (N := 29) hx hb hts iwX5_breakOff_X5 hown hK hP 0 cr_obj rfl 26 (by decide) (hts _ lkX5_breakOff_121) (fun _ h9 => h9) rfl dX5_breakOff_85 ?_
        refine g_top (y := nI 99) (by simp only [eσ21, eσ20, eσ19, eσ17]; first | exact hq | rfl) ?_
        refine lv_imul hx hb dX5_breakOff_88 ?_
        refine g_top (y := nI (4 * 99)) (nI_4 _) ?_
        refine lv_iconst (v := 2) hx hb dX5_breakOff_89 (by decide) ?_
        refine lv_iadd hx hb dX5_breakOff_90 ?_
        refine g_top (y := nI (4 * 99 + 2)) (nI_add _ 2) ?_
        refine lv_iload_n hx hb dX5_breakOff_91 rfl (lv_at hl 2 rfl) ?_
        refine g_iast (t0 := 0) hx hb hK hP hD hS cr_recs rfl (4 * 99 + 2) rfl (by omega) (by decide) dX5_breakOff_92 (fun H locs hP hS => ?_)
        obtain ⟨σ22, eσ22⟩ : ∃ z, z = put σ21 24 0 (4 * 99 + 2) code := ⟨_, rfl⟩
        have hP : va_P D vwCl (FW 22 ad (CR cs n ad th nx σ22)) H := by rw [eσ22]; exact cru_recs hP
        refine lv_aload_n hx hb dX5_breakOff_93 rfl (lv_at hl 0 rfl) ?_
        refine va_get (D := D) (ci := 5) (v := .ref (ad 21)) (C := RX5) (T := TX5) (N := 29) hx hb hts iwX5_breakOff_X5 hown hK hP 0 cr_obj rfl 27 (by decide) (hts _ lkX5_breakOff_72) (fun _ h9 => h9) rfl dX5_breakOff_94 ?_
        refine lv_iconst (v := 4) hx hb dX5_breakOff_97 (by decide) ?_
        refine lv_aload_n hx hb dX5_breakOff_98 rfl (lv_at hl 0 rfl) ?_
        refine va_get (D := D) (ci := 5) (v := .int (σ22.1 7 0 0)) (C := RX5) (T := TX5) (N := 29) hx hb hts iwX5_breakOff_X5 hown hK hP 0 cr_obj rfl 26 (by decide) (hts _ lkX5_breakOff_121) (fun _ h9 => h9) rfl dX5_breakOff_99 ?_
        refine g_top (y := nI 99) (by simp only [eσ22, eσ21, eσ20, eσ19, eσ17]; first | exact hq | rfl) ?_
        refine lv_imul hx hb dX5_breakOff_102 ?_
        refine g_top (y := nI (4 * 99)) (nI_4 _) ?_
        refine lv_iconst (v := 3) hx hb dX5_breakOff_103 (by decide) ?_
        refine lv_iadd hx hb dX5_breakOff_104 ?_
        refine g_top (y := nI (4 * 99 + 3)) (nI_add _ 3) ?_
        refine lv_aload_n hx hb dX5_breakOff_105 rfl (lv_at hl 0 rfl) ?_
        refine va_get (D := D) (ci := 5) (v := .ref (ad 11)) (C := RX5) (T := TX5) (N := 29) hx hb hts iwX5_breakOff_X5 hown hK hP 0 cr_obj rfl 15 (by decide) (hts _ lkX5_breakOff_41) (fun _ h9 => h9) rfl dX5_breakOff_106 ?_
        refine lv_iload_n hx hb dX5_breakOff_109 rfl (lv_at hl 1 rfl) ?_
        refine g_iald (t0 := 0) (v := σ22.1 19 k 0) hx hb hK hP cr_ages rfl k rfl hk4 (by decide) rfl dX5_breakOff_110 ?_
        refine g_iast (t0 := 0) hx hb hK hP hD hS cr_recs rfl (4 * 99 + 3) rfl (by omega) (by decide) dX5_breakOff_111 (fun H locs hP hS => ?_)
        obtain ⟨σ23, eσ23⟩ : ∃ z, z = put σ22 24 0 (4 * 99 + 3) (σ22.1 19 k 0) := ⟨_, rfl⟩
        have hP : va_P D vwCl (FW 22 ad (CR cs n ad th nx σ23)) H := by rw [eσ23]; exact cru_recs hP
        refine lv_aload_n hx hb dX5_breakOff_112 rfl (lv_at hl 0 rfl) ?_
        refine lv_dup hx hb dX5_breakOff_113 rfl ?_
        refine va_get (D := D) (ci := 5) (v := .int (σ23.1 7 0 0)) (C := RX5) (T := TX5) (N := 29) hx hb hts iwX5_breakOff_X5 hown hK hP 0 cr_obj rfl 26 (by decide) (hts _ lkX5_breakOff_121) (fun _ h9 => h9) rfl dX5_breakOff_114 ?_
        refine g_top (y := nI 99) (by simp only [eσ23, eσ22, eσ21, eσ20, eσ19, eσ17]; first | exact hq | rfl) ?_
        refine lv_iconst (v := 1) hx hb dX5_breakOff_117 (by decide) ?_
        refine lv_iadd hx hb dX5_breakOff_118 ?_
        refine g_top (y := nI (99 + 1)) (nI_add _ 1) ?_
        refine va_put (D := D) (ci := 5) (v := .int (nI (99 + 1))) (ty := .int) (C := RX5) (T := TX5) (N := 29) hx hb hts iwX5_breakOff_X5 tyX5 tyX5_ok nmX5 hown hK hP (hD _) hS 0 cr_obj rfl 26 (by decide) (hts _ lkX5_breakOff_121) (fun _ h9 => h9) rfl (by decide +kernel) rfl rfl (Nat.le_of_ble_eq_true rfl) dX5_breakOff_119 (fun H locs hP _ hS => ?_)
        obtain ⟨σ24, eσ24⟩ : ∃ z, z = put σ23 7 0 0 (nI (99 + 1)) := ⟨_, rfl⟩
        have hP : va_P D vwCl (FW 22 ad (CR cs n ad th nx σ24)) H := by rw [eσ24]; exact cru_obj_26 hP
        obtain ⟨τ25, eτ25⟩ : ∃ z, z = σ24 := ⟨_, rfl⟩
        rw [← eτ25] at hP
        have hev : eqv τ25 (pAdd σ (nI k) (σ.1 20 k 0) code (σ.1 19 k 0)) := by
          simp only [eτ25, eσ24, eσ23, eσ22, eσ21, eσ20, eσ19, eσ17]; exact eqv_add2 ho hq ho2 hq100
        refine lv_iconst (v := 1) hx hb dX5_breakOff_122 (by decide) ?_
        refine lv_istore_n (lv' := [(3, .int 1), (0, .ref (ad 0)), (1, .int (nI k)), (2, .int code)]) hx hb dX5_breakOff_123 rfl hl (by decide) rfl (fun ls hl => ?_)
        have loop2 : ∀ (d i : Nat), i + d = 8 → 1 ≤ i → ∀ (H : Heap) (locs : List Loc) (ls : Array Slot), va_P D vwCl (FW 22 ad (CR cs n ad th nx (putA τ25 10 k (fun j => if 1 ≤ j ∧ j < i then τ25.1 11 k j else τ25.1 10 k j)))) H → va_S A s.heap H locs → lv_has ls 4 [(0, .ref (ad 0)), (1, .int (nI k)), (2, .int code), (3, .int (nI i))] → W p l e rmX5_breakOff s m args below meth c H locs 0 0 Q (F0 m 124 ls []) := by
          intro d
          induction d with
          | zero =>
            intro i hi hi1 H locs ls hP hS hl
            obtain rfl : i = 8 := by omega
            obtain ⟨σ26, eσ26⟩ : ∃ z, z = putA τ25 10 k (fun j => if 1 ≤ j ∧ j < 8 then τ25.1 11 k j else τ25.1 10 k j) := ⟨_, rfl⟩
            have hP : va_P D vwCl (FW 22 ad (CR cs n ad th nx σ26)) H := by rw [eσ26]; exact hP
            refine lv_iload_n hx hb dX5_breakOff_124 rfl (lv_at hl 3 rfl) ?_
            refine lv_bipush (v := 8) hx hb dX5_breakOff_125 (by decide) ?_
            refine lv_icmp_ge (tgt := 158) hx hb dX5_breakOff_127 (by decide) (fun c27 => ?_) (fun c27 => absurd (show (8 : Int32) ≤ nI 8 from Int32.le_refl _) c27)
            refine lv_aload_n hx hb dX5_breakOff_158 rfl (lv_at hl 0 rfl) ?_
            refine va_get (D := D) (ci := 5) (v := .ref (ad 9)) (C := RX5) (T := TX5) (N := 29) hx hb hts iwX5_breakOff_X5 hown hK hP 0 cr_obj rfl 13 (by decide) (hts _ lkX5_breakOff_35) (fun _ h9 => h9) rfl dX5_breakOff_159 ?_
            refine lv_bipush (v := 8) hx hb dX5_breakOff_162 (by decide) ?_
            refine lv_iload_n hx hb dX5_breakOff_164 rfl (lv_at hl 1 rfl) ?_
            refine lv_imul hx hb dX5_breakOff_165 ?_
            refine g_top (y := nI (8 * k)) (nI_8 k) ?_
            refine lv_iconst (v := 1) hx hb dX5_breakOff_166 (by decide) ?_
            refine lv_iadd hx hb dX5_breakOff_167 ?_
            refine g_top (y := nI (8 * k + 1)) (nI_add _ 1) ?_
            refine lv_iload_n hx hb dX5_breakOff_168 rfl (lv_at hl 2 rfl) ?_
            refine g_iast (t0 := 0) hx hb hK hP hD hS cr_registers rfl (8 * k + 1) rfl (by omega) (by decide) dX5_breakOff_169 (fun H locs hP hS => ?_)
            obtain ⟨σ28, eσ28⟩ : ∃ z, z = put σ26 10 k 1 code := ⟨_, rfl⟩
            have hP : va_P D vwCl (FW 22 ad (CR cs n ad th nx σ28)) H := by rw [eσ28]; have h8 := cru_registers hP; rw [(q8 (show 1 < 8 by decide)).1, (q8 (show 1 < 8 by decide)).2] at h8; exact h8
            refine lv_aload_n hx hb dX5_breakOff_170 rfl (lv_at hl 0 rfl) ?_
            refine va_get (D := D) (ci := 5) (v := .ref (ad 6)) (C := RX5) (T := TX5) (N := 29) hx hb hts iwX5_breakOff_X5 hown hK hP 0 cr_obj rfl 10 (by decide) (hts _ lkX5_breakOff_25) (fun _ h9 => h9) rfl dX5_breakOff_171 ?_
            refine lv_iload_n hx hb dX5_breakOff_174 rfl (lv_at hl 1 rfl) ?_
            refine lv_aload_n hx hb dX5_breakOff_175 rfl (lv_at hl 0 rfl) ?_
            refine va_get (D := D) (ci := 5) (v := .ref (ad 13)) (C := RX5) (T := TX5) (N := 29) hx hb hts iwX5_breakOff_X5 hown hK hP 0 cr_obj rfl 17 (by decide) (hts _ lkX5_breakOff_47) (fun _ h9 => h9) rfl dX5_breakOff_176 ?_
            refine lv_iload_n hx hb dX5_breakOff_179 rfl (lv_at hl 1 rfl) ?_
            refine g_iald (t0 := 0) (v := σ28.1 21 k 0) hx hb hK hP cr_returns rfl k rfl hk4 (by decide) rfl dX5_breakOff_180 ?_
            refine g_iast (t0 := 0) hx hb hK hP hD hS cr_places rfl k rfl hk4 (by decide) dX5_breakOff_181 (fun H locs hP hS => ?_)
            obtain ⟨σ29, eσ29⟩ : ∃ z, z = put σ28 13 k 0 (σ28.1 21 k 0) := ⟨_, rfl⟩
            have hP : va_P D vwCl (FW 22 ad (CR cs n ad th nx σ29)) H := by rw [eσ29]; exact cru_places hP
            refine lv_aload_n hx hb dX5_breakOff_182 rfl (lv_at hl 0 rfl) ?_
            refine va_get (D := D) (ci := 5) (v := .ref (ad 20)) (C := RX5) (T := TX5) (N := 29) hx hb hts iwX5_breakOff_X5 hown hK hP 0 cr_obj rfl 24 (by decide) (hts _ lkX5_breakOff_69) (fun _ h9 => h9) rfl dX5_breakOff_183 ?_
            refine lv_iload_n hx hb dX5_breakOff_186 rfl (lv_at hl 1 rfl) ?_
            refine lv_dup2_11 hx hb dX5_breakOff_187 rfl rfl ?_
            refine g_iald (t0 := 0) (v := σ29.1 17 k 0) hx hb hK hP cr_broken rfl k rfl hk4 (by decide) rfl dX5_breakOff_188 ?_
            refine lv_iconst (v := 1) hx hb dX5_breakOff_189 (by decide) ?_
            refine lv_iadd hx hb dX5_breakOff_190 ?_
            refine g_iast (t0 := 0) hx hb hK hP hD hS cr_broken rfl k rfl hk4 (by decide) dX5_breakOff_191 (fun H locs hP hS => ?_)
            obtain ⟨σ30, eσ30⟩ : ∃ z, z = put σ29 17 k 0 ((σ29.1 17 k 0) + 1) := ⟨_, rfl⟩
            have hP : va_P D vwCl (FW 22 ad (CR cs n ad th nx σ30)) H := by rw [eσ30]; exact cru_broken hP
            refine lv_aload_n hx hb dX5_breakOff_192 rfl (lv_at hl 0 rfl) ?_
            refine lv_iload_n hx hb dX5_breakOff_193 rfl (lv_at hl 1 rfl) ?_
            refine g_cvv (As := [.int (nI k)]) ⟨hx, hb, hml, hown, hts⟩ (kX5_leave l D cs n ad th nx σ30 k hk4) (cwV 1 hts gX5_breakOff_X5_leave rfl rfl rfl (by decide +kernel) ⟨Nat.le_of_ble_eq_true rfl, Nat.le_of_ble_eq_true rfl⟩) hK hP hD hS hA 0 (ci := 5) rfl rfl cr_obj hl.1 dX5_breakOff_194 rfl rfl (Nat.le_of_ble_eq_true rfl) ⟨Nat.zero_le _, Nat.zero_le _⟩ (fun _ H locs hw hP hS => ?_)
            obtain ⟨σ31, eσ31⟩ : ∃ z, z = pClose σ30 k := ⟨_, rfl⟩
            have hP : va_P D vwCl (FW 22 ad (CR cs n ad th nx σ31)) H := by rw [eσ31]; exact hP
            exact hret _ _ _ () _ _ dX5_breakOff_197 hP hS (trivial) (by simp only [eσ31, eσ30, eσ29, eσ28, eσ26]; exact CR_eqv (eqv_brk hev h0 h1))
          | succ d ih =>
            intro i hi hi1 H locs ls hP hS hl
            have hi2 : i < 8 := by omega
            obtain ⟨σ32, eσ32⟩ : ∃ z, z = putA τ25 10 k (fun j => if 1 ≤ j ∧ j < i then τ25.1 11 k j else τ25.1 10 k j) := ⟨_, rfl⟩
            have hP : va_P D vwCl (FW 22 ad (CR cs n ad th nx σ32)) H := by rw [eσ32]; exact hP
            refine lv_iload_n hx hb dX5_breakOff_124 rfl (lv_at hl 3 rfl) ?_
            refine lv_bipush (v := 8) hx hb dX5_breakOff_125 (by decide) ?_
            refine lv_icmp_ge (tgt := 158) hx hb dX5_breakOff_127 (by decide) (fun c33 => absurd c33 (nI_ge hi2 (show 8 < 2 ^ 31 by decide))) (fun c33 => ?_)
            refine lv_aload_n hx hb dX5_breakOff_130 rfl (lv_at hl 0 rfl) ?_
            refine va_get (D := D) (ci := 5) (v := .ref (ad 9)) (C := RX5) (T := TX5) (N := 29) hx hb hts iwX5_breakOff_X5 hown hK hP 0 cr_obj rfl 13 (by decide) (hts _ lkX5_breakOff_35) (fun _ h9 => h9) rfl dX5_breakOff_131 ?_
            refine lv_bipush (v := 8) hx hb dX5_breakOff_134 (by decide) ?_
            refine lv_iload_n hx hb dX5_breakOff_136 rfl (lv_at hl 1 rfl) ?_
            refine lv_imul hx hb dX5_breakOff_137 ?_
            refine g_top (y := nI (8 * k)) (nI_8 k) ?_
            refine lv_iload_n hx hb dX5_breakOff_138 rfl (lv_at hl 3 rfl) ?_
            refine lv_iadd hx hb dX5_breakOff_139 ?_
            refine g_top (y := nI (8 * k + i)) (nI_add _ _) ?_
            refine lv_aload_n hx hb dX5_breakOff_140 rfl (lv_at hl 0 rfl) ?_
            refine va_get (D := D) (ci := 5) (v := .ref (ad 14)) (C := RX5) (T := TX5) (N := 29) hx hb hts iwX5_breakOff_X5 hown hK hP 0 cr_obj rfl 18 (by decide) (hts _ lkX5_breakOff_50) (fun _ h9 => h9) rfl dX5_breakOff_141 ?_
            refine lv_bipush (v := 8) hx hb dX5_breakOff_144 (by decide) ?_
            refine lv_iload_n hx hb dX5_breakOff_146 rfl (lv_at hl 1 rfl) ?_
            refine lv_imul hx hb dX5_breakOff_147 ?_
            refine g_top (y := nI (8 * k)) (nI_8 k) ?_
            refine lv_iload_n hx hb dX5_breakOff_148 rfl (lv_at hl 3 rfl) ?_
            refine lv_iadd hx hb dX5_breakOff_149 ?_
            refine g_top (y := nI (8 * k + i)) (nI_add _ _) ?_
            refine g_iald (t0 := 0) (v := σ32.1 11 k i) hx hb hK hP cr_kept rfl (8 * k + i) rfl (by omega) (by decide) (by show _ = _; exact congr (congrArg (σ32.1 11) (q8 hi2).1) (q8 hi2).2) dX5_breakOff_150 ?_
            refine g_iast (t0 := 0) hx hb hK hP hD hS cr_registers rfl (8 * k + i) rfl (by omega) (by decide) dX5_breakOff_151 (fun H locs hP hS => ?_)
            obtain ⟨σ34, eσ34⟩ : ∃ z, z = put σ32 10 k i (σ32.1 11 k i) := ⟨_, rfl⟩
            have hP : va_P D vwCl (FW 22 ad (CR cs n ad th nx σ34)) H := by rw [eσ34]; have h8 := cru_registers hP; rw [(q8 hi2).1, (q8 hi2).2] at h8; exact h8
            refine lv_iinc (v := nI (i + 1)) (lv' := [(3, .int (nI (i + 1))), (0, .ref (ad 0)), (1, .int (nI k)), (2, .int code)]) hx hb dX5_breakOff_152 hl (k := 3) rfl (nI_1 i) (by decide) rfl (fun ls hl => ?_)
            refine lv_goto (tgt := 124) hx hb dX5_breakOff_155 (by decide) ?_
            exact ih (i + 1) (by omega) (by omega) _ _ _ (by simp only [eσ34, eσ32] at hP; rw [putA_step (g' := fun j => if 1 ≤ j ∧ j < i + 1 then τ25.1 11 k j else τ25.1 10 k j) (fun j => reg_step i j hi1)] at hP; exact hP) hS (lv_sub hl [1, 2, 3, 0] rfl)
        exact loop2 (7) 1 (by omega) (Nat.le_refl 1) _ _ _ (by rw [putA_0 (fun j => by rw [if_neg (by omega)])]; exact hP) hS (lv_sub hl [1, 2, 3, 0] rfl)
      | succ d ih =>
        intro i hi  H locs ls hP hS hl
        have hi2 : i < 396 := by omega
        obtain ⟨σ35, eσ35⟩ : ∃ z, z = putA σ 24 0 (fun j => if j < i then σ.1 24 0 (j + 4) else σ.1 24 0 j) := ⟨_, rfl⟩
        have hP : va_P D vwCl (FW 22 ad (CR cs n ad th nx σ35)) H := by rw [eσ35]; exact hP
        refine lv_iload_n hx hb dX5_breakOff_11 rfl (lv_at hl 3 rfl) ?_
        refine lv_sipush (v := 396) hx hb dX5_breakOff_12 (by decide) ?_
        refine lv_icmp_ge (tgt := 38) hx hb dX5_breakOff_15 (by decide) (fun c36 => absurd c36 (nI_ge hi2 (show 396 < 2 ^ 31 by decide))) (fun c36 => ?_)
        refine lv_aload_n hx hb dX5_breakOff_18 rfl (lv_at hl 0 rfl) ?_
        refine va_get (D := D) (ci := 5) (v := .ref (ad 21)) (C := RX5) (T := TX5) (N := 29) hx hb hts iwX5_breakOff_X5 hown hK hP 0 cr_obj rfl 27 (by decide) (hts _ lkX5_breakOff_72) (fun _ h9 => h9) rfl dX5_breakOff_19 ?_
        refine lv_iload_n hx hb dX5_breakOff_22 rfl (lv_at hl 3 rfl) ?_
        refine lv_aload_n hx hb dX5_breakOff_23 rfl (lv_at hl 0 rfl) ?_
        refine va_get (D := D) (ci := 5) (v := .ref (ad 21)) (C := RX5) (T := TX5) (N := 29) hx hb hts iwX5_breakOff_X5 hown hK hP 0 cr_obj rfl 27 (by decide) (hts _ lkX5_breakOff_72) (fun _ h9 => h9) rfl dX5_breakOff_24 ?_
        refine lv_iload_n hx hb dX5_breakOff_27 rfl (lv_at hl 3 rfl) ?_
        refine lv_iconst (v := 4) hx hb dX5_breakOff_28 (by decide) ?_
        refine lv_iadd hx hb dX5_breakOff_29 ?_
        refine g_top (y := nI (i + 4)) (nI_add _ 4) ?_
        refine g_iald (t0 := 0) (v := σ35.1 24 0 (i + 4)) hx hb hK hP cr_recs rfl (i + 4) rfl (by omega) (by decide) rfl dX5_breakOff_30 ?_
        refine g_iast (t0 := 0) hx hb hK hP hD hS cr_recs rfl i rfl (by omega) (by decide) dX5_breakOff_31 (fun H locs hP hS => ?_)
        obtain ⟨σ37, eσ37⟩ : ∃ z, z = put σ35 24 0 i (σ35.1 24 0 (i + 4)) := ⟨_, rfl⟩
        have hP : va_P D vwCl (FW 22 ad (CR cs n ad th nx σ37)) H := by rw [eσ37]; exact cru_recs hP
        refine lv_iinc (v := nI (i + 1)) (lv' := [(3, .int (nI (i + 1))), (0, .ref (ad 0)), (1, .int (nI k)), (2, .int code)]) hx hb dX5_breakOff_32 hl (k := 3) rfl (nI_1 i) (by decide) rfl (fun ls hl => ?_)
        refine lv_goto (tgt := 11) hx hb dX5_breakOff_35 (by decide) ?_
        exact ih (i + 1) (by omega)  _ _ _ (by simp only [eσ37, eσ35] at hP; rw [putA_step (g' := fun j => if j < i + 1 then σ.1 24 0 (j + 4) else σ.1 24 0 j) (fun j => shl_step i j)] at hP; exact hP) hS (lv_sub hl [1, 2, 3, 0] rfl)
    exact loop (396) 0 (by omega)  _ _ _ (by rw [putA_0 (fun j => by simp)]; exact hP) hS (lv_sub hl [1, 2, 3, 0] rfl)
