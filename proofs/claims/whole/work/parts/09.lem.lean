/-! what the functions keep: plain facts -/
theorem pAdd_at {σ : St} {a b c d : Int32} {f k j : Nat} (h6 : f ≠ 6) (h7 : f ≠ 7) (h8 : f ≠ 8) (h24 : f ≠ 24) : (pAdd σ a b c d).1 f k j = σ.1 f k j := by
  unfold pAdd
  dsimp only
  split <;> simp [put, putA, h6, h7, h8, h24]
theorem pAdd_2 {σ : St} {a b c d : Int32} : (pAdd σ a b c d).2 = σ.2 := by
  unfold pAdd
  dsimp only
  split <;> rfl
def okQ (σ : St) : Prop := ∃ o q, o < 100 ∧ q ≤ 100 ∧ σ.1 8 0 0 = nI o ∧ σ.1 7 0 0 = nI q
theorem okQ_pAdd {σ : St} {a b c d : Int32} (h : okQ σ) : okQ (pAdd σ a b c d) := by
  obtain ⟨o, q, ho2, hq2, ho, hq⟩ := h
  obtain ⟨g, hg⟩ := pAdd_eq ho hq ho2 hq2 a b c d
  rw [hg]
  by_cases h : q < 100
  · rw [if_pos h]
    exact ⟨o, q + 1, ho2, h, ho, rfl⟩
  · rw [if_neg h]
    exact ⟨(o + 1) % 100, q, Nat.mod_lt _ (by decide), hq2, rfl, hq⟩
theorem okQ_of {σ τ : St} (h : okQ σ) (h8 : τ.1 8 0 0 = σ.1 8 0 0) (h7 : τ.1 7 0 0 = σ.1 7 0 0) : okQ τ := by
  obtain ⟨o, q, ho2, hq2, ho, hq⟩ := h
  exact ⟨o, q, ho2, hq2, h8.trans ho, h7.trans hq⟩
theorem okQ_break {σ : St} {k : Nat} {c : Int32} (h : okQ σ) : okQ (pBreak σ k c) := okQ_of (okQ_pAdd h) rfl rfl
/-- a core's break-off leaves all rows but its own and the records -/
theorem pBreak_at {σ : St} {k : Nat} {c : Int32} {f k' j : Nat} (h6 : f ≠ 6) (h7 : f ≠ 7) (h8 : f ≠ 8) (h24 : f ≠ 24) (h : k' ≠ k ∨ (f ≠ 10 ∧ f ≠ 13 ∧ f ≠ 17 ∧ f ≠ 18 ∧ f ≠ 19 ∧ f ≠ 22 ∧ f ≠ 23)) : (pBreak σ k c).1 f k' j = σ.1 f k' j := by
  have e := pAdd_at (σ := σ) (a := nI k) (b := σ.1 20 k 0) (c := c) (d := σ.1 19 k 0) (f := f) (k := k') (j := j) h6 h7 h8 h24
  rcases h with h | ⟨h1, h2, h3, h4, h5, h6, h7⟩
  · simp [pBreak, pClose, put, putA, putL, h, e]
  · simp [pBreak, pClose, put, putA, putL, h1, h2, h3, h4, h5, h6, h7, e]
theorem pBreak_2 {σ : St} {k k' : Nat} {c : Int32} (h : k' ≠ k) : (pBreak σ k c).2 k' = σ.2 k' := by
  simp [pBreak, pClose, put, putA, putL, h, pAdd_2]
theorem okQ_BA {acc : Int32} {ln : Nat} {w : Bool} {σ : St} (h : okQ σ) : ∀ m, okQ (pBA acc ln w m σ)
  | 0 => h
  | m + 1 => by
    unfold pBA
    split
    · exact okQ_break (okQ_BA h m)
    · exact okQ_BA h m
theorem pBA_at {acc : Int32} {ln : Nat} {w : Bool} {σ : St} {f k' j : Nat} (h6 : f ≠ 6) (h7 : f ≠ 7) (h8 : f ≠ 8) (h24 : f ≠ 24) (h : nI k' = acc ∨ (f ≠ 10 ∧ f ≠ 13 ∧ f ≠ 17 ∧ f ≠ 18 ∧ f ≠ 19 ∧ f ≠ 22 ∧ f ≠ 23)) : ∀ m, (pBA acc ln w m σ).1 f k' j = σ.1 f k' j
  | 0 => rfl
  | m + 1 => by
    unfold pBA
    split
    · rename_i hc
      rw [pBreak_at h6 h7 h8 h24 (h.imp (fun e q => hc.1 (by rw [← e, q])) id)]
      exact pBA_at h6 h7 h8 h24 h m
    · exact pBA_at h6 h7 h8 h24 h m
theorem pBA_2 {acc : Int32} {ln : Nat} {w : Bool} {σ : St} {k' : Nat} (h : nI k' = acc) : ∀ m, (pBA acc ln w m σ).2 k' = σ.2 k'
  | 0 => rfl
  | m + 1 => by
    unfold pBA
    split
    · rename_i hc
      rw [pBreak_2 (fun q => hc.1 (by rw [← h, q]))]
      exact pBA_2 h m
    · exact pBA_2 h m
theorem pMark_at {σ : St} {k ln : Nat} {w : Bool} {f k' j : Nat} (h1 : f ≠ 22) (h2 : f ≠ 23) : (pMark σ k ln w).1 f k' j = σ.1 f k' j := by
  unfold pMark
  split <;> simp [put, h1, h2]
theorem mOld_mono {σ : St} {k ln : Nat} {w : Bool} {m n : Nat} (h : m ≤ n) (hm : mOld σ k ln w m = true) : mOld σ k ln w n = true := by
  induction n with
  | zero => rw [← Nat.le_zero.mp h]; exact hm
  | succ n ih =>
    rcases Nat.lt_or_ge m (n + 1) with q | q
    · unfold mOld; rw [ih (by omega)]; rfl
    · rw [← Nat.le_antisymm h q]; exact hm
theorem i32_of {x : Int32} {N : Nat} (hN : N < 2 ^ 31) (h0 : 0 ≤ x) (h1 : x < nI N) : ∃ j, j < N ∧ x = nI j := by
  obtain ⟨j, h2, rfl⟩ := nI_of (x := x) (fun h => absurd h (Int32.not_lt.mpr h0))
  exact ⟨j, (nI_ltI h2 hN).mp h1, rfl⟩
theorem i32_ofle {x : Int32} {N : Nat} (hN : N < 2 ^ 31) (h0 : 0 ≤ x) (h1 : x ≤ nI N) : ∃ j, j ≤ N ∧ x = nI j := by
  obtain ⟨j, h2, rfl⟩ := nI_of (x := x) (fun h => absurd h (Int32.not_lt.mpr h0))
  exact ⟨j, (nI_leI h2 hN).mp h1, rfl⟩
theorem nI_0le {j : Nat} (h : j < 2 ^ 31) : (0 : Int32) ≤ nI j := (nI_leI (by decide) h).mpr (Nat.zero_le j)
theorem pMay_in {σ : St} {n k j : Nat} {w : Bool} (hj : j < 64) : pMay σ n k (nI j) w = (if mOld σ k (j / 4) w n = true then (pBreak σ k 4, false)
    else if (pBA (nI k) (j / 4) w n σ).1 18 k 0 = 0 then (pBA (nI k) (j / 4) w n σ, true)
    else if σ.1 28 0 0 < nI (cntL (pMark (pBA (nI k) (j / 4) w n σ) k (j / 4) w) k (iN (σ.1 27 0 0)) (j / 4 % iN (σ.1 27 0 0)) 16) then (pBreak (pMark (pBA (nI k) (j / 4) w n σ) k (j / 4) w) k 3, false)
    else (pMark (pBA (nI k) (j / 4) w n σ) k (j / 4) w, true)) := by
  unfold pMay
  rw [if_pos ⟨nI_0le (by omega), (nI_ltI (by omega) (by decide)).mpr hj⟩, iN_nI (show j < 2 ^ 31 by omega)]
theorem pMay_out {σ : St} {n k : Nat} {x : Int32} {w : Bool} (h : ¬ (0 ≤ x ∧ x < 64)) : pMay σ n k x w = (pFault σ k, false) := by
  unfold pMay
  rw [if_neg h]
theorem pExec_t {σ τ : St} {n k i : Nat} {x : Int32} (h : pDoes σ n k i = (τ, x, true)) : pExec σ n k i = (put τ 13 k 0 x, true) := by
  simp [pExec, h]
theorem pExec_f {σ τ : St} {n k i : Nat} {x : Int32} (h : pDoes σ n k i = (τ, x, false)) : pExec σ n k i = (τ, false) := by
  simp [pExec, h]
theorem pGive_at {σ : St} {k r : Nat} {v : Int32} {f k' j : Nat} (h : f ≠ 10) : (pGive σ k r v).1 f k' j = σ.1 f k' j := by
  unfold pGive
  split <;> simp [put, h]
theorem pMay_ok {σ : St} {n k : Nat} {x : Int32} {w : Bool} (h : (pMay σ n k x w).2 = true) {f j : Nat} (h6 : f ≠ 6) (h7 : f ≠ 7) (h8 : f ≠ 8) (h24 : f ≠ 24) (h22 : f ≠ 22) (h23 : f ≠ 23) : (pMay σ n k x w).1.1 f k j = σ.1 f k j := by
  unfold pMay at h ⊢
  split at h
  · rename_i h1
    rw [if_pos h1]
    split at h
    · cases h
    · rename_i h2
      rw [if_neg h2]
      split at h
      · rename_i h3
        rw [if_pos h3]
        exact pBA_at h6 h7 h8 h24 (Or.inl rfl) n
      · rename_i h3
        rw [if_neg h3]
        split at h
        · cases h
        · rename_i h4
          rw [if_neg h4]
          show (pMark _ k _ w).1 f k j = _
          rw [pMark_at h22 h23]
          exact pBA_at h6 h7 h8 h24 (Or.inl rfl) n
  · cases h
theorem pMay_fix {σ : St} {n k : Nat} {x : Int32} {w : Bool} {f k' j : Nat} (h6 : f ≠ 6) (h7 : f ≠ 7) (h8 : f ≠ 8) (h24 : f ≠ 24) (hf : f ≠ 10 ∧ f ≠ 13 ∧ f ≠ 17 ∧ f ≠ 18 ∧ f ≠ 19 ∧ f ≠ 22 ∧ f ≠ 23) (h14 : f ≠ 14) : (pMay σ n k x w).1.1 f k' j = σ.1 f k' j := by
  unfold pMay
  split
  · split
    · exact pBreak_at h6 h7 h8 h24 (Or.inr hf)
    · split
      · exact pBA_at h6 h7 h8 h24 (Or.inr hf) n
      · split
        · rw [pBreak_at h6 h7 h8 h24 (Or.inr hf), pMark_at hf.2.2.2.2.2.1 hf.2.2.2.2.2.2]
          exact pBA_at h6 h7 h8 h24 (Or.inr hf) n
        · rw [pMark_at hf.2.2.2.2.2.1 hf.2.2.2.2.2.2]
          exact pBA_at h6 h7 h8 h24 (Or.inr hf) n
  · show (pFault σ k).1 f k' j = _
    unfold pFault
    split
    · exact pBreak_at h6 h7 h8 h24 (Or.inr hf)
    · simp [put, h14]
