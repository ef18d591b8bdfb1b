/-! what holds between the calls, kept by a step -/
theorem sl_amt : ∀ n, n < 32 → ((nI n &&& 31).toBitVec.smod 32).toNat = n := by decide +kernel
theorem orI (a b : Nat) : nI a ||| nI b = nI (a ||| b) := by
  apply Int32.toBitVec_inj.mp
  show (nI a).toBitVec ||| (nI b).toBitVec = (nI (a ||| b)).toBitVec
  show BitVec.ofNat 32 a ||| BitVec.ofNat 32 b = BitVec.ofNat 32 (a ||| b)
  apply BitVec.eq_of_toNat_eq
  simp [Nat.or_mod_two_pow]
theorem shl1 {ln : Nat} (h : ln < 16) : (1 : Int32) <<< (nI ln &&& 31) = nI (2 ^ ln) := by
  have e := pk_shlN (n := 1) (nI ln &&& 31) ln (sl_amt ln (by omega)) (by rw [Nat.one_mul]; exact Nat.pow_lt_pow_right (by decide) (by omega))
  rw [Nat.one_mul] at e
  exact e
theorem or16 {x ln : Nat} (hx : x < 65536) (h : ln < 16) : ∃ y, y < 65536 ∧ nI x ||| ((1 : Int32) <<< (nI ln &&& 31)) = nI y := by
  refine ⟨x ||| 2 ^ ln, ?_, by rw [shl1 h, orI]⟩
  exact Nat.or_lt_two_pow (n := 16) hx (Nat.pow_lt_pow_right (by decide) h)
theorem okK_of {σ τ : St} {G k : Nat} (h : okK σ G k) (hf : ∀ f, (f = 10 ∨ f = 11 ∨ f = 14 ∨ f = 18 ∨ f = 19 ∨ f = 22 ∨ f = 23) → τ.1 f k 0 = σ.1 f k 0) (h2 : τ.2 k = σ.2 k) : okK τ G k := by
  obtain ⟨a1, a2, a3, a4, a5, a6, a7, a8⟩ := h
  refine ⟨?_, ?_, ?_, ?_, ?_, ?_, ?_, ?_⟩
  · rw [hf 10 (by simp)]; exact a1
  · rw [hf 11 (by simp)]; exact a2
  · rw [hf 14 (by simp)]; exact a3
  · rw [hf 18 (by simp)]; exact a4
  · rw [hf 19 (by simp)]; exact a5
  · rw [hf 22 (by simp)]; exact a6
  · rw [hf 23 (by simp)]; exact a7
  · rw [hf 18 (by simp), hf 19 (by simp), hf 22 (by simp), hf 23 (by simp), h2]; exact a8
theorem okK_mono {σ : St} {G G' k : Nat} (h : okK σ G k) (hG : G ≤ G') : okK σ G' k := by
  obtain ⟨a1, a2, a3, a4, ⟨g, hg, e⟩, a6⟩ := h
  exact ⟨a1, a2, a3, a4, ⟨g, Nat.le_trans hg hG, e⟩, a6⟩
theorem Inv_mono {σ : St} {G G' : Nat} (h : Inv σ G) (hG : G ≤ G') (hG2 : G' < 2 ^ 30) : Inv σ G' := by
  obtain ⟨b1, b2, ⟨g, hg, e⟩, b4, b5, b6⟩ := h
  exact ⟨hG2, b2, ⟨g, Nat.le_trans hg hG, e⟩, b4, b5, fun k hk => okK_mono (b6 k hk) hG⟩
/-- a change of one core's own rows -/
theorem Inv_core {σ τ : St} {G k : Nat} (h : Inv σ G) (hf : ∀ f k' j, (f ≤ 9 ∧ f ≠ 0) ∨ f = 24 ∨ f = 27 → τ.1 f k' j = σ.1 f k' j) (ho : ∀ f k', k' ≠ k → (f = 10 ∨ f = 11 ∨ f = 14 ∨ f = 18 ∨ f = 19 ∨ f = 22 ∨ f = 23) → τ.1 f k' 0 = σ.1 f k' 0) (h2 : ∀ k', k' ≠ k → τ.2 k' = σ.2 k') (hk : okK σ G k → okK τ G k) (hk4 : k < 4) : Inv τ G := by
  obtain ⟨b1, ⟨L, hL, hLe, hLo⟩, ⟨g, hg, hge⟩, ⟨o, q, r1, r2, r3, r4, r5⟩, ⟨s, s1, s2⟩, b6⟩ := h
  refine ⟨b1, ⟨L, hL, by rw [hf 5 0 0 (by simp)]; exact hLe, fun i hi => ?_⟩, ⟨g, hg, by rw [hf 9 0 0 (by simp)]; exact hge⟩, ⟨o, q, r1, r2, by rw [hf 8 0 0 (by simp)]; exact r3, by rw [hf 7 0 0 (by simp)]; exact r4, fun i w hi hw => by rw [hf 6 0 _ (by simp), hf 24 0 _ (by simp)]; exact r5 i w hi hw⟩, ⟨s, s1, by rw [hf 27 0 0 (by simp)]; exact s2⟩, fun k' hk' => ?_⟩
  · have := hLo i hi
    unfold okI at this ⊢
    rw [hf 1 0 i (by simp), hf 2 0 i (by simp), hf 3 0 i (by simp), hf 4 0 i (by simp)]
    exact this
  · by_cases e : k' = k
    · subst e; exact hk (b6 k' hk')
    · exact okK_of (b6 k' hk') (fun f hf' => ho f k' e hf') (h2 k' e)
theorem okR_pAdd {σ : St} {a b c d : Int32} (h : okR σ) : okR (pAdd σ a b c d) := by
  obtain ⟨o, q, ho2, hq2, ho, hq, hr⟩ := h
  have hio : iN (nI o) = o := iN_nI (by omega)
  have hiq : iN (nI q) = q := iN_nI (by omega)
  by_cases h1 : q < 100
  · refine ⟨o, q + 1, ho2, h1, ?_, ?_, fun i w hi hw => ?_⟩
    · simp [pAdd, ho, hq, hio, hiq, h1, put, putA]
    · simp [pAdd, ho, hq, hio, hiq, h1, put, putA]
    · simp only [pAdd, ho, hq, hio, hiq, if_pos h1]
      simp only [put, putA, upd]
      simp only [show ¬ (6 = 24) by decide, show ¬ (6 = 7) by decide, show ¬ (24 = 6) by decide, show ¬ (24 = 7) by decide, false_and, if_false, and_self, if_true]
      by_cases hiq2 : i = q
      · subst hiq2
        rcases (show w = 0 ∨ w = 1 ∨ w = 2 ∨ w = 3 by omega) with rfl | rfl | rfl | rfl <;> simp
      · have hlt : i < q := by omega
        have e1 : ∀ v, v < 4 → (o + i) % 100 * 4 + w ≠ (o + q) % 100 * 4 + v := fun v hv => by omega
        have e2 : ∀ v, v < 4 → 4 * i + w ≠ 4 * q + v := fun v hv => by omega
        rw [if_neg (e1 3 (by decide)), if_neg (e1 2 (by decide)), if_neg (e1 1 (by decide)), if_neg (show (o + i) % 100 * 4 + w ≠ (o + q) % 100 * 4 by omega), if_neg (e2 3 (by decide)), if_neg (e2 2 (by decide)), if_neg (e2 1 (by decide)), if_neg (show 4 * i + w ≠ 4 * q by omega)]
        exact hr i w hlt hw
  · have hq1 : q = 100 := by omega
    subst hq1
    refine ⟨(o + 1) % 100, 100, Nat.mod_lt _ (by decide), Nat.le_refl _, ?_, ?_, fun i w hi hw => ?_⟩
    · simp [pAdd, ho, hq, hio, hiq, put, putA]
    · simp [pAdd, ho, hq, hio, hiq, put, putA]
    · simp only [pAdd, ho, hq, hio, hiq, if_neg h1]
      simp only [put, putA, upd]
      simp only [show ¬ (6 = 24) by decide, show ¬ (6 = 8) by decide, show ¬ (24 = 6) by decide, show ¬ (24 = 8) by decide, false_and, if_false, and_self, if_true]
      by_cases hiq2 : i = 99
      · subst hiq2
        have e0 : ((o + 1) % 100 + 99) % 100 = (o + 100) % 100 := by omega
        rw [e0]
        rcases (show w = 0 ∨ w = 1 ∨ w = 2 ∨ w = 3 by omega) with rfl | rfl | rfl | rfl <;> simp
      · have hlt : i < 99 := by omega
        have e0 : ((o + 1) % 100 + i) % 100 = (o + (i + 1)) % 100 := by omega
        rw [e0]
        have e1 : ∀ v, v < 4 → (o + (i + 1)) % 100 * 4 + w ≠ (o + 100) % 100 * 4 + v := fun v hv => by omega
        have e2 : ∀ v, v < 4 → 4 * i + w ≠ 4 * 99 + v := fun v hv => by omega
        rw [if_neg (e1 3 (by decide)), if_neg (e1 2 (by decide)), if_neg (e1 1 (by decide)), if_neg (show (o + (i + 1)) % 100 * 4 + w ≠ (o + 100) % 100 * 4 by omega), if_neg (e2 3 (by decide)), if_neg (e2 2 (by decide)), if_neg (e2 1 (by decide)), if_neg (show 4 * i + w ≠ 4 * 99 by omega), if_pos (by omega), show 4 * i + w + 4 = 4 * (i + 1) + w by omega]
        exact hr (i + 1) w (by omega) hw
theorem Inv_break {σ : St} {G k : Nat} {c : Int32} (h : Inv σ G) (hk4 : k < 4) : Inv (pBreak σ k c) G := by
  obtain ⟨b1, ⟨L, hL, hLe, hLo⟩, ⟨g, hg, hge⟩, r, ⟨s, s1, s2⟩, b6⟩ := h
  have hf : ∀ f k' j, f ≠ 6 → f ≠ 7 → f ≠ 8 → f ≠ 24 → (f ≠ 10 ∧ f ≠ 13 ∧ f ≠ 17 ∧ f ≠ 18 ∧ f ≠ 19 ∧ f ≠ 22 ∧ f ≠ 23) → (pBreak σ k c).1 f k' j = σ.1 f k' j := fun f k' j h1 h2 h3 h4 h5 => pBreak_at h1 h2 h3 h4 (Or.inr h5)
  refine ⟨b1, ⟨L, hL, by rw [hf 5 0 0 (by decide) (by decide) (by decide) (by decide) (by decide)]; exact hLe, fun i hi => ?_⟩, ⟨g, hg, by rw [hf 9 0 0 (by decide) (by decide) (by decide) (by decide) (by decide)]; exact hge⟩, ?_, ⟨s, s1, by rw [hf 27 0 0 (by decide) (by decide) (by decide) (by decide) (by decide)]; exact s2⟩, fun k' hk' => ?_⟩
  · have := hLo i hi
    unfold okI at this ⊢
    rw [hf 1 0 i (by decide) (by decide) (by decide) (by decide) (by decide), hf 2 0 i (by decide) (by decide) (by decide) (by decide) (by decide), hf 3 0 i (by decide) (by decide) (by decide) (by decide) (by decide), hf 4 0 i (by decide) (by decide) (by decide) (by decide) (by decide)]
    exact this
  · obtain ⟨o, q, r1, r2, r3, r4, r5⟩ := okR_pAdd (a := nI k) (b := σ.1 20 k 0) (c := c) (d := σ.1 19 k 0) r
    exact ⟨o, q, r1, r2, r3, r4, r5⟩
  · by_cases e : k' = k
    · subst e
      obtain ⟨a1, a2, a3, a4, a5, a6, a7, a8⟩ := b6 k' hk'
      refine ⟨?_, ?_, ?_, ⟨0, by decide, ?_⟩, ⟨0, Nat.zero_le _, ?_⟩, ⟨0, by decide, ?_⟩, ⟨0, by decide, ?_⟩, fun _ => ⟨?_, ?_, ?_, ?_⟩⟩
      · simp [pBreak, pClose, put, putA, putL, upd, a2]
      · rw [hf 11 k' 0 (by decide) (by decide) (by decide) (by decide) (by decide)]; exact a2
      · rw [hf 14 k' 0 (by decide) (by decide) (by decide) (by decide) (by decide)]; exact a3
      · simp [pBreak, pClose, put, putA, putL]; rfl
      · simp [pBreak, pClose, put, putA, putL]; rfl
      · simp [pBreak, pClose, put, putA, putL]; rfl
      · simp [pBreak, pClose, put, putA, putL]; rfl
      · simp [pBreak, pClose, put, putA, putL]
      · simp [pBreak, pClose, put, putA, putL]
      · simp [pBreak, pClose, put, putA, putL]
      · simp [pBreak, pClose, put, putA, putL]
    · refine okK_of (b6 k' hk') (fun f hf' => pBreak_at (by omega) (by omega) (by omega) (by omega) (Or.inl e)) (pBreak_2 e)
theorem Inv_BA {acc : Int32} {ln : Nat} {w : Bool} {σ : St} {G : Nat} (h : Inv σ G) : ∀ m, m ≤ 4 → Inv (pBA acc ln w m σ) G
  | 0, _ => h
  | m + 1, hm => by
    unfold pBA
    split
    · exact Inv_break (Inv_BA h m (by omega)) (by omega)
    · exact Inv_BA h m (by omega)
theorem Inv_mark {σ : St} {G k ln : Nat} {w : Bool} (h : Inv σ G) (hk4 : k < 4) (hln : ln < 16) (hd : ¬ σ.1 18 k 0 = 0) : Inv (pMark σ k ln w) G := by
  refine Inv_core h (k := k) (fun f k' j hf => pMark_at (by omega) (by omega)) (fun f k' hk hf => ?_) (fun k' hk => ?_) (fun hK => ?_) hk4
  · unfold pMark; split <;> simp [put, hk]
  · unfold pMark; split <;> rfl
  · obtain ⟨a1, a2, a3, a4, a5, ⟨x, hx, ex⟩, ⟨y, hy, ey⟩, a8⟩ := hK
    obtain ⟨x', hx', ex'⟩ := or16 hx hln
    obtain ⟨y', hy', ey'⟩ := or16 hy hln
    unfold pMark
    split
    · refine ⟨a1, a2, a3, a4, a5, ⟨x, hx, ex⟩, ⟨y', hy', ?_⟩, fun h0 => absurd h0 hd⟩
      simp [put, ey, ey']
    · refine ⟨a1, a2, a3, a4, a5, ⟨x', hx', ?_⟩, ⟨y, hy, ey⟩, fun h0 => absurd h0 hd⟩
      simp [put, ex, ex']
theorem Inv_put {σ : St} {G f k j : Nat} {v : Int32} (h : Inv σ G) (hf : f = 0 ∨ f = 12 ∨ f = 13 ∨ f = 15 ∨ f = 16 ∨ f = 17 ∨ f = 20 ∨ f = 21) (hk4 : k < 4) : Inv (put σ f k j v) G := by
  refine Inv_core h (k := k) (fun f2 k' j hf2 => ?_) (fun f2 k' hk hf2 => ?_) (fun k' hk => rfl) (fun hK => okK_of hK (fun f2 hf2 => ?_) rfl) hk4
  · have : f2 ≠ f := by omega
    simp [put, this]
  · have : f2 ≠ f := by omega
    simp [put, this]
  · have : f2 ≠ f := by omega
    simp [put, this]
theorem Inv_end14 {σ : St} {G k : Nat} {v : Int32} (h : Inv σ G) (hv : zq v) (hk4 : k < 4) : Inv (put σ 14 k 0 v) G := by
  refine Inv_core h (k := k) (fun f2 k' j hf2 => ?_) (fun f2 k' hk hf2 => ?_) (fun k' hk => rfl) (fun hK => ?_) hk4
  · have : f2 ≠ 14 := by omega
    simp [put, this]
  · simp [put, hk]
  · obtain ⟨a1, a2, a3, a4⟩ := hK
    exact ⟨a1, a2, by simpa [put] using hv, a4⟩
theorem Inv_fault {σ : St} {G k : Nat} (h : Inv σ G) (hk4 : k < 4) : Inv (pFault σ k) G := by
  unfold pFault
  split
  · exact Inv_break h hk4
  · exact Inv_end14 h (Or.inr rfl) hk4
theorem Inv_give {σ : St} {G k j : Nat} {v : Int32} (h : Inv σ G) (hk4 : k < 4) : Inv (pGive σ k j v) G := by
  unfold pGive
  split
  · exact h
  · rename_i hj
    refine Inv_core h (k := k) (fun f2 k' j hf2 => ?_) (fun f2 k' hk hf2 => ?_) (fun k' hk => rfl) (fun hK => ?_) hk4
    · have : f2 ≠ 10 := by omega
      simp [put, this]
    · simp [put, hk]
    · obtain ⟨a1, a2⟩ := hK
      refine ⟨?_, a2⟩
      have : (0 : Nat) ≠ j := fun q => hj q.symm
      simpa [put, this] using a1
theorem Inv_may {σ : St} {G n k : Nat} {x : Int32} {w : Bool} (h : Inv σ G) (hk4 : k < 4) (hn : n ≤ 4) : Inv (pMay σ n k x w).1 G := by
  unfold pMay
  split
  · rename_i hx
    obtain ⟨j, hj, rfl⟩ := i32_of (N := 64) (by decide) hx.1 hx.2
    rw [iN_nI (show j < 2 ^ 31 by omega)]
    split
    · exact Inv_break h hk4
    · split
      · exact Inv_BA h n hn
      · rename_i hd
        split
        · exact Inv_break (Inv_mark (Inv_BA h n hn) hk4 (by omega) hd) hk4
        · exact Inv_mark (Inv_BA h n hn) hk4 (by omega) hd
  · exact Inv_fault h hk4
theorem Inv_write {σ : St} {G k j : Nat} {v : Int32} (h : Inv σ G) (hk4 : k < 4) : Inv (pWrite σ k j v) G := by
  unfold pWrite
  split
  · rename_i hd
    refine Inv_put (Inv_core h (k := k) (τ := putL σ k (σ.2 k ||| ((1 : Int64) <<< ((nI j).toInt64 &&& 63)))) (fun f2 k' j hf2 => rfl) (fun f2 k' hk hf2 => rfl) (fun k' hk => by simp [putL, hk]) (fun hK => ?_) hk4) (Or.inr (Or.inl rfl)) hk4
    obtain ⟨a1, a2, a3, a4, a5, a6, a7, a8⟩ := hK
    exact ⟨a1, a2, a3, a4, a5, a6, a7, fun h0 => absurd hd (by rw [show σ.1 18 k 0 = 0 from h0]; decide)⟩
  · exact Inv_put h (Or.inl rfl) (by decide)
theorem Inv_end {σ : St} {G k : Nat} (h : Inv σ G) (hk4 : k < 4) : Inv (pEnd σ k) G := by
  unfold pEnd
  split
  · refine Inv_put (Inv_core h (k := k) (τ := pClose (pMemo σ k 64) k) (fun f2 k' j hf2 => ?_) (fun f2 k' hk hf2 => ?_) (fun k' hk => by simp [pClose, pMemo, put, putA, putL, hk]) (fun hK => ?_) hk4) (by simp) hk4
    · have h1 : f2 ≠ 18 := by omega
      have h2 : f2 ≠ 19 := by omega
      have h3 : f2 ≠ 22 := by omega
      have h4 : f2 ≠ 23 := by omega
      have h5 : f2 ≠ 0 := by omega
      simp [pClose, pMemo, put, putA, putL, h1, h2, h3, h4, h5]
    · have h5 : f2 ≠ 0 := by omega
      simp [pClose, pMemo, put, putA, putL, hk, h5]
    · obtain ⟨a1, a2, a3, a4, a5, a6, a7, a8⟩ := hK
      refine ⟨a1, a2, a3, ⟨0, by decide, ?_⟩, ⟨0, Nat.zero_le _, ?_⟩, ⟨0, by decide, ?_⟩, ⟨0, by decide, ?_⟩, fun _ => ⟨?_, ?_, ?_, ?_⟩⟩ <;> simp [pClose, pMemo, put, putA, putL] <;> rfl
  · split
    · rename_i hd1 hd
      refine Inv_core h (k := k) (fun f2 k' j hf2 => ?_) (fun f2 k' hk hf2 => ?_) (fun k' hk => rfl) (fun hK => ?_) hk4
      · have : f2 ≠ 18 := by omega
        simp [put, this]
      · simp [put, hk]
      · obtain ⟨a1, a2, a3, ⟨d, hd8, e⟩, a5, a6, a7, a8⟩ := hK
        rw [e] at hd
        have h1d : 1 < d := (nI_ltI (a := 1) (by decide) (by omega)).mp hd
        have e2 : (put σ 18 k 0 (σ.1 18 k 0 - 1)).1 18 k 0 = nI (d - 1) := by
          simp only [put, and_self, if_true]
          rw [e]
          exact pk_sub (b := 1) (by omega)
        refine ⟨a1, a2, a3, ⟨d - 1, by omega, e2⟩, a5, a6, a7, fun h0 => ?_⟩
        rw [e2] at h0
        exact absurd h0 (nI_ne0 (by omega) (by omega))
    · exact h
theorem Inv_lag {σ : St} {G : Nat} (h : Inv σ G) (hG : G + 1 < 2 ^ 30) : Inv (put σ 9 0 0 (σ.1 9 0 0 + 1)) (G + 1) := by
  obtain ⟨-, ⟨L, hL, hLe, hLo⟩, ⟨g, hg, hge⟩, ⟨o, q, r1, r2, r3, r4, r5⟩, ⟨s, s1, s2⟩, b6⟩ := h
  refine ⟨hG, ⟨L, hL, hLe, hLo⟩, ⟨g + 1, Nat.succ_le_succ hg, ?_⟩, ⟨o, q, r1, r2, r3, r4, r5⟩, ⟨s, s1, s2⟩, fun k' hk' => okK_of (okK_mono (b6 k' hk') (Nat.le_succ G)) (fun f hf => ?_) rfl⟩
  · simp only [put, and_self, if_true]; rw [hge]; exact nI_1 g
  · have hne : f ≠ 9 := by omega
    simp [put, hne]
theorem Inv_begin {σ : St} {G k i : Nat} (h : Inv σ G) (hk4 : k < 4) (hG : G + 1 < 2 ^ 30) : Inv (pBegin σ k i).1 (G + 1) := by
  have h0 := Inv_mono h (Nat.le_succ G) hG
  unfold pBegin
  split
  · exact Inv_break h0 hk4
  · rename_i hd8
    obtain ⟨-, -, ⟨g, hg, hge⟩, -, -, b6⟩ := id h
    obtain ⟨d, hd, e⟩ := (b6 k hk4).2.2.2.1
    have hd7 : d < 8 := by
      rw [e] at hd8
      have := Int32.not_le.mp hd8
      exact (nI_ltI (b := 8) (by omega) (by decide)).mp this
    have e1 : σ.1 18 k 0 + 1 = nI (d + 1) := by rw [e]; exact nI_1 d
    split
    · rename_i hz
      have hlag : Inv (put σ 9 0 0 (σ.1 9 0 0 + 1)) (G + 1) := Inv_lag h hG
      refine Inv_core hlag (k := k) (fun f2 k' j hf2 => ?_) (fun f2 k' hk hf2 => ?_) (fun k' hk => rfl) (fun hK => ?_) hk4
      · have h1 : f2 ≠ 18 := by omega
        have h2 : f2 ≠ 19 := by omega
        have h3 : f2 ≠ 20 := by omega
        have h4 : f2 ≠ 21 := by omega
        have h5 : f2 ≠ 11 := by omega
        simp [pOpen, put, putA, h1, h2, h3, h4, h5]
      · simp [pOpen, put, putA, hk]
      · obtain ⟨a1, a2, a3, a4, a5, a6, a7, a8⟩ := hK
        refine ⟨a1, ?_, a3, ⟨d + 1, hd7, ?_⟩, ⟨g + 1, by omega, ?_⟩, a6, a7, fun hz2 => ?_⟩
        · simpa [pOpen, put, putA] using a1
        · simpa [pOpen, put, putA] using e1
        · have eg : σ.1 9 0 0 + 1 = nI (g + 1) := by rw [hge]; exact nI_1 g
          simpa [pOpen, put, putA] using eg
        · exact absurd (show σ.1 18 k 0 + 1 = 0 from by simpa [pOpen, put, putA] using hz2) (by rw [e1]; exact nI_ne0 (by omega) (by omega))
    · refine Inv_core h0 (k := k) (fun f2 k' j hf2 => ?_) (fun f2 k' hk hf2 => ?_) (fun k' hk => rfl) (fun hK => ?_) hk4
      · have : f2 ≠ 18 := by omega
        simp [put, this]
      · simp [put, hk]
      · obtain ⟨a1, a2, a3, a4, a5, a6, a7, a8⟩ := hK
        have e2 : (put σ 18 k 0 (σ.1 18 k 0 + 1)).1 18 k 0 = nI (d + 1) := by simp only [put, and_self, if_true]; exact e1
        refine ⟨a1, a2, a3, ⟨d + 1, hd7, e2⟩, a5, a6, a7, fun hz2 => ?_⟩
        rw [e2] at hz2
        exact absurd hz2 (nI_ne0 (by omega) (by omega))
theorem Inv_does {σ : St} {G n k i o : Nat} (h : Inv σ G) (hk4 : k < 4) (hn : n ≤ 4) (hG : G + 1 < 2 ^ 30) (ho : σ.1 1 0 i = nI o) (ho13 : o ≤ 13) : Inv (pDoes σ n k i).1 (G + 1) := by
  have h0 := Inv_mono h (Nat.le_succ G) hG
  rcases (show o = 0 ∨ o = 1 ∨ o = 2 ∨ o = 3 ∨ o = 4 ∨ o = 5 ∨ o = 6 ∨ o = 7 ∨ o = 8 ∨ o = 9 ∨ o = 10 ∨ o = 11 ∨ o = 12 ∨ o = 13 by omega) with rfl | rfl | rfl | rfl | rfl | rfl | rfl | rfl | rfl | rfl | rfl | rfl | rfl | rfl
  · rw [doe_0 ho]; exact Inv_give h0 hk4
  · rw [doe_1 ho]; exact Inv_give h0 hk4
  · rw [doe_2 ho]; exact Inv_give h0 hk4
  · rw [doe_3 ho]; exact Inv_give h0 hk4
  · rw [doe_4 ho]; exact Inv_give h0 hk4
  · rw [doe_5 ho]; split
    · exact Inv_give (Inv_may h0 hk4 hn) hk4
    · exact Inv_may h0 hk4 hn
  · rw [doe_6 ho]; split
    · exact Inv_write (Inv_may h0 hk4 hn) hk4
    · exact Inv_may h0 hk4 hn
  · rw [doe_7 ho]; exact h0
  · rw [doe_8 ho]; exact h0
  · rw [doe_9 ho]; exact h0
  · rw [doe_10 ho]; exact Inv_begin h hk4 hG
  · rw [doe_11 ho]; exact Inv_end h0 hk4
  · rw [doe_12 ho]; split
    · exact h0
    · exact Inv_break h0 hk4
  · rw [doe_13 ho]; split
    · exact Inv_end14 h0 (Or.inr rfl) hk4
    · exact Inv_break (Inv_end14 h0 (Or.inl rfl) hk4) hk4
theorem Inv_exec {σ : St} {G n k i o : Nat} (h : Inv σ G) (hk4 : k < 4) (hn : n ≤ 4) (hG : G + 1 < 2 ^ 30) (ho : σ.1 1 0 i = nI o) (ho13 : o ≤ 13) : Inv (pExec σ n k i).1 (G + 1) := by
  have h1 := Inv_does (n := n) h hk4 hn hG ho ho13
  unfold pExec
  split
  · exact Inv_put h1 (by simp) hk4
  · exact h1
theorem Inv_step {σ : St} {G n k : Nat} (h : Inv σ G) (hk4 : k < 4) (hn : n ≤ 4) (hG : G + 1 < 2 ^ 30) : Inv (pStep σ n k).1 (G + 1) := by
  have h0 := Inv_mono h (Nat.le_succ G) hG
  unfold pStep
  split
  · exact h0
  · split
    · rename_i hp
      obtain ⟨-, ⟨L, hL, hLe, hLo⟩, -⟩ := id h
      obtain ⟨i, hi, hie⟩ := i32_of (N := L) (by omega) hp.1 (by rw [← hLe]; exact hp.2)
      have hok := hLo i hi
      obtain ⟨o, ho13, ho⟩ := i32_ofle (N := 13) (by decide) hok.1 hok.2.1
      rw [hie, iN_nI (show i < 2 ^ 31 by omega)]
      split
      · exact Inv_put (Inv_exec h hk4 hn hG ho ho13) (by simp) hk4
      · exact Inv_exec h hk4 hn hG ho ho13
    · exact Inv_fault h0 hk4
theorem okQ_Inv {σ : St} {G : Nat} (h : Inv σ G) : okQ σ := by
  obtain ⟨-, -, -, ⟨o, q, r1, r2, r3, r4, -⟩, -⟩ := h
  exact ⟨o, q, r1, r2, r3, r4⟩
theorem Inv_pick {n k : Nat} (hk4 : k < 4) (hn : n ≤ 4) : ∀ (t : Nat) (acc : Int32) (σ : St) (G : Nat), Inv σ G → G + t < 2 ^ 30 → Inv (pPick n k t acc σ).1 (G + t)
  | 0, _, _, _, h, _ => h
  | t + 1, acc, σ, G, h, hG => by
    unfold pPick
    split
    · exact Inv_mono h (by omega) hG
    · have := Inv_pick hk4 hn t (acc + (pStep σ n k).2) (pStep σ n k).1 (G + 1) (Inv_step h hk4 hn (by omega)) (by omega)
      rw [show G + 1 + t = G + (t + 1) by omega] at this
      exact this
theorem Inv_run {n : Nat} (hn0 : 0 < n) (hn : n ≤ 4) : ∀ (t : Nat) (x acc : Int32) (σ : St) (G : Nat), Inv σ G → G + t < 2 ^ 30 → Inv (pRun n t x acc σ).1 (G + t)
  | 0, _, _, _, _, h, _ => h
  | t + 1, x, acc, σ, G, h, hG => by
    unfold pRun
    have hk : rcore (rnd x) n < n := Nat.mod_lt _ hn0
    have := Inv_run hn0 hn t (rnd x) (acc + (pStep σ n (rcore (rnd x) n)).2) (pStep σ n (rcore (rnd x) n)).1 (G + 1) (Inv_step h (by omega) hn (by omega)) (by omega)
    rw [show G + 1 + t = G + (t + 1) by omega] at this
    exact this
