/-! what holds behind each call -/
theorem t1_z {P : Prop} [Decidable P] (h : t1 P = 0) : P := by
  by_cases q : P
  · exact q
  · rw [t1_1 q] at h; exact absurd h T1ne
theorem t2_z {P Q : Prop} [Decidable P] [Decidable Q] (h : t2 P Q = 0) : P ∧ Q := by
  by_cases q : P
  · by_cases r : Q
    · exact ⟨q, r⟩
    · rw [t2_2 q r] at h; exact absurd h T2ne
  · rw [t2_1 q] at h; exact absurd h T1ne
theorem Inv_app {σ : St} {G : Nat} {o a b d : Int32} (h : Inv σ G) (hG : (0 ≤ o ∧ o < 14) ∧ ((o ≤ 8 ∨ o = 12) → (0 ≤ a ∧ a < 8)) ∧ ((1 ≤ o ∧ o ≤ 8) → (0 ≤ b ∧ b < 8)) ∧ ((1 ≤ o ∧ o ≤ 3) → (0 ≤ d ∧ d < 8))) (hne : ¬ σ.1 5 0 0 = 80) : Inv (pApp σ o a b d) G := by
  obtain ⟨b1, ⟨L, hL, hLe, hLo⟩, ⟨g, hg, hge⟩, ⟨o2, q, r1, r2, r3, r4, r5⟩, ⟨s, s1, s2⟩, b6⟩ := h
  have hL8 : L < 80 := Nat.lt_of_le_of_ne hL (fun e => hne (by rw [hLe, e]; rfl))
  have hiL : iN (σ.1 5 0 0) = L := by rw [hLe]; exact iN_nI (by omega)
  have e : pApp σ o a b d = put (put (put (put (put σ 1 0 L o) 2 0 L a) 3 0 L b) 4 0 L d) 5 0 0 (nI (L + 1)) := by unfold pApp; rw [hiL, hLe, nI_1]
  rw [e]
  refine ⟨b1, ⟨L + 1, hL8, by simp [put], fun i hi => ?_⟩, ⟨g, hg, by simpa [put] using hge⟩, ⟨o2, q, r1, r2, by simpa [put] using r3, by simpa [put] using r4, fun i w hi hw => by simpa [put] using r5 i w hi hw⟩, ⟨s, s1, by simpa [put] using s2⟩, fun k hk => okK_of (b6 k hk) (fun f hf => ?_) rfl⟩
  · unfold okI
    by_cases hiL2 : i = L
    · subst hiL2
      have v1 : (put (put (put (put (put σ 1 0 i o) 2 0 i a) 3 0 i b) 4 0 i d) 5 0 0 (nI (i + 1))).1 1 0 i = o := by simp [put]
      have v2 : (put (put (put (put (put σ 1 0 i o) 2 0 i a) 3 0 i b) 4 0 i d) 5 0 0 (nI (i + 1))).1 2 0 i = a := by simp [put]
      have v3 : (put (put (put (put (put σ 1 0 i o) 2 0 i a) 3 0 i b) 4 0 i d) 5 0 0 (nI (i + 1))).1 3 0 i = b := by simp [put]
      have v4 : (put (put (put (put (put σ 1 0 i o) 2 0 i a) 3 0 i b) 4 0 i d) 5 0 0 (nI (i + 1))).1 4 0 i = d := by simp [put]
      rw [v1, v2, v3, v4]
      exact ⟨hG.1.1, Int32.not_lt.mp (le13.mpr hG.1.2), hG.2.1, hG.2.2.1, hG.2.2.2⟩
    · have v1 : (put (put (put (put (put σ 1 0 L o) 2 0 L a) 3 0 L b) 4 0 L d) 5 0 0 (nI (L + 1))).1 1 0 i = σ.1 1 0 i := by simp [put, hiL2]
      have v2 : (put (put (put (put (put σ 1 0 L o) 2 0 L a) 3 0 L b) 4 0 L d) 5 0 0 (nI (L + 1))).1 2 0 i = σ.1 2 0 i := by simp [put, hiL2]
      have v3 : (put (put (put (put (put σ 1 0 L o) 2 0 L a) 3 0 L b) 4 0 L d) 5 0 0 (nI (L + 1))).1 3 0 i = σ.1 3 0 i := by simp [put, hiL2]
      have v4 : (put (put (put (put (put σ 1 0 L o) 2 0 L a) 3 0 L b) 4 0 L d) 5 0 0 (nI (L + 1))).1 4 0 i = σ.1 4 0 i := by simp [put, hiL2]
      rw [v1, v2, v3, v4]
      exact hLo i (by omega)
  · have h1 : f ≠ 1 := by omega
    have h2 : f ≠ 2 := by omega
    have h3 : f ≠ 3 := by omega
    have h4 : f ≠ 4 := by omega
    have h5 : f ≠ 5 := by omega
    simp [put, h1, h2, h3, h4, h5]
theorem Inv_close {σ : St} {G k : Nat} (h : Inv σ G) (hk4 : k < 4) : Inv (pClose σ k) G := by
  refine Inv_core h (k := k) (fun f2 k' j hf2 => ?_) (fun f2 k' hk hf2 => ?_) (fun k' hk => by simp [pClose, put, putA, putL, hk]) (fun hK => ?_) hk4
  · have h1 : f2 ≠ 18 := by omega
    have h2 : f2 ≠ 19 := by omega
    have h3 : f2 ≠ 22 := by omega
    have h4 : f2 ≠ 23 := by omega
    simp [pClose, put, putA, putL, h1, h2, h3, h4]
  · simp [pClose, put, putA, putL, hk]
  · obtain ⟨a1, a2, a3, a4, a5, a6, a7, a8⟩ := hK
    refine ⟨a1, a2, a3, ⟨0, by decide, ?_⟩, ⟨0, Nat.zero_le _, ?_⟩, ⟨0, by decide, ?_⟩, ⟨0, by decide, ?_⟩, fun _ => ⟨?_, ?_, ?_, ?_⟩⟩ <;> simp [pClose, put, putA, putL] <;> rfl
theorem Inv_pstart {σ : St} {G k : Nat} {y : Int32} (h : Inv σ G) (hk4 : k < 4) : Inv (pStart σ k y) G := Inv_close (Inv_end14 (Inv_put h (by simp) hk4) (Or.inl rfl) hk4) hk4
theorem Inv_poke {σ : St} {G n j : Nat} {v : Int32} (h : Inv σ G) (hn4 : n ≤ 4) : Inv (pPoke σ n j v) G := Inv_put (Inv_BA h n hn4) (Or.inl rfl) (by decide)
theorem Inv_clr {σ : St} {G : Nat} (h : Inv σ G) : Inv (pClr σ) G := by
  obtain ⟨b1, -, -, -, ⟨s, s1, s2⟩, b6⟩ := h
  have v5 : (pClr σ).1 5 0 0 = 0 := by simp [pClr]
  have v7 : (pClr σ).1 7 0 0 = 0 := by simp [pClr]
  have v8 : (pClr σ).1 8 0 0 = 0 := by simp [pClr]
  have v9 : (pClr σ).1 9 0 0 = 0 := by simp [pClr]
  have v27 : (pClr σ).1 27 0 0 = σ.1 27 0 0 := by simp [pClr]
  refine ⟨b1, ⟨0, Nat.zero_le _, v5.trans nI_0.symm, fun i hi => absurd hi (Nat.not_lt_zero i)⟩, ⟨0, Nat.zero_le _, v9.trans nI_0.symm⟩, ⟨0, 0, by decide, by decide, v8.trans nI_0.symm, v7.trans nI_0.symm, fun i w hi => absurd hi (Nat.not_lt_zero i)⟩, ⟨s, s1, v27.trans s2⟩, fun k hk => ?_⟩
  have w10 : (pClr σ).1 10 k 0 = 0 := by simp [pClr, hk]
  have w11 : (pClr σ).1 11 k 0 = σ.1 11 k 0 := by simp [pClr]
  have w14 : (pClr σ).1 14 k 0 = 0 := by simp [pClr, hk]
  have w18 : (pClr σ).1 18 k 0 = 0 := by simp [pClr, hk]
  have w19 : (pClr σ).1 19 k 0 = 0 := by simp [pClr, hk]
  have w22 : (pClr σ).1 22 k 0 = 0 := by simp [pClr, hk]
  have w23 : (pClr σ).1 23 k 0 = 0 := by simp [pClr, hk]
  have w2 : (pClr σ).2 k = 0 := if_pos hk
  exact ⟨w10, w11.trans (b6 k hk).2.1, Or.inl w14, ⟨0, by decide, w18.trans nI_0.symm⟩, ⟨0, Nat.zero_le _, w19.trans nI_0.symm⟩, ⟨0, by decide, w22.trans nI_0.symm⟩, ⟨0, by decide, w23.trans nI_0.symm⟩, fun _ => ⟨w19, w22, w23, w2⟩⟩
theorem Inv_s0 {S Wy : Int32} (hS : ∃ s, (s = 1 ∨ s = 2 ∨ s = 4) ∧ S = nI s) : Inv (s0 S Wy) 0 := by
  refine ⟨by decide, ⟨0, Nat.zero_le _, nI_0.symm, fun i hi => absurd hi (Nat.not_lt_zero i)⟩, ⟨0, Nat.zero_le _, nI_0.symm⟩, ⟨0, 0, by decide, by decide, nI_0.symm, nI_0.symm, fun i w hi => absurd hi (Nat.not_lt_zero i)⟩, hS, fun k hk => ?_⟩
  exact ⟨rfl, rfl, Or.inl rfl, ⟨0, by decide, nI_0.symm⟩, ⟨0, Nat.zero_le _, nI_0.symm⟩, ⟨0, by decide, nI_0.symm⟩, ⟨0, by decide, nI_0.symm⟩, fun _ => ⟨rfl, rfl, rfl, rfl⟩⟩
theorem iN_lt {x : Int32} {N : Nat} (hN : N < 2 ^ 31) (h : 0 ≤ x ∧ x < nI N) : iN x < N := by
  obtain ⟨k, hk, e⟩ := i32_of hN h.1 h.2
  rw [e, iN_nI (by omega)]; exact hk
theorem iN_le {x : Int32} {N : Nat} (hN : N < 2 ^ 31) (h : 0 ≤ x ∧ x ≤ nI N) : iN x ≤ N := by
  obtain ⟨k, hk, e⟩ := i32_ofle hN h.1 h.2
  rw [e, iN_nI (by omega)]; exact hk
theorem sets_e {y : Int32} : ∃ s, (s = 1 ∨ s = 2 ∨ s = 4) ∧ (1 : Int32) <<< (clp y 0 2 &&& 31) = nI s := by
  obtain ⟨t, -, ht, e⟩ := clp_in (v := y) 0 2 (by decide) (by decide)
  rw [show clp y 0 2 = nI t from e]
  rcases (show t = 0 ∨ t = 1 ∨ t = 2 by omega) with rfl | rfl | rfl
  · exact ⟨1, Or.inl rfl, by decide⟩
  · exact ⟨2, Or.inr (Or.inl rfl), by decide⟩
  · exact ⟨4, Or.inr (Or.inr rfl), by decide⟩
theorem cmp_self (x : Int64) : lg_cmp x x = 0 := by
  unfold lg_cmp
  rw [if_neg (fun h => Int64.lt_irrefl h), if_pos rfl]
/-! the law's own steps: its three worlds apart -/
def lA (s : State) : Nat → Prop := fun q => s.heap.size ≤ q
def LD (A : Nat → Prop) (N : Nat) (ad ad2 : Nat → Nat) (qo : Nat) : Prop := (∀ g, va_D A (FW N ad g)) ∧ (∀ g, va_D A (FW 22 ad2 g)) ∧ A qo ∧ (∀ i, i < N → ad i ≠ qo) ∧ (∀ j, j < 22 → ad2 j ≠ qo) ∧ ∀ i, i < N → ∀ j, j < 22 → ad i ≠ ad2 j
theorem cons_P {D : va_G} {w0 : Nat × va_E} {w : va_W} {H : Heap} (h0 : va_P D vwCl [w0] H) (h : va_P D vwCl w H) : va_P D vwCl (w0 :: w) H := fun k q hk => by
  rcases k with _ | k
  · exact h0 0 q hk
  · rw [List.getElem?_cons_succ] at hk
    exact h k q hk
theorem P_head {D : va_G} {w0 : Nat × va_E} {w : va_W} {H : Heap} (h : va_P D vwCl (w0 :: w) H) : va_P D vwCl [w0] H := fun k q hk => by
  rcases k with _ | k
  · exact h 0 q hk
  · simp at hk
theorem P_tail {D : va_G} {w0 : Nat × va_E} {w : va_W} {H : Heap} (h : va_P D vwCl (w0 :: w) H) : va_P D vwCl w H := fun k q hk => h (k + 1) q (by rw [List.getElem?_cons_succ]; exact hk)
theorem cons_D {A : Nat → Prop} {N : Nat} {ad : Nat → Nat} {f : Nat → va_E} {w0 : Nat × va_E} (h : va_D A (FW N ad f)) (h0 : A w0.1) (hne : ∀ i, i < N → ad i ≠ w0.1) : va_D A (w0 :: FW N ad f) := by
  refine ⟨fun i j p q hp hq e => ?_, fun k q hk => ?_⟩
  · rcases i with _ | i <;> rcases j with _ | j
    · rfl
    · cases hp
      rw [List.getElem?_cons_succ] at hq
      obtain ⟨h1, rfl⟩ := FW_inv hq
      exact absurd e.symm (hne j h1)
    · cases hq
      rw [List.getElem?_cons_succ] at hp
      obtain ⟨h1, rfl⟩ := FW_inv hp
      exact absurd e (hne i h1)
    · rw [List.getElem?_cons_succ] at hp hq
      rw [h.1 i j p q hp hq e]
  · rcases k with _ | k
    · cases hk; exact h0
    · rw [List.getElem?_cons_succ] at hk
      exact h.2 k q hk
section LS
variable {p : Program} {l : Launch} {e : Env} {R : Room} {s : State} {m : MethodId} {args : Array Value} {below : List Frame} {meth : Method} {c : Code} {H H0 : Heap} {locs : List Loc} {cells slots : Nat} {Q : State → Prop} {A : Nat → Prop} {D : va_G} {tys : List (ClassId × FieldType)} {N : Nat} {ad ad2 : Nat → Nat} {f f2 : Nat → va_E} {cc : ByteArray} {pc : Nat} {ls : Array Slot} {rest st0 : List Value} {w : va_W}
variable {Ts ws : List Cond} {own C : String} {y : MethodName} {bytes : ByteArray} {maxL nL n index : Nat} {rm : Room} {b : Addr} {As : List Value} {ret : Option FieldType}
/-- another world that a call doesn't reach -/
theorem w_kept (hP : va_P D vwCl (FW N ad f) H) (hw : va_P D vwCl w H) (hne : ∀ (k : Nat) (x : Nat × va_E), w[k]? = some x → ∀ i, i < N → ad i ≠ x.1) {H1 : Heap} (hk : ∀ q : Nat, q < H.size → ¬ va_A (FW N ad f) H.size q → H1[q]? = H[q]?) : va_P D vwCl w H1 := by
  refine hw.kept (fun k x hx => hk _ (hw k x hx).lt (fun h => ?_))
  rcases FW_A.mp h with ⟨i, hi, e⟩ | h
  · exact hne k x hx i hi e
  · exact absurd h (Nat.not_le.mpr (hw k x hx).lt)
theorem g_cvik {S : Type} {post : Int32 → S → Prop} {g : S → Nat → va_E} (F : CallFix p m c cc nL s args Ts own) (hM : gMi l y ws rm D tys N ad f (.ref b :: As) post g) (cw : CallW R s args own C index y bytes maxL ret ws rm 0 0 n) (hK : va_K D vwCl tys s) (hP : va_P D vwCl (FW N ad f) H) (hD : ∀ g, va_D A (FW N ad g)) (hS : va_S A H0 H locs) (hA : ∀ q : Nat, H0.size ≤ q → A q) (hw : va_P D vwCl w H) (hne : ∀ (k : Nat) (x : Nat × va_E), w[k]? = some x → ∀ i, i < N → ad i ≠ x.1) (q0 : Nat) {ci : Nat} {fs : List Value} {qc : vw_C} (hc : vwCl[ci]? = some qc) (hC : C = qc.1) (he : (FW N ad f)[q0]? = some (b, .inr (ci, fs))) (hsize : ls.size = nL) (hdg : decode cc pc = .ok (.invokevirtual index, 3)) (hn : As.length = n) (hst : st0 = As.reverse ++ .ref b :: rest) (hrm : (rest.map fun v => v.category).sum ≤ 8) (hf : cells ≤ R.cells ∧ slots ≤ R.slots)
    (kk : ∀ (r : Int32) (u : S) (H1 : Heap) (locs1 : List Loc), post r u → va_P D vwCl (FW N ad (g u)) H1 → va_P D vwCl w H1 → va_S A H0 H1 locs1 → W p l e R s m args below meth c H1 locs1 cells slots Q (F0 m (pc + 3) ls (.int r :: rest))) : W p l e R s m args below meth c H locs cells slots Q (F0 m pc ls st0) := by
  have hfr := g_free (f := f) hD hS hA
  subst hC
  refine va_calli (va_runV (As := As) (rest := rest) F (hM H.size) cw ⟨gPc_blind, va_recv hK hP hc he, fun U hU hW => ⟨rfl, by rw [hU], by rw [hU]; exact hP, va_K.moved hW.alike hK, (hD f).weaken (fun _ _ _ _ => trivial)⟩⟩ rfl hn hsize hst (lv_room hrm) hdg hf) hS (fun q _ h => hfr q h) hfr (fun r u t H1 locs1 ht hvm hq hB hz1 hk1 hS => ?_)
  rw [ht] at hB
  exact kk r u H1 locs1 hq hB (w_kept hP hw hne hk1) hS
theorem g_cvvk {S : Type} {post : S → Prop} {g : S → Nat → va_E} (F : CallFix p m c cc nL s args Ts own) (hM : gMv l y ws rm D tys N ad f (.ref b :: As) post g) (cw : CallW R s args own C index y bytes maxL ret ws rm 0 0 n) (hK : va_K D vwCl tys s) (hP : va_P D vwCl (FW N ad f) H) (hD : ∀ g, va_D A (FW N ad g)) (hS : va_S A H0 H locs) (hA : ∀ q : Nat, H0.size ≤ q → A q) (hw : va_P D vwCl w H) (hne : ∀ (k : Nat) (x : Nat × va_E), w[k]? = some x → ∀ i, i < N → ad i ≠ x.1) (q0 : Nat) {ci : Nat} {fs : List Value} {qc : vw_C} (hc : vwCl[ci]? = some qc) (hC : C = qc.1) (he : (FW N ad f)[q0]? = some (b, .inr (ci, fs))) (hsize : ls.size = nL) (hdg : decode cc pc = .ok (.invokevirtual index, 3)) (hn : As.length = n) (hst : st0 = As.reverse ++ .ref b :: rest) (hrm : (rest.map fun v => v.category).sum ≤ 8) (hf : cells ≤ R.cells ∧ slots ≤ R.slots)
    (kk : ∀ (u : S) (H1 : Heap) (locs1 : List Loc), post u → va_P D vwCl (FW N ad (g u)) H1 → va_P D vwCl w H1 → va_S A H0 H1 locs1 → W p l e R s m args below meth c H1 locs1 cells slots Q (F0 m (pc + 3) ls rest)) : W p l e R s m args below meth c H locs cells slots Q (F0 m pc ls st0) := by
  have hfr := g_free (f := f) hD hS hA
  subst hC
  refine va_callv (va_runV (As := As) (rest := rest) F (hM H.size) cw ⟨gPc_blind, va_recv hK hP hc he, fun U hU hW => ⟨rfl, by rw [hU], by rw [hU]; exact hP, va_K.moved hW.alike hK, (hD f).weaken (fun _ _ _ _ => trivial)⟩⟩ rfl hn hsize hst (lv_room hrm) hdg hf) hS (fun q _ h => hfr q h) hfr (fun u t H1 locs1 ht hvm hq hB hz1 hk1 hS => ?_)
  rw [ht] at hB
  exact kk u H1 locs1 hq hB (w_kept hP hw hne hk1) hS
/-- a helper of the law -/
theorem g_hlp {cs : Nat → ClassId} {post : Int32 → Int64 → Prop} {g : Nat → va_E} {qo : Nat} {v : Int64} {hh : List (Nat × Nat × Nat × Nat)} (F : CallFix p m c cc nL s args Ts own) (hM : gHx l y ws rm D tys N ad f (oW cs qo v) (oW cs qo) As post g) (cw : vx_CSW R s args own index y bytes maxL ret hh ws rm 1 6 n) (hK : va_K D vwCl tys s) (hC : va_P D vwCl (FW N ad f) H) (hR : va_P D vwCl (FW 22 ad2 f2) H) (hO : va_P D vwCl [oW cs qo v] H) (hLD : LD A N ad ad2 qo) (hS : va_S A s.heap H locs) (hA : ∀ q : Nat, s.heap.size ≤ q → A q) (hXW : XW A s) (hsize : ls.size = nL) (hdg : decode cc pc = .ok (.invokestatic index, 3)) (hn : As.length = n) (hst : st0 = As.reverse ++ rest) (hrm : (rest.map fun v => v.category).sum ≤ 8) (hf : cells + 1 ≤ R.cells ∧ slots + 6 ≤ R.slots)
    (kk : ∀ (r : Int32) (u : Int64) (H1 : Heap) (locs1 : List Loc), post r u → va_P D vwCl (FW N ad g) H1 → va_P D vwCl (FW 22 ad2 f2) H1 → va_P D vwCl [oW cs qo u] H1 → va_S A s.heap H1 locs1 → W p l e R s m args below meth c H1 locs1 (cells + 1) (slots + 6) Q (F0 m (pc + 3) ls (.int r :: rest))) : W p l e R s m args below meth c H locs cells slots Q (F0 m pc ls st0) := by
  obtain ⟨d1, d2, d3, d4, d5, d6⟩ := hLD
  have hP := cons_P hO hC
  have hD : va_D A (oW cs qo v :: FW N ad f) := cons_D (d1 f) d3 d4
  have hfr : ∀ q, va_A (oW cs qo v :: FW N ad f) H.size q → A q := fun q h => by
    rcases h with ⟨k, e2, h⟩ | h
    · exact hD.2 k _ h
    · exact hA q (Nat.le_trans hS.1 h)
  refine vx_calli (vx_runSX (As := As) (rest := rest) F (hM H.size) cw ⟨gPch_blind, fun U hU hW => ⟨rfl, by rw [hU], by rw [hU]; exact hP, va_K.moved hW.alike hK, hD.weaken (fun _ _ _ _ => trivial), XW_to hXW hW (fun a h1 h2 => by rw [hU]; exact hS.2.1 a h1 h2) hfr⟩⟩ rfl hn hsize hst (lv_room hrm) hdg hf) hS (fun q _ h => hfr q h) hfr (fun q _ h => hfr q h) (fun E ce q9 u t H1 locs1 ht hvm hu hB hz hk hS h9 hv hcl => hu.elim) (fun r u t H1 locs1 ht hvm hw hB hz1 hk1 hS => ?_)
  rw [ht] at hB
  refine kk r u H1 locs1 hw (P_tail hB) (hR.kept (fun k x hx => hk1 _ (hR k x hx).lt (fun h => ?_))) (P_head hB) hS
  obtain ⟨hj, rfl⟩ := FW_inv hx
  rcases h with ⟨k2, e2, h⟩ | h
  · rcases k2 with _ | k2
    · have h3 : oW cs qo v = (ad2 k, e2) := Option.some.inj h
      exact d5 k hj (congrArg Prod.fst h3).symm
    · rw [List.getElem?_cons_succ] at h
      obtain ⟨h1, h3⟩ := FW_inv h
      exact d6 k2 h1 k hj (congrArg Prod.fst h3).symm
  · exact absurd h (Nat.not_le.mpr (hR k _ hx).lt)
end LS
/-- the worlds that a call of the reference, of the class leaves -/
theorem ne_ref {A : Nat → Prop} {N : Nat} {ad ad2 : Nat → Nat} {qo : Nat} {cs : Nat → ClassId} {v : Int64} {f : Nat → va_E} (h : LD A N ad ad2 qo) : ∀ (k : Nat) (x : Nat × va_E), (oW cs qo v :: FW N ad f)[k]? = some x → ∀ i, i < 22 → ad2 i ≠ x.1 := fun k x hk i hi => by
  obtain ⟨d1, d2, d3, d4, d5, d6⟩ := h
  rcases k with _ | k
  · cases hk; exact d5 i hi
  · rw [List.getElem?_cons_succ] at hk
    obtain ⟨h1, rfl⟩ := FW_inv hk
    exact fun e => d6 k h1 i hi e.symm
theorem ne_cls {A : Nat → Prop} {N : Nat} {ad ad2 : Nat → Nat} {qo : Nat} {cs : Nat → ClassId} {v : Int64} {f : Nat → va_E} (h : LD A N ad ad2 qo) : ∀ (k : Nat) (x : Nat × va_E), (oW cs qo v :: FW 22 ad2 f)[k]? = some x → ∀ i, i < N → ad i ≠ x.1 := fun k x hk i hi => by
  obtain ⟨d1, d2, d3, d4, d5, d6⟩ := h
  rcases k with _ | k
  · cases hk; exact d4 i hi
  · rw [List.getElem?_cons_succ] at hk
    obtain ⟨h1, rfl⟩ := FW_inv hk
    exact fun e => d6 i hi k h1 e
/-! cell(script, k) -/
abbrev rmL_cell : Room := ({ frames := 0, cells := 0, slots := 0, locals := 0 } : Room)
abbrev cPc (b L : Nat) (xs : Nat → Int32) (sz : Nat) (av : List Value) : Array Value → State → Prop := va_Pc av (fun U => U.heap.size = sz ∧ va_X b L xs U U.heap ∧ b < U.heap.size)
theorem cPc_blind {b L : Nat} {xs : Nat → Int32} {sz : Nat} {av : List Value} : FrameBlind (cPc b L xs sz av) := fun a U g mk q => by
  obtain ⟨q0, q1, qX, qb⟩ := q
  exact ⟨q0, q1, va_X.moved (u := U) (U := U.calling g mk a) (Vm.Alike.refl U.vm) qX, qb⟩
def cel (L : Nat) (xs : Nat → Int32) (k : Nat) : Int32 := if k < L then xs k else 0
set_option maxRecDepth 100000 in
theorem kL_cell (l : Launch) (b L : Nat) (xs : Nat → Int32) (hL : L ≤ 2563) (k : Nat) (hk : k < 3) : ∀ sz : Nat, Met l yL_cell wsL_cell rmL_cell (cPc b L xs sz [.ref b, .int (nI k)]) (va_Qi (fun (r : Int32) (_ : Unit) => r = cel L xs k) (fun _ _ => True) (fun q => sz ≤ q)) 0 0 (fun q => sz ≤ q) := by
  intro sz
  refine Met.ofW (cc := cL_cell) (maxL := 2) (ret := some .int) (by decide) rfl ?_
  intro p e s m args below meth c s₁ B hml hv
  obtain ⟨rfl, hsz, hX, hbl⟩ := hv
  have hown : s.vm.findClass RL = some m.cls := findClass_of_methodNamed B.named
  subst hsz
  have hl := lv_entry [.ref b, .int (nI k)] (n := 2) (Nat.le_of_ble_eq_true rfl)
  have hx := B.exec
  have hb := B.bytes
  have hr := B.returns
  have hlocks := B.notSynchronized
  have hbA : ¬ (fun q : Nat => s.heap.size ≤ q) b := Nat.not_le.mpr hbl
  have hS : va_S (fun q : Nat => s.heap.size ≤ q) s.heap s.heap [] := va_S.rf
  rw [lg_entry_eq]
  generalize (lg_sl ([.ref b, .int (nI k)] : List Value) ++ List.replicate (2 - (lg_sl ([.ref b, .int (nI k)] : List Value)).length) Slot.unset).toArray = ls at hl ⊢
  have hl : lv_has ls 2 [(0, .ref b), (1, .int (nI k))] := hl
  refine lv_iload_n hx hb dL_cell_0 rfl (lv_at hl 1 rfl) ?_
  refine lv_aload_n hx hb dL_cell_1 rfl (lv_at hl 0 rfl) ?_
  refine va_slen hx hb hX hbl hbA hS dL_cell_2 ?_
  refine lv_icmp_ge (tgt := 12) hx hb dL_cell_3 (by decide) (fun c1 => ?_) (fun c1 => ?_)
  · have hkL : ¬ k < L := fun q => absurd c1 (nI_ge q (by omega))
    refine lv_iconst (v := 0) hx hb dL_cell_12 (by decide) ?_
    exact W.iret (v := 0) hx hb hr (fun t ht hW => ⟨⟨0, (), rfl, (if_neg hkL).symm, trivial⟩, by rw [ht]; exact Nat.le_refl _, fun q _ _ => by rw [ht]⟩) (fun q h => nomatch h) dL_cell_13 hlocks
  · have hkL : k < L := by
      rcases Nat.lt_or_ge k L with q | q
      · exact q
      · exact absurd (nI_le q (by omega)) c1
    refine lv_aload_n hx hb dL_cell_6 rfl (lv_at hl 0 rfl) ?_
    refine lv_iload_n hx hb dL_cell_7 rfl (lv_at hl 1 rfl) ?_
    refine va_sld hx hb hX hbl hbA hS (vp_in_nI hkL (by omega)) dL_cell_8 ?_
    rw [nI_clamp (show k < 2 ^ 31 by omega)]
    refine lv_goto (tgt := 13) hx hb dL_cell_9 (by decide) ?_
    exact W.iret (v := xs k) hx hb hr (fun t ht hW => ⟨⟨xs k, (), rfl, (if_pos hkL).symm, trivial⟩, by rw [ht]; exact Nat.le_refl _, fun q _ _ => by rw [ht]⟩) (fun q h => nomatch h) dL_cell_13 hlocks
section LC
variable {p : Program} {l : Launch} {e : Env} {R : Room} {s : State} {m : MethodId} {args : Array Value} {below : List Frame} {meth : Method} {c : Code} {H : Heap} {locs : List Loc} {cells slots : Nat} {Q : State → Prop} {A : Nat → Prop} {D : va_G} {cc : ByteArray} {pc : Nat} {ls : Array Slot} {rest : List Value} {w : va_W} {Ts : List Cond} {own : String} {nL index : Nat} {b L : Nat} {xs : Nat → Int32}
theorem g_cell (F : CallFix p m c cc nL s args Ts own) (hL : L ≤ 2563) (k : Nat) (hk : k < 3) (cw : CallB R s args own index yL_cell cL_cell 2 (some .int) wsL_cell rmL_cell 0 0 2 ∧ (Cond.static yL_cell).before args s = true) (hX : va_X b L xs s s.heap) (hbl : b < s.heap.size) (hbA : ¬ A b) (hP : va_P D vwCl w H) (hS : va_S A s.heap H locs) (hA : ∀ q : Nat, s.heap.size ≤ q → A q) {x : Int32} (hx0 : x = nI k) (hsize : ls.size = nL) (hdg : decode cc pc = .ok (.invokestatic index, 3)) (hrm : (rest.map fun v => v.category).sum ≤ 8) (hf : cells ≤ R.cells ∧ slots ≤ R.slots)
    (kk : ∀ (H1 : Heap) (locs1 : List Loc), va_P D vwCl w H1 → va_S A s.heap H1 locs1 → W p l e R s m args below meth c H1 locs1 cells slots Q (F0 m (pc + 3) ls (.int (cel L xs k) :: rest))) : W p l e R s m args below meth c H locs cells slots Q (F0 m pc ls (.int x :: .ref b :: rest)) := by
  subst hx0
  refine va_calli (va_runS (As := [.ref b, .int (nI k)]) (rest := rest) F (kL_cell l b L xs hL k hk H.size) cw ⟨cPc_blind, fun U hU hW => ⟨rfl, by rw [hU], by rw [hU]; exact va_X.moved hW.alike (hX.kept (hS.2.1 b hbl hbA)), by rw [hU]; exact Nat.lt_of_lt_of_le hbl hS.1⟩⟩ rfl rfl hsize rfl (lv_room hrm) hdg hf) hS (fun q h1 h2 => absurd h2 (Nat.not_le.mpr h1)) (fun q h => hA q (Nat.le_trans hS.1 h)) (fun r u t H1 locs1 ht hvm hw hB hz hk hS => ?_)
  obtain rfl : r = cel L xs k := hw
  exact kk H1 locs1 (hP.kept (fun k x hx => hk _ (hP k x hx).lt (Nat.not_le.mpr (hP k x hx).lt))) hS
end LC
