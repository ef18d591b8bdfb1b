/-! the law: a case of its switch each -/
abbrev lawLv (b : Nat) (ad ad2 : Nat → Nat) (qo i : Nat) : List (Nat × Value) := [(0, .ref b), (1, .ref (ad 0)), (2, .ref (ad2 0)), (3, .ref qo), (4, .int (nI i))]
/-- the law from its loop's head, q calls done -/
def lawAt (p : Program) (l : Launch) (e : Env) (s : State) (m : MethodId) (args : Array Value) (below : List Frame) (meth : Method) (c : Code) (Q : State → Prop) (D : va_G) (cs : Nat → ClassId) (n : Nat) (ad ad2 : Nat → Nat) (qo b i q : Nat) : Prop :=
  ∀ (σ : St) (th nx : Int32) (v : Int64) (H : Heap) (locs : List Loc) (ls : Array Slot), Inv σ (2000 * q) → va_P D vwCl (FW (5 * (n + 2)) ad (CC cs n ad σ)) H → va_P D vwCl (FW 22 ad2 (CR cs n ad2 th nx σ)) H → va_P D vwCl [oW cs qo v] H → va_S (lA s) s.heap H locs → lv_has ls 7 (lawLv b ad ad2 qo i) → W p l e room_1 s m args below meth c H locs (53 + q) (2373 + 6 * q) Q (F0 m 53 ls [])
theorem inv_instruction {σ : St} {G n : Nat} {o a b d : Int32} (hI : Inv σ G) (hn0 : 0 < n) (hn4 : n ≤ 4) (hG : G + 2000 < 2 ^ 30) : Inv (if t2 ((0 ≤ o ∧ o < 14) ∧ ((o ≤ 8 ∨ o = 12) → (0 ≤ a ∧ a < 8)) ∧ ((1 ≤ o ∧ o ≤ 8) → (0 ≤ b ∧ b < 8)) ∧ ((1 ≤ o ∧ o ≤ 3) → (0 ≤ d ∧ d < 8))) (¬ σ.1 5 0 0 = 80) = 0 then pApp σ o a b d else σ) (G + 2000) := by
  by_cases hT : t2 ((0 ≤ o ∧ o < 14) ∧ ((o ≤ 8 ∨ o = 12) → (0 ≤ a ∧ a < 8)) ∧ ((1 ≤ o ∧ o ≤ 8) → (0 ≤ b ∧ b < 8)) ∧ ((1 ≤ o ∧ o ≤ 3) → (0 ≤ d ∧ d < 8))) (¬ σ.1 5 0 0 = 80) = 0
  · rw [if_pos hT]
    exact Inv_mono (Inv_app hI (t2_z hT).1 (t2_z hT).2) (by omega) hG
  · rw [if_neg hT]
    exact Inv_mono hI (by omega) hG
theorem inv_start {σ : St} {G n : Nat} {x y : Int32} (hI : Inv σ G) (hn0 : 0 < n) (hn4 : n ≤ 4) (hG : G + 2000 < 2 ^ 30) : Inv (if t2 (0 ≤ x ∧ x < nI n) (0 ≤ y ∧ y ≤ 80) = 0 then pStart σ (iN x) y else σ) (G + 2000) := by
  by_cases hT : t2 (0 ≤ x ∧ x < nI n) (0 ≤ y ∧ y ≤ 80) = 0
  · rw [if_pos hT]
    exact Inv_mono (Inv_pstart hI (Nat.lt_of_lt_of_le (iN_lt (by omega) (t2_z hT).1) hn4)) (by omega) hG
  · rw [if_neg hT]
    exact Inv_mono hI (by omega) hG
theorem inv_set {σ : St} {G n : Nat} {x y v : Int32} (hI : Inv σ G) (hn0 : 0 < n) (hn4 : n ≤ 4) (hG : G + 2000 < 2 ^ 30) : Inv (if t1 ((0 ≤ x ∧ x < nI n) ∧ (0 ≤ y ∧ y < 8)) = 0 then pGive σ (iN x) (iN y) v else σ) (G + 2000) := by
  by_cases hT : t1 ((0 ≤ x ∧ x < nI n) ∧ (0 ≤ y ∧ y < 8)) = 0
  · rw [if_pos hT]
    exact Inv_mono (Inv_give hI (Nat.lt_of_lt_of_le (iN_lt (by omega) (t1_z hT).1) hn4)) (by omega) hG
  · rw [if_neg hT]
    exact Inv_mono hI (by omega) hG
theorem inv_poke {σ : St} {G n : Nat} {x v : Int32} (hI : Inv σ G) (hn0 : 0 < n) (hn4 : n ≤ 4) (hG : G + 2000 < 2 ^ 30) : Inv (if t1 (0 ≤ x ∧ x < 64) = 0 then pPoke σ n (iN x) v else σ) (G + 2000) := by
  by_cases hT : t1 (0 ≤ x ∧ x < 64) = 0
  · rw [if_pos hT]
    exact Inv_mono (Inv_poke hI hn4) (by omega) hG
  · rw [if_neg hT]
    exact Inv_mono hI (by omega) hG
theorem inv_pick {σ : St} {G n : Nat} {x y : Int32} (hI : Inv σ G) (hn0 : 0 < n) (hn4 : n ≤ 4) (hG : G + 2000 < 2 ^ 30) : Inv (if t2 (0 ≤ x ∧ x < nI n) (0 ≤ y ∧ y ≤ 2000) = 0 then (pPick n (iN x) (iN y) 0 σ).1 else σ) (G + 2000) := by
  by_cases hT : t2 (0 ≤ x ∧ x < nI n) (0 ≤ y ∧ y ≤ 2000) = 0
  · rw [if_pos hT]
    exact Inv_mono (Inv_pick (Nat.lt_of_lt_of_le (iN_lt (by omega) (t2_z hT).1) hn4) hn4 (iN y) 0 σ G hI (by have := iN_le (N := 2000) (by decide) (t2_z hT).2; omega)) (by have := iN_le (N := 2000) (by decide) (t2_z hT).2; omega) hG
  · rw [if_neg hT]
    exact Inv_mono hI (by omega) hG
theorem inv_run {σ : St} {G n : Nat} {x y : Int32} (hI : Inv σ G) (hn0 : 0 < n) (hn4 : n ≤ 4) (hG : G + 2000 < 2 ^ 30) : Inv (if t1 (0 ≤ y ∧ y ≤ 2000) = 0 then (pRun n (iN y) x 0 σ).1 else σ) (G + 2000) := by
  by_cases hT : t1 (0 ≤ y ∧ y ≤ 2000) = 0
  · rw [if_pos hT]
    exact Inv_mono (Inv_run hn0 hn4 (iN y) x 0 σ G hI (by have := iN_le (N := 2000) (by decide) (t1_z hT); omega)) (by have := iN_le (N := 2000) (by decide) (t1_z hT); omega) hG
  · rw [if_neg hT]
    exact Inv_mono hI (by omega) hG
theorem inv_register {σ : St} {G n : Nat} {x y : Int32} (hI : Inv σ G) (hn0 : 0 < n) (hn4 : n ≤ 4) (hG : G + 2000 < 2 ^ 30) : Inv (if t1 ((0 ≤ x ∧ x < nI n) ∧ (0 ≤ y ∧ y < 8)) = 0 then σ else σ) (G + 2000) := by
  rw [ite_self]
  exact Inv_mono hI (by omega) hG
theorem inv_word {σ : St} {G n : Nat} {x : Int32} (hI : Inv σ G) (hn0 : 0 < n) (hn4 : n ≤ 4) (hG : G + 2000 < 2 ^ 30) : Inv (if t1 (0 ≤ x ∧ x < 64) = 0 then σ else σ) (G + 2000) := by
  rw [ite_self]
  exact Inv_mono hI (by omega) hG
theorem inv_seen {σ : St} {G n : Nat} {x y : Int32} (hI : Inv σ G) (hn0 : 0 < n) (hn4 : n ≤ 4) (hG : G + 2000 < 2 ^ 30) : Inv (if t1 ((0 ≤ x ∧ x < nI n) ∧ (0 ≤ y ∧ y < 64)) = 0 then σ else σ) (G + 2000) := by
  rw [ite_self]
  exact Inv_mono hI (by omega) hG
theorem inv_told {σ : St} {G n : Nat} {x y : Int32} (hI : Inv σ G) (hn0 : 0 < n) (hn4 : n ≤ 4) (hG : G + 2000 < 2 ^ 30) : Inv (if t2 (0 ≤ x ∧ x < nI n) (0 ≤ y ∧ y < 10) = 0 then σ else σ) (G + 2000) := by
  rw [ite_self]
  exact Inv_mono hI (by omega) hG
theorem inv_record {σ : St} {G n : Nat} {x y : Int32} (hI : Inv σ G) (hn0 : 0 < n) (hn4 : n ≤ 4) (hG : G + 2000 < 2 ^ 30) : Inv (if t2 (0 ≤ x ∧ x < σ.1 7 0 0) (0 ≤ y ∧ y < 4) = 0 then σ else σ) (G + 2000) := by
  rw [ite_self]
  exact Inv_mono hI (by omega) hG
set_option maxRecDepth 100000 in
set_option maxHeartbeats 4000000 in
theorem law_instruction {p : Program} {e : Env} {s : State} {m : MethodId} {args : Array Value} {below : List Frame} {meth : Method} {c : Code} {Q : State → Prop} (l : Launch) (hl0 : l.stackTraces = false) {D : va_G} {cs : Nat → ClassId} {n : Nat} {ad ad2 : Nat → Nat} {qo b L i q : Nat} {xs : Nat → Int32} (hn0 : 0 < n) (hn4 : n ≤ 4) (hx : p.tables.exec = Jvm.exec) (hb : c.code = cL_law) (hml : c.maxLocals = 7) (hown : s.vm.findClass RL = some m.cls) (hts : ∀ w ∈ wsL_law, w.before args s = true) (hK : va_K D vwCl (tyL cs) s) (hXW : XW (lA s) s) (hX : va_X b L xs s s.heap) (hbl : b < s.heap.size) (hLD : LD (lA s) (5 * (n + 2)) ad ad2 qo) (hL : L ≤ 2563) (hi5 : i + 5 ≤ L) (hq : q < 512)
    (next : lawAt p l e s m args below meth c Q D cs n ad ad2 qo b (i + 5) (q + 1)) {σ : St} {th nx : Int32} {v : Int64} {H : Heap} {locs : List Loc} {ls : Array Slot} (hI : Inv σ (2000 * q)) (hC : va_P D vwCl (FW (5 * (n + 2)) ad (CC cs n ad σ)) H) (hR : va_P D vwCl (FW 22 ad2 (CR cs n ad2 th nx σ)) H) (hO : va_P D vwCl [oW cs qo v] H) (hS : va_S (lA s) s.heap H locs) (hl : lv_has ls 7 (lawLv b ad ad2 qo i)) : W p l e room_1 s m args below meth c H locs (53 + q) (2373 + 6 * q) Q (F0 m 136 ls []) := by
  have hA : ∀ q : Nat, s.heap.size ≤ q → lA s q := fun _ h => h
  have hbA : ¬ lA s b := Nat.not_le.mpr hbl
  have hi31 : i + 5 < 2 ^ 31 := by omega
  refine lv_aload_n hx hb dL_law_136 rfl (lv_at hl 1 rfl) ?_
  refine lv_aload_n hx hb dL_law_137 rfl (lv_at hl 0 rfl) ?_
  refine lv_iload hx hb dL_law_138 (lv_at hl 4 rfl) ?_
  refine lv_iconst (v := 1) hx hb dL_law_140 (by decide) ?_
  refine lv_iadd hx hb dL_law_141 ?_
  refine g_top (y := nI (i + 1)) (nI_add i 1) ?_
  refine va_sld hx hb hX hbl hbA hS (vp_in_nI (show i + 1 < L by omega) (by omega)) dL_law_142 ?_
  rw [nI_clamp (show i + 1 < 2 ^ 31 by omega)]
  refine lv_aload_n hx hb dL_law_143 rfl (lv_at hl 0 rfl) ?_
  refine lv_iload hx hb dL_law_144 (lv_at hl 4 rfl) ?_
  refine lv_iconst (v := 2) hx hb dL_law_146 (by decide) ?_
  refine lv_iadd hx hb dL_law_147 ?_
  refine g_top (y := nI (i + 2)) (nI_add i 2) ?_
  refine va_sld hx hb hX hbl hbA hS (vp_in_nI (show i + 2 < L by omega) (by omega)) dL_law_148 ?_
  rw [nI_clamp (show i + 2 < 2 ^ 31 by omega)]
  refine lv_aload_n hx hb dL_law_149 rfl (lv_at hl 0 rfl) ?_
  refine lv_iload hx hb dL_law_150 (lv_at hl 4 rfl) ?_
  refine lv_iconst (v := 3) hx hb dL_law_152 (by decide) ?_
  refine lv_iadd hx hb dL_law_153 ?_
  refine g_top (y := nI (i + 3)) (nI_add i 3) ?_
  refine va_sld hx hb hX hbl hbA hS (vp_in_nI (show i + 3 < L by omega) (by omega)) dL_law_154 ?_
  rw [nI_clamp (show i + 3 < 2 ^ 31 by omega)]
  refine lv_aload_n hx hb dL_law_155 rfl (lv_at hl 0 rfl) ?_
  refine lv_iload hx hb dL_law_156 (lv_at hl 4 rfl) ?_
  refine lv_iconst (v := 4) hx hb dL_law_158 (by decide) ?_
  refine lv_iadd hx hb dL_law_159 ?_
  refine g_top (y := nI (i + 4)) (nI_add i 4) ?_
  refine va_sld hx hb hX hbl hbA hS (vp_in_nI (show i + 4 < L by omega) (by omega)) dL_law_160 ?_
  rw [nI_clamp (show i + 4 < 2 ^ 31 by omega)]
  refine lv_aload_n hx hb dL_law_161 rfl (lv_at hl 3 rfl) ?_
  obtain ⟨o9, ho9⟩ : ∃ z, z = xs (i + 1) := ⟨_, rfl⟩
  obtain ⟨a9, ha9⟩ : ∃ z, z = xs (i + 2) := ⟨_, rfl⟩
  obtain ⟨b9, hb9⟩ : ∃ z, z = xs (i + 3) := ⟨_, rfl⟩
  obtain ⟨d9, hd9⟩ : ∃ z, z = xs (i + 4) := ⟨_, rfl⟩
  rw [← ho9]
  rw [← ha9]
  rw [← hb9]
  rw [← hd9]
  refine g_hlp (As := [.ref (ad 0), .int o9, .int a9, .int b9, .int d9, .ref qo]) (rest := []) ⟨hx, hb, hml, hown, hts⟩ (kL_instruction l hl0 D cs n ad σ qo v hn4 o9 a9 b9 d9 (2000 * q) hI) (vx_cwSW 6 hts gL_law_L_instruction rfl rfl rfl (by decide +kernel) ⟨Nat.le_of_ble_eq_true rfl, Nat.le_of_ble_eq_true rfl⟩) hK hC hR hO hLD hS hA hXW hl.1 dL_law_162 rfl rfl (Nat.le_of_ble_eq_true rfl) ⟨by show 53 + q + 1 ≤ 601024; omega, by show 2373 + 6 * q + 6 ≤ 7293000; omega⟩ (fun r u H locs hw hC hR hO hS => ?_)
  obtain ⟨hr, hu⟩ := hw
  refine lv_istore (lv' := [(5, .int r), (0, .ref b), (1, .ref (ad 0)), (2, .ref (ad2 0)), (3, .ref qo), (4, .int (nI i))]) hx hb dL_law_165 hl (by decide) rfl (fun ls hl => ?_)
  refine lv_aload_n hx hb dL_law_167 rfl (lv_at hl 3 rfl) ?_
  refine lv_aload_n hx hb dL_law_168 rfl (lv_at hl 1 rfl) ?_
  refine lv_iload hx hb dL_law_169 (lv_at hl 5 rfl) ?_
  refine lv_iconst (v := 1) hx hb dL_law_171 (by decide) ?_
  refine lv_iadd hx hb dL_law_172 ?_
  refine g_top (y := nI (i + 1)) (nI_add i 1) ?_
  refine va_sld hx hb hX hbl hbA hS (vp_in_nI (show i + 1 < L by omega) (by omega)) dL_law_173 ?_
  rw [nI_clamp (show i + 1 < 2 ^ 31 by omega)]
  refine lv_aload_n hx hb dL_law_174 rfl (lv_at hl 1 rfl) ?_
  refine lv_iload hx hb dL_law_175 (lv_at hl 5 rfl) ?_
  refine lv_iconst (v := 2) hx hb dL_law_177 (by decide) ?_
  refine lv_iadd hx hb dL_law_178 ?_
  refine g_top (y := nI (i + 2)) (nI_add i 2) ?_
  refine va_sld hx hb hX hbl hbA hS (vp_in_nI (show i + 2 < L by omega) (by omega)) dL_law_179 ?_
  rw [nI_clamp (show i + 2 < 2 ^ 31 by omega)]
  refine lv_aload_n hx hb dL_law_180 rfl (lv_at hl 1 rfl) ?_
  refine lv_iload hx hb dL_law_181 (lv_at hl 5 rfl) ?_
  refine lv_iconst (v := 3) hx hb dL_law_183 (by decide) ?_
  refine lv_iadd hx hb dL_law_184 ?_
  refine g_top (y := nI (i + 3)) (nI_add i 3) ?_
  refine va_sld hx hb hX hbl hbA hS (vp_in_nI (show i + 3 < L by omega) (by omega)) dL_law_185 ?_
  rw [nI_clamp (show i + 3 < 2 ^ 31 by omega)]
  refine lv_aload_n hx hb dL_law_186 rfl (lv_at hl 1 rfl) ?_
  refine lv_iload hx hb dL_law_187 (lv_at hl 5 rfl) ?_
  refine lv_iconst (v := 4) hx hb dL_law_189 (by decide) ?_
  refine lv_iadd hx hb dL_law_190 ?_
  refine g_top (y := nI (i + 4)) (nI_add i 4) ?_
  refine va_sld hx hb hX hbl hbA hS (vp_in_nI (show i + 4 < L by omega) (by omega)) dL_law_191 ?_
  rw [nI_clamp (show i + 4 < 2 ^ 31 by omega)]
  rw [← ho9]
  rw [← ha9]
  rw [← hb9]
  rw [← hd9]
  refine g_cvik (As := [.int o9, .int a9, .int b9, .int d9]) (rest := []) ⟨hx, hb, hml, hown, hts⟩ (kX5_instruction l D cs n ad2 th nx σ hn4 o9 a9 b9 d9 (2000 * q) hI) (cwV 4 hts gL_law_X5_instruction rfl rfl rfl (by decide +kernel) ⟨Nat.le_of_ble_eq_true rfl, Nat.le_of_ble_eq_true rfl⟩) hK hR hLD.2.1 hS hA (cons_P hO hC) (ne_ref hLD) 0 (ci := 5) rfl rfl cr_obj hl.1 dL_law_192 rfl rfl (Nat.le_of_ble_eq_true rfl) ⟨by show 53 + q + 1 ≤ 601024; omega, by show 2373 + 6 * q + 6 ≤ 7293000; omega⟩ (fun r2 nx2 H locs hw2 hR hOC hS => ?_)
  have hO := P_head hOC
  have hC := P_tail hOC
  refine lv_istore (lv' := [(6, .int r2), (5, .int r), (0, .ref b), (1, .ref (ad 0)), (2, .ref (ad2 0)), (3, .ref qo), (4, .int (nI i))]) hx hb dL_law_195 hl (by decide) rfl (fun ls hl => ?_)
  refine lv_aload_n hx hb dL_law_197 rfl (lv_at hl 4 rfl) ?_
  refine g_cvik (As := []) (rest := []) ⟨hx, hb, hml, hown, hts⟩ (kX5_thrown l D cs n ad2 (t2 ((0 ≤ o9 ∧ o9 < 14) ∧ ((o9 ≤ 8 ∨ o9 = 12) → (0 ≤ a9 ∧ a9 < 8)) ∧ ((1 ≤ o9 ∧ o9 ≤ 8) → (0 ≤ b9 ∧ b9 < 8)) ∧ ((1 ≤ o9 ∧ o9 ≤ 3) → (0 ≤ d9 ∧ d9 < 8))) (¬ σ.1 5 0 0 = 80)) nx2 (if t2 ((0 ≤ o9 ∧ o9 < 14) ∧ ((o9 ≤ 8 ∨ o9 = 12) → (0 ≤ a9 ∧ a9 < 8)) ∧ ((1 ≤ o9 ∧ o9 ≤ 8) → (0 ≤ b9 ∧ b9 < 8)) ∧ ((1 ≤ o9 ∧ o9 ≤ 3) → (0 ≤ d9 ∧ d9 < 8))) (¬ σ.1 5 0 0 = 80) = 0 then pApp σ o9 a9 b9 d9 else σ)) (cwV 0 hts gL_law_X5_thrown rfl rfl rfl (by decide +kernel) ⟨Nat.le_of_ble_eq_true rfl, Nat.le_of_ble_eq_true rfl⟩) hK hR hLD.2.1 hS hA (cons_P hO hC) (ne_ref hLD) 0 (ci := 5) rfl rfl cr_obj hl.1 dL_law_198 rfl rfl (Nat.le_of_ble_eq_true rfl) ⟨by show 53 + q + 1 ≤ 601024; omega, by show 2373 + 6 * q + 6 ≤ 7293000; omega⟩ (fun r3 _ H locs hw3 hR hOC hS => ?_)
  have hO := P_head hOC
  have hC := P_tail hOC
  refine lv_iload hx hb dL_law_201 (lv_at hl 1 rfl) ?_
  refine lv_icmp_eq (tgt := 208) hx hb dL_law_203 (by decide) (fun c1 => ?_) (fun c1 => absurd (hw3.trans hr.symm) c1)
  have hI2 : Inv (if t2 ((0 ≤ o9 ∧ o9 < 14) ∧ ((o9 ≤ 8 ∨ o9 = 12) → (0 ≤ a9 ∧ a9 < 8)) ∧ ((1 ≤ o9 ∧ o9 ≤ 8) → (0 ≤ b9 ∧ b9 < 8)) ∧ ((1 ≤ o9 ∧ o9 ≤ 3) → (0 ≤ d9 ∧ d9 < 8))) (¬ σ.1 5 0 0 = 80) = 0 then pApp σ o9 a9 b9 d9 else σ) (2000 * (q + 1)) := inv_instruction (G := 2000 * q) hI hn0 hn4 (by omega)
  refine lv_iload hx hb dL_law_208 (lv_at hl 1 rfl) ?_
  refine lv_if_ne (tgt := 225) hx hb dL_law_210 (by decide) (fun c2 => ?_) (fun c2 => ?_)
  · refine lv_goto (tgt := 932) hx hb dL_law_225 (by decide) ?_
    refine lv_iinc (v := nI (i + 5)) (lv' := [(4, .int (nI (i + 5))), (6, .int r2), (5, .int r), (0, .ref b), (1, .ref (ad 0)), (2, .ref (ad2 0)), (3, .ref qo)]) hx hb dL_law_932 hl (k := 6) rfl (nI_add i 5) (by decide) rfl (fun ls hl => ?_)
    refine lv_goto (tgt := 53) hx hb dL_law_935 (by decide) ?_
    exact next (if t2 ((0 ≤ o9 ∧ o9 < 14) ∧ ((o9 ≤ 8 ∨ o9 = 12) → (0 ≤ a9 ∧ a9 < 8)) ∧ ((1 ≤ o9 ∧ o9 ≤ 8) → (0 ≤ b9 ∧ b9 < 8)) ∧ ((1 ≤ o9 ∧ o9 ≤ 3) → (0 ≤ d9 ∧ d9 < 8))) (¬ σ.1 5 0 0 = 80) = 0 then pApp σ o9 a9 b9 d9 else σ) (t2 ((0 ≤ o9 ∧ o9 < 14) ∧ ((o9 ≤ 8 ∨ o9 = 12) → (0 ≤ a9 ∧ a9 < 8)) ∧ ((1 ≤ o9 ∧ o9 ≤ 8) → (0 ≤ b9 ∧ b9 < 8)) ∧ ((1 ≤ o9 ∧ o9 ≤ 3) → (0 ≤ d9 ∧ d9 < 8))) (¬ σ.1 5 0 0 = 80)) nx2 u _ _ _ (hI2) hC hR hO hS (lv_sub hl [3, 4, 5, 6, 0] rfl)
  · have hT : t2 ((0 ≤ o9 ∧ o9 < 14) ∧ ((o9 ≤ 8 ∨ o9 = 12) → (0 ≤ a9 ∧ a9 < 8)) ∧ ((1 ≤ o9 ∧ o9 ≤ 8) → (0 ≤ b9 ∧ b9 < 8)) ∧ ((1 ≤ o9 ∧ o9 ≤ 3) → (0 ≤ d9 ∧ d9 < 8))) (¬ σ.1 5 0 0 = 80) = 0 := hr.symm.trans c2
    refine lv_aload_n hx hb dL_law_213 rfl (lv_at hl 5 rfl) ?_
    refine lv_iconst (v := 0) hx hb dL_law_214 (by decide) ?_
    refine va_lald hx hb hK hO 0 2 rfl rfl (show vp_in (nI 0) 1 from vp_in_nI (by decide) (by decide)) dL_law_215 ?_
    refine g_topl (y := r2.toInt64) (by rw [hw2 hT, ← hu hT]; exact if_pos rfl) ?_
    refine lv_iload hx hb dL_law_216 (lv_at hl 0 rfl) ?_
    refine lv_i2l (v := r2.toInt64) hx hb dL_law_218 rfl ?_
    refine W.lcmp hx hb dL_law_219 ?_
    refine lv_if_eq (tgt := 225) hx hb dL_law_220 (by decide) (fun c3 => ?_) (fun c3 => absurd (cmp_self _) c3)
    refine lv_goto (tgt := 932) hx hb dL_law_225 (by decide) ?_
    refine lv_iinc (v := nI (i + 5)) (lv' := [(4, .int (nI (i + 5))), (6, .int r2), (5, .int r), (0, .ref b), (1, .ref (ad 0)), (2, .ref (ad2 0)), (3, .ref qo)]) hx hb dL_law_932 hl (k := 6) rfl (nI_add i 5) (by decide) rfl (fun ls hl => ?_)
    refine lv_goto (tgt := 53) hx hb dL_law_935 (by decide) ?_
    exact next (if t2 ((0 ≤ o9 ∧ o9 < 14) ∧ ((o9 ≤ 8 ∨ o9 = 12) → (0 ≤ a9 ∧ a9 < 8)) ∧ ((1 ≤ o9 ∧ o9 ≤ 8) → (0 ≤ b9 ∧ b9 < 8)) ∧ ((1 ≤ o9 ∧ o9 ≤ 3) → (0 ≤ d9 ∧ d9 < 8))) (¬ σ.1 5 0 0 = 80) = 0 then pApp σ o9 a9 b9 d9 else σ) (t2 ((0 ≤ o9 ∧ o9 < 14) ∧ ((o9 ≤ 8 ∨ o9 = 12) → (0 ≤ a9 ∧ a9 < 8)) ∧ ((1 ≤ o9 ∧ o9 ≤ 8) → (0 ≤ b9 ∧ b9 < 8)) ∧ ((1 ≤ o9 ∧ o9 ≤ 3) → (0 ≤ d9 ∧ d9 < 8))) (¬ σ.1 5 0 0 = 80)) nx2 u _ _ _ (hI2) hC hR hO hS (lv_sub hl [3, 4, 5, 6, 0] rfl)

set_option maxRecDepth 100000 in
set_option maxHeartbeats 4000000 in
theorem law_start {p : Program} {e : Env} {s : State} {m : MethodId} {args : Array Value} {below : List Frame} {meth : Method} {c : Code} {Q : State → Prop} (l : Launch) (hl0 : l.stackTraces = false) {D : va_G} {cs : Nat → ClassId} {n : Nat} {ad ad2 : Nat → Nat} {qo b L i q : Nat} {xs : Nat → Int32} (hn0 : 0 < n) (hn4 : n ≤ 4) (hx : p.tables.exec = Jvm.exec) (hb : c.code = cL_law) (hml : c.maxLocals = 7) (hown : s.vm.findClass RL = some m.cls) (hts : ∀ w ∈ wsL_law, w.before args s = true) (hK : va_K D vwCl (tyL cs) s) (hXW : XW (lA s) s) (hX : va_X b L xs s s.heap) (hbl : b < s.heap.size) (hLD : LD (lA s) (5 * (n + 2)) ad ad2 qo) (hL : L ≤ 2563) (hi5 : i + 5 ≤ L) (hq : q < 512)
    (next : lawAt p l e s m args below meth c Q D cs n ad ad2 qo b (i + 5) (q + 1)) {σ : St} {th nx : Int32} {v : Int64} {H : Heap} {locs : List Loc} {ls : Array Slot} (hI : Inv σ (2000 * q)) (hC : va_P D vwCl (FW (5 * (n + 2)) ad (CC cs n ad σ)) H) (hR : va_P D vwCl (FW 22 ad2 (CR cs n ad2 th nx σ)) H) (hO : va_P D vwCl [oW cs qo v] H) (hS : va_S (lA s) s.heap H locs) (hl : lv_has ls 7 (lawLv b ad ad2 qo i)) : W p l e room_1 s m args below meth c H locs (53 + q) (2373 + 6 * q) Q (F0 m 228 ls []) := by
  have hA : ∀ q : Nat, s.heap.size ≤ q → lA s q := fun _ h => h
  have hbA : ¬ lA s b := Nat.not_le.mpr hbl
  have hi31 : i + 5 < 2 ^ 31 := by omega
  refine lv_aload_n hx hb dL_law_228 rfl (lv_at hl 1 rfl) ?_
  refine lv_aload_n hx hb dL_law_229 rfl (lv_at hl 0 rfl) ?_
  refine lv_iload hx hb dL_law_230 (lv_at hl 4 rfl) ?_
  refine lv_iconst (v := 1) hx hb dL_law_232 (by decide) ?_
  refine lv_iadd hx hb dL_law_233 ?_
  refine g_top (y := nI (i + 1)) (nI_add i 1) ?_
  refine va_sld hx hb hX hbl hbA hS (vp_in_nI (show i + 1 < L by omega) (by omega)) dL_law_234 ?_
  rw [nI_clamp (show i + 1 < 2 ^ 31 by omega)]
  refine lv_aload_n hx hb dL_law_235 rfl (lv_at hl 0 rfl) ?_
  refine lv_iload hx hb dL_law_236 (lv_at hl 4 rfl) ?_
  refine lv_iconst (v := 2) hx hb dL_law_238 (by decide) ?_
  refine lv_iadd hx hb dL_law_239 ?_
  refine g_top (y := nI (i + 2)) (nI_add i 2) ?_
  refine va_sld hx hb hX hbl hbA hS (vp_in_nI (show i + 2 < L by omega) (by omega)) dL_law_240 ?_
  rw [nI_clamp (show i + 2 < 2 ^ 31 by omega)]
  refine lv_aload_n hx hb dL_law_241 rfl (lv_at hl 3 rfl) ?_
  obtain ⟨x9, hx9⟩ : ∃ z, z = xs (i + 1) := ⟨_, rfl⟩
  obtain ⟨y9, hy9⟩ : ∃ z, z = xs (i + 2) := ⟨_, rfl⟩
  rw [← hx9]
  rw [← hy9]
  refine g_hlp (As := [.ref (ad 0), .int x9, .int y9, .ref qo]) (rest := []) ⟨hx, hb, hml, hown, hts⟩ (kL_start l hl0 D cs n ad σ qo v hn4 x9 y9 (2000 * q) hI) (vx_cwSW 4 hts gL_law_L_start rfl rfl rfl (by decide +kernel) ⟨Nat.le_of_ble_eq_true rfl, Nat.le_of_ble_eq_true rfl⟩) hK hC hR hO hLD hS hA hXW hl.1 dL_law_242 rfl rfl (Nat.le_of_ble_eq_true rfl) ⟨by show 53 + q + 1 ≤ 601024; omega, by show 2373 + 6 * q + 6 ≤ 7293000; omega⟩ (fun r u H locs hw hC hR hO hS => ?_)
  obtain ⟨hr, hu⟩ := hw
  refine lv_istore (lv' := [(5, .int r), (0, .ref b), (1, .ref (ad 0)), (2, .ref (ad2 0)), (3, .ref qo), (4, .int (nI i))]) hx hb dL_law_245 hl (by decide) rfl (fun ls hl => ?_)
  refine lv_aload_n hx hb dL_law_247 rfl (lv_at hl 3 rfl) ?_
  refine lv_aload_n hx hb dL_law_248 rfl (lv_at hl 1 rfl) ?_
  refine lv_iload hx hb dL_law_249 (lv_at hl 5 rfl) ?_
  refine lv_iconst (v := 1) hx hb dL_law_251 (by decide) ?_
  refine lv_iadd hx hb dL_law_252 ?_
  refine g_top (y := nI (i + 1)) (nI_add i 1) ?_
  refine va_sld hx hb hX hbl hbA hS (vp_in_nI (show i + 1 < L by omega) (by omega)) dL_law_253 ?_
  rw [nI_clamp (show i + 1 < 2 ^ 31 by omega)]
  refine lv_aload_n hx hb dL_law_254 rfl (lv_at hl 1 rfl) ?_
  refine lv_iload hx hb dL_law_255 (lv_at hl 5 rfl) ?_
  refine lv_iconst (v := 2) hx hb dL_law_257 (by decide) ?_
  refine lv_iadd hx hb dL_law_258 ?_
  refine g_top (y := nI (i + 2)) (nI_add i 2) ?_
  refine va_sld hx hb hX hbl hbA hS (vp_in_nI (show i + 2 < L by omega) (by omega)) dL_law_259 ?_
  rw [nI_clamp (show i + 2 < 2 ^ 31 by omega)]
  rw [← hx9]
  rw [← hy9]
  refine g_cvik (As := [.int x9, .int y9]) (rest := []) ⟨hx, hb, hml, hown, hts⟩ (kX5_start l D cs n ad2 th nx σ hn4 x9 y9 (2000 * q) hI) (cwV 2 hts gL_law_X5_start rfl rfl rfl (by decide +kernel) ⟨Nat.le_of_ble_eq_true rfl, Nat.le_of_ble_eq_true rfl⟩) hK hR hLD.2.1 hS hA (cons_P hO hC) (ne_ref hLD) 0 (ci := 5) rfl rfl cr_obj hl.1 dL_law_260 rfl rfl (Nat.le_of_ble_eq_true rfl) ⟨by show 53 + q + 1 ≤ 601024; omega, by show 2373 + 6 * q + 6 ≤ 7293000; omega⟩ (fun r2 nx2 H locs hw2 hR hOC hS => ?_)
  have hO := P_head hOC
  have hC := P_tail hOC
  refine lv_istore (lv' := [(6, .int r2), (5, .int r), (0, .ref b), (1, .ref (ad 0)), (2, .ref (ad2 0)), (3, .ref qo), (4, .int (nI i))]) hx hb dL_law_263 hl (by decide) rfl (fun ls hl => ?_)
  refine lv_aload_n hx hb dL_law_265 rfl (lv_at hl 4 rfl) ?_
  refine g_cvik (As := []) (rest := []) ⟨hx, hb, hml, hown, hts⟩ (kX5_thrown l D cs n ad2 (t2 (0 ≤ x9 ∧ x9 < nI n) (0 ≤ y9 ∧ y9 ≤ 80)) nx2 (if t2 (0 ≤ x9 ∧ x9 < nI n) (0 ≤ y9 ∧ y9 ≤ 80) = 0 then pStart σ (iN x9) y9 else σ)) (cwV 0 hts gL_law_X5_thrown rfl rfl rfl (by decide +kernel) ⟨Nat.le_of_ble_eq_true rfl, Nat.le_of_ble_eq_true rfl⟩) hK hR hLD.2.1 hS hA (cons_P hO hC) (ne_ref hLD) 0 (ci := 5) rfl rfl cr_obj hl.1 dL_law_266 rfl rfl (Nat.le_of_ble_eq_true rfl) ⟨by show 53 + q + 1 ≤ 601024; omega, by show 2373 + 6 * q + 6 ≤ 7293000; omega⟩ (fun r3 _ H locs hw3 hR hOC hS => ?_)
  have hO := P_head hOC
  have hC := P_tail hOC
  refine lv_iload hx hb dL_law_269 (lv_at hl 1 rfl) ?_
  refine lv_icmp_eq (tgt := 276) hx hb dL_law_271 (by decide) (fun c1 => ?_) (fun c1 => absurd (hw3.trans hr.symm) c1)
  have hI2 : Inv (if t2 (0 ≤ x9 ∧ x9 < nI n) (0 ≤ y9 ∧ y9 ≤ 80) = 0 then pStart σ (iN x9) y9 else σ) (2000 * (q + 1)) := inv_start (G := 2000 * q) hI hn0 hn4 (by omega)
  refine lv_iload hx hb dL_law_276 (lv_at hl 1 rfl) ?_
  refine lv_if_ne (tgt := 293) hx hb dL_law_278 (by decide) (fun c2 => ?_) (fun c2 => ?_)
  · refine lv_goto (tgt := 932) hx hb dL_law_293 (by decide) ?_
    refine lv_iinc (v := nI (i + 5)) (lv' := [(4, .int (nI (i + 5))), (6, .int r2), (5, .int r), (0, .ref b), (1, .ref (ad 0)), (2, .ref (ad2 0)), (3, .ref qo)]) hx hb dL_law_932 hl (k := 6) rfl (nI_add i 5) (by decide) rfl (fun ls hl => ?_)
    refine lv_goto (tgt := 53) hx hb dL_law_935 (by decide) ?_
    exact next (if t2 (0 ≤ x9 ∧ x9 < nI n) (0 ≤ y9 ∧ y9 ≤ 80) = 0 then pStart σ (iN x9) y9 else σ) (t2 (0 ≤ x9 ∧ x9 < nI n) (0 ≤ y9 ∧ y9 ≤ 80)) nx2 u _ _ _ (hI2) hC hR hO hS (lv_sub hl [3, 4, 5, 6, 0] rfl)
  · have hT : t2 (0 ≤ x9 ∧ x9 < nI n) (0 ≤ y9 ∧ y9 ≤ 80) = 0 := hr.symm.trans c2
    refine lv_aload_n hx hb dL_law_281 rfl (lv_at hl 5 rfl) ?_
    refine lv_iconst (v := 0) hx hb dL_law_282 (by decide) ?_
    refine va_lald hx hb hK hO 0 2 rfl rfl (show vp_in (nI 0) 1 from vp_in_nI (by decide) (by decide)) dL_law_283 ?_
    refine g_topl (y := r2.toInt64) (by rw [hw2 hT, ← hu hT]; exact if_pos rfl) ?_
    refine lv_iload hx hb dL_law_284 (lv_at hl 0 rfl) ?_
    refine lv_i2l (v := r2.toInt64) hx hb dL_law_286 rfl ?_
    refine W.lcmp hx hb dL_law_287 ?_
    refine lv_if_eq (tgt := 293) hx hb dL_law_288 (by decide) (fun c3 => ?_) (fun c3 => absurd (cmp_self _) c3)
    refine lv_goto (tgt := 932) hx hb dL_law_293 (by decide) ?_
    refine lv_iinc (v := nI (i + 5)) (lv' := [(4, .int (nI (i + 5))), (6, .int r2), (5, .int r), (0, .ref b), (1, .ref (ad 0)), (2, .ref (ad2 0)), (3, .ref qo)]) hx hb dL_law_932 hl (k := 6) rfl (nI_add i 5) (by decide) rfl (fun ls hl => ?_)
    refine lv_goto (tgt := 53) hx hb dL_law_935 (by decide) ?_
    exact next (if t2 (0 ≤ x9 ∧ x9 < nI n) (0 ≤ y9 ∧ y9 ≤ 80) = 0 then pStart σ (iN x9) y9 else σ) (t2 (0 ≤ x9 ∧ x9 < nI n) (0 ≤ y9 ∧ y9 ≤ 80)) nx2 u _ _ _ (hI2) hC hR hO hS (lv_sub hl [3, 4, 5, 6, 0] rfl)

set_option maxRecDepth 100000 in
set_option maxHeartbeats 4000000 in
theorem law_set {p : Program} {e : Env} {s : State} {m : MethodId} {args : Array Value} {below : List Frame} {meth : Method} {c : Code} {Q : State → Prop} (l : Launch) (hl0 : l.stackTraces = false) {D : va_G} {cs : Nat → ClassId} {n : Nat} {ad ad2 : Nat → Nat} {qo b L i q : Nat} {xs : Nat → Int32} (hn0 : 0 < n) (hn4 : n ≤ 4) (hx : p.tables.exec = Jvm.exec) (hb : c.code = cL_law) (hml : c.maxLocals = 7) (hown : s.vm.findClass RL = some m.cls) (hts : ∀ w ∈ wsL_law, w.before args s = true) (hK : va_K D vwCl (tyL cs) s) (hXW : XW (lA s) s) (hX : va_X b L xs s s.heap) (hbl : b < s.heap.size) (hLD : LD (lA s) (5 * (n + 2)) ad ad2 qo) (hL : L ≤ 2563) (hi5 : i + 5 ≤ L) (hq : q < 512)
    (next : lawAt p l e s m args below meth c Q D cs n ad ad2 qo b (i + 5) (q + 1)) {σ : St} {th nx : Int32} {v : Int64} {H : Heap} {locs : List Loc} {ls : Array Slot} (hI : Inv σ (2000 * q)) (hC : va_P D vwCl (FW (5 * (n + 2)) ad (CC cs n ad σ)) H) (hR : va_P D vwCl (FW 22 ad2 (CR cs n ad2 th nx σ)) H) (hO : va_P D vwCl [oW cs qo v] H) (hS : va_S (lA s) s.heap H locs) (hl : lv_has ls 7 (lawLv b ad ad2 qo i)) : W p l e room_1 s m args below meth c H locs (53 + q) (2373 + 6 * q) Q (F0 m 296 ls []) := by
  have hA : ∀ q : Nat, s.heap.size ≤ q → lA s q := fun _ h => h
  have hbA : ¬ lA s b := Nat.not_le.mpr hbl
  have hi31 : i + 5 < 2 ^ 31 := by omega
  refine lv_aload_n hx hb dL_law_296 rfl (lv_at hl 1 rfl) ?_
  refine lv_aload_n hx hb dL_law_297 rfl (lv_at hl 0 rfl) ?_
  refine lv_iload hx hb dL_law_298 (lv_at hl 4 rfl) ?_
  refine lv_iconst (v := 1) hx hb dL_law_300 (by decide) ?_
  refine lv_iadd hx hb dL_law_301 ?_
  refine g_top (y := nI (i + 1)) (nI_add i 1) ?_
  refine va_sld hx hb hX hbl hbA hS (vp_in_nI (show i + 1 < L by omega) (by omega)) dL_law_302 ?_
  rw [nI_clamp (show i + 1 < 2 ^ 31 by omega)]
  refine lv_aload_n hx hb dL_law_303 rfl (lv_at hl 0 rfl) ?_
  refine lv_iload hx hb dL_law_304 (lv_at hl 4 rfl) ?_
  refine lv_iconst (v := 2) hx hb dL_law_306 (by decide) ?_
  refine lv_iadd hx hb dL_law_307 ?_
  refine g_top (y := nI (i + 2)) (nI_add i 2) ?_
  refine va_sld hx hb hX hbl hbA hS (vp_in_nI (show i + 2 < L by omega) (by omega)) dL_law_308 ?_
  rw [nI_clamp (show i + 2 < 2 ^ 31 by omega)]
  refine lv_aload_n hx hb dL_law_309 rfl (lv_at hl 0 rfl) ?_
  refine lv_iload hx hb dL_law_310 (lv_at hl 4 rfl) ?_
  refine lv_iconst (v := 3) hx hb dL_law_312 (by decide) ?_
  refine lv_iadd hx hb dL_law_313 ?_
  refine g_top (y := nI (i + 3)) (nI_add i 3) ?_
  refine va_sld hx hb hX hbl hbA hS (vp_in_nI (show i + 3 < L by omega) (by omega)) dL_law_314 ?_
  rw [nI_clamp (show i + 3 < 2 ^ 31 by omega)]
  refine lv_aload_n hx hb dL_law_315 rfl (lv_at hl 3 rfl) ?_
  obtain ⟨x9, hx9⟩ : ∃ z, z = xs (i + 1) := ⟨_, rfl⟩
  obtain ⟨y9, hy9⟩ : ∃ z, z = xs (i + 2) := ⟨_, rfl⟩
  obtain ⟨v9, hv9⟩ : ∃ z, z = xs (i + 3) := ⟨_, rfl⟩
  rw [← hx9]
  rw [← hy9]
  rw [← hv9]
  refine g_hlp (As := [.ref (ad 0), .int x9, .int y9, .int v9, .ref qo]) (rest := []) ⟨hx, hb, hml, hown, hts⟩ (kL_set l hl0 D cs n ad σ qo v hn4 x9 y9 v9 (2000 * q) hI) (vx_cwSW 5 hts gL_law_L_set rfl rfl rfl (by decide +kernel) ⟨Nat.le_of_ble_eq_true rfl, Nat.le_of_ble_eq_true rfl⟩) hK hC hR hO hLD hS hA hXW hl.1 dL_law_316 rfl rfl (Nat.le_of_ble_eq_true rfl) ⟨by show 53 + q + 1 ≤ 601024; omega, by show 2373 + 6 * q + 6 ≤ 7293000; omega⟩ (fun r u H locs hw hC hR hO hS => ?_)
  obtain ⟨hr, hu⟩ := hw
  refine lv_istore (lv' := [(5, .int r), (0, .ref b), (1, .ref (ad 0)), (2, .ref (ad2 0)), (3, .ref qo), (4, .int (nI i))]) hx hb dL_law_319 hl (by decide) rfl (fun ls hl => ?_)
  refine lv_aload_n hx hb dL_law_321 rfl (lv_at hl 3 rfl) ?_
  refine lv_aload_n hx hb dL_law_322 rfl (lv_at hl 1 rfl) ?_
  refine lv_iload hx hb dL_law_323 (lv_at hl 5 rfl) ?_
  refine lv_iconst (v := 1) hx hb dL_law_325 (by decide) ?_
  refine lv_iadd hx hb dL_law_326 ?_
  refine g_top (y := nI (i + 1)) (nI_add i 1) ?_
  refine va_sld hx hb hX hbl hbA hS (vp_in_nI (show i + 1 < L by omega) (by omega)) dL_law_327 ?_
  rw [nI_clamp (show i + 1 < 2 ^ 31 by omega)]
  refine lv_aload_n hx hb dL_law_328 rfl (lv_at hl 1 rfl) ?_
  refine lv_iload hx hb dL_law_329 (lv_at hl 5 rfl) ?_
  refine lv_iconst (v := 2) hx hb dL_law_331 (by decide) ?_
  refine lv_iadd hx hb dL_law_332 ?_
  refine g_top (y := nI (i + 2)) (nI_add i 2) ?_
  refine va_sld hx hb hX hbl hbA hS (vp_in_nI (show i + 2 < L by omega) (by omega)) dL_law_333 ?_
  rw [nI_clamp (show i + 2 < 2 ^ 31 by omega)]
  refine lv_aload_n hx hb dL_law_334 rfl (lv_at hl 1 rfl) ?_
  refine lv_iload hx hb dL_law_335 (lv_at hl 5 rfl) ?_
  refine lv_iconst (v := 3) hx hb dL_law_337 (by decide) ?_
  refine lv_iadd hx hb dL_law_338 ?_
  refine g_top (y := nI (i + 3)) (nI_add i 3) ?_
  refine va_sld hx hb hX hbl hbA hS (vp_in_nI (show i + 3 < L by omega) (by omega)) dL_law_339 ?_
  rw [nI_clamp (show i + 3 < 2 ^ 31 by omega)]
  rw [← hx9]
  rw [← hy9]
  rw [← hv9]
  refine g_cvik (As := [.int x9, .int y9, .int v9]) (rest := []) ⟨hx, hb, hml, hown, hts⟩ (kX5_set l D cs n ad2 th nx σ hn4 x9 y9 v9 (2000 * q) hI) (cwV 3 hts gL_law_X5_set rfl rfl rfl (by decide +kernel) ⟨Nat.le_of_ble_eq_true rfl, Nat.le_of_ble_eq_true rfl⟩) hK hR hLD.2.1 hS hA (cons_P hO hC) (ne_ref hLD) 0 (ci := 5) rfl rfl cr_obj hl.1 dL_law_340 rfl rfl (Nat.le_of_ble_eq_true rfl) ⟨by show 53 + q + 1 ≤ 601024; omega, by show 2373 + 6 * q + 6 ≤ 7293000; omega⟩ (fun r2 nx2 H locs hw2 hR hOC hS => ?_)
  have hO := P_head hOC
  have hC := P_tail hOC
  refine lv_istore (lv' := [(6, .int r2), (5, .int r), (0, .ref b), (1, .ref (ad 0)), (2, .ref (ad2 0)), (3, .ref qo), (4, .int (nI i))]) hx hb dL_law_343 hl (by decide) rfl (fun ls hl => ?_)
  refine lv_aload_n hx hb dL_law_345 rfl (lv_at hl 4 rfl) ?_
  refine g_cvik (As := []) (rest := []) ⟨hx, hb, hml, hown, hts⟩ (kX5_thrown l D cs n ad2 (t1 ((0 ≤ x9 ∧ x9 < nI n) ∧ (0 ≤ y9 ∧ y9 < 8))) nx2 (if t1 ((0 ≤ x9 ∧ x9 < nI n) ∧ (0 ≤ y9 ∧ y9 < 8)) = 0 then pGive σ (iN x9) (iN y9) v9 else σ)) (cwV 0 hts gL_law_X5_thrown rfl rfl rfl (by decide +kernel) ⟨Nat.le_of_ble_eq_true rfl, Nat.le_of_ble_eq_true rfl⟩) hK hR hLD.2.1 hS hA (cons_P hO hC) (ne_ref hLD) 0 (ci := 5) rfl rfl cr_obj hl.1 dL_law_346 rfl rfl (Nat.le_of_ble_eq_true rfl) ⟨by show 53 + q + 1 ≤ 601024; omega, by show 2373 + 6 * q + 6 ≤ 7293000; omega⟩ (fun r3 _ H locs hw3 hR hOC hS => ?_)
  have hO := P_head hOC
  have hC := P_tail hOC
  refine lv_iload hx hb dL_law_349 (lv_at hl 1 rfl) ?_
  refine lv_icmp_eq (tgt := 356) hx hb dL_law_351 (by decide) (fun c1 => ?_) (fun c1 => absurd (hw3.trans hr.symm) c1)
  have hI2 : Inv (if t1 ((0 ≤ x9 ∧ x9 < nI n) ∧ (0 ≤ y9 ∧ y9 < 8)) = 0 then pGive σ (iN x9) (iN y9) v9 else σ) (2000 * (q + 1)) := inv_set (G := 2000 * q) hI hn0 hn4 (by omega)
  refine lv_iload hx hb dL_law_356 (lv_at hl 1 rfl) ?_
  refine lv_if_ne (tgt := 373) hx hb dL_law_358 (by decide) (fun c2 => ?_) (fun c2 => ?_)
  · refine lv_goto (tgt := 932) hx hb dL_law_373 (by decide) ?_
    refine lv_iinc (v := nI (i + 5)) (lv' := [(4, .int (nI (i + 5))), (6, .int r2), (5, .int r), (0, .ref b), (1, .ref (ad 0)), (2, .ref (ad2 0)), (3, .ref qo)]) hx hb dL_law_932 hl (k := 6) rfl (nI_add i 5) (by decide) rfl (fun ls hl => ?_)
    refine lv_goto (tgt := 53) hx hb dL_law_935 (by decide) ?_
    exact next (if t1 ((0 ≤ x9 ∧ x9 < nI n) ∧ (0 ≤ y9 ∧ y9 < 8)) = 0 then pGive σ (iN x9) (iN y9) v9 else σ) (t1 ((0 ≤ x9 ∧ x9 < nI n) ∧ (0 ≤ y9 ∧ y9 < 8))) nx2 u _ _ _ (hI2) hC hR hO hS (lv_sub hl [3, 4, 5, 6, 0] rfl)
  · have hT : t1 ((0 ≤ x9 ∧ x9 < nI n) ∧ (0 ≤ y9 ∧ y9 < 8)) = 0 := hr.symm.trans c2
    refine lv_aload_n hx hb dL_law_361 rfl (lv_at hl 5 rfl) ?_
    refine lv_iconst (v := 0) hx hb dL_law_362 (by decide) ?_
    refine va_lald hx hb hK hO 0 2 rfl rfl (show vp_in (nI 0) 1 from vp_in_nI (by decide) (by decide)) dL_law_363 ?_
    refine g_topl (y := r2.toInt64) (by rw [hw2 hT, ← hu hT]; exact if_pos rfl) ?_
    refine lv_iload hx hb dL_law_364 (lv_at hl 0 rfl) ?_
    refine lv_i2l (v := r2.toInt64) hx hb dL_law_366 rfl ?_
    refine W.lcmp hx hb dL_law_367 ?_
    refine lv_if_eq (tgt := 373) hx hb dL_law_368 (by decide) (fun c3 => ?_) (fun c3 => absurd (cmp_self _) c3)
    refine lv_goto (tgt := 932) hx hb dL_law_373 (by decide) ?_
    refine lv_iinc (v := nI (i + 5)) (lv' := [(4, .int (nI (i + 5))), (6, .int r2), (5, .int r), (0, .ref b), (1, .ref (ad 0)), (2, .ref (ad2 0)), (3, .ref qo)]) hx hb dL_law_932 hl (k := 6) rfl (nI_add i 5) (by decide) rfl (fun ls hl => ?_)
    refine lv_goto (tgt := 53) hx hb dL_law_935 (by decide) ?_
    exact next (if t1 ((0 ≤ x9 ∧ x9 < nI n) ∧ (0 ≤ y9 ∧ y9 < 8)) = 0 then pGive σ (iN x9) (iN y9) v9 else σ) (t1 ((0 ≤ x9 ∧ x9 < nI n) ∧ (0 ≤ y9 ∧ y9 < 8))) nx2 u _ _ _ (hI2) hC hR hO hS (lv_sub hl [3, 4, 5, 6, 0] rfl)

set_option maxRecDepth 100000 in
set_option maxHeartbeats 4000000 in
theorem law_poke {p : Program} {e : Env} {s : State} {m : MethodId} {args : Array Value} {below : List Frame} {meth : Method} {c : Code} {Q : State → Prop} (l : Launch) (hl0 : l.stackTraces = false) {D : va_G} {cs : Nat → ClassId} {n : Nat} {ad ad2 : Nat → Nat} {qo b L i q : Nat} {xs : Nat → Int32} (hn0 : 0 < n) (hn4 : n ≤ 4) (hx : p.tables.exec = Jvm.exec) (hb : c.code = cL_law) (hml : c.maxLocals = 7) (hown : s.vm.findClass RL = some m.cls) (hts : ∀ w ∈ wsL_law, w.before args s = true) (hK : va_K D vwCl (tyL cs) s) (hXW : XW (lA s) s) (hX : va_X b L xs s s.heap) (hbl : b < s.heap.size) (hLD : LD (lA s) (5 * (n + 2)) ad ad2 qo) (hL : L ≤ 2563) (hi5 : i + 5 ≤ L) (hq : q < 512)
    (next : lawAt p l e s m args below meth c Q D cs n ad ad2 qo b (i + 5) (q + 1)) {σ : St} {th nx : Int32} {v : Int64} {H : Heap} {locs : List Loc} {ls : Array Slot} (hI : Inv σ (2000 * q)) (hC : va_P D vwCl (FW (5 * (n + 2)) ad (CC cs n ad σ)) H) (hR : va_P D vwCl (FW 22 ad2 (CR cs n ad2 th nx σ)) H) (hO : va_P D vwCl [oW cs qo v] H) (hS : va_S (lA s) s.heap H locs) (hl : lv_has ls 7 (lawLv b ad ad2 qo i)) : W p l e room_1 s m args below meth c H locs (53 + q) (2373 + 6 * q) Q (F0 m 376 ls []) := by
  have hA : ∀ q : Nat, s.heap.size ≤ q → lA s q := fun _ h => h
  have hbA : ¬ lA s b := Nat.not_le.mpr hbl
  have hi31 : i + 5 < 2 ^ 31 := by omega
  refine lv_aload_n hx hb dL_law_376 rfl (lv_at hl 1 rfl) ?_
  refine lv_aload_n hx hb dL_law_377 rfl (lv_at hl 0 rfl) ?_
  refine lv_iload hx hb dL_law_378 (lv_at hl 4 rfl) ?_
  refine lv_iconst (v := 1) hx hb dL_law_380 (by decide) ?_
  refine lv_iadd hx hb dL_law_381 ?_
  refine g_top (y := nI (i + 1)) (nI_add i 1) ?_
  refine va_sld hx hb hX hbl hbA hS (vp_in_nI (show i + 1 < L by omega) (by omega)) dL_law_382 ?_
  rw [nI_clamp (show i + 1 < 2 ^ 31 by omega)]
  refine lv_aload_n hx hb dL_law_383 rfl (lv_at hl 0 rfl) ?_
  refine lv_iload hx hb dL_law_384 (lv_at hl 4 rfl) ?_
  refine lv_iconst (v := 2) hx hb dL_law_386 (by decide) ?_
  refine lv_iadd hx hb dL_law_387 ?_
  refine g_top (y := nI (i + 2)) (nI_add i 2) ?_
  refine va_sld hx hb hX hbl hbA hS (vp_in_nI (show i + 2 < L by omega) (by omega)) dL_law_388 ?_
  rw [nI_clamp (show i + 2 < 2 ^ 31 by omega)]
  refine lv_aload_n hx hb dL_law_389 rfl (lv_at hl 3 rfl) ?_
  obtain ⟨x9, hx9⟩ : ∃ z, z = xs (i + 1) := ⟨_, rfl⟩
  obtain ⟨v9, hv9⟩ : ∃ z, z = xs (i + 2) := ⟨_, rfl⟩
  rw [← hx9]
  rw [← hv9]
  refine g_hlp (As := [.ref (ad 0), .int x9, .int v9, .ref qo]) (rest := []) ⟨hx, hb, hml, hown, hts⟩ (kL_poke l hl0 D cs n ad σ qo v hn4 x9 v9 (2000 * q) hI) (vx_cwSW 4 hts gL_law_L_poke rfl rfl rfl (by decide +kernel) ⟨Nat.le_of_ble_eq_true rfl, Nat.le_of_ble_eq_true rfl⟩) hK hC hR hO hLD hS hA hXW hl.1 dL_law_390 rfl rfl (Nat.le_of_ble_eq_true rfl) ⟨by show 53 + q + 1 ≤ 601024; omega, by show 2373 + 6 * q + 6 ≤ 7293000; omega⟩ (fun r u H locs hw hC hR hO hS => ?_)
  obtain ⟨hr, hu⟩ := hw
  refine lv_istore (lv' := [(5, .int r), (0, .ref b), (1, .ref (ad 0)), (2, .ref (ad2 0)), (3, .ref qo), (4, .int (nI i))]) hx hb dL_law_393 hl (by decide) rfl (fun ls hl => ?_)
  refine lv_aload_n hx hb dL_law_395 rfl (lv_at hl 3 rfl) ?_
  refine lv_aload_n hx hb dL_law_396 rfl (lv_at hl 1 rfl) ?_
  refine lv_iload hx hb dL_law_397 (lv_at hl 5 rfl) ?_
  refine lv_iconst (v := 1) hx hb dL_law_399 (by decide) ?_
  refine lv_iadd hx hb dL_law_400 ?_
  refine g_top (y := nI (i + 1)) (nI_add i 1) ?_
  refine va_sld hx hb hX hbl hbA hS (vp_in_nI (show i + 1 < L by omega) (by omega)) dL_law_401 ?_
  rw [nI_clamp (show i + 1 < 2 ^ 31 by omega)]
  refine lv_aload_n hx hb dL_law_402 rfl (lv_at hl 1 rfl) ?_
  refine lv_iload hx hb dL_law_403 (lv_at hl 5 rfl) ?_
  refine lv_iconst (v := 2) hx hb dL_law_405 (by decide) ?_
  refine lv_iadd hx hb dL_law_406 ?_
  refine g_top (y := nI (i + 2)) (nI_add i 2) ?_
  refine va_sld hx hb hX hbl hbA hS (vp_in_nI (show i + 2 < L by omega) (by omega)) dL_law_407 ?_
  rw [nI_clamp (show i + 2 < 2 ^ 31 by omega)]
  rw [← hx9]
  rw [← hv9]
  refine g_cvik (As := [.int x9, .int v9]) (rest := []) ⟨hx, hb, hml, hown, hts⟩ (kX5_poke l D cs n ad2 th nx σ hn4 x9 v9 (2000 * q) hI) (cwV 2 hts gL_law_X5_poke rfl rfl rfl (by decide +kernel) ⟨Nat.le_of_ble_eq_true rfl, Nat.le_of_ble_eq_true rfl⟩) hK hR hLD.2.1 hS hA (cons_P hO hC) (ne_ref hLD) 0 (ci := 5) rfl rfl cr_obj hl.1 dL_law_408 rfl rfl (Nat.le_of_ble_eq_true rfl) ⟨by show 53 + q + 1 ≤ 601024; omega, by show 2373 + 6 * q + 6 ≤ 7293000; omega⟩ (fun r2 nx2 H locs hw2 hR hOC hS => ?_)
  have hO := P_head hOC
  have hC := P_tail hOC
  refine lv_istore (lv' := [(6, .int r2), (5, .int r), (0, .ref b), (1, .ref (ad 0)), (2, .ref (ad2 0)), (3, .ref qo), (4, .int (nI i))]) hx hb dL_law_411 hl (by decide) rfl (fun ls hl => ?_)
  refine lv_aload_n hx hb dL_law_413 rfl (lv_at hl 4 rfl) ?_
  refine g_cvik (As := []) (rest := []) ⟨hx, hb, hml, hown, hts⟩ (kX5_thrown l D cs n ad2 (t1 (0 ≤ x9 ∧ x9 < 64)) nx2 (if t1 (0 ≤ x9 ∧ x9 < 64) = 0 then pPoke σ n (iN x9) v9 else σ)) (cwV 0 hts gL_law_X5_thrown rfl rfl rfl (by decide +kernel) ⟨Nat.le_of_ble_eq_true rfl, Nat.le_of_ble_eq_true rfl⟩) hK hR hLD.2.1 hS hA (cons_P hO hC) (ne_ref hLD) 0 (ci := 5) rfl rfl cr_obj hl.1 dL_law_414 rfl rfl (Nat.le_of_ble_eq_true rfl) ⟨by show 53 + q + 1 ≤ 601024; omega, by show 2373 + 6 * q + 6 ≤ 7293000; omega⟩ (fun r3 _ H locs hw3 hR hOC hS => ?_)
  have hO := P_head hOC
  have hC := P_tail hOC
  refine lv_iload hx hb dL_law_417 (lv_at hl 1 rfl) ?_
  refine lv_icmp_eq (tgt := 424) hx hb dL_law_419 (by decide) (fun c1 => ?_) (fun c1 => absurd (hw3.trans hr.symm) c1)
  have hI2 : Inv (if t1 (0 ≤ x9 ∧ x9 < 64) = 0 then pPoke σ n (iN x9) v9 else σ) (2000 * (q + 1)) := inv_poke (G := 2000 * q) hI hn0 hn4 (by omega)
  refine lv_iload hx hb dL_law_424 (lv_at hl 1 rfl) ?_
  refine lv_if_ne (tgt := 441) hx hb dL_law_426 (by decide) (fun c2 => ?_) (fun c2 => ?_)
  · refine lv_goto (tgt := 932) hx hb dL_law_441 (by decide) ?_
    refine lv_iinc (v := nI (i + 5)) (lv' := [(4, .int (nI (i + 5))), (6, .int r2), (5, .int r), (0, .ref b), (1, .ref (ad 0)), (2, .ref (ad2 0)), (3, .ref qo)]) hx hb dL_law_932 hl (k := 6) rfl (nI_add i 5) (by decide) rfl (fun ls hl => ?_)
    refine lv_goto (tgt := 53) hx hb dL_law_935 (by decide) ?_
    exact next (if t1 (0 ≤ x9 ∧ x9 < 64) = 0 then pPoke σ n (iN x9) v9 else σ) (t1 (0 ≤ x9 ∧ x9 < 64)) nx2 u _ _ _ (hI2) hC hR hO hS (lv_sub hl [3, 4, 5, 6, 0] rfl)
  · have hT : t1 (0 ≤ x9 ∧ x9 < 64) = 0 := hr.symm.trans c2
    refine lv_aload_n hx hb dL_law_429 rfl (lv_at hl 5 rfl) ?_
    refine lv_iconst (v := 0) hx hb dL_law_430 (by decide) ?_
    refine va_lald hx hb hK hO 0 2 rfl rfl (show vp_in (nI 0) 1 from vp_in_nI (by decide) (by decide)) dL_law_431 ?_
    refine g_topl (y := r2.toInt64) (by rw [hw2 hT, ← hu hT]; exact if_pos rfl) ?_
    refine lv_iload hx hb dL_law_432 (lv_at hl 0 rfl) ?_
    refine lv_i2l (v := r2.toInt64) hx hb dL_law_434 rfl ?_
    refine W.lcmp hx hb dL_law_435 ?_
    refine lv_if_eq (tgt := 441) hx hb dL_law_436 (by decide) (fun c3 => ?_) (fun c3 => absurd (cmp_self _) c3)
    refine lv_goto (tgt := 932) hx hb dL_law_441 (by decide) ?_
    refine lv_iinc (v := nI (i + 5)) (lv' := [(4, .int (nI (i + 5))), (6, .int r2), (5, .int r), (0, .ref b), (1, .ref (ad 0)), (2, .ref (ad2 0)), (3, .ref qo)]) hx hb dL_law_932 hl (k := 6) rfl (nI_add i 5) (by decide) rfl (fun ls hl => ?_)
    refine lv_goto (tgt := 53) hx hb dL_law_935 (by decide) ?_
    exact next (if t1 (0 ≤ x9 ∧ x9 < 64) = 0 then pPoke σ n (iN x9) v9 else σ) (t1 (0 ≤ x9 ∧ x9 < 64)) nx2 u _ _ _ (hI2) hC hR hO hS (lv_sub hl [3, 4, 5, 6, 0] rfl)

set_option maxRecDepth 100000 in
set_option maxHeartbeats 4000000 in
theorem law_pick {p : Program} {e : Env} {s : State} {m : MethodId} {args : Array Value} {below : List Frame} {meth : Method} {c : Code} {Q : State → Prop} (l : Launch) (hl0 : l.stackTraces = false) {D : va_G} {cs : Nat → ClassId} {n : Nat} {ad ad2 : Nat → Nat} {qo b L i q : Nat} {xs : Nat → Int32} (hn0 : 0 < n) (hn4 : n ≤ 4) (hx : p.tables.exec = Jvm.exec) (hb : c.code = cL_law) (hml : c.maxLocals = 7) (hown : s.vm.findClass RL = some m.cls) (hts : ∀ w ∈ wsL_law, w.before args s = true) (hK : va_K D vwCl (tyL cs) s) (hXW : XW (lA s) s) (hX : va_X b L xs s s.heap) (hbl : b < s.heap.size) (hLD : LD (lA s) (5 * (n + 2)) ad ad2 qo) (hL : L ≤ 2563) (hi5 : i + 5 ≤ L) (hq : q < 512)
    (next : lawAt p l e s m args below meth c Q D cs n ad ad2 qo b (i + 5) (q + 1)) {σ : St} {th nx : Int32} {v : Int64} {H : Heap} {locs : List Loc} {ls : Array Slot} (hI : Inv σ (2000 * q)) (hC : va_P D vwCl (FW (5 * (n + 2)) ad (CC cs n ad σ)) H) (hR : va_P D vwCl (FW 22 ad2 (CR cs n ad2 th nx σ)) H) (hO : va_P D vwCl [oW cs qo v] H) (hS : va_S (lA s) s.heap H locs) (hl : lv_has ls 7 (lawLv b ad ad2 qo i)) : W p l e room_1 s m args below meth c H locs (53 + q) (2373 + 6 * q) Q (F0 m 444 ls []) := by
  have hA : ∀ q : Nat, s.heap.size ≤ q → lA s q := fun _ h => h
  have hbA : ¬ lA s b := Nat.not_le.mpr hbl
  have hi31 : i + 5 < 2 ^ 31 := by omega
  refine lv_aload_n hx hb dL_law_444 rfl (lv_at hl 1 rfl) ?_
  refine lv_aload_n hx hb dL_law_445 rfl (lv_at hl 0 rfl) ?_
  refine lv_iload hx hb dL_law_446 (lv_at hl 4 rfl) ?_
  refine lv_iconst (v := 1) hx hb dL_law_448 (by decide) ?_
  refine lv_iadd hx hb dL_law_449 ?_
  refine g_top (y := nI (i + 1)) (nI_add i 1) ?_
  refine va_sld hx hb hX hbl hbA hS (vp_in_nI (show i + 1 < L by omega) (by omega)) dL_law_450 ?_
  rw [nI_clamp (show i + 1 < 2 ^ 31 by omega)]
  refine lv_aload_n hx hb dL_law_451 rfl (lv_at hl 0 rfl) ?_
  refine lv_iload hx hb dL_law_452 (lv_at hl 4 rfl) ?_
  refine lv_iconst (v := 2) hx hb dL_law_454 (by decide) ?_
  refine lv_iadd hx hb dL_law_455 ?_
  refine g_top (y := nI (i + 2)) (nI_add i 2) ?_
  refine va_sld hx hb hX hbl hbA hS (vp_in_nI (show i + 2 < L by omega) (by omega)) dL_law_456 ?_
  rw [nI_clamp (show i + 2 < 2 ^ 31 by omega)]
  refine lv_aload_n hx hb dL_law_457 rfl (lv_at hl 3 rfl) ?_
  obtain ⟨x9, hx9⟩ : ∃ z, z = xs (i + 1) := ⟨_, rfl⟩
  obtain ⟨y9, hy9⟩ : ∃ z, z = xs (i + 2) := ⟨_, rfl⟩
  rw [← hx9]
  rw [← hy9]
  refine g_hlp (As := [.ref (ad 0), .int x9, .int y9, .ref qo]) (rest := []) ⟨hx, hb, hml, hown, hts⟩ (kL_pick l hl0 D cs n ad σ qo v hn4 x9 y9 (2000 * q) hI (by omega)) (vx_cwSW 4 hts gL_law_L_pick rfl rfl rfl (by decide +kernel) ⟨Nat.le_of_ble_eq_true rfl, Nat.le_of_ble_eq_true rfl⟩) hK hC hR hO hLD hS hA hXW hl.1 dL_law_458 rfl rfl (Nat.le_of_ble_eq_true rfl) ⟨by show 53 + q + 1 ≤ 601024; omega, by show 2373 + 6 * q + 6 ≤ 7293000; omega⟩ (fun r u H locs hw hC hR hO hS => ?_)
  obtain ⟨hr, hu⟩ := hw
  refine lv_istore (lv' := [(5, .int r), (0, .ref b), (1, .ref (ad 0)), (2, .ref (ad2 0)), (3, .ref qo), (4, .int (nI i))]) hx hb dL_law_461 hl (by decide) rfl (fun ls hl => ?_)
  refine lv_aload_n hx hb dL_law_463 rfl (lv_at hl 3 rfl) ?_
  refine lv_aload_n hx hb dL_law_464 rfl (lv_at hl 1 rfl) ?_
  refine lv_iload hx hb dL_law_465 (lv_at hl 5 rfl) ?_
  refine lv_iconst (v := 1) hx hb dL_law_467 (by decide) ?_
  refine lv_iadd hx hb dL_law_468 ?_
  refine g_top (y := nI (i + 1)) (nI_add i 1) ?_
  refine va_sld hx hb hX hbl hbA hS (vp_in_nI (show i + 1 < L by omega) (by omega)) dL_law_469 ?_
  rw [nI_clamp (show i + 1 < 2 ^ 31 by omega)]
  refine lv_aload_n hx hb dL_law_470 rfl (lv_at hl 1 rfl) ?_
  refine lv_iload hx hb dL_law_471 (lv_at hl 5 rfl) ?_
  refine lv_iconst (v := 2) hx hb dL_law_473 (by decide) ?_
  refine lv_iadd hx hb dL_law_474 ?_
  refine g_top (y := nI (i + 2)) (nI_add i 2) ?_
  refine va_sld hx hb hX hbl hbA hS (vp_in_nI (show i + 2 < L by omega) (by omega)) dL_law_475 ?_
  rw [nI_clamp (show i + 2 < 2 ^ 31 by omega)]
  rw [← hx9]
  rw [← hy9]
  refine g_cvik (As := [.int x9, .int y9]) (rest := []) ⟨hx, hb, hml, hown, hts⟩ (kX5_pick l D cs n ad2 th nx σ hn4 x9 y9 (2000 * q) hI (by omega)) (cwV 2 hts gL_law_X5_pick rfl rfl rfl (by decide +kernel) ⟨Nat.le_of_ble_eq_true rfl, Nat.le_of_ble_eq_true rfl⟩) hK hR hLD.2.1 hS hA (cons_P hO hC) (ne_ref hLD) 0 (ci := 5) rfl rfl cr_obj hl.1 dL_law_476 rfl rfl (Nat.le_of_ble_eq_true rfl) ⟨by show 53 + q + 1 ≤ 601024; omega, by show 2373 + 6 * q + 6 ≤ 7293000; omega⟩ (fun r2 nx2 H locs hw2 hR hOC hS => ?_)
  have hO := P_head hOC
  have hC := P_tail hOC
  refine lv_istore (lv' := [(6, .int r2), (5, .int r), (0, .ref b), (1, .ref (ad 0)), (2, .ref (ad2 0)), (3, .ref qo), (4, .int (nI i))]) hx hb dL_law_479 hl (by decide) rfl (fun ls hl => ?_)
  refine lv_aload_n hx hb dL_law_481 rfl (lv_at hl 4 rfl) ?_
  refine g_cvik (As := []) (rest := []) ⟨hx, hb, hml, hown, hts⟩ (kX5_thrown l D cs n ad2 (t2 (0 ≤ x9 ∧ x9 < nI n) (0 ≤ y9 ∧ y9 ≤ 2000)) nx2 (if t2 (0 ≤ x9 ∧ x9 < nI n) (0 ≤ y9 ∧ y9 ≤ 2000) = 0 then (pPick n (iN x9) (iN y9) 0 σ).1 else σ)) (cwV 0 hts gL_law_X5_thrown rfl rfl rfl (by decide +kernel) ⟨Nat.le_of_ble_eq_true rfl, Nat.le_of_ble_eq_true rfl⟩) hK hR hLD.2.1 hS hA (cons_P hO hC) (ne_ref hLD) 0 (ci := 5) rfl rfl cr_obj hl.1 dL_law_482 rfl rfl (Nat.le_of_ble_eq_true rfl) ⟨by show 53 + q + 1 ≤ 601024; omega, by show 2373 + 6 * q + 6 ≤ 7293000; omega⟩ (fun r3 _ H locs hw3 hR hOC hS => ?_)
  have hO := P_head hOC
  have hC := P_tail hOC
  refine lv_iload hx hb dL_law_485 (lv_at hl 1 rfl) ?_
  refine lv_icmp_eq (tgt := 492) hx hb dL_law_487 (by decide) (fun c1 => ?_) (fun c1 => absurd (hw3.trans hr.symm) c1)
  have hI2 : Inv (if t2 (0 ≤ x9 ∧ x9 < nI n) (0 ≤ y9 ∧ y9 ≤ 2000) = 0 then (pPick n (iN x9) (iN y9) 0 σ).1 else σ) (2000 * (q + 1)) := inv_pick (G := 2000 * q) hI hn0 hn4 (by omega)
  refine lv_iload hx hb dL_law_492 (lv_at hl 1 rfl) ?_
  refine lv_if_ne (tgt := 509) hx hb dL_law_494 (by decide) (fun c2 => ?_) (fun c2 => ?_)
  · refine lv_goto (tgt := 932) hx hb dL_law_509 (by decide) ?_
    refine lv_iinc (v := nI (i + 5)) (lv' := [(4, .int (nI (i + 5))), (6, .int r2), (5, .int r), (0, .ref b), (1, .ref (ad 0)), (2, .ref (ad2 0)), (3, .ref qo)]) hx hb dL_law_932 hl (k := 6) rfl (nI_add i 5) (by decide) rfl (fun ls hl => ?_)
    refine lv_goto (tgt := 53) hx hb dL_law_935 (by decide) ?_
    exact next (if t2 (0 ≤ x9 ∧ x9 < nI n) (0 ≤ y9 ∧ y9 ≤ 2000) = 0 then (pPick n (iN x9) (iN y9) 0 σ).1 else σ) (t2 (0 ≤ x9 ∧ x9 < nI n) (0 ≤ y9 ∧ y9 ≤ 2000)) nx2 u _ _ _ (hI2) hC hR hO hS (lv_sub hl [3, 4, 5, 6, 0] rfl)
  · have hT : t2 (0 ≤ x9 ∧ x9 < nI n) (0 ≤ y9 ∧ y9 ≤ 2000) = 0 := hr.symm.trans c2
    refine lv_aload_n hx hb dL_law_497 rfl (lv_at hl 5 rfl) ?_
    refine lv_iconst (v := 0) hx hb dL_law_498 (by decide) ?_
    refine va_lald hx hb hK hO 0 2 rfl rfl (show vp_in (nI 0) 1 from vp_in_nI (by decide) (by decide)) dL_law_499 ?_
    refine g_topl (y := r2.toInt64) (by rw [hw2 hT, ← hu hT]; exact if_pos rfl) ?_
    refine lv_iload hx hb dL_law_500 (lv_at hl 0 rfl) ?_
    refine lv_i2l (v := r2.toInt64) hx hb dL_law_502 rfl ?_
    refine W.lcmp hx hb dL_law_503 ?_
    refine lv_if_eq (tgt := 509) hx hb dL_law_504 (by decide) (fun c3 => ?_) (fun c3 => absurd (cmp_self _) c3)
    refine lv_goto (tgt := 932) hx hb dL_law_509 (by decide) ?_
    refine lv_iinc (v := nI (i + 5)) (lv' := [(4, .int (nI (i + 5))), (6, .int r2), (5, .int r), (0, .ref b), (1, .ref (ad 0)), (2, .ref (ad2 0)), (3, .ref qo)]) hx hb dL_law_932 hl (k := 6) rfl (nI_add i 5) (by decide) rfl (fun ls hl => ?_)
    refine lv_goto (tgt := 53) hx hb dL_law_935 (by decide) ?_
    exact next (if t2 (0 ≤ x9 ∧ x9 < nI n) (0 ≤ y9 ∧ y9 ≤ 2000) = 0 then (pPick n (iN x9) (iN y9) 0 σ).1 else σ) (t2 (0 ≤ x9 ∧ x9 < nI n) (0 ≤ y9 ∧ y9 ≤ 2000)) nx2 u _ _ _ (hI2) hC hR hO hS (lv_sub hl [3, 4, 5, 6, 0] rfl)

set_option maxRecDepth 100000 in
set_option maxHeartbeats 4000000 in
theorem law_run {p : Program} {e : Env} {s : State} {m : MethodId} {args : Array Value} {below : List Frame} {meth : Method} {c : Code} {Q : State → Prop} (l : Launch) (hl0 : l.stackTraces = false) {D : va_G} {cs : Nat → ClassId} {n : Nat} {ad ad2 : Nat → Nat} {qo b L i q : Nat} {xs : Nat → Int32} (hn0 : 0 < n) (hn4 : n ≤ 4) (hx : p.tables.exec = Jvm.exec) (hb : c.code = cL_law) (hml : c.maxLocals = 7) (hown : s.vm.findClass RL = some m.cls) (hts : ∀ w ∈ wsL_law, w.before args s = true) (hK : va_K D vwCl (tyL cs) s) (hXW : XW (lA s) s) (hX : va_X b L xs s s.heap) (hbl : b < s.heap.size) (hLD : LD (lA s) (5 * (n + 2)) ad ad2 qo) (hL : L ≤ 2563) (hi5 : i + 5 ≤ L) (hq : q < 512)
    (next : lawAt p l e s m args below meth c Q D cs n ad ad2 qo b (i + 5) (q + 1)) {σ : St} {th nx : Int32} {v : Int64} {H : Heap} {locs : List Loc} {ls : Array Slot} (hI : Inv σ (2000 * q)) (hC : va_P D vwCl (FW (5 * (n + 2)) ad (CC cs n ad σ)) H) (hR : va_P D vwCl (FW 22 ad2 (CR cs n ad2 th nx σ)) H) (hO : va_P D vwCl [oW cs qo v] H) (hS : va_S (lA s) s.heap H locs) (hl : lv_has ls 7 (lawLv b ad ad2 qo i)) : W p l e room_1 s m args below meth c H locs (53 + q) (2373 + 6 * q) Q (F0 m 512 ls []) := by
  have hA : ∀ q : Nat, s.heap.size ≤ q → lA s q := fun _ h => h
  have hbA : ¬ lA s b := Nat.not_le.mpr hbl
  have hi31 : i + 5 < 2 ^ 31 := by omega
  refine lv_aload_n hx hb dL_law_512 rfl (lv_at hl 1 rfl) ?_
  refine lv_aload_n hx hb dL_law_513 rfl (lv_at hl 0 rfl) ?_
  refine lv_iload hx hb dL_law_514 (lv_at hl 4 rfl) ?_
  refine lv_iconst (v := 1) hx hb dL_law_516 (by decide) ?_
  refine lv_iadd hx hb dL_law_517 ?_
  refine g_top (y := nI (i + 1)) (nI_add i 1) ?_
  refine va_sld hx hb hX hbl hbA hS (vp_in_nI (show i + 1 < L by omega) (by omega)) dL_law_518 ?_
  rw [nI_clamp (show i + 1 < 2 ^ 31 by omega)]
  refine lv_aload_n hx hb dL_law_519 rfl (lv_at hl 0 rfl) ?_
  refine lv_iload hx hb dL_law_520 (lv_at hl 4 rfl) ?_
  refine lv_iconst (v := 2) hx hb dL_law_522 (by decide) ?_
  refine lv_iadd hx hb dL_law_523 ?_
  refine g_top (y := nI (i + 2)) (nI_add i 2) ?_
  refine va_sld hx hb hX hbl hbA hS (vp_in_nI (show i + 2 < L by omega) (by omega)) dL_law_524 ?_
  rw [nI_clamp (show i + 2 < 2 ^ 31 by omega)]
  refine lv_aload_n hx hb dL_law_525 rfl (lv_at hl 3 rfl) ?_
  obtain ⟨x9, hx9⟩ : ∃ z, z = xs (i + 1) := ⟨_, rfl⟩
  obtain ⟨y9, hy9⟩ : ∃ z, z = xs (i + 2) := ⟨_, rfl⟩
  rw [← hx9]
  rw [← hy9]
  refine g_hlp (As := [.ref (ad 0), .int x9, .int y9, .ref qo]) (rest := []) ⟨hx, hb, hml, hown, hts⟩ (kL_run l hl0 D cs n ad σ qo v hn0 hn4 x9 y9 (2000 * q) hI (by omega)) (vx_cwSW 4 hts gL_law_L_run rfl rfl rfl (by decide +kernel) ⟨Nat.le_of_ble_eq_true rfl, Nat.le_of_ble_eq_true rfl⟩) hK hC hR hO hLD hS hA hXW hl.1 dL_law_526 rfl rfl (Nat.le_of_ble_eq_true rfl) ⟨by show 53 + q + 1 ≤ 601024; omega, by show 2373 + 6 * q + 6 ≤ 7293000; omega⟩ (fun r u H locs hw hC hR hO hS => ?_)
  obtain ⟨hr, hu⟩ := hw
  refine lv_istore (lv' := [(5, .int r), (0, .ref b), (1, .ref (ad 0)), (2, .ref (ad2 0)), (3, .ref qo), (4, .int (nI i))]) hx hb dL_law_529 hl (by decide) rfl (fun ls hl => ?_)
  refine lv_aload_n hx hb dL_law_531 rfl (lv_at hl 3 rfl) ?_
  refine lv_aload_n hx hb dL_law_532 rfl (lv_at hl 1 rfl) ?_
  refine lv_iload hx hb dL_law_533 (lv_at hl 5 rfl) ?_
  refine lv_iconst (v := 1) hx hb dL_law_535 (by decide) ?_
  refine lv_iadd hx hb dL_law_536 ?_
  refine g_top (y := nI (i + 1)) (nI_add i 1) ?_
  refine va_sld hx hb hX hbl hbA hS (vp_in_nI (show i + 1 < L by omega) (by omega)) dL_law_537 ?_
  rw [nI_clamp (show i + 1 < 2 ^ 31 by omega)]
  refine lv_aload_n hx hb dL_law_538 rfl (lv_at hl 1 rfl) ?_
  refine lv_iload hx hb dL_law_539 (lv_at hl 5 rfl) ?_
  refine lv_iconst (v := 2) hx hb dL_law_541 (by decide) ?_
  refine lv_iadd hx hb dL_law_542 ?_
  refine g_top (y := nI (i + 2)) (nI_add i 2) ?_
  refine va_sld hx hb hX hbl hbA hS (vp_in_nI (show i + 2 < L by omega) (by omega)) dL_law_543 ?_
  rw [nI_clamp (show i + 2 < 2 ^ 31 by omega)]
  rw [← hx9]
  rw [← hy9]
  refine g_cvik (As := [.int x9, .int y9]) (rest := []) ⟨hx, hb, hml, hown, hts⟩ (kX5_run l D cs n ad2 th nx σ hn0 hn4 x9 y9 (2000 * q) hI (by omega)) (cwV 2 hts gL_law_X5_run rfl rfl rfl (by decide +kernel) ⟨Nat.le_of_ble_eq_true rfl, Nat.le_of_ble_eq_true rfl⟩) hK hR hLD.2.1 hS hA (cons_P hO hC) (ne_ref hLD) 0 (ci := 5) rfl rfl cr_obj hl.1 dL_law_544 rfl rfl (Nat.le_of_ble_eq_true rfl) ⟨by show 53 + q + 1 ≤ 601024; omega, by show 2373 + 6 * q + 6 ≤ 7293000; omega⟩ (fun r2 nx2 H locs hw2 hR hOC hS => ?_)
  have hO := P_head hOC
  have hC := P_tail hOC
  refine lv_istore (lv' := [(6, .int r2), (5, .int r), (0, .ref b), (1, .ref (ad 0)), (2, .ref (ad2 0)), (3, .ref qo), (4, .int (nI i))]) hx hb dL_law_547 hl (by decide) rfl (fun ls hl => ?_)
  refine lv_aload_n hx hb dL_law_549 rfl (lv_at hl 4 rfl) ?_
  refine g_cvik (As := []) (rest := []) ⟨hx, hb, hml, hown, hts⟩ (kX5_thrown l D cs n ad2 (t1 (0 ≤ y9 ∧ y9 ≤ 2000)) nx2 (if t1 (0 ≤ y9 ∧ y9 ≤ 2000) = 0 then (pRun n (iN y9) x9 0 σ).1 else σ)) (cwV 0 hts gL_law_X5_thrown rfl rfl rfl (by decide +kernel) ⟨Nat.le_of_ble_eq_true rfl, Nat.le_of_ble_eq_true rfl⟩) hK hR hLD.2.1 hS hA (cons_P hO hC) (ne_ref hLD) 0 (ci := 5) rfl rfl cr_obj hl.1 dL_law_550 rfl rfl (Nat.le_of_ble_eq_true rfl) ⟨by show 53 + q + 1 ≤ 601024; omega, by show 2373 + 6 * q + 6 ≤ 7293000; omega⟩ (fun r3 _ H locs hw3 hR hOC hS => ?_)
  have hO := P_head hOC
  have hC := P_tail hOC
  refine lv_iload hx hb dL_law_553 (lv_at hl 1 rfl) ?_
  refine lv_icmp_eq (tgt := 560) hx hb dL_law_555 (by decide) (fun c1 => ?_) (fun c1 => absurd (hw3.trans hr.symm) c1)
  have hI2 : Inv (if t1 (0 ≤ y9 ∧ y9 ≤ 2000) = 0 then (pRun n (iN y9) x9 0 σ).1 else σ) (2000 * (q + 1)) := inv_run (G := 2000 * q) hI hn0 hn4 (by omega)
  refine lv_iload hx hb dL_law_560 (lv_at hl 1 rfl) ?_
  refine lv_if_ne (tgt := 577) hx hb dL_law_562 (by decide) (fun c2 => ?_) (fun c2 => ?_)
  · refine lv_goto (tgt := 932) hx hb dL_law_577 (by decide) ?_
    refine lv_iinc (v := nI (i + 5)) (lv' := [(4, .int (nI (i + 5))), (6, .int r2), (5, .int r), (0, .ref b), (1, .ref (ad 0)), (2, .ref (ad2 0)), (3, .ref qo)]) hx hb dL_law_932 hl (k := 6) rfl (nI_add i 5) (by decide) rfl (fun ls hl => ?_)
    refine lv_goto (tgt := 53) hx hb dL_law_935 (by decide) ?_
    exact next (if t1 (0 ≤ y9 ∧ y9 ≤ 2000) = 0 then (pRun n (iN y9) x9 0 σ).1 else σ) (t1 (0 ≤ y9 ∧ y9 ≤ 2000)) nx2 u _ _ _ (hI2) hC hR hO hS (lv_sub hl [3, 4, 5, 6, 0] rfl)
  · have hT : t1 (0 ≤ y9 ∧ y9 ≤ 2000) = 0 := hr.symm.trans c2
    refine lv_aload_n hx hb dL_law_565 rfl (lv_at hl 5 rfl) ?_
    refine lv_iconst (v := 0) hx hb dL_law_566 (by decide) ?_
    refine va_lald hx hb hK hO 0 2 rfl rfl (show vp_in (nI 0) 1 from vp_in_nI (by decide) (by decide)) dL_law_567 ?_
    refine g_topl (y := r2.toInt64) (by rw [hw2 hT, ← hu hT]; exact if_pos rfl) ?_
    refine lv_iload hx hb dL_law_568 (lv_at hl 0 rfl) ?_
    refine lv_i2l (v := r2.toInt64) hx hb dL_law_570 rfl ?_
    refine W.lcmp hx hb dL_law_571 ?_
    refine lv_if_eq (tgt := 577) hx hb dL_law_572 (by decide) (fun c3 => ?_) (fun c3 => absurd (cmp_self _) c3)
    refine lv_goto (tgt := 932) hx hb dL_law_577 (by decide) ?_
    refine lv_iinc (v := nI (i + 5)) (lv' := [(4, .int (nI (i + 5))), (6, .int r2), (5, .int r), (0, .ref b), (1, .ref (ad 0)), (2, .ref (ad2 0)), (3, .ref qo)]) hx hb dL_law_932 hl (k := 6) rfl (nI_add i 5) (by decide) rfl (fun ls hl => ?_)
    refine lv_goto (tgt := 53) hx hb dL_law_935 (by decide) ?_
    exact next (if t1 (0 ≤ y9 ∧ y9 ≤ 2000) = 0 then (pRun n (iN y9) x9 0 σ).1 else σ) (t1 (0 ≤ y9 ∧ y9 ≤ 2000)) nx2 u _ _ _ (hI2) hC hR hO hS (lv_sub hl [3, 4, 5, 6, 0] rfl)

set_option maxRecDepth 100000 in
set_option maxHeartbeats 4000000 in
theorem law_register {p : Program} {e : Env} {s : State} {m : MethodId} {args : Array Value} {below : List Frame} {meth : Method} {c : Code} {Q : State → Prop} (l : Launch) (hl0 : l.stackTraces = false) {D : va_G} {cs : Nat → ClassId} {n : Nat} {ad ad2 : Nat → Nat} {qo b L i q : Nat} {xs : Nat → Int32} (hn0 : 0 < n) (hn4 : n ≤ 4) (hx : p.tables.exec = Jvm.exec) (hb : c.code = cL_law) (hml : c.maxLocals = 7) (hown : s.vm.findClass RL = some m.cls) (hts : ∀ w ∈ wsL_law, w.before args s = true) (hK : va_K D vwCl (tyL cs) s) (hXW : XW (lA s) s) (hX : va_X b L xs s s.heap) (hbl : b < s.heap.size) (hLD : LD (lA s) (5 * (n + 2)) ad ad2 qo) (hL : L ≤ 2563) (hi5 : i + 5 ≤ L) (hq : q < 512)
    (next : lawAt p l e s m args below meth c Q D cs n ad ad2 qo b (i + 5) (q + 1)) {σ : St} {th nx : Int32} {v : Int64} {H : Heap} {locs : List Loc} {ls : Array Slot} (hI : Inv σ (2000 * q)) (hC : va_P D vwCl (FW (5 * (n + 2)) ad (CC cs n ad σ)) H) (hR : va_P D vwCl (FW 22 ad2 (CR cs n ad2 th nx σ)) H) (hO : va_P D vwCl [oW cs qo v] H) (hS : va_S (lA s) s.heap H locs) (hl : lv_has ls 7 (lawLv b ad ad2 qo i)) : W p l e room_1 s m args below meth c H locs (53 + q) (2373 + 6 * q) Q (F0 m 580 ls []) := by
  have hA : ∀ q : Nat, s.heap.size ≤ q → lA s q := fun _ h => h
  have hbA : ¬ lA s b := Nat.not_le.mpr hbl
  have hi31 : i + 5 < 2 ^ 31 := by omega
  refine lv_aload_n hx hb dL_law_580 rfl (lv_at hl 1 rfl) ?_
  refine lv_aload_n hx hb dL_law_581 rfl (lv_at hl 0 rfl) ?_
  refine lv_iload hx hb dL_law_582 (lv_at hl 4 rfl) ?_
  refine lv_iconst (v := 1) hx hb dL_law_584 (by decide) ?_
  refine lv_iadd hx hb dL_law_585 ?_
  refine g_top (y := nI (i + 1)) (nI_add i 1) ?_
  refine va_sld hx hb hX hbl hbA hS (vp_in_nI (show i + 1 < L by omega) (by omega)) dL_law_586 ?_
  rw [nI_clamp (show i + 1 < 2 ^ 31 by omega)]
  refine lv_aload_n hx hb dL_law_587 rfl (lv_at hl 0 rfl) ?_
  refine lv_iload hx hb dL_law_588 (lv_at hl 4 rfl) ?_
  refine lv_iconst (v := 2) hx hb dL_law_590 (by decide) ?_
  refine lv_iadd hx hb dL_law_591 ?_
  refine g_top (y := nI (i + 2)) (nI_add i 2) ?_
  refine va_sld hx hb hX hbl hbA hS (vp_in_nI (show i + 2 < L by omega) (by omega)) dL_law_592 ?_
  rw [nI_clamp (show i + 2 < 2 ^ 31 by omega)]
  refine lv_aload_n hx hb dL_law_593 rfl (lv_at hl 3 rfl) ?_
  obtain ⟨x9, hx9⟩ : ∃ z, z = xs (i + 1) := ⟨_, rfl⟩
  obtain ⟨y9, hy9⟩ : ∃ z, z = xs (i + 2) := ⟨_, rfl⟩
  rw [← hx9]
  rw [← hy9]
  refine g_hlp (As := [.ref (ad 0), .int x9, .int y9, .ref qo]) (rest := []) ⟨hx, hb, hml, hown, hts⟩ (kL_register l hl0 D cs n ad σ qo v hn4 x9 y9 (2000 * q) hI) (vx_cwSW 4 hts gL_law_L_register rfl rfl rfl (by decide +kernel) ⟨Nat.le_of_ble_eq_true rfl, Nat.le_of_ble_eq_true rfl⟩) hK hC hR hO hLD hS hA hXW hl.1 dL_law_594 rfl rfl (Nat.le_of_ble_eq_true rfl) ⟨by show 53 + q + 1 ≤ 601024; omega, by show 2373 + 6 * q + 6 ≤ 7293000; omega⟩ (fun r u H locs hw hC hR hO hS => ?_)
  obtain ⟨hr, hu⟩ := hw
  refine lv_istore (lv' := [(5, .int r), (0, .ref b), (1, .ref (ad 0)), (2, .ref (ad2 0)), (3, .ref qo), (4, .int (nI i))]) hx hb dL_law_597 hl (by decide) rfl (fun ls hl => ?_)
  refine lv_aload_n hx hb dL_law_599 rfl (lv_at hl 3 rfl) ?_
  refine lv_aload_n hx hb dL_law_600 rfl (lv_at hl 1 rfl) ?_
  refine lv_iload hx hb dL_law_601 (lv_at hl 5 rfl) ?_
  refine lv_iconst (v := 1) hx hb dL_law_603 (by decide) ?_
  refine lv_iadd hx hb dL_law_604 ?_
  refine g_top (y := nI (i + 1)) (nI_add i 1) ?_
  refine va_sld hx hb hX hbl hbA hS (vp_in_nI (show i + 1 < L by omega) (by omega)) dL_law_605 ?_
  rw [nI_clamp (show i + 1 < 2 ^ 31 by omega)]
  refine lv_aload_n hx hb dL_law_606 rfl (lv_at hl 1 rfl) ?_
  refine lv_iload hx hb dL_law_607 (lv_at hl 5 rfl) ?_
  refine lv_iconst (v := 2) hx hb dL_law_609 (by decide) ?_
  refine lv_iadd hx hb dL_law_610 ?_
  refine g_top (y := nI (i + 2)) (nI_add i 2) ?_
  refine va_sld hx hb hX hbl hbA hS (vp_in_nI (show i + 2 < L by omega) (by omega)) dL_law_611 ?_
  rw [nI_clamp (show i + 2 < 2 ^ 31 by omega)]
  rw [← hx9]
  rw [← hy9]
  refine g_cvik (As := [.int x9, .int y9]) (rest := []) ⟨hx, hb, hml, hown, hts⟩ (kX5_register l D cs n ad2 th nx σ hn4 x9 y9 (2000 * q) hI) (cwV 2 hts gL_law_X5_register rfl rfl rfl (by decide +kernel) ⟨Nat.le_of_ble_eq_true rfl, Nat.le_of_ble_eq_true rfl⟩) hK hR hLD.2.1 hS hA (cons_P hO hC) (ne_ref hLD) 0 (ci := 5) rfl rfl cr_obj hl.1 dL_law_612 rfl rfl (Nat.le_of_ble_eq_true rfl) ⟨by show 53 + q + 1 ≤ 601024; omega, by show 2373 + 6 * q + 6 ≤ 7293000; omega⟩ (fun r2 nx2 H locs hw2 hR hOC hS => ?_)
  have hO := P_head hOC
  have hC := P_tail hOC
  refine lv_istore (lv' := [(6, .int r2), (5, .int r), (0, .ref b), (1, .ref (ad 0)), (2, .ref (ad2 0)), (3, .ref qo), (4, .int (nI i))]) hx hb dL_law_615 hl (by decide) rfl (fun ls hl => ?_)
  refine lv_aload_n hx hb dL_law_617 rfl (lv_at hl 4 rfl) ?_
  refine g_cvik (As := []) (rest := []) ⟨hx, hb, hml, hown, hts⟩ (kX5_thrown l D cs n ad2 (t1 ((0 ≤ x9 ∧ x9 < nI n) ∧ (0 ≤ y9 ∧ y9 < 8))) nx2 (if t1 ((0 ≤ x9 ∧ x9 < nI n) ∧ (0 ≤ y9 ∧ y9 < 8)) = 0 then σ else σ)) (cwV 0 hts gL_law_X5_thrown rfl rfl rfl (by decide +kernel) ⟨Nat.le_of_ble_eq_true rfl, Nat.le_of_ble_eq_true rfl⟩) hK hR hLD.2.1 hS hA (cons_P hO hC) (ne_ref hLD) 0 (ci := 5) rfl rfl cr_obj hl.1 dL_law_618 rfl rfl (Nat.le_of_ble_eq_true rfl) ⟨by show 53 + q + 1 ≤ 601024; omega, by show 2373 + 6 * q + 6 ≤ 7293000; omega⟩ (fun r3 _ H locs hw3 hR hOC hS => ?_)
  have hO := P_head hOC
  have hC := P_tail hOC
  refine lv_iload hx hb dL_law_621 (lv_at hl 1 rfl) ?_
  refine lv_icmp_eq (tgt := 628) hx hb dL_law_623 (by decide) (fun c1 => ?_) (fun c1 => absurd (hw3.trans hr.symm) c1)
  have hI2 : Inv (if t1 ((0 ≤ x9 ∧ x9 < nI n) ∧ (0 ≤ y9 ∧ y9 < 8)) = 0 then σ else σ) (2000 * (q + 1)) := inv_register (G := 2000 * q) hI hn0 hn4 (by omega)
  refine lv_iload hx hb dL_law_628 (lv_at hl 1 rfl) ?_
  refine lv_if_ne (tgt := 645) hx hb dL_law_630 (by decide) (fun c2 => ?_) (fun c2 => ?_)
  · refine lv_goto (tgt := 932) hx hb dL_law_645 (by decide) ?_
    refine lv_iinc (v := nI (i + 5)) (lv' := [(4, .int (nI (i + 5))), (6, .int r2), (5, .int r), (0, .ref b), (1, .ref (ad 0)), (2, .ref (ad2 0)), (3, .ref qo)]) hx hb dL_law_932 hl (k := 6) rfl (nI_add i 5) (by decide) rfl (fun ls hl => ?_)
    refine lv_goto (tgt := 53) hx hb dL_law_935 (by decide) ?_
    exact next (if t1 ((0 ≤ x9 ∧ x9 < nI n) ∧ (0 ≤ y9 ∧ y9 < 8)) = 0 then σ else σ) (t1 ((0 ≤ x9 ∧ x9 < nI n) ∧ (0 ≤ y9 ∧ y9 < 8))) nx2 u _ _ _ (hI2) hC hR hO hS (lv_sub hl [3, 4, 5, 6, 0] rfl)
  · have hT : t1 ((0 ≤ x9 ∧ x9 < nI n) ∧ (0 ≤ y9 ∧ y9 < 8)) = 0 := hr.symm.trans c2
    refine lv_aload_n hx hb dL_law_633 rfl (lv_at hl 5 rfl) ?_
    refine lv_iconst (v := 0) hx hb dL_law_634 (by decide) ?_
    refine va_lald hx hb hK hO 0 2 rfl rfl (show vp_in (nI 0) 1 from vp_in_nI (by decide) (by decide)) dL_law_635 ?_
    refine g_topl (y := r2.toInt64) (by rw [hw2 hT, ← hu hT]; exact if_pos rfl) ?_
    refine lv_iload hx hb dL_law_636 (lv_at hl 0 rfl) ?_
    refine lv_i2l (v := r2.toInt64) hx hb dL_law_638 rfl ?_
    refine W.lcmp hx hb dL_law_639 ?_
    refine lv_if_eq (tgt := 645) hx hb dL_law_640 (by decide) (fun c3 => ?_) (fun c3 => absurd (cmp_self _) c3)
    refine lv_goto (tgt := 932) hx hb dL_law_645 (by decide) ?_
    refine lv_iinc (v := nI (i + 5)) (lv' := [(4, .int (nI (i + 5))), (6, .int r2), (5, .int r), (0, .ref b), (1, .ref (ad 0)), (2, .ref (ad2 0)), (3, .ref qo)]) hx hb dL_law_932 hl (k := 6) rfl (nI_add i 5) (by decide) rfl (fun ls hl => ?_)
    refine lv_goto (tgt := 53) hx hb dL_law_935 (by decide) ?_
    exact next (if t1 ((0 ≤ x9 ∧ x9 < nI n) ∧ (0 ≤ y9 ∧ y9 < 8)) = 0 then σ else σ) (t1 ((0 ≤ x9 ∧ x9 < nI n) ∧ (0 ≤ y9 ∧ y9 < 8))) nx2 u _ _ _ (hI2) hC hR hO hS (lv_sub hl [3, 4, 5, 6, 0] rfl)

set_option maxRecDepth 100000 in
set_option maxHeartbeats 4000000 in
theorem law_word {p : Program} {e : Env} {s : State} {m : MethodId} {args : Array Value} {below : List Frame} {meth : Method} {c : Code} {Q : State → Prop} (l : Launch) (hl0 : l.stackTraces = false) {D : va_G} {cs : Nat → ClassId} {n : Nat} {ad ad2 : Nat → Nat} {qo b L i q : Nat} {xs : Nat → Int32} (hn0 : 0 < n) (hn4 : n ≤ 4) (hx : p.tables.exec = Jvm.exec) (hb : c.code = cL_law) (hml : c.maxLocals = 7) (hown : s.vm.findClass RL = some m.cls) (hts : ∀ w ∈ wsL_law, w.before args s = true) (hK : va_K D vwCl (tyL cs) s) (hXW : XW (lA s) s) (hX : va_X b L xs s s.heap) (hbl : b < s.heap.size) (hLD : LD (lA s) (5 * (n + 2)) ad ad2 qo) (hL : L ≤ 2563) (hi5 : i + 5 ≤ L) (hq : q < 512)
    (next : lawAt p l e s m args below meth c Q D cs n ad ad2 qo b (i + 5) (q + 1)) {σ : St} {th nx : Int32} {v : Int64} {H : Heap} {locs : List Loc} {ls : Array Slot} (hI : Inv σ (2000 * q)) (hC : va_P D vwCl (FW (5 * (n + 2)) ad (CC cs n ad σ)) H) (hR : va_P D vwCl (FW 22 ad2 (CR cs n ad2 th nx σ)) H) (hO : va_P D vwCl [oW cs qo v] H) (hS : va_S (lA s) s.heap H locs) (hl : lv_has ls 7 (lawLv b ad ad2 qo i)) : W p l e room_1 s m args below meth c H locs (53 + q) (2373 + 6 * q) Q (F0 m 648 ls []) := by
  have hA : ∀ q : Nat, s.heap.size ≤ q → lA s q := fun _ h => h
  have hbA : ¬ lA s b := Nat.not_le.mpr hbl
  have hi31 : i + 5 < 2 ^ 31 := by omega
  refine lv_aload_n hx hb dL_law_648 rfl (lv_at hl 1 rfl) ?_
  refine lv_aload_n hx hb dL_law_649 rfl (lv_at hl 0 rfl) ?_
  refine lv_iload hx hb dL_law_650 (lv_at hl 4 rfl) ?_
  refine lv_iconst (v := 1) hx hb dL_law_652 (by decide) ?_
  refine lv_iadd hx hb dL_law_653 ?_
  refine g_top (y := nI (i + 1)) (nI_add i 1) ?_
  refine va_sld hx hb hX hbl hbA hS (vp_in_nI (show i + 1 < L by omega) (by omega)) dL_law_654 ?_
  rw [nI_clamp (show i + 1 < 2 ^ 31 by omega)]
  refine lv_aload_n hx hb dL_law_655 rfl (lv_at hl 3 rfl) ?_
  obtain ⟨x9, hx9⟩ : ∃ z, z = xs (i + 1) := ⟨_, rfl⟩
  rw [← hx9]
  refine g_hlp (As := [.ref (ad 0), .int x9, .ref qo]) (rest := []) ⟨hx, hb, hml, hown, hts⟩ (kL_word l hl0 D cs n ad σ qo v hn4 x9 (2000 * q) hI) (vx_cwSW 3 hts gL_law_L_word rfl rfl rfl (by decide +kernel) ⟨Nat.le_of_ble_eq_true rfl, Nat.le_of_ble_eq_true rfl⟩) hK hC hR hO hLD hS hA hXW hl.1 dL_law_656 rfl rfl (Nat.le_of_ble_eq_true rfl) ⟨by show 53 + q + 1 ≤ 601024; omega, by show 2373 + 6 * q + 6 ≤ 7293000; omega⟩ (fun r u H locs hw hC hR hO hS => ?_)
  obtain ⟨hr, hu⟩ := hw
  refine lv_istore (lv' := [(5, .int r), (0, .ref b), (1, .ref (ad 0)), (2, .ref (ad2 0)), (3, .ref qo), (4, .int (nI i))]) hx hb dL_law_659 hl (by decide) rfl (fun ls hl => ?_)
  refine lv_aload_n hx hb dL_law_661 rfl (lv_at hl 3 rfl) ?_
  refine lv_aload_n hx hb dL_law_662 rfl (lv_at hl 1 rfl) ?_
  refine lv_iload hx hb dL_law_663 (lv_at hl 5 rfl) ?_
  refine lv_iconst (v := 1) hx hb dL_law_665 (by decide) ?_
  refine lv_iadd hx hb dL_law_666 ?_
  refine g_top (y := nI (i + 1)) (nI_add i 1) ?_
  refine va_sld hx hb hX hbl hbA hS (vp_in_nI (show i + 1 < L by omega) (by omega)) dL_law_667 ?_
  rw [nI_clamp (show i + 1 < 2 ^ 31 by omega)]
  rw [← hx9]
  refine g_cvik (As := [.int x9]) (rest := []) ⟨hx, hb, hml, hown, hts⟩ (kX5_word l D cs n ad2 th nx σ hn4 x9 (2000 * q) hI) (cwV 1 hts gL_law_X5_word rfl rfl rfl (by decide +kernel) ⟨Nat.le_of_ble_eq_true rfl, Nat.le_of_ble_eq_true rfl⟩) hK hR hLD.2.1 hS hA (cons_P hO hC) (ne_ref hLD) 0 (ci := 5) rfl rfl cr_obj hl.1 dL_law_668 rfl rfl (Nat.le_of_ble_eq_true rfl) ⟨by show 53 + q + 1 ≤ 601024; omega, by show 2373 + 6 * q + 6 ≤ 7293000; omega⟩ (fun r2 nx2 H locs hw2 hR hOC hS => ?_)
  have hO := P_head hOC
  have hC := P_tail hOC
  refine lv_istore (lv' := [(6, .int r2), (5, .int r), (0, .ref b), (1, .ref (ad 0)), (2, .ref (ad2 0)), (3, .ref qo), (4, .int (nI i))]) hx hb dL_law_671 hl (by decide) rfl (fun ls hl => ?_)
  refine lv_aload_n hx hb dL_law_673 rfl (lv_at hl 4 rfl) ?_
  refine g_cvik (As := []) (rest := []) ⟨hx, hb, hml, hown, hts⟩ (kX5_thrown l D cs n ad2 (t1 (0 ≤ x9 ∧ x9 < 64)) nx2 (if t1 (0 ≤ x9 ∧ x9 < 64) = 0 then σ else σ)) (cwV 0 hts gL_law_X5_thrown rfl rfl rfl (by decide +kernel) ⟨Nat.le_of_ble_eq_true rfl, Nat.le_of_ble_eq_true rfl⟩) hK hR hLD.2.1 hS hA (cons_P hO hC) (ne_ref hLD) 0 (ci := 5) rfl rfl cr_obj hl.1 dL_law_674 rfl rfl (Nat.le_of_ble_eq_true rfl) ⟨by show 53 + q + 1 ≤ 601024; omega, by show 2373 + 6 * q + 6 ≤ 7293000; omega⟩ (fun r3 _ H locs hw3 hR hOC hS => ?_)
  have hO := P_head hOC
  have hC := P_tail hOC
  refine lv_iload hx hb dL_law_677 (lv_at hl 1 rfl) ?_
  refine lv_icmp_eq (tgt := 684) hx hb dL_law_679 (by decide) (fun c1 => ?_) (fun c1 => absurd (hw3.trans hr.symm) c1)
  have hI2 : Inv (if t1 (0 ≤ x9 ∧ x9 < 64) = 0 then σ else σ) (2000 * (q + 1)) := inv_word (G := 2000 * q) hI hn0 hn4 (by omega)
  refine lv_iload hx hb dL_law_684 (lv_at hl 1 rfl) ?_
  refine lv_if_ne (tgt := 701) hx hb dL_law_686 (by decide) (fun c2 => ?_) (fun c2 => ?_)
  · refine lv_goto (tgt := 932) hx hb dL_law_701 (by decide) ?_
    refine lv_iinc (v := nI (i + 5)) (lv' := [(4, .int (nI (i + 5))), (6, .int r2), (5, .int r), (0, .ref b), (1, .ref (ad 0)), (2, .ref (ad2 0)), (3, .ref qo)]) hx hb dL_law_932 hl (k := 6) rfl (nI_add i 5) (by decide) rfl (fun ls hl => ?_)
    refine lv_goto (tgt := 53) hx hb dL_law_935 (by decide) ?_
    exact next (if t1 (0 ≤ x9 ∧ x9 < 64) = 0 then σ else σ) (t1 (0 ≤ x9 ∧ x9 < 64)) nx2 u _ _ _ (hI2) hC hR hO hS (lv_sub hl [3, 4, 5, 6, 0] rfl)
  · have hT : t1 (0 ≤ x9 ∧ x9 < 64) = 0 := hr.symm.trans c2
    refine lv_aload_n hx hb dL_law_689 rfl (lv_at hl 5 rfl) ?_
    refine lv_iconst (v := 0) hx hb dL_law_690 (by decide) ?_
    refine va_lald hx hb hK hO 0 2 rfl rfl (show vp_in (nI 0) 1 from vp_in_nI (by decide) (by decide)) dL_law_691 ?_
    refine g_topl (y := r2.toInt64) (by rw [hw2 hT, ← hu hT]; exact if_pos rfl) ?_
    refine lv_iload hx hb dL_law_692 (lv_at hl 0 rfl) ?_
    refine lv_i2l (v := r2.toInt64) hx hb dL_law_694 rfl ?_
    refine W.lcmp hx hb dL_law_695 ?_
    refine lv_if_eq (tgt := 701) hx hb dL_law_696 (by decide) (fun c3 => ?_) (fun c3 => absurd (cmp_self _) c3)
    refine lv_goto (tgt := 932) hx hb dL_law_701 (by decide) ?_
    refine lv_iinc (v := nI (i + 5)) (lv' := [(4, .int (nI (i + 5))), (6, .int r2), (5, .int r), (0, .ref b), (1, .ref (ad 0)), (2, .ref (ad2 0)), (3, .ref qo)]) hx hb dL_law_932 hl (k := 6) rfl (nI_add i 5) (by decide) rfl (fun ls hl => ?_)
    refine lv_goto (tgt := 53) hx hb dL_law_935 (by decide) ?_
    exact next (if t1 (0 ≤ x9 ∧ x9 < 64) = 0 then σ else σ) (t1 (0 ≤ x9 ∧ x9 < 64)) nx2 u _ _ _ (hI2) hC hR hO hS (lv_sub hl [3, 4, 5, 6, 0] rfl)

set_option maxRecDepth 100000 in
set_option maxHeartbeats 4000000 in
theorem law_seen {p : Program} {e : Env} {s : State} {m : MethodId} {args : Array Value} {below : List Frame} {meth : Method} {c : Code} {Q : State → Prop} (l : Launch) (hl0 : l.stackTraces = false) {D : va_G} {cs : Nat → ClassId} {n : Nat} {ad ad2 : Nat → Nat} {qo b L i q : Nat} {xs : Nat → Int32} (hn0 : 0 < n) (hn4 : n ≤ 4) (hx : p.tables.exec = Jvm.exec) (hb : c.code = cL_law) (hml : c.maxLocals = 7) (hown : s.vm.findClass RL = some m.cls) (hts : ∀ w ∈ wsL_law, w.before args s = true) (hK : va_K D vwCl (tyL cs) s) (hXW : XW (lA s) s) (hX : va_X b L xs s s.heap) (hbl : b < s.heap.size) (hLD : LD (lA s) (5 * (n + 2)) ad ad2 qo) (hL : L ≤ 2563) (hi5 : i + 5 ≤ L) (hq : q < 512)
    (next : lawAt p l e s m args below meth c Q D cs n ad ad2 qo b (i + 5) (q + 1)) {σ : St} {th nx : Int32} {v : Int64} {H : Heap} {locs : List Loc} {ls : Array Slot} (hI : Inv σ (2000 * q)) (hC : va_P D vwCl (FW (5 * (n + 2)) ad (CC cs n ad σ)) H) (hR : va_P D vwCl (FW 22 ad2 (CR cs n ad2 th nx σ)) H) (hO : va_P D vwCl [oW cs qo v] H) (hS : va_S (lA s) s.heap H locs) (hl : lv_has ls 7 (lawLv b ad ad2 qo i)) : W p l e room_1 s m args below meth c H locs (53 + q) (2373 + 6 * q) Q (F0 m 704 ls []) := by
  have hA : ∀ q : Nat, s.heap.size ≤ q → lA s q := fun _ h => h
  have hbA : ¬ lA s b := Nat.not_le.mpr hbl
  have hi31 : i + 5 < 2 ^ 31 := by omega
  refine lv_aload_n hx hb dL_law_704 rfl (lv_at hl 1 rfl) ?_
  refine lv_aload_n hx hb dL_law_705 rfl (lv_at hl 0 rfl) ?_
  refine lv_iload hx hb dL_law_706 (lv_at hl 4 rfl) ?_
  refine lv_iconst (v := 1) hx hb dL_law_708 (by decide) ?_
  refine lv_iadd hx hb dL_law_709 ?_
  refine g_top (y := nI (i + 1)) (nI_add i 1) ?_
  refine va_sld hx hb hX hbl hbA hS (vp_in_nI (show i + 1 < L by omega) (by omega)) dL_law_710 ?_
  rw [nI_clamp (show i + 1 < 2 ^ 31 by omega)]
  refine lv_aload_n hx hb dL_law_711 rfl (lv_at hl 0 rfl) ?_
  refine lv_iload hx hb dL_law_712 (lv_at hl 4 rfl) ?_
  refine lv_iconst (v := 2) hx hb dL_law_714 (by decide) ?_
  refine lv_iadd hx hb dL_law_715 ?_
  refine g_top (y := nI (i + 2)) (nI_add i 2) ?_
  refine va_sld hx hb hX hbl hbA hS (vp_in_nI (show i + 2 < L by omega) (by omega)) dL_law_716 ?_
  rw [nI_clamp (show i + 2 < 2 ^ 31 by omega)]
  refine lv_aload_n hx hb dL_law_717 rfl (lv_at hl 3 rfl) ?_
  obtain ⟨x9, hx9⟩ : ∃ z, z = xs (i + 1) := ⟨_, rfl⟩
  obtain ⟨y9, hy9⟩ : ∃ z, z = xs (i + 2) := ⟨_, rfl⟩
  rw [← hx9]
  rw [← hy9]
  refine g_hlp (As := [.ref (ad 0), .int x9, .int y9, .ref qo]) (rest := []) ⟨hx, hb, hml, hown, hts⟩ (kL_seen l hl0 D cs n ad σ qo v hn4 x9 y9 (2000 * q) hI) (vx_cwSW 4 hts gL_law_L_seen rfl rfl rfl (by decide +kernel) ⟨Nat.le_of_ble_eq_true rfl, Nat.le_of_ble_eq_true rfl⟩) hK hC hR hO hLD hS hA hXW hl.1 dL_law_718 rfl rfl (Nat.le_of_ble_eq_true rfl) ⟨by show 53 + q + 1 ≤ 601024; omega, by show 2373 + 6 * q + 6 ≤ 7293000; omega⟩ (fun r u H locs hw hC hR hO hS => ?_)
  obtain ⟨hr, hu⟩ := hw
  refine lv_istore (lv' := [(5, .int r), (0, .ref b), (1, .ref (ad 0)), (2, .ref (ad2 0)), (3, .ref qo), (4, .int (nI i))]) hx hb dL_law_721 hl (by decide) rfl (fun ls hl => ?_)
  refine lv_aload_n hx hb dL_law_723 rfl (lv_at hl 3 rfl) ?_
  refine lv_aload_n hx hb dL_law_724 rfl (lv_at hl 1 rfl) ?_
  refine lv_iload hx hb dL_law_725 (lv_at hl 5 rfl) ?_
  refine lv_iconst (v := 1) hx hb dL_law_727 (by decide) ?_
  refine lv_iadd hx hb dL_law_728 ?_
  refine g_top (y := nI (i + 1)) (nI_add i 1) ?_
  refine va_sld hx hb hX hbl hbA hS (vp_in_nI (show i + 1 < L by omega) (by omega)) dL_law_729 ?_
  rw [nI_clamp (show i + 1 < 2 ^ 31 by omega)]
  refine lv_aload_n hx hb dL_law_730 rfl (lv_at hl 1 rfl) ?_
  refine lv_iload hx hb dL_law_731 (lv_at hl 5 rfl) ?_
  refine lv_iconst (v := 2) hx hb dL_law_733 (by decide) ?_
  refine lv_iadd hx hb dL_law_734 ?_
  refine g_top (y := nI (i + 2)) (nI_add i 2) ?_
  refine va_sld hx hb hX hbl hbA hS (vp_in_nI (show i + 2 < L by omega) (by omega)) dL_law_735 ?_
  rw [nI_clamp (show i + 2 < 2 ^ 31 by omega)]
  rw [← hx9]
  rw [← hy9]
  refine g_cvik (As := [.int x9, .int y9]) (rest := []) ⟨hx, hb, hml, hown, hts⟩ (kX5_seen l D cs n ad2 th nx σ hn4 x9 y9 (2000 * q) hI) (cwV 2 hts gL_law_X5_seen rfl rfl rfl (by decide +kernel) ⟨Nat.le_of_ble_eq_true rfl, Nat.le_of_ble_eq_true rfl⟩) hK hR hLD.2.1 hS hA (cons_P hO hC) (ne_ref hLD) 0 (ci := 5) rfl rfl cr_obj hl.1 dL_law_736 rfl rfl (Nat.le_of_ble_eq_true rfl) ⟨by show 53 + q + 1 ≤ 601024; omega, by show 2373 + 6 * q + 6 ≤ 7293000; omega⟩ (fun r2 nx2 H locs hw2 hR hOC hS => ?_)
  have hO := P_head hOC
  have hC := P_tail hOC
  refine lv_istore (lv' := [(6, .int r2), (5, .int r), (0, .ref b), (1, .ref (ad 0)), (2, .ref (ad2 0)), (3, .ref qo), (4, .int (nI i))]) hx hb dL_law_739 hl (by decide) rfl (fun ls hl => ?_)
  refine lv_aload_n hx hb dL_law_741 rfl (lv_at hl 4 rfl) ?_
  refine g_cvik (As := []) (rest := []) ⟨hx, hb, hml, hown, hts⟩ (kX5_thrown l D cs n ad2 (t1 ((0 ≤ x9 ∧ x9 < nI n) ∧ (0 ≤ y9 ∧ y9 < 64))) nx2 (if t1 ((0 ≤ x9 ∧ x9 < nI n) ∧ (0 ≤ y9 ∧ y9 < 64)) = 0 then σ else σ)) (cwV 0 hts gL_law_X5_thrown rfl rfl rfl (by decide +kernel) ⟨Nat.le_of_ble_eq_true rfl, Nat.le_of_ble_eq_true rfl⟩) hK hR hLD.2.1 hS hA (cons_P hO hC) (ne_ref hLD) 0 (ci := 5) rfl rfl cr_obj hl.1 dL_law_742 rfl rfl (Nat.le_of_ble_eq_true rfl) ⟨by show 53 + q + 1 ≤ 601024; omega, by show 2373 + 6 * q + 6 ≤ 7293000; omega⟩ (fun r3 _ H locs hw3 hR hOC hS => ?_)
  have hO := P_head hOC
  have hC := P_tail hOC
  refine lv_iload hx hb dL_law_745 (lv_at hl 1 rfl) ?_
  refine lv_icmp_eq (tgt := 752) hx hb dL_law_747 (by decide) (fun c1 => ?_) (fun c1 => absurd (hw3.trans hr.symm) c1)
  have hI2 : Inv (if t1 ((0 ≤ x9 ∧ x9 < nI n) ∧ (0 ≤ y9 ∧ y9 < 64)) = 0 then σ else σ) (2000 * (q + 1)) := inv_seen (G := 2000 * q) hI hn0 hn4 (by omega)
  refine lv_iload hx hb dL_law_752 (lv_at hl 1 rfl) ?_
  refine lv_if_ne (tgt := 769) hx hb dL_law_754 (by decide) (fun c2 => ?_) (fun c2 => ?_)
  · refine lv_goto (tgt := 932) hx hb dL_law_769 (by decide) ?_
    refine lv_iinc (v := nI (i + 5)) (lv' := [(4, .int (nI (i + 5))), (6, .int r2), (5, .int r), (0, .ref b), (1, .ref (ad 0)), (2, .ref (ad2 0)), (3, .ref qo)]) hx hb dL_law_932 hl (k := 6) rfl (nI_add i 5) (by decide) rfl (fun ls hl => ?_)
    refine lv_goto (tgt := 53) hx hb dL_law_935 (by decide) ?_
    exact next (if t1 ((0 ≤ x9 ∧ x9 < nI n) ∧ (0 ≤ y9 ∧ y9 < 64)) = 0 then σ else σ) (t1 ((0 ≤ x9 ∧ x9 < nI n) ∧ (0 ≤ y9 ∧ y9 < 64))) nx2 u _ _ _ (hI2) hC hR hO hS (lv_sub hl [3, 4, 5, 6, 0] rfl)
  · have hT : t1 ((0 ≤ x9 ∧ x9 < nI n) ∧ (0 ≤ y9 ∧ y9 < 64)) = 0 := hr.symm.trans c2
    refine lv_aload_n hx hb dL_law_757 rfl (lv_at hl 5 rfl) ?_
    refine lv_iconst (v := 0) hx hb dL_law_758 (by decide) ?_
    refine va_lald hx hb hK hO 0 2 rfl rfl (show vp_in (nI 0) 1 from vp_in_nI (by decide) (by decide)) dL_law_759 ?_
    refine g_topl (y := r2.toInt64) (by rw [hw2 hT, ← hu hT]; exact if_pos rfl) ?_
    refine lv_iload hx hb dL_law_760 (lv_at hl 0 rfl) ?_
    refine lv_i2l (v := r2.toInt64) hx hb dL_law_762 rfl ?_
    refine W.lcmp hx hb dL_law_763 ?_
    refine lv_if_eq (tgt := 769) hx hb dL_law_764 (by decide) (fun c3 => ?_) (fun c3 => absurd (cmp_self _) c3)
    refine lv_goto (tgt := 932) hx hb dL_law_769 (by decide) ?_
    refine lv_iinc (v := nI (i + 5)) (lv' := [(4, .int (nI (i + 5))), (6, .int r2), (5, .int r), (0, .ref b), (1, .ref (ad 0)), (2, .ref (ad2 0)), (3, .ref qo)]) hx hb dL_law_932 hl (k := 6) rfl (nI_add i 5) (by decide) rfl (fun ls hl => ?_)
    refine lv_goto (tgt := 53) hx hb dL_law_935 (by decide) ?_
    exact next (if t1 ((0 ≤ x9 ∧ x9 < nI n) ∧ (0 ≤ y9 ∧ y9 < 64)) = 0 then σ else σ) (t1 ((0 ≤ x9 ∧ x9 < nI n) ∧ (0 ≤ y9 ∧ y9 < 64))) nx2 u _ _ _ (hI2) hC hR hO hS (lv_sub hl [3, 4, 5, 6, 0] rfl)

set_option maxRecDepth 100000 in
set_option maxHeartbeats 4000000 in
theorem law_told {p : Program} {e : Env} {s : State} {m : MethodId} {args : Array Value} {below : List Frame} {meth : Method} {c : Code} {Q : State → Prop} (l : Launch) (hl0 : l.stackTraces = false) {D : va_G} {cs : Nat → ClassId} {n : Nat} {ad ad2 : Nat → Nat} {qo b L i q : Nat} {xs : Nat → Int32} (hn0 : 0 < n) (hn4 : n ≤ 4) (hx : p.tables.exec = Jvm.exec) (hb : c.code = cL_law) (hml : c.maxLocals = 7) (hown : s.vm.findClass RL = some m.cls) (hts : ∀ w ∈ wsL_law, w.before args s = true) (hK : va_K D vwCl (tyL cs) s) (hXW : XW (lA s) s) (hX : va_X b L xs s s.heap) (hbl : b < s.heap.size) (hLD : LD (lA s) (5 * (n + 2)) ad ad2 qo) (hL : L ≤ 2563) (hi5 : i + 5 ≤ L) (hq : q < 512)
    (next : lawAt p l e s m args below meth c Q D cs n ad ad2 qo b (i + 5) (q + 1)) {σ : St} {th nx : Int32} {v : Int64} {H : Heap} {locs : List Loc} {ls : Array Slot} (hI : Inv σ (2000 * q)) (hC : va_P D vwCl (FW (5 * (n + 2)) ad (CC cs n ad σ)) H) (hR : va_P D vwCl (FW 22 ad2 (CR cs n ad2 th nx σ)) H) (hO : va_P D vwCl [oW cs qo v] H) (hS : va_S (lA s) s.heap H locs) (hl : lv_has ls 7 (lawLv b ad ad2 qo i)) : W p l e room_1 s m args below meth c H locs (53 + q) (2373 + 6 * q) Q (F0 m 772 ls []) := by
  have hA : ∀ q : Nat, s.heap.size ≤ q → lA s q := fun _ h => h
  have hbA : ¬ lA s b := Nat.not_le.mpr hbl
  have hi31 : i + 5 < 2 ^ 31 := by omega
  refine lv_aload_n hx hb dL_law_772 rfl (lv_at hl 1 rfl) ?_
  refine lv_aload_n hx hb dL_law_773 rfl (lv_at hl 0 rfl) ?_
  refine lv_iload hx hb dL_law_774 (lv_at hl 4 rfl) ?_
  refine lv_iconst (v := 1) hx hb dL_law_776 (by decide) ?_
  refine lv_iadd hx hb dL_law_777 ?_
  refine g_top (y := nI (i + 1)) (nI_add i 1) ?_
  refine va_sld hx hb hX hbl hbA hS (vp_in_nI (show i + 1 < L by omega) (by omega)) dL_law_778 ?_
  rw [nI_clamp (show i + 1 < 2 ^ 31 by omega)]
  refine lv_aload_n hx hb dL_law_779 rfl (lv_at hl 0 rfl) ?_
  refine lv_iload hx hb dL_law_780 (lv_at hl 4 rfl) ?_
  refine lv_iconst (v := 2) hx hb dL_law_782 (by decide) ?_
  refine lv_iadd hx hb dL_law_783 ?_
  refine g_top (y := nI (i + 2)) (nI_add i 2) ?_
  refine va_sld hx hb hX hbl hbA hS (vp_in_nI (show i + 2 < L by omega) (by omega)) dL_law_784 ?_
  rw [nI_clamp (show i + 2 < 2 ^ 31 by omega)]
  refine lv_aload_n hx hb dL_law_785 rfl (lv_at hl 3 rfl) ?_
  obtain ⟨x9, hx9⟩ : ∃ z, z = xs (i + 1) := ⟨_, rfl⟩
  obtain ⟨y9, hy9⟩ : ∃ z, z = xs (i + 2) := ⟨_, rfl⟩
  rw [← hx9]
  rw [← hy9]
  refine g_hlp (As := [.ref (ad 0), .int x9, .int y9, .ref qo]) (rest := []) ⟨hx, hb, hml, hown, hts⟩ (kL_told l hl0 D cs n ad σ qo v hn4 x9 y9 (2000 * q) hI) (vx_cwSW 4 hts gL_law_L_told rfl rfl rfl (by decide +kernel) ⟨Nat.le_of_ble_eq_true rfl, Nat.le_of_ble_eq_true rfl⟩) hK hC hR hO hLD hS hA hXW hl.1 dL_law_786 rfl rfl (Nat.le_of_ble_eq_true rfl) ⟨by show 53 + q + 1 ≤ 601024; omega, by show 2373 + 6 * q + 6 ≤ 7293000; omega⟩ (fun r u H locs hw hC hR hO hS => ?_)
  obtain ⟨hr, hu⟩ := hw
  refine lv_istore (lv' := [(5, .int r), (0, .ref b), (1, .ref (ad 0)), (2, .ref (ad2 0)), (3, .ref qo), (4, .int (nI i))]) hx hb dL_law_789 hl (by decide) rfl (fun ls hl => ?_)
  refine lv_aload_n hx hb dL_law_791 rfl (lv_at hl 3 rfl) ?_
  refine lv_aload_n hx hb dL_law_792 rfl (lv_at hl 1 rfl) ?_
  refine lv_iload hx hb dL_law_793 (lv_at hl 5 rfl) ?_
  refine lv_iconst (v := 1) hx hb dL_law_795 (by decide) ?_
  refine lv_iadd hx hb dL_law_796 ?_
  refine g_top (y := nI (i + 1)) (nI_add i 1) ?_
  refine va_sld hx hb hX hbl hbA hS (vp_in_nI (show i + 1 < L by omega) (by omega)) dL_law_797 ?_
  rw [nI_clamp (show i + 1 < 2 ^ 31 by omega)]
  refine lv_aload_n hx hb dL_law_798 rfl (lv_at hl 1 rfl) ?_
  refine lv_iload hx hb dL_law_799 (lv_at hl 5 rfl) ?_
  refine lv_iconst (v := 2) hx hb dL_law_801 (by decide) ?_
  refine lv_iadd hx hb dL_law_802 ?_
  refine g_top (y := nI (i + 2)) (nI_add i 2) ?_
  refine va_sld hx hb hX hbl hbA hS (vp_in_nI (show i + 2 < L by omega) (by omega)) dL_law_803 ?_
  rw [nI_clamp (show i + 2 < 2 ^ 31 by omega)]
  rw [← hx9]
  rw [← hy9]
  refine g_cvik (As := [.int x9, .int y9]) (rest := []) ⟨hx, hb, hml, hown, hts⟩ (kX5_told l D cs n ad2 th nx σ hn4 x9 y9 (2000 * q) hI) (cwV 2 hts gL_law_X5_told rfl rfl rfl (by decide +kernel) ⟨Nat.le_of_ble_eq_true rfl, Nat.le_of_ble_eq_true rfl⟩) hK hR hLD.2.1 hS hA (cons_P hO hC) (ne_ref hLD) 0 (ci := 5) rfl rfl cr_obj hl.1 dL_law_804 rfl rfl (Nat.le_of_ble_eq_true rfl) ⟨by show 53 + q + 1 ≤ 601024; omega, by show 2373 + 6 * q + 6 ≤ 7293000; omega⟩ (fun r2 nx2 H locs hw2 hR hOC hS => ?_)
  have hO := P_head hOC
  have hC := P_tail hOC
  refine lv_istore (lv' := [(6, .int r2), (5, .int r), (0, .ref b), (1, .ref (ad 0)), (2, .ref (ad2 0)), (3, .ref qo), (4, .int (nI i))]) hx hb dL_law_807 hl (by decide) rfl (fun ls hl => ?_)
  refine lv_aload_n hx hb dL_law_809 rfl (lv_at hl 4 rfl) ?_
  refine g_cvik (As := []) (rest := []) ⟨hx, hb, hml, hown, hts⟩ (kX5_thrown l D cs n ad2 (t2 (0 ≤ x9 ∧ x9 < nI n) (0 ≤ y9 ∧ y9 < 10)) nx2 (if t2 (0 ≤ x9 ∧ x9 < nI n) (0 ≤ y9 ∧ y9 < 10) = 0 then σ else σ)) (cwV 0 hts gL_law_X5_thrown rfl rfl rfl (by decide +kernel) ⟨Nat.le_of_ble_eq_true rfl, Nat.le_of_ble_eq_true rfl⟩) hK hR hLD.2.1 hS hA (cons_P hO hC) (ne_ref hLD) 0 (ci := 5) rfl rfl cr_obj hl.1 dL_law_810 rfl rfl (Nat.le_of_ble_eq_true rfl) ⟨by show 53 + q + 1 ≤ 601024; omega, by show 2373 + 6 * q + 6 ≤ 7293000; omega⟩ (fun r3 _ H locs hw3 hR hOC hS => ?_)
  have hO := P_head hOC
  have hC := P_tail hOC
  refine lv_iload hx hb dL_law_813 (lv_at hl 1 rfl) ?_
  refine lv_icmp_eq (tgt := 820) hx hb dL_law_815 (by decide) (fun c1 => ?_) (fun c1 => absurd (hw3.trans hr.symm) c1)
  have hI2 : Inv (if t2 (0 ≤ x9 ∧ x9 < nI n) (0 ≤ y9 ∧ y9 < 10) = 0 then σ else σ) (2000 * (q + 1)) := inv_told (G := 2000 * q) hI hn0 hn4 (by omega)
  refine lv_iload hx hb dL_law_820 (lv_at hl 1 rfl) ?_
  refine lv_if_ne (tgt := 837) hx hb dL_law_822 (by decide) (fun c2 => ?_) (fun c2 => ?_)
  · refine lv_goto (tgt := 932) hx hb dL_law_837 (by decide) ?_
    refine lv_iinc (v := nI (i + 5)) (lv' := [(4, .int (nI (i + 5))), (6, .int r2), (5, .int r), (0, .ref b), (1, .ref (ad 0)), (2, .ref (ad2 0)), (3, .ref qo)]) hx hb dL_law_932 hl (k := 6) rfl (nI_add i 5) (by decide) rfl (fun ls hl => ?_)
    refine lv_goto (tgt := 53) hx hb dL_law_935 (by decide) ?_
    exact next (if t2 (0 ≤ x9 ∧ x9 < nI n) (0 ≤ y9 ∧ y9 < 10) = 0 then σ else σ) (t2 (0 ≤ x9 ∧ x9 < nI n) (0 ≤ y9 ∧ y9 < 10)) nx2 u _ _ _ (hI2) hC hR hO hS (lv_sub hl [3, 4, 5, 6, 0] rfl)
  · have hT : t2 (0 ≤ x9 ∧ x9 < nI n) (0 ≤ y9 ∧ y9 < 10) = 0 := hr.symm.trans c2
    refine lv_aload_n hx hb dL_law_825 rfl (lv_at hl 5 rfl) ?_
    refine lv_iconst (v := 0) hx hb dL_law_826 (by decide) ?_
    refine va_lald hx hb hK hO 0 2 rfl rfl (show vp_in (nI 0) 1 from vp_in_nI (by decide) (by decide)) dL_law_827 ?_
    refine g_topl (y := r2.toInt64) (by rw [hw2 hT, ← hu hT]; exact if_pos rfl) ?_
    refine lv_iload hx hb dL_law_828 (lv_at hl 0 rfl) ?_
    refine lv_i2l (v := r2.toInt64) hx hb dL_law_830 rfl ?_
    refine W.lcmp hx hb dL_law_831 ?_
    refine lv_if_eq (tgt := 837) hx hb dL_law_832 (by decide) (fun c3 => ?_) (fun c3 => absurd (cmp_self _) c3)
    refine lv_goto (tgt := 932) hx hb dL_law_837 (by decide) ?_
    refine lv_iinc (v := nI (i + 5)) (lv' := [(4, .int (nI (i + 5))), (6, .int r2), (5, .int r), (0, .ref b), (1, .ref (ad 0)), (2, .ref (ad2 0)), (3, .ref qo)]) hx hb dL_law_932 hl (k := 6) rfl (nI_add i 5) (by decide) rfl (fun ls hl => ?_)
    refine lv_goto (tgt := 53) hx hb dL_law_935 (by decide) ?_
    exact next (if t2 (0 ≤ x9 ∧ x9 < nI n) (0 ≤ y9 ∧ y9 < 10) = 0 then σ else σ) (t2 (0 ≤ x9 ∧ x9 < nI n) (0 ≤ y9 ∧ y9 < 10)) nx2 u _ _ _ (hI2) hC hR hO hS (lv_sub hl [3, 4, 5, 6, 0] rfl)

set_option maxRecDepth 100000 in
set_option maxHeartbeats 4000000 in
theorem law_record {p : Program} {e : Env} {s : State} {m : MethodId} {args : Array Value} {below : List Frame} {meth : Method} {c : Code} {Q : State → Prop} (l : Launch) (hl0 : l.stackTraces = false) {D : va_G} {cs : Nat → ClassId} {n : Nat} {ad ad2 : Nat → Nat} {qo b L i q : Nat} {xs : Nat → Int32} (hn0 : 0 < n) (hn4 : n ≤ 4) (hx : p.tables.exec = Jvm.exec) (hb : c.code = cL_law) (hml : c.maxLocals = 7) (hown : s.vm.findClass RL = some m.cls) (hts : ∀ w ∈ wsL_law, w.before args s = true) (hK : va_K D vwCl (tyL cs) s) (hXW : XW (lA s) s) (hX : va_X b L xs s s.heap) (hbl : b < s.heap.size) (hLD : LD (lA s) (5 * (n + 2)) ad ad2 qo) (hL : L ≤ 2563) (hi5 : i + 5 ≤ L) (hq : q < 512)
    (next : lawAt p l e s m args below meth c Q D cs n ad ad2 qo b (i + 5) (q + 1)) {σ : St} {th nx : Int32} {v : Int64} {H : Heap} {locs : List Loc} {ls : Array Slot} (hI : Inv σ (2000 * q)) (hC : va_P D vwCl (FW (5 * (n + 2)) ad (CC cs n ad σ)) H) (hR : va_P D vwCl (FW 22 ad2 (CR cs n ad2 th nx σ)) H) (hO : va_P D vwCl [oW cs qo v] H) (hS : va_S (lA s) s.heap H locs) (hl : lv_has ls 7 (lawLv b ad ad2 qo i)) : W p l e room_1 s m args below meth c H locs (53 + q) (2373 + 6 * q) Q (F0 m 853 ls []) := by
  have hA : ∀ q : Nat, s.heap.size ≤ q → lA s q := fun _ h => h
  have hbA : ¬ lA s b := Nat.not_le.mpr hbl
  have hi31 : i + 5 < 2 ^ 31 := by omega
  refine lv_aload_n hx hb dL_law_853 rfl (lv_at hl 1 rfl) ?_
  refine lv_aload_n hx hb dL_law_854 rfl (lv_at hl 0 rfl) ?_
  refine lv_iload hx hb dL_law_855 (lv_at hl 4 rfl) ?_
  refine lv_iconst (v := 1) hx hb dL_law_857 (by decide) ?_
  refine lv_iadd hx hb dL_law_858 ?_
  refine g_top (y := nI (i + 1)) (nI_add i 1) ?_
  refine va_sld hx hb hX hbl hbA hS (vp_in_nI (show i + 1 < L by omega) (by omega)) dL_law_859 ?_
  rw [nI_clamp (show i + 1 < 2 ^ 31 by omega)]
  refine lv_aload_n hx hb dL_law_860 rfl (lv_at hl 0 rfl) ?_
  refine lv_iload hx hb dL_law_861 (lv_at hl 4 rfl) ?_
  refine lv_iconst (v := 2) hx hb dL_law_863 (by decide) ?_
  refine lv_iadd hx hb dL_law_864 ?_
  refine g_top (y := nI (i + 2)) (nI_add i 2) ?_
  refine va_sld hx hb hX hbl hbA hS (vp_in_nI (show i + 2 < L by omega) (by omega)) dL_law_865 ?_
  rw [nI_clamp (show i + 2 < 2 ^ 31 by omega)]
  refine lv_aload_n hx hb dL_law_866 rfl (lv_at hl 3 rfl) ?_
  obtain ⟨x9, hx9⟩ : ∃ z, z = xs (i + 1) := ⟨_, rfl⟩
  obtain ⟨y9, hy9⟩ : ∃ z, z = xs (i + 2) := ⟨_, rfl⟩
  rw [← hx9]
  rw [← hy9]
  refine g_hlp (As := [.ref (ad 0), .int x9, .int y9, .ref qo]) (rest := []) ⟨hx, hb, hml, hown, hts⟩ (kL_record l hl0 D cs n ad σ qo v hn4 x9 y9 (2000 * q) hI) (vx_cwSW 4 hts gL_law_L_record rfl rfl rfl (by decide +kernel) ⟨Nat.le_of_ble_eq_true rfl, Nat.le_of_ble_eq_true rfl⟩) hK hC hR hO hLD hS hA hXW hl.1 dL_law_867 rfl rfl (Nat.le_of_ble_eq_true rfl) ⟨by show 53 + q + 1 ≤ 601024; omega, by show 2373 + 6 * q + 6 ≤ 7293000; omega⟩ (fun r u H locs hw hC hR hO hS => ?_)
  obtain ⟨hr, hu⟩ := hw
  refine lv_istore (lv' := [(5, .int r), (0, .ref b), (1, .ref (ad 0)), (2, .ref (ad2 0)), (3, .ref qo), (4, .int (nI i))]) hx hb dL_law_870 hl (by decide) rfl (fun ls hl => ?_)
  refine lv_aload_n hx hb dL_law_872 rfl (lv_at hl 3 rfl) ?_
  refine lv_aload_n hx hb dL_law_873 rfl (lv_at hl 1 rfl) ?_
  refine lv_iload hx hb dL_law_874 (lv_at hl 5 rfl) ?_
  refine lv_iconst (v := 1) hx hb dL_law_876 (by decide) ?_
  refine lv_iadd hx hb dL_law_877 ?_
  refine g_top (y := nI (i + 1)) (nI_add i 1) ?_
  refine va_sld hx hb hX hbl hbA hS (vp_in_nI (show i + 1 < L by omega) (by omega)) dL_law_878 ?_
  rw [nI_clamp (show i + 1 < 2 ^ 31 by omega)]
  refine lv_aload_n hx hb dL_law_879 rfl (lv_at hl 1 rfl) ?_
  refine lv_iload hx hb dL_law_880 (lv_at hl 5 rfl) ?_
  refine lv_iconst (v := 2) hx hb dL_law_882 (by decide) ?_
  refine lv_iadd hx hb dL_law_883 ?_
  refine g_top (y := nI (i + 2)) (nI_add i 2) ?_
  refine va_sld hx hb hX hbl hbA hS (vp_in_nI (show i + 2 < L by omega) (by omega)) dL_law_884 ?_
  rw [nI_clamp (show i + 2 < 2 ^ 31 by omega)]
  rw [← hx9]
  rw [← hy9]
  refine g_cvik (As := [.int x9, .int y9]) (rest := []) ⟨hx, hb, hml, hown, hts⟩ (kX5_record l D cs n ad2 th nx σ hn4 x9 y9 (2000 * q) hI) (cwV 2 hts gL_law_X5_record rfl rfl rfl (by decide +kernel) ⟨Nat.le_of_ble_eq_true rfl, Nat.le_of_ble_eq_true rfl⟩) hK hR hLD.2.1 hS hA (cons_P hO hC) (ne_ref hLD) 0 (ci := 5) rfl rfl cr_obj hl.1 dL_law_885 rfl rfl (Nat.le_of_ble_eq_true rfl) ⟨by show 53 + q + 1 ≤ 601024; omega, by show 2373 + 6 * q + 6 ≤ 7293000; omega⟩ (fun r2 nx2 H locs hw2 hR hOC hS => ?_)
  have hO := P_head hOC
  have hC := P_tail hOC
  refine lv_istore (lv' := [(6, .int r2), (5, .int r), (0, .ref b), (1, .ref (ad 0)), (2, .ref (ad2 0)), (3, .ref qo), (4, .int (nI i))]) hx hb dL_law_888 hl (by decide) rfl (fun ls hl => ?_)
  refine lv_aload_n hx hb dL_law_890 rfl (lv_at hl 4 rfl) ?_
  refine g_cvik (As := []) (rest := []) ⟨hx, hb, hml, hown, hts⟩ (kX5_thrown l D cs n ad2 (t2 (0 ≤ x9 ∧ x9 < σ.1 7 0 0) (0 ≤ y9 ∧ y9 < 4)) nx2 (if t2 (0 ≤ x9 ∧ x9 < σ.1 7 0 0) (0 ≤ y9 ∧ y9 < 4) = 0 then σ else σ)) (cwV 0 hts gL_law_X5_thrown rfl rfl rfl (by decide +kernel) ⟨Nat.le_of_ble_eq_true rfl, Nat.le_of_ble_eq_true rfl⟩) hK hR hLD.2.1 hS hA (cons_P hO hC) (ne_ref hLD) 0 (ci := 5) rfl rfl cr_obj hl.1 dL_law_891 rfl rfl (Nat.le_of_ble_eq_true rfl) ⟨by show 53 + q + 1 ≤ 601024; omega, by show 2373 + 6 * q + 6 ≤ 7293000; omega⟩ (fun r3 _ H locs hw3 hR hOC hS => ?_)
  have hO := P_head hOC
  have hC := P_tail hOC
  refine lv_iload hx hb dL_law_894 (lv_at hl 1 rfl) ?_
  refine lv_icmp_eq (tgt := 901) hx hb dL_law_896 (by decide) (fun c1 => ?_) (fun c1 => absurd (hw3.trans hr.symm) c1)
  have hI2 : Inv (if t2 (0 ≤ x9 ∧ x9 < σ.1 7 0 0) (0 ≤ y9 ∧ y9 < 4) = 0 then σ else σ) (2000 * (q + 1)) := inv_record (G := 2000 * q) hI hn0 hn4 (by omega)
  refine lv_iload hx hb dL_law_901 (lv_at hl 1 rfl) ?_
  refine lv_if_ne (tgt := 918) hx hb dL_law_903 (by decide) (fun c2 => ?_) (fun c2 => ?_)
  · refine lv_goto (tgt := 932) hx hb dL_law_918 (by decide) ?_
    refine lv_iinc (v := nI (i + 5)) (lv' := [(4, .int (nI (i + 5))), (6, .int r2), (5, .int r), (0, .ref b), (1, .ref (ad 0)), (2, .ref (ad2 0)), (3, .ref qo)]) hx hb dL_law_932 hl (k := 6) rfl (nI_add i 5) (by decide) rfl (fun ls hl => ?_)
    refine lv_goto (tgt := 53) hx hb dL_law_935 (by decide) ?_
    exact next (if t2 (0 ≤ x9 ∧ x9 < σ.1 7 0 0) (0 ≤ y9 ∧ y9 < 4) = 0 then σ else σ) (t2 (0 ≤ x9 ∧ x9 < σ.1 7 0 0) (0 ≤ y9 ∧ y9 < 4)) nx2 u _ _ _ (hI2) hC hR hO hS (lv_sub hl [3, 4, 5, 6, 0] rfl)
  · have hT : t2 (0 ≤ x9 ∧ x9 < σ.1 7 0 0) (0 ≤ y9 ∧ y9 < 4) = 0 := hr.symm.trans c2
    refine lv_aload_n hx hb dL_law_906 rfl (lv_at hl 5 rfl) ?_
    refine lv_iconst (v := 0) hx hb dL_law_907 (by decide) ?_
    refine va_lald hx hb hK hO 0 2 rfl rfl (show vp_in (nI 0) 1 from vp_in_nI (by decide) (by decide)) dL_law_908 ?_
    refine g_topl (y := r2.toInt64) (by rw [hw2 hT, ← hu hT]; exact if_pos rfl) ?_
    refine lv_iload hx hb dL_law_909 (lv_at hl 0 rfl) ?_
    refine lv_i2l (v := r2.toInt64) hx hb dL_law_911 rfl ?_
    refine W.lcmp hx hb dL_law_912 ?_
    refine lv_if_eq (tgt := 918) hx hb dL_law_913 (by decide) (fun c3 => ?_) (fun c3 => absurd (cmp_self _) c3)
    refine lv_goto (tgt := 932) hx hb dL_law_918 (by decide) ?_
    refine lv_iinc (v := nI (i + 5)) (lv' := [(4, .int (nI (i + 5))), (6, .int r2), (5, .int r), (0, .ref b), (1, .ref (ad 0)), (2, .ref (ad2 0)), (3, .ref qo)]) hx hb dL_law_932 hl (k := 6) rfl (nI_add i 5) (by decide) rfl (fun ls hl => ?_)
    refine lv_goto (tgt := 53) hx hb dL_law_935 (by decide) ?_
    exact next (if t2 (0 ≤ x9 ∧ x9 < σ.1 7 0 0) (0 ≤ y9 ∧ y9 < 4) = 0 then σ else σ) (t2 (0 ≤ x9 ∧ x9 < σ.1 7 0 0) (0 ≤ y9 ∧ y9 < 4)) nx2 u _ _ _ (hI2) hC hR hO hS (lv_sub hl [3, 4, 5, 6, 0] rfl)

set_option maxRecDepth 100000 in
set_option maxHeartbeats 4000000 in
theorem law_records {p : Program} {e : Env} {s : State} {m : MethodId} {args : Array Value} {below : List Frame} {meth : Method} {c : Code} {Q : State → Prop} (l : Launch) (hl0 : l.stackTraces = false) {D : va_G} {cs : Nat → ClassId} {n : Nat} {ad ad2 : Nat → Nat} {qo b L i q : Nat} {xs : Nat → Int32} (hn0 : 0 < n) (hn4 : n ≤ 4) (hx : p.tables.exec = Jvm.exec) (hb : c.code = cL_law) (hml : c.maxLocals = 7) (hown : s.vm.findClass RL = some m.cls) (hts : ∀ w ∈ wsL_law, w.before args s = true) (hK : va_K D vwCl (tyL cs) s) (hXW : XW (lA s) s) (hX : va_X b L xs s s.heap) (hbl : b < s.heap.size) (hLD : LD (lA s) (5 * (n + 2)) ad ad2 qo) (hL : L ≤ 2563) (hi5 : i + 5 ≤ L) (hq : q < 512)
    (next : lawAt p l e s m args below meth c Q D cs n ad ad2 qo b (i + 5) (q + 1)) {σ : St} {th nx : Int32} {v : Int64} {H : Heap} {locs : List Loc} {ls : Array Slot} (hI : Inv σ (2000 * q)) (hC : va_P D vwCl (FW (5 * (n + 2)) ad (CC cs n ad σ)) H) (hR : va_P D vwCl (FW 22 ad2 (CR cs n ad2 th nx σ)) H) (hO : va_P D vwCl [oW cs qo v] H) (hS : va_S (lA s) s.heap H locs) (hl : lv_has ls 7 (lawLv b ad ad2 qo i)) : W p l e room_1 s m args below meth c H locs (53 + q) (2373 + 6 * q) Q (F0 m 840 ls []) := by
  have hA : ∀ q : Nat, s.heap.size ≤ q → lA s q := fun _ h => h
  have hbA : ¬ lA s b := Nat.not_le.mpr hbl
  have hi31 : i + 5 < 2 ^ 31 := by omega
  refine lv_aload_n hx hb dL_law_840 rfl (lv_at hl 1 rfl) ?_
  refine g_cvik (As := []) (rest := []) ⟨hx, hb, hml, hown, hts⟩ (kX4_records l D cs n ad σ) (cwV 0 hts gL_law_X4_records rfl rfl rfl (by decide +kernel) ⟨Nat.le_of_ble_eq_true rfl, Nat.le_of_ble_eq_true rfl⟩) hK hC hLD.1 hS hA (cons_P hO hR) (ne_cls hLD) 0 (ci := 4) rfl rfl cc_obj hl.1 dL_law_841 rfl rfl (Nat.le_of_ble_eq_true rfl) ⟨by show 53 + q ≤ 601024; omega, by show 2373 + 6 * q ≤ 7293000; omega⟩ (fun r _ H locs hw hC hOR hS => ?_)
  have hO := P_head hOR
  have hR := P_tail hOR
  refine lv_aload_n hx hb dL_law_844 rfl (lv_at hl 2 rfl) ?_
  refine g_cvik (As := []) (rest := [.int r]) ⟨hx, hb, hml, hown, hts⟩ (kX5_records l D cs n ad2 th nx σ) (cwV 0 hts gL_law_X5_records rfl rfl rfl (by decide +kernel) ⟨Nat.le_of_ble_eq_true rfl, Nat.le_of_ble_eq_true rfl⟩) hK hR hLD.2.1 hS hA (cons_P hO hC) (ne_ref hLD) 0 (ci := 5) rfl rfl cr_obj hl.1 dL_law_845 rfl rfl (Nat.le_of_ble_eq_true rfl) ⟨by show 53 + q ≤ 601024; omega, by show 2373 + 6 * q ≤ 7293000; omega⟩ (fun r2 nx2 H locs hw2 hR hOC hS => ?_)
  have hO := P_head hOC
  have hC := P_tail hOC
  refine lv_icmp_eq (tgt := 932) hx hb dL_law_848 (by decide) (fun c1 => ?_) (fun c1 => absurd (hw.trans hw2.symm) c1)
  refine W.widen (k := 53 + (q + 1)) (n := 2373 + 6 * (q + 1)) (by omega) (by omega) ?_
  refine lv_iinc (v := nI (i + 5)) (lv' := [(4, .int (nI (i + 5))), (0, .ref b), (1, .ref (ad 0)), (2, .ref (ad2 0)), (3, .ref qo)]) hx hb dL_law_932 hl (k := 4) rfl (nI_add i 5) (by decide) rfl (fun ls hl => ?_)
  refine lv_goto (tgt := 53) hx hb dL_law_935 (by decide) ?_
  exact next σ 0 nx2 v _ _ _ (Inv_mono hI (by omega) (by omega)) hC hR hO hS (lv_sub hl [1, 2, 3, 4, 0] rfl)

set_option maxRecDepth 100000 in
set_option maxHeartbeats 4000000 in
theorem law_clear {p : Program} {e : Env} {s : State} {m : MethodId} {args : Array Value} {below : List Frame} {meth : Method} {c : Code} {Q : State → Prop} (l : Launch) (hl0 : l.stackTraces = false) {D : va_G} {cs : Nat → ClassId} {n : Nat} {ad ad2 : Nat → Nat} {qo b L i q : Nat} {xs : Nat → Int32} (hn0 : 0 < n) (hn4 : n ≤ 4) (hx : p.tables.exec = Jvm.exec) (hb : c.code = cL_law) (hml : c.maxLocals = 7) (hown : s.vm.findClass RL = some m.cls) (hts : ∀ w ∈ wsL_law, w.before args s = true) (hK : va_K D vwCl (tyL cs) s) (hXW : XW (lA s) s) (hX : va_X b L xs s s.heap) (hbl : b < s.heap.size) (hLD : LD (lA s) (5 * (n + 2)) ad ad2 qo) (hL : L ≤ 2563) (hi5 : i + 5 ≤ L) (hq : q < 512)
    (next : lawAt p l e s m args below meth c Q D cs n ad ad2 qo b (i + 5) (q + 1)) {σ : St} {th nx : Int32} {v : Int64} {H : Heap} {locs : List Loc} {ls : Array Slot} (hI : Inv σ (2000 * q)) (hC : va_P D vwCl (FW (5 * (n + 2)) ad (CC cs n ad σ)) H) (hR : va_P D vwCl (FW 22 ad2 (CR cs n ad2 th nx σ)) H) (hO : va_P D vwCl [oW cs qo v] H) (hS : va_S (lA s) s.heap H locs) (hl : lv_has ls 7 (lawLv b ad ad2 qo i)) : W p l e room_1 s m args below meth c H locs (53 + q) (2373 + 6 * q) Q (F0 m 921 ls []) := by
  have hA : ∀ q : Nat, s.heap.size ≤ q → lA s q := fun _ h => h
  have hbA : ¬ lA s b := Nat.not_le.mpr hbl
  have hi31 : i + 5 < 2 ^ 31 := by omega
  refine lv_aload_n hx hb dL_law_921 rfl (lv_at hl 1 rfl) ?_
  refine g_cvvk (As := []) (rest := []) ⟨hx, hb, hml, hown, hts⟩ (kX4_clear l D cs n ad σ hn0 hn4) (cwV 0 hts gL_law_X4_clear rfl rfl rfl (by decide +kernel) ⟨Nat.le_of_ble_eq_true rfl, Nat.le_of_ble_eq_true rfl⟩) hK hC hLD.1 hS hA (cons_P hO hR) (ne_cls hLD) 0 (ci := 4) rfl rfl cc_obj hl.1 dL_law_922 rfl rfl (Nat.le_of_ble_eq_true rfl) ⟨by show 53 + q ≤ 601024; omega, by show 2373 + 6 * q ≤ 7293000; omega⟩ (fun _ H locs _ hC hOR hS => ?_)
  have hO := P_head hOR
  have hR := P_tail hOR
  refine lv_aload_n hx hb dL_law_925 rfl (lv_at hl 2 rfl) ?_
  refine g_cvvk (As := []) (rest := []) ⟨hx, hb, hml, hown, hts⟩ (kX5_clear l D cs n ad2 th nx σ) (cwV 0 hts gL_law_X5_clear rfl rfl rfl (by decide +kernel) ⟨Nat.le_of_ble_eq_true rfl, Nat.le_of_ble_eq_true rfl⟩) hK hR hLD.2.1 hS hA (cons_P hO hC) (ne_ref hLD) 0 (ci := 5) rfl rfl cr_obj hl.1 dL_law_926 rfl rfl (Nat.le_of_ble_eq_true rfl) ⟨by show 53 + q ≤ 601024; omega, by show 2373 + 6 * q ≤ 7293000; omega⟩ (fun nx2 H locs _ hR hOC hS => ?_)
  have hO := P_head hOC
  have hC := P_tail hOC
  refine W.widen (k := 53 + (q + 1)) (n := 2373 + 6 * (q + 1)) (by omega) (by omega) ?_
  refine lv_goto (tgt := 932) hx hb dL_law_929 (by decide) ?_
  refine lv_iinc (v := nI (i + 5)) (lv' := [(4, .int (nI (i + 5))), (0, .ref b), (1, .ref (ad 0)), (2, .ref (ad2 0)), (3, .ref qo)]) hx hb dL_law_932 hl (k := 4) rfl (nI_add i 5) (by decide) rfl (fun ls hl => ?_)
  refine lv_goto (tgt := 53) hx hb dL_law_935 (by decide) ?_
  exact next (pClr σ) 0 nx2 v _ _ _ (Inv_mono (Inv_clr hI) (by omega) (by omega)) hC hR hO hS (lv_sub hl [1, 2, 3, 4, 0] rfl)

set_option maxHeartbeats 4000000 in
theorem law_none {p : Program} {e : Env} {s : State} {m : MethodId} {args : Array Value} {below : List Frame} {meth : Method} {c : Code} {Q : State → Prop} (l : Launch) (hl0 : l.stackTraces = false) {D : va_G} {cs : Nat → ClassId} {n : Nat} {ad ad2 : Nat → Nat} {qo b L i q : Nat} {xs : Nat → Int32} (hn0 : 0 < n) (hn4 : n ≤ 4) (hx : p.tables.exec = Jvm.exec) (hb : c.code = cL_law) (hml : c.maxLocals = 7) (hown : s.vm.findClass RL = some m.cls) (hts : ∀ w ∈ wsL_law, w.before args s = true) (hK : va_K D vwCl (tyL cs) s) (hXW : XW (lA s) s) (hX : va_X b L xs s s.heap) (hbl : b < s.heap.size) (hLD : LD (lA s) (5 * (n + 2)) ad ad2 qo) (hL : L ≤ 2563) (hi5 : i + 5 ≤ L) (hq : q < 512)
    (next : lawAt p l e s m args below meth c Q D cs n ad ad2 qo b (i + 5) (q + 1)) {σ : St} {th nx : Int32} {v : Int64} {H : Heap} {locs : List Loc} {ls : Array Slot} (hI : Inv σ (2000 * q)) (hC : va_P D vwCl (FW (5 * (n + 2)) ad (CC cs n ad σ)) H) (hR : va_P D vwCl (FW 22 ad2 (CR cs n ad2 th nx σ)) H) (hO : va_P D vwCl [oW cs qo v] H) (hS : va_S (lA s) s.heap H locs) (hl : lv_has ls 7 (lawLv b ad ad2 qo i)) : W p l e room_1 s m args below meth c H locs (53 + q) (2373 + 6 * q) Q (F0 m 932 ls []) := by
  have hA : ∀ q : Nat, s.heap.size ≤ q → lA s q := fun _ h => h
  have hbA : ¬ lA s b := Nat.not_le.mpr hbl
  have hi31 : i + 5 < 2 ^ 31 := by omega
  refine W.widen (k := 53 + (q + 1)) (n := 2373 + 6 * (q + 1)) (by omega) (by omega) ?_
  refine lv_iinc (v := nI (i + 5)) (lv' := [(4, .int (nI (i + 5))), (0, .ref b), (1, .ref (ad 0)), (2, .ref (ad2 0)), (3, .ref qo)]) hx hb dL_law_932 hl (k := 4) rfl (nI_add i 5) (by decide) rfl (fun ls hl => ?_)
  refine lv_goto (tgt := 53) hx hb dL_law_935 (by decide) ?_
  exact next σ th nx v _ _ _ (Inv_mono hI (by omega) (by omega)) hC hR hO hS (lv_sub hl [1, 2, 3, 4, 0] rfl)

set_option maxRecDepth 100000 in
set_option maxHeartbeats 4000000 in
theorem law_loop {p : Program} {e : Env} {s : State} {m : MethodId} {args : Array Value} {below : List Frame} {meth : Method} {c : Code} {Q : State → Prop} (l : Launch) (hl0 : l.stackTraces = false) {D : va_G} {cs : Nat → ClassId} {n : Nat} {ad ad2 : Nat → Nat} {qo b L : Nat} {xs : Nat → Int32} (hn0 : 0 < n) (hn4 : n ≤ 4) (hx : p.tables.exec = Jvm.exec) (hb : c.code = cL_law) (hml : c.maxLocals = 7) (hown : s.vm.findClass RL = some m.cls) (hts : ∀ w ∈ wsL_law, w.before args s = true) (hK : va_K D vwCl (tyL cs) s) (hXW : XW (lA s) s) (hX : va_X b L xs s s.heap) (hbl : b < s.heap.size) (hLD : LD (lA s) (5 * (n + 2)) ad ad2 qo) (hL : L ≤ 2563)
    (hend : ∀ (H : Heap) (locs : List Loc) (ls : Array Slot) (k t : Nat), k ≤ 601024 → t ≤ 7293000 → va_S (lA s) s.heap H locs → W p l e room_1 s m args below meth c H locs k t Q (F0 m 938 ls [])) :
    ∀ (d i q : Nat), L < i + d → i = 3 + 5 * q → q ≤ 512 → lawAt p l e s m args below meth c Q D cs n ad ad2 qo b i q := by
  intro d
  induction d with
  | zero =>
    intro i q hd hiq hq σ th nx v H locs ls hI hC hR hO hS hl
    have hbA : ¬ lA s b := Nat.not_le.mpr hbl
    refine lv_iload hx hb dL_law_53 (lv_at hl 4 rfl) ?_
    refine lv_aload_n hx hb dL_law_55 rfl (lv_at hl 0 rfl) ?_
    refine va_slen hx hb hX hbl hbA hS dL_law_56 ?_
    refine lv_iconst (v := 5) hx hb dL_law_57 (by decide) ?_
    refine lv_isub hx hb dL_law_58 ?_
    refine lv_icmp_gt (tgt := 938) hx hb dL_law_59 (by decide) (fun c1 => hend _ _ _ _ _ (by omega) (by omega) hS) (fun c1 => absurd ?_ c1)
    show nI L - nI 5 < nI i
    rw [Int32.lt_iff_toInt_lt, pk_sub_toInt (by omega) (by decide), nI_toInt (by omega)]
    omega
  | succ d ih =>
    intro i q hd hiq hq σ th nx v H locs ls hI hC hR hO hS hl
    have hbA : ¬ lA s b := Nat.not_le.mpr hbl
    refine lv_iload hx hb dL_law_53 (lv_at hl 4 rfl) ?_
    refine lv_aload_n hx hb dL_law_55 rfl (lv_at hl 0 rfl) ?_
    refine va_slen hx hb hX hbl hbA hS dL_law_56 ?_
    refine lv_iconst (v := 5) hx hb dL_law_57 (by decide) ?_
    refine lv_isub hx hb dL_law_58 ?_
    refine lv_icmp_gt (tgt := 938) hx hb dL_law_59 (by decide) (fun c1 => hend _ _ _ _ _ (by omega) (by omega) hS) (fun c1 => ?_)
    have hi5 : i + 5 ≤ L := by
      have c2 : ¬ nI L - nI 5 < nI i := c1
      rw [Int32.lt_iff_toInt_lt, pk_sub_toInt (by omega) (by decide), nI_toInt (by omega)] at c2
      omega
    have hq : q < 512 := by omega
    have next := ih (i + 5) (q + 1) (by omega) (by omega) (by omega)
    refine lv_aload_n hx hb dL_law_62 rfl (lv_at hl 0 rfl) ?_
    refine lv_iload hx hb dL_law_63 (lv_at hl 4 rfl) ?_
    refine va_sld hx hb hX hbl hbA hS (vp_in_nI (show i < L by omega) (by omega)) dL_law_65 ?_
    refine lv_bipush (v := 15) hx hb dL_law_66 (by decide) ?_
    refine lv_iand hx hb dL_law_68 ?_
    obtain ⟨w, hw16, hw⟩ := pk_andE (xs (nI i).toNatClampNeg) (m := 15) 4 (by decide)
    rcases (show w = 0 ∨ w = 1 ∨ w = 2 ∨ w = 3 ∨ w = 4 ∨ w = 5 ∨ w = 6 ∨ w = 7 ∨ w = 8 ∨ w = 9 ∨ w = 10 ∨ w = 11 ∨ w = 12 ∨ w = 13 ∨ w = 14 ∨ w = 15 by omega) with hv | hv | hv | hv | hv | hv | hv | hv | hv | hv | hv | hv | hv | hv | hv | hv
    · refine g_top (y := 0) (by rw [hw, hv]; rfl) ?_
      refine lv_tableIn (tgt := 136) hx hb dL_law_69 (by decide) (by decide) rfl (by decide) ?_
      exact law_instruction l hl0 hn0 hn4 hx hb hml hown hts hK hXW hX hbl hLD hL hi5 hq next hI hC hR hO hS hl
    · refine g_top (y := 1) (by rw [hw, hv]; rfl) ?_
      refine lv_tableIn (tgt := 228) hx hb dL_law_69 (by decide) (by decide) rfl (by decide) ?_
      exact law_start l hl0 hn0 hn4 hx hb hml hown hts hK hXW hX hbl hLD hL hi5 hq next hI hC hR hO hS hl
    · refine g_top (y := 2) (by rw [hw, hv]; rfl) ?_
      refine lv_tableIn (tgt := 296) hx hb dL_law_69 (by decide) (by decide) rfl (by decide) ?_
      exact law_set l hl0 hn0 hn4 hx hb hml hown hts hK hXW hX hbl hLD hL hi5 hq next hI hC hR hO hS hl
    · refine g_top (y := 3) (by rw [hw, hv]; rfl) ?_
      refine lv_tableIn (tgt := 376) hx hb dL_law_69 (by decide) (by decide) rfl (by decide) ?_
      exact law_poke l hl0 hn0 hn4 hx hb hml hown hts hK hXW hX hbl hLD hL hi5 hq next hI hC hR hO hS hl
    · refine g_top (y := 4) (by rw [hw, hv]; rfl) ?_
      refine lv_tableIn (tgt := 444) hx hb dL_law_69 (by decide) (by decide) rfl (by decide) ?_
      exact law_pick l hl0 hn0 hn4 hx hb hml hown hts hK hXW hX hbl hLD hL hi5 hq next hI hC hR hO hS hl
    · refine g_top (y := 5) (by rw [hw, hv]; rfl) ?_
      refine lv_tableIn (tgt := 512) hx hb dL_law_69 (by decide) (by decide) rfl (by decide) ?_
      exact law_run l hl0 hn0 hn4 hx hb hml hown hts hK hXW hX hbl hLD hL hi5 hq next hI hC hR hO hS hl
    · refine g_top (y := 6) (by rw [hw, hv]; rfl) ?_
      refine lv_tableIn (tgt := 580) hx hb dL_law_69 (by decide) (by decide) rfl (by decide) ?_
      exact law_register l hl0 hn0 hn4 hx hb hml hown hts hK hXW hX hbl hLD hL hi5 hq next hI hC hR hO hS hl
    · refine g_top (y := 7) (by rw [hw, hv]; rfl) ?_
      refine lv_tableIn (tgt := 648) hx hb dL_law_69 (by decide) (by decide) rfl (by decide) ?_
      exact law_word l hl0 hn0 hn4 hx hb hml hown hts hK hXW hX hbl hLD hL hi5 hq next hI hC hR hO hS hl
    · refine g_top (y := 8) (by rw [hw, hv]; rfl) ?_
      refine lv_tableIn (tgt := 704) hx hb dL_law_69 (by decide) (by decide) rfl (by decide) ?_
      exact law_seen l hl0 hn0 hn4 hx hb hml hown hts hK hXW hX hbl hLD hL hi5 hq next hI hC hR hO hS hl
    · refine g_top (y := 9) (by rw [hw, hv]; rfl) ?_
      refine lv_tableIn (tgt := 772) hx hb dL_law_69 (by decide) (by decide) rfl (by decide) ?_
      exact law_told l hl0 hn0 hn4 hx hb hml hown hts hK hXW hX hbl hLD hL hi5 hq next hI hC hR hO hS hl
    · refine g_top (y := 10) (by rw [hw, hv]; rfl) ?_
      refine lv_tableIn (tgt := 840) hx hb dL_law_69 (by decide) (by decide) rfl (by decide) ?_
      exact law_records l hl0 hn0 hn4 hx hb hml hown hts hK hXW hX hbl hLD hL hi5 hq next hI hC hR hO hS hl
    · refine g_top (y := 11) (by rw [hw, hv]; rfl) ?_
      refine lv_tableIn (tgt := 853) hx hb dL_law_69 (by decide) (by decide) rfl (by decide) ?_
      exact law_record l hl0 hn0 hn4 hx hb hml hown hts hK hXW hX hbl hLD hL hi5 hq next hI hC hR hO hS hl
    · refine g_top (y := 12) (by rw [hw, hv]; rfl) ?_
      refine lv_tableIn (tgt := 921) hx hb dL_law_69 (by decide) (by decide) rfl (by decide) ?_
      exact law_clear l hl0 hn0 hn4 hx hb hml hown hts hK hXW hX hbl hLD hL hi5 hq next hI hC hR hO hS hl
    · refine g_top (y := 13) (by rw [hw, hv]; rfl) ?_
      refine lv_tableOut (tgt := 932) hx hb dL_law_69 (Or.inr (by decide)) (by decide) ?_
      exact law_none l hl0 hn0 hn4 hx hb hml hown hts hK hXW hX hbl hLD hL hi5 hq next hI hC hR hO hS hl
    · refine g_top (y := 14) (by rw [hw, hv]; rfl) ?_
      refine lv_tableOut (tgt := 932) hx hb dL_law_69 (Or.inr (by decide)) (by decide) ?_
      exact law_none l hl0 hn0 hn4 hx hb hml hown hts hK hXW hX hbl hLD hL hi5 hq next hI hC hR hO hS hl
    · refine g_top (y := 15) (by rw [hw, hv]; rfl) ?_
      refine lv_tableOut (tgt := 932) hx hb dL_law_69 (Or.inr (by decide)) (by decide) ?_
      exact law_none l hl0 hn0 hn4 hx hb hml hown hts hK hXW hX hbl hLD hL hi5 hq next hI hC hR hO hS hl