/-! the state of the system: int rows by (row, core, place), and a long a core -/
abbrev St : Type := (Nat → Nat → Nat → Int32) × (Nat → Int64)
def put (σ : St) (f k j : Nat) (v : Int32) : St := (fun f' k' j' => if f' = f ∧ k' = k ∧ j' = j then v else σ.1 f' k' j', σ.2)
def putA (σ : St) (f k : Nat) (g : Nat → Int32) : St := (fun f' k' j' => if f' = f ∧ k' = k then g j' else σ.1 f' k' j', σ.2)
def putL (σ : St) (k : Nat) (v : Int64) : St := (σ.1, fun k' => if k' = k then v else σ.2 k')
theorem put_at (σ : St) (f k j : Nat) (v : Int32) (f' k' j' : Nat) : (put σ f k j v).1 f' k' j' = if f' = f ∧ k' = k ∧ j' = j then v else σ.1 f' k' j' := rfl
theorem putA_at (σ : St) (f k : Nat) (g : Nat → Int32) (f' k' j' : Nat) : (putA σ f k g).1 f' k' j' = if f' = f ∧ k' = k then g j' else σ.1 f' k' j' := rfl
theorem putL_at (σ : St) (k : Nat) (v : Int64) (f' k' j' : Nat) : (putL σ k v).1 f' k' j' = σ.1 f' k' j' := rfl
theorem put_2 (σ : St) (f k j : Nat) (v : Int32) : (put σ f k j v).2 = σ.2 := rfl
theorem putA_2 (σ : St) (f k : Nat) (g : Nat → Int32) : (putA σ f k g).2 = σ.2 := rfl
theorem putL_2 (σ : St) (k : Nat) (v : Int64) (k' : Nat) : (putL σ k v).2 k' = if k' = k then v else σ.2 k' := rfl
abbrev tyL (cs : Nat → ClassId) : List (ClassId × FieldType) := [(cs 0, .int), (cs 1, .object RX0), (cs 2, .long), (cs 3, .boolean)]
/-- the class's cells, by row and column: rows 0, 1 the object and what it has once, row k + 2 core k -/
def CQ (cs : Nat → ClassId) (n : Nat) (ad : Nat → Nat) (σ : St) (r c : Nat) : va_E := match r with
  | 0 => (match c with
    | 0 => .inr (4, [.int (σ.1 27 0 0), .int (σ.1 28 0 0), .ref (ad 1), .ref (ad 2), .ref (ad 3), .ref (ad 4), .int (σ.1 9 0 0)])
    | 1 => .inl (cs 1, n, .inr (.inr (.inr (.inr (fun i => some (ad (5 * (i + 2) + 0)))))))
    | 2 => .inl (cs 0, 64, .inl (fun j => σ.1 0 0 j))
    | 3 => .inr (1, [.ref (ad 5), .ref (ad 6), .ref (ad 7), .ref (ad 8), .int (σ.1 5 0 0)])
    | _ => .inr (2, [.ref (ad 9), .int (σ.1 7 0 0), .int (σ.1 8 0 0)]))
  | 1 => (match c with
    | 0 => .inl (cs 0, 80, .inl (fun j => σ.1 1 0 j))
    | 1 => .inl (cs 0, 80, .inl (fun j => σ.1 2 0 j))
    | 2 => .inl (cs 0, 80, .inl (fun j => σ.1 3 0 j))
    | 3 => .inl (cs 0, 80, .inl (fun j => σ.1 4 0 j))
    | _ => .inl (cs 0, 400, .inl (fun j => σ.1 6 0 j)))
  | k + 2 => (match c with
    | 0 => .inr (0, [.int (nI k), .ref (ad (5 * (k + 2) + 1)), .ref (ad (5 * (k + 2) + 2)), .int (σ.1 13 k 0), .int (σ.1 14 k 0), .int (σ.1 15 k 0), .int (σ.1 16 k 0), .int (σ.1 17 k 0)])
    | 1 => .inl (cs 0, 8, .inl (fun j => σ.1 10 k j))
    | 2 => .inr (3, [.ref (ad (5 * (k + 2) + 3)), .ref (ad (5 * (k + 2) + 4)), .int (σ.1 18 k 0), .int (σ.1 19 k 0), .int (σ.1 20 k 0), .int (σ.1 21 k 0), .int (σ.1 22 k 0), .int (σ.1 23 k 0), .long (σ.2 k)])
    | 3 => .inl (cs 0, 8, .inl (fun j => σ.1 11 k j))
    | _ => .inl (cs 0, 64, .inl (fun j => σ.1 12 k j)))
def CC (cs : Nat → ClassId) (n : Nat) (ad : Nat → Nat) (σ : St) : Nat → va_E := fun i => CQ cs n ad σ (i / 5) (i % 5)
theorem CC_at (cs : Nat → ClassId) (n : Nat) (ad : Nat → Nat) (σ : St) (r c : Nat) (hc : c < 5) : CC cs n ad σ (5 * r + c) = CQ cs n ad σ r c := by
  show CQ cs n ad σ ((5 * r + c) / 5) ((5 * r + c) % 5) = _
  rw [show (5 * r + c) / 5 = r by omega, show (5 * r + c) % 5 = c by omega]
theorem CC_up {cs : Nat → ClassId} {n : Nat} {ad : Nat → Nat} {σ σ' : St} (r c : Nat) (hc : c < 5) {e : va_E} (h1 : CQ cs n ad σ' r c = e) (h2 : ∀ r' c', c' < 5 → ¬ (r' = r ∧ c' = c) → CQ cs n ad σ' r' c' = CQ cs n ad σ r' c') : va_up (CC cs n ad σ) (5 * r + c) e = CC cs n ad σ' := by
  funext i
  by_cases hi : i = 5 * r + c
  · subst hi
    rw [va_up_self, CC_at _ _ _ _ _ _ hc, h1]
  · rw [va_up_ne _ _ hi]
    exact (h2 (i / 5) (i % 5) (by omega) (by omega)).symm

theorem cc_obj {cs : Nat → ClassId} {n : Nat} {ad : Nat → Nat} {σ : St} : (FW (5 * (n + 2)) ad (CC cs n ad σ))[0]? = some (ad 0, .inr (4, [.int (σ.1 27 0 0), .int (σ.1 28 0 0), .ref (ad 1), .ref (ad 2), .ref (ad 3), .ref (ad 4), .int (σ.1 9 0 0)])) := FW_get (by omega) (CC_at cs n ad σ 0 0 (by omega))
theorem cc_cor {cs : Nat → ClassId} {n : Nat} {ad : Nat → Nat} {σ : St} : (FW (5 * (n + 2)) ad (CC cs n ad σ))[1]? = some (ad 1, .inl (cs 1, n, .inr (.inr (.inr (.inr (fun i => some (ad (5 * (i + 2) + 0)))))))) := FW_get (by omega) (CC_at cs n ad σ 0 1 (by omega))
theorem cc_mem {cs : Nat → ClassId} {n : Nat} {ad : Nat → Nat} {σ : St} : (FW (5 * (n + 2)) ad (CC cs n ad σ))[2]? = some (ad 2, .inl (cs 0, 64, .inl (fun j => σ.1 0 0 j))) := FW_get (by omega) (CC_at cs n ad σ 0 2 (by omega))
theorem cc_pro {cs : Nat → ClassId} {n : Nat} {ad : Nat → Nat} {σ : St} : (FW (5 * (n + 2)) ad (CC cs n ad σ))[3]? = some (ad 3, .inr (1, [.ref (ad 5), .ref (ad 6), .ref (ad 7), .ref (ad 8), .int (σ.1 5 0 0)])) := FW_get (by omega) (CC_at cs n ad σ 0 3 (by omega))
theorem cc_rec {cs : Nat → ClassId} {n : Nat} {ad : Nat → Nat} {σ : St} : (FW (5 * (n + 2)) ad (CC cs n ad σ))[4]? = some (ad 4, .inr (2, [.ref (ad 9), .int (σ.1 7 0 0), .int (σ.1 8 0 0)])) := FW_get (by omega) (CC_at cs n ad σ 0 4 (by omega))
theorem cc_ops {cs : Nat → ClassId} {n : Nat} {ad : Nat → Nat} {σ : St} : (FW (5 * (n + 2)) ad (CC cs n ad σ))[5]? = some (ad 5, .inl (cs 0, 80, .inl (fun j => σ.1 1 0 j))) := FW_get (by omega) (CC_at cs n ad σ 1 0 (by omega))
theorem cc_pa {cs : Nat → ClassId} {n : Nat} {ad : Nat → Nat} {σ : St} : (FW (5 * (n + 2)) ad (CC cs n ad σ))[6]? = some (ad 6, .inl (cs 0, 80, .inl (fun j => σ.1 2 0 j))) := FW_get (by omega) (CC_at cs n ad σ 1 1 (by omega))
theorem cc_pb {cs : Nat → ClassId} {n : Nat} {ad : Nat → Nat} {σ : St} : (FW (5 * (n + 2)) ad (CC cs n ad σ))[7]? = some (ad 7, .inl (cs 0, 80, .inl (fun j => σ.1 3 0 j))) := FW_get (by omega) (CC_at cs n ad σ 1 2 (by omega))
theorem cc_pc {cs : Nat → ClassId} {n : Nat} {ad : Nat → Nat} {σ : St} : (FW (5 * (n + 2)) ad (CC cs n ad σ))[8]? = some (ad 8, .inl (cs 0, 80, .inl (fun j => σ.1 4 0 j))) := FW_get (by omega) (CC_at cs n ad σ 1 3 (by omega))
theorem cc_fld {cs : Nat → ClassId} {n : Nat} {ad : Nat → Nat} {σ : St} : (FW (5 * (n + 2)) ad (CC cs n ad σ))[9]? = some (ad 9, .inl (cs 0, 400, .inl (fun j => σ.1 6 0 j))) := FW_get (by omega) (CC_at cs n ad σ 1 4 (by omega))
theorem cc_core {cs : Nat → ClassId} {n : Nat} {ad : Nat → Nat} {σ : St} {k : Nat} (hk : k < n) : (FW (5 * (n + 2)) ad (CC cs n ad σ))[5 * (k + 2) + 0]? = some (ad (5 * (k + 2) + 0), .inr (0, [.int (nI k), .ref (ad (5 * (k + 2) + 1)), .ref (ad (5 * (k + 2) + 2)), .int (σ.1 13 k 0), .int (σ.1 14 k 0), .int (σ.1 15 k 0), .int (σ.1 16 k 0), .int (σ.1 17 k 0)])) := FW_get (by omega) (CC_at cs n ad σ (k + 2) 0 (by omega))
theorem cc_regs {cs : Nat → ClassId} {n : Nat} {ad : Nat → Nat} {σ : St} {k : Nat} (hk : k < n) : (FW (5 * (n + 2)) ad (CC cs n ad σ))[5 * (k + 2) + 1]? = some (ad (5 * (k + 2) + 1), .inl (cs 0, 8, .inl (fun j => σ.1 10 k j))) := FW_get (by omega) (CC_at cs n ad σ (k + 2) 1 (by omega))
theorem cc_tx {cs : Nat → ClassId} {n : Nat} {ad : Nat → Nat} {σ : St} {k : Nat} (hk : k < n) : (FW (5 * (n + 2)) ad (CC cs n ad σ))[5 * (k + 2) + 2]? = some (ad (5 * (k + 2) + 2), .inr (3, [.ref (ad (5 * (k + 2) + 3)), .ref (ad (5 * (k + 2) + 4)), .int (σ.1 18 k 0), .int (σ.1 19 k 0), .int (σ.1 20 k 0), .int (σ.1 21 k 0), .int (σ.1 22 k 0), .int (σ.1 23 k 0), .long (σ.2 k)])) := FW_get (by omega) (CC_at cs n ad σ (k + 2) 2 (by omega))
theorem cc_kept {cs : Nat → ClassId} {n : Nat} {ad : Nat → Nat} {σ : St} {k : Nat} (hk : k < n) : (FW (5 * (n + 2)) ad (CC cs n ad σ))[5 * (k + 2) + 3]? = some (ad (5 * (k + 2) + 3), .inl (cs 0, 8, .inl (fun j => σ.1 11 k j))) := FW_get (by omega) (CC_at cs n ad σ (k + 2) 3 (by omega))
theorem cc_stw {cs : Nat → ClassId} {n : Nat} {ad : Nat → Nat} {σ : St} {k : Nat} (hk : k < n) : (FW (5 * (n + 2)) ad (CC cs n ad σ))[5 * (k + 2) + 4]? = some (ad (5 * (k + 2) + 4), .inl (cs 0, 64, .inl (fun j => σ.1 12 k j))) := FW_get (by omega) (CC_at cs n ad σ (k + 2) 4 (by omega))
theorem cu_obj_6 {cs : Nat → ClassId} {n : Nat} {ad : Nat → Nat} {σ : St} {v : Int32} : va_up (CC cs n ad σ) (5 * 0 + 0) (.inr (4, [.int (σ.1 27 0 0), .int (σ.1 28 0 0), .ref (ad 1), .ref (ad 2), .ref (ad 3), .ref (ad 4), .int v])) = CC cs n ad (put σ 9 0 0 v) :=
  CC_up 0 0 (by omega) (by simp [CQ, put, putA, putL, upd] <;> (try funext j) <;> (try simp [upd])) (fun r' c' hc' hne => by
    rcases r' with _ | _ | k' <;> (rcases (show c' = 0 ∨ c' = 1 ∨ c' = 2 ∨ c' = 3 ∨ c' = 4 by omega) with rfl | rfl | rfl | rfl | rfl) <;> simp [CQ, put, putA, putL] at hne ⊢)
theorem cu_pro_4 {cs : Nat → ClassId} {n : Nat} {ad : Nat → Nat} {σ : St} {v : Int32} : va_up (CC cs n ad σ) (5 * 0 + 3) (.inr (1, [.ref (ad 5), .ref (ad 6), .ref (ad 7), .ref (ad 8), .int v])) = CC cs n ad (put σ 5 0 0 v) :=
  CC_up 0 3 (by omega) (by simp [CQ, put, putA, putL, upd] <;> (try funext j) <;> (try simp [upd])) (fun r' c' hc' hne => by
    rcases r' with _ | _ | k' <;> (rcases (show c' = 0 ∨ c' = 1 ∨ c' = 2 ∨ c' = 3 ∨ c' = 4 by omega) with rfl | rfl | rfl | rfl | rfl) <;> simp [CQ, put, putA, putL] at hne ⊢)
theorem cu_rec_1 {cs : Nat → ClassId} {n : Nat} {ad : Nat → Nat} {σ : St} {v : Int32} : va_up (CC cs n ad σ) (5 * 0 + 4) (.inr (2, [.ref (ad 9), .int v, .int (σ.1 8 0 0)])) = CC cs n ad (put σ 7 0 0 v) :=
  CC_up 0 4 (by omega) (by simp [CQ, put, putA, putL, upd] <;> (try funext j) <;> (try simp [upd])) (fun r' c' hc' hne => by
    rcases r' with _ | _ | k' <;> (rcases (show c' = 0 ∨ c' = 1 ∨ c' = 2 ∨ c' = 3 ∨ c' = 4 by omega) with rfl | rfl | rfl | rfl | rfl) <;> simp [CQ, put, putA, putL] at hne ⊢)
theorem cu_rec_2 {cs : Nat → ClassId} {n : Nat} {ad : Nat → Nat} {σ : St} {v : Int32} : va_up (CC cs n ad σ) (5 * 0 + 4) (.inr (2, [.ref (ad 9), .int (σ.1 7 0 0), .int v])) = CC cs n ad (put σ 8 0 0 v) :=
  CC_up 0 4 (by omega) (by simp [CQ, put, putA, putL, upd] <;> (try funext j) <;> (try simp [upd])) (fun r' c' hc' hne => by
    rcases r' with _ | _ | k' <;> (rcases (show c' = 0 ∨ c' = 1 ∨ c' = 2 ∨ c' = 3 ∨ c' = 4 by omega) with rfl | rfl | rfl | rfl | rfl) <;> simp [CQ, put, putA, putL] at hne ⊢)
theorem cu_core_3 {cs : Nat → ClassId} {n : Nat} {ad : Nat → Nat} {σ : St} {k : Nat} {v : Int32} : va_up (CC cs n ad σ) (5 * (k + 2) + 0) (.inr (0, [.int (nI k), .ref (ad (5 * (k + 2) + 1)), .ref (ad (5 * (k + 2) + 2)), .int v, .int (σ.1 14 k 0), .int (σ.1 15 k 0), .int (σ.1 16 k 0), .int (σ.1 17 k 0)])) = CC cs n ad (put σ 13 k 0 v) :=
  CC_up (k + 2) 0 (by omega) (by simp [CQ, put, putA, putL, upd] <;> (try funext j) <;> (try simp [upd])) (fun r' c' hc' hne => by
    rcases r' with _ | _ | k' <;> (rcases (show c' = 0 ∨ c' = 1 ∨ c' = 2 ∨ c' = 3 ∨ c' = 4 by omega) with rfl | rfl | rfl | rfl | rfl) <;> simp [CQ, put, putA, putL] at hne ⊢ <;> simp [hne])
theorem cu_core_4 {cs : Nat → ClassId} {n : Nat} {ad : Nat → Nat} {σ : St} {k : Nat} {v : Int32} : va_up (CC cs n ad σ) (5 * (k + 2) + 0) (.inr (0, [.int (nI k), .ref (ad (5 * (k + 2) + 1)), .ref (ad (5 * (k + 2) + 2)), .int (σ.1 13 k 0), .int v, .int (σ.1 15 k 0), .int (σ.1 16 k 0), .int (σ.1 17 k 0)])) = CC cs n ad (put σ 14 k 0 v) :=
  CC_up (k + 2) 0 (by omega) (by simp [CQ, put, putA, putL, upd] <;> (try funext j) <;> (try simp [upd])) (fun r' c' hc' hne => by
    rcases r' with _ | _ | k' <;> (rcases (show c' = 0 ∨ c' = 1 ∨ c' = 2 ∨ c' = 3 ∨ c' = 4 by omega) with rfl | rfl | rfl | rfl | rfl) <;> simp [CQ, put, putA, putL] at hne ⊢ <;> simp [hne])
theorem cu_core_5 {cs : Nat → ClassId} {n : Nat} {ad : Nat → Nat} {σ : St} {k : Nat} {v : Int32} : va_up (CC cs n ad σ) (5 * (k + 2) + 0) (.inr (0, [.int (nI k), .ref (ad (5 * (k + 2) + 1)), .ref (ad (5 * (k + 2) + 2)), .int (σ.1 13 k 0), .int (σ.1 14 k 0), .int v, .int (σ.1 16 k 0), .int (σ.1 17 k 0)])) = CC cs n ad (put σ 15 k 0 v) :=
  CC_up (k + 2) 0 (by omega) (by simp [CQ, put, putA, putL, upd] <;> (try funext j) <;> (try simp [upd])) (fun r' c' hc' hne => by
    rcases r' with _ | _ | k' <;> (rcases (show c' = 0 ∨ c' = 1 ∨ c' = 2 ∨ c' = 3 ∨ c' = 4 by omega) with rfl | rfl | rfl | rfl | rfl) <;> simp [CQ, put, putA, putL] at hne ⊢ <;> simp [hne])
theorem cu_core_6 {cs : Nat → ClassId} {n : Nat} {ad : Nat → Nat} {σ : St} {k : Nat} {v : Int32} : va_up (CC cs n ad σ) (5 * (k + 2) + 0) (.inr (0, [.int (nI k), .ref (ad (5 * (k + 2) + 1)), .ref (ad (5 * (k + 2) + 2)), .int (σ.1 13 k 0), .int (σ.1 14 k 0), .int (σ.1 15 k 0), .int v, .int (σ.1 17 k 0)])) = CC cs n ad (put σ 16 k 0 v) :=
  CC_up (k + 2) 0 (by omega) (by simp [CQ, put, putA, putL, upd] <;> (try funext j) <;> (try simp [upd])) (fun r' c' hc' hne => by
    rcases r' with _ | _ | k' <;> (rcases (show c' = 0 ∨ c' = 1 ∨ c' = 2 ∨ c' = 3 ∨ c' = 4 by omega) with rfl | rfl | rfl | rfl | rfl) <;> simp [CQ, put, putA, putL] at hne ⊢ <;> simp [hne])
theorem cu_core_7 {cs : Nat → ClassId} {n : Nat} {ad : Nat → Nat} {σ : St} {k : Nat} {v : Int32} : va_up (CC cs n ad σ) (5 * (k + 2) + 0) (.inr (0, [.int (nI k), .ref (ad (5 * (k + 2) + 1)), .ref (ad (5 * (k + 2) + 2)), .int (σ.1 13 k 0), .int (σ.1 14 k 0), .int (σ.1 15 k 0), .int (σ.1 16 k 0), .int v])) = CC cs n ad (put σ 17 k 0 v) :=
  CC_up (k + 2) 0 (by omega) (by simp [CQ, put, putA, putL, upd] <;> (try funext j) <;> (try simp [upd])) (fun r' c' hc' hne => by
    rcases r' with _ | _ | k' <;> (rcases (show c' = 0 ∨ c' = 1 ∨ c' = 2 ∨ c' = 3 ∨ c' = 4 by omega) with rfl | rfl | rfl | rfl | rfl) <;> simp [CQ, put, putA, putL] at hne ⊢ <;> simp [hne])
theorem cu_tx_2 {cs : Nat → ClassId} {n : Nat} {ad : Nat → Nat} {σ : St} {k : Nat} {v : Int32} : va_up (CC cs n ad σ) (5 * (k + 2) + 2) (.inr (3, [.ref (ad (5 * (k + 2) + 3)), .ref (ad (5 * (k + 2) + 4)), .int v, .int (σ.1 19 k 0), .int (σ.1 20 k 0), .int (σ.1 21 k 0), .int (σ.1 22 k 0), .int (σ.1 23 k 0), .long (σ.2 k)])) = CC cs n ad (put σ 18 k 0 v) :=
  CC_up (k + 2) 2 (by omega) (by simp [CQ, put, putA, putL, upd] <;> (try funext j) <;> (try simp [upd])) (fun r' c' hc' hne => by
    rcases r' with _ | _ | k' <;> (rcases (show c' = 0 ∨ c' = 1 ∨ c' = 2 ∨ c' = 3 ∨ c' = 4 by omega) with rfl | rfl | rfl | rfl | rfl) <;> simp [CQ, put, putA, putL] at hne ⊢ <;> simp [hne])
theorem cu_tx_3 {cs : Nat → ClassId} {n : Nat} {ad : Nat → Nat} {σ : St} {k : Nat} {v : Int32} : va_up (CC cs n ad σ) (5 * (k + 2) + 2) (.inr (3, [.ref (ad (5 * (k + 2) + 3)), .ref (ad (5 * (k + 2) + 4)), .int (σ.1 18 k 0), .int v, .int (σ.1 20 k 0), .int (σ.1 21 k 0), .int (σ.1 22 k 0), .int (σ.1 23 k 0), .long (σ.2 k)])) = CC cs n ad (put σ 19 k 0 v) :=
  CC_up (k + 2) 2 (by omega) (by simp [CQ, put, putA, putL, upd] <;> (try funext j) <;> (try simp [upd])) (fun r' c' hc' hne => by
    rcases r' with _ | _ | k' <;> (rcases (show c' = 0 ∨ c' = 1 ∨ c' = 2 ∨ c' = 3 ∨ c' = 4 by omega) with rfl | rfl | rfl | rfl | rfl) <;> simp [CQ, put, putA, putL] at hne ⊢ <;> simp [hne])
theorem cu_tx_4 {cs : Nat → ClassId} {n : Nat} {ad : Nat → Nat} {σ : St} {k : Nat} {v : Int32} : va_up (CC cs n ad σ) (5 * (k + 2) + 2) (.inr (3, [.ref (ad (5 * (k + 2) + 3)), .ref (ad (5 * (k + 2) + 4)), .int (σ.1 18 k 0), .int (σ.1 19 k 0), .int v, .int (σ.1 21 k 0), .int (σ.1 22 k 0), .int (σ.1 23 k 0), .long (σ.2 k)])) = CC cs n ad (put σ 20 k 0 v) :=
  CC_up (k + 2) 2 (by omega) (by simp [CQ, put, putA, putL, upd] <;> (try funext j) <;> (try simp [upd])) (fun r' c' hc' hne => by
    rcases r' with _ | _ | k' <;> (rcases (show c' = 0 ∨ c' = 1 ∨ c' = 2 ∨ c' = 3 ∨ c' = 4 by omega) with rfl | rfl | rfl | rfl | rfl) <;> simp [CQ, put, putA, putL] at hne ⊢ <;> simp [hne])
theorem cu_tx_5 {cs : Nat → ClassId} {n : Nat} {ad : Nat → Nat} {σ : St} {k : Nat} {v : Int32} : va_up (CC cs n ad σ) (5 * (k + 2) + 2) (.inr (3, [.ref (ad (5 * (k + 2) + 3)), .ref (ad (5 * (k + 2) + 4)), .int (σ.1 18 k 0), .int (σ.1 19 k 0), .int (σ.1 20 k 0), .int v, .int (σ.1 22 k 0), .int (σ.1 23 k 0), .long (σ.2 k)])) = CC cs n ad (put σ 21 k 0 v) :=
  CC_up (k + 2) 2 (by omega) (by simp [CQ, put, putA, putL, upd] <;> (try funext j) <;> (try simp [upd])) (fun r' c' hc' hne => by
    rcases r' with _ | _ | k' <;> (rcases (show c' = 0 ∨ c' = 1 ∨ c' = 2 ∨ c' = 3 ∨ c' = 4 by omega) with rfl | rfl | rfl | rfl | rfl) <;> simp [CQ, put, putA, putL] at hne ⊢ <;> simp [hne])
theorem cu_tx_6 {cs : Nat → ClassId} {n : Nat} {ad : Nat → Nat} {σ : St} {k : Nat} {v : Int32} : va_up (CC cs n ad σ) (5 * (k + 2) + 2) (.inr (3, [.ref (ad (5 * (k + 2) + 3)), .ref (ad (5 * (k + 2) + 4)), .int (σ.1 18 k 0), .int (σ.1 19 k 0), .int (σ.1 20 k 0), .int (σ.1 21 k 0), .int v, .int (σ.1 23 k 0), .long (σ.2 k)])) = CC cs n ad (put σ 22 k 0 v) :=
  CC_up (k + 2) 2 (by omega) (by simp [CQ, put, putA, putL, upd] <;> (try funext j) <;> (try simp [upd])) (fun r' c' hc' hne => by
    rcases r' with _ | _ | k' <;> (rcases (show c' = 0 ∨ c' = 1 ∨ c' = 2 ∨ c' = 3 ∨ c' = 4 by omega) with rfl | rfl | rfl | rfl | rfl) <;> simp [CQ, put, putA, putL] at hne ⊢ <;> simp [hne])
theorem cu_tx_7 {cs : Nat → ClassId} {n : Nat} {ad : Nat → Nat} {σ : St} {k : Nat} {v : Int32} : va_up (CC cs n ad σ) (5 * (k + 2) + 2) (.inr (3, [.ref (ad (5 * (k + 2) + 3)), .ref (ad (5 * (k + 2) + 4)), .int (σ.1 18 k 0), .int (σ.1 19 k 0), .int (σ.1 20 k 0), .int (σ.1 21 k 0), .int (σ.1 22 k 0), .int v, .long (σ.2 k)])) = CC cs n ad (put σ 23 k 0 v) :=
  CC_up (k + 2) 2 (by omega) (by simp [CQ, put, putA, putL, upd] <;> (try funext j) <;> (try simp [upd])) (fun r' c' hc' hne => by
    rcases r' with _ | _ | k' <;> (rcases (show c' = 0 ∨ c' = 1 ∨ c' = 2 ∨ c' = 3 ∨ c' = 4 by omega) with rfl | rfl | rfl | rfl | rfl) <;> simp [CQ, put, putA, putL] at hne ⊢ <;> simp [hne])
theorem cu_tx_8 {cs : Nat → ClassId} {n : Nat} {ad : Nat → Nat} {σ : St} {k : Nat} {v : Int64} : va_up (CC cs n ad σ) (5 * (k + 2) + 2) (.inr (3, [.ref (ad (5 * (k + 2) + 3)), .ref (ad (5 * (k + 2) + 4)), .int (σ.1 18 k 0), .int (σ.1 19 k 0), .int (σ.1 20 k 0), .int (σ.1 21 k 0), .int (σ.1 22 k 0), .int (σ.1 23 k 0), .long v])) = CC cs n ad (putL σ k v) :=
  CC_up (k + 2) 2 (by omega) (by simp [CQ, put, putA, putL, upd] <;> (try funext j) <;> (try simp [upd])) (fun r' c' hc' hne => by
    rcases r' with _ | _ | k' <;> (rcases (show c' = 0 ∨ c' = 1 ∨ c' = 2 ∨ c' = 3 ∨ c' = 4 by omega) with rfl | rfl | rfl | rfl | rfl) <;> simp [CQ, put, putA, putL] at hne ⊢ <;> simp [hne])
theorem cu_mem {cs : Nat → ClassId} {n : Nat} {ad : Nat → Nat} {σ : St} {j0 : Nat} {v : Int32} : va_up (CC cs n ad σ) (5 * 0 + 2) (.inl (cs 0, 64, .inl (upd (fun j => σ.1 0 0 j) j0 v))) = CC cs n ad (put σ 0 0 j0 v) :=
  CC_up 0 2 (by omega) (by simp [CQ, put, putA, putL, upd] <;> (try funext j) <;> (try simp [upd])) (fun r' c' hc' hne => by
    rcases r' with _ | _ | k' <;> (rcases (show c' = 0 ∨ c' = 1 ∨ c' = 2 ∨ c' = 3 ∨ c' = 4 by omega) with rfl | rfl | rfl | rfl | rfl) <;> simp [CQ, put, putA, putL] at hne ⊢)
theorem cu_memA {cs : Nat → ClassId} {n : Nat} {ad : Nat → Nat} {σ : St} {g : Nat → Int32} : va_up (CC cs n ad σ) (5 * 0 + 2) (.inl (cs 0, 64, .inl g)) = CC cs n ad (putA σ 0 0 g) :=
  CC_up 0 2 (by omega) (by simp [CQ, put, putA, putL, upd] <;> (try funext j) <;> (try simp [upd])) (fun r' c' hc' hne => by
    rcases r' with _ | _ | k' <;> (rcases (show c' = 0 ∨ c' = 1 ∨ c' = 2 ∨ c' = 3 ∨ c' = 4 by omega) with rfl | rfl | rfl | rfl | rfl) <;> simp [CQ, put, putA, putL] at hne ⊢)
theorem cu_ops {cs : Nat → ClassId} {n : Nat} {ad : Nat → Nat} {σ : St} {j0 : Nat} {v : Int32} : va_up (CC cs n ad σ) (5 * 1 + 0) (.inl (cs 0, 80, .inl (upd (fun j => σ.1 1 0 j) j0 v))) = CC cs n ad (put σ 1 0 j0 v) :=
  CC_up 1 0 (by omega) (by simp [CQ, put, putA, putL, upd] <;> (try funext j) <;> (try simp [upd])) (fun r' c' hc' hne => by
    rcases r' with _ | _ | k' <;> (rcases (show c' = 0 ∨ c' = 1 ∨ c' = 2 ∨ c' = 3 ∨ c' = 4 by omega) with rfl | rfl | rfl | rfl | rfl) <;> simp [CQ, put, putA, putL] at hne ⊢)
theorem cu_opsA {cs : Nat → ClassId} {n : Nat} {ad : Nat → Nat} {σ : St} {g : Nat → Int32} : va_up (CC cs n ad σ) (5 * 1 + 0) (.inl (cs 0, 80, .inl g)) = CC cs n ad (putA σ 1 0 g) :=
  CC_up 1 0 (by omega) (by simp [CQ, put, putA, putL, upd] <;> (try funext j) <;> (try simp [upd])) (fun r' c' hc' hne => by
    rcases r' with _ | _ | k' <;> (rcases (show c' = 0 ∨ c' = 1 ∨ c' = 2 ∨ c' = 3 ∨ c' = 4 by omega) with rfl | rfl | rfl | rfl | rfl) <;> simp [CQ, put, putA, putL] at hne ⊢)
theorem cu_pa {cs : Nat → ClassId} {n : Nat} {ad : Nat → Nat} {σ : St} {j0 : Nat} {v : Int32} : va_up (CC cs n ad σ) (5 * 1 + 1) (.inl (cs 0, 80, .inl (upd (fun j => σ.1 2 0 j) j0 v))) = CC cs n ad (put σ 2 0 j0 v) :=
  CC_up 1 1 (by omega) (by simp [CQ, put, putA, putL, upd] <;> (try funext j) <;> (try simp [upd])) (fun r' c' hc' hne => by
    rcases r' with _ | _ | k' <;> (rcases (show c' = 0 ∨ c' = 1 ∨ c' = 2 ∨ c' = 3 ∨ c' = 4 by omega) with rfl | rfl | rfl | rfl | rfl) <;> simp [CQ, put, putA, putL] at hne ⊢)
theorem cu_paA {cs : Nat → ClassId} {n : Nat} {ad : Nat → Nat} {σ : St} {g : Nat → Int32} : va_up (CC cs n ad σ) (5 * 1 + 1) (.inl (cs 0, 80, .inl g)) = CC cs n ad (putA σ 2 0 g) :=
  CC_up 1 1 (by omega) (by simp [CQ, put, putA, putL, upd] <;> (try funext j) <;> (try simp [upd])) (fun r' c' hc' hne => by
    rcases r' with _ | _ | k' <;> (rcases (show c' = 0 ∨ c' = 1 ∨ c' = 2 ∨ c' = 3 ∨ c' = 4 by omega) with rfl | rfl | rfl | rfl | rfl) <;> simp [CQ, put, putA, putL] at hne ⊢)
theorem cu_pb {cs : Nat → ClassId} {n : Nat} {ad : Nat → Nat} {σ : St} {j0 : Nat} {v : Int32} : va_up (CC cs n ad σ) (5 * 1 + 2) (.inl (cs 0, 80, .inl (upd (fun j => σ.1 3 0 j) j0 v))) = CC cs n ad (put σ 3 0 j0 v) :=
  CC_up 1 2 (by omega) (by simp [CQ, put, putA, putL, upd] <;> (try funext j) <;> (try simp [upd])) (fun r' c' hc' hne => by
    rcases r' with _ | _ | k' <;> (rcases (show c' = 0 ∨ c' = 1 ∨ c' = 2 ∨ c' = 3 ∨ c' = 4 by omega) with rfl | rfl | rfl | rfl | rfl) <;> simp [CQ, put, putA, putL] at hne ⊢)
theorem cu_pbA {cs : Nat → ClassId} {n : Nat} {ad : Nat → Nat} {σ : St} {g : Nat → Int32} : va_up (CC cs n ad σ) (5 * 1 + 2) (.inl (cs 0, 80, .inl g)) = CC cs n ad (putA σ 3 0 g) :=
  CC_up 1 2 (by omega) (by simp [CQ, put, putA, putL, upd] <;> (try funext j) <;> (try simp [upd])) (fun r' c' hc' hne => by
    rcases r' with _ | _ | k' <;> (rcases (show c' = 0 ∨ c' = 1 ∨ c' = 2 ∨ c' = 3 ∨ c' = 4 by omega) with rfl | rfl | rfl | rfl | rfl) <;> simp [CQ, put, putA, putL] at hne ⊢)
theorem cu_pc {cs : Nat → ClassId} {n : Nat} {ad : Nat → Nat} {σ : St} {j0 : Nat} {v : Int32} : va_up (CC cs n ad σ) (5 * 1 + 3) (.inl (cs 0, 80, .inl (upd (fun j => σ.1 4 0 j) j0 v))) = CC cs n ad (put σ 4 0 j0 v) :=
  CC_up 1 3 (by omega) (by simp [CQ, put, putA, putL, upd] <;> (try funext j) <;> (try simp [upd])) (fun r' c' hc' hne => by
    rcases r' with _ | _ | k' <;> (rcases (show c' = 0 ∨ c' = 1 ∨ c' = 2 ∨ c' = 3 ∨ c' = 4 by omega) with rfl | rfl | rfl | rfl | rfl) <;> simp [CQ, put, putA, putL] at hne ⊢)
theorem cu_pcA {cs : Nat → ClassId} {n : Nat} {ad : Nat → Nat} {σ : St} {g : Nat → Int32} : va_up (CC cs n ad σ) (5 * 1 + 3) (.inl (cs 0, 80, .inl g)) = CC cs n ad (putA σ 4 0 g) :=
  CC_up 1 3 (by omega) (by simp [CQ, put, putA, putL, upd] <;> (try funext j) <;> (try simp [upd])) (fun r' c' hc' hne => by
    rcases r' with _ | _ | k' <;> (rcases (show c' = 0 ∨ c' = 1 ∨ c' = 2 ∨ c' = 3 ∨ c' = 4 by omega) with rfl | rfl | rfl | rfl | rfl) <;> simp [CQ, put, putA, putL] at hne ⊢)
theorem cu_fld {cs : Nat → ClassId} {n : Nat} {ad : Nat → Nat} {σ : St} {j0 : Nat} {v : Int32} : va_up (CC cs n ad σ) (5 * 1 + 4) (.inl (cs 0, 400, .inl (upd (fun j => σ.1 6 0 j) j0 v))) = CC cs n ad (put σ 6 0 j0 v) :=
  CC_up 1 4 (by omega) (by simp [CQ, put, putA, putL, upd] <;> (try funext j) <;> (try simp [upd])) (fun r' c' hc' hne => by
    rcases r' with _ | _ | k' <;> (rcases (show c' = 0 ∨ c' = 1 ∨ c' = 2 ∨ c' = 3 ∨ c' = 4 by omega) with rfl | rfl | rfl | rfl | rfl) <;> simp [CQ, put, putA, putL] at hne ⊢)
theorem cu_fldA {cs : Nat → ClassId} {n : Nat} {ad : Nat → Nat} {σ : St} {g : Nat → Int32} : va_up (CC cs n ad σ) (5 * 1 + 4) (.inl (cs 0, 400, .inl g)) = CC cs n ad (putA σ 6 0 g) :=
  CC_up 1 4 (by omega) (by simp [CQ, put, putA, putL, upd] <;> (try funext j) <;> (try simp [upd])) (fun r' c' hc' hne => by
    rcases r' with _ | _ | k' <;> (rcases (show c' = 0 ∨ c' = 1 ∨ c' = 2 ∨ c' = 3 ∨ c' = 4 by omega) with rfl | rfl | rfl | rfl | rfl) <;> simp [CQ, put, putA, putL] at hne ⊢)
theorem cu_regs {cs : Nat → ClassId} {n : Nat} {ad : Nat → Nat} {σ : St} {k : Nat} {j0 : Nat} {v : Int32} : va_up (CC cs n ad σ) (5 * (k + 2) + 1) (.inl (cs 0, 8, .inl (upd (fun j => σ.1 10 k j) j0 v))) = CC cs n ad (put σ 10 k j0 v) :=
  CC_up (k + 2) 1 (by omega) (by simp [CQ, put, putA, putL, upd] <;> (try funext j) <;> (try simp [upd])) (fun r' c' hc' hne => by
    rcases r' with _ | _ | k' <;> (rcases (show c' = 0 ∨ c' = 1 ∨ c' = 2 ∨ c' = 3 ∨ c' = 4 by omega) with rfl | rfl | rfl | rfl | rfl) <;> simp [CQ, put, putA, putL] at hne ⊢ <;> simp [hne])
theorem cu_regsA {cs : Nat → ClassId} {n : Nat} {ad : Nat → Nat} {σ : St} {k : Nat} {g : Nat → Int32} : va_up (CC cs n ad σ) (5 * (k + 2) + 1) (.inl (cs 0, 8, .inl g)) = CC cs n ad (putA σ 10 k g) :=
  CC_up (k + 2) 1 (by omega) (by simp [CQ, put, putA, putL, upd] <;> (try funext j) <;> (try simp [upd])) (fun r' c' hc' hne => by
    rcases r' with _ | _ | k' <;> (rcases (show c' = 0 ∨ c' = 1 ∨ c' = 2 ∨ c' = 3 ∨ c' = 4 by omega) with rfl | rfl | rfl | rfl | rfl) <;> simp [CQ, put, putA, putL] at hne ⊢ <;> simp [hne])
theorem cu_kept {cs : Nat → ClassId} {n : Nat} {ad : Nat → Nat} {σ : St} {k : Nat} {j0 : Nat} {v : Int32} : va_up (CC cs n ad σ) (5 * (k + 2) + 3) (.inl (cs 0, 8, .inl (upd (fun j => σ.1 11 k j) j0 v))) = CC cs n ad (put σ 11 k j0 v) :=
  CC_up (k + 2) 3 (by omega) (by simp [CQ, put, putA, putL, upd] <;> (try funext j) <;> (try simp [upd])) (fun r' c' hc' hne => by
    rcases r' with _ | _ | k' <;> (rcases (show c' = 0 ∨ c' = 1 ∨ c' = 2 ∨ c' = 3 ∨ c' = 4 by omega) with rfl | rfl | rfl | rfl | rfl) <;> simp [CQ, put, putA, putL] at hne ⊢ <;> simp [hne])
theorem cu_keptA {cs : Nat → ClassId} {n : Nat} {ad : Nat → Nat} {σ : St} {k : Nat} {g : Nat → Int32} : va_up (CC cs n ad σ) (5 * (k + 2) + 3) (.inl (cs 0, 8, .inl g)) = CC cs n ad (putA σ 11 k g) :=
  CC_up (k + 2) 3 (by omega) (by simp [CQ, put, putA, putL, upd] <;> (try funext j) <;> (try simp [upd])) (fun r' c' hc' hne => by
    rcases r' with _ | _ | k' <;> (rcases (show c' = 0 ∨ c' = 1 ∨ c' = 2 ∨ c' = 3 ∨ c' = 4 by omega) with rfl | rfl | rfl | rfl | rfl) <;> simp [CQ, put, putA, putL] at hne ⊢ <;> simp [hne])
theorem cu_stw {cs : Nat → ClassId} {n : Nat} {ad : Nat → Nat} {σ : St} {k : Nat} {j0 : Nat} {v : Int32} : va_up (CC cs n ad σ) (5 * (k + 2) + 4) (.inl (cs 0, 64, .inl (upd (fun j => σ.1 12 k j) j0 v))) = CC cs n ad (put σ 12 k j0 v) :=
  CC_up (k + 2) 4 (by omega) (by simp [CQ, put, putA, putL, upd] <;> (try funext j) <;> (try simp [upd])) (fun r' c' hc' hne => by
    rcases r' with _ | _ | k' <;> (rcases (show c' = 0 ∨ c' = 1 ∨ c' = 2 ∨ c' = 3 ∨ c' = 4 by omega) with rfl | rfl | rfl | rfl | rfl) <;> simp [CQ, put, putA, putL] at hne ⊢ <;> simp [hne])
theorem cu_stwA {cs : Nat → ClassId} {n : Nat} {ad : Nat → Nat} {σ : St} {k : Nat} {g : Nat → Int32} : va_up (CC cs n ad σ) (5 * (k + 2) + 4) (.inl (cs 0, 64, .inl g)) = CC cs n ad (putA σ 12 k g) :=
  CC_up (k + 2) 4 (by omega) (by simp [CQ, put, putA, putL, upd] <;> (try funext j) <;> (try simp [upd])) (fun r' c' hc' hne => by
    rcases r' with _ | _ | k' <;> (rcases (show c' = 0 ∨ c' = 1 ∨ c' = 2 ∨ c' = 3 ∨ c' = 4 by omega) with rfl | rfl | rfl | rfl | rfl) <;> simp [CQ, put, putA, putL] at hne ⊢ <;> simp [hne])
/-- the reference's cells: its object (what it has thrown, its next place), then its arrays -/
def CR (cs : Nat → ClassId) (n : Nat) (ad : Nat → Nat) (th nx : Int32) (σ : St) (i : Nat) : va_E := match i with
  | 0 => .inr (5, [.int th, .int (nI n), .int (σ.1 27 0 0), .int (σ.1 28 0 0), .ref (ad 1), .int (σ.1 5 0 0), .ref (ad 2), .ref (ad 3), .ref (ad 4), .ref (ad 5), .ref (ad 6), .ref (ad 7), .ref (ad 8), .ref (ad 9), .ref (ad 10), .ref (ad 11), .ref (ad 12), .ref (ad 13), .ref (ad 14), .ref (ad 15), .ref (ad 16), .ref (ad 17), .ref (ad 18), .ref (ad 19), .ref (ad 20), .int (σ.1 9 0 0), .int (σ.1 7 0 0), .ref (ad 21), .int nx])
  | 1 => .inl (cs 0, 64, .inl (fun j => σ.1 0 0 j))
  | 2 => .inl (cs 0, 80, .inl (fun j => σ.1 1 0 j))
  | 3 => .inl (cs 0, 80, .inl (fun j => σ.1 2 0 j))
  | 4 => .inl (cs 0, 80, .inl (fun j => σ.1 3 0 j))
  | 5 => .inl (cs 0, 80, .inl (fun j => σ.1 4 0 j))
  | 6 => .inl (cs 0, 4, .inl (fun k => σ.1 13 k 0))
  | 7 => .inl (cs 3, 4, .inl (fun k => σ.1 14 k 0))
  | 8 => .inl (cs 0, 4, .inl (fun k => σ.1 15 k 0))
  | 9 => .inl (cs 0, 32, .inl (fun i => σ.1 10 (i / 8) (i % 8)))
  | 10 => .inl (cs 0, 4, .inl (fun k => σ.1 18 k 0))
  | 11 => .inl (cs 0, 4, .inl (fun k => σ.1 19 k 0))
  | 12 => .inl (cs 0, 4, .inl (fun k => σ.1 20 k 0))
  | 13 => .inl (cs 0, 4, .inl (fun k => σ.1 21 k 0))
  | 14 => .inl (cs 0, 32, .inl (fun i => σ.1 11 (i / 8) (i % 8)))
  | 15 => .inl (cs 0, 4, .inl (fun k => σ.1 22 k 0))
  | 16 => .inl (cs 0, 4, .inl (fun k => σ.1 23 k 0))
  | 17 => .inl (cs 2, 4, .inr (.inl (fun k => σ.2 k)))
  | 18 => .inl (cs 0, 256, .inl (fun i => σ.1 12 (i / 64) (i % 64)))
  | 19 => .inl (cs 0, 4, .inl (fun k => σ.1 16 k 0))
  | 20 => .inl (cs 0, 4, .inl (fun k => σ.1 17 k 0))
  | _ => .inl (cs 0, 400, .inl (fun j => σ.1 24 0 j))
theorem cr_obj {cs : Nat → ClassId} {n : Nat} {ad : Nat → Nat} {th nx : Int32} {σ : St} : (FW 22 ad (CR cs n ad th nx σ))[0]? = some (ad 0, .inr (5, [.int th, .int (nI n), .int (σ.1 27 0 0), .int (σ.1 28 0 0), .ref (ad 1), .int (σ.1 5 0 0), .ref (ad 2), .ref (ad 3), .ref (ad 4), .ref (ad 5), .ref (ad 6), .ref (ad 7), .ref (ad 8), .ref (ad 9), .ref (ad 10), .ref (ad 11), .ref (ad 12), .ref (ad 13), .ref (ad 14), .ref (ad 15), .ref (ad 16), .ref (ad 17), .ref (ad 18), .ref (ad 19), .ref (ad 20), .int (σ.1 9 0 0), .int (σ.1 7 0 0), .ref (ad 21), .int nx])) := FW_get (by omega) rfl
theorem cr_mem {cs : Nat → ClassId} {n : Nat} {ad : Nat → Nat} {th nx : Int32} {σ : St} : (FW 22 ad (CR cs n ad th nx σ))[1]? = some (ad 1, .inl (cs 0, 64, .inl (fun j => σ.1 0 0 j))) := FW_get (by omega) rfl
theorem cr_ops {cs : Nat → ClassId} {n : Nat} {ad : Nat → Nat} {th nx : Int32} {σ : St} : (FW 22 ad (CR cs n ad th nx σ))[2]? = some (ad 2, .inl (cs 0, 80, .inl (fun j => σ.1 1 0 j))) := FW_get (by omega) rfl
theorem cr_as {cs : Nat → ClassId} {n : Nat} {ad : Nat → Nat} {th nx : Int32} {σ : St} : (FW 22 ad (CR cs n ad th nx σ))[3]? = some (ad 3, .inl (cs 0, 80, .inl (fun j => σ.1 2 0 j))) := FW_get (by omega) rfl
theorem cr_bs {cs : Nat → ClassId} {n : Nat} {ad : Nat → Nat} {th nx : Int32} {σ : St} : (FW 22 ad (CR cs n ad th nx σ))[4]? = some (ad 4, .inl (cs 0, 80, .inl (fun j => σ.1 3 0 j))) := FW_get (by omega) rfl
theorem cr_cs {cs : Nat → ClassId} {n : Nat} {ad : Nat → Nat} {th nx : Int32} {σ : St} : (FW 22 ad (CR cs n ad th nx σ))[5]? = some (ad 5, .inl (cs 0, 80, .inl (fun j => σ.1 4 0 j))) := FW_get (by omega) rfl
theorem cr_places {cs : Nat → ClassId} {n : Nat} {ad : Nat → Nat} {th nx : Int32} {σ : St} : (FW 22 ad (CR cs n ad th nx σ))[6]? = some (ad 6, .inl (cs 0, 4, .inl (fun k => σ.1 13 k 0))) := FW_get (by omega) rfl
theorem cr_ended {cs : Nat → ClassId} {n : Nat} {ad : Nat → Nat} {th nx : Int32} {σ : St} : (FW 22 ad (CR cs n ad th nx σ))[7]? = some (ad 7, .inl (cs 3, 4, .inl (fun k => σ.1 14 k 0))) := FW_get (by omega) rfl
theorem cr_retired {cs : Nat → ClassId} {n : Nat} {ad : Nat → Nat} {th nx : Int32} {σ : St} : (FW 22 ad (CR cs n ad th nx σ))[8]? = some (ad 8, .inl (cs 0, 4, .inl (fun k => σ.1 15 k 0))) := FW_get (by omega) rfl
theorem cr_registers {cs : Nat → ClassId} {n : Nat} {ad : Nat → Nat} {th nx : Int32} {σ : St} : (FW 22 ad (CR cs n ad th nx σ))[9]? = some (ad 9, .inl (cs 0, 32, .inl (fun i => σ.1 10 (i / 8) (i % 8)))) := FW_get (by omega) rfl
theorem cr_depths {cs : Nat → ClassId} {n : Nat} {ad : Nat → Nat} {th nx : Int32} {σ : St} : (FW 22 ad (CR cs n ad th nx σ))[10]? = some (ad 10, .inl (cs 0, 4, .inl (fun k => σ.1 18 k 0))) := FW_get (by omega) rfl
theorem cr_ages {cs : Nat → ClassId} {n : Nat} {ad : Nat → Nat} {th nx : Int32} {σ : St} : (FW 22 ad (CR cs n ad th nx σ))[11]? = some (ad 11, .inl (cs 0, 4, .inl (fun k => σ.1 19 k 0))) := FW_get (by omega) rfl
theorem cr_begins {cs : Nat → ClassId} {n : Nat} {ad : Nat → Nat} {th nx : Int32} {σ : St} : (FW 22 ad (CR cs n ad th nx σ))[12]? = some (ad 12, .inl (cs 0, 4, .inl (fun k => σ.1 20 k 0))) := FW_get (by omega) rfl
theorem cr_returns {cs : Nat → ClassId} {n : Nat} {ad : Nat → Nat} {th nx : Int32} {σ : St} : (FW 22 ad (CR cs n ad th nx σ))[13]? = some (ad 13, .inl (cs 0, 4, .inl (fun k => σ.1 21 k 0))) := FW_get (by omega) rfl
theorem cr_kept {cs : Nat → ClassId} {n : Nat} {ad : Nat → Nat} {th nx : Int32} {σ : St} : (FW 22 ad (CR cs n ad th nx σ))[14]? = some (ad 14, .inl (cs 0, 32, .inl (fun i => σ.1 11 (i / 8) (i % 8)))) := FW_get (by omega) rfl
theorem cr_reads {cs : Nat → ClassId} {n : Nat} {ad : Nat → Nat} {th nx : Int32} {σ : St} : (FW 22 ad (CR cs n ad th nx σ))[15]? = some (ad 15, .inl (cs 0, 4, .inl (fun k => σ.1 22 k 0))) := FW_get (by omega) rfl
theorem cr_writes {cs : Nat → ClassId} {n : Nat} {ad : Nat → Nat} {th nx : Int32} {σ : St} : (FW 22 ad (CR cs n ad th nx σ))[16]? = some (ad 16, .inl (cs 0, 4, .inl (fun k => σ.1 23 k 0))) := FW_get (by omega) rfl
theorem cr_stores {cs : Nat → ClassId} {n : Nat} {ad : Nat → Nat} {th nx : Int32} {σ : St} : (FW 22 ad (CR cs n ad th nx σ))[17]? = some (ad 17, .inl (cs 2, 4, .inr (.inl (fun k => σ.2 k)))) := FW_get (by omega) rfl
theorem cr_stored {cs : Nat → ClassId} {n : Nat} {ad : Nat → Nat} {th nx : Int32} {σ : St} : (FW 22 ad (CR cs n ad th nx σ))[18]? = some (ad 18, .inl (cs 0, 256, .inl (fun i => σ.1 12 (i / 64) (i % 64)))) := FW_get (by omega) rfl
theorem cr_committed {cs : Nat → ClassId} {n : Nat} {ad : Nat → Nat} {th nx : Int32} {σ : St} : (FW 22 ad (CR cs n ad th nx σ))[19]? = some (ad 19, .inl (cs 0, 4, .inl (fun k => σ.1 16 k 0))) := FW_get (by omega) rfl
theorem cr_broken {cs : Nat → ClassId} {n : Nat} {ad : Nat → Nat} {th nx : Int32} {σ : St} : (FW 22 ad (CR cs n ad th nx σ))[20]? = some (ad 20, .inl (cs 0, 4, .inl (fun k => σ.1 17 k 0))) := FW_get (by omega) rfl
theorem cr_recs {cs : Nat → ClassId} {n : Nat} {ad : Nat → Nat} {th nx : Int32} {σ : St} : (FW 22 ad (CR cs n ad th nx σ))[21]? = some (ad 21, .inl (cs 0, 400, .inl (fun j => σ.1 24 0 j))) := FW_get (by omega) rfl
theorem CR_up {cs : Nat → ClassId} {n : Nat} {ad : Nat → Nat} {th nx th' nx' : Int32} {σ σ' : St} (i : Nat) {e : va_E} (h1 : CR cs n ad th' nx' σ' i = e) (h2 : ∀ j, j ≤ 21 → j ≠ i → CR cs n ad th' nx' σ' j = CR cs n ad th nx σ j) (h3 : i ≤ 21) {H : Heap} {D : va_G} (hP : va_P D vwCl ((FW 22 ad (CR cs n ad th nx σ)).set i (ad i, e)) H) : va_P D vwCl (FW 22 ad (CR cs n ad th' nx' σ')) H := by
  rw [FW_set rfl] at hP
  rw [FW_at] at hP ⊢
  intro j hj
  have h := hP j hj
  by_cases hji : j = i
  · subst hji
    rw [va_up_self] at h
    rw [h1]; exact h
  · rw [va_up_ne _ _ hji] at h
    rw [h2 j (by omega) hji]; exact h
theorem cru_th {cs : Nat → ClassId} {n : Nat} {ad : Nat → Nat} {th nx : Int32} {σ : St} {v : Int32}  {H : Heap} {D : va_G} (hP : va_P D vwCl ((FW 22 ad (CR cs n ad th nx σ)).set 0 (ad 0, .inr (5, [.int v, .int (nI n), .int (σ.1 27 0 0), .int (σ.1 28 0 0), .ref (ad 1), .int (σ.1 5 0 0), .ref (ad 2), .ref (ad 3), .ref (ad 4), .ref (ad 5), .ref (ad 6), .ref (ad 7), .ref (ad 8), .ref (ad 9), .ref (ad 10), .ref (ad 11), .ref (ad 12), .ref (ad 13), .ref (ad 14), .ref (ad 15), .ref (ad 16), .ref (ad 17), .ref (ad 18), .ref (ad 19), .ref (ad 20), .int (σ.1 9 0 0), .int (σ.1 7 0 0), .ref (ad 21), .int nx]))) H) : va_P D vwCl (FW 22 ad (CR cs n ad v nx (σ))) H :=
  CR_up 0 (rfl) (fun j hj hne => by
    match j, hj, hne with
    | 0, _, h => exact absurd rfl h
    | 1, _, _ => first | rfl | (simp [CR, put, putA, putL]; done)
    | 2, _, _ => first | rfl | (simp [CR, put, putA, putL]; done)
    | 3, _, _ => first | rfl | (simp [CR, put, putA, putL]; done)
    | 4, _, _ => first | rfl | (simp [CR, put, putA, putL]; done)
    | 5, _, _ => first | rfl | (simp [CR, put, putA, putL]; done)
    | 6, _, _ => first | rfl | (simp [CR, put, putA, putL]; done)
    | 7, _, _ => first | rfl | (simp [CR, put, putA, putL]; done)
    | 8, _, _ => first | rfl | (simp [CR, put, putA, putL]; done)
    | 9, _, _ => first | rfl | (simp [CR, put, putA, putL]; done)
    | 10, _, _ => first | rfl | (simp [CR, put, putA, putL]; done)
    | 11, _, _ => first | rfl | (simp [CR, put, putA, putL]; done)
    | 12, _, _ => first | rfl | (simp [CR, put, putA, putL]; done)
    | 13, _, _ => first | rfl | (simp [CR, put, putA, putL]; done)
    | 14, _, _ => first | rfl | (simp [CR, put, putA, putL]; done)
    | 15, _, _ => first | rfl | (simp [CR, put, putA, putL]; done)
    | 16, _, _ => first | rfl | (simp [CR, put, putA, putL]; done)
    | 17, _, _ => first | rfl | (simp [CR, put, putA, putL]; done)
    | 18, _, _ => first | rfl | (simp [CR, put, putA, putL]; done)
    | 19, _, _ => first | rfl | (simp [CR, put, putA, putL]; done)
    | 20, _, _ => first | rfl | (simp [CR, put, putA, putL]; done)
    | 21, _, _ => first | rfl | (simp [CR, put, putA, putL]; done)
    | q + 22, hq, _ => omega) (by omega) hP
theorem cru_nx {cs : Nat → ClassId} {n : Nat} {ad : Nat → Nat} {th nx : Int32} {σ : St} {v : Int32}  {H : Heap} {D : va_G} (hP : va_P D vwCl ((FW 22 ad (CR cs n ad th nx σ)).set 0 (ad 0, .inr (5, [.int th, .int (nI n), .int (σ.1 27 0 0), .int (σ.1 28 0 0), .ref (ad 1), .int (σ.1 5 0 0), .ref (ad 2), .ref (ad 3), .ref (ad 4), .ref (ad 5), .ref (ad 6), .ref (ad 7), .ref (ad 8), .ref (ad 9), .ref (ad 10), .ref (ad 11), .ref (ad 12), .ref (ad 13), .ref (ad 14), .ref (ad 15), .ref (ad 16), .ref (ad 17), .ref (ad 18), .ref (ad 19), .ref (ad 20), .int (σ.1 9 0 0), .int (σ.1 7 0 0), .ref (ad 21), .int v]))) H) : va_P D vwCl (FW 22 ad (CR cs n ad th v (σ))) H :=
  CR_up 0 (rfl) (fun j hj hne => by
    match j, hj, hne with
    | 0, _, h => exact absurd rfl h
    | 1, _, _ => first | rfl | (simp [CR, put, putA, putL]; done)
    | 2, _, _ => first | rfl | (simp [CR, put, putA, putL]; done)
    | 3, _, _ => first | rfl | (simp [CR, put, putA, putL]; done)
    | 4, _, _ => first | rfl | (simp [CR, put, putA, putL]; done)
    | 5, _, _ => first | rfl | (simp [CR, put, putA, putL]; done)
    | 6, _, _ => first | rfl | (simp [CR, put, putA, putL]; done)
    | 7, _, _ => first | rfl | (simp [CR, put, putA, putL]; done)
    | 8, _, _ => first | rfl | (simp [CR, put, putA, putL]; done)
    | 9, _, _ => first | rfl | (simp [CR, put, putA, putL]; done)
    | 10, _, _ => first | rfl | (simp [CR, put, putA, putL]; done)
    | 11, _, _ => first | rfl | (simp [CR, put, putA, putL]; done)
    | 12, _, _ => first | rfl | (simp [CR, put, putA, putL]; done)
    | 13, _, _ => first | rfl | (simp [CR, put, putA, putL]; done)
    | 14, _, _ => first | rfl | (simp [CR, put, putA, putL]; done)
    | 15, _, _ => first | rfl | (simp [CR, put, putA, putL]; done)
    | 16, _, _ => first | rfl | (simp [CR, put, putA, putL]; done)
    | 17, _, _ => first | rfl | (simp [CR, put, putA, putL]; done)
    | 18, _, _ => first | rfl | (simp [CR, put, putA, putL]; done)
    | 19, _, _ => first | rfl | (simp [CR, put, putA, putL]; done)
    | 20, _, _ => first | rfl | (simp [CR, put, putA, putL]; done)
    | 21, _, _ => first | rfl | (simp [CR, put, putA, putL]; done)
    | q + 22, hq, _ => omega) (by omega) hP
theorem cru_obj_5 {cs : Nat → ClassId} {n : Nat} {ad : Nat → Nat} {th nx : Int32} {σ : St} {v : Int32}  {H : Heap} {D : va_G} (hP : va_P D vwCl ((FW 22 ad (CR cs n ad th nx σ)).set 0 (ad 0, .inr (5, [.int th, .int (nI n), .int (σ.1 27 0 0), .int (σ.1 28 0 0), .ref (ad 1), .int v, .ref (ad 2), .ref (ad 3), .ref (ad 4), .ref (ad 5), .ref (ad 6), .ref (ad 7), .ref (ad 8), .ref (ad 9), .ref (ad 10), .ref (ad 11), .ref (ad 12), .ref (ad 13), .ref (ad 14), .ref (ad 15), .ref (ad 16), .ref (ad 17), .ref (ad 18), .ref (ad 19), .ref (ad 20), .int (σ.1 9 0 0), .int (σ.1 7 0 0), .ref (ad 21), .int nx]))) H) : va_P D vwCl (FW 22 ad (CR cs n ad th nx (put σ 5 0 0 v))) H :=
  CR_up 0 (rfl) (fun j hj hne => by
    match j, hj, hne with
    | 0, _, h => exact absurd rfl h
    | 1, _, _ => first | rfl | (simp [CR, put, putA, putL]; done)
    | 2, _, _ => first | rfl | (simp [CR, put, putA, putL]; done)
    | 3, _, _ => first | rfl | (simp [CR, put, putA, putL]; done)
    | 4, _, _ => first | rfl | (simp [CR, put, putA, putL]; done)
    | 5, _, _ => first | rfl | (simp [CR, put, putA, putL]; done)
    | 6, _, _ => first | rfl | (simp [CR, put, putA, putL]; done)
    | 7, _, _ => first | rfl | (simp [CR, put, putA, putL]; done)
    | 8, _, _ => first | rfl | (simp [CR, put, putA, putL]; done)
    | 9, _, _ => first | rfl | (simp [CR, put, putA, putL]; done)
    | 10, _, _ => first | rfl | (simp [CR, put, putA, putL]; done)
    | 11, _, _ => first | rfl | (simp [CR, put, putA, putL]; done)
    | 12, _, _ => first | rfl | (simp [CR, put, putA, putL]; done)
    | 13, _, _ => first | rfl | (simp [CR, put, putA, putL]; done)
    | 14, _, _ => first | rfl | (simp [CR, put, putA, putL]; done)
    | 15, _, _ => first | rfl | (simp [CR, put, putA, putL]; done)
    | 16, _, _ => first | rfl | (simp [CR, put, putA, putL]; done)
    | 17, _, _ => first | rfl | (simp [CR, put, putA, putL]; done)
    | 18, _, _ => first | rfl | (simp [CR, put, putA, putL]; done)
    | 19, _, _ => first | rfl | (simp [CR, put, putA, putL]; done)
    | 20, _, _ => first | rfl | (simp [CR, put, putA, putL]; done)
    | 21, _, _ => first | rfl | (simp [CR, put, putA, putL]; done)
    | q + 22, hq, _ => omega) (by omega) hP
theorem cru_obj_25 {cs : Nat → ClassId} {n : Nat} {ad : Nat → Nat} {th nx : Int32} {σ : St} {v : Int32}  {H : Heap} {D : va_G} (hP : va_P D vwCl ((FW 22 ad (CR cs n ad th nx σ)).set 0 (ad 0, .inr (5, [.int th, .int (nI n), .int (σ.1 27 0 0), .int (σ.1 28 0 0), .ref (ad 1), .int (σ.1 5 0 0), .ref (ad 2), .ref (ad 3), .ref (ad 4), .ref (ad 5), .ref (ad 6), .ref (ad 7), .ref (ad 8), .ref (ad 9), .ref (ad 10), .ref (ad 11), .ref (ad 12), .ref (ad 13), .ref (ad 14), .ref (ad 15), .ref (ad 16), .ref (ad 17), .ref (ad 18), .ref (ad 19), .ref (ad 20), .int v, .int (σ.1 7 0 0), .ref (ad 21), .int nx]))) H) : va_P D vwCl (FW 22 ad (CR cs n ad th nx (put σ 9 0 0 v))) H :=
  CR_up 0 (rfl) (fun j hj hne => by
    match j, hj, hne with
    | 0, _, h => exact absurd rfl h
    | 1, _, _ => first | rfl | (simp [CR, put, putA, putL]; done)
    | 2, _, _ => first | rfl | (simp [CR, put, putA, putL]; done)
    | 3, _, _ => first | rfl | (simp [CR, put, putA, putL]; done)
    | 4, _, _ => first | rfl | (simp [CR, put, putA, putL]; done)
    | 5, _, _ => first | rfl | (simp [CR, put, putA, putL]; done)
    | 6, _, _ => first | rfl | (simp [CR, put, putA, putL]; done)
    | 7, _, _ => first | rfl | (simp [CR, put, putA, putL]; done)
    | 8, _, _ => first | rfl | (simp [CR, put, putA, putL]; done)
    | 9, _, _ => first | rfl | (simp [CR, put, putA, putL]; done)
    | 10, _, _ => first | rfl | (simp [CR, put, putA, putL]; done)
    | 11, _, _ => first | rfl | (simp [CR, put, putA, putL]; done)
    | 12, _, _ => first | rfl | (simp [CR, put, putA, putL]; done)
    | 13, _, _ => first | rfl | (simp [CR, put, putA, putL]; done)
    | 14, _, _ => first | rfl | (simp [CR, put, putA, putL]; done)
    | 15, _, _ => first | rfl | (simp [CR, put, putA, putL]; done)
    | 16, _, _ => first | rfl | (simp [CR, put, putA, putL]; done)
    | 17, _, _ => first | rfl | (simp [CR, put, putA, putL]; done)
    | 18, _, _ => first | rfl | (simp [CR, put, putA, putL]; done)
    | 19, _, _ => first | rfl | (simp [CR, put, putA, putL]; done)
    | 20, _, _ => first | rfl | (simp [CR, put, putA, putL]; done)
    | 21, _, _ => first | rfl | (simp [CR, put, putA, putL]; done)
    | q + 22, hq, _ => omega) (by omega) hP
theorem cru_obj_26 {cs : Nat → ClassId} {n : Nat} {ad : Nat → Nat} {th nx : Int32} {σ : St} {v : Int32}  {H : Heap} {D : va_G} (hP : va_P D vwCl ((FW 22 ad (CR cs n ad th nx σ)).set 0 (ad 0, .inr (5, [.int th, .int (nI n), .int (σ.1 27 0 0), .int (σ.1 28 0 0), .ref (ad 1), .int (σ.1 5 0 0), .ref (ad 2), .ref (ad 3), .ref (ad 4), .ref (ad 5), .ref (ad 6), .ref (ad 7), .ref (ad 8), .ref (ad 9), .ref (ad 10), .ref (ad 11), .ref (ad 12), .ref (ad 13), .ref (ad 14), .ref (ad 15), .ref (ad 16), .ref (ad 17), .ref (ad 18), .ref (ad 19), .ref (ad 20), .int (σ.1 9 0 0), .int v, .ref (ad 21), .int nx]))) H) : va_P D vwCl (FW 22 ad (CR cs n ad th nx (put σ 7 0 0 v))) H :=
  CR_up 0 (rfl) (fun j hj hne => by
    match j, hj, hne with
    | 0, _, h => exact absurd rfl h
    | 1, _, _ => first | rfl | (simp [CR, put, putA, putL]; done)
    | 2, _, _ => first | rfl | (simp [CR, put, putA, putL]; done)
    | 3, _, _ => first | rfl | (simp [CR, put, putA, putL]; done)
    | 4, _, _ => first | rfl | (simp [CR, put, putA, putL]; done)
    | 5, _, _ => first | rfl | (simp [CR, put, putA, putL]; done)
    | 6, _, _ => first | rfl | (simp [CR, put, putA, putL]; done)
    | 7, _, _ => first | rfl | (simp [CR, put, putA, putL]; done)
    | 8, _, _ => first | rfl | (simp [CR, put, putA, putL]; done)
    | 9, _, _ => first | rfl | (simp [CR, put, putA, putL]; done)
    | 10, _, _ => first | rfl | (simp [CR, put, putA, putL]; done)
    | 11, _, _ => first | rfl | (simp [CR, put, putA, putL]; done)
    | 12, _, _ => first | rfl | (simp [CR, put, putA, putL]; done)
    | 13, _, _ => first | rfl | (simp [CR, put, putA, putL]; done)
    | 14, _, _ => first | rfl | (simp [CR, put, putA, putL]; done)
    | 15, _, _ => first | rfl | (simp [CR, put, putA, putL]; done)
    | 16, _, _ => first | rfl | (simp [CR, put, putA, putL]; done)
    | 17, _, _ => first | rfl | (simp [CR, put, putA, putL]; done)
    | 18, _, _ => first | rfl | (simp [CR, put, putA, putL]; done)
    | 19, _, _ => first | rfl | (simp [CR, put, putA, putL]; done)
    | 20, _, _ => first | rfl | (simp [CR, put, putA, putL]; done)
    | 21, _, _ => first | rfl | (simp [CR, put, putA, putL]; done)
    | q + 22, hq, _ => omega) (by omega) hP
theorem cru_mem {cs : Nat → ClassId} {n : Nat} {ad : Nat → Nat} {th nx : Int32} {σ : St} {j0 : Nat} {v : Int32}  {H : Heap} {D : va_G} (hP : va_P D vwCl ((FW 22 ad (CR cs n ad th nx σ)).set 1 (ad 1, .inl (cs 0, 64, .inl (upd (fun j => σ.1 0 0 j) j0 v)))) H) : va_P D vwCl (FW 22 ad (CR cs n ad th nx (put σ 0 0 j0 v))) H :=
  CR_up 1 (by
    simp only [CR, put]
    congr 4
    funext q
    by_cases h : q = j0
    · subst h; simp [upd]
    · simp only [upd, if_neg h]; rw [if_neg (by omega)]) (fun j hj hne => by
    match j, hj, hne with
    | 0, _, _ => first | rfl | (simp [CR, put, putA, putL]; done)
    | 1, _, h => exact absurd rfl h
    | 2, _, _ => first | rfl | (simp [CR, put, putA, putL]; done)
    | 3, _, _ => first | rfl | (simp [CR, put, putA, putL]; done)
    | 4, _, _ => first | rfl | (simp [CR, put, putA, putL]; done)
    | 5, _, _ => first | rfl | (simp [CR, put, putA, putL]; done)
    | 6, _, _ => first | rfl | (simp [CR, put, putA, putL]; done)
    | 7, _, _ => first | rfl | (simp [CR, put, putA, putL]; done)
    | 8, _, _ => first | rfl | (simp [CR, put, putA, putL]; done)
    | 9, _, _ => first | rfl | (simp [CR, put, putA, putL]; done)
    | 10, _, _ => first | rfl | (simp [CR, put, putA, putL]; done)
    | 11, _, _ => first | rfl | (simp [CR, put, putA, putL]; done)
    | 12, _, _ => first | rfl | (simp [CR, put, putA, putL]; done)
    | 13, _, _ => first | rfl | (simp [CR, put, putA, putL]; done)
    | 14, _, _ => first | rfl | (simp [CR, put, putA, putL]; done)
    | 15, _, _ => first | rfl | (simp [CR, put, putA, putL]; done)
    | 16, _, _ => first | rfl | (simp [CR, put, putA, putL]; done)
    | 17, _, _ => first | rfl | (simp [CR, put, putA, putL]; done)
    | 18, _, _ => first | rfl | (simp [CR, put, putA, putL]; done)
    | 19, _, _ => first | rfl | (simp [CR, put, putA, putL]; done)
    | 20, _, _ => first | rfl | (simp [CR, put, putA, putL]; done)
    | 21, _, _ => first | rfl | (simp [CR, put, putA, putL]; done)
    | q + 22, hq, _ => omega) (by omega) hP
theorem cru_ops {cs : Nat → ClassId} {n : Nat} {ad : Nat → Nat} {th nx : Int32} {σ : St} {j0 : Nat} {v : Int32}  {H : Heap} {D : va_G} (hP : va_P D vwCl ((FW 22 ad (CR cs n ad th nx σ)).set 2 (ad 2, .inl (cs 0, 80, .inl (upd (fun j => σ.1 1 0 j) j0 v)))) H) : va_P D vwCl (FW 22 ad (CR cs n ad th nx (put σ 1 0 j0 v))) H :=
  CR_up 2 (by
    simp only [CR, put]
    congr 4
    funext q
    by_cases h : q = j0
    · subst h; simp [upd]
    · simp only [upd, if_neg h]; rw [if_neg (by omega)]) (fun j hj hne => by
    match j, hj, hne with
    | 0, _, _ => first | rfl | (simp [CR, put, putA, putL]; done)
    | 1, _, _ => first | rfl | (simp [CR, put, putA, putL]; done)
    | 2, _, h => exact absurd rfl h
    | 3, _, _ => first | rfl | (simp [CR, put, putA, putL]; done)
    | 4, _, _ => first | rfl | (simp [CR, put, putA, putL]; done)
    | 5, _, _ => first | rfl | (simp [CR, put, putA, putL]; done)
    | 6, _, _ => first | rfl | (simp [CR, put, putA, putL]; done)
    | 7, _, _ => first | rfl | (simp [CR, put, putA, putL]; done)
    | 8, _, _ => first | rfl | (simp [CR, put, putA, putL]; done)
    | 9, _, _ => first | rfl | (simp [CR, put, putA, putL]; done)
    | 10, _, _ => first | rfl | (simp [CR, put, putA, putL]; done)
    | 11, _, _ => first | rfl | (simp [CR, put, putA, putL]; done)
    | 12, _, _ => first | rfl | (simp [CR, put, putA, putL]; done)
    | 13, _, _ => first | rfl | (simp [CR, put, putA, putL]; done)
    | 14, _, _ => first | rfl | (simp [CR, put, putA, putL]; done)
    | 15, _, _ => first | rfl | (simp [CR, put, putA, putL]; done)
    | 16, _, _ => first | rfl | (simp [CR, put, putA, putL]; done)
    | 17, _, _ => first | rfl | (simp [CR, put, putA, putL]; done)
    | 18, _, _ => first | rfl | (simp [CR, put, putA, putL]; done)
    | 19, _, _ => first | rfl | (simp [CR, put, putA, putL]; done)
    | 20, _, _ => first | rfl | (simp [CR, put, putA, putL]; done)
    | 21, _, _ => first | rfl | (simp [CR, put, putA, putL]; done)
    | q + 22, hq, _ => omega) (by omega) hP
theorem cru_as {cs : Nat → ClassId} {n : Nat} {ad : Nat → Nat} {th nx : Int32} {σ : St} {j0 : Nat} {v : Int32}  {H : Heap} {D : va_G} (hP : va_P D vwCl ((FW 22 ad (CR cs n ad th nx σ)).set 3 (ad 3, .inl (cs 0, 80, .inl (upd (fun j => σ.1 2 0 j) j0 v)))) H) : va_P D vwCl (FW 22 ad (CR cs n ad th nx (put σ 2 0 j0 v))) H :=
  CR_up 3 (by
    simp only [CR, put]
    congr 4
    funext q
    by_cases h : q = j0
    · subst h; simp [upd]
    · simp only [upd, if_neg h]; rw [if_neg (by omega)]) (fun j hj hne => by
    match j, hj, hne with
    | 0, _, _ => first | rfl | (simp [CR, put, putA, putL]; done)
    | 1, _, _ => first | rfl | (simp [CR, put, putA, putL]; done)
    | 2, _, _ => first | rfl | (simp [CR, put, putA, putL]; done)
    | 3, _, h => exact absurd rfl h
    | 4, _, _ => first | rfl | (simp [CR, put, putA, putL]; done)
    | 5, _, _ => first | rfl | (simp [CR, put, putA, putL]; done)
    | 6, _, _ => first | rfl | (simp [CR, put, putA, putL]; done)
    | 7, _, _ => first | rfl | (simp [CR, put, putA, putL]; done)
    | 8, _, _ => first | rfl | (simp [CR, put, putA, putL]; done)
    | 9, _, _ => first | rfl | (simp [CR, put, putA, putL]; done)
    | 10, _, _ => first | rfl | (simp [CR, put, putA, putL]; done)
    | 11, _, _ => first | rfl | (simp [CR, put, putA, putL]; done)
    | 12, _, _ => first | rfl | (simp [CR, put, putA, putL]; done)
    | 13, _, _ => first | rfl | (simp [CR, put, putA, putL]; done)
    | 14, _, _ => first | rfl | (simp [CR, put, putA, putL]; done)
    | 15, _, _ => first | rfl | (simp [CR, put, putA, putL]; done)
    | 16, _, _ => first | rfl | (simp [CR, put, putA, putL]; done)
    | 17, _, _ => first | rfl | (simp [CR, put, putA, putL]; done)
    | 18, _, _ => first | rfl | (simp [CR, put, putA, putL]; done)
    | 19, _, _ => first | rfl | (simp [CR, put, putA, putL]; done)
    | 20, _, _ => first | rfl | (simp [CR, put, putA, putL]; done)
    | 21, _, _ => first | rfl | (simp [CR, put, putA, putL]; done)
    | q + 22, hq, _ => omega) (by omega) hP
theorem cru_bs {cs : Nat → ClassId} {n : Nat} {ad : Nat → Nat} {th nx : Int32} {σ : St} {j0 : Nat} {v : Int32}  {H : Heap} {D : va_G} (hP : va_P D vwCl ((FW 22 ad (CR cs n ad th nx σ)).set 4 (ad 4, .inl (cs 0, 80, .inl (upd (fun j => σ.1 3 0 j) j0 v)))) H) : va_P D vwCl (FW 22 ad (CR cs n ad th nx (put σ 3 0 j0 v))) H :=
  CR_up 4 (by
    simp only [CR, put]
    congr 4
    funext q
    by_cases h : q = j0
    · subst h; simp [upd]
    · simp only [upd, if_neg h]; rw [if_neg (by omega)]) (fun j hj hne => by
    match j, hj, hne with
    | 0, _, _ => first | rfl | (simp [CR, put, putA, putL]; done)
    | 1, _, _ => first | rfl | (simp [CR, put, putA, putL]; done)
    | 2, _, _ => first | rfl | (simp [CR, put, putA, putL]; done)
    | 3, _, _ => first | rfl | (simp [CR, put, putA, putL]; done)
    | 4, _, h => exact absurd rfl h
    | 5, _, _ => first | rfl | (simp [CR, put, putA, putL]; done)
    | 6, _, _ => first | rfl | (simp [CR, put, putA, putL]; done)
    | 7, _, _ => first | rfl | (simp [CR, put, putA, putL]; done)
    | 8, _, _ => first | rfl | (simp [CR, put, putA, putL]; done)
    | 9, _, _ => first | rfl | (simp [CR, put, putA, putL]; done)
    | 10, _, _ => first | rfl | (simp [CR, put, putA, putL]; done)
    | 11, _, _ => first | rfl | (simp [CR, put, putA, putL]; done)
    | 12, _, _ => first | rfl | (simp [CR, put, putA, putL]; done)
    | 13, _, _ => first | rfl | (simp [CR, put, putA, putL]; done)
    | 14, _, _ => first | rfl | (simp [CR, put, putA, putL]; done)
    | 15, _, _ => first | rfl | (simp [CR, put, putA, putL]; done)
    | 16, _, _ => first | rfl | (simp [CR, put, putA, putL]; done)
    | 17, _, _ => first | rfl | (simp [CR, put, putA, putL]; done)
    | 18, _, _ => first | rfl | (simp [CR, put, putA, putL]; done)
    | 19, _, _ => first | rfl | (simp [CR, put, putA, putL]; done)
    | 20, _, _ => first | rfl | (simp [CR, put, putA, putL]; done)
    | 21, _, _ => first | rfl | (simp [CR, put, putA, putL]; done)
    | q + 22, hq, _ => omega) (by omega) hP
theorem cru_cs {cs : Nat → ClassId} {n : Nat} {ad : Nat → Nat} {th nx : Int32} {σ : St} {j0 : Nat} {v : Int32}  {H : Heap} {D : va_G} (hP : va_P D vwCl ((FW 22 ad (CR cs n ad th nx σ)).set 5 (ad 5, .inl (cs 0, 80, .inl (upd (fun j => σ.1 4 0 j) j0 v)))) H) : va_P D vwCl (FW 22 ad (CR cs n ad th nx (put σ 4 0 j0 v))) H :=
  CR_up 5 (by
    simp only [CR, put]
    congr 4
    funext q
    by_cases h : q = j0
    · subst h; simp [upd]
    · simp only [upd, if_neg h]; rw [if_neg (by omega)]) (fun j hj hne => by
    match j, hj, hne with
    | 0, _, _ => first | rfl | (simp [CR, put, putA, putL]; done)
    | 1, _, _ => first | rfl | (simp [CR, put, putA, putL]; done)
    | 2, _, _ => first | rfl | (simp [CR, put, putA, putL]; done)
    | 3, _, _ => first | rfl | (simp [CR, put, putA, putL]; done)
    | 4, _, _ => first | rfl | (simp [CR, put, putA, putL]; done)
    | 5, _, h => exact absurd rfl h
    | 6, _, _ => first | rfl | (simp [CR, put, putA, putL]; done)
    | 7, _, _ => first | rfl | (simp [CR, put, putA, putL]; done)
    | 8, _, _ => first | rfl | (simp [CR, put, putA, putL]; done)
    | 9, _, _ => first | rfl | (simp [CR, put, putA, putL]; done)
    | 10, _, _ => first | rfl | (simp [CR, put, putA, putL]; done)
    | 11, _, _ => first | rfl | (simp [CR, put, putA, putL]; done)
    | 12, _, _ => first | rfl | (simp [CR, put, putA, putL]; done)
    | 13, _, _ => first | rfl | (simp [CR, put, putA, putL]; done)
    | 14, _, _ => first | rfl | (simp [CR, put, putA, putL]; done)
    | 15, _, _ => first | rfl | (simp [CR, put, putA, putL]; done)
    | 16, _, _ => first | rfl | (simp [CR, put, putA, putL]; done)
    | 17, _, _ => first | rfl | (simp [CR, put, putA, putL]; done)
    | 18, _, _ => first | rfl | (simp [CR, put, putA, putL]; done)
    | 19, _, _ => first | rfl | (simp [CR, put, putA, putL]; done)
    | 20, _, _ => first | rfl | (simp [CR, put, putA, putL]; done)
    | 21, _, _ => first | rfl | (simp [CR, put, putA, putL]; done)
    | q + 22, hq, _ => omega) (by omega) hP
theorem cru_places {cs : Nat → ClassId} {n : Nat} {ad : Nat → Nat} {th nx : Int32} {σ : St} {j0 : Nat} {v : Int32}  {H : Heap} {D : va_G} (hP : va_P D vwCl ((FW 22 ad (CR cs n ad th nx σ)).set 6 (ad 6, .inl (cs 0, 4, .inl (upd (fun k => σ.1 13 k 0) j0 v)))) H) : va_P D vwCl (FW 22 ad (CR cs n ad th nx (put σ 13 j0 0 v))) H :=
  CR_up 6 (by
    simp only [CR, put]
    congr 4
    funext q
    by_cases h : q = j0
    · subst h; simp [upd]
    · simp only [upd, if_neg h]; rw [if_neg (by omega)]) (fun j hj hne => by
    match j, hj, hne with
    | 0, _, _ => first | rfl | (simp [CR, put, putA, putL]; done)
    | 1, _, _ => first | rfl | (simp [CR, put, putA, putL]; done)
    | 2, _, _ => first | rfl | (simp [CR, put, putA, putL]; done)
    | 3, _, _ => first | rfl | (simp [CR, put, putA, putL]; done)
    | 4, _, _ => first | rfl | (simp [CR, put, putA, putL]; done)
    | 5, _, _ => first | rfl | (simp [CR, put, putA, putL]; done)
    | 6, _, h => exact absurd rfl h
    | 7, _, _ => first | rfl | (simp [CR, put, putA, putL]; done)
    | 8, _, _ => first | rfl | (simp [CR, put, putA, putL]; done)
    | 9, _, _ => first | rfl | (simp [CR, put, putA, putL]; done)
    | 10, _, _ => first | rfl | (simp [CR, put, putA, putL]; done)
    | 11, _, _ => first | rfl | (simp [CR, put, putA, putL]; done)
    | 12, _, _ => first | rfl | (simp [CR, put, putA, putL]; done)
    | 13, _, _ => first | rfl | (simp [CR, put, putA, putL]; done)
    | 14, _, _ => first | rfl | (simp [CR, put, putA, putL]; done)
    | 15, _, _ => first | rfl | (simp [CR, put, putA, putL]; done)
    | 16, _, _ => first | rfl | (simp [CR, put, putA, putL]; done)
    | 17, _, _ => first | rfl | (simp [CR, put, putA, putL]; done)
    | 18, _, _ => first | rfl | (simp [CR, put, putA, putL]; done)
    | 19, _, _ => first | rfl | (simp [CR, put, putA, putL]; done)
    | 20, _, _ => first | rfl | (simp [CR, put, putA, putL]; done)
    | 21, _, _ => first | rfl | (simp [CR, put, putA, putL]; done)
    | q + 22, hq, _ => omega) (by omega) hP
theorem cru_ended {cs : Nat → ClassId} {n : Nat} {ad : Nat → Nat} {th nx : Int32} {σ : St} {j0 : Nat} {v : Int32}  {H : Heap} {D : va_G} (hP : va_P D vwCl ((FW 22 ad (CR cs n ad th nx σ)).set 7 (ad 7, .inl (cs 3, 4, .inl (upd (fun k => σ.1 14 k 0) j0 v)))) H) : va_P D vwCl (FW 22 ad (CR cs n ad th nx (put σ 14 j0 0 v))) H :=
  CR_up 7 (by
    simp only [CR, put]
    congr 4
    funext q
    by_cases h : q = j0
    · subst h; simp [upd]
    · simp only [upd, if_neg h]; rw [if_neg (by omega)]) (fun j hj hne => by
    match j, hj, hne with
    | 0, _, _ => first | rfl | (simp [CR, put, putA, putL]; done)
    | 1, _, _ => first | rfl | (simp [CR, put, putA, putL]; done)
    | 2, _, _ => first | rfl | (simp [CR, put, putA, putL]; done)
    | 3, _, _ => first | rfl | (simp [CR, put, putA, putL]; done)
    | 4, _, _ => first | rfl | (simp [CR, put, putA, putL]; done)
    | 5, _, _ => first | rfl | (simp [CR, put, putA, putL]; done)
    | 6, _, _ => first | rfl | (simp [CR, put, putA, putL]; done)
    | 7, _, h => exact absurd rfl h
    | 8, _, _ => first | rfl | (simp [CR, put, putA, putL]; done)
    | 9, _, _ => first | rfl | (simp [CR, put, putA, putL]; done)
    | 10, _, _ => first | rfl | (simp [CR, put, putA, putL]; done)
    | 11, _, _ => first | rfl | (simp [CR, put, putA, putL]; done)
    | 12, _, _ => first | rfl | (simp [CR, put, putA, putL]; done)
    | 13, _, _ => first | rfl | (simp [CR, put, putA, putL]; done)
    | 14, _, _ => first | rfl | (simp [CR, put, putA, putL]; done)
    | 15, _, _ => first | rfl | (simp [CR, put, putA, putL]; done)
    | 16, _, _ => first | rfl | (simp [CR, put, putA, putL]; done)
    | 17, _, _ => first | rfl | (simp [CR, put, putA, putL]; done)
    | 18, _, _ => first | rfl | (simp [CR, put, putA, putL]; done)
    | 19, _, _ => first | rfl | (simp [CR, put, putA, putL]; done)
    | 20, _, _ => first | rfl | (simp [CR, put, putA, putL]; done)
    | 21, _, _ => first | rfl | (simp [CR, put, putA, putL]; done)
    | q + 22, hq, _ => omega) (by omega) hP
theorem cru_retired {cs : Nat → ClassId} {n : Nat} {ad : Nat → Nat} {th nx : Int32} {σ : St} {j0 : Nat} {v : Int32}  {H : Heap} {D : va_G} (hP : va_P D vwCl ((FW 22 ad (CR cs n ad th nx σ)).set 8 (ad 8, .inl (cs 0, 4, .inl (upd (fun k => σ.1 15 k 0) j0 v)))) H) : va_P D vwCl (FW 22 ad (CR cs n ad th nx (put σ 15 j0 0 v))) H :=
  CR_up 8 (by
    simp only [CR, put]
    congr 4
    funext q
    by_cases h : q = j0
    · subst h; simp [upd]
    · simp only [upd, if_neg h]; rw [if_neg (by omega)]) (fun j hj hne => by
    match j, hj, hne with
    | 0, _, _ => first | rfl | (simp [CR, put, putA, putL]; done)
    | 1, _, _ => first | rfl | (simp [CR, put, putA, putL]; done)
    | 2, _, _ => first | rfl | (simp [CR, put, putA, putL]; done)
    | 3, _, _ => first | rfl | (simp [CR, put, putA, putL]; done)
    | 4, _, _ => first | rfl | (simp [CR, put, putA, putL]; done)
    | 5, _, _ => first | rfl | (simp [CR, put, putA, putL]; done)
    | 6, _, _ => first | rfl | (simp [CR, put, putA, putL]; done)
    | 7, _, _ => first | rfl | (simp [CR, put, putA, putL]; done)
    | 8, _, h => exact absurd rfl h
    | 9, _, _ => first | rfl | (simp [CR, put, putA, putL]; done)
    | 10, _, _ => first | rfl | (simp [CR, put, putA, putL]; done)
    | 11, _, _ => first | rfl | (simp [CR, put, putA, putL]; done)
    | 12, _, _ => first | rfl | (simp [CR, put, putA, putL]; done)
    | 13, _, _ => first | rfl | (simp [CR, put, putA, putL]; done)
    | 14, _, _ => first | rfl | (simp [CR, put, putA, putL]; done)
    | 15, _, _ => first | rfl | (simp [CR, put, putA, putL]; done)
    | 16, _, _ => first | rfl | (simp [CR, put, putA, putL]; done)
    | 17, _, _ => first | rfl | (simp [CR, put, putA, putL]; done)
    | 18, _, _ => first | rfl | (simp [CR, put, putA, putL]; done)
    | 19, _, _ => first | rfl | (simp [CR, put, putA, putL]; done)
    | 20, _, _ => first | rfl | (simp [CR, put, putA, putL]; done)
    | 21, _, _ => first | rfl | (simp [CR, put, putA, putL]; done)
    | q + 22, hq, _ => omega) (by omega) hP
theorem cru_registers {cs : Nat → ClassId} {n : Nat} {ad : Nat → Nat} {th nx : Int32} {σ : St} {j0 : Nat} {v : Int32}  {H : Heap} {D : va_G} (hP : va_P D vwCl ((FW 22 ad (CR cs n ad th nx σ)).set 9 (ad 9, .inl (cs 0, 32, .inl (upd (fun i => σ.1 10 (i / 8) (i % 8)) j0 v)))) H) : va_P D vwCl (FW 22 ad (CR cs n ad th nx (put σ 10 (j0 / 8) (j0 % 8) v))) H :=
  CR_up 9 (by
    simp only [CR, put]
    congr 4
    funext q
    by_cases h : q = j0
    · subst h; simp [upd]
    · simp only [upd, if_neg h]; rw [if_neg (by omega)]) (fun j hj hne => by
    match j, hj, hne with
    | 0, _, _ => first | rfl | (simp [CR, put, putA, putL]; done)
    | 1, _, _ => first | rfl | (simp [CR, put, putA, putL]; done)
    | 2, _, _ => first | rfl | (simp [CR, put, putA, putL]; done)
    | 3, _, _ => first | rfl | (simp [CR, put, putA, putL]; done)
    | 4, _, _ => first | rfl | (simp [CR, put, putA, putL]; done)
    | 5, _, _ => first | rfl | (simp [CR, put, putA, putL]; done)
    | 6, _, _ => first | rfl | (simp [CR, put, putA, putL]; done)
    | 7, _, _ => first | rfl | (simp [CR, put, putA, putL]; done)
    | 8, _, _ => first | rfl | (simp [CR, put, putA, putL]; done)
    | 9, _, h => exact absurd rfl h
    | 10, _, _ => first | rfl | (simp [CR, put, putA, putL]; done)
    | 11, _, _ => first | rfl | (simp [CR, put, putA, putL]; done)
    | 12, _, _ => first | rfl | (simp [CR, put, putA, putL]; done)
    | 13, _, _ => first | rfl | (simp [CR, put, putA, putL]; done)
    | 14, _, _ => first | rfl | (simp [CR, put, putA, putL]; done)
    | 15, _, _ => first | rfl | (simp [CR, put, putA, putL]; done)
    | 16, _, _ => first | rfl | (simp [CR, put, putA, putL]; done)
    | 17, _, _ => first | rfl | (simp [CR, put, putA, putL]; done)
    | 18, _, _ => first | rfl | (simp [CR, put, putA, putL]; done)
    | 19, _, _ => first | rfl | (simp [CR, put, putA, putL]; done)
    | 20, _, _ => first | rfl | (simp [CR, put, putA, putL]; done)
    | 21, _, _ => first | rfl | (simp [CR, put, putA, putL]; done)
    | q + 22, hq, _ => omega) (by omega) hP
theorem cru_depths {cs : Nat → ClassId} {n : Nat} {ad : Nat → Nat} {th nx : Int32} {σ : St} {j0 : Nat} {v : Int32}  {H : Heap} {D : va_G} (hP : va_P D vwCl ((FW 22 ad (CR cs n ad th nx σ)).set 10 (ad 10, .inl (cs 0, 4, .inl (upd (fun k => σ.1 18 k 0) j0 v)))) H) : va_P D vwCl (FW 22 ad (CR cs n ad th nx (put σ 18 j0 0 v))) H :=
  CR_up 10 (by
    simp only [CR, put]
    congr 4
    funext q
    by_cases h : q = j0
    · subst h; simp [upd]
    · simp only [upd, if_neg h]; rw [if_neg (by omega)]) (fun j hj hne => by
    match j, hj, hne with
    | 0, _, _ => first | rfl | (simp [CR, put, putA, putL]; done)
    | 1, _, _ => first | rfl | (simp [CR, put, putA, putL]; done)
    | 2, _, _ => first | rfl | (simp [CR, put, putA, putL]; done)
    | 3, _, _ => first | rfl | (simp [CR, put, putA, putL]; done)
    | 4, _, _ => first | rfl | (simp [CR, put, putA, putL]; done)
    | 5, _, _ => first | rfl | (simp [CR, put, putA, putL]; done)
    | 6, _, _ => first | rfl | (simp [CR, put, putA, putL]; done)
    | 7, _, _ => first | rfl | (simp [CR, put, putA, putL]; done)
    | 8, _, _ => first | rfl | (simp [CR, put, putA, putL]; done)
    | 9, _, _ => first | rfl | (simp [CR, put, putA, putL]; done)
    | 10, _, h => exact absurd rfl h
    | 11, _, _ => first | rfl | (simp [CR, put, putA, putL]; done)
    | 12, _, _ => first | rfl | (simp [CR, put, putA, putL]; done)
    | 13, _, _ => first | rfl | (simp [CR, put, putA, putL]; done)
    | 14, _, _ => first | rfl | (simp [CR, put, putA, putL]; done)
    | 15, _, _ => first | rfl | (simp [CR, put, putA, putL]; done)
    | 16, _, _ => first | rfl | (simp [CR, put, putA, putL]; done)
    | 17, _, _ => first | rfl | (simp [CR, put, putA, putL]; done)
    | 18, _, _ => first | rfl | (simp [CR, put, putA, putL]; done)
    | 19, _, _ => first | rfl | (simp [CR, put, putA, putL]; done)
    | 20, _, _ => first | rfl | (simp [CR, put, putA, putL]; done)
    | 21, _, _ => first | rfl | (simp [CR, put, putA, putL]; done)
    | q + 22, hq, _ => omega) (by omega) hP
theorem cru_ages {cs : Nat → ClassId} {n : Nat} {ad : Nat → Nat} {th nx : Int32} {σ : St} {j0 : Nat} {v : Int32}  {H : Heap} {D : va_G} (hP : va_P D vwCl ((FW 22 ad (CR cs n ad th nx σ)).set 11 (ad 11, .inl (cs 0, 4, .inl (upd (fun k => σ.1 19 k 0) j0 v)))) H) : va_P D vwCl (FW 22 ad (CR cs n ad th nx (put σ 19 j0 0 v))) H :=
  CR_up 11 (by
    simp only [CR, put]
    congr 4
    funext q
    by_cases h : q = j0
    · subst h; simp [upd]
    · simp only [upd, if_neg h]; rw [if_neg (by omega)]) (fun j hj hne => by
    match j, hj, hne with
    | 0, _, _ => first | rfl | (simp [CR, put, putA, putL]; done)
    | 1, _, _ => first | rfl | (simp [CR, put, putA, putL]; done)
    | 2, _, _ => first | rfl | (simp [CR, put, putA, putL]; done)
    | 3, _, _ => first | rfl | (simp [CR, put, putA, putL]; done)
    | 4, _, _ => first | rfl | (simp [CR, put, putA, putL]; done)
    | 5, _, _ => first | rfl | (simp [CR, put, putA, putL]; done)
    | 6, _, _ => first | rfl | (simp [CR, put, putA, putL]; done)
    | 7, _, _ => first | rfl | (simp [CR, put, putA, putL]; done)
    | 8, _, _ => first | rfl | (simp [CR, put, putA, putL]; done)
    | 9, _, _ => first | rfl | (simp [CR, put, putA, putL]; done)
    | 10, _, _ => first | rfl | (simp [CR, put, putA, putL]; done)
    | 11, _, h => exact absurd rfl h
    | 12, _, _ => first | rfl | (simp [CR, put, putA, putL]; done)
    | 13, _, _ => first | rfl | (simp [CR, put, putA, putL]; done)
    | 14, _, _ => first | rfl | (simp [CR, put, putA, putL]; done)
    | 15, _, _ => first | rfl | (simp [CR, put, putA, putL]; done)
    | 16, _, _ => first | rfl | (simp [CR, put, putA, putL]; done)
    | 17, _, _ => first | rfl | (simp [CR, put, putA, putL]; done)
    | 18, _, _ => first | rfl | (simp [CR, put, putA, putL]; done)
    | 19, _, _ => first | rfl | (simp [CR, put, putA, putL]; done)
    | 20, _, _ => first | rfl | (simp [CR, put, putA, putL]; done)
    | 21, _, _ => first | rfl | (simp [CR, put, putA, putL]; done)
    | q + 22, hq, _ => omega) (by omega) hP
theorem cru_begins {cs : Nat → ClassId} {n : Nat} {ad : Nat → Nat} {th nx : Int32} {σ : St} {j0 : Nat} {v : Int32}  {H : Heap} {D : va_G} (hP : va_P D vwCl ((FW 22 ad (CR cs n ad th nx σ)).set 12 (ad 12, .inl (cs 0, 4, .inl (upd (fun k => σ.1 20 k 0) j0 v)))) H) : va_P D vwCl (FW 22 ad (CR cs n ad th nx (put σ 20 j0 0 v))) H :=
  CR_up 12 (by
    simp only [CR, put]
    congr 4
    funext q
    by_cases h : q = j0
    · subst h; simp [upd]
    · simp only [upd, if_neg h]; rw [if_neg (by omega)]) (fun j hj hne => by
    match j, hj, hne with
    | 0, _, _ => first | rfl | (simp [CR, put, putA, putL]; done)
    | 1, _, _ => first | rfl | (simp [CR, put, putA, putL]; done)
    | 2, _, _ => first | rfl | (simp [CR, put, putA, putL]; done)
    | 3, _, _ => first | rfl | (simp [CR, put, putA, putL]; done)
    | 4, _, _ => first | rfl | (simp [CR, put, putA, putL]; done)
    | 5, _, _ => first | rfl | (simp [CR, put, putA, putL]; done)
    | 6, _, _ => first | rfl | (simp [CR, put, putA, putL]; done)
    | 7, _, _ => first | rfl | (simp [CR, put, putA, putL]; done)
    | 8, _, _ => first | rfl | (simp [CR, put, putA, putL]; done)
    | 9, _, _ => first | rfl | (simp [CR, put, putA, putL]; done)
    | 10, _, _ => first | rfl | (simp [CR, put, putA, putL]; done)
    | 11, _, _ => first | rfl | (simp [CR, put, putA, putL]; done)
    | 12, _, h => exact absurd rfl h
    | 13, _, _ => first | rfl | (simp [CR, put, putA, putL]; done)
    | 14, _, _ => first | rfl | (simp [CR, put, putA, putL]; done)
    | 15, _, _ => first | rfl | (simp [CR, put, putA, putL]; done)
    | 16, _, _ => first | rfl | (simp [CR, put, putA, putL]; done)
    | 17, _, _ => first | rfl | (simp [CR, put, putA, putL]; done)
    | 18, _, _ => first | rfl | (simp [CR, put, putA, putL]; done)
    | 19, _, _ => first | rfl | (simp [CR, put, putA, putL]; done)
    | 20, _, _ => first | rfl | (simp [CR, put, putA, putL]; done)
    | 21, _, _ => first | rfl | (simp [CR, put, putA, putL]; done)
    | q + 22, hq, _ => omega) (by omega) hP
theorem cru_returns {cs : Nat → ClassId} {n : Nat} {ad : Nat → Nat} {th nx : Int32} {σ : St} {j0 : Nat} {v : Int32}  {H : Heap} {D : va_G} (hP : va_P D vwCl ((FW 22 ad (CR cs n ad th nx σ)).set 13 (ad 13, .inl (cs 0, 4, .inl (upd (fun k => σ.1 21 k 0) j0 v)))) H) : va_P D vwCl (FW 22 ad (CR cs n ad th nx (put σ 21 j0 0 v))) H :=
  CR_up 13 (by
    simp only [CR, put]
    congr 4
    funext q
    by_cases h : q = j0
    · subst h; simp [upd]
    · simp only [upd, if_neg h]; rw [if_neg (by omega)]) (fun j hj hne => by
    match j, hj, hne with
    | 0, _, _ => first | rfl | (simp [CR, put, putA, putL]; done)
    | 1, _, _ => first | rfl | (simp [CR, put, putA, putL]; done)
    | 2, _, _ => first | rfl | (simp [CR, put, putA, putL]; done)
    | 3, _, _ => first | rfl | (simp [CR, put, putA, putL]; done)
    | 4, _, _ => first | rfl | (simp [CR, put, putA, putL]; done)
    | 5, _, _ => first | rfl | (simp [CR, put, putA, putL]; done)
    | 6, _, _ => first | rfl | (simp [CR, put, putA, putL]; done)
    | 7, _, _ => first | rfl | (simp [CR, put, putA, putL]; done)
    | 8, _, _ => first | rfl | (simp [CR, put, putA, putL]; done)
    | 9, _, _ => first | rfl | (simp [CR, put, putA, putL]; done)
    | 10, _, _ => first | rfl | (simp [CR, put, putA, putL]; done)
    | 11, _, _ => first | rfl | (simp [CR, put, putA, putL]; done)
    | 12, _, _ => first | rfl | (simp [CR, put, putA, putL]; done)
    | 13, _, h => exact absurd rfl h
    | 14, _, _ => first | rfl | (simp [CR, put, putA, putL]; done)
    | 15, _, _ => first | rfl | (simp [CR, put, putA, putL]; done)
    | 16, _, _ => first | rfl | (simp [CR, put, putA, putL]; done)
    | 17, _, _ => first | rfl | (simp [CR, put, putA, putL]; done)
    | 18, _, _ => first | rfl | (simp [CR, put, putA, putL]; done)
    | 19, _, _ => first | rfl | (simp [CR, put, putA, putL]; done)
    | 20, _, _ => first | rfl | (simp [CR, put, putA, putL]; done)
    | 21, _, _ => first | rfl | (simp [CR, put, putA, putL]; done)
    | q + 22, hq, _ => omega) (by omega) hP
theorem cru_kept {cs : Nat → ClassId} {n : Nat} {ad : Nat → Nat} {th nx : Int32} {σ : St} {j0 : Nat} {v : Int32}  {H : Heap} {D : va_G} (hP : va_P D vwCl ((FW 22 ad (CR cs n ad th nx σ)).set 14 (ad 14, .inl (cs 0, 32, .inl (upd (fun i => σ.1 11 (i / 8) (i % 8)) j0 v)))) H) : va_P D vwCl (FW 22 ad (CR cs n ad th nx (put σ 11 (j0 / 8) (j0 % 8) v))) H :=
  CR_up 14 (by
    simp only [CR, put]
    congr 4
    funext q
    by_cases h : q = j0
    · subst h; simp [upd]
    · simp only [upd, if_neg h]; rw [if_neg (by omega)]) (fun j hj hne => by
    match j, hj, hne with
    | 0, _, _ => first | rfl | (simp [CR, put, putA, putL]; done)
    | 1, _, _ => first | rfl | (simp [CR, put, putA, putL]; done)
    | 2, _, _ => first | rfl | (simp [CR, put, putA, putL]; done)
    | 3, _, _ => first | rfl | (simp [CR, put, putA, putL]; done)
    | 4, _, _ => first | rfl | (simp [CR, put, putA, putL]; done)
    | 5, _, _ => first | rfl | (simp [CR, put, putA, putL]; done)
    | 6, _, _ => first | rfl | (simp [CR, put, putA, putL]; done)
    | 7, _, _ => first | rfl | (simp [CR, put, putA, putL]; done)
    | 8, _, _ => first | rfl | (simp [CR, put, putA, putL]; done)
    | 9, _, _ => first | rfl | (simp [CR, put, putA, putL]; done)
    | 10, _, _ => first | rfl | (simp [CR, put, putA, putL]; done)
    | 11, _, _ => first | rfl | (simp [CR, put, putA, putL]; done)
    | 12, _, _ => first | rfl | (simp [CR, put, putA, putL]; done)
    | 13, _, _ => first | rfl | (simp [CR, put, putA, putL]; done)
    | 14, _, h => exact absurd rfl h
    | 15, _, _ => first | rfl | (simp [CR, put, putA, putL]; done)
    | 16, _, _ => first | rfl | (simp [CR, put, putA, putL]; done)
    | 17, _, _ => first | rfl | (simp [CR, put, putA, putL]; done)
    | 18, _, _ => first | rfl | (simp [CR, put, putA, putL]; done)
    | 19, _, _ => first | rfl | (simp [CR, put, putA, putL]; done)
    | 20, _, _ => first | rfl | (simp [CR, put, putA, putL]; done)
    | 21, _, _ => first | rfl | (simp [CR, put, putA, putL]; done)
    | q + 22, hq, _ => omega) (by omega) hP
theorem cru_reads {cs : Nat → ClassId} {n : Nat} {ad : Nat → Nat} {th nx : Int32} {σ : St} {j0 : Nat} {v : Int32}  {H : Heap} {D : va_G} (hP : va_P D vwCl ((FW 22 ad (CR cs n ad th nx σ)).set 15 (ad 15, .inl (cs 0, 4, .inl (upd (fun k => σ.1 22 k 0) j0 v)))) H) : va_P D vwCl (FW 22 ad (CR cs n ad th nx (put σ 22 j0 0 v))) H :=
  CR_up 15 (by
    simp only [CR, put]
    congr 4
    funext q
    by_cases h : q = j0
    · subst h; simp [upd]
    · simp only [upd, if_neg h]; rw [if_neg (by omega)]) (fun j hj hne => by
    match j, hj, hne with
    | 0, _, _ => first | rfl | (simp [CR, put, putA, putL]; done)
    | 1, _, _ => first | rfl | (simp [CR, put, putA, putL]; done)
    | 2, _, _ => first | rfl | (simp [CR, put, putA, putL]; done)
    | 3, _, _ => first | rfl | (simp [CR, put, putA, putL]; done)
    | 4, _, _ => first | rfl | (simp [CR, put, putA, putL]; done)
    | 5, _, _ => first | rfl | (simp [CR, put, putA, putL]; done)
    | 6, _, _ => first | rfl | (simp [CR, put, putA, putL]; done)
    | 7, _, _ => first | rfl | (simp [CR, put, putA, putL]; done)
    | 8, _, _ => first | rfl | (simp [CR, put, putA, putL]; done)
    | 9, _, _ => first | rfl | (simp [CR, put, putA, putL]; done)
    | 10, _, _ => first | rfl | (simp [CR, put, putA, putL]; done)
    | 11, _, _ => first | rfl | (simp [CR, put, putA, putL]; done)
    | 12, _, _ => first | rfl | (simp [CR, put, putA, putL]; done)
    | 13, _, _ => first | rfl | (simp [CR, put, putA, putL]; done)
    | 14, _, _ => first | rfl | (simp [CR, put, putA, putL]; done)
    | 15, _, h => exact absurd rfl h
    | 16, _, _ => first | rfl | (simp [CR, put, putA, putL]; done)
    | 17, _, _ => first | rfl | (simp [CR, put, putA, putL]; done)
    | 18, _, _ => first | rfl | (simp [CR, put, putA, putL]; done)
    | 19, _, _ => first | rfl | (simp [CR, put, putA, putL]; done)
    | 20, _, _ => first | rfl | (simp [CR, put, putA, putL]; done)
    | 21, _, _ => first | rfl | (simp [CR, put, putA, putL]; done)
    | q + 22, hq, _ => omega) (by omega) hP
theorem cru_writes {cs : Nat → ClassId} {n : Nat} {ad : Nat → Nat} {th nx : Int32} {σ : St} {j0 : Nat} {v : Int32}  {H : Heap} {D : va_G} (hP : va_P D vwCl ((FW 22 ad (CR cs n ad th nx σ)).set 16 (ad 16, .inl (cs 0, 4, .inl (upd (fun k => σ.1 23 k 0) j0 v)))) H) : va_P D vwCl (FW 22 ad (CR cs n ad th nx (put σ 23 j0 0 v))) H :=
  CR_up 16 (by
    simp only [CR, put]
    congr 4
    funext q
    by_cases h : q = j0
    · subst h; simp [upd]
    · simp only [upd, if_neg h]; rw [if_neg (by omega)]) (fun j hj hne => by
    match j, hj, hne with
    | 0, _, _ => first | rfl | (simp [CR, put, putA, putL]; done)
    | 1, _, _ => first | rfl | (simp [CR, put, putA, putL]; done)
    | 2, _, _ => first | rfl | (simp [CR, put, putA, putL]; done)
    | 3, _, _ => first | rfl | (simp [CR, put, putA, putL]; done)
    | 4, _, _ => first | rfl | (simp [CR, put, putA, putL]; done)
    | 5, _, _ => first | rfl | (simp [CR, put, putA, putL]; done)
    | 6, _, _ => first | rfl | (simp [CR, put, putA, putL]; done)
    | 7, _, _ => first | rfl | (simp [CR, put, putA, putL]; done)
    | 8, _, _ => first | rfl | (simp [CR, put, putA, putL]; done)
    | 9, _, _ => first | rfl | (simp [CR, put, putA, putL]; done)
    | 10, _, _ => first | rfl | (simp [CR, put, putA, putL]; done)
    | 11, _, _ => first | rfl | (simp [CR, put, putA, putL]; done)
    | 12, _, _ => first | rfl | (simp [CR, put, putA, putL]; done)
    | 13, _, _ => first | rfl | (simp [CR, put, putA, putL]; done)
    | 14, _, _ => first | rfl | (simp [CR, put, putA, putL]; done)
    | 15, _, _ => first | rfl | (simp [CR, put, putA, putL]; done)
    | 16, _, h => exact absurd rfl h
    | 17, _, _ => first | rfl | (simp [CR, put, putA, putL]; done)
    | 18, _, _ => first | rfl | (simp [CR, put, putA, putL]; done)
    | 19, _, _ => first | rfl | (simp [CR, put, putA, putL]; done)
    | 20, _, _ => first | rfl | (simp [CR, put, putA, putL]; done)
    | 21, _, _ => first | rfl | (simp [CR, put, putA, putL]; done)
    | q + 22, hq, _ => omega) (by omega) hP
theorem cru_stores {cs : Nat → ClassId} {n : Nat} {ad : Nat → Nat} {th nx : Int32} {σ : St} {j0 : Nat} {v : Int64}  {H : Heap} {D : va_G} (hP : va_P D vwCl ((FW 22 ad (CR cs n ad th nx σ)).set 17 (ad 17, .inl (cs 2, 4, .inr (.inl (vp_updL (fun k => σ.2 k) j0 v))))) H) : va_P D vwCl (FW 22 ad (CR cs n ad th nx (putL σ j0 v))) H :=
  CR_up 17 (rfl) (fun j hj hne => by
    match j, hj, hne with
    | 0, _, _ => first | rfl | (simp [CR, put, putA, putL]; done)
    | 1, _, _ => first | rfl | (simp [CR, put, putA, putL]; done)
    | 2, _, _ => first | rfl | (simp [CR, put, putA, putL]; done)
    | 3, _, _ => first | rfl | (simp [CR, put, putA, putL]; done)
    | 4, _, _ => first | rfl | (simp [CR, put, putA, putL]; done)
    | 5, _, _ => first | rfl | (simp [CR, put, putA, putL]; done)
    | 6, _, _ => first | rfl | (simp [CR, put, putA, putL]; done)
    | 7, _, _ => first | rfl | (simp [CR, put, putA, putL]; done)
    | 8, _, _ => first | rfl | (simp [CR, put, putA, putL]; done)
    | 9, _, _ => first | rfl | (simp [CR, put, putA, putL]; done)
    | 10, _, _ => first | rfl | (simp [CR, put, putA, putL]; done)
    | 11, _, _ => first | rfl | (simp [CR, put, putA, putL]; done)
    | 12, _, _ => first | rfl | (simp [CR, put, putA, putL]; done)
    | 13, _, _ => first | rfl | (simp [CR, put, putA, putL]; done)
    | 14, _, _ => first | rfl | (simp [CR, put, putA, putL]; done)
    | 15, _, _ => first | rfl | (simp [CR, put, putA, putL]; done)
    | 16, _, _ => first | rfl | (simp [CR, put, putA, putL]; done)
    | 17, _, h => exact absurd rfl h
    | 18, _, _ => first | rfl | (simp [CR, put, putA, putL]; done)
    | 19, _, _ => first | rfl | (simp [CR, put, putA, putL]; done)
    | 20, _, _ => first | rfl | (simp [CR, put, putA, putL]; done)
    | 21, _, _ => first | rfl | (simp [CR, put, putA, putL]; done)
    | q + 22, hq, _ => omega) (by omega) hP
theorem cru_stored {cs : Nat → ClassId} {n : Nat} {ad : Nat → Nat} {th nx : Int32} {σ : St} {j0 : Nat} {v : Int32}  {H : Heap} {D : va_G} (hP : va_P D vwCl ((FW 22 ad (CR cs n ad th nx σ)).set 18 (ad 18, .inl (cs 0, 256, .inl (upd (fun i => σ.1 12 (i / 64) (i % 64)) j0 v)))) H) : va_P D vwCl (FW 22 ad (CR cs n ad th nx (put σ 12 (j0 / 64) (j0 % 64) v))) H :=
  CR_up 18 (by
    simp only [CR, put]
    congr 4
    funext q
    by_cases h : q = j0
    · subst h; simp [upd]
    · simp only [upd, if_neg h]; rw [if_neg (by omega)]) (fun j hj hne => by
    match j, hj, hne with
    | 0, _, _ => first | rfl | (simp [CR, put, putA, putL]; done)
    | 1, _, _ => first | rfl | (simp [CR, put, putA, putL]; done)
    | 2, _, _ => first | rfl | (simp [CR, put, putA, putL]; done)
    | 3, _, _ => first | rfl | (simp [CR, put, putA, putL]; done)
    | 4, _, _ => first | rfl | (simp [CR, put, putA, putL]; done)
    | 5, _, _ => first | rfl | (simp [CR, put, putA, putL]; done)
    | 6, _, _ => first | rfl | (simp [CR, put, putA, putL]; done)
    | 7, _, _ => first | rfl | (simp [CR, put, putA, putL]; done)
    | 8, _, _ => first | rfl | (simp [CR, put, putA, putL]; done)
    | 9, _, _ => first | rfl | (simp [CR, put, putA, putL]; done)
    | 10, _, _ => first | rfl | (simp [CR, put, putA, putL]; done)
    | 11, _, _ => first | rfl | (simp [CR, put, putA, putL]; done)
    | 12, _, _ => first | rfl | (simp [CR, put, putA, putL]; done)
    | 13, _, _ => first | rfl | (simp [CR, put, putA, putL]; done)
    | 14, _, _ => first | rfl | (simp [CR, put, putA, putL]; done)
    | 15, _, _ => first | rfl | (simp [CR, put, putA, putL]; done)
    | 16, _, _ => first | rfl | (simp [CR, put, putA, putL]; done)
    | 17, _, _ => first | rfl | (simp [CR, put, putA, putL]; done)
    | 18, _, h => exact absurd rfl h
    | 19, _, _ => first | rfl | (simp [CR, put, putA, putL]; done)
    | 20, _, _ => first | rfl | (simp [CR, put, putA, putL]; done)
    | 21, _, _ => first | rfl | (simp [CR, put, putA, putL]; done)
    | q + 22, hq, _ => omega) (by omega) hP
theorem cru_committed {cs : Nat → ClassId} {n : Nat} {ad : Nat → Nat} {th nx : Int32} {σ : St} {j0 : Nat} {v : Int32}  {H : Heap} {D : va_G} (hP : va_P D vwCl ((FW 22 ad (CR cs n ad th nx σ)).set 19 (ad 19, .inl (cs 0, 4, .inl (upd (fun k => σ.1 16 k 0) j0 v)))) H) : va_P D vwCl (FW 22 ad (CR cs n ad th nx (put σ 16 j0 0 v))) H :=
  CR_up 19 (by
    simp only [CR, put]
    congr 4
    funext q
    by_cases h : q = j0
    · subst h; simp [upd]
    · simp only [upd, if_neg h]; rw [if_neg (by omega)]) (fun j hj hne => by
    match j, hj, hne with
    | 0, _, _ => first | rfl | (simp [CR, put, putA, putL]; done)
    | 1, _, _ => first | rfl | (simp [CR, put, putA, putL]; done)
    | 2, _, _ => first | rfl | (simp [CR, put, putA, putL]; done)
    | 3, _, _ => first | rfl | (simp [CR, put, putA, putL]; done)
    | 4, _, _ => first | rfl | (simp [CR, put, putA, putL]; done)
    | 5, _, _ => first | rfl | (simp [CR, put, putA, putL]; done)
    | 6, _, _ => first | rfl | (simp [CR, put, putA, putL]; done)
    | 7, _, _ => first | rfl | (simp [CR, put, putA, putL]; done)
    | 8, _, _ => first | rfl | (simp [CR, put, putA, putL]; done)
    | 9, _, _ => first | rfl | (simp [CR, put, putA, putL]; done)
    | 10, _, _ => first | rfl | (simp [CR, put, putA, putL]; done)
    | 11, _, _ => first | rfl | (simp [CR, put, putA, putL]; done)
    | 12, _, _ => first | rfl | (simp [CR, put, putA, putL]; done)
    | 13, _, _ => first | rfl | (simp [CR, put, putA, putL]; done)
    | 14, _, _ => first | rfl | (simp [CR, put, putA, putL]; done)
    | 15, _, _ => first | rfl | (simp [CR, put, putA, putL]; done)
    | 16, _, _ => first | rfl | (simp [CR, put, putA, putL]; done)
    | 17, _, _ => first | rfl | (simp [CR, put, putA, putL]; done)
    | 18, _, _ => first | rfl | (simp [CR, put, putA, putL]; done)
    | 19, _, h => exact absurd rfl h
    | 20, _, _ => first | rfl | (simp [CR, put, putA, putL]; done)
    | 21, _, _ => first | rfl | (simp [CR, put, putA, putL]; done)
    | q + 22, hq, _ => omega) (by omega) hP
theorem cru_broken {cs : Nat → ClassId} {n : Nat} {ad : Nat → Nat} {th nx : Int32} {σ : St} {j0 : Nat} {v : Int32}  {H : Heap} {D : va_G} (hP : va_P D vwCl ((FW 22 ad (CR cs n ad th nx σ)).set 20 (ad 20, .inl (cs 0, 4, .inl (upd (fun k => σ.1 17 k 0) j0 v)))) H) : va_P D vwCl (FW 22 ad (CR cs n ad th nx (put σ 17 j0 0 v))) H :=
  CR_up 20 (by
    simp only [CR, put]
    congr 4
    funext q
    by_cases h : q = j0
    · subst h; simp [upd]
    · simp only [upd, if_neg h]; rw [if_neg (by omega)]) (fun j hj hne => by
    match j, hj, hne with
    | 0, _, _ => first | rfl | (simp [CR, put, putA, putL]; done)
    | 1, _, _ => first | rfl | (simp [CR, put, putA, putL]; done)
    | 2, _, _ => first | rfl | (simp [CR, put, putA, putL]; done)
    | 3, _, _ => first | rfl | (simp [CR, put, putA, putL]; done)
    | 4, _, _ => first | rfl | (simp [CR, put, putA, putL]; done)
    | 5, _, _ => first | rfl | (simp [CR, put, putA, putL]; done)
    | 6, _, _ => first | rfl | (simp [CR, put, putA, putL]; done)
    | 7, _, _ => first | rfl | (simp [CR, put, putA, putL]; done)
    | 8, _, _ => first | rfl | (simp [CR, put, putA, putL]; done)
    | 9, _, _ => first | rfl | (simp [CR, put, putA, putL]; done)
    | 10, _, _ => first | rfl | (simp [CR, put, putA, putL]; done)
    | 11, _, _ => first | rfl | (simp [CR, put, putA, putL]; done)
    | 12, _, _ => first | rfl | (simp [CR, put, putA, putL]; done)
    | 13, _, _ => first | rfl | (simp [CR, put, putA, putL]; done)
    | 14, _, _ => first | rfl | (simp [CR, put, putA, putL]; done)
    | 15, _, _ => first | rfl | (simp [CR, put, putA, putL]; done)
    | 16, _, _ => first | rfl | (simp [CR, put, putA, putL]; done)
    | 17, _, _ => first | rfl | (simp [CR, put, putA, putL]; done)
    | 18, _, _ => first | rfl | (simp [CR, put, putA, putL]; done)
    | 19, _, _ => first | rfl | (simp [CR, put, putA, putL]; done)
    | 20, _, h => exact absurd rfl h
    | 21, _, _ => first | rfl | (simp [CR, put, putA, putL]; done)
    | q + 22, hq, _ => omega) (by omega) hP
theorem cru_recs {cs : Nat → ClassId} {n : Nat} {ad : Nat → Nat} {th nx : Int32} {σ : St} {j0 : Nat} {v : Int32}  {H : Heap} {D : va_G} (hP : va_P D vwCl ((FW 22 ad (CR cs n ad th nx σ)).set 21 (ad 21, .inl (cs 0, 400, .inl (upd (fun j => σ.1 24 0 j) j0 v)))) H) : va_P D vwCl (FW 22 ad (CR cs n ad th nx (put σ 24 0 j0 v))) H :=
  CR_up 21 (by
    simp only [CR, put]
    congr 4
    funext q
    by_cases h : q = j0
    · subst h; simp [upd]
    · simp only [upd, if_neg h]; rw [if_neg (by omega)]) (fun j hj hne => by
    match j, hj, hne with
    | 0, _, _ => first | rfl | (simp [CR, put, putA, putL]; done)
    | 1, _, _ => first | rfl | (simp [CR, put, putA, putL]; done)
    | 2, _, _ => first | rfl | (simp [CR, put, putA, putL]; done)
    | 3, _, _ => first | rfl | (simp [CR, put, putA, putL]; done)
    | 4, _, _ => first | rfl | (simp [CR, put, putA, putL]; done)
    | 5, _, _ => first | rfl | (simp [CR, put, putA, putL]; done)
    | 6, _, _ => first | rfl | (simp [CR, put, putA, putL]; done)
    | 7, _, _ => first | rfl | (simp [CR, put, putA, putL]; done)
    | 8, _, _ => first | rfl | (simp [CR, put, putA, putL]; done)
    | 9, _, _ => first | rfl | (simp [CR, put, putA, putL]; done)
    | 10, _, _ => first | rfl | (simp [CR, put, putA, putL]; done)
    | 11, _, _ => first | rfl | (simp [CR, put, putA, putL]; done)
    | 12, _, _ => first | rfl | (simp [CR, put, putA, putL]; done)
    | 13, _, _ => first | rfl | (simp [CR, put, putA, putL]; done)
    | 14, _, _ => first | rfl | (simp [CR, put, putA, putL]; done)
    | 15, _, _ => first | rfl | (simp [CR, put, putA, putL]; done)
    | 16, _, _ => first | rfl | (simp [CR, put, putA, putL]; done)
    | 17, _, _ => first | rfl | (simp [CR, put, putA, putL]; done)
    | 18, _, _ => first | rfl | (simp [CR, put, putA, putL]; done)
    | 19, _, _ => first | rfl | (simp [CR, put, putA, putL]; done)
    | 20, _, _ => first | rfl | (simp [CR, put, putA, putL]; done)
    | 21, _, h => exact absurd rfl h
    | q + 22, hq, _ => omega) (by omega) hP
