/-! one by one -/
theorem l_bit {w : Int64} {j : Nat} (hj : j < 64) : ((w >>> ((nI j).toInt64 &&& 63)) &&& 1) = 1 ↔ w.toBitVec.getLsbD j = true := by
  have e : (w >>> ((nI j).toInt64 &&& 63)).toBitVec = w.toBitVec.sshiftRight j := by
    rw [wb_c j hj, Int64.toBitVec_shiftRight, wb_tb, wb_sm j hj]
    show w.toBitVec.sshiftRight (BitVec.ofNat 64 j).toNat = _
    rw [BitVec.toNat_ofNat, Nat.mod_eq_of_lt (by omega)]
  rw [← Int64.toBitVec_inj, Int64.toBitVec_and, e]
  show w.toBitVec.sshiftRight j &&& 1#64 = 1#64 ↔ _
  constructor
  · intro h
    have t := congrArg (fun x => x.getLsbD 0) h
    simp only [BitVec.getLsbD_and, BitVec.getLsbD_sshiftRight] at t
    simpa [hj] using t
  · intro h
    apply BitVec.eq_of_getLsbD_eq
    intro i hi
    cases i with
    | zero => simp [BitVec.getLsbD_sshiftRight, hj, h]
    | succ i => simp
theorem cntB_bq {n : Nat} : ∀ m, m ≤ 64 → cntB (lN n) m = bq m n
  | 0, _ => rfl
  | m + 1, h => by
    have e : ((lN n >>> ((nI m).toInt64 &&& 63)) &&& 1) = 1 ↔ n / 2 ^ m % 2 = 1 := by
      rw [l_bit (by omega), wb_tb, BitVec.getLsbD_ofNat, Nat.testBit_eq_decide_div_mod_eq]
      simp only [Bool.and_eq_true, decide_eq_true_eq]
      exact ⟨fun h => h.2, fun h2 => ⟨by omega, h2⟩⟩
    show cntB (lN n) m + (if ((lN n >>> ((nI m).toInt64 &&& 63)) &&& 1) = 1 then 1 else 0) = _
    rw [bq_top, cntB_bq m (by omega)]
    by_cases q : n / 2 ^ m % 2 = 1
    · rw [if_pos (e.mpr q), q]
    · rw [if_neg (fun z => q (e.mp z))]
      omega
theorem cntB_I {y : Nat} (h : y < 65536) : cntB (nI y).toInt64 64 = bq 32 y := by
  rw [nI_l (show y < 2 ^ 31 by omega), cntB_bq 64 (by decide)]
  have a := bq_small (n := y) (k := 16) h 48
  have b := bq_small (n := y) (k := 16) h 16
  exact a.trans b.symm
