/-! the sums -/
theorem dv8 {a b : Nat} (h : a < 256) : (a + 256 * b) / 256 = b := by omega
theorem dv16 {a b c : Nat} (ha : a < 256) (hb : b < 256) : (a + 256 * (b + 256 * c)) / 65536 = c := by omega
theorem dv32 {a b c : Nat} (ha : a < 65536) (hb : b < 65536) : (a + 65536 * (b + 65536 * c)) / 4294967296 = c := by omega
theorem sums4 {t0 t1 t2 t3 y4 y5 : Nat} (b0 : t0 ≤ 8) (b1 : t1 ≤ 8) (b2 : t2 ≤ 8) (b3 : t3 ≤ 8) (h4 : y4 = (t0 + 256 * (t1 + 256 * (t2 + 256 * (t3 + 256 * 0)))) + (t0 + 256 * (t1 + 256 * (t2 + 256 * (t3 + 256 * 0)))) / 256) (h5 : y5 = y4 + y4 / 65536) : y5 % 64 = t0 + (t1 + (t2 + (t3 + 0))) := by
  rw [dv8 (by omega)] at h4
  have k4 : y4 = (t0 + t1) + 256 * ((t1 + t2) + 256 * ((t2 + t3) + 256 * t3)) := by rw [h4]; omega
  rw [k4, dv16 (by omega) (by omega)] at h5
  have k5 : y5 = (t0 + t1 + t2 + t3) + 64 * (4 * ((t1 + t2) + 256 * ((t2 + t3) + 256 * t3)) + 4 * t3) := by rw [h5]; omega
  rw [k5]
  generalize 4 * ((t1 + t2) + 256 * ((t2 + t3) + 256 * t3)) + 4 * t3 = z
  omega
theorem sums8 {t0 t1 t2 t3 t4 t5 t6 t7 y4 y5 y6 : Nat} (b0 : t0 ≤ 8) (b1 : t1 ≤ 8) (b2 : t2 ≤ 8) (b3 : t3 ≤ 8) (b4 : t4 ≤ 8) (b5 : t5 ≤ 8) (b6 : t6 ≤ 8) (b7 : t7 ≤ 8) (h4 : y4 = (t0 + 256 * (t1 + 256 * (t2 + 256 * (t3 + 256 * (t4 + 256 * (t5 + 256 * (t6 + 256 * (t7 + 256 * 0)))))))) + (t0 + 256 * (t1 + 256 * (t2 + 256 * (t3 + 256 * (t4 + 256 * (t5 + 256 * (t6 + 256 * (t7 + 256 * 0)))))))) / 256) (h5 : y5 = y4 + y4 / 65536) (h6 : y6 = y5 + y5 / 4294967296) : y6 % 128 = t0 + (t1 + (t2 + (t3 + (t4 + (t5 + (t6 + (t7 + 0))))))) := by
  rw [dv8 (by omega)] at h4
  obtain ⟨H, hH⟩ : ∃ z, z = (t6 + t7) + 256 * t7 := ⟨_, rfl⟩
  obtain ⟨G, hG⟩ : ∃ z, z = (t4 + t5) + 256 * ((t5 + t6) + 256 * H) := ⟨_, rfl⟩
  obtain ⟨F, hF⟩ : ∃ z, z = (t2 + t3) + 256 * ((t3 + t4) + 256 * G) := ⟨_, rfl⟩
  have k4 : y4 = (t0 + t1) + 256 * ((t1 + t2) + 256 * F) := by rw [h4, hF, hG, hH]; omega
  rw [k4, dv16 (by omega) (by omega)] at h5
  have k5 : y5 = ((t0 + t1 + t2 + t3) + 256 * (t1 + t2 + t3 + t4)) + 65536 * (((t2 + t3 + t4 + t5) + 256 * (t3 + t4 + t5 + t6)) + 65536 * (G + H)) := by rw [h5, hF, hG]; omega
  rw [k5, dv32 (by omega) (by omega)] at h6
  have k6 : y6 = (t0 + t1 + t2 + t3 + t4 + t5 + t6 + t7) + 128 * (2 * (t1 + t2 + t3 + t4) + 512 * (((t2 + t3 + t4 + t5) + 256 * (t3 + t4 + t5 + t6)) + 65536 * (G + H)) + 2 * ((t5 + t6) + 256 * H) + 2 * t7) := by rw [h6, hG, hH]; omega
  rw [k6]
  generalize 2 * (t1 + t2 + t3 + t4) + 512 * (((t2 + t3 + t4 + t5) + 256 * (t3 + t4 + t5 + t6)) + 65536 * (G + H)) + 2 * ((t5 + t6) + 256 * H) + 2 * t7 = z
  omega
theorem bcL {n y1 y2 y3 y4 y5 y6 : Nat} (h1 : y1 = n - (n / 2 &&& 6148914691236517205)) (h2 : y2 = (y1 &&& 3689348814741910323) + (y1 / 4 &&& 3689348814741910323)) (h3 : y3 = (y2 + y2 / 16) &&& 1085102592571150095) (h4 : y4 = y3 + y3 / 256) (h5 : y5 = y4 + y4 / 65536) (h6 : y6 = y5 + y5 / 4294967296) : y6 % 128 = bq 64 n := by
  have e3 : y3 = smB 8 n := by
    rw [← fC_all 8 n, h3, h2, h1]
    unfold fBA fC fB fA
    rw [show mkB 85 8 = 6148914691236517205 by decide +kernel, show mkB 51 8 = 3689348814741910323 by decide +kernel, show mkB 15 8 = 1085102592571150095 by decide +kernel]
  have q : bq 64 n = bq 8 (n % 256) + (bq 8 (n / 256 % 256) + (bq 8 (n / 256 / 256 % 256) + (bq 8 (n / 256 / 256 / 256 % 256) + (bq 8 (n / 256 / 256 / 256 / 256 % 256) + (bq 8 (n / 256 / 256 / 256 / 256 / 256 % 256) + (bq 8 (n / 256 / 256 / 256 / 256 / 256 / 256 % 256) + (bq 8 (n / 256 / 256 / 256 / 256 / 256 / 256 / 256 % 256) + 0))))))) := by
    have q0 : bq 64 (n) = bq 8 (n % 256) + bq 56 (n / 256) := bq_byte 56 (n)
    have q1 : bq 56 (n / 256) = bq 8 (n / 256 % 256) + bq 48 (n / 256 / 256) := bq_byte 48 (n / 256)
    have q2 : bq 48 (n / 256 / 256) = bq 8 (n / 256 / 256 % 256) + bq 40 (n / 256 / 256 / 256) := bq_byte 40 (n / 256 / 256)
    have q3 : bq 40 (n / 256 / 256 / 256) = bq 8 (n / 256 / 256 / 256 % 256) + bq 32 (n / 256 / 256 / 256 / 256) := bq_byte 32 (n / 256 / 256 / 256)
    have q4 : bq 32 (n / 256 / 256 / 256 / 256) = bq 8 (n / 256 / 256 / 256 / 256 % 256) + bq 24 (n / 256 / 256 / 256 / 256 / 256) := bq_byte 24 (n / 256 / 256 / 256 / 256)
    have q5 : bq 24 (n / 256 / 256 / 256 / 256 / 256) = bq 8 (n / 256 / 256 / 256 / 256 / 256 % 256) + bq 16 (n / 256 / 256 / 256 / 256 / 256 / 256) := bq_byte 16 (n / 256 / 256 / 256 / 256 / 256)
    have q6 : bq 16 (n / 256 / 256 / 256 / 256 / 256 / 256) = bq 8 (n / 256 / 256 / 256 / 256 / 256 / 256 % 256) + bq 8 (n / 256 / 256 / 256 / 256 / 256 / 256 / 256) := bq_byte 8 (n / 256 / 256 / 256 / 256 / 256 / 256)
    have q7 : bq 8 (n / 256 / 256 / 256 / 256 / 256 / 256 / 256) = bq 8 (n / 256 / 256 / 256 / 256 / 256 / 256 / 256 % 256) + 0 := bq_byte 0 (n / 256 / 256 / 256 / 256 / 256 / 256 / 256)
    rw [q0, q1, q2, q3, q4, q5, q6, q7]
  have s : smB 8 n = bq 8 (n % 256) + 256 * (bq 8 (n / 256 % 256) + 256 * (bq 8 (n / 256 / 256 % 256) + 256 * (bq 8 (n / 256 / 256 / 256 % 256) + 256 * (bq 8 (n / 256 / 256 / 256 / 256 % 256) + 256 * (bq 8 (n / 256 / 256 / 256 / 256 / 256 % 256) + 256 * (bq 8 (n / 256 / 256 / 256 / 256 / 256 / 256 % 256) + 256 * (bq 8 (n / 256 / 256 / 256 / 256 / 256 / 256 / 256 % 256) + 256 * 0))))))) := rfl
  have b0 := bq_le 8 (n % 256)
  have b1 := bq_le 8 (n / 256 % 256)
  have b2 := bq_le 8 (n / 256 / 256 % 256)
  have b3 := bq_le 8 (n / 256 / 256 / 256 % 256)
  have b4 := bq_le 8 (n / 256 / 256 / 256 / 256 % 256)
  have b5 := bq_le 8 (n / 256 / 256 / 256 / 256 / 256 % 256)
  have b6 := bq_le 8 (n / 256 / 256 / 256 / 256 / 256 / 256 % 256)
  have b7 := bq_le 8 (n / 256 / 256 / 256 / 256 / 256 / 256 / 256 % 256)
  rw [e3, s] at h4
  rw [q]
  clear h1 h2 h3 e3 q s
  generalize bq 8 (n % 256) = t0 at *
  generalize bq 8 (n / 256 % 256) = t1 at *
  generalize bq 8 (n / 256 / 256 % 256) = t2 at *
  generalize bq 8 (n / 256 / 256 / 256 % 256) = t3 at *
  generalize bq 8 (n / 256 / 256 / 256 / 256 % 256) = t4 at *
  generalize bq 8 (n / 256 / 256 / 256 / 256 / 256 % 256) = t5 at *
  generalize bq 8 (n / 256 / 256 / 256 / 256 / 256 / 256 % 256) = t6 at *
  generalize bq 8 (n / 256 / 256 / 256 / 256 / 256 / 256 / 256 % 256) = t7 at *
  exact sums8 b0 b1 b2 b3 b4 b5 b6 b7 h4 h5 h6
theorem bcI {n y1 y2 y3 y4 y5 : Nat} (h1 : y1 = n - (n / 2 &&& 1431655765)) (h2 : y2 = (y1 &&& 858993459) + (y1 / 4 &&& 858993459)) (h3 : y3 = (y2 + y2 / 16) &&& 252645135) (h4 : y4 = y3 + y3 / 256) (h5 : y5 = y4 + y4 / 65536) : y5 % 64 = bq 32 n := by
  have e3 : y3 = smB 4 n := by
    rw [← fC_all 4 n, h3, h2, h1]
    unfold fBA fC fB fA
    rw [show mkB 85 4 = 1431655765 by decide +kernel, show mkB 51 4 = 858993459 by decide +kernel, show mkB 15 4 = 252645135 by decide +kernel]
  have q : bq 32 n = bq 8 (n % 256) + (bq 8 (n / 256 % 256) + (bq 8 (n / 256 / 256 % 256) + (bq 8 (n / 256 / 256 / 256 % 256) + 0))) := by
    have q0 : bq 32 (n) = bq 8 (n % 256) + bq 24 (n / 256) := bq_byte 24 (n)
    have q1 : bq 24 (n / 256) = bq 8 (n / 256 % 256) + bq 16 (n / 256 / 256) := bq_byte 16 (n / 256)
    have q2 : bq 16 (n / 256 / 256) = bq 8 (n / 256 / 256 % 256) + bq 8 (n / 256 / 256 / 256) := bq_byte 8 (n / 256 / 256)
    have q3 : bq 8 (n / 256 / 256 / 256) = bq 8 (n / 256 / 256 / 256 % 256) + 0 := bq_byte 0 (n / 256 / 256 / 256)
    rw [q0, q1, q2, q3]
  have s : smB 4 n = bq 8 (n % 256) + 256 * (bq 8 (n / 256 % 256) + 256 * (bq 8 (n / 256 / 256 % 256) + 256 * (bq 8 (n / 256 / 256 / 256 % 256) + 256 * 0))) := rfl
  have b0 := bq_le 8 (n % 256)
  have b1 := bq_le 8 (n / 256 % 256)
  have b2 := bq_le 8 (n / 256 / 256 % 256)
  have b3 := bq_le 8 (n / 256 / 256 / 256 % 256)
  rw [e3, s] at h4
  rw [q]
  clear h1 h2 h3 e3 q s
  generalize bq 8 (n % 256) = t0 at *
  generalize bq 8 (n / 256 % 256) = t1 at *
  generalize bq 8 (n / 256 / 256 % 256) = t2 at *
  generalize bq 8 (n / 256 / 256 / 256 % 256) = t3 at *
  exact sums4 b0 b1 b2 b3 h4 h5
