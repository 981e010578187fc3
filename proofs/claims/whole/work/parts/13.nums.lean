/-! numbers: what the reference's stored and pressed reckon is what the class's do -/
theorem low_of (v : Int64) : ∃ n : Nat, n < 65536 ∧ (v &&& 65535).toInt32 = nI n ∧ (n : Int) = v.toInt % 65536 := by
  have h := Jvm.Kit.i64_mask v 65535 (k := 16) (by decide) (by decide)
  refine ⟨(v.toInt % 65536).toNat, by omega, ?_, by omega⟩
  apply Int32.toInt_inj.mp
  rw [Int64.toInt_toInt32, h, nI_toInt (by omega), Jvm.Kit.bmod32 (by omega) (by omega)]
  omega
theorem low16 (v : Int64) : -32768 ≤ v.toInt32.toInt16.toInt32.toInt ∧ v.toInt32.toInt16.toInt32.toInt < 32768 ∧ v.toInt32.toInt16.toInt32.toInt % 65536 = v.toInt % 65536 := by
  rw [Int16.toInt_toInt32]
  refine ⟨Int16.le_toInt _, Int16.toInt_lt _, ?_⟩
  rw [Int32.toInt_toInt16, Int64.toInt_toInt32]
  have h1 := Int.bmod_emod (x := v.toInt) (m := 2 ^ 32)
  have h2 := Int.bmod_emod (x := v.toInt.bmod (2 ^ 32)) (m := 2 ^ 16)
  omega
theorem low8 (v : Int64) : -128 ≤ v.toInt32.toInt8.toInt32.toInt ∧ v.toInt32.toInt8.toInt32.toInt < 128 ∧ v.toInt32.toInt8.toInt32.toInt % 256 = v.toInt % 256 := by
  rw [Int8.toInt_toInt32]
  refine ⟨Int8.le_toInt _, Int8.toInt_lt _, ?_⟩
  rw [Int32.toInt_toInt8, Int64.toInt_toInt32]
  have h1 := Int.bmod_emod (x := v.toInt) (m := 2 ^ 32)
  have h2 := Int.bmod_emod (x := v.toInt.bmod (2 ^ 32)) (m := 2 ^ 8)
  omega
theorem sto1_lo {v : Int64} {n : Nat} (hn : n < 65536) (en : (n : Int) = v.toInt % 65536) (c : nI n < 32768) : nI n = sto 1 v := by
  have hc : n < 32768 := (nI_ltI (b := 32768) (by omega) (by omega)).mp c
  obtain ⟨h1, h2, h3⟩ := low16 v
  apply Int32.toInt_inj.mp
  show _ = v.toInt32.toInt16.toInt32.toInt
  rw [nI_toInt (by omega)]
  omega
theorem sto1_hi {v : Int64} {n : Nat} (hn : n < 65536) (en : (n : Int) = v.toInt % 65536) (c : ¬ nI n < 32768) : nI n - 65536 = sto 1 v := by
  have hc : ¬ n < 32768 := fun q => c ((nI_ltI (b := 32768) (by omega) (by omega)).mpr q)
  obtain ⟨h1, h2, h3⟩ := low16 v
  apply Int32.toInt_inj.mp
  show _ = v.toInt32.toInt16.toInt32.toInt
  rw [show (65536 : Int32) = nI 65536 from rfl, pk_sub_toInt (by omega) (by omega)]
  omega
theorem sto3_eq {v : Int64} {n : Nat} (hn : n < 65536) (en : (n : Int) = v.toInt % 65536) : nI n - nI n / 2 * 2 = sto 3 v := by
  rw [show (2 : Int32) = nI 2 from rfl, pk_rem (by omega) (by omega) (by omega)]
  have h := Jvm.Kit.i64_mask v 1 (k := 1) (by decide) (by decide)
  apply Int32.toInt_inj.mp
  show _ = (v &&& 1).toInt32.toInt
  rw [Int64.toInt_toInt32, h, nI_toInt (by omega), Jvm.Kit.bmod32 (by omega) (by omega)]
  omega
theorem rem256 {n : Nat} (hn : n < 65536) : nI n - nI n / 256 * 256 = nI (n % 256) := by
  rw [show (256 : Int32) = nI 256 from rfl, pk_rem (by omega) (by omega) (by omega)]
theorem sto4_lo {v : Int64} {n : Nat} (hn : n < 65536) (en : (n : Int) = v.toInt % 65536) (c : nI (n % 256) < 128) : nI (n % 256) = sto 4 v := by
  have hc : n % 256 < 128 := (nI_ltI (b := 128) (by omega) (by omega)).mp c
  obtain ⟨h1, h2, h3⟩ := low8 v
  apply Int32.toInt_inj.mp
  show _ = v.toInt32.toInt8.toInt32.toInt
  rw [nI_toInt (by omega)]
  omega
theorem sto4_hi {v : Int64} {n : Nat} (hn : n < 65536) (en : (n : Int) = v.toInt % 65536) (c : ¬ nI (n % 256) < 128) : nI (n % 256) - 256 = sto 4 v := by
  have hc : ¬ n % 256 < 128 := fun q => c ((nI_ltI (b := 128) (by omega) (by omega)).mpr q)
  obtain ⟨h1, h2, h3⟩ := low8 v
  apply Int32.toInt_inj.mp
  show _ = v.toInt32.toInt8.toInt32.toInt
  rw [show (256 : Int32) = nI 256 from rfl, pk_sub_toInt (by omega) (by omega)]
  omega
theorem i64_8 : (8000 : Int64).toInt = 8000 := by decide
theorem i64_m8 : (-8000 : Int64).toInt = -8000 := by decide
theorem cl8_lo {v : Int64} (h : ¬ -8000 ≤ v) : (-8000 : Int32) = sto 2 v := by
  have a : ¬ -8000 ≤ v.toInt := fun q => h (by rw [Int64.le_iff_toInt_le, i64_m8]; exact q)
  show _ = (cl8 v).toInt32
  have b : v < 8000 := by rw [Int64.lt_iff_toInt_lt, i64_8]; omega
  have d : v < -8000 := by rw [Int64.lt_iff_toInt_lt, i64_m8]; omega
  rw [cl8, if_pos b, if_pos d]
  decide
theorem cl8_hi {v : Int64} (h : ¬ v ≤ 8000) : (8000 : Int32) = sto 2 v := by
  have a : ¬ v.toInt ≤ 8000 := fun q => h (by rw [Int64.le_iff_toInt_le, i64_8]; exact q)
  show _ = (cl8 v).toInt32
  have b : ¬ v < 8000 := by rw [Int64.lt_iff_toInt_lt, i64_8]; omega
  rw [cl8, if_neg b, if_neg (by decide)]
  decide
theorem cl8_mid {v : Int64} (h1 : -8000 ≤ v) (h2 : v ≤ 8000) : v.toInt32 = sto 2 v := by
  rw [Int64.le_iff_toInt_le, i64_m8] at h1
  rw [Int64.le_iff_toInt_le, i64_8] at h2
  show _ = (cl8 v).toInt32
  have d : ¬ v < -8000 := by rw [Int64.lt_iff_toInt_lt, i64_m8]; omega
  by_cases b : v < 8000
  · rw [cl8, if_pos b, if_neg d]
  · rw [Int64.lt_iff_toInt_lt, i64_8] at b
    have e : v = 8000 := Int64.toInt_inj.mp (by rw [i64_8]; omega)
    rw [e]
    decide
theorem rem32 (x y : Int32) : (x - (x / y) * y).toInt = x.toInt.tmod y.toInt := by
  have a := (x % y).toInt_lt
  have b := (x % y).le_toInt
  rw [Int32.toInt_mod] at a b
  rw [Int32.toInt_sub, Int32.toInt_mul, Int32.toInt_div, Int.bmod_mul_bmod, Int.sub_bmod_bmod, Int.mul_comm, ← Int.tmod_def]
  exact Jvm.Kit.bmod32 b a
theorem and1 (v : Int32) : (v &&& 1).toInt = v.toInt % 2 := Jvm.Kit.i32_mask v 1 (k := 1) (by decide) (by decide)
theorem rem_0 {v : Int32} (h : v - v / 2 * 2 = 0) : v &&& 1 = 0 := by
  have h2 := rem32 v 2
  rw [h, show (2 : Int32).toInt = 2 from by decide, Int32.toInt_zero] at h2
  have h3 := Int.dvd_of_tmod_eq_zero h2.symm
  apply Int32.toInt_inj.mp
  rw [and1, Int32.toInt_zero]
  omega
theorem rem_1 {v : Int32} (h : ¬ v - v / 2 * 2 = 0) : v &&& 1 = 1 := by
  apply Int32.toInt_inj.mp
  rw [and1, show (1 : Int32).toInt = 1 from by decide]
  by_cases q : v.toInt % 2 = 0
  · refine absurd ?_ h
    apply Int32.toInt_inj.mp
    rw [rem32, Int32.toInt_zero, show (2 : Int32).toInt = 2 from by decide]
    exact Int.tmod_eq_zero_of_dvd (by omega)
  · omega
theorem and1_01 (v : Int32) : v &&& 1 = 0 ∨ v &&& 1 = 1 := by
  by_cases h : v - v / 2 * 2 = 0
  · exact Or.inl (rem_0 h)
  · exact Or.inr (rem_1 h)
theorem i32_back (x : Int32) : x.toInt64.toInt32 = x := by
  apply Int32.toInt_inj.mp
  rw [Int64.toInt_toInt32, Int32.toInt_toInt64]
  exact Jvm.Kit.bmod32 (Int32.le_toInt x) (Int32.toInt_lt x)
theorem ix60 {j i : Nat} : (60 : Int32) * nI j + nI i = nI (60 * j + i) := by
  rw [show (60 : Int32) = nI 60 from rfl, pk_mul, nI_add]
theorem ix256 {j i : Nat} : (256 : Int32) * nI j + nI i = nI (256 * j + i) := by
  rw [show (256 : Int32) = nI 256 from rfl, pk_mul, nI_add]
theorem ix256r {j a i : Nat} : (256 : Int32) * nI j + 16 * nI a + nI i = nI (256 * j + (16 * a + i)) := by
  rw [show (256 : Int32) = nI 256 from rfl, show (16 : Int32) = nI 16 from rfl, pk_mul, pk_mul, nI_add, nI_add, Nat.add_assoc]
theorem le3 {w : Int32} (h : w ≤ 3) : ¬ 4 ≤ w := by
  intro q
  rw [Int32.le_iff_toInt_le] at h q
  have a : (3 : Int32).toInt = 3 := by decide
  have b : (4 : Int32).toInt = 4 := by decide
  omega
theorem gt3 {w : Int32} (h : ¬ w ≤ 3) : 4 ≤ w := by
  rw [Int32.le_iff_toInt_le] at h ⊢
  have a : (3 : Int32).toInt = 3 := by decide
  have b : (4 : Int32).toInt = 4 := by decide
  omega
