/-! Ranges for the reference's methods. -/
theorem ry_m1 {z : Int32} (h : 0 ≤ z.toInt) : (z - 1).toInt = z.toInt - 1 := by
  have h1 := rg_bd z
  have e : (1 : Int32).toInt = 1 := by decide
  rw [Jvm.Kit.i32_sub (by rw [e]; omega) (by rw [e]; omega), e]
theorem ry_b0 {z : Int32} (h : 0 ≤ z.toInt) (h8 : z.toInt ≤ 8) : ((z - 1).toInt + 1).toNat < 9 := by
  rw [ry_m1 h]
  omega
theorem ry_b1 {z : Int32} (h : 0 ≤ z.toInt) : (z - 1).toInt < z.toInt := by
  rw [ry_m1 h]
  omega
theorem ry_pm {k : Int32} (h : ¬ k < 0) : (k + (-1)).toInt = k.toInt - 1 := by
  have h0 := rg_nn h
  have h1 := rg_bd k
  have e : (-1 : Int32).toInt = -1 := by decide
  rw [rg_add (by rw [e]; omega) (by rw [e]; omega), e]
  omega
theorem ry_b2 {k : Int32} {n : Nat} (h : ¬ k < 0) (hf : (k.toInt + 1).toNat < n + 1) : ((k + (-1)).toInt + 1).toNat < n := by
  have h0 := rg_nn h
  rw [ry_pm h]
  omega
theorem ry_b3 {k z : Int32} (h : ¬ k < 0) (hk : k.toInt < z.toInt) : (k + (-1)).toInt < z.toInt := by
  rw [ry_pm h]
  omega
theorem ry_b4 {a k z : Int32} (ha0 : 0 ≤ a.toInt) (ha1 : a.toInt + z.toInt ≤ 4096) (h8 : z.toInt ≤ 8) (h : ¬ k < 0) (hk : k.toInt < z.toInt) : vp_in (a + k) 4096 := by
  have h0 := rg_nn h
  have e := rg_add (x := a) (y := k) (by omega) (by omega)
  exact qa_inI (by omega) (by omega)
theorem ry_s0 {z : Int32} (h8 : z.toInt ≤ 8) : (z.toInt - (0 : Int32).toInt).toNat < 9 := by
  rw [Int32.toInt_zero]
  omega
theorem ry_s1 {a k z : Int32} (ha0 : 0 ≤ a.toInt) (ha1 : a.toInt + z.toInt ≤ 4096) (h8 : z.toInt ≤ 8) (h0 : 0 ≤ k.toInt) (h : ¬ z ≤ k) : vp_in (a + k) 4096 := by
  have h := rg_lt h
  have e := rg_add (x := a) (y := k) (by omega) (by omega)
  exact qa_inI (by omega) (by omega)
theorem ry_k1 {i : Int32} (h0 : 0 ≤ i.toInt) (h : ¬ (3 : Int32) ≤ i) : vp_in (i + 1) 4 := by
  have e := rg_s h
  have h := rg_lt h
  have e3 : (3 : Int32).toInt = 3 := by decide
  exact qa_inI (by omega) (by omega)
theorem ry_ne4 {x : Int32} (h0 : 0 ≤ x.toInt) (h4 : x.toInt ≤ 4) (h : ¬ x = 4) : vp_in x 4 := by
  have e : ¬ x.toInt = 4 := fun q => h (Int32.toInt_inj.mp (by rw [q]; decide))
  exact qa_inI h0 (by omega)
theorem ry_l15 (x : Int64) : 0 ≤ (Int64.toInt32 (x &&& (15 : Int64))).toInt ∧ (Int64.toInt32 (x &&& (15 : Int64))).toInt < 16 := by
  have h : (x &&& (15 : Int64)).toInt = x.toInt % 16 := Jvm.Kit.i64_mask x 15 (k := 4) (by decide) (by decide)
  have e : (Int64.toInt32 (x &&& (15 : Int64))).toInt = (x &&& (15 : Int64)).toInt := Jvm.Kit.i32_of_i64 (by omega) (by omega)
  omega
theorem ry_num (x : Int64) : 0 ≤ ((256 : Int32) * (Int64.toInt32 (x &&& (15 : Int64)))).toInt ∧ ((256 : Int32) * (Int64.toInt32 (x &&& (15 : Int64)))).toInt ≤ 4064 := by
  have h := ry_l15 x
  have e : (256 : Int32).toInt = 256 := by decide
  have em := rg_mul (x := (256 : Int32)) (y := Int64.toInt32 (x &&& (15 : Int64))) (by rw [e]; omega) (by rw [e]; omega)
  rw [e] at em
  omega
theorem ry_w {a : Int32} (h0 : 0 ≤ a.toInt) (h1 : a.toInt ≤ 4064) (x : Int32) : 0 ≤ (a + ((8 : Int32) * (x &&& (3 : Int32)))).toInt ∧ (a + ((8 : Int32) * (x &&& (3 : Int32)))).toInt + (8 : Int32).toInt ≤ 4096 := by
  have h := rg_and3 x
  have e8 : (8 : Int32).toInt = 8 := by decide
  have em := rg_mul (x := (8 : Int32)) (y := x &&& (3 : Int32)) (by rw [e8]; omega) (by rw [e8]; omega)
  rw [e8] at em
  have e := rg_add (x := a) (y := (8 : Int32) * (x &&& (3 : Int32))) (by omega) (by omega)
  omega
