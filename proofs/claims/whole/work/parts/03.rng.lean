/-! Ranges of indices, and falling measures of loops. -/
theorem rg_bd (x : Int32) : -2147483648 ≤ x.toInt ∧ x.toInt < 2147483648 := by
  have h1 := Int32.le_toInt x
  have h2 := Int32.toInt_lt x
  omega
theorem rg_a {i n : Int32} {N : Nat} (h0 : 0 ≤ i.toInt) (h : i < n) (hn : n.toInt ≤ N) : vp_in i N := by
  rw [Int32.lt_iff_toInt_lt] at h
  exact qa_inI h0 (by omega)
theorem rg_b {i n : Int32} {N : Nat} (h0 : 0 ≤ i.toInt) (h : ¬ n ≤ i) (hn : n.toInt ≤ N) : vp_in i N := by
  rw [Int32.le_iff_toInt_le] at h
  exact qa_inI h0 (by omega)
theorem rg_lt {i n : Int32} (h : ¬ n ≤ i) : i.toInt < n.toInt := by
  rw [Int32.le_iff_toInt_le] at h
  omega
theorem rg_s {i n : Int32} (h : ¬ n ≤ i) : (i + 1).toInt = i.toInt + 1 := by
  have h := rg_lt h
  have h1 := rg_bd i
  have h2 := rg_bd n
  have e : (1 : Int32).toInt = 1 := by decide
  rw [Jvm.Kit.i32_add (by rw [e]; omega) (by rw [e]; omega), e]
theorem rg_fs {c i : Int32} {n : Nat} (h : ¬ c ≤ i) (hf : (c.toInt - i.toInt).toNat < n + 1) : (c.toInt - (i + 1).toInt).toNat < n := by
  rw [rg_s h]
  have := rg_lt h
  omega
theorem rg_i0 {c i : Int32} (h : ¬ c ≤ i) (h0 : 0 ≤ i.toInt) : 0 ≤ (i + 1).toInt := by
  rw [rg_s h]
  omega
theorem rg_f0 {c : Int32} (h : c.toInt ≤ 4) : (c.toInt - (0 : Int32).toInt).toNat < 5 := by
  rw [Int32.toInt_zero]
  omega
theorem rg_f4 {c i : Int32} (h : c.toInt ≤ 4) (h0 : 0 ≤ i.toInt) : (c.toInt - i.toInt).toNat < 5 := by
  omega
theorem rg_z : 0 ≤ (0 : Int32).toInt := by decide
theorem rg_best {b c : Int32} (h : 0 ≤ b) (hq : b.toInt = -1 ∨ (0 ≤ b.toInt ∧ b.toInt < c.toInt)) (hc : c.toInt ≤ 4) : vp_in b 4 := by
  rw [Int32.le_iff_toInt_le, Int32.toInt_zero] at h
  exact qa_inI h (by omega)
theorem rg_best0 {b : Int32} (h : 0 ≤ b) : 0 ≤ b.toInt := by
  rw [Int32.le_iff_toInt_le, Int32.toInt_zero] at h
  exact h
theorem rg_best1 {b c : Int32} (h : 0 ≤ b) (hq : b.toInt = -1 ∨ (0 ≤ b.toInt ∧ b.toInt < c.toInt)) : b.toInt < c.toInt := by
  rw [Int32.le_iff_toInt_le, Int32.toInt_zero] at h
  omega
theorem rg_m1 {c : Int32} (h : 1 ≤ c.toInt) : (c - 1).toInt = c.toInt - 1 := by
  have h1 := rg_bd c
  have e : (1 : Int32).toInt = 1 := by decide
  rw [Jvm.Kit.i32_sub (by rw [e]; omega) (by rw [e]; omega), e]
theorem rg_r0 {c i : Int32} (h : ¬ (c - 1) ≤ i) (h0 : 0 ≤ i.toInt) (h1 : 1 ≤ c.toInt) (hc : c.toInt ≤ 4) : vp_in i 4 := by
  have h := rg_lt h
  rw [rg_m1 h1] at h
  exact qa_inI h0 (by omega)
theorem rg_r1 {c i : Int32} (h : ¬ (c - 1) ≤ i) (h0 : 0 ≤ i.toInt) (h1 : 1 ≤ c.toInt) (hc : c.toInt ≤ 4) : vp_in (i + 1) 4 := by
  have e := rg_s h
  have h := rg_lt h
  rw [rg_m1 h1] at h
  exact qa_inI (by omega) (by omega)
theorem rg_rf {c i : Int32} (h0 : 0 ≤ i.toInt) (h1 : 1 ≤ c.toInt) (hc : c.toInt ≤ 4) : ((c - 1).toInt - i.toInt).toNat < 5 := by
  rw [rg_m1 h1]
  omega
theorem rg_shr (x : Int32) (k : Int32) (n : Nat) (hk : (k.toBitVec.smod 32).toNat = n) : (x >>> k).toInt = x.toInt / 2 ^ n := Jvm.Kit.i32_shr x k hk
theorem rg_sh3v {x : Int32} : (x >>> ((3 : Int32) &&& (31 : Int32))).toInt = x.toInt / 8 := by
  have h := rg_shr x ((3 : Int32) &&& (31 : Int32)) 3 (by decide)
  rw [h]
  rfl
theorem rg_sh3 {x : Int32} (h0 : 0 ≤ x.toInt) (h1 : x.toInt < 4096) : vp_in (x >>> ((3 : Int32) &&& (31 : Int32))) 512 := by
  have h := rg_sh3v (x := x)
  exact qa_inI (by omega) (by omega)
theorem rg_and3 (x : Int32) : 0 ≤ (x &&& (3 : Int32)).toInt ∧ (x &&& (3 : Int32)).toInt < 4 := by
  have h : (x &&& (3 : Int32)).toInt = x.toInt % 4 := Jvm.Kit.i32_mask x 3 (k := 2) (by decide) (by decide)
  omega
theorem rg_and15 (x : Int32) : 0 ≤ (x &&& (15 : Int32)).toInt ∧ (x &&& (15 : Int32)).toInt < 16 := by
  have h : (x &&& (15 : Int32)).toInt = x.toInt % 16 := Jvm.Kit.i32_mask x 15 (k := 4) (by decide) (by decide)
  omega
theorem rg_and7 (x : Int32) : 0 ≤ (x &&& (7 : Int32)).toInt ∧ (x &&& (7 : Int32)).toInt < 8 := by
  have h : (x &&& (7 : Int32)).toInt = x.toInt % 8 := Jvm.Kit.i32_mask x 7 (k := 3) (by decide) (by decide)
  omega
theorem rg_and255 (x : Int32) : 0 ≤ (x &&& (255 : Int32)).toInt ∧ (x &&& (255 : Int32)).toInt < 256 := by
  have h : (x &&& (255 : Int32)).toInt = x.toInt % 256 := Jvm.Kit.i32_mask x 255 (k := 8) (by decide) (by decide)
  omega
theorem rg_add {x y : Int32} (h1 : -2147483648 ≤ x.toInt + y.toInt) (h2 : x.toInt + y.toInt < 2147483648) : (x + y).toInt = x.toInt + y.toInt := Jvm.Kit.i32_add (by omega) (by omega)
theorem rg_mul {x y : Int32} (h1 : -2147483648 ≤ x.toInt * y.toInt) (h2 : x.toInt * y.toInt < 2147483648) : (x * y).toInt = x.toInt * y.toInt := Jvm.Kit.i32_mul (by omega) (by omega)
theorem rg_w1 {t : Int32} (b : Int32) (h0 : 0 ≤ t.toInt) (h1 : t.toInt ≤ 4064) : vp_in ((t >>> ((3 : Int32) &&& (31 : Int32))) + (b &&& (3 : Int32))) 512 := by
  have h := rg_sh3v (x := t)
  have hb := rg_and3 b
  have e := rg_add (x := t >>> ((3 : Int32) &&& (31 : Int32))) (y := b &&& (3 : Int32)) (by omega) (by omega)
  exact qa_inI (by omega) (by omega)
theorem rg_w2 (a b : Int32) : vp_in (((32 : Int32) * (a &&& (15 : Int32))) + (b &&& (3 : Int32))) 512 := by
  have ha := rg_and15 a
  have hb := rg_and3 b
  have e32 : (32 : Int32).toInt = 32 := by decide
  have em := rg_mul (x := (32 : Int32)) (y := a &&& (15 : Int32)) (by rw [e32]; omega) (by rw [e32]; omega)
  rw [e32] at em
  have e := rg_add (x := (32 : Int32) * (a &&& (15 : Int32))) (y := b &&& (3 : Int32)) (by omega) (by omega)
  exact qa_inI (by omega) (by omega)
theorem qa_fb {v : Int32} (h : v = 0 ∨ v = 1) : fits .boolean (.int v) = true := by
  rcases h with rfl | rfl <;> rfl
