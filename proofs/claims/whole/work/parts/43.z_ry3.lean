theorem ry_N {c d : Prop} [Decidable c] [Decidable d] : (if c then (if d then (4 : Int32) else (8 : Int32)) else (8 : Int32)) = 4 ∨ (if c then (if d then (4 : Int32) else (8 : Int32)) else (8 : Int32)) = 8 := by
  split
  · split
    · exact Or.inl rfl
    · exact Or.inr rfl
  · exact Or.inr rfl
theorem ry_Nb {c d : Prop} [Decidable c] [Decidable d] : 0 ≤ (if c then (if d then (4 : Int32) else (8 : Int32)) else (8 : Int32)).toInt ∧ (if c then (if d then (4 : Int32) else (8 : Int32)) else (8 : Int32)).toInt ≤ 8 := by
  rcases ry_N (c := c) (d := d) with h | h <;> rw [h] <;> decide
theorem ry_and3 (v : Int64) (h : (v &&& (3 : Int64)) = (0 : Int64)) : v.toInt % 4 = 0 := by
  have e : (v &&& (3 : Int64)).toInt = v.toInt % 4 := Jvm.Kit.i64_mask v 3 (k := 2) (by decide) (by decide)
  rw [h] at e
  have e0 : (0 : Int64).toInt = 0 := by decide
  omega
theorem ry_and7 (v : Int64) (h : (v &&& (7 : Int64)) = (0 : Int64)) : v.toInt % 8 = 0 := by
  have e : (v &&& (7 : Int64)).toInt = v.toInt % 8 := Jvm.Kit.i64_mask v 7 (k := 3) (by decide) (by decide)
  rw [h] at e
  have e0 : (0 : Int64).toInt = 0 := by decide
  omega
theorem ry_atn {v : Int64} {r : Int32 × Int32 × (Nat → Int32) × (Nat → Int32) × (Nat → Int64)} {N : Int32} (hp : pY v r) (ha : (v &&& Int32.toInt64 (N - (1 : Int32))) = (0 : Int64)) (hN : N = 4 ∨ N = 8) (h : 0 ≤ r.1.toInt) : r.1.toInt + N.toInt ≤ 4096 := by
  rcases hN with rfl | rfl
  · exact ry_at4 hp (ry_and3 v ha) h
  · exact ry_at8 hp (ry_and7 v ha) h
theorem ry_vec {x : Int64} (h : ¬ (6 : Int64) ≤ (x &&& (7 : Int64))) : vp_in (Int64.toInt32 (x &&& (7 : Int64))) 6 := by
  have e : (x &&& (7 : Int64)).toInt = x.toInt % 8 := Jvm.Kit.i64_mask x 7 (k := 3) (by decide) (by decide)
  rw [Int64.le_iff_toInt_le] at h
  have e6 : (6 : Int64).toInt = 6 := by decide
  have e2 : (Int64.toInt32 (x &&& (7 : Int64))).toInt = (x &&& (7 : Int64)).toInt := Jvm.Kit.i32_of_i64 (by omega) (by omega)
  exact qa_inI (by omega) (by omega)
theorem ry_bn {b c : Int32} (h : ¬ b < 0) (hq : b.toInt = -1 ∨ (0 ≤ b.toInt ∧ b.toInt < c.toInt)) (hc : c.toInt ≤ 4) : vp_in b 4 := by
  have h := rg_nn h
  exact qa_inI h (by omega)
theorem ry_pl {z : Int32} (h : ¬ (if z < (0 : Int32) then (0 : Int32) else (if (4088 : Int32) < z then (0 : Int32) else (if (z - z / (8 : Int32) * (8 : Int32)) = (0 : Int32) then (1 : Int32) else (0 : Int32)))) = (0 : Int32)) : 0 ≤ z.toInt ∧ z.toInt + (8 : Int32).toInt ≤ 4096 := by
  by_cases h1 : z < (0 : Int32)
  · rw [if_pos h1] at h
    exact absurd rfl h
  · rw [if_neg h1] at h
    by_cases h2 : (4088 : Int32) < z
    · rw [if_pos h2] at h
      exact absurd rfl h
    · rw [Int32.lt_iff_toInt_lt] at h2
      have e : (4088 : Int32).toInt = 4088 := by decide
      have e8 : (8 : Int32).toInt = 8 := by decide
      exact ⟨rg_nn h1, by omega⟩
theorem ry_v40 {z : Int32} (h1 : ¬ z < (40 : Int32)) (h2 : ¬ (46 : Int32) ≤ z) : vp_in (z - (40 : Int32)) 6 := by
  rw [Int32.lt_iff_toInt_lt] at h1
  rw [Int32.le_iff_toInt_le] at h2
  have e1 : (40 : Int32).toInt = 40 := by decide
  have e2 : (46 : Int32).toInt = 46 := by decide
  have e : (z - (40 : Int32)).toInt = z.toInt - 40 := by
    rw [Jvm.Kit.i32_sub (by rw [e1]; omega) (by rw [e1]; omega), e1]
  exact qa_inI (by omega) (by omega)
