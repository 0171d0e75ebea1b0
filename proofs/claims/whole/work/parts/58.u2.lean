/-! The frame moved alike. -/
theorem pl_al {z1 : Int64} {z3 z4 mOld mCnt mTab mSpc : Int32} {mW : Nat → Int64} {mP mS : Nat → Int32} {mD : Nat → Int64} : 0 ≤ (f_X2_place z1 z3 z4 mOld mCnt mTab mSpc mW mP mS mD).1.toInt → (f_X2_place z1 z3 z4 mOld mCnt mTab mSpc mW mP mS mD).1.toInt % 8 = z1.toInt % 8 := by
  have hn : ∀ x : Int32, ¬ x < (0 : Int32) → ¬ 0 ≤ ((-1 : Int32) - x).toInt := by
    intro x h
    have h0 := rg_nn h
    have h1 := rg_bd x
    have e1 : (-1 : Int32).toInt = -1 := by decide
    rw [Jvm.Kit.i32_sub (by rw [e1]; omega) (by rw [e1]; omega), e1]
    omega
  have hd : 0 ≤ (if (if z1 < (32768 : Int64) then (0 : Int32) else (if (36864 : Int64) ≤ z1 then (0 : Int32) else (1 : Int32))) = (0 : Int32) then ((-1 : Int32) - (1 : Int32)) else (if z4 = (0 : Int32) then ((Int64.toInt32 z1) - (32768 : Int32)) else ((-1 : Int32) - (1 : Int32)))).toInt → (if (if z1 < (32768 : Int64) then (0 : Int32) else (if (36864 : Int64) ≤ z1 then (0 : Int32) else (1 : Int32))) = (0 : Int32) then ((-1 : Int32) - (1 : Int32)) else (if z4 = (0 : Int32) then ((Int64.toInt32 z1) - (32768 : Int32)) else ((-1 : Int32) - (1 : Int32)))).toInt % 8 = z1.toInt % 8 := by
    have b1 : ¬ 0 ≤ ((-1 : Int32) - (1 : Int32)).toInt := by decide
    by_cases h1 : z1 < (32768 : Int64)
    · rw [if_pos h1, if_pos rfl]
      intro h
      exact absurd h b1
    · rw [if_neg h1]
      by_cases h2 : (36864 : Int64) ≤ z1
      · rw [if_pos h2, if_pos rfl]
        intro h
        exact absurd h b1
      · rw [if_neg h2, if_neg (show ¬ (1 : Int32) = (0 : Int32) by decide)]
        by_cases h3 : z4 = (0 : Int32)
        · rw [if_pos h3]
          rw [Int64.lt_iff_toInt_lt] at h1
          rw [Int64.le_iff_toInt_le] at h2
          have e1 : (32768 : Int64).toInt = 32768 := by decide
          have e2 : (36864 : Int64).toInt = 36864 := by decide
          have e3 : (32768 : Int32).toInt = 32768 := by decide
          have e : (Int64.toInt32 z1).toInt = z1.toInt := Jvm.Kit.i32_of_i64 (by omega) (by omega)
          rw [Jvm.Kit.i32_sub (by rw [e3, e]; omega) (by rw [e3, e]; omega), e3, e]
          omega
        · rw [if_neg h3]
          intro h
          exact absurd h b1
  have hv : ¬ z1 < (0 : Int64) → z1 < (16384 : Int64) → ∀ (f y : Int32), 0 ≤ (if f < (0 : Int32) then (((256 : Int32) * (y &&& (15 : Int32))) + ((Int64.toInt32 z1) &&& (255 : Int32))) else ((-1 : Int32) - f)).toInt → (if f < (0 : Int32) then (((256 : Int32) * (y &&& (15 : Int32))) + ((Int64.toInt32 z1) &&& (255 : Int32))) else ((-1 : Int32) - f)).toInt % 8 = z1.toInt % 8 := by
    intro g1 g2 f y
    by_cases h : f < (0 : Int32)
    · rw [if_pos h]
      intro _
      rw [Int64.lt_iff_toInt_lt] at g1 g2
      have e0 : (0 : Int64).toInt = 0 := by decide
      have e2 : (16384 : Int64).toInt = 16384 := by decide
      have e : (Int64.toInt32 z1).toInt = z1.toInt := Jvm.Kit.i32_of_i64 (by omega) (by omega)
      have ey : (y &&& (15 : Int32)).toInt = y.toInt % 16 := Jvm.Kit.i32_mask y 15 (k := 4) (by decide) (by decide)
      have ez : ((Int64.toInt32 z1) &&& (255 : Int32)).toInt = (Int64.toInt32 z1).toInt % 256 := Jvm.Kit.i32_mask _ 255 (k := 8) (by decide) (by decide)
      have e32 : (256 : Int32).toInt = 256 := by decide
      have em := rg_mul (x := (256 : Int32)) (y := y &&& (15 : Int32)) (by rw [e32]; omega) (by rw [e32]; omega)
      rw [e32] at em
      have ea := rg_add (x := (256 : Int32) * (y &&& (15 : Int32))) (y := (Int64.toInt32 z1) &&& (255 : Int32)) (by omega) (by omega)
      rw [ea, em, ez, e, ey]
      omega
    · rw [if_neg h]
      intro h0
      exact absurd h0 (hn f h)
  unfold f_X2_place
  refine iteInduction (motive := fun u : Int32 × Int32 × Int32 × (Nat → Int32) × (Nat → Int32) × (Nat → Int64) => 0 ≤ u.1.toInt → u.1.toInt % 8 = z1.toInt % 8) (fun h => hd) (fun g1 => ?_)
  refine iteInduction (motive := fun u : Int32 × Int32 × Int32 × (Nat → Int32) × (Nat → Int32) × (Nat → Int64) => 0 ≤ u.1.toInt → u.1.toInt % 8 = z1.toInt % 8) (fun g2 => ?_) (fun h => hd)
  refine iteInduction (motive := fun u : Int32 × Int32 × Int32 × (Nat → Int32) × (Nat → Int32) × (Nat → Int64) => 0 ≤ u.1.toInt → u.1.toInt % 8 = z1.toInt % 8) (fun h => ?_) (fun h => hv g1 g2 _ _)
  exact hv g1 g2 _ _
/-- an aligned place -/
theorem pl_8 {z1 : Int64} {z3 z4 mOld mCnt mTab mSpc : Int32} {mW : Nat → Int64} {mP mS : Nat → Int32} {mD : Nat → Int64} (h : (0 : Int32) ≤ (f_X2_place z1 z3 z4 mOld mCnt mTab mSpc mW mP mS mD).1) (h8 : z1.toInt % 8 = 0) : 0 ≤ (f_X2_place z1 z3 z4 mOld mCnt mTab mSpc mW mP mS mD).1.toInt ∧ (f_X2_place z1 z3 z4 mOld mCnt mTab mSpc mW mP mS mD).1.toInt + 8 ≤ 4096 ∧ (f_X2_place z1 z3 z4 mOld mCnt mTab mSpc mW mP mS mD).1.toInt % 8 = 0 := by
  rw [Int32.le_iff_toInt_le] at h
  have e0 : (0 : Int32).toInt = 0 := by decide
  rw [e0] at h
  have h1 := pl_al h
  have h2 := rgf_place (z1 := z1) (z3 := z3) (z4 := z4) (mOld := mOld) (mCnt := mCnt) (mTab := mTab) (mSpc := mSpc) (mW := mW) (mP := mP) (mS := mS) (mD := mD)
  omega
theorem pl_4 {z1 : Int64} {z3 z4 mOld mCnt mTab mSpc : Int32} {mW : Nat → Int64} {mP mS : Nat → Int32} {mD : Nat → Int64} (h : (0 : Int32) ≤ (f_X2_place z1 z3 z4 mOld mCnt mTab mSpc mW mP mS mD).1) (h4 : z1.toInt % 4 = 0) : 0 ≤ (f_X2_place z1 z3 z4 mOld mCnt mTab mSpc mW mP mS mD).1.toInt ∧ (f_X2_place z1 z3 z4 mOld mCnt mTab mSpc mW mP mS mD).1.toInt + 4 ≤ 4096 ∧ (f_X2_place z1 z3 z4 mOld mCnt mTab mSpc mW mP mS mD).1.toInt % 4 = 0 := by
  rw [Int32.le_iff_toInt_le] at h
  have e0 : (0 : Int32).toInt = 0 := by decide
  rw [e0] at h
  have h1 := pl_al h
  have h2 := rgf_place (z1 := z1) (z3 := z3) (z4 := z4) (mOld := mOld) (mCnt := mCnt) (mTab := mTab) (mSpc := mSpc) (mW := mW) (mP := mP) (mS := mS) (mD := mD)
  omega
theorem al_add (x y : Int64) : (x + y).toInt % 8 = (x.toInt + y.toInt) % 8 := by
  rw [Int64.toInt_add, Int.bmod_def]
  split <;> omega
theorem al_sub (x y : Int64) : (x - y).toInt % 8 = (x.toInt - y.toInt) % 8 := by
  rw [Int64.toInt_sub, Int.bmod_def]
  split <;> omega
theorem al_x (x : Int64) : (x &&& (7 : Int64)) = (0 : Int64) ↔ x.toInt % 8 = 0 := by
  have e0 : (0 : Int64).toInt = 0 := by decide
  rw [← Int64.toInt_inj, Jvm.Kit.i64_mask x 7 (k := 3) (by decide) (by decide), e0]
  omega
theorem al_mul (x y : Int64) : (x * y).toInt % 8 = (x.toInt * y.toInt) % 8 := by
  rw [Int64.toInt_mul, Int.bmod_def]
  split <;> omega
theorem al_y (x : Int64) : (x - x / (8 : Int64) * (8 : Int64)) = (0 : Int64) ↔ x.toInt % 8 = 0 := by
  have e0 : (0 : Int64).toInt = 0 := by decide
  have e8 : (8 : Int64).toInt = 8 := by decide
  have hm := al_mul (x / 8) 8
  rw [e8] at hm
  have hs := al_sub x (x / (8 : Int64) * (8 : Int64))
  constructor
  · intro h
    rw [h, e0] at hs
    omega
  · intro h
    have hd : (x / (8 : Int64)).toInt = x.toInt.tdiv 8 := by
      rw [Int64.toInt_div_of_ne_right x 8 (by decide), e8]
    obtain ⟨q, hq⟩ := (show ∃ q, x.toInt = q * 8 from ⟨x.toInt / 8, by omega⟩)
    have ht : (x / (8 : Int64)).toInt = q := by
      rw [hd, hq, Int.mul_tdiv_cancel _ (by decide)]
    apply Int64.toInt_inj.mp
    rw [e0, Int64.toInt_sub, Int64.toInt_mul, ht, e8, ← hq]
    have := Int64.toInt_lt x
    have := Int64.le_toInt x
    rw [Int.bmod_eq_of_le (n := x.toInt) (by omega) (by omega)]
    simp
theorem al_k {b : Int64} (h : b.toInt % 8 = 0) {j : Nat} (hj : j < 6) : (b + Int32.toInt64 ((8 : Int32) * nI j)).toInt % 8 = 0 := by
  have e : ∀ j : Nat, j < 6 → (Int32.toInt64 ((8 : Int32) * nI j)).toInt = ((8 * j : Nat) : Int) := by decide +kernel
  rw [al_add, e j hj]
  omega
