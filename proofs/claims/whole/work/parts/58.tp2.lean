/-! place and translate, alike. -/
def pt (u : Int32 × Int32 × Int32 × (Nat → Int32) × (Nat → Int32) × (Nat → Int64)) (v : Int32 × Int32 × (Nat → Int32) × (Nat → Int32) × (Nat → Int64)) : Prop := v.1 = u.1 ∧ v.2.1 = u.2.2.1 ∧ RB u.2.1 u.2.2.1 u.2.2.2.1 u.2.2.2.2.1 u.2.2.2.2.2 v.2.2.1 v.2.2.2.1 v.2.2.2.2
theorem tr_m2 : (-2 : Int32) = ((-1 : Int32) - (1 : Int32)) := by decide
theorem tr_place {z1 : Int64} {z3 z4 mOld mCnt mTab mSpc : Int32} {mW : Nat → Int64} {yMem mP mS : Nat → Int32} {mD : Nat → Int64} {yBP yBS : Nat → Int32} {yBW : Nat → Int64} (hm : RM mW yMem) (hM : okM mOld mCnt) (hT : okT mTab) (h8 : okA mTab) (hb : RB mOld mCnt mP mS mD yBP yBS yBW) (hD : okD z4) :
    pt (f_X2_place z1 z3 z4 mOld mCnt mTab mSpc mW mP mS mD) (f_Y_translate z1 z3 z4 mTab mSpc mCnt yMem yBP yBS yBW) := by
  have e0 : (0 : Int64).toInt = 0 := by decide
  have e16383 : (16383 : Int64).toInt = 16383 := by decide
  have e16384 : (16384 : Int64).toInt = 16384 := by decide
  have e32768 : (32768 : Int64).toInt = 32768 := by decide
  have e36864 : (36864 : Int64).toInt = 36864 := by decide
  have e65535 : (65535 : Int64).toInt = 65535 := by decide
  unfold f_X2_place f_Y_translate f_X2_place_K54_1
  by_cases h1 : z1 < (0 : Int64)
  · have h2 : z1 < (32768 : Int64) := by
      rw [Int64.lt_iff_toInt_lt] at h1 ⊢
      omega
    rw [if_pos h1, if_pos h1, if_pos h2, if_pos rfl]
    exact ⟨tr_m2, rfl, hb⟩
  · rw [if_neg h1, if_neg h1]
    have g1 : 0 ≤ z1.toInt := by
      rw [Int64.lt_iff_toInt_lt] at h1
      omega
    by_cases h2 : z1 < (16384 : Int64)
    · have g2 : z1.toInt < 16384 := by
        rw [Int64.lt_iff_toInt_lt] at h2
        omega
      have n1 : ¬ (65535 : Int64) < z1 := by
        rw [Int64.lt_iff_toInt_lt]
        omega
      have n2 : z1 ≤ (16383 : Int64) := by
        rw [Int64.le_iff_toInt_le]
        omega
      have e : (Int64.toInt32 z1).toInt = z1.toInt := Jvm.Kit.i32_of_i64 (by omega) (by omega)
      have n3 : (Int64.toInt32 z1) ≤ (32767 : Int32) := by
        rw [Int32.le_iff_toInt_le, e]
        have : (32767 : Int32).toInt = 32767 := by decide
        omega
      unfold f_Y_translate_B33 f_Y_translate_K103_1
      rw [if_pos h2, if_neg n1, if_pos n2, if_pos n3, bu_eq]
      obtain ⟨s1, s2, s3⟩ := bu_sim hM hb ((Int64.toInt32 z1) >>> ((8 : Int32) &&& (31 : Int32))) mSpc
      by_cases hf : f_X2_find ((Int64.toInt32 z1) >>> ((8 : Int32) &&& (31 : Int32))) mCnt mSpc mP mS < (0 : Int32)
      · rw [if_pos hf, if_pos (s1.mp hf), tv_val _ _ _ _ _ _ _ _ hD]
        have hw := tr_walk (z := (Int64.toInt32 z1) >>> ((8 : Int32) &&& (31 : Int32))) (mSpc := mSpc) hm hM hT h8 hb (s3 hf)
        obtain ⟨w1, w2, w3⟩ := hw
        rw [w1]
        exact ⟨rfl, w2, w3⟩
      · rw [if_neg hf, if_neg (fun q => hf (s1.mpr q)), tv_val _ _ _ _ _ _ _ _ hD, ← s2 hf]
        exact ⟨rfl, rfl, hb⟩
    · rw [if_neg h2]
      have g2 : 16384 ≤ z1.toInt := by
        rw [Int64.lt_iff_toInt_lt] at h2
        omega
      have n2 : ¬ z1 ≤ (16383 : Int64) := by
        rw [Int64.le_iff_toInt_le]
        omega
      by_cases h3 : z1 < (32768 : Int64)
      · have g3 : z1.toInt < 32768 := by
          rw [Int64.lt_iff_toInt_lt] at h3
          omega
        have n1 : ¬ (65535 : Int64) < z1 := by
          rw [Int64.lt_iff_toInt_lt]
          omega
        have n3 : ¬ (32768 : Int64) ≤ z1 := by
          rw [Int64.le_iff_toInt_le]
          omega
        rw [if_pos h3, if_pos rfl, if_neg n1, if_neg n2, if_neg n3]
        exact ⟨tr_m2, rfl, hb⟩
      · have g3 : 32768 ≤ z1.toInt := by
          rw [Int64.lt_iff_toInt_lt] at h3
          omega
        have n3 : (32768 : Int64) ≤ z1 := by
          rw [Int64.le_iff_toInt_le]
          omega
        rw [if_neg h3, if_neg n2, if_pos n3]
        by_cases h4 : (65535 : Int64) < z1
        · have g4 : (36864 : Int64) ≤ z1 := by
            rw [Int64.lt_iff_toInt_lt] at h4
            rw [Int64.le_iff_toInt_le]
            omega
          rw [if_pos h4, if_pos g4, if_pos rfl]
          exact ⟨tr_m2, rfl, hb⟩
        · have g4 : z1.toInt ≤ 65535 := by
            rw [Int64.lt_iff_toInt_lt] at h4
            omega
          have e : (Int64.toInt32 z1).toInt = z1.toInt := Jvm.Kit.i32_of_i64 (by omega) (by omega)
          have n5 : ¬ (Int64.toInt32 z1) ≤ (32767 : Int32) := by
            rw [Int32.le_iff_toInt_le, e]
            have : (32767 : Int32).toInt = 32767 := by decide
            omega
          unfold f_Y_translate_B33
          rw [if_neg h4, if_neg n5]
          by_cases h5 : (36864 : Int64) ≤ z1
          · have n6 : (36864 : Int32) ≤ (Int64.toInt32 z1) := by
              rw [Int32.le_iff_toInt_le, e]
              rw [Int64.le_iff_toInt_le] at h5
              have : (36864 : Int32).toInt = 36864 := by decide
              omega
            rw [if_pos h5, if_pos rfl, if_pos n6]
            exact ⟨tr_m2, rfl, hb⟩
          · have n6 : ¬ (36864 : Int32) ≤ (Int64.toInt32 z1) := by
              rw [Int32.le_iff_toInt_le, e]
              rw [Int64.le_iff_toInt_le] at h5
              have : (36864 : Int32).toInt = 36864 := by decide
              omega
            rw [if_neg h5, if_neg (show ¬ (1 : Int32) = (0 : Int32) by decide), if_neg n6]
            by_cases h6 : z4 = (0 : Int32)
            · rw [if_pos h6, if_pos h6]
              exact ⟨rfl, rfl, hb⟩
            · rw [if_neg h6, if_neg h6]
              exact ⟨tr_m2, rfl, hb⟩
