/-! Ranges kept by the class's methods. -/
theorem rg_nn {i : Int32} (h : ¬ i < 0) : 0 ≤ i.toInt := by
  rw [Int32.lt_iff_toInt_lt, Int32.toInt_zero] at h
  omega
theorem rg_word {z : Int32} (h : ¬ (if z < (0 : Int32) then (0 : Int32) else (if (4096 : Int32) ≤ z then (0 : Int32) else (if (z &&& (7 : Int32)) = (0 : Int32) then (1 : Int32) else (0 : Int32)))) = (0 : Int32)) : vp_in (z >>> ((3 : Int32) &&& (31 : Int32))) 512 := by
  split at h
  · exact absurd rfl h
  · rename_i h1
    split at h
    · exact absurd rfl h
    · rename_i h2
      have h3 := rg_lt h2
      have e : (4096 : Int32).toInt = 4096 := by decide
      exact rg_sh3 (rg_nn h1) (by omega)
theorem rg_v40 {z : Int32} (h1 : ¬ z < (40 : Int32)) (h2 : ¬ (45 : Int32) < z) : vp_in (z - (40 : Int32)) 6 := by
  rw [Int32.lt_iff_toInt_lt] at h1 h2
  have e1 : (40 : Int32).toInt = 40 := by decide
  have e2 : (45 : Int32).toInt = 45 := by decide
  have e : (z - (40 : Int32)).toInt = z.toInt - 40 := by
    rw [Jvm.Kit.i32_sub (by rw [e1]; omega) (by rw [e1]; omega), e1]
  exact qa_inI (by omega) (by omega)
theorem rgf_add01 (z1 z2 iCnt : Int32) (iL iN : Nat → Int32) : (f_X1_add z1 z2 iCnt iL iN).1 = 0 ∨ (f_X1_add z1 z2 iCnt iL iN).1 = 1 := by
  unfold f_X1_add
  split
  · exact Or.inr rfl
  · exact Or.inl rfl
def okM (mOld mCnt : Int32) : Prop := (0 ≤ mCnt.toInt ∧ mCnt.toInt ≤ 4) ∧ 0 ≤ mOld.toInt ∧ mOld.toInt < 4
theorem rgf_keepM {z1 : Int32} {z2 : Int64} {mOld mCnt mSpc : Int32} {mP mS : Nat → Int32} {mD : Nat → Int64} (h : okM mOld mCnt) : okM (f_X2_keep z1 z2 mOld mCnt mSpc mP mS mD).1 (f_X2_keep z1 z2 mOld mCnt mSpc mP mS mD).2.1 := by
  obtain ⟨h1, h2⟩ := h
  unfold f_X2_keep
  split
  · refine ⟨h1, ?_⟩
    have h3 : mOld.toInt = 0 ∨ mOld.toInt = 1 ∨ mOld.toInt = 2 ∨ mOld.toInt = 3 := by omega
    rcases h3 with h3 | h3 | h3 | h3
    · have e : mOld = 0 := Int32.toInt_inj.mp (by rw [h3]; decide)
      subst e
      dsimp only
      decide
    · have e : mOld = 1 := Int32.toInt_inj.mp (by rw [h3]; decide)
      subst e
      dsimp only
      decide
    · have e : mOld = 2 := Int32.toInt_inj.mp (by rw [h3]; decide)
      subst e
      dsimp only
      decide
    · have e : mOld = 3 := Int32.toInt_inj.mp (by rw [h3]; decide)
      subst e
      dsimp only
      decide
  · rename_i hc
    have h3 := rg_s hc
    have h4 := rg_lt hc
    have e : (4 : Int32).toInt = 4 := by decide
    exact ⟨⟨by show 0 ≤ (mCnt + 1).toInt; omega, by show (mCnt + 1).toInt ≤ 4; omega⟩, h2⟩
theorem rgf_walkM {z1 : Int32} {mOld mCnt mTab mSpc : Int32} {mW : Nat → Int64} {mP mS : Nat → Int32} {mD : Nat → Int64} (h : okM mOld mCnt) : okM (f_X2_walk z1 mOld mCnt mTab mSpc mW mP mS mD).2.1 (f_X2_walk z1 mOld mCnt mTab mSpc mW mP mS mD).2.2.1 := by
  unfold f_X2_walk
  split
  · exact h
  · split
    · exact h
    · split
      · exact h
      · exact rgf_keepM h
theorem rg_pv (d : Int64) (z3 z4 x : Int32) (y : Int32) : (if f_X2_faultIn d z3 z4 < (0 : Int32) then (((256 : Int32) * (y &&& (15 : Int32))) + (x &&& (255 : Int32))) else ((-1 : Int32) - f_X2_faultIn d z3 z4)).toInt < 4096 := by
  split
  · have ha := rg_and15 y
    have hb := rg_and255 x
    have e32 : (256 : Int32).toInt = 256 := by decide
    have em := rg_mul (x := (256 : Int32)) (y := y &&& (15 : Int32)) (by rw [e32]; omega) (by rw [e32]; omega)
    rw [e32] at em
    have e := rg_add (x := (256 : Int32) * (y &&& (15 : Int32))) (y := x &&& (255 : Int32)) (by omega) (by omega)
    omega
  · rename_i h
    have h0 := rg_nn h
    have h1 := rg_bd (f_X2_faultIn d z3 z4)
    have e1 : (-1 : Int32).toInt = -1 := by decide
    rw [Jvm.Kit.i32_sub (by rw [e1]; omega) (by rw [e1]; omega), e1]
    omega
theorem rg_pd (z1 : Int64) (z4 : Int32) : (if (if z1 < (32768 : Int64) then (0 : Int32) else (if (36864 : Int64) ≤ z1 then (0 : Int32) else (1 : Int32))) = (0 : Int32) then ((-1 : Int32) - (1 : Int32)) else (if z4 = (0 : Int32) then ((Int64.toInt32 z1) - (32768 : Int32)) else ((-1 : Int32) - (1 : Int32)))).toInt < 4096 := by
  by_cases h1 : z1 < (32768 : Int64)
  · rw [if_pos h1, if_pos rfl]
    decide
  · rw [if_neg h1]
    by_cases h2 : (36864 : Int64) ≤ z1
    · rw [if_pos h2, if_pos rfl]
      decide
    · rw [if_neg h2, if_neg (by decide)]
      by_cases h3 : z4 = (0 : Int32)
      · rw [if_pos h3]
        rw [Int64.lt_iff_toInt_lt] at h1
        rw [Int64.le_iff_toInt_le] at h2
        have e1 : (32768 : Int64).toInt = 32768 := by decide
        have e2 : (36864 : Int64).toInt = 36864 := by decide
        have e3 : (32768 : Int32).toInt = 32768 := by decide
        have e : (Int64.toInt32 z1).toInt = z1.toInt := Jvm.Kit.i32_of_i64 (by omega) (by omega)
        rw [Jvm.Kit.i32_sub (by rw [e3, e]; omega) (by rw [e3, e]; omega), e3, e]
        omega
      · rw [if_neg h3]
        decide
theorem rgf_place {z1 : Int64} {z3 z4 mOld mCnt mTab mSpc : Int32} {mW : Nat → Int64} {mP mS : Nat → Int32} {mD : Nat → Int64} : (f_X2_place z1 z3 z4 mOld mCnt mTab mSpc mW mP mS mD).1.toInt < 4096 := by
  unfold f_X2_place
  refine iteInduction (motive := fun u : Int32 × Int32 × Int32 × (Nat → Int32) × (Nat → Int32) × (Nat → Int64) => u.1.toInt < 4096) (fun h => rg_pd z1 z4) (fun h => ?_)
  refine iteInduction (motive := fun u : Int32 × Int32 × Int32 × (Nat → Int32) × (Nat → Int32) × (Nat → Int64) => u.1.toInt < 4096) (fun h => ?_) (fun h => rg_pd z1 z4)
  refine iteInduction (motive := fun u : Int32 × Int32 × Int32 × (Nat → Int32) × (Nat → Int32) × (Nat → Int64) => u.1.toInt < 4096) (fun h => ?_) (fun h => rg_pv _ _ _ _ _)
  exact rg_pv _ _ _ _ _
theorem rgf_placeM {z1 : Int64} {z3 z4 mOld mCnt mTab mSpc : Int32} {mW : Nat → Int64} {mP mS : Nat → Int32} {mD : Nat → Int64} (h : okM mOld mCnt) : okM (f_X2_place z1 z3 z4 mOld mCnt mTab mSpc mW mP mS mD).2.1 (f_X2_place z1 z3 z4 mOld mCnt mTab mSpc mW mP mS mD).2.2.1 := by
  unfold f_X2_place
  refine iteInduction (motive := fun u : Int32 × Int32 × Int32 × (Nat → Int32) × (Nat → Int32) × (Nat → Int64) => okM u.2.1 u.2.2.1) (fun _ => h) (fun _ => ?_)
  refine iteInduction (motive := fun u : Int32 × Int32 × Int32 × (Nat → Int32) × (Nat → Int32) × (Nat → Int64) => okM u.2.1 u.2.2.1) (fun _ => ?_) (fun _ => h)
  refine iteInduction (motive := fun u : Int32 × Int32 × Int32 × (Nat → Int32) × (Nat → Int32) × (Nat → Int64) => okM u.2.1 u.2.2.1) (fun _ => ?_) (fun _ => h)
  exact rgf_walkM h
theorem rg_and31r (x : Int32) : 0 ≤ (x &&& (31 : Int32)).toInt ∧ (x &&& (31 : Int32)).toInt < 32 := by
  have h : (x &&& (31 : Int32)).toInt = x.toInt % 32 := Jvm.Kit.i32_mask x 31 (k := 5) (by decide) (by decide)
  omega
