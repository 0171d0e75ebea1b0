/-! The walk of the tables, alike. -/
def pw (u : Int64 × Int32 × Int32 × (Nat → Int32) × (Nat → Int32) × (Nat → Int64)) (v : Int64 × Int32 × (Nat → Int32) × (Nat → Int32) × (Nat → Int64)) : Prop := v.1 = u.1 ∧ v.2.1 = u.2.2.1 ∧ RB u.2.1 u.2.2.1 u.2.2.2.1 u.2.2.2.2.1 u.2.2.2.2.2 v.2.2.1 v.2.2.2.1 v.2.2.2.2
theorem tr_walk {z mOld mCnt mTab mSpc : Int32} {mW : Nat → Int64} {yMem mP mS : Nat → Int32} {mD : Nat → Int64} {yBP yBS : Nat → Int32} {yBW : Nat → Int64} (hm : RM mW yMem) (hM : okM mOld mCnt) (hT : okT mTab) (h8 : okA mTab) (hb : RB mOld mCnt mP mS mD yBP yBS yBW) (hn : ∀ i : Nat, (i : Int) < mCnt.toInt → ¬ (mP i = z ∧ mS i = mSpc)) :
    pw (f_X2_walk z mOld mCnt mTab mSpc mW mP mS mD) (f_Y_walk z mTab mSpc mCnt yMem yBP yBS yBW) := by
  obtain ⟨a1, a2, a3, a4⟩ := tr_w1 hT.1 hT.2 h8 (z >>> ((4 : Int32) &&& (31 : Int32)))
  have d1 := me_b8 hm a1 a2 a3
  rw [a4] at d1
  unfold f_Y_walk f_X2_walk f_X2_walk_K95_1
  rw [f_Y_walk_B7_s, if_neg (show ¬ (2 : Int32) ≤ (0 : Int32) by decide), show ((4 : Int32) - ((2 : Int32) * (0 : Int32))) = (4 : Int32) by decide, d1]
  generalize mW (Int32.toNatClampNeg ((mTab >>> ((3 : Int32) &&& (31 : Int32))) + ((z >>> ((4 : Int32) &&& (31 : Int32))) &&& (3 : Int32)))) = w1
  by_cases v1 : (w1 &&& (1 : Int64)) = (0 : Int64)
  · rw [if_pos v1, if_pos v1]
    exact ⟨rfl, rfl, hb⟩
  · rw [if_neg v1, if_neg v1, tr_num]
    obtain ⟨b1, b2, b3, b4⟩ := tr_w2 (Int64.toInt32 (jlushr w1 (32 : Int32))) (z >>> ((2 : Int32) &&& (31 : Int32)))
    have d2 := me_b8 hm b1 b2 b3
    rw [b4] at d2
    rw [f_Y_walk_B7_s, if_neg (show ¬ (2 : Int32) ≤ ((0 : Int32) + (1 : Int32)) by decide), show ((4 : Int32) - ((2 : Int32) * ((0 : Int32) + (1 : Int32)))) = (2 : Int32) by decide, d2]
    generalize mW (Int32.toNatClampNeg (((32 : Int32) * ((Int64.toInt32 (jlushr w1 (32 : Int32))) &&& (15 : Int32))) + ((z >>> ((2 : Int32) &&& (31 : Int32))) &&& (3 : Int32)))) = w2
    by_cases v2 : (w2 &&& (1 : Int64)) = (0 : Int64)
    · rw [if_pos v2, if_pos v2]
      exact ⟨rfl, rfl, hb⟩
    · rw [if_neg v2, if_neg v2, tr_num]
      obtain ⟨c1, c2, c3, c4⟩ := tr_w2 (Int64.toInt32 (jlushr w2 (32 : Int32))) z
      have d3 := me_b8 hm c1 c2 c3
      rw [c4] at d3
      rw [f_Y_walk_B7_s, if_pos (show (2 : Int32) ≤ ((0 : Int32) + (1 : Int32) + (1 : Int32)) by decide), d3]
      by_cases v3 : (mW (Int32.toNatClampNeg (((32 : Int32) * ((Int64.toInt32 (jlushr w2 (32 : Int32))) &&& (15 : Int32))) + (z &&& (3 : Int32)))) &&& (1 : Int64)) = (0 : Int64)
      · rw [if_pos v3, if_pos v3]
        exact ⟨rfl, rfl, hb⟩
      · rw [if_neg v3, if_neg v3]
        have hk := bu_keep (z := z) (d := mW (Int32.toNatClampNeg (((32 : Int32) * ((Int64.toInt32 (jlushr w2 (32 : Int32))) &&& (15 : Int32))) + (z &&& (3 : Int32))))) hM hb hn
        exact ⟨rfl, hk.1, hk.2⟩
