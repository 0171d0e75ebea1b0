/-! The frame written and read, alike. -/
theorem mv_w {base : Int64} {mTab mSpc : Int32} {xF : Nat → Int64} (hT : okT mTab) (h8 : okA mTab) (z1 : Int32) (z2 z4 z6 yPc : Int64) (yLoc : Int32) (yKgp : Int64) (yHal yEnt : Int32) (yV : Nat → Int64) (yUsp : Int64) (yR : Nat → Int64) (hB : base = (yR 30) - (48 : Int64)) (hA : base.toInt % 8 = 0) :
    ∀ (n j : Nat) (mOld mCnt : Int32) (mW : Nat → Int64) (mP mS : Nat → Int32) (mD : Nat → Int64) (yMem yBP yBS : Nat → Int32) (yBW : Nat → Int64), n + j = 7 → 1 ≤ n → okM mOld mCnt → RM mW yMem → RB mOld mCnt mP mS mD yBP yBS yBW →
    ∃ (cy : Int32) (my py sy : Nat → Int32) (wy : Nat → Int64), ∃ (a o : Int32) (mw : Nat → Int64) (p s : Nat → Int32) (d : Nat → Int64), f_X4_moveFrame_B15 base (1 : Int32) (0 : Int32) mTab mSpc n (nI j) xF mOld mCnt mW mP mS mD = (a, xF, o, cy, mw, p, s, d) ∧ f_Y_entry_B139 z1 z2 z4 z6 yPc yLoc yKgp mTab mSpc yHal yEnt yV yUsp yR xF n (1 : Int32) (nI j) mCnt yMem yBP yBS yBW = (if a = (0 : Int32) then (yPc, (0 : Int32), yLoc, yUsp, (2 : Int32), yEnt, cy, my, yR, py, sy, wy, xF) else ((yV (Int32.toNatClampNeg z1)), (0 : Int32), (0 : Int32), yUsp, yHal, (yEnt + (1 : Int32)), cy, my, (vp_updL (vp_updL (vp_updL (vp_updL (vp_updL yR 30 ((yR 30) - (48 : Int64))) 16 z2) 17 z4) 18 z6) 29 yKgp), py, sy, wy, xF)) ∧ okM o cy ∧ RM mw my ∧ RB o cy p s d py sy wy := by
  subst hB
  intro n
  induction n with
  | zero => intro j mOld mCnt mW mP mS mD yMem yBP yBS yBW _ h1; omega
  | succ n ih =>
    intro j mOld mCnt mW mP mS mD yMem yBP yBS yBW hn h1 hM hm hb
    rw [f_X4_moveFrame_B15_s, f_Y_entry_B139_s]
    by_cases hj : 6 ≤ j
    · have c6 : (6 : Int32) ≤ nI j := nI_le (a := 6) hj (by omega)
      rw [if_pos c6, if_pos c6, if_neg (show ¬ (1 : Int32) = (0 : Int32) by decide)]
      refine ⟨mCnt, yMem, yBP, yBS, yBW, (1 : Int32), mOld, mW, mP, mS, mD, rfl, ?_, hM, hm, hb⟩
      rw [if_neg (show ¬ (1 : Int32) = (0 : Int32) by decide)]
    · have c6 : ¬ (6 : Int32) ≤ nI j := nI_ge (b := 6) (by omega) (by decide)
      rw [if_neg c6, if_neg c6, if_neg (show ¬ (1 : Int32) = (0 : Int32) by decide)]
      have ht := tr_place (z1 := yR 30 - (48 : Int64) + Int32.toInt64 ((8 : Int32) * nI j)) (z3 := (1 : Int32)) (z4 := (0 : Int32)) (mSpc := mSpc) hm hM hT h8 hb (Or.inl rfl)
      have hM2 := rgf_placeM (z1 := yR 30 - (48 : Int64) + Int32.toInt64 ((8 : Int32) * nI j)) (z3 := (1 : Int32)) (z4 := (0 : Int32)) (mTab := mTab) (mSpc := mSpc) (mW := mW) (mP := mP) (mS := mS) (mD := mD) hM
      have hp := fun h => pl_8 (z1 := yR 30 - (48 : Int64) + Int32.toInt64 ((8 : Int32) * nI j)) (z3 := (1 : Int32)) (z4 := (0 : Int32)) (mOld := mOld) (mCnt := mCnt) (mTab := mTab) (mSpc := mSpc) (mW := mW) (mP := mP) (mS := mS) (mD := mD) h (al_k hA (by omega))
      generalize f_X2_place (yR 30 - (48 : Int64) + Int32.toInt64 ((8 : Int32) * nI j)) (1 : Int32) (0 : Int32) mOld mCnt mTab mSpc mW mP mS mD = r at ht hM2 hp ⊢
      generalize f_Y_translate (yR 30 - (48 : Int64) + Int32.toInt64 ((8 : Int32) * nI j)) (1 : Int32) (0 : Int32) mTab mSpc mCnt yMem yBP yBS yBW = s at ht ⊢
      obtain ⟨r1, r2, r3, r4, r5, r6⟩ := r
      obtain ⟨s1, s2, s3, s4, s5⟩ := s
      obtain ⟨t1, t2, t3⟩ := ht
      simp only at t1 t2 t3 hM2 hp
      subst t1
      subst t2
      dsimp only
      by_cases h0 : (0 : Int32) ≤ s1
      · have n0 : ¬ s1 < (0 : Int32) := Int32.not_lt.mpr h0
        obtain ⟨q0, q1, q2⟩ := hp h0
        have hst : RM (vp_updL mW (Int32.toNatClampNeg (s1 >>> ((3 : Int32) &&& (31 : Int32)))) (xst (mW (Int32.toNatClampNeg (s1 >>> ((3 : Int32) &&& (31 : Int32))))) s1 (1 : Int32) (xF (Int32.toNatClampNeg (nI j))))) (f_Y_store s1 (8 : Int32) (xF (Int32.toNatClampNeg (nI j))) yMem) := by
          rw [mg_1 _ _ (show ¬ (1 : Int32) = (0 : Int32) by decide), mg_sh3 q0]
          exact mf_s8 hm q0 q1 q2 _
        unfold xst at hst
        rw [if_pos h0, if_pos rfl, if_neg n0, show nI j + (1 : Int32) = nI (j + 1) from nI_1 j]
        simp only [oa_10, if_false] at hst ⊢
        exact ih (j + 1) _ _ _ _ _ _ _ _ _ _ (by omega) (by omega) hM2 hst t3
      · have n0 : s1 < (0 : Int32) := Int32.not_le.mp h0
        rw [if_neg h0, if_pos n0, if_pos rfl]
        obtain ⟨m, rfl⟩ := (show ∃ m, n = m + 1 from ⟨n - 1, by omega⟩)
        refine ⟨s2, yMem, s3, s4, s5, (0 : Int32), r2, mW, r4, r5, r6, rfl, ?_, hM2, hm, t3⟩
        rw [if_pos rfl, f_Y_entry_B139_s]
        by_cases hk : (6 : Int32) ≤ nI j + (1 : Int32)
        · rw [if_pos hk, if_pos rfl]
        · rw [if_neg hk, if_pos rfl]
theorem mv_r {mTab mSpc yMod : Int32} (hT : okT mTab) (h8 : okA mTab) (hD : okD yMod) (yPc : Int64) (yLev yLoc : Int32) (yKsp yUsp : Int64) (yHal : Int32) (mW : Nat → Int64) (yMem : Nat → Int32) (yR : Nat → Int64) (hA : (yR 30).toInt % 8 = 0) (hm : RM mW yMem) :
    ∀ (n j : Nat) (xF : Nat → Int64) (mOld mCnt : Int32) (mP mS : Nat → Int32) (mD : Nat → Int64) (yBP yBS : Nat → Int32) (yBW : Nat → Int64), n + j = 7 → 1 ≤ n → okM mOld mCnt → RB mOld mCnt mP mS mD yBP yBS yBW →
    ∃ (cy : Int32) (py sy : Nat → Int32) (wy f : Nat → Int64), ∃ (a o : Int32) (p s : Nat → Int32) (d : Nat → Int64), f_X4_moveFrame_B15 (yR 30) (0 : Int32) yMod mTab mSpc n (nI j) xF mOld mCnt mW mP mS mD = (a, f, o, cy, mW, p, s, d) ∧ f_Y_back_B24 yPc yMod yLev yLoc yKsp yUsp mTab mSpc yHal yMem yR n (1 : Int32) (nI j) mCnt yBP yBS yBW xF = (if a = (0 : Int32) then (yPc, yMod, yLev, yLoc, yKsp, (3 : Int32), cy, yR, py, sy, wy, f) else (f_Y_back_B155 yLoc yKsp yUsp yHal cy py sy wy f 4 (0 : Int32) (vp_updL yR 29 (f 2)))) ∧ okM o cy ∧ RB o cy p s d py sy wy := by
  intro n
  induction n with
  | zero => intro j xF mOld mCnt mP mS mD yBP yBS yBW _ h1; omega
  | succ n ih =>
    intro j xF mOld mCnt mP mS mD yBP yBS yBW hn h1 hM hb
    rw [f_X4_moveFrame_B15_s, f_Y_back_B24_s]
    by_cases hj : 6 ≤ j
    · have c6 : (6 : Int32) ≤ nI j := nI_le (a := 6) hj (by omega)
      rw [if_pos c6, if_pos c6, if_neg (show ¬ (1 : Int32) = (0 : Int32) by decide)]
      refine ⟨mCnt, yBP, yBS, yBW, xF, (1 : Int32), mOld, mP, mS, mD, rfl, ?_, hM, hb⟩
      rw [if_neg (show ¬ (1 : Int32) = (0 : Int32) by decide)]
    · have c6 : ¬ (6 : Int32) ≤ nI j := nI_ge (b := 6) (by omega) (by decide)
      rw [if_neg c6, if_neg c6, if_neg (show ¬ (1 : Int32) = (0 : Int32) by decide)]
      have ht := tr_place (z1 := yR 30 + Int32.toInt64 ((8 : Int32) * nI j)) (z3 := (0 : Int32)) (z4 := yMod) (mSpc := mSpc) hm hM hT h8 hb hD
      have hM2 := rgf_placeM (z1 := yR 30 + Int32.toInt64 ((8 : Int32) * nI j)) (z3 := (0 : Int32)) (z4 := yMod) (mTab := mTab) (mSpc := mSpc) (mW := mW) (mP := mP) (mS := mS) (mD := mD) hM
      have hp := fun h => pl_8 (z1 := yR 30 + Int32.toInt64 ((8 : Int32) * nI j)) (z3 := (0 : Int32)) (z4 := yMod) (mOld := mOld) (mCnt := mCnt) (mTab := mTab) (mSpc := mSpc) (mW := mW) (mP := mP) (mS := mS) (mD := mD) h (al_k hA (by omega))
      generalize f_X2_place (yR 30 + Int32.toInt64 ((8 : Int32) * nI j)) (0 : Int32) yMod mOld mCnt mTab mSpc mW mP mS mD = r at ht hM2 hp ⊢
      generalize f_Y_translate (yR 30 + Int32.toInt64 ((8 : Int32) * nI j)) (0 : Int32) yMod mTab mSpc mCnt yMem yBP yBS yBW = s at ht ⊢
      obtain ⟨r1, r2, r3, r4, r5, r6⟩ := r
      obtain ⟨s1, s2, s3, s4, s5⟩ := s
      obtain ⟨t1, t2, t3⟩ := ht
      simp only at t1 t2 t3 hM2 hp
      subst t1
      subst t2
      dsimp only
      by_cases h0 : (0 : Int32) ≤ s1
      · have n0 : ¬ s1 < (0 : Int32) := Int32.not_lt.mpr h0
        obtain ⟨q0, q1, q2⟩ := hp h0
        rw [if_pos h0, if_neg (show ¬ (0 : Int32) = (1 : Int32) by decide), if_neg n0, if_neg (show ¬ (1 : Int32) = (0 : Int32) by decide), if_neg (show ¬ (1 : Int32) = (0 : Int32) by decide), mg_sh3 q0, me_b8 hm q0 q1 q2, show nI j + (1 : Int32) = nI (j + 1) from nI_1 j]
        exact ih (j + 1) _ _ _ _ _ _ _ _ _ (by omega) (by omega) hM2 t3
      · have n0 : s1 < (0 : Int32) := Int32.not_le.mp h0
        rw [if_neg h0, if_pos n0, if_pos rfl]
        obtain ⟨m, rfl⟩ := (show ∃ m, n = m + 1 from ⟨n - 1, by omega⟩)
        refine ⟨s2, s3, s4, s5, xF, (0 : Int32), r2, r4, r5, r6, rfl, ?_, hM2, t3⟩
        rw [if_pos rfl, f_Y_back_B24_s]
        by_cases hk : (6 : Int32) ≤ nI j + (1 : Int32)
        · rw [if_pos hk, if_pos rfl]
        · rw [if_neg hk, if_pos rfl]
