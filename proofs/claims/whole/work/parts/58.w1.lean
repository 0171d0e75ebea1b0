/-! A step, alike. -/
theorem ta_sim {yLev yPen : Int32} {yPL yPN : Nat → Int32} (hI : okI yPen) : (f_X1_takeAbove yLev yPen yPL yPN) = (if (f_Y_due yLev yPen yPL) < (0 : Int32) then ((-1 : Int32), yPen, yPL, yPN) else ((((256 : Int32) * (yPL (Int32.toNatClampNeg (f_Y_due yLev yPen yPL)))) + (yPN (Int32.toNatClampNeg (f_Y_due yLev yPen yPL)))), (f_X1_remove (f_Y_due yLev yPen yPL) yPen yPL yPN).1, (f_X1_remove (f_Y_due yLev yPen yPL) yPen yPL yPN).2.1, (f_X1_remove (f_Y_due yLev yPen yPL) yPen yPL yPN).2.2)) := by
  obtain ⟨h0, h4⟩ := hI
  have hc : yPen = nI yPen.toNatClampNeg := (bu_self h0).symm
  have hn : yPen.toNatClampNeg ≤ 4 := by
    show yPen.toInt.toNat ≤ 4
    omega
  exact iq_take yPen yLev yPL yPN hc hn 5 0 (-1) yLev (by omega) (by omega) (Or.inl ⟨rfl, rfl⟩)
theorem ta_q {yLev yPen : Int32} {yPL yPN : Nat → Int32} (hI : okI yPen) (hQ : okQ yPL yPN) : okQ (f_X1_takeAbove yLev yPen yPL yPN).2.2.1 (f_X1_takeAbove yLev yPen yPL yPN).2.2.2 := by
  rw [ta_sim hI]
  by_cases h : (f_Y_due yLev yPen yPL) < (0 : Int32)
  · rw [if_pos h]
    exact hQ
  · rw [if_neg h]
    exact iq_rem _ _ _ _ _ hQ
theorem st_q {yPc yKsp yUsp yKgp yVal : Int64} {yMod yLev yLoc yHal yEnt yPen : Int32} {yR yV ySix : (Nat → Int64)} {yPL yPN : (Nat → Int32)} {oRes : Int64} {oKno oGiv oTrp : Int32} {aA aB aC aPc : Int64} {yHer : Int64} {yWrd yHas yTrp yNon : Int32} {mOld mCnt mTab mSpc : Int32} {mW : (Nat → Int64)} {mP mS : (Nat → Int32)} {mD : (Nat → Int64)} {yMem yBP yBS : (Nat → Int32)} {yBW : (Nat → Int64)} (hI : okI yPen) (hQ : okQ yPL yPN) : okQ (f_X4_step yPc yKsp yUsp yKgp yVal yMod yLev yHal yEnt yLoc yR yV ySix mOld mCnt mTab mSpc mW mP mS mD yPen yPL yPN oRes oKno oGiv oTrp aA aB aC aPc).2.2.2.2.2.2.2.2.2.2.2.2.2.2.2.2.2.2.2.2.2.2.1 (f_X4_step yPc yKsp yUsp yKgp yVal yMod yLev yHal yEnt yLoc yR yV ySix mOld mCnt mTab mSpc mW mP mS mD yPen yPL yPN oRes oKno oGiv oTrp aA aB aC aPc).2.2.2.2.2.2.2.2.2.2.2.2.2.2.2.2.2.2.2.2.2.2.2.1 := by
  have hr := ta_q (yLev := yLev) hI hQ
  unfold f_X4_step
  generalize (f_X1_takeAbove yLev yPen yPL yPN) = r at hr ⊢
  unfold f_X4_step_K15_1
  refine iteInduction (motive := fun u : Int64 × Int64 × Int64 × Int64 × Int64 × Int32 × Int32 × Int32 × Int32 × Int32 × (Nat → Int64) × (Nat → Int64) × (Nat → Int64) × Int32 × Int32 × Int32 × Int32 × (Nat → Int64) × (Nat → Int32) × (Nat → Int32) × (Nat → Int64) × Int32 × (Nat → Int32) × (Nat → Int32) × Int64 × Int32 × Int32 × Int32 × Int32 × Int64 × Int64 × Int64 × Int64 => okQ u.2.2.2.2.2.2.2.2.2.2.2.2.2.2.2.2.2.2.2.2.2.2.1 u.2.2.2.2.2.2.2.2.2.2.2.2.2.2.2.2.2.2.2.2.2.2.2.1) (fun _ => ?_) (fun _ => ?_)
  · unfold f_X4_step_K40_2
    refine iteInduction (motive := fun u : Int64 × Int64 × Int64 × Int64 × Int64 × Int32 × Int32 × Int32 × Int32 × Int32 × (Nat → Int64) × (Nat → Int64) × (Nat → Int64) × Int32 × Int32 × Int32 × Int32 × (Nat → Int64) × (Nat → Int32) × (Nat → Int32) × (Nat → Int64) × Int32 × (Nat → Int32) × (Nat → Int32) × Int64 × Int32 × Int32 × Int32 × Int32 × Int64 × Int64 × Int64 × Int64 => okQ u.2.2.2.2.2.2.2.2.2.2.2.2.2.2.2.2.2.2.2.2.2.2.1 u.2.2.2.2.2.2.2.2.2.2.2.2.2.2.2.2.2.2.2.2.2.2.2.1) (fun _ => ?_) (fun _ => hr)
    unfold f_X4_step_K125_3
    refine iteInduction (motive := fun u : Int64 × Int64 × Int64 × Int64 × Int64 × Int32 × Int32 × Int32 × Int32 × Int32 × (Nat → Int64) × (Nat → Int64) × (Nat → Int64) × Int32 × Int32 × Int32 × Int32 × (Nat → Int64) × (Nat → Int32) × (Nat → Int32) × (Nat → Int64) × Int32 × (Nat → Int32) × (Nat → Int32) × Int64 × Int32 × Int32 × Int32 × Int32 × Int64 × Int64 × Int64 × Int64 => okQ u.2.2.2.2.2.2.2.2.2.2.2.2.2.2.2.2.2.2.2.2.2.2.1 u.2.2.2.2.2.2.2.2.2.2.2.2.2.2.2.2.2.2.2.2.2.2.2.1) (fun _ => ?_) (fun _ => hr)
    exact iteInduction (motive := fun u : Int64 × Int64 × Int64 × Int64 × Int64 × Int32 × Int32 × Int32 × Int32 × Int32 × (Nat → Int64) × (Nat → Int64) × (Nat → Int64) × Int32 × Int32 × Int32 × Int32 × (Nat → Int64) × (Nat → Int32) × (Nat → Int32) × (Nat → Int64) × Int32 × (Nat → Int32) × (Nat → Int32) × Int64 × Int32 × Int32 × Int32 × Int32 × Int64 × Int64 × Int64 × Int64 => okQ u.2.2.2.2.2.2.2.2.2.2.2.2.2.2.2.2.2.2.2.2.2.2.1 u.2.2.2.2.2.2.2.2.2.2.2.2.2.2.2.2.2.2.2.2.2.2.2.1) (fun _ => hr) (fun _ => hr)
  · unfold f_X4_step_K139_7
    exact iteInduction (motive := fun u : Int64 × Int64 × Int64 × Int64 × Int64 × Int32 × Int32 × Int32 × Int32 × Int32 × (Nat → Int64) × (Nat → Int64) × (Nat → Int64) × Int32 × Int32 × Int32 × Int32 × (Nat → Int64) × (Nat → Int32) × (Nat → Int32) × (Nat → Int64) × Int32 × (Nat → Int32) × (Nat → Int32) × Int64 × Int32 × Int32 × Int32 × Int32 × Int64 × Int64 × Int64 × Int64 => okQ u.2.2.2.2.2.2.2.2.2.2.2.2.2.2.2.2.2.2.2.2.2.2.1 u.2.2.2.2.2.2.2.2.2.2.2.2.2.2.2.2.2.2.2.2.2.2.2.1) (fun _ => hr) (fun _ => hr)
theorem in_B {yPc yKsp yUsp yKgp : Int64} {yMod yLev yLoc yHal yEnt yPen : Int32} {yR yV ySix : (Nat → Int64)} {yPL yPN : (Nat → Int32)}    {mCnt mTab mSpc : Int32} {yMem yBP yBS : (Nat → Int32)} {yBW : (Nat → Int64)} (z1 : Int32) {cc : Nat} (hc : yPen - (1 : Int32) = nI cc) (hcc : cc ≤ 4) : ∀ (n j : Nat) (l m : Nat → Int32), cc - j < n → j < 2147483648 → f_Y_interrupted_B27 z1 yPc yMod yLev yLoc yKsp yUsp yKgp mTab mSpc yHal yEnt yPen mCnt yMem yR yV yPL yPN yBP yBS yBW ySix n (nI j) l m = f_Y_interrupted_B27 z1 yPc yMod yLev yLoc yKsp yUsp yKgp mTab mSpc yHal yEnt yPen mCnt yMem yR yV yPL yPN yBP yBS yBW ySix 1 (yPen - (1 : Int32)) (f_X1_remove_B12 yPen n (nI j) l m).2.1 (f_X1_remove_B12 yPen n (nI j) l m).2.2 := by
  intro n
  induction n with
  | zero => intro j l m h; omega
  | succ n ih =>
    intro j l m h hj
    rw [f_X1_remove_B12_s]
    by_cases h1 : cc ≤ j
    · have h2 : (yPen - (1 : Int32)) ≤ nI j := by rw [hc]; exact nI_le h1 (by omega)
      rw [if_pos h2, f_Y_interrupted_B27_s, if_pos h2, f_Y_interrupted_B27_s, if_pos (Int32.le_refl _)]
    · have h2 : ¬ (yPen - (1 : Int32)) ≤ nI j := by rw [hc]; exact nI_ge (by omega) (by omega)
      rw [if_neg h2, f_Y_interrupted_B27_s, if_neg h2, show nI j + (1 : Int32) = nI (j + 1) from nI_1 j]
      exact ih (j + 1) _ _ (by omega) (by omega)
theorem st_pos {yLev yPen : Int32} {yPL : Nat → Int32} (h0 : 0 ≤ yPen.toInt) (hd : ¬ (f_Y_due yLev yPen yPL) < (0 : Int32)) : 1 ≤ yPen.toInt := by
  by_cases h : yPen.toInt = 0
  · exfalso
    apply hd
    have e : yPen = 0 := Int32.toInt_inj.mp (by rw [h]; decide)
    subst e
    unfold f_Y_due
    rw [f_Y_due_B4_s, if_pos (Int32.le_refl _)]
    decide
  · omega
theorem in_sim {yPc yKsp yUsp yKgp : Int64} {yMod yLev yLoc yHal yEnt yPen : Int32} {yR yV ySix : (Nat → Int64)} {yPL yPN : (Nat → Int32)}    {mCnt mTab mSpc : Int32} {yMem yBP yBS : (Nat → Int32)} {yBW : (Nat → Int64)} (b : Int32) (hb0 : 0 ≤ b.toInt) (h1 : 1 ≤ yPen.toInt) (h4 : yPen.toInt ≤ 4) : (f_Y_interrupted b yPc yMod yLev yLoc yKsp yUsp yKgp mTab mSpc yHal yEnt yPen mCnt yMem yR yV yPL yPN yBP yBS yBW ySix) = f_Y_interrupted_B27 b yPc yMod yLev yLoc yKsp yUsp yKgp mTab mSpc yHal yEnt yPen mCnt yMem yR yV yPL yPN yBP yBS yBW ySix 1 (yPen - (1 : Int32)) (f_X1_remove b yPen yPL yPN).2.1 (f_X1_remove b yPen yPL yPN).2.2 := by
  have hb : nI (Int32.toNatClampNeg b) = b := bu_self hb0
  have hpm : (yPen - (1 : Int32)).toInt = yPen.toInt - 1 := rg_m1 (by omega)
  have hcc : yPen - (1 : Int32) = nI (yPen - (1 : Int32)).toNatClampNeg := (bu_self (by omega)).symm
  have hl : (yPen - (1 : Int32)).toNatClampNeg ≤ 4 := by
    show (yPen - (1 : Int32)).toInt.toNat ≤ 4
    omega
  have hlt := rg_bd b
  have hj : Int32.toNatClampNeg b < 2147483648 := by
    show b.toInt.toNat < 2147483648
    omega
  have h := in_B (yPc := yPc) (yMod := yMod) (yLev := yLev) (yLoc := yLoc) (yKsp := yKsp) (yUsp := yUsp) (yKgp := yKgp) (mTab := mTab) (mSpc := mSpc) (yHal := yHal) (yEnt := yEnt) (mCnt := mCnt) (yMem := yMem) (yR := yR) (yV := yV) (yPL := yPL) (yPN := yPN) (yBP := yBP) (yBS := yBS) (yBW := yBW) (ySix := ySix) b hcc hl 5 (Int32.toNatClampNeg b) yPL yPN (by omega) hj
  rw [hb] at h
  exact h
theorem st_sim {yPc yKsp yUsp yKgp yVal : Int64} {yMod yLev yLoc yHal yEnt yPen : Int32} {yR yV ySix : (Nat → Int64)} {yPL yPN : (Nat → Int32)} {oRes : Int64} {oKno oGiv oTrp : Int32} {aA aB aC aPc : Int64} {yHer : Int64} {yWrd yHas yTrp yNon : Int32} {mOld mCnt mTab mSpc : Int32} {mW : (Nat → Int64)} {mP mS : (Nat → Int32)} {mD : (Nat → Int64)} {yMem yBP yBS : (Nat → Int32)} {yBW : (Nat → Int64)} (hM : okM mOld mCnt) (hT : okT mTab) (h8 : okA mTab) (hm : RM mW yMem) (hb : RB mOld mCnt mP mS mD yBP yBS yBW) (hD : okD yMod) (hL : okD yLoc) (hP : okP yPc) (hI : okI yPen) (hQ : okQ yPL yPN) : rs (f_X4_step yPc yKsp yUsp yKgp yVal yMod yLev yHal yEnt yLoc yR yV ySix mOld mCnt mTab mSpc mW mP mS mD yPen yPL yPN oRes oKno oGiv oTrp aA aB aC aPc) (f_Y_step yPc yMod yLev yLoc yKsp yUsp yKgp yVal mTab mSpc yHal yEnt yPen mCnt yHer yWrd yHas yTrp yNon yMem yR yV yPL yPN yBP yBS yBW ySix) := by
  unfold f_X4_step f_Y_step
  rw [ta_sim hI]
  by_cases hd : (f_Y_due yLev yPen yPL) < (0 : Int32)
  · rw [if_pos hd, if_pos hd, show (f_X4_step_K15_1 yPc yKsp yUsp yKgp yVal yMod yLev yHal yEnt yLoc yR yV ySix mOld mCnt mTab mSpc mW mP mS mD oRes oKno oGiv oTrp aA aB aC aPc ((-1 : Int32), yPen, yPL, yPN)) = (f_X4_step_K40_2 yPc yKsp yUsp yKgp yVal yMod yLev yHal yEnt yLoc yR yV ySix mTab mSpc mW oRes oKno oGiv oTrp aA aB aC aPc ((-1 : Int32), yPen, yPL, yPN) (f_X2_place yPc (-1 : Int32) yMod mOld mCnt mTab mSpc mW mP mS mD)) from if_pos (show (-1 : Int32) < (0 : Int32) by decide)]
    have ht := tr_place (z1 := yPc) (z3 := (-1 : Int32)) (z4 := yMod) (mSpc := mSpc) hm hM hT h8 hb hD
    have hM2 := rgf_placeM (z1 := yPc) (z3 := (-1 : Int32)) (z4 := yMod) (mTab := mTab) (mSpc := mSpc) (mW := mW) (mP := mP) (mS := mS) (mD := mD) hM
    have hp4 := fun h => pl_4 (z1 := yPc) (z3 := (-1 : Int32)) (z4 := yMod) (mOld := mOld) (mCnt := mCnt) (mTab := mTab) (mSpc := mSpc) (mW := mW) (mP := mP) (mS := mS) (mD := mD) h hP
    generalize (f_X2_place yPc (-1 : Int32) yMod mOld mCnt mTab mSpc mW mP mS mD) = r at ht hM2 hp4 ⊢
    generalize (f_Y_translate yPc (-1 : Int32) yMod mTab mSpc mCnt yMem yBP yBS yBW) = s at ht ⊢
    obtain ⟨r1, r2, r3, r4, r5, r6⟩ := r
    obtain ⟨s1, s2, s3, s4, s5⟩ := s
    obtain ⟨t1, t2, t3⟩ := ht
    simp only at t1 t2 t3 hM2 hp4
    subst t1
    subst t2
    by_cases h0 : (0 : Int32) ≤ s1
    · obtain ⟨q0, q1, q2⟩ := hp4 h0
      have hw : (Int64.toInt32 (if (0 : Int32) = (0 : Int32) then (Int32.toInt64 (Int64.toInt32 (jlushr (mW (Int32.toNatClampNeg (s1 >>> ((3 : Int32) &&& (31 : Int32))))) ((8 : Int32) * (s1 &&& (4 : Int32)))))) else (mW (Int32.toNatClampNeg (s1 >>> ((3 : Int32) &&& (31 : Int32))))))) = Int64.toInt32 (f_Y_bytes s1 (4 : Int32) yMem) := by
        rw [if_pos rfl, Int32.toInt32_toInt64, mg_sh3 q0, mf_b4 hm q0 q1 q2]
      rw [show (f_X4_step_K40_2 yPc yKsp yUsp yKgp yVal yMod yLev yHal yEnt yLoc yR yV ySix mTab mSpc mW oRes oKno oGiv oTrp aA aB aC aPc ((-1 : Int32), yPen, yPL, yPN) (s1, r2, s2, r4, r5, r6)) = _ from if_pos h0, hw]
      exact ex_sim hM2 hT h8 hm t3 hD hL h0
    · have h := se_enter (mSpc := mSpc) (2 : Int32) yPc (Int32.toInt64 ((-1 : Int32) - s1)) (-1 : Int64) yPc yPc yMod yLev yLoc yKsp yUsp yKgp yHal yEnt yR yV ySix hM2 hT h8 hm t3
      rw [show (f_X4_step_K40_2 yPc yKsp yUsp yKgp yVal yMod yLev yHal yEnt yLoc yR yV ySix mTab mSpc mW oRes oKno oGiv oTrp aA aB aC aPc ((-1 : Int32), yPen, yPL, yPN) (s1, r2, s2, r4, r5, r6)) = _ from if_neg h0, show (f_Y_step_K29_1 yPc yMod yLev yLoc yKsp yUsp yKgp yVal mTab mSpc yHal yEnt yPen yWrd yHas yTrp yNon yMem yR yV yPL yPN ySix (s1, s2, s3, s4, s5)) = _ from if_neg h0]
      unfold f_Y_fault
      rw [show Int32.toInt64 (-1 : Int32) = (-1 : Int64) by decide]
      obtain ⟨e0, e1, e2, e3, e4, e5, e6, e7, e8, g2, g3⟩ := h
      exact ⟨e0, rfl, e1, rfl, rfl, e2, rfl, e3, e4, e5, e6, rfl, e7, rfl, rfl, rfl, rfl, rfl, e8, g2, g3⟩
  · rw [if_neg hd, if_neg hd]
    obtain ⟨i0, i4⟩ := hI
    have hb0 := rg_nn hd
    have hpos := st_pos i0 hd
    rw [in_sim (mTab := mTab) (mSpc := mSpc) (f_Y_due yLev yPen yPL) hb0 hpos i4]
    generalize (f_Y_due yLev yPen yPL) = b
    obtain ⟨d1, d2, d3⟩ := iq_dec (hQ (Int32.toNatClampNeg b)).1 (hQ (Int32.toNatClampNeg b)).2
    have hq := hQ (Int32.toNatClampNeg b)
    have hneg : ¬ (((256 : Int32) * (yPL (Int32.toNatClampNeg b))) + (yPN (Int32.toNatClampNeg b))) < (0 : Int32) := by
      rw [Int32.lt_iff_toInt_lt, d1, show (0 : Int32).toInt = 0 by decide]
      omega
    rw [show (f_X4_step_K15_1 yPc yKsp yUsp yKgp yVal yMod yLev yHal yEnt yLoc yR yV ySix mOld mCnt mTab mSpc mW mP mS mD oRes oKno oGiv oTrp aA aB aC aPc ((((256 : Int32) * (yPL (Int32.toNatClampNeg b))) + (yPN (Int32.toNatClampNeg b))), (f_X1_remove b yPen yPL yPN).1, (f_X1_remove b yPen yPL yPN).2.1, (f_X1_remove b yPen yPL yPN).2.2)) = _ from if_neg hneg]
    unfold f_X4_step_K139_7 f_Y_step_K11_10
    rw [f_Y_interrupted_B27_s, if_pos (Int32.le_refl _)]
    dsimp only
    rw [d2, d3]
    have h := se_enter (mSpc := mSpc) (0 : Int32) (Int32.toInt64 (yPN (Int32.toNatClampNeg b))) (0 : Int64) (0 : Int64) yPc yPc yMod yLev yLoc yKsp yUsp yKgp yHal yEnt yR yV ySix hM hT h8 hm hb
    generalize (f_X4_enter yPc yKsp yUsp yKgp yMod yLev yHal yEnt yLoc yR yV ySix mOld mCnt mTab mSpc mW mP mS mD (0 : Int32) (Int32.toInt64 (yPN (Int32.toNatClampNeg b))) (0 : Int64) (0 : Int64) yPc) = u at h ⊢
    generalize (f_Y_entry (0 : Int32) (Int32.toInt64 (yPN (Int32.toNatClampNeg b))) (0 : Int64) (0 : Int64) yPc yPc yMod yLev yLoc yKsp yUsp yKgp mTab mSpc yHal yEnt mCnt yMem yR yV yBP yBS yBW ySix) = v at h ⊢
    obtain ⟨e0, e1, e2, e3, e4, e5, e6, e7, e8, g2, g3⟩ := h
    by_cases hh : u.2.2.2.1 = (0 : Int32)
    · rw [if_pos hh, if_pos (e3.trans hh)]
      exact ⟨e0, rfl, e1, rfl, rfl, e2, rfl, e3, e4, e5, e6, rfl, e7, rfl, rfl, (rgf_rem _ _ _ _).symm, rfl, rfl, e8, g2, g3⟩
    · rw [if_neg hh, if_neg (fun c => hh (e3.symm.trans c))]
      exact ⟨e0, rfl, e1, rfl, rfl, e2, rfl, e3, e4, e5, e6, rfl, e7, rfl, rfl, (rgf_rem _ _ _ _).symm, rfl, rfl, e8, g2, g3⟩
