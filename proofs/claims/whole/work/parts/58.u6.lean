/-! Loads and stores, alike. -/
theorem fl_u {M k : Nat} {s : Int32} (hM : M < 2 ^ 32) (hk : 0 < k ∧ k < 32) (hs : (s.toUInt32 &&& Int32.toUInt32 31) = UInt32.ofNat k) : (jiushr (nI M) s).toInt = ((M / 2 ^ k : Nat) : Int) := by
  have hp : (2 : Nat) ^ k ≥ 2 := by
    have := Nat.pow_le_pow_right (show 0 < 2 by decide) (show 1 ≤ k by omega)
    omega
  have hd : M / 2 ^ k < 2147483648 := by
    apply Nat.div_lt_of_lt_mul
    have := Nat.mul_le_mul_right 2147483648 hp
    omega
  have e : jiushr (nI M) s = nI (M / 2 ^ k) := by
    unfold jiushr
    rw [hs]
    apply Int32.toBitVec_inj.mp
    apply BitVec.eq_of_toNat_eq
    show ((BitVec.ofNat 32 M) >>> ((BitVec.ofNat 32 k) % 32#32)).toNat = (BitVec.ofNat 32 (M / 2 ^ k)).toNat
    have hk2 : ((BitVec.ofNat 32 k) % 32#32) = BitVec.ofNat 32 k := by
      apply BitVec.eq_of_toNat_eq
      rw [BitVec.toNat_umod, BitVec.toNat_ofNat, Nat.mod_eq_of_lt (show k < 2 ^ 32 by omega)]
      show k % 32 = k
      exact Nat.mod_eq_of_lt hk.2
    rw [hk2, BitVec.ushiftRight_eq', BitVec.toNat_ushiftRight, BitVec.toNat_ofNat, BitVec.toNat_ofNat, BitVec.toNat_ofNat, Nat.mod_eq_of_lt (show k < 2 ^ 32 by omega), Nat.mod_eq_of_lt hM, Nat.mod_eq_of_lt (show M / 2 ^ k < 2 ^ 32 by omega), Nat.shiftRight_eq_div_pow]
  rw [e, nI_toInt (by omega)]
theorem fl_5 (w : Int32) : (jiushr w (5 : Int32)) &&& (127 : Int32) = (w >>> ((5 : Int32) &&& (31 : Int32))) &&& (127 : Int32) := by
  obtain ⟨M, hM, e⟩ := wb_of32 w
  have h1 := rg_shr w ((5 : Int32) &&& (31 : Int32)) 5 (by decide)
  have h2 : ((w >>> ((5 : Int32) &&& (31 : Int32))) &&& (127 : Int32)).toInt = (w >>> ((5 : Int32) &&& (31 : Int32))).toInt % 2 ^ 7 := Jvm.Kit.i32_mask _ 127 (k := 7) (by decide) (by decide)
  have h3 := vb_ti (M := M) hM
  rw [← e] at h3
  have h4 : (jiushr w (5 : Int32)).toInt = ((M / 2 ^ 5 : Nat) : Int) := by
    rw [e]
    exact fl_u hM (by decide) (by decide)
  have h5 : ((jiushr w (5 : Int32)) &&& (127 : Int32)).toInt = (jiushr w (5 : Int32)).toInt % 2 ^ 7 := Jvm.Kit.i32_mask _ 127 (k := 7) (by decide) (by decide)
  apply Int32.toInt_inj.mp
  rw [h5, h4, h2, h1]
  rcases h3 with h3 | h3 <;> rw [h3] <;> omega
theorem fl_12 (w : Int32) : (jiushr w (12 : Int32)) &&& (1 : Int32) = (w >>> ((12 : Int32) &&& (31 : Int32))) &&& (1 : Int32) := by
  obtain ⟨M, hM, e⟩ := wb_of32 w
  have h1 := rg_shr w ((12 : Int32) &&& (31 : Int32)) 12 (by decide)
  have h2 : ((w >>> ((12 : Int32) &&& (31 : Int32))) &&& (1 : Int32)).toInt = (w >>> ((12 : Int32) &&& (31 : Int32))).toInt % 2 ^ 1 := Jvm.Kit.i32_mask _ 1 (k := 1) (by decide) (by decide)
  have h3 := vb_ti (M := M) hM
  rw [← e] at h3
  have h4 : (jiushr w (12 : Int32)).toInt = ((M / 2 ^ 12 : Nat) : Int) := by
    rw [e]
    exact fl_u hM (by decide) (by decide)
  have h5 : ((jiushr w (12 : Int32)) &&& (1 : Int32)).toInt = (jiushr w (12 : Int32)).toInt % 2 ^ 1 := Jvm.Kit.i32_mask _ 1 (k := 1) (by decide) (by decide)
  apply Int32.toInt_inj.mp
  rw [h5, h4, h2, h1]
  rcases h3 with h3 | h3 <;> rw [h3] <;> omega
theorem fl_13 (w : Int32) : (jiushr w (13 : Int32)) &&& (255 : Int32) = (w >>> ((13 : Int32) &&& (31 : Int32))) &&& (255 : Int32) := by
  obtain ⟨M, hM, e⟩ := wb_of32 w
  have h1 := rg_shr w ((13 : Int32) &&& (31 : Int32)) 13 (by decide)
  have h2 : ((w >>> ((13 : Int32) &&& (31 : Int32))) &&& (255 : Int32)).toInt = (w >>> ((13 : Int32) &&& (31 : Int32))).toInt % 2 ^ 8 := Jvm.Kit.i32_mask _ 255 (k := 8) (by decide) (by decide)
  have h3 := vb_ti (M := M) hM
  rw [← e] at h3
  have h4 : (jiushr w (13 : Int32)).toInt = ((M / 2 ^ 13 : Nat) : Int) := by
    rw [e]
    exact fl_u hM (by decide) (by decide)
  have h5 : ((jiushr w (13 : Int32)) &&& (255 : Int32)).toInt = (jiushr w (13 : Int32)).toInt % 2 ^ 8 := Jvm.Kit.i32_mask _ 255 (k := 8) (by decide) (by decide)
  apply Int32.toInt_inj.mp
  rw [h5, h4, h2, h1]
  rcases h3 with h3 | h3 <;> rw [h3] <;> omega
theorem fl_16 (w : Int32) : (jiushr w (16 : Int32)) &&& (31 : Int32) = (w >>> ((16 : Int32) &&& (31 : Int32))) &&& (31 : Int32) := by
  obtain ⟨M, hM, e⟩ := wb_of32 w
  have h1 := rg_shr w ((16 : Int32) &&& (31 : Int32)) 16 (by decide)
  have h2 : ((w >>> ((16 : Int32) &&& (31 : Int32))) &&& (31 : Int32)).toInt = (w >>> ((16 : Int32) &&& (31 : Int32))).toInt % 2 ^ 5 := Jvm.Kit.i32_mask _ 31 (k := 5) (by decide) (by decide)
  have h3 := vb_ti (M := M) hM
  rw [← e] at h3
  have h4 : (jiushr w (16 : Int32)).toInt = ((M / 2 ^ 16 : Nat) : Int) := by
    rw [e]
    exact fl_u hM (by decide) (by decide)
  have h5 : ((jiushr w (16 : Int32)) &&& (31 : Int32)).toInt = (jiushr w (16 : Int32)).toInt % 2 ^ 5 := Jvm.Kit.i32_mask _ 31 (k := 5) (by decide) (by decide)
  apply Int32.toInt_inj.mp
  rw [h5, h4, h2, h1]
  rcases h3 with h3 | h3 <;> rw [h3] <;> omega
theorem fl_21 (w : Int32) : (jiushr w (21 : Int32)) &&& (31 : Int32) = (w >>> ((21 : Int32) &&& (31 : Int32))) &&& (31 : Int32) := by
  obtain ⟨M, hM, e⟩ := wb_of32 w
  have h1 := rg_shr w ((21 : Int32) &&& (31 : Int32)) 21 (by decide)
  have h2 : ((w >>> ((21 : Int32) &&& (31 : Int32))) &&& (31 : Int32)).toInt = (w >>> ((21 : Int32) &&& (31 : Int32))).toInt % 2 ^ 5 := Jvm.Kit.i32_mask _ 31 (k := 5) (by decide) (by decide)
  have h3 := vb_ti (M := M) hM
  rw [← e] at h3
  have h4 : (jiushr w (21 : Int32)).toInt = ((M / 2 ^ 21 : Nat) : Int) := by
    rw [e]
    exact fl_u hM (by decide) (by decide)
  have h5 : ((jiushr w (21 : Int32)) &&& (31 : Int32)).toInt = (jiushr w (21 : Int32)).toInt % 2 ^ 5 := Jvm.Kit.i32_mask _ 31 (k := 5) (by decide) (by decide)
  apply Int32.toInt_inj.mp
  rw [h5, h4, h2, h1]
  rcases h3 with h3 | h3 <;> rw [h3] <;> omega
theorem gv_w (w : Int32) (v : Int64) (R : Nat → Int64) : f_X4_write ((jiushr w (21 : Int32)) &&& (31 : Int32)) v R = f_Y_give ((w >>> ((21 : Int32) &&& (31 : Int32))) &&& (31 : Int32)) v R := by
  unfold f_X4_write f_Y_give
  rw [fl_21]
  obtain ⟨a, b⟩ := rg_and31r (w >>> ((21 : Int32) &&& (31 : Int32)))
  rw [pa_and31 a b]
theorem gv_r (w : Int32) (v : Int64) (R : Nat → Int64) : f_X4_write (w &&& (31 : Int32)) v R = f_Y_give (w &&& (31 : Int32)) v R := by
  unfold f_X4_write f_Y_give
  obtain ⟨a, b⟩ := rg_and31r w
  rw [pa_and31 a b]
def isMv (z : Int32) : Prop := z = 11 ∨ z = 15 ∨ z = 40 ∨ z = 41 ∨ z = 42 ∨ z = 43 ∨ z = 44 ∨ z = 45 ∨ z = 46 ∨ z = 47
def stX (z1 : Int32) : Int32 := (if z1 = (15 : Int32) then (1 : Int32) else (if z1 < (44 : Int32) then (0 : Int32) else (1 : Int32)))
def whX (z1 : Int32) : Int32 := (if (z1 &&& (1 : Int32)) = (1 : Int32) then (1 : Int32) else (0 : Int32))
def ldY (z1 : Int32) : Int32 := (if z1 = (11 : Int32) then (1 : Int32) else (if z1 < (40 : Int32) then (0 : Int32) else (if (43 : Int32) < z1 then (0 : Int32) else (1 : Int32))))
def szY (z1 : Int32) : Int32 := (if (if z1 = (11 : Int32) then (1 : Int32) else (if z1 = (15 : Int32) then (1 : Int32) else (0 : Int32))) = (0 : Int32) then (if (z1 &&& (1 : Int32)) = (0 : Int32) then (4 : Int32) else (8 : Int32)) else (8 : Int32))
def cdX (z1 : Int32) : Int32 := (if z1 = (46 : Int32) then (1 : Int32) else (if z1 = (47 : Int32) then (1 : Int32) else (0 : Int32)))
theorem mo_sz {z : Int32} (h : isMv z) : szY z = (if whX z = (0 : Int32) then (4 : Int32) else (8 : Int32)) := by
  rcases h with rfl | rfl | rfl | rfl | rfl | rfl | rfl | rfl | rfl | rfl <;> decide
theorem mo_m {z : Int32} (h : isMv z) : Int32.toInt64 (szY z - (1 : Int32)) = Int32.toInt64 (if whX z = (0 : Int32) then (3 : Int32) else (7 : Int32)) := by
  rcases h with rfl | rfl | rfl | rfl | rfl | rfl | rfl | rfl | rfl | rfl <;> decide
theorem mo_st {z : Int32} (h : isMv z) : (if ldY z = (0 : Int32) then (1 : Int32) else (0 : Int32)) = stX z := by
  rcases h with rfl | rfl | rfl | rfl | rfl | rfl | rfl | rfl | rfl | rfl <;> decide
theorem mo_ld {z : Int32} (h : isMv z) : ldY z = (0 : Int32) ↔ ¬ stX z = (0 : Int32) := by
  rcases h with rfl | rfl | rfl | rfl | rfl | rfl | rfl | rfl | rfl | rfl <;> decide
theorem mo_cd {z : Int32} (h : isMv z) (hc : ¬ cdX z = (0 : Int32)) : ¬ stX z = (0 : Int32) := by
  revert hc
  rcases h with rfl | rfl | rfl | rfl | rfl | rfl | rfl | rfl | rfl | rfl <;> decide
theorem mo_3 (z : Int64) : (z &&& Int32.toInt64 (3 : Int32)) = (0 : Int64) → z.toInt % 4 = 0 := by
  intro h
  have e0 : (0 : Int64).toInt = 0 := by decide
  have h2 : (z &&& (3 : Int64)).toInt = z.toInt % 4 := Jvm.Kit.i64_mask z 3 (k := 2) (by decide) (by decide)
  rw [show Int32.toInt64 (3 : Int32) = (3 : Int64) by decide] at h
  rw [h, e0] at h2
  omega
theorem mo_7 (z : Int64) : (z &&& Int32.toInt64 (7 : Int32)) = (0 : Int64) → z.toInt % 8 = 0 := by
  intro h
  rw [show Int32.toInt64 (7 : Int32) = (7 : Int64) by decide] at h
  exact (al_x z).mp h
theorem mo_rd {mW : Nat → Int64} {yMem : Nat → Int32} (hm : RM mW yMem) {a wh : Int32} (h0 : 0 ≤ a.toInt) (hh : wh = 0 → a.toInt + 4 ≤ 4096 ∧ a.toInt % 4 = 0) (hw : ¬ wh = 0 → a.toInt + 8 ≤ 4096 ∧ a.toInt % 8 = 0) : (if (if wh = (0 : Int32) then (4 : Int32) else (8 : Int32)) = (4 : Int32) then (Int32.toInt64 (Int64.toInt32 (f_Y_bytes a (if wh = (0 : Int32) then (4 : Int32) else (8 : Int32)) yMem))) else (f_Y_bytes a (if wh = (0 : Int32) then (4 : Int32) else (8 : Int32)) yMem)) = (if wh = (0 : Int32) then (Int32.toInt64 (Int64.toInt32 (jlushr (mW (Int32.toNatClampNeg (a >>> ((3 : Int32) &&& (31 : Int32))))) ((8 : Int32) * (a &&& (4 : Int32)))))) else (mW (Int32.toNatClampNeg (a >>> ((3 : Int32) &&& (31 : Int32)))))) := by
  rw [mg_sh3 h0]
  by_cases hc : wh = (0 : Int32)
  · obtain ⟨q1, q2⟩ := hh hc
    rw [if_pos hc, if_pos rfl, if_pos hc, mf_b4 hm h0 q1 q2]
  · obtain ⟨q1, q2⟩ := hw hc
    rw [if_neg hc, if_neg (show ¬ (8 : Int32) = (4 : Int32) by decide), if_neg hc, me_b8 hm h0 q1 q2]
theorem mo_wr {mW : Nat → Int64} {yMem : Nat → Int32} (hm : RM mW yMem) {a wh : Int32} (v : Int64) (h0 : 0 ≤ a.toInt) (hh : wh = 0 → a.toInt + 4 ≤ 4096 ∧ a.toInt % 4 = 0) (hw : ¬ wh = 0 → a.toInt + 8 ≤ 4096 ∧ a.toInt % 8 = 0) : RM (vp_updL mW (Int32.toNatClampNeg (a >>> ((3 : Int32) &&& (31 : Int32)))) (xst (mW (Int32.toNatClampNeg (a >>> ((3 : Int32) &&& (31 : Int32))))) a wh v)) (f_Y_store a (if wh = (0 : Int32) then (4 : Int32) else (8 : Int32)) v yMem) := by
  rw [mg_sh3 h0]
  by_cases hc : wh = (0 : Int32)
  · obtain ⟨q1, q2⟩ := hh hc
    subst hc
    rw [if_pos rfl]
    exact mg_s4 hm h0 q1 q2 v
  · obtain ⟨q1, q2⟩ := hw hc
    rw [if_neg hc, mg_1 _ _ hc]
    exact mf_s8 hm h0 q1 q2 v
theorem mo_sim (z1 z2 : Int32) (z3 : Int64) (yPc : Int64) (yMod yLev yLoc : Int32) (yKsp yUsp yKgp : Int64) (yHal yEnt : Int32) (yR yV ySix : Nat → Int64) (yVal : Int64) (q : Int32 × Int32 × (Nat → Int32) × (Nat → Int32)) (oRes : Int64) (oKno : Int32) (oGiv : Int32) (oTrp : Int32) (yHer : Int64) (yWrd : Int32) (yHas : Int32) (yTrp : Int32) (yNon : Int32) (aA aB aC aPc : Int64) {mOld mCnt mTab mSpc : Int32} {mW : Nat → Int64} {mP mS : Nat → Int32} {mD : Nat → Int64} {yMem yBP yBS : Nat → Int32} {yBW : Nat → Int64} (hM : okM mOld mCnt) (hT : okT mTab) (h8 : okA mTab) (hm : RM mW yMem) (hb : RB mOld mCnt mP mS mD yBP yBS yBW) (hD : okD yMod) (hL : okD yLoc) (hz : isMv z1) (h2 : z2 = (jiushr yWrd (21 : Int32)) &&& (31 : Int32)) (hH : yPc - (4 : Int64) = yHer) : rs (f_X4_step_K125_3 yKsp yMod yEnt ySix q (yPc, yUsp, yKgp, yVal, yLev, yHal, (f_X4_reach z1 z2 z3 yPc yMod yLoc yR mOld mCnt mTab mSpc mW mP mS mD (-2 : Int32) aA aB aC aPc).1, (f_X4_reach z1 z2 z3 yPc yMod yLoc yR mOld mCnt mTab mSpc mW mP mS mD (-2 : Int32) aA aB aC aPc).2.1, yV, (f_X4_reach z1 z2 z3 yPc yMod yLoc yR mOld mCnt mTab mSpc mW mP mS mD (-2 : Int32) aA aB aC aPc).2.2.1, (f_X4_reach z1 z2 z3 yPc yMod yLoc yR mOld mCnt mTab mSpc mW mP mS mD (-2 : Int32) aA aB aC aPc).2.2.2.1, mTab, mSpc, (f_X4_reach z1 z2 z3 yPc yMod yLoc yR mOld mCnt mTab mSpc mW mP mS mD (-2 : Int32) aA aB aC aPc).2.2.2.2.1, (f_X4_reach z1 z2 z3 yPc yMod yLoc yR mOld mCnt mTab mSpc mW mP mS mD (-2 : Int32) aA aB aC aPc).2.2.2.2.2.1, (f_X4_reach z1 z2 z3 yPc yMod yLoc yR mOld mCnt mTab mSpc mW mP mS mD (-2 : Int32) aA aB aC aPc).2.2.2.2.2.2.1, (f_X4_reach z1 z2 z3 yPc yMod yLoc yR mOld mCnt mTab mSpc mW mP mS mD (-2 : Int32) aA aB aC aPc).2.2.2.2.2.2.2.1, oRes, oKno, oGiv, oTrp, (f_X4_reach z1 z2 z3 yPc yMod yLoc yR mOld mCnt mTab mSpc mW mP mS mD (-2 : Int32) aA aB aC aPc).2.2.2.2.2.2.2.2.1, (f_X4_reach z1 z2 z3 yPc yMod yLoc yR mOld mCnt mTab mSpc mW mP mS mD (-2 : Int32) aA aB aC aPc).2.2.2.2.2.2.2.2.2.1, (f_X4_reach z1 z2 z3 yPc yMod yLoc yR mOld mCnt mTab mSpc mW mP mS mD (-2 : Int32) aA aB aC aPc).2.2.2.2.2.2.2.2.2.2.1, (f_X4_reach z1 z2 z3 yPc yMod yLoc yR mOld mCnt mTab mSpc mW mP mS mD (-2 : Int32) aA aB aC aPc).2.2.2.2.2.2.2.2.2.2.2.1, (f_X4_reach z1 z2 z3 yPc yMod yLoc yR mOld mCnt mTab mSpc mW mP mS mD (-2 : Int32) aA aB aC aPc).2.2.2.2.2.2.2.2.2.2.2.2)) ((f_Y_move_B64 z1 yPc yMod yLev yLoc yKsp yUsp yKgp mTab mSpc yHal yEnt mCnt yHer yWrd yMem yR yV yBP yBS yBW ySix z3).1, (f_Y_move_B64 z1 yPc yMod yLev yLoc yKsp yUsp yKgp mTab mSpc yHal yEnt mCnt yHer yWrd yMem yR yV yBP yBS yBW ySix z3).2.1, yLev, (f_Y_move_B64 z1 yPc yMod yLev yLoc yKsp yUsp yKgp mTab mSpc yHal yEnt mCnt yHer yWrd yMem yR yV yBP yBS yBW ySix z3).2.2.1, yKsp, (f_Y_move_B64 z1 yPc yMod yLev yLoc yKsp yUsp yKgp mTab mSpc yHal yEnt mCnt yHer yWrd yMem yR yV yBP yBS yBW ySix z3).2.2.2.1, yKgp, yVal, mTab, mSpc, (f_Y_move_B64 z1 yPc yMod yLev yLoc yKsp yUsp yKgp mTab mSpc yHal yEnt mCnt yHer yWrd yMem yR yV yBP yBS yBW ySix z3).2.2.2.2.1, (f_Y_move_B64 z1 yPc yMod yLev yLoc yKsp yUsp yKgp mTab mSpc yHal yEnt mCnt yHer yWrd yMem yR yV yBP yBS yBW ySix z3).2.2.2.2.2.1, q.2.1, (f_Y_move_B64 z1 yPc yMod yLev yLoc yKsp yUsp yKgp mTab mSpc yHal yEnt mCnt yHer yWrd yMem yR yV yBP yBS yBW ySix z3).2.2.2.2.2.2.1, yHer, yWrd, yHas, yTrp, yNon, (f_Y_move_B64 z1 yPc yMod yLev yLoc yKsp yUsp yKgp mTab mSpc yHal yEnt mCnt yHer yWrd yMem yR yV yBP yBS yBW ySix z3).2.2.2.2.2.2.2.1, (f_Y_move_B64 z1 yPc yMod yLev yLoc yKsp yUsp yKgp mTab mSpc yHal yEnt mCnt yHer yWrd yMem yR yV yBP yBS yBW ySix z3).2.2.2.2.2.2.2.2.1, yV, q.2.2.1, q.2.2.2, (f_Y_move_B64 z1 yPc yMod yLev yLoc yKsp yUsp yKgp mTab mSpc yHal yEnt mCnt yHer yWrd yMem yR yV yBP yBS yBW ySix z3).2.2.2.2.2.2.2.2.2.1, (f_Y_move_B64 z1 yPc yMod yLev yLoc yKsp yUsp yKgp mTab mSpc yHal yEnt mCnt yHer yWrd yMem yR yV yBP yBS yBW ySix z3).2.2.2.2.2.2.2.2.2.2.1, (f_Y_move_B64 z1 yPc yMod yLev yLoc yKsp yUsp yKgp mTab mSpc yHal yEnt mCnt yHer yWrd yMem yR yV yBP yBS yBW ySix z3).2.2.2.2.2.2.2.2.2.2.2.1, (f_Y_move_B64 z1 yPc yMod yLev yLoc yKsp yUsp yKgp mTab mSpc yHal yEnt mCnt yHer yWrd yMem yR yV yBP yBS yBW ySix z3).2.2.2.2.2.2.2.2.2.2.2.2) := by
  by_cases hA : (z3 &&& Int32.toInt64 (if (whX z1) = (0 : Int32) then (3 : Int32) else (7 : Int32))) = (0 : Int64)
  · have hY0 : (z3 &&& Int32.toInt64 (szY z1 - (1 : Int32))) = (0 : Int64) := by
      rw [mo_m hz]
      exact hA
    have hKY : (f_Y_move_B173 z1 yPc yMod yLev yLoc yKsp yUsp yKgp mTab mSpc yHal yEnt mCnt yHer yWrd yMem yR yV yBP yBS yBW ySix z3) = (f_Y_move_K185_1 z1 yPc yMod yLev yLoc yKsp yUsp yKgp mTab mSpc yHal yEnt yHer yWrd yMem yR yV ySix z3 (f_Y_translate z3 (stX z1) yMod mTab mSpc mCnt yMem yBP yBS yBW)) := by
      rw [← mo_st hz]
      rfl
    by_cases hc : cdX z1 = (0 : Int32)
    · have hX : (f_X4_reach z1 z2 z3 yPc yMod yLoc yR mOld mCnt mTab mSpc mW mP mS mD (-2 : Int32) aA aB aC aPc) = (f_X4_reach_K123_1 z1 z2 z3 yPc yLoc yR mW (-2 : Int32) aA aB aC aPc (f_X2_place z3 (stX z1) yMod mOld mCnt mTab mSpc mW mP mS mD)) := (if_pos hA).trans (if_pos hc)
      have hY : (f_Y_move_B64 z1 yPc yMod yLev yLoc yKsp yUsp yKgp mTab mSpc yHal yEnt mCnt yHer yWrd yMem yR yV yBP yBS yBW ySix z3) = (f_Y_move_B173 z1 yPc yMod yLev yLoc yKsp yUsp yKgp mTab mSpc yHal yEnt mCnt yHer yWrd yMem yR yV yBP yBS yBW ySix z3) := (if_pos hY0).trans (if_pos hc)
      rw [hX, hY, hKY]
      clear hX hY hKY
      have ht := tr_place (z1 := z3) (z3 := stX z1) (z4 := yMod) (mSpc := mSpc) hm hM hT h8 hb hD
      have hM2 := rgf_placeM (z1 := z3) (z3 := stX z1) (z4 := yMod) (mTab := mTab) (mSpc := mSpc) (mW := mW) (mP := mP) (mS := mS) (mD := mD) hM
      have hp8 := fun h => pl_8 (z1 := z3) (z3 := stX z1) (z4 := yMod) (mOld := mOld) (mCnt := mCnt) (mTab := mTab) (mSpc := mSpc) (mW := mW) (mP := mP) (mS := mS) (mD := mD) h
      have hp4 := fun h => pl_4 (z1 := z3) (z3 := stX z1) (z4 := yMod) (mOld := mOld) (mCnt := mCnt) (mTab := mTab) (mSpc := mSpc) (mW := mW) (mP := mP) (mS := mS) (mD := mD) h
      generalize (f_X2_place z3 (stX z1) yMod mOld mCnt mTab mSpc mW mP mS mD) = r at ht hM2 hp8 hp4 ⊢
      generalize (f_Y_translate z3 (stX z1) yMod mTab mSpc mCnt yMem yBP yBS yBW) = s at ht ⊢
      obtain ⟨r1, r2, r3, r4, r5, r6⟩ := r
      obtain ⟨s1, s2, s3, s4, s5⟩ := s
      obtain ⟨t1, t2, t3⟩ := ht
      simp only at t1 t2 t3 hM2 hp8 hp4
      subst t1
      subst t2
      by_cases h0 : (0 : Int32) ≤ s1
      · have q0 : 0 ≤ s1.toInt := by
          rw [Int32.le_iff_toInt_le] at h0
          exact h0
        have hh : whX z1 = 0 → s1.toInt + 4 ≤ 4096 ∧ s1.toInt % 4 = 0 := fun c => (hp4 h0 (mo_3 z3 (by rw [if_pos c] at hA; exact hA))).2
        have hw : ¬ whX z1 = 0 → s1.toInt + 8 ≤ 4096 ∧ s1.toInt % 8 = 0 := fun c => (hp8 h0 (mo_7 z3 (by rw [if_neg c] at hA; exact hA))).2
        by_cases hs : stX z1 = (0 : Int32)
        · have hX : (f_X4_reach_K123_1 z1 z2 z3 yPc yLoc yR mW (-2 : Int32) aA aB aC aPc (s1, r2, s2, r4, r5, r6)) = f_X4_reach_K180_2 z1 yLoc mW (-2 : Int32) aA aB aC aPc (s1, r2, s2, r4, r5, r6) (f_X4_write z2 (if (whX z1) = (0 : Int32) then (Int32.toInt64 (Int64.toInt32 (jlushr (mW (Int32.toNatClampNeg (s1 >>> ((3 : Int32) &&& (31 : Int32))))) ((8 : Int32) * (s1 &&& (4 : Int32)))))) else (mW (Int32.toNatClampNeg (s1 >>> ((3 : Int32) &&& (31 : Int32)))))) yR) := (if_pos h0).trans (if_pos hs)
          have hY : (f_Y_move_K185_1 z1 yPc yMod yLev yLoc yKsp yUsp yKgp mTab mSpc yHal yEnt yHer yWrd yMem yR yV ySix z3 (s1, s2, s3, s4, s5)) = f_Y_move_K246_4 z1 yPc yMod yLoc yUsp yHal yEnt yMem ySix (s1, s2, s3, s4, s5) (f_Y_give ((yWrd >>> ((21 : Int32) &&& (31 : Int32))) &&& (31 : Int32)) (if (szY z1) = (4 : Int32) then (Int32.toInt64 (Int64.toInt32 (f_Y_bytes s1 (szY z1) yMem))) else (f_Y_bytes s1 (szY z1) yMem)) yR) := (if_pos h0).trans (if_neg (fun c => (mo_ld hz).mp c hs))
          rw [hX, hY, mo_sz hz, mo_rd hm q0 hh hw, h2, gv_w]
          have hl : (if yLoc = (0 : Int32) then (if z1 = (42 : Int32) then (1 : Int32) else (if z1 = (43 : Int32) then (1 : Int32) else (0 : Int32))) else (1 : Int32)) = (if z1 = (42 : Int32) then (1 : Int32) else (if z1 = (43 : Int32) then (1 : Int32) else yLoc)) := by
            rcases hL with h | h
            · rw [h, if_pos rfl]
            · rw [h, if_neg (show ¬ (1 : Int32) = (0 : Int32) by decide)]
              by_cases c1 : z1 = (42 : Int32)
              · rw [if_pos c1]
              · rw [if_neg c1]
                by_cases c2 : z1 = (43 : Int32)
                · rw [if_pos c2]
                · rw [if_neg c2]
          unfold f_X4_reach_K180_2 f_Y_move_K246_4
          dsimp only
          rw [hl]
          by_cases c1 : z1 = (42 : Int32)
          · rw [if_pos c1, if_pos c1]
            exact fin_none aA aB aC aPc yPc yMod yLev (1 : Int32) yKsp yUsp yKgp yHal yEnt (f_Y_give ((yWrd >>> ((21 : Int32) &&& (31 : Int32))) &&& (31 : Int32)) (if (whX z1) = (0 : Int32) then (Int32.toInt64 (Int64.toInt32 (jlushr (mW (Int32.toNatClampNeg (s1 >>> ((3 : Int32) &&& (31 : Int32))))) ((8 : Int32) * (s1 &&& (4 : Int32)))))) else (mW (Int32.toNatClampNeg (s1 >>> ((3 : Int32) &&& (31 : Int32)))))) yR) yV ySix yVal q oRes oKno oGiv oTrp yHer yWrd yHas yTrp yNon hm t3
          · rw [if_neg c1, if_neg c1]
            by_cases c2 : z1 = (43 : Int32)
            · rw [if_pos c2, if_pos c2]
              exact fin_none aA aB aC aPc yPc yMod yLev (1 : Int32) yKsp yUsp yKgp yHal yEnt (f_Y_give ((yWrd >>> ((21 : Int32) &&& (31 : Int32))) &&& (31 : Int32)) (if (whX z1) = (0 : Int32) then (Int32.toInt64 (Int64.toInt32 (jlushr (mW (Int32.toNatClampNeg (s1 >>> ((3 : Int32) &&& (31 : Int32))))) ((8 : Int32) * (s1 &&& (4 : Int32)))))) else (mW (Int32.toNatClampNeg (s1 >>> ((3 : Int32) &&& (31 : Int32)))))) yR) yV ySix yVal q oRes oKno oGiv oTrp yHer yWrd yHas yTrp yNon hm t3
            · rw [if_neg c2, if_neg c2]
              exact fin_none aA aB aC aPc yPc yMod yLev yLoc yKsp yUsp yKgp yHal yEnt (f_Y_give ((yWrd >>> ((21 : Int32) &&& (31 : Int32))) &&& (31 : Int32)) (if (whX z1) = (0 : Int32) then (Int32.toInt64 (Int64.toInt32 (jlushr (mW (Int32.toNatClampNeg (s1 >>> ((3 : Int32) &&& (31 : Int32))))) ((8 : Int32) * (s1 &&& (4 : Int32)))))) else (mW (Int32.toNatClampNeg (s1 >>> ((3 : Int32) &&& (31 : Int32)))))) yR) yV ySix yVal q oRes oKno oGiv oTrp yHer yWrd yHas yTrp yNon hm t3
        · have hX : (f_X4_reach_K123_1 z1 z2 z3 yPc yLoc yR mW (-2 : Int32) aA aB aC aPc (s1, r2, s2, r4, r5, r6)) = (yLoc, yR, r2, s2, (vp_updL mW (Int32.toNatClampNeg (s1 >>> ((3 : Int32) &&& (31 : Int32)))) (xst (mW (Int32.toNatClampNeg (s1 >>> ((3 : Int32) &&& (31 : Int32))))) s1 (whX z1) (yR (Int32.toNatClampNeg z2)))), r4, r5, r6, (-2 : Int32), aA, aB, aC, aPc) := (if_pos h0).trans (if_neg hs)
          have hY : (f_Y_move_K185_1 z1 yPc yMod yLev yLoc yKsp yUsp yKgp mTab mSpc yHal yEnt yHer yWrd yMem yR yV ySix z3 (s1, s2, s3, s4, s5)) = f_Y_move_K280_2 z1 yPc yMod yLoc yUsp yHal yEnt yWrd yR ySix (s1, s2, s3, s4, s5) (f_Y_store s1 (szY z1) (yR (Int32.toNatClampNeg ((yWrd >>> ((21 : Int32) &&& (31 : Int32))) &&& (31 : Int32)))) yMem) := (if_pos h0).trans (if_pos ((mo_ld hz).mpr hs))
          have hY2 : f_Y_move_K280_2 z1 yPc yMod yLoc yUsp yHal yEnt yWrd yR ySix (s1, s2, s3, s4, s5) (f_Y_store s1 (szY z1) (yR (Int32.toNatClampNeg ((yWrd >>> ((21 : Int32) &&& (31 : Int32))) &&& (31 : Int32)))) yMem) = (yPc, yMod, yLoc, yUsp, yHal, yEnt, s2, (f_Y_store s1 (szY z1) (yR (Int32.toNatClampNeg ((yWrd >>> ((21 : Int32) &&& (31 : Int32))) &&& (31 : Int32)))) yMem), yR, s3, s4, s5, ySix) := if_pos hc
          rw [hX, hY, hY2, mo_sz hz, h2, fl_21]
          exact fin_none aA aB aC aPc yPc yMod yLev yLoc yKsp yUsp yKgp yHal yEnt yR yV ySix yVal q oRes oKno oGiv oTrp yHer yWrd yHas yTrp yNon (mo_wr hm _ q0 hh hw) t3
      · have hX : (f_X4_reach_K123_1 z1 z2 z3 yPc yLoc yR mW (-2 : Int32) aA aB aC aPc (s1, r2, s2, r4, r5, r6)) = (yLoc, yR, r2, s2, mW, r4, r5, r6, (2 : Int32), z3, (Int32.toInt64 ((-1 : Int32) - s1)), (Int32.toInt64 (stX z1)), (yPc - (4 : Int64))) := if_neg h0
        have hY : (f_Y_move_K185_1 z1 yPc yMod yLev yLoc yKsp yUsp yKgp mTab mSpc yHal yEnt yHer yWrd yMem yR yV ySix z3 (s1, s2, s3, s4, s5)) = f_Y_move_K209_5 (f_Y_fault z3 s1 (if ldY z1 = (0 : Int32) then (1 : Int32) else (0 : Int32)) yPc yMod yLev yLoc yKsp yUsp yKgp mTab mSpc yHal yEnt s2 yHer yMem yR yV s3 s4 s5 ySix) := if_neg h0
        rw [hX, hY, mo_st hz, hH]
        exact fin_enter (2 : Int32) z3 (Int32.toInt64 ((-1 : Int32) - s1)) (Int32.toInt64 (stX z1)) yHer yPc yMod yLev yLoc yKsp yUsp yKgp yHal yEnt yR yV ySix yVal q oRes oKno oGiv oTrp yHer yWrd yHas yTrp yNon hM2 hT h8 hm t3 (by decide)
    · by_cases hl : yLoc = (0 : Int32)
      · have hX : (f_X4_reach z1 z2 z3 yPc yMod yLoc yR mOld mCnt mTab mSpc mW mP mS mD (-2 : Int32) aA aB aC aPc) = f_X4_reach_K89_6 yLoc mOld mCnt mW mP mS mD (-2 : Int32) aA aB aC aPc (f_X4_write z2 (0 : Int64) yR) := ((if_pos hA).trans (if_neg hc)).trans (if_pos hl)
        have hY : (f_Y_move_B64 z1 yPc yMod yLev yLoc yKsp yUsp yKgp mTab mSpc yHal yEnt mCnt yHer yWrd yMem yR yV yBP yBS yBW ySix z3) = f_Y_move_K169_6 yPc yMod yLoc yUsp yHal yEnt mCnt yMem yBP yBS yBW ySix (f_Y_give ((yWrd >>> ((21 : Int32) &&& (31 : Int32))) &&& (31 : Int32)) (0 : Int64) yR) := ((if_pos hY0).trans (if_neg hc)).trans (if_pos hl)
        rw [hX, hY, h2, gv_w]
        exact fin_none aA aB aC aPc yPc yMod yLev yLoc yKsp yUsp yKgp yHal yEnt (f_Y_give ((yWrd >>> ((21 : Int32) &&& (31 : Int32))) &&& (31 : Int32)) (0 : Int64) yR) yV ySix yVal q oRes oKno oGiv oTrp yHer yWrd yHas yTrp yNon hm hb
      · have hX : (f_X4_reach z1 z2 z3 yPc yMod yLoc yR mOld mCnt mTab mSpc mW mP mS mD (-2 : Int32) aA aB aC aPc) = (f_X4_reach_K123_3 z1 z2 z3 yPc yLoc yR mW (-2 : Int32) aA aB aC aPc (f_X2_place z3 (stX z1) yMod mOld mCnt mTab mSpc mW mP mS mD)) := ((if_pos hA).trans (if_neg hc)).trans (if_neg hl)
        have hY : (f_Y_move_B64 z1 yPc yMod yLev yLoc yKsp yUsp yKgp mTab mSpc yHal yEnt mCnt yHer yWrd yMem yR yV yBP yBS yBW ySix z3) = (f_Y_move_B173 z1 yPc yMod yLev yLoc yKsp yUsp yKgp mTab mSpc yHal yEnt mCnt yHer yWrd yMem yR yV yBP yBS yBW ySix z3) := ((if_pos hY0).trans (if_neg hc)).trans (if_neg hl)
        rw [hX, hY, hKY]
        clear hX hY hKY
        have hs := mo_cd hz hc
        have ht := tr_place (z1 := z3) (z3 := stX z1) (z4 := yMod) (mSpc := mSpc) hm hM hT h8 hb hD
        have hM2 := rgf_placeM (z1 := z3) (z3 := stX z1) (z4 := yMod) (mTab := mTab) (mSpc := mSpc) (mW := mW) (mP := mP) (mS := mS) (mD := mD) hM
        have hp8 := fun h => pl_8 (z1 := z3) (z3 := stX z1) (z4 := yMod) (mOld := mOld) (mCnt := mCnt) (mTab := mTab) (mSpc := mSpc) (mW := mW) (mP := mP) (mS := mS) (mD := mD) h
        have hp4 := fun h => pl_4 (z1 := z3) (z3 := stX z1) (z4 := yMod) (mOld := mOld) (mCnt := mCnt) (mTab := mTab) (mSpc := mSpc) (mW := mW) (mP := mP) (mS := mS) (mD := mD) h
        generalize (f_X2_place z3 (stX z1) yMod mOld mCnt mTab mSpc mW mP mS mD) = r at ht hM2 hp8 hp4 ⊢
        generalize (f_Y_translate z3 (stX z1) yMod mTab mSpc mCnt yMem yBP yBS yBW) = s at ht ⊢
        obtain ⟨r1, r2, r3, r4, r5, r6⟩ := r
        obtain ⟨s1, s2, s3, s4, s5⟩ := s
        obtain ⟨t1, t2, t3⟩ := ht
        simp only at t1 t2 t3 hM2 hp8 hp4
        subst t1
        subst t2
        by_cases h0 : (0 : Int32) ≤ s1
        · have q0 : 0 ≤ s1.toInt := by
            rw [Int32.le_iff_toInt_le] at h0
            exact h0
          have hh : whX z1 = 0 → s1.toInt + 4 ≤ 4096 ∧ s1.toInt % 4 = 0 := fun c => (hp4 h0 (mo_3 z3 (by rw [if_pos c] at hA; exact hA))).2
          have hw : ¬ whX z1 = 0 → s1.toInt + 8 ≤ 4096 ∧ s1.toInt % 8 = 0 := fun c => (hp8 h0 (mo_7 z3 (by rw [if_neg c] at hA; exact hA))).2
          have hX : (f_X4_reach_K123_3 z1 z2 z3 yPc yLoc yR mW (-2 : Int32) aA aB aC aPc (s1, r2, s2, r4, r5, r6)) = f_X4_reach_K239_4 z1 z2 yR mW (-2 : Int32) aA aB aC aPc (s1, r2, s2, r4, r5, r6) (f_X4_write z2 (1 : Int64) yR) := (if_pos h0).trans (if_neg hs)
          have hY : (f_Y_move_K185_1 z1 yPc yMod yLev yLoc yKsp yUsp yKgp mTab mSpc yHal yEnt yHer yWrd yMem yR yV ySix z3 (s1, s2, s3, s4, s5)) = f_Y_move_K280_2 z1 yPc yMod yLoc yUsp yHal yEnt yWrd yR ySix (s1, s2, s3, s4, s5) (f_Y_store s1 (szY z1) (yR (Int32.toNatClampNeg ((yWrd >>> ((21 : Int32) &&& (31 : Int32))) &&& (31 : Int32)))) yMem) := (if_pos h0).trans (if_pos ((mo_ld hz).mpr hs))
          have hY2 : f_Y_move_K280_2 z1 yPc yMod yLoc yUsp yHal yEnt yWrd yR ySix (s1, s2, s3, s4, s5) (f_Y_store s1 (szY z1) (yR (Int32.toNatClampNeg ((yWrd >>> ((21 : Int32) &&& (31 : Int32))) &&& (31 : Int32)))) yMem) = f_Y_move_K291_3 yPc yMod yUsp yHal yEnt ySix (s1, s2, s3, s4, s5) (f_Y_store s1 (szY z1) (yR (Int32.toNatClampNeg ((yWrd >>> ((21 : Int32) &&& (31 : Int32))) &&& (31 : Int32)))) yMem) (f_Y_give ((yWrd >>> ((21 : Int32) &&& (31 : Int32))) &&& (31 : Int32)) (1 : Int64) yR) := if_neg hc
          have hX2 : f_X4_reach_K239_4 z1 z2 yR mW (-2 : Int32) aA aB aC aPc (s1, r2, s2, r4, r5, r6) (f_X4_write z2 (1 : Int64) yR) = ((0 : Int32), (f_X4_write z2 (1 : Int64) yR), r2, s2, (vp_updL mW (Int32.toNatClampNeg (s1 >>> ((3 : Int32) &&& (31 : Int32)))) (xst (mW (Int32.toNatClampNeg (s1 >>> ((3 : Int32) &&& (31 : Int32))))) s1 (whX z1) (yR (Int32.toNatClampNeg z2)))), r4, r5, r6, (-2 : Int32), aA, aB, aC, aPc) := rfl
          rw [hX, hX2, hY, hY2, mo_sz hz, h2, gv_w, fl_21]
          exact fin_none aA aB aC aPc yPc yMod yLev (0 : Int32) yKsp yUsp yKgp yHal yEnt (f_Y_give ((yWrd >>> ((21 : Int32) &&& (31 : Int32))) &&& (31 : Int32)) (1 : Int64) yR) yV ySix yVal q oRes oKno oGiv oTrp yHer yWrd yHas yTrp yNon (mo_wr hm _ q0 hh hw) t3
        · have hX : (f_X4_reach_K123_3 z1 z2 z3 yPc yLoc yR mW (-2 : Int32) aA aB aC aPc (s1, r2, s2, r4, r5, r6)) = (yLoc, yR, r2, s2, mW, r4, r5, r6, (2 : Int32), z3, (Int32.toInt64 ((-1 : Int32) - s1)), (Int32.toInt64 (stX z1)), (yPc - (4 : Int64))) := if_neg h0
          have hY : (f_Y_move_K185_1 z1 yPc yMod yLev yLoc yKsp yUsp yKgp mTab mSpc yHal yEnt yHer yWrd yMem yR yV ySix z3 (s1, s2, s3, s4, s5)) = f_Y_move_K209_5 (f_Y_fault z3 s1 (if ldY z1 = (0 : Int32) then (1 : Int32) else (0 : Int32)) yPc yMod yLev yLoc yKsp yUsp yKgp mTab mSpc yHal yEnt s2 yHer yMem yR yV s3 s4 s5 ySix) := if_neg h0
          rw [hX, hY, mo_st hz, hH]
          exact fin_enter (2 : Int32) z3 (Int32.toInt64 ((-1 : Int32) - s1)) (Int32.toInt64 (stX z1)) yHer yPc yMod yLev yLoc yKsp yUsp yKgp yHal yEnt yR yV ySix yVal q oRes oKno oGiv oTrp yHer yWrd yHas yTrp yNon hM2 hT h8 hm t3 (by decide)
  · have hY0 : ¬ (z3 &&& Int32.toInt64 (szY z1 - (1 : Int32))) = (0 : Int64) := by
      rw [mo_m hz]
      exact hA
    have hX : (f_X4_reach z1 z2 z3 yPc yMod yLoc yR mOld mCnt mTab mSpc mW mP mS mD (-2 : Int32) aA aB aC aPc) = (yLoc, yR, mOld, mCnt, mW, mP, mS, mD, (4 : Int32), z3, (Int32.toInt64 z1), (Int32.toInt64 z2), (yPc - (4 : Int64))) := if_neg hA
    have hY : (f_Y_move_B64 z1 yPc yMod yLev yLoc yKsp yUsp yKgp mTab mSpc yHal yEnt mCnt yHer yWrd yMem yR yV yBP yBS yBW ySix z3) = f_Y_move_K131_7 (f_Y_entry (4 : Int32) z3 (Int32.toInt64 z1) (Int32.toInt64 ((yWrd >>> ((21 : Int32) &&& (31 : Int32))) &&& (31 : Int32))) yHer yPc yMod yLev yLoc yKsp yUsp yKgp mTab mSpc yHal yEnt mCnt yMem yR yV yBP yBS yBW ySix) := if_neg hY0
    rw [hX, hY, hH, h2, fl_21]
    exact fin_enter (4 : Int32) z3 (Int32.toInt64 z1) (Int32.toInt64 ((yWrd >>> ((21 : Int32) &&& (31 : Int32))) &&& (31 : Int32))) yHer yPc yMod yLev yLoc yKsp yUsp yKgp yHal yEnt yR yV ySix yVal q oRes oKno oGiv oTrp yHer yWrd yHas yTrp yNon hM hT h8 hm hb (by decide)
