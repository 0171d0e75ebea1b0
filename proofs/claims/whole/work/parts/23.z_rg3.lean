/-! Ranges kept by LongMachine's methods. -/
def okT (t : Int32) : Prop := 0 ≤ t.toInt ∧ t.toInt ≤ 4064
def okV (v : Int32) : Prop := v.toInt < 6
def okI (c : Int32) : Prop := 0 ≤ c.toInt ∧ c.toInt ≤ 4
theorem okV_1 : okV 1 := by unfold okV; decide
theorem okV_2 : okV 2 := by unfold okV; decide
theorem okV_3 : okV 3 := by unfold okV; decide
theorem okV_4 : okV 4 := by unfold okV; decide
theorem okV_5 : okV 5 := by unfold okV; decide
theorem okV_m : okV (-1) := by unfold okV; decide
theorem okM_0 : okM 0 0 := by unfold okM; decide
theorem okT_and (x : Int32) : okT (x &&& (4064 : Int32)) := by
  have h : (x &&& (4064 : Int32)).toBitVec.toNat ≤ 4064 := by
    rw [Int32.toBitVec_and, BitVec.toNat_and]
    exact Nat.and_le_right
  have e : (x &&& (4064 : Int32)).toInt = ((x &&& (4064 : Int32)).toBitVec.toNat : Int) := BitVec.toInt_eq_toNat_of_lt (by omega)
  unfold okT
  rw [e]
  omega
theorem rgf_rem_B (iCnt : Int32) : ∀ (n : Nat) (k : Int32) (iL iN : Nat → Int32), (f_X1_remove_B12 iCnt n k iL iN).1 = iCnt - 1 := by
  intro n
  induction n with
  | zero => intro k iL iN; rfl
  | succ n ih =>
    intro k iL iN
    rw [f_X1_remove_B12_s]
    exact iteInduction (motive := fun u : Int32 × (Nat → Int32) × (Nat → Int32) => u.1 = iCnt - 1) (fun _ => rfl) (fun _ => ih _ _ _)
theorem rgf_rem (z1 iCnt : Int32) (iL iN : Nat → Int32) : (f_X1_remove z1 iCnt iL iN).1 = iCnt - 1 := rgf_rem_B iCnt 5 z1 iL iN
theorem rgf_take_B (iCnt : Int32) (iL iN : Nat → Int32) (hI : okI iCnt) : ∀ (n : Nat) (k2 k3 k4 : Int32), 0 ≤ k4.toInt → (k2.toInt = -1 ∨ (0 ≤ k2.toInt ∧ k2.toInt < iCnt.toInt)) → okI (f_X1_takeAbove_B7 iCnt iL iN n k2 k3 k4).2.1 := by
  intro n
  induction n with
  | zero => intro k2 k3 k4 _ _; exact hI
  | succ n ih =>
    intro k2 k3 k4 h4 h2
    rw [f_X1_takeAbove_B7_s]
    refine iteInduction (motive := fun u : Int32 × Int32 × (Nat → Int32) × (Nat → Int32) => okI u.2.1) (fun hc => ?_) (fun hc => ?_)
    · refine iteInduction (motive := fun u : Int32 × Int32 × (Nat → Int32) × (Nat → Int32) => okI u.2.1) (fun hb => ?_) (fun hb => hI)
      show okI (f_X1_remove k2 iCnt iL iN).1
      rw [rgf_rem]
      have h := rg_best1 hb h2
      have h0 := rg_best0 hb
      obtain ⟨hi0, hi4⟩ := hI
      have e := rg_m1 (c := iCnt) (by omega)
      exact ⟨by omega, by omega⟩
    · exact iteInduction (motive := fun u : Int32 × Int32 × (Nat → Int32) × (Nat → Int32) => okI u.2.1) (fun _ => ih _ _ _ (rg_i0 hc h4) h2) (fun _ => ih _ _ _ (rg_i0 hc h4) (Or.inr ⟨h4, rg_lt hc⟩))
theorem rgf_take {z1 iCnt : Int32} {iL iN : Nat → Int32} (hI : okI iCnt) : okI (f_X1_takeAbove z1 iCnt iL iN).2.1 := rgf_take_B iCnt iL iN hI 5 (-1) z1 0 rg_z (Or.inl (by decide))
def pkernelCall (u : Int64 × Int64 × Int64 × Int32 × Int32 × (Nat → Int64) × (Nat → Int64) × Int32 × Int32 × Int32 × Int32 × Int32) : Prop := okM u.2.2.2.2.2.2.2.1 u.2.2.2.2.2.2.2.2.1 ∧ okT u.2.2.2.2.2.2.2.2.2.1 ∧ okV u.2.2.2.2.2.2.2.2.2.2.2
theorem rgf_kernelCall {z1 : Int32} {xUsp : Int64} {xKgp : Int64} {xVal : Int64} {xMod : Int32} {xLev : Int32} {xHal : Int32} {xR : (Nat → Int64)} {xV : (Nat → Int64)} {mOld : Int32} {mCnt : Int32} {mTab : Int32} {mSpc : Int32} {aVec : Int32} (hM : okM mOld mCnt) (hT : okT mTab) (hV : okV aVec) : pkernelCall (f_X4_kernelCall z1 xUsp xKgp xVal xMod xLev xHal xR xV mOld mCnt mTab mSpc aVec) := by
  unfold f_X4_kernelCall
  repeat' first | refine iteInduction (motive := pkernelCall) (fun _ => ?_) (fun _ => ?_) | unfold f_X4_kernelCall_K163_1
  all_goals first | exact ⟨hM, hT, hV⟩ | exact ⟨hM, hT, okV_m⟩ | exact ⟨hM, okT_and _, hV⟩ | exact ⟨hM, okT_and _, okV_m⟩ | exact ⟨okM_0, hT, hV⟩ | exact ⟨okM_0, hT, okV_m⟩ | exact ⟨okM_0, okT_and _, hV⟩ | exact ⟨okM_0, okT_and _, okV_m⟩
def pcall (u : Int64 × Int64 × Int64 × Int32 × Int32 × (Nat → Int64) × (Nat → Int64) × Int32 × Int32 × Int32 × Int32 × Int32 × Int64 × Int64 × Int64 × Int64) : Prop := okM u.2.2.2.2.2.2.2.1 u.2.2.2.2.2.2.2.2.1 ∧ okT u.2.2.2.2.2.2.2.2.2.1 ∧ okV u.2.2.2.2.2.2.2.2.2.2.2.1
theorem rgf_call {z1 : Int32} {xPc : Int64} {xUsp : Int64} {xKgp : Int64} {xVal : Int64} {xMod : Int32} {xLev : Int32} {xHal : Int32} {xR : (Nat → Int64)} {xV : (Nat → Int64)} {mOld : Int32} {mCnt : Int32} {mTab : Int32} {mSpc : Int32} {aVec : Int32} {aA : Int64} {aB : Int64} {aC : Int64} {aPc : Int64} (hM : okM mOld mCnt) (hT : okT mTab) (hV : okV aVec) : pcall (f_X4_call z1 xPc xUsp xKgp xVal xMod xLev xHal xR xV mOld mCnt mTab mSpc aVec aA aB aC aPc) := by
  unfold f_X4_call
  repeat' first | refine iteInduction (motive := pcall) (fun _ => ?_) (fun _ => ?_) | unfold f_X4_call_K261_1
  all_goals first | exact ⟨hM, hT, hV⟩ | exact ⟨hM, hT, okV_1⟩ | exact ⟨hM, hT, okV_2⟩ | exact ⟨hM, hT, okV_3⟩ | exact ⟨hM, hT, okV_4⟩ | exact ⟨hM, hT, okV_5⟩ | exact ⟨hM, hT, okV_m⟩ | exact rgf_kernelCall hM hT hV
def poperate (u : (Nat → Int64) × Int64 × Int32 × Int32 × Int32 × Int32 × Int64 × Int64 × Int64 × Int64) : Prop := okV u.2.2.2.2.2.1
theorem rgf_operate {z1 : Int32} {xPc : Int64} {xR : (Nat → Int64)} {oRes : Int64} {aVec : Int32} {aA : Int64} {aB : Int64} {aC : Int64} {aPc : Int64} (hV : okV aVec) : poperate (f_X4_operate z1 xPc xR oRes aVec aA aB aC aPc) := by
  unfold f_X4_operate
  repeat' first | refine iteInduction (motive := poperate) (fun _ => ?_) (fun _ => ?_) | unfold f_X4_operate_K107_2 | unfold f_X4_operate_K66_1
  all_goals first | exact hV | exact okV_1 | exact okV_2 | exact okV_3 | exact okV_4 | exact okV_5 | exact okV_m
def preach (u : Int32 × (Nat → Int64) × Int32 × Int32 × (Nat → Int64) × (Nat → Int32) × (Nat → Int32) × (Nat → Int64) × Int32 × Int64 × Int64 × Int64 × Int64) : Prop := okM u.2.2.1 u.2.2.2.1 ∧ okV u.2.2.2.2.2.2.2.2.1
theorem rgf_reach {z1 : Int32} {z2 : Int32} {z3 : Int64} {xPc : Int64} {xMod : Int32} {xLoc : Int32} {xR : (Nat → Int64)} {mOld : Int32} {mCnt : Int32} {mTab : Int32} {mSpc : Int32} {mW : (Nat → Int64)} {mP : (Nat → Int32)} {mS : (Nat → Int32)} {mD : (Nat → Int64)} {aVec : Int32} {aA : Int64} {aB : Int64} {aC : Int64} {aPc : Int64} (hM : okM mOld mCnt) (hV : okV aVec) : preach (f_X4_reach z1 z2 z3 xPc xMod xLoc xR mOld mCnt mTab mSpc mW mP mS mD aVec aA aB aC aPc) := by
  unfold f_X4_reach
  repeat' first | refine iteInduction (motive := preach) (fun _ => ?_) (fun _ => ?_) | unfold f_X4_reach_K180_2 | unfold f_X4_reach_K123_1 | unfold f_X4_reach_K239_4 | unfold f_X4_reach_K180_5 | unfold f_X4_reach_K123_3 | unfold f_X4_reach_K89_6
  all_goals first | exact ⟨hM, hV⟩ | exact ⟨hM, okV_1⟩ | exact ⟨hM, okV_2⟩ | exact ⟨hM, okV_3⟩ | exact ⟨hM, okV_4⟩ | exact ⟨hM, okV_5⟩ | exact ⟨hM, okV_m⟩ | exact ⟨rgf_placeM hM, hV⟩ | exact ⟨rgf_placeM hM, okV_1⟩ | exact ⟨rgf_placeM hM, okV_2⟩ | exact ⟨rgf_placeM hM, okV_3⟩ | exact ⟨rgf_placeM hM, okV_4⟩ | exact ⟨rgf_placeM hM, okV_5⟩ | exact ⟨rgf_placeM hM, okV_m⟩
def pexecute (u : Int64 × Int64 × Int64 × Int64 × Int32 × Int32 × Int32 × (Nat → Int64) × (Nat → Int64) × Int32 × Int32 × Int32 × Int32 × (Nat → Int64) × (Nat → Int32) × (Nat → Int32) × (Nat → Int64) × Int64 × Int32 × Int32 × Int32 × Int32 × Int64 × Int64 × Int64 × Int64) : Prop := okM u.2.2.2.2.2.2.2.2.2.1 u.2.2.2.2.2.2.2.2.2.2.1 ∧ okT u.2.2.2.2.2.2.2.2.2.2.2.1 ∧ okV u.2.2.2.2.2.2.2.2.2.2.2.2.2.2.2.2.2.2.2.2.2.1
theorem rgf_execute {z1 : Int32} {xPc : Int64} {xUsp : Int64} {xKgp : Int64} {xVal : Int64} {xMod : Int32} {xLev : Int32} {xHal : Int32} {xLoc : Int32} {xR : (Nat → Int64)} {xV : (Nat → Int64)} {mOld : Int32} {mCnt : Int32} {mTab : Int32} {mSpc : Int32} {mW : (Nat → Int64)} {mP : (Nat → Int32)} {mS : (Nat → Int32)} {mD : (Nat → Int64)} {oRes : Int64} {oKno : Int32} {oGiv : Int32} {oTrp : Int32} {aVec : Int32} {aA : Int64} {aB : Int64} {aC : Int64} {aPc : Int64} (hM : okM mOld mCnt) (hT : okT mTab) (hV : okV aVec) : pexecute (f_X4_execute z1 xPc xUsp xKgp xVal xMod xLev xHal xLoc xR xV mOld mCnt mTab mSpc mW mP mS mD oRes oKno oGiv oTrp aVec aA aB aC aPc) := by
  unfold f_X4_execute
  repeat' first | refine iteInduction (motive := pexecute) (fun _ => ?_) (fun _ => ?_) | unfold f_X4_execute_K310_1 | unfold f_X4_execute_K323_2 | unfold f_X4_execute_K340_3 | unfold f_X4_execute_K358_4 | unfold f_X4_execute_K366_5 | unfold f_X4_execute_K381_6 | unfold f_X4_execute_K405_7 | unfold f_X4_execute_K417_8
  all_goals first | exact ⟨hM, hT, hV⟩ | exact ⟨hM, hT, okV_1⟩ | exact ⟨hM, hT, okV_2⟩ | exact ⟨hM, hT, okV_3⟩ | exact ⟨hM, hT, okV_4⟩ | exact ⟨hM, hT, okV_5⟩ | exact ⟨hM, hT, okV_m⟩ | exact rgf_call hM hT hV | exact ⟨hM, hT, rgf_operate hV⟩ | exact ⟨(rgf_reach hM hV).1, hT, (rgf_reach hM hV).2⟩
def pmf (u : Int32 × (Nat → Int64) × Int32 × Int32 × (Nat → Int64) × (Nat → Int32) × (Nat → Int32) × (Nat → Int64)) : Prop := okM u.2.2.1 u.2.2.2.1
theorem rgf_mf_B (z1 : Int64) (z3 xMod mTab mSpc : Int32) : ∀ (n : Nat) (k : Int32) (xF : Nat → Int64) (mOld mCnt : Int32) (mW : Nat → Int64) (mP mS : Nat → Int32) (mD : Nat → Int64), okM mOld mCnt → pmf (f_X4_moveFrame_B15 z1 z3 xMod mTab mSpc n k xF mOld mCnt mW mP mS mD) := by
  intro n
  induction n with
  | zero => intro k xF mOld mCnt mW mP mS mD h; exact h
  | succ n ih =>
    intro k xF mOld mCnt mW mP mS mD h
    rw [f_X4_moveFrame_B15_s]
    repeat' first | refine iteInduction (motive := pmf) (fun _ => ?_) (fun _ => ?_)
    all_goals first | exact h | exact rgf_placeM h | exact ih _ _ _ _ _ _ _ _ (rgf_placeM h)
def pmoveFrame (u : Int32 × (Nat → Int64) × Int32 × Int32 × (Nat → Int64) × (Nat → Int32) × (Nat → Int32) × (Nat → Int64)) : Prop := okM u.2.2.1 u.2.2.2.1
theorem rgf_moveFrame {z1 : Int64} {z3 : Int32} {xMod : Int32} {xF : (Nat → Int64)} {mOld : Int32} {mCnt : Int32} {mTab : Int32} {mSpc : Int32} {mW : (Nat → Int64)} {mP : (Nat → Int32)} {mS : (Nat → Int32)} {mD : (Nat → Int64)} (hM : okM mOld mCnt) : pmoveFrame (f_X4_moveFrame z1 z3 xMod xF mOld mCnt mTab mSpc mW mP mS mD) := by
  unfold f_X4_moveFrame
  repeat' first | refine iteInduction (motive := pmoveFrame) (fun _ => ?_) (fun _ => ?_)
  all_goals first | exact hM | exact rgf_mf_B _ _ _ _ _ _ _ _ _ _ _ _ _ _ hM
def penter (u : Int64 × Int64 × Int32 × Int32 × Int32 × Int32 × (Nat → Int64) × (Nat → Int64) × Int32 × Int32 × (Nat → Int64) × (Nat → Int32) × (Nat → Int32) × (Nat → Int64)) : Prop := okM u.2.2.2.2.2.2.2.2.1 u.2.2.2.2.2.2.2.2.2.1
theorem rgf_enter {xPc : Int64} {xKsp : Int64} {xUsp : Int64} {xKgp : Int64} {xMod : Int32} {xLev : Int32} {xHal : Int32} {xEnt : Int32} {xLoc : Int32} {xR : (Nat → Int64)} {xV : (Nat → Int64)} {xF : (Nat → Int64)} {mOld : Int32} {mCnt : Int32} {mTab : Int32} {mSpc : Int32} {mW : (Nat → Int64)} {mP : (Nat → Int32)} {mS : (Nat → Int32)} {mD : (Nat → Int64)} {aVec : Int32} {aA : Int64} {aB : Int64} {aC : Int64} {aPc : Int64} (hM : okM mOld mCnt) : penter (f_X4_enter xPc xKsp xUsp xKgp xMod xLev xHal xEnt xLoc xR xV xF mOld mCnt mTab mSpc mW mP mS mD aVec aA aB aC aPc) := by
  unfold f_X4_enter
  repeat' first | refine iteInduction (motive := penter) (fun _ => ?_) (fun _ => ?_) | unfold f_X4_enter_K52_1 | unfold f_X4_enter_K52_2
  all_goals first | exact hM | exact rgf_moveFrame hM
def pcomeBack (u : Int64 × Int64 × Int32 × Int32 × Int32 × Int32 × (Nat → Int64) × (Nat → Int64) × Int32 × Int32 × (Nat → Int64) × (Nat → Int32) × (Nat → Int32) × (Nat → Int64)) : Prop := okM u.2.2.2.2.2.2.2.2.1 u.2.2.2.2.2.2.2.2.2.1
theorem rgf_comeBack {xPc : Int64} {xKsp : Int64} {xUsp : Int64} {xMod : Int32} {xLev : Int32} {xHal : Int32} {xLoc : Int32} {xR : (Nat → Int64)} {xF : (Nat → Int64)} {mOld : Int32} {mCnt : Int32} {mTab : Int32} {mSpc : Int32} {mW : (Nat → Int64)} {mP : (Nat → Int32)} {mS : (Nat → Int32)} {mD : (Nat → Int64)} (hM : okM mOld mCnt) : pcomeBack (f_X4_comeBack xPc xKsp xUsp xMod xLev xHal xLoc xR xF mOld mCnt mTab mSpc mW mP mS mD) := by
  unfold f_X4_comeBack
  repeat' first | refine iteInduction (motive := pcomeBack) (fun _ => ?_) (fun _ => ?_) | unfold f_X4_comeBack_K9_1
  all_goals first | exact hM | exact rgf_moveFrame hM
