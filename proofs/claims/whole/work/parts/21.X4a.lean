set_option maxRecDepth 100000 in
set_option maxHeartbeats 4000000 in
theorem c_X4_isWordAddress (l : Launch) (z0 : Int32) : Met l yX4_isWordAddress (.code yX4_isWordAddress cX4_isWordAddress 1 (some .boolean) :: vG) ({ frames := 0, cells := 0, slots := 0, locals := 0 }) (va_Pc [.int z0] (fun _ => True)) (qa_det (.int (if z0 < (0 : Int32) then (0 : Int32) else (if (4096 : Int32) ≤ z0 then (0 : Int32) else (if (z0 &&& (7 : Int32)) = (0 : Int32) then (1 : Int32) else (0 : Int32)))))) 0 0 (fun _ => False) := by
  refine Met.ofW (cc := cX4_isWordAddress) (maxL := 1) (ret := (some .boolean)) (by decide) rfl ?_
  intro p e s m args below meth c s₁ B hml hv
  obtain ⟨rfl, hv⟩ := hv
  have hx := B.exec
  have hb := B.bytes
  have hr := B.returns
  have hts : ∀ w ∈ vG, w.before _ s = true := fun w h => atoms_spec (ws := (.code yX4_isWordAddress cX4_isWordAddress 1 (some .boolean) :: vG)) B.pre w (List.mem_cons_of_mem _ h)
  have hown : s.vm.findClass "LongMachine" = some m.cls := findClass_of_methodNamed B.named
  have hlocks := B.notSynchronized
  have hl := lv_entry ([.int z0]) (n := 1) (Nat.le_of_ble_eq_true rfl)
  rw [lg_entry_eq]
  generalize (lg_sl ([.int z0]) ++ List.replicate (1 - (lg_sl ([.int z0])).length) Slot.unset).toArray = ls at hl ⊢
  have hl : lv_has ls 1 [(0, .int z0)] := hl
  refine lv_iload_n (pc := 0) hx hb dX4_isWordAddress_0 rfl (lv_at hl 0 rfl) ?_
  refine qa_joini (J := 23) (ls2 := ls) (rest2 := []) (if z0 < (0 : Int32) then (0 : Int32) else (if (4096 : Int32) ≤ z0 then (0 : Int32) else (if (z0 &&& (7 : Int32)) = (0 : Int32) then (1 : Int32) else (0 : Int32)))) (fun hj23 => ?_) ?_
  · refine lv_if_lt (pc := 1) (tgt := 22) hx hb dX4_isWordAddress_1 (by decide) (fun h1_1 => ?_) (fun h1_1 => ?_)
    · refine lv_iconst (pc := 22) (v := (0 : Int32)) hx hb dX4_isWordAddress_22 (by decide) ?_
      exact hj23 _ (Eq.symm (if_pos h1_1))
    · refine lv_iload_n (pc := 4) hx hb dX4_isWordAddress_4 rfl (lv_at hl 0 rfl) ?_
      refine lv_sipush (pc := 5) (v := (4096 : Int32)) hx hb dX4_isWordAddress_5 (by decide) ?_
      refine lv_icmp_ge (pc := 8) (tgt := 22) hx hb dX4_isWordAddress_8 (by decide) (fun h8_2 => ?_) (fun h8_2 => ?_)
      · refine lv_iconst (pc := 22) (v := (0 : Int32)) hx hb dX4_isWordAddress_22 (by decide) ?_
        exact hj23 _ (Eq.symm (Eq.trans (if_neg h1_1) (if_pos h8_2)))
      · refine lv_iload_n (pc := 11) hx hb dX4_isWordAddress_11 rfl (lv_at hl 0 rfl) ?_
        refine lv_bipush (pc := 12) (v := (7 : Int32)) hx hb dX4_isWordAddress_12 (by decide) ?_
        refine lv_iand (pc := 14) hx hb dX4_isWordAddress_14 ?_
        refine lv_if_ne (pc := 15) (tgt := 22) hx hb dX4_isWordAddress_15 (by decide) (fun h15_3 => ?_) (fun h15_3 => ?_)
        · refine lv_iconst (pc := 22) (v := (0 : Int32)) hx hb dX4_isWordAddress_22 (by decide) ?_
          exact hj23 _ (Eq.symm (Eq.trans (if_neg h1_1) (Eq.trans (if_neg h8_2) (if_neg h15_3))))
        · refine lv_iconst (pc := 18) (v := (1 : Int32)) hx hb dX4_isWordAddress_18 (by decide) ?_
          refine lv_goto (pc := 19) (tgt := 23) hx hb dX4_isWordAddress_19 (by decide) ?_
          exact hj23 _ (Eq.symm (Eq.trans (if_neg h1_1) (Eq.trans (if_neg h8_2) (if_pos h15_3))))
  exact W.zret hx hb hr (qa_nb (qa_bi qa_b0 (qa_bi qa_b0 (qa_bi qa_b1 qa_b0)))) (fun t ht hW => ⟨rfl, ht⟩) (fun _ h => by cases h) dX4_isWordAddress_23
set_option maxRecDepth 100000 in
set_option maxHeartbeats 4000000 in
theorem c_X4_status (l : Launch) (dC : Nat → ClassId) (dI : Nat → Nat → Nat) (cI cJ : ClassId) (qX qR qV qF qM qMw qMp qMs qMd qI qIl qIn qO qC : Nat) (xPc : Int64) (xKsp : Int64) (xUsp : Int64) (xKgp : Int64) (xVal : Int64) (xMod : Int32) (xLev : Int32) (xHal : Int32) (xEnt : Int32) (xLoc : Int32) (xR : (Nat → Int64)) (xV : (Nat → Int64)) (xF : (Nat → Int64)) (mOld : Int32) (mCnt : Int32) (mTab : Int32) (mSpc : Int32) (mW : (Nat → Int64)) (mP : (Nat → Int32)) (mS : (Nat → Int32)) (mD : (Nat → Int64)) (iCnt : Int32) (iL : (Nat → Int32)) (iN : (Nat → Int32)) (oRes : Int64) (oKno : Int32) (oGiv : Int32) (oTrp : Int32) (aVec : Int32) (aA : Int64) (aB : Int64) (aC : Int64) (aPc : Int64) : Met l yX4_status (.code yX4_status cX4_status 1 (some .int) :: vG) ({ frames := 0, cells := 0, slots := 0, locals := 0 }) (va_Pc [.ref qX] (qa_preR (dC, dI) vwCl (wX cI cJ qX qR qV qF qM qMw qMp qMs qMd qI qIl qIn qO qC xPc xKsp xUsp xKgp xVal xMod xLev xHal xEnt xLoc xR xV xF mOld mCnt mTab mSpc mW mP mS mD iCnt iL iN oRes oKno oGiv oTrp aVec aA aB aC aPc) [(cI, .int), (cJ, .long)])) (qa_det (.int (((8 : Int32) * xMod) + xLev))) 0 0 (fun _ => False) := by
  refine Met.ofW (cc := cX4_status) (maxL := 1) (ret := (some .int)) (by decide) rfl ?_
  intro p e s m args below meth c s₁ B hml hv
  obtain ⟨rfl, hP, hK⟩ := hv
  have hx := B.exec
  have hb := B.bytes
  have hr := B.returns
  have hts : ∀ w ∈ vG, w.before _ s = true := fun w h => atoms_spec (ws := (.code yX4_status cX4_status 1 (some .int) :: vG)) B.pre w (List.mem_cons_of_mem _ h)
  have hown : s.vm.findClass "LongMachine" = some m.cls := findClass_of_methodNamed B.named
  have hlocks := B.notSynchronized
  have hl := lv_entry ([.ref qX]) (n := 1) (Nat.le_of_ble_eq_true rfl)
  rw [lg_entry_eq]
  generalize (lg_sl ([.ref qX]) ++ List.replicate (1 - (lg_sl ([.ref qX])).length) Slot.unset).toArray = ls at hl ⊢
  have hl : lv_has ls 1 [(0, .ref qX)] := hl
  refine lv_bipush (pc := 0) (v := (8 : Int32)) hx hb dX4_status_0 (by decide) ?_
  refine lv_aload_n (pc := 2) hx hb dX4_status_2 rfl (lv_at hl 0 rfl) ?_
  refine va_get (D := (dC, dI)) (pc := 3) (ci := 4) (v := .int xMod) (C := "LongMachine") (T := TX4) (N := 17) hx hb hts ui_X4 hown hK hP 0 rfl rfl 12 (by decide) (hts _ gm_103) (fun _ h9 => h9) rfl dX4_status_3 ?_
  refine lv_imul (pc := 6) hx hb dX4_status_6 ?_
  refine lv_aload_n (pc := 7) hx hb dX4_status_7 rfl (lv_at hl 0 rfl) ?_
  refine va_get (D := (dC, dI)) (pc := 8) (ci := 4) (v := .int xLev) (C := "LongMachine") (T := TX4) (N := 17) hx hb hts ui_X4 hown hK hP 0 rfl rfl 13 (by decide) (hts _ gm_104) (fun _ h9 => h9) rfl dX4_status_8 ?_
  refine lv_iadd (pc := 11) hx hb dX4_status_11 ?_
  exact W.iret hx hb hr (fun t ht hW => ⟨rfl, ht⟩) (fun _ h => by cases h) dX4_status_12
def f_X4_write (z1 : Int32) (z2 : Int64) (xR : (Nat → Int64)) : (Nat → Int64) := (if z1 = (31 : Int32) then xR else (vp_updL xR (Int32.toNatClampNeg (z1 &&& (31 : Int32))) z2))
set_option maxRecDepth 100000 in
set_option maxHeartbeats 4000000 in
theorem c_X4_write (l : Launch) (dC : Nat → ClassId) (dI : Nat → Nat → Nat) (cI cJ : ClassId) (qX qR qV qF qM qMw qMp qMs qMd qI qIl qIn qO qC : Nat) (sz : Nat) (xPc : Int64) (xKsp : Int64) (xUsp : Int64) (xKgp : Int64) (xVal : Int64) (xMod : Int32) (xLev : Int32) (xHal : Int32) (xEnt : Int32) (xLoc : Int32) (xR : (Nat → Int64)) (xV : (Nat → Int64)) (xF : (Nat → Int64)) (mOld : Int32) (mCnt : Int32) (mTab : Int32) (mSpc : Int32) (mW : (Nat → Int64)) (mP : (Nat → Int32)) (mS : (Nat → Int32)) (mD : (Nat → Int64)) (iCnt : Int32) (iL : (Nat → Int32)) (iN : (Nat → Int32)) (oRes : Int64) (oKno : Int32) (oGiv : Int32) (oTrp : Int32) (aVec : Int32) (aA : Int64) (aB : Int64) (aC : Int64) (aPc : Int64) (z1 : Int32) (z2 : Int64) : Met l yX4_write (.code yX4_write cX4_write 4 none :: vG) ({ frames := 0, cells := 0, slots := 0, locals := 0 }) (va_Pc [.ref qX, .int z1, .long z2] (qa_pre (dC, dI) vwCl (wX cI cJ qX qR qV qF qM qMw qMp qMs qMd qI qIl qIn qO qC xPc xKsp xUsp xKgp xVal xMod xLev xHal xEnt xLoc xR xV xF mOld mCnt mTab mSpc mW mP mS mD iCnt iL iN oRes oKno oGiv oTrp aVec aA aB aC aPc) [(cI, .int), (cJ, .long)] sz)) (qa_mod none (dC, dI) vwCl (wX cI cJ qX qR qV qF qM qMw qMp qMs qMd qI qIl qIn qO qC xPc xKsp xUsp xKgp xVal xMod xLev xHal xEnt xLoc (f_X4_write z1 z2 xR) xV xF mOld mCnt mTab mSpc mW mP mS mD iCnt iL iN oRes oKno oGiv oTrp aVec aA aB aC aPc) (va_A (wX cI cJ qX qR qV qF qM qMw qMp qMs qMd qI qIl qIn qO qC xPc xKsp xUsp xKgp xVal xMod xLev xHal xEnt xLoc xR xV xF mOld mCnt mTab mSpc mW mP mS mD iCnt iL iN oRes oKno oGiv oTrp aVec aA aB aC aPc) sz)) 0 0 (va_A (wX cI cJ qX qR qV qF qM qMw qMp qMs qMd qI qIl qIn qO qC xPc xKsp xUsp xKgp xVal xMod xLev xHal xEnt xLoc xR xV xF mOld mCnt mTab mSpc mW mP mS mD iCnt iL iN oRes oKno oGiv oTrp aVec aA aB aC aPc) sz) := by
  refine Met.ofW (cc := cX4_write) (maxL := 4) (ret := none) (by decide) rfl ?_
  intro p e s m args below meth c s₁ B hml hv
  obtain ⟨rfl, hsz, hP, hK, hD0⟩ := hv
  have hx := B.exec
  have hb := B.bytes
  have hr := B.returns
  have hts : ∀ w ∈ vG, w.before _ s = true := fun w h => atoms_spec (ws := (.code yX4_write cX4_write 4 none :: vG)) B.pre w (List.mem_cons_of_mem _ h)
  have hown : s.vm.findClass "LongMachine" = some m.cls := findClass_of_methodNamed B.named
  have hlocks := B.notSynchronized
  subst hsz
  have hD := hD0.self (sz := s.heap.size)
  generalize hAe : va_A (wX cI cJ qX qR qV qF qM qMw qMp qMs qMd qI qIl qIn qO qC xPc xKsp xUsp xKgp xVal xMod xLev xHal xEnt xLoc xR xV xF mOld mCnt mTab mSpc mW mP mS mD iCnt iL iN oRes oKno oGiv oTrp aVec aA aB aC aPc) s.heap.size = A at hD ⊢
  have hA : ∀ q : Nat, s.heap.size ≤ q → A q := fun q h => by rw [← hAe]; exact Or.inr h
  have hS : va_S A s.heap s.heap [] := va_S.rf
  have hl := lv_entry ([.ref qX, .int z1, .long z2]) (n := 4) (Nat.le_of_ble_eq_true rfl)
  rw [lg_entry_eq]
  generalize (lg_sl ([.ref qX, .int z1, .long z2]) ++ List.replicate (4 - (lg_sl ([.ref qX, .int z1, .long z2])).length) Slot.unset).toArray = ls at hl ⊢
  have hl : lv_has ls 4 [(0, .ref qX), (1, .int z1), (2, .long z2)] := hl
  obtain ⟨u, hu⟩ : ∃ u, u = f_X4_write z1 z2 xR := ⟨_, rfl⟩
  rw [← hu]
  unfold f_X4_write at hu
  refine lv_iload_n (pc := 0) hx hb dX4_write_0 rfl (lv_at hl 1 rfl) ?_
  refine lv_bipush (pc := 1) (v := (31 : Int32)) hx hb dX4_write_1 (by decide) ?_
  refine lv_icmp_eq (pc := 3) (tgt := 16) hx hb dX4_write_3 (by decide) (fun h3_1 => ?_) (fun h3_1 => ?_)
  · have hu := hu.trans (if_pos h3_1)
    subst hu
    exact W.vret hx hb hr (fun t ht hW => ⟨rfl, by rw [ht]; exact hP, hS.F ht⟩) hS.2.2 dX4_write_16
  · have hu := hu.trans (if_neg h3_1)
    refine lv_aload_n (pc := 6) hx hb dX4_write_6 rfl (lv_at hl 0 rfl) ?_
    refine va_get (D := (dC, dI)) (pc := 7) (ci := 4) (v := .ref qR) (C := "LongMachine") (T := TX4) (N := 17) hx hb hts ui_X4 hown hK hP 0 rfl rfl 1 (by decide) (hts _ gm_92) (fun _ h9 => h9) rfl dX4_write_7 ?_
    refine lv_iload_n (pc := 10) hx hb dX4_write_10 rfl (lv_at hl 1 rfl) ?_
    refine lv_bipush (pc := 11) (v := (31 : Int32)) hx hb dX4_write_11 (by decide) ?_
    refine lv_iand (pc := 13) hx hb dX4_write_13 ?_
    refine lv_lload_n (pc := 14) hx hb dX4_write_14 rfl (lv_at hl 2 rfl) ?_
    refine qa_last (pc := 15) (k := (Int32.toNatClampNeg (z1 &&& (31 : Int32)))) hx hb hK hP hD hS 1 1 rfl rfl rfl (qa_and31 _) dX4_write_15 (fun H locs hP hD hS => ?_)
    have hP : va_P (dC, dI) vwCl (wX cI cJ qX qR qV qF qM qMw qMp qMs qMd qI qIl qIn qO qC xPc xKsp xUsp xKgp xVal xMod xLev xHal xEnt xLoc (vp_updL xR (Int32.toNatClampNeg (z1 &&& (31 : Int32))) z2) xV xF mOld mCnt mTab mSpc mW mP mS mD iCnt iL iN oRes oKno oGiv oTrp aVec aA aB aC aPc) H := hP
    have hD : va_D A (wX cI cJ qX qR qV qF qM qMw qMp qMs qMd qI qIl qIn qO qC xPc xKsp xUsp xKgp xVal xMod xLev xHal xEnt xLoc (vp_updL xR (Int32.toNatClampNeg (z1 &&& (31 : Int32))) z2) xV xF mOld mCnt mTab mSpc mW mP mS mD iCnt iL iN oRes oKno oGiv oTrp aVec aA aB aC aPc) := hD
    subst hu
    exact W.vret hx hb hr (fun t ht hW => ⟨rfl, by rw [ht]; exact hP, hS.F ht⟩) hS.2.2 dX4_write_16
def f_X4_set (z1 : Int32) (z2 : Int64) (mW : (Nat → Int64)) : Int32 × (Nat → Int64) := (if (if z1 < (0 : Int32) then (0 : Int32) else (if (4096 : Int32) ≤ z1 then (0 : Int32) else (if (z1 &&& (7 : Int32)) = (0 : Int32) then (1 : Int32) else (0 : Int32)))) = (0 : Int32) then ((0 : Int32), mW) else ((1 : Int32), (vp_updL mW (Int32.toNatClampNeg (z1 >>> ((3 : Int32) &&& (31 : Int32)))) z2)))
set_option maxRecDepth 100000 in
set_option maxHeartbeats 4000000 in
theorem c_X4_set (l : Launch) (dC : Nat → ClassId) (dI : Nat → Nat → Nat) (cI cJ : ClassId) (qX qR qV qF qM qMw qMp qMs qMd qI qIl qIn qO qC : Nat) (sz : Nat) (xPc : Int64) (xKsp : Int64) (xUsp : Int64) (xKgp : Int64) (xVal : Int64) (xMod : Int32) (xLev : Int32) (xHal : Int32) (xEnt : Int32) (xLoc : Int32) (xR : (Nat → Int64)) (xV : (Nat → Int64)) (xF : (Nat → Int64)) (mOld : Int32) (mCnt : Int32) (mTab : Int32) (mSpc : Int32) (mW : (Nat → Int64)) (mP : (Nat → Int32)) (mS : (Nat → Int32)) (mD : (Nat → Int64)) (iCnt : Int32) (iL : (Nat → Int32)) (iN : (Nat → Int32)) (oRes : Int64) (oKno : Int32) (oGiv : Int32) (oTrp : Int32) (aVec : Int32) (aA : Int64) (aB : Int64) (aC : Int64) (aPc : Int64) (z1 : Int32) (z2 : Int64) : Met l yX4_set (.code yX4_set cX4_set 4 (some .boolean) :: vG) ({ frames := 1, cells := 0, slots := 0, locals := 20 }) (va_Pc [.ref qX, .int z1, .long z2] (qa_pre (dC, dI) vwCl (wX cI cJ qX qR qV qF qM qMw qMp qMs qMd qI qIl qIn qO qC xPc xKsp xUsp xKgp xVal xMod xLev xHal xEnt xLoc xR xV xF mOld mCnt mTab mSpc mW mP mS mD iCnt iL iN oRes oKno oGiv oTrp aVec aA aB aC aPc) [(cI, .int), (cJ, .long)] sz)) (qa_mod (some (.int ((f_X4_set z1 z2 mW).1))) (dC, dI) vwCl (wX cI cJ qX qR qV qF qM qMw qMp qMs qMd qI qIl qIn qO qC xPc xKsp xUsp xKgp xVal xMod xLev xHal xEnt xLoc xR xV xF mOld mCnt mTab mSpc ((f_X4_set z1 z2 mW).2) mP mS mD iCnt iL iN oRes oKno oGiv oTrp aVec aA aB aC aPc) (va_A (wX cI cJ qX qR qV qF qM qMw qMp qMs qMd qI qIl qIn qO qC xPc xKsp xUsp xKgp xVal xMod xLev xHal xEnt xLoc xR xV xF mOld mCnt mTab mSpc mW mP mS mD iCnt iL iN oRes oKno oGiv oTrp aVec aA aB aC aPc) sz)) 0 0 (va_A (wX cI cJ qX qR qV qF qM qMw qMp qMs qMd qI qIl qIn qO qC xPc xKsp xUsp xKgp xVal xMod xLev xHal xEnt xLoc xR xV xF mOld mCnt mTab mSpc mW mP mS mD iCnt iL iN oRes oKno oGiv oTrp aVec aA aB aC aPc) sz) := by
  refine Met.ofW (cc := cX4_set) (maxL := 4) (ret := (some .boolean)) (by decide) rfl ?_
  intro p e s m args below meth c s₁ B hml hv
  obtain ⟨rfl, hsz, hP, hK, hD0⟩ := hv
  have hx := B.exec
  have hb := B.bytes
  have hr := B.returns
  have hts : ∀ w ∈ vG, w.before _ s = true := fun w h => atoms_spec (ws := (.code yX4_set cX4_set 4 (some .boolean) :: vG)) B.pre w (List.mem_cons_of_mem _ h)
  have hown : s.vm.findClass "LongMachine" = some m.cls := findClass_of_methodNamed B.named
  have hlocks := B.notSynchronized
  subst hsz
  have hD := hD0.self (sz := s.heap.size)
  generalize hAe : va_A (wX cI cJ qX qR qV qF qM qMw qMp qMs qMd qI qIl qIn qO qC xPc xKsp xUsp xKgp xVal xMod xLev xHal xEnt xLoc xR xV xF mOld mCnt mTab mSpc mW mP mS mD iCnt iL iN oRes oKno oGiv oTrp aVec aA aB aC aPc) s.heap.size = A at hD ⊢
  have hA : ∀ q : Nat, s.heap.size ≤ q → A q := fun q h => by rw [← hAe]; exact Or.inr h
  have hS : va_S A s.heap s.heap [] := va_S.rf
  have hl := lv_entry ([.ref qX, .int z1, .long z2]) (n := 4) (Nat.le_of_ble_eq_true rfl)
  rw [lg_entry_eq]
  generalize (lg_sl ([.ref qX, .int z1, .long z2]) ++ List.replicate (4 - (lg_sl ([.ref qX, .int z1, .long z2])).length) Slot.unset).toArray = ls at hl ⊢
  have hl : lv_has ls 4 [(0, .ref qX), (1, .int z1), (2, .long z2)] := hl
  obtain ⟨u, hu⟩ : ∃ u, u = f_X4_set z1 z2 mW := ⟨_, rfl⟩
  rw [← hu]
  unfold f_X4_set at hu
  refine lv_iload_n (pc := 0) hx hb dX4_set_0 rfl (lv_at hl 1 rfl) ?_
  refine qa_calld (pc := 1) (v := .int (if z1 < (0 : Int32) then (0 : Int32) else (if (4096 : Int32) ≤ z1 then (0 : Int32) else (if (z1 &&& (7 : Int32)) = (0 : Int32) then (1 : Int32) else (0 : Int32))))) (va_runS (As := [.int z1]) (rest := []) ⟨hx, hb, hml, hown, hts⟩ (c_X4_isWordAddress l z1) (va_cwS 1 hts (gd_S gm_131 gm_129 gm_130 gm_1) rfl rfl rfl (by decide +kernel) ⟨Nat.le_of_ble_eq_true rfl, Nat.le_of_ble_eq_true rfl⟩) qa_S0 rfl rfl hl.1 rfl (lv_room (Nat.le_of_ble_eq_true rfl)) dX4_set_1 ⟨Nat.zero_le _, Nat.zero_le _⟩) ?_
  refine lv_if_ne (pc := 4) (tgt := 9) hx hb dX4_set_4 (by decide) (fun h4_1 => ?_) (fun h4_1 => ?_)
  · have hu := hu.trans (if_neg h4_1)
    refine lv_aload_n (pc := 9) hx hb dX4_set_9 rfl (lv_at hl 0 rfl) ?_
    refine va_get (D := (dC, dI)) (pc := 10) (ci := 4) (v := .ref qM) (C := "LongMachine") (T := TX4) (N := 17) hx hb hts ui_X4 hown hK hP 0 rfl rfl 0 (by decide) (hts _ gm_91) (fun _ h9 => h9) rfl dX4_set_10 ?_
    refine va_get (D := (dC, dI)) (pc := 13) (ci := 2) (v := .ref qMw) (C := "LongMachine$Memory") (T := TX2) (N := 8) hx hb hts ui_X2 hown hK hP 4 rfl rfl 0 (by decide) (hts _ gm_21) (fun _ h9 => h9) rfl dX4_set_13 ?_
    refine lv_iload_n (pc := 16) hx hb dX4_set_16 rfl (lv_at hl 1 rfl) ?_
    refine lv_iconst (pc := 17) (v := (3 : Int32)) hx hb dX4_set_17 (by decide) ?_
    refine lv_ishr (pc := 18) hx hb dX4_set_18 ?_
    refine lv_lload_n (pc := 19) hx hb dX4_set_19 rfl (lv_at hl 2 rfl) ?_
    refine qa_last (pc := 20) (k := (Int32.toNatClampNeg (z1 >>> ((3 : Int32) &&& (31 : Int32))))) hx hb hK hP hD hS 5 1 rfl rfl rfl (rg_word h4_1) dX4_set_20 (fun H locs hP hD hS => ?_)
    have hP : va_P (dC, dI) vwCl (wX cI cJ qX qR qV qF qM qMw qMp qMs qMd qI qIl qIn qO qC xPc xKsp xUsp xKgp xVal xMod xLev xHal xEnt xLoc xR xV xF mOld mCnt mTab mSpc (vp_updL mW (Int32.toNatClampNeg (z1 >>> ((3 : Int32) &&& (31 : Int32)))) z2) mP mS mD iCnt iL iN oRes oKno oGiv oTrp aVec aA aB aC aPc) H := hP
    have hD : va_D A (wX cI cJ qX qR qV qF qM qMw qMp qMs qMd qI qIl qIn qO qC xPc xKsp xUsp xKgp xVal xMod xLev xHal xEnt xLoc xR xV xF mOld mCnt mTab mSpc (vp_updL mW (Int32.toNatClampNeg (z1 >>> ((3 : Int32) &&& (31 : Int32)))) z2) mP mS mD iCnt iL iN oRes oKno oGiv oTrp aVec aA aB aC aPc) := hD
    refine lv_iconst (pc := 21) (v := (1 : Int32)) hx hb dX4_set_21 (by decide) ?_
    subst hu
    exact W.zret hx hb hr rfl (fun t ht hW => ⟨rfl, by rw [ht]; exact hP, hS.F ht⟩) hS.2.2 dX4_set_22
  · have hu := hu.trans (if_pos h4_1)
    refine lv_iconst (pc := 7) (v := (0 : Int32)) hx hb dX4_set_7 (by decide) ?_
    subst hu
    exact W.zret hx hb hr rfl (fun t ht hW => ⟨rfl, by rw [ht]; exact hP, hS.F ht⟩) hS.2.2 dX4_set_8
def f_X4_put_K47_1 (xPc : Int64) (xKsp : Int64) (r47_1 : (Nat → Int64)) : Int32 × Int64 × Int64 × (Nat → Int64) := ((1 : Int32), xPc, xKsp, r47_1)
def f_X4_put (z1 : Int32) (z2 : Int64) (xPc : Int64) (xKsp : Int64) (xR : (Nat → Int64)) : Int32 × Int64 × Int64 × (Nat → Int64) := (if z1 < (0 : Int32) then ((0 : Int32), xPc, xKsp, xR) else (if z1 ≤ (33 : Int32) then (if z1 = (32 : Int32) then ((1 : Int32), (z2 &&& (-4 : Int64)), xKsp, xR) else (if z1 = (33 : Int32) then ((1 : Int32), xPc, z2, xR) else (f_X4_put_K47_1 xPc xKsp (f_X4_write z1 z2 xR)))) else ((0 : Int32), xPc, xKsp, xR)))
set_option maxRecDepth 100000 in
set_option maxHeartbeats 4000000 in
theorem c_X4_put (l : Launch) (dC : Nat → ClassId) (dI : Nat → Nat → Nat) (cI cJ : ClassId) (qX qR qV qF qM qMw qMp qMs qMd qI qIl qIn qO qC : Nat) (sz : Nat) (xPc : Int64) (xKsp : Int64) (xUsp : Int64) (xKgp : Int64) (xVal : Int64) (xMod : Int32) (xLev : Int32) (xHal : Int32) (xEnt : Int32) (xLoc : Int32) (xR : (Nat → Int64)) (xV : (Nat → Int64)) (xF : (Nat → Int64)) (mOld : Int32) (mCnt : Int32) (mTab : Int32) (mSpc : Int32) (mW : (Nat → Int64)) (mP : (Nat → Int32)) (mS : (Nat → Int32)) (mD : (Nat → Int64)) (iCnt : Int32) (iL : (Nat → Int32)) (iN : (Nat → Int32)) (oRes : Int64) (oKno : Int32) (oGiv : Int32) (oTrp : Int32) (aVec : Int32) (aA : Int64) (aB : Int64) (aC : Int64) (aPc : Int64) (z1 : Int32) (z2 : Int64) : Met l yX4_put (.code yX4_put cX4_put 4 (some .boolean) :: vG) ({ frames := 1, cells := 0, slots := 0, locals := 23 }) (va_Pc [.ref qX, .int z1, .long z2] (qa_pre (dC, dI) vwCl (wX cI cJ qX qR qV qF qM qMw qMp qMs qMd qI qIl qIn qO qC xPc xKsp xUsp xKgp xVal xMod xLev xHal xEnt xLoc xR xV xF mOld mCnt mTab mSpc mW mP mS mD iCnt iL iN oRes oKno oGiv oTrp aVec aA aB aC aPc) [(cI, .int), (cJ, .long)] sz)) (qa_mod (some (.int ((f_X4_put z1 z2 xPc xKsp xR).1))) (dC, dI) vwCl (wX cI cJ qX qR qV qF qM qMw qMp qMs qMd qI qIl qIn qO qC ((f_X4_put z1 z2 xPc xKsp xR).2.1) ((f_X4_put z1 z2 xPc xKsp xR).2.2.1) xUsp xKgp xVal xMod xLev xHal xEnt xLoc ((f_X4_put z1 z2 xPc xKsp xR).2.2.2) xV xF mOld mCnt mTab mSpc mW mP mS mD iCnt iL iN oRes oKno oGiv oTrp aVec aA aB aC aPc) (va_A (wX cI cJ qX qR qV qF qM qMw qMp qMs qMd qI qIl qIn qO qC xPc xKsp xUsp xKgp xVal xMod xLev xHal xEnt xLoc xR xV xF mOld mCnt mTab mSpc mW mP mS mD iCnt iL iN oRes oKno oGiv oTrp aVec aA aB aC aPc) sz)) 0 0 (va_A (wX cI cJ qX qR qV qF qM qMw qMp qMs qMd qI qIl qIn qO qC xPc xKsp xUsp xKgp xVal xMod xLev xHal xEnt xLoc xR xV xF mOld mCnt mTab mSpc mW mP mS mD iCnt iL iN oRes oKno oGiv oTrp aVec aA aB aC aPc) sz) := by
  refine Met.ofW (cc := cX4_put) (maxL := 4) (ret := (some .boolean)) (by decide) rfl ?_
  intro p e s m args below meth c s₁ B hml hv
  obtain ⟨rfl, hsz, hP, hK, hD0⟩ := hv
  have hx := B.exec
  have hb := B.bytes
  have hr := B.returns
  have hts : ∀ w ∈ vG, w.before _ s = true := fun w h => atoms_spec (ws := (.code yX4_put cX4_put 4 (some .boolean) :: vG)) B.pre w (List.mem_cons_of_mem _ h)
  have hown : s.vm.findClass "LongMachine" = some m.cls := findClass_of_methodNamed B.named
  have hlocks := B.notSynchronized
  subst hsz
  have hD := hD0.self (sz := s.heap.size)
  generalize hAe : va_A (wX cI cJ qX qR qV qF qM qMw qMp qMs qMd qI qIl qIn qO qC xPc xKsp xUsp xKgp xVal xMod xLev xHal xEnt xLoc xR xV xF mOld mCnt mTab mSpc mW mP mS mD iCnt iL iN oRes oKno oGiv oTrp aVec aA aB aC aPc) s.heap.size = A at hD ⊢
  have hA : ∀ q : Nat, s.heap.size ≤ q → A q := fun q h => by rw [← hAe]; exact Or.inr h
  have hS : va_S A s.heap s.heap [] := va_S.rf
  have hl := lv_entry ([.ref qX, .int z1, .long z2]) (n := 4) (Nat.le_of_ble_eq_true rfl)
  rw [lg_entry_eq]
  generalize (lg_sl ([.ref qX, .int z1, .long z2]) ++ List.replicate (4 - (lg_sl ([.ref qX, .int z1, .long z2])).length) Slot.unset).toArray = ls at hl ⊢
  have hl : lv_has ls 4 [(0, .ref qX), (1, .int z1), (2, .long z2)] := hl
  obtain ⟨u, hu⟩ : ∃ u, u = f_X4_put z1 z2 xPc xKsp xR := ⟨_, rfl⟩
  rw [← hu]
  unfold f_X4_put at hu
  refine lv_iload_n (pc := 0) hx hb dX4_put_0 rfl (lv_at hl 1 rfl) ?_
  refine lv_if_lt (pc := 1) (tgt := 10) hx hb dX4_put_1 (by decide) (fun h1_1 => ?_) (fun h1_1 => ?_)
  · have hu := hu.trans (if_pos h1_1)
    refine lv_iconst (pc := 10) (v := (0 : Int32)) hx hb dX4_put_10 (by decide) ?_
    subst hu
    exact W.zret hx hb hr rfl (fun t ht hW => ⟨rfl, by rw [ht]; exact hP, hS.F ht⟩) hS.2.2 dX4_put_11
  · have hu := hu.trans (if_neg h1_1)
    refine lv_iload_n (pc := 4) hx hb dX4_put_4 rfl (lv_at hl 1 rfl) ?_
    refine lv_bipush (pc := 5) (v := (33 : Int32)) hx hb dX4_put_5 (by decide) ?_
    refine lv_icmp_le (pc := 7) (tgt := 12) hx hb dX4_put_7 (by decide) (fun h7_2 => ?_) (fun h7_2 => ?_)
    · have hu := hu.trans (if_pos h7_2)
      refine lv_iload_n (pc := 12) hx hb dX4_put_12 rfl (lv_at hl 1 rfl) ?_
      refine lv_bipush (pc := 13) (v := (32 : Int32)) hx hb dX4_put_13 (by decide) ?_
      refine lv_icmp_ne (pc := 15) (tgt := 30) hx hb dX4_put_15 (by decide) (fun h15_3 => ?_) (fun h15_3 => ?_)
      · have hu := hu.trans (if_neg h15_3)
        refine lv_iload_n (pc := 30) hx hb dX4_put_30 rfl (lv_at hl 1 rfl) ?_
        refine lv_bipush (pc := 31) (v := (33 : Int32)) hx hb dX4_put_31 (by decide) ?_
        refine lv_icmp_ne (pc := 33) (tgt := 44) hx hb dX4_put_33 (by decide) (fun h33_4 => ?_) (fun h33_4 => ?_)
        · have hu := hu.trans (if_neg h33_4)
          refine lv_aload_n (pc := 44) hx hb dX4_put_44 rfl (lv_at hl 0 rfl) ?_
          refine lv_iload_n (pc := 45) hx hb dX4_put_45 rfl (lv_at hl 1 rfl) ?_
          refine lv_lload_n (pc := 46) hx hb dX4_put_46 rfl (lv_at hl 2 rfl) ?_
          have hc := c_X4_write l dC dI cI cJ qX qR qV qF qM qMw qMp qMs qMd qI qIl qIn qO qC s.heap.size xPc xKsp xUsp xKgp xVal xMod xLev xHal xEnt xLoc xR xV xF mOld mCnt mTab mSpc mW mP mS mD iCnt iL iN oRes oKno oGiv oTrp aVec aA aB aC aPc z1 z2
          generalize er47_1 : f_X4_write z1 z2 xR = r47_1 at hu hc
          unfold f_X4_put_K47_1 at hu
          refine qa_callv (pc := 47) (wr := []) (wf := (wX cI cJ qX qR qV qF qM qMw qMp qMs qMd qI qIl qIn qO qC xPc xKsp xUsp xKgp xVal xMod xLev xHal xEnt xLoc r47_1 xV xF mOld mCnt mTab mSpc mW mP mS mD iCnt iL iN oRes oKno oGiv oTrp aVec aA aB aC aPc)) (va_runV (As := [.int z1, .long z2]) (rest := []) ⟨hx, hb, hml, hown, hts⟩ hc (cwV 2 hts (gd_V gm_139 gm_137 gm_138 gm_548 gm_1) rfl rfl rfl (by decide +kernel) ⟨Nat.le_of_ble_eq_true rfl, Nat.le_of_ble_eq_true rfl⟩) (qa_VM (q0 := 0) (q := ("LongMachine", TX4, 17)) hK hP rfl rfl hP hD) rfl rfl hl.1 rfl (lv_room (Nat.le_of_ble_eq_true rfl)) dX4_put_47 ⟨Nat.zero_le _, Nat.zero_le _⟩) hP hD hS hA [0, 1, 2, 3, 4, 5, 6, 7, 8, 9, 10, 11, 12, 13] [] [0, 1, 2, 3, 4, 5, 6, 7, 8, 9, 10, 11, 12, 13] rfl (by decide) rfl (by decide) (by decide) rfl rfl (by decide) (fun H locs hP hD hS => ?_)
          refine lv_iconst (pc := 50) (v := (1 : Int32)) hx hb dX4_put_50 (by decide) ?_
          subst hu
          exact W.zret hx hb hr rfl (fun t ht hW => ⟨rfl, by rw [ht]; exact hP, hS.F ht⟩) hS.2.2 dX4_put_51
        · have hu := hu.trans (if_pos h33_4)
          refine lv_aload_n (pc := 36) hx hb dX4_put_36 rfl (lv_at hl 0 rfl) ?_
          refine lv_lload_n (pc := 37) hx hb dX4_put_37 rfl (lv_at hl 2 rfl) ?_
          refine va_put (D := (dC, dI)) (pc := 38) (ci := 4) (v := .long z2) (ty := .long) (C := "LongMachine") (T := TX4) (N := 17) hx hb hts ui_X4 tyX4 tyX4_ok nmX4 hown hK hP hD hS 0 rfl rfl 8 (by decide) (hts _ gm_99) (fun _ h9 => h9) rfl (by decide +kernel) rfl rfl (Nat.le_of_ble_eq_true rfl) dX4_put_38 (fun H locs hP hD hS => ?_)
          have hP : va_P (dC, dI) vwCl (wX cI cJ qX qR qV qF qM qMw qMp qMs qMd qI qIl qIn qO qC xPc z2 xUsp xKgp xVal xMod xLev xHal xEnt xLoc xR xV xF mOld mCnt mTab mSpc mW mP mS mD iCnt iL iN oRes oKno oGiv oTrp aVec aA aB aC aPc) H := hP
          have hD : va_D A (wX cI cJ qX qR qV qF qM qMw qMp qMs qMd qI qIl qIn qO qC xPc z2 xUsp xKgp xVal xMod xLev xHal xEnt xLoc xR xV xF mOld mCnt mTab mSpc mW mP mS mD iCnt iL iN oRes oKno oGiv oTrp aVec aA aB aC aPc) := hD
          refine lv_goto (pc := 41) (tgt := 50) hx hb dX4_put_41 (by decide) ?_
          refine lv_iconst (pc := 50) (v := (1 : Int32)) hx hb dX4_put_50 (by decide) ?_
          subst hu
          exact W.zret hx hb hr rfl (fun t ht hW => ⟨rfl, by rw [ht]; exact hP, hS.F ht⟩) hS.2.2 dX4_put_51
      · have hu := hu.trans (if_pos h15_3)
        refine lv_aload_n (pc := 18) hx hb dX4_put_18 rfl (lv_at hl 0 rfl) ?_
        refine lv_lload_n (pc := 19) hx hb dX4_put_19 rfl (lv_at hl 2 rfl) ?_
        refine lv_ldc2 (pc := 20) (v := (-4 : Int64)) hx hb hown (hts _ gm_136) dX4_put_20 ?_
        refine lv_land (pc := 23) hx hb dX4_put_23 ?_
        refine va_put (D := (dC, dI)) (pc := 24) (ci := 4) (v := .long (z2 &&& (-4 : Int64))) (ty := .long) (C := "LongMachine") (T := TX4) (N := 17) hx hb hts ui_X4 tyX4 tyX4_ok nmX4 hown hK hP hD hS 0 rfl rfl 7 (by decide) (hts _ gm_98) (fun _ h9 => h9) rfl (by decide +kernel) rfl rfl (Nat.le_of_ble_eq_true rfl) dX4_put_24 (fun H locs hP hD hS => ?_)
        have hP : va_P (dC, dI) vwCl (wX cI cJ qX qR qV qF qM qMw qMp qMs qMd qI qIl qIn qO qC (z2 &&& (-4 : Int64)) xKsp xUsp xKgp xVal xMod xLev xHal xEnt xLoc xR xV xF mOld mCnt mTab mSpc mW mP mS mD iCnt iL iN oRes oKno oGiv oTrp aVec aA aB aC aPc) H := hP
        have hD : va_D A (wX cI cJ qX qR qV qF qM qMw qMp qMs qMd qI qIl qIn qO qC (z2 &&& (-4 : Int64)) xKsp xUsp xKgp xVal xMod xLev xHal xEnt xLoc xR xV xF mOld mCnt mTab mSpc mW mP mS mD iCnt iL iN oRes oKno oGiv oTrp aVec aA aB aC aPc) := hD
        refine lv_goto (pc := 27) (tgt := 50) hx hb dX4_put_27 (by decide) ?_
        refine lv_iconst (pc := 50) (v := (1 : Int32)) hx hb dX4_put_50 (by decide) ?_
        subst hu
        exact W.zret hx hb hr rfl (fun t ht hW => ⟨rfl, by rw [ht]; exact hP, hS.F ht⟩) hS.2.2 dX4_put_51
    · have hu := hu.trans (if_neg h7_2)
      refine lv_iconst (pc := 10) (v := (0 : Int32)) hx hb dX4_put_10 (by decide) ?_
      subst hu
      exact W.zret hx hb hr rfl (fun t ht hW => ⟨rfl, by rw [ht]; exact hP, hS.F ht⟩) hS.2.2 dX4_put_11
def f_X4_interrupt_K30_1  (r30_1 : Int32 × Int32 × (Nat → Int32) × (Nat → Int32)) : Int32 × Int32 × (Nat → Int32) × (Nat → Int32) := (r30_1.1, r30_1.2.1, r30_1.2.2.1, r30_1.2.2.2)
def f_X4_interrupt (z1 : Int32) (z2 : Int32) (iCnt : Int32) (iL : (Nat → Int32)) (iN : (Nat → Int32)) : Int32 × Int32 × (Nat → Int32) × (Nat → Int32) := (if z1 < (1 : Int32) then ((0 : Int32), iCnt, iL, iN) else (if (7 : Int32) < z1 then ((0 : Int32), iCnt, iL, iN) else (if z2 < (0 : Int32) then ((0 : Int32), iCnt, iL, iN) else (if z2 ≤ (255 : Int32) then (f_X4_interrupt_K30_1  (f_X1_add z1 z2 iCnt iL iN)) else ((0 : Int32), iCnt, iL, iN)))))
set_option maxRecDepth 100000 in
set_option maxHeartbeats 4000000 in
theorem c_X4_interrupt (l : Launch) (dC : Nat → ClassId) (dI : Nat → Nat → Nat) (cI cJ : ClassId) (qX qR qV qF qM qMw qMp qMs qMd qI qIl qIn qO qC : Nat) (sz : Nat) (xPc : Int64) (xKsp : Int64) (xUsp : Int64) (xKgp : Int64) (xVal : Int64) (xMod : Int32) (xLev : Int32) (xHal : Int32) (xEnt : Int32) (xLoc : Int32) (xR : (Nat → Int64)) (xV : (Nat → Int64)) (xF : (Nat → Int64)) (mOld : Int32) (mCnt : Int32) (mTab : Int32) (mSpc : Int32) (mW : (Nat → Int64)) (mP : (Nat → Int32)) (mS : (Nat → Int32)) (mD : (Nat → Int64)) (iCnt : Int32) (iL : (Nat → Int32)) (iN : (Nat → Int32)) (oRes : Int64) (oKno : Int32) (oGiv : Int32) (oTrp : Int32) (aVec : Int32) (aA : Int64) (aB : Int64) (aC : Int64) (aPc : Int64) (z1 : Int32) (z2 : Int32) (hi0 : 0 ≤ iCnt.toInt) : Met l yX4_interrupt (.code yX4_interrupt cX4_interrupt 3 (some .boolean) :: vG) ({ frames := 1, cells := 0, slots := 0, locals := 22 }) (va_Pc [.ref qX, .int z1, .int z2] (qa_pre (dC, dI) vwCl (wX cI cJ qX qR qV qF qM qMw qMp qMs qMd qI qIl qIn qO qC xPc xKsp xUsp xKgp xVal xMod xLev xHal xEnt xLoc xR xV xF mOld mCnt mTab mSpc mW mP mS mD iCnt iL iN oRes oKno oGiv oTrp aVec aA aB aC aPc) [(cI, .int), (cJ, .long)] sz)) (qa_mod (some (.int ((f_X4_interrupt z1 z2 iCnt iL iN).1))) (dC, dI) vwCl (wX cI cJ qX qR qV qF qM qMw qMp qMs qMd qI qIl qIn qO qC xPc xKsp xUsp xKgp xVal xMod xLev xHal xEnt xLoc xR xV xF mOld mCnt mTab mSpc mW mP mS mD ((f_X4_interrupt z1 z2 iCnt iL iN).2.1) ((f_X4_interrupt z1 z2 iCnt iL iN).2.2.1) ((f_X4_interrupt z1 z2 iCnt iL iN).2.2.2) oRes oKno oGiv oTrp aVec aA aB aC aPc) (va_A (wX cI cJ qX qR qV qF qM qMw qMp qMs qMd qI qIl qIn qO qC xPc xKsp xUsp xKgp xVal xMod xLev xHal xEnt xLoc xR xV xF mOld mCnt mTab mSpc mW mP mS mD iCnt iL iN oRes oKno oGiv oTrp aVec aA aB aC aPc) sz)) 0 0 (va_A (wX cI cJ qX qR qV qF qM qMw qMp qMs qMd qI qIl qIn qO qC xPc xKsp xUsp xKgp xVal xMod xLev xHal xEnt xLoc xR xV xF mOld mCnt mTab mSpc mW mP mS mD iCnt iL iN oRes oKno oGiv oTrp aVec aA aB aC aPc) sz) := by
  refine Met.ofW (cc := cX4_interrupt) (maxL := 3) (ret := (some .boolean)) (by decide) rfl ?_
  intro p e s m args below meth c s₁ B hml hv
  obtain ⟨rfl, hsz, hP, hK, hD0⟩ := hv
  have hx := B.exec
  have hb := B.bytes
  have hr := B.returns
  have hts : ∀ w ∈ vG, w.before _ s = true := fun w h => atoms_spec (ws := (.code yX4_interrupt cX4_interrupt 3 (some .boolean) :: vG)) B.pre w (List.mem_cons_of_mem _ h)
  have hown : s.vm.findClass "LongMachine" = some m.cls := findClass_of_methodNamed B.named
  have hlocks := B.notSynchronized
  subst hsz
  have hD := hD0.self (sz := s.heap.size)
  generalize hAe : va_A (wX cI cJ qX qR qV qF qM qMw qMp qMs qMd qI qIl qIn qO qC xPc xKsp xUsp xKgp xVal xMod xLev xHal xEnt xLoc xR xV xF mOld mCnt mTab mSpc mW mP mS mD iCnt iL iN oRes oKno oGiv oTrp aVec aA aB aC aPc) s.heap.size = A at hD ⊢
  have hA : ∀ q : Nat, s.heap.size ≤ q → A q := fun q h => by rw [← hAe]; exact Or.inr h
  have hS : va_S A s.heap s.heap [] := va_S.rf
  have hl := lv_entry ([.ref qX, .int z1, .int z2]) (n := 3) (Nat.le_of_ble_eq_true rfl)
  rw [lg_entry_eq]
  generalize (lg_sl ([.ref qX, .int z1, .int z2]) ++ List.replicate (3 - (lg_sl ([.ref qX, .int z1, .int z2])).length) Slot.unset).toArray = ls at hl ⊢
  have hl : lv_has ls 3 [(0, .ref qX), (1, .int z1), (2, .int z2)] := hl
  obtain ⟨u, hu⟩ : ∃ u, u = f_X4_interrupt z1 z2 iCnt iL iN := ⟨_, rfl⟩
  rw [← hu]
  unfold f_X4_interrupt at hu
  refine lv_iload_n (pc := 0) hx hb dX4_interrupt_0 rfl (lv_at hl 1 rfl) ?_
  refine lv_iconst (pc := 1) (v := (1 : Int32)) hx hb dX4_interrupt_1 (by decide) ?_
  refine lv_icmp_lt (pc := 2) (tgt := 22) hx hb dX4_interrupt_2 (by decide) (fun h2_1 => ?_) (fun h2_1 => ?_)
  · have hu := hu.trans (if_pos h2_1)
    refine lv_iconst (pc := 22) (v := (0 : Int32)) hx hb dX4_interrupt_22 (by decide) ?_
    subst hu
    exact W.zret hx hb hr rfl (fun t ht hW => ⟨rfl, by rw [ht]; exact hP, hS.F ht⟩) hS.2.2 dX4_interrupt_23
  · have hu := hu.trans (if_neg h2_1)
    refine lv_iload_n (pc := 5) hx hb dX4_interrupt_5 rfl (lv_at hl 1 rfl) ?_
    refine lv_bipush (pc := 6) (v := (7 : Int32)) hx hb dX4_interrupt_6 (by decide) ?_
    refine lv_icmp_gt (pc := 8) (tgt := 22) hx hb dX4_interrupt_8 (by decide) (fun h8_2 => ?_) (fun h8_2 => ?_)
    · have hu := hu.trans (if_pos h8_2)
      refine lv_iconst (pc := 22) (v := (0 : Int32)) hx hb dX4_interrupt_22 (by decide) ?_
      subst hu
      exact W.zret hx hb hr rfl (fun t ht hW => ⟨rfl, by rw [ht]; exact hP, hS.F ht⟩) hS.2.2 dX4_interrupt_23
    · have hu := hu.trans (if_neg h8_2)
      refine lv_iload_n (pc := 11) hx hb dX4_interrupt_11 rfl (lv_at hl 2 rfl) ?_
      refine lv_if_lt (pc := 12) (tgt := 22) hx hb dX4_interrupt_12 (by decide) (fun h12_3 => ?_) (fun h12_3 => ?_)
      · have hu := hu.trans (if_pos h12_3)
        refine lv_iconst (pc := 22) (v := (0 : Int32)) hx hb dX4_interrupt_22 (by decide) ?_
        subst hu
        exact W.zret hx hb hr rfl (fun t ht hW => ⟨rfl, by rw [ht]; exact hP, hS.F ht⟩) hS.2.2 dX4_interrupt_23
      · have hu := hu.trans (if_neg h12_3)
        refine lv_iload_n (pc := 15) hx hb dX4_interrupt_15 rfl (lv_at hl 2 rfl) ?_
        refine lv_sipush (pc := 16) (v := (255 : Int32)) hx hb dX4_interrupt_16 (by decide) ?_
        refine lv_icmp_le (pc := 19) (tgt := 24) hx hb dX4_interrupt_19 (by decide) (fun h19_4 => ?_) (fun h19_4 => ?_)
        · have hu := hu.trans (if_pos h19_4)
          refine lv_aload_n (pc := 24) hx hb dX4_interrupt_24 rfl (lv_at hl 0 rfl) ?_
          refine va_get (D := (dC, dI)) (pc := 25) (ci := 4) (v := .ref qI) (C := "LongMachine") (T := TX4) (N := 17) hx hb hts ui_X4 hown hK hP 0 rfl rfl 4 (by decide) (hts _ gm_95) (fun _ h9 => h9) rfl dX4_interrupt_25 ?_
          refine lv_iload_n (pc := 28) hx hb dX4_interrupt_28 rfl (lv_at hl 1 rfl) ?_
          refine lv_iload_n (pc := 29) hx hb dX4_interrupt_29 rfl (lv_at hl 2 rfl) ?_
          have hc := c_X1_add l dC dI cI cJ qI qIl qIn s.heap.size iCnt iL iN z1 z2 (hi0)
          generalize er30_1 : f_X1_add z1 z2 iCnt iL iN = r30_1 at hu hc
          unfold f_X4_interrupt_K30_1 at hu
          refine qa_calli (pc := 30) (wr := [(qX, .inr (4, [.ref qM, .ref qR, .ref qV, .ref qF, .ref qI, .ref qO, .ref qC, .long xPc, .long xKsp, .long xUsp, .long xKgp, .long xVal, .int xMod, .int xLev, .int xHal, .int xEnt, .int xLoc])), (qR, .inl (cJ, 32, .inr (.inl xR))), (qV, .inl (cJ, 6, .inr (.inl xV))), (qF, .inl (cJ, 6, .inr (.inl xF))), (qM, .inr (2, [.ref qMw, .ref qMp, .ref qMs, .ref qMd, .int mOld, .int mCnt, .int mTab, .int mSpc])), (qMw, .inl (cJ, 512, .inr (.inl mW))), (qMp, .inl (cI, 4, .inl mP)), (qMs, .inl (cI, 4, .inl mS)), (qMd, .inl (cJ, 4, .inr (.inl mD))), (qO, .inr (3, [.long oRes, .int oKno, .int oGiv, .int oTrp])), (qC, .inr (0, [.int aVec, .long aA, .long aB, .long aC, .long aPc]))]) (wf := (wX cI cJ qX qR qV qF qM qMw qMp qMs qMd qI qIl qIn qO qC xPc xKsp xUsp xKgp xVal xMod xLev xHal xEnt xLoc xR xV xF mOld mCnt mTab mSpc mW mP mS mD r30_1.2.1 r30_1.2.2.1 r30_1.2.2.2 oRes oKno oGiv oTrp aVec aA aB aC aPc)) (va_runV (As := [.int z1, .int z2]) (rest := []) ⟨hx, hb, hml, hown, hts⟩ hc (cwV 2 hts (gd_V gm_147 gm_144 gm_145 gm_146 gm_3) rfl rfl rfl (by decide +kernel) ⟨Nat.le_of_ble_eq_true rfl, Nat.le_of_ble_eq_true rfl⟩) (qa_VM (q0 := 9) (q := ("LongMachine$Interrupts", TX1, 3)) hK hP rfl rfl (hP.sub (ws' := (wI cI cJ qI qIl qIn iCnt iL iN)) [9, 10, 11] rfl) (hD.sub (ws' := (wI cI cJ qI qIl qIn iCnt iL iN)) [9, 10, 11] (by decide) rfl)) rfl rfl hl.1 rfl (lv_room (Nat.le_of_ble_eq_true rfl)) dX4_interrupt_30 ⟨Nat.zero_le _, Nat.zero_le _⟩) hP hD hS hA [9, 10, 11] [0, 1, 2, 3, 4, 5, 6, 7, 8, 12, 13] [0, 1, 2, 3, 4, 5, 6, 7, 8, 11, 12, 13, 9, 10] rfl (by decide) rfl (by decide) (by decide) rfl rfl (by decide) (fun H locs hP hD hS => ?_)
          subst hu
          exact W.zret hx hb hr (qa_nb (by rw [← er30_1]; exact rgf_add01 _ _ _ _ _)) (fun t ht hW => ⟨rfl, by rw [ht]; exact hP, hS.F ht⟩) hS.2.2 dX4_interrupt_33
        · have hu := hu.trans (if_neg h19_4)
          refine lv_iconst (pc := 22) (v := (0 : Int32)) hx hb dX4_interrupt_22 (by decide) ?_
          subst hu
          exact W.zret hx hb hr rfl (fun t ht hW => ⟨rfl, by rw [ht]; exact hP, hS.F ht⟩) hS.2.2 dX4_interrupt_23
def f_X4_register (z1 : Int32) (xPc : Int64) (xKsp : Int64) (xUsp : Int64) (xKgp : Int64) (xVal : Int64) (xR : (Nat → Int64)) (xV : (Nat → Int64)) (mTab : Int32) (mSpc : Int32) : Int64 := (if z1 < (0 : Int32) then (if z1 < (40 : Int32) then (if z1 = (32 : Int32) then xPc else (if z1 = (33 : Int32) then xKsp else (if z1 = (34 : Int32) then xUsp else (if z1 = (35 : Int32) then xKgp else (if z1 = (36 : Int32) then xVal else (if z1 = (37 : Int32) then (Int32.toInt64 mTab) else (if z1 = (38 : Int32) then (Int32.toInt64 mSpc) else (-1 : Int64)))))))) else (if (45 : Int32) < z1 then (if z1 = (32 : Int32) then xPc else (if z1 = (33 : Int32) then xKsp else (if z1 = (34 : Int32) then xUsp else (if z1 = (35 : Int32) then xKgp else (if z1 = (36 : Int32) then xVal else (if z1 = (37 : Int32) then (Int32.toInt64 mTab) else (if z1 = (38 : Int32) then (Int32.toInt64 mSpc) else (-1 : Int64)))))))) else (xV (Int32.toNatClampNeg (z1 - (40 : Int32)))))) else (if (32 : Int32) ≤ z1 then (if z1 < (40 : Int32) then (if z1 = (32 : Int32) then xPc else (if z1 = (33 : Int32) then xKsp else (if z1 = (34 : Int32) then xUsp else (if z1 = (35 : Int32) then xKgp else (if z1 = (36 : Int32) then xVal else (if z1 = (37 : Int32) then (Int32.toInt64 mTab) else (if z1 = (38 : Int32) then (Int32.toInt64 mSpc) else (-1 : Int64)))))))) else (if (45 : Int32) < z1 then (if z1 = (32 : Int32) then xPc else (if z1 = (33 : Int32) then xKsp else (if z1 = (34 : Int32) then xUsp else (if z1 = (35 : Int32) then xKgp else (if z1 = (36 : Int32) then xVal else (if z1 = (37 : Int32) then (Int32.toInt64 mTab) else (if z1 = (38 : Int32) then (Int32.toInt64 mSpc) else (-1 : Int64)))))))) else (xV (Int32.toNatClampNeg (z1 - (40 : Int32)))))) else (xR (Int32.toNatClampNeg z1))))
set_option maxRecDepth 100000 in
set_option maxHeartbeats 4000000 in
theorem c_X4_register (l : Launch) (dC : Nat → ClassId) (dI : Nat → Nat → Nat) (cI cJ : ClassId) (qX qR qV qF qM qMw qMp qMs qMd qI qIl qIn qO qC : Nat) (xPc : Int64) (xKsp : Int64) (xUsp : Int64) (xKgp : Int64) (xVal : Int64) (xMod : Int32) (xLev : Int32) (xHal : Int32) (xEnt : Int32) (xLoc : Int32) (xR : (Nat → Int64)) (xV : (Nat → Int64)) (xF : (Nat → Int64)) (mOld : Int32) (mCnt : Int32) (mTab : Int32) (mSpc : Int32) (mW : (Nat → Int64)) (mP : (Nat → Int32)) (mS : (Nat → Int32)) (mD : (Nat → Int64)) (iCnt : Int32) (iL : (Nat → Int32)) (iN : (Nat → Int32)) (oRes : Int64) (oKno : Int32) (oGiv : Int32) (oTrp : Int32) (aVec : Int32) (aA : Int64) (aB : Int64) (aC : Int64) (aPc : Int64) (z1 : Int32) : Met l yX4_register (.code yX4_register cX4_register 2 (some .long) :: vG) ({ frames := 0, cells := 0, slots := 0, locals := 0 }) (va_Pc [.ref qX, .int z1] (qa_preR (dC, dI) vwCl (wX cI cJ qX qR qV qF qM qMw qMp qMs qMd qI qIl qIn qO qC xPc xKsp xUsp xKgp xVal xMod xLev xHal xEnt xLoc xR xV xF mOld mCnt mTab mSpc mW mP mS mD iCnt iL iN oRes oKno oGiv oTrp aVec aA aB aC aPc) [(cI, .int), (cJ, .long)])) (qa_det (.long (f_X4_register z1 xPc xKsp xUsp xKgp xVal xR xV mTab mSpc))) 0 0 (fun _ => False) := by
  refine Met.ofW (cc := cX4_register) (maxL := 2) (ret := (some .long)) (by decide) rfl ?_
  intro p e s m args below meth c s₁ B hml hv
  obtain ⟨rfl, hP, hK⟩ := hv
  have hx := B.exec
  have hb := B.bytes
  have hr := B.returns
  have hts : ∀ w ∈ vG, w.before _ s = true := fun w h => atoms_spec (ws := (.code yX4_register cX4_register 2 (some .long) :: vG)) B.pre w (List.mem_cons_of_mem _ h)
  have hown : s.vm.findClass "LongMachine" = some m.cls := findClass_of_methodNamed B.named
  have hlocks := B.notSynchronized
  have hl := lv_entry ([.ref qX, .int z1]) (n := 2) (Nat.le_of_ble_eq_true rfl)
  rw [lg_entry_eq]
  generalize (lg_sl ([.ref qX, .int z1]) ++ List.replicate (2 - (lg_sl ([.ref qX, .int z1])).length) Slot.unset).toArray = ls at hl ⊢
  have hl : lv_has ls 2 [(0, .ref qX), (1, .int z1)] := hl
  obtain ⟨u, hu⟩ : ∃ u, u = f_X4_register z1 xPc xKsp xUsp xKgp xVal xR xV mTab mSpc := ⟨_, rfl⟩
  rw [← hu]
  unfold f_X4_register at hu
  refine lv_iload_n (pc := 0) hx hb dX4_register_0 rfl (lv_at hl 1 rfl) ?_
  refine lv_if_lt (pc := 1) (tgt := 17) hx hb dX4_register_1 (by decide) (fun h1_1 => ?_) (fun h1_1 => ?_)
  · have hu := hu.trans (if_pos h1_1)
    refine lv_iload_n (pc := 17) hx hb dX4_register_17 rfl (lv_at hl 1 rfl) ?_
    refine lv_bipush (pc := 18) (v := (40 : Int32)) hx hb dX4_register_18 (by decide) ?_
    refine lv_icmp_lt (pc := 20) (tgt := 39) hx hb dX4_register_20 (by decide) (fun h20_2 => ?_) (fun h20_2 => ?_)
    · have hu := hu.trans (if_pos h20_2)
      refine lv_iload_n (pc := 39) hx hb dX4_register_39 rfl (lv_at hl 1 rfl) ?_
      rcases Decidable.em (z1 = (32 : Int32)) with h40_3 | h40_3
      · have hu := hu.trans (if_pos h40_3)
        refine qa_table (pc := 40) (tgt := 84) (off := 44) hx hb dX4_register_40 (Or.inr (by rw [h40_3]; decide)) (by decide) ?_
        refine lv_aload_n (pc := 84) hx hb dX4_register_84 rfl (lv_at hl 0 rfl) ?_
        refine va_get (D := (dC, dI)) (pc := 85) (ci := 4) (v := .long xPc) (C := "LongMachine") (T := TX4) (N := 17) hx hb hts ui_X4 hown hK hP 0 rfl rfl 7 (by decide) (hts _ gm_98) (fun _ h9 => h9) rfl dX4_register_85 ?_
        subst hu
        exact W.lret hx hb hr (fun t ht hW => ⟨rfl, ht⟩) (fun _ h => by cases h) dX4_register_88
      · have hu := hu.trans (if_neg h40_3)
        have n40_0 : ¬ z1 = (32 : Int32) := h40_3
        rcases Decidable.em (z1 = (33 : Int32)) with h40_4 | h40_4
        · have hu := hu.trans (if_pos h40_4)
          refine qa_table (pc := 40) (tgt := 89) (off := 49) hx hb dX4_register_40 (Or.inr (by rw [h40_4]; decide)) (by decide) ?_
          refine lv_aload_n (pc := 89) hx hb dX4_register_89 rfl (lv_at hl 0 rfl) ?_
          refine va_get (D := (dC, dI)) (pc := 90) (ci := 4) (v := .long xKsp) (C := "LongMachine") (T := TX4) (N := 17) hx hb hts ui_X4 hown hK hP 0 rfl rfl 8 (by decide) (hts _ gm_99) (fun _ h9 => h9) rfl dX4_register_90 ?_
          subst hu
          exact W.lret hx hb hr (fun t ht hW => ⟨rfl, ht⟩) (fun _ h => by cases h) dX4_register_93
        · have hu := hu.trans (if_neg h40_4)
          have n40_1 : ¬ z1 = (33 : Int32) := h40_4
          rcases Decidable.em (z1 = (34 : Int32)) with h40_5 | h40_5
          · have hu := hu.trans (if_pos h40_5)
            refine qa_table (pc := 40) (tgt := 94) (off := 54) hx hb dX4_register_40 (Or.inr (by rw [h40_5]; decide)) (by decide) ?_
            refine lv_aload_n (pc := 94) hx hb dX4_register_94 rfl (lv_at hl 0 rfl) ?_
            refine va_get (D := (dC, dI)) (pc := 95) (ci := 4) (v := .long xUsp) (C := "LongMachine") (T := TX4) (N := 17) hx hb hts ui_X4 hown hK hP 0 rfl rfl 9 (by decide) (hts _ gm_100) (fun _ h9 => h9) rfl dX4_register_95 ?_
            subst hu
            exact W.lret hx hb hr (fun t ht hW => ⟨rfl, ht⟩) (fun _ h => by cases h) dX4_register_98
          · have hu := hu.trans (if_neg h40_5)
            have n40_2 : ¬ z1 = (34 : Int32) := h40_5
            rcases Decidable.em (z1 = (35 : Int32)) with h40_6 | h40_6
            · have hu := hu.trans (if_pos h40_6)
              refine qa_table (pc := 40) (tgt := 99) (off := 59) hx hb dX4_register_40 (Or.inr (by rw [h40_6]; decide)) (by decide) ?_
              refine lv_aload_n (pc := 99) hx hb dX4_register_99 rfl (lv_at hl 0 rfl) ?_
              refine va_get (D := (dC, dI)) (pc := 100) (ci := 4) (v := .long xKgp) (C := "LongMachine") (T := TX4) (N := 17) hx hb hts ui_X4 hown hK hP 0 rfl rfl 10 (by decide) (hts _ gm_101) (fun _ h9 => h9) rfl dX4_register_100 ?_
              subst hu
              exact W.lret hx hb hr (fun t ht hW => ⟨rfl, ht⟩) (fun _ h => by cases h) dX4_register_103
            · have hu := hu.trans (if_neg h40_6)
              have n40_3 : ¬ z1 = (35 : Int32) := h40_6
              rcases Decidable.em (z1 = (36 : Int32)) with h40_7 | h40_7
              · have hu := hu.trans (if_pos h40_7)
                refine qa_table (pc := 40) (tgt := 104) (off := 64) hx hb dX4_register_40 (Or.inr (by rw [h40_7]; decide)) (by decide) ?_
                refine lv_aload_n (pc := 104) hx hb dX4_register_104 rfl (lv_at hl 0 rfl) ?_
                refine va_get (D := (dC, dI)) (pc := 105) (ci := 4) (v := .long xVal) (C := "LongMachine") (T := TX4) (N := 17) hx hb hts ui_X4 hown hK hP 0 rfl rfl 11 (by decide) (hts _ gm_102) (fun _ h9 => h9) rfl dX4_register_105 ?_
                subst hu
                exact W.lret hx hb hr (fun t ht hW => ⟨rfl, ht⟩) (fun _ h => by cases h) dX4_register_108
              · have hu := hu.trans (if_neg h40_7)
                have n40_4 : ¬ z1 = (36 : Int32) := h40_7
                rcases Decidable.em (z1 = (37 : Int32)) with h40_8 | h40_8
                · have hu := hu.trans (if_pos h40_8)
                  refine qa_table (pc := 40) (tgt := 109) (off := 69) hx hb dX4_register_40 (Or.inr (by rw [h40_8]; decide)) (by decide) ?_
                  refine lv_aload_n (pc := 109) hx hb dX4_register_109 rfl (lv_at hl 0 rfl) ?_
                  refine va_get (D := (dC, dI)) (pc := 110) (ci := 4) (v := .ref qM) (C := "LongMachine") (T := TX4) (N := 17) hx hb hts ui_X4 hown hK hP 0 rfl rfl 0 (by decide) (hts _ gm_91) (fun _ h9 => h9) rfl dX4_register_110 ?_
                  refine va_get (D := (dC, dI)) (pc := 113) (ci := 2) (v := .int mTab) (C := "LongMachine$Memory") (T := TX2) (N := 8) hx hb hts ui_X2 hown hK hP 4 rfl rfl 6 (by decide) (hts _ gm_28) (fun _ h9 => h9) rfl dX4_register_113 ?_
                  refine lv_i2l (pc := 116) (v := (Int32.toInt64 mTab)) hx hb dX4_register_116 rfl ?_
                  subst hu
                  exact W.lret hx hb hr (fun t ht hW => ⟨rfl, ht⟩) (fun _ h => by cases h) dX4_register_117
                · have hu := hu.trans (if_neg h40_8)
                  have n40_5 : ¬ z1 = (37 : Int32) := h40_8
                  rcases Decidable.em (z1 = (38 : Int32)) with h40_9 | h40_9
                  · have hu := hu.trans (if_pos h40_9)
                    refine qa_table (pc := 40) (tgt := 118) (off := 78) hx hb dX4_register_40 (Or.inr (by rw [h40_9]; decide)) (by decide) ?_
                    refine lv_aload_n (pc := 118) hx hb dX4_register_118 rfl (lv_at hl 0 rfl) ?_
                    refine va_get (D := (dC, dI)) (pc := 119) (ci := 4) (v := .ref qM) (C := "LongMachine") (T := TX4) (N := 17) hx hb hts ui_X4 hown hK hP 0 rfl rfl 0 (by decide) (hts _ gm_91) (fun _ h9 => h9) rfl dX4_register_119 ?_
                    refine va_get (D := (dC, dI)) (pc := 122) (ci := 2) (v := .int mSpc) (C := "LongMachine$Memory") (T := TX2) (N := 8) hx hb hts ui_X2 hown hK hP 4 rfl rfl 7 (by decide) (hts _ gm_30) (fun _ h9 => h9) rfl dX4_register_122 ?_
                    refine lv_i2l (pc := 125) (v := (Int32.toInt64 mSpc)) hx hb dX4_register_125 rfl ?_
                    subst hu
                    exact W.lret hx hb hr (fun t ht hW => ⟨rfl, ht⟩) (fun _ h => by cases h) dX4_register_126
                  · have hu := hu.trans (if_neg h40_9)
                    have n40_6 : ¬ z1 = (38 : Int32) := h40_9
                    refine qa_table (pc := 40) (tgt := 127) (off := 87) hx hb dX4_register_40 (Or.inl ⟨by have := lv_neT n40_0 (by decide : ((32 : Int32)).toInt = 32); have := lv_neT n40_1 (by decide : ((33 : Int32)).toInt = 33); have := lv_neT n40_2 (by decide : ((34 : Int32)).toInt = 34); have := lv_neT n40_3 (by decide : ((35 : Int32)).toInt = 35); have := lv_neT n40_4 (by decide : ((36 : Int32)).toInt = 36); have := lv_neT n40_5 (by decide : ((37 : Int32)).toInt = 37); have := lv_neT n40_6 (by decide : ((38 : Int32)).toInt = 38); omega, rfl⟩) (by decide) ?_
                    refine lv_ldc2 (pc := 127) (v := (-1 : Int64)) hx hb hown (hts _ gm_203) dX4_register_127 ?_
                    subst hu
                    exact W.lret hx hb hr (fun t ht hW => ⟨rfl, ht⟩) (fun _ h => by cases h) dX4_register_130
    · have hu := hu.trans (if_neg h20_2)
      refine lv_iload_n (pc := 23) hx hb dX4_register_23 rfl (lv_at hl 1 rfl) ?_
      refine lv_bipush (pc := 24) (v := (45 : Int32)) hx hb dX4_register_24 (by decide) ?_
      refine lv_icmp_gt (pc := 26) (tgt := 39) hx hb dX4_register_26 (by decide) (fun h26_10 => ?_) (fun h26_10 => ?_)
      · have hu := hu.trans (if_pos h26_10)
        refine lv_iload_n (pc := 39) hx hb dX4_register_39 rfl (lv_at hl 1 rfl) ?_
        rcases Decidable.em (z1 = (32 : Int32)) with h40_11 | h40_11
        · have hu := hu.trans (if_pos h40_11)
          refine qa_table (pc := 40) (tgt := 84) (off := 44) hx hb dX4_register_40 (Or.inr (by rw [h40_11]; decide)) (by decide) ?_
          refine lv_aload_n (pc := 84) hx hb dX4_register_84 rfl (lv_at hl 0 rfl) ?_
          refine va_get (D := (dC, dI)) (pc := 85) (ci := 4) (v := .long xPc) (C := "LongMachine") (T := TX4) (N := 17) hx hb hts ui_X4 hown hK hP 0 rfl rfl 7 (by decide) (hts _ gm_98) (fun _ h9 => h9) rfl dX4_register_85 ?_
          subst hu
          exact W.lret hx hb hr (fun t ht hW => ⟨rfl, ht⟩) (fun _ h => by cases h) dX4_register_88
        · have hu := hu.trans (if_neg h40_11)
          have n40_0 : ¬ z1 = (32 : Int32) := h40_11
          rcases Decidable.em (z1 = (33 : Int32)) with h40_12 | h40_12
          · have hu := hu.trans (if_pos h40_12)
            refine qa_table (pc := 40) (tgt := 89) (off := 49) hx hb dX4_register_40 (Or.inr (by rw [h40_12]; decide)) (by decide) ?_
            refine lv_aload_n (pc := 89) hx hb dX4_register_89 rfl (lv_at hl 0 rfl) ?_
            refine va_get (D := (dC, dI)) (pc := 90) (ci := 4) (v := .long xKsp) (C := "LongMachine") (T := TX4) (N := 17) hx hb hts ui_X4 hown hK hP 0 rfl rfl 8 (by decide) (hts _ gm_99) (fun _ h9 => h9) rfl dX4_register_90 ?_
            subst hu
            exact W.lret hx hb hr (fun t ht hW => ⟨rfl, ht⟩) (fun _ h => by cases h) dX4_register_93
          · have hu := hu.trans (if_neg h40_12)
            have n40_1 : ¬ z1 = (33 : Int32) := h40_12
            rcases Decidable.em (z1 = (34 : Int32)) with h40_13 | h40_13
            · have hu := hu.trans (if_pos h40_13)
              refine qa_table (pc := 40) (tgt := 94) (off := 54) hx hb dX4_register_40 (Or.inr (by rw [h40_13]; decide)) (by decide) ?_
              refine lv_aload_n (pc := 94) hx hb dX4_register_94 rfl (lv_at hl 0 rfl) ?_
              refine va_get (D := (dC, dI)) (pc := 95) (ci := 4) (v := .long xUsp) (C := "LongMachine") (T := TX4) (N := 17) hx hb hts ui_X4 hown hK hP 0 rfl rfl 9 (by decide) (hts _ gm_100) (fun _ h9 => h9) rfl dX4_register_95 ?_
              subst hu
              exact W.lret hx hb hr (fun t ht hW => ⟨rfl, ht⟩) (fun _ h => by cases h) dX4_register_98
            · have hu := hu.trans (if_neg h40_13)
              have n40_2 : ¬ z1 = (34 : Int32) := h40_13
              rcases Decidable.em (z1 = (35 : Int32)) with h40_14 | h40_14
              · have hu := hu.trans (if_pos h40_14)
                refine qa_table (pc := 40) (tgt := 99) (off := 59) hx hb dX4_register_40 (Or.inr (by rw [h40_14]; decide)) (by decide) ?_
                refine lv_aload_n (pc := 99) hx hb dX4_register_99 rfl (lv_at hl 0 rfl) ?_
                refine va_get (D := (dC, dI)) (pc := 100) (ci := 4) (v := .long xKgp) (C := "LongMachine") (T := TX4) (N := 17) hx hb hts ui_X4 hown hK hP 0 rfl rfl 10 (by decide) (hts _ gm_101) (fun _ h9 => h9) rfl dX4_register_100 ?_
                subst hu
                exact W.lret hx hb hr (fun t ht hW => ⟨rfl, ht⟩) (fun _ h => by cases h) dX4_register_103
              · have hu := hu.trans (if_neg h40_14)
                have n40_3 : ¬ z1 = (35 : Int32) := h40_14
                rcases Decidable.em (z1 = (36 : Int32)) with h40_15 | h40_15
                · have hu := hu.trans (if_pos h40_15)
                  refine qa_table (pc := 40) (tgt := 104) (off := 64) hx hb dX4_register_40 (Or.inr (by rw [h40_15]; decide)) (by decide) ?_
                  refine lv_aload_n (pc := 104) hx hb dX4_register_104 rfl (lv_at hl 0 rfl) ?_
                  refine va_get (D := (dC, dI)) (pc := 105) (ci := 4) (v := .long xVal) (C := "LongMachine") (T := TX4) (N := 17) hx hb hts ui_X4 hown hK hP 0 rfl rfl 11 (by decide) (hts _ gm_102) (fun _ h9 => h9) rfl dX4_register_105 ?_
                  subst hu
                  exact W.lret hx hb hr (fun t ht hW => ⟨rfl, ht⟩) (fun _ h => by cases h) dX4_register_108
                · have hu := hu.trans (if_neg h40_15)
                  have n40_4 : ¬ z1 = (36 : Int32) := h40_15
                  rcases Decidable.em (z1 = (37 : Int32)) with h40_16 | h40_16
                  · have hu := hu.trans (if_pos h40_16)
                    refine qa_table (pc := 40) (tgt := 109) (off := 69) hx hb dX4_register_40 (Or.inr (by rw [h40_16]; decide)) (by decide) ?_
                    refine lv_aload_n (pc := 109) hx hb dX4_register_109 rfl (lv_at hl 0 rfl) ?_
                    refine va_get (D := (dC, dI)) (pc := 110) (ci := 4) (v := .ref qM) (C := "LongMachine") (T := TX4) (N := 17) hx hb hts ui_X4 hown hK hP 0 rfl rfl 0 (by decide) (hts _ gm_91) (fun _ h9 => h9) rfl dX4_register_110 ?_
                    refine va_get (D := (dC, dI)) (pc := 113) (ci := 2) (v := .int mTab) (C := "LongMachine$Memory") (T := TX2) (N := 8) hx hb hts ui_X2 hown hK hP 4 rfl rfl 6 (by decide) (hts _ gm_28) (fun _ h9 => h9) rfl dX4_register_113 ?_
                    refine lv_i2l (pc := 116) (v := (Int32.toInt64 mTab)) hx hb dX4_register_116 rfl ?_
                    subst hu
                    exact W.lret hx hb hr (fun t ht hW => ⟨rfl, ht⟩) (fun _ h => by cases h) dX4_register_117
                  · have hu := hu.trans (if_neg h40_16)
                    have n40_5 : ¬ z1 = (37 : Int32) := h40_16
                    rcases Decidable.em (z1 = (38 : Int32)) with h40_17 | h40_17
                    · have hu := hu.trans (if_pos h40_17)
                      refine qa_table (pc := 40) (tgt := 118) (off := 78) hx hb dX4_register_40 (Or.inr (by rw [h40_17]; decide)) (by decide) ?_
                      refine lv_aload_n (pc := 118) hx hb dX4_register_118 rfl (lv_at hl 0 rfl) ?_
                      refine va_get (D := (dC, dI)) (pc := 119) (ci := 4) (v := .ref qM) (C := "LongMachine") (T := TX4) (N := 17) hx hb hts ui_X4 hown hK hP 0 rfl rfl 0 (by decide) (hts _ gm_91) (fun _ h9 => h9) rfl dX4_register_119 ?_
                      refine va_get (D := (dC, dI)) (pc := 122) (ci := 2) (v := .int mSpc) (C := "LongMachine$Memory") (T := TX2) (N := 8) hx hb hts ui_X2 hown hK hP 4 rfl rfl 7 (by decide) (hts _ gm_30) (fun _ h9 => h9) rfl dX4_register_122 ?_
                      refine lv_i2l (pc := 125) (v := (Int32.toInt64 mSpc)) hx hb dX4_register_125 rfl ?_
                      subst hu
                      exact W.lret hx hb hr (fun t ht hW => ⟨rfl, ht⟩) (fun _ h => by cases h) dX4_register_126
                    · have hu := hu.trans (if_neg h40_17)
                      have n40_6 : ¬ z1 = (38 : Int32) := h40_17
                      refine qa_table (pc := 40) (tgt := 127) (off := 87) hx hb dX4_register_40 (Or.inl ⟨by have := lv_neT n40_0 (by decide : ((32 : Int32)).toInt = 32); have := lv_neT n40_1 (by decide : ((33 : Int32)).toInt = 33); have := lv_neT n40_2 (by decide : ((34 : Int32)).toInt = 34); have := lv_neT n40_3 (by decide : ((35 : Int32)).toInt = 35); have := lv_neT n40_4 (by decide : ((36 : Int32)).toInt = 36); have := lv_neT n40_5 (by decide : ((37 : Int32)).toInt = 37); have := lv_neT n40_6 (by decide : ((38 : Int32)).toInt = 38); omega, rfl⟩) (by decide) ?_
                      refine lv_ldc2 (pc := 127) (v := (-1 : Int64)) hx hb hown (hts _ gm_203) dX4_register_127 ?_
                      subst hu
                      exact W.lret hx hb hr (fun t ht hW => ⟨rfl, ht⟩) (fun _ h => by cases h) dX4_register_130
      · have hu := hu.trans (if_neg h26_10)
        refine lv_aload_n (pc := 29) hx hb dX4_register_29 rfl (lv_at hl 0 rfl) ?_
        refine va_get (D := (dC, dI)) (pc := 30) (ci := 4) (v := .ref qV) (C := "LongMachine") (T := TX4) (N := 17) hx hb hts ui_X4 hown hK hP 0 rfl rfl 2 (by decide) (hts _ gm_93) (fun _ h9 => h9) rfl dX4_register_30 ?_
        refine lv_iload_n (pc := 33) hx hb dX4_register_33 rfl (lv_at hl 1 rfl) ?_
        refine lv_bipush (pc := 34) (v := (40 : Int32)) hx hb dX4_register_34 (by decide) ?_
        refine lv_isub (pc := 36) hx hb dX4_register_36 ?_
        refine qa_lald (pc := 37) (k := (Int32.toNatClampNeg (z1 - (40 : Int32)))) hx hb hK hP 2 1 rfl rfl rfl (rg_v40 h20_2 h26_10) dX4_register_37 ?_
        subst hu
        exact W.lret hx hb hr (fun t ht hW => ⟨rfl, ht⟩) (fun _ h => by cases h) dX4_register_38
  · have hu := hu.trans (if_neg h1_1)
    refine lv_iload_n (pc := 4) hx hb dX4_register_4 rfl (lv_at hl 1 rfl) ?_
    refine lv_bipush (pc := 5) (v := (32 : Int32)) hx hb dX4_register_5 (by decide) ?_
    refine lv_icmp_ge (pc := 7) (tgt := 17) hx hb dX4_register_7 (by decide) (fun h7_18 => ?_) (fun h7_18 => ?_)
    · have hu := hu.trans (if_pos h7_18)
      refine lv_iload_n (pc := 17) hx hb dX4_register_17 rfl (lv_at hl 1 rfl) ?_
      refine lv_bipush (pc := 18) (v := (40 : Int32)) hx hb dX4_register_18 (by decide) ?_
      refine lv_icmp_lt (pc := 20) (tgt := 39) hx hb dX4_register_20 (by decide) (fun h20_19 => ?_) (fun h20_19 => ?_)
      · have hu := hu.trans (if_pos h20_19)
        refine lv_iload_n (pc := 39) hx hb dX4_register_39 rfl (lv_at hl 1 rfl) ?_
        rcases Decidable.em (z1 = (32 : Int32)) with h40_20 | h40_20
        · have hu := hu.trans (if_pos h40_20)
          refine qa_table (pc := 40) (tgt := 84) (off := 44) hx hb dX4_register_40 (Or.inr (by rw [h40_20]; decide)) (by decide) ?_
          refine lv_aload_n (pc := 84) hx hb dX4_register_84 rfl (lv_at hl 0 rfl) ?_
          refine va_get (D := (dC, dI)) (pc := 85) (ci := 4) (v := .long xPc) (C := "LongMachine") (T := TX4) (N := 17) hx hb hts ui_X4 hown hK hP 0 rfl rfl 7 (by decide) (hts _ gm_98) (fun _ h9 => h9) rfl dX4_register_85 ?_
          subst hu
          exact W.lret hx hb hr (fun t ht hW => ⟨rfl, ht⟩) (fun _ h => by cases h) dX4_register_88
        · have hu := hu.trans (if_neg h40_20)
          have n40_0 : ¬ z1 = (32 : Int32) := h40_20
          rcases Decidable.em (z1 = (33 : Int32)) with h40_21 | h40_21
          · have hu := hu.trans (if_pos h40_21)
            refine qa_table (pc := 40) (tgt := 89) (off := 49) hx hb dX4_register_40 (Or.inr (by rw [h40_21]; decide)) (by decide) ?_
            refine lv_aload_n (pc := 89) hx hb dX4_register_89 rfl (lv_at hl 0 rfl) ?_
            refine va_get (D := (dC, dI)) (pc := 90) (ci := 4) (v := .long xKsp) (C := "LongMachine") (T := TX4) (N := 17) hx hb hts ui_X4 hown hK hP 0 rfl rfl 8 (by decide) (hts _ gm_99) (fun _ h9 => h9) rfl dX4_register_90 ?_
            subst hu
            exact W.lret hx hb hr (fun t ht hW => ⟨rfl, ht⟩) (fun _ h => by cases h) dX4_register_93
          · have hu := hu.trans (if_neg h40_21)
            have n40_1 : ¬ z1 = (33 : Int32) := h40_21
            rcases Decidable.em (z1 = (34 : Int32)) with h40_22 | h40_22
            · have hu := hu.trans (if_pos h40_22)
              refine qa_table (pc := 40) (tgt := 94) (off := 54) hx hb dX4_register_40 (Or.inr (by rw [h40_22]; decide)) (by decide) ?_
              refine lv_aload_n (pc := 94) hx hb dX4_register_94 rfl (lv_at hl 0 rfl) ?_
              refine va_get (D := (dC, dI)) (pc := 95) (ci := 4) (v := .long xUsp) (C := "LongMachine") (T := TX4) (N := 17) hx hb hts ui_X4 hown hK hP 0 rfl rfl 9 (by decide) (hts _ gm_100) (fun _ h9 => h9) rfl dX4_register_95 ?_
              subst hu
              exact W.lret hx hb hr (fun t ht hW => ⟨rfl, ht⟩) (fun _ h => by cases h) dX4_register_98
            · have hu := hu.trans (if_neg h40_22)
              have n40_2 : ¬ z1 = (34 : Int32) := h40_22
              rcases Decidable.em (z1 = (35 : Int32)) with h40_23 | h40_23
              · have hu := hu.trans (if_pos h40_23)
                refine qa_table (pc := 40) (tgt := 99) (off := 59) hx hb dX4_register_40 (Or.inr (by rw [h40_23]; decide)) (by decide) ?_
                refine lv_aload_n (pc := 99) hx hb dX4_register_99 rfl (lv_at hl 0 rfl) ?_
                refine va_get (D := (dC, dI)) (pc := 100) (ci := 4) (v := .long xKgp) (C := "LongMachine") (T := TX4) (N := 17) hx hb hts ui_X4 hown hK hP 0 rfl rfl 10 (by decide) (hts _ gm_101) (fun _ h9 => h9) rfl dX4_register_100 ?_
                subst hu
                exact W.lret hx hb hr (fun t ht hW => ⟨rfl, ht⟩) (fun _ h => by cases h) dX4_register_103
              · have hu := hu.trans (if_neg h40_23)
                have n40_3 : ¬ z1 = (35 : Int32) := h40_23
                rcases Decidable.em (z1 = (36 : Int32)) with h40_24 | h40_24
                · have hu := hu.trans (if_pos h40_24)
                  refine qa_table (pc := 40) (tgt := 104) (off := 64) hx hb dX4_register_40 (Or.inr (by rw [h40_24]; decide)) (by decide) ?_
                  refine lv_aload_n (pc := 104) hx hb dX4_register_104 rfl (lv_at hl 0 rfl) ?_
                  refine va_get (D := (dC, dI)) (pc := 105) (ci := 4) (v := .long xVal) (C := "LongMachine") (T := TX4) (N := 17) hx hb hts ui_X4 hown hK hP 0 rfl rfl 11 (by decide) (hts _ gm_102) (fun _ h9 => h9) rfl dX4_register_105 ?_
                  subst hu
                  exact W.lret hx hb hr (fun t ht hW => ⟨rfl, ht⟩) (fun _ h => by cases h) dX4_register_108
                · have hu := hu.trans (if_neg h40_24)
                  have n40_4 : ¬ z1 = (36 : Int32) := h40_24
                  rcases Decidable.em (z1 = (37 : Int32)) with h40_25 | h40_25
                  · have hu := hu.trans (if_pos h40_25)
                    refine qa_table (pc := 40) (tgt := 109) (off := 69) hx hb dX4_register_40 (Or.inr (by rw [h40_25]; decide)) (by decide) ?_
                    refine lv_aload_n (pc := 109) hx hb dX4_register_109 rfl (lv_at hl 0 rfl) ?_
                    refine va_get (D := (dC, dI)) (pc := 110) (ci := 4) (v := .ref qM) (C := "LongMachine") (T := TX4) (N := 17) hx hb hts ui_X4 hown hK hP 0 rfl rfl 0 (by decide) (hts _ gm_91) (fun _ h9 => h9) rfl dX4_register_110 ?_
                    refine va_get (D := (dC, dI)) (pc := 113) (ci := 2) (v := .int mTab) (C := "LongMachine$Memory") (T := TX2) (N := 8) hx hb hts ui_X2 hown hK hP 4 rfl rfl 6 (by decide) (hts _ gm_28) (fun _ h9 => h9) rfl dX4_register_113 ?_
                    refine lv_i2l (pc := 116) (v := (Int32.toInt64 mTab)) hx hb dX4_register_116 rfl ?_
                    subst hu
                    exact W.lret hx hb hr (fun t ht hW => ⟨rfl, ht⟩) (fun _ h => by cases h) dX4_register_117
                  · have hu := hu.trans (if_neg h40_25)
                    have n40_5 : ¬ z1 = (37 : Int32) := h40_25
                    rcases Decidable.em (z1 = (38 : Int32)) with h40_26 | h40_26
                    · have hu := hu.trans (if_pos h40_26)
                      refine qa_table (pc := 40) (tgt := 118) (off := 78) hx hb dX4_register_40 (Or.inr (by rw [h40_26]; decide)) (by decide) ?_
                      refine lv_aload_n (pc := 118) hx hb dX4_register_118 rfl (lv_at hl 0 rfl) ?_
                      refine va_get (D := (dC, dI)) (pc := 119) (ci := 4) (v := .ref qM) (C := "LongMachine") (T := TX4) (N := 17) hx hb hts ui_X4 hown hK hP 0 rfl rfl 0 (by decide) (hts _ gm_91) (fun _ h9 => h9) rfl dX4_register_119 ?_
                      refine va_get (D := (dC, dI)) (pc := 122) (ci := 2) (v := .int mSpc) (C := "LongMachine$Memory") (T := TX2) (N := 8) hx hb hts ui_X2 hown hK hP 4 rfl rfl 7 (by decide) (hts _ gm_30) (fun _ h9 => h9) rfl dX4_register_122 ?_
                      refine lv_i2l (pc := 125) (v := (Int32.toInt64 mSpc)) hx hb dX4_register_125 rfl ?_
                      subst hu
                      exact W.lret hx hb hr (fun t ht hW => ⟨rfl, ht⟩) (fun _ h => by cases h) dX4_register_126
                    · have hu := hu.trans (if_neg h40_26)
                      have n40_6 : ¬ z1 = (38 : Int32) := h40_26
                      refine qa_table (pc := 40) (tgt := 127) (off := 87) hx hb dX4_register_40 (Or.inl ⟨by have := lv_neT n40_0 (by decide : ((32 : Int32)).toInt = 32); have := lv_neT n40_1 (by decide : ((33 : Int32)).toInt = 33); have := lv_neT n40_2 (by decide : ((34 : Int32)).toInt = 34); have := lv_neT n40_3 (by decide : ((35 : Int32)).toInt = 35); have := lv_neT n40_4 (by decide : ((36 : Int32)).toInt = 36); have := lv_neT n40_5 (by decide : ((37 : Int32)).toInt = 37); have := lv_neT n40_6 (by decide : ((38 : Int32)).toInt = 38); omega, rfl⟩) (by decide) ?_
                      refine lv_ldc2 (pc := 127) (v := (-1 : Int64)) hx hb hown (hts _ gm_203) dX4_register_127 ?_
                      subst hu
                      exact W.lret hx hb hr (fun t ht hW => ⟨rfl, ht⟩) (fun _ h => by cases h) dX4_register_130
      · have hu := hu.trans (if_neg h20_19)
        refine lv_iload_n (pc := 23) hx hb dX4_register_23 rfl (lv_at hl 1 rfl) ?_
        refine lv_bipush (pc := 24) (v := (45 : Int32)) hx hb dX4_register_24 (by decide) ?_
        refine lv_icmp_gt (pc := 26) (tgt := 39) hx hb dX4_register_26 (by decide) (fun h26_27 => ?_) (fun h26_27 => ?_)
        · have hu := hu.trans (if_pos h26_27)
          refine lv_iload_n (pc := 39) hx hb dX4_register_39 rfl (lv_at hl 1 rfl) ?_
          rcases Decidable.em (z1 = (32 : Int32)) with h40_28 | h40_28
          · have hu := hu.trans (if_pos h40_28)
            refine qa_table (pc := 40) (tgt := 84) (off := 44) hx hb dX4_register_40 (Or.inr (by rw [h40_28]; decide)) (by decide) ?_
            refine lv_aload_n (pc := 84) hx hb dX4_register_84 rfl (lv_at hl 0 rfl) ?_
            refine va_get (D := (dC, dI)) (pc := 85) (ci := 4) (v := .long xPc) (C := "LongMachine") (T := TX4) (N := 17) hx hb hts ui_X4 hown hK hP 0 rfl rfl 7 (by decide) (hts _ gm_98) (fun _ h9 => h9) rfl dX4_register_85 ?_
            subst hu
            exact W.lret hx hb hr (fun t ht hW => ⟨rfl, ht⟩) (fun _ h => by cases h) dX4_register_88
          · have hu := hu.trans (if_neg h40_28)
            have n40_0 : ¬ z1 = (32 : Int32) := h40_28
            rcases Decidable.em (z1 = (33 : Int32)) with h40_29 | h40_29
            · have hu := hu.trans (if_pos h40_29)
              refine qa_table (pc := 40) (tgt := 89) (off := 49) hx hb dX4_register_40 (Or.inr (by rw [h40_29]; decide)) (by decide) ?_
              refine lv_aload_n (pc := 89) hx hb dX4_register_89 rfl (lv_at hl 0 rfl) ?_
              refine va_get (D := (dC, dI)) (pc := 90) (ci := 4) (v := .long xKsp) (C := "LongMachine") (T := TX4) (N := 17) hx hb hts ui_X4 hown hK hP 0 rfl rfl 8 (by decide) (hts _ gm_99) (fun _ h9 => h9) rfl dX4_register_90 ?_
              subst hu
              exact W.lret hx hb hr (fun t ht hW => ⟨rfl, ht⟩) (fun _ h => by cases h) dX4_register_93
            · have hu := hu.trans (if_neg h40_29)
              have n40_1 : ¬ z1 = (33 : Int32) := h40_29
              rcases Decidable.em (z1 = (34 : Int32)) with h40_30 | h40_30
              · have hu := hu.trans (if_pos h40_30)
                refine qa_table (pc := 40) (tgt := 94) (off := 54) hx hb dX4_register_40 (Or.inr (by rw [h40_30]; decide)) (by decide) ?_
                refine lv_aload_n (pc := 94) hx hb dX4_register_94 rfl (lv_at hl 0 rfl) ?_
                refine va_get (D := (dC, dI)) (pc := 95) (ci := 4) (v := .long xUsp) (C := "LongMachine") (T := TX4) (N := 17) hx hb hts ui_X4 hown hK hP 0 rfl rfl 9 (by decide) (hts _ gm_100) (fun _ h9 => h9) rfl dX4_register_95 ?_
                subst hu
                exact W.lret hx hb hr (fun t ht hW => ⟨rfl, ht⟩) (fun _ h => by cases h) dX4_register_98
              · have hu := hu.trans (if_neg h40_30)
                have n40_2 : ¬ z1 = (34 : Int32) := h40_30
                rcases Decidable.em (z1 = (35 : Int32)) with h40_31 | h40_31
                · have hu := hu.trans (if_pos h40_31)
                  refine qa_table (pc := 40) (tgt := 99) (off := 59) hx hb dX4_register_40 (Or.inr (by rw [h40_31]; decide)) (by decide) ?_
                  refine lv_aload_n (pc := 99) hx hb dX4_register_99 rfl (lv_at hl 0 rfl) ?_
                  refine va_get (D := (dC, dI)) (pc := 100) (ci := 4) (v := .long xKgp) (C := "LongMachine") (T := TX4) (N := 17) hx hb hts ui_X4 hown hK hP 0 rfl rfl 10 (by decide) (hts _ gm_101) (fun _ h9 => h9) rfl dX4_register_100 ?_
                  subst hu
                  exact W.lret hx hb hr (fun t ht hW => ⟨rfl, ht⟩) (fun _ h => by cases h) dX4_register_103
                · have hu := hu.trans (if_neg h40_31)
                  have n40_3 : ¬ z1 = (35 : Int32) := h40_31
                  rcases Decidable.em (z1 = (36 : Int32)) with h40_32 | h40_32
                  · have hu := hu.trans (if_pos h40_32)
                    refine qa_table (pc := 40) (tgt := 104) (off := 64) hx hb dX4_register_40 (Or.inr (by rw [h40_32]; decide)) (by decide) ?_
                    refine lv_aload_n (pc := 104) hx hb dX4_register_104 rfl (lv_at hl 0 rfl) ?_
                    refine va_get (D := (dC, dI)) (pc := 105) (ci := 4) (v := .long xVal) (C := "LongMachine") (T := TX4) (N := 17) hx hb hts ui_X4 hown hK hP 0 rfl rfl 11 (by decide) (hts _ gm_102) (fun _ h9 => h9) rfl dX4_register_105 ?_
                    subst hu
                    exact W.lret hx hb hr (fun t ht hW => ⟨rfl, ht⟩) (fun _ h => by cases h) dX4_register_108
                  · have hu := hu.trans (if_neg h40_32)
                    have n40_4 : ¬ z1 = (36 : Int32) := h40_32
                    rcases Decidable.em (z1 = (37 : Int32)) with h40_33 | h40_33
                    · have hu := hu.trans (if_pos h40_33)
                      refine qa_table (pc := 40) (tgt := 109) (off := 69) hx hb dX4_register_40 (Or.inr (by rw [h40_33]; decide)) (by decide) ?_
                      refine lv_aload_n (pc := 109) hx hb dX4_register_109 rfl (lv_at hl 0 rfl) ?_
                      refine va_get (D := (dC, dI)) (pc := 110) (ci := 4) (v := .ref qM) (C := "LongMachine") (T := TX4) (N := 17) hx hb hts ui_X4 hown hK hP 0 rfl rfl 0 (by decide) (hts _ gm_91) (fun _ h9 => h9) rfl dX4_register_110 ?_
                      refine va_get (D := (dC, dI)) (pc := 113) (ci := 2) (v := .int mTab) (C := "LongMachine$Memory") (T := TX2) (N := 8) hx hb hts ui_X2 hown hK hP 4 rfl rfl 6 (by decide) (hts _ gm_28) (fun _ h9 => h9) rfl dX4_register_113 ?_
                      refine lv_i2l (pc := 116) (v := (Int32.toInt64 mTab)) hx hb dX4_register_116 rfl ?_
                      subst hu
                      exact W.lret hx hb hr (fun t ht hW => ⟨rfl, ht⟩) (fun _ h => by cases h) dX4_register_117
                    · have hu := hu.trans (if_neg h40_33)
                      have n40_5 : ¬ z1 = (37 : Int32) := h40_33
                      rcases Decidable.em (z1 = (38 : Int32)) with h40_34 | h40_34
                      · have hu := hu.trans (if_pos h40_34)
                        refine qa_table (pc := 40) (tgt := 118) (off := 78) hx hb dX4_register_40 (Or.inr (by rw [h40_34]; decide)) (by decide) ?_
                        refine lv_aload_n (pc := 118) hx hb dX4_register_118 rfl (lv_at hl 0 rfl) ?_
                        refine va_get (D := (dC, dI)) (pc := 119) (ci := 4) (v := .ref qM) (C := "LongMachine") (T := TX4) (N := 17) hx hb hts ui_X4 hown hK hP 0 rfl rfl 0 (by decide) (hts _ gm_91) (fun _ h9 => h9) rfl dX4_register_119 ?_
                        refine va_get (D := (dC, dI)) (pc := 122) (ci := 2) (v := .int mSpc) (C := "LongMachine$Memory") (T := TX2) (N := 8) hx hb hts ui_X2 hown hK hP 4 rfl rfl 7 (by decide) (hts _ gm_30) (fun _ h9 => h9) rfl dX4_register_122 ?_
                        refine lv_i2l (pc := 125) (v := (Int32.toInt64 mSpc)) hx hb dX4_register_125 rfl ?_
                        subst hu
                        exact W.lret hx hb hr (fun t ht hW => ⟨rfl, ht⟩) (fun _ h => by cases h) dX4_register_126
                      · have hu := hu.trans (if_neg h40_34)
                        have n40_6 : ¬ z1 = (38 : Int32) := h40_34
                        refine qa_table (pc := 40) (tgt := 127) (off := 87) hx hb dX4_register_40 (Or.inl ⟨by have := lv_neT n40_0 (by decide : ((32 : Int32)).toInt = 32); have := lv_neT n40_1 (by decide : ((33 : Int32)).toInt = 33); have := lv_neT n40_2 (by decide : ((34 : Int32)).toInt = 34); have := lv_neT n40_3 (by decide : ((35 : Int32)).toInt = 35); have := lv_neT n40_4 (by decide : ((36 : Int32)).toInt = 36); have := lv_neT n40_5 (by decide : ((37 : Int32)).toInt = 37); have := lv_neT n40_6 (by decide : ((38 : Int32)).toInt = 38); omega, rfl⟩) (by decide) ?_
                        refine lv_ldc2 (pc := 127) (v := (-1 : Int64)) hx hb hown (hts _ gm_203) dX4_register_127 ?_
                        subst hu
                        exact W.lret hx hb hr (fun t ht hW => ⟨rfl, ht⟩) (fun _ h => by cases h) dX4_register_130
        · have hu := hu.trans (if_neg h26_27)
          refine lv_aload_n (pc := 29) hx hb dX4_register_29 rfl (lv_at hl 0 rfl) ?_
          refine va_get (D := (dC, dI)) (pc := 30) (ci := 4) (v := .ref qV) (C := "LongMachine") (T := TX4) (N := 17) hx hb hts ui_X4 hown hK hP 0 rfl rfl 2 (by decide) (hts _ gm_93) (fun _ h9 => h9) rfl dX4_register_30 ?_
          refine lv_iload_n (pc := 33) hx hb dX4_register_33 rfl (lv_at hl 1 rfl) ?_
          refine lv_bipush (pc := 34) (v := (40 : Int32)) hx hb dX4_register_34 (by decide) ?_
          refine lv_isub (pc := 36) hx hb dX4_register_36 ?_
          refine qa_lald (pc := 37) (k := (Int32.toNatClampNeg (z1 - (40 : Int32)))) hx hb hK hP 2 1 rfl rfl rfl (rg_v40 h20_19 h26_27) dX4_register_37 ?_
          subst hu
          exact W.lret hx hb hr (fun t ht hW => ⟨rfl, ht⟩) (fun _ h => by cases h) dX4_register_38
    · have hu := hu.trans (if_neg h7_18)
      refine lv_aload_n (pc := 10) hx hb dX4_register_10 rfl (lv_at hl 0 rfl) ?_
      refine va_get (D := (dC, dI)) (pc := 11) (ci := 4) (v := .ref qR) (C := "LongMachine") (T := TX4) (N := 17) hx hb hts ui_X4 hown hK hP 0 rfl rfl 1 (by decide) (hts _ gm_92) (fun _ h9 => h9) rfl dX4_register_11 ?_
      refine lv_iload_n (pc := 14) hx hb dX4_register_14 rfl (lv_at hl 1 rfl) ?_
      refine qa_lald (pc := 15) (k := (Int32.toNatClampNeg z1)) hx hb hK hP 1 1 rfl rfl rfl (rg_b (rg_nn h1_1) h7_18 (by decide)) dX4_register_15 ?_
      subst hu
      exact W.lret hx hb hr (fun t ht hW => ⟨rfl, ht⟩) (fun _ h => by cases h) dX4_register_16
set_option maxRecDepth 100000 in
set_option maxHeartbeats 4000000 in
theorem c_X4_word (l : Launch) (dC : Nat → ClassId) (dI : Nat → Nat → Nat) (cI cJ : ClassId) (qX qR qV qF qM qMw qMp qMs qMd qI qIl qIn qO qC : Nat) (xPc : Int64) (xKsp : Int64) (xUsp : Int64) (xKgp : Int64) (xVal : Int64) (xMod : Int32) (xLev : Int32) (xHal : Int32) (xEnt : Int32) (xLoc : Int32) (xR : (Nat → Int64)) (xV : (Nat → Int64)) (xF : (Nat → Int64)) (mOld : Int32) (mCnt : Int32) (mTab : Int32) (mSpc : Int32) (mW : (Nat → Int64)) (mP : (Nat → Int32)) (mS : (Nat → Int32)) (mD : (Nat → Int64)) (iCnt : Int32) (iL : (Nat → Int32)) (iN : (Nat → Int32)) (oRes : Int64) (oKno : Int32) (oGiv : Int32) (oTrp : Int32) (aVec : Int32) (aA : Int64) (aB : Int64) (aC : Int64) (aPc : Int64) (z1 : Int32) : Met l yX4_word (.code yX4_word cX4_word 2 (some .long) :: vG) ({ frames := 1, cells := 0, slots := 0, locals := 20 }) (va_Pc [.ref qX, .int z1] (qa_preR (dC, dI) vwCl (wX cI cJ qX qR qV qF qM qMw qMp qMs qMd qI qIl qIn qO qC xPc xKsp xUsp xKgp xVal xMod xLev xHal xEnt xLoc xR xV xF mOld mCnt mTab mSpc mW mP mS mD iCnt iL iN oRes oKno oGiv oTrp aVec aA aB aC aPc) [(cI, .int), (cJ, .long)])) (qa_det (.long (if (if z1 < (0 : Int32) then (0 : Int32) else (if (4096 : Int32) ≤ z1 then (0 : Int32) else (if (z1 &&& (7 : Int32)) = (0 : Int32) then (1 : Int32) else (0 : Int32)))) = (0 : Int32) then (-1 : Int64) else (mW (Int32.toNatClampNeg (z1 >>> ((3 : Int32) &&& (31 : Int32)))))))) 0 0 (fun _ => False) := by
  refine Met.ofW (cc := cX4_word) (maxL := 2) (ret := (some .long)) (by decide) rfl ?_
  intro p e s m args below meth c s₁ B hml hv
  obtain ⟨rfl, hP, hK⟩ := hv
  have hx := B.exec
  have hb := B.bytes
  have hr := B.returns
  have hts : ∀ w ∈ vG, w.before _ s = true := fun w h => atoms_spec (ws := (.code yX4_word cX4_word 2 (some .long) :: vG)) B.pre w (List.mem_cons_of_mem _ h)
  have hown : s.vm.findClass "LongMachine" = some m.cls := findClass_of_methodNamed B.named
  have hlocks := B.notSynchronized
  have hl := lv_entry ([.ref qX, .int z1]) (n := 2) (Nat.le_of_ble_eq_true rfl)
  rw [lg_entry_eq]
  generalize (lg_sl ([.ref qX, .int z1]) ++ List.replicate (2 - (lg_sl ([.ref qX, .int z1])).length) Slot.unset).toArray = ls at hl ⊢
  have hl : lv_has ls 2 [(0, .ref qX), (1, .int z1)] := hl
  refine lv_iload_n (pc := 0) hx hb dX4_word_0 rfl (lv_at hl 1 rfl) ?_
  refine qa_calld (pc := 1) (v := .int (if z1 < (0 : Int32) then (0 : Int32) else (if (4096 : Int32) ≤ z1 then (0 : Int32) else (if (z1 &&& (7 : Int32)) = (0 : Int32) then (1 : Int32) else (0 : Int32))))) (va_runS (As := [.int z1]) (rest := []) ⟨hx, hb, hml, hown, hts⟩ (c_X4_isWordAddress l z1) (va_cwS 1 hts (gd_S gm_131 gm_129 gm_130 gm_1) rfl rfl rfl (by decide +kernel) ⟨Nat.le_of_ble_eq_true rfl, Nat.le_of_ble_eq_true rfl⟩) qa_S0 rfl rfl hl.1 rfl (lv_room (Nat.le_of_ble_eq_true rfl)) dX4_word_1 ⟨Nat.zero_le _, Nat.zero_le _⟩) ?_
  refine qa_joinl (J := 24) (ls2 := ls) (rest2 := []) (if (if z1 < (0 : Int32) then (0 : Int32) else (if (4096 : Int32) ≤ z1 then (0 : Int32) else (if (z1 &&& (7 : Int32)) = (0 : Int32) then (1 : Int32) else (0 : Int32)))) = (0 : Int32) then (-1 : Int64) else (mW (Int32.toNatClampNeg (z1 >>> ((3 : Int32) &&& (31 : Int32)))))) (fun hj24 => ?_) ?_
  · refine lv_if_eq (pc := 4) (tgt := 21) hx hb dX4_word_4 (by decide) (fun h4_1 => ?_) (fun h4_1 => ?_)
    · refine lv_ldc2 (pc := 21) (v := (-1 : Int64)) hx hb hown (hts _ gm_203) dX4_word_21 ?_
      exact hj24 _ (Eq.symm (if_pos h4_1))
    · refine lv_aload_n (pc := 7) hx hb dX4_word_7 rfl (lv_at hl 0 rfl) ?_
      refine va_get (D := (dC, dI)) (pc := 8) (ci := 4) (v := .ref qM) (C := "LongMachine") (T := TX4) (N := 17) hx hb hts ui_X4 hown hK hP 0 rfl rfl 0 (by decide) (hts _ gm_91) (fun _ h9 => h9) rfl dX4_word_8 ?_
      refine va_get (D := (dC, dI)) (pc := 11) (ci := 2) (v := .ref qMw) (C := "LongMachine$Memory") (T := TX2) (N := 8) hx hb hts ui_X2 hown hK hP 4 rfl rfl 0 (by decide) (hts _ gm_21) (fun _ h9 => h9) rfl dX4_word_11 ?_
      refine lv_iload_n (pc := 14) hx hb dX4_word_14 rfl (lv_at hl 1 rfl) ?_
      refine lv_iconst (pc := 15) (v := (3 : Int32)) hx hb dX4_word_15 (by decide) ?_
      refine lv_ishr (pc := 16) hx hb dX4_word_16 ?_
      refine qa_lald (pc := 17) (k := (Int32.toNatClampNeg (z1 >>> ((3 : Int32) &&& (31 : Int32))))) hx hb hK hP 5 1 rfl rfl rfl (rg_word h4_1) dX4_word_17 ?_
      refine lv_goto (pc := 18) (tgt := 24) hx hb dX4_word_18 (by decide) ?_
      exact hj24 _ (Eq.symm (if_neg h4_1))
  exact W.lret hx hb hr (fun t ht hW => ⟨rfl, ht⟩) (fun _ h => by cases h) dX4_word_24
def f_X4_state (z1 : Int32) (xMod : Int32) (xLev : Int32) (xHal : Int32) (xEnt : Int32) (xLoc : Int32) (mCnt : Int32) (iCnt : Int32) : Int32 := (if z1 = (0 : Int32) then (((8 : Int32) * xMod) + xLev) else (if z1 = (1 : Int32) then (if xLoc = (0 : Int32) then (0 : Int32) else (1 : Int32)) else (if z1 = (2 : Int32) then xHal else (if z1 = (3 : Int32) then mCnt else (if z1 = (4 : Int32) then iCnt else (if z1 = (5 : Int32) then xEnt else (-1 : Int32)))))))
set_option maxRecDepth 100000 in
set_option maxHeartbeats 4000000 in
theorem c_X4_state (l : Launch) (dC : Nat → ClassId) (dI : Nat → Nat → Nat) (cI cJ : ClassId) (qX qR qV qF qM qMw qMp qMs qMd qI qIl qIn qO qC : Nat) (xPc : Int64) (xKsp : Int64) (xUsp : Int64) (xKgp : Int64) (xVal : Int64) (xMod : Int32) (xLev : Int32) (xHal : Int32) (xEnt : Int32) (xLoc : Int32) (xR : (Nat → Int64)) (xV : (Nat → Int64)) (xF : (Nat → Int64)) (mOld : Int32) (mCnt : Int32) (mTab : Int32) (mSpc : Int32) (mW : (Nat → Int64)) (mP : (Nat → Int32)) (mS : (Nat → Int32)) (mD : (Nat → Int64)) (iCnt : Int32) (iL : (Nat → Int32)) (iN : (Nat → Int32)) (oRes : Int64) (oKno : Int32) (oGiv : Int32) (oTrp : Int32) (aVec : Int32) (aA : Int64) (aB : Int64) (aC : Int64) (aPc : Int64) (z1 : Int32) : Met l yX4_state (.code yX4_state cX4_state 2 (some .int) :: vG) ({ frames := 1, cells := 0, slots := 0, locals := 20 }) (va_Pc [.ref qX, .int z1] (qa_preR (dC, dI) vwCl (wX cI cJ qX qR qV qF qM qMw qMp qMs qMd qI qIl qIn qO qC xPc xKsp xUsp xKgp xVal xMod xLev xHal xEnt xLoc xR xV xF mOld mCnt mTab mSpc mW mP mS mD iCnt iL iN oRes oKno oGiv oTrp aVec aA aB aC aPc) [(cI, .int), (cJ, .long)])) (qa_det (.int (f_X4_state z1 xMod xLev xHal xEnt xLoc mCnt iCnt))) 0 0 (fun _ => False) := by
  refine Met.ofW (cc := cX4_state) (maxL := 2) (ret := (some .int)) (by decide) rfl ?_
  intro p e s m args below meth c s₁ B hml hv
  obtain ⟨rfl, hP, hK⟩ := hv
  have hx := B.exec
  have hb := B.bytes
  have hr := B.returns
  have hts : ∀ w ∈ vG, w.before _ s = true := fun w h => atoms_spec (ws := (.code yX4_state cX4_state 2 (some .int) :: vG)) B.pre w (List.mem_cons_of_mem _ h)
  have hown : s.vm.findClass "LongMachine" = some m.cls := findClass_of_methodNamed B.named
  have hlocks := B.notSynchronized
  have hl := lv_entry ([.ref qX, .int z1]) (n := 2) (Nat.le_of_ble_eq_true rfl)
  rw [lg_entry_eq]
  generalize (lg_sl ([.ref qX, .int z1]) ++ List.replicate (2 - (lg_sl ([.ref qX, .int z1])).length) Slot.unset).toArray = ls at hl ⊢
  have hl : lv_has ls 2 [(0, .ref qX), (1, .int z1)] := hl
  obtain ⟨u, hu⟩ : ∃ u, u = f_X4_state z1 xMod xLev xHal xEnt xLoc mCnt iCnt := ⟨_, rfl⟩
  rw [← hu]
  unfold f_X4_state at hu
  refine lv_iload_n (pc := 0) hx hb dX4_state_0 rfl (lv_at hl 1 rfl) ?_
  rcases Decidable.em (z1 = (0 : Int32)) with h1_1 | h1_1
  · have hu := hu.trans (if_pos h1_1)
    refine qa_table (pc := 1) (tgt := 40) (off := 39) hx hb dX4_state_1 (Or.inr (by rw [h1_1]; decide)) (by decide) ?_
    refine lv_aload_n (pc := 40) hx hb dX4_state_40 rfl (lv_at hl 0 rfl) ?_
    refine qa_calld (pc := 41) (v := .int (((8 : Int32) * xMod) + xLev)) (va_runV (As := []) (rest := []) ⟨hx, hb, hml, hown, hts⟩ (c_X4_status l dC dI cI cJ qX qR qV qF qM qMw qMp qMs qMd qI qIl qIn qO qC xPc xKsp xUsp xKgp xVal xMod xLev xHal xEnt xLoc xR xV xF mOld mCnt mTab mSpc mW mP mS mD iCnt iL iN oRes oKno oGiv oTrp aVec aA aB aC aPc) (cwV 0 hts (gd_V gm_234 gm_232 gm_233 gm_560 gm_1) rfl rfl rfl (by decide +kernel) ⟨Nat.le_of_ble_eq_true rfl, Nat.le_of_ble_eq_true rfl⟩) (qa_VR (q0 := 0) (q := ("LongMachine", TX4, 17)) hK hP rfl rfl hP) rfl rfl hl.1 rfl (lv_room (Nat.le_of_ble_eq_true rfl)) dX4_state_41 ⟨Nat.zero_le _, Nat.zero_le _⟩) ?_
    subst hu
    exact W.iret hx hb hr (fun t ht hW => ⟨rfl, ht⟩) (fun _ h => by cases h) dX4_state_44
  · have hu := hu.trans (if_neg h1_1)
    have n1_0 : ¬ z1 = (0 : Int32) := h1_1
    rcases Decidable.em (z1 = (1 : Int32)) with h1_2 | h1_2
    · have hu := hu.trans (if_pos h1_2)
      refine qa_table (pc := 1) (tgt := 45) (off := 44) hx hb dX4_state_1 (Or.inr (by rw [h1_2]; decide)) (by decide) ?_
      refine lv_aload_n (pc := 45) hx hb dX4_state_45 rfl (lv_at hl 0 rfl) ?_
      refine va_get (D := (dC, dI)) (pc := 46) (ci := 4) (v := .int xLoc) (C := "LongMachine") (T := TX4) (N := 17) hx hb hts ui_X4 hown hK hP 0 rfl rfl 16 (by decide) (hts _ gm_107) (fun _ h9 => h9) rfl dX4_state_46 ?_
      refine qa_joini (J := 57) (ls2 := ls) (rest2 := []) (if xLoc = (0 : Int32) then (0 : Int32) else (1 : Int32)) (fun hj57 => ?_) ?_
      · refine lv_if_eq (pc := 49) (tgt := 56) hx hb dX4_state_49 (by decide) (fun h49_3 => ?_) (fun h49_3 => ?_)
        · refine lv_iconst (pc := 56) (v := (0 : Int32)) hx hb dX4_state_56 (by decide) ?_
          exact hj57 _ (Eq.symm (if_pos h49_3))
        · refine lv_iconst (pc := 52) (v := (1 : Int32)) hx hb dX4_state_52 (by decide) ?_
          refine lv_goto (pc := 53) (tgt := 57) hx hb dX4_state_53 (by decide) ?_
          exact hj57 _ (Eq.symm (if_neg h49_3))
      subst hu
      exact W.iret hx hb hr (fun t ht hW => ⟨rfl, ht⟩) (fun _ h => by cases h) dX4_state_57
    · have hu := hu.trans (if_neg h1_2)
      have n1_1 : ¬ z1 = (1 : Int32) := h1_2
      rcases Decidable.em (z1 = (2 : Int32)) with h1_4 | h1_4
      · have hu := hu.trans (if_pos h1_4)
        refine qa_table (pc := 1) (tgt := 58) (off := 57) hx hb dX4_state_1 (Or.inr (by rw [h1_4]; decide)) (by decide) ?_
        refine lv_aload_n (pc := 58) hx hb dX4_state_58 rfl (lv_at hl 0 rfl) ?_
        refine va_get (D := (dC, dI)) (pc := 59) (ci := 4) (v := .int xHal) (C := "LongMachine") (T := TX4) (N := 17) hx hb hts ui_X4 hown hK hP 0 rfl rfl 14 (by decide) (hts _ gm_105) (fun _ h9 => h9) rfl dX4_state_59 ?_
        subst hu
        exact W.iret hx hb hr (fun t ht hW => ⟨rfl, ht⟩) (fun _ h => by cases h) dX4_state_62
      · have hu := hu.trans (if_neg h1_4)
        have n1_2 : ¬ z1 = (2 : Int32) := h1_4
        rcases Decidable.em (z1 = (3 : Int32)) with h1_5 | h1_5
        · have hu := hu.trans (if_pos h1_5)
          refine qa_table (pc := 1) (tgt := 63) (off := 62) hx hb dX4_state_1 (Or.inr (by rw [h1_5]; decide)) (by decide) ?_
          refine lv_aload_n (pc := 63) hx hb dX4_state_63 rfl (lv_at hl 0 rfl) ?_
          refine va_get (D := (dC, dI)) (pc := 64) (ci := 4) (v := .ref qM) (C := "LongMachine") (T := TX4) (N := 17) hx hb hts ui_X4 hown hK hP 0 rfl rfl 0 (by decide) (hts _ gm_91) (fun _ h9 => h9) rfl dX4_state_64 ?_
          refine va_get (D := (dC, dI)) (pc := 67) (ci := 2) (v := .int mCnt) (C := "LongMachine$Memory") (T := TX2) (N := 8) hx hb hts ui_X2 hown hK hP 4 rfl rfl 5 (by decide) (hts _ gm_27) (fun _ h9 => h9) rfl dX4_state_67 ?_
          subst hu
          exact W.iret hx hb hr (fun t ht hW => ⟨rfl, ht⟩) (fun _ h => by cases h) dX4_state_70
        · have hu := hu.trans (if_neg h1_5)
          have n1_3 : ¬ z1 = (3 : Int32) := h1_5
          rcases Decidable.em (z1 = (4 : Int32)) with h1_6 | h1_6
          · have hu := hu.trans (if_pos h1_6)
            refine qa_table (pc := 1) (tgt := 71) (off := 70) hx hb dX4_state_1 (Or.inr (by rw [h1_6]; decide)) (by decide) ?_
            refine lv_aload_n (pc := 71) hx hb dX4_state_71 rfl (lv_at hl 0 rfl) ?_
            refine va_get (D := (dC, dI)) (pc := 72) (ci := 4) (v := .ref qI) (C := "LongMachine") (T := TX4) (N := 17) hx hb hts ui_X4 hown hK hP 0 rfl rfl 4 (by decide) (hts _ gm_95) (fun _ h9 => h9) rfl dX4_state_72 ?_
            refine va_get (D := (dC, dI)) (pc := 75) (ci := 1) (v := .int iCnt) (C := "LongMachine$Interrupts") (T := TX1) (N := 3) hx hb hts ui_X1 hown hK hP 9 rfl rfl 2 (by decide) (hts _ gm_50) (fun _ h9 => h9) rfl dX4_state_75 ?_
            subst hu
            exact W.iret hx hb hr (fun t ht hW => ⟨rfl, ht⟩) (fun _ h => by cases h) dX4_state_78
          · have hu := hu.trans (if_neg h1_6)
            have n1_4 : ¬ z1 = (4 : Int32) := h1_6
            rcases Decidable.em (z1 = (5 : Int32)) with h1_7 | h1_7
            · have hu := hu.trans (if_pos h1_7)
              refine qa_table (pc := 1) (tgt := 79) (off := 78) hx hb dX4_state_1 (Or.inr (by rw [h1_7]; decide)) (by decide) ?_
              refine lv_aload_n (pc := 79) hx hb dX4_state_79 rfl (lv_at hl 0 rfl) ?_
              refine va_get (D := (dC, dI)) (pc := 80) (ci := 4) (v := .int xEnt) (C := "LongMachine") (T := TX4) (N := 17) hx hb hts ui_X4 hown hK hP 0 rfl rfl 15 (by decide) (hts _ gm_106) (fun _ h9 => h9) rfl dX4_state_80 ?_
              subst hu
              exact W.iret hx hb hr (fun t ht hW => ⟨rfl, ht⟩) (fun _ h => by cases h) dX4_state_83
            · have hu := hu.trans (if_neg h1_7)
              have n1_5 : ¬ z1 = (5 : Int32) := h1_7
              refine qa_table (pc := 1) (tgt := 84) (off := 83) hx hb dX4_state_1 (Or.inl ⟨by have := lv_neT n1_0 (by decide : ((0 : Int32)).toInt = 0); have := lv_neT n1_1 (by decide : ((1 : Int32)).toInt = 1); have := lv_neT n1_2 (by decide : ((2 : Int32)).toInt = 2); have := lv_neT n1_3 (by decide : ((3 : Int32)).toInt = 3); have := lv_neT n1_4 (by decide : ((4 : Int32)).toInt = 4); have := lv_neT n1_5 (by decide : ((5 : Int32)).toInt = 5); omega, rfl⟩) (by decide) ?_
              refine lv_iconst (pc := 84) (v := (-1 : Int32)) hx hb dX4_state_84 (by decide) ?_
              subst hu
              exact W.iret hx hb hr (fun t ht hW => ⟨rfl, ht⟩) (fun _ h => by cases h) dX4_state_85
set_option maxRecDepth 100000 in
set_option maxHeartbeats 4000000 in
theorem c_X4_refuse (l : Launch) (dC : Nat → ClassId) (dI : Nat → Nat → Nat) (cI cJ : ClassId) (qX qR qV qF qM qMw qMp qMs qMd qI qIl qIn qO qC : Nat) (sz : Nat) (xPc : Int64) (xKsp : Int64) (xUsp : Int64) (xKgp : Int64) (xVal : Int64) (xMod : Int32) (xLev : Int32) (xHal : Int32) (xEnt : Int32) (xLoc : Int32) (xR : (Nat → Int64)) (xV : (Nat → Int64)) (xF : (Nat → Int64)) (mOld : Int32) (mCnt : Int32) (mTab : Int32) (mSpc : Int32) (mW : (Nat → Int64)) (mP : (Nat → Int32)) (mS : (Nat → Int32)) (mD : (Nat → Int64)) (iCnt : Int32) (iL : (Nat → Int32)) (iN : (Nat → Int32)) (oRes : Int64) (oKno : Int32) (oGiv : Int32) (oTrp : Int32) (aVec : Int32) (aA : Int64) (aB : Int64) (aC : Int64) (aPc : Int64) (z1 : Int32) : Met l yX4_refuse (.code yX4_refuse cX4_refuse 2 none :: vG) ({ frames := 1, cells := 0, slots := 0, locals := 29 }) (va_Pc [.ref qX, .int z1] (qa_pre (dC, dI) vwCl (wX cI cJ qX qR qV qF qM qMw qMp qMs qMd qI qIl qIn qO qC xPc xKsp xUsp xKgp xVal xMod xLev xHal xEnt xLoc xR xV xF mOld mCnt mTab mSpc mW mP mS mD iCnt iL iN oRes oKno oGiv oTrp aVec aA aB aC aPc) [(cI, .int), (cJ, .long)] sz)) (qa_mod none (dC, dI) vwCl (wX cI cJ qX qR qV qF qM qMw qMp qMs qMd qI qIl qIn qO qC xPc xKsp xUsp xKgp xVal xMod xLev xHal xEnt xLoc xR xV xF mOld mCnt mTab mSpc mW mP mS mD iCnt iL iN oRes oKno oGiv oTrp (3 : Int32) (Int32.toInt64 z1) (0 : Int64) (0 : Int64) (xPc - (4 : Int64))) (va_A (wX cI cJ qX qR qV qF qM qMw qMp qMs qMd qI qIl qIn qO qC xPc xKsp xUsp xKgp xVal xMod xLev xHal xEnt xLoc xR xV xF mOld mCnt mTab mSpc mW mP mS mD iCnt iL iN oRes oKno oGiv oTrp aVec aA aB aC aPc) sz)) 0 0 (va_A (wX cI cJ qX qR qV qF qM qMw qMp qMs qMd qI qIl qIn qO qC xPc xKsp xUsp xKgp xVal xMod xLev xHal xEnt xLoc xR xV xF mOld mCnt mTab mSpc mW mP mS mD iCnt iL iN oRes oKno oGiv oTrp aVec aA aB aC aPc) sz) := by
  refine Met.ofW (cc := cX4_refuse) (maxL := 2) (ret := none) (by decide) rfl ?_
  intro p e s m args below meth c s₁ B hml hv
  obtain ⟨rfl, hsz, hP, hK, hD0⟩ := hv
  have hx := B.exec
  have hb := B.bytes
  have hr := B.returns
  have hts : ∀ w ∈ vG, w.before _ s = true := fun w h => atoms_spec (ws := (.code yX4_refuse cX4_refuse 2 none :: vG)) B.pre w (List.mem_cons_of_mem _ h)
  have hown : s.vm.findClass "LongMachine" = some m.cls := findClass_of_methodNamed B.named
  have hlocks := B.notSynchronized
  subst hsz
  have hD := hD0.self (sz := s.heap.size)
  generalize hAe : va_A (wX cI cJ qX qR qV qF qM qMw qMp qMs qMd qI qIl qIn qO qC xPc xKsp xUsp xKgp xVal xMod xLev xHal xEnt xLoc xR xV xF mOld mCnt mTab mSpc mW mP mS mD iCnt iL iN oRes oKno oGiv oTrp aVec aA aB aC aPc) s.heap.size = A at hD ⊢
  have hA : ∀ q : Nat, s.heap.size ≤ q → A q := fun q h => by rw [← hAe]; exact Or.inr h
  have hS : va_S A s.heap s.heap [] := va_S.rf
  have hl := lv_entry ([.ref qX, .int z1]) (n := 2) (Nat.le_of_ble_eq_true rfl)
  rw [lg_entry_eq]
  generalize (lg_sl ([.ref qX, .int z1]) ++ List.replicate (2 - (lg_sl ([.ref qX, .int z1])).length) Slot.unset).toArray = ls at hl ⊢
  have hl : lv_has ls 2 [(0, .ref qX), (1, .int z1)] := hl
  refine lv_aload_n (pc := 0) hx hb dX4_refuse_0 rfl (lv_at hl 0 rfl) ?_
  refine va_get (D := (dC, dI)) (pc := 1) (ci := 4) (v := .ref qC) (C := "LongMachine") (T := TX4) (N := 17) hx hb hts ui_X4 hown hK hP 0 rfl rfl 6 (by decide) (hts _ gm_97) (fun _ h9 => h9) rfl dX4_refuse_1 ?_
  refine lv_iconst (pc := 4) (v := (3 : Int32)) hx hb dX4_refuse_4 (by decide) ?_
  refine lv_iload_n (pc := 5) hx hb dX4_refuse_5 rfl (lv_at hl 1 rfl) ?_
  refine lv_i2l (pc := 6) (v := (Int32.toInt64 z1)) hx hb dX4_refuse_6 rfl ?_
  refine lv_lconst (pc := 7) (v := (0 : Int64)) hx hb dX4_refuse_7 (by decide) ?_
  refine lv_lconst (pc := 8) (v := (0 : Int64)) hx hb dX4_refuse_8 (by decide) ?_
  refine lv_aload_n (pc := 9) hx hb dX4_refuse_9 rfl (lv_at hl 0 rfl) ?_
  refine va_get (D := (dC, dI)) (pc := 10) (ci := 4) (v := .long xPc) (C := "LongMachine") (T := TX4) (N := 17) hx hb hts ui_X4 hown hK hP 0 rfl rfl 7 (by decide) (hts _ gm_98) (fun _ h9 => h9) rfl dX4_refuse_10 ?_
  refine lv_ldc2 (pc := 13) (v := (4 : Int64)) hx hb hown (hts _ gm_204) dX4_refuse_13 ?_
  refine lv_lsub (pc := 16) hx hb dX4_refuse_16 ?_
  refine qa_callv (pc := 17) (wr := [(qX, .inr (4, [.ref qM, .ref qR, .ref qV, .ref qF, .ref qI, .ref qO, .ref qC, .long xPc, .long xKsp, .long xUsp, .long xKgp, .long xVal, .int xMod, .int xLev, .int xHal, .int xEnt, .int xLoc])), (qR, .inl (cJ, 32, .inr (.inl xR))), (qV, .inl (cJ, 6, .inr (.inl xV))), (qF, .inl (cJ, 6, .inr (.inl xF))), (qM, .inr (2, [.ref qMw, .ref qMp, .ref qMs, .ref qMd, .int mOld, .int mCnt, .int mTab, .int mSpc])), (qMw, .inl (cJ, 512, .inr (.inl mW))), (qMp, .inl (cI, 4, .inl mP)), (qMs, .inl (cI, 4, .inl mS)), (qMd, .inl (cJ, 4, .inr (.inl mD))), (qI, .inr (1, [.ref qIl, .ref qIn, .int iCnt])), (qIl, .inl (cI, 4, .inl iL)), (qIn, .inl (cI, 4, .inl iN)), (qO, .inr (3, [.long oRes, .int oKno, .int oGiv, .int oTrp]))]) (wf := (wX cI cJ qX qR qV qF qM qMw qMp qMs qMd qI qIl qIn qO qC xPc xKsp xUsp xKgp xVal xMod xLev xHal xEnt xLoc xR xV xF mOld mCnt mTab mSpc mW mP mS mD iCnt iL iN oRes oKno oGiv oTrp (3 : Int32) (Int32.toInt64 z1) (0 : Int64) (0 : Int64) (xPc - (4 : Int64)))) (va_runV (As := [.int (3 : Int32), .long (Int32.toInt64 z1), .long (0 : Int64), .long (0 : Int64), .long (xPc - (4 : Int64))]) (rest := []) ⟨hx, hb, hml, hown, hts⟩ (c_X0_enter l dC dI cI cJ qC s.heap.size aVec aA aB aC aPc (3 : Int32) (Int32.toInt64 z1) (0 : Int64) (0 : Int64) (xPc - (4 : Int64))) (cwV 5 hts (gd_V gm_199 gm_196 gm_197 gm_198 gm_5) rfl rfl rfl (by decide +kernel) ⟨Nat.le_of_ble_eq_true rfl, Nat.le_of_ble_eq_true rfl⟩) (qa_VM (q0 := 13) (q := ("LongMachine$Crossing", TX0, 5)) hK hP rfl rfl (hP.sub (ws' := (wC cI cJ qC aVec aA aB aC aPc)) [13] rfl) (hD.sub (ws' := (wC cI cJ qC aVec aA aB aC aPc)) [13] (by decide) rfl)) rfl rfl hl.1 rfl (lv_room (Nat.le_of_ble_eq_true rfl)) dX4_refuse_17 ⟨Nat.zero_le _, Nat.zero_le _⟩) hP hD hS hA [13] [0, 1, 2, 3, 4, 5, 6, 7, 8, 9, 10, 11, 12] [0, 1, 2, 3, 4, 5, 6, 7, 8, 9, 10, 11, 12, 13] rfl (by decide) rfl (by decide) (by decide) rfl rfl (by decide) (fun H locs hP hD hS => ?_)
  exact W.vret hx hb hr (fun t ht hW => ⟨rfl, by rw [ht]; exact hP, hS.F ht⟩) hS.2.2 dX4_refuse_20
set_option maxRecDepth 100000 in
set_option maxHeartbeats 4000000 in
theorem c_X4_branch (l : Launch) (dC : Nat → ClassId) (dI : Nat → Nat → Nat) (cI cJ : ClassId) (qX qR qV qF qM qMw qMp qMs qMd qI qIl qIn qO qC : Nat) (sz : Nat) (xPc : Int64) (xKsp : Int64) (xUsp : Int64) (xKgp : Int64) (xVal : Int64) (xMod : Int32) (xLev : Int32) (xHal : Int32) (xEnt : Int32) (xLoc : Int32) (xR : (Nat → Int64)) (xV : (Nat → Int64)) (xF : (Nat → Int64)) (mOld : Int32) (mCnt : Int32) (mTab : Int32) (mSpc : Int32) (mW : (Nat → Int64)) (mP : (Nat → Int32)) (mS : (Nat → Int32)) (mD : (Nat → Int64)) (iCnt : Int32) (iL : (Nat → Int32)) (iN : (Nat → Int32)) (oRes : Int64) (oKno : Int32) (oGiv : Int32) (oTrp : Int32) (aVec : Int32) (aA : Int64) (aB : Int64) (aC : Int64) (aPc : Int64) (z1 : Int32) : Met l yX4_branch (.code yX4_branch cX4_branch 4 none :: vG) ({ frames := 0, cells := 0, slots := 0, locals := 0 }) (va_Pc [.ref qX, .int z1] (qa_pre (dC, dI) vwCl (wX cI cJ qX qR qV qF qM qMw qMp qMs qMd qI qIl qIn qO qC xPc xKsp xUsp xKgp xVal xMod xLev xHal xEnt xLoc xR xV xF mOld mCnt mTab mSpc mW mP mS mD iCnt iL iN oRes oKno oGiv oTrp aVec aA aB aC aPc) [(cI, .int), (cJ, .long)] sz)) (qa_mod none (dC, dI) vwCl (wX cI cJ qX qR qV qF qM qMw qMp qMs qMd qI qIl qIn qO qC (xPc + ((4 : Int64) * (Int32.toInt64 ((z1 <<< ((11 : Int32) &&& (31 : Int32))) >>> ((11 : Int32) &&& (31 : Int32)))))) xKsp xUsp xKgp xVal xMod xLev xHal xEnt xLoc xR xV xF mOld mCnt mTab mSpc mW mP mS mD iCnt iL iN oRes oKno oGiv oTrp aVec aA aB aC aPc) (va_A (wX cI cJ qX qR qV qF qM qMw qMp qMs qMd qI qIl qIn qO qC xPc xKsp xUsp xKgp xVal xMod xLev xHal xEnt xLoc xR xV xF mOld mCnt mTab mSpc mW mP mS mD iCnt iL iN oRes oKno oGiv oTrp aVec aA aB aC aPc) sz)) 0 0 (va_A (wX cI cJ qX qR qV qF qM qMw qMp qMs qMd qI qIl qIn qO qC xPc xKsp xUsp xKgp xVal xMod xLev xHal xEnt xLoc xR xV xF mOld mCnt mTab mSpc mW mP mS mD iCnt iL iN oRes oKno oGiv oTrp aVec aA aB aC aPc) sz) := by
  refine Met.ofW (cc := cX4_branch) (maxL := 4) (ret := none) (by decide) rfl ?_
  intro p e s m args below meth c s₁ B hml hv
  obtain ⟨rfl, hsz, hP, hK, hD0⟩ := hv
  have hx := B.exec
  have hb := B.bytes
  have hr := B.returns
  have hts : ∀ w ∈ vG, w.before _ s = true := fun w h => atoms_spec (ws := (.code yX4_branch cX4_branch 4 none :: vG)) B.pre w (List.mem_cons_of_mem _ h)
  have hown : s.vm.findClass "LongMachine" = some m.cls := findClass_of_methodNamed B.named
  have hlocks := B.notSynchronized
  subst hsz
  have hD := hD0.self (sz := s.heap.size)
  generalize hAe : va_A (wX cI cJ qX qR qV qF qM qMw qMp qMs qMd qI qIl qIn qO qC xPc xKsp xUsp xKgp xVal xMod xLev xHal xEnt xLoc xR xV xF mOld mCnt mTab mSpc mW mP mS mD iCnt iL iN oRes oKno oGiv oTrp aVec aA aB aC aPc) s.heap.size = A at hD ⊢
  have hA : ∀ q : Nat, s.heap.size ≤ q → A q := fun q h => by rw [← hAe]; exact Or.inr h
  have hS : va_S A s.heap s.heap [] := va_S.rf
  have hl := lv_entry ([.ref qX, .int z1]) (n := 4) (Nat.le_of_ble_eq_true rfl)
  rw [lg_entry_eq]
  generalize (lg_sl ([.ref qX, .int z1]) ++ List.replicate (4 - (lg_sl ([.ref qX, .int z1])).length) Slot.unset).toArray = ls at hl ⊢
  have hl : lv_has ls 4 [(0, .ref qX), (1, .int z1)] := hl
  refine lv_iload_n (pc := 0) hx hb dX4_branch_0 rfl (lv_at hl 1 rfl) ?_
  refine lv_bipush (pc := 1) (v := (11 : Int32)) hx hb dX4_branch_1 (by decide) ?_
  refine lv_ishl (pc := 3) hx hb dX4_branch_3 ?_
  refine lv_bipush (pc := 4) (v := (11 : Int32)) hx hb dX4_branch_4 (by decide) ?_
  refine lv_ishr (pc := 6) hx hb dX4_branch_6 ?_
  refine lv_i2l (pc := 7) (v := (Int32.toInt64 ((z1 <<< ((11 : Int32) &&& (31 : Int32))) >>> ((11 : Int32) &&& (31 : Int32))))) hx hb dX4_branch_7 rfl ?_
  refine lv_lstore_n (pc := 8) (lv' := [(2, .long (Int32.toInt64 ((z1 <<< ((11 : Int32) &&& (31 : Int32))) >>> ((11 : Int32) &&& (31 : Int32))))), (0, .ref qX), (1, .int z1)]) hx hb dX4_branch_8 rfl hl (by decide) rfl (fun ls hl => ?_)
  refine lv_aload_n (pc := 9) hx hb dX4_branch_9 rfl (lv_at hl 1 rfl) ?_
  refine lv_dup (pc := 10) hx hb dX4_branch_10 rfl ?_
  refine va_get (D := (dC, dI)) (pc := 11) (ci := 4) (v := .long xPc) (C := "LongMachine") (T := TX4) (N := 17) hx hb hts ui_X4 hown hK hP 0 rfl rfl 7 (by decide) (hts _ gm_98) (fun _ h9 => h9) rfl dX4_branch_11 ?_
  refine lv_ldc2 (pc := 14) (v := (4 : Int64)) hx hb hown (hts _ gm_204) dX4_branch_14 ?_
  refine lv_lload_n (pc := 17) hx hb dX4_branch_17 rfl (lv_at hl 0 rfl) ?_
  refine lv_lmul (pc := 18) hx hb dX4_branch_18 ?_
  refine lv_ladd (pc := 19) hx hb dX4_branch_19 ?_
  refine va_put (D := (dC, dI)) (pc := 20) (ci := 4) (v := .long (xPc + ((4 : Int64) * (Int32.toInt64 ((z1 <<< ((11 : Int32) &&& (31 : Int32))) >>> ((11 : Int32) &&& (31 : Int32))))))) (ty := .long) (C := "LongMachine") (T := TX4) (N := 17) hx hb hts ui_X4 tyX4 tyX4_ok nmX4 hown hK hP hD hS 0 rfl rfl 7 (by decide) (hts _ gm_98) (fun _ h9 => h9) rfl (by decide +kernel) rfl rfl (Nat.le_of_ble_eq_true rfl) dX4_branch_20 (fun H locs hP hD hS => ?_)
  have hP : va_P (dC, dI) vwCl (wX cI cJ qX qR qV qF qM qMw qMp qMs qMd qI qIl qIn qO qC (xPc + ((4 : Int64) * (Int32.toInt64 ((z1 <<< ((11 : Int32) &&& (31 : Int32))) >>> ((11 : Int32) &&& (31 : Int32)))))) xKsp xUsp xKgp xVal xMod xLev xHal xEnt xLoc xR xV xF mOld mCnt mTab mSpc mW mP mS mD iCnt iL iN oRes oKno oGiv oTrp aVec aA aB aC aPc) H := hP
  have hD : va_D A (wX cI cJ qX qR qV qF qM qMw qMp qMs qMd qI qIl qIn qO qC (xPc + ((4 : Int64) * (Int32.toInt64 ((z1 <<< ((11 : Int32) &&& (31 : Int32))) >>> ((11 : Int32) &&& (31 : Int32)))))) xKsp xUsp xKgp xVal xMod xLev xHal xEnt xLoc xR xV xF mOld mCnt mTab mSpc mW mP mS mD iCnt iL iN oRes oKno oGiv oTrp aVec aA aB aC aPc) := hD
  exact W.vret hx hb hr (fun t ht hW => ⟨rfl, by rw [ht]; exact hP, hS.F ht⟩) hS.2.2 dX4_branch_23
def f_X4_isTaken (z0 : Int32) (z1 : Int64) : Int32 := (if z0 = (56 : Int32) then (if (z1 &&& (1 : Int64)) = (0 : Int64) then (1 : Int32) else (0 : Int32)) else (if z0 = (57 : Int32) then (if z1 = (0 : Int64) then (1 : Int32) else (0 : Int32)) else (if z0 = (58 : Int32) then (if (0 : Int64) ≤ z1 then (0 : Int32) else (1 : Int32)) else (if z0 = (59 : Int32) then (if (0 : Int64) < z1 then (0 : Int32) else (1 : Int32)) else (if z0 = (60 : Int32) then (if (z1 &&& (1 : Int64)) = (0 : Int64) then (0 : Int32) else (1 : Int32)) else (if z0 = (61 : Int32) then (if z1 = (0 : Int64) then (0 : Int32) else (1 : Int32)) else (if z0 = (62 : Int32) then (if z1 < (0 : Int64) then (0 : Int32) else (1 : Int32)) else (if z0 = (63 : Int32) then (if z1 ≤ (0 : Int64) then (0 : Int32) else (1 : Int32)) else (0 : Int32)))))))))
set_option maxRecDepth 100000 in
set_option maxHeartbeats 4000000 in
theorem c_X4_isTaken (l : Launch) (z0 : Int32) (z1 : Int64) : Met l yX4_isTaken (.code yX4_isTaken cX4_isTaken 3 (some .boolean) :: vG) ({ frames := 0, cells := 0, slots := 0, locals := 0 }) (va_Pc [.int z0, .long z1] (fun _ => True)) (qa_det (.int (f_X4_isTaken z0 z1))) 0 0 (fun _ => False) := by
  refine Met.ofW (cc := cX4_isTaken) (maxL := 3) (ret := (some .boolean)) (by decide) rfl ?_
  intro p e s m args below meth c s₁ B hml hv
  obtain ⟨rfl, hv⟩ := hv
  have hx := B.exec
  have hb := B.bytes
  have hr := B.returns
  have hts : ∀ w ∈ vG, w.before _ s = true := fun w h => atoms_spec (ws := (.code yX4_isTaken cX4_isTaken 3 (some .boolean) :: vG)) B.pre w (List.mem_cons_of_mem _ h)
  have hown : s.vm.findClass "LongMachine" = some m.cls := findClass_of_methodNamed B.named
  have hlocks := B.notSynchronized
  have hl := lv_entry ([.int z0, .long z1]) (n := 3) (Nat.le_of_ble_eq_true rfl)
  rw [lg_entry_eq]
  generalize (lg_sl ([.int z0, .long z1]) ++ List.replicate (3 - (lg_sl ([.int z0, .long z1])).length) Slot.unset).toArray = ls at hl ⊢
  have hl : lv_has ls 3 [(0, .int z0), (1, .long z1)] := hl
  obtain ⟨u, hu⟩ : ∃ u, u = f_X4_isTaken z0 z1 := ⟨_, rfl⟩
  rw [← hu]
  unfold f_X4_isTaken at hu
  refine lv_iload_n (pc := 0) hx hb dX4_isTaken_0 rfl (lv_at hl 0 rfl) ?_
  rcases Decidable.em (z0 = (56 : Int32)) with h1_1 | h1_1
  · have hu := hu.trans (if_pos h1_1)
    refine qa_table (pc := 1) (tgt := 48) (off := 47) hx hb dX4_isTaken_1 (Or.inr (by rw [h1_1]; decide)) (by decide) ?_
    refine lv_lload_n (pc := 48) hx hb dX4_isTaken_48 rfl (lv_at hl 1 rfl) ?_
    refine lv_lconst (pc := 49) (v := (1 : Int64)) hx hb dX4_isTaken_49 (by decide) ?_
    refine lv_land (pc := 50) hx hb dX4_isTaken_50 ?_
    refine lv_lconst (pc := 51) (v := (0 : Int64)) hx hb dX4_isTaken_51 (by decide) ?_
    refine qa_joini (J := 61) (ls2 := ls) (rest2 := []) (if (z1 &&& (1 : Int64)) = (0 : Int64) then (1 : Int32) else (0 : Int32)) (fun hj61 => ?_) ?_
    · refine qa_lc_ne (pc := 52) (tgt := 60) hx hb dX4_isTaken_52 dX4_isTaken_53 (by decide) (fun h52_2 => ?_) (fun h52_2 => ?_)
      · refine lv_iconst (pc := 60) (v := (0 : Int32)) hx hb dX4_isTaken_60 (by decide) ?_
        exact hj61 _ (Eq.symm (if_neg h52_2))
      · refine lv_iconst (pc := 56) (v := (1 : Int32)) hx hb dX4_isTaken_56 (by decide) ?_
        refine lv_goto (pc := 57) (tgt := 61) hx hb dX4_isTaken_57 (by decide) ?_
        exact hj61 _ (Eq.symm (if_pos h52_2))
    subst hu
    exact W.zret hx hb hr (qa_nb (qa_bi qa_b1 qa_b0)) (fun t ht hW => ⟨rfl, ht⟩) (fun _ h => by cases h) dX4_isTaken_61
  · have hu := hu.trans (if_neg h1_1)
    have n1_0 : ¬ z0 = (56 : Int32) := h1_1
    rcases Decidable.em (z0 = (57 : Int32)) with h1_3 | h1_3
    · have hu := hu.trans (if_pos h1_3)
      refine qa_table (pc := 1) (tgt := 62) (off := 61) hx hb dX4_isTaken_1 (Or.inr (by rw [h1_3]; decide)) (by decide) ?_
      refine lv_lload_n (pc := 62) hx hb dX4_isTaken_62 rfl (lv_at hl 1 rfl) ?_
      refine lv_lconst (pc := 63) (v := (0 : Int64)) hx hb dX4_isTaken_63 (by decide) ?_
      refine qa_joini (J := 73) (ls2 := ls) (rest2 := []) (if z1 = (0 : Int64) then (1 : Int32) else (0 : Int32)) (fun hj73 => ?_) ?_
      · refine qa_lc_ne (pc := 64) (tgt := 72) hx hb dX4_isTaken_64 dX4_isTaken_65 (by decide) (fun h64_4 => ?_) (fun h64_4 => ?_)
        · refine lv_iconst (pc := 72) (v := (0 : Int32)) hx hb dX4_isTaken_72 (by decide) ?_
          exact hj73 _ (Eq.symm (if_neg h64_4))
        · refine lv_iconst (pc := 68) (v := (1 : Int32)) hx hb dX4_isTaken_68 (by decide) ?_
          refine lv_goto (pc := 69) (tgt := 73) hx hb dX4_isTaken_69 (by decide) ?_
          exact hj73 _ (Eq.symm (if_pos h64_4))
      subst hu
      exact W.zret hx hb hr (qa_nb (qa_bi qa_b1 qa_b0)) (fun t ht hW => ⟨rfl, ht⟩) (fun _ h => by cases h) dX4_isTaken_73
    · have hu := hu.trans (if_neg h1_3)
      have n1_1 : ¬ z0 = (57 : Int32) := h1_3
      rcases Decidable.em (z0 = (58 : Int32)) with h1_5 | h1_5
      · have hu := hu.trans (if_pos h1_5)
        refine qa_table (pc := 1) (tgt := 74) (off := 73) hx hb dX4_isTaken_1 (Or.inr (by rw [h1_5]; decide)) (by decide) ?_
        refine lv_lload_n (pc := 74) hx hb dX4_isTaken_74 rfl (lv_at hl 1 rfl) ?_
        refine lv_lconst (pc := 75) (v := (0 : Int64)) hx hb dX4_isTaken_75 (by decide) ?_
        refine qa_joini (J := 85) (ls2 := ls) (rest2 := []) (if (0 : Int64) ≤ z1 then (0 : Int32) else (1 : Int32)) (fun hj85 => ?_) ?_
        · refine qa_lc_ge (pc := 76) (tgt := 84) hx hb dX4_isTaken_76 dX4_isTaken_77 (by decide) (fun h76_6 => ?_) (fun h76_6 => ?_)
          · refine lv_iconst (pc := 84) (v := (0 : Int32)) hx hb dX4_isTaken_84 (by decide) ?_
            exact hj85 _ (Eq.symm (if_pos h76_6))
          · refine lv_iconst (pc := 80) (v := (1 : Int32)) hx hb dX4_isTaken_80 (by decide) ?_
            refine lv_goto (pc := 81) (tgt := 85) hx hb dX4_isTaken_81 (by decide) ?_
            exact hj85 _ (Eq.symm (if_neg h76_6))
        subst hu
        exact W.zret hx hb hr (qa_nb (qa_bi qa_b0 qa_b1)) (fun t ht hW => ⟨rfl, ht⟩) (fun _ h => by cases h) dX4_isTaken_85
      · have hu := hu.trans (if_neg h1_5)
        have n1_2 : ¬ z0 = (58 : Int32) := h1_5
        rcases Decidable.em (z0 = (59 : Int32)) with h1_7 | h1_7
        · have hu := hu.trans (if_pos h1_7)
          refine qa_table (pc := 1) (tgt := 86) (off := 85) hx hb dX4_isTaken_1 (Or.inr (by rw [h1_7]; decide)) (by decide) ?_
          refine lv_lload_n (pc := 86) hx hb dX4_isTaken_86 rfl (lv_at hl 1 rfl) ?_
          refine lv_lconst (pc := 87) (v := (0 : Int64)) hx hb dX4_isTaken_87 (by decide) ?_
          refine qa_joini (J := 97) (ls2 := ls) (rest2 := []) (if (0 : Int64) < z1 then (0 : Int32) else (1 : Int32)) (fun hj97 => ?_) ?_
          · refine qa_lc_gt (pc := 88) (tgt := 96) hx hb dX4_isTaken_88 dX4_isTaken_89 (by decide) (fun h88_8 => ?_) (fun h88_8 => ?_)
            · refine lv_iconst (pc := 96) (v := (0 : Int32)) hx hb dX4_isTaken_96 (by decide) ?_
              exact hj97 _ (Eq.symm (if_pos h88_8))
            · refine lv_iconst (pc := 92) (v := (1 : Int32)) hx hb dX4_isTaken_92 (by decide) ?_
              refine lv_goto (pc := 93) (tgt := 97) hx hb dX4_isTaken_93 (by decide) ?_
              exact hj97 _ (Eq.symm (if_neg h88_8))
          subst hu
          exact W.zret hx hb hr (qa_nb (qa_bi qa_b0 qa_b1)) (fun t ht hW => ⟨rfl, ht⟩) (fun _ h => by cases h) dX4_isTaken_97
        · have hu := hu.trans (if_neg h1_7)
          have n1_3 : ¬ z0 = (59 : Int32) := h1_7
          rcases Decidable.em (z0 = (60 : Int32)) with h1_9 | h1_9
          · have hu := hu.trans (if_pos h1_9)
            refine qa_table (pc := 1) (tgt := 98) (off := 97) hx hb dX4_isTaken_1 (Or.inr (by rw [h1_9]; decide)) (by decide) ?_
            refine lv_lload_n (pc := 98) hx hb dX4_isTaken_98 rfl (lv_at hl 1 rfl) ?_
            refine lv_lconst (pc := 99) (v := (1 : Int64)) hx hb dX4_isTaken_99 (by decide) ?_
            refine lv_land (pc := 100) hx hb dX4_isTaken_100 ?_
            refine lv_lconst (pc := 101) (v := (0 : Int64)) hx hb dX4_isTaken_101 (by decide) ?_
            refine qa_joini (J := 111) (ls2 := ls) (rest2 := []) (if (z1 &&& (1 : Int64)) = (0 : Int64) then (0 : Int32) else (1 : Int32)) (fun hj111 => ?_) ?_
            · refine qa_lc_eq (pc := 102) (tgt := 110) hx hb dX4_isTaken_102 dX4_isTaken_103 (by decide) (fun h102_10 => ?_) (fun h102_10 => ?_)
              · refine lv_iconst (pc := 110) (v := (0 : Int32)) hx hb dX4_isTaken_110 (by decide) ?_
                exact hj111 _ (Eq.symm (if_pos h102_10))
              · refine lv_iconst (pc := 106) (v := (1 : Int32)) hx hb dX4_isTaken_106 (by decide) ?_
                refine lv_goto (pc := 107) (tgt := 111) hx hb dX4_isTaken_107 (by decide) ?_
                exact hj111 _ (Eq.symm (if_neg h102_10))
            subst hu
            exact W.zret hx hb hr (qa_nb (qa_bi qa_b0 qa_b1)) (fun t ht hW => ⟨rfl, ht⟩) (fun _ h => by cases h) dX4_isTaken_111
          · have hu := hu.trans (if_neg h1_9)
            have n1_4 : ¬ z0 = (60 : Int32) := h1_9
            rcases Decidable.em (z0 = (61 : Int32)) with h1_11 | h1_11
            · have hu := hu.trans (if_pos h1_11)
              refine qa_table (pc := 1) (tgt := 112) (off := 111) hx hb dX4_isTaken_1 (Or.inr (by rw [h1_11]; decide)) (by decide) ?_
              refine lv_lload_n (pc := 112) hx hb dX4_isTaken_112 rfl (lv_at hl 1 rfl) ?_
              refine lv_lconst (pc := 113) (v := (0 : Int64)) hx hb dX4_isTaken_113 (by decide) ?_
              refine qa_joini (J := 123) (ls2 := ls) (rest2 := []) (if z1 = (0 : Int64) then (0 : Int32) else (1 : Int32)) (fun hj123 => ?_) ?_
              · refine qa_lc_eq (pc := 114) (tgt := 122) hx hb dX4_isTaken_114 dX4_isTaken_115 (by decide) (fun h114_12 => ?_) (fun h114_12 => ?_)
                · refine lv_iconst (pc := 122) (v := (0 : Int32)) hx hb dX4_isTaken_122 (by decide) ?_
                  exact hj123 _ (Eq.symm (if_pos h114_12))
                · refine lv_iconst (pc := 118) (v := (1 : Int32)) hx hb dX4_isTaken_118 (by decide) ?_
                  refine lv_goto (pc := 119) (tgt := 123) hx hb dX4_isTaken_119 (by decide) ?_
                  exact hj123 _ (Eq.symm (if_neg h114_12))
              subst hu
              exact W.zret hx hb hr (qa_nb (qa_bi qa_b0 qa_b1)) (fun t ht hW => ⟨rfl, ht⟩) (fun _ h => by cases h) dX4_isTaken_123
            · have hu := hu.trans (if_neg h1_11)
              have n1_5 : ¬ z0 = (61 : Int32) := h1_11
              rcases Decidable.em (z0 = (62 : Int32)) with h1_13 | h1_13
              · have hu := hu.trans (if_pos h1_13)
                refine qa_table (pc := 1) (tgt := 124) (off := 123) hx hb dX4_isTaken_1 (Or.inr (by rw [h1_13]; decide)) (by decide) ?_
                refine lv_lload_n (pc := 124) hx hb dX4_isTaken_124 rfl (lv_at hl 1 rfl) ?_
                refine lv_lconst (pc := 125) (v := (0 : Int64)) hx hb dX4_isTaken_125 (by decide) ?_
                refine qa_joini (J := 135) (ls2 := ls) (rest2 := []) (if z1 < (0 : Int64) then (0 : Int32) else (1 : Int32)) (fun hj135 => ?_) ?_
                · refine qa_lc_lt (pc := 126) (tgt := 134) hx hb dX4_isTaken_126 dX4_isTaken_127 (by decide) (fun h126_14 => ?_) (fun h126_14 => ?_)
                  · refine lv_iconst (pc := 134) (v := (0 : Int32)) hx hb dX4_isTaken_134 (by decide) ?_
                    exact hj135 _ (Eq.symm (if_pos h126_14))
                  · refine lv_iconst (pc := 130) (v := (1 : Int32)) hx hb dX4_isTaken_130 (by decide) ?_
                    refine lv_goto (pc := 131) (tgt := 135) hx hb dX4_isTaken_131 (by decide) ?_
                    exact hj135 _ (Eq.symm (if_neg h126_14))
                subst hu
                exact W.zret hx hb hr (qa_nb (qa_bi qa_b0 qa_b1)) (fun t ht hW => ⟨rfl, ht⟩) (fun _ h => by cases h) dX4_isTaken_135
              · have hu := hu.trans (if_neg h1_13)
                have n1_6 : ¬ z0 = (62 : Int32) := h1_13
                rcases Decidable.em (z0 = (63 : Int32)) with h1_15 | h1_15
                · have hu := hu.trans (if_pos h1_15)
                  refine qa_table (pc := 1) (tgt := 136) (off := 135) hx hb dX4_isTaken_1 (Or.inr (by rw [h1_15]; decide)) (by decide) ?_
                  refine lv_lload_n (pc := 136) hx hb dX4_isTaken_136 rfl (lv_at hl 1 rfl) ?_
                  refine lv_lconst (pc := 137) (v := (0 : Int64)) hx hb dX4_isTaken_137 (by decide) ?_
                  refine qa_joini (J := 147) (ls2 := ls) (rest2 := []) (if z1 ≤ (0 : Int64) then (0 : Int32) else (1 : Int32)) (fun hj147 => ?_) ?_
                  · refine qa_lc_le (pc := 138) (tgt := 146) hx hb dX4_isTaken_138 dX4_isTaken_139 (by decide) (fun h138_16 => ?_) (fun h138_16 => ?_)
                    · refine lv_iconst (pc := 146) (v := (0 : Int32)) hx hb dX4_isTaken_146 (by decide) ?_
                      exact hj147 _ (Eq.symm (if_pos h138_16))
                    · refine lv_iconst (pc := 142) (v := (1 : Int32)) hx hb dX4_isTaken_142 (by decide) ?_
                      refine lv_goto (pc := 143) (tgt := 147) hx hb dX4_isTaken_143 (by decide) ?_
                      exact hj147 _ (Eq.symm (if_neg h138_16))
                  subst hu
                  exact W.zret hx hb hr (qa_nb (qa_bi qa_b0 qa_b1)) (fun t ht hW => ⟨rfl, ht⟩) (fun _ h => by cases h) dX4_isTaken_147
                · have hu := hu.trans (if_neg h1_15)
                  have n1_7 : ¬ z0 = (63 : Int32) := h1_15
                  refine qa_table (pc := 1) (tgt := 148) (off := 147) hx hb dX4_isTaken_1 (Or.inl ⟨by have := lv_neT n1_0 (by decide : ((56 : Int32)).toInt = 56); have := lv_neT n1_1 (by decide : ((57 : Int32)).toInt = 57); have := lv_neT n1_2 (by decide : ((58 : Int32)).toInt = 58); have := lv_neT n1_3 (by decide : ((59 : Int32)).toInt = 59); have := lv_neT n1_4 (by decide : ((60 : Int32)).toInt = 60); have := lv_neT n1_5 (by decide : ((61 : Int32)).toInt = 61); have := lv_neT n1_6 (by decide : ((62 : Int32)).toInt = 62); have := lv_neT n1_7 (by decide : ((63 : Int32)).toInt = 63); omega, rfl⟩) (by decide) ?_
                  refine lv_iconst (pc := 148) (v := (0 : Int32)) hx hb dX4_isTaken_148 (by decide) ?_
                  subst hu
                  exact W.zret hx hb hr rfl (fun t ht hW => ⟨rfl, ht⟩) (fun _ h => by cases h) dX4_isTaken_149
set_option maxRecDepth 100000 in
set_option maxHeartbeats 4000000 in
theorem c_X4_changeSpace (l : Launch) (dC : Nat → ClassId) (dI : Nat → Nat → Nat) (cI cJ : ClassId) (qX qR qV qF qM qMw qMp qMs qMd qI qIl qIn qO qC : Nat) (sz : Nat) (xPc : Int64) (xKsp : Int64) (xUsp : Int64) (xKgp : Int64) (xVal : Int64) (xMod : Int32) (xLev : Int32) (xHal : Int32) (xEnt : Int32) (xLoc : Int32) (xR : (Nat → Int64)) (xV : (Nat → Int64)) (xF : (Nat → Int64)) (mOld : Int32) (mCnt : Int32) (mTab : Int32) (mSpc : Int32) (mW : (Nat → Int64)) (mP : (Nat → Int32)) (mS : (Nat → Int32)) (mD : (Nat → Int64)) (iCnt : Int32) (iL : (Nat → Int32)) (iN : (Nat → Int32)) (oRes : Int64) (oKno : Int32) (oGiv : Int32) (oTrp : Int32) (aVec : Int32) (aA : Int64) (aB : Int64) (aC : Int64) (aPc : Int64) : Met l yX4_changeSpace (.code yX4_changeSpace cX4_changeSpace 1 none :: vG) ({ frames := 0, cells := 0, slots := 0, locals := 0 }) (va_Pc [.ref qX] (qa_pre (dC, dI) vwCl (wX cI cJ qX qR qV qF qM qMw qMp qMs qMd qI qIl qIn qO qC xPc xKsp xUsp xKgp xVal xMod xLev xHal xEnt xLoc xR xV xF mOld mCnt mTab mSpc mW mP mS mD iCnt iL iN oRes oKno oGiv oTrp aVec aA aB aC aPc) [(cI, .int), (cJ, .long)] sz)) (qa_mod none (dC, dI) vwCl (wX cI cJ qX qR qV qF qM qMw qMp qMs qMd qI qIl qIn qO qC xPc xKsp xUsp xKgp xVal xMod xLev xHal xEnt xLoc (vp_updL xR 0 (Int32.toInt64 (((256 : Int32) * mSpc) + mTab))) xV xF mOld mCnt ((Int64.toInt32 ((vp_updL xR 0 (Int32.toInt64 (((256 : Int32) * mSpc) + mTab))) 16)) &&& (4064 : Int32)) ((Int64.toInt32 ((vp_updL xR 0 (Int32.toInt64 (((256 : Int32) * mSpc) + mTab))) 17)) &&& (255 : Int32)) mW mP mS mD iCnt iL iN oRes oKno oGiv oTrp aVec aA aB aC aPc) (va_A (wX cI cJ qX qR qV qF qM qMw qMp qMs qMd qI qIl qIn qO qC xPc xKsp xUsp xKgp xVal xMod xLev xHal xEnt xLoc xR xV xF mOld mCnt mTab mSpc mW mP mS mD iCnt iL iN oRes oKno oGiv oTrp aVec aA aB aC aPc) sz)) 0 0 (va_A (wX cI cJ qX qR qV qF qM qMw qMp qMs qMd qI qIl qIn qO qC xPc xKsp xUsp xKgp xVal xMod xLev xHal xEnt xLoc xR xV xF mOld mCnt mTab mSpc mW mP mS mD iCnt iL iN oRes oKno oGiv oTrp aVec aA aB aC aPc) sz) := by
  refine Met.ofW (cc := cX4_changeSpace) (maxL := 1) (ret := none) (by decide) rfl ?_
  intro p e s m args below meth c s₁ B hml hv
  obtain ⟨rfl, hsz, hP, hK, hD0⟩ := hv
  have hx := B.exec
  have hb := B.bytes
  have hr := B.returns
  have hts : ∀ w ∈ vG, w.before _ s = true := fun w h => atoms_spec (ws := (.code yX4_changeSpace cX4_changeSpace 1 none :: vG)) B.pre w (List.mem_cons_of_mem _ h)
  have hown : s.vm.findClass "LongMachine" = some m.cls := findClass_of_methodNamed B.named
  have hlocks := B.notSynchronized
  subst hsz
  have hD := hD0.self (sz := s.heap.size)
  generalize hAe : va_A (wX cI cJ qX qR qV qF qM qMw qMp qMs qMd qI qIl qIn qO qC xPc xKsp xUsp xKgp xVal xMod xLev xHal xEnt xLoc xR xV xF mOld mCnt mTab mSpc mW mP mS mD iCnt iL iN oRes oKno oGiv oTrp aVec aA aB aC aPc) s.heap.size = A at hD ⊢
  have hA : ∀ q : Nat, s.heap.size ≤ q → A q := fun q h => by rw [← hAe]; exact Or.inr h
  have hS : va_S A s.heap s.heap [] := va_S.rf
  have hl := lv_entry ([.ref qX]) (n := 1) (Nat.le_of_ble_eq_true rfl)
  rw [lg_entry_eq]
  generalize (lg_sl ([.ref qX]) ++ List.replicate (1 - (lg_sl ([.ref qX])).length) Slot.unset).toArray = ls at hl ⊢
  have hl : lv_has ls 1 [(0, .ref qX)] := hl
  refine lv_aload_n (pc := 0) hx hb dX4_changeSpace_0 rfl (lv_at hl 0 rfl) ?_
  refine va_get (D := (dC, dI)) (pc := 1) (ci := 4) (v := .ref qR) (C := "LongMachine") (T := TX4) (N := 17) hx hb hts ui_X4 hown hK hP 0 rfl rfl 1 (by decide) (hts _ gm_92) (fun _ h9 => h9) rfl dX4_changeSpace_1 ?_
  refine lv_iconst (pc := 4) (v := (0 : Int32)) hx hb dX4_changeSpace_4 (by decide) ?_
  refine lv_sipush (pc := 5) (v := (256 : Int32)) hx hb dX4_changeSpace_5 (by decide) ?_
  refine lv_aload_n (pc := 8) hx hb dX4_changeSpace_8 rfl (lv_at hl 0 rfl) ?_
  refine va_get (D := (dC, dI)) (pc := 9) (ci := 4) (v := .ref qM) (C := "LongMachine") (T := TX4) (N := 17) hx hb hts ui_X4 hown hK hP 0 rfl rfl 0 (by decide) (hts _ gm_91) (fun _ h9 => h9) rfl dX4_changeSpace_9 ?_
  refine va_get (D := (dC, dI)) (pc := 12) (ci := 2) (v := .int mSpc) (C := "LongMachine$Memory") (T := TX2) (N := 8) hx hb hts ui_X2 hown hK hP 4 rfl rfl 7 (by decide) (hts _ gm_30) (fun _ h9 => h9) rfl dX4_changeSpace_12 ?_
  refine lv_imul (pc := 15) hx hb dX4_changeSpace_15 ?_
  refine lv_aload_n (pc := 16) hx hb dX4_changeSpace_16 rfl (lv_at hl 0 rfl) ?_
  refine va_get (D := (dC, dI)) (pc := 17) (ci := 4) (v := .ref qM) (C := "LongMachine") (T := TX4) (N := 17) hx hb hts ui_X4 hown hK hP 0 rfl rfl 0 (by decide) (hts _ gm_91) (fun _ h9 => h9) rfl dX4_changeSpace_17 ?_
  refine va_get (D := (dC, dI)) (pc := 20) (ci := 2) (v := .int mTab) (C := "LongMachine$Memory") (T := TX2) (N := 8) hx hb hts ui_X2 hown hK hP 4 rfl rfl 6 (by decide) (hts _ gm_28) (fun _ h9 => h9) rfl dX4_changeSpace_20 ?_
  refine lv_iadd (pc := 23) hx hb dX4_changeSpace_23 ?_
  refine lv_i2l (pc := 24) (v := (Int32.toInt64 (((256 : Int32) * mSpc) + mTab))) hx hb dX4_changeSpace_24 rfl ?_
  refine qa_last (pc := 25) (k := 0) hx hb hK hP hD hS 1 1 rfl rfl (by decide) (qa_in (by decide)) dX4_changeSpace_25 (fun H locs hP hD hS => ?_)
  have hP : va_P (dC, dI) vwCl (wX cI cJ qX qR qV qF qM qMw qMp qMs qMd qI qIl qIn qO qC xPc xKsp xUsp xKgp xVal xMod xLev xHal xEnt xLoc (vp_updL xR 0 (Int32.toInt64 (((256 : Int32) * mSpc) + mTab))) xV xF mOld mCnt mTab mSpc mW mP mS mD iCnt iL iN oRes oKno oGiv oTrp aVec aA aB aC aPc) H := hP
  have hD : va_D A (wX cI cJ qX qR qV qF qM qMw qMp qMs qMd qI qIl qIn qO qC xPc xKsp xUsp xKgp xVal xMod xLev xHal xEnt xLoc (vp_updL xR 0 (Int32.toInt64 (((256 : Int32) * mSpc) + mTab))) xV xF mOld mCnt mTab mSpc mW mP mS mD iCnt iL iN oRes oKno oGiv oTrp aVec aA aB aC aPc) := hD
  refine lv_aload_n (pc := 26) hx hb dX4_changeSpace_26 rfl (lv_at hl 0 rfl) ?_
  refine va_get (D := (dC, dI)) (pc := 27) (ci := 4) (v := .ref qM) (C := "LongMachine") (T := TX4) (N := 17) hx hb hts ui_X4 hown hK hP 0 rfl rfl 0 (by decide) (hts _ gm_91) (fun _ h9 => h9) rfl dX4_changeSpace_27 ?_
  refine lv_aload_n (pc := 30) hx hb dX4_changeSpace_30 rfl (lv_at hl 0 rfl) ?_
  refine va_get (D := (dC, dI)) (pc := 31) (ci := 4) (v := .ref qR) (C := "LongMachine") (T := TX4) (N := 17) hx hb hts ui_X4 hown hK hP 0 rfl rfl 1 (by decide) (hts _ gm_92) (fun _ h9 => h9) rfl dX4_changeSpace_31 ?_
  refine lv_bipush (pc := 34) (v := (16 : Int32)) hx hb dX4_changeSpace_34 (by decide) ?_
  refine qa_lald (pc := 36) (k := 16) hx hb hK hP 1 1 rfl rfl (by decide) (qa_in (by decide)) dX4_changeSpace_36 ?_
  refine lv_l2i (pc := 37) (v := (Int64.toInt32 ((vp_updL xR 0 (Int32.toInt64 (((256 : Int32) * mSpc) + mTab))) 16))) hx hb dX4_changeSpace_37 rfl ?_
  refine lv_sipush (pc := 38) (v := (4064 : Int32)) hx hb dX4_changeSpace_38 (by decide) ?_
  refine lv_iand (pc := 41) hx hb dX4_changeSpace_41 ?_
  refine va_put (D := (dC, dI)) (pc := 42) (ci := 2) (v := .int ((Int64.toInt32 ((vp_updL xR 0 (Int32.toInt64 (((256 : Int32) * mSpc) + mTab))) 16)) &&& (4064 : Int32))) (ty := .int) (C := "LongMachine$Memory") (T := TX2) (N := 8) hx hb hts ui_X2 tyX2 tyX2_ok nmX2 hown hK hP hD hS 4 rfl rfl 6 (by decide) (hts _ gm_28) (fun _ h9 => h9) rfl (by decide +kernel) rfl rfl (Nat.le_of_ble_eq_true rfl) dX4_changeSpace_42 (fun H locs hP hD hS => ?_)
  have hP : va_P (dC, dI) vwCl (wX cI cJ qX qR qV qF qM qMw qMp qMs qMd qI qIl qIn qO qC xPc xKsp xUsp xKgp xVal xMod xLev xHal xEnt xLoc (vp_updL xR 0 (Int32.toInt64 (((256 : Int32) * mSpc) + mTab))) xV xF mOld mCnt ((Int64.toInt32 ((vp_updL xR 0 (Int32.toInt64 (((256 : Int32) * mSpc) + mTab))) 16)) &&& (4064 : Int32)) mSpc mW mP mS mD iCnt iL iN oRes oKno oGiv oTrp aVec aA aB aC aPc) H := hP
  have hD : va_D A (wX cI cJ qX qR qV qF qM qMw qMp qMs qMd qI qIl qIn qO qC xPc xKsp xUsp xKgp xVal xMod xLev xHal xEnt xLoc (vp_updL xR 0 (Int32.toInt64 (((256 : Int32) * mSpc) + mTab))) xV xF mOld mCnt ((Int64.toInt32 ((vp_updL xR 0 (Int32.toInt64 (((256 : Int32) * mSpc) + mTab))) 16)) &&& (4064 : Int32)) mSpc mW mP mS mD iCnt iL iN oRes oKno oGiv oTrp aVec aA aB aC aPc) := hD
  refine lv_aload_n (pc := 45) hx hb dX4_changeSpace_45 rfl (lv_at hl 0 rfl) ?_
  refine va_get (D := (dC, dI)) (pc := 46) (ci := 4) (v := .ref qM) (C := "LongMachine") (T := TX4) (N := 17) hx hb hts ui_X4 hown hK hP 0 rfl rfl 0 (by decide) (hts _ gm_91) (fun _ h9 => h9) rfl dX4_changeSpace_46 ?_
  refine lv_aload_n (pc := 49) hx hb dX4_changeSpace_49 rfl (lv_at hl 0 rfl) ?_
  refine va_get (D := (dC, dI)) (pc := 50) (ci := 4) (v := .ref qR) (C := "LongMachine") (T := TX4) (N := 17) hx hb hts ui_X4 hown hK hP 0 rfl rfl 1 (by decide) (hts _ gm_92) (fun _ h9 => h9) rfl dX4_changeSpace_50 ?_
  refine lv_bipush (pc := 53) (v := (17 : Int32)) hx hb dX4_changeSpace_53 (by decide) ?_
  refine qa_lald (pc := 55) (k := 17) hx hb hK hP 1 1 rfl rfl (by decide) (qa_in (by decide)) dX4_changeSpace_55 ?_
  refine lv_l2i (pc := 56) (v := (Int64.toInt32 ((vp_updL xR 0 (Int32.toInt64 (((256 : Int32) * mSpc) + mTab))) 17))) hx hb dX4_changeSpace_56 rfl ?_
  refine lv_sipush (pc := 57) (v := (255 : Int32)) hx hb dX4_changeSpace_57 (by decide) ?_
  refine lv_iand (pc := 60) hx hb dX4_changeSpace_60 ?_
  refine va_put (D := (dC, dI)) (pc := 61) (ci := 2) (v := .int ((Int64.toInt32 ((vp_updL xR 0 (Int32.toInt64 (((256 : Int32) * mSpc) + mTab))) 17)) &&& (255 : Int32))) (ty := .int) (C := "LongMachine$Memory") (T := TX2) (N := 8) hx hb hts ui_X2 tyX2 tyX2_ok nmX2 hown hK hP hD hS 4 rfl rfl 7 (by decide) (hts _ gm_30) (fun _ h9 => h9) rfl (by decide +kernel) rfl rfl (Nat.le_of_ble_eq_true rfl) dX4_changeSpace_61 (fun H locs hP hD hS => ?_)
  have hP : va_P (dC, dI) vwCl (wX cI cJ qX qR qV qF qM qMw qMp qMs qMd qI qIl qIn qO qC xPc xKsp xUsp xKgp xVal xMod xLev xHal xEnt xLoc (vp_updL xR 0 (Int32.toInt64 (((256 : Int32) * mSpc) + mTab))) xV xF mOld mCnt ((Int64.toInt32 ((vp_updL xR 0 (Int32.toInt64 (((256 : Int32) * mSpc) + mTab))) 16)) &&& (4064 : Int32)) ((Int64.toInt32 ((vp_updL xR 0 (Int32.toInt64 (((256 : Int32) * mSpc) + mTab))) 17)) &&& (255 : Int32)) mW mP mS mD iCnt iL iN oRes oKno oGiv oTrp aVec aA aB aC aPc) H := hP
  have hD : va_D A (wX cI cJ qX qR qV qF qM qMw qMp qMs qMd qI qIl qIn qO qC xPc xKsp xUsp xKgp xVal xMod xLev xHal xEnt xLoc (vp_updL xR 0 (Int32.toInt64 (((256 : Int32) * mSpc) + mTab))) xV xF mOld mCnt ((Int64.toInt32 ((vp_updL xR 0 (Int32.toInt64 (((256 : Int32) * mSpc) + mTab))) 16)) &&& (4064 : Int32)) ((Int64.toInt32 ((vp_updL xR 0 (Int32.toInt64 (((256 : Int32) * mSpc) + mTab))) 17)) &&& (255 : Int32)) mW mP mS mD iCnt iL iN oRes oKno oGiv oTrp aVec aA aB aC aPc) := hD
  exact W.vret hx hb hr (fun t ht hW => ⟨rfl, by rw [ht]; exact hP, hS.F ht⟩) hS.2.2 dX4_changeSpace_64
def f_X4_changeVector (xR : (Nat → Int64)) (xV : (Nat → Int64)) : (Nat → Int64) := (if (6 : Int32) ≤ ((Int64.toInt32 (xR 17)) &&& (7 : Int32)) then xV else (vp_updL xV (Int32.toNatClampNeg ((Int64.toInt32 (xR 17)) &&& (7 : Int32))) ((xR 16) &&& (-4 : Int64))))
set_option maxRecDepth 100000 in
set_option maxHeartbeats 4000000 in
theorem c_X4_changeVector (l : Launch) (dC : Nat → ClassId) (dI : Nat → Nat → Nat) (cI cJ : ClassId) (qX qR qV qF qM qMw qMp qMs qMd qI qIl qIn qO qC : Nat) (sz : Nat) (xPc : Int64) (xKsp : Int64) (xUsp : Int64) (xKgp : Int64) (xVal : Int64) (xMod : Int32) (xLev : Int32) (xHal : Int32) (xEnt : Int32) (xLoc : Int32) (xR : (Nat → Int64)) (xV : (Nat → Int64)) (xF : (Nat → Int64)) (mOld : Int32) (mCnt : Int32) (mTab : Int32) (mSpc : Int32) (mW : (Nat → Int64)) (mP : (Nat → Int32)) (mS : (Nat → Int32)) (mD : (Nat → Int64)) (iCnt : Int32) (iL : (Nat → Int32)) (iN : (Nat → Int32)) (oRes : Int64) (oKno : Int32) (oGiv : Int32) (oTrp : Int32) (aVec : Int32) (aA : Int64) (aB : Int64) (aC : Int64) (aPc : Int64) : Met l yX4_changeVector (.code yX4_changeVector cX4_changeVector 2 none :: vG) ({ frames := 0, cells := 0, slots := 0, locals := 0 }) (va_Pc [.ref qX] (qa_pre (dC, dI) vwCl (wX cI cJ qX qR qV qF qM qMw qMp qMs qMd qI qIl qIn qO qC xPc xKsp xUsp xKgp xVal xMod xLev xHal xEnt xLoc xR xV xF mOld mCnt mTab mSpc mW mP mS mD iCnt iL iN oRes oKno oGiv oTrp aVec aA aB aC aPc) [(cI, .int), (cJ, .long)] sz)) (qa_mod none (dC, dI) vwCl (wX cI cJ qX qR qV qF qM qMw qMp qMs qMd qI qIl qIn qO qC xPc xKsp xUsp xKgp xVal xMod xLev xHal xEnt xLoc xR (f_X4_changeVector xR xV) xF mOld mCnt mTab mSpc mW mP mS mD iCnt iL iN oRes oKno oGiv oTrp aVec aA aB aC aPc) (va_A (wX cI cJ qX qR qV qF qM qMw qMp qMs qMd qI qIl qIn qO qC xPc xKsp xUsp xKgp xVal xMod xLev xHal xEnt xLoc xR xV xF mOld mCnt mTab mSpc mW mP mS mD iCnt iL iN oRes oKno oGiv oTrp aVec aA aB aC aPc) sz)) 0 0 (va_A (wX cI cJ qX qR qV qF qM qMw qMp qMs qMd qI qIl qIn qO qC xPc xKsp xUsp xKgp xVal xMod xLev xHal xEnt xLoc xR xV xF mOld mCnt mTab mSpc mW mP mS mD iCnt iL iN oRes oKno oGiv oTrp aVec aA aB aC aPc) sz) := by
  refine Met.ofW (cc := cX4_changeVector) (maxL := 2) (ret := none) (by decide) rfl ?_
  intro p e s m args below meth c s₁ B hml hv
  obtain ⟨rfl, hsz, hP, hK, hD0⟩ := hv
  have hx := B.exec
  have hb := B.bytes
  have hr := B.returns
  have hts : ∀ w ∈ vG, w.before _ s = true := fun w h => atoms_spec (ws := (.code yX4_changeVector cX4_changeVector 2 none :: vG)) B.pre w (List.mem_cons_of_mem _ h)
  have hown : s.vm.findClass "LongMachine" = some m.cls := findClass_of_methodNamed B.named
  have hlocks := B.notSynchronized
  subst hsz
  have hD := hD0.self (sz := s.heap.size)
  generalize hAe : va_A (wX cI cJ qX qR qV qF qM qMw qMp qMs qMd qI qIl qIn qO qC xPc xKsp xUsp xKgp xVal xMod xLev xHal xEnt xLoc xR xV xF mOld mCnt mTab mSpc mW mP mS mD iCnt iL iN oRes oKno oGiv oTrp aVec aA aB aC aPc) s.heap.size = A at hD ⊢
  have hA : ∀ q : Nat, s.heap.size ≤ q → A q := fun q h => by rw [← hAe]; exact Or.inr h
  have hS : va_S A s.heap s.heap [] := va_S.rf
  have hl := lv_entry ([.ref qX]) (n := 2) (Nat.le_of_ble_eq_true rfl)
  rw [lg_entry_eq]
  generalize (lg_sl ([.ref qX]) ++ List.replicate (2 - (lg_sl ([.ref qX])).length) Slot.unset).toArray = ls at hl ⊢
  have hl : lv_has ls 2 [(0, .ref qX)] := hl
  obtain ⟨u, hu⟩ : ∃ u, u = f_X4_changeVector xR xV := ⟨_, rfl⟩
  rw [← hu]
  unfold f_X4_changeVector at hu
  refine lv_aload_n (pc := 0) hx hb dX4_changeVector_0 rfl (lv_at hl 0 rfl) ?_
  refine va_get (D := (dC, dI)) (pc := 1) (ci := 4) (v := .ref qR) (C := "LongMachine") (T := TX4) (N := 17) hx hb hts ui_X4 hown hK hP 0 rfl rfl 1 (by decide) (hts _ gm_92) (fun _ h9 => h9) rfl dX4_changeVector_1 ?_
  refine lv_bipush (pc := 4) (v := (17 : Int32)) hx hb dX4_changeVector_4 (by decide) ?_
  refine qa_lald (pc := 6) (k := 17) hx hb hK hP 1 1 rfl rfl (by decide) (qa_in (by decide)) dX4_changeVector_6 ?_
  refine lv_l2i (pc := 7) (v := (Int64.toInt32 (xR 17))) hx hb dX4_changeVector_7 rfl ?_
  refine lv_bipush (pc := 8) (v := (7 : Int32)) hx hb dX4_changeVector_8 (by decide) ?_
  refine lv_iand (pc := 10) hx hb dX4_changeVector_10 ?_
  refine lv_istore_n (pc := 11) (lv' := [(1, .int ((Int64.toInt32 (xR 17)) &&& (7 : Int32))), (0, .ref qX)]) hx hb dX4_changeVector_11 rfl hl (by decide) rfl (fun ls hl => ?_)
  refine lv_iload_n (pc := 12) hx hb dX4_changeVector_12 rfl (lv_at hl 0 rfl) ?_
  refine lv_aload_n (pc := 13) hx hb dX4_changeVector_13 rfl (lv_at hl 1 rfl) ?_
  refine va_get (D := (dC, dI)) (pc := 14) (ci := 4) (v := .ref qV) (C := "LongMachine") (T := TX4) (N := 17) hx hb hts ui_X4 hown hK hP 0 rfl rfl 2 (by decide) (hts _ gm_93) (fun _ h9 => h9) rfl dX4_changeVector_14 ?_
  refine va_alen (pc := 17) (v := (6 : Int32)) hx hb hK hP 2 1 rfl rfl (show Int32.ofNat 6 = (6 : Int32) by decide) dX4_changeVector_17 ?_
  refine lv_icmp_ge (pc := 18) (tgt := 38) hx hb dX4_changeVector_18 (by decide) (fun h18_1 => ?_) (fun h18_1 => ?_)
  · have hu := hu.trans (if_pos h18_1)
    subst hu
    exact W.vret hx hb hr (fun t ht hW => ⟨rfl, by rw [ht]; exact hP, hS.F ht⟩) hS.2.2 dX4_changeVector_38
  · have hu := hu.trans (if_neg h18_1)
    refine lv_aload_n (pc := 21) hx hb dX4_changeVector_21 rfl (lv_at hl 1 rfl) ?_
    refine va_get (D := (dC, dI)) (pc := 22) (ci := 4) (v := .ref qV) (C := "LongMachine") (T := TX4) (N := 17) hx hb hts ui_X4 hown hK hP 0 rfl rfl 2 (by decide) (hts _ gm_93) (fun _ h9 => h9) rfl dX4_changeVector_22 ?_
    refine lv_iload_n (pc := 25) hx hb dX4_changeVector_25 rfl (lv_at hl 0 rfl) ?_
    refine lv_aload_n (pc := 26) hx hb dX4_changeVector_26 rfl (lv_at hl 1 rfl) ?_
    refine va_get (D := (dC, dI)) (pc := 27) (ci := 4) (v := .ref qR) (C := "LongMachine") (T := TX4) (N := 17) hx hb hts ui_X4 hown hK hP 0 rfl rfl 1 (by decide) (hts _ gm_92) (fun _ h9 => h9) rfl dX4_changeVector_27 ?_
    refine lv_bipush (pc := 30) (v := (16 : Int32)) hx hb dX4_changeVector_30 (by decide) ?_
    refine qa_lald (pc := 32) (k := 16) hx hb hK hP 1 1 rfl rfl (by decide) (qa_in (by decide)) dX4_changeVector_32 ?_
    refine lv_ldc2 (pc := 33) (v := (-4 : Int64)) hx hb hown (hts _ gm_136) dX4_changeVector_33 ?_
    refine lv_land (pc := 36) hx hb dX4_changeVector_36 ?_
    refine qa_last (pc := 37) (k := (Int32.toNatClampNeg ((Int64.toInt32 (xR 17)) &&& (7 : Int32)))) hx hb hK hP hD hS 2 1 rfl rfl rfl (rg_b (rg_and7 _).1 h18_1 (by decide)) dX4_changeVector_37 (fun H locs hP hD hS => ?_)
    have hP : va_P (dC, dI) vwCl (wX cI cJ qX qR qV qF qM qMw qMp qMs qMd qI qIl qIn qO qC xPc xKsp xUsp xKgp xVal xMod xLev xHal xEnt xLoc xR (vp_updL xV (Int32.toNatClampNeg ((Int64.toInt32 (xR 17)) &&& (7 : Int32))) ((xR 16) &&& (-4 : Int64))) xF mOld mCnt mTab mSpc mW mP mS mD iCnt iL iN oRes oKno oGiv oTrp aVec aA aB aC aPc) H := hP
    have hD : va_D A (wX cI cJ qX qR qV qF qM qMw qMp qMs qMd qI qIl qIn qO qC xPc xKsp xUsp xKgp xVal xMod xLev xHal xEnt xLoc xR (vp_updL xV (Int32.toNatClampNeg ((Int64.toInt32 (xR 17)) &&& (7 : Int32))) ((xR 16) &&& (-4 : Int64))) xF mOld mCnt mTab mSpc mW mP mS mD iCnt iL iN oRes oKno oGiv oTrp aVec aA aB aC aPc) := hD
    subst hu
    exact W.vret hx hb hr (fun t ht hW => ⟨rfl, by rw [ht]; exact hP, hS.F ht⟩) hS.2.2 dX4_changeVector_38
def f_X4_kernelCall_K163_1 (xUsp : Int64) (xKgp : Int64) (xVal : Int64) (xLev : Int32) (xHal : Int32) (xR : (Nat → Int64)) (mOld : Int32) (mCnt : Int32) (mTab : Int32) (mSpc : Int32) (aVec : Int32) (r163_1 : (Nat → Int64)) : Int64 × Int64 × Int64 × Int32 × Int32 × (Nat → Int64) × (Nat → Int64) × Int32 × Int32 × Int32 × Int32 × Int32 := (xUsp, xKgp, xVal, xLev, xHal, xR, r163_1, mOld, mCnt, mTab, mSpc, aVec)
def f_X4_kernelCall (z1 : Int32) (xUsp : Int64) (xKgp : Int64) (xVal : Int64) (xMod : Int32) (xLev : Int32) (xHal : Int32) (xR : (Nat → Int64)) (xV : (Nat → Int64)) (mOld : Int32) (mCnt : Int32) (mTab : Int32) (mSpc : Int32) (aVec : Int32) : Int64 × Int64 × Int64 × Int32 × Int32 × (Nat → Int64) × (Nat → Int64) × Int32 × Int32 × Int32 × Int32 × Int32 := (if z1 = (0 : Int32) then (xUsp, xKgp, xVal, xLev, (1 : Int32), xR, xV, mOld, mCnt, mTab, mSpc, aVec) else (if z1 = (48 : Int32) then (xUsp, xKgp, xVal, xLev, xHal, (vp_updL xR 0 (Int32.toInt64 (((256 : Int32) * mSpc) + mTab))), xV, mOld, mCnt, ((Int64.toInt32 ((vp_updL xR 0 (Int32.toInt64 (((256 : Int32) * mSpc) + mTab))) 16)) &&& (4064 : Int32)), ((Int64.toInt32 ((vp_updL xR 0 (Int32.toInt64 (((256 : Int32) * mSpc) + mTab))) 17)) &&& (255 : Int32)), aVec) else (if z1 = (49 : Int32) then (xUsp, xKgp, (xR 16), xLev, xHal, xR, xV, mOld, mCnt, mTab, mSpc, aVec) else (if z1 = (50 : Int32) then (xUsp, xKgp, xVal, xLev, xHal, (vp_updL xR 0 xVal), xV, mOld, mCnt, mTab, mSpc, aVec) else (if z1 = (51 : Int32) then (xUsp, xKgp, xVal, xLev, xHal, xR, xV, (0 : Int32), (0 : Int32), mTab, mSpc, aVec) else (if z1 = (52 : Int32) then (f_X4_kernelCall_K163_1 xUsp xKgp xVal xLev xHal xR mOld mCnt mTab mSpc aVec (f_X4_changeVector xR xV)) else (if z1 = (53 : Int32) then (xUsp, xKgp, xVal, ((Int64.toInt32 (xR 16)) &&& (7 : Int32)), xHal, (vp_updL xR 0 (Int32.toInt64 xLev)), xV, mOld, mCnt, mTab, mSpc, aVec) else (if z1 = (54 : Int32) then (xUsp, xKgp, xVal, xLev, xHal, (vp_updL xR 0 (Int32.toInt64 (((8 : Int32) * xMod) + xLev))), xV, mOld, mCnt, mTab, mSpc, aVec) else (if z1 = (55 : Int32) then (xUsp, (xR 16), xVal, xLev, xHal, xR, xV, mOld, mCnt, mTab, mSpc, aVec) else (if z1 = (56 : Int32) then ((xR 16), xKgp, xVal, xLev, xHal, xR, xV, mOld, mCnt, mTab, mSpc, aVec) else (if z1 = (58 : Int32) then (xUsp, xKgp, xVal, xLev, xHal, (vp_updL xR 0 xUsp), xV, mOld, mCnt, mTab, mSpc, aVec) else (if z1 = (63 : Int32) then (xUsp, xKgp, xVal, xLev, xHal, xR, xV, mOld, mCnt, mTab, mSpc, (-1 : Int32)) else (xUsp, xKgp, xVal, xLev, xHal, xR, xV, mOld, mCnt, mTab, mSpc, aVec)))))))))))))
set_option maxRecDepth 100000 in
set_option maxHeartbeats 4000000 in
theorem c_X4_kernelCall (l : Launch) (dC : Nat → ClassId) (dI : Nat → Nat → Nat) (cI cJ : ClassId) (qX qR qV qF qM qMw qMp qMs qMd qI qIl qIn qO qC : Nat) (sz : Nat) (xPc : Int64) (xKsp : Int64) (xUsp : Int64) (xKgp : Int64) (xVal : Int64) (xMod : Int32) (xLev : Int32) (xHal : Int32) (xEnt : Int32) (xLoc : Int32) (xR : (Nat → Int64)) (xV : (Nat → Int64)) (xF : (Nat → Int64)) (mOld : Int32) (mCnt : Int32) (mTab : Int32) (mSpc : Int32) (mW : (Nat → Int64)) (mP : (Nat → Int32)) (mS : (Nat → Int32)) (mD : (Nat → Int64)) (iCnt : Int32) (iL : (Nat → Int32)) (iN : (Nat → Int32)) (oRes : Int64) (oKno : Int32) (oGiv : Int32) (oTrp : Int32) (aVec : Int32) (aA : Int64) (aB : Int64) (aC : Int64) (aPc : Int64) (z1 : Int32) : Met l yX4_kernelCall (.code yX4_kernelCall cX4_kernelCall 4 none :: vG) ({ frames := 1, cells := 0, slots := 0, locals := 21 }) (va_Pc [.ref qX, .int z1] (qa_pre (dC, dI) vwCl (wX cI cJ qX qR qV qF qM qMw qMp qMs qMd qI qIl qIn qO qC xPc xKsp xUsp xKgp xVal xMod xLev xHal xEnt xLoc xR xV xF mOld mCnt mTab mSpc mW mP mS mD iCnt iL iN oRes oKno oGiv oTrp aVec aA aB aC aPc) [(cI, .int), (cJ, .long)] sz)) (qa_mod none (dC, dI) vwCl (wX cI cJ qX qR qV qF qM qMw qMp qMs qMd qI qIl qIn qO qC xPc xKsp ((f_X4_kernelCall z1 xUsp xKgp xVal xMod xLev xHal xR xV mOld mCnt mTab mSpc aVec).1) ((f_X4_kernelCall z1 xUsp xKgp xVal xMod xLev xHal xR xV mOld mCnt mTab mSpc aVec).2.1) ((f_X4_kernelCall z1 xUsp xKgp xVal xMod xLev xHal xR xV mOld mCnt mTab mSpc aVec).2.2.1) xMod ((f_X4_kernelCall z1 xUsp xKgp xVal xMod xLev xHal xR xV mOld mCnt mTab mSpc aVec).2.2.2.1) ((f_X4_kernelCall z1 xUsp xKgp xVal xMod xLev xHal xR xV mOld mCnt mTab mSpc aVec).2.2.2.2.1) xEnt xLoc ((f_X4_kernelCall z1 xUsp xKgp xVal xMod xLev xHal xR xV mOld mCnt mTab mSpc aVec).2.2.2.2.2.1) ((f_X4_kernelCall z1 xUsp xKgp xVal xMod xLev xHal xR xV mOld mCnt mTab mSpc aVec).2.2.2.2.2.2.1) xF ((f_X4_kernelCall z1 xUsp xKgp xVal xMod xLev xHal xR xV mOld mCnt mTab mSpc aVec).2.2.2.2.2.2.2.1) ((f_X4_kernelCall z1 xUsp xKgp xVal xMod xLev xHal xR xV mOld mCnt mTab mSpc aVec).2.2.2.2.2.2.2.2.1) ((f_X4_kernelCall z1 xUsp xKgp xVal xMod xLev xHal xR xV mOld mCnt mTab mSpc aVec).2.2.2.2.2.2.2.2.2.1) ((f_X4_kernelCall z1 xUsp xKgp xVal xMod xLev xHal xR xV mOld mCnt mTab mSpc aVec).2.2.2.2.2.2.2.2.2.2.1) mW mP mS mD iCnt iL iN oRes oKno oGiv oTrp ((f_X4_kernelCall z1 xUsp xKgp xVal xMod xLev xHal xR xV mOld mCnt mTab mSpc aVec).2.2.2.2.2.2.2.2.2.2.2) aA aB aC aPc) (va_A (wX cI cJ qX qR qV qF qM qMw qMp qMs qMd qI qIl qIn qO qC xPc xKsp xUsp xKgp xVal xMod xLev xHal xEnt xLoc xR xV xF mOld mCnt mTab mSpc mW mP mS mD iCnt iL iN oRes oKno oGiv oTrp aVec aA aB aC aPc) sz)) 0 0 (va_A (wX cI cJ qX qR qV qF qM qMw qMp qMs qMd qI qIl qIn qO qC xPc xKsp xUsp xKgp xVal xMod xLev xHal xEnt xLoc xR xV xF mOld mCnt mTab mSpc mW mP mS mD iCnt iL iN oRes oKno oGiv oTrp aVec aA aB aC aPc) sz) := by
  refine Met.ofW (cc := cX4_kernelCall) (maxL := 4) (ret := none) (by decide) rfl ?_
  intro p e s m args below meth c s₁ B hml hv
  obtain ⟨rfl, hsz, hP, hK, hD0⟩ := hv
  have hx := B.exec
  have hb := B.bytes
  have hr := B.returns
  have hts : ∀ w ∈ vG, w.before _ s = true := fun w h => atoms_spec (ws := (.code yX4_kernelCall cX4_kernelCall 4 none :: vG)) B.pre w (List.mem_cons_of_mem _ h)
  have hown : s.vm.findClass "LongMachine" = some m.cls := findClass_of_methodNamed B.named
  have hlocks := B.notSynchronized
  subst hsz
  have hD := hD0.self (sz := s.heap.size)
  generalize hAe : va_A (wX cI cJ qX qR qV qF qM qMw qMp qMs qMd qI qIl qIn qO qC xPc xKsp xUsp xKgp xVal xMod xLev xHal xEnt xLoc xR xV xF mOld mCnt mTab mSpc mW mP mS mD iCnt iL iN oRes oKno oGiv oTrp aVec aA aB aC aPc) s.heap.size = A at hD ⊢
  have hA : ∀ q : Nat, s.heap.size ≤ q → A q := fun q h => by rw [← hAe]; exact Or.inr h
  have hS : va_S A s.heap s.heap [] := va_S.rf
  have hl := lv_entry ([.ref qX, .int z1]) (n := 4) (Nat.le_of_ble_eq_true rfl)
  rw [lg_entry_eq]
  generalize (lg_sl ([.ref qX, .int z1]) ++ List.replicate (4 - (lg_sl ([.ref qX, .int z1])).length) Slot.unset).toArray = ls at hl ⊢
  have hl : lv_has ls 4 [(0, .ref qX), (1, .int z1)] := hl
  obtain ⟨u, hu⟩ : ∃ u, u = f_X4_kernelCall z1 xUsp xKgp xVal xMod xLev xHal xR xV mOld mCnt mTab mSpc aVec := ⟨_, rfl⟩
  rw [← hu]
  unfold f_X4_kernelCall at hu
  refine lv_aload_n (pc := 0) hx hb dX4_kernelCall_0 rfl (lv_at hl 0 rfl) ?_
  refine va_get (D := (dC, dI)) (pc := 1) (ci := 4) (v := .ref qR) (C := "LongMachine") (T := TX4) (N := 17) hx hb hts ui_X4 hown hK hP 0 rfl rfl 1 (by decide) (hts _ gm_92) (fun _ h9 => h9) rfl dX4_kernelCall_1 ?_
  refine lv_bipush (pc := 4) (v := (16 : Int32)) hx hb dX4_kernelCall_4 (by decide) ?_
  refine qa_lald (pc := 6) (k := 16) hx hb hK hP 1 1 rfl rfl (by decide) (qa_in (by decide)) dX4_kernelCall_6 ?_
  refine lv_lstore_n (pc := 7) (lv' := [(2, .long (xR 16)), (0, .ref qX), (1, .int z1)]) hx hb dX4_kernelCall_7 rfl hl (by decide) rfl (fun ls hl => ?_)
  refine lv_iload_n (pc := 8) hx hb dX4_kernelCall_8 rfl (lv_at hl 2 rfl) ?_
  rcases Decidable.em (z1 = (0 : Int32)) with h9_1 | h9_1
  · have hu := hu.trans (if_pos h9_1)
    refine lv_lookup (pc := 9) (tgt := 116) (off := 107) hx hb dX4_kernelCall_9 (by decide) (by rw [h9_1]; decide) (by decide) ?_
    refine lv_aload_n (pc := 116) hx hb dX4_kernelCall_116 rfl (lv_at hl 1 rfl) ?_
    refine lv_iconst (pc := 117) (v := (1 : Int32)) hx hb dX4_kernelCall_117 (by decide) ?_
    refine va_put (D := (dC, dI)) (pc := 118) (ci := 4) (v := .int (1 : Int32)) (ty := .int) (C := "LongMachine") (T := TX4) (N := 17) hx hb hts ui_X4 tyX4 tyX4_ok nmX4 hown hK hP hD hS 0 rfl rfl 14 (by decide) (hts _ gm_105) (fun _ h9 => h9) rfl (by decide +kernel) rfl rfl (Nat.le_of_ble_eq_true rfl) dX4_kernelCall_118 (fun H locs hP hD hS => ?_)
    have hP : va_P (dC, dI) vwCl (wX cI cJ qX qR qV qF qM qMw qMp qMs qMd qI qIl qIn qO qC xPc xKsp xUsp xKgp xVal xMod xLev (1 : Int32) xEnt xLoc xR xV xF mOld mCnt mTab mSpc mW mP mS mD iCnt iL iN oRes oKno oGiv oTrp aVec aA aB aC aPc) H := hP
    have hD : va_D A (wX cI cJ qX qR qV qF qM qMw qMp qMs qMd qI qIl qIn qO qC xPc xKsp xUsp xKgp xVal xMod xLev (1 : Int32) xEnt xLoc xR xV xF mOld mCnt mTab mSpc mW mP mS mD iCnt iL iN oRes oKno oGiv oTrp aVec aA aB aC aPc) := hD
    refine lv_goto (pc := 121) (tgt := 245) hx hb dX4_kernelCall_121 (by decide) ?_
    subst hu
    exact W.vret hx hb hr (fun t ht hW => ⟨rfl, by rw [ht]; exact hP, hS.F ht⟩) hS.2.2 dX4_kernelCall_245
  · have hu := hu.trans (if_neg h9_1)
    have n9_0 : ¬ z1 = (0 : Int32) := h9_1
    rcases Decidable.em (z1 = (48 : Int32)) with h9_2 | h9_2
    · have hu := hu.trans (if_pos h9_2)
      refine lv_lookup (pc := 9) (tgt := 124) (off := 115) hx hb dX4_kernelCall_9 (by decide) (by rw [h9_2]; decide) (by decide) ?_
      refine lv_aload_n (pc := 124) hx hb dX4_kernelCall_124 rfl (lv_at hl 1 rfl) ?_
      refine qa_callv (pc := 125) (wr := []) (wf := (wX cI cJ qX qR qV qF qM qMw qMp qMs qMd qI qIl qIn qO qC xPc xKsp xUsp xKgp xVal xMod xLev xHal xEnt xLoc (vp_updL xR 0 (Int32.toInt64 (((256 : Int32) * mSpc) + mTab))) xV xF mOld mCnt ((Int64.toInt32 ((vp_updL xR 0 (Int32.toInt64 (((256 : Int32) * mSpc) + mTab))) 16)) &&& (4064 : Int32)) ((Int64.toInt32 ((vp_updL xR 0 (Int32.toInt64 (((256 : Int32) * mSpc) + mTab))) 17)) &&& (255 : Int32)) mW mP mS mD iCnt iL iN oRes oKno oGiv oTrp aVec aA aB aC aPc)) (va_runV (As := []) (rest := []) ⟨hx, hb, hml, hown, hts⟩ (c_X4_changeSpace l dC dI cI cJ qX qR qV qF qM qMw qMp qMs qMd qI qIl qIn qO qC s.heap.size xPc xKsp xUsp xKgp xVal xMod xLev xHal xEnt xLoc xR xV xF mOld mCnt mTab mSpc mW mP mS mD iCnt iL iN oRes oKno oGiv oTrp aVec aA aB aC aPc) (cwV 0 hts (gd_V gm_224 gm_222 gm_223 gm_558 gm_1) rfl rfl rfl (by decide +kernel) ⟨Nat.le_of_ble_eq_true rfl, Nat.le_of_ble_eq_true rfl⟩) (qa_VM (q0 := 0) (q := ("LongMachine", TX4, 17)) hK hP rfl rfl hP hD) rfl rfl hl.1 rfl (lv_room (Nat.le_of_ble_eq_true rfl)) dX4_kernelCall_125 ⟨Nat.zero_le _, Nat.zero_le _⟩) hP hD hS hA [0, 1, 2, 3, 4, 5, 6, 7, 8, 9, 10, 11, 12, 13] [] [0, 1, 2, 3, 4, 5, 6, 7, 8, 9, 10, 11, 12, 13] rfl (by decide) rfl (by decide) (by decide) rfl rfl (by decide) (fun H locs hP hD hS => ?_)
      refine lv_goto (pc := 128) (tgt := 245) hx hb dX4_kernelCall_128 (by decide) ?_
      subst hu
      exact W.vret hx hb hr (fun t ht hW => ⟨rfl, by rw [ht]; exact hP, hS.F ht⟩) hS.2.2 dX4_kernelCall_245
    · have hu := hu.trans (if_neg h9_2)
      have n9_1 : ¬ z1 = (48 : Int32) := h9_2
      rcases Decidable.em (z1 = (49 : Int32)) with h9_3 | h9_3
      · have hu := hu.trans (if_pos h9_3)
        refine lv_lookup (pc := 9) (tgt := 131) (off := 122) hx hb dX4_kernelCall_9 (by decide) (by rw [h9_3]; decide) (by decide) ?_
        refine lv_aload_n (pc := 131) hx hb dX4_kernelCall_131 rfl (lv_at hl 1 rfl) ?_
        refine lv_lload_n (pc := 132) hx hb dX4_kernelCall_132 rfl (lv_at hl 0 rfl) ?_
        refine va_put (D := (dC, dI)) (pc := 133) (ci := 4) (v := .long (xR 16)) (ty := .long) (C := "LongMachine") (T := TX4) (N := 17) hx hb hts ui_X4 tyX4 tyX4_ok nmX4 hown hK hP hD hS 0 rfl rfl 11 (by decide) (hts _ gm_102) (fun _ h9 => h9) rfl (by decide +kernel) rfl rfl (Nat.le_of_ble_eq_true rfl) dX4_kernelCall_133 (fun H locs hP hD hS => ?_)
        have hP : va_P (dC, dI) vwCl (wX cI cJ qX qR qV qF qM qMw qMp qMs qMd qI qIl qIn qO qC xPc xKsp xUsp xKgp (xR 16) xMod xLev xHal xEnt xLoc xR xV xF mOld mCnt mTab mSpc mW mP mS mD iCnt iL iN oRes oKno oGiv oTrp aVec aA aB aC aPc) H := hP
        have hD : va_D A (wX cI cJ qX qR qV qF qM qMw qMp qMs qMd qI qIl qIn qO qC xPc xKsp xUsp xKgp (xR 16) xMod xLev xHal xEnt xLoc xR xV xF mOld mCnt mTab mSpc mW mP mS mD iCnt iL iN oRes oKno oGiv oTrp aVec aA aB aC aPc) := hD
        refine lv_goto (pc := 136) (tgt := 245) hx hb dX4_kernelCall_136 (by decide) ?_
        subst hu
        exact W.vret hx hb hr (fun t ht hW => ⟨rfl, by rw [ht]; exact hP, hS.F ht⟩) hS.2.2 dX4_kernelCall_245
      · have hu := hu.trans (if_neg h9_3)
        have n9_2 : ¬ z1 = (49 : Int32) := h9_3
        rcases Decidable.em (z1 = (50 : Int32)) with h9_4 | h9_4
        · have hu := hu.trans (if_pos h9_4)
          refine lv_lookup (pc := 9) (tgt := 139) (off := 130) hx hb dX4_kernelCall_9 (by decide) (by rw [h9_4]; decide) (by decide) ?_
          refine lv_aload_n (pc := 139) hx hb dX4_kernelCall_139 rfl (lv_at hl 1 rfl) ?_
          refine va_get (D := (dC, dI)) (pc := 140) (ci := 4) (v := .ref qR) (C := "LongMachine") (T := TX4) (N := 17) hx hb hts ui_X4 hown hK hP 0 rfl rfl 1 (by decide) (hts _ gm_92) (fun _ h9 => h9) rfl dX4_kernelCall_140 ?_
          refine lv_iconst (pc := 143) (v := (0 : Int32)) hx hb dX4_kernelCall_143 (by decide) ?_
          refine lv_aload_n (pc := 144) hx hb dX4_kernelCall_144 rfl (lv_at hl 1 rfl) ?_
          refine va_get (D := (dC, dI)) (pc := 145) (ci := 4) (v := .long xVal) (C := "LongMachine") (T := TX4) (N := 17) hx hb hts ui_X4 hown hK hP 0 rfl rfl 11 (by decide) (hts _ gm_102) (fun _ h9 => h9) rfl dX4_kernelCall_145 ?_
          refine qa_last (pc := 148) (k := 0) hx hb hK hP hD hS 1 1 rfl rfl (by decide) (qa_in (by decide)) dX4_kernelCall_148 (fun H locs hP hD hS => ?_)
          have hP : va_P (dC, dI) vwCl (wX cI cJ qX qR qV qF qM qMw qMp qMs qMd qI qIl qIn qO qC xPc xKsp xUsp xKgp xVal xMod xLev xHal xEnt xLoc (vp_updL xR 0 xVal) xV xF mOld mCnt mTab mSpc mW mP mS mD iCnt iL iN oRes oKno oGiv oTrp aVec aA aB aC aPc) H := hP
          have hD : va_D A (wX cI cJ qX qR qV qF qM qMw qMp qMs qMd qI qIl qIn qO qC xPc xKsp xUsp xKgp xVal xMod xLev xHal xEnt xLoc (vp_updL xR 0 xVal) xV xF mOld mCnt mTab mSpc mW mP mS mD iCnt iL iN oRes oKno oGiv oTrp aVec aA aB aC aPc) := hD
          refine lv_goto (pc := 149) (tgt := 245) hx hb dX4_kernelCall_149 (by decide) ?_
          subst hu
          exact W.vret hx hb hr (fun t ht hW => ⟨rfl, by rw [ht]; exact hP, hS.F ht⟩) hS.2.2 dX4_kernelCall_245
        · have hu := hu.trans (if_neg h9_4)
          have n9_3 : ¬ z1 = (50 : Int32) := h9_4
          rcases Decidable.em (z1 = (51 : Int32)) with h9_5 | h9_5
          · have hu := hu.trans (if_pos h9_5)
            refine lv_lookup (pc := 9) (tgt := 152) (off := 143) hx hb dX4_kernelCall_9 (by decide) (by rw [h9_5]; decide) (by decide) ?_
            refine lv_aload_n (pc := 152) hx hb dX4_kernelCall_152 rfl (lv_at hl 1 rfl) ?_
            refine va_get (D := (dC, dI)) (pc := 153) (ci := 4) (v := .ref qM) (C := "LongMachine") (T := TX4) (N := 17) hx hb hts ui_X4 hown hK hP 0 rfl rfl 0 (by decide) (hts _ gm_91) (fun _ h9 => h9) rfl dX4_kernelCall_153 ?_
            refine qa_callv (pc := 156) (wr := [(qX, .inr (4, [.ref qM, .ref qR, .ref qV, .ref qF, .ref qI, .ref qO, .ref qC, .long xPc, .long xKsp, .long xUsp, .long xKgp, .long xVal, .int xMod, .int xLev, .int xHal, .int xEnt, .int xLoc])), (qR, .inl (cJ, 32, .inr (.inl xR))), (qV, .inl (cJ, 6, .inr (.inl xV))), (qF, .inl (cJ, 6, .inr (.inl xF))), (qI, .inr (1, [.ref qIl, .ref qIn, .int iCnt])), (qIl, .inl (cI, 4, .inl iL)), (qIn, .inl (cI, 4, .inl iN)), (qO, .inr (3, [.long oRes, .int oKno, .int oGiv, .int oTrp])), (qC, .inr (0, [.int aVec, .long aA, .long aB, .long aC, .long aPc]))]) (wf := (wX cI cJ qX qR qV qF qM qMw qMp qMs qMd qI qIl qIn qO qC xPc xKsp xUsp xKgp xVal xMod xLev xHal xEnt xLoc xR xV xF (0 : Int32) (0 : Int32) mTab mSpc mW mP mS mD iCnt iL iN oRes oKno oGiv oTrp aVec aA aB aC aPc)) (va_runV (As := []) (rest := []) ⟨hx, hb, hml, hown, hts⟩ (c_X2_emptyBuffer l dC dI cI cJ qM qMw qMp qMs qMd s.heap.size mOld mCnt mTab mSpc mW mP mS mD) (cwV 0 hts (gd_V gm_228 gm_225 gm_226 gm_227 gm_2) rfl rfl rfl (by decide +kernel) ⟨Nat.le_of_ble_eq_true rfl, Nat.le_of_ble_eq_true rfl⟩) (qa_VM (q0 := 4) (q := ("LongMachine$Memory", TX2, 8)) hK hP rfl rfl (hP.sub (ws' := (wM cI cJ qM qMw qMp qMs qMd mOld mCnt mTab mSpc mW mP mS mD)) [4, 5, 6, 7, 8] rfl) (hD.sub (ws' := (wM cI cJ qM qMw qMp qMs qMd mOld mCnt mTab mSpc mW mP mS mD)) [4, 5, 6, 7, 8] (by decide) rfl)) rfl rfl hl.1 rfl (lv_room (Nat.le_of_ble_eq_true rfl)) dX4_kernelCall_156 ⟨Nat.zero_le _, Nat.zero_le _⟩) hP hD hS hA [4, 5, 6, 7, 8] [0, 1, 2, 3, 9, 10, 11, 12, 13] [0, 1, 2, 3, 9, 10, 11, 12, 13, 4, 5, 6, 7, 8] rfl (by decide) rfl (by decide) (by decide) rfl rfl (by decide) (fun H locs hP hD hS => ?_)
            refine lv_goto (pc := 159) (tgt := 245) hx hb dX4_kernelCall_159 (by decide) ?_
            subst hu
            exact W.vret hx hb hr (fun t ht hW => ⟨rfl, by rw [ht]; exact hP, hS.F ht⟩) hS.2.2 dX4_kernelCall_245
          · have hu := hu.trans (if_neg h9_5)
            have n9_4 : ¬ z1 = (51 : Int32) := h9_5
            rcases Decidable.em (z1 = (52 : Int32)) with h9_6 | h9_6
            · have hu := hu.trans (if_pos h9_6)
              refine lv_lookup (pc := 9) (tgt := 162) (off := 153) hx hb dX4_kernelCall_9 (by decide) (by rw [h9_6]; decide) (by decide) ?_
              refine lv_aload_n (pc := 162) hx hb dX4_kernelCall_162 rfl (lv_at hl 1 rfl) ?_
              have hc := c_X4_changeVector l dC dI cI cJ qX qR qV qF qM qMw qMp qMs qMd qI qIl qIn qO qC s.heap.size xPc xKsp xUsp xKgp xVal xMod xLev xHal xEnt xLoc xR xV xF mOld mCnt mTab mSpc mW mP mS mD iCnt iL iN oRes oKno oGiv oTrp aVec aA aB aC aPc
              generalize er163_1 : f_X4_changeVector xR xV = r163_1 at hu hc
              unfold f_X4_kernelCall_K163_1 at hu
              refine qa_callv (pc := 163) (wr := []) (wf := (wX cI cJ qX qR qV qF qM qMw qMp qMs qMd qI qIl qIn qO qC xPc xKsp xUsp xKgp xVal xMod xLev xHal xEnt xLoc xR r163_1 xF mOld mCnt mTab mSpc mW mP mS mD iCnt iL iN oRes oKno oGiv oTrp aVec aA aB aC aPc)) (va_runV (As := []) (rest := []) ⟨hx, hb, hml, hown, hts⟩ hc (cwV 0 hts (gd_V gm_231 gm_229 gm_230 gm_559 gm_1) rfl rfl rfl (by decide +kernel) ⟨Nat.le_of_ble_eq_true rfl, Nat.le_of_ble_eq_true rfl⟩) (qa_VM (q0 := 0) (q := ("LongMachine", TX4, 17)) hK hP rfl rfl hP hD) rfl rfl hl.1 rfl (lv_room (Nat.le_of_ble_eq_true rfl)) dX4_kernelCall_163 ⟨Nat.zero_le _, Nat.zero_le _⟩) hP hD hS hA [0, 1, 2, 3, 4, 5, 6, 7, 8, 9, 10, 11, 12, 13] [] [0, 1, 2, 3, 4, 5, 6, 7, 8, 9, 10, 11, 12, 13] rfl (by decide) rfl (by decide) (by decide) rfl rfl (by decide) (fun H locs hP hD hS => ?_)
              refine lv_goto (pc := 166) (tgt := 245) hx hb dX4_kernelCall_166 (by decide) ?_
              subst hu
              exact W.vret hx hb hr (fun t ht hW => ⟨rfl, by rw [ht]; exact hP, hS.F ht⟩) hS.2.2 dX4_kernelCall_245
            · have hu := hu.trans (if_neg h9_6)
              have n9_5 : ¬ z1 = (52 : Int32) := h9_6
              rcases Decidable.em (z1 = (53 : Int32)) with h9_7 | h9_7
              · have hu := hu.trans (if_pos h9_7)
                refine lv_lookup (pc := 9) (tgt := 169) (off := 160) hx hb dX4_kernelCall_9 (by decide) (by rw [h9_7]; decide) (by decide) ?_
                refine lv_aload_n (pc := 169) hx hb dX4_kernelCall_169 rfl (lv_at hl 1 rfl) ?_
                refine va_get (D := (dC, dI)) (pc := 170) (ci := 4) (v := .ref qR) (C := "LongMachine") (T := TX4) (N := 17) hx hb hts ui_X4 hown hK hP 0 rfl rfl 1 (by decide) (hts _ gm_92) (fun _ h9 => h9) rfl dX4_kernelCall_170 ?_
                refine lv_iconst (pc := 173) (v := (0 : Int32)) hx hb dX4_kernelCall_173 (by decide) ?_
                refine lv_aload_n (pc := 174) hx hb dX4_kernelCall_174 rfl (lv_at hl 1 rfl) ?_
                refine va_get (D := (dC, dI)) (pc := 175) (ci := 4) (v := .int xLev) (C := "LongMachine") (T := TX4) (N := 17) hx hb hts ui_X4 hown hK hP 0 rfl rfl 13 (by decide) (hts _ gm_104) (fun _ h9 => h9) rfl dX4_kernelCall_175 ?_
                refine lv_i2l (pc := 178) (v := (Int32.toInt64 xLev)) hx hb dX4_kernelCall_178 rfl ?_
                refine qa_last (pc := 179) (k := 0) hx hb hK hP hD hS 1 1 rfl rfl (by decide) (qa_in (by decide)) dX4_kernelCall_179 (fun H locs hP hD hS => ?_)
                have hP : va_P (dC, dI) vwCl (wX cI cJ qX qR qV qF qM qMw qMp qMs qMd qI qIl qIn qO qC xPc xKsp xUsp xKgp xVal xMod xLev xHal xEnt xLoc (vp_updL xR 0 (Int32.toInt64 xLev)) xV xF mOld mCnt mTab mSpc mW mP mS mD iCnt iL iN oRes oKno oGiv oTrp aVec aA aB aC aPc) H := hP
                have hD : va_D A (wX cI cJ qX qR qV qF qM qMw qMp qMs qMd qI qIl qIn qO qC xPc xKsp xUsp xKgp xVal xMod xLev xHal xEnt xLoc (vp_updL xR 0 (Int32.toInt64 xLev)) xV xF mOld mCnt mTab mSpc mW mP mS mD iCnt iL iN oRes oKno oGiv oTrp aVec aA aB aC aPc) := hD
                refine lv_aload_n (pc := 180) hx hb dX4_kernelCall_180 rfl (lv_at hl 1 rfl) ?_
                refine lv_lload_n (pc := 181) hx hb dX4_kernelCall_181 rfl (lv_at hl 0 rfl) ?_
                refine lv_l2i (pc := 182) (v := (Int64.toInt32 (xR 16))) hx hb dX4_kernelCall_182 rfl ?_
                refine lv_bipush (pc := 183) (v := (7 : Int32)) hx hb dX4_kernelCall_183 (by decide) ?_
                refine lv_iand (pc := 185) hx hb dX4_kernelCall_185 ?_
                refine va_put (D := (dC, dI)) (pc := 186) (ci := 4) (v := .int ((Int64.toInt32 (xR 16)) &&& (7 : Int32))) (ty := .int) (C := "LongMachine") (T := TX4) (N := 17) hx hb hts ui_X4 tyX4 tyX4_ok nmX4 hown hK hP hD hS 0 rfl rfl 13 (by decide) (hts _ gm_104) (fun _ h9 => h9) rfl (by decide +kernel) rfl rfl (Nat.le_of_ble_eq_true rfl) dX4_kernelCall_186 (fun H locs hP hD hS => ?_)
                have hP : va_P (dC, dI) vwCl (wX cI cJ qX qR qV qF qM qMw qMp qMs qMd qI qIl qIn qO qC xPc xKsp xUsp xKgp xVal xMod ((Int64.toInt32 (xR 16)) &&& (7 : Int32)) xHal xEnt xLoc (vp_updL xR 0 (Int32.toInt64 xLev)) xV xF mOld mCnt mTab mSpc mW mP mS mD iCnt iL iN oRes oKno oGiv oTrp aVec aA aB aC aPc) H := hP
                have hD : va_D A (wX cI cJ qX qR qV qF qM qMw qMp qMs qMd qI qIl qIn qO qC xPc xKsp xUsp xKgp xVal xMod ((Int64.toInt32 (xR 16)) &&& (7 : Int32)) xHal xEnt xLoc (vp_updL xR 0 (Int32.toInt64 xLev)) xV xF mOld mCnt mTab mSpc mW mP mS mD iCnt iL iN oRes oKno oGiv oTrp aVec aA aB aC aPc) := hD
                refine lv_goto (pc := 189) (tgt := 245) hx hb dX4_kernelCall_189 (by decide) ?_
                subst hu
                exact W.vret hx hb hr (fun t ht hW => ⟨rfl, by rw [ht]; exact hP, hS.F ht⟩) hS.2.2 dX4_kernelCall_245
              · have hu := hu.trans (if_neg h9_7)
                have n9_6 : ¬ z1 = (53 : Int32) := h9_7
                rcases Decidable.em (z1 = (54 : Int32)) with h9_8 | h9_8
                · have hu := hu.trans (if_pos h9_8)
                  refine lv_lookup (pc := 9) (tgt := 192) (off := 183) hx hb dX4_kernelCall_9 (by decide) (by rw [h9_8]; decide) (by decide) ?_
                  refine lv_aload_n (pc := 192) hx hb dX4_kernelCall_192 rfl (lv_at hl 1 rfl) ?_
                  refine va_get (D := (dC, dI)) (pc := 193) (ci := 4) (v := .ref qR) (C := "LongMachine") (T := TX4) (N := 17) hx hb hts ui_X4 hown hK hP 0 rfl rfl 1 (by decide) (hts _ gm_92) (fun _ h9 => h9) rfl dX4_kernelCall_193 ?_
                  refine lv_iconst (pc := 196) (v := (0 : Int32)) hx hb dX4_kernelCall_196 (by decide) ?_
                  refine lv_aload_n (pc := 197) hx hb dX4_kernelCall_197 rfl (lv_at hl 1 rfl) ?_
                  refine qa_calld (pc := 198) (v := .int (((8 : Int32) * xMod) + xLev)) (va_runV (As := []) (rest := [.int (0 : Int32), .ref qR]) ⟨hx, hb, hml, hown, hts⟩ (c_X4_status l dC dI cI cJ qX qR qV qF qM qMw qMp qMs qMd qI qIl qIn qO qC xPc xKsp xUsp xKgp xVal xMod xLev xHal xEnt xLoc xR xV xF mOld mCnt mTab mSpc mW mP mS mD iCnt iL iN oRes oKno oGiv oTrp aVec aA aB aC aPc) (cwV 0 hts (gd_V gm_234 gm_232 gm_233 gm_560 gm_1) rfl rfl rfl (by decide +kernel) ⟨Nat.le_of_ble_eq_true rfl, Nat.le_of_ble_eq_true rfl⟩) (qa_VR (q0 := 0) (q := ("LongMachine", TX4, 17)) hK hP rfl rfl hP) rfl rfl hl.1 rfl (lv_room (Nat.le_of_ble_eq_true rfl)) dX4_kernelCall_198 ⟨Nat.zero_le _, Nat.zero_le _⟩) ?_
                  refine lv_i2l (pc := 201) (v := (Int32.toInt64 (((8 : Int32) * xMod) + xLev))) hx hb dX4_kernelCall_201 rfl ?_
                  refine qa_last (pc := 202) (k := 0) hx hb hK hP hD hS 1 1 rfl rfl (by decide) (qa_in (by decide)) dX4_kernelCall_202 (fun H locs hP hD hS => ?_)
                  have hP : va_P (dC, dI) vwCl (wX cI cJ qX qR qV qF qM qMw qMp qMs qMd qI qIl qIn qO qC xPc xKsp xUsp xKgp xVal xMod xLev xHal xEnt xLoc (vp_updL xR 0 (Int32.toInt64 (((8 : Int32) * xMod) + xLev))) xV xF mOld mCnt mTab mSpc mW mP mS mD iCnt iL iN oRes oKno oGiv oTrp aVec aA aB aC aPc) H := hP
                  have hD : va_D A (wX cI cJ qX qR qV qF qM qMw qMp qMs qMd qI qIl qIn qO qC xPc xKsp xUsp xKgp xVal xMod xLev xHal xEnt xLoc (vp_updL xR 0 (Int32.toInt64 (((8 : Int32) * xMod) + xLev))) xV xF mOld mCnt mTab mSpc mW mP mS mD iCnt iL iN oRes oKno oGiv oTrp aVec aA aB aC aPc) := hD
                  refine lv_goto (pc := 203) (tgt := 245) hx hb dX4_kernelCall_203 (by decide) ?_
                  subst hu
                  exact W.vret hx hb hr (fun t ht hW => ⟨rfl, by rw [ht]; exact hP, hS.F ht⟩) hS.2.2 dX4_kernelCall_245
                · have hu := hu.trans (if_neg h9_8)
                  have n9_7 : ¬ z1 = (54 : Int32) := h9_8
                  rcases Decidable.em (z1 = (55 : Int32)) with h9_9 | h9_9
                  · have hu := hu.trans (if_pos h9_9)
                    refine lv_lookup (pc := 9) (tgt := 206) (off := 197) hx hb dX4_kernelCall_9 (by decide) (by rw [h9_9]; decide) (by decide) ?_
                    refine lv_aload_n (pc := 206) hx hb dX4_kernelCall_206 rfl (lv_at hl 1 rfl) ?_
                    refine lv_lload_n (pc := 207) hx hb dX4_kernelCall_207 rfl (lv_at hl 0 rfl) ?_
                    refine va_put (D := (dC, dI)) (pc := 208) (ci := 4) (v := .long (xR 16)) (ty := .long) (C := "LongMachine") (T := TX4) (N := 17) hx hb hts ui_X4 tyX4 tyX4_ok nmX4 hown hK hP hD hS 0 rfl rfl 10 (by decide) (hts _ gm_101) (fun _ h9 => h9) rfl (by decide +kernel) rfl rfl (Nat.le_of_ble_eq_true rfl) dX4_kernelCall_208 (fun H locs hP hD hS => ?_)
                    have hP : va_P (dC, dI) vwCl (wX cI cJ qX qR qV qF qM qMw qMp qMs qMd qI qIl qIn qO qC xPc xKsp xUsp (xR 16) xVal xMod xLev xHal xEnt xLoc xR xV xF mOld mCnt mTab mSpc mW mP mS mD iCnt iL iN oRes oKno oGiv oTrp aVec aA aB aC aPc) H := hP
                    have hD : va_D A (wX cI cJ qX qR qV qF qM qMw qMp qMs qMd qI qIl qIn qO qC xPc xKsp xUsp (xR 16) xVal xMod xLev xHal xEnt xLoc xR xV xF mOld mCnt mTab mSpc mW mP mS mD iCnt iL iN oRes oKno oGiv oTrp aVec aA aB aC aPc) := hD
                    refine lv_goto (pc := 211) (tgt := 245) hx hb dX4_kernelCall_211 (by decide) ?_
                    subst hu
                    exact W.vret hx hb hr (fun t ht hW => ⟨rfl, by rw [ht]; exact hP, hS.F ht⟩) hS.2.2 dX4_kernelCall_245
                  · have hu := hu.trans (if_neg h9_9)
                    have n9_8 : ¬ z1 = (55 : Int32) := h9_9
                    rcases Decidable.em (z1 = (56 : Int32)) with h9_10 | h9_10
                    · have hu := hu.trans (if_pos h9_10)
                      refine lv_lookup (pc := 9) (tgt := 214) (off := 205) hx hb dX4_kernelCall_9 (by decide) (by rw [h9_10]; decide) (by decide) ?_
                      refine lv_aload_n (pc := 214) hx hb dX4_kernelCall_214 rfl (lv_at hl 1 rfl) ?_
                      refine lv_lload_n (pc := 215) hx hb dX4_kernelCall_215 rfl (lv_at hl 0 rfl) ?_
                      refine va_put (D := (dC, dI)) (pc := 216) (ci := 4) (v := .long (xR 16)) (ty := .long) (C := "LongMachine") (T := TX4) (N := 17) hx hb hts ui_X4 tyX4 tyX4_ok nmX4 hown hK hP hD hS 0 rfl rfl 9 (by decide) (hts _ gm_100) (fun _ h9 => h9) rfl (by decide +kernel) rfl rfl (Nat.le_of_ble_eq_true rfl) dX4_kernelCall_216 (fun H locs hP hD hS => ?_)
                      have hP : va_P (dC, dI) vwCl (wX cI cJ qX qR qV qF qM qMw qMp qMs qMd qI qIl qIn qO qC xPc xKsp (xR 16) xKgp xVal xMod xLev xHal xEnt xLoc xR xV xF mOld mCnt mTab mSpc mW mP mS mD iCnt iL iN oRes oKno oGiv oTrp aVec aA aB aC aPc) H := hP
                      have hD : va_D A (wX cI cJ qX qR qV qF qM qMw qMp qMs qMd qI qIl qIn qO qC xPc xKsp (xR 16) xKgp xVal xMod xLev xHal xEnt xLoc xR xV xF mOld mCnt mTab mSpc mW mP mS mD iCnt iL iN oRes oKno oGiv oTrp aVec aA aB aC aPc) := hD
                      refine lv_goto (pc := 219) (tgt := 245) hx hb dX4_kernelCall_219 (by decide) ?_
                      subst hu
                      exact W.vret hx hb hr (fun t ht hW => ⟨rfl, by rw [ht]; exact hP, hS.F ht⟩) hS.2.2 dX4_kernelCall_245
                    · have hu := hu.trans (if_neg h9_10)
                      have n9_9 : ¬ z1 = (56 : Int32) := h9_10
                      rcases Decidable.em (z1 = (58 : Int32)) with h9_11 | h9_11
                      · have hu := hu.trans (if_pos h9_11)
                        refine lv_lookup (pc := 9) (tgt := 222) (off := 213) hx hb dX4_kernelCall_9 (by decide) (by rw [h9_11]; decide) (by decide) ?_
                        refine lv_aload_n (pc := 222) hx hb dX4_kernelCall_222 rfl (lv_at hl 1 rfl) ?_
                        refine va_get (D := (dC, dI)) (pc := 223) (ci := 4) (v := .ref qR) (C := "LongMachine") (T := TX4) (N := 17) hx hb hts ui_X4 hown hK hP 0 rfl rfl 1 (by decide) (hts _ gm_92) (fun _ h9 => h9) rfl dX4_kernelCall_223 ?_
                        refine lv_iconst (pc := 226) (v := (0 : Int32)) hx hb dX4_kernelCall_226 (by decide) ?_
                        refine lv_aload_n (pc := 227) hx hb dX4_kernelCall_227 rfl (lv_at hl 1 rfl) ?_
                        refine va_get (D := (dC, dI)) (pc := 228) (ci := 4) (v := .long xUsp) (C := "LongMachine") (T := TX4) (N := 17) hx hb hts ui_X4 hown hK hP 0 rfl rfl 9 (by decide) (hts _ gm_100) (fun _ h9 => h9) rfl dX4_kernelCall_228 ?_
                        refine qa_last (pc := 231) (k := 0) hx hb hK hP hD hS 1 1 rfl rfl (by decide) (qa_in (by decide)) dX4_kernelCall_231 (fun H locs hP hD hS => ?_)
                        have hP : va_P (dC, dI) vwCl (wX cI cJ qX qR qV qF qM qMw qMp qMs qMd qI qIl qIn qO qC xPc xKsp xUsp xKgp xVal xMod xLev xHal xEnt xLoc (vp_updL xR 0 xUsp) xV xF mOld mCnt mTab mSpc mW mP mS mD iCnt iL iN oRes oKno oGiv oTrp aVec aA aB aC aPc) H := hP
                        have hD : va_D A (wX cI cJ qX qR qV qF qM qMw qMp qMs qMd qI qIl qIn qO qC xPc xKsp xUsp xKgp xVal xMod xLev xHal xEnt xLoc (vp_updL xR 0 xUsp) xV xF mOld mCnt mTab mSpc mW mP mS mD iCnt iL iN oRes oKno oGiv oTrp aVec aA aB aC aPc) := hD
                        refine lv_goto (pc := 232) (tgt := 245) hx hb dX4_kernelCall_232 (by decide) ?_
                        subst hu
                        exact W.vret hx hb hr (fun t ht hW => ⟨rfl, by rw [ht]; exact hP, hS.F ht⟩) hS.2.2 dX4_kernelCall_245
                      · have hu := hu.trans (if_neg h9_11)
                        have n9_10 : ¬ z1 = (58 : Int32) := h9_11
                        rcases Decidable.em (z1 = (63 : Int32)) with h9_12 | h9_12
                        · have hu := hu.trans (if_pos h9_12)
                          refine lv_lookup (pc := 9) (tgt := 235) (off := 226) hx hb dX4_kernelCall_9 (by decide) (by rw [h9_12]; decide) (by decide) ?_
                          refine lv_aload_n (pc := 235) hx hb dX4_kernelCall_235 rfl (lv_at hl 1 rfl) ?_
                          refine va_get (D := (dC, dI)) (pc := 236) (ci := 4) (v := .ref qC) (C := "LongMachine") (T := TX4) (N := 17) hx hb hts ui_X4 hown hK hP 0 rfl rfl 6 (by decide) (hts _ gm_97) (fun _ h9 => h9) rfl dX4_kernelCall_236 ?_
                          refine qa_callv (pc := 239) (wr := [(qX, .inr (4, [.ref qM, .ref qR, .ref qV, .ref qF, .ref qI, .ref qO, .ref qC, .long xPc, .long xKsp, .long xUsp, .long xKgp, .long xVal, .int xMod, .int xLev, .int xHal, .int xEnt, .int xLoc])), (qR, .inl (cJ, 32, .inr (.inl xR))), (qV, .inl (cJ, 6, .inr (.inl xV))), (qF, .inl (cJ, 6, .inr (.inl xF))), (qM, .inr (2, [.ref qMw, .ref qMp, .ref qMs, .ref qMd, .int mOld, .int mCnt, .int mTab, .int mSpc])), (qMw, .inl (cJ, 512, .inr (.inl mW))), (qMp, .inl (cI, 4, .inl mP)), (qMs, .inl (cI, 4, .inl mS)), (qMd, .inl (cJ, 4, .inr (.inl mD))), (qI, .inr (1, [.ref qIl, .ref qIn, .int iCnt])), (qIl, .inl (cI, 4, .inl iL)), (qIn, .inl (cI, 4, .inl iN)), (qO, .inr (3, [.long oRes, .int oKno, .int oGiv, .int oTrp]))]) (wf := (wX cI cJ qX qR qV qF qM qMw qMp qMs qMd qI qIl qIn qO qC xPc xKsp xUsp xKgp xVal xMod xLev xHal xEnt xLoc xR xV xF mOld mCnt mTab mSpc mW mP mS mD iCnt iL iN oRes oKno oGiv oTrp (-1 : Int32) aA aB aC aPc)) (va_runV (As := []) (rest := []) ⟨hx, hb, hml, hown, hts⟩ (c_X0_comeBack l dC dI cI cJ qC s.heap.size aVec aA aB aC aPc) (cwV 0 hts (gd_V gm_238 gm_235 gm_236 gm_237 gm_5) rfl rfl rfl (by decide +kernel) ⟨Nat.le_of_ble_eq_true rfl, Nat.le_of_ble_eq_true rfl⟩) (qa_VM (q0 := 13) (q := ("LongMachine$Crossing", TX0, 5)) hK hP rfl rfl (hP.sub (ws' := (wC cI cJ qC aVec aA aB aC aPc)) [13] rfl) (hD.sub (ws' := (wC cI cJ qC aVec aA aB aC aPc)) [13] (by decide) rfl)) rfl rfl hl.1 rfl (lv_room (Nat.le_of_ble_eq_true rfl)) dX4_kernelCall_239 ⟨Nat.zero_le _, Nat.zero_le _⟩) hP hD hS hA [13] [0, 1, 2, 3, 4, 5, 6, 7, 8, 9, 10, 11, 12] [0, 1, 2, 3, 4, 5, 6, 7, 8, 9, 10, 11, 12, 13] rfl (by decide) rfl (by decide) (by decide) rfl rfl (by decide) (fun H locs hP hD hS => ?_)
                          refine lv_goto (pc := 242) (tgt := 245) hx hb dX4_kernelCall_242 (by decide) ?_
                          subst hu
                          exact W.vret hx hb hr (fun t ht hW => ⟨rfl, by rw [ht]; exact hP, hS.F ht⟩) hS.2.2 dX4_kernelCall_245
                        · have hu := hu.trans (if_neg h9_12)
                          have n9_11 : ¬ z1 = (63 : Int32) := h9_12
                          refine lv_lookup (pc := 9) (tgt := 245) (off := 236) hx hb dX4_kernelCall_9 (by decide) ((lv_osw n9_0 (by decide)).trans ((lv_osw n9_1 (by decide)).trans ((lv_osw n9_2 (by decide)).trans ((lv_osw n9_3 (by decide)).trans ((lv_osw n9_4 (by decide)).trans ((lv_osw n9_5 (by decide)).trans ((lv_osw n9_6 (by decide)).trans ((lv_osw n9_7 (by decide)).trans ((lv_osw n9_8 (by decide)).trans ((lv_osw n9_9 (by decide)).trans ((lv_osw n9_10 (by decide)).trans ((lv_osw n9_11 (by decide)).trans (rfl))))))))))))) (by decide) ?_
                          subst hu
                          exact W.vret hx hb hr (fun t ht hW => ⟨rfl, by rw [ht]; exact hP, hS.F ht⟩) hS.2.2 dX4_kernelCall_245
def f_X4_call_K261_1 (aA : Int64) (aB : Int64) (aC : Int64) (aPc : Int64) (r261_1 : Int64 × Int64 × Int64 × Int32 × Int32 × (Nat → Int64) × (Nat → Int64) × Int32 × Int32 × Int32 × Int32 × Int32) : Int64 × Int64 × Int64 × Int32 × Int32 × (Nat → Int64) × (Nat → Int64) × Int32 × Int32 × Int32 × Int32 × Int32 × Int64 × Int64 × Int64 × Int64 := (r261_1.1, r261_1.2.1, r261_1.2.2.1, r261_1.2.2.2.1, r261_1.2.2.2.2.1, r261_1.2.2.2.2.2.1, r261_1.2.2.2.2.2.2.1, r261_1.2.2.2.2.2.2.2.1, r261_1.2.2.2.2.2.2.2.2.1, r261_1.2.2.2.2.2.2.2.2.2.1, r261_1.2.2.2.2.2.2.2.2.2.2.1, r261_1.2.2.2.2.2.2.2.2.2.2.2, aA, aB, aC, aPc)
def f_X4_call (z1 : Int32) (xPc : Int64) (xUsp : Int64) (xKgp : Int64) (xVal : Int64) (xMod : Int32) (xLev : Int32) (xHal : Int32) (xR : (Nat → Int64)) (xV : (Nat → Int64)) (mOld : Int32) (mCnt : Int32) (mTab : Int32) (mSpc : Int32) (aVec : Int32) (aA : Int64) (aB : Int64) (aC : Int64) (aPc : Int64) : Int64 × Int64 × Int64 × Int32 × Int32 × (Nat → Int64) × (Nat → Int64) × Int32 × Int32 × Int32 × Int32 × Int32 × Int64 × Int64 × Int64 × Int64 := (if z1 = (0 : Int32) ∨ z1 = (48 : Int32) ∨ z1 = (49 : Int32) ∨ z1 = (50 : Int32) ∨ z1 = (51 : Int32) ∨ z1 = (52 : Int32) ∨ z1 = (53 : Int32) ∨ z1 = (54 : Int32) ∨ z1 = (55 : Int32) ∨ z1 = (56 : Int32) ∨ z1 = (58 : Int32) ∨ z1 = (63 : Int32) then (if xMod = (1 : Int32) then (xUsp, xKgp, xVal, xLev, xHal, xR, xV, mOld, mCnt, mTab, mSpc, (3 : Int32), (Int32.toInt64 (3 : Int32)), (0 : Int64), (0 : Int64), (xPc - (4 : Int64))) else (f_X4_call_K261_1 aA aB aC aPc (f_X4_kernelCall z1 xUsp xKgp xVal xMod xLev xHal xR xV mOld mCnt mTab mSpc aVec))) else (if z1 = (128 : Int32) then (xUsp, xKgp, xVal, xLev, xHal, xR, xV, mOld, mCnt, mTab, mSpc, (3 : Int32), (0 : Int64), (0 : Int64), (0 : Int64), xPc) else (if z1 = (129 : Int32) then (xUsp, xKgp, xVal, xLev, xHal, xR, xV, mOld, mCnt, mTab, mSpc, (3 : Int32), (1 : Int64), (0 : Int64), (0 : Int64), xPc) else (if z1 = (131 : Int32) then (xUsp, xKgp, xVal, xLev, xHal, xR, xV, mOld, mCnt, mTab, mSpc, (5 : Int32), (xR 16), (xR 17), (xR 18), xPc) else (if z1 = (134 : Int32) then (xUsp, xKgp, xVal, xLev, xHal, xR, xV, mOld, mCnt, mTab, mSpc, aVec, aA, aB, aC, aPc) else (if z1 = (170 : Int32) then (xUsp, xKgp, xVal, xLev, xHal, xR, xV, mOld, mCnt, mTab, mSpc, (3 : Int32), (2 : Int64), (0 : Int64), (0 : Int64), xPc) else (xUsp, xKgp, xVal, xLev, xHal, xR, xV, mOld, mCnt, mTab, mSpc, (3 : Int32), (Int32.toInt64 (4 : Int32)), (0 : Int64), (0 : Int64), (xPc - (4 : Int64)))))))))
set_option maxRecDepth 100000 in
set_option maxHeartbeats 4000000 in
theorem c_X4_call (l : Launch) (dC : Nat → ClassId) (dI : Nat → Nat → Nat) (cI cJ : ClassId) (qX qR qV qF qM qMw qMp qMs qMd qI qIl qIn qO qC : Nat) (sz : Nat) (xPc : Int64) (xKsp : Int64) (xUsp : Int64) (xKgp : Int64) (xVal : Int64) (xMod : Int32) (xLev : Int32) (xHal : Int32) (xEnt : Int32) (xLoc : Int32) (xR : (Nat → Int64)) (xV : (Nat → Int64)) (xF : (Nat → Int64)) (mOld : Int32) (mCnt : Int32) (mTab : Int32) (mSpc : Int32) (mW : (Nat → Int64)) (mP : (Nat → Int32)) (mS : (Nat → Int32)) (mD : (Nat → Int64)) (iCnt : Int32) (iL : (Nat → Int32)) (iN : (Nat → Int32)) (oRes : Int64) (oKno : Int32) (oGiv : Int32) (oTrp : Int32) (aVec : Int32) (aA : Int64) (aB : Int64) (aC : Int64) (aPc : Int64) (z1 : Int32) : Met l yX4_call (.code yX4_call cX4_call 2 none :: vG) ({ frames := 2, cells := 0, slots := 0, locals := 50 }) (va_Pc [.ref qX, .int z1] (qa_pre (dC, dI) vwCl (wX cI cJ qX qR qV qF qM qMw qMp qMs qMd qI qIl qIn qO qC xPc xKsp xUsp xKgp xVal xMod xLev xHal xEnt xLoc xR xV xF mOld mCnt mTab mSpc mW mP mS mD iCnt iL iN oRes oKno oGiv oTrp aVec aA aB aC aPc) [(cI, .int), (cJ, .long)] sz)) (qa_mod none (dC, dI) vwCl (wX cI cJ qX qR qV qF qM qMw qMp qMs qMd qI qIl qIn qO qC xPc xKsp ((f_X4_call z1 xPc xUsp xKgp xVal xMod xLev xHal xR xV mOld mCnt mTab mSpc aVec aA aB aC aPc).1) ((f_X4_call z1 xPc xUsp xKgp xVal xMod xLev xHal xR xV mOld mCnt mTab mSpc aVec aA aB aC aPc).2.1) ((f_X4_call z1 xPc xUsp xKgp xVal xMod xLev xHal xR xV mOld mCnt mTab mSpc aVec aA aB aC aPc).2.2.1) xMod ((f_X4_call z1 xPc xUsp xKgp xVal xMod xLev xHal xR xV mOld mCnt mTab mSpc aVec aA aB aC aPc).2.2.2.1) ((f_X4_call z1 xPc xUsp xKgp xVal xMod xLev xHal xR xV mOld mCnt mTab mSpc aVec aA aB aC aPc).2.2.2.2.1) xEnt xLoc ((f_X4_call z1 xPc xUsp xKgp xVal xMod xLev xHal xR xV mOld mCnt mTab mSpc aVec aA aB aC aPc).2.2.2.2.2.1) ((f_X4_call z1 xPc xUsp xKgp xVal xMod xLev xHal xR xV mOld mCnt mTab mSpc aVec aA aB aC aPc).2.2.2.2.2.2.1) xF ((f_X4_call z1 xPc xUsp xKgp xVal xMod xLev xHal xR xV mOld mCnt mTab mSpc aVec aA aB aC aPc).2.2.2.2.2.2.2.1) ((f_X4_call z1 xPc xUsp xKgp xVal xMod xLev xHal xR xV mOld mCnt mTab mSpc aVec aA aB aC aPc).2.2.2.2.2.2.2.2.1) ((f_X4_call z1 xPc xUsp xKgp xVal xMod xLev xHal xR xV mOld mCnt mTab mSpc aVec aA aB aC aPc).2.2.2.2.2.2.2.2.2.1) ((f_X4_call z1 xPc xUsp xKgp xVal xMod xLev xHal xR xV mOld mCnt mTab mSpc aVec aA aB aC aPc).2.2.2.2.2.2.2.2.2.2.1) mW mP mS mD iCnt iL iN oRes oKno oGiv oTrp ((f_X4_call z1 xPc xUsp xKgp xVal xMod xLev xHal xR xV mOld mCnt mTab mSpc aVec aA aB aC aPc).2.2.2.2.2.2.2.2.2.2.2.1) ((f_X4_call z1 xPc xUsp xKgp xVal xMod xLev xHal xR xV mOld mCnt mTab mSpc aVec aA aB aC aPc).2.2.2.2.2.2.2.2.2.2.2.2.1) ((f_X4_call z1 xPc xUsp xKgp xVal xMod xLev xHal xR xV mOld mCnt mTab mSpc aVec aA aB aC aPc).2.2.2.2.2.2.2.2.2.2.2.2.2.1) ((f_X4_call z1 xPc xUsp xKgp xVal xMod xLev xHal xR xV mOld mCnt mTab mSpc aVec aA aB aC aPc).2.2.2.2.2.2.2.2.2.2.2.2.2.2.1) ((f_X4_call z1 xPc xUsp xKgp xVal xMod xLev xHal xR xV mOld mCnt mTab mSpc aVec aA aB aC aPc).2.2.2.2.2.2.2.2.2.2.2.2.2.2.2)) (va_A (wX cI cJ qX qR qV qF qM qMw qMp qMs qMd qI qIl qIn qO qC xPc xKsp xUsp xKgp xVal xMod xLev xHal xEnt xLoc xR xV xF mOld mCnt mTab mSpc mW mP mS mD iCnt iL iN oRes oKno oGiv oTrp aVec aA aB aC aPc) sz)) 0 0 (va_A (wX cI cJ qX qR qV qF qM qMw qMp qMs qMd qI qIl qIn qO qC xPc xKsp xUsp xKgp xVal xMod xLev xHal xEnt xLoc xR xV xF mOld mCnt mTab mSpc mW mP mS mD iCnt iL iN oRes oKno oGiv oTrp aVec aA aB aC aPc) sz) := by
  refine Met.ofW (cc := cX4_call) (maxL := 2) (ret := none) (by decide) rfl ?_
  intro p e s m args below meth c s₁ B hml hv
  obtain ⟨rfl, hsz, hP, hK, hD0⟩ := hv
  have hx := B.exec
  have hb := B.bytes
  have hr := B.returns
  have hts : ∀ w ∈ vG, w.before _ s = true := fun w h => atoms_spec (ws := (.code yX4_call cX4_call 2 none :: vG)) B.pre w (List.mem_cons_of_mem _ h)
  have hown : s.vm.findClass "LongMachine" = some m.cls := findClass_of_methodNamed B.named
  have hlocks := B.notSynchronized
  subst hsz
  have hD := hD0.self (sz := s.heap.size)
  generalize hAe : va_A (wX cI cJ qX qR qV qF qM qMw qMp qMs qMd qI qIl qIn qO qC xPc xKsp xUsp xKgp xVal xMod xLev xHal xEnt xLoc xR xV xF mOld mCnt mTab mSpc mW mP mS mD iCnt iL iN oRes oKno oGiv oTrp aVec aA aB aC aPc) s.heap.size = A at hD ⊢
  have hA : ∀ q : Nat, s.heap.size ≤ q → A q := fun q h => by rw [← hAe]; exact Or.inr h
  have hS : va_S A s.heap s.heap [] := va_S.rf
  have hl := lv_entry ([.ref qX, .int z1]) (n := 2) (Nat.le_of_ble_eq_true rfl)
  rw [lg_entry_eq]
  generalize (lg_sl ([.ref qX, .int z1]) ++ List.replicate (2 - (lg_sl ([.ref qX, .int z1])).length) Slot.unset).toArray = ls at hl ⊢
  have hl : lv_has ls 2 [(0, .ref qX), (1, .int z1)] := hl
  obtain ⟨u, hu⟩ : ∃ u, u = f_X4_call z1 xPc xUsp xKgp xVal xMod xLev xHal xR xV mOld mCnt mTab mSpc aVec aA aB aC aPc := ⟨_, rfl⟩
  rw [← hu]
  unfold f_X4_call at hu
  refine lv_iload_n (pc := 0) hx hb dX4_call_0 rfl (lv_at hl 1 rfl) ?_
  rcases Decidable.em (z1 = (0 : Int32) ∨ z1 = (48 : Int32) ∨ z1 = (49 : Int32) ∨ z1 = (50 : Int32) ∨ z1 = (51 : Int32) ∨ z1 = (52 : Int32) ∨ z1 = (53 : Int32) ∨ z1 = (54 : Int32) ∨ z1 = (55 : Int32) ∨ z1 = (56 : Int32) ∨ z1 = (58 : Int32) ∨ z1 = (63 : Int32)) with h1_1 | h1_1
  · have hu := hu.trans (if_pos h1_1)
    refine lv_lookup (pc := 1) (tgt := 243) (off := 242) hx hb dX4_call_1 (by decide) (by rcases h1_1 with h | h | h | h | h | h | h | h | h | h | h | h <;> (rw [h]; decide)) (by decide) ?_
    refine lv_aload_n (pc := 243) hx hb dX4_call_243 rfl (lv_at hl 0 rfl) ?_
    refine va_get (D := (dC, dI)) (pc := 244) (ci := 4) (v := .int xMod) (C := "LongMachine") (T := TX4) (N := 17) hx hb hts ui_X4 hown hK hP 0 rfl rfl 12 (by decide) (hts _ gm_103) (fun _ h9 => h9) rfl dX4_call_244 ?_
    refine lv_iconst (pc := 247) (v := (1 : Int32)) hx hb dX4_call_247 (by decide) ?_
    refine lv_icmp_ne (pc := 248) (tgt := 259) hx hb dX4_call_248 (by decide) (fun h248_2 => ?_) (fun h248_2 => ?_)
    · have hu := hu.trans (if_neg h248_2)
      refine lv_aload_n (pc := 259) hx hb dX4_call_259 rfl (lv_at hl 0 rfl) ?_
      refine lv_iload_n (pc := 260) hx hb dX4_call_260 rfl (lv_at hl 1 rfl) ?_
      have hc := c_X4_kernelCall l dC dI cI cJ qX qR qV qF qM qMw qMp qMs qMd qI qIl qIn qO qC s.heap.size xPc xKsp xUsp xKgp xVal xMod xLev xHal xEnt xLoc xR xV xF mOld mCnt mTab mSpc mW mP mS mD iCnt iL iN oRes oKno oGiv oTrp aVec aA aB aC aPc z1
      generalize er261_1 : f_X4_kernelCall z1 xUsp xKgp xVal xMod xLev xHal xR xV mOld mCnt mTab mSpc aVec = r261_1 at hu hc
      unfold f_X4_call_K261_1 at hu
      refine qa_callv (pc := 261) (wr := []) (wf := (wX cI cJ qX qR qV qF qM qMw qMp qMs qMd qI qIl qIn qO qC xPc xKsp r261_1.1 r261_1.2.1 r261_1.2.2.1 xMod r261_1.2.2.2.1 r261_1.2.2.2.2.1 xEnt xLoc r261_1.2.2.2.2.2.1 r261_1.2.2.2.2.2.2.1 xF r261_1.2.2.2.2.2.2.2.1 r261_1.2.2.2.2.2.2.2.2.1 r261_1.2.2.2.2.2.2.2.2.2.1 r261_1.2.2.2.2.2.2.2.2.2.2.1 mW mP mS mD iCnt iL iN oRes oKno oGiv oTrp r261_1.2.2.2.2.2.2.2.2.2.2.2 aA aB aC aPc)) (va_runV (As := [.int z1]) (rest := []) ⟨hx, hb, hml, hown, hts⟩ hc (cwV 1 hts (gd_V gm_221 gm_219 gm_220 gm_557 gm_1) rfl rfl rfl (by decide +kernel) ⟨Nat.le_of_ble_eq_true rfl, Nat.le_of_ble_eq_true rfl⟩) (qa_VM (q0 := 0) (q := ("LongMachine", TX4, 17)) hK hP rfl rfl hP hD) rfl rfl hl.1 rfl (lv_room (Nat.le_of_ble_eq_true rfl)) dX4_call_261 ⟨Nat.zero_le _, Nat.zero_le _⟩) hP hD hS hA [0, 1, 2, 3, 4, 5, 6, 7, 8, 9, 10, 11, 12, 13] [] [0, 1, 2, 3, 4, 5, 6, 7, 8, 9, 10, 11, 12, 13] rfl (by decide) rfl (by decide) (by decide) rfl rfl (by decide) (fun H locs hP hD hS => ?_)
      refine lv_goto (pc := 264) (tgt := 272) hx hb dX4_call_264 (by decide) ?_
      subst hu
      exact W.vret hx hb hr (fun t ht hW => ⟨rfl, by rw [ht]; exact hP, hS.F ht⟩) hS.2.2 dX4_call_272
    · have hu := hu.trans (if_pos h248_2)
      refine lv_aload_n (pc := 251) hx hb dX4_call_251 rfl (lv_at hl 0 rfl) ?_
      refine lv_iconst (pc := 252) (v := (3 : Int32)) hx hb dX4_call_252 (by decide) ?_
      refine qa_callv (pc := 253) (wr := []) (wf := (wX cI cJ qX qR qV qF qM qMw qMp qMs qMd qI qIl qIn qO qC xPc xKsp xUsp xKgp xVal xMod xLev xHal xEnt xLoc xR xV xF mOld mCnt mTab mSpc mW mP mS mD iCnt iL iN oRes oKno oGiv oTrp (3 : Int32) (Int32.toInt64 (3 : Int32)) (0 : Int64) (0 : Int64) (xPc - (4 : Int64)))) (va_runV (As := [.int (3 : Int32)]) (rest := []) ⟨hx, hb, hml, hown, hts⟩ (c_X4_refuse l dC dI cI cJ qX qR qV qF qM qMw qMp qMs qMd qI qIl qIn qO qC s.heap.size xPc xKsp xUsp xKgp xVal xMod xLev xHal xEnt xLoc xR xV xF mOld mCnt mTab mSpc mW mP mS mD iCnt iL iN oRes oKno oGiv oTrp aVec aA aB aC aPc (3 : Int32)) (cwV 1 hts (gd_V gm_218 gm_216 gm_217 gm_556 gm_1) rfl rfl rfl (by decide +kernel) ⟨Nat.le_of_ble_eq_true rfl, Nat.le_of_ble_eq_true rfl⟩) (qa_VM (q0 := 0) (q := ("LongMachine", TX4, 17)) hK hP rfl rfl hP hD) rfl rfl hl.1 rfl (lv_room (Nat.le_of_ble_eq_true rfl)) dX4_call_253 ⟨Nat.zero_le _, Nat.zero_le _⟩) hP hD hS hA [0, 1, 2, 3, 4, 5, 6, 7, 8, 9, 10, 11, 12, 13] [] [0, 1, 2, 3, 4, 5, 6, 7, 8, 9, 10, 11, 12, 13] rfl (by decide) rfl (by decide) (by decide) rfl rfl (by decide) (fun H locs hP hD hS => ?_)
      refine lv_goto (pc := 256) (tgt := 272) hx hb dX4_call_256 (by decide) ?_
      subst hu
      exact W.vret hx hb hr (fun t ht hW => ⟨rfl, by rw [ht]; exact hP, hS.F ht⟩) hS.2.2 dX4_call_272
  · have hu := hu.trans (if_neg h1_1)
    have n1_0 : ¬ z1 = (0 : Int32) := fun q => h1_1 (Or.inl q)
    have n1_1 : ¬ z1 = (48 : Int32) := fun q => h1_1 (Or.inr (Or.inl q))
    have n1_2 : ¬ z1 = (49 : Int32) := fun q => h1_1 (Or.inr (Or.inr (Or.inl q)))
    have n1_3 : ¬ z1 = (50 : Int32) := fun q => h1_1 (Or.inr (Or.inr (Or.inr (Or.inl q))))
    have n1_4 : ¬ z1 = (51 : Int32) := fun q => h1_1 (Or.inr (Or.inr (Or.inr (Or.inr (Or.inl q)))))
    have n1_5 : ¬ z1 = (52 : Int32) := fun q => h1_1 (Or.inr (Or.inr (Or.inr (Or.inr (Or.inr (Or.inl q))))))
    have n1_6 : ¬ z1 = (53 : Int32) := fun q => h1_1 (Or.inr (Or.inr (Or.inr (Or.inr (Or.inr (Or.inr (Or.inl q)))))))
    have n1_7 : ¬ z1 = (54 : Int32) := fun q => h1_1 (Or.inr (Or.inr (Or.inr (Or.inr (Or.inr (Or.inr (Or.inr (Or.inl q))))))))
    have n1_8 : ¬ z1 = (55 : Int32) := fun q => h1_1 (Or.inr (Or.inr (Or.inr (Or.inr (Or.inr (Or.inr (Or.inr (Or.inr (Or.inl q)))))))))
    have n1_9 : ¬ z1 = (56 : Int32) := fun q => h1_1 (Or.inr (Or.inr (Or.inr (Or.inr (Or.inr (Or.inr (Or.inr (Or.inr (Or.inr (Or.inl q))))))))))
    have n1_10 : ¬ z1 = (58 : Int32) := fun q => h1_1 (Or.inr (Or.inr (Or.inr (Or.inr (Or.inr (Or.inr (Or.inr (Or.inr (Or.inr (Or.inr (Or.inl q)))))))))))
    have n1_11 : ¬ z1 = (63 : Int32) := fun q => h1_1 (Or.inr (Or.inr (Or.inr (Or.inr (Or.inr (Or.inr (Or.inr (Or.inr (Or.inr (Or.inr (Or.inr (q))))))))))))
    rcases Decidable.em (z1 = (128 : Int32)) with h1_3 | h1_3
    · have hu := hu.trans (if_pos h1_3)
      refine lv_lookup (pc := 1) (tgt := 148) (off := 147) hx hb dX4_call_1 (by decide) (by rw [h1_3]; decide) (by decide) ?_
      refine lv_aload_n (pc := 148) hx hb dX4_call_148 rfl (lv_at hl 0 rfl) ?_
      refine va_get (D := (dC, dI)) (pc := 149) (ci := 4) (v := .ref qC) (C := "LongMachine") (T := TX4) (N := 17) hx hb hts ui_X4 hown hK hP 0 rfl rfl 6 (by decide) (hts _ gm_97) (fun _ h9 => h9) rfl dX4_call_149 ?_
      refine lv_iconst (pc := 152) (v := (3 : Int32)) hx hb dX4_call_152 (by decide) ?_
      refine lv_lconst (pc := 153) (v := (0 : Int64)) hx hb dX4_call_153 (by decide) ?_
      refine lv_lconst (pc := 154) (v := (0 : Int64)) hx hb dX4_call_154 (by decide) ?_
      refine lv_lconst (pc := 155) (v := (0 : Int64)) hx hb dX4_call_155 (by decide) ?_
      refine lv_aload_n (pc := 156) hx hb dX4_call_156 rfl (lv_at hl 0 rfl) ?_
      refine va_get (D := (dC, dI)) (pc := 157) (ci := 4) (v := .long xPc) (C := "LongMachine") (T := TX4) (N := 17) hx hb hts ui_X4 hown hK hP 0 rfl rfl 7 (by decide) (hts _ gm_98) (fun _ h9 => h9) rfl dX4_call_157 ?_
      refine qa_callv (pc := 160) (wr := [(qX, .inr (4, [.ref qM, .ref qR, .ref qV, .ref qF, .ref qI, .ref qO, .ref qC, .long xPc, .long xKsp, .long xUsp, .long xKgp, .long xVal, .int xMod, .int xLev, .int xHal, .int xEnt, .int xLoc])), (qR, .inl (cJ, 32, .inr (.inl xR))), (qV, .inl (cJ, 6, .inr (.inl xV))), (qF, .inl (cJ, 6, .inr (.inl xF))), (qM, .inr (2, [.ref qMw, .ref qMp, .ref qMs, .ref qMd, .int mOld, .int mCnt, .int mTab, .int mSpc])), (qMw, .inl (cJ, 512, .inr (.inl mW))), (qMp, .inl (cI, 4, .inl mP)), (qMs, .inl (cI, 4, .inl mS)), (qMd, .inl (cJ, 4, .inr (.inl mD))), (qI, .inr (1, [.ref qIl, .ref qIn, .int iCnt])), (qIl, .inl (cI, 4, .inl iL)), (qIn, .inl (cI, 4, .inl iN)), (qO, .inr (3, [.long oRes, .int oKno, .int oGiv, .int oTrp]))]) (wf := (wX cI cJ qX qR qV qF qM qMw qMp qMs qMd qI qIl qIn qO qC xPc xKsp xUsp xKgp xVal xMod xLev xHal xEnt xLoc xR xV xF mOld mCnt mTab mSpc mW mP mS mD iCnt iL iN oRes oKno oGiv oTrp (3 : Int32) (0 : Int64) (0 : Int64) (0 : Int64) xPc)) (va_runV (As := [.int (3 : Int32), .long (0 : Int64), .long (0 : Int64), .long (0 : Int64), .long xPc]) (rest := []) ⟨hx, hb, hml, hown, hts⟩ (c_X0_enter l dC dI cI cJ qC s.heap.size aVec aA aB aC aPc (3 : Int32) (0 : Int64) (0 : Int64) (0 : Int64) xPc) (cwV 5 hts (gd_V gm_199 gm_196 gm_197 gm_198 gm_5) rfl rfl rfl (by decide +kernel) ⟨Nat.le_of_ble_eq_true rfl, Nat.le_of_ble_eq_true rfl⟩) (qa_VM (q0 := 13) (q := ("LongMachine$Crossing", TX0, 5)) hK hP rfl rfl (hP.sub (ws' := (wC cI cJ qC aVec aA aB aC aPc)) [13] rfl) (hD.sub (ws' := (wC cI cJ qC aVec aA aB aC aPc)) [13] (by decide) rfl)) rfl rfl hl.1 rfl (lv_room (Nat.le_of_ble_eq_true rfl)) dX4_call_160 ⟨Nat.zero_le _, Nat.zero_le _⟩) hP hD hS hA [13] [0, 1, 2, 3, 4, 5, 6, 7, 8, 9, 10, 11, 12] [0, 1, 2, 3, 4, 5, 6, 7, 8, 9, 10, 11, 12, 13] rfl (by decide) rfl (by decide) (by decide) rfl rfl (by decide) (fun H locs hP hD hS => ?_)
      refine lv_goto (pc := 163) (tgt := 272) hx hb dX4_call_163 (by decide) ?_
      subst hu
      exact W.vret hx hb hr (fun t ht hW => ⟨rfl, by rw [ht]; exact hP, hS.F ht⟩) hS.2.2 dX4_call_272
    · have hu := hu.trans (if_neg h1_3)
      have n1_12 : ¬ z1 = (128 : Int32) := h1_3
      rcases Decidable.em (z1 = (129 : Int32)) with h1_4 | h1_4
      · have hu := hu.trans (if_pos h1_4)
        refine lv_lookup (pc := 1) (tgt := 166) (off := 165) hx hb dX4_call_1 (by decide) (by rw [h1_4]; decide) (by decide) ?_
        refine lv_aload_n (pc := 166) hx hb dX4_call_166 rfl (lv_at hl 0 rfl) ?_
        refine va_get (D := (dC, dI)) (pc := 167) (ci := 4) (v := .ref qC) (C := "LongMachine") (T := TX4) (N := 17) hx hb hts ui_X4 hown hK hP 0 rfl rfl 6 (by decide) (hts _ gm_97) (fun _ h9 => h9) rfl dX4_call_167 ?_
        refine lv_iconst (pc := 170) (v := (3 : Int32)) hx hb dX4_call_170 (by decide) ?_
        refine lv_lconst (pc := 171) (v := (1 : Int64)) hx hb dX4_call_171 (by decide) ?_
        refine lv_lconst (pc := 172) (v := (0 : Int64)) hx hb dX4_call_172 (by decide) ?_
        refine lv_lconst (pc := 173) (v := (0 : Int64)) hx hb dX4_call_173 (by decide) ?_
        refine lv_aload_n (pc := 174) hx hb dX4_call_174 rfl (lv_at hl 0 rfl) ?_
        refine va_get (D := (dC, dI)) (pc := 175) (ci := 4) (v := .long xPc) (C := "LongMachine") (T := TX4) (N := 17) hx hb hts ui_X4 hown hK hP 0 rfl rfl 7 (by decide) (hts _ gm_98) (fun _ h9 => h9) rfl dX4_call_175 ?_
        refine qa_callv (pc := 178) (wr := [(qX, .inr (4, [.ref qM, .ref qR, .ref qV, .ref qF, .ref qI, .ref qO, .ref qC, .long xPc, .long xKsp, .long xUsp, .long xKgp, .long xVal, .int xMod, .int xLev, .int xHal, .int xEnt, .int xLoc])), (qR, .inl (cJ, 32, .inr (.inl xR))), (qV, .inl (cJ, 6, .inr (.inl xV))), (qF, .inl (cJ, 6, .inr (.inl xF))), (qM, .inr (2, [.ref qMw, .ref qMp, .ref qMs, .ref qMd, .int mOld, .int mCnt, .int mTab, .int mSpc])), (qMw, .inl (cJ, 512, .inr (.inl mW))), (qMp, .inl (cI, 4, .inl mP)), (qMs, .inl (cI, 4, .inl mS)), (qMd, .inl (cJ, 4, .inr (.inl mD))), (qI, .inr (1, [.ref qIl, .ref qIn, .int iCnt])), (qIl, .inl (cI, 4, .inl iL)), (qIn, .inl (cI, 4, .inl iN)), (qO, .inr (3, [.long oRes, .int oKno, .int oGiv, .int oTrp]))]) (wf := (wX cI cJ qX qR qV qF qM qMw qMp qMs qMd qI qIl qIn qO qC xPc xKsp xUsp xKgp xVal xMod xLev xHal xEnt xLoc xR xV xF mOld mCnt mTab mSpc mW mP mS mD iCnt iL iN oRes oKno oGiv oTrp (3 : Int32) (1 : Int64) (0 : Int64) (0 : Int64) xPc)) (va_runV (As := [.int (3 : Int32), .long (1 : Int64), .long (0 : Int64), .long (0 : Int64), .long xPc]) (rest := []) ⟨hx, hb, hml, hown, hts⟩ (c_X0_enter l dC dI cI cJ qC s.heap.size aVec aA aB aC aPc (3 : Int32) (1 : Int64) (0 : Int64) (0 : Int64) xPc) (cwV 5 hts (gd_V gm_199 gm_196 gm_197 gm_198 gm_5) rfl rfl rfl (by decide +kernel) ⟨Nat.le_of_ble_eq_true rfl, Nat.le_of_ble_eq_true rfl⟩) (qa_VM (q0 := 13) (q := ("LongMachine$Crossing", TX0, 5)) hK hP rfl rfl (hP.sub (ws' := (wC cI cJ qC aVec aA aB aC aPc)) [13] rfl) (hD.sub (ws' := (wC cI cJ qC aVec aA aB aC aPc)) [13] (by decide) rfl)) rfl rfl hl.1 rfl (lv_room (Nat.le_of_ble_eq_true rfl)) dX4_call_178 ⟨Nat.zero_le _, Nat.zero_le _⟩) hP hD hS hA [13] [0, 1, 2, 3, 4, 5, 6, 7, 8, 9, 10, 11, 12] [0, 1, 2, 3, 4, 5, 6, 7, 8, 9, 10, 11, 12, 13] rfl (by decide) rfl (by decide) (by decide) rfl rfl (by decide) (fun H locs hP hD hS => ?_)
        refine lv_goto (pc := 181) (tgt := 272) hx hb dX4_call_181 (by decide) ?_
        subst hu
        exact W.vret hx hb hr (fun t ht hW => ⟨rfl, by rw [ht]; exact hP, hS.F ht⟩) hS.2.2 dX4_call_272
      · have hu := hu.trans (if_neg h1_4)
        have n1_13 : ¬ z1 = (129 : Int32) := h1_4
        rcases Decidable.em (z1 = (131 : Int32)) with h1_5 | h1_5
        · have hu := hu.trans (if_pos h1_5)
          refine lv_lookup (pc := 1) (tgt := 204) (off := 203) hx hb dX4_call_1 (by decide) (by rw [h1_5]; decide) (by decide) ?_
          refine lv_aload_n (pc := 204) hx hb dX4_call_204 rfl (lv_at hl 0 rfl) ?_
          refine va_get (D := (dC, dI)) (pc := 205) (ci := 4) (v := .ref qC) (C := "LongMachine") (T := TX4) (N := 17) hx hb hts ui_X4 hown hK hP 0 rfl rfl 6 (by decide) (hts _ gm_97) (fun _ h9 => h9) rfl dX4_call_205 ?_
          refine lv_iconst (pc := 208) (v := (5 : Int32)) hx hb dX4_call_208 (by decide) ?_
          refine lv_aload_n (pc := 209) hx hb dX4_call_209 rfl (lv_at hl 0 rfl) ?_
          refine va_get (D := (dC, dI)) (pc := 210) (ci := 4) (v := .ref qR) (C := "LongMachine") (T := TX4) (N := 17) hx hb hts ui_X4 hown hK hP 0 rfl rfl 1 (by decide) (hts _ gm_92) (fun _ h9 => h9) rfl dX4_call_210 ?_
          refine lv_bipush (pc := 213) (v := (16 : Int32)) hx hb dX4_call_213 (by decide) ?_
          refine qa_lald (pc := 215) (k := 16) hx hb hK hP 1 1 rfl rfl (by decide) (qa_in (by decide)) dX4_call_215 ?_
          refine lv_aload_n (pc := 216) hx hb dX4_call_216 rfl (lv_at hl 0 rfl) ?_
          refine va_get (D := (dC, dI)) (pc := 217) (ci := 4) (v := .ref qR) (C := "LongMachine") (T := TX4) (N := 17) hx hb hts ui_X4 hown hK hP 0 rfl rfl 1 (by decide) (hts _ gm_92) (fun _ h9 => h9) rfl dX4_call_217 ?_
          refine lv_bipush (pc := 220) (v := (17 : Int32)) hx hb dX4_call_220 (by decide) ?_
          refine qa_lald (pc := 222) (k := 17) hx hb hK hP 1 1 rfl rfl (by decide) (qa_in (by decide)) dX4_call_222 ?_
          refine lv_aload_n (pc := 223) hx hb dX4_call_223 rfl (lv_at hl 0 rfl) ?_
          refine va_get (D := (dC, dI)) (pc := 224) (ci := 4) (v := .ref qR) (C := "LongMachine") (T := TX4) (N := 17) hx hb hts ui_X4 hown hK hP 0 rfl rfl 1 (by decide) (hts _ gm_92) (fun _ h9 => h9) rfl dX4_call_224 ?_
          refine lv_bipush (pc := 227) (v := (18 : Int32)) hx hb dX4_call_227 (by decide) ?_
          refine qa_lald (pc := 229) (k := 18) hx hb hK hP 1 1 rfl rfl (by decide) (qa_in (by decide)) dX4_call_229 ?_
          refine lv_aload_n (pc := 230) hx hb dX4_call_230 rfl (lv_at hl 0 rfl) ?_
          refine va_get (D := (dC, dI)) (pc := 231) (ci := 4) (v := .long xPc) (C := "LongMachine") (T := TX4) (N := 17) hx hb hts ui_X4 hown hK hP 0 rfl rfl 7 (by decide) (hts _ gm_98) (fun _ h9 => h9) rfl dX4_call_231 ?_
          refine qa_callv (pc := 234) (wr := [(qX, .inr (4, [.ref qM, .ref qR, .ref qV, .ref qF, .ref qI, .ref qO, .ref qC, .long xPc, .long xKsp, .long xUsp, .long xKgp, .long xVal, .int xMod, .int xLev, .int xHal, .int xEnt, .int xLoc])), (qR, .inl (cJ, 32, .inr (.inl xR))), (qV, .inl (cJ, 6, .inr (.inl xV))), (qF, .inl (cJ, 6, .inr (.inl xF))), (qM, .inr (2, [.ref qMw, .ref qMp, .ref qMs, .ref qMd, .int mOld, .int mCnt, .int mTab, .int mSpc])), (qMw, .inl (cJ, 512, .inr (.inl mW))), (qMp, .inl (cI, 4, .inl mP)), (qMs, .inl (cI, 4, .inl mS)), (qMd, .inl (cJ, 4, .inr (.inl mD))), (qI, .inr (1, [.ref qIl, .ref qIn, .int iCnt])), (qIl, .inl (cI, 4, .inl iL)), (qIn, .inl (cI, 4, .inl iN)), (qO, .inr (3, [.long oRes, .int oKno, .int oGiv, .int oTrp]))]) (wf := (wX cI cJ qX qR qV qF qM qMw qMp qMs qMd qI qIl qIn qO qC xPc xKsp xUsp xKgp xVal xMod xLev xHal xEnt xLoc xR xV xF mOld mCnt mTab mSpc mW mP mS mD iCnt iL iN oRes oKno oGiv oTrp (5 : Int32) (xR 16) (xR 17) (xR 18) xPc)) (va_runV (As := [.int (5 : Int32), .long (xR 16), .long (xR 17), .long (xR 18), .long xPc]) (rest := []) ⟨hx, hb, hml, hown, hts⟩ (c_X0_enter l dC dI cI cJ qC s.heap.size aVec aA aB aC aPc (5 : Int32) (xR 16) (xR 17) (xR 18) xPc) (cwV 5 hts (gd_V gm_199 gm_196 gm_197 gm_198 gm_5) rfl rfl rfl (by decide +kernel) ⟨Nat.le_of_ble_eq_true rfl, Nat.le_of_ble_eq_true rfl⟩) (qa_VM (q0 := 13) (q := ("LongMachine$Crossing", TX0, 5)) hK hP rfl rfl (hP.sub (ws' := (wC cI cJ qC aVec aA aB aC aPc)) [13] rfl) (hD.sub (ws' := (wC cI cJ qC aVec aA aB aC aPc)) [13] (by decide) rfl)) rfl rfl hl.1 rfl (lv_room (Nat.le_of_ble_eq_true rfl)) dX4_call_234 ⟨Nat.zero_le _, Nat.zero_le _⟩) hP hD hS hA [13] [0, 1, 2, 3, 4, 5, 6, 7, 8, 9, 10, 11, 12] [0, 1, 2, 3, 4, 5, 6, 7, 8, 9, 10, 11, 12, 13] rfl (by decide) rfl (by decide) (by decide) rfl rfl (by decide) (fun H locs hP hD hS => ?_)
          refine lv_goto (pc := 237) (tgt := 272) hx hb dX4_call_237 (by decide) ?_
          subst hu
          exact W.vret hx hb hr (fun t ht hW => ⟨rfl, by rw [ht]; exact hP, hS.F ht⟩) hS.2.2 dX4_call_272
        · have hu := hu.trans (if_neg h1_5)
          have n1_14 : ¬ z1 = (131 : Int32) := h1_5
          rcases Decidable.em (z1 = (134 : Int32)) with h1_6 | h1_6
          · have hu := hu.trans (if_pos h1_6)
            refine lv_lookup (pc := 1) (tgt := 240) (off := 239) hx hb dX4_call_1 (by decide) (by rw [h1_6]; decide) (by decide) ?_
            refine lv_goto (pc := 240) (tgt := 272) hx hb dX4_call_240 (by decide) ?_
            subst hu
            exact W.vret hx hb hr (fun t ht hW => ⟨rfl, by rw [ht]; exact hP, hS.F ht⟩) hS.2.2 dX4_call_272
          · have hu := hu.trans (if_neg h1_6)
            have n1_15 : ¬ z1 = (134 : Int32) := h1_6
            rcases Decidable.em (z1 = (170 : Int32)) with h1_7 | h1_7
            · have hu := hu.trans (if_pos h1_7)
              refine lv_lookup (pc := 1) (tgt := 184) (off := 183) hx hb dX4_call_1 (by decide) (by rw [h1_7]; decide) (by decide) ?_
              refine lv_aload_n (pc := 184) hx hb dX4_call_184 rfl (lv_at hl 0 rfl) ?_
              refine va_get (D := (dC, dI)) (pc := 185) (ci := 4) (v := .ref qC) (C := "LongMachine") (T := TX4) (N := 17) hx hb hts ui_X4 hown hK hP 0 rfl rfl 6 (by decide) (hts _ gm_97) (fun _ h9 => h9) rfl dX4_call_185 ?_
              refine lv_iconst (pc := 188) (v := (3 : Int32)) hx hb dX4_call_188 (by decide) ?_
              refine lv_ldc2 (pc := 189) (v := (2 : Int64)) hx hb hown (hts _ gm_215) dX4_call_189 ?_
              refine lv_lconst (pc := 192) (v := (0 : Int64)) hx hb dX4_call_192 (by decide) ?_
              refine lv_lconst (pc := 193) (v := (0 : Int64)) hx hb dX4_call_193 (by decide) ?_
              refine lv_aload_n (pc := 194) hx hb dX4_call_194 rfl (lv_at hl 0 rfl) ?_
              refine va_get (D := (dC, dI)) (pc := 195) (ci := 4) (v := .long xPc) (C := "LongMachine") (T := TX4) (N := 17) hx hb hts ui_X4 hown hK hP 0 rfl rfl 7 (by decide) (hts _ gm_98) (fun _ h9 => h9) rfl dX4_call_195 ?_
              refine qa_callv (pc := 198) (wr := [(qX, .inr (4, [.ref qM, .ref qR, .ref qV, .ref qF, .ref qI, .ref qO, .ref qC, .long xPc, .long xKsp, .long xUsp, .long xKgp, .long xVal, .int xMod, .int xLev, .int xHal, .int xEnt, .int xLoc])), (qR, .inl (cJ, 32, .inr (.inl xR))), (qV, .inl (cJ, 6, .inr (.inl xV))), (qF, .inl (cJ, 6, .inr (.inl xF))), (qM, .inr (2, [.ref qMw, .ref qMp, .ref qMs, .ref qMd, .int mOld, .int mCnt, .int mTab, .int mSpc])), (qMw, .inl (cJ, 512, .inr (.inl mW))), (qMp, .inl (cI, 4, .inl mP)), (qMs, .inl (cI, 4, .inl mS)), (qMd, .inl (cJ, 4, .inr (.inl mD))), (qI, .inr (1, [.ref qIl, .ref qIn, .int iCnt])), (qIl, .inl (cI, 4, .inl iL)), (qIn, .inl (cI, 4, .inl iN)), (qO, .inr (3, [.long oRes, .int oKno, .int oGiv, .int oTrp]))]) (wf := (wX cI cJ qX qR qV qF qM qMw qMp qMs qMd qI qIl qIn qO qC xPc xKsp xUsp xKgp xVal xMod xLev xHal xEnt xLoc xR xV xF mOld mCnt mTab mSpc mW mP mS mD iCnt iL iN oRes oKno oGiv oTrp (3 : Int32) (2 : Int64) (0 : Int64) (0 : Int64) xPc)) (va_runV (As := [.int (3 : Int32), .long (2 : Int64), .long (0 : Int64), .long (0 : Int64), .long xPc]) (rest := []) ⟨hx, hb, hml, hown, hts⟩ (c_X0_enter l dC dI cI cJ qC s.heap.size aVec aA aB aC aPc (3 : Int32) (2 : Int64) (0 : Int64) (0 : Int64) xPc) (cwV 5 hts (gd_V gm_199 gm_196 gm_197 gm_198 gm_5) rfl rfl rfl (by decide +kernel) ⟨Nat.le_of_ble_eq_true rfl, Nat.le_of_ble_eq_true rfl⟩) (qa_VM (q0 := 13) (q := ("LongMachine$Crossing", TX0, 5)) hK hP rfl rfl (hP.sub (ws' := (wC cI cJ qC aVec aA aB aC aPc)) [13] rfl) (hD.sub (ws' := (wC cI cJ qC aVec aA aB aC aPc)) [13] (by decide) rfl)) rfl rfl hl.1 rfl (lv_room (Nat.le_of_ble_eq_true rfl)) dX4_call_198 ⟨Nat.zero_le _, Nat.zero_le _⟩) hP hD hS hA [13] [0, 1, 2, 3, 4, 5, 6, 7, 8, 9, 10, 11, 12] [0, 1, 2, 3, 4, 5, 6, 7, 8, 9, 10, 11, 12, 13] rfl (by decide) rfl (by decide) (by decide) rfl rfl (by decide) (fun H locs hP hD hS => ?_)
              refine lv_goto (pc := 201) (tgt := 272) hx hb dX4_call_201 (by decide) ?_
              subst hu
              exact W.vret hx hb hr (fun t ht hW => ⟨rfl, by rw [ht]; exact hP, hS.F ht⟩) hS.2.2 dX4_call_272
            · have hu := hu.trans (if_neg h1_7)
              have n1_16 : ¬ z1 = (170 : Int32) := h1_7
              refine lv_lookup (pc := 1) (tgt := 267) (off := 266) hx hb dX4_call_1 (by decide) ((lv_osw n1_0 (by decide)).trans ((lv_osw n1_1 (by decide)).trans ((lv_osw n1_2 (by decide)).trans ((lv_osw n1_3 (by decide)).trans ((lv_osw n1_4 (by decide)).trans ((lv_osw n1_5 (by decide)).trans ((lv_osw n1_6 (by decide)).trans ((lv_osw n1_7 (by decide)).trans ((lv_osw n1_8 (by decide)).trans ((lv_osw n1_9 (by decide)).trans ((lv_osw n1_10 (by decide)).trans ((lv_osw n1_11 (by decide)).trans ((lv_osw n1_12 (by decide)).trans ((lv_osw n1_13 (by decide)).trans ((lv_osw n1_14 (by decide)).trans ((lv_osw n1_15 (by decide)).trans ((lv_osw n1_16 (by decide)).trans (rfl)))))))))))))))))) (by decide) ?_
              refine lv_aload_n (pc := 267) hx hb dX4_call_267 rfl (lv_at hl 0 rfl) ?_
              refine lv_iconst (pc := 268) (v := (4 : Int32)) hx hb dX4_call_268 (by decide) ?_
              refine qa_callv (pc := 269) (wr := []) (wf := (wX cI cJ qX qR qV qF qM qMw qMp qMs qMd qI qIl qIn qO qC xPc xKsp xUsp xKgp xVal xMod xLev xHal xEnt xLoc xR xV xF mOld mCnt mTab mSpc mW mP mS mD iCnt iL iN oRes oKno oGiv oTrp (3 : Int32) (Int32.toInt64 (4 : Int32)) (0 : Int64) (0 : Int64) (xPc - (4 : Int64)))) (va_runV (As := [.int (4 : Int32)]) (rest := []) ⟨hx, hb, hml, hown, hts⟩ (c_X4_refuse l dC dI cI cJ qX qR qV qF qM qMw qMp qMs qMd qI qIl qIn qO qC s.heap.size xPc xKsp xUsp xKgp xVal xMod xLev xHal xEnt xLoc xR xV xF mOld mCnt mTab mSpc mW mP mS mD iCnt iL iN oRes oKno oGiv oTrp aVec aA aB aC aPc (4 : Int32)) (cwV 1 hts (gd_V gm_218 gm_216 gm_217 gm_556 gm_1) rfl rfl rfl (by decide +kernel) ⟨Nat.le_of_ble_eq_true rfl, Nat.le_of_ble_eq_true rfl⟩) (qa_VM (q0 := 0) (q := ("LongMachine", TX4, 17)) hK hP rfl rfl hP hD) rfl rfl hl.1 rfl (lv_room (Nat.le_of_ble_eq_true rfl)) dX4_call_269 ⟨Nat.zero_le _, Nat.zero_le _⟩) hP hD hS hA [0, 1, 2, 3, 4, 5, 6, 7, 8, 9, 10, 11, 12, 13] [] [0, 1, 2, 3, 4, 5, 6, 7, 8, 9, 10, 11, 12, 13] rfl (by decide) rfl (by decide) (by decide) rfl rfl (by decide) (fun H locs hP hD hS => ?_)
              subst hu
              exact W.vret hx hb hr (fun t ht hW => ⟨rfl, by rw [ht]; exact hP, hS.F ht⟩) hS.2.2 dX4_call_272
