def f_Y_branch_K62_1 (z1 : Int32) (yPc : Int64) (yWrd : Int32) (yR : (Nat → Int64)) (r62_1 : (Nat → Int64)) : Int64 × (Nat → Int64) := (if (f_Y_meets z1 (yR (Int32.toNatClampNeg ((yWrd >>> ((21 : Int32) &&& (31 : Int32))) &&& (31 : Int32))))) = (0 : Int32) then (yPc, r62_1) else ((yPc + ((4 : Int64) * (Int32.toInt64 ((yWrd <<< ((11 : Int32) &&& (31 : Int32))) >>> ((11 : Int32) &&& (31 : Int32)))))), r62_1))
def f_Y_branch_K62_2 (z1 : Int32) (yPc : Int64) (yWrd : Int32) (yR : (Nat → Int64)) (r62_2 : (Nat → Int64)) : Int64 × (Nat → Int64) := (if (f_Y_meets z1 (yR (Int32.toNatClampNeg ((yWrd >>> ((21 : Int32) &&& (31 : Int32))) &&& (31 : Int32))))) = (0 : Int32) then (yPc, r62_2) else ((yPc + ((4 : Int64) * (Int32.toInt64 ((yWrd <<< ((11 : Int32) &&& (31 : Int32))) >>> ((11 : Int32) &&& (31 : Int32)))))), r62_2))
def f_Y_branch (z1 : Int32) (yPc : Int64) (yWrd : Int32) (yR : (Nat → Int64)) : Int64 × (Nat → Int64) := (if z1 = (48 : Int32) then (f_Y_branch_K62_1 z1 yPc yWrd yR (f_Y_give ((yWrd >>> ((21 : Int32) &&& (31 : Int32))) &&& (31 : Int32)) yPc yR)) else (if z1 = (52 : Int32) then (f_Y_branch_K62_2 z1 yPc yWrd yR (f_Y_give ((yWrd >>> ((21 : Int32) &&& (31 : Int32))) &&& (31 : Int32)) yPc yR)) else (if (f_Y_meets z1 (yR (Int32.toNatClampNeg ((yWrd >>> ((21 : Int32) &&& (31 : Int32))) &&& (31 : Int32))))) = (0 : Int32) then (yPc, yR) else ((yPc + ((4 : Int64) * (Int32.toInt64 ((yWrd <<< ((11 : Int32) &&& (31 : Int32))) >>> ((11 : Int32) &&& (31 : Int32)))))), yR))))
set_option maxRecDepth 100000 in
set_option maxHeartbeats 4000000 in
theorem c_Y_branch (l : Launch) (dC : Nat → ClassId) (dI : Nat → Nat → Nat) (cI cJ : ClassId) (qY qYm qYr qYv qYl qYn qYp qYs qYw qY6 : Nat) (sz : Nat) (yPc : Int64) (yMod : Int32) (yLev : Int32) (yLoc : Int32) (yKsp : Int64) (yUsp : Int64) (yKgp : Int64) (yVal : Int64) (yTab : Int32) (ySpc : Int32) (yHal : Int32) (yEnt : Int32) (yPen : Int32) (yBuf : Int32) (yHer : Int64) (yWrd : Int32) (yHas : Int32) (yTrp : Int32) (yNon : Int32) (yMem : (Nat → Int32)) (yR : (Nat → Int64)) (yV : (Nat → Int64)) (yPL : (Nat → Int32)) (yPN : (Nat → Int32)) (yBP : (Nat → Int32)) (yBS : (Nat → Int32)) (yBW : (Nat → Int64)) (ySix : (Nat → Int64)) (z1 : Int32) : Met l yY_branch (.code yY_branch cY_branch 6 none :: vG) ({ frames := 1, cells := 0, slots := 0, locals := 23 }) (va_Pc [.ref qY, .int z1] (qa_pre (dC, dI) vwCl (wY cI cJ qY qYm qYr qYv qYl qYn qYp qYs qYw qY6 yPc yMod yLev yLoc yKsp yUsp yKgp yVal yTab ySpc yHal yEnt yPen yBuf yHer yWrd yHas yTrp yNon yMem yR yV yPL yPN yBP yBS yBW ySix) [(cI, .int), (cJ, .long)] sz)) (qa_mod none (dC, dI) vwCl (wY cI cJ qY qYm qYr qYv qYl qYn qYp qYs qYw qY6 ((f_Y_branch z1 yPc yWrd yR).1) yMod yLev yLoc yKsp yUsp yKgp yVal yTab ySpc yHal yEnt yPen yBuf yHer yWrd yHas yTrp yNon yMem ((f_Y_branch z1 yPc yWrd yR).2) yV yPL yPN yBP yBS yBW ySix) (va_A (wY cI cJ qY qYm qYr qYv qYl qYn qYp qYs qYw qY6 yPc yMod yLev yLoc yKsp yUsp yKgp yVal yTab ySpc yHal yEnt yPen yBuf yHer yWrd yHas yTrp yNon yMem yR yV yPL yPN yBP yBS yBW ySix) sz)) 0 0 (va_A (wY cI cJ qY qYm qYr qYv qYl qYn qYp qYs qYw qY6 yPc yMod yLev yLoc yKsp yUsp yKgp yVal yTab ySpc yHal yEnt yPen yBuf yHer yWrd yHas yTrp yNon yMem yR yV yPL yPN yBP yBS yBW ySix) sz) := by
  refine Met.ofW (cc := cY_branch) (maxL := 6) (ret := none) (by decide) rfl ?_
  intro p e s m args below meth c s₁ B hml hv
  obtain ⟨rfl, hsz, hP, hK, hD0⟩ := hv
  have hx := B.exec
  have hb := B.bytes
  have hr := B.returns
  have hts : ∀ w ∈ vG, w.before _ s = true := fun w h => atoms_spec (ws := (.code yY_branch cY_branch 6 none :: vG)) B.pre w (List.mem_cons_of_mem _ h)
  have hown : s.vm.findClass "LongMachineModel" = some m.cls := findClass_of_methodNamed B.named
  have hlocks := B.notSynchronized
  subst hsz
  have hD := hD0.self (sz := s.heap.size)
  generalize hAe : va_A (wY cI cJ qY qYm qYr qYv qYl qYn qYp qYs qYw qY6 yPc yMod yLev yLoc yKsp yUsp yKgp yVal yTab ySpc yHal yEnt yPen yBuf yHer yWrd yHas yTrp yNon yMem yR yV yPL yPN yBP yBS yBW ySix) s.heap.size = A at hD ⊢
  have hA : ∀ q : Nat, s.heap.size ≤ q → A q := fun q h => by rw [← hAe]; exact Or.inr h
  have hS : va_S A s.heap s.heap [] := va_S.rf
  have hl := lv_entry ([.ref qY, .int z1]) (n := 6) (Nat.le_of_ble_eq_true rfl)
  rw [lg_entry_eq]
  generalize (lg_sl ([.ref qY, .int z1]) ++ List.replicate (6 - (lg_sl ([.ref qY, .int z1])).length) Slot.unset).toArray = ls at hl ⊢
  have hl : lv_has ls 6 [(0, .ref qY), (1, .int z1)] := hl
  obtain ⟨u, hu⟩ : ∃ u, u = f_Y_branch z1 yPc yWrd yR := ⟨_, rfl⟩
  rw [← hu]
  unfold f_Y_branch at hu
  refine lv_aload_n (pc := 0) hx hb dY_branch_0 rfl (lv_at hl 0 rfl) ?_
  refine va_get (D := (dC, dI)) (pc := 1) (ci := 5) (v := .int yWrd) (C := "LongMachineModel") (T := TY) (N := 28) hx hb hts ui_Y hown hK hP 0 rfl rfl 23 (by decide) (hts _ gm_369) (fun _ h9 => h9) rfl dY_branch_1 ?_
  refine lv_bipush (pc := 4) (v := (21 : Int32)) hx hb dY_branch_4 (by decide) ?_
  refine lv_ishr (pc := 6) hx hb dY_branch_6 ?_
  refine lv_bipush (pc := 7) (v := (31 : Int32)) hx hb dY_branch_7 (by decide) ?_
  refine lv_iand (pc := 9) hx hb dY_branch_9 ?_
  refine lv_istore_n (pc := 10) (lv' := [(2, .int ((yWrd >>> ((21 : Int32) &&& (31 : Int32))) &&& (31 : Int32))), (0, .ref qY), (1, .int z1)]) hx hb dY_branch_10 rfl hl (by decide) rfl (fun ls hl => ?_)
  refine lv_iload_n (pc := 11) hx hb dY_branch_11 rfl (lv_at hl 2 rfl) ?_
  refine lv_aload_n (pc := 12) hx hb dY_branch_12 rfl (lv_at hl 1 rfl) ?_
  refine va_get (D := (dC, dI)) (pc := 13) (ci := 5) (v := .ref qYr) (C := "LongMachineModel") (T := TY) (N := 28) hx hb hts ui_Y hown hK hP 0 rfl rfl 1 (by decide) (hts _ gm_347) (fun _ h9 => h9) rfl dY_branch_13 ?_
  refine lv_iload_n (pc := 16) hx hb dY_branch_16 rfl (lv_at hl 0 rfl) ?_
  refine qa_lald (pc := 17) (k := (Int32.toNatClampNeg ((yWrd >>> ((21 : Int32) &&& (31 : Int32))) &&& (31 : Int32)))) hx hb hK hP 2 1 rfl rfl rfl (qa_and31 _) dY_branch_17 ?_
  refine qa_calld (pc := 18) (v := .int (f_Y_meets z1 (yR (Int32.toNatClampNeg ((yWrd >>> ((21 : Int32) &&& (31 : Int32))) &&& (31 : Int32)))))) (va_runS (As := [.int z1, .long (yR (Int32.toNatClampNeg ((yWrd >>> ((21 : Int32) &&& (31 : Int32))) &&& (31 : Int32))))]) (rest := []) ⟨hx, hb, hml, hown, hts⟩ (c_Y_meets l z1 (yR (Int32.toNatClampNeg ((yWrd >>> ((21 : Int32) &&& (31 : Int32))) &&& (31 : Int32))))) (va_cwS 2 hts (gd_S gm_519 gm_517 gm_518 gm_6) rfl rfl rfl (by decide +kernel) ⟨Nat.le_of_ble_eq_true rfl, Nat.le_of_ble_eq_true rfl⟩) qa_S0 rfl rfl hl.1 rfl (lv_room (Nat.le_of_ble_eq_true rfl)) dY_branch_18 ⟨Nat.zero_le _, Nat.zero_le _⟩) ?_
  refine lv_istore_n (pc := 21) (lv' := [(3, .int (f_Y_meets z1 (yR (Int32.toNatClampNeg ((yWrd >>> ((21 : Int32) &&& (31 : Int32))) &&& (31 : Int32)))))), (2, .int ((yWrd >>> ((21 : Int32) &&& (31 : Int32))) &&& (31 : Int32))), (0, .ref qY), (1, .int z1)]) hx hb dY_branch_21 rfl hl (by decide) rfl (fun ls hl => ?_)
  refine lv_aload_n (pc := 22) hx hb dY_branch_22 rfl (lv_at hl 2 rfl) ?_
  refine va_get (D := (dC, dI)) (pc := 23) (ci := 5) (v := .long yPc) (C := "LongMachineModel") (T := TY) (N := 28) hx hb hts ui_Y hown hK hP 0 rfl rfl 2 (by decide) (hts _ gm_348) (fun _ h9 => h9) rfl dY_branch_23 ?_
  refine lv_ldc2 (pc := 26) (v := (4 : Int64)) hx hb hown (hts _ gm_452) dY_branch_26 ?_
  refine lv_aload_n (pc := 29) hx hb dY_branch_29 rfl (lv_at hl 2 rfl) ?_
  refine va_get (D := (dC, dI)) (pc := 30) (ci := 5) (v := .int yWrd) (C := "LongMachineModel") (T := TY) (N := 28) hx hb hts ui_Y hown hK hP 0 rfl rfl 23 (by decide) (hts _ gm_369) (fun _ h9 => h9) rfl dY_branch_30 ?_
  refine lv_bipush (pc := 33) (v := (11 : Int32)) hx hb dY_branch_33 (by decide) ?_
  refine lv_ishl (pc := 35) hx hb dY_branch_35 ?_
  refine lv_bipush (pc := 36) (v := (11 : Int32)) hx hb dY_branch_36 (by decide) ?_
  refine lv_ishr (pc := 38) hx hb dY_branch_38 ?_
  refine lv_i2l (pc := 39) (v := (Int32.toInt64 ((yWrd <<< ((11 : Int32) &&& (31 : Int32))) >>> ((11 : Int32) &&& (31 : Int32))))) hx hb dY_branch_39 rfl ?_
  refine lv_lmul (pc := 40) hx hb dY_branch_40 ?_
  refine lv_ladd (pc := 41) hx hb dY_branch_41 ?_
  refine lv_lstore (pc := 42) (lv' := [(4, .long (yPc + ((4 : Int64) * (Int32.toInt64 ((yWrd <<< ((11 : Int32) &&& (31 : Int32))) >>> ((11 : Int32) &&& (31 : Int32))))))), (3, .int (f_Y_meets z1 (yR (Int32.toNatClampNeg ((yWrd >>> ((21 : Int32) &&& (31 : Int32))) &&& (31 : Int32)))))), (2, .int ((yWrd >>> ((21 : Int32) &&& (31 : Int32))) &&& (31 : Int32))), (0, .ref qY), (1, .int z1)]) hx hb dY_branch_42 hl (by decide) rfl (fun ls hl => ?_)
  refine lv_iload_n (pc := 44) hx hb dY_branch_44 rfl (lv_at hl 4 rfl) ?_
  refine lv_bipush (pc := 45) (v := (48 : Int32)) hx hb dY_branch_45 (by decide) ?_
  refine lv_icmp_eq (pc := 47) (tgt := 56) hx hb dY_branch_47 (by decide) (fun h47_1 => ?_) (fun h47_1 => ?_)
  · have hu := hu.trans (if_pos h47_1)
    refine lv_aload_n (pc := 56) hx hb dY_branch_56 rfl (lv_at hl 3 rfl) ?_
    refine lv_iload_n (pc := 57) hx hb dY_branch_57 rfl (lv_at hl 2 rfl) ?_
    refine lv_aload_n (pc := 58) hx hb dY_branch_58 rfl (lv_at hl 3 rfl) ?_
    refine va_get (D := (dC, dI)) (pc := 59) (ci := 5) (v := .long yPc) (C := "LongMachineModel") (T := TY) (N := 28) hx hb hts ui_Y hown hK hP 0 rfl rfl 2 (by decide) (hts _ gm_348) (fun _ h9 => h9) rfl dY_branch_59 ?_
    have hc := c_Y_give l dC dI cI cJ qY qYm qYr qYv qYl qYn qYp qYs qYw qY6 s.heap.size yPc yMod yLev yLoc yKsp yUsp yKgp yVal yTab ySpc yHal yEnt yPen yBuf yHer yWrd yHas yTrp yNon yMem yR yV yPL yPN yBP yBS yBW ySix ((yWrd >>> ((21 : Int32) &&& (31 : Int32))) &&& (31 : Int32)) yPc ((rg_and31r _).1) ((rg_and31r _).2)
    generalize er62_1 : f_Y_give ((yWrd >>> ((21 : Int32) &&& (31 : Int32))) &&& (31 : Int32)) yPc yR = r62_1 at hu hc
    unfold f_Y_branch_K62_1 at hu
    refine qa_callv (pc := 62) (wr := []) (wf := (wY cI cJ qY qYm qYr qYv qYl qYn qYp qYs qYw qY6 yPc yMod yLev yLoc yKsp yUsp yKgp yVal yTab ySpc yHal yEnt yPen yBuf yHer yWrd yHas yTrp yNon yMem r62_1 yV yPL yPN yBP yBS yBW ySix)) (va_runV (As := [.int ((yWrd >>> ((21 : Int32) &&& (31 : Int32))) &&& (31 : Int32)), .long yPc]) (rest := []) ⟨hx, hb, hml, hown, hts⟩ hc (cwV 2 hts (gd_V gm_508 gm_506 gm_507 gm_596 gm_6) rfl rfl rfl (by decide +kernel) ⟨Nat.le_of_ble_eq_true rfl, Nat.le_of_ble_eq_true rfl⟩) (qa_VM (q0 := 0) (q := ("LongMachineModel", TY, 28)) hK hP rfl rfl hP hD) rfl rfl hl.1 rfl (lv_room (Nat.le_of_ble_eq_true rfl)) dY_branch_62 ⟨Nat.zero_le _, Nat.zero_le _⟩) hP hD hS hA [0, 1, 2, 3, 4, 5, 6, 7, 8, 9] [] [0, 1, 2, 3, 4, 5, 6, 7, 8, 9] rfl (by decide) rfl (by decide) (by decide) rfl rfl (by decide) (fun H locs hP hD hS => ?_)
    refine lv_iload_n (pc := 65) hx hb dY_branch_65 rfl (lv_at hl 1 rfl) ?_
    refine lv_if_eq (pc := 66) (tgt := 75) hx hb dY_branch_66 (by decide) (fun h66_2 => ?_) (fun h66_2 => ?_)
    · have hu := hu.trans (if_pos h66_2)
      subst hu
      exact W.vret hx hb hr (fun t ht hW => ⟨rfl, by rw [ht]; exact hP, hS.F ht⟩) hS.2.2 dY_branch_75
    · have hu := hu.trans (if_neg h66_2)
      refine lv_aload_n (pc := 69) hx hb dY_branch_69 rfl (lv_at hl 3 rfl) ?_
      refine lv_lload (pc := 70) hx hb dY_branch_70 (lv_at hl 0 rfl) ?_
      refine va_put (D := (dC, dI)) (pc := 72) (ci := 5) (v := .long (yPc + ((4 : Int64) * (Int32.toInt64 ((yWrd <<< ((11 : Int32) &&& (31 : Int32))) >>> ((11 : Int32) &&& (31 : Int32))))))) (ty := .long) (C := "LongMachineModel") (T := TY) (N := 28) hx hb hts ui_Y tyY tyY_ok nmY hown hK hP hD hS 0 rfl rfl 2 (by decide) (hts _ gm_348) (fun _ h9 => h9) rfl (by decide +kernel) rfl rfl (Nat.le_of_ble_eq_true rfl) dY_branch_72 (fun H locs hP hD hS => ?_)
      have hP : va_P (dC, dI) vwCl (wY cI cJ qY qYm qYr qYv qYl qYn qYp qYs qYw qY6 (yPc + ((4 : Int64) * (Int32.toInt64 ((yWrd <<< ((11 : Int32) &&& (31 : Int32))) >>> ((11 : Int32) &&& (31 : Int32)))))) yMod yLev yLoc yKsp yUsp yKgp yVal yTab ySpc yHal yEnt yPen yBuf yHer yWrd yHas yTrp yNon yMem r62_1 yV yPL yPN yBP yBS yBW ySix) H := hP
      have hD : va_D A (wY cI cJ qY qYm qYr qYv qYl qYn qYp qYs qYw qY6 (yPc + ((4 : Int64) * (Int32.toInt64 ((yWrd <<< ((11 : Int32) &&& (31 : Int32))) >>> ((11 : Int32) &&& (31 : Int32)))))) yMod yLev yLoc yKsp yUsp yKgp yVal yTab ySpc yHal yEnt yPen yBuf yHer yWrd yHas yTrp yNon yMem r62_1 yV yPL yPN yBP yBS yBW ySix) := hD
      subst hu
      exact W.vret hx hb hr (fun t ht hW => ⟨rfl, by rw [ht]; exact hP, hS.F ht⟩) hS.2.2 dY_branch_75
  · have hu := hu.trans (if_neg h47_1)
    refine lv_iload_n (pc := 50) hx hb dY_branch_50 rfl (lv_at hl 4 rfl) ?_
    refine lv_bipush (pc := 51) (v := (52 : Int32)) hx hb dY_branch_51 (by decide) ?_
    refine lv_icmp_ne (pc := 53) (tgt := 65) hx hb dY_branch_53 (by decide) (fun h53_3 => ?_) (fun h53_3 => ?_)
    · have hu := hu.trans (if_neg h53_3)
      refine lv_iload_n (pc := 65) hx hb dY_branch_65 rfl (lv_at hl 1 rfl) ?_
      refine lv_if_eq (pc := 66) (tgt := 75) hx hb dY_branch_66 (by decide) (fun h66_4 => ?_) (fun h66_4 => ?_)
      · have hu := hu.trans (if_pos h66_4)
        subst hu
        exact W.vret hx hb hr (fun t ht hW => ⟨rfl, by rw [ht]; exact hP, hS.F ht⟩) hS.2.2 dY_branch_75
      · have hu := hu.trans (if_neg h66_4)
        refine lv_aload_n (pc := 69) hx hb dY_branch_69 rfl (lv_at hl 3 rfl) ?_
        refine lv_lload (pc := 70) hx hb dY_branch_70 (lv_at hl 0 rfl) ?_
        refine va_put (D := (dC, dI)) (pc := 72) (ci := 5) (v := .long (yPc + ((4 : Int64) * (Int32.toInt64 ((yWrd <<< ((11 : Int32) &&& (31 : Int32))) >>> ((11 : Int32) &&& (31 : Int32))))))) (ty := .long) (C := "LongMachineModel") (T := TY) (N := 28) hx hb hts ui_Y tyY tyY_ok nmY hown hK hP hD hS 0 rfl rfl 2 (by decide) (hts _ gm_348) (fun _ h9 => h9) rfl (by decide +kernel) rfl rfl (Nat.le_of_ble_eq_true rfl) dY_branch_72 (fun H locs hP hD hS => ?_)
        have hP : va_P (dC, dI) vwCl (wY cI cJ qY qYm qYr qYv qYl qYn qYp qYs qYw qY6 (yPc + ((4 : Int64) * (Int32.toInt64 ((yWrd <<< ((11 : Int32) &&& (31 : Int32))) >>> ((11 : Int32) &&& (31 : Int32)))))) yMod yLev yLoc yKsp yUsp yKgp yVal yTab ySpc yHal yEnt yPen yBuf yHer yWrd yHas yTrp yNon yMem yR yV yPL yPN yBP yBS yBW ySix) H := hP
        have hD : va_D A (wY cI cJ qY qYm qYr qYv qYl qYn qYp qYs qYw qY6 (yPc + ((4 : Int64) * (Int32.toInt64 ((yWrd <<< ((11 : Int32) &&& (31 : Int32))) >>> ((11 : Int32) &&& (31 : Int32)))))) yMod yLev yLoc yKsp yUsp yKgp yVal yTab ySpc yHal yEnt yPen yBuf yHer yWrd yHas yTrp yNon yMem yR yV yPL yPN yBP yBS yBW ySix) := hD
        subst hu
        exact W.vret hx hb hr (fun t ht hW => ⟨rfl, by rw [ht]; exact hP, hS.F ht⟩) hS.2.2 dY_branch_75
    · have hu := hu.trans (if_pos h53_3)
      refine lv_aload_n (pc := 56) hx hb dY_branch_56 rfl (lv_at hl 3 rfl) ?_
      refine lv_iload_n (pc := 57) hx hb dY_branch_57 rfl (lv_at hl 2 rfl) ?_
      refine lv_aload_n (pc := 58) hx hb dY_branch_58 rfl (lv_at hl 3 rfl) ?_
      refine va_get (D := (dC, dI)) (pc := 59) (ci := 5) (v := .long yPc) (C := "LongMachineModel") (T := TY) (N := 28) hx hb hts ui_Y hown hK hP 0 rfl rfl 2 (by decide) (hts _ gm_348) (fun _ h9 => h9) rfl dY_branch_59 ?_
      have hc := c_Y_give l dC dI cI cJ qY qYm qYr qYv qYl qYn qYp qYs qYw qY6 s.heap.size yPc yMod yLev yLoc yKsp yUsp yKgp yVal yTab ySpc yHal yEnt yPen yBuf yHer yWrd yHas yTrp yNon yMem yR yV yPL yPN yBP yBS yBW ySix ((yWrd >>> ((21 : Int32) &&& (31 : Int32))) &&& (31 : Int32)) yPc ((rg_and31r _).1) ((rg_and31r _).2)
      generalize er62_2 : f_Y_give ((yWrd >>> ((21 : Int32) &&& (31 : Int32))) &&& (31 : Int32)) yPc yR = r62_2 at hu hc
      unfold f_Y_branch_K62_2 at hu
      refine qa_callv (pc := 62) (wr := []) (wf := (wY cI cJ qY qYm qYr qYv qYl qYn qYp qYs qYw qY6 yPc yMod yLev yLoc yKsp yUsp yKgp yVal yTab ySpc yHal yEnt yPen yBuf yHer yWrd yHas yTrp yNon yMem r62_2 yV yPL yPN yBP yBS yBW ySix)) (va_runV (As := [.int ((yWrd >>> ((21 : Int32) &&& (31 : Int32))) &&& (31 : Int32)), .long yPc]) (rest := []) ⟨hx, hb, hml, hown, hts⟩ hc (cwV 2 hts (gd_V gm_508 gm_506 gm_507 gm_596 gm_6) rfl rfl rfl (by decide +kernel) ⟨Nat.le_of_ble_eq_true rfl, Nat.le_of_ble_eq_true rfl⟩) (qa_VM (q0 := 0) (q := ("LongMachineModel", TY, 28)) hK hP rfl rfl hP hD) rfl rfl hl.1 rfl (lv_room (Nat.le_of_ble_eq_true rfl)) dY_branch_62 ⟨Nat.zero_le _, Nat.zero_le _⟩) hP hD hS hA [0, 1, 2, 3, 4, 5, 6, 7, 8, 9] [] [0, 1, 2, 3, 4, 5, 6, 7, 8, 9] rfl (by decide) rfl (by decide) (by decide) rfl rfl (by decide) (fun H locs hP hD hS => ?_)
      refine lv_iload_n (pc := 65) hx hb dY_branch_65 rfl (lv_at hl 1 rfl) ?_
      refine lv_if_eq (pc := 66) (tgt := 75) hx hb dY_branch_66 (by decide) (fun h66_5 => ?_) (fun h66_5 => ?_)
      · have hu := hu.trans (if_pos h66_5)
        subst hu
        exact W.vret hx hb hr (fun t ht hW => ⟨rfl, by rw [ht]; exact hP, hS.F ht⟩) hS.2.2 dY_branch_75
      · have hu := hu.trans (if_neg h66_5)
        refine lv_aload_n (pc := 69) hx hb dY_branch_69 rfl (lv_at hl 3 rfl) ?_
        refine lv_lload (pc := 70) hx hb dY_branch_70 (lv_at hl 0 rfl) ?_
        refine va_put (D := (dC, dI)) (pc := 72) (ci := 5) (v := .long (yPc + ((4 : Int64) * (Int32.toInt64 ((yWrd <<< ((11 : Int32) &&& (31 : Int32))) >>> ((11 : Int32) &&& (31 : Int32))))))) (ty := .long) (C := "LongMachineModel") (T := TY) (N := 28) hx hb hts ui_Y tyY tyY_ok nmY hown hK hP hD hS 0 rfl rfl 2 (by decide) (hts _ gm_348) (fun _ h9 => h9) rfl (by decide +kernel) rfl rfl (Nat.le_of_ble_eq_true rfl) dY_branch_72 (fun H locs hP hD hS => ?_)
        have hP : va_P (dC, dI) vwCl (wY cI cJ qY qYm qYr qYv qYl qYn qYp qYs qYw qY6 (yPc + ((4 : Int64) * (Int32.toInt64 ((yWrd <<< ((11 : Int32) &&& (31 : Int32))) >>> ((11 : Int32) &&& (31 : Int32)))))) yMod yLev yLoc yKsp yUsp yKgp yVal yTab ySpc yHal yEnt yPen yBuf yHer yWrd yHas yTrp yNon yMem r62_2 yV yPL yPN yBP yBS yBW ySix) H := hP
        have hD : va_D A (wY cI cJ qY qYm qYr qYv qYl qYn qYp qYs qYw qY6 (yPc + ((4 : Int64) * (Int32.toInt64 ((yWrd <<< ((11 : Int32) &&& (31 : Int32))) >>> ((11 : Int32) &&& (31 : Int32)))))) yMod yLev yLoc yKsp yUsp yKgp yVal yTab ySpc yHal yEnt yPen yBuf yHer yWrd yHas yTrp yNon yMem r62_2 yV yPL yPN yBP yBS yBW ySix) := hD
        subst hu
        exact W.vret hx hb hr (fun t ht hW => ⟨rfl, by rw [ht]; exact hP, hS.F ht⟩) hS.2.2 dY_branch_75
def f_Y_due_B4 (yLev : Int32) (yPen : Int32) (yPL : (Nat → Int32)) : Nat → Int32 → Int32 → Int32
  | 0, k1_4, k2_4 => (0 : Int32)
  | n + 1, k1_4, k2_4 => (if yPen ≤ k2_4 then k1_4 else (if (yPL (Int32.toNatClampNeg k2_4)) ≤ yLev then (f_Y_due_B4 yLev yPen yPL n k1_4 (k2_4 + (1 : Int32))) else (if k1_4 < (0 : Int32) then (f_Y_due_B4 yLev yPen yPL n k2_4 (k2_4 + (1 : Int32))) else (if (yPL (Int32.toNatClampNeg k2_4)) ≤ (yPL (Int32.toNatClampNeg k1_4)) then (f_Y_due_B4 yLev yPen yPL n k1_4 (k2_4 + (1 : Int32))) else (f_Y_due_B4 yLev yPen yPL n k2_4 (k2_4 + (1 : Int32)))))))
theorem f_Y_due_B4_s (yLev : Int32) (yPen : Int32) (yPL : (Nat → Int32)) (n : Nat) (k1_4 : Int32) (k2_4 : Int32) : f_Y_due_B4 yLev yPen yPL (n + 1) k1_4 k2_4 = (if yPen ≤ k2_4 then k1_4 else (if (yPL (Int32.toNatClampNeg k2_4)) ≤ yLev then (f_Y_due_B4 yLev yPen yPL n k1_4 (k2_4 + (1 : Int32))) else (if k1_4 < (0 : Int32) then (f_Y_due_B4 yLev yPen yPL n k2_4 (k2_4 + (1 : Int32))) else (if (yPL (Int32.toNatClampNeg k2_4)) ≤ (yPL (Int32.toNatClampNeg k1_4)) then (f_Y_due_B4 yLev yPen yPL n k1_4 (k2_4 + (1 : Int32))) else (f_Y_due_B4 yLev yPen yPL n k2_4 (k2_4 + (1 : Int32))))))) := rfl
def f_Y_due (yLev : Int32) (yPen : Int32) (yPL : (Nat → Int32)) : Int32 := (f_Y_due_B4 yLev yPen yPL 5 (-1 : Int32) (0 : Int32))
set_option maxRecDepth 100000 in
set_option maxHeartbeats 4000000 in
theorem c_Y_due (l : Launch) (dC : Nat → ClassId) (dI : Nat → Nat → Nat) (cI cJ : ClassId) (qY qYm qYr qYv qYl qYn qYp qYs qYw qY6 : Nat) (yPc : Int64) (yMod : Int32) (yLev : Int32) (yLoc : Int32) (yKsp : Int64) (yUsp : Int64) (yKgp : Int64) (yVal : Int64) (yTab : Int32) (ySpc : Int32) (yHal : Int32) (yEnt : Int32) (yPen : Int32) (yBuf : Int32) (yHer : Int64) (yWrd : Int32) (yHas : Int32) (yTrp : Int32) (yNon : Int32) (yMem : (Nat → Int32)) (yR : (Nat → Int64)) (yV : (Nat → Int64)) (yPL : (Nat → Int32)) (yPN : (Nat → Int32)) (yBP : (Nat → Int32)) (yBS : (Nat → Int32)) (yBW : (Nat → Int64)) (ySix : (Nat → Int64)) (hp4 : yPen.toInt ≤ 4) : Met l yY_due (.code yY_due cY_due 3 (some .int) :: vG) ({ frames := 0, cells := 0, slots := 0, locals := 0 }) (va_Pc [.ref qY] (qa_preR (dC, dI) vwCl (wY cI cJ qY qYm qYr qYv qYl qYn qYp qYs qYw qY6 yPc yMod yLev yLoc yKsp yUsp yKgp yVal yTab ySpc yHal yEnt yPen yBuf yHer yWrd yHas yTrp yNon yMem yR yV yPL yPN yBP yBS yBW ySix) [(cI, .int), (cJ, .long)])) (qa_det (.int (f_Y_due yLev yPen yPL))) 0 0 (fun _ => False) := by
  refine Met.ofW (cc := cY_due) (maxL := 3) (ret := (some .int)) (by decide) rfl ?_
  intro p e s m args below meth c s₁ B hml hv
  obtain ⟨rfl, hP, hK⟩ := hv
  have hx := B.exec
  have hb := B.bytes
  have hr := B.returns
  have hts : ∀ w ∈ vG, w.before _ s = true := fun w h => atoms_spec (ws := (.code yY_due cY_due 3 (some .int) :: vG)) B.pre w (List.mem_cons_of_mem _ h)
  have hown : s.vm.findClass "LongMachineModel" = some m.cls := findClass_of_methodNamed B.named
  have hlocks := B.notSynchronized
  have hl := lv_entry ([.ref qY]) (n := 3) (Nat.le_of_ble_eq_true rfl)
  rw [lg_entry_eq]
  generalize (lg_sl ([.ref qY]) ++ List.replicate (3 - (lg_sl ([.ref qY])).length) Slot.unset).toArray = ls at hl ⊢
  have hl : lv_has ls 3 [(0, .ref qY)] := hl
  obtain ⟨u, hu⟩ : ∃ u, u = f_Y_due yLev yPen yPL := ⟨_, rfl⟩
  rw [← hu]
  unfold f_Y_due at hu
  refine lv_iconst (pc := 0) (v := (-1 : Int32)) hx hb dY_due_0 (by decide) ?_
  refine lv_istore_n (pc := 1) (lv' := [(1, .int (-1 : Int32)), (0, .ref qY)]) hx hb dY_due_1 rfl hl (by decide) rfl (fun ls hl => ?_)
  refine lv_iconst (pc := 2) (v := (0 : Int32)) hx hb dY_due_2 (by decide) ?_
  refine lv_istore_n (pc := 3) (lv' := [(2, .int (0 : Int32)), (1, .int (-1 : Int32)), (0, .ref qY)]) hx hb dY_due_3 rfl hl (by decide) rfl (fun ls hl => ?_)
  have hB4 : ∀ (n : Nat) (k1_4 : Int32) (k2_4 : Int32) (ls : Array Slot) (hq4_fu : ((yPen).toInt - (k2_4).toInt).toNat < n) (hq4_i0 : 0 ≤ (k2_4).toInt) (hq4_bs : (k1_4).toInt = -1 ∨ (0 ≤ (k1_4).toInt ∧ (k1_4).toInt < (yPen).toInt)) (hl : lv_has ls 3 [(0, .ref qY), (1, .int k1_4), (2, .int k2_4)]) (u : Int32) (hu : u = f_Y_due_B4 yLev yPen yPL n k1_4 k2_4), W p l e { frames := 0, cells := 0, slots := 0, locals := 0 } s m ([.ref qY]).toArray below meth c s.heap [] 0 0 (MQ below (qa_det (.int u)) ([.ref qY]).toArray s 0 0 (fun _ => False)) (F0 m 4 ls []) := by
    intro n
    induction n with
    | zero => intro k1_4 k2_4 ls hq4_fu hq4_i0 hq4_bs hl u hu; exact absurd hq4_fu (Nat.not_lt_zero _)
    | succ n ih =>
        intro k1_4 k2_4 ls hq4_fu hq4_i0 hq4_bs hl u hu
        rw [f_Y_due_B4_s] at hu
        refine lv_iload_n (pc := 4) hx hb dY_due_4 rfl (lv_at hl 2 rfl) ?_
        refine lv_aload_n (pc := 5) hx hb dY_due_5 rfl (lv_at hl 0 rfl) ?_
        refine va_get (D := (dC, dI)) (pc := 6) (ci := 5) (v := .int yPen) (C := "LongMachineModel") (T := TY) (N := 28) hx hb hts ui_Y hown hK hP 0 rfl rfl 15 (by decide) (hts _ gm_361) (fun _ h9 => h9) rfl dY_due_6 ?_
        refine lv_icmp_ge (pc := 9) (tgt := 52) hx hb dY_due_9 (by decide) (fun h9_1 => ?_) (fun h9_1 => ?_)
        · have hu := hu.trans (if_pos h9_1)
          refine lv_iload_n (pc := 52) hx hb dY_due_52 rfl (lv_at hl 1 rfl) ?_
          subst hu
          exact W.iret hx hb hr (fun t ht hW => ⟨rfl, ht⟩) (fun _ h => by cases h) dY_due_53
        · have hu := hu.trans (if_neg h9_1)
          refine lv_aload_n (pc := 12) hx hb dY_due_12 rfl (lv_at hl 0 rfl) ?_
          refine va_get (D := (dC, dI)) (pc := 13) (ci := 5) (v := .ref qYl) (C := "LongMachineModel") (T := TY) (N := 28) hx hb hts ui_Y hown hK hP 0 rfl rfl 16 (by decide) (hts _ gm_362) (fun _ h9 => h9) rfl dY_due_13 ?_
          refine lv_iload_n (pc := 16) hx hb dY_due_16 rfl (lv_at hl 2 rfl) ?_
          refine qa_iald (pc := 17) (k := (Int32.toNatClampNeg k2_4)) hx hb hK hP 4 0 rfl rfl rfl (rg_b hq4_i0 h9_1 hp4) dY_due_17 ?_
          refine lv_aload_n (pc := 18) hx hb dY_due_18 rfl (lv_at hl 0 rfl) ?_
          refine va_get (D := (dC, dI)) (pc := 19) (ci := 5) (v := .int yLev) (C := "LongMachineModel") (T := TY) (N := 28) hx hb hts ui_Y hown hK hP 0 rfl rfl 4 (by decide) (hts _ gm_350) (fun _ h9 => h9) rfl dY_due_19 ?_
          refine lv_icmp_le (pc := 22) (tgt := 46) hx hb dY_due_22 (by decide) (fun h22_2 => ?_) (fun h22_2 => ?_)
          · have hu := hu.trans (if_pos h22_2)
            refine lv_iinc (pc := 46) (k := 2) (lv' := [(2, .int (k2_4 + (1 : Int32))), (0, .ref qY), (1, .int k1_4)]) hx hb dY_due_46 hl rfl (qa_inc (by decide) k2_4) (by decide) rfl (fun ls hl => ?_)
            refine lv_goto (pc := 49) (tgt := 4) hx hb dY_due_49 (by decide) ?_
            exact ih k1_4 (k2_4 + (1 : Int32)) _ (rg_fs h9_1 hq4_fu) (rg_i0 h9_1 hq4_i0) (by first | exact hq4_bs | exact Or.inr ⟨hq4_i0, rg_lt h9_1⟩) (lv_sub hl [1, 2, 0] rfl) u hu
          · have hu := hu.trans (if_neg h22_2)
            refine lv_iload_n (pc := 25) hx hb dY_due_25 rfl (lv_at hl 1 rfl) ?_
            refine lv_if_lt (pc := 26) (tgt := 44) hx hb dY_due_26 (by decide) (fun h26_3 => ?_) (fun h26_3 => ?_)
            · have hu := hu.trans (if_pos h26_3)
              refine lv_iload_n (pc := 44) hx hb dY_due_44 rfl (lv_at hl 2 rfl) ?_
              refine lv_istore_n (pc := 45) (lv' := [(1, .int k2_4), (0, .ref qY), (2, .int k2_4)]) hx hb dY_due_45 rfl hl (by decide) rfl (fun ls hl => ?_)
              refine lv_iinc (pc := 46) (k := 2) (lv' := [(2, .int (k2_4 + (1 : Int32))), (1, .int k2_4), (0, .ref qY)]) hx hb dY_due_46 hl rfl (qa_inc (by decide) k2_4) (by decide) rfl (fun ls hl => ?_)
              refine lv_goto (pc := 49) (tgt := 4) hx hb dY_due_49 (by decide) ?_
              exact ih k2_4 (k2_4 + (1 : Int32)) _ (rg_fs h9_1 hq4_fu) (rg_i0 h9_1 hq4_i0) (by first | exact hq4_bs | exact Or.inr ⟨hq4_i0, rg_lt h9_1⟩) (lv_sub hl [2, 1, 0] rfl) u hu
            · have hu := hu.trans (if_neg h26_3)
              refine lv_aload_n (pc := 29) hx hb dY_due_29 rfl (lv_at hl 0 rfl) ?_
              refine va_get (D := (dC, dI)) (pc := 30) (ci := 5) (v := .ref qYl) (C := "LongMachineModel") (T := TY) (N := 28) hx hb hts ui_Y hown hK hP 0 rfl rfl 16 (by decide) (hts _ gm_362) (fun _ h9 => h9) rfl dY_due_30 ?_
              refine lv_iload_n (pc := 33) hx hb dY_due_33 rfl (lv_at hl 2 rfl) ?_
              refine qa_iald (pc := 34) (k := (Int32.toNatClampNeg k2_4)) hx hb hK hP 4 0 rfl rfl rfl (rg_b hq4_i0 h9_1 hp4) dY_due_34 ?_
              refine lv_aload_n (pc := 35) hx hb dY_due_35 rfl (lv_at hl 0 rfl) ?_
              refine va_get (D := (dC, dI)) (pc := 36) (ci := 5) (v := .ref qYl) (C := "LongMachineModel") (T := TY) (N := 28) hx hb hts ui_Y hown hK hP 0 rfl rfl 16 (by decide) (hts _ gm_362) (fun _ h9 => h9) rfl dY_due_36 ?_
              refine lv_iload_n (pc := 39) hx hb dY_due_39 rfl (lv_at hl 1 rfl) ?_
              refine qa_iald (pc := 40) (k := (Int32.toNatClampNeg k1_4)) hx hb hK hP 4 0 rfl rfl rfl (ry_bn h26_3 hq4_bs hp4) dY_due_40 ?_
              refine lv_icmp_le (pc := 41) (tgt := 46) hx hb dY_due_41 (by decide) (fun h41_4 => ?_) (fun h41_4 => ?_)
              · have hu := hu.trans (if_pos h41_4)
                refine lv_iinc (pc := 46) (k := 2) (lv' := [(2, .int (k2_4 + (1 : Int32))), (0, .ref qY), (1, .int k1_4)]) hx hb dY_due_46 hl rfl (qa_inc (by decide) k2_4) (by decide) rfl (fun ls hl => ?_)
                refine lv_goto (pc := 49) (tgt := 4) hx hb dY_due_49 (by decide) ?_
                exact ih k1_4 (k2_4 + (1 : Int32)) _ (rg_fs h9_1 hq4_fu) (rg_i0 h9_1 hq4_i0) (by first | exact hq4_bs | exact Or.inr ⟨hq4_i0, rg_lt h9_1⟩) (lv_sub hl [1, 2, 0] rfl) u hu
              · have hu := hu.trans (if_neg h41_4)
                refine lv_iload_n (pc := 44) hx hb dY_due_44 rfl (lv_at hl 2 rfl) ?_
                refine lv_istore_n (pc := 45) (lv' := [(1, .int k2_4), (0, .ref qY), (2, .int k2_4)]) hx hb dY_due_45 rfl hl (by decide) rfl (fun ls hl => ?_)
                refine lv_iinc (pc := 46) (k := 2) (lv' := [(2, .int (k2_4 + (1 : Int32))), (1, .int k2_4), (0, .ref qY)]) hx hb dY_due_46 hl rfl (qa_inc (by decide) k2_4) (by decide) rfl (fun ls hl => ?_)
                refine lv_goto (pc := 49) (tgt := 4) hx hb dY_due_49 (by decide) ?_
                exact ih k2_4 (k2_4 + (1 : Int32)) _ (rg_fs h9_1 hq4_fu) (rg_i0 h9_1 hq4_i0) (by first | exact hq4_bs | exact Or.inr ⟨hq4_i0, rg_lt h9_1⟩) (lv_sub hl [2, 1, 0] rfl) u hu
  exact hB4 5 (-1 : Int32) (0 : Int32) _ (rg_f0 hp4) (rg_z) (Or.inl (by decide)) (lv_sub hl [2, 1, 0] rfl) u hu
theorem ryf_due_B (yLev yPen : Int32) (yPL : Nat → Int32) : ∀ (n : Nat) (k1 k2 : Int32), (yPen.toInt - k2.toInt).toNat < n → 0 ≤ k2.toInt → (k1.toInt = -1 ∨ (0 ≤ k1.toInt ∧ k1.toInt < yPen.toInt)) → ((f_Y_due_B4 yLev yPen yPL n k1 k2).toInt = -1 ∨ (0 ≤ (f_Y_due_B4 yLev yPen yPL n k1 k2).toInt ∧ (f_Y_due_B4 yLev yPen yPL n k1 k2).toInt < yPen.toInt)) := by
  intro n
  induction n with
  | zero => intro k1 k2 h; exact absurd h (Nat.not_lt_zero _)
  | succ n ih =>
    intro k1 k2 h h0 hb
    rw [f_Y_due_B4_s]
    refine iteInduction (motive := fun u : Int32 => u.toInt = -1 ∨ (0 ≤ u.toInt ∧ u.toInt < yPen.toInt)) (fun _ => hb) (fun hc => ?_)
    have ha := ih k1 (k2 + 1) (rg_fs hc h) (rg_i0 hc h0) hb
    have hd := ih k2 (k2 + 1) (rg_fs hc h) (rg_i0 hc h0) (Or.inr ⟨h0, rg_lt hc⟩)
    refine iteInduction (motive := fun u : Int32 => u.toInt = -1 ∨ (0 ≤ u.toInt ∧ u.toInt < yPen.toInt)) (fun _ => ha) (fun _ => ?_)
    refine iteInduction (motive := fun u : Int32 => u.toInt = -1 ∨ (0 ≤ u.toInt ∧ u.toInt < yPen.toInt)) (fun _ => hd) (fun _ => ?_)
    exact iteInduction (motive := fun u : Int32 => u.toInt = -1 ∨ (0 ≤ u.toInt ∧ u.toInt < yPen.toInt)) (fun _ => ha) (fun _ => hd)
theorem ryf_due {yLev yPen : Int32} {yPL : Nat → Int32} (hp4 : yPen.toInt ≤ 4) (h : ¬ f_Y_due yLev yPen yPL < 0) : (f_Y_due yLev yPen yPL).toInt < yPen.toInt := by
  have h1 := rg_nn h
  have h2 := ryf_due_B yLev yPen yPL 5 (-1) 0 (rg_f0 hp4) rg_z (Or.inl (by decide))
  unfold f_Y_due at h1 ⊢
  omega
