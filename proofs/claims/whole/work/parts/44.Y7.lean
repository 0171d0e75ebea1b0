set_option maxRecDepth 100000 in
set_option maxHeartbeats 4000000 in
theorem c_Y_isPlace (l : Launch) (z0 : Int32) : Met l yY_isPlace (.code yY_isPlace cY_isPlace 1 (some .boolean) :: vG) ({ frames := 0, cells := 0, slots := 0, locals := 0 }) (va_Pc [.int z0] (fun _ => True)) (qa_det (.int (if z0 < (0 : Int32) then (0 : Int32) else (if (4088 : Int32) < z0 then (0 : Int32) else (if (z0 - z0 / (8 : Int32) * (8 : Int32)) = (0 : Int32) then (1 : Int32) else (0 : Int32)))))) 0 0 (fun _ => False) := by
  refine Met.ofW (cc := cY_isPlace) (maxL := 1) (ret := (some .boolean)) (by decide) rfl ?_
  intro p e s m args below meth c s₁ B hml hv
  obtain ⟨rfl, hv⟩ := hv
  have hx := B.exec
  have hb := B.bytes
  have hr := B.returns
  have hts : ∀ w ∈ vG, w.before _ s = true := fun w h => atoms_spec (ws := (.code yY_isPlace cY_isPlace 1 (some .boolean) :: vG)) B.pre w (List.mem_cons_of_mem _ h)
  have hown : s.vm.findClass "LongMachineModel" = some m.cls := findClass_of_methodNamed B.named
  have hlocks := B.notSynchronized
  have hl := lv_entry ([.int z0]) (n := 1) (Nat.le_of_ble_eq_true rfl)
  rw [lg_entry_eq]
  generalize (lg_sl ([.int z0]) ++ List.replicate (1 - (lg_sl ([.int z0])).length) Slot.unset).toArray = ls at hl ⊢
  have hl : lv_has ls 1 [(0, .int z0)] := hl
  refine lv_iload_n (pc := 0) hx hb dY_isPlace_0 rfl (lv_at hl 0 rfl) ?_
  refine qa_joini (J := 23) (ls2 := ls) (rest2 := []) (if z0 < (0 : Int32) then (0 : Int32) else (if (4088 : Int32) < z0 then (0 : Int32) else (if (z0 - z0 / (8 : Int32) * (8 : Int32)) = (0 : Int32) then (1 : Int32) else (0 : Int32)))) (fun hj23 => ?_) ?_
  · refine lv_if_lt (pc := 1) (tgt := 22) hx hb dY_isPlace_1 (by decide) (fun h1_1 => ?_) (fun h1_1 => ?_)
    · refine lv_iconst (pc := 22) (v := (0 : Int32)) hx hb dY_isPlace_22 (by decide) ?_
      exact hj23 _ (Eq.symm (if_pos h1_1))
    · refine lv_iload_n (pc := 4) hx hb dY_isPlace_4 rfl (lv_at hl 0 rfl) ?_
      refine lv_sipush (pc := 5) (v := (4088 : Int32)) hx hb dY_isPlace_5 (by decide) ?_
      refine lv_icmp_gt (pc := 8) (tgt := 22) hx hb dY_isPlace_8 (by decide) (fun h8_2 => ?_) (fun h8_2 => ?_)
      · refine lv_iconst (pc := 22) (v := (0 : Int32)) hx hb dY_isPlace_22 (by decide) ?_
        exact hj23 _ (Eq.symm (Eq.trans (if_neg h1_1) (if_pos h8_2)))
      · refine lv_iload_n (pc := 11) hx hb dY_isPlace_11 rfl (lv_at hl 0 rfl) ?_
        refine lv_bipush (pc := 12) (v := (8 : Int32)) hx hb dY_isPlace_12 (by decide) ?_
        refine lv_irem (pc := 14) hx hb dY_isPlace_14 (by decide) ?_
        refine lv_if_ne (pc := 15) (tgt := 22) hx hb dY_isPlace_15 (by decide) (fun h15_3 => ?_) (fun h15_3 => ?_)
        · refine lv_iconst (pc := 22) (v := (0 : Int32)) hx hb dY_isPlace_22 (by decide) ?_
          exact hj23 _ (Eq.symm (Eq.trans (if_neg h1_1) (Eq.trans (if_neg h8_2) (if_neg h15_3))))
        · refine lv_iconst (pc := 18) (v := (1 : Int32)) hx hb dY_isPlace_18 (by decide) ?_
          refine lv_goto (pc := 19) (tgt := 23) hx hb dY_isPlace_19 (by decide) ?_
          exact hj23 _ (Eq.symm (Eq.trans (if_neg h1_1) (Eq.trans (if_neg h8_2) (if_pos h15_3))))
  exact W.zret hx hb hr (qa_nb (qa_bi qa_b0 (qa_bi qa_b0 (qa_bi qa_b1 qa_b0)))) (fun t ht hW => ⟨rfl, ht⟩) (fun _ h => by cases h) dY_isPlace_23
def f_Y_set_K14_1  (r14_1 : (Nat → Int32)) : Int32 × (Nat → Int32) := ((1 : Int32), r14_1)
def f_Y_set (z1 : Int32) (z2 : Int64) (yMem : (Nat → Int32)) : Int32 × (Nat → Int32) := (if (if z1 < (0 : Int32) then (0 : Int32) else (if (4088 : Int32) < z1 then (0 : Int32) else (if (z1 - z1 / (8 : Int32) * (8 : Int32)) = (0 : Int32) then (1 : Int32) else (0 : Int32)))) = (0 : Int32) then ((0 : Int32), yMem) else (f_Y_set_K14_1  (f_Y_store z1 (8 : Int32) z2 yMem)))
set_option maxRecDepth 100000 in
set_option maxHeartbeats 4000000 in
theorem c_Y_set (l : Launch) (dC : Nat → ClassId) (dI : Nat → Nat → Nat) (cI cJ : ClassId) (qY qYm qYr qYv qYl qYn qYp qYs qYw qY6 : Nat) (sz : Nat) (yPc : Int64) (yMod : Int32) (yLev : Int32) (yLoc : Int32) (yKsp : Int64) (yUsp : Int64) (yKgp : Int64) (yVal : Int64) (yTab : Int32) (ySpc : Int32) (yHal : Int32) (yEnt : Int32) (yPen : Int32) (yBuf : Int32) (yHer : Int64) (yWrd : Int32) (yHas : Int32) (yTrp : Int32) (yNon : Int32) (yMem : (Nat → Int32)) (yR : (Nat → Int64)) (yV : (Nat → Int64)) (yPL : (Nat → Int32)) (yPN : (Nat → Int32)) (yBP : (Nat → Int32)) (yBS : (Nat → Int32)) (yBW : (Nat → Int64)) (ySix : (Nat → Int64)) (z1 : Int32) (z2 : Int64) : Met l yY_set (.code yY_set cY_set 4 (some .boolean) :: vG) ({ frames := 1, cells := 0, slots := 0, locals := 25 }) (va_Pc [.ref qY, .int z1, .long z2] (qa_pre (dC, dI) vwCl (wY cI cJ qY qYm qYr qYv qYl qYn qYp qYs qYw qY6 yPc yMod yLev yLoc yKsp yUsp yKgp yVal yTab ySpc yHal yEnt yPen yBuf yHer yWrd yHas yTrp yNon yMem yR yV yPL yPN yBP yBS yBW ySix) [(cI, .int), (cJ, .long)] sz)) (qa_mod (some (.int ((f_Y_set z1 z2 yMem).1))) (dC, dI) vwCl (wY cI cJ qY qYm qYr qYv qYl qYn qYp qYs qYw qY6 yPc yMod yLev yLoc yKsp yUsp yKgp yVal yTab ySpc yHal yEnt yPen yBuf yHer yWrd yHas yTrp yNon ((f_Y_set z1 z2 yMem).2) yR yV yPL yPN yBP yBS yBW ySix) (va_A (wY cI cJ qY qYm qYr qYv qYl qYn qYp qYs qYw qY6 yPc yMod yLev yLoc yKsp yUsp yKgp yVal yTab ySpc yHal yEnt yPen yBuf yHer yWrd yHas yTrp yNon yMem yR yV yPL yPN yBP yBS yBW ySix) sz)) 0 0 (va_A (wY cI cJ qY qYm qYr qYv qYl qYn qYp qYs qYw qY6 yPc yMod yLev yLoc yKsp yUsp yKgp yVal yTab ySpc yHal yEnt yPen yBuf yHer yWrd yHas yTrp yNon yMem yR yV yPL yPN yBP yBS yBW ySix) sz) := by
  refine Met.ofW (cc := cY_set) (maxL := 4) (ret := (some .boolean)) (by decide) rfl ?_
  intro p e s m args below meth c s₁ B hml hv
  obtain ⟨rfl, hsz, hP, hK, hD0⟩ := hv
  have hx := B.exec
  have hb := B.bytes
  have hr := B.returns
  have hts : ∀ w ∈ vG, w.before _ s = true := fun w h => atoms_spec (ws := (.code yY_set cY_set 4 (some .boolean) :: vG)) B.pre w (List.mem_cons_of_mem _ h)
  have hown : s.vm.findClass "LongMachineModel" = some m.cls := findClass_of_methodNamed B.named
  have hlocks := B.notSynchronized
  subst hsz
  have hD := hD0.self (sz := s.heap.size)
  generalize hAe : va_A (wY cI cJ qY qYm qYr qYv qYl qYn qYp qYs qYw qY6 yPc yMod yLev yLoc yKsp yUsp yKgp yVal yTab ySpc yHal yEnt yPen yBuf yHer yWrd yHas yTrp yNon yMem yR yV yPL yPN yBP yBS yBW ySix) s.heap.size = A at hD ⊢
  have hA : ∀ q : Nat, s.heap.size ≤ q → A q := fun q h => by rw [← hAe]; exact Or.inr h
  have hS : va_S A s.heap s.heap [] := va_S.rf
  have hl := lv_entry ([.ref qY, .int z1, .long z2]) (n := 4) (Nat.le_of_ble_eq_true rfl)
  rw [lg_entry_eq]
  generalize (lg_sl ([.ref qY, .int z1, .long z2]) ++ List.replicate (4 - (lg_sl ([.ref qY, .int z1, .long z2])).length) Slot.unset).toArray = ls at hl ⊢
  have hl : lv_has ls 4 [(0, .ref qY), (1, .int z1), (2, .long z2)] := hl
  obtain ⟨u, hu⟩ : ∃ u, u = f_Y_set z1 z2 yMem := ⟨_, rfl⟩
  rw [← hu]
  unfold f_Y_set at hu
  refine lv_iload_n (pc := 0) hx hb dY_set_0 rfl (lv_at hl 1 rfl) ?_
  refine qa_calld (pc := 1) (v := .int (if z1 < (0 : Int32) then (0 : Int32) else (if (4088 : Int32) < z1 then (0 : Int32) else (if (z1 - z1 / (8 : Int32) * (8 : Int32)) = (0 : Int32) then (1 : Int32) else (0 : Int32))))) (va_runS (As := [.int z1]) (rest := []) ⟨hx, hb, hml, hown, hts⟩ (c_Y_isPlace l z1) (va_cwS 1 hts (gd_S gm_526 gm_524 gm_525 gm_6) rfl rfl rfl (by decide +kernel) ⟨Nat.le_of_ble_eq_true rfl, Nat.le_of_ble_eq_true rfl⟩) qa_S0 rfl rfl hl.1 rfl (lv_room (Nat.le_of_ble_eq_true rfl)) dY_set_1 ⟨Nat.zero_le _, Nat.zero_le _⟩) ?_
  refine lv_if_ne (pc := 4) (tgt := 9) hx hb dY_set_4 (by decide) (fun h4_1 => ?_) (fun h4_1 => ?_)
  · have hu := hu.trans (if_neg h4_1)
    refine lv_aload_n (pc := 9) hx hb dY_set_9 rfl (lv_at hl 0 rfl) ?_
    refine lv_iload_n (pc := 10) hx hb dY_set_10 rfl (lv_at hl 1 rfl) ?_
    refine lv_bipush (pc := 11) (v := (8 : Int32)) hx hb dY_set_11 (by decide) ?_
    refine lv_lload_n (pc := 13) hx hb dY_set_13 rfl (lv_at hl 2 rfl) ?_
    have hc := c_Y_store l dC dI cI cJ qY qYm qYr qYv qYl qYn qYp qYs qYw qY6 s.heap.size yPc yMod yLev yLoc yKsp yUsp yKgp yVal yTab ySpc yHal yEnt yPen yBuf yHer yWrd yHas yTrp yNon yMem yR yV yPL yPN yBP yBS yBW ySix z1 (8 : Int32) z2 ((ry_pl h4_1).1) ((ry_pl h4_1).2) (by decide) (by decide)
    generalize er14_1 : f_Y_store z1 (8 : Int32) z2 yMem = r14_1 at hu hc
    unfold f_Y_set_K14_1 at hu
    refine qa_callv (pc := 14) (wr := []) (wf := (wY cI cJ qY qYm qYr qYv qYl qYn qYp qYs qYw qY6 yPc yMod yLev yLoc yKsp yUsp yKgp yVal yTab ySpc yHal yEnt yPen yBuf yHer yWrd yHas yTrp yNon r14_1 yR yV yPL yPN yBP yBS yBW ySix)) (va_runV (As := [.int z1, .int (8 : Int32), .long z2]) (rest := []) ⟨hx, hb, hml, hown, hts⟩ hc (cwV 3 hts (gd_V gm_447 gm_445 gm_446 gm_585 gm_6) rfl rfl rfl (by decide +kernel) ⟨Nat.le_of_ble_eq_true rfl, Nat.le_of_ble_eq_true rfl⟩) (qa_VM (q0 := 0) (q := ("LongMachineModel", TY, 28)) hK hP rfl rfl hP hD) rfl rfl hl.1 rfl (lv_room (Nat.le_of_ble_eq_true rfl)) dY_set_14 ⟨Nat.zero_le _, Nat.zero_le _⟩) hP hD hS hA [0, 1, 2, 3, 4, 5, 6, 7, 8, 9] [] [0, 1, 2, 3, 4, 5, 6, 7, 8, 9] rfl (by decide) rfl (by decide) (by decide) rfl rfl (by decide) (fun H locs hP hD hS => ?_)
    refine lv_iconst (pc := 17) (v := (1 : Int32)) hx hb dY_set_17 (by decide) ?_
    subst hu
    exact W.zret hx hb hr rfl (fun t ht hW => ⟨rfl, by rw [ht]; exact hP, hS.F ht⟩) hS.2.2 dY_set_18
  · have hu := hu.trans (if_pos h4_1)
    refine lv_iconst (pc := 7) (v := (0 : Int32)) hx hb dY_set_7 (by decide) ?_
    subst hu
    exact W.zret hx hb hr rfl (fun t ht hW => ⟨rfl, by rw [ht]; exact hP, hS.F ht⟩) hS.2.2 dY_set_8
def f_Y_put (z1 : Int32) (z2 : Int64) (yPc : Int64) (yKsp : Int64) (yR : (Nat → Int64)) : Int32 × Int64 × Int64 × (Nat → Int64) := (if z1 < (0 : Int32) then ((0 : Int32), yPc, yKsp, yR) else (if z1 ≤ (33 : Int32) then (if (31 : Int32) ≤ z1 then (if z1 = (32 : Int32) then ((1 : Int32), (z2 &&& (-4 : Int64)), yKsp, yR) else (if z1 = (33 : Int32) then ((1 : Int32), yPc, z2, yR) else ((1 : Int32), yPc, yKsp, yR))) else (if z1 = (32 : Int32) then ((1 : Int32), (z2 &&& (-4 : Int64)), yKsp, (vp_updL yR (Int32.toNatClampNeg z1) z2)) else (if z1 = (33 : Int32) then ((1 : Int32), yPc, z2, (vp_updL yR (Int32.toNatClampNeg z1) z2)) else ((1 : Int32), yPc, yKsp, (vp_updL yR (Int32.toNatClampNeg z1) z2))))) else ((0 : Int32), yPc, yKsp, yR)))
set_option maxRecDepth 100000 in
set_option maxHeartbeats 4000000 in
theorem c_Y_put (l : Launch) (dC : Nat → ClassId) (dI : Nat → Nat → Nat) (cI cJ : ClassId) (qY qYm qYr qYv qYl qYn qYp qYs qYw qY6 : Nat) (sz : Nat) (yPc : Int64) (yMod : Int32) (yLev : Int32) (yLoc : Int32) (yKsp : Int64) (yUsp : Int64) (yKgp : Int64) (yVal : Int64) (yTab : Int32) (ySpc : Int32) (yHal : Int32) (yEnt : Int32) (yPen : Int32) (yBuf : Int32) (yHer : Int64) (yWrd : Int32) (yHas : Int32) (yTrp : Int32) (yNon : Int32) (yMem : (Nat → Int32)) (yR : (Nat → Int64)) (yV : (Nat → Int64)) (yPL : (Nat → Int32)) (yPN : (Nat → Int32)) (yBP : (Nat → Int32)) (yBS : (Nat → Int32)) (yBW : (Nat → Int64)) (ySix : (Nat → Int64)) (z1 : Int32) (z2 : Int64) : Met l yY_put (.code yY_put cY_put 4 (some .boolean) :: vG) ({ frames := 0, cells := 0, slots := 0, locals := 0 }) (va_Pc [.ref qY, .int z1, .long z2] (qa_pre (dC, dI) vwCl (wY cI cJ qY qYm qYr qYv qYl qYn qYp qYs qYw qY6 yPc yMod yLev yLoc yKsp yUsp yKgp yVal yTab ySpc yHal yEnt yPen yBuf yHer yWrd yHas yTrp yNon yMem yR yV yPL yPN yBP yBS yBW ySix) [(cI, .int), (cJ, .long)] sz)) (qa_mod (some (.int ((f_Y_put z1 z2 yPc yKsp yR).1))) (dC, dI) vwCl (wY cI cJ qY qYm qYr qYv qYl qYn qYp qYs qYw qY6 ((f_Y_put z1 z2 yPc yKsp yR).2.1) yMod yLev yLoc ((f_Y_put z1 z2 yPc yKsp yR).2.2.1) yUsp yKgp yVal yTab ySpc yHal yEnt yPen yBuf yHer yWrd yHas yTrp yNon yMem ((f_Y_put z1 z2 yPc yKsp yR).2.2.2) yV yPL yPN yBP yBS yBW ySix) (va_A (wY cI cJ qY qYm qYr qYv qYl qYn qYp qYs qYw qY6 yPc yMod yLev yLoc yKsp yUsp yKgp yVal yTab ySpc yHal yEnt yPen yBuf yHer yWrd yHas yTrp yNon yMem yR yV yPL yPN yBP yBS yBW ySix) sz)) 0 0 (va_A (wY cI cJ qY qYm qYr qYv qYl qYn qYp qYs qYw qY6 yPc yMod yLev yLoc yKsp yUsp yKgp yVal yTab ySpc yHal yEnt yPen yBuf yHer yWrd yHas yTrp yNon yMem yR yV yPL yPN yBP yBS yBW ySix) sz) := by
  refine Met.ofW (cc := cY_put) (maxL := 4) (ret := (some .boolean)) (by decide) rfl ?_
  intro p e s m args below meth c s₁ B hml hv
  obtain ⟨rfl, hsz, hP, hK, hD0⟩ := hv
  have hx := B.exec
  have hb := B.bytes
  have hr := B.returns
  have hts : ∀ w ∈ vG, w.before _ s = true := fun w h => atoms_spec (ws := (.code yY_put cY_put 4 (some .boolean) :: vG)) B.pre w (List.mem_cons_of_mem _ h)
  have hown : s.vm.findClass "LongMachineModel" = some m.cls := findClass_of_methodNamed B.named
  have hlocks := B.notSynchronized
  subst hsz
  have hD := hD0.self (sz := s.heap.size)
  generalize hAe : va_A (wY cI cJ qY qYm qYr qYv qYl qYn qYp qYs qYw qY6 yPc yMod yLev yLoc yKsp yUsp yKgp yVal yTab ySpc yHal yEnt yPen yBuf yHer yWrd yHas yTrp yNon yMem yR yV yPL yPN yBP yBS yBW ySix) s.heap.size = A at hD ⊢
  have hA : ∀ q : Nat, s.heap.size ≤ q → A q := fun q h => by rw [← hAe]; exact Or.inr h
  have hS : va_S A s.heap s.heap [] := va_S.rf
  have hl := lv_entry ([.ref qY, .int z1, .long z2]) (n := 4) (Nat.le_of_ble_eq_true rfl)
  rw [lg_entry_eq]
  generalize (lg_sl ([.ref qY, .int z1, .long z2]) ++ List.replicate (4 - (lg_sl ([.ref qY, .int z1, .long z2])).length) Slot.unset).toArray = ls at hl ⊢
  have hl : lv_has ls 4 [(0, .ref qY), (1, .int z1), (2, .long z2)] := hl
  obtain ⟨u, hu⟩ : ∃ u, u = f_Y_put z1 z2 yPc yKsp yR := ⟨_, rfl⟩
  rw [← hu]
  unfold f_Y_put at hu
  refine lv_iload_n (pc := 0) hx hb dY_put_0 rfl (lv_at hl 1 rfl) ?_
  refine lv_if_lt (pc := 1) (tgt := 10) hx hb dY_put_1 (by decide) (fun h1_1 => ?_) (fun h1_1 => ?_)
  · have hu := hu.trans (if_pos h1_1)
    refine lv_iconst (pc := 10) (v := (0 : Int32)) hx hb dY_put_10 (by decide) ?_
    subst hu
    exact W.zret hx hb hr rfl (fun t ht hW => ⟨rfl, by rw [ht]; exact hP, hS.F ht⟩) hS.2.2 dY_put_11
  · have hu := hu.trans (if_neg h1_1)
    refine lv_iload_n (pc := 4) hx hb dY_put_4 rfl (lv_at hl 1 rfl) ?_
    refine lv_bipush (pc := 5) (v := (33 : Int32)) hx hb dY_put_5 (by decide) ?_
    refine lv_icmp_le (pc := 7) (tgt := 12) hx hb dY_put_7 (by decide) (fun h7_2 => ?_) (fun h7_2 => ?_)
    · have hu := hu.trans (if_pos h7_2)
      refine lv_iload_n (pc := 12) hx hb dY_put_12 rfl (lv_at hl 1 rfl) ?_
      refine lv_bipush (pc := 13) (v := (31 : Int32)) hx hb dY_put_13 (by decide) ?_
      refine lv_icmp_ge (pc := 15) (tgt := 25) hx hb dY_put_15 (by decide) (fun h15_3 => ?_) (fun h15_3 => ?_)
      · have hu := hu.trans (if_pos h15_3)
        refine lv_iload_n (pc := 25) hx hb dY_put_25 rfl (lv_at hl 1 rfl) ?_
        refine lv_bipush (pc := 26) (v := (32 : Int32)) hx hb dY_put_26 (by decide) ?_
        refine lv_icmp_ne (pc := 28) (tgt := 40) hx hb dY_put_28 (by decide) (fun h28_4 => ?_) (fun h28_4 => ?_)
        · have hu := hu.trans (if_neg h28_4)
          refine lv_iload_n (pc := 40) hx hb dY_put_40 rfl (lv_at hl 1 rfl) ?_
          refine lv_bipush (pc := 41) (v := (33 : Int32)) hx hb dY_put_41 (by decide) ?_
          refine lv_icmp_ne (pc := 43) (tgt := 51) hx hb dY_put_43 (by decide) (fun h43_5 => ?_) (fun h43_5 => ?_)
          · have hu := hu.trans (if_neg h43_5)
            refine lv_iconst (pc := 51) (v := (1 : Int32)) hx hb dY_put_51 (by decide) ?_
            subst hu
            exact W.zret hx hb hr rfl (fun t ht hW => ⟨rfl, by rw [ht]; exact hP, hS.F ht⟩) hS.2.2 dY_put_52
          · have hu := hu.trans (if_pos h43_5)
            refine lv_aload_n (pc := 46) hx hb dY_put_46 rfl (lv_at hl 0 rfl) ?_
            refine lv_lload_n (pc := 47) hx hb dY_put_47 rfl (lv_at hl 2 rfl) ?_
            refine va_put (D := (dC, dI)) (pc := 48) (ci := 5) (v := .long z2) (ty := .long) (C := "LongMachineModel") (T := TY) (N := 28) hx hb hts ui_Y tyY tyY_ok nmY hown hK hP hD hS 0 rfl rfl 6 (by decide) (hts _ gm_352) (fun _ h9 => h9) rfl (by decide +kernel) rfl rfl (Nat.le_of_ble_eq_true rfl) dY_put_48 (fun H locs hP hD hS => ?_)
            have hP : va_P (dC, dI) vwCl (wY cI cJ qY qYm qYr qYv qYl qYn qYp qYs qYw qY6 yPc yMod yLev yLoc z2 yUsp yKgp yVal yTab ySpc yHal yEnt yPen yBuf yHer yWrd yHas yTrp yNon yMem yR yV yPL yPN yBP yBS yBW ySix) H := hP
            have hD : va_D A (wY cI cJ qY qYm qYr qYv qYl qYn qYp qYs qYw qY6 yPc yMod yLev yLoc z2 yUsp yKgp yVal yTab ySpc yHal yEnt yPen yBuf yHer yWrd yHas yTrp yNon yMem yR yV yPL yPN yBP yBS yBW ySix) := hD
            refine lv_iconst (pc := 51) (v := (1 : Int32)) hx hb dY_put_51 (by decide) ?_
            subst hu
            exact W.zret hx hb hr rfl (fun t ht hW => ⟨rfl, by rw [ht]; exact hP, hS.F ht⟩) hS.2.2 dY_put_52
        · have hu := hu.trans (if_pos h28_4)
          refine lv_aload_n (pc := 31) hx hb dY_put_31 rfl (lv_at hl 0 rfl) ?_
          refine lv_lload_n (pc := 32) hx hb dY_put_32 rfl (lv_at hl 2 rfl) ?_
          refine lv_ldc2 (pc := 33) (v := (-4 : Int64)) hx hb hown (hts _ gm_467) dY_put_33 ?_
          refine lv_land (pc := 36) hx hb dY_put_36 ?_
          refine va_put (D := (dC, dI)) (pc := 37) (ci := 5) (v := .long (z2 &&& (-4 : Int64))) (ty := .long) (C := "LongMachineModel") (T := TY) (N := 28) hx hb hts ui_Y tyY tyY_ok nmY hown hK hP hD hS 0 rfl rfl 2 (by decide) (hts _ gm_348) (fun _ h9 => h9) rfl (by decide +kernel) rfl rfl (Nat.le_of_ble_eq_true rfl) dY_put_37 (fun H locs hP hD hS => ?_)
          have hP : va_P (dC, dI) vwCl (wY cI cJ qY qYm qYr qYv qYl qYn qYp qYs qYw qY6 (z2 &&& (-4 : Int64)) yMod yLev yLoc yKsp yUsp yKgp yVal yTab ySpc yHal yEnt yPen yBuf yHer yWrd yHas yTrp yNon yMem yR yV yPL yPN yBP yBS yBW ySix) H := hP
          have hD : va_D A (wY cI cJ qY qYm qYr qYv qYl qYn qYp qYs qYw qY6 (z2 &&& (-4 : Int64)) yMod yLev yLoc yKsp yUsp yKgp yVal yTab ySpc yHal yEnt yPen yBuf yHer yWrd yHas yTrp yNon yMem yR yV yPL yPN yBP yBS yBW ySix) := hD
          refine lv_iload_n (pc := 40) hx hb dY_put_40 rfl (lv_at hl 1 rfl) ?_
          refine lv_bipush (pc := 41) (v := (33 : Int32)) hx hb dY_put_41 (by decide) ?_
          refine lv_icmp_ne (pc := 43) (tgt := 51) hx hb dY_put_43 (by decide) (fun h43_6 => ?_) (fun h43_6 => absurd h43_6 (by rw [h28_4]; decide))
          refine lv_iconst (pc := 51) (v := (1 : Int32)) hx hb dY_put_51 (by decide) ?_
          subst hu
          exact W.zret hx hb hr rfl (fun t ht hW => ⟨rfl, by rw [ht]; exact hP, hS.F ht⟩) hS.2.2 dY_put_52
      · have hu := hu.trans (if_neg h15_3)
        refine lv_aload_n (pc := 18) hx hb dY_put_18 rfl (lv_at hl 0 rfl) ?_
        refine va_get (D := (dC, dI)) (pc := 19) (ci := 5) (v := .ref qYr) (C := "LongMachineModel") (T := TY) (N := 28) hx hb hts ui_Y hown hK hP 0 rfl rfl 1 (by decide) (hts _ gm_347) (fun _ h9 => h9) rfl dY_put_19 ?_
        refine lv_iload_n (pc := 22) hx hb dY_put_22 rfl (lv_at hl 1 rfl) ?_
        refine lv_lload_n (pc := 23) hx hb dY_put_23 rfl (lv_at hl 2 rfl) ?_
        refine qa_last (pc := 24) (k := (Int32.toNatClampNeg z1)) hx hb hK hP hD hS 2 1 rfl rfl rfl (rg_b (rg_nn h1_1) h15_3 (by decide)) dY_put_24 (fun H locs hP hD hS => ?_)
        have hP : va_P (dC, dI) vwCl (wY cI cJ qY qYm qYr qYv qYl qYn qYp qYs qYw qY6 yPc yMod yLev yLoc yKsp yUsp yKgp yVal yTab ySpc yHal yEnt yPen yBuf yHer yWrd yHas yTrp yNon yMem (vp_updL yR (Int32.toNatClampNeg z1) z2) yV yPL yPN yBP yBS yBW ySix) H := hP
        have hD : va_D A (wY cI cJ qY qYm qYr qYv qYl qYn qYp qYs qYw qY6 yPc yMod yLev yLoc yKsp yUsp yKgp yVal yTab ySpc yHal yEnt yPen yBuf yHer yWrd yHas yTrp yNon yMem (vp_updL yR (Int32.toNatClampNeg z1) z2) yV yPL yPN yBP yBS yBW ySix) := hD
        refine lv_iload_n (pc := 25) hx hb dY_put_25 rfl (lv_at hl 1 rfl) ?_
        refine lv_bipush (pc := 26) (v := (32 : Int32)) hx hb dY_put_26 (by decide) ?_
        refine lv_icmp_ne (pc := 28) (tgt := 40) hx hb dY_put_28 (by decide) (fun h28_7 => ?_) (fun h28_7 => ?_)
        · have hu := hu.trans (if_neg h28_7)
          refine lv_iload_n (pc := 40) hx hb dY_put_40 rfl (lv_at hl 1 rfl) ?_
          refine lv_bipush (pc := 41) (v := (33 : Int32)) hx hb dY_put_41 (by decide) ?_
          refine lv_icmp_ne (pc := 43) (tgt := 51) hx hb dY_put_43 (by decide) (fun h43_8 => ?_) (fun h43_8 => ?_)
          · have hu := hu.trans (if_neg h43_8)
            refine lv_iconst (pc := 51) (v := (1 : Int32)) hx hb dY_put_51 (by decide) ?_
            subst hu
            exact W.zret hx hb hr rfl (fun t ht hW => ⟨rfl, by rw [ht]; exact hP, hS.F ht⟩) hS.2.2 dY_put_52
          · have hu := hu.trans (if_pos h43_8)
            refine lv_aload_n (pc := 46) hx hb dY_put_46 rfl (lv_at hl 0 rfl) ?_
            refine lv_lload_n (pc := 47) hx hb dY_put_47 rfl (lv_at hl 2 rfl) ?_
            refine va_put (D := (dC, dI)) (pc := 48) (ci := 5) (v := .long z2) (ty := .long) (C := "LongMachineModel") (T := TY) (N := 28) hx hb hts ui_Y tyY tyY_ok nmY hown hK hP hD hS 0 rfl rfl 6 (by decide) (hts _ gm_352) (fun _ h9 => h9) rfl (by decide +kernel) rfl rfl (Nat.le_of_ble_eq_true rfl) dY_put_48 (fun H locs hP hD hS => ?_)
            have hP : va_P (dC, dI) vwCl (wY cI cJ qY qYm qYr qYv qYl qYn qYp qYs qYw qY6 yPc yMod yLev yLoc z2 yUsp yKgp yVal yTab ySpc yHal yEnt yPen yBuf yHer yWrd yHas yTrp yNon yMem (vp_updL yR (Int32.toNatClampNeg z1) z2) yV yPL yPN yBP yBS yBW ySix) H := hP
            have hD : va_D A (wY cI cJ qY qYm qYr qYv qYl qYn qYp qYs qYw qY6 yPc yMod yLev yLoc z2 yUsp yKgp yVal yTab ySpc yHal yEnt yPen yBuf yHer yWrd yHas yTrp yNon yMem (vp_updL yR (Int32.toNatClampNeg z1) z2) yV yPL yPN yBP yBS yBW ySix) := hD
            refine lv_iconst (pc := 51) (v := (1 : Int32)) hx hb dY_put_51 (by decide) ?_
            subst hu
            exact W.zret hx hb hr rfl (fun t ht hW => ⟨rfl, by rw [ht]; exact hP, hS.F ht⟩) hS.2.2 dY_put_52
        · have hu := hu.trans (if_pos h28_7)
          refine lv_aload_n (pc := 31) hx hb dY_put_31 rfl (lv_at hl 0 rfl) ?_
          refine lv_lload_n (pc := 32) hx hb dY_put_32 rfl (lv_at hl 2 rfl) ?_
          refine lv_ldc2 (pc := 33) (v := (-4 : Int64)) hx hb hown (hts _ gm_467) dY_put_33 ?_
          refine lv_land (pc := 36) hx hb dY_put_36 ?_
          refine va_put (D := (dC, dI)) (pc := 37) (ci := 5) (v := .long (z2 &&& (-4 : Int64))) (ty := .long) (C := "LongMachineModel") (T := TY) (N := 28) hx hb hts ui_Y tyY tyY_ok nmY hown hK hP hD hS 0 rfl rfl 2 (by decide) (hts _ gm_348) (fun _ h9 => h9) rfl (by decide +kernel) rfl rfl (Nat.le_of_ble_eq_true rfl) dY_put_37 (fun H locs hP hD hS => ?_)
          have hP : va_P (dC, dI) vwCl (wY cI cJ qY qYm qYr qYv qYl qYn qYp qYs qYw qY6 (z2 &&& (-4 : Int64)) yMod yLev yLoc yKsp yUsp yKgp yVal yTab ySpc yHal yEnt yPen yBuf yHer yWrd yHas yTrp yNon yMem (vp_updL yR (Int32.toNatClampNeg z1) z2) yV yPL yPN yBP yBS yBW ySix) H := hP
          have hD : va_D A (wY cI cJ qY qYm qYr qYv qYl qYn qYp qYs qYw qY6 (z2 &&& (-4 : Int64)) yMod yLev yLoc yKsp yUsp yKgp yVal yTab ySpc yHal yEnt yPen yBuf yHer yWrd yHas yTrp yNon yMem (vp_updL yR (Int32.toNatClampNeg z1) z2) yV yPL yPN yBP yBS yBW ySix) := hD
          refine lv_iload_n (pc := 40) hx hb dY_put_40 rfl (lv_at hl 1 rfl) ?_
          refine lv_bipush (pc := 41) (v := (33 : Int32)) hx hb dY_put_41 (by decide) ?_
          refine lv_icmp_ne (pc := 43) (tgt := 51) hx hb dY_put_43 (by decide) (fun h43_9 => ?_) (fun h43_9 => absurd h43_9 (by rw [h28_7]; decide))
          refine lv_iconst (pc := 51) (v := (1 : Int32)) hx hb dY_put_51 (by decide) ?_
          subst hu
          exact W.zret hx hb hr rfl (fun t ht hW => ⟨rfl, by rw [ht]; exact hP, hS.F ht⟩) hS.2.2 dY_put_52
    · have hu := hu.trans (if_neg h7_2)
      refine lv_iconst (pc := 10) (v := (0 : Int32)) hx hb dY_put_10 (by decide) ?_
      subst hu
      exact W.zret hx hb hr rfl (fun t ht hW => ⟨rfl, by rw [ht]; exact hP, hS.F ht⟩) hS.2.2 dY_put_11
def f_Y_interrupt (z1 : Int32) (z2 : Int32) (yPen : Int32) (yPL : (Nat → Int32)) (yPN : (Nat → Int32)) : Int32 × Int32 × (Nat → Int32) × (Nat → Int32) := (if z1 < (1 : Int32) then ((0 : Int32), yPen, yPL, yPN) else (if (7 : Int32) < z1 then ((0 : Int32), yPen, yPL, yPN) else (if z2 < (0 : Int32) then ((0 : Int32), yPen, yPL, yPN) else (if (255 : Int32) < z2 then ((0 : Int32), yPen, yPL, yPN) else (if yPen = (4 : Int32) then ((0 : Int32), yPen, yPL, yPN) else ((1 : Int32), (yPen + (1 : Int32)), (upd yPL (Int32.toNatClampNeg yPen) z1), (upd yPN (Int32.toNatClampNeg yPen) z2)))))))
set_option maxRecDepth 100000 in
set_option maxHeartbeats 4000000 in
theorem c_Y_interrupt (l : Launch) (dC : Nat → ClassId) (dI : Nat → Nat → Nat) (cI cJ : ClassId) (qY qYm qYr qYv qYl qYn qYp qYs qYw qY6 : Nat) (sz : Nat) (yPc : Int64) (yMod : Int32) (yLev : Int32) (yLoc : Int32) (yKsp : Int64) (yUsp : Int64) (yKgp : Int64) (yVal : Int64) (yTab : Int32) (ySpc : Int32) (yHal : Int32) (yEnt : Int32) (yPen : Int32) (yBuf : Int32) (yHer : Int64) (yWrd : Int32) (yHas : Int32) (yTrp : Int32) (yNon : Int32) (yMem : (Nat → Int32)) (yR : (Nat → Int64)) (yV : (Nat → Int64)) (yPL : (Nat → Int32)) (yPN : (Nat → Int32)) (yBP : (Nat → Int32)) (yBS : (Nat → Int32)) (yBW : (Nat → Int64)) (ySix : (Nat → Int64)) (z1 : Int32) (z2 : Int32) (hp0 : 0 ≤ yPen.toInt) (hp4 : yPen.toInt ≤ 4) : Met l yY_interrupt (.code yY_interrupt cY_interrupt 3 (some .boolean) :: vG) ({ frames := 0, cells := 0, slots := 0, locals := 0 }) (va_Pc [.ref qY, .int z1, .int z2] (qa_pre (dC, dI) vwCl (wY cI cJ qY qYm qYr qYv qYl qYn qYp qYs qYw qY6 yPc yMod yLev yLoc yKsp yUsp yKgp yVal yTab ySpc yHal yEnt yPen yBuf yHer yWrd yHas yTrp yNon yMem yR yV yPL yPN yBP yBS yBW ySix) [(cI, .int), (cJ, .long)] sz)) (qa_mod (some (.int ((f_Y_interrupt z1 z2 yPen yPL yPN).1))) (dC, dI) vwCl (wY cI cJ qY qYm qYr qYv qYl qYn qYp qYs qYw qY6 yPc yMod yLev yLoc yKsp yUsp yKgp yVal yTab ySpc yHal yEnt ((f_Y_interrupt z1 z2 yPen yPL yPN).2.1) yBuf yHer yWrd yHas yTrp yNon yMem yR yV ((f_Y_interrupt z1 z2 yPen yPL yPN).2.2.1) ((f_Y_interrupt z1 z2 yPen yPL yPN).2.2.2) yBP yBS yBW ySix) (va_A (wY cI cJ qY qYm qYr qYv qYl qYn qYp qYs qYw qY6 yPc yMod yLev yLoc yKsp yUsp yKgp yVal yTab ySpc yHal yEnt yPen yBuf yHer yWrd yHas yTrp yNon yMem yR yV yPL yPN yBP yBS yBW ySix) sz)) 0 0 (va_A (wY cI cJ qY qYm qYr qYv qYl qYn qYp qYs qYw qY6 yPc yMod yLev yLoc yKsp yUsp yKgp yVal yTab ySpc yHal yEnt yPen yBuf yHer yWrd yHas yTrp yNon yMem yR yV yPL yPN yBP yBS yBW ySix) sz) := by
  refine Met.ofW (cc := cY_interrupt) (maxL := 3) (ret := (some .boolean)) (by decide) rfl ?_
  intro p e s m args below meth c s₁ B hml hv
  obtain ⟨rfl, hsz, hP, hK, hD0⟩ := hv
  have hx := B.exec
  have hb := B.bytes
  have hr := B.returns
  have hts : ∀ w ∈ vG, w.before _ s = true := fun w h => atoms_spec (ws := (.code yY_interrupt cY_interrupt 3 (some .boolean) :: vG)) B.pre w (List.mem_cons_of_mem _ h)
  have hown : s.vm.findClass "LongMachineModel" = some m.cls := findClass_of_methodNamed B.named
  have hlocks := B.notSynchronized
  subst hsz
  have hD := hD0.self (sz := s.heap.size)
  generalize hAe : va_A (wY cI cJ qY qYm qYr qYv qYl qYn qYp qYs qYw qY6 yPc yMod yLev yLoc yKsp yUsp yKgp yVal yTab ySpc yHal yEnt yPen yBuf yHer yWrd yHas yTrp yNon yMem yR yV yPL yPN yBP yBS yBW ySix) s.heap.size = A at hD ⊢
  have hA : ∀ q : Nat, s.heap.size ≤ q → A q := fun q h => by rw [← hAe]; exact Or.inr h
  have hS : va_S A s.heap s.heap [] := va_S.rf
  have hl := lv_entry ([.ref qY, .int z1, .int z2]) (n := 3) (Nat.le_of_ble_eq_true rfl)
  rw [lg_entry_eq]
  generalize (lg_sl ([.ref qY, .int z1, .int z2]) ++ List.replicate (3 - (lg_sl ([.ref qY, .int z1, .int z2])).length) Slot.unset).toArray = ls at hl ⊢
  have hl : lv_has ls 3 [(0, .ref qY), (1, .int z1), (2, .int z2)] := hl
  obtain ⟨u, hu⟩ : ∃ u, u = f_Y_interrupt z1 z2 yPen yPL yPN := ⟨_, rfl⟩
  rw [← hu]
  unfold f_Y_interrupt at hu
  refine lv_iload_n (pc := 0) hx hb dY_interrupt_0 rfl (lv_at hl 1 rfl) ?_
  refine lv_iconst (pc := 1) (v := (1 : Int32)) hx hb dY_interrupt_1 (by decide) ?_
  refine lv_icmp_lt (pc := 2) (tgt := 30) hx hb dY_interrupt_2 (by decide) (fun h2_1 => ?_) (fun h2_1 => ?_)
  · have hu := hu.trans (if_pos h2_1)
    refine lv_iconst (pc := 30) (v := (0 : Int32)) hx hb dY_interrupt_30 (by decide) ?_
    subst hu
    exact W.zret hx hb hr rfl (fun t ht hW => ⟨rfl, by rw [ht]; exact hP, hS.F ht⟩) hS.2.2 dY_interrupt_31
  · have hu := hu.trans (if_neg h2_1)
    refine lv_iload_n (pc := 5) hx hb dY_interrupt_5 rfl (lv_at hl 1 rfl) ?_
    refine lv_bipush (pc := 6) (v := (7 : Int32)) hx hb dY_interrupt_6 (by decide) ?_
    refine lv_icmp_gt (pc := 8) (tgt := 30) hx hb dY_interrupt_8 (by decide) (fun h8_2 => ?_) (fun h8_2 => ?_)
    · have hu := hu.trans (if_pos h8_2)
      refine lv_iconst (pc := 30) (v := (0 : Int32)) hx hb dY_interrupt_30 (by decide) ?_
      subst hu
      exact W.zret hx hb hr rfl (fun t ht hW => ⟨rfl, by rw [ht]; exact hP, hS.F ht⟩) hS.2.2 dY_interrupt_31
    · have hu := hu.trans (if_neg h8_2)
      refine lv_iload_n (pc := 11) hx hb dY_interrupt_11 rfl (lv_at hl 2 rfl) ?_
      refine lv_if_lt (pc := 12) (tgt := 30) hx hb dY_interrupt_12 (by decide) (fun h12_3 => ?_) (fun h12_3 => ?_)
      · have hu := hu.trans (if_pos h12_3)
        refine lv_iconst (pc := 30) (v := (0 : Int32)) hx hb dY_interrupt_30 (by decide) ?_
        subst hu
        exact W.zret hx hb hr rfl (fun t ht hW => ⟨rfl, by rw [ht]; exact hP, hS.F ht⟩) hS.2.2 dY_interrupt_31
      · have hu := hu.trans (if_neg h12_3)
        refine lv_iload_n (pc := 15) hx hb dY_interrupt_15 rfl (lv_at hl 2 rfl) ?_
        refine lv_sipush (pc := 16) (v := (255 : Int32)) hx hb dY_interrupt_16 (by decide) ?_
        refine lv_icmp_gt (pc := 19) (tgt := 30) hx hb dY_interrupt_19 (by decide) (fun h19_4 => ?_) (fun h19_4 => ?_)
        · have hu := hu.trans (if_pos h19_4)
          refine lv_iconst (pc := 30) (v := (0 : Int32)) hx hb dY_interrupt_30 (by decide) ?_
          subst hu
          exact W.zret hx hb hr rfl (fun t ht hW => ⟨rfl, by rw [ht]; exact hP, hS.F ht⟩) hS.2.2 dY_interrupt_31
        · have hu := hu.trans (if_neg h19_4)
          refine lv_aload_n (pc := 22) hx hb dY_interrupt_22 rfl (lv_at hl 0 rfl) ?_
          refine va_get (D := (dC, dI)) (pc := 23) (ci := 5) (v := .int yPen) (C := "LongMachineModel") (T := TY) (N := 28) hx hb hts ui_Y hown hK hP 0 rfl rfl 15 (by decide) (hts _ gm_361) (fun _ h9 => h9) rfl dY_interrupt_23 ?_
          refine lv_iconst (pc := 26) (v := (4 : Int32)) hx hb dY_interrupt_26 (by decide) ?_
          refine lv_icmp_ne (pc := 27) (tgt := 32) hx hb dY_interrupt_27 (by decide) (fun h27_5 => ?_) (fun h27_5 => ?_)
          · have hu := hu.trans (if_neg h27_5)
            refine lv_aload_n (pc := 32) hx hb dY_interrupt_32 rfl (lv_at hl 0 rfl) ?_
            refine va_get (D := (dC, dI)) (pc := 33) (ci := 5) (v := .ref qYl) (C := "LongMachineModel") (T := TY) (N := 28) hx hb hts ui_Y hown hK hP 0 rfl rfl 16 (by decide) (hts _ gm_362) (fun _ h9 => h9) rfl dY_interrupt_33 ?_
            refine lv_aload_n (pc := 36) hx hb dY_interrupt_36 rfl (lv_at hl 0 rfl) ?_
            refine va_get (D := (dC, dI)) (pc := 37) (ci := 5) (v := .int yPen) (C := "LongMachineModel") (T := TY) (N := 28) hx hb hts ui_Y hown hK hP 0 rfl rfl 15 (by decide) (hts _ gm_361) (fun _ h9 => h9) rfl dY_interrupt_37 ?_
            refine lv_iload_n (pc := 40) hx hb dY_interrupt_40 rfl (lv_at hl 1 rfl) ?_
            refine qa_iast (pc := 41) (k := (Int32.toNatClampNeg yPen)) hx hb hK hP hD hS 4 0 rfl rfl rfl (ry_ne4 hp0 hp4 h27_5) dY_interrupt_41 (fun H locs hP hD hS => ?_)
            have hP : va_P (dC, dI) vwCl (wY cI cJ qY qYm qYr qYv qYl qYn qYp qYs qYw qY6 yPc yMod yLev yLoc yKsp yUsp yKgp yVal yTab ySpc yHal yEnt yPen yBuf yHer yWrd yHas yTrp yNon yMem yR yV (upd yPL (Int32.toNatClampNeg yPen) z1) yPN yBP yBS yBW ySix) H := hP
            have hD : va_D A (wY cI cJ qY qYm qYr qYv qYl qYn qYp qYs qYw qY6 yPc yMod yLev yLoc yKsp yUsp yKgp yVal yTab ySpc yHal yEnt yPen yBuf yHer yWrd yHas yTrp yNon yMem yR yV (upd yPL (Int32.toNatClampNeg yPen) z1) yPN yBP yBS yBW ySix) := hD
            refine lv_aload_n (pc := 42) hx hb dY_interrupt_42 rfl (lv_at hl 0 rfl) ?_
            refine va_get (D := (dC, dI)) (pc := 43) (ci := 5) (v := .ref qYn) (C := "LongMachineModel") (T := TY) (N := 28) hx hb hts ui_Y hown hK hP 0 rfl rfl 17 (by decide) (hts _ gm_363) (fun _ h9 => h9) rfl dY_interrupt_43 ?_
            refine lv_aload_n (pc := 46) hx hb dY_interrupt_46 rfl (lv_at hl 0 rfl) ?_
            refine va_get (D := (dC, dI)) (pc := 47) (ci := 5) (v := .int yPen) (C := "LongMachineModel") (T := TY) (N := 28) hx hb hts ui_Y hown hK hP 0 rfl rfl 15 (by decide) (hts _ gm_361) (fun _ h9 => h9) rfl dY_interrupt_47 ?_
            refine lv_iload_n (pc := 50) hx hb dY_interrupt_50 rfl (lv_at hl 2 rfl) ?_
            refine qa_iast (pc := 51) (k := (Int32.toNatClampNeg yPen)) hx hb hK hP hD hS 5 0 rfl rfl rfl (ry_ne4 hp0 hp4 h27_5) dY_interrupt_51 (fun H locs hP hD hS => ?_)
            have hP : va_P (dC, dI) vwCl (wY cI cJ qY qYm qYr qYv qYl qYn qYp qYs qYw qY6 yPc yMod yLev yLoc yKsp yUsp yKgp yVal yTab ySpc yHal yEnt yPen yBuf yHer yWrd yHas yTrp yNon yMem yR yV (upd yPL (Int32.toNatClampNeg yPen) z1) (upd yPN (Int32.toNatClampNeg yPen) z2) yBP yBS yBW ySix) H := hP
            have hD : va_D A (wY cI cJ qY qYm qYr qYv qYl qYn qYp qYs qYw qY6 yPc yMod yLev yLoc yKsp yUsp yKgp yVal yTab ySpc yHal yEnt yPen yBuf yHer yWrd yHas yTrp yNon yMem yR yV (upd yPL (Int32.toNatClampNeg yPen) z1) (upd yPN (Int32.toNatClampNeg yPen) z2) yBP yBS yBW ySix) := hD
            refine lv_aload_n (pc := 52) hx hb dY_interrupt_52 rfl (lv_at hl 0 rfl) ?_
            refine lv_dup (pc := 53) hx hb dY_interrupt_53 rfl ?_
            refine va_get (D := (dC, dI)) (pc := 54) (ci := 5) (v := .int yPen) (C := "LongMachineModel") (T := TY) (N := 28) hx hb hts ui_Y hown hK hP 0 rfl rfl 15 (by decide) (hts _ gm_361) (fun _ h9 => h9) rfl dY_interrupt_54 ?_
            refine lv_iconst (pc := 57) (v := (1 : Int32)) hx hb dY_interrupt_57 (by decide) ?_
            refine lv_iadd (pc := 58) hx hb dY_interrupt_58 ?_
            refine va_put (D := (dC, dI)) (pc := 59) (ci := 5) (v := .int (yPen + (1 : Int32))) (ty := .int) (C := "LongMachineModel") (T := TY) (N := 28) hx hb hts ui_Y tyY tyY_ok nmY hown hK hP hD hS 0 rfl rfl 15 (by decide) (hts _ gm_361) (fun _ h9 => h9) rfl (by decide +kernel) rfl rfl (Nat.le_of_ble_eq_true rfl) dY_interrupt_59 (fun H locs hP hD hS => ?_)
            have hP : va_P (dC, dI) vwCl (wY cI cJ qY qYm qYr qYv qYl qYn qYp qYs qYw qY6 yPc yMod yLev yLoc yKsp yUsp yKgp yVal yTab ySpc yHal yEnt (yPen + (1 : Int32)) yBuf yHer yWrd yHas yTrp yNon yMem yR yV (upd yPL (Int32.toNatClampNeg yPen) z1) (upd yPN (Int32.toNatClampNeg yPen) z2) yBP yBS yBW ySix) H := hP
            have hD : va_D A (wY cI cJ qY qYm qYr qYv qYl qYn qYp qYs qYw qY6 yPc yMod yLev yLoc yKsp yUsp yKgp yVal yTab ySpc yHal yEnt (yPen + (1 : Int32)) yBuf yHer yWrd yHas yTrp yNon yMem yR yV (upd yPL (Int32.toNatClampNeg yPen) z1) (upd yPN (Int32.toNatClampNeg yPen) z2) yBP yBS yBW ySix) := hD
            refine lv_iconst (pc := 62) (v := (1 : Int32)) hx hb dY_interrupt_62 (by decide) ?_
            subst hu
            exact W.zret hx hb hr rfl (fun t ht hW => ⟨rfl, by rw [ht]; exact hP, hS.F ht⟩) hS.2.2 dY_interrupt_63
          · have hu := hu.trans (if_pos h27_5)
            refine lv_iconst (pc := 30) (v := (0 : Int32)) hx hb dY_interrupt_30 (by decide) ?_
            subst hu
            exact W.zret hx hb hr rfl (fun t ht hW => ⟨rfl, by rw [ht]; exact hP, hS.F ht⟩) hS.2.2 dY_interrupt_31
def f_Y_register (z1 : Int32) (yPc : Int64) (yKsp : Int64) (yUsp : Int64) (yKgp : Int64) (yVal : Int64) (yTab : Int32) (ySpc : Int32) (yR : (Nat → Int64)) (yV : (Nat → Int64)) : Int64 := (if z1 < (0 : Int32) then (if z1 < (40 : Int32) then (if z1 = (32 : Int32) then yPc else (if z1 = (33 : Int32) then yKsp else (if z1 = (34 : Int32) then yUsp else (if z1 = (35 : Int32) then yKgp else (if z1 = (36 : Int32) then yVal else (if z1 = (37 : Int32) then (Int32.toInt64 yTab) else (if z1 = (38 : Int32) then (Int32.toInt64 ySpc) else (-1 : Int64)))))))) else (if (46 : Int32) ≤ z1 then (if z1 = (32 : Int32) then yPc else (if z1 = (33 : Int32) then yKsp else (if z1 = (34 : Int32) then yUsp else (if z1 = (35 : Int32) then yKgp else (if z1 = (36 : Int32) then yVal else (if z1 = (37 : Int32) then (Int32.toInt64 yTab) else (if z1 = (38 : Int32) then (Int32.toInt64 ySpc) else (-1 : Int64)))))))) else (yV (Int32.toNatClampNeg (z1 - (40 : Int32)))))) else (if (32 : Int32) ≤ z1 then (if z1 < (40 : Int32) then (if z1 = (32 : Int32) then yPc else (if z1 = (33 : Int32) then yKsp else (if z1 = (34 : Int32) then yUsp else (if z1 = (35 : Int32) then yKgp else (if z1 = (36 : Int32) then yVal else (if z1 = (37 : Int32) then (Int32.toInt64 yTab) else (if z1 = (38 : Int32) then (Int32.toInt64 ySpc) else (-1 : Int64)))))))) else (if (46 : Int32) ≤ z1 then (if z1 = (32 : Int32) then yPc else (if z1 = (33 : Int32) then yKsp else (if z1 = (34 : Int32) then yUsp else (if z1 = (35 : Int32) then yKgp else (if z1 = (36 : Int32) then yVal else (if z1 = (37 : Int32) then (Int32.toInt64 yTab) else (if z1 = (38 : Int32) then (Int32.toInt64 ySpc) else (-1 : Int64)))))))) else (yV (Int32.toNatClampNeg (z1 - (40 : Int32)))))) else (yR (Int32.toNatClampNeg z1))))
set_option maxRecDepth 100000 in
set_option maxHeartbeats 4000000 in
theorem c_Y_register (l : Launch) (dC : Nat → ClassId) (dI : Nat → Nat → Nat) (cI cJ : ClassId) (qY qYm qYr qYv qYl qYn qYp qYs qYw qY6 : Nat) (yPc : Int64) (yMod : Int32) (yLev : Int32) (yLoc : Int32) (yKsp : Int64) (yUsp : Int64) (yKgp : Int64) (yVal : Int64) (yTab : Int32) (ySpc : Int32) (yHal : Int32) (yEnt : Int32) (yPen : Int32) (yBuf : Int32) (yHer : Int64) (yWrd : Int32) (yHas : Int32) (yTrp : Int32) (yNon : Int32) (yMem : (Nat → Int32)) (yR : (Nat → Int64)) (yV : (Nat → Int64)) (yPL : (Nat → Int32)) (yPN : (Nat → Int32)) (yBP : (Nat → Int32)) (yBS : (Nat → Int32)) (yBW : (Nat → Int64)) (ySix : (Nat → Int64)) (z1 : Int32) : Met l yY_register (.code yY_register cY_register 2 (some .long) :: vG) ({ frames := 0, cells := 0, slots := 0, locals := 0 }) (va_Pc [.ref qY, .int z1] (qa_preR (dC, dI) vwCl (wY cI cJ qY qYm qYr qYv qYl qYn qYp qYs qYw qY6 yPc yMod yLev yLoc yKsp yUsp yKgp yVal yTab ySpc yHal yEnt yPen yBuf yHer yWrd yHas yTrp yNon yMem yR yV yPL yPN yBP yBS yBW ySix) [(cI, .int), (cJ, .long)])) (qa_det (.long (f_Y_register z1 yPc yKsp yUsp yKgp yVal yTab ySpc yR yV))) 0 0 (fun _ => False) := by
  refine Met.ofW (cc := cY_register) (maxL := 2) (ret := (some .long)) (by decide) rfl ?_
  intro p e s m args below meth c s₁ B hml hv
  obtain ⟨rfl, hP, hK⟩ := hv
  have hx := B.exec
  have hb := B.bytes
  have hr := B.returns
  have hts : ∀ w ∈ vG, w.before _ s = true := fun w h => atoms_spec (ws := (.code yY_register cY_register 2 (some .long) :: vG)) B.pre w (List.mem_cons_of_mem _ h)
  have hown : s.vm.findClass "LongMachineModel" = some m.cls := findClass_of_methodNamed B.named
  have hlocks := B.notSynchronized
  have hl := lv_entry ([.ref qY, .int z1]) (n := 2) (Nat.le_of_ble_eq_true rfl)
  rw [lg_entry_eq]
  generalize (lg_sl ([.ref qY, .int z1]) ++ List.replicate (2 - (lg_sl ([.ref qY, .int z1])).length) Slot.unset).toArray = ls at hl ⊢
  have hl : lv_has ls 2 [(0, .ref qY), (1, .int z1)] := hl
  obtain ⟨u, hu⟩ : ∃ u, u = f_Y_register z1 yPc yKsp yUsp yKgp yVal yTab ySpc yR yV := ⟨_, rfl⟩
  rw [← hu]
  unfold f_Y_register at hu
  refine lv_iload_n (pc := 0) hx hb dY_register_0 rfl (lv_at hl 1 rfl) ?_
  refine lv_if_lt (pc := 1) (tgt := 17) hx hb dY_register_1 (by decide) (fun h1_1 => ?_) (fun h1_1 => ?_)
  · have hu := hu.trans (if_pos h1_1)
    refine lv_iload_n (pc := 17) hx hb dY_register_17 rfl (lv_at hl 1 rfl) ?_
    refine lv_bipush (pc := 18) (v := (40 : Int32)) hx hb dY_register_18 (by decide) ?_
    refine lv_icmp_lt (pc := 20) (tgt := 39) hx hb dY_register_20 (by decide) (fun h20_2 => ?_) (fun h20_2 => ?_)
    · have hu := hu.trans (if_pos h20_2)
      refine lv_iload_n (pc := 39) hx hb dY_register_39 rfl (lv_at hl 1 rfl) ?_
      rcases Decidable.em (z1 = (32 : Int32)) with h40_3 | h40_3
      · have hu := hu.trans (if_pos h40_3)
        refine qa_table (pc := 40) (tgt := 84) (off := 44) hx hb dY_register_40 (Or.inr (by rw [h40_3]; decide)) (by decide) ?_
        refine lv_aload_n (pc := 84) hx hb dY_register_84 rfl (lv_at hl 0 rfl) ?_
        refine va_get (D := (dC, dI)) (pc := 85) (ci := 5) (v := .long yPc) (C := "LongMachineModel") (T := TY) (N := 28) hx hb hts ui_Y hown hK hP 0 rfl rfl 2 (by decide) (hts _ gm_348) (fun _ h9 => h9) rfl dY_register_85 ?_
        subst hu
        exact W.lret hx hb hr (fun t ht hW => ⟨rfl, ht⟩) (fun _ h => by cases h) dY_register_88
      · have hu := hu.trans (if_neg h40_3)
        have n40_0 : ¬ z1 = (32 : Int32) := h40_3
        rcases Decidable.em (z1 = (33 : Int32)) with h40_4 | h40_4
        · have hu := hu.trans (if_pos h40_4)
          refine qa_table (pc := 40) (tgt := 89) (off := 49) hx hb dY_register_40 (Or.inr (by rw [h40_4]; decide)) (by decide) ?_
          refine lv_aload_n (pc := 89) hx hb dY_register_89 rfl (lv_at hl 0 rfl) ?_
          refine va_get (D := (dC, dI)) (pc := 90) (ci := 5) (v := .long yKsp) (C := "LongMachineModel") (T := TY) (N := 28) hx hb hts ui_Y hown hK hP 0 rfl rfl 6 (by decide) (hts _ gm_352) (fun _ h9 => h9) rfl dY_register_90 ?_
          subst hu
          exact W.lret hx hb hr (fun t ht hW => ⟨rfl, ht⟩) (fun _ h => by cases h) dY_register_93
        · have hu := hu.trans (if_neg h40_4)
          have n40_1 : ¬ z1 = (33 : Int32) := h40_4
          rcases Decidable.em (z1 = (34 : Int32)) with h40_5 | h40_5
          · have hu := hu.trans (if_pos h40_5)
            refine qa_table (pc := 40) (tgt := 94) (off := 54) hx hb dY_register_40 (Or.inr (by rw [h40_5]; decide)) (by decide) ?_
            refine lv_aload_n (pc := 94) hx hb dY_register_94 rfl (lv_at hl 0 rfl) ?_
            refine va_get (D := (dC, dI)) (pc := 95) (ci := 5) (v := .long yUsp) (C := "LongMachineModel") (T := TY) (N := 28) hx hb hts ui_Y hown hK hP 0 rfl rfl 7 (by decide) (hts _ gm_353) (fun _ h9 => h9) rfl dY_register_95 ?_
            subst hu
            exact W.lret hx hb hr (fun t ht hW => ⟨rfl, ht⟩) (fun _ h => by cases h) dY_register_98
          · have hu := hu.trans (if_neg h40_5)
            have n40_2 : ¬ z1 = (34 : Int32) := h40_5
            rcases Decidable.em (z1 = (35 : Int32)) with h40_6 | h40_6
            · have hu := hu.trans (if_pos h40_6)
              refine qa_table (pc := 40) (tgt := 99) (off := 59) hx hb dY_register_40 (Or.inr (by rw [h40_6]; decide)) (by decide) ?_
              refine lv_aload_n (pc := 99) hx hb dY_register_99 rfl (lv_at hl 0 rfl) ?_
              refine va_get (D := (dC, dI)) (pc := 100) (ci := 5) (v := .long yKgp) (C := "LongMachineModel") (T := TY) (N := 28) hx hb hts ui_Y hown hK hP 0 rfl rfl 8 (by decide) (hts _ gm_354) (fun _ h9 => h9) rfl dY_register_100 ?_
              subst hu
              exact W.lret hx hb hr (fun t ht hW => ⟨rfl, ht⟩) (fun _ h => by cases h) dY_register_103
            · have hu := hu.trans (if_neg h40_6)
              have n40_3 : ¬ z1 = (35 : Int32) := h40_6
              rcases Decidable.em (z1 = (36 : Int32)) with h40_7 | h40_7
              · have hu := hu.trans (if_pos h40_7)
                refine qa_table (pc := 40) (tgt := 104) (off := 64) hx hb dY_register_40 (Or.inr (by rw [h40_7]; decide)) (by decide) ?_
                refine lv_aload_n (pc := 104) hx hb dY_register_104 rfl (lv_at hl 0 rfl) ?_
                refine va_get (D := (dC, dI)) (pc := 105) (ci := 5) (v := .long yVal) (C := "LongMachineModel") (T := TY) (N := 28) hx hb hts ui_Y hown hK hP 0 rfl rfl 9 (by decide) (hts _ gm_355) (fun _ h9 => h9) rfl dY_register_105 ?_
                subst hu
                exact W.lret hx hb hr (fun t ht hW => ⟨rfl, ht⟩) (fun _ h => by cases h) dY_register_108
              · have hu := hu.trans (if_neg h40_7)
                have n40_4 : ¬ z1 = (36 : Int32) := h40_7
                rcases Decidable.em (z1 = (37 : Int32)) with h40_8 | h40_8
                · have hu := hu.trans (if_pos h40_8)
                  refine qa_table (pc := 40) (tgt := 109) (off := 69) hx hb dY_register_40 (Or.inr (by rw [h40_8]; decide)) (by decide) ?_
                  refine lv_aload_n (pc := 109) hx hb dY_register_109 rfl (lv_at hl 0 rfl) ?_
                  refine va_get (D := (dC, dI)) (pc := 110) (ci := 5) (v := .int yTab) (C := "LongMachineModel") (T := TY) (N := 28) hx hb hts ui_Y hown hK hP 0 rfl rfl 10 (by decide) (hts _ gm_356) (fun _ h9 => h9) rfl dY_register_110 ?_
                  refine lv_i2l (pc := 113) (v := (Int32.toInt64 yTab)) hx hb dY_register_113 rfl ?_
                  subst hu
                  exact W.lret hx hb hr (fun t ht hW => ⟨rfl, ht⟩) (fun _ h => by cases h) dY_register_114
                · have hu := hu.trans (if_neg h40_8)
                  have n40_5 : ¬ z1 = (37 : Int32) := h40_8
                  rcases Decidable.em (z1 = (38 : Int32)) with h40_9 | h40_9
                  · have hu := hu.trans (if_pos h40_9)
                    refine qa_table (pc := 40) (tgt := 115) (off := 75) hx hb dY_register_40 (Or.inr (by rw [h40_9]; decide)) (by decide) ?_
                    refine lv_aload_n (pc := 115) hx hb dY_register_115 rfl (lv_at hl 0 rfl) ?_
                    refine va_get (D := (dC, dI)) (pc := 116) (ci := 5) (v := .int ySpc) (C := "LongMachineModel") (T := TY) (N := 28) hx hb hts ui_Y hown hK hP 0 rfl rfl 11 (by decide) (hts _ gm_357) (fun _ h9 => h9) rfl dY_register_116 ?_
                    refine lv_i2l (pc := 119) (v := (Int32.toInt64 ySpc)) hx hb dY_register_119 rfl ?_
                    subst hu
                    exact W.lret hx hb hr (fun t ht hW => ⟨rfl, ht⟩) (fun _ h => by cases h) dY_register_120
                  · have hu := hu.trans (if_neg h40_9)
                    have n40_6 : ¬ z1 = (38 : Int32) := h40_9
                    refine qa_table (pc := 40) (tgt := 121) (off := 81) hx hb dY_register_40 (Or.inl ⟨by have := lv_neT n40_0 (by decide : ((32 : Int32)).toInt = 32); have := lv_neT n40_1 (by decide : ((33 : Int32)).toInt = 33); have := lv_neT n40_2 (by decide : ((34 : Int32)).toInt = 34); have := lv_neT n40_3 (by decide : ((35 : Int32)).toInt = 35); have := lv_neT n40_4 (by decide : ((36 : Int32)).toInt = 36); have := lv_neT n40_5 (by decide : ((37 : Int32)).toInt = 37); have := lv_neT n40_6 (by decide : ((38 : Int32)).toInt = 38); omega, rfl⟩) (by decide) ?_
                    refine lv_ldc2 (pc := 121) (v := (-1 : Int64)) hx hb hown (hts _ gm_488) dY_register_121 ?_
                    subst hu
                    exact W.lret hx hb hr (fun t ht hW => ⟨rfl, ht⟩) (fun _ h => by cases h) dY_register_124
    · have hu := hu.trans (if_neg h20_2)
      refine lv_iload_n (pc := 23) hx hb dY_register_23 rfl (lv_at hl 1 rfl) ?_
      refine lv_bipush (pc := 24) (v := (46 : Int32)) hx hb dY_register_24 (by decide) ?_
      refine lv_icmp_ge (pc := 26) (tgt := 39) hx hb dY_register_26 (by decide) (fun h26_10 => ?_) (fun h26_10 => ?_)
      · have hu := hu.trans (if_pos h26_10)
        refine lv_iload_n (pc := 39) hx hb dY_register_39 rfl (lv_at hl 1 rfl) ?_
        rcases Decidable.em (z1 = (32 : Int32)) with h40_11 | h40_11
        · have hu := hu.trans (if_pos h40_11)
          refine qa_table (pc := 40) (tgt := 84) (off := 44) hx hb dY_register_40 (Or.inr (by rw [h40_11]; decide)) (by decide) ?_
          refine lv_aload_n (pc := 84) hx hb dY_register_84 rfl (lv_at hl 0 rfl) ?_
          refine va_get (D := (dC, dI)) (pc := 85) (ci := 5) (v := .long yPc) (C := "LongMachineModel") (T := TY) (N := 28) hx hb hts ui_Y hown hK hP 0 rfl rfl 2 (by decide) (hts _ gm_348) (fun _ h9 => h9) rfl dY_register_85 ?_
          subst hu
          exact W.lret hx hb hr (fun t ht hW => ⟨rfl, ht⟩) (fun _ h => by cases h) dY_register_88
        · have hu := hu.trans (if_neg h40_11)
          have n40_0 : ¬ z1 = (32 : Int32) := h40_11
          rcases Decidable.em (z1 = (33 : Int32)) with h40_12 | h40_12
          · have hu := hu.trans (if_pos h40_12)
            refine qa_table (pc := 40) (tgt := 89) (off := 49) hx hb dY_register_40 (Or.inr (by rw [h40_12]; decide)) (by decide) ?_
            refine lv_aload_n (pc := 89) hx hb dY_register_89 rfl (lv_at hl 0 rfl) ?_
            refine va_get (D := (dC, dI)) (pc := 90) (ci := 5) (v := .long yKsp) (C := "LongMachineModel") (T := TY) (N := 28) hx hb hts ui_Y hown hK hP 0 rfl rfl 6 (by decide) (hts _ gm_352) (fun _ h9 => h9) rfl dY_register_90 ?_
            subst hu
            exact W.lret hx hb hr (fun t ht hW => ⟨rfl, ht⟩) (fun _ h => by cases h) dY_register_93
          · have hu := hu.trans (if_neg h40_12)
            have n40_1 : ¬ z1 = (33 : Int32) := h40_12
            rcases Decidable.em (z1 = (34 : Int32)) with h40_13 | h40_13
            · have hu := hu.trans (if_pos h40_13)
              refine qa_table (pc := 40) (tgt := 94) (off := 54) hx hb dY_register_40 (Or.inr (by rw [h40_13]; decide)) (by decide) ?_
              refine lv_aload_n (pc := 94) hx hb dY_register_94 rfl (lv_at hl 0 rfl) ?_
              refine va_get (D := (dC, dI)) (pc := 95) (ci := 5) (v := .long yUsp) (C := "LongMachineModel") (T := TY) (N := 28) hx hb hts ui_Y hown hK hP 0 rfl rfl 7 (by decide) (hts _ gm_353) (fun _ h9 => h9) rfl dY_register_95 ?_
              subst hu
              exact W.lret hx hb hr (fun t ht hW => ⟨rfl, ht⟩) (fun _ h => by cases h) dY_register_98
            · have hu := hu.trans (if_neg h40_13)
              have n40_2 : ¬ z1 = (34 : Int32) := h40_13
              rcases Decidable.em (z1 = (35 : Int32)) with h40_14 | h40_14
              · have hu := hu.trans (if_pos h40_14)
                refine qa_table (pc := 40) (tgt := 99) (off := 59) hx hb dY_register_40 (Or.inr (by rw [h40_14]; decide)) (by decide) ?_
                refine lv_aload_n (pc := 99) hx hb dY_register_99 rfl (lv_at hl 0 rfl) ?_
                refine va_get (D := (dC, dI)) (pc := 100) (ci := 5) (v := .long yKgp) (C := "LongMachineModel") (T := TY) (N := 28) hx hb hts ui_Y hown hK hP 0 rfl rfl 8 (by decide) (hts _ gm_354) (fun _ h9 => h9) rfl dY_register_100 ?_
                subst hu
                exact W.lret hx hb hr (fun t ht hW => ⟨rfl, ht⟩) (fun _ h => by cases h) dY_register_103
              · have hu := hu.trans (if_neg h40_14)
                have n40_3 : ¬ z1 = (35 : Int32) := h40_14
                rcases Decidable.em (z1 = (36 : Int32)) with h40_15 | h40_15
                · have hu := hu.trans (if_pos h40_15)
                  refine qa_table (pc := 40) (tgt := 104) (off := 64) hx hb dY_register_40 (Or.inr (by rw [h40_15]; decide)) (by decide) ?_
                  refine lv_aload_n (pc := 104) hx hb dY_register_104 rfl (lv_at hl 0 rfl) ?_
                  refine va_get (D := (dC, dI)) (pc := 105) (ci := 5) (v := .long yVal) (C := "LongMachineModel") (T := TY) (N := 28) hx hb hts ui_Y hown hK hP 0 rfl rfl 9 (by decide) (hts _ gm_355) (fun _ h9 => h9) rfl dY_register_105 ?_
                  subst hu
                  exact W.lret hx hb hr (fun t ht hW => ⟨rfl, ht⟩) (fun _ h => by cases h) dY_register_108
                · have hu := hu.trans (if_neg h40_15)
                  have n40_4 : ¬ z1 = (36 : Int32) := h40_15
                  rcases Decidable.em (z1 = (37 : Int32)) with h40_16 | h40_16
                  · have hu := hu.trans (if_pos h40_16)
                    refine qa_table (pc := 40) (tgt := 109) (off := 69) hx hb dY_register_40 (Or.inr (by rw [h40_16]; decide)) (by decide) ?_
                    refine lv_aload_n (pc := 109) hx hb dY_register_109 rfl (lv_at hl 0 rfl) ?_
                    refine va_get (D := (dC, dI)) (pc := 110) (ci := 5) (v := .int yTab) (C := "LongMachineModel") (T := TY) (N := 28) hx hb hts ui_Y hown hK hP 0 rfl rfl 10 (by decide) (hts _ gm_356) (fun _ h9 => h9) rfl dY_register_110 ?_
                    refine lv_i2l (pc := 113) (v := (Int32.toInt64 yTab)) hx hb dY_register_113 rfl ?_
                    subst hu
                    exact W.lret hx hb hr (fun t ht hW => ⟨rfl, ht⟩) (fun _ h => by cases h) dY_register_114
                  · have hu := hu.trans (if_neg h40_16)
                    have n40_5 : ¬ z1 = (37 : Int32) := h40_16
                    rcases Decidable.em (z1 = (38 : Int32)) with h40_17 | h40_17
                    · have hu := hu.trans (if_pos h40_17)
                      refine qa_table (pc := 40) (tgt := 115) (off := 75) hx hb dY_register_40 (Or.inr (by rw [h40_17]; decide)) (by decide) ?_
                      refine lv_aload_n (pc := 115) hx hb dY_register_115 rfl (lv_at hl 0 rfl) ?_
                      refine va_get (D := (dC, dI)) (pc := 116) (ci := 5) (v := .int ySpc) (C := "LongMachineModel") (T := TY) (N := 28) hx hb hts ui_Y hown hK hP 0 rfl rfl 11 (by decide) (hts _ gm_357) (fun _ h9 => h9) rfl dY_register_116 ?_
                      refine lv_i2l (pc := 119) (v := (Int32.toInt64 ySpc)) hx hb dY_register_119 rfl ?_
                      subst hu
                      exact W.lret hx hb hr (fun t ht hW => ⟨rfl, ht⟩) (fun _ h => by cases h) dY_register_120
                    · have hu := hu.trans (if_neg h40_17)
                      have n40_6 : ¬ z1 = (38 : Int32) := h40_17
                      refine qa_table (pc := 40) (tgt := 121) (off := 81) hx hb dY_register_40 (Or.inl ⟨by have := lv_neT n40_0 (by decide : ((32 : Int32)).toInt = 32); have := lv_neT n40_1 (by decide : ((33 : Int32)).toInt = 33); have := lv_neT n40_2 (by decide : ((34 : Int32)).toInt = 34); have := lv_neT n40_3 (by decide : ((35 : Int32)).toInt = 35); have := lv_neT n40_4 (by decide : ((36 : Int32)).toInt = 36); have := lv_neT n40_5 (by decide : ((37 : Int32)).toInt = 37); have := lv_neT n40_6 (by decide : ((38 : Int32)).toInt = 38); omega, rfl⟩) (by decide) ?_
                      refine lv_ldc2 (pc := 121) (v := (-1 : Int64)) hx hb hown (hts _ gm_488) dY_register_121 ?_
                      subst hu
                      exact W.lret hx hb hr (fun t ht hW => ⟨rfl, ht⟩) (fun _ h => by cases h) dY_register_124
      · have hu := hu.trans (if_neg h26_10)
        refine lv_aload_n (pc := 29) hx hb dY_register_29 rfl (lv_at hl 0 rfl) ?_
        refine va_get (D := (dC, dI)) (pc := 30) (ci := 5) (v := .ref qYv) (C := "LongMachineModel") (T := TY) (N := 28) hx hb hts ui_Y hown hK hP 0 rfl rfl 12 (by decide) (hts _ gm_358) (fun _ h9 => h9) rfl dY_register_30 ?_
        refine lv_iload_n (pc := 33) hx hb dY_register_33 rfl (lv_at hl 1 rfl) ?_
        refine lv_bipush (pc := 34) (v := (40 : Int32)) hx hb dY_register_34 (by decide) ?_
        refine lv_isub (pc := 36) hx hb dY_register_36 ?_
        refine qa_lald (pc := 37) (k := (Int32.toNatClampNeg (z1 - (40 : Int32)))) hx hb hK hP 3 1 rfl rfl rfl (ry_v40 h20_2 h26_10) dY_register_37 ?_
        subst hu
        exact W.lret hx hb hr (fun t ht hW => ⟨rfl, ht⟩) (fun _ h => by cases h) dY_register_38
  · have hu := hu.trans (if_neg h1_1)
    refine lv_iload_n (pc := 4) hx hb dY_register_4 rfl (lv_at hl 1 rfl) ?_
    refine lv_bipush (pc := 5) (v := (32 : Int32)) hx hb dY_register_5 (by decide) ?_
    refine lv_icmp_ge (pc := 7) (tgt := 17) hx hb dY_register_7 (by decide) (fun h7_18 => ?_) (fun h7_18 => ?_)
    · have hu := hu.trans (if_pos h7_18)
      refine lv_iload_n (pc := 17) hx hb dY_register_17 rfl (lv_at hl 1 rfl) ?_
      refine lv_bipush (pc := 18) (v := (40 : Int32)) hx hb dY_register_18 (by decide) ?_
      refine lv_icmp_lt (pc := 20) (tgt := 39) hx hb dY_register_20 (by decide) (fun h20_19 => ?_) (fun h20_19 => ?_)
      · have hu := hu.trans (if_pos h20_19)
        refine lv_iload_n (pc := 39) hx hb dY_register_39 rfl (lv_at hl 1 rfl) ?_
        rcases Decidable.em (z1 = (32 : Int32)) with h40_20 | h40_20
        · have hu := hu.trans (if_pos h40_20)
          refine qa_table (pc := 40) (tgt := 84) (off := 44) hx hb dY_register_40 (Or.inr (by rw [h40_20]; decide)) (by decide) ?_
          refine lv_aload_n (pc := 84) hx hb dY_register_84 rfl (lv_at hl 0 rfl) ?_
          refine va_get (D := (dC, dI)) (pc := 85) (ci := 5) (v := .long yPc) (C := "LongMachineModel") (T := TY) (N := 28) hx hb hts ui_Y hown hK hP 0 rfl rfl 2 (by decide) (hts _ gm_348) (fun _ h9 => h9) rfl dY_register_85 ?_
          subst hu
          exact W.lret hx hb hr (fun t ht hW => ⟨rfl, ht⟩) (fun _ h => by cases h) dY_register_88
        · have hu := hu.trans (if_neg h40_20)
          have n40_0 : ¬ z1 = (32 : Int32) := h40_20
          rcases Decidable.em (z1 = (33 : Int32)) with h40_21 | h40_21
          · have hu := hu.trans (if_pos h40_21)
            refine qa_table (pc := 40) (tgt := 89) (off := 49) hx hb dY_register_40 (Or.inr (by rw [h40_21]; decide)) (by decide) ?_
            refine lv_aload_n (pc := 89) hx hb dY_register_89 rfl (lv_at hl 0 rfl) ?_
            refine va_get (D := (dC, dI)) (pc := 90) (ci := 5) (v := .long yKsp) (C := "LongMachineModel") (T := TY) (N := 28) hx hb hts ui_Y hown hK hP 0 rfl rfl 6 (by decide) (hts _ gm_352) (fun _ h9 => h9) rfl dY_register_90 ?_
            subst hu
            exact W.lret hx hb hr (fun t ht hW => ⟨rfl, ht⟩) (fun _ h => by cases h) dY_register_93
          · have hu := hu.trans (if_neg h40_21)
            have n40_1 : ¬ z1 = (33 : Int32) := h40_21
            rcases Decidable.em (z1 = (34 : Int32)) with h40_22 | h40_22
            · have hu := hu.trans (if_pos h40_22)
              refine qa_table (pc := 40) (tgt := 94) (off := 54) hx hb dY_register_40 (Or.inr (by rw [h40_22]; decide)) (by decide) ?_
              refine lv_aload_n (pc := 94) hx hb dY_register_94 rfl (lv_at hl 0 rfl) ?_
              refine va_get (D := (dC, dI)) (pc := 95) (ci := 5) (v := .long yUsp) (C := "LongMachineModel") (T := TY) (N := 28) hx hb hts ui_Y hown hK hP 0 rfl rfl 7 (by decide) (hts _ gm_353) (fun _ h9 => h9) rfl dY_register_95 ?_
              subst hu
              exact W.lret hx hb hr (fun t ht hW => ⟨rfl, ht⟩) (fun _ h => by cases h) dY_register_98
            · have hu := hu.trans (if_neg h40_22)
              have n40_2 : ¬ z1 = (34 : Int32) := h40_22
              rcases Decidable.em (z1 = (35 : Int32)) with h40_23 | h40_23
              · have hu := hu.trans (if_pos h40_23)
                refine qa_table (pc := 40) (tgt := 99) (off := 59) hx hb dY_register_40 (Or.inr (by rw [h40_23]; decide)) (by decide) ?_
                refine lv_aload_n (pc := 99) hx hb dY_register_99 rfl (lv_at hl 0 rfl) ?_
                refine va_get (D := (dC, dI)) (pc := 100) (ci := 5) (v := .long yKgp) (C := "LongMachineModel") (T := TY) (N := 28) hx hb hts ui_Y hown hK hP 0 rfl rfl 8 (by decide) (hts _ gm_354) (fun _ h9 => h9) rfl dY_register_100 ?_
                subst hu
                exact W.lret hx hb hr (fun t ht hW => ⟨rfl, ht⟩) (fun _ h => by cases h) dY_register_103
              · have hu := hu.trans (if_neg h40_23)
                have n40_3 : ¬ z1 = (35 : Int32) := h40_23
                rcases Decidable.em (z1 = (36 : Int32)) with h40_24 | h40_24
                · have hu := hu.trans (if_pos h40_24)
                  refine qa_table (pc := 40) (tgt := 104) (off := 64) hx hb dY_register_40 (Or.inr (by rw [h40_24]; decide)) (by decide) ?_
                  refine lv_aload_n (pc := 104) hx hb dY_register_104 rfl (lv_at hl 0 rfl) ?_
                  refine va_get (D := (dC, dI)) (pc := 105) (ci := 5) (v := .long yVal) (C := "LongMachineModel") (T := TY) (N := 28) hx hb hts ui_Y hown hK hP 0 rfl rfl 9 (by decide) (hts _ gm_355) (fun _ h9 => h9) rfl dY_register_105 ?_
                  subst hu
                  exact W.lret hx hb hr (fun t ht hW => ⟨rfl, ht⟩) (fun _ h => by cases h) dY_register_108
                · have hu := hu.trans (if_neg h40_24)
                  have n40_4 : ¬ z1 = (36 : Int32) := h40_24
                  rcases Decidable.em (z1 = (37 : Int32)) with h40_25 | h40_25
                  · have hu := hu.trans (if_pos h40_25)
                    refine qa_table (pc := 40) (tgt := 109) (off := 69) hx hb dY_register_40 (Or.inr (by rw [h40_25]; decide)) (by decide) ?_
                    refine lv_aload_n (pc := 109) hx hb dY_register_109 rfl (lv_at hl 0 rfl) ?_
                    refine va_get (D := (dC, dI)) (pc := 110) (ci := 5) (v := .int yTab) (C := "LongMachineModel") (T := TY) (N := 28) hx hb hts ui_Y hown hK hP 0 rfl rfl 10 (by decide) (hts _ gm_356) (fun _ h9 => h9) rfl dY_register_110 ?_
                    refine lv_i2l (pc := 113) (v := (Int32.toInt64 yTab)) hx hb dY_register_113 rfl ?_
                    subst hu
                    exact W.lret hx hb hr (fun t ht hW => ⟨rfl, ht⟩) (fun _ h => by cases h) dY_register_114
                  · have hu := hu.trans (if_neg h40_25)
                    have n40_5 : ¬ z1 = (37 : Int32) := h40_25
                    rcases Decidable.em (z1 = (38 : Int32)) with h40_26 | h40_26
                    · have hu := hu.trans (if_pos h40_26)
                      refine qa_table (pc := 40) (tgt := 115) (off := 75) hx hb dY_register_40 (Or.inr (by rw [h40_26]; decide)) (by decide) ?_
                      refine lv_aload_n (pc := 115) hx hb dY_register_115 rfl (lv_at hl 0 rfl) ?_
                      refine va_get (D := (dC, dI)) (pc := 116) (ci := 5) (v := .int ySpc) (C := "LongMachineModel") (T := TY) (N := 28) hx hb hts ui_Y hown hK hP 0 rfl rfl 11 (by decide) (hts _ gm_357) (fun _ h9 => h9) rfl dY_register_116 ?_
                      refine lv_i2l (pc := 119) (v := (Int32.toInt64 ySpc)) hx hb dY_register_119 rfl ?_
                      subst hu
                      exact W.lret hx hb hr (fun t ht hW => ⟨rfl, ht⟩) (fun _ h => by cases h) dY_register_120
                    · have hu := hu.trans (if_neg h40_26)
                      have n40_6 : ¬ z1 = (38 : Int32) := h40_26
                      refine qa_table (pc := 40) (tgt := 121) (off := 81) hx hb dY_register_40 (Or.inl ⟨by have := lv_neT n40_0 (by decide : ((32 : Int32)).toInt = 32); have := lv_neT n40_1 (by decide : ((33 : Int32)).toInt = 33); have := lv_neT n40_2 (by decide : ((34 : Int32)).toInt = 34); have := lv_neT n40_3 (by decide : ((35 : Int32)).toInt = 35); have := lv_neT n40_4 (by decide : ((36 : Int32)).toInt = 36); have := lv_neT n40_5 (by decide : ((37 : Int32)).toInt = 37); have := lv_neT n40_6 (by decide : ((38 : Int32)).toInt = 38); omega, rfl⟩) (by decide) ?_
                      refine lv_ldc2 (pc := 121) (v := (-1 : Int64)) hx hb hown (hts _ gm_488) dY_register_121 ?_
                      subst hu
                      exact W.lret hx hb hr (fun t ht hW => ⟨rfl, ht⟩) (fun _ h => by cases h) dY_register_124
      · have hu := hu.trans (if_neg h20_19)
        refine lv_iload_n (pc := 23) hx hb dY_register_23 rfl (lv_at hl 1 rfl) ?_
        refine lv_bipush (pc := 24) (v := (46 : Int32)) hx hb dY_register_24 (by decide) ?_
        refine lv_icmp_ge (pc := 26) (tgt := 39) hx hb dY_register_26 (by decide) (fun h26_27 => ?_) (fun h26_27 => ?_)
        · have hu := hu.trans (if_pos h26_27)
          refine lv_iload_n (pc := 39) hx hb dY_register_39 rfl (lv_at hl 1 rfl) ?_
          rcases Decidable.em (z1 = (32 : Int32)) with h40_28 | h40_28
          · have hu := hu.trans (if_pos h40_28)
            refine qa_table (pc := 40) (tgt := 84) (off := 44) hx hb dY_register_40 (Or.inr (by rw [h40_28]; decide)) (by decide) ?_
            refine lv_aload_n (pc := 84) hx hb dY_register_84 rfl (lv_at hl 0 rfl) ?_
            refine va_get (D := (dC, dI)) (pc := 85) (ci := 5) (v := .long yPc) (C := "LongMachineModel") (T := TY) (N := 28) hx hb hts ui_Y hown hK hP 0 rfl rfl 2 (by decide) (hts _ gm_348) (fun _ h9 => h9) rfl dY_register_85 ?_
            subst hu
            exact W.lret hx hb hr (fun t ht hW => ⟨rfl, ht⟩) (fun _ h => by cases h) dY_register_88
          · have hu := hu.trans (if_neg h40_28)
            have n40_0 : ¬ z1 = (32 : Int32) := h40_28
            rcases Decidable.em (z1 = (33 : Int32)) with h40_29 | h40_29
            · have hu := hu.trans (if_pos h40_29)
              refine qa_table (pc := 40) (tgt := 89) (off := 49) hx hb dY_register_40 (Or.inr (by rw [h40_29]; decide)) (by decide) ?_
              refine lv_aload_n (pc := 89) hx hb dY_register_89 rfl (lv_at hl 0 rfl) ?_
              refine va_get (D := (dC, dI)) (pc := 90) (ci := 5) (v := .long yKsp) (C := "LongMachineModel") (T := TY) (N := 28) hx hb hts ui_Y hown hK hP 0 rfl rfl 6 (by decide) (hts _ gm_352) (fun _ h9 => h9) rfl dY_register_90 ?_
              subst hu
              exact W.lret hx hb hr (fun t ht hW => ⟨rfl, ht⟩) (fun _ h => by cases h) dY_register_93
            · have hu := hu.trans (if_neg h40_29)
              have n40_1 : ¬ z1 = (33 : Int32) := h40_29
              rcases Decidable.em (z1 = (34 : Int32)) with h40_30 | h40_30
              · have hu := hu.trans (if_pos h40_30)
                refine qa_table (pc := 40) (tgt := 94) (off := 54) hx hb dY_register_40 (Or.inr (by rw [h40_30]; decide)) (by decide) ?_
                refine lv_aload_n (pc := 94) hx hb dY_register_94 rfl (lv_at hl 0 rfl) ?_
                refine va_get (D := (dC, dI)) (pc := 95) (ci := 5) (v := .long yUsp) (C := "LongMachineModel") (T := TY) (N := 28) hx hb hts ui_Y hown hK hP 0 rfl rfl 7 (by decide) (hts _ gm_353) (fun _ h9 => h9) rfl dY_register_95 ?_
                subst hu
                exact W.lret hx hb hr (fun t ht hW => ⟨rfl, ht⟩) (fun _ h => by cases h) dY_register_98
              · have hu := hu.trans (if_neg h40_30)
                have n40_2 : ¬ z1 = (34 : Int32) := h40_30
                rcases Decidable.em (z1 = (35 : Int32)) with h40_31 | h40_31
                · have hu := hu.trans (if_pos h40_31)
                  refine qa_table (pc := 40) (tgt := 99) (off := 59) hx hb dY_register_40 (Or.inr (by rw [h40_31]; decide)) (by decide) ?_
                  refine lv_aload_n (pc := 99) hx hb dY_register_99 rfl (lv_at hl 0 rfl) ?_
                  refine va_get (D := (dC, dI)) (pc := 100) (ci := 5) (v := .long yKgp) (C := "LongMachineModel") (T := TY) (N := 28) hx hb hts ui_Y hown hK hP 0 rfl rfl 8 (by decide) (hts _ gm_354) (fun _ h9 => h9) rfl dY_register_100 ?_
                  subst hu
                  exact W.lret hx hb hr (fun t ht hW => ⟨rfl, ht⟩) (fun _ h => by cases h) dY_register_103
                · have hu := hu.trans (if_neg h40_31)
                  have n40_3 : ¬ z1 = (35 : Int32) := h40_31
                  rcases Decidable.em (z1 = (36 : Int32)) with h40_32 | h40_32
                  · have hu := hu.trans (if_pos h40_32)
                    refine qa_table (pc := 40) (tgt := 104) (off := 64) hx hb dY_register_40 (Or.inr (by rw [h40_32]; decide)) (by decide) ?_
                    refine lv_aload_n (pc := 104) hx hb dY_register_104 rfl (lv_at hl 0 rfl) ?_
                    refine va_get (D := (dC, dI)) (pc := 105) (ci := 5) (v := .long yVal) (C := "LongMachineModel") (T := TY) (N := 28) hx hb hts ui_Y hown hK hP 0 rfl rfl 9 (by decide) (hts _ gm_355) (fun _ h9 => h9) rfl dY_register_105 ?_
                    subst hu
                    exact W.lret hx hb hr (fun t ht hW => ⟨rfl, ht⟩) (fun _ h => by cases h) dY_register_108
                  · have hu := hu.trans (if_neg h40_32)
                    have n40_4 : ¬ z1 = (36 : Int32) := h40_32
                    rcases Decidable.em (z1 = (37 : Int32)) with h40_33 | h40_33
                    · have hu := hu.trans (if_pos h40_33)
                      refine qa_table (pc := 40) (tgt := 109) (off := 69) hx hb dY_register_40 (Or.inr (by rw [h40_33]; decide)) (by decide) ?_
                      refine lv_aload_n (pc := 109) hx hb dY_register_109 rfl (lv_at hl 0 rfl) ?_
                      refine va_get (D := (dC, dI)) (pc := 110) (ci := 5) (v := .int yTab) (C := "LongMachineModel") (T := TY) (N := 28) hx hb hts ui_Y hown hK hP 0 rfl rfl 10 (by decide) (hts _ gm_356) (fun _ h9 => h9) rfl dY_register_110 ?_
                      refine lv_i2l (pc := 113) (v := (Int32.toInt64 yTab)) hx hb dY_register_113 rfl ?_
                      subst hu
                      exact W.lret hx hb hr (fun t ht hW => ⟨rfl, ht⟩) (fun _ h => by cases h) dY_register_114
                    · have hu := hu.trans (if_neg h40_33)
                      have n40_5 : ¬ z1 = (37 : Int32) := h40_33
                      rcases Decidable.em (z1 = (38 : Int32)) with h40_34 | h40_34
                      · have hu := hu.trans (if_pos h40_34)
                        refine qa_table (pc := 40) (tgt := 115) (off := 75) hx hb dY_register_40 (Or.inr (by rw [h40_34]; decide)) (by decide) ?_
                        refine lv_aload_n (pc := 115) hx hb dY_register_115 rfl (lv_at hl 0 rfl) ?_
                        refine va_get (D := (dC, dI)) (pc := 116) (ci := 5) (v := .int ySpc) (C := "LongMachineModel") (T := TY) (N := 28) hx hb hts ui_Y hown hK hP 0 rfl rfl 11 (by decide) (hts _ gm_357) (fun _ h9 => h9) rfl dY_register_116 ?_
                        refine lv_i2l (pc := 119) (v := (Int32.toInt64 ySpc)) hx hb dY_register_119 rfl ?_
                        subst hu
                        exact W.lret hx hb hr (fun t ht hW => ⟨rfl, ht⟩) (fun _ h => by cases h) dY_register_120
                      · have hu := hu.trans (if_neg h40_34)
                        have n40_6 : ¬ z1 = (38 : Int32) := h40_34
                        refine qa_table (pc := 40) (tgt := 121) (off := 81) hx hb dY_register_40 (Or.inl ⟨by have := lv_neT n40_0 (by decide : ((32 : Int32)).toInt = 32); have := lv_neT n40_1 (by decide : ((33 : Int32)).toInt = 33); have := lv_neT n40_2 (by decide : ((34 : Int32)).toInt = 34); have := lv_neT n40_3 (by decide : ((35 : Int32)).toInt = 35); have := lv_neT n40_4 (by decide : ((36 : Int32)).toInt = 36); have := lv_neT n40_5 (by decide : ((37 : Int32)).toInt = 37); have := lv_neT n40_6 (by decide : ((38 : Int32)).toInt = 38); omega, rfl⟩) (by decide) ?_
                        refine lv_ldc2 (pc := 121) (v := (-1 : Int64)) hx hb hown (hts _ gm_488) dY_register_121 ?_
                        subst hu
                        exact W.lret hx hb hr (fun t ht hW => ⟨rfl, ht⟩) (fun _ h => by cases h) dY_register_124
        · have hu := hu.trans (if_neg h26_27)
          refine lv_aload_n (pc := 29) hx hb dY_register_29 rfl (lv_at hl 0 rfl) ?_
          refine va_get (D := (dC, dI)) (pc := 30) (ci := 5) (v := .ref qYv) (C := "LongMachineModel") (T := TY) (N := 28) hx hb hts ui_Y hown hK hP 0 rfl rfl 12 (by decide) (hts _ gm_358) (fun _ h9 => h9) rfl dY_register_30 ?_
          refine lv_iload_n (pc := 33) hx hb dY_register_33 rfl (lv_at hl 1 rfl) ?_
          refine lv_bipush (pc := 34) (v := (40 : Int32)) hx hb dY_register_34 (by decide) ?_
          refine lv_isub (pc := 36) hx hb dY_register_36 ?_
          refine qa_lald (pc := 37) (k := (Int32.toNatClampNeg (z1 - (40 : Int32)))) hx hb hK hP 3 1 rfl rfl rfl (ry_v40 h20_19 h26_27) dY_register_37 ?_
          subst hu
          exact W.lret hx hb hr (fun t ht hW => ⟨rfl, ht⟩) (fun _ h => by cases h) dY_register_38
    · have hu := hu.trans (if_neg h7_18)
      refine lv_aload_n (pc := 10) hx hb dY_register_10 rfl (lv_at hl 0 rfl) ?_
      refine va_get (D := (dC, dI)) (pc := 11) (ci := 5) (v := .ref qYr) (C := "LongMachineModel") (T := TY) (N := 28) hx hb hts ui_Y hown hK hP 0 rfl rfl 1 (by decide) (hts _ gm_347) (fun _ h9 => h9) rfl dY_register_11 ?_
      refine lv_iload_n (pc := 14) hx hb dY_register_14 rfl (lv_at hl 1 rfl) ?_
      refine qa_lald (pc := 15) (k := (Int32.toNatClampNeg z1)) hx hb hK hP 2 1 rfl rfl rfl (rg_b (rg_nn h1_1) h7_18 (by decide)) dY_register_15 ?_
      subst hu
      exact W.lret hx hb hr (fun t ht hW => ⟨rfl, ht⟩) (fun _ h => by cases h) dY_register_16
set_option maxRecDepth 100000 in
set_option maxHeartbeats 4000000 in
theorem c_Y_word (l : Launch) (dC : Nat → ClassId) (dI : Nat → Nat → Nat) (cI cJ : ClassId) (qY qYm qYr qYv qYl qYn qYp qYs qYw qY6 : Nat) (yPc : Int64) (yMod : Int32) (yLev : Int32) (yLoc : Int32) (yKsp : Int64) (yUsp : Int64) (yKgp : Int64) (yVal : Int64) (yTab : Int32) (ySpc : Int32) (yHal : Int32) (yEnt : Int32) (yPen : Int32) (yBuf : Int32) (yHer : Int64) (yWrd : Int32) (yHas : Int32) (yTrp : Int32) (yNon : Int32) (yMem : (Nat → Int32)) (yR : (Nat → Int64)) (yV : (Nat → Int64)) (yPL : (Nat → Int32)) (yPN : (Nat → Int32)) (yBP : (Nat → Int32)) (yBS : (Nat → Int32)) (yBW : (Nat → Int64)) (ySix : (Nat → Int64)) (z1 : Int32) : Met l yY_word (.code yY_word cY_word 2 (some .long) :: vG) ({ frames := 1, cells := 0, slots := 0, locals := 25 }) (va_Pc [.ref qY, .int z1] (qa_preR (dC, dI) vwCl (wY cI cJ qY qYm qYr qYv qYl qYn qYp qYs qYw qY6 yPc yMod yLev yLoc yKsp yUsp yKgp yVal yTab ySpc yHal yEnt yPen yBuf yHer yWrd yHas yTrp yNon yMem yR yV yPL yPN yBP yBS yBW ySix) [(cI, .int), (cJ, .long)])) (qa_det (.long (if (if z1 < (0 : Int32) then (0 : Int32) else (if (4088 : Int32) < z1 then (0 : Int32) else (if (z1 - z1 / (8 : Int32) * (8 : Int32)) = (0 : Int32) then (1 : Int32) else (0 : Int32)))) = (0 : Int32) then (-1 : Int64) else (f_Y_bytes z1 (8 : Int32) yMem)))) 0 0 (fun _ => False) := by
  refine Met.ofW (cc := cY_word) (maxL := 2) (ret := (some .long)) (by decide) rfl ?_
  intro p e s m args below meth c s₁ B hml hv
  obtain ⟨rfl, hP, hK⟩ := hv
  have hx := B.exec
  have hb := B.bytes
  have hr := B.returns
  have hts : ∀ w ∈ vG, w.before _ s = true := fun w h => atoms_spec (ws := (.code yY_word cY_word 2 (some .long) :: vG)) B.pre w (List.mem_cons_of_mem _ h)
  have hown : s.vm.findClass "LongMachineModel" = some m.cls := findClass_of_methodNamed B.named
  have hlocks := B.notSynchronized
  have hl := lv_entry ([.ref qY, .int z1]) (n := 2) (Nat.le_of_ble_eq_true rfl)
  rw [lg_entry_eq]
  generalize (lg_sl ([.ref qY, .int z1]) ++ List.replicate (2 - (lg_sl ([.ref qY, .int z1])).length) Slot.unset).toArray = ls at hl ⊢
  have hl : lv_has ls 2 [(0, .ref qY), (1, .int z1)] := hl
  refine lv_iload_n (pc := 0) hx hb dY_word_0 rfl (lv_at hl 1 rfl) ?_
  refine qa_calld (pc := 1) (v := .int (if z1 < (0 : Int32) then (0 : Int32) else (if (4088 : Int32) < z1 then (0 : Int32) else (if (z1 - z1 / (8 : Int32) * (8 : Int32)) = (0 : Int32) then (1 : Int32) else (0 : Int32))))) (va_runS (As := [.int z1]) (rest := []) ⟨hx, hb, hml, hown, hts⟩ (c_Y_isPlace l z1) (va_cwS 1 hts (gd_S gm_526 gm_524 gm_525 gm_6) rfl rfl rfl (by decide +kernel) ⟨Nat.le_of_ble_eq_true rfl, Nat.le_of_ble_eq_true rfl⟩) qa_S0 rfl rfl hl.1 rfl (lv_room (Nat.le_of_ble_eq_true rfl)) dY_word_1 ⟨Nat.zero_le _, Nat.zero_le _⟩) ?_
  refine qa_joinl (J := 20) (ls2 := ls) (rest2 := []) (if (if z1 < (0 : Int32) then (0 : Int32) else (if (4088 : Int32) < z1 then (0 : Int32) else (if (z1 - z1 / (8 : Int32) * (8 : Int32)) = (0 : Int32) then (1 : Int32) else (0 : Int32)))) = (0 : Int32) then (-1 : Int64) else (f_Y_bytes z1 (8 : Int32) yMem)) (fun hj20 => ?_) ?_
  · refine lv_if_eq (pc := 4) (tgt := 17) hx hb dY_word_4 (by decide) (fun h4_1 => ?_) (fun h4_1 => ?_)
    · refine lv_ldc2 (pc := 17) (v := (-1 : Int64)) hx hb hown (hts _ gm_488) dY_word_17 ?_
      exact hj20 _ (Eq.symm (if_pos h4_1))
    · refine lv_aload_n (pc := 7) hx hb dY_word_7 rfl (lv_at hl 0 rfl) ?_
      refine lv_iload_n (pc := 8) hx hb dY_word_8 rfl (lv_at hl 1 rfl) ?_
      refine lv_bipush (pc := 9) (v := (8 : Int32)) hx hb dY_word_9 (by decide) ?_
      refine qa_calld (pc := 11) (v := .long (f_Y_bytes z1 (8 : Int32) yMem)) (va_runV (As := [.int z1, .int (8 : Int32)]) (rest := []) ⟨hx, hb, hml, hown, hts⟩ (c_Y_bytes l dC dI cI cJ qY qYm qYr qYv qYl qYn qYp qYs qYw qY6 yPc yMod yLev yLoc yKsp yUsp yKgp yVal yTab ySpc yHal yEnt yPen yBuf yHer yWrd yHas yTrp yNon yMem yR yV yPL yPN yBP yBS yBW ySix z1 (8 : Int32) ((ry_pl h4_1).1) ((ry_pl h4_1).2) (by decide) (by decide)) (cwV 2 hts (gd_V gm_436 gm_434 gm_435 gm_583 gm_6) rfl rfl rfl (by decide +kernel) ⟨Nat.le_of_ble_eq_true rfl, Nat.le_of_ble_eq_true rfl⟩) (qa_VR (q0 := 0) (q := ("LongMachineModel", TY, 28)) hK hP rfl rfl hP) rfl rfl hl.1 rfl (lv_room (Nat.le_of_ble_eq_true rfl)) dY_word_11 ⟨Nat.zero_le _, Nat.zero_le _⟩) ?_
      refine lv_goto (pc := 14) (tgt := 20) hx hb dY_word_14 (by decide) ?_
      exact hj20 _ (Eq.symm (if_neg h4_1))
  exact W.lret hx hb hr (fun t ht hW => ⟨rfl, ht⟩) (fun _ h => by cases h) dY_word_20
def f_Y_state (z1 : Int32) (yMod : Int32) (yLev : Int32) (yLoc : Int32) (yHal : Int32) (yEnt : Int32) (yPen : Int32) (yBuf : Int32) : Int32 := (if z1 = (0 : Int32) then (((8 : Int32) * yMod) + yLev) else (if z1 = (1 : Int32) then (if yLoc = (0 : Int32) then (0 : Int32) else (1 : Int32)) else (if z1 = (2 : Int32) then yHal else (if z1 = (3 : Int32) then yBuf else (if z1 = (4 : Int32) then yPen else (if z1 = (5 : Int32) then yEnt else (-1 : Int32)))))))
set_option maxRecDepth 100000 in
set_option maxHeartbeats 4000000 in
theorem c_Y_state (l : Launch) (dC : Nat → ClassId) (dI : Nat → Nat → Nat) (cI cJ : ClassId) (qY qYm qYr qYv qYl qYn qYp qYs qYw qY6 : Nat) (yPc : Int64) (yMod : Int32) (yLev : Int32) (yLoc : Int32) (yKsp : Int64) (yUsp : Int64) (yKgp : Int64) (yVal : Int64) (yTab : Int32) (ySpc : Int32) (yHal : Int32) (yEnt : Int32) (yPen : Int32) (yBuf : Int32) (yHer : Int64) (yWrd : Int32) (yHas : Int32) (yTrp : Int32) (yNon : Int32) (yMem : (Nat → Int32)) (yR : (Nat → Int64)) (yV : (Nat → Int64)) (yPL : (Nat → Int32)) (yPN : (Nat → Int32)) (yBP : (Nat → Int32)) (yBS : (Nat → Int32)) (yBW : (Nat → Int64)) (ySix : (Nat → Int64)) (z1 : Int32) : Met l yY_state (.code yY_state cY_state 2 (some .int) :: vG) ({ frames := 0, cells := 0, slots := 0, locals := 0 }) (va_Pc [.ref qY, .int z1] (qa_preR (dC, dI) vwCl (wY cI cJ qY qYm qYr qYv qYl qYn qYp qYs qYw qY6 yPc yMod yLev yLoc yKsp yUsp yKgp yVal yTab ySpc yHal yEnt yPen yBuf yHer yWrd yHas yTrp yNon yMem yR yV yPL yPN yBP yBS yBW ySix) [(cI, .int), (cJ, .long)])) (qa_det (.int (f_Y_state z1 yMod yLev yLoc yHal yEnt yPen yBuf))) 0 0 (fun _ => False) := by
  refine Met.ofW (cc := cY_state) (maxL := 2) (ret := (some .int)) (by decide) rfl ?_
  intro p e s m args below meth c s₁ B hml hv
  obtain ⟨rfl, hP, hK⟩ := hv
  have hx := B.exec
  have hb := B.bytes
  have hr := B.returns
  have hts : ∀ w ∈ vG, w.before _ s = true := fun w h => atoms_spec (ws := (.code yY_state cY_state 2 (some .int) :: vG)) B.pre w (List.mem_cons_of_mem _ h)
  have hown : s.vm.findClass "LongMachineModel" = some m.cls := findClass_of_methodNamed B.named
  have hlocks := B.notSynchronized
  have hl := lv_entry ([.ref qY, .int z1]) (n := 2) (Nat.le_of_ble_eq_true rfl)
  rw [lg_entry_eq]
  generalize (lg_sl ([.ref qY, .int z1]) ++ List.replicate (2 - (lg_sl ([.ref qY, .int z1])).length) Slot.unset).toArray = ls at hl ⊢
  have hl : lv_has ls 2 [(0, .ref qY), (1, .int z1)] := hl
  obtain ⟨u, hu⟩ : ∃ u, u = f_Y_state z1 yMod yLev yLoc yHal yEnt yPen yBuf := ⟨_, rfl⟩
  rw [← hu]
  unfold f_Y_state at hu
  refine lv_iload_n (pc := 0) hx hb dY_state_0 rfl (lv_at hl 1 rfl) ?_
  rcases Decidable.em (z1 = (0 : Int32)) with h1_1 | h1_1
  · have hu := hu.trans (if_pos h1_1)
    refine qa_table (pc := 1) (tgt := 40) (off := 39) hx hb dY_state_1 (Or.inr (by rw [h1_1]; decide)) (by decide) ?_
    refine lv_bipush (pc := 40) (v := (8 : Int32)) hx hb dY_state_40 (by decide) ?_
    refine lv_aload_n (pc := 42) hx hb dY_state_42 rfl (lv_at hl 0 rfl) ?_
    refine va_get (D := (dC, dI)) (pc := 43) (ci := 5) (v := .int yMod) (C := "LongMachineModel") (T := TY) (N := 28) hx hb hts ui_Y hown hK hP 0 rfl rfl 3 (by decide) (hts _ gm_349) (fun _ h9 => h9) rfl dY_state_43 ?_
    refine lv_imul (pc := 46) hx hb dY_state_46 ?_
    refine lv_aload_n (pc := 47) hx hb dY_state_47 rfl (lv_at hl 0 rfl) ?_
    refine va_get (D := (dC, dI)) (pc := 48) (ci := 5) (v := .int yLev) (C := "LongMachineModel") (T := TY) (N := 28) hx hb hts ui_Y hown hK hP 0 rfl rfl 4 (by decide) (hts _ gm_350) (fun _ h9 => h9) rfl dY_state_48 ?_
    refine lv_iadd (pc := 51) hx hb dY_state_51 ?_
    subst hu
    exact W.iret hx hb hr (fun t ht hW => ⟨rfl, ht⟩) (fun _ h => by cases h) dY_state_52
  · have hu := hu.trans (if_neg h1_1)
    have n1_0 : ¬ z1 = (0 : Int32) := h1_1
    rcases Decidable.em (z1 = (1 : Int32)) with h1_2 | h1_2
    · have hu := hu.trans (if_pos h1_2)
      refine qa_table (pc := 1) (tgt := 53) (off := 52) hx hb dY_state_1 (Or.inr (by rw [h1_2]; decide)) (by decide) ?_
      refine lv_aload_n (pc := 53) hx hb dY_state_53 rfl (lv_at hl 0 rfl) ?_
      refine va_get (D := (dC, dI)) (pc := 54) (ci := 5) (v := .int yLoc) (C := "LongMachineModel") (T := TY) (N := 28) hx hb hts ui_Y hown hK hP 0 rfl rfl 5 (by decide) (hts _ gm_351) (fun _ h9 => h9) rfl dY_state_54 ?_
      refine qa_joini (J := 65) (ls2 := ls) (rest2 := []) (if yLoc = (0 : Int32) then (0 : Int32) else (1 : Int32)) (fun hj65 => ?_) ?_
      · refine lv_if_eq (pc := 57) (tgt := 64) hx hb dY_state_57 (by decide) (fun h57_3 => ?_) (fun h57_3 => ?_)
        · refine lv_iconst (pc := 64) (v := (0 : Int32)) hx hb dY_state_64 (by decide) ?_
          exact hj65 _ (Eq.symm (if_pos h57_3))
        · refine lv_iconst (pc := 60) (v := (1 : Int32)) hx hb dY_state_60 (by decide) ?_
          refine lv_goto (pc := 61) (tgt := 65) hx hb dY_state_61 (by decide) ?_
          exact hj65 _ (Eq.symm (if_neg h57_3))
      subst hu
      exact W.iret hx hb hr (fun t ht hW => ⟨rfl, ht⟩) (fun _ h => by cases h) dY_state_65
    · have hu := hu.trans (if_neg h1_2)
      have n1_1 : ¬ z1 = (1 : Int32) := h1_2
      rcases Decidable.em (z1 = (2 : Int32)) with h1_4 | h1_4
      · have hu := hu.trans (if_pos h1_4)
        refine qa_table (pc := 1) (tgt := 66) (off := 65) hx hb dY_state_1 (Or.inr (by rw [h1_4]; decide)) (by decide) ?_
        refine lv_aload_n (pc := 66) hx hb dY_state_66 rfl (lv_at hl 0 rfl) ?_
        refine va_get (D := (dC, dI)) (pc := 67) (ci := 5) (v := .int yHal) (C := "LongMachineModel") (T := TY) (N := 28) hx hb hts ui_Y hown hK hP 0 rfl rfl 13 (by decide) (hts _ gm_359) (fun _ h9 => h9) rfl dY_state_67 ?_
        subst hu
        exact W.iret hx hb hr (fun t ht hW => ⟨rfl, ht⟩) (fun _ h => by cases h) dY_state_70
      · have hu := hu.trans (if_neg h1_4)
        have n1_2 : ¬ z1 = (2 : Int32) := h1_4
        rcases Decidable.em (z1 = (3 : Int32)) with h1_5 | h1_5
        · have hu := hu.trans (if_pos h1_5)
          refine qa_table (pc := 1) (tgt := 71) (off := 70) hx hb dY_state_1 (Or.inr (by rw [h1_5]; decide)) (by decide) ?_
          refine lv_aload_n (pc := 71) hx hb dY_state_71 rfl (lv_at hl 0 rfl) ?_
          refine va_get (D := (dC, dI)) (pc := 72) (ci := 5) (v := .int yBuf) (C := "LongMachineModel") (T := TY) (N := 28) hx hb hts ui_Y hown hK hP 0 rfl rfl 18 (by decide) (hts _ gm_364) (fun _ h9 => h9) rfl dY_state_72 ?_
          subst hu
          exact W.iret hx hb hr (fun t ht hW => ⟨rfl, ht⟩) (fun _ h => by cases h) dY_state_75
        · have hu := hu.trans (if_neg h1_5)
          have n1_3 : ¬ z1 = (3 : Int32) := h1_5
          rcases Decidable.em (z1 = (4 : Int32)) with h1_6 | h1_6
          · have hu := hu.trans (if_pos h1_6)
            refine qa_table (pc := 1) (tgt := 76) (off := 75) hx hb dY_state_1 (Or.inr (by rw [h1_6]; decide)) (by decide) ?_
            refine lv_aload_n (pc := 76) hx hb dY_state_76 rfl (lv_at hl 0 rfl) ?_
            refine va_get (D := (dC, dI)) (pc := 77) (ci := 5) (v := .int yPen) (C := "LongMachineModel") (T := TY) (N := 28) hx hb hts ui_Y hown hK hP 0 rfl rfl 15 (by decide) (hts _ gm_361) (fun _ h9 => h9) rfl dY_state_77 ?_
            subst hu
            exact W.iret hx hb hr (fun t ht hW => ⟨rfl, ht⟩) (fun _ h => by cases h) dY_state_80
          · have hu := hu.trans (if_neg h1_6)
            have n1_4 : ¬ z1 = (4 : Int32) := h1_6
            rcases Decidable.em (z1 = (5 : Int32)) with h1_7 | h1_7
            · have hu := hu.trans (if_pos h1_7)
              refine qa_table (pc := 1) (tgt := 81) (off := 80) hx hb dY_state_1 (Or.inr (by rw [h1_7]; decide)) (by decide) ?_
              refine lv_aload_n (pc := 81) hx hb dY_state_81 rfl (lv_at hl 0 rfl) ?_
              refine va_get (D := (dC, dI)) (pc := 82) (ci := 5) (v := .int yEnt) (C := "LongMachineModel") (T := TY) (N := 28) hx hb hts ui_Y hown hK hP 0 rfl rfl 14 (by decide) (hts _ gm_360) (fun _ h9 => h9) rfl dY_state_82 ?_
              subst hu
              exact W.iret hx hb hr (fun t ht hW => ⟨rfl, ht⟩) (fun _ h => by cases h) dY_state_85
            · have hu := hu.trans (if_neg h1_7)
              have n1_5 : ¬ z1 = (5 : Int32) := h1_7
              refine qa_table (pc := 1) (tgt := 86) (off := 85) hx hb dY_state_1 (Or.inl ⟨by have := lv_neT n1_0 (by decide : ((0 : Int32)).toInt = 0); have := lv_neT n1_1 (by decide : ((1 : Int32)).toInt = 1); have := lv_neT n1_2 (by decide : ((2 : Int32)).toInt = 2); have := lv_neT n1_3 (by decide : ((3 : Int32)).toInt = 3); have := lv_neT n1_4 (by decide : ((4 : Int32)).toInt = 4); have := lv_neT n1_5 (by decide : ((5 : Int32)).toInt = 5); omega, rfl⟩) (by decide) ?_
              refine lv_iconst (pc := 86) (v := (-1 : Int32)) hx hb dY_state_86 (by decide) ?_
              subst hu
              exact W.iret hx hb hr (fun t ht hW => ⟨rfl, ht⟩) (fun _ h => by cases h) dY_state_87
