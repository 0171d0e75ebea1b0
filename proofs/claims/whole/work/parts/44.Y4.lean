def f_Y_own_K117_1 (yUsp : Int64) (yKgp : Int64) (yVal : Int64) (yTab : Int32) (ySpc : Int32) (yV : (Nat → Int64)) (r117_1 : Int64 × Int32 × Int32 × Int32 × Int64 × Int32 × Int32 × (Nat → Int64) × (Nat → Int32) × (Nat → Int32) × (Nat → Int64) × (Nat → Int64)) : Int64 × Int32 × Int32 × Int32 × Int64 × Int64 × Int64 × Int64 × Int32 × Int32 × Int32 × Int32 × (Nat → Int64) × (Nat → Int64) × (Nat → Int32) × (Nat → Int32) × (Nat → Int64) × (Nat → Int64) := (r117_1.1, r117_1.2.1, r117_1.2.2.1, r117_1.2.2.2.1, r117_1.2.2.2.2.1, yUsp, yKgp, yVal, yTab, ySpc, r117_1.2.2.2.2.2.1, r117_1.2.2.2.2.2.2.1, r117_1.2.2.2.2.2.2.2.1, yV, r117_1.2.2.2.2.2.2.2.2.1, r117_1.2.2.2.2.2.2.2.2.2.1, r117_1.2.2.2.2.2.2.2.2.2.2.1, r117_1.2.2.2.2.2.2.2.2.2.2.2)
def f_Y_own (z1 : Int32) (yPc : Int64) (yMod : Int32) (yLev : Int32) (yLoc : Int32) (yKsp : Int64) (yUsp : Int64) (yKgp : Int64) (yVal : Int64) (yTab : Int32) (ySpc : Int32) (yHal : Int32) (yBuf : Int32) (yMem : (Nat → Int32)) (yR : (Nat → Int64)) (yV : (Nat → Int64)) (yBP : (Nat → Int32)) (yBS : (Nat → Int32)) (yBW : (Nat → Int64)) (ySix : (Nat → Int64)) : Int64 × Int32 × Int32 × Int32 × Int64 × Int64 × Int64 × Int64 × Int32 × Int32 × Int32 × Int32 × (Nat → Int64) × (Nat → Int64) × (Nat → Int32) × (Nat → Int32) × (Nat → Int64) × (Nat → Int64) := (if z1 = (0 : Int32) then (yPc, yMod, yLev, yLoc, yKsp, yUsp, yKgp, yVal, yTab, ySpc, (1 : Int32), yBuf, yR, yV, yBP, yBS, yBW, ySix) else (if z1 = (49 : Int32) then (yPc, yMod, yLev, yLoc, yKsp, yUsp, yKgp, (yR 16), yTab, ySpc, yHal, yBuf, yR, yV, yBP, yBS, yBW, ySix) else (if z1 = (50 : Int32) then (yPc, yMod, yLev, yLoc, yKsp, yUsp, yKgp, yVal, yTab, ySpc, yHal, yBuf, (vp_updL yR 0 yVal), yV, yBP, yBS, yBW, ySix) else (if z1 = (51 : Int32) then (yPc, yMod, yLev, yLoc, yKsp, yUsp, yKgp, yVal, yTab, ySpc, yHal, (0 : Int32), yR, yV, yBP, yBS, yBW, ySix) else (if z1 = (52 : Int32) then (if (6 : Int64) ≤ ((yR 17) &&& (7 : Int64)) then (yPc, yMod, yLev, yLoc, yKsp, yUsp, yKgp, yVal, yTab, ySpc, yHal, yBuf, yR, yV, yBP, yBS, yBW, ySix) else (yPc, yMod, yLev, yLoc, yKsp, yUsp, yKgp, yVal, yTab, ySpc, yHal, yBuf, yR, (vp_updL yV (Int32.toNatClampNeg (Int64.toInt32 ((yR 17) &&& (7 : Int64)))) ((yR 16) &&& (-4 : Int64))), yBP, yBS, yBW, ySix)) else (if z1 = (53 : Int32) then (yPc, yMod, (Int64.toInt32 ((yR 16) &&& (7 : Int64))), yLoc, yKsp, yUsp, yKgp, yVal, yTab, ySpc, yHal, yBuf, (vp_updL yR 0 (Int32.toInt64 yLev)), yV, yBP, yBS, yBW, ySix) else (if z1 = (54 : Int32) then (yPc, yMod, yLev, yLoc, yKsp, yUsp, yKgp, yVal, yTab, ySpc, yHal, yBuf, (vp_updL yR 0 (Int32.toInt64 (((8 : Int32) * yMod) + yLev))), yV, yBP, yBS, yBW, ySix) else (if z1 = (55 : Int32) then (yPc, yMod, yLev, yLoc, yKsp, yUsp, (yR 16), yVal, yTab, ySpc, yHal, yBuf, yR, yV, yBP, yBS, yBW, ySix) else (if z1 = (56 : Int32) then (yPc, yMod, yLev, yLoc, yKsp, (yR 16), yKgp, yVal, yTab, ySpc, yHal, yBuf, yR, yV, yBP, yBS, yBW, ySix) else (if z1 = (58 : Int32) then (yPc, yMod, yLev, yLoc, yKsp, yUsp, yKgp, yVal, yTab, ySpc, yHal, yBuf, (vp_updL yR 0 yUsp), yV, yBP, yBS, yBW, ySix) else (if z1 = (63 : Int32) then (f_Y_own_K117_1 yUsp yKgp yVal yTab ySpc yV (f_Y_back yPc yMod yLev yLoc yKsp yUsp yTab ySpc yHal yBuf yMem yR yBP yBS yBW ySix)) else (yPc, yMod, yLev, yLoc, yKsp, yUsp, yKgp, yVal, (Int64.toInt32 ((yR 16) &&& (4064 : Int64))), (Int64.toInt32 (((vp_updL yR 0 (Int32.toInt64 (((256 : Int32) * ySpc) + yTab))) 17) &&& (255 : Int64))), yHal, yBuf, (vp_updL yR 0 (Int32.toInt64 (((256 : Int32) * ySpc) + yTab))), yV, yBP, yBS, yBW, ySix))))))))))))
set_option maxRecDepth 100000 in
set_option maxHeartbeats 4000000 in
theorem c_Y_own (l : Launch) (dC : Nat → ClassId) (dI : Nat → Nat → Nat) (cI cJ : ClassId) (qY qYm qYr qYv qYl qYn qYp qYs qYw qY6 : Nat) (sz : Nat) (yPc : Int64) (yMod : Int32) (yLev : Int32) (yLoc : Int32) (yKsp : Int64) (yUsp : Int64) (yKgp : Int64) (yVal : Int64) (yTab : Int32) (ySpc : Int32) (yHal : Int32) (yEnt : Int32) (yPen : Int32) (yBuf : Int32) (yHer : Int64) (yWrd : Int32) (yHas : Int32) (yTrp : Int32) (yNon : Int32) (yMem : (Nat → Int32)) (yR : (Nat → Int64)) (yV : (Nat → Int64)) (yPL : (Nat → Int32)) (yPN : (Nat → Int32)) (yBP : (Nat → Int32)) (yBS : (Nat → Int32)) (yBW : (Nat → Int64)) (ySix : (Nat → Int64)) (z1 : Int32) (hy0 : 0 ≤ yBuf.toInt) (hy4 : yBuf.toInt ≤ 4) (ht0 : 0 ≤ yTab.toInt) (ht1 : yTab.toInt ≤ 4064) : Met l yY_own (.code yY_own cY_own 4 none :: vG) ({ frames := 4, cells := 0, slots := 0, locals := 103 }) (va_Pc [.ref qY, .int z1] (qa_pre (dC, dI) vwCl (wY cI cJ qY qYm qYr qYv qYl qYn qYp qYs qYw qY6 yPc yMod yLev yLoc yKsp yUsp yKgp yVal yTab ySpc yHal yEnt yPen yBuf yHer yWrd yHas yTrp yNon yMem yR yV yPL yPN yBP yBS yBW ySix) [(cI, .int), (cJ, .long)] sz)) (qa_mod none (dC, dI) vwCl (wY cI cJ qY qYm qYr qYv qYl qYn qYp qYs qYw qY6 ((f_Y_own z1 yPc yMod yLev yLoc yKsp yUsp yKgp yVal yTab ySpc yHal yBuf yMem yR yV yBP yBS yBW ySix).1) ((f_Y_own z1 yPc yMod yLev yLoc yKsp yUsp yKgp yVal yTab ySpc yHal yBuf yMem yR yV yBP yBS yBW ySix).2.1) ((f_Y_own z1 yPc yMod yLev yLoc yKsp yUsp yKgp yVal yTab ySpc yHal yBuf yMem yR yV yBP yBS yBW ySix).2.2.1) ((f_Y_own z1 yPc yMod yLev yLoc yKsp yUsp yKgp yVal yTab ySpc yHal yBuf yMem yR yV yBP yBS yBW ySix).2.2.2.1) ((f_Y_own z1 yPc yMod yLev yLoc yKsp yUsp yKgp yVal yTab ySpc yHal yBuf yMem yR yV yBP yBS yBW ySix).2.2.2.2.1) ((f_Y_own z1 yPc yMod yLev yLoc yKsp yUsp yKgp yVal yTab ySpc yHal yBuf yMem yR yV yBP yBS yBW ySix).2.2.2.2.2.1) ((f_Y_own z1 yPc yMod yLev yLoc yKsp yUsp yKgp yVal yTab ySpc yHal yBuf yMem yR yV yBP yBS yBW ySix).2.2.2.2.2.2.1) ((f_Y_own z1 yPc yMod yLev yLoc yKsp yUsp yKgp yVal yTab ySpc yHal yBuf yMem yR yV yBP yBS yBW ySix).2.2.2.2.2.2.2.1) ((f_Y_own z1 yPc yMod yLev yLoc yKsp yUsp yKgp yVal yTab ySpc yHal yBuf yMem yR yV yBP yBS yBW ySix).2.2.2.2.2.2.2.2.1) ((f_Y_own z1 yPc yMod yLev yLoc yKsp yUsp yKgp yVal yTab ySpc yHal yBuf yMem yR yV yBP yBS yBW ySix).2.2.2.2.2.2.2.2.2.1) ((f_Y_own z1 yPc yMod yLev yLoc yKsp yUsp yKgp yVal yTab ySpc yHal yBuf yMem yR yV yBP yBS yBW ySix).2.2.2.2.2.2.2.2.2.2.1) yEnt yPen ((f_Y_own z1 yPc yMod yLev yLoc yKsp yUsp yKgp yVal yTab ySpc yHal yBuf yMem yR yV yBP yBS yBW ySix).2.2.2.2.2.2.2.2.2.2.2.1) yHer yWrd yHas yTrp yNon yMem ((f_Y_own z1 yPc yMod yLev yLoc yKsp yUsp yKgp yVal yTab ySpc yHal yBuf yMem yR yV yBP yBS yBW ySix).2.2.2.2.2.2.2.2.2.2.2.2.1) ((f_Y_own z1 yPc yMod yLev yLoc yKsp yUsp yKgp yVal yTab ySpc yHal yBuf yMem yR yV yBP yBS yBW ySix).2.2.2.2.2.2.2.2.2.2.2.2.2.1) yPL yPN ((f_Y_own z1 yPc yMod yLev yLoc yKsp yUsp yKgp yVal yTab ySpc yHal yBuf yMem yR yV yBP yBS yBW ySix).2.2.2.2.2.2.2.2.2.2.2.2.2.2.1) ((f_Y_own z1 yPc yMod yLev yLoc yKsp yUsp yKgp yVal yTab ySpc yHal yBuf yMem yR yV yBP yBS yBW ySix).2.2.2.2.2.2.2.2.2.2.2.2.2.2.2.1) ((f_Y_own z1 yPc yMod yLev yLoc yKsp yUsp yKgp yVal yTab ySpc yHal yBuf yMem yR yV yBP yBS yBW ySix).2.2.2.2.2.2.2.2.2.2.2.2.2.2.2.2.1) ((f_Y_own z1 yPc yMod yLev yLoc yKsp yUsp yKgp yVal yTab ySpc yHal yBuf yMem yR yV yBP yBS yBW ySix).2.2.2.2.2.2.2.2.2.2.2.2.2.2.2.2.2)) (va_A (wY cI cJ qY qYm qYr qYv qYl qYn qYp qYs qYw qY6 yPc yMod yLev yLoc yKsp yUsp yKgp yVal yTab ySpc yHal yEnt yPen yBuf yHer yWrd yHas yTrp yNon yMem yR yV yPL yPN yBP yBS yBW ySix) sz)) 0 0 (va_A (wY cI cJ qY qYm qYr qYv qYl qYn qYp qYs qYw qY6 yPc yMod yLev yLoc yKsp yUsp yKgp yVal yTab ySpc yHal yEnt yPen yBuf yHer yWrd yHas yTrp yNon yMem yR yV yPL yPN yBP yBS yBW ySix) sz) := by
  refine Met.ofW (cc := cY_own) (maxL := 4) (ret := none) (by decide) rfl ?_
  intro p e s m args below meth c s₁ B hml hv
  obtain ⟨rfl, hsz, hP, hK, hD0⟩ := hv
  have hx := B.exec
  have hb := B.bytes
  have hr := B.returns
  have hts : ∀ w ∈ vG, w.before _ s = true := fun w h => atoms_spec (ws := (.code yY_own cY_own 4 none :: vG)) B.pre w (List.mem_cons_of_mem _ h)
  have hown : s.vm.findClass "LongMachineModel" = some m.cls := findClass_of_methodNamed B.named
  have hlocks := B.notSynchronized
  subst hsz
  have hD := hD0.self (sz := s.heap.size)
  generalize hAe : va_A (wY cI cJ qY qYm qYr qYv qYl qYn qYp qYs qYw qY6 yPc yMod yLev yLoc yKsp yUsp yKgp yVal yTab ySpc yHal yEnt yPen yBuf yHer yWrd yHas yTrp yNon yMem yR yV yPL yPN yBP yBS yBW ySix) s.heap.size = A at hD ⊢
  have hA : ∀ q : Nat, s.heap.size ≤ q → A q := fun q h => by rw [← hAe]; exact Or.inr h
  have hS : va_S A s.heap s.heap [] := va_S.rf
  have hl := lv_entry ([.ref qY, .int z1]) (n := 4) (Nat.le_of_ble_eq_true rfl)
  rw [lg_entry_eq]
  generalize (lg_sl ([.ref qY, .int z1]) ++ List.replicate (4 - (lg_sl ([.ref qY, .int z1])).length) Slot.unset).toArray = ls at hl ⊢
  have hl : lv_has ls 4 [(0, .ref qY), (1, .int z1)] := hl
  obtain ⟨u, hu⟩ : ∃ u, u = f_Y_own z1 yPc yMod yLev yLoc yKsp yUsp yKgp yVal yTab ySpc yHal yBuf yMem yR yV yBP yBS yBW ySix := ⟨_, rfl⟩
  rw [← hu]
  unfold f_Y_own at hu
  refine lv_aload_n (pc := 0) hx hb dY_own_0 rfl (lv_at hl 0 rfl) ?_
  refine va_get (D := (dC, dI)) (pc := 1) (ci := 5) (v := .ref qYr) (C := "LongMachineModel") (T := TY) (N := 28) hx hb hts ui_Y hown hK hP 0 rfl rfl 1 (by decide) (hts _ gm_347) (fun _ h9 => h9) rfl dY_own_1 ?_
  refine lv_bipush (pc := 4) (v := (16 : Int32)) hx hb dY_own_4 (by decide) ?_
  refine qa_lald (pc := 6) (k := 16) hx hb hK hP 2 1 rfl rfl (by decide) (qa_in (by decide)) dY_own_6 ?_
  refine lv_lstore_n (pc := 7) (lv' := [(2, .long (yR 16)), (0, .ref qY), (1, .int z1)]) hx hb dY_own_7 rfl hl (by decide) rfl (fun ls hl => ?_)
  refine lv_iload_n (pc := 8) hx hb dY_own_8 rfl (lv_at hl 2 rfl) ?_
  rcases Decidable.em (z1 = (0 : Int32)) with h9_1 | h9_1
  · have hu := hu.trans (if_pos h9_1)
    refine lv_lookup (pc := 9) (tgt := 108) (off := 99) hx hb dY_own_9 (by decide) (by rw [h9_1]; decide) (by decide) ?_
    refine lv_aload_n (pc := 108) hx hb dY_own_108 rfl (lv_at hl 1 rfl) ?_
    refine lv_iconst (pc := 109) (v := (1 : Int32)) hx hb dY_own_109 (by decide) ?_
    refine va_put (D := (dC, dI)) (pc := 110) (ci := 5) (v := .int (1 : Int32)) (ty := .int) (C := "LongMachineModel") (T := TY) (N := 28) hx hb hts ui_Y tyY tyY_ok nmY hown hK hP hD hS 0 rfl rfl 13 (by decide) (hts _ gm_359) (fun _ h9 => h9) rfl (by decide +kernel) rfl rfl (Nat.le_of_ble_eq_true rfl) dY_own_110 (fun H locs hP hD hS => ?_)
    have hP : va_P (dC, dI) vwCl (wY cI cJ qY qYm qYr qYv qYl qYn qYp qYs qYw qY6 yPc yMod yLev yLoc yKsp yUsp yKgp yVal yTab ySpc (1 : Int32) yEnt yPen yBuf yHer yWrd yHas yTrp yNon yMem yR yV yPL yPN yBP yBS yBW ySix) H := hP
    have hD : va_D A (wY cI cJ qY qYm qYr qYv qYl qYn qYp qYs qYw qY6 yPc yMod yLev yLoc yKsp yUsp yKgp yVal yTab ySpc (1 : Int32) yEnt yPen yBuf yHer yWrd yHas yTrp yNon yMem yR yV yPL yPN yBP yBS yBW ySix) := hD
    refine lv_goto (pc := 113) (tgt := 316) hx hb dY_own_113 (by decide) ?_
    subst hu
    exact W.vret hx hb hr (fun t ht hW => ⟨rfl, by rw [ht]; exact hP, hS.F ht⟩) hS.2.2 dY_own_316
  · have hu := hu.trans (if_neg h9_1)
    have n9_0 : ¬ z1 = (0 : Int32) := h9_1
    rcases Decidable.em (z1 = (49 : Int32)) with h9_2 | h9_2
    · have hu := hu.trans (if_pos h9_2)
      refine lv_lookup (pc := 9) (tgt := 241) (off := 232) hx hb dY_own_9 (by decide) (by rw [h9_2]; decide) (by decide) ?_
      refine lv_aload_n (pc := 241) hx hb dY_own_241 rfl (lv_at hl 1 rfl) ?_
      refine lv_lload_n (pc := 242) hx hb dY_own_242 rfl (lv_at hl 0 rfl) ?_
      refine va_put (D := (dC, dI)) (pc := 243) (ci := 5) (v := .long (yR 16)) (ty := .long) (C := "LongMachineModel") (T := TY) (N := 28) hx hb hts ui_Y tyY tyY_ok nmY hown hK hP hD hS 0 rfl rfl 9 (by decide) (hts _ gm_355) (fun _ h9 => h9) rfl (by decide +kernel) rfl rfl (Nat.le_of_ble_eq_true rfl) dY_own_243 (fun H locs hP hD hS => ?_)
      have hP : va_P (dC, dI) vwCl (wY cI cJ qY qYm qYr qYv qYl qYn qYp qYs qYw qY6 yPc yMod yLev yLoc yKsp yUsp yKgp (yR 16) yTab ySpc yHal yEnt yPen yBuf yHer yWrd yHas yTrp yNon yMem yR yV yPL yPN yBP yBS yBW ySix) H := hP
      have hD : va_D A (wY cI cJ qY qYm qYr qYv qYl qYn qYp qYs qYw qY6 yPc yMod yLev yLoc yKsp yUsp yKgp (yR 16) yTab ySpc yHal yEnt yPen yBuf yHer yWrd yHas yTrp yNon yMem yR yV yPL yPN yBP yBS yBW ySix) := hD
      refine lv_goto (pc := 246) (tgt := 316) hx hb dY_own_246 (by decide) ?_
      subst hu
      exact W.vret hx hb hr (fun t ht hW => ⟨rfl, by rw [ht]; exact hP, hS.F ht⟩) hS.2.2 dY_own_316
    · have hu := hu.trans (if_neg h9_2)
      have n9_1 : ¬ z1 = (49 : Int32) := h9_2
      rcases Decidable.em (z1 = (50 : Int32)) with h9_3 | h9_3
      · have hu := hu.trans (if_pos h9_3)
        refine lv_lookup (pc := 9) (tgt := 249) (off := 240) hx hb dY_own_9 (by decide) (by rw [h9_3]; decide) (by decide) ?_
        refine lv_aload_n (pc := 249) hx hb dY_own_249 rfl (lv_at hl 1 rfl) ?_
        refine va_get (D := (dC, dI)) (pc := 250) (ci := 5) (v := .ref qYr) (C := "LongMachineModel") (T := TY) (N := 28) hx hb hts ui_Y hown hK hP 0 rfl rfl 1 (by decide) (hts _ gm_347) (fun _ h9 => h9) rfl dY_own_250 ?_
        refine lv_iconst (pc := 253) (v := (0 : Int32)) hx hb dY_own_253 (by decide) ?_
        refine lv_aload_n (pc := 254) hx hb dY_own_254 rfl (lv_at hl 1 rfl) ?_
        refine va_get (D := (dC, dI)) (pc := 255) (ci := 5) (v := .long yVal) (C := "LongMachineModel") (T := TY) (N := 28) hx hb hts ui_Y hown hK hP 0 rfl rfl 9 (by decide) (hts _ gm_355) (fun _ h9 => h9) rfl dY_own_255 ?_
        refine qa_last (pc := 258) (k := 0) hx hb hK hP hD hS 2 1 rfl rfl (by decide) (qa_in (by decide)) dY_own_258 (fun H locs hP hD hS => ?_)
        have hP : va_P (dC, dI) vwCl (wY cI cJ qY qYm qYr qYv qYl qYn qYp qYs qYw qY6 yPc yMod yLev yLoc yKsp yUsp yKgp yVal yTab ySpc yHal yEnt yPen yBuf yHer yWrd yHas yTrp yNon yMem (vp_updL yR 0 yVal) yV yPL yPN yBP yBS yBW ySix) H := hP
        have hD : va_D A (wY cI cJ qY qYm qYr qYv qYl qYn qYp qYs qYw qY6 yPc yMod yLev yLoc yKsp yUsp yKgp yVal yTab ySpc yHal yEnt yPen yBuf yHer yWrd yHas yTrp yNon yMem (vp_updL yR 0 yVal) yV yPL yPN yBP yBS yBW ySix) := hD
        refine lv_goto (pc := 259) (tgt := 316) hx hb dY_own_259 (by decide) ?_
        subst hu
        exact W.vret hx hb hr (fun t ht hW => ⟨rfl, by rw [ht]; exact hP, hS.F ht⟩) hS.2.2 dY_own_316
      · have hu := hu.trans (if_neg h9_3)
        have n9_2 : ¬ z1 = (50 : Int32) := h9_3
        rcases Decidable.em (z1 = (51 : Int32)) with h9_4 | h9_4
        · have hu := hu.trans (if_pos h9_4)
          refine lv_lookup (pc := 9) (tgt := 262) (off := 253) hx hb dY_own_9 (by decide) (by rw [h9_4]; decide) (by decide) ?_
          refine lv_aload_n (pc := 262) hx hb dY_own_262 rfl (lv_at hl 1 rfl) ?_
          refine lv_iconst (pc := 263) (v := (0 : Int32)) hx hb dY_own_263 (by decide) ?_
          refine va_put (D := (dC, dI)) (pc := 264) (ci := 5) (v := .int (0 : Int32)) (ty := .int) (C := "LongMachineModel") (T := TY) (N := 28) hx hb hts ui_Y tyY tyY_ok nmY hown hK hP hD hS 0 rfl rfl 18 (by decide) (hts _ gm_364) (fun _ h9 => h9) rfl (by decide +kernel) rfl rfl (Nat.le_of_ble_eq_true rfl) dY_own_264 (fun H locs hP hD hS => ?_)
          have hP : va_P (dC, dI) vwCl (wY cI cJ qY qYm qYr qYv qYl qYn qYp qYs qYw qY6 yPc yMod yLev yLoc yKsp yUsp yKgp yVal yTab ySpc yHal yEnt yPen (0 : Int32) yHer yWrd yHas yTrp yNon yMem yR yV yPL yPN yBP yBS yBW ySix) H := hP
          have hD : va_D A (wY cI cJ qY qYm qYr qYv qYl qYn qYp qYs qYw qY6 yPc yMod yLev yLoc yKsp yUsp yKgp yVal yTab ySpc yHal yEnt yPen (0 : Int32) yHer yWrd yHas yTrp yNon yMem yR yV yPL yPN yBP yBS yBW ySix) := hD
          refine lv_goto (pc := 267) (tgt := 316) hx hb dY_own_267 (by decide) ?_
          subst hu
          exact W.vret hx hb hr (fun t ht hW => ⟨rfl, by rw [ht]; exact hP, hS.F ht⟩) hS.2.2 dY_own_316
        · have hu := hu.trans (if_neg h9_4)
          have n9_3 : ¬ z1 = (51 : Int32) := h9_4
          rcases Decidable.em (z1 = (52 : Int32)) with h9_5 | h9_5
          · have hu := hu.trans (if_pos h9_5)
            refine lv_lookup (pc := 9) (tgt := 123) (off := 114) hx hb dY_own_9 (by decide) (by rw [h9_5]; decide) (by decide) ?_
            refine lv_aload_n (pc := 123) hx hb dY_own_123 rfl (lv_at hl 1 rfl) ?_
            refine va_get (D := (dC, dI)) (pc := 124) (ci := 5) (v := .ref qYr) (C := "LongMachineModel") (T := TY) (N := 28) hx hb hts ui_Y hown hK hP 0 rfl rfl 1 (by decide) (hts _ gm_347) (fun _ h9 => h9) rfl dY_own_124 ?_
            refine lv_bipush (pc := 127) (v := (17 : Int32)) hx hb dY_own_127 (by decide) ?_
            refine qa_lald (pc := 129) (k := 17) hx hb hK hP 2 1 rfl rfl (by decide) (qa_in (by decide)) dY_own_129 ?_
            refine lv_ldc2 (pc := 130) (v := (7 : Int64)) hx hb hown (hts _ gm_466) dY_own_130 ?_
            refine lv_land (pc := 133) hx hb dY_own_133 ?_
            refine lv_ldc2 (pc := 134) (v := (6 : Int64)) hx hb hown (hts _ gm_468) dY_own_134 ?_
            refine qa_lc_ge (pc := 137) (tgt := 316) hx hb dY_own_137 dY_own_138 (by decide) (fun h137_6 => ?_) (fun h137_6 => ?_)
            · have hu := hu.trans (if_pos h137_6)
              subst hu
              exact W.vret hx hb hr (fun t ht hW => ⟨rfl, by rw [ht]; exact hP, hS.F ht⟩) hS.2.2 dY_own_316
            · have hu := hu.trans (if_neg h137_6)
              refine lv_aload_n (pc := 141) hx hb dY_own_141 rfl (lv_at hl 1 rfl) ?_
              refine va_get (D := (dC, dI)) (pc := 142) (ci := 5) (v := .ref qYv) (C := "LongMachineModel") (T := TY) (N := 28) hx hb hts ui_Y hown hK hP 0 rfl rfl 12 (by decide) (hts _ gm_358) (fun _ h9 => h9) rfl dY_own_142 ?_
              refine lv_aload_n (pc := 145) hx hb dY_own_145 rfl (lv_at hl 1 rfl) ?_
              refine va_get (D := (dC, dI)) (pc := 146) (ci := 5) (v := .ref qYr) (C := "LongMachineModel") (T := TY) (N := 28) hx hb hts ui_Y hown hK hP 0 rfl rfl 1 (by decide) (hts _ gm_347) (fun _ h9 => h9) rfl dY_own_146 ?_
              refine lv_bipush (pc := 149) (v := (17 : Int32)) hx hb dY_own_149 (by decide) ?_
              refine qa_lald (pc := 151) (k := 17) hx hb hK hP 2 1 rfl rfl (by decide) (qa_in (by decide)) dY_own_151 ?_
              refine lv_ldc2 (pc := 152) (v := (7 : Int64)) hx hb hown (hts _ gm_466) dY_own_152 ?_
              refine lv_land (pc := 155) hx hb dY_own_155 ?_
              refine lv_l2i (pc := 156) (v := (Int64.toInt32 ((yR 17) &&& (7 : Int64)))) hx hb dY_own_156 rfl ?_
              refine lv_lload_n (pc := 157) hx hb dY_own_157 rfl (lv_at hl 0 rfl) ?_
              refine lv_ldc2 (pc := 158) (v := (-4 : Int64)) hx hb hown (hts _ gm_467) dY_own_158 ?_
              refine lv_land (pc := 161) hx hb dY_own_161 ?_
              refine qa_last (pc := 162) (k := (Int32.toNatClampNeg (Int64.toInt32 ((yR 17) &&& (7 : Int64))))) hx hb hK hP hD hS 3 1 rfl rfl rfl (ry_vec h137_6) dY_own_162 (fun H locs hP hD hS => ?_)
              have hP : va_P (dC, dI) vwCl (wY cI cJ qY qYm qYr qYv qYl qYn qYp qYs qYw qY6 yPc yMod yLev yLoc yKsp yUsp yKgp yVal yTab ySpc yHal yEnt yPen yBuf yHer yWrd yHas yTrp yNon yMem yR (vp_updL yV (Int32.toNatClampNeg (Int64.toInt32 ((yR 17) &&& (7 : Int64)))) ((yR 16) &&& (-4 : Int64))) yPL yPN yBP yBS yBW ySix) H := hP
              have hD : va_D A (wY cI cJ qY qYm qYr qYv qYl qYn qYp qYs qYw qY6 yPc yMod yLev yLoc yKsp yUsp yKgp yVal yTab ySpc yHal yEnt yPen yBuf yHer yWrd yHas yTrp yNon yMem yR (vp_updL yV (Int32.toNatClampNeg (Int64.toInt32 ((yR 17) &&& (7 : Int64)))) ((yR 16) &&& (-4 : Int64))) yPL yPN yBP yBS yBW ySix) := hD
              refine lv_goto (pc := 163) (tgt := 316) hx hb dY_own_163 (by decide) ?_
              subst hu
              exact W.vret hx hb hr (fun t ht hW => ⟨rfl, by rw [ht]; exact hP, hS.F ht⟩) hS.2.2 dY_own_316
          · have hu := hu.trans (if_neg h9_5)
            have n9_4 : ¬ z1 = (52 : Int32) := h9_5
            rcases Decidable.em (z1 = (53 : Int32)) with h9_7 | h9_7
            · have hu := hu.trans (if_pos h9_7)
              refine lv_lookup (pc := 9) (tgt := 166) (off := 157) hx hb dY_own_9 (by decide) (by rw [h9_7]; decide) (by decide) ?_
              refine lv_aload_n (pc := 166) hx hb dY_own_166 rfl (lv_at hl 1 rfl) ?_
              refine va_get (D := (dC, dI)) (pc := 167) (ci := 5) (v := .ref qYr) (C := "LongMachineModel") (T := TY) (N := 28) hx hb hts ui_Y hown hK hP 0 rfl rfl 1 (by decide) (hts _ gm_347) (fun _ h9 => h9) rfl dY_own_167 ?_
              refine lv_iconst (pc := 170) (v := (0 : Int32)) hx hb dY_own_170 (by decide) ?_
              refine lv_aload_n (pc := 171) hx hb dY_own_171 rfl (lv_at hl 1 rfl) ?_
              refine va_get (D := (dC, dI)) (pc := 172) (ci := 5) (v := .int yLev) (C := "LongMachineModel") (T := TY) (N := 28) hx hb hts ui_Y hown hK hP 0 rfl rfl 4 (by decide) (hts _ gm_350) (fun _ h9 => h9) rfl dY_own_172 ?_
              refine lv_i2l (pc := 175) (v := (Int32.toInt64 yLev)) hx hb dY_own_175 rfl ?_
              refine qa_last (pc := 176) (k := 0) hx hb hK hP hD hS 2 1 rfl rfl (by decide) (qa_in (by decide)) dY_own_176 (fun H locs hP hD hS => ?_)
              have hP : va_P (dC, dI) vwCl (wY cI cJ qY qYm qYr qYv qYl qYn qYp qYs qYw qY6 yPc yMod yLev yLoc yKsp yUsp yKgp yVal yTab ySpc yHal yEnt yPen yBuf yHer yWrd yHas yTrp yNon yMem (vp_updL yR 0 (Int32.toInt64 yLev)) yV yPL yPN yBP yBS yBW ySix) H := hP
              have hD : va_D A (wY cI cJ qY qYm qYr qYv qYl qYn qYp qYs qYw qY6 yPc yMod yLev yLoc yKsp yUsp yKgp yVal yTab ySpc yHal yEnt yPen yBuf yHer yWrd yHas yTrp yNon yMem (vp_updL yR 0 (Int32.toInt64 yLev)) yV yPL yPN yBP yBS yBW ySix) := hD
              refine lv_aload_n (pc := 177) hx hb dY_own_177 rfl (lv_at hl 1 rfl) ?_
              refine lv_lload_n (pc := 178) hx hb dY_own_178 rfl (lv_at hl 0 rfl) ?_
              refine lv_ldc2 (pc := 179) (v := (7 : Int64)) hx hb hown (hts _ gm_466) dY_own_179 ?_
              refine lv_land (pc := 182) hx hb dY_own_182 ?_
              refine lv_l2i (pc := 183) (v := (Int64.toInt32 ((yR 16) &&& (7 : Int64)))) hx hb dY_own_183 rfl ?_
              refine va_put (D := (dC, dI)) (pc := 184) (ci := 5) (v := .int (Int64.toInt32 ((yR 16) &&& (7 : Int64)))) (ty := .int) (C := "LongMachineModel") (T := TY) (N := 28) hx hb hts ui_Y tyY tyY_ok nmY hown hK hP hD hS 0 rfl rfl 4 (by decide) (hts _ gm_350) (fun _ h9 => h9) rfl (by decide +kernel) rfl rfl (Nat.le_of_ble_eq_true rfl) dY_own_184 (fun H locs hP hD hS => ?_)
              have hP : va_P (dC, dI) vwCl (wY cI cJ qY qYm qYr qYv qYl qYn qYp qYs qYw qY6 yPc yMod (Int64.toInt32 ((yR 16) &&& (7 : Int64))) yLoc yKsp yUsp yKgp yVal yTab ySpc yHal yEnt yPen yBuf yHer yWrd yHas yTrp yNon yMem (vp_updL yR 0 (Int32.toInt64 yLev)) yV yPL yPN yBP yBS yBW ySix) H := hP
              have hD : va_D A (wY cI cJ qY qYm qYr qYv qYl qYn qYp qYs qYw qY6 yPc yMod (Int64.toInt32 ((yR 16) &&& (7 : Int64))) yLoc yKsp yUsp yKgp yVal yTab ySpc yHal yEnt yPen yBuf yHer yWrd yHas yTrp yNon yMem (vp_updL yR 0 (Int32.toInt64 yLev)) yV yPL yPN yBP yBS yBW ySix) := hD
              refine lv_goto (pc := 187) (tgt := 316) hx hb dY_own_187 (by decide) ?_
              subst hu
              exact W.vret hx hb hr (fun t ht hW => ⟨rfl, by rw [ht]; exact hP, hS.F ht⟩) hS.2.2 dY_own_316
            · have hu := hu.trans (if_neg h9_7)
              have n9_5 : ¬ z1 = (53 : Int32) := h9_7
              rcases Decidable.em (z1 = (54 : Int32)) with h9_8 | h9_8
              · have hu := hu.trans (if_pos h9_8)
                refine lv_lookup (pc := 9) (tgt := 190) (off := 181) hx hb dY_own_9 (by decide) (by rw [h9_8]; decide) (by decide) ?_
                refine lv_aload_n (pc := 190) hx hb dY_own_190 rfl (lv_at hl 1 rfl) ?_
                refine va_get (D := (dC, dI)) (pc := 191) (ci := 5) (v := .ref qYr) (C := "LongMachineModel") (T := TY) (N := 28) hx hb hts ui_Y hown hK hP 0 rfl rfl 1 (by decide) (hts _ gm_347) (fun _ h9 => h9) rfl dY_own_191 ?_
                refine lv_iconst (pc := 194) (v := (0 : Int32)) hx hb dY_own_194 (by decide) ?_
                refine lv_bipush (pc := 195) (v := (8 : Int32)) hx hb dY_own_195 (by decide) ?_
                refine lv_aload_n (pc := 197) hx hb dY_own_197 rfl (lv_at hl 1 rfl) ?_
                refine va_get (D := (dC, dI)) (pc := 198) (ci := 5) (v := .int yMod) (C := "LongMachineModel") (T := TY) (N := 28) hx hb hts ui_Y hown hK hP 0 rfl rfl 3 (by decide) (hts _ gm_349) (fun _ h9 => h9) rfl dY_own_198 ?_
                refine lv_imul (pc := 201) hx hb dY_own_201 ?_
                refine lv_aload_n (pc := 202) hx hb dY_own_202 rfl (lv_at hl 1 rfl) ?_
                refine va_get (D := (dC, dI)) (pc := 203) (ci := 5) (v := .int yLev) (C := "LongMachineModel") (T := TY) (N := 28) hx hb hts ui_Y hown hK hP 0 rfl rfl 4 (by decide) (hts _ gm_350) (fun _ h9 => h9) rfl dY_own_203 ?_
                refine lv_iadd (pc := 206) hx hb dY_own_206 ?_
                refine lv_i2l (pc := 207) (v := (Int32.toInt64 (((8 : Int32) * yMod) + yLev))) hx hb dY_own_207 rfl ?_
                refine qa_last (pc := 208) (k := 0) hx hb hK hP hD hS 2 1 rfl rfl (by decide) (qa_in (by decide)) dY_own_208 (fun H locs hP hD hS => ?_)
                have hP : va_P (dC, dI) vwCl (wY cI cJ qY qYm qYr qYv qYl qYn qYp qYs qYw qY6 yPc yMod yLev yLoc yKsp yUsp yKgp yVal yTab ySpc yHal yEnt yPen yBuf yHer yWrd yHas yTrp yNon yMem (vp_updL yR 0 (Int32.toInt64 (((8 : Int32) * yMod) + yLev))) yV yPL yPN yBP yBS yBW ySix) H := hP
                have hD : va_D A (wY cI cJ qY qYm qYr qYv qYl qYn qYp qYs qYw qY6 yPc yMod yLev yLoc yKsp yUsp yKgp yVal yTab ySpc yHal yEnt yPen yBuf yHer yWrd yHas yTrp yNon yMem (vp_updL yR 0 (Int32.toInt64 (((8 : Int32) * yMod) + yLev))) yV yPL yPN yBP yBS yBW ySix) := hD
                refine lv_goto (pc := 209) (tgt := 316) hx hb dY_own_209 (by decide) ?_
                subst hu
                exact W.vret hx hb hr (fun t ht hW => ⟨rfl, by rw [ht]; exact hP, hS.F ht⟩) hS.2.2 dY_own_316
              · have hu := hu.trans (if_neg h9_8)
                have n9_6 : ¬ z1 = (54 : Int32) := h9_8
                rcases Decidable.em (z1 = (55 : Int32)) with h9_9 | h9_9
                · have hu := hu.trans (if_pos h9_9)
                  refine lv_lookup (pc := 9) (tgt := 212) (off := 203) hx hb dY_own_9 (by decide) (by rw [h9_9]; decide) (by decide) ?_
                  refine lv_aload_n (pc := 212) hx hb dY_own_212 rfl (lv_at hl 1 rfl) ?_
                  refine lv_lload_n (pc := 213) hx hb dY_own_213 rfl (lv_at hl 0 rfl) ?_
                  refine va_put (D := (dC, dI)) (pc := 214) (ci := 5) (v := .long (yR 16)) (ty := .long) (C := "LongMachineModel") (T := TY) (N := 28) hx hb hts ui_Y tyY tyY_ok nmY hown hK hP hD hS 0 rfl rfl 8 (by decide) (hts _ gm_354) (fun _ h9 => h9) rfl (by decide +kernel) rfl rfl (Nat.le_of_ble_eq_true rfl) dY_own_214 (fun H locs hP hD hS => ?_)
                  have hP : va_P (dC, dI) vwCl (wY cI cJ qY qYm qYr qYv qYl qYn qYp qYs qYw qY6 yPc yMod yLev yLoc yKsp yUsp (yR 16) yVal yTab ySpc yHal yEnt yPen yBuf yHer yWrd yHas yTrp yNon yMem yR yV yPL yPN yBP yBS yBW ySix) H := hP
                  have hD : va_D A (wY cI cJ qY qYm qYr qYv qYl qYn qYp qYs qYw qY6 yPc yMod yLev yLoc yKsp yUsp (yR 16) yVal yTab ySpc yHal yEnt yPen yBuf yHer yWrd yHas yTrp yNon yMem yR yV yPL yPN yBP yBS yBW ySix) := hD
                  refine lv_goto (pc := 217) (tgt := 316) hx hb dY_own_217 (by decide) ?_
                  subst hu
                  exact W.vret hx hb hr (fun t ht hW => ⟨rfl, by rw [ht]; exact hP, hS.F ht⟩) hS.2.2 dY_own_316
                · have hu := hu.trans (if_neg h9_9)
                  have n9_7 : ¬ z1 = (55 : Int32) := h9_9
                  rcases Decidable.em (z1 = (56 : Int32)) with h9_10 | h9_10
                  · have hu := hu.trans (if_pos h9_10)
                    refine lv_lookup (pc := 9) (tgt := 220) (off := 211) hx hb dY_own_9 (by decide) (by rw [h9_10]; decide) (by decide) ?_
                    refine lv_aload_n (pc := 220) hx hb dY_own_220 rfl (lv_at hl 1 rfl) ?_
                    refine lv_lload_n (pc := 221) hx hb dY_own_221 rfl (lv_at hl 0 rfl) ?_
                    refine va_put (D := (dC, dI)) (pc := 222) (ci := 5) (v := .long (yR 16)) (ty := .long) (C := "LongMachineModel") (T := TY) (N := 28) hx hb hts ui_Y tyY tyY_ok nmY hown hK hP hD hS 0 rfl rfl 7 (by decide) (hts _ gm_353) (fun _ h9 => h9) rfl (by decide +kernel) rfl rfl (Nat.le_of_ble_eq_true rfl) dY_own_222 (fun H locs hP hD hS => ?_)
                    have hP : va_P (dC, dI) vwCl (wY cI cJ qY qYm qYr qYv qYl qYn qYp qYs qYw qY6 yPc yMod yLev yLoc yKsp (yR 16) yKgp yVal yTab ySpc yHal yEnt yPen yBuf yHer yWrd yHas yTrp yNon yMem yR yV yPL yPN yBP yBS yBW ySix) H := hP
                    have hD : va_D A (wY cI cJ qY qYm qYr qYv qYl qYn qYp qYs qYw qY6 yPc yMod yLev yLoc yKsp (yR 16) yKgp yVal yTab ySpc yHal yEnt yPen yBuf yHer yWrd yHas yTrp yNon yMem yR yV yPL yPN yBP yBS yBW ySix) := hD
                    refine lv_goto (pc := 225) (tgt := 316) hx hb dY_own_225 (by decide) ?_
                    subst hu
                    exact W.vret hx hb hr (fun t ht hW => ⟨rfl, by rw [ht]; exact hP, hS.F ht⟩) hS.2.2 dY_own_316
                  · have hu := hu.trans (if_neg h9_10)
                    have n9_8 : ¬ z1 = (56 : Int32) := h9_10
                    rcases Decidable.em (z1 = (58 : Int32)) with h9_11 | h9_11
                    · have hu := hu.trans (if_pos h9_11)
                      refine lv_lookup (pc := 9) (tgt := 228) (off := 219) hx hb dY_own_9 (by decide) (by rw [h9_11]; decide) (by decide) ?_
                      refine lv_aload_n (pc := 228) hx hb dY_own_228 rfl (lv_at hl 1 rfl) ?_
                      refine va_get (D := (dC, dI)) (pc := 229) (ci := 5) (v := .ref qYr) (C := "LongMachineModel") (T := TY) (N := 28) hx hb hts ui_Y hown hK hP 0 rfl rfl 1 (by decide) (hts _ gm_347) (fun _ h9 => h9) rfl dY_own_229 ?_
                      refine lv_iconst (pc := 232) (v := (0 : Int32)) hx hb dY_own_232 (by decide) ?_
                      refine lv_aload_n (pc := 233) hx hb dY_own_233 rfl (lv_at hl 1 rfl) ?_
                      refine va_get (D := (dC, dI)) (pc := 234) (ci := 5) (v := .long yUsp) (C := "LongMachineModel") (T := TY) (N := 28) hx hb hts ui_Y hown hK hP 0 rfl rfl 7 (by decide) (hts _ gm_353) (fun _ h9 => h9) rfl dY_own_234 ?_
                      refine qa_last (pc := 237) (k := 0) hx hb hK hP hD hS 2 1 rfl rfl (by decide) (qa_in (by decide)) dY_own_237 (fun H locs hP hD hS => ?_)
                      have hP : va_P (dC, dI) vwCl (wY cI cJ qY qYm qYr qYv qYl qYn qYp qYs qYw qY6 yPc yMod yLev yLoc yKsp yUsp yKgp yVal yTab ySpc yHal yEnt yPen yBuf yHer yWrd yHas yTrp yNon yMem (vp_updL yR 0 yUsp) yV yPL yPN yBP yBS yBW ySix) H := hP
                      have hD : va_D A (wY cI cJ qY qYm qYr qYv qYl qYn qYp qYs qYw qY6 yPc yMod yLev yLoc yKsp yUsp yKgp yVal yTab ySpc yHal yEnt yPen yBuf yHer yWrd yHas yTrp yNon yMem (vp_updL yR 0 yUsp) yV yPL yPN yBP yBS yBW ySix) := hD
                      refine lv_goto (pc := 238) (tgt := 316) hx hb dY_own_238 (by decide) ?_
                      subst hu
                      exact W.vret hx hb hr (fun t ht hW => ⟨rfl, by rw [ht]; exact hP, hS.F ht⟩) hS.2.2 dY_own_316
                    · have hu := hu.trans (if_neg h9_11)
                      have n9_9 : ¬ z1 = (58 : Int32) := h9_11
                      rcases Decidable.em (z1 = (63 : Int32)) with h9_12 | h9_12
                      · have hu := hu.trans (if_pos h9_12)
                        refine lv_lookup (pc := 9) (tgt := 116) (off := 107) hx hb dY_own_9 (by decide) (by rw [h9_12]; decide) (by decide) ?_
                        refine lv_aload_n (pc := 116) hx hb dY_own_116 rfl (lv_at hl 1 rfl) ?_
                        have hc := c_Y_back l dC dI cI cJ qY qYm qYr qYv qYl qYn qYp qYs qYw qY6 s.heap.size yPc yMod yLev yLoc yKsp yUsp yKgp yVal yTab ySpc yHal yEnt yPen yBuf yHer yWrd yHas yTrp yNon yMem yR yV yPL yPN yBP yBS yBW ySix hy0 hy4 ht0 ht1
                        generalize er117_1 : f_Y_back yPc yMod yLev yLoc yKsp yUsp yTab ySpc yHal yBuf yMem yR yBP yBS yBW ySix = r117_1 at hu hc
                        unfold f_Y_own_K117_1 at hu
                        refine qa_callv (pc := 117) (wr := []) (wf := (wY cI cJ qY qYm qYr qYv qYl qYn qYp qYs qYw qY6 r117_1.1 r117_1.2.1 r117_1.2.2.1 r117_1.2.2.2.1 r117_1.2.2.2.2.1 yUsp yKgp yVal yTab ySpc r117_1.2.2.2.2.2.1 yEnt yPen r117_1.2.2.2.2.2.2.1 yHer yWrd yHas yTrp yNon yMem r117_1.2.2.2.2.2.2.2.1 yV yPL yPN r117_1.2.2.2.2.2.2.2.2.1 r117_1.2.2.2.2.2.2.2.2.2.1 r117_1.2.2.2.2.2.2.2.2.2.2.1 r117_1.2.2.2.2.2.2.2.2.2.2.2)) (va_runV (As := []) (rest := []) ⟨hx, hb, hml, hown, hts⟩ hc (cwV 0 hts (gd_V gm_465 gm_463 gm_464 gm_590 gm_6) rfl rfl rfl (by decide +kernel) ⟨Nat.le_of_ble_eq_true rfl, Nat.le_of_ble_eq_true rfl⟩) (qa_VM (q0 := 0) (q := ("LongMachineModel", TY, 28)) hK hP rfl rfl hP hD) rfl rfl hl.1 rfl (lv_room (Nat.le_of_ble_eq_true rfl)) dY_own_117 ⟨Nat.zero_le _, Nat.zero_le _⟩) hP hD hS hA [0, 1, 2, 3, 4, 5, 6, 7, 8, 9] [] [0, 1, 2, 3, 4, 5, 6, 7, 8, 9] rfl (by decide) rfl (by decide) (by decide) rfl rfl (by decide) (fun H locs hP hD hS => ?_)
                        refine lv_goto (pc := 120) (tgt := 316) hx hb dY_own_120 (by decide) ?_
                        subst hu
                        exact W.vret hx hb hr (fun t ht hW => ⟨rfl, by rw [ht]; exact hP, hS.F ht⟩) hS.2.2 dY_own_316
                      · have hu := hu.trans (if_neg h9_12)
                        have n9_10 : ¬ z1 = (63 : Int32) := h9_12
                        refine lv_lookup (pc := 9) (tgt := 270) (off := 261) hx hb dY_own_9 (by decide) ((lv_osw n9_0 (by decide)).trans ((lv_osw n9_1 (by decide)).trans ((lv_osw n9_2 (by decide)).trans ((lv_osw n9_3 (by decide)).trans ((lv_osw n9_4 (by decide)).trans ((lv_osw n9_5 (by decide)).trans ((lv_osw n9_6 (by decide)).trans ((lv_osw n9_7 (by decide)).trans ((lv_osw n9_8 (by decide)).trans ((lv_osw n9_9 (by decide)).trans ((lv_osw n9_10 (by decide)).trans (rfl)))))))))))) (by decide) ?_
                        refine lv_aload_n (pc := 270) hx hb dY_own_270 rfl (lv_at hl 1 rfl) ?_
                        refine va_get (D := (dC, dI)) (pc := 271) (ci := 5) (v := .ref qYr) (C := "LongMachineModel") (T := TY) (N := 28) hx hb hts ui_Y hown hK hP 0 rfl rfl 1 (by decide) (hts _ gm_347) (fun _ h9 => h9) rfl dY_own_271 ?_
                        refine lv_iconst (pc := 274) (v := (0 : Int32)) hx hb dY_own_274 (by decide) ?_
                        refine lv_sipush (pc := 275) (v := (256 : Int32)) hx hb dY_own_275 (by decide) ?_
                        refine lv_aload_n (pc := 278) hx hb dY_own_278 rfl (lv_at hl 1 rfl) ?_
                        refine va_get (D := (dC, dI)) (pc := 279) (ci := 5) (v := .int ySpc) (C := "LongMachineModel") (T := TY) (N := 28) hx hb hts ui_Y hown hK hP 0 rfl rfl 11 (by decide) (hts _ gm_357) (fun _ h9 => h9) rfl dY_own_279 ?_
                        refine lv_imul (pc := 282) hx hb dY_own_282 ?_
                        refine lv_aload_n (pc := 283) hx hb dY_own_283 rfl (lv_at hl 1 rfl) ?_
                        refine va_get (D := (dC, dI)) (pc := 284) (ci := 5) (v := .int yTab) (C := "LongMachineModel") (T := TY) (N := 28) hx hb hts ui_Y hown hK hP 0 rfl rfl 10 (by decide) (hts _ gm_356) (fun _ h9 => h9) rfl dY_own_284 ?_
                        refine lv_iadd (pc := 287) hx hb dY_own_287 ?_
                        refine lv_i2l (pc := 288) (v := (Int32.toInt64 (((256 : Int32) * ySpc) + yTab))) hx hb dY_own_288 rfl ?_
                        refine qa_last (pc := 289) (k := 0) hx hb hK hP hD hS 2 1 rfl rfl (by decide) (qa_in (by decide)) dY_own_289 (fun H locs hP hD hS => ?_)
                        have hP : va_P (dC, dI) vwCl (wY cI cJ qY qYm qYr qYv qYl qYn qYp qYs qYw qY6 yPc yMod yLev yLoc yKsp yUsp yKgp yVal yTab ySpc yHal yEnt yPen yBuf yHer yWrd yHas yTrp yNon yMem (vp_updL yR 0 (Int32.toInt64 (((256 : Int32) * ySpc) + yTab))) yV yPL yPN yBP yBS yBW ySix) H := hP
                        have hD : va_D A (wY cI cJ qY qYm qYr qYv qYl qYn qYp qYs qYw qY6 yPc yMod yLev yLoc yKsp yUsp yKgp yVal yTab ySpc yHal yEnt yPen yBuf yHer yWrd yHas yTrp yNon yMem (vp_updL yR 0 (Int32.toInt64 (((256 : Int32) * ySpc) + yTab))) yV yPL yPN yBP yBS yBW ySix) := hD
                        refine lv_aload_n (pc := 290) hx hb dY_own_290 rfl (lv_at hl 1 rfl) ?_
                        refine lv_lload_n (pc := 291) hx hb dY_own_291 rfl (lv_at hl 0 rfl) ?_
                        refine lv_ldc2 (pc := 292) (v := (4064 : Int64)) hx hb hown (hts _ gm_469) dY_own_292 ?_
                        refine lv_land (pc := 295) hx hb dY_own_295 ?_
                        refine lv_l2i (pc := 296) (v := (Int64.toInt32 ((yR 16) &&& (4064 : Int64)))) hx hb dY_own_296 rfl ?_
                        refine va_put (D := (dC, dI)) (pc := 297) (ci := 5) (v := .int (Int64.toInt32 ((yR 16) &&& (4064 : Int64)))) (ty := .int) (C := "LongMachineModel") (T := TY) (N := 28) hx hb hts ui_Y tyY tyY_ok nmY hown hK hP hD hS 0 rfl rfl 10 (by decide) (hts _ gm_356) (fun _ h9 => h9) rfl (by decide +kernel) rfl rfl (Nat.le_of_ble_eq_true rfl) dY_own_297 (fun H locs hP hD hS => ?_)
                        have hP : va_P (dC, dI) vwCl (wY cI cJ qY qYm qYr qYv qYl qYn qYp qYs qYw qY6 yPc yMod yLev yLoc yKsp yUsp yKgp yVal (Int64.toInt32 ((yR 16) &&& (4064 : Int64))) ySpc yHal yEnt yPen yBuf yHer yWrd yHas yTrp yNon yMem (vp_updL yR 0 (Int32.toInt64 (((256 : Int32) * ySpc) + yTab))) yV yPL yPN yBP yBS yBW ySix) H := hP
                        have hD : va_D A (wY cI cJ qY qYm qYr qYv qYl qYn qYp qYs qYw qY6 yPc yMod yLev yLoc yKsp yUsp yKgp yVal (Int64.toInt32 ((yR 16) &&& (4064 : Int64))) ySpc yHal yEnt yPen yBuf yHer yWrd yHas yTrp yNon yMem (vp_updL yR 0 (Int32.toInt64 (((256 : Int32) * ySpc) + yTab))) yV yPL yPN yBP yBS yBW ySix) := hD
                        refine lv_aload_n (pc := 300) hx hb dY_own_300 rfl (lv_at hl 1 rfl) ?_
                        refine lv_aload_n (pc := 301) hx hb dY_own_301 rfl (lv_at hl 1 rfl) ?_
                        refine va_get (D := (dC, dI)) (pc := 302) (ci := 5) (v := .ref qYr) (C := "LongMachineModel") (T := TY) (N := 28) hx hb hts ui_Y hown hK hP 0 rfl rfl 1 (by decide) (hts _ gm_347) (fun _ h9 => h9) rfl dY_own_302 ?_
                        refine lv_bipush (pc := 305) (v := (17 : Int32)) hx hb dY_own_305 (by decide) ?_
                        refine qa_lald (pc := 307) (k := 17) hx hb hK hP 2 1 rfl rfl (by decide) (qa_in (by decide)) dY_own_307 ?_
                        refine lv_ldc2 (pc := 308) (v := (255 : Int64)) hx hb hown (hts _ gm_448) dY_own_308 ?_
                        refine lv_land (pc := 311) hx hb dY_own_311 ?_
                        refine lv_l2i (pc := 312) (v := (Int64.toInt32 (((vp_updL yR 0 (Int32.toInt64 (((256 : Int32) * ySpc) + yTab))) 17) &&& (255 : Int64)))) hx hb dY_own_312 rfl ?_
                        refine va_put (D := (dC, dI)) (pc := 313) (ci := 5) (v := .int (Int64.toInt32 (((vp_updL yR 0 (Int32.toInt64 (((256 : Int32) * ySpc) + yTab))) 17) &&& (255 : Int64)))) (ty := .int) (C := "LongMachineModel") (T := TY) (N := 28) hx hb hts ui_Y tyY tyY_ok nmY hown hK hP hD hS 0 rfl rfl 11 (by decide) (hts _ gm_357) (fun _ h9 => h9) rfl (by decide +kernel) rfl rfl (Nat.le_of_ble_eq_true rfl) dY_own_313 (fun H locs hP hD hS => ?_)
                        have hP : va_P (dC, dI) vwCl (wY cI cJ qY qYm qYr qYv qYl qYn qYp qYs qYw qY6 yPc yMod yLev yLoc yKsp yUsp yKgp yVal (Int64.toInt32 ((yR 16) &&& (4064 : Int64))) (Int64.toInt32 (((vp_updL yR 0 (Int32.toInt64 (((256 : Int32) * ySpc) + yTab))) 17) &&& (255 : Int64))) yHal yEnt yPen yBuf yHer yWrd yHas yTrp yNon yMem (vp_updL yR 0 (Int32.toInt64 (((256 : Int32) * ySpc) + yTab))) yV yPL yPN yBP yBS yBW ySix) H := hP
                        have hD : va_D A (wY cI cJ qY qYm qYr qYv qYl qYn qYp qYs qYw qY6 yPc yMod yLev yLoc yKsp yUsp yKgp yVal (Int64.toInt32 ((yR 16) &&& (4064 : Int64))) (Int64.toInt32 (((vp_updL yR 0 (Int32.toInt64 (((256 : Int32) * ySpc) + yTab))) 17) &&& (255 : Int64))) yHal yEnt yPen yBuf yHer yWrd yHas yTrp yNon yMem (vp_updL yR 0 (Int32.toInt64 (((256 : Int32) * ySpc) + yTab))) yV yPL yPN yBP yBS yBW ySix) := hD
                        subst hu
                        exact W.vret hx hb hr (fun t ht hW => ⟨rfl, by rw [ht]; exact hP, hS.F ht⟩) hS.2.2 dY_own_316
def f_Y_call_K48_1 (yLev : Int32) (yKsp : Int64) (yKgp : Int64) (yVal : Int64) (yTab : Int32) (ySpc : Int32) (yV : (Nat → Int64)) (r48_1 : Int64 × Int32 × Int32 × Int64 × Int32 × Int32 × Int32 × (Nat → Int32) × (Nat → Int64) × (Nat → Int32) × (Nat → Int32) × (Nat → Int64) × (Nat → Int64)) : Int64 × Int32 × Int32 × Int32 × Int64 × Int64 × Int64 × Int64 × Int32 × Int32 × Int32 × Int32 × Int32 × (Nat → Int32) × (Nat → Int64) × (Nat → Int64) × (Nat → Int32) × (Nat → Int32) × (Nat → Int64) × (Nat → Int64) := (r48_1.1, r48_1.2.1, yLev, r48_1.2.2.1, yKsp, r48_1.2.2.2.1, yKgp, yVal, yTab, ySpc, r48_1.2.2.2.2.1, r48_1.2.2.2.2.2.1, r48_1.2.2.2.2.2.2.1, r48_1.2.2.2.2.2.2.2.1, r48_1.2.2.2.2.2.2.2.2.1, yV, r48_1.2.2.2.2.2.2.2.2.2.1, r48_1.2.2.2.2.2.2.2.2.2.2.1, r48_1.2.2.2.2.2.2.2.2.2.2.2.1, r48_1.2.2.2.2.2.2.2.2.2.2.2.2)
def f_Y_call_K48_2 (yLev : Int32) (yKsp : Int64) (yKgp : Int64) (yVal : Int64) (yTab : Int32) (ySpc : Int32) (yV : (Nat → Int64)) (r48_2 : Int64 × Int32 × Int32 × Int64 × Int32 × Int32 × Int32 × (Nat → Int32) × (Nat → Int64) × (Nat → Int32) × (Nat → Int32) × (Nat → Int64) × (Nat → Int64)) : Int64 × Int32 × Int32 × Int32 × Int64 × Int64 × Int64 × Int64 × Int32 × Int32 × Int32 × Int32 × Int32 × (Nat → Int32) × (Nat → Int64) × (Nat → Int64) × (Nat → Int32) × (Nat → Int32) × (Nat → Int64) × (Nat → Int64) := (r48_2.1, r48_2.2.1, yLev, r48_2.2.2.1, yKsp, r48_2.2.2.2.1, yKgp, yVal, yTab, ySpc, r48_2.2.2.2.2.1, r48_2.2.2.2.2.2.1, r48_2.2.2.2.2.2.2.1, r48_2.2.2.2.2.2.2.2.1, r48_2.2.2.2.2.2.2.2.2.1, yV, r48_2.2.2.2.2.2.2.2.2.2.1, r48_2.2.2.2.2.2.2.2.2.2.2.1, r48_2.2.2.2.2.2.2.2.2.2.2.2.1, r48_2.2.2.2.2.2.2.2.2.2.2.2.2)
def f_Y_call_K165_3 (yEnt : Int32) (yMem : (Nat → Int32)) (r165_3 : Int64 × Int32 × Int32 × Int32 × Int64 × Int64 × Int64 × Int64 × Int32 × Int32 × Int32 × Int32 × (Nat → Int64) × (Nat → Int64) × (Nat → Int32) × (Nat → Int32) × (Nat → Int64) × (Nat → Int64)) : Int64 × Int32 × Int32 × Int32 × Int64 × Int64 × Int64 × Int64 × Int32 × Int32 × Int32 × Int32 × Int32 × (Nat → Int32) × (Nat → Int64) × (Nat → Int64) × (Nat → Int32) × (Nat → Int32) × (Nat → Int64) × (Nat → Int64) := (r165_3.1, r165_3.2.1, r165_3.2.2.1, r165_3.2.2.2.1, r165_3.2.2.2.2.1, r165_3.2.2.2.2.2.1, r165_3.2.2.2.2.2.2.1, r165_3.2.2.2.2.2.2.2.1, r165_3.2.2.2.2.2.2.2.2.1, r165_3.2.2.2.2.2.2.2.2.2.1, r165_3.2.2.2.2.2.2.2.2.2.2.1, yEnt, r165_3.2.2.2.2.2.2.2.2.2.2.2.1, yMem, r165_3.2.2.2.2.2.2.2.2.2.2.2.2.1, r165_3.2.2.2.2.2.2.2.2.2.2.2.2.2.1, r165_3.2.2.2.2.2.2.2.2.2.2.2.2.2.2.1, r165_3.2.2.2.2.2.2.2.2.2.2.2.2.2.2.2.1, r165_3.2.2.2.2.2.2.2.2.2.2.2.2.2.2.2.2.1, r165_3.2.2.2.2.2.2.2.2.2.2.2.2.2.2.2.2.2)
def f_Y_call_K157_4 (yLev : Int32) (yKsp : Int64) (yKgp : Int64) (yVal : Int64) (yTab : Int32) (ySpc : Int32) (yV : (Nat → Int64)) (r157_4 : Int64 × Int32 × Int32 × Int64 × Int32 × Int32 × Int32 × (Nat → Int32) × (Nat → Int64) × (Nat → Int32) × (Nat → Int32) × (Nat → Int64) × (Nat → Int64)) : Int64 × Int32 × Int32 × Int32 × Int64 × Int64 × Int64 × Int64 × Int32 × Int32 × Int32 × Int32 × Int32 × (Nat → Int32) × (Nat → Int64) × (Nat → Int64) × (Nat → Int32) × (Nat → Int32) × (Nat → Int64) × (Nat → Int64) := (r157_4.1, r157_4.2.1, yLev, r157_4.2.2.1, yKsp, r157_4.2.2.2.1, yKgp, yVal, yTab, ySpc, r157_4.2.2.2.2.1, r157_4.2.2.2.2.2.1, r157_4.2.2.2.2.2.2.1, r157_4.2.2.2.2.2.2.2.1, r157_4.2.2.2.2.2.2.2.2.1, yV, r157_4.2.2.2.2.2.2.2.2.2.1, r157_4.2.2.2.2.2.2.2.2.2.2.1, r157_4.2.2.2.2.2.2.2.2.2.2.2.1, r157_4.2.2.2.2.2.2.2.2.2.2.2.2)
def f_Y_call_K141_5 (yLev : Int32) (yKsp : Int64) (yKgp : Int64) (yVal : Int64) (yTab : Int32) (ySpc : Int32) (yV : (Nat → Int64)) (r141_5 : Int64 × Int32 × Int32 × Int64 × Int32 × Int32 × Int32 × (Nat → Int32) × (Nat → Int64) × (Nat → Int32) × (Nat → Int32) × (Nat → Int64) × (Nat → Int64)) : Int64 × Int32 × Int32 × Int32 × Int64 × Int64 × Int64 × Int64 × Int32 × Int32 × Int32 × Int32 × Int32 × (Nat → Int32) × (Nat → Int64) × (Nat → Int64) × (Nat → Int32) × (Nat → Int32) × (Nat → Int64) × (Nat → Int64) := (r141_5.1, r141_5.2.1, yLev, r141_5.2.2.1, yKsp, r141_5.2.2.2.1, yKgp, yVal, yTab, ySpc, r141_5.2.2.2.2.1, r141_5.2.2.2.2.2.1, r141_5.2.2.2.2.2.2.1, r141_5.2.2.2.2.2.2.2.1, r141_5.2.2.2.2.2.2.2.2.1, yV, r141_5.2.2.2.2.2.2.2.2.2.1, r141_5.2.2.2.2.2.2.2.2.2.2.1, r141_5.2.2.2.2.2.2.2.2.2.2.2.1, r141_5.2.2.2.2.2.2.2.2.2.2.2.2)
def f_Y_call_K88_6 (yLev : Int32) (yKsp : Int64) (yKgp : Int64) (yVal : Int64) (yTab : Int32) (ySpc : Int32) (yV : (Nat → Int64)) (r88_6 : Int64 × Int32 × Int32 × Int64 × Int32 × Int32 × Int32 × (Nat → Int32) × (Nat → Int64) × (Nat → Int32) × (Nat → Int32) × (Nat → Int64) × (Nat → Int64)) : Int64 × Int32 × Int32 × Int32 × Int64 × Int64 × Int64 × Int64 × Int32 × Int32 × Int32 × Int32 × Int32 × (Nat → Int32) × (Nat → Int64) × (Nat → Int64) × (Nat → Int32) × (Nat → Int32) × (Nat → Int64) × (Nat → Int64) := (r88_6.1, r88_6.2.1, yLev, r88_6.2.2.1, yKsp, r88_6.2.2.2.1, yKgp, yVal, yTab, ySpc, r88_6.2.2.2.2.1, r88_6.2.2.2.2.2.1, r88_6.2.2.2.2.2.2.1, r88_6.2.2.2.2.2.2.2.1, r88_6.2.2.2.2.2.2.2.2.1, yV, r88_6.2.2.2.2.2.2.2.2.2.1, r88_6.2.2.2.2.2.2.2.2.2.2.1, r88_6.2.2.2.2.2.2.2.2.2.2.2.1, r88_6.2.2.2.2.2.2.2.2.2.2.2.2)
def f_Y_call_K48_7 (yLev : Int32) (yKsp : Int64) (yKgp : Int64) (yVal : Int64) (yTab : Int32) (ySpc : Int32) (yV : (Nat → Int64)) (r48_7 : Int64 × Int32 × Int32 × Int64 × Int32 × Int32 × Int32 × (Nat → Int32) × (Nat → Int64) × (Nat → Int32) × (Nat → Int32) × (Nat → Int64) × (Nat → Int64)) : Int64 × Int32 × Int32 × Int32 × Int64 × Int64 × Int64 × Int64 × Int32 × Int32 × Int32 × Int32 × Int32 × (Nat → Int32) × (Nat → Int64) × (Nat → Int64) × (Nat → Int32) × (Nat → Int32) × (Nat → Int64) × (Nat → Int64) := (r48_7.1, r48_7.2.1, yLev, r48_7.2.2.1, yKsp, r48_7.2.2.2.1, yKgp, yVal, yTab, ySpc, r48_7.2.2.2.2.1, r48_7.2.2.2.2.2.1, r48_7.2.2.2.2.2.2.1, r48_7.2.2.2.2.2.2.2.1, r48_7.2.2.2.2.2.2.2.2.1, yV, r48_7.2.2.2.2.2.2.2.2.2.1, r48_7.2.2.2.2.2.2.2.2.2.2.1, r48_7.2.2.2.2.2.2.2.2.2.2.2.1, r48_7.2.2.2.2.2.2.2.2.2.2.2.2)
def f_Y_call (z1 : Int32) (yPc : Int64) (yMod : Int32) (yLev : Int32) (yLoc : Int32) (yKsp : Int64) (yUsp : Int64) (yKgp : Int64) (yVal : Int64) (yTab : Int32) (ySpc : Int32) (yHal : Int32) (yEnt : Int32) (yBuf : Int32) (yHer : Int64) (yMem : (Nat → Int32)) (yR : (Nat → Int64)) (yV : (Nat → Int64)) (yBP : (Nat → Int32)) (yBS : (Nat → Int32)) (yBW : (Nat → Int64)) (ySix : (Nat → Int64)) : Int64 × Int32 × Int32 × Int32 × Int64 × Int64 × Int64 × Int64 × Int32 × Int32 × Int32 × Int32 × Int32 × (Nat → Int32) × (Nat → Int64) × (Nat → Int64) × (Nat → Int32) × (Nat → Int32) × (Nat → Int64) × (Nat → Int64) := (if z1 = (128 : Int32) then (f_Y_call_K48_1 yLev yKsp yKgp yVal yTab ySpc yV (f_Y_entry (3 : Int32) (Int32.toInt64 (z1 - (128 : Int32))) (0 : Int64) (0 : Int64) yPc yPc yMod yLev yLoc yKsp yUsp yKgp yTab ySpc yHal yEnt yBuf yMem yR yV yBP yBS yBW ySix)) else (if z1 = (129 : Int32) then (f_Y_call_K48_2 yLev yKsp yKgp yVal yTab ySpc yV (f_Y_entry (3 : Int32) (Int32.toInt64 (z1 - (128 : Int32))) (0 : Int64) (0 : Int64) yPc yPc yMod yLev yLoc yKsp yUsp yKgp yTab ySpc yHal yEnt yBuf yMem yR yV yBP yBS yBW ySix)) else (if z1 = (170 : Int32) then (f_Y_call_K48_7 yLev yKsp yKgp yVal yTab ySpc yV (f_Y_entry (3 : Int32) (2 : Int64) (0 : Int64) (0 : Int64) yPc yPc yMod yLev yLoc yKsp yUsp yKgp yTab ySpc yHal yEnt yBuf yMem yR yV yBP yBS yBW ySix)) else (if z1 = (131 : Int32) then (f_Y_call_K88_6 yLev yKsp yKgp yVal yTab ySpc yV (f_Y_entry (5 : Int32) (yR 16) (yR 17) (yR 18) yPc yPc yMod yLev yLoc yKsp yUsp yKgp yTab ySpc yHal yEnt yBuf yMem yR yV yBP yBS yBW ySix)) else (if z1 = (134 : Int32) then (yPc, yMod, yLev, yLoc, yKsp, yUsp, yKgp, yVal, yTab, ySpc, yHal, yEnt, yBuf, yMem, yR, yV, yBP, yBS, yBW, ySix) else (if (if z1 = (0 : Int32) then (1 : Int32) else (if z1 = (63 : Int32) then (1 : Int32) else (if z1 < (48 : Int32) then (if z1 = (58 : Int32) then (1 : Int32) else (0 : Int32)) else (if z1 ≤ (56 : Int32) then (1 : Int32) else (if z1 = (58 : Int32) then (1 : Int32) else (0 : Int32)))))) = (0 : Int32) then (f_Y_call_K141_5 yLev yKsp yKgp yVal yTab ySpc yV (f_Y_wrong (4 : Int32) yPc yMod yLev yLoc yKsp yUsp yKgp yTab ySpc yHal yEnt yBuf yHer yMem yR yV yBP yBS yBW ySix)) else (if yMod = (1 : Int32) then (f_Y_call_K157_4 yLev yKsp yKgp yVal yTab ySpc yV (f_Y_wrong (3 : Int32) yPc yMod yLev yLoc yKsp yUsp yKgp yTab ySpc yHal yEnt yBuf yHer yMem yR yV yBP yBS yBW ySix)) else (f_Y_call_K165_3 yEnt yMem (f_Y_own z1 yPc yMod yLev yLoc yKsp yUsp yKgp yVal yTab ySpc yHal yBuf yMem yR yV yBP yBS yBW ySix)))))))))
set_option maxRecDepth 100000 in
set_option maxHeartbeats 4000000 in
theorem c_Y_call (l : Launch) (dC : Nat → ClassId) (dI : Nat → Nat → Nat) (cI cJ : ClassId) (qY qYm qYr qYv qYl qYn qYp qYs qYw qY6 : Nat) (sz : Nat) (yPc : Int64) (yMod : Int32) (yLev : Int32) (yLoc : Int32) (yKsp : Int64) (yUsp : Int64) (yKgp : Int64) (yVal : Int64) (yTab : Int32) (ySpc : Int32) (yHal : Int32) (yEnt : Int32) (yPen : Int32) (yBuf : Int32) (yHer : Int64) (yWrd : Int32) (yHas : Int32) (yTrp : Int32) (yNon : Int32) (yMem : (Nat → Int32)) (yR : (Nat → Int64)) (yV : (Nat → Int64)) (yPL : (Nat → Int32)) (yPN : (Nat → Int32)) (yBP : (Nat → Int32)) (yBS : (Nat → Int32)) (yBW : (Nat → Int64)) (ySix : (Nat → Int64)) (z1 : Int32) (hy0 : 0 ≤ yBuf.toInt) (hy4 : yBuf.toInt ≤ 4) (ht0 : 0 ≤ yTab.toInt) (ht1 : yTab.toInt ≤ 4064) : Met l yY_call (.code yY_call cY_call 3 none :: vG) ({ frames := 5, cells := 0, slots := 0, locals := 134 }) (va_Pc [.ref qY, .int z1] (qa_pre (dC, dI) vwCl (wY cI cJ qY qYm qYr qYv qYl qYn qYp qYs qYw qY6 yPc yMod yLev yLoc yKsp yUsp yKgp yVal yTab ySpc yHal yEnt yPen yBuf yHer yWrd yHas yTrp yNon yMem yR yV yPL yPN yBP yBS yBW ySix) [(cI, .int), (cJ, .long)] sz)) (qa_mod none (dC, dI) vwCl (wY cI cJ qY qYm qYr qYv qYl qYn qYp qYs qYw qY6 ((f_Y_call z1 yPc yMod yLev yLoc yKsp yUsp yKgp yVal yTab ySpc yHal yEnt yBuf yHer yMem yR yV yBP yBS yBW ySix).1) ((f_Y_call z1 yPc yMod yLev yLoc yKsp yUsp yKgp yVal yTab ySpc yHal yEnt yBuf yHer yMem yR yV yBP yBS yBW ySix).2.1) ((f_Y_call z1 yPc yMod yLev yLoc yKsp yUsp yKgp yVal yTab ySpc yHal yEnt yBuf yHer yMem yR yV yBP yBS yBW ySix).2.2.1) ((f_Y_call z1 yPc yMod yLev yLoc yKsp yUsp yKgp yVal yTab ySpc yHal yEnt yBuf yHer yMem yR yV yBP yBS yBW ySix).2.2.2.1) ((f_Y_call z1 yPc yMod yLev yLoc yKsp yUsp yKgp yVal yTab ySpc yHal yEnt yBuf yHer yMem yR yV yBP yBS yBW ySix).2.2.2.2.1) ((f_Y_call z1 yPc yMod yLev yLoc yKsp yUsp yKgp yVal yTab ySpc yHal yEnt yBuf yHer yMem yR yV yBP yBS yBW ySix).2.2.2.2.2.1) ((f_Y_call z1 yPc yMod yLev yLoc yKsp yUsp yKgp yVal yTab ySpc yHal yEnt yBuf yHer yMem yR yV yBP yBS yBW ySix).2.2.2.2.2.2.1) ((f_Y_call z1 yPc yMod yLev yLoc yKsp yUsp yKgp yVal yTab ySpc yHal yEnt yBuf yHer yMem yR yV yBP yBS yBW ySix).2.2.2.2.2.2.2.1) ((f_Y_call z1 yPc yMod yLev yLoc yKsp yUsp yKgp yVal yTab ySpc yHal yEnt yBuf yHer yMem yR yV yBP yBS yBW ySix).2.2.2.2.2.2.2.2.1) ((f_Y_call z1 yPc yMod yLev yLoc yKsp yUsp yKgp yVal yTab ySpc yHal yEnt yBuf yHer yMem yR yV yBP yBS yBW ySix).2.2.2.2.2.2.2.2.2.1) ((f_Y_call z1 yPc yMod yLev yLoc yKsp yUsp yKgp yVal yTab ySpc yHal yEnt yBuf yHer yMem yR yV yBP yBS yBW ySix).2.2.2.2.2.2.2.2.2.2.1) ((f_Y_call z1 yPc yMod yLev yLoc yKsp yUsp yKgp yVal yTab ySpc yHal yEnt yBuf yHer yMem yR yV yBP yBS yBW ySix).2.2.2.2.2.2.2.2.2.2.2.1) yPen ((f_Y_call z1 yPc yMod yLev yLoc yKsp yUsp yKgp yVal yTab ySpc yHal yEnt yBuf yHer yMem yR yV yBP yBS yBW ySix).2.2.2.2.2.2.2.2.2.2.2.2.1) yHer yWrd yHas yTrp yNon ((f_Y_call z1 yPc yMod yLev yLoc yKsp yUsp yKgp yVal yTab ySpc yHal yEnt yBuf yHer yMem yR yV yBP yBS yBW ySix).2.2.2.2.2.2.2.2.2.2.2.2.2.1) ((f_Y_call z1 yPc yMod yLev yLoc yKsp yUsp yKgp yVal yTab ySpc yHal yEnt yBuf yHer yMem yR yV yBP yBS yBW ySix).2.2.2.2.2.2.2.2.2.2.2.2.2.2.1) ((f_Y_call z1 yPc yMod yLev yLoc yKsp yUsp yKgp yVal yTab ySpc yHal yEnt yBuf yHer yMem yR yV yBP yBS yBW ySix).2.2.2.2.2.2.2.2.2.2.2.2.2.2.2.1) yPL yPN ((f_Y_call z1 yPc yMod yLev yLoc yKsp yUsp yKgp yVal yTab ySpc yHal yEnt yBuf yHer yMem yR yV yBP yBS yBW ySix).2.2.2.2.2.2.2.2.2.2.2.2.2.2.2.2.1) ((f_Y_call z1 yPc yMod yLev yLoc yKsp yUsp yKgp yVal yTab ySpc yHal yEnt yBuf yHer yMem yR yV yBP yBS yBW ySix).2.2.2.2.2.2.2.2.2.2.2.2.2.2.2.2.2.1) ((f_Y_call z1 yPc yMod yLev yLoc yKsp yUsp yKgp yVal yTab ySpc yHal yEnt yBuf yHer yMem yR yV yBP yBS yBW ySix).2.2.2.2.2.2.2.2.2.2.2.2.2.2.2.2.2.2.1) ((f_Y_call z1 yPc yMod yLev yLoc yKsp yUsp yKgp yVal yTab ySpc yHal yEnt yBuf yHer yMem yR yV yBP yBS yBW ySix).2.2.2.2.2.2.2.2.2.2.2.2.2.2.2.2.2.2.2)) (va_A (wY cI cJ qY qYm qYr qYv qYl qYn qYp qYs qYw qY6 yPc yMod yLev yLoc yKsp yUsp yKgp yVal yTab ySpc yHal yEnt yPen yBuf yHer yWrd yHas yTrp yNon yMem yR yV yPL yPN yBP yBS yBW ySix) sz)) 0 0 (va_A (wY cI cJ qY qYm qYr qYv qYl qYn qYp qYs qYw qY6 yPc yMod yLev yLoc yKsp yUsp yKgp yVal yTab ySpc yHal yEnt yPen yBuf yHer yWrd yHas yTrp yNon yMem yR yV yPL yPN yBP yBS yBW ySix) sz) := by
  refine Met.ofW (cc := cY_call) (maxL := 3) (ret := none) (by decide) rfl ?_
  intro p e s m args below meth c s₁ B hml hv
  obtain ⟨rfl, hsz, hP, hK, hD0⟩ := hv
  have hx := B.exec
  have hb := B.bytes
  have hr := B.returns
  have hts : ∀ w ∈ vG, w.before _ s = true := fun w h => atoms_spec (ws := (.code yY_call cY_call 3 none :: vG)) B.pre w (List.mem_cons_of_mem _ h)
  have hown : s.vm.findClass "LongMachineModel" = some m.cls := findClass_of_methodNamed B.named
  have hlocks := B.notSynchronized
  subst hsz
  have hD := hD0.self (sz := s.heap.size)
  generalize hAe : va_A (wY cI cJ qY qYm qYr qYv qYl qYn qYp qYs qYw qY6 yPc yMod yLev yLoc yKsp yUsp yKgp yVal yTab ySpc yHal yEnt yPen yBuf yHer yWrd yHas yTrp yNon yMem yR yV yPL yPN yBP yBS yBW ySix) s.heap.size = A at hD ⊢
  have hA : ∀ q : Nat, s.heap.size ≤ q → A q := fun q h => by rw [← hAe]; exact Or.inr h
  have hS : va_S A s.heap s.heap [] := va_S.rf
  have hl := lv_entry ([.ref qY, .int z1]) (n := 3) (Nat.le_of_ble_eq_true rfl)
  rw [lg_entry_eq]
  generalize (lg_sl ([.ref qY, .int z1]) ++ List.replicate (3 - (lg_sl ([.ref qY, .int z1])).length) Slot.unset).toArray = ls at hl ⊢
  have hl : lv_has ls 3 [(0, .ref qY), (1, .int z1)] := hl
  obtain ⟨u, hu⟩ : ∃ u, u = f_Y_call z1 yPc yMod yLev yLoc yKsp yUsp yKgp yVal yTab ySpc yHal yEnt yBuf yHer yMem yR yV yBP yBS yBW ySix := ⟨_, rfl⟩
  rw [← hu]
  unfold f_Y_call at hu
  refine lv_iload_n (pc := 0) hx hb dY_call_0 rfl (lv_at hl 1 rfl) ?_
  refine lv_sipush (pc := 1) (v := (128 : Int32)) hx hb dY_call_1 (by decide) ?_
  refine lv_icmp_eq (pc := 4) (tgt := 21) hx hb dY_call_4 (by decide) (fun h4_1 => ?_) (fun h4_1 => ?_)
  · have hu := hu.trans (if_pos h4_1)
    refine lv_aload_n (pc := 21) hx hb dY_call_21 rfl (lv_at hl 0 rfl) ?_
    refine lv_iconst (pc := 22) (v := (3 : Int32)) hx hb dY_call_22 (by decide) ?_
    refine lv_iload_n (pc := 23) hx hb dY_call_23 rfl (lv_at hl 1 rfl) ?_
    refine lv_sipush (pc := 24) (v := (170 : Int32)) hx hb dY_call_24 (by decide) ?_
    refine lv_icmp_ne (pc := 27) (tgt := 36) hx hb dY_call_27 (by decide) (fun h27_2 => ?_) (fun h27_2 => absurd h27_2 (by rw [h4_1]; decide))
    refine lv_iload_n (pc := 36) hx hb dY_call_36 rfl (lv_at hl 1 rfl) ?_
    refine lv_sipush (pc := 37) (v := (128 : Int32)) hx hb dY_call_37 (by decide) ?_
    refine lv_isub (pc := 40) hx hb dY_call_40 ?_
    refine lv_i2l (pc := 41) (v := (Int32.toInt64 (z1 - (128 : Int32)))) hx hb dY_call_41 rfl ?_
    refine lv_lconst (pc := 42) (v := (0 : Int64)) hx hb dY_call_42 (by decide) ?_
    refine lv_lconst (pc := 43) (v := (0 : Int64)) hx hb dY_call_43 (by decide) ?_
    refine lv_aload_n (pc := 44) hx hb dY_call_44 rfl (lv_at hl 0 rfl) ?_
    refine va_get (D := (dC, dI)) (pc := 45) (ci := 5) (v := .long yPc) (C := "LongMachineModel") (T := TY) (N := 28) hx hb hts ui_Y hown hK hP 0 rfl rfl 2 (by decide) (hts _ gm_348) (fun _ h9 => h9) rfl dY_call_45 ?_
    have hc := c_Y_entry l dC dI cI cJ qY qYm qYr qYv qYl qYn qYp qYs qYw qY6 s.heap.size yPc yMod yLev yLoc yKsp yUsp yKgp yVal yTab ySpc yHal yEnt yPen yBuf yHer yWrd yHas yTrp yNon yMem yR yV yPL yPN yBP yBS yBW ySix (3 : Int32) (Int32.toInt64 (z1 - (128 : Int32))) (0 : Int64) (0 : Int64) yPc hy0 hy4 ht0 ht1 (by decide) (by decide)
    generalize er48_1 : f_Y_entry (3 : Int32) (Int32.toInt64 (z1 - (128 : Int32))) (0 : Int64) (0 : Int64) yPc yPc yMod yLev yLoc yKsp yUsp yKgp yTab ySpc yHal yEnt yBuf yMem yR yV yBP yBS yBW ySix = r48_1 at hu hc
    unfold f_Y_call_K48_1 at hu
    refine qa_callv (pc := 48) (wr := []) (wf := (wY cI cJ qY qYm qYr qYv qYl qYn qYp qYs qYw qY6 r48_1.1 r48_1.2.1 yLev r48_1.2.2.1 yKsp r48_1.2.2.2.1 yKgp yVal yTab ySpc r48_1.2.2.2.2.1 r48_1.2.2.2.2.2.1 yPen r48_1.2.2.2.2.2.2.1 yHer yWrd yHas yTrp yNon r48_1.2.2.2.2.2.2.2.1 r48_1.2.2.2.2.2.2.2.2.1 yV yPL yPN r48_1.2.2.2.2.2.2.2.2.2.1 r48_1.2.2.2.2.2.2.2.2.2.2.1 r48_1.2.2.2.2.2.2.2.2.2.2.2.1 r48_1.2.2.2.2.2.2.2.2.2.2.2.2)) (va_runV (As := [.int (3 : Int32), .long (Int32.toInt64 (z1 - (128 : Int32))), .long (0 : Int64), .long (0 : Int64), .long yPc]) (rest := []) ⟨hx, hb, hml, hown, hts⟩ hc (cwV 5 hts (gd_V gm_417 gm_415 gm_416 gm_579 gm_6) rfl rfl rfl (by decide +kernel) ⟨Nat.le_of_ble_eq_true rfl, Nat.le_of_ble_eq_true rfl⟩) (qa_VM (q0 := 0) (q := ("LongMachineModel", TY, 28)) hK hP rfl rfl hP hD) rfl rfl hl.1 rfl (lv_room (Nat.le_of_ble_eq_true rfl)) dY_call_48 ⟨Nat.zero_le _, Nat.zero_le _⟩) hP hD hS hA [0, 1, 2, 3, 4, 5, 6, 7, 8, 9] [] [0, 1, 2, 3, 4, 5, 6, 7, 8, 9] rfl (by decide) rfl (by decide) (by decide) rfl rfl (by decide) (fun H locs hP hD hS => ?_)
    refine lv_goto (pc := 51) (tgt := 168) hx hb dY_call_51 (by decide) ?_
    subst hu
    exact W.vret hx hb hr (fun t ht hW => ⟨rfl, by rw [ht]; exact hP, hS.F ht⟩) hS.2.2 dY_call_168
  · have hu := hu.trans (if_neg h4_1)
    refine lv_iload_n (pc := 7) hx hb dY_call_7 rfl (lv_at hl 1 rfl) ?_
    refine lv_sipush (pc := 8) (v := (129 : Int32)) hx hb dY_call_8 (by decide) ?_
    refine lv_icmp_eq (pc := 11) (tgt := 21) hx hb dY_call_11 (by decide) (fun h11_3 => ?_) (fun h11_3 => ?_)
    · have hu := hu.trans (if_pos h11_3)
      refine lv_aload_n (pc := 21) hx hb dY_call_21 rfl (lv_at hl 0 rfl) ?_
      refine lv_iconst (pc := 22) (v := (3 : Int32)) hx hb dY_call_22 (by decide) ?_
      refine lv_iload_n (pc := 23) hx hb dY_call_23 rfl (lv_at hl 1 rfl) ?_
      refine lv_sipush (pc := 24) (v := (170 : Int32)) hx hb dY_call_24 (by decide) ?_
      refine lv_icmp_ne (pc := 27) (tgt := 36) hx hb dY_call_27 (by decide) (fun h27_4 => ?_) (fun h27_4 => absurd h27_4 (by rw [h11_3]; decide))
      refine lv_iload_n (pc := 36) hx hb dY_call_36 rfl (lv_at hl 1 rfl) ?_
      refine lv_sipush (pc := 37) (v := (128 : Int32)) hx hb dY_call_37 (by decide) ?_
      refine lv_isub (pc := 40) hx hb dY_call_40 ?_
      refine lv_i2l (pc := 41) (v := (Int32.toInt64 (z1 - (128 : Int32)))) hx hb dY_call_41 rfl ?_
      refine lv_lconst (pc := 42) (v := (0 : Int64)) hx hb dY_call_42 (by decide) ?_
      refine lv_lconst (pc := 43) (v := (0 : Int64)) hx hb dY_call_43 (by decide) ?_
      refine lv_aload_n (pc := 44) hx hb dY_call_44 rfl (lv_at hl 0 rfl) ?_
      refine va_get (D := (dC, dI)) (pc := 45) (ci := 5) (v := .long yPc) (C := "LongMachineModel") (T := TY) (N := 28) hx hb hts ui_Y hown hK hP 0 rfl rfl 2 (by decide) (hts _ gm_348) (fun _ h9 => h9) rfl dY_call_45 ?_
      have hc := c_Y_entry l dC dI cI cJ qY qYm qYr qYv qYl qYn qYp qYs qYw qY6 s.heap.size yPc yMod yLev yLoc yKsp yUsp yKgp yVal yTab ySpc yHal yEnt yPen yBuf yHer yWrd yHas yTrp yNon yMem yR yV yPL yPN yBP yBS yBW ySix (3 : Int32) (Int32.toInt64 (z1 - (128 : Int32))) (0 : Int64) (0 : Int64) yPc hy0 hy4 ht0 ht1 (by decide) (by decide)
      generalize er48_2 : f_Y_entry (3 : Int32) (Int32.toInt64 (z1 - (128 : Int32))) (0 : Int64) (0 : Int64) yPc yPc yMod yLev yLoc yKsp yUsp yKgp yTab ySpc yHal yEnt yBuf yMem yR yV yBP yBS yBW ySix = r48_2 at hu hc
      unfold f_Y_call_K48_2 at hu
      refine qa_callv (pc := 48) (wr := []) (wf := (wY cI cJ qY qYm qYr qYv qYl qYn qYp qYs qYw qY6 r48_2.1 r48_2.2.1 yLev r48_2.2.2.1 yKsp r48_2.2.2.2.1 yKgp yVal yTab ySpc r48_2.2.2.2.2.1 r48_2.2.2.2.2.2.1 yPen r48_2.2.2.2.2.2.2.1 yHer yWrd yHas yTrp yNon r48_2.2.2.2.2.2.2.2.1 r48_2.2.2.2.2.2.2.2.2.1 yV yPL yPN r48_2.2.2.2.2.2.2.2.2.2.1 r48_2.2.2.2.2.2.2.2.2.2.2.1 r48_2.2.2.2.2.2.2.2.2.2.2.2.1 r48_2.2.2.2.2.2.2.2.2.2.2.2.2)) (va_runV (As := [.int (3 : Int32), .long (Int32.toInt64 (z1 - (128 : Int32))), .long (0 : Int64), .long (0 : Int64), .long yPc]) (rest := []) ⟨hx, hb, hml, hown, hts⟩ hc (cwV 5 hts (gd_V gm_417 gm_415 gm_416 gm_579 gm_6) rfl rfl rfl (by decide +kernel) ⟨Nat.le_of_ble_eq_true rfl, Nat.le_of_ble_eq_true rfl⟩) (qa_VM (q0 := 0) (q := ("LongMachineModel", TY, 28)) hK hP rfl rfl hP hD) rfl rfl hl.1 rfl (lv_room (Nat.le_of_ble_eq_true rfl)) dY_call_48 ⟨Nat.zero_le _, Nat.zero_le _⟩) hP hD hS hA [0, 1, 2, 3, 4, 5, 6, 7, 8, 9] [] [0, 1, 2, 3, 4, 5, 6, 7, 8, 9] rfl (by decide) rfl (by decide) (by decide) rfl rfl (by decide) (fun H locs hP hD hS => ?_)
      refine lv_goto (pc := 51) (tgt := 168) hx hb dY_call_51 (by decide) ?_
      subst hu
      exact W.vret hx hb hr (fun t ht hW => ⟨rfl, by rw [ht]; exact hP, hS.F ht⟩) hS.2.2 dY_call_168
    · have hu := hu.trans (if_neg h11_3)
      refine lv_iload_n (pc := 14) hx hb dY_call_14 rfl (lv_at hl 1 rfl) ?_
      refine lv_sipush (pc := 15) (v := (170 : Int32)) hx hb dY_call_15 (by decide) ?_
      refine lv_icmp_ne (pc := 18) (tgt := 54) hx hb dY_call_18 (by decide) (fun h18_5 => ?_) (fun h18_5 => ?_)
      · have hu := hu.trans (if_neg h18_5)
        refine lv_iload_n (pc := 54) hx hb dY_call_54 rfl (lv_at hl 1 rfl) ?_
        refine lv_sipush (pc := 55) (v := (131 : Int32)) hx hb dY_call_55 (by decide) ?_
        refine lv_icmp_ne (pc := 58) (tgt := 94) hx hb dY_call_58 (by decide) (fun h58_6 => ?_) (fun h58_6 => ?_)
        · have hu := hu.trans (if_neg h58_6)
          refine lv_iload_n (pc := 94) hx hb dY_call_94 rfl (lv_at hl 1 rfl) ?_
          refine lv_sipush (pc := 95) (v := (134 : Int32)) hx hb dY_call_95 (by decide) ?_
          refine lv_icmp_eq (pc := 98) (tgt := 168) hx hb dY_call_98 (by decide) (fun h98_7 => ?_) (fun h98_7 => ?_)
          · have hu := hu.trans (if_pos h98_7)
            subst hu
            exact W.vret hx hb hr (fun t ht hW => ⟨rfl, by rw [ht]; exact hP, hS.F ht⟩) hS.2.2 dY_call_168
          · have hu := hu.trans (if_neg h98_7)
            refine lv_iload_n (pc := 101) hx hb dY_call_101 rfl (lv_at hl 1 rfl) ?_
            refine qa_joini (J := 134) (ls2 := ls) (rest2 := []) (if z1 = (0 : Int32) then (1 : Int32) else (if z1 = (63 : Int32) then (1 : Int32) else (if z1 < (48 : Int32) then (if z1 = (58 : Int32) then (1 : Int32) else (0 : Int32)) else (if z1 ≤ (56 : Int32) then (1 : Int32) else (if z1 = (58 : Int32) then (1 : Int32) else (0 : Int32)))))) (fun hj134 => ?_) ?_
            · refine lv_if_eq (pc := 102) (tgt := 129) hx hb dY_call_102 (by decide) (fun h102_8 => ?_) (fun h102_8 => ?_)
              · refine lv_iconst (pc := 129) (v := (1 : Int32)) hx hb dY_call_129 (by decide) ?_
                refine lv_goto (pc := 130) (tgt := 134) hx hb dY_call_130 (by decide) ?_
                exact hj134 _ (Eq.symm (if_pos h102_8))
              · refine lv_iload_n (pc := 105) hx hb dY_call_105 rfl (lv_at hl 1 rfl) ?_
                refine lv_bipush (pc := 106) (v := (63 : Int32)) hx hb dY_call_106 (by decide) ?_
                refine lv_icmp_eq (pc := 108) (tgt := 129) hx hb dY_call_108 (by decide) (fun h108_9 => ?_) (fun h108_9 => ?_)
                · refine lv_iconst (pc := 129) (v := (1 : Int32)) hx hb dY_call_129 (by decide) ?_
                  refine lv_goto (pc := 130) (tgt := 134) hx hb dY_call_130 (by decide) ?_
                  exact hj134 _ (Eq.symm (Eq.trans (if_neg h102_8) (if_pos h108_9)))
                · refine lv_iload_n (pc := 111) hx hb dY_call_111 rfl (lv_at hl 1 rfl) ?_
                  refine lv_bipush (pc := 112) (v := (48 : Int32)) hx hb dY_call_112 (by decide) ?_
                  refine lv_icmp_lt (pc := 114) (tgt := 123) hx hb dY_call_114 (by decide) (fun h114_10 => ?_) (fun h114_10 => ?_)
                  · refine lv_iload_n (pc := 123) hx hb dY_call_123 rfl (lv_at hl 1 rfl) ?_
                    refine lv_bipush (pc := 124) (v := (58 : Int32)) hx hb dY_call_124 (by decide) ?_
                    refine lv_icmp_ne (pc := 126) (tgt := 133) hx hb dY_call_126 (by decide) (fun h126_11 => ?_) (fun h126_11 => ?_)
                    · refine lv_iconst (pc := 133) (v := (0 : Int32)) hx hb dY_call_133 (by decide) ?_
                      exact hj134 _ (Eq.symm (Eq.trans (if_neg h102_8) (Eq.trans (if_neg h108_9) (Eq.trans (if_pos h114_10) (if_neg h126_11)))))
                    · refine lv_iconst (pc := 129) (v := (1 : Int32)) hx hb dY_call_129 (by decide) ?_
                      refine lv_goto (pc := 130) (tgt := 134) hx hb dY_call_130 (by decide) ?_
                      exact hj134 _ (Eq.symm (Eq.trans (if_neg h102_8) (Eq.trans (if_neg h108_9) (Eq.trans (if_pos h114_10) (if_pos h126_11)))))
                  · refine lv_iload_n (pc := 117) hx hb dY_call_117 rfl (lv_at hl 1 rfl) ?_
                    refine lv_bipush (pc := 118) (v := (56 : Int32)) hx hb dY_call_118 (by decide) ?_
                    refine lv_icmp_le (pc := 120) (tgt := 129) hx hb dY_call_120 (by decide) (fun h120_12 => ?_) (fun h120_12 => ?_)
                    · refine lv_iconst (pc := 129) (v := (1 : Int32)) hx hb dY_call_129 (by decide) ?_
                      refine lv_goto (pc := 130) (tgt := 134) hx hb dY_call_130 (by decide) ?_
                      exact hj134 _ (Eq.symm (Eq.trans (if_neg h102_8) (Eq.trans (if_neg h108_9) (Eq.trans (if_neg h114_10) (if_pos h120_12)))))
                    · refine lv_iload_n (pc := 123) hx hb dY_call_123 rfl (lv_at hl 1 rfl) ?_
                      refine lv_bipush (pc := 124) (v := (58 : Int32)) hx hb dY_call_124 (by decide) ?_
                      refine lv_icmp_ne (pc := 126) (tgt := 133) hx hb dY_call_126 (by decide) (fun h126_13 => ?_) (fun h126_13 => ?_)
                      · refine lv_iconst (pc := 133) (v := (0 : Int32)) hx hb dY_call_133 (by decide) ?_
                        exact hj134 _ (Eq.symm (Eq.trans (if_neg h102_8) (Eq.trans (if_neg h108_9) (Eq.trans (if_neg h114_10) (Eq.trans (if_neg h120_12) (if_neg h126_13))))))
                      · refine lv_iconst (pc := 129) (v := (1 : Int32)) hx hb dY_call_129 (by decide) ?_
                        refine lv_goto (pc := 130) (tgt := 134) hx hb dY_call_130 (by decide) ?_
                        exact hj134 _ (Eq.symm (Eq.trans (if_neg h102_8) (Eq.trans (if_neg h108_9) (Eq.trans (if_neg h114_10) (Eq.trans (if_neg h120_12) (if_pos h126_13))))))
            refine lv_istore_n (pc := 134) (lv' := [(2, .int (if z1 = (0 : Int32) then (1 : Int32) else (if z1 = (63 : Int32) then (1 : Int32) else (if z1 < (48 : Int32) then (if z1 = (58 : Int32) then (1 : Int32) else (0 : Int32)) else (if z1 ≤ (56 : Int32) then (1 : Int32) else (if z1 = (58 : Int32) then (1 : Int32) else (0 : Int32))))))), (0, .ref qY), (1, .int z1)]) hx hb dY_call_134 rfl hl (by decide) rfl (fun ls hl => ?_)
            refine lv_iload_n (pc := 135) hx hb dY_call_135 rfl (lv_at hl 0 rfl) ?_
            refine lv_if_ne (pc := 136) (tgt := 147) hx hb dY_call_136 (by decide) (fun h136_14 => ?_) (fun h136_14 => ?_)
            · have hu := hu.trans (if_neg h136_14)
              refine lv_aload_n (pc := 147) hx hb dY_call_147 rfl (lv_at hl 1 rfl) ?_
              refine va_get (D := (dC, dI)) (pc := 148) (ci := 5) (v := .int yMod) (C := "LongMachineModel") (T := TY) (N := 28) hx hb hts ui_Y hown hK hP 0 rfl rfl 3 (by decide) (hts _ gm_349) (fun _ h9 => h9) rfl dY_call_148 ?_
              refine lv_iconst (pc := 151) (v := (1 : Int32)) hx hb dY_call_151 (by decide) ?_
              refine lv_icmp_ne (pc := 152) (tgt := 163) hx hb dY_call_152 (by decide) (fun h152_15 => ?_) (fun h152_15 => ?_)
              · have hu := hu.trans (if_neg h152_15)
                refine lv_aload_n (pc := 163) hx hb dY_call_163 rfl (lv_at hl 1 rfl) ?_
                refine lv_iload_n (pc := 164) hx hb dY_call_164 rfl (lv_at hl 2 rfl) ?_
                have hc := c_Y_own l dC dI cI cJ qY qYm qYr qYv qYl qYn qYp qYs qYw qY6 s.heap.size yPc yMod yLev yLoc yKsp yUsp yKgp yVal yTab ySpc yHal yEnt yPen yBuf yHer yWrd yHas yTrp yNon yMem yR yV yPL yPN yBP yBS yBW ySix z1 hy0 hy4 ht0 ht1
                generalize er165_3 : f_Y_own z1 yPc yMod yLev yLoc yKsp yUsp yKgp yVal yTab ySpc yHal yBuf yMem yR yV yBP yBS yBW ySix = r165_3 at hu hc
                unfold f_Y_call_K165_3 at hu
                refine qa_callv (pc := 165) (wr := []) (wf := (wY cI cJ qY qYm qYr qYv qYl qYn qYp qYs qYw qY6 r165_3.1 r165_3.2.1 r165_3.2.2.1 r165_3.2.2.2.1 r165_3.2.2.2.2.1 r165_3.2.2.2.2.2.1 r165_3.2.2.2.2.2.2.1 r165_3.2.2.2.2.2.2.2.1 r165_3.2.2.2.2.2.2.2.2.1 r165_3.2.2.2.2.2.2.2.2.2.1 r165_3.2.2.2.2.2.2.2.2.2.2.1 yEnt yPen r165_3.2.2.2.2.2.2.2.2.2.2.2.1 yHer yWrd yHas yTrp yNon yMem r165_3.2.2.2.2.2.2.2.2.2.2.2.2.1 r165_3.2.2.2.2.2.2.2.2.2.2.2.2.2.1 yPL yPN r165_3.2.2.2.2.2.2.2.2.2.2.2.2.2.2.1 r165_3.2.2.2.2.2.2.2.2.2.2.2.2.2.2.2.1 r165_3.2.2.2.2.2.2.2.2.2.2.2.2.2.2.2.2.1 r165_3.2.2.2.2.2.2.2.2.2.2.2.2.2.2.2.2.2)) (va_runV (As := [.int z1]) (rest := []) ⟨hx, hb, hml, hown, hts⟩ hc (cwV 1 hts (gd_V gm_462 gm_460 gm_461 gm_589 gm_6) rfl rfl rfl (by decide +kernel) ⟨Nat.le_of_ble_eq_true rfl, Nat.le_of_ble_eq_true rfl⟩) (qa_VM (q0 := 0) (q := ("LongMachineModel", TY, 28)) hK hP rfl rfl hP hD) rfl rfl hl.1 rfl (lv_room (Nat.le_of_ble_eq_true rfl)) dY_call_165 ⟨Nat.zero_le _, Nat.zero_le _⟩) hP hD hS hA [0, 1, 2, 3, 4, 5, 6, 7, 8, 9] [] [0, 1, 2, 3, 4, 5, 6, 7, 8, 9] rfl (by decide) rfl (by decide) (by decide) rfl rfl (by decide) (fun H locs hP hD hS => ?_)
                subst hu
                exact W.vret hx hb hr (fun t ht hW => ⟨rfl, by rw [ht]; exact hP, hS.F ht⟩) hS.2.2 dY_call_168
              · have hu := hu.trans (if_pos h152_15)
                refine lv_aload_n (pc := 155) hx hb dY_call_155 rfl (lv_at hl 1 rfl) ?_
                refine lv_iconst (pc := 156) (v := (3 : Int32)) hx hb dY_call_156 (by decide) ?_
                have hc := c_Y_wrong l dC dI cI cJ qY qYm qYr qYv qYl qYn qYp qYs qYw qY6 s.heap.size yPc yMod yLev yLoc yKsp yUsp yKgp yVal yTab ySpc yHal yEnt yPen yBuf yHer yWrd yHas yTrp yNon yMem yR yV yPL yPN yBP yBS yBW ySix (3 : Int32) hy0 hy4 ht0 ht1
                generalize er157_4 : f_Y_wrong (3 : Int32) yPc yMod yLev yLoc yKsp yUsp yKgp yTab ySpc yHal yEnt yBuf yHer yMem yR yV yBP yBS yBW ySix = r157_4 at hu hc
                unfold f_Y_call_K157_4 at hu
                refine qa_callv (pc := 157) (wr := []) (wf := (wY cI cJ qY qYm qYr qYv qYl qYn qYp qYs qYw qY6 r157_4.1 r157_4.2.1 yLev r157_4.2.2.1 yKsp r157_4.2.2.2.1 yKgp yVal yTab ySpc r157_4.2.2.2.2.1 r157_4.2.2.2.2.2.1 yPen r157_4.2.2.2.2.2.2.1 yHer yWrd yHas yTrp yNon r157_4.2.2.2.2.2.2.2.1 r157_4.2.2.2.2.2.2.2.2.1 yV yPL yPN r157_4.2.2.2.2.2.2.2.2.2.1 r157_4.2.2.2.2.2.2.2.2.2.2.1 r157_4.2.2.2.2.2.2.2.2.2.2.2.1 r157_4.2.2.2.2.2.2.2.2.2.2.2.2)) (va_runV (As := [.int (3 : Int32)]) (rest := []) ⟨hx, hb, hml, hown, hts⟩ hc (cwV 1 hts (gd_V gm_459 gm_457 gm_458 gm_588 gm_6) rfl rfl rfl (by decide +kernel) ⟨Nat.le_of_ble_eq_true rfl, Nat.le_of_ble_eq_true rfl⟩) (qa_VM (q0 := 0) (q := ("LongMachineModel", TY, 28)) hK hP rfl rfl hP hD) rfl rfl hl.1 rfl (lv_room (Nat.le_of_ble_eq_true rfl)) dY_call_157 ⟨Nat.zero_le _, Nat.zero_le _⟩) hP hD hS hA [0, 1, 2, 3, 4, 5, 6, 7, 8, 9] [] [0, 1, 2, 3, 4, 5, 6, 7, 8, 9] rfl (by decide) rfl (by decide) (by decide) rfl rfl (by decide) (fun H locs hP hD hS => ?_)
                refine lv_goto (pc := 160) (tgt := 168) hx hb dY_call_160 (by decide) ?_
                subst hu
                exact W.vret hx hb hr (fun t ht hW => ⟨rfl, by rw [ht]; exact hP, hS.F ht⟩) hS.2.2 dY_call_168
            · have hu := hu.trans (if_pos h136_14)
              refine lv_aload_n (pc := 139) hx hb dY_call_139 rfl (lv_at hl 1 rfl) ?_
              refine lv_iconst (pc := 140) (v := (4 : Int32)) hx hb dY_call_140 (by decide) ?_
              have hc := c_Y_wrong l dC dI cI cJ qY qYm qYr qYv qYl qYn qYp qYs qYw qY6 s.heap.size yPc yMod yLev yLoc yKsp yUsp yKgp yVal yTab ySpc yHal yEnt yPen yBuf yHer yWrd yHas yTrp yNon yMem yR yV yPL yPN yBP yBS yBW ySix (4 : Int32) hy0 hy4 ht0 ht1
              generalize er141_5 : f_Y_wrong (4 : Int32) yPc yMod yLev yLoc yKsp yUsp yKgp yTab ySpc yHal yEnt yBuf yHer yMem yR yV yBP yBS yBW ySix = r141_5 at hu hc
              unfold f_Y_call_K141_5 at hu
              refine qa_callv (pc := 141) (wr := []) (wf := (wY cI cJ qY qYm qYr qYv qYl qYn qYp qYs qYw qY6 r141_5.1 r141_5.2.1 yLev r141_5.2.2.1 yKsp r141_5.2.2.2.1 yKgp yVal yTab ySpc r141_5.2.2.2.2.1 r141_5.2.2.2.2.2.1 yPen r141_5.2.2.2.2.2.2.1 yHer yWrd yHas yTrp yNon r141_5.2.2.2.2.2.2.2.1 r141_5.2.2.2.2.2.2.2.2.1 yV yPL yPN r141_5.2.2.2.2.2.2.2.2.2.1 r141_5.2.2.2.2.2.2.2.2.2.2.1 r141_5.2.2.2.2.2.2.2.2.2.2.2.1 r141_5.2.2.2.2.2.2.2.2.2.2.2.2)) (va_runV (As := [.int (4 : Int32)]) (rest := []) ⟨hx, hb, hml, hown, hts⟩ hc (cwV 1 hts (gd_V gm_459 gm_457 gm_458 gm_588 gm_6) rfl rfl rfl (by decide +kernel) ⟨Nat.le_of_ble_eq_true rfl, Nat.le_of_ble_eq_true rfl⟩) (qa_VM (q0 := 0) (q := ("LongMachineModel", TY, 28)) hK hP rfl rfl hP hD) rfl rfl hl.1 rfl (lv_room (Nat.le_of_ble_eq_true rfl)) dY_call_141 ⟨Nat.zero_le _, Nat.zero_le _⟩) hP hD hS hA [0, 1, 2, 3, 4, 5, 6, 7, 8, 9] [] [0, 1, 2, 3, 4, 5, 6, 7, 8, 9] rfl (by decide) rfl (by decide) (by decide) rfl rfl (by decide) (fun H locs hP hD hS => ?_)
              refine lv_goto (pc := 144) (tgt := 168) hx hb dY_call_144 (by decide) ?_
              subst hu
              exact W.vret hx hb hr (fun t ht hW => ⟨rfl, by rw [ht]; exact hP, hS.F ht⟩) hS.2.2 dY_call_168
        · have hu := hu.trans (if_pos h58_6)
          refine lv_aload_n (pc := 61) hx hb dY_call_61 rfl (lv_at hl 0 rfl) ?_
          refine lv_iconst (pc := 62) (v := (5 : Int32)) hx hb dY_call_62 (by decide) ?_
          refine lv_aload_n (pc := 63) hx hb dY_call_63 rfl (lv_at hl 0 rfl) ?_
          refine va_get (D := (dC, dI)) (pc := 64) (ci := 5) (v := .ref qYr) (C := "LongMachineModel") (T := TY) (N := 28) hx hb hts ui_Y hown hK hP 0 rfl rfl 1 (by decide) (hts _ gm_347) (fun _ h9 => h9) rfl dY_call_64 ?_
          refine lv_bipush (pc := 67) (v := (16 : Int32)) hx hb dY_call_67 (by decide) ?_
          refine qa_lald (pc := 69) (k := 16) hx hb hK hP 2 1 rfl rfl (by decide) (qa_in (by decide)) dY_call_69 ?_
          refine lv_aload_n (pc := 70) hx hb dY_call_70 rfl (lv_at hl 0 rfl) ?_
          refine va_get (D := (dC, dI)) (pc := 71) (ci := 5) (v := .ref qYr) (C := "LongMachineModel") (T := TY) (N := 28) hx hb hts ui_Y hown hK hP 0 rfl rfl 1 (by decide) (hts _ gm_347) (fun _ h9 => h9) rfl dY_call_71 ?_
          refine lv_bipush (pc := 74) (v := (17 : Int32)) hx hb dY_call_74 (by decide) ?_
          refine qa_lald (pc := 76) (k := 17) hx hb hK hP 2 1 rfl rfl (by decide) (qa_in (by decide)) dY_call_76 ?_
          refine lv_aload_n (pc := 77) hx hb dY_call_77 rfl (lv_at hl 0 rfl) ?_
          refine va_get (D := (dC, dI)) (pc := 78) (ci := 5) (v := .ref qYr) (C := "LongMachineModel") (T := TY) (N := 28) hx hb hts ui_Y hown hK hP 0 rfl rfl 1 (by decide) (hts _ gm_347) (fun _ h9 => h9) rfl dY_call_78 ?_
          refine lv_bipush (pc := 81) (v := (18 : Int32)) hx hb dY_call_81 (by decide) ?_
          refine qa_lald (pc := 83) (k := 18) hx hb hK hP 2 1 rfl rfl (by decide) (qa_in (by decide)) dY_call_83 ?_
          refine lv_aload_n (pc := 84) hx hb dY_call_84 rfl (lv_at hl 0 rfl) ?_
          refine va_get (D := (dC, dI)) (pc := 85) (ci := 5) (v := .long yPc) (C := "LongMachineModel") (T := TY) (N := 28) hx hb hts ui_Y hown hK hP 0 rfl rfl 2 (by decide) (hts _ gm_348) (fun _ h9 => h9) rfl dY_call_85 ?_
          have hc := c_Y_entry l dC dI cI cJ qY qYm qYr qYv qYl qYn qYp qYs qYw qY6 s.heap.size yPc yMod yLev yLoc yKsp yUsp yKgp yVal yTab ySpc yHal yEnt yPen yBuf yHer yWrd yHas yTrp yNon yMem yR yV yPL yPN yBP yBS yBW ySix (5 : Int32) (yR 16) (yR 17) (yR 18) yPc hy0 hy4 ht0 ht1 (by decide) (by decide)
          generalize er88_6 : f_Y_entry (5 : Int32) (yR 16) (yR 17) (yR 18) yPc yPc yMod yLev yLoc yKsp yUsp yKgp yTab ySpc yHal yEnt yBuf yMem yR yV yBP yBS yBW ySix = r88_6 at hu hc
          unfold f_Y_call_K88_6 at hu
          refine qa_callv (pc := 88) (wr := []) (wf := (wY cI cJ qY qYm qYr qYv qYl qYn qYp qYs qYw qY6 r88_6.1 r88_6.2.1 yLev r88_6.2.2.1 yKsp r88_6.2.2.2.1 yKgp yVal yTab ySpc r88_6.2.2.2.2.1 r88_6.2.2.2.2.2.1 yPen r88_6.2.2.2.2.2.2.1 yHer yWrd yHas yTrp yNon r88_6.2.2.2.2.2.2.2.1 r88_6.2.2.2.2.2.2.2.2.1 yV yPL yPN r88_6.2.2.2.2.2.2.2.2.2.1 r88_6.2.2.2.2.2.2.2.2.2.2.1 r88_6.2.2.2.2.2.2.2.2.2.2.2.1 r88_6.2.2.2.2.2.2.2.2.2.2.2.2)) (va_runV (As := [.int (5 : Int32), .long (yR 16), .long (yR 17), .long (yR 18), .long yPc]) (rest := []) ⟨hx, hb, hml, hown, hts⟩ hc (cwV 5 hts (gd_V gm_417 gm_415 gm_416 gm_579 gm_6) rfl rfl rfl (by decide +kernel) ⟨Nat.le_of_ble_eq_true rfl, Nat.le_of_ble_eq_true rfl⟩) (qa_VM (q0 := 0) (q := ("LongMachineModel", TY, 28)) hK hP rfl rfl hP hD) rfl rfl hl.1 rfl (lv_room (Nat.le_of_ble_eq_true rfl)) dY_call_88 ⟨Nat.zero_le _, Nat.zero_le _⟩) hP hD hS hA [0, 1, 2, 3, 4, 5, 6, 7, 8, 9] [] [0, 1, 2, 3, 4, 5, 6, 7, 8, 9] rfl (by decide) rfl (by decide) (by decide) rfl rfl (by decide) (fun H locs hP hD hS => ?_)
          refine lv_goto (pc := 91) (tgt := 168) hx hb dY_call_91 (by decide) ?_
          subst hu
          exact W.vret hx hb hr (fun t ht hW => ⟨rfl, by rw [ht]; exact hP, hS.F ht⟩) hS.2.2 dY_call_168
      · have hu := hu.trans (if_pos h18_5)
        refine lv_aload_n (pc := 21) hx hb dY_call_21 rfl (lv_at hl 0 rfl) ?_
        refine lv_iconst (pc := 22) (v := (3 : Int32)) hx hb dY_call_22 (by decide) ?_
        refine lv_iload_n (pc := 23) hx hb dY_call_23 rfl (lv_at hl 1 rfl) ?_
        refine lv_sipush (pc := 24) (v := (170 : Int32)) hx hb dY_call_24 (by decide) ?_
        refine lv_icmp_ne (pc := 27) (tgt := 36) hx hb dY_call_27 (by decide) (fun h27_16 => absurd h18_5 h27_16) (fun h27_16 => ?_)
        refine lv_ldc2 (pc := 30) (v := (2 : Int64)) hx hb hown (hts _ gm_456) dY_call_30 ?_
        refine lv_goto (pc := 33) (tgt := 42) hx hb dY_call_33 (by decide) ?_
        refine lv_lconst (pc := 42) (v := (0 : Int64)) hx hb dY_call_42 (by decide) ?_
        refine lv_lconst (pc := 43) (v := (0 : Int64)) hx hb dY_call_43 (by decide) ?_
        refine lv_aload_n (pc := 44) hx hb dY_call_44 rfl (lv_at hl 0 rfl) ?_
        refine va_get (D := (dC, dI)) (pc := 45) (ci := 5) (v := .long yPc) (C := "LongMachineModel") (T := TY) (N := 28) hx hb hts ui_Y hown hK hP 0 rfl rfl 2 (by decide) (hts _ gm_348) (fun _ h9 => h9) rfl dY_call_45 ?_
        have hc := c_Y_entry l dC dI cI cJ qY qYm qYr qYv qYl qYn qYp qYs qYw qY6 s.heap.size yPc yMod yLev yLoc yKsp yUsp yKgp yVal yTab ySpc yHal yEnt yPen yBuf yHer yWrd yHas yTrp yNon yMem yR yV yPL yPN yBP yBS yBW ySix (3 : Int32) (2 : Int64) (0 : Int64) (0 : Int64) yPc hy0 hy4 ht0 ht1 (by decide) (by decide)
        generalize er48_7 : f_Y_entry (3 : Int32) (2 : Int64) (0 : Int64) (0 : Int64) yPc yPc yMod yLev yLoc yKsp yUsp yKgp yTab ySpc yHal yEnt yBuf yMem yR yV yBP yBS yBW ySix = r48_7 at hu hc
        unfold f_Y_call_K48_7 at hu
        refine qa_callv (pc := 48) (wr := []) (wf := (wY cI cJ qY qYm qYr qYv qYl qYn qYp qYs qYw qY6 r48_7.1 r48_7.2.1 yLev r48_7.2.2.1 yKsp r48_7.2.2.2.1 yKgp yVal yTab ySpc r48_7.2.2.2.2.1 r48_7.2.2.2.2.2.1 yPen r48_7.2.2.2.2.2.2.1 yHer yWrd yHas yTrp yNon r48_7.2.2.2.2.2.2.2.1 r48_7.2.2.2.2.2.2.2.2.1 yV yPL yPN r48_7.2.2.2.2.2.2.2.2.2.1 r48_7.2.2.2.2.2.2.2.2.2.2.1 r48_7.2.2.2.2.2.2.2.2.2.2.2.1 r48_7.2.2.2.2.2.2.2.2.2.2.2.2)) (va_runV (As := [.int (3 : Int32), .long (2 : Int64), .long (0 : Int64), .long (0 : Int64), .long yPc]) (rest := []) ⟨hx, hb, hml, hown, hts⟩ hc (cwV 5 hts (gd_V gm_417 gm_415 gm_416 gm_579 gm_6) rfl rfl rfl (by decide +kernel) ⟨Nat.le_of_ble_eq_true rfl, Nat.le_of_ble_eq_true rfl⟩) (qa_VM (q0 := 0) (q := ("LongMachineModel", TY, 28)) hK hP rfl rfl hP hD) rfl rfl hl.1 rfl (lv_room (Nat.le_of_ble_eq_true rfl)) dY_call_48 ⟨Nat.zero_le _, Nat.zero_le _⟩) hP hD hS hA [0, 1, 2, 3, 4, 5, 6, 7, 8, 9] [] [0, 1, 2, 3, 4, 5, 6, 7, 8, 9] rfl (by decide) rfl (by decide) (by decide) rfl rfl (by decide) (fun H locs hP hD hS => ?_)
        refine lv_goto (pc := 51) (tgt := 168) hx hb dY_call_51 (by decide) ?_
        subst hu
        exact W.vret hx hb hr (fun t ht hW => ⟨rfl, by rw [ht]; exact hP, hS.F ht⟩) hS.2.2 dY_call_168
