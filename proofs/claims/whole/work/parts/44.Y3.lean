def f_Y_move_K291_3 (yPc : Int64) (yMod : Int32) (yUsp : Int64) (yHal : Int32) (yEnt : Int32) (ySix : (Nat → Int64)) (r185_1 : Int32 × Int32 × (Nat → Int32) × (Nat → Int32) × (Nat → Int64)) (r280_2 : (Nat → Int32)) (r291_3 : (Nat → Int64)) : Int64 × Int32 × Int32 × Int64 × Int32 × Int32 × Int32 × (Nat → Int32) × (Nat → Int64) × (Nat → Int32) × (Nat → Int32) × (Nat → Int64) × (Nat → Int64) := (yPc, yMod, (0 : Int32), yUsp, yHal, yEnt, r185_1.2.1, r280_2, r291_3, r185_1.2.2.1, r185_1.2.2.2.1, r185_1.2.2.2.2, ySix)
def f_Y_move_K280_2 (z1 : Int32) (yPc : Int64) (yMod : Int32) (yLoc : Int32) (yUsp : Int64) (yHal : Int32) (yEnt : Int32) (yWrd : Int32) (yR : (Nat → Int64)) (ySix : (Nat → Int64)) (r185_1 : Int32 × Int32 × (Nat → Int32) × (Nat → Int32) × (Nat → Int64)) (r280_2 : (Nat → Int32)) : Int64 × Int32 × Int32 × Int64 × Int32 × Int32 × Int32 × (Nat → Int32) × (Nat → Int64) × (Nat → Int32) × (Nat → Int32) × (Nat → Int64) × (Nat → Int64) := (if (if z1 = (46 : Int32) then (1 : Int32) else (if z1 = (47 : Int32) then (1 : Int32) else (0 : Int32))) = (0 : Int32) then (yPc, yMod, yLoc, yUsp, yHal, yEnt, r185_1.2.1, r280_2, yR, r185_1.2.2.1, r185_1.2.2.2.1, r185_1.2.2.2.2, ySix) else (f_Y_move_K291_3 yPc yMod yUsp yHal yEnt ySix r185_1 r280_2 (f_Y_give ((yWrd >>> ((21 : Int32) &&& (31 : Int32))) &&& (31 : Int32)) (1 : Int64) yR)))
def f_Y_move_K246_4 (z1 : Int32) (yPc : Int64) (yMod : Int32) (yLoc : Int32) (yUsp : Int64) (yHal : Int32) (yEnt : Int32) (yMem : (Nat → Int32)) (ySix : (Nat → Int64)) (r185_1 : Int32 × Int32 × (Nat → Int32) × (Nat → Int32) × (Nat → Int64)) (r246_4 : (Nat → Int64)) : Int64 × Int32 × Int32 × Int64 × Int32 × Int32 × Int32 × (Nat → Int32) × (Nat → Int64) × (Nat → Int32) × (Nat → Int32) × (Nat → Int64) × (Nat → Int64) := (if z1 = (42 : Int32) then (yPc, yMod, (1 : Int32), yUsp, yHal, yEnt, r185_1.2.1, yMem, r246_4, r185_1.2.2.1, r185_1.2.2.2.1, r185_1.2.2.2.2, ySix) else (if z1 = (43 : Int32) then (yPc, yMod, (1 : Int32), yUsp, yHal, yEnt, r185_1.2.1, yMem, r246_4, r185_1.2.2.1, r185_1.2.2.2.1, r185_1.2.2.2.2, ySix) else (yPc, yMod, yLoc, yUsp, yHal, yEnt, r185_1.2.1, yMem, r246_4, r185_1.2.2.1, r185_1.2.2.2.1, r185_1.2.2.2.2, ySix)))
def f_Y_move_K209_5  (r209_5 : Int64 × Int32 × Int32 × Int64 × Int32 × Int32 × Int32 × (Nat → Int32) × (Nat → Int64) × (Nat → Int32) × (Nat → Int32) × (Nat → Int64) × (Nat → Int64)) : Int64 × Int32 × Int32 × Int64 × Int32 × Int32 × Int32 × (Nat → Int32) × (Nat → Int64) × (Nat → Int32) × (Nat → Int32) × (Nat → Int64) × (Nat → Int64) := (r209_5.1, r209_5.2.1, r209_5.2.2.1, r209_5.2.2.2.1, r209_5.2.2.2.2.1, r209_5.2.2.2.2.2.1, r209_5.2.2.2.2.2.2.1, r209_5.2.2.2.2.2.2.2.1, r209_5.2.2.2.2.2.2.2.2.1, r209_5.2.2.2.2.2.2.2.2.2.1, r209_5.2.2.2.2.2.2.2.2.2.2.1, r209_5.2.2.2.2.2.2.2.2.2.2.2.1, r209_5.2.2.2.2.2.2.2.2.2.2.2.2)
def f_Y_move_K185_1 (z1 : Int32) (yPc : Int64) (yMod : Int32) (yLev : Int32) (yLoc : Int32) (yKsp : Int64) (yUsp : Int64) (yKgp : Int64) (yTab : Int32) (ySpc : Int32) (yHal : Int32) (yEnt : Int32) (yHer : Int64) (yWrd : Int32) (yMem : (Nat → Int32)) (yR : (Nat → Int64)) (yV : (Nat → Int64)) (ySix : (Nat → Int64)) (k3_173 : Int64) (r185_1 : Int32 × Int32 × (Nat → Int32) × (Nat → Int32) × (Nat → Int64)) : Int64 × Int32 × Int32 × Int64 × Int32 × Int32 × Int32 × (Nat → Int32) × (Nat → Int64) × (Nat → Int32) × (Nat → Int32) × (Nat → Int64) × (Nat → Int64) := (if (0 : Int32) ≤ r185_1.1 then (if (if z1 = (11 : Int32) then (1 : Int32) else (if z1 < (40 : Int32) then (0 : Int32) else (if (43 : Int32) < z1 then (0 : Int32) else (1 : Int32)))) = (0 : Int32) then (f_Y_move_K280_2 z1 yPc yMod yLoc yUsp yHal yEnt yWrd yR ySix r185_1 (f_Y_store r185_1.1 (if (z1 &&& (1 : Int32)) = (0 : Int32) then (4 : Int32) else (8 : Int32)) (yR (Int32.toNatClampNeg ((yWrd >>> ((21 : Int32) &&& (31 : Int32))) &&& (31 : Int32)))) yMem)) else (f_Y_move_K246_4 z1 yPc yMod yLoc yUsp yHal yEnt yMem ySix r185_1 (f_Y_give ((yWrd >>> ((21 : Int32) &&& (31 : Int32))) &&& (31 : Int32)) (if (if (z1 &&& (1 : Int32)) = (0 : Int32) then (4 : Int32) else (8 : Int32)) = (4 : Int32) then (Int32.toInt64 (Int64.toInt32 (f_Y_bytes r185_1.1 (if (z1 &&& (1 : Int32)) = (0 : Int32) then (4 : Int32) else (8 : Int32)) yMem))) else (f_Y_bytes r185_1.1 (if (z1 &&& (1 : Int32)) = (0 : Int32) then (4 : Int32) else (8 : Int32)) yMem)) yR))) else (f_Y_move_K209_5  (f_Y_fault k3_173 r185_1.1 (if (if z1 = (11 : Int32) then (1 : Int32) else (if z1 < (40 : Int32) then (0 : Int32) else (if (43 : Int32) < z1 then (0 : Int32) else (1 : Int32)))) = (0 : Int32) then (1 : Int32) else (0 : Int32)) yPc yMod yLev yLoc yKsp yUsp yKgp yTab ySpc yHal yEnt r185_1.2.1 yHer yMem yR yV r185_1.2.2.1 r185_1.2.2.2.1 r185_1.2.2.2.2 ySix)))
def f_Y_move_B173 (z1 : Int32) (yPc : Int64) (yMod : Int32) (yLev : Int32) (yLoc : Int32) (yKsp : Int64) (yUsp : Int64) (yKgp : Int64) (yTab : Int32) (ySpc : Int32) (yHal : Int32) (yEnt : Int32) (yBuf : Int32) (yHer : Int64) (yWrd : Int32) (yMem : (Nat → Int32)) (yR : (Nat → Int64)) (yV : (Nat → Int64)) (yBP : (Nat → Int32)) (yBS : (Nat → Int32)) (yBW : (Nat → Int64)) (ySix : (Nat → Int64)) (k3_173 : Int64) : Int64 × Int32 × Int32 × Int64 × Int32 × Int32 × Int32 × (Nat → Int32) × (Nat → Int64) × (Nat → Int32) × (Nat → Int32) × (Nat → Int64) × (Nat → Int64) := (f_Y_move_K185_1 z1 yPc yMod yLev yLoc yKsp yUsp yKgp yTab ySpc yHal yEnt yHer yWrd yMem yR yV ySix k3_173 (f_Y_translate k3_173 (if (if z1 = (11 : Int32) then (1 : Int32) else (if z1 < (40 : Int32) then (0 : Int32) else (if (43 : Int32) < z1 then (0 : Int32) else (1 : Int32)))) = (0 : Int32) then (1 : Int32) else (0 : Int32)) yMod yTab ySpc yBuf yMem yBP yBS yBW))
def f_Y_move_K169_6 (yPc : Int64) (yMod : Int32) (yLoc : Int32) (yUsp : Int64) (yHal : Int32) (yEnt : Int32) (yBuf : Int32) (yMem : (Nat → Int32)) (yBP : (Nat → Int32)) (yBS : (Nat → Int32)) (yBW : (Nat → Int64)) (ySix : (Nat → Int64)) (r169_6 : (Nat → Int64)) : Int64 × Int32 × Int32 × Int64 × Int32 × Int32 × Int32 × (Nat → Int32) × (Nat → Int64) × (Nat → Int32) × (Nat → Int32) × (Nat → Int64) × (Nat → Int64) := (yPc, yMod, yLoc, yUsp, yHal, yEnt, yBuf, yMem, r169_6, yBP, yBS, yBW, ySix)
def f_Y_move_K131_7  (r131_7 : Int64 × Int32 × Int32 × Int64 × Int32 × Int32 × Int32 × (Nat → Int32) × (Nat → Int64) × (Nat → Int32) × (Nat → Int32) × (Nat → Int64) × (Nat → Int64)) : Int64 × Int32 × Int32 × Int64 × Int32 × Int32 × Int32 × (Nat → Int32) × (Nat → Int64) × (Nat → Int32) × (Nat → Int32) × (Nat → Int64) × (Nat → Int64) := (r131_7.1, r131_7.2.1, r131_7.2.2.1, r131_7.2.2.2.1, r131_7.2.2.2.2.1, r131_7.2.2.2.2.2.1, r131_7.2.2.2.2.2.2.1, r131_7.2.2.2.2.2.2.2.1, r131_7.2.2.2.2.2.2.2.2.1, r131_7.2.2.2.2.2.2.2.2.2.1, r131_7.2.2.2.2.2.2.2.2.2.2.1, r131_7.2.2.2.2.2.2.2.2.2.2.2.1, r131_7.2.2.2.2.2.2.2.2.2.2.2.2)
def f_Y_move_B64 (z1 : Int32) (yPc : Int64) (yMod : Int32) (yLev : Int32) (yLoc : Int32) (yKsp : Int64) (yUsp : Int64) (yKgp : Int64) (yTab : Int32) (ySpc : Int32) (yHal : Int32) (yEnt : Int32) (yBuf : Int32) (yHer : Int64) (yWrd : Int32) (yMem : (Nat → Int32)) (yR : (Nat → Int64)) (yV : (Nat → Int64)) (yBP : (Nat → Int32)) (yBS : (Nat → Int32)) (yBW : (Nat → Int64)) (ySix : (Nat → Int64)) (k3_64 : Int64) : Int64 × Int32 × Int32 × Int64 × Int32 × Int32 × Int32 × (Nat → Int32) × (Nat → Int64) × (Nat → Int32) × (Nat → Int32) × (Nat → Int64) × (Nat → Int64) := (if (k3_64 &&& (Int32.toInt64 ((if (if z1 = (11 : Int32) then (1 : Int32) else (if z1 = (15 : Int32) then (1 : Int32) else (0 : Int32))) = (0 : Int32) then (if (z1 &&& (1 : Int32)) = (0 : Int32) then (4 : Int32) else (8 : Int32)) else (8 : Int32)) - (1 : Int32)))) = (0 : Int64) then (if (if z1 = (46 : Int32) then (1 : Int32) else (if z1 = (47 : Int32) then (1 : Int32) else (0 : Int32))) = (0 : Int32) then (f_Y_move_B173 z1 yPc yMod yLev yLoc yKsp yUsp yKgp yTab ySpc yHal yEnt yBuf yHer yWrd yMem yR yV yBP yBS yBW ySix k3_64) else (if yLoc = (0 : Int32) then (f_Y_move_K169_6 yPc yMod yLoc yUsp yHal yEnt yBuf yMem yBP yBS yBW ySix (f_Y_give ((yWrd >>> ((21 : Int32) &&& (31 : Int32))) &&& (31 : Int32)) (0 : Int64) yR)) else (f_Y_move_B173 z1 yPc yMod yLev yLoc yKsp yUsp yKgp yTab ySpc yHal yEnt yBuf yHer yWrd yMem yR yV yBP yBS yBW ySix k3_64))) else (f_Y_move_K131_7  (f_Y_entry (4 : Int32) k3_64 (Int32.toInt64 z1) (Int32.toInt64 ((yWrd >>> ((21 : Int32) &&& (31 : Int32))) &&& (31 : Int32))) yHer yPc yMod yLev yLoc yKsp yUsp yKgp yTab ySpc yHal yEnt yBuf yMem yR yV yBP yBS yBW ySix)))
def f_Y_move (z1 : Int32) (yPc : Int64) (yMod : Int32) (yLev : Int32) (yLoc : Int32) (yKsp : Int64) (yUsp : Int64) (yKgp : Int64) (yTab : Int32) (ySpc : Int32) (yHal : Int32) (yEnt : Int32) (yBuf : Int32) (yHer : Int64) (yWrd : Int32) (yMem : (Nat → Int32)) (yR : (Nat → Int64)) (yV : (Nat → Int64)) (yBP : (Nat → Int32)) (yBS : (Nat → Int32)) (yBW : (Nat → Int64)) (ySix : (Nat → Int64)) : Int64 × Int32 × Int32 × Int64 × Int32 × Int32 × Int32 × (Nat → Int32) × (Nat → Int64) × (Nat → Int32) × (Nat → Int32) × (Nat → Int64) × (Nat → Int64) := (if (if z1 = (11 : Int32) then (1 : Int32) else (if z1 = (15 : Int32) then (1 : Int32) else (0 : Int32))) = (0 : Int32) then (f_Y_move_B64 z1 yPc yMod yLev yLoc yKsp yUsp yKgp yTab ySpc yHal yEnt yBuf yHer yWrd yMem yR yV yBP yBS yBW ySix ((yR (Int32.toNatClampNeg ((yWrd >>> ((16 : Int32) &&& (31 : Int32))) &&& (31 : Int32)))) + (Int32.toInt64 (Int16.toInt32 (Int32.toInt16 yWrd))))) else (f_Y_move_B64 z1 yPc yMod yLev yLoc yKsp yUsp yKgp yTab ySpc yHal yEnt yBuf yHer yWrd yMem yR yV yBP yBS yBW ySix (((yR (Int32.toNatClampNeg ((yWrd >>> ((16 : Int32) &&& (31 : Int32))) &&& (31 : Int32)))) + (Int32.toInt64 (Int16.toInt32 (Int32.toInt16 yWrd)))) &&& (-8 : Int64))))
set_option maxRecDepth 100000 in
set_option maxHeartbeats 4000000 in
theorem c_Y_move (l : Launch) (dC : Nat → ClassId) (dI : Nat → Nat → Nat) (cI cJ : ClassId) (qY qYm qYr qYv qYl qYn qYp qYs qYw qY6 : Nat) (sz : Nat) (yPc : Int64) (yMod : Int32) (yLev : Int32) (yLoc : Int32) (yKsp : Int64) (yUsp : Int64) (yKgp : Int64) (yVal : Int64) (yTab : Int32) (ySpc : Int32) (yHal : Int32) (yEnt : Int32) (yPen : Int32) (yBuf : Int32) (yHer : Int64) (yWrd : Int32) (yHas : Int32) (yTrp : Int32) (yNon : Int32) (yMem : (Nat → Int32)) (yR : (Nat → Int64)) (yV : (Nat → Int64)) (yPL : (Nat → Int32)) (yPN : (Nat → Int32)) (yBP : (Nat → Int32)) (yBS : (Nat → Int32)) (yBW : (Nat → Int64)) (ySix : (Nat → Int64)) (z1 : Int32) (hy0 : 0 ≤ yBuf.toInt) (hy4 : yBuf.toInt ≤ 4) (ht0 : 0 ≤ yTab.toInt) (ht1 : yTab.toInt ≤ 4064) : Met l yY_move (.code yY_move cY_move 12 none :: vG) ({ frames := 5, cells := 0, slots := 0, locals := 137 }) (va_Pc [.ref qY, .int z1] (qa_pre (dC, dI) vwCl (wY cI cJ qY qYm qYr qYv qYl qYn qYp qYs qYw qY6 yPc yMod yLev yLoc yKsp yUsp yKgp yVal yTab ySpc yHal yEnt yPen yBuf yHer yWrd yHas yTrp yNon yMem yR yV yPL yPN yBP yBS yBW ySix) [(cI, .int), (cJ, .long)] sz)) (qa_mod none (dC, dI) vwCl (wY cI cJ qY qYm qYr qYv qYl qYn qYp qYs qYw qY6 ((f_Y_move z1 yPc yMod yLev yLoc yKsp yUsp yKgp yTab ySpc yHal yEnt yBuf yHer yWrd yMem yR yV yBP yBS yBW ySix).1) ((f_Y_move z1 yPc yMod yLev yLoc yKsp yUsp yKgp yTab ySpc yHal yEnt yBuf yHer yWrd yMem yR yV yBP yBS yBW ySix).2.1) yLev ((f_Y_move z1 yPc yMod yLev yLoc yKsp yUsp yKgp yTab ySpc yHal yEnt yBuf yHer yWrd yMem yR yV yBP yBS yBW ySix).2.2.1) yKsp ((f_Y_move z1 yPc yMod yLev yLoc yKsp yUsp yKgp yTab ySpc yHal yEnt yBuf yHer yWrd yMem yR yV yBP yBS yBW ySix).2.2.2.1) yKgp yVal yTab ySpc ((f_Y_move z1 yPc yMod yLev yLoc yKsp yUsp yKgp yTab ySpc yHal yEnt yBuf yHer yWrd yMem yR yV yBP yBS yBW ySix).2.2.2.2.1) ((f_Y_move z1 yPc yMod yLev yLoc yKsp yUsp yKgp yTab ySpc yHal yEnt yBuf yHer yWrd yMem yR yV yBP yBS yBW ySix).2.2.2.2.2.1) yPen ((f_Y_move z1 yPc yMod yLev yLoc yKsp yUsp yKgp yTab ySpc yHal yEnt yBuf yHer yWrd yMem yR yV yBP yBS yBW ySix).2.2.2.2.2.2.1) yHer yWrd yHas yTrp yNon ((f_Y_move z1 yPc yMod yLev yLoc yKsp yUsp yKgp yTab ySpc yHal yEnt yBuf yHer yWrd yMem yR yV yBP yBS yBW ySix).2.2.2.2.2.2.2.1) ((f_Y_move z1 yPc yMod yLev yLoc yKsp yUsp yKgp yTab ySpc yHal yEnt yBuf yHer yWrd yMem yR yV yBP yBS yBW ySix).2.2.2.2.2.2.2.2.1) yV yPL yPN ((f_Y_move z1 yPc yMod yLev yLoc yKsp yUsp yKgp yTab ySpc yHal yEnt yBuf yHer yWrd yMem yR yV yBP yBS yBW ySix).2.2.2.2.2.2.2.2.2.1) ((f_Y_move z1 yPc yMod yLev yLoc yKsp yUsp yKgp yTab ySpc yHal yEnt yBuf yHer yWrd yMem yR yV yBP yBS yBW ySix).2.2.2.2.2.2.2.2.2.2.1) ((f_Y_move z1 yPc yMod yLev yLoc yKsp yUsp yKgp yTab ySpc yHal yEnt yBuf yHer yWrd yMem yR yV yBP yBS yBW ySix).2.2.2.2.2.2.2.2.2.2.2.1) ((f_Y_move z1 yPc yMod yLev yLoc yKsp yUsp yKgp yTab ySpc yHal yEnt yBuf yHer yWrd yMem yR yV yBP yBS yBW ySix).2.2.2.2.2.2.2.2.2.2.2.2)) (va_A (wY cI cJ qY qYm qYr qYv qYl qYn qYp qYs qYw qY6 yPc yMod yLev yLoc yKsp yUsp yKgp yVal yTab ySpc yHal yEnt yPen yBuf yHer yWrd yHas yTrp yNon yMem yR yV yPL yPN yBP yBS yBW ySix) sz)) 0 0 (va_A (wY cI cJ qY qYm qYr qYv qYl qYn qYp qYs qYw qY6 yPc yMod yLev yLoc yKsp yUsp yKgp yVal yTab ySpc yHal yEnt yPen yBuf yHer yWrd yHas yTrp yNon yMem yR yV yPL yPN yBP yBS yBW ySix) sz) := by
  refine Met.ofW (cc := cY_move) (maxL := 12) (ret := none) (by decide) rfl ?_
  intro p e s m args below meth c s₁ B hml hv
  obtain ⟨rfl, hsz, hP, hK, hD0⟩ := hv
  have hx := B.exec
  have hb := B.bytes
  have hr := B.returns
  have hts : ∀ w ∈ vG, w.before _ s = true := fun w h => atoms_spec (ws := (.code yY_move cY_move 12 none :: vG)) B.pre w (List.mem_cons_of_mem _ h)
  have hown : s.vm.findClass "LongMachineModel" = some m.cls := findClass_of_methodNamed B.named
  have hlocks := B.notSynchronized
  subst hsz
  have hD := hD0.self (sz := s.heap.size)
  generalize hAe : va_A (wY cI cJ qY qYm qYr qYv qYl qYn qYp qYs qYw qY6 yPc yMod yLev yLoc yKsp yUsp yKgp yVal yTab ySpc yHal yEnt yPen yBuf yHer yWrd yHas yTrp yNon yMem yR yV yPL yPN yBP yBS yBW ySix) s.heap.size = A at hD ⊢
  have hA : ∀ q : Nat, s.heap.size ≤ q → A q := fun q h => by rw [← hAe]; exact Or.inr h
  have hS : va_S A s.heap s.heap [] := va_S.rf
  have hl := lv_entry ([.ref qY, .int z1]) (n := 12) (Nat.le_of_ble_eq_true rfl)
  rw [lg_entry_eq]
  generalize (lg_sl ([.ref qY, .int z1]) ++ List.replicate (12 - (lg_sl ([.ref qY, .int z1])).length) Slot.unset).toArray = ls at hl ⊢
  have hl : lv_has ls 12 [(0, .ref qY), (1, .int z1)] := hl
  obtain ⟨u, hu⟩ : ∃ u, u = f_Y_move z1 yPc yMod yLev yLoc yKsp yUsp yKgp yTab ySpc yHal yEnt yBuf yHer yWrd yMem yR yV yBP yBS yBW ySix := ⟨_, rfl⟩
  rw [← hu]
  unfold f_Y_move at hu
  have hB173 : ∀ (k3_173 : Int64) (H : Heap) (locs : List Loc) (ls : Array Slot) (hq173_al : (k3_173 &&& Int32.toInt64 ((if (z1 &&& (1 : Int32)) = (0 : Int32) then (4 : Int32) else (8 : Int32)) - (1 : Int32))) = (0 : Int64)) (hP : va_P (dC, dI) vwCl (wY cI cJ qY qYm qYr qYv qYl qYn qYp qYs qYw qY6 yPc yMod yLev yLoc yKsp yUsp yKgp yVal yTab ySpc yHal yEnt yPen yBuf yHer yWrd yHas yTrp yNon yMem yR yV yPL yPN yBP yBS yBW ySix) H) (hD : va_D A (wY cI cJ qY qYm qYr qYv qYl qYn qYp qYs qYw qY6 yPc yMod yLev yLoc yKsp yUsp yKgp yVal yTab ySpc yHal yEnt yPen yBuf yHer yWrd yHas yTrp yNon yMem yR yV yPL yPN yBP yBS yBW ySix)) (hS : va_S A s.heap H locs) (hl : lv_has ls 12 [(0, .ref qY), (1, .int z1), (2, .int ((yWrd >>> ((21 : Int32) &&& (31 : Int32))) &&& (31 : Int32))), (3, .long k3_173), (5, .int (if z1 = (11 : Int32) then (1 : Int32) else (if z1 = (15 : Int32) then (1 : Int32) else (0 : Int32)))), (6, .int (if z1 = (11 : Int32) then (1 : Int32) else (if z1 < (40 : Int32) then (0 : Int32) else (if (43 : Int32) < z1 then (0 : Int32) else (1 : Int32))))), (7, .int (if (z1 &&& (1 : Int32)) = (0 : Int32) then (4 : Int32) else (8 : Int32))), (8, .int (if z1 = (46 : Int32) then (1 : Int32) else (if z1 = (47 : Int32) then (1 : Int32) else (0 : Int32))))]) (u : Int64 × Int32 × Int32 × Int64 × Int32 × Int32 × Int32 × (Nat → Int32) × (Nat → Int64) × (Nat → Int32) × (Nat → Int32) × (Nat → Int64) × (Nat → Int64)) (hu : u = f_Y_move_B173 z1 yPc yMod yLev yLoc yKsp yUsp yKgp yTab ySpc yHal yEnt yBuf yHer yWrd yMem yR yV yBP yBS yBW ySix k3_173), W p l e { frames := 5, cells := 0, slots := 0, locals := 137 } s m ([.ref qY, .int z1]).toArray below meth c H locs 0 0 (MQ below (qa_mod none (dC, dI) vwCl (wY cI cJ qY qYm qYr qYv qYl qYn qYp qYs qYw qY6 u.1 u.2.1 yLev u.2.2.1 yKsp u.2.2.2.1 yKgp yVal yTab ySpc u.2.2.2.2.1 u.2.2.2.2.2.1 yPen u.2.2.2.2.2.2.1 yHer yWrd yHas yTrp yNon u.2.2.2.2.2.2.2.1 u.2.2.2.2.2.2.2.2.1 yV yPL yPN u.2.2.2.2.2.2.2.2.2.1 u.2.2.2.2.2.2.2.2.2.2.1 u.2.2.2.2.2.2.2.2.2.2.2.1 u.2.2.2.2.2.2.2.2.2.2.2.2) A) ([.ref qY, .int z1]).toArray s 0 0 A) (F0 m 173 ls []) := by
    intro k3_173 H locs ls hq173_al hP hD hS hl u hu
    unfold f_Y_move_B173 at hu
    refine lv_aload_n (pc := 173) hx hb dY_move_173 rfl (lv_at hl 0 rfl) ?_
    refine lv_lload_n (pc := 174) hx hb dY_move_174 rfl (lv_at hl 3 rfl) ?_
    refine lv_iload (pc := 175) hx hb dY_move_175 (lv_at hl 5 rfl) ?_
    refine qa_joini (J := 185) (ls2 := ls) (rest2 := [.long k3_173, .ref qY]) (if (if z1 = (11 : Int32) then (1 : Int32) else (if z1 < (40 : Int32) then (0 : Int32) else (if (43 : Int32) < z1 then (0 : Int32) else (1 : Int32)))) = (0 : Int32) then (1 : Int32) else (0 : Int32)) (fun hj185 => ?_) ?_
    · refine lv_if_eq (pc := 177) (tgt := 184) hx hb dY_move_177 (by decide) (fun h177_1 => ?_) (fun h177_1 => ?_)
      · refine lv_iconst (pc := 184) (v := (1 : Int32)) hx hb dY_move_184 (by decide) ?_
        exact hj185 _ (Eq.symm (if_pos h177_1))
      · refine lv_iconst (pc := 180) (v := (0 : Int32)) hx hb dY_move_180 (by decide) ?_
        refine lv_goto (pc := 181) (tgt := 185) hx hb dY_move_181 (by decide) ?_
        exact hj185 _ (Eq.symm (if_neg h177_1))
    have hc := c_Y_translate l dC dI cI cJ qY qYm qYr qYv qYl qYn qYp qYs qYw qY6 H.size yPc yMod yLev yLoc yKsp yUsp yKgp yVal yTab ySpc yHal yEnt yPen yBuf yHer yWrd yHas yTrp yNon yMem yR yV yPL yPN yBP yBS yBW ySix k3_173 (if (if z1 = (11 : Int32) then (1 : Int32) else (if z1 < (40 : Int32) then (0 : Int32) else (if (43 : Int32) < z1 then (0 : Int32) else (1 : Int32)))) = (0 : Int32) then (1 : Int32) else (0 : Int32)) hy0 hy4 ht0 ht1
    generalize er185_1 : f_Y_translate k3_173 (if (if z1 = (11 : Int32) then (1 : Int32) else (if z1 < (40 : Int32) then (0 : Int32) else (if (43 : Int32) < z1 then (0 : Int32) else (1 : Int32)))) = (0 : Int32) then (1 : Int32) else (0 : Int32)) yMod yTab ySpc yBuf yMem yBP yBS yBW = r185_1 at hu hc
    unfold f_Y_move_K185_1 at hu
    refine qa_calli (pc := 185) (wr := []) (wf := (wY cI cJ qY qYm qYr qYv qYl qYn qYp qYs qYw qY6 yPc yMod yLev yLoc yKsp yUsp yKgp yVal yTab ySpc yHal yEnt yPen r185_1.2.1 yHer yWrd yHas yTrp yNon yMem yR yV yPL yPN r185_1.2.2.1 r185_1.2.2.2.1 r185_1.2.2.2.2 ySix)) (va_runV (As := [.long k3_173, .int (if (if z1 = (11 : Int32) then (1 : Int32) else (if z1 < (40 : Int32) then (0 : Int32) else (if (43 : Int32) < z1 then (0 : Int32) else (1 : Int32)))) = (0 : Int32) then (1 : Int32) else (0 : Int32))]) (rest := []) ⟨hx, hb, hml, hown, hts⟩ hc (cwV 2 hts (gd_V gm_422 gm_420 gm_421 gm_580 gm_6) rfl rfl rfl (by decide +kernel) ⟨Nat.le_of_ble_eq_true rfl, Nat.le_of_ble_eq_true rfl⟩) (qa_VM (q0 := 0) (q := ("LongMachineModel", TY, 28)) hK hP rfl rfl hP hD) rfl rfl hl.1 rfl (lv_room (Nat.le_of_ble_eq_true rfl)) dY_move_185 ⟨Nat.zero_le _, Nat.zero_le _⟩) hP hD hS hA [0, 1, 2, 3, 4, 5, 6, 7, 8, 9] [] [0, 1, 2, 3, 4, 5, 6, 7, 8, 9] rfl (by decide) rfl (by decide) (by decide) rfl rfl (by decide) (fun H locs hP hD hS => ?_)
    refine lv_istore (pc := 188) (lv' := [(9, .int r185_1.1), (0, .ref qY), (1, .int z1), (2, .int ((yWrd >>> ((21 : Int32) &&& (31 : Int32))) &&& (31 : Int32))), (3, .long k3_173), (5, .int (if z1 = (11 : Int32) then (1 : Int32) else (if z1 = (15 : Int32) then (1 : Int32) else (0 : Int32)))), (6, .int (if z1 = (11 : Int32) then (1 : Int32) else (if z1 < (40 : Int32) then (0 : Int32) else (if (43 : Int32) < z1 then (0 : Int32) else (1 : Int32))))), (7, .int (if (z1 &&& (1 : Int32)) = (0 : Int32) then (4 : Int32) else (8 : Int32))), (8, .int (if z1 = (46 : Int32) then (1 : Int32) else (if z1 = (47 : Int32) then (1 : Int32) else (0 : Int32))))]) hx hb dY_move_188 hl (by decide) rfl (fun ls hl => ?_)
    refine lv_iload (pc := 190) hx hb dY_move_190 (lv_at hl 0 rfl) ?_
    refine lv_if_ge (pc := 192) (tgt := 213) hx hb dY_move_192 (by decide) (fun h192_2 => ?_) (fun h192_2 => ?_)
    · have hu := hu.trans (if_pos h192_2)
      refine lv_iload (pc := 213) hx hb dY_move_213 (lv_at hl 6 rfl) ?_
      refine lv_if_eq (pc := 215) (tgt := 269) hx hb dY_move_215 (by decide) (fun h215_3 => ?_) (fun h215_3 => ?_)
      · have hu := hu.trans (if_pos h215_3)
        refine lv_aload_n (pc := 269) hx hb dY_move_269 rfl (lv_at hl 1 rfl) ?_
        refine lv_iload (pc := 270) hx hb dY_move_270 (lv_at hl 0 rfl) ?_
        refine lv_iload (pc := 272) hx hb dY_move_272 (lv_at hl 7 rfl) ?_
        refine lv_aload_n (pc := 274) hx hb dY_move_274 rfl (lv_at hl 1 rfl) ?_
        refine va_get (D := (dC, dI)) (pc := 275) (ci := 5) (v := .ref qYr) (C := "LongMachineModel") (T := TY) (N := 28) hx hb hts ui_Y hown hK hP 0 rfl rfl 1 (by decide) (hts _ gm_347) (fun _ h9 => h9) rfl dY_move_275 ?_
        refine lv_iload_n (pc := 278) hx hb dY_move_278 rfl (lv_at hl 3 rfl) ?_
        refine qa_lald (pc := 279) (k := (Int32.toNatClampNeg ((yWrd >>> ((21 : Int32) &&& (31 : Int32))) &&& (31 : Int32)))) hx hb hK hP 2 1 rfl rfl rfl (qa_and31 _) dY_move_279 ?_
        have hc := c_Y_store l dC dI cI cJ qY qYm qYr qYv qYl qYn qYp qYs qYw qY6 H.size yPc yMod yLev yLoc yKsp yUsp yKgp yVal yTab ySpc yHal yEnt yPen r185_1.2.1 yHer yWrd yHas yTrp yNon yMem yR yV yPL yPN r185_1.2.2.1 r185_1.2.2.2.1 r185_1.2.2.2.2 ySix r185_1.1 (if (z1 &&& (1 : Int32)) = (0 : Int32) then (4 : Int32) else (8 : Int32)) (yR (Int32.toNatClampNeg ((yWrd >>> ((21 : Int32) &&& (31 : Int32))) &&& (31 : Int32)))) (rg_best0 h192_2) (ry_atn (by rw [← er185_1]; exact ryf_tr ⟨hy0, hy4⟩) hq173_al ry_N (rg_best0 h192_2)) (ry_Nb.1) (ry_Nb.2)
        generalize er280_2 : f_Y_store r185_1.1 (if (z1 &&& (1 : Int32)) = (0 : Int32) then (4 : Int32) else (8 : Int32)) (yR (Int32.toNatClampNeg ((yWrd >>> ((21 : Int32) &&& (31 : Int32))) &&& (31 : Int32)))) yMem = r280_2 at hu hc
        unfold f_Y_move_K280_2 at hu
        refine qa_callv (pc := 280) (wr := []) (wf := (wY cI cJ qY qYm qYr qYv qYl qYn qYp qYs qYw qY6 yPc yMod yLev yLoc yKsp yUsp yKgp yVal yTab ySpc yHal yEnt yPen r185_1.2.1 yHer yWrd yHas yTrp yNon r280_2 yR yV yPL yPN r185_1.2.2.1 r185_1.2.2.2.1 r185_1.2.2.2.2 ySix)) (va_runV (As := [.int r185_1.1, .int (if (z1 &&& (1 : Int32)) = (0 : Int32) then (4 : Int32) else (8 : Int32)), .long (yR (Int32.toNatClampNeg ((yWrd >>> ((21 : Int32) &&& (31 : Int32))) &&& (31 : Int32))))]) (rest := []) ⟨hx, hb, hml, hown, hts⟩ hc (cwV 3 hts (gd_V gm_447 gm_445 gm_446 gm_585 gm_6) rfl rfl rfl (by decide +kernel) ⟨Nat.le_of_ble_eq_true rfl, Nat.le_of_ble_eq_true rfl⟩) (qa_VM (q0 := 0) (q := ("LongMachineModel", TY, 28)) hK hP rfl rfl hP hD) rfl rfl hl.1 rfl (lv_room (Nat.le_of_ble_eq_true rfl)) dY_move_280 ⟨Nat.zero_le _, Nat.zero_le _⟩) hP hD hS hA [0, 1, 2, 3, 4, 5, 6, 7, 8, 9] [] [0, 1, 2, 3, 4, 5, 6, 7, 8, 9] rfl (by decide) rfl (by decide) (by decide) rfl rfl (by decide) (fun H locs hP hD hS => ?_)
        refine lv_iload (pc := 283) hx hb dY_move_283 (lv_at hl 8 rfl) ?_
        refine lv_if_eq (pc := 285) (tgt := 299) hx hb dY_move_285 (by decide) (fun h285_4 => ?_) (fun h285_4 => ?_)
        · have hu := hu.trans (if_pos h285_4)
          subst hu
          exact W.vret hx hb hr (fun t ht hW => ⟨rfl, by rw [ht]; exact hP, hS.F ht⟩) hS.2.2 dY_move_299
        · have hu := hu.trans (if_neg h285_4)
          refine lv_aload_n (pc := 288) hx hb dY_move_288 rfl (lv_at hl 1 rfl) ?_
          refine lv_iload_n (pc := 289) hx hb dY_move_289 rfl (lv_at hl 3 rfl) ?_
          refine lv_lconst (pc := 290) (v := (1 : Int64)) hx hb dY_move_290 (by decide) ?_
          have hc := c_Y_give l dC dI cI cJ qY qYm qYr qYv qYl qYn qYp qYs qYw qY6 H.size yPc yMod yLev yLoc yKsp yUsp yKgp yVal yTab ySpc yHal yEnt yPen r185_1.2.1 yHer yWrd yHas yTrp yNon r280_2 yR yV yPL yPN r185_1.2.2.1 r185_1.2.2.2.1 r185_1.2.2.2.2 ySix ((yWrd >>> ((21 : Int32) &&& (31 : Int32))) &&& (31 : Int32)) (1 : Int64) ((rg_and31r _).1) ((rg_and31r _).2)
          generalize er291_3 : f_Y_give ((yWrd >>> ((21 : Int32) &&& (31 : Int32))) &&& (31 : Int32)) (1 : Int64) yR = r291_3 at hu hc
          unfold f_Y_move_K291_3 at hu
          refine qa_callv (pc := 291) (wr := []) (wf := (wY cI cJ qY qYm qYr qYv qYl qYn qYp qYs qYw qY6 yPc yMod yLev yLoc yKsp yUsp yKgp yVal yTab ySpc yHal yEnt yPen r185_1.2.1 yHer yWrd yHas yTrp yNon r280_2 r291_3 yV yPL yPN r185_1.2.2.1 r185_1.2.2.2.1 r185_1.2.2.2.2 ySix)) (va_runV (As := [.int ((yWrd >>> ((21 : Int32) &&& (31 : Int32))) &&& (31 : Int32)), .long (1 : Int64)]) (rest := []) ⟨hx, hb, hml, hown, hts⟩ hc (cwV 2 hts (gd_V gm_508 gm_506 gm_507 gm_596 gm_6) rfl rfl rfl (by decide +kernel) ⟨Nat.le_of_ble_eq_true rfl, Nat.le_of_ble_eq_true rfl⟩) (qa_VM (q0 := 0) (q := ("LongMachineModel", TY, 28)) hK hP rfl rfl hP hD) rfl rfl hl.1 rfl (lv_room (Nat.le_of_ble_eq_true rfl)) dY_move_291 ⟨Nat.zero_le _, Nat.zero_le _⟩) hP hD hS hA [0, 1, 2, 3, 4, 5, 6, 7, 8, 9] [] [0, 1, 2, 3, 4, 5, 6, 7, 8, 9] rfl (by decide) rfl (by decide) (by decide) rfl rfl (by decide) (fun H locs hP hD hS => ?_)
          refine lv_aload_n (pc := 294) hx hb dY_move_294 rfl (lv_at hl 1 rfl) ?_
          refine lv_iconst (pc := 295) (v := (0 : Int32)) hx hb dY_move_295 (by decide) ?_
          refine va_put (D := (dC, dI)) (pc := 296) (ci := 5) (v := .int (0 : Int32)) (ty := .boolean) (C := "LongMachineModel") (T := TY) (N := 28) hx hb hts ui_Y tyY tyY_ok nmY hown hK hP hD hS 0 rfl rfl 5 (by decide) (hts _ gm_351) (fun _ h9 => h9) rfl (by decide +kernel) rfl rfl (Nat.le_of_ble_eq_true rfl) dY_move_296 (fun H locs hP hD hS => ?_)
          have hP : va_P (dC, dI) vwCl (wY cI cJ qY qYm qYr qYv qYl qYn qYp qYs qYw qY6 yPc yMod yLev (0 : Int32) yKsp yUsp yKgp yVal yTab ySpc yHal yEnt yPen r185_1.2.1 yHer yWrd yHas yTrp yNon r280_2 r291_3 yV yPL yPN r185_1.2.2.1 r185_1.2.2.2.1 r185_1.2.2.2.2 ySix) H := hP
          have hD : va_D A (wY cI cJ qY qYm qYr qYv qYl qYn qYp qYs qYw qY6 yPc yMod yLev (0 : Int32) yKsp yUsp yKgp yVal yTab ySpc yHal yEnt yPen r185_1.2.1 yHer yWrd yHas yTrp yNon r280_2 r291_3 yV yPL yPN r185_1.2.2.1 r185_1.2.2.2.1 r185_1.2.2.2.2 ySix) := hD
          subst hu
          exact W.vret hx hb hr (fun t ht hW => ⟨rfl, by rw [ht]; exact hP, hS.F ht⟩) hS.2.2 dY_move_299
      · have hu := hu.trans (if_neg h215_3)
        refine lv_aload_n (pc := 218) hx hb dY_move_218 rfl (lv_at hl 1 rfl) ?_
        refine lv_iload (pc := 219) hx hb dY_move_219 (lv_at hl 0 rfl) ?_
        refine lv_iload (pc := 221) hx hb dY_move_221 (lv_at hl 7 rfl) ?_
        refine qa_calld (pc := 223) (v := .long (f_Y_bytes r185_1.1 (if (z1 &&& (1 : Int32)) = (0 : Int32) then (4 : Int32) else (8 : Int32)) yMem)) (va_runV (As := [.int r185_1.1, .int (if (z1 &&& (1 : Int32)) = (0 : Int32) then (4 : Int32) else (8 : Int32))]) (rest := []) ⟨hx, hb, hml, hown, hts⟩ (c_Y_bytes l dC dI cI cJ qY qYm qYr qYv qYl qYn qYp qYs qYw qY6 yPc yMod yLev yLoc yKsp yUsp yKgp yVal yTab ySpc yHal yEnt yPen r185_1.2.1 yHer yWrd yHas yTrp yNon yMem yR yV yPL yPN r185_1.2.2.1 r185_1.2.2.2.1 r185_1.2.2.2.2 ySix r185_1.1 (if (z1 &&& (1 : Int32)) = (0 : Int32) then (4 : Int32) else (8 : Int32)) (rg_best0 h192_2) (ry_atn (by rw [← er185_1]; exact ryf_tr ⟨hy0, hy4⟩) hq173_al ry_N (rg_best0 h192_2)) (ry_Nb.1) (ry_Nb.2)) (cwV 2 hts (gd_V gm_436 gm_434 gm_435 gm_583 gm_6) rfl rfl rfl (by decide +kernel) ⟨Nat.le_of_ble_eq_true rfl, Nat.le_of_ble_eq_true rfl⟩) (qa_VR (q0 := 0) (q := ("LongMachineModel", TY, 28)) hK hP rfl rfl hP) rfl rfl hl.1 rfl (lv_room (Nat.le_of_ble_eq_true rfl)) dY_move_223 ⟨Nat.zero_le _, Nat.zero_le _⟩) ?_
        refine lv_lstore (pc := 226) (lv' := [(10, .long (f_Y_bytes r185_1.1 (if (z1 &&& (1 : Int32)) = (0 : Int32) then (4 : Int32) else (8 : Int32)) yMem)), (9, .int r185_1.1), (0, .ref qY), (1, .int z1), (2, .int ((yWrd >>> ((21 : Int32) &&& (31 : Int32))) &&& (31 : Int32))), (3, .long k3_173), (5, .int (if z1 = (11 : Int32) then (1 : Int32) else (if z1 = (15 : Int32) then (1 : Int32) else (0 : Int32)))), (6, .int (if z1 = (11 : Int32) then (1 : Int32) else (if z1 < (40 : Int32) then (0 : Int32) else (if (43 : Int32) < z1 then (0 : Int32) else (1 : Int32))))), (7, .int (if (z1 &&& (1 : Int32)) = (0 : Int32) then (4 : Int32) else (8 : Int32))), (8, .int (if z1 = (46 : Int32) then (1 : Int32) else (if z1 = (47 : Int32) then (1 : Int32) else (0 : Int32))))]) hx hb dY_move_226 hl (by decide) rfl (fun ls hl => ?_)
        refine lv_aload_n (pc := 228) hx hb dY_move_228 rfl (lv_at hl 2 rfl) ?_
        refine lv_iload_n (pc := 229) hx hb dY_move_229 rfl (lv_at hl 4 rfl) ?_
        refine lv_iload (pc := 230) hx hb dY_move_230 (lv_at hl 8 rfl) ?_
        refine lv_iconst (pc := 232) (v := (4 : Int32)) hx hb dY_move_232 (by decide) ?_
        refine qa_joinl (J := 246) (ls2 := ls) (rest2 := [.int ((yWrd >>> ((21 : Int32) &&& (31 : Int32))) &&& (31 : Int32)), .ref qY]) (if (if (z1 &&& (1 : Int32)) = (0 : Int32) then (4 : Int32) else (8 : Int32)) = (4 : Int32) then (Int32.toInt64 (Int64.toInt32 (f_Y_bytes r185_1.1 (if (z1 &&& (1 : Int32)) = (0 : Int32) then (4 : Int32) else (8 : Int32)) yMem))) else (f_Y_bytes r185_1.1 (if (z1 &&& (1 : Int32)) = (0 : Int32) then (4 : Int32) else (8 : Int32)) yMem)) (fun hj246 => ?_) ?_
        · refine lv_icmp_ne (pc := 233) (tgt := 244) hx hb dY_move_233 (by decide) (fun h233_5 => ?_) (fun h233_5 => ?_)
          · refine lv_lload (pc := 244) hx hb dY_move_244 (lv_at hl 0 rfl) ?_
            exact hj246 _ (Eq.symm (if_neg h233_5))
          · refine lv_lload (pc := 236) hx hb dY_move_236 (lv_at hl 0 rfl) ?_
            refine qa_calld (pc := 238) (v := .long (Int32.toInt64 (Int64.toInt32 (f_Y_bytes r185_1.1 (if (z1 &&& (1 : Int32)) = (0 : Int32) then (4 : Int32) else (8 : Int32)) yMem)))) (va_runS (As := [.long (f_Y_bytes r185_1.1 (if (z1 &&& (1 : Int32)) = (0 : Int32) then (4 : Int32) else (8 : Int32)) yMem)]) (rest := [.int ((yWrd >>> ((21 : Int32) &&& (31 : Int32))) &&& (31 : Int32)), .ref qY]) ⟨hx, hb, hml, hown, hts⟩ (c_Y_sx l (f_Y_bytes r185_1.1 (if (z1 &&& (1 : Int32)) = (0 : Int32) then (4 : Int32) else (8 : Int32)) yMem)) (va_cwS 1 hts (gd_S gm_478 gm_476 gm_477 gm_6) rfl rfl rfl (by decide +kernel) ⟨Nat.le_of_ble_eq_true rfl, Nat.le_of_ble_eq_true rfl⟩) qa_S0 rfl rfl hl.1 rfl (lv_room (Nat.le_of_ble_eq_true rfl)) dY_move_238 ⟨Nat.zero_le _, Nat.zero_le _⟩) ?_
            refine lv_goto (pc := 241) (tgt := 246) hx hb dY_move_241 (by decide) ?_
            exact hj246 _ (Eq.symm (if_pos h233_5))
        have hc := c_Y_give l dC dI cI cJ qY qYm qYr qYv qYl qYn qYp qYs qYw qY6 H.size yPc yMod yLev yLoc yKsp yUsp yKgp yVal yTab ySpc yHal yEnt yPen r185_1.2.1 yHer yWrd yHas yTrp yNon yMem yR yV yPL yPN r185_1.2.2.1 r185_1.2.2.2.1 r185_1.2.2.2.2 ySix ((yWrd >>> ((21 : Int32) &&& (31 : Int32))) &&& (31 : Int32)) (if (if (z1 &&& (1 : Int32)) = (0 : Int32) then (4 : Int32) else (8 : Int32)) = (4 : Int32) then (Int32.toInt64 (Int64.toInt32 (f_Y_bytes r185_1.1 (if (z1 &&& (1 : Int32)) = (0 : Int32) then (4 : Int32) else (8 : Int32)) yMem))) else (f_Y_bytes r185_1.1 (if (z1 &&& (1 : Int32)) = (0 : Int32) then (4 : Int32) else (8 : Int32)) yMem)) ((rg_and31r _).1) ((rg_and31r _).2)
        generalize er246_4 : f_Y_give ((yWrd >>> ((21 : Int32) &&& (31 : Int32))) &&& (31 : Int32)) (if (if (z1 &&& (1 : Int32)) = (0 : Int32) then (4 : Int32) else (8 : Int32)) = (4 : Int32) then (Int32.toInt64 (Int64.toInt32 (f_Y_bytes r185_1.1 (if (z1 &&& (1 : Int32)) = (0 : Int32) then (4 : Int32) else (8 : Int32)) yMem))) else (f_Y_bytes r185_1.1 (if (z1 &&& (1 : Int32)) = (0 : Int32) then (4 : Int32) else (8 : Int32)) yMem)) yR = r246_4 at hu hc
        unfold f_Y_move_K246_4 at hu
        refine qa_callv (pc := 246) (wr := []) (wf := (wY cI cJ qY qYm qYr qYv qYl qYn qYp qYs qYw qY6 yPc yMod yLev yLoc yKsp yUsp yKgp yVal yTab ySpc yHal yEnt yPen r185_1.2.1 yHer yWrd yHas yTrp yNon yMem r246_4 yV yPL yPN r185_1.2.2.1 r185_1.2.2.2.1 r185_1.2.2.2.2 ySix)) (va_runV (As := [.int ((yWrd >>> ((21 : Int32) &&& (31 : Int32))) &&& (31 : Int32)), .long (if (if (z1 &&& (1 : Int32)) = (0 : Int32) then (4 : Int32) else (8 : Int32)) = (4 : Int32) then (Int32.toInt64 (Int64.toInt32 (f_Y_bytes r185_1.1 (if (z1 &&& (1 : Int32)) = (0 : Int32) then (4 : Int32) else (8 : Int32)) yMem))) else (f_Y_bytes r185_1.1 (if (z1 &&& (1 : Int32)) = (0 : Int32) then (4 : Int32) else (8 : Int32)) yMem))]) (rest := []) ⟨hx, hb, hml, hown, hts⟩ hc (cwV 2 hts (gd_V gm_508 gm_506 gm_507 gm_596 gm_6) rfl rfl rfl (by decide +kernel) ⟨Nat.le_of_ble_eq_true rfl, Nat.le_of_ble_eq_true rfl⟩) (qa_VM (q0 := 0) (q := ("LongMachineModel", TY, 28)) hK hP rfl rfl hP hD) rfl rfl hl.1 rfl (lv_room (Nat.le_of_ble_eq_true rfl)) dY_move_246 ⟨Nat.zero_le _, Nat.zero_le _⟩) hP hD hS hA [0, 1, 2, 3, 4, 5, 6, 7, 8, 9] [] [0, 1, 2, 3, 4, 5, 6, 7, 8, 9] rfl (by decide) rfl (by decide) (by decide) rfl rfl (by decide) (fun H locs hP hD hS => ?_)
        refine lv_iload_n (pc := 249) hx hb dY_move_249 rfl (lv_at hl 3 rfl) ?_
        refine lv_bipush (pc := 250) (v := (42 : Int32)) hx hb dY_move_250 (by decide) ?_
        refine lv_icmp_eq (pc := 252) (tgt := 261) hx hb dY_move_252 (by decide) (fun h252_6 => ?_) (fun h252_6 => ?_)
        · have hu := hu.trans (if_pos h252_6)
          refine lv_aload_n (pc := 261) hx hb dY_move_261 rfl (lv_at hl 2 rfl) ?_
          refine lv_iconst (pc := 262) (v := (1 : Int32)) hx hb dY_move_262 (by decide) ?_
          refine va_put (D := (dC, dI)) (pc := 263) (ci := 5) (v := .int (1 : Int32)) (ty := .boolean) (C := "LongMachineModel") (T := TY) (N := 28) hx hb hts ui_Y tyY tyY_ok nmY hown hK hP hD hS 0 rfl rfl 5 (by decide) (hts _ gm_351) (fun _ h9 => h9) rfl (by decide +kernel) rfl rfl (Nat.le_of_ble_eq_true rfl) dY_move_263 (fun H locs hP hD hS => ?_)
          have hP : va_P (dC, dI) vwCl (wY cI cJ qY qYm qYr qYv qYl qYn qYp qYs qYw qY6 yPc yMod yLev (1 : Int32) yKsp yUsp yKgp yVal yTab ySpc yHal yEnt yPen r185_1.2.1 yHer yWrd yHas yTrp yNon yMem r246_4 yV yPL yPN r185_1.2.2.1 r185_1.2.2.2.1 r185_1.2.2.2.2 ySix) H := hP
          have hD : va_D A (wY cI cJ qY qYm qYr qYv qYl qYn qYp qYs qYw qY6 yPc yMod yLev (1 : Int32) yKsp yUsp yKgp yVal yTab ySpc yHal yEnt yPen r185_1.2.1 yHer yWrd yHas yTrp yNon yMem r246_4 yV yPL yPN r185_1.2.2.1 r185_1.2.2.2.1 r185_1.2.2.2.2 ySix) := hD
          refine lv_goto (pc := 266) (tgt := 299) hx hb dY_move_266 (by decide) ?_
          subst hu
          exact W.vret hx hb hr (fun t ht hW => ⟨rfl, by rw [ht]; exact hP, hS.F ht⟩) hS.2.2 dY_move_299
        · have hu := hu.trans (if_neg h252_6)
          refine lv_iload_n (pc := 255) hx hb dY_move_255 rfl (lv_at hl 3 rfl) ?_
          refine lv_bipush (pc := 256) (v := (43 : Int32)) hx hb dY_move_256 (by decide) ?_
          refine lv_icmp_ne (pc := 258) (tgt := 266) hx hb dY_move_258 (by decide) (fun h258_7 => ?_) (fun h258_7 => ?_)
          · have hu := hu.trans (if_neg h258_7)
            refine lv_goto (pc := 266) (tgt := 299) hx hb dY_move_266 (by decide) ?_
            subst hu
            exact W.vret hx hb hr (fun t ht hW => ⟨rfl, by rw [ht]; exact hP, hS.F ht⟩) hS.2.2 dY_move_299
          · have hu := hu.trans (if_pos h258_7)
            refine lv_aload_n (pc := 261) hx hb dY_move_261 rfl (lv_at hl 2 rfl) ?_
            refine lv_iconst (pc := 262) (v := (1 : Int32)) hx hb dY_move_262 (by decide) ?_
            refine va_put (D := (dC, dI)) (pc := 263) (ci := 5) (v := .int (1 : Int32)) (ty := .boolean) (C := "LongMachineModel") (T := TY) (N := 28) hx hb hts ui_Y tyY tyY_ok nmY hown hK hP hD hS 0 rfl rfl 5 (by decide) (hts _ gm_351) (fun _ h9 => h9) rfl (by decide +kernel) rfl rfl (Nat.le_of_ble_eq_true rfl) dY_move_263 (fun H locs hP hD hS => ?_)
            have hP : va_P (dC, dI) vwCl (wY cI cJ qY qYm qYr qYv qYl qYn qYp qYs qYw qY6 yPc yMod yLev (1 : Int32) yKsp yUsp yKgp yVal yTab ySpc yHal yEnt yPen r185_1.2.1 yHer yWrd yHas yTrp yNon yMem r246_4 yV yPL yPN r185_1.2.2.1 r185_1.2.2.2.1 r185_1.2.2.2.2 ySix) H := hP
            have hD : va_D A (wY cI cJ qY qYm qYr qYv qYl qYn qYp qYs qYw qY6 yPc yMod yLev (1 : Int32) yKsp yUsp yKgp yVal yTab ySpc yHal yEnt yPen r185_1.2.1 yHer yWrd yHas yTrp yNon yMem r246_4 yV yPL yPN r185_1.2.2.1 r185_1.2.2.2.1 r185_1.2.2.2.2 ySix) := hD
            refine lv_goto (pc := 266) (tgt := 299) hx hb dY_move_266 (by decide) ?_
            subst hu
            exact W.vret hx hb hr (fun t ht hW => ⟨rfl, by rw [ht]; exact hP, hS.F ht⟩) hS.2.2 dY_move_299
    · have hu := hu.trans (if_neg h192_2)
      refine lv_aload_n (pc := 195) hx hb dY_move_195 rfl (lv_at hl 1 rfl) ?_
      refine lv_lload_n (pc := 196) hx hb dY_move_196 rfl (lv_at hl 4 rfl) ?_
      refine lv_iload (pc := 197) hx hb dY_move_197 (lv_at hl 0 rfl) ?_
      refine lv_iload (pc := 199) hx hb dY_move_199 (lv_at hl 6 rfl) ?_
      refine qa_joini (J := 209) (ls2 := ls) (rest2 := [.int r185_1.1, .long k3_173, .ref qY]) (if (if z1 = (11 : Int32) then (1 : Int32) else (if z1 < (40 : Int32) then (0 : Int32) else (if (43 : Int32) < z1 then (0 : Int32) else (1 : Int32)))) = (0 : Int32) then (1 : Int32) else (0 : Int32)) (fun hj209 => ?_) ?_
      · refine lv_if_eq (pc := 201) (tgt := 208) hx hb dY_move_201 (by decide) (fun h201_8 => ?_) (fun h201_8 => ?_)
        · refine lv_iconst (pc := 208) (v := (1 : Int32)) hx hb dY_move_208 (by decide) ?_
          exact hj209 _ (Eq.symm (if_pos h201_8))
        · refine lv_iconst (pc := 204) (v := (0 : Int32)) hx hb dY_move_204 (by decide) ?_
          refine lv_goto (pc := 205) (tgt := 209) hx hb dY_move_205 (by decide) ?_
          exact hj209 _ (Eq.symm (if_neg h201_8))
      have hc := c_Y_fault l dC dI cI cJ qY qYm qYr qYv qYl qYn qYp qYs qYw qY6 H.size yPc yMod yLev yLoc yKsp yUsp yKgp yVal yTab ySpc yHal yEnt yPen r185_1.2.1 yHer yWrd yHas yTrp yNon yMem yR yV yPL yPN r185_1.2.2.1 r185_1.2.2.2.1 r185_1.2.2.2.2 ySix k3_173 r185_1.1 (if (if z1 = (11 : Int32) then (1 : Int32) else (if z1 < (40 : Int32) then (0 : Int32) else (if (43 : Int32) < z1 then (0 : Int32) else (1 : Int32)))) = (0 : Int32) then (1 : Int32) else (0 : Int32)) (by rw [← er185_1]; exact (ryf_tr ⟨hy0, hy4⟩).2.1) (by rw [← er185_1]; exact (ryf_tr ⟨hy0, hy4⟩).2.2) ht0 ht1
      generalize er209_5 : f_Y_fault k3_173 r185_1.1 (if (if z1 = (11 : Int32) then (1 : Int32) else (if z1 < (40 : Int32) then (0 : Int32) else (if (43 : Int32) < z1 then (0 : Int32) else (1 : Int32)))) = (0 : Int32) then (1 : Int32) else (0 : Int32)) yPc yMod yLev yLoc yKsp yUsp yKgp yTab ySpc yHal yEnt r185_1.2.1 yHer yMem yR yV r185_1.2.2.1 r185_1.2.2.2.1 r185_1.2.2.2.2 ySix = r209_5 at hu hc
      unfold f_Y_move_K209_5 at hu
      refine qa_callv (pc := 209) (wr := []) (wf := (wY cI cJ qY qYm qYr qYv qYl qYn qYp qYs qYw qY6 r209_5.1 r209_5.2.1 yLev r209_5.2.2.1 yKsp r209_5.2.2.2.1 yKgp yVal yTab ySpc r209_5.2.2.2.2.1 r209_5.2.2.2.2.2.1 yPen r209_5.2.2.2.2.2.2.1 yHer yWrd yHas yTrp yNon r209_5.2.2.2.2.2.2.2.1 r209_5.2.2.2.2.2.2.2.2.1 yV yPL yPN r209_5.2.2.2.2.2.2.2.2.2.1 r209_5.2.2.2.2.2.2.2.2.2.2.1 r209_5.2.2.2.2.2.2.2.2.2.2.2.1 r209_5.2.2.2.2.2.2.2.2.2.2.2.2)) (va_runV (As := [.long k3_173, .int r185_1.1, .int (if (if z1 = (11 : Int32) then (1 : Int32) else (if z1 < (40 : Int32) then (0 : Int32) else (if (43 : Int32) < z1 then (0 : Int32) else (1 : Int32)))) = (0 : Int32) then (1 : Int32) else (0 : Int32))]) (rest := []) ⟨hx, hb, hml, hown, hts⟩ hc (cwV 3 hts (gd_V gm_451 gm_449 gm_450 gm_586 gm_6) rfl rfl rfl (by decide +kernel) ⟨Nat.le_of_ble_eq_true rfl, Nat.le_of_ble_eq_true rfl⟩) (qa_VM (q0 := 0) (q := ("LongMachineModel", TY, 28)) hK hP rfl rfl hP hD) rfl rfl hl.1 rfl (lv_room (Nat.le_of_ble_eq_true rfl)) dY_move_209 ⟨Nat.zero_le _, Nat.zero_le _⟩) hP hD hS hA [0, 1, 2, 3, 4, 5, 6, 7, 8, 9] [] [0, 1, 2, 3, 4, 5, 6, 7, 8, 9] rfl (by decide) rfl (by decide) (by decide) rfl rfl (by decide) (fun H locs hP hD hS => ?_)
      subst hu
      exact W.vret hx hb hr (fun t ht hW => ⟨rfl, by rw [ht]; exact hP, hS.F ht⟩) hS.2.2 dY_move_212
  have hB64 : ∀ (k3_64 : Int64) (H : Heap) (locs : List Loc) (ls : Array Slot) (hP : va_P (dC, dI) vwCl (wY cI cJ qY qYm qYr qYv qYl qYn qYp qYs qYw qY6 yPc yMod yLev yLoc yKsp yUsp yKgp yVal yTab ySpc yHal yEnt yPen yBuf yHer yWrd yHas yTrp yNon yMem yR yV yPL yPN yBP yBS yBW ySix) H) (hD : va_D A (wY cI cJ qY qYm qYr qYv qYl qYn qYp qYs qYw qY6 yPc yMod yLev yLoc yKsp yUsp yKgp yVal yTab ySpc yHal yEnt yPen yBuf yHer yWrd yHas yTrp yNon yMem yR yV yPL yPN yBP yBS yBW ySix)) (hS : va_S A s.heap H locs) (hl : lv_has ls 12 [(0, .ref qY), (1, .int z1), (2, .int ((yWrd >>> ((21 : Int32) &&& (31 : Int32))) &&& (31 : Int32))), (3, .long k3_64), (5, .int (if z1 = (11 : Int32) then (1 : Int32) else (if z1 = (15 : Int32) then (1 : Int32) else (0 : Int32))))]) (u : Int64 × Int32 × Int32 × Int64 × Int32 × Int32 × Int32 × (Nat → Int32) × (Nat → Int64) × (Nat → Int32) × (Nat → Int32) × (Nat → Int64) × (Nat → Int64)) (hu : u = f_Y_move_B64 z1 yPc yMod yLev yLoc yKsp yUsp yKgp yTab ySpc yHal yEnt yBuf yHer yWrd yMem yR yV yBP yBS yBW ySix k3_64), W p l e { frames := 5, cells := 0, slots := 0, locals := 137 } s m ([.ref qY, .int z1]).toArray below meth c H locs 0 0 (MQ below (qa_mod none (dC, dI) vwCl (wY cI cJ qY qYm qYr qYv qYl qYn qYp qYs qYw qY6 u.1 u.2.1 yLev u.2.2.1 yKsp u.2.2.2.1 yKgp yVal yTab ySpc u.2.2.2.2.1 u.2.2.2.2.2.1 yPen u.2.2.2.2.2.2.1 yHer yWrd yHas yTrp yNon u.2.2.2.2.2.2.2.1 u.2.2.2.2.2.2.2.2.1 yV yPL yPN u.2.2.2.2.2.2.2.2.2.1 u.2.2.2.2.2.2.2.2.2.2.1 u.2.2.2.2.2.2.2.2.2.2.2.1 u.2.2.2.2.2.2.2.2.2.2.2.2) A) ([.ref qY, .int z1]).toArray s 0 0 A) (F0 m 64 ls []) := by
    intro k3_64 H locs ls  hP hD hS hl u hu
    unfold f_Y_move_B64 at hu
    refine lv_iload_n (pc := 64) hx hb dY_move_64 rfl (lv_at hl 1 rfl) ?_
    refine lv_bipush (pc := 65) (v := (11 : Int32)) hx hb dY_move_65 (by decide) ?_
    refine qa_joini (J := 87) (ls2 := ls) (rest2 := []) (if z1 = (11 : Int32) then (1 : Int32) else (if z1 < (40 : Int32) then (0 : Int32) else (if (43 : Int32) < z1 then (0 : Int32) else (1 : Int32)))) (fun hj87 => ?_) ?_
    · refine lv_icmp_eq (pc := 67) (tgt := 82) hx hb dY_move_67 (by decide) (fun h67_9 => ?_) (fun h67_9 => ?_)
      · refine lv_iconst (pc := 82) (v := (1 : Int32)) hx hb dY_move_82 (by decide) ?_
        refine lv_goto (pc := 83) (tgt := 87) hx hb dY_move_83 (by decide) ?_
        exact hj87 _ (Eq.symm (if_pos h67_9))
      · refine lv_iload_n (pc := 70) hx hb dY_move_70 rfl (lv_at hl 1 rfl) ?_
        refine lv_bipush (pc := 71) (v := (40 : Int32)) hx hb dY_move_71 (by decide) ?_
        refine lv_icmp_lt (pc := 73) (tgt := 86) hx hb dY_move_73 (by decide) (fun h73_10 => ?_) (fun h73_10 => ?_)
        · refine lv_iconst (pc := 86) (v := (0 : Int32)) hx hb dY_move_86 (by decide) ?_
          exact hj87 _ (Eq.symm (Eq.trans (if_neg h67_9) (if_pos h73_10)))
        · refine lv_iload_n (pc := 76) hx hb dY_move_76 rfl (lv_at hl 1 rfl) ?_
          refine lv_bipush (pc := 77) (v := (43 : Int32)) hx hb dY_move_77 (by decide) ?_
          refine lv_icmp_gt (pc := 79) (tgt := 86) hx hb dY_move_79 (by decide) (fun h79_11 => ?_) (fun h79_11 => ?_)
          · refine lv_iconst (pc := 86) (v := (0 : Int32)) hx hb dY_move_86 (by decide) ?_
            exact hj87 _ (Eq.symm (Eq.trans (if_neg h67_9) (Eq.trans (if_neg h73_10) (if_pos h79_11))))
          · refine lv_iconst (pc := 82) (v := (1 : Int32)) hx hb dY_move_82 (by decide) ?_
            refine lv_goto (pc := 83) (tgt := 87) hx hb dY_move_83 (by decide) ?_
            exact hj87 _ (Eq.symm (Eq.trans (if_neg h67_9) (Eq.trans (if_neg h73_10) (if_neg h79_11))))
    refine lv_istore (pc := 87) (lv' := [(6, .int (if z1 = (11 : Int32) then (1 : Int32) else (if z1 < (40 : Int32) then (0 : Int32) else (if (43 : Int32) < z1 then (0 : Int32) else (1 : Int32))))), (0, .ref qY), (1, .int z1), (2, .int ((yWrd >>> ((21 : Int32) &&& (31 : Int32))) &&& (31 : Int32))), (3, .long k3_64), (5, .int (if z1 = (11 : Int32) then (1 : Int32) else (if z1 = (15 : Int32) then (1 : Int32) else (0 : Int32))))]) hx hb dY_move_87 hl (by decide) rfl (fun ls hl => ?_)
    refine lv_iload (pc := 89) hx hb dY_move_89 (lv_at hl 5 rfl) ?_
    refine qa_joini (J := 106) (ls2 := ls) (rest2 := []) (if (if z1 = (11 : Int32) then (1 : Int32) else (if z1 = (15 : Int32) then (1 : Int32) else (0 : Int32))) = (0 : Int32) then (if (z1 &&& (1 : Int32)) = (0 : Int32) then (4 : Int32) else (8 : Int32)) else (8 : Int32)) (fun hj106 => ?_) ?_
    · refine lv_if_ne (pc := 91) (tgt := 104) hx hb dY_move_91 (by decide) (fun h91_12 => ?_) (fun h91_12 => ?_)
      · refine lv_bipush (pc := 104) (v := (8 : Int32)) hx hb dY_move_104 (by decide) ?_
        exact hj106 _ (Eq.symm (if_neg h91_12))
      · refine lv_iload_n (pc := 94) hx hb dY_move_94 rfl (lv_at hl 2 rfl) ?_
        refine lv_iconst (pc := 95) (v := (1 : Int32)) hx hb dY_move_95 (by decide) ?_
        refine lv_iand (pc := 96) hx hb dY_move_96 ?_
        refine lv_if_ne (pc := 97) (tgt := 104) hx hb dY_move_97 (by decide) (fun h97_13 => ?_) (fun h97_13 => ?_)
        · refine lv_bipush (pc := 104) (v := (8 : Int32)) hx hb dY_move_104 (by decide) ?_
          exact hj106 _ (Eq.symm (Eq.trans (if_pos h91_12) (if_neg h97_13)))
        · refine lv_iconst (pc := 100) (v := (4 : Int32)) hx hb dY_move_100 (by decide) ?_
          refine lv_goto (pc := 101) (tgt := 106) hx hb dY_move_101 (by decide) ?_
          exact hj106 _ (Eq.symm (Eq.trans (if_pos h91_12) (if_pos h97_13)))
    refine lv_istore (pc := 106) (lv' := [(7, .int (if (if z1 = (11 : Int32) then (1 : Int32) else (if z1 = (15 : Int32) then (1 : Int32) else (0 : Int32))) = (0 : Int32) then (if (z1 &&& (1 : Int32)) = (0 : Int32) then (4 : Int32) else (8 : Int32)) else (8 : Int32))), (6, .int (if z1 = (11 : Int32) then (1 : Int32) else (if z1 < (40 : Int32) then (0 : Int32) else (if (43 : Int32) < z1 then (0 : Int32) else (1 : Int32))))), (0, .ref qY), (1, .int z1), (2, .int ((yWrd >>> ((21 : Int32) &&& (31 : Int32))) &&& (31 : Int32))), (3, .long k3_64), (5, .int (if z1 = (11 : Int32) then (1 : Int32) else (if z1 = (15 : Int32) then (1 : Int32) else (0 : Int32))))]) hx hb dY_move_106 hl (by decide) rfl (fun ls hl => ?_)
    refine lv_lload_n (pc := 108) hx hb dY_move_108 rfl (lv_at hl 5 rfl) ?_
    refine lv_iload (pc := 109) hx hb dY_move_109 (lv_at hl 0 rfl) ?_
    refine lv_iconst (pc := 111) (v := (1 : Int32)) hx hb dY_move_111 (by decide) ?_
    refine lv_isub (pc := 112) hx hb dY_move_112 ?_
    refine lv_i2l (pc := 113) (v := (Int32.toInt64 ((if (if z1 = (11 : Int32) then (1 : Int32) else (if z1 = (15 : Int32) then (1 : Int32) else (0 : Int32))) = (0 : Int32) then (if (z1 &&& (1 : Int32)) = (0 : Int32) then (4 : Int32) else (8 : Int32)) else (8 : Int32)) - (1 : Int32)))) hx hb dY_move_113 rfl ?_
    refine lv_land (pc := 114) hx hb dY_move_114 ?_
    refine lv_lconst (pc := 115) (v := (0 : Int64)) hx hb dY_move_115 (by decide) ?_
    refine qa_lc_eq (pc := 116) (tgt := 135) hx hb dY_move_116 dY_move_117 (by decide) (fun h116_14 => ?_) (fun h116_14 => ?_)
    · have hu := hu.trans (if_pos h116_14)
      refine lv_iload_n (pc := 135) hx hb dY_move_135 rfl (lv_at hl 3 rfl) ?_
      refine lv_bipush (pc := 136) (v := (46 : Int32)) hx hb dY_move_136 (by decide) ?_
      refine qa_joini (J := 152) (ls2 := ls) (rest2 := []) (if z1 = (46 : Int32) then (1 : Int32) else (if z1 = (47 : Int32) then (1 : Int32) else (0 : Int32))) (fun hj152 => ?_) ?_
      · refine lv_icmp_eq (pc := 138) (tgt := 147) hx hb dY_move_138 (by decide) (fun h138_15 => ?_) (fun h138_15 => ?_)
        · refine lv_iconst (pc := 147) (v := (1 : Int32)) hx hb dY_move_147 (by decide) ?_
          refine lv_goto (pc := 148) (tgt := 152) hx hb dY_move_148 (by decide) ?_
          exact hj152 _ (Eq.symm (if_pos h138_15))
        · refine lv_iload_n (pc := 141) hx hb dY_move_141 rfl (lv_at hl 3 rfl) ?_
          refine lv_bipush (pc := 142) (v := (47 : Int32)) hx hb dY_move_142 (by decide) ?_
          refine lv_icmp_ne (pc := 144) (tgt := 151) hx hb dY_move_144 (by decide) (fun h144_16 => ?_) (fun h144_16 => ?_)
          · refine lv_iconst (pc := 151) (v := (0 : Int32)) hx hb dY_move_151 (by decide) ?_
            exact hj152 _ (Eq.symm (Eq.trans (if_neg h138_15) (if_neg h144_16)))
          · refine lv_iconst (pc := 147) (v := (1 : Int32)) hx hb dY_move_147 (by decide) ?_
            refine lv_goto (pc := 148) (tgt := 152) hx hb dY_move_148 (by decide) ?_
            exact hj152 _ (Eq.symm (Eq.trans (if_neg h138_15) (if_pos h144_16)))
      refine lv_istore (pc := 152) (lv' := [(8, .int (if z1 = (46 : Int32) then (1 : Int32) else (if z1 = (47 : Int32) then (1 : Int32) else (0 : Int32)))), (7, .int (if (if z1 = (11 : Int32) then (1 : Int32) else (if z1 = (15 : Int32) then (1 : Int32) else (0 : Int32))) = (0 : Int32) then (if (z1 &&& (1 : Int32)) = (0 : Int32) then (4 : Int32) else (8 : Int32)) else (8 : Int32))), (6, .int (if z1 = (11 : Int32) then (1 : Int32) else (if z1 < (40 : Int32) then (0 : Int32) else (if (43 : Int32) < z1 then (0 : Int32) else (1 : Int32))))), (0, .ref qY), (1, .int z1), (2, .int ((yWrd >>> ((21 : Int32) &&& (31 : Int32))) &&& (31 : Int32))), (3, .long k3_64), (5, .int (if z1 = (11 : Int32) then (1 : Int32) else (if z1 = (15 : Int32) then (1 : Int32) else (0 : Int32))))]) hx hb dY_move_152 hl (by decide) rfl (fun ls hl => ?_)
      refine lv_iload (pc := 154) hx hb dY_move_154 (lv_at hl 0 rfl) ?_
      refine lv_if_eq (pc := 156) (tgt := 173) hx hb dY_move_156 (by decide) (fun h156_17 => ?_) (fun h156_17 => ?_)
      · have hu := hu.trans (if_pos h156_17)
        exact hB173 k3_64 _ _ _ (h116_14) hP hD hS (lv_sub hl [3, 4, 5, 6, 7, 2, 1, 0] rfl) u hu
      · have hu := hu.trans (if_neg h156_17)
        refine lv_aload_n (pc := 159) hx hb dY_move_159 rfl (lv_at hl 3 rfl) ?_
        refine va_get (D := (dC, dI)) (pc := 160) (ci := 5) (v := .int yLoc) (C := "LongMachineModel") (T := TY) (N := 28) hx hb hts ui_Y hown hK hP 0 rfl rfl 5 (by decide) (hts _ gm_351) (fun _ h9 => h9) rfl dY_move_160 ?_
        refine lv_if_ne (pc := 163) (tgt := 173) hx hb dY_move_163 (by decide) (fun h163_18 => ?_) (fun h163_18 => ?_)
        · have hu := hu.trans (if_neg h163_18)
          exact hB173 k3_64 _ _ _ (h116_14) hP hD hS (lv_sub hl [3, 4, 5, 6, 7, 2, 1, 0] rfl) u hu
        · have hu := hu.trans (if_pos h163_18)
          refine lv_aload_n (pc := 166) hx hb dY_move_166 rfl (lv_at hl 3 rfl) ?_
          refine lv_iload_n (pc := 167) hx hb dY_move_167 rfl (lv_at hl 5 rfl) ?_
          refine lv_lconst (pc := 168) (v := (0 : Int64)) hx hb dY_move_168 (by decide) ?_
          have hc := c_Y_give l dC dI cI cJ qY qYm qYr qYv qYl qYn qYp qYs qYw qY6 H.size yPc yMod yLev yLoc yKsp yUsp yKgp yVal yTab ySpc yHal yEnt yPen yBuf yHer yWrd yHas yTrp yNon yMem yR yV yPL yPN yBP yBS yBW ySix ((yWrd >>> ((21 : Int32) &&& (31 : Int32))) &&& (31 : Int32)) (0 : Int64) ((rg_and31r _).1) ((rg_and31r _).2)
          generalize er169_6 : f_Y_give ((yWrd >>> ((21 : Int32) &&& (31 : Int32))) &&& (31 : Int32)) (0 : Int64) yR = r169_6 at hu hc
          unfold f_Y_move_K169_6 at hu
          refine qa_callv (pc := 169) (wr := []) (wf := (wY cI cJ qY qYm qYr qYv qYl qYn qYp qYs qYw qY6 yPc yMod yLev yLoc yKsp yUsp yKgp yVal yTab ySpc yHal yEnt yPen yBuf yHer yWrd yHas yTrp yNon yMem r169_6 yV yPL yPN yBP yBS yBW ySix)) (va_runV (As := [.int ((yWrd >>> ((21 : Int32) &&& (31 : Int32))) &&& (31 : Int32)), .long (0 : Int64)]) (rest := []) ⟨hx, hb, hml, hown, hts⟩ hc (cwV 2 hts (gd_V gm_508 gm_506 gm_507 gm_596 gm_6) rfl rfl rfl (by decide +kernel) ⟨Nat.le_of_ble_eq_true rfl, Nat.le_of_ble_eq_true rfl⟩) (qa_VM (q0 := 0) (q := ("LongMachineModel", TY, 28)) hK hP rfl rfl hP hD) rfl rfl hl.1 rfl (lv_room (Nat.le_of_ble_eq_true rfl)) dY_move_169 ⟨Nat.zero_le _, Nat.zero_le _⟩) hP hD hS hA [0, 1, 2, 3, 4, 5, 6, 7, 8, 9] [] [0, 1, 2, 3, 4, 5, 6, 7, 8, 9] rfl (by decide) rfl (by decide) (by decide) rfl rfl (by decide) (fun H locs hP hD hS => ?_)
          subst hu
          exact W.vret hx hb hr (fun t ht hW => ⟨rfl, by rw [ht]; exact hP, hS.F ht⟩) hS.2.2 dY_move_172
    · have hu := hu.trans (if_neg h116_14)
      refine lv_aload_n (pc := 120) hx hb dY_move_120 rfl (lv_at hl 2 rfl) ?_
      refine lv_iconst (pc := 121) (v := (4 : Int32)) hx hb dY_move_121 (by decide) ?_
      refine lv_lload_n (pc := 122) hx hb dY_move_122 rfl (lv_at hl 5 rfl) ?_
      refine lv_iload_n (pc := 123) hx hb dY_move_123 rfl (lv_at hl 3 rfl) ?_
      refine lv_i2l (pc := 124) (v := (Int32.toInt64 z1)) hx hb dY_move_124 rfl ?_
      refine lv_iload_n (pc := 125) hx hb dY_move_125 rfl (lv_at hl 4 rfl) ?_
      refine lv_i2l (pc := 126) (v := (Int32.toInt64 ((yWrd >>> ((21 : Int32) &&& (31 : Int32))) &&& (31 : Int32)))) hx hb dY_move_126 rfl ?_
      refine lv_aload_n (pc := 127) hx hb dY_move_127 rfl (lv_at hl 2 rfl) ?_
      refine va_get (D := (dC, dI)) (pc := 128) (ci := 5) (v := .long yHer) (C := "LongMachineModel") (T := TY) (N := 28) hx hb hts ui_Y hown hK hP 0 rfl rfl 22 (by decide) (hts _ gm_368) (fun _ h9 => h9) rfl dY_move_128 ?_
      have hc := c_Y_entry l dC dI cI cJ qY qYm qYr qYv qYl qYn qYp qYs qYw qY6 H.size yPc yMod yLev yLoc yKsp yUsp yKgp yVal yTab ySpc yHal yEnt yPen yBuf yHer yWrd yHas yTrp yNon yMem yR yV yPL yPN yBP yBS yBW ySix (4 : Int32) k3_64 (Int32.toInt64 z1) (Int32.toInt64 ((yWrd >>> ((21 : Int32) &&& (31 : Int32))) &&& (31 : Int32))) yHer hy0 hy4 ht0 ht1 (by decide) (by decide)
      generalize er131_7 : f_Y_entry (4 : Int32) k3_64 (Int32.toInt64 z1) (Int32.toInt64 ((yWrd >>> ((21 : Int32) &&& (31 : Int32))) &&& (31 : Int32))) yHer yPc yMod yLev yLoc yKsp yUsp yKgp yTab ySpc yHal yEnt yBuf yMem yR yV yBP yBS yBW ySix = r131_7 at hu hc
      unfold f_Y_move_K131_7 at hu
      refine qa_callv (pc := 131) (wr := []) (wf := (wY cI cJ qY qYm qYr qYv qYl qYn qYp qYs qYw qY6 r131_7.1 r131_7.2.1 yLev r131_7.2.2.1 yKsp r131_7.2.2.2.1 yKgp yVal yTab ySpc r131_7.2.2.2.2.1 r131_7.2.2.2.2.2.1 yPen r131_7.2.2.2.2.2.2.1 yHer yWrd yHas yTrp yNon r131_7.2.2.2.2.2.2.2.1 r131_7.2.2.2.2.2.2.2.2.1 yV yPL yPN r131_7.2.2.2.2.2.2.2.2.2.1 r131_7.2.2.2.2.2.2.2.2.2.2.1 r131_7.2.2.2.2.2.2.2.2.2.2.2.1 r131_7.2.2.2.2.2.2.2.2.2.2.2.2)) (va_runV (As := [.int (4 : Int32), .long k3_64, .long (Int32.toInt64 z1), .long (Int32.toInt64 ((yWrd >>> ((21 : Int32) &&& (31 : Int32))) &&& (31 : Int32))), .long yHer]) (rest := []) ⟨hx, hb, hml, hown, hts⟩ hc (cwV 5 hts (gd_V gm_417 gm_415 gm_416 gm_579 gm_6) rfl rfl rfl (by decide +kernel) ⟨Nat.le_of_ble_eq_true rfl, Nat.le_of_ble_eq_true rfl⟩) (qa_VM (q0 := 0) (q := ("LongMachineModel", TY, 28)) hK hP rfl rfl hP hD) rfl rfl hl.1 rfl (lv_room (Nat.le_of_ble_eq_true rfl)) dY_move_131 ⟨Nat.zero_le _, Nat.zero_le _⟩) hP hD hS hA [0, 1, 2, 3, 4, 5, 6, 7, 8, 9] [] [0, 1, 2, 3, 4, 5, 6, 7, 8, 9] rfl (by decide) rfl (by decide) (by decide) rfl rfl (by decide) (fun H locs hP hD hS => ?_)
      subst hu
      exact W.vret hx hb hr (fun t ht hW => ⟨rfl, by rw [ht]; exact hP, hS.F ht⟩) hS.2.2 dY_move_134
  refine lv_aload_n (pc := 0) hx hb dY_move_0 rfl (lv_at hl 0 rfl) ?_
  refine va_get (D := (dC, dI)) (pc := 1) (ci := 5) (v := .int yWrd) (C := "LongMachineModel") (T := TY) (N := 28) hx hb hts ui_Y hown hK hP 0 rfl rfl 23 (by decide) (hts _ gm_369) (fun _ h9 => h9) rfl dY_move_1 ?_
  refine lv_bipush (pc := 4) (v := (21 : Int32)) hx hb dY_move_4 (by decide) ?_
  refine lv_ishr (pc := 6) hx hb dY_move_6 ?_
  refine lv_bipush (pc := 7) (v := (31 : Int32)) hx hb dY_move_7 (by decide) ?_
  refine lv_iand (pc := 9) hx hb dY_move_9 ?_
  refine lv_istore_n (pc := 10) (lv' := [(2, .int ((yWrd >>> ((21 : Int32) &&& (31 : Int32))) &&& (31 : Int32))), (0, .ref qY), (1, .int z1)]) hx hb dY_move_10 rfl hl (by decide) rfl (fun ls hl => ?_)
  refine lv_aload_n (pc := 11) hx hb dY_move_11 rfl (lv_at hl 1 rfl) ?_
  refine va_get (D := (dC, dI)) (pc := 12) (ci := 5) (v := .ref qYr) (C := "LongMachineModel") (T := TY) (N := 28) hx hb hts ui_Y hown hK hP 0 rfl rfl 1 (by decide) (hts _ gm_347) (fun _ h9 => h9) rfl dY_move_12 ?_
  refine lv_aload_n (pc := 15) hx hb dY_move_15 rfl (lv_at hl 1 rfl) ?_
  refine va_get (D := (dC, dI)) (pc := 16) (ci := 5) (v := .int yWrd) (C := "LongMachineModel") (T := TY) (N := 28) hx hb hts ui_Y hown hK hP 0 rfl rfl 23 (by decide) (hts _ gm_369) (fun _ h9 => h9) rfl dY_move_16 ?_
  refine lv_bipush (pc := 19) (v := (16 : Int32)) hx hb dY_move_19 (by decide) ?_
  refine lv_ishr (pc := 21) hx hb dY_move_21 ?_
  refine lv_bipush (pc := 22) (v := (31 : Int32)) hx hb dY_move_22 (by decide) ?_
  refine lv_iand (pc := 24) hx hb dY_move_24 ?_
  refine qa_lald (pc := 25) (k := (Int32.toNatClampNeg ((yWrd >>> ((16 : Int32) &&& (31 : Int32))) &&& (31 : Int32)))) hx hb hK hP 2 1 rfl rfl rfl (qa_and31 _) dY_move_25 ?_
  refine lv_aload_n (pc := 26) hx hb dY_move_26 rfl (lv_at hl 1 rfl) ?_
  refine va_get (D := (dC, dI)) (pc := 27) (ci := 5) (v := .int yWrd) (C := "LongMachineModel") (T := TY) (N := 28) hx hb hts ui_Y hown hK hP 0 rfl rfl 23 (by decide) (hts _ gm_369) (fun _ h9 => h9) rfl dY_move_27 ?_
  refine lv_i2s (pc := 30) (v := (Int16.toInt32 (Int32.toInt16 yWrd))) hx hb dY_move_30 rfl ?_
  refine lv_i2l (pc := 31) (v := (Int32.toInt64 (Int16.toInt32 (Int32.toInt16 yWrd)))) hx hb dY_move_31 rfl ?_
  refine lv_ladd (pc := 32) hx hb dY_move_32 ?_
  refine lv_lstore_n (pc := 33) (lv' := [(3, .long ((yR (Int32.toNatClampNeg ((yWrd >>> ((16 : Int32) &&& (31 : Int32))) &&& (31 : Int32)))) + (Int32.toInt64 (Int16.toInt32 (Int32.toInt16 yWrd))))), (2, .int ((yWrd >>> ((21 : Int32) &&& (31 : Int32))) &&& (31 : Int32))), (0, .ref qY), (1, .int z1)]) hx hb dY_move_33 rfl hl (by decide) rfl (fun ls hl => ?_)
  refine lv_iload_n (pc := 34) hx hb dY_move_34 rfl (lv_at hl 3 rfl) ?_
  refine lv_bipush (pc := 35) (v := (11 : Int32)) hx hb dY_move_35 (by decide) ?_
  refine qa_joini (J := 51) (ls2 := ls) (rest2 := []) (if z1 = (11 : Int32) then (1 : Int32) else (if z1 = (15 : Int32) then (1 : Int32) else (0 : Int32))) (fun hj51 => ?_) ?_
  · refine lv_icmp_eq (pc := 37) (tgt := 46) hx hb dY_move_37 (by decide) (fun h37_19 => ?_) (fun h37_19 => ?_)
    · refine lv_iconst (pc := 46) (v := (1 : Int32)) hx hb dY_move_46 (by decide) ?_
      refine lv_goto (pc := 47) (tgt := 51) hx hb dY_move_47 (by decide) ?_
      exact hj51 _ (Eq.symm (if_pos h37_19))
    · refine lv_iload_n (pc := 40) hx hb dY_move_40 rfl (lv_at hl 3 rfl) ?_
      refine lv_bipush (pc := 41) (v := (15 : Int32)) hx hb dY_move_41 (by decide) ?_
      refine lv_icmp_ne (pc := 43) (tgt := 50) hx hb dY_move_43 (by decide) (fun h43_20 => ?_) (fun h43_20 => ?_)
      · refine lv_iconst (pc := 50) (v := (0 : Int32)) hx hb dY_move_50 (by decide) ?_
        exact hj51 _ (Eq.symm (Eq.trans (if_neg h37_19) (if_neg h43_20)))
      · refine lv_iconst (pc := 46) (v := (1 : Int32)) hx hb dY_move_46 (by decide) ?_
        refine lv_goto (pc := 47) (tgt := 51) hx hb dY_move_47 (by decide) ?_
        exact hj51 _ (Eq.symm (Eq.trans (if_neg h37_19) (if_pos h43_20)))
  refine lv_istore (pc := 51) (lv' := [(5, .int (if z1 = (11 : Int32) then (1 : Int32) else (if z1 = (15 : Int32) then (1 : Int32) else (0 : Int32)))), (3, .long ((yR (Int32.toNatClampNeg ((yWrd >>> ((16 : Int32) &&& (31 : Int32))) &&& (31 : Int32)))) + (Int32.toInt64 (Int16.toInt32 (Int32.toInt16 yWrd))))), (2, .int ((yWrd >>> ((21 : Int32) &&& (31 : Int32))) &&& (31 : Int32))), (0, .ref qY), (1, .int z1)]) hx hb dY_move_51 hl (by decide) rfl (fun ls hl => ?_)
  refine lv_iload (pc := 53) hx hb dY_move_53 (lv_at hl 0 rfl) ?_
  refine lv_if_eq (pc := 55) (tgt := 64) hx hb dY_move_55 (by decide) (fun h55_21 => ?_) (fun h55_21 => ?_)
  · have hu := hu.trans (if_pos h55_21)
    exact hB64 ((yR (Int32.toNatClampNeg ((yWrd >>> ((16 : Int32) &&& (31 : Int32))) &&& (31 : Int32)))) + (Int32.toInt64 (Int16.toInt32 (Int32.toInt16 yWrd)))) _ _ _  hP hD hS (lv_sub hl [3, 4, 2, 1, 0] rfl) u hu
  · have hu := hu.trans (if_neg h55_21)
    refine lv_lload_n (pc := 58) hx hb dY_move_58 rfl (lv_at hl 1 rfl) ?_
    refine lv_ldc2 (pc := 59) (v := (-8 : Int64)) hx hb hown (hts _ gm_513) dY_move_59 ?_
    refine lv_land (pc := 62) hx hb dY_move_62 ?_
    refine lv_lstore_n (pc := 63) (lv' := [(3, .long (((yR (Int32.toNatClampNeg ((yWrd >>> ((16 : Int32) &&& (31 : Int32))) &&& (31 : Int32)))) + (Int32.toInt64 (Int16.toInt32 (Int32.toInt16 yWrd)))) &&& (-8 : Int64))), (5, .int (if z1 = (11 : Int32) then (1 : Int32) else (if z1 = (15 : Int32) then (1 : Int32) else (0 : Int32)))), (2, .int ((yWrd >>> ((21 : Int32) &&& (31 : Int32))) &&& (31 : Int32))), (0, .ref qY), (1, .int z1)]) hx hb dY_move_63 rfl hl (by decide) rfl (fun ls hl => ?_)
    exact hB64 (((yR (Int32.toNatClampNeg ((yWrd >>> ((16 : Int32) &&& (31 : Int32))) &&& (31 : Int32)))) + (Int32.toInt64 (Int16.toInt32 (Int32.toInt16 yWrd)))) &&& (-8 : Int64)) _ _ _  hP hD hS (lv_sub hl [3, 4, 2, 0, 1] rfl) u hu
