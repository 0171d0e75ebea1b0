set_option maxRecDepth 100000 in
set_option maxHeartbeats 4000000 in
theorem c_Y_sx (l : Launch) (z0 : Int64) : Met l yY_sx (.code yY_sx cY_sx 2 (some .long) :: vG) ({ frames := 0, cells := 0, slots := 0, locals := 0 }) (va_Pc [.long z0] (fun _ => True)) (qa_det (.long (Int32.toInt64 (Int64.toInt32 z0)))) 0 0 (fun _ => False) := by
  refine Met.ofW (cc := cY_sx) (maxL := 2) (ret := (some .long)) (by decide) rfl ?_
  intro p e s m args below meth c s₁ B hml hv
  obtain ⟨rfl, hv⟩ := hv
  have hx := B.exec
  have hb := B.bytes
  have hr := B.returns
  have hts : ∀ w ∈ vG, w.before _ s = true := fun w h => atoms_spec (ws := (.code yY_sx cY_sx 2 (some .long) :: vG)) B.pre w (List.mem_cons_of_mem _ h)
  have hown : s.vm.findClass "LongMachineModel" = some m.cls := findClass_of_methodNamed B.named
  have hlocks := B.notSynchronized
  have hl := lv_entry ([.long z0]) (n := 2) (Nat.le_of_ble_eq_true rfl)
  rw [lg_entry_eq]
  generalize (lg_sl ([.long z0]) ++ List.replicate (2 - (lg_sl ([.long z0])).length) Slot.unset).toArray = ls at hl ⊢
  have hl : lv_has ls 2 [(0, .long z0)] := hl
  refine lv_lload_n (pc := 0) hx hb dY_sx_0 rfl (lv_at hl 0 rfl) ?_
  refine lv_l2i (pc := 1) (v := (Int64.toInt32 z0)) hx hb dY_sx_1 rfl ?_
  refine lv_i2l (pc := 2) (v := (Int32.toInt64 (Int64.toInt32 z0))) hx hb dY_sx_2 rfl ?_
  exact W.lret hx hb hr (fun t ht hW => ⟨rfl, ht⟩) (fun _ h => by cases h) dY_sx_3
def f_Y_give (z1 : Int32) (z2 : Int64) (yR : (Nat → Int64)) : (Nat → Int64) := (if z1 = (31 : Int32) then yR else (vp_updL yR (Int32.toNatClampNeg z1) z2))
set_option maxRecDepth 100000 in
set_option maxHeartbeats 4000000 in
theorem c_Y_give (l : Launch) (dC : Nat → ClassId) (dI : Nat → Nat → Nat) (cI cJ : ClassId) (qY qYm qYr qYv qYl qYn qYp qYs qYw qY6 : Nat) (sz : Nat) (yPc : Int64) (yMod : Int32) (yLev : Int32) (yLoc : Int32) (yKsp : Int64) (yUsp : Int64) (yKgp : Int64) (yVal : Int64) (yTab : Int32) (ySpc : Int32) (yHal : Int32) (yEnt : Int32) (yPen : Int32) (yBuf : Int32) (yHer : Int64) (yWrd : Int32) (yHas : Int32) (yTrp : Int32) (yNon : Int32) (yMem : (Nat → Int32)) (yR : (Nat → Int64)) (yV : (Nat → Int64)) (yPL : (Nat → Int32)) (yPN : (Nat → Int32)) (yBP : (Nat → Int32)) (yBS : (Nat → Int32)) (yBW : (Nat → Int64)) (ySix : (Nat → Int64)) (z1 : Int32) (z2 : Int64) (hg0 : 0 ≤ z1.toInt) (hg1 : z1.toInt < 32) : Met l yY_give (.code yY_give cY_give 4 none :: vG) ({ frames := 0, cells := 0, slots := 0, locals := 0 }) (va_Pc [.ref qY, .int z1, .long z2] (qa_pre (dC, dI) vwCl (wY cI cJ qY qYm qYr qYv qYl qYn qYp qYs qYw qY6 yPc yMod yLev yLoc yKsp yUsp yKgp yVal yTab ySpc yHal yEnt yPen yBuf yHer yWrd yHas yTrp yNon yMem yR yV yPL yPN yBP yBS yBW ySix) [(cI, .int), (cJ, .long)] sz)) (qa_mod none (dC, dI) vwCl (wY cI cJ qY qYm qYr qYv qYl qYn qYp qYs qYw qY6 yPc yMod yLev yLoc yKsp yUsp yKgp yVal yTab ySpc yHal yEnt yPen yBuf yHer yWrd yHas yTrp yNon yMem (f_Y_give z1 z2 yR) yV yPL yPN yBP yBS yBW ySix) (va_A (wY cI cJ qY qYm qYr qYv qYl qYn qYp qYs qYw qY6 yPc yMod yLev yLoc yKsp yUsp yKgp yVal yTab ySpc yHal yEnt yPen yBuf yHer yWrd yHas yTrp yNon yMem yR yV yPL yPN yBP yBS yBW ySix) sz)) 0 0 (va_A (wY cI cJ qY qYm qYr qYv qYl qYn qYp qYs qYw qY6 yPc yMod yLev yLoc yKsp yUsp yKgp yVal yTab ySpc yHal yEnt yPen yBuf yHer yWrd yHas yTrp yNon yMem yR yV yPL yPN yBP yBS yBW ySix) sz) := by
  refine Met.ofW (cc := cY_give) (maxL := 4) (ret := none) (by decide) rfl ?_
  intro p e s m args below meth c s₁ B hml hv
  obtain ⟨rfl, hsz, hP, hK, hD0⟩ := hv
  have hx := B.exec
  have hb := B.bytes
  have hr := B.returns
  have hts : ∀ w ∈ vG, w.before _ s = true := fun w h => atoms_spec (ws := (.code yY_give cY_give 4 none :: vG)) B.pre w (List.mem_cons_of_mem _ h)
  have hown : s.vm.findClass "LongMachineModel" = some m.cls := findClass_of_methodNamed B.named
  have hlocks := B.notSynchronized
  subst hsz
  have hD := hD0.self (sz := s.heap.size)
  generalize hAe : va_A (wY cI cJ qY qYm qYr qYv qYl qYn qYp qYs qYw qY6 yPc yMod yLev yLoc yKsp yUsp yKgp yVal yTab ySpc yHal yEnt yPen yBuf yHer yWrd yHas yTrp yNon yMem yR yV yPL yPN yBP yBS yBW ySix) s.heap.size = A at hD ⊢
  have hA : ∀ q : Nat, s.heap.size ≤ q → A q := fun q h => by rw [← hAe]; exact Or.inr h
  have hS : va_S A s.heap s.heap [] := va_S.rf
  have hl := lv_entry ([.ref qY, .int z1, .long z2]) (n := 4) (Nat.le_of_ble_eq_true rfl)
  rw [lg_entry_eq]
  generalize (lg_sl ([.ref qY, .int z1, .long z2]) ++ List.replicate (4 - (lg_sl ([.ref qY, .int z1, .long z2])).length) Slot.unset).toArray = ls at hl ⊢
  have hl : lv_has ls 4 [(0, .ref qY), (1, .int z1), (2, .long z2)] := hl
  obtain ⟨u, hu⟩ : ∃ u, u = f_Y_give z1 z2 yR := ⟨_, rfl⟩
  rw [← hu]
  unfold f_Y_give at hu
  refine lv_iload_n (pc := 0) hx hb dY_give_0 rfl (lv_at hl 1 rfl) ?_
  refine lv_bipush (pc := 1) (v := (31 : Int32)) hx hb dY_give_1 (by decide) ?_
  refine lv_icmp_eq (pc := 3) (tgt := 13) hx hb dY_give_3 (by decide) (fun h3_1 => ?_) (fun h3_1 => ?_)
  · have hu := hu.trans (if_pos h3_1)
    subst hu
    exact W.vret hx hb hr (fun t ht hW => ⟨rfl, by rw [ht]; exact hP, hS.F ht⟩) hS.2.2 dY_give_13
  · have hu := hu.trans (if_neg h3_1)
    refine lv_aload_n (pc := 6) hx hb dY_give_6 rfl (lv_at hl 0 rfl) ?_
    refine va_get (D := (dC, dI)) (pc := 7) (ci := 5) (v := .ref qYr) (C := "LongMachineModel") (T := TY) (N := 28) hx hb hts ui_Y hown hK hP 0 rfl rfl 1 (by decide) (hts _ gm_347) (fun _ h9 => h9) rfl dY_give_7 ?_
    refine lv_iload_n (pc := 10) hx hb dY_give_10 rfl (lv_at hl 1 rfl) ?_
    refine lv_lload_n (pc := 11) hx hb dY_give_11 rfl (lv_at hl 2 rfl) ?_
    refine qa_last (pc := 12) (k := (Int32.toNatClampNeg z1)) hx hb hK hP hD hS 2 1 rfl rfl rfl (qa_inI hg0 hg1) dY_give_12 (fun H locs hP hD hS => ?_)
    have hP : va_P (dC, dI) vwCl (wY cI cJ qY qYm qYr qYv qYl qYn qYp qYs qYw qY6 yPc yMod yLev yLoc yKsp yUsp yKgp yVal yTab ySpc yHal yEnt yPen yBuf yHer yWrd yHas yTrp yNon yMem (vp_updL yR (Int32.toNatClampNeg z1) z2) yV yPL yPN yBP yBS yBW ySix) H := hP
    have hD : va_D A (wY cI cJ qY qYm qYr qYv qYl qYn qYp qYs qYw qY6 yPc yMod yLev yLoc yKsp yUsp yKgp yVal yTab ySpc yHal yEnt yPen yBuf yHer yWrd yHas yTrp yNon yMem (vp_updL yR (Int32.toNatClampNeg z1) z2) yV yPL yPN yBP yBS yBW ySix) := hD
    subst hu
    exact W.vret hx hb hr (fun t ht hW => ⟨rfl, by rw [ht]; exact hP, hS.F ht⟩) hS.2.2 dY_give_13
def f_Y_bytes_B7 (z1 : Int32) (yMem : (Nat → Int32)) : Nat → Int64 → Int32 → Int64
  | 0, k3_7, k5_7 => (0 : Int64)
  | n + 1, k3_7, k5_7 => (if k5_7 < (0 : Int32) then k3_7 else (f_Y_bytes_B7 z1 yMem n ((jlshl k3_7 (8 : Int32)) ||| (Int32.toInt64 (yMem (Int32.toNatClampNeg (z1 + k5_7))))) (k5_7 + (-1 : Int32))))
theorem f_Y_bytes_B7_s (z1 : Int32) (yMem : (Nat → Int32)) (n : Nat) (k3_7 : Int64) (k5_7 : Int32) : f_Y_bytes_B7 z1 yMem (n + 1) k3_7 k5_7 = (if k5_7 < (0 : Int32) then k3_7 else (f_Y_bytes_B7 z1 yMem n ((jlshl k3_7 (8 : Int32)) ||| (Int32.toInt64 (yMem (Int32.toNatClampNeg (z1 + k5_7))))) (k5_7 + (-1 : Int32)))) := rfl
def f_Y_bytes (z1 : Int32) (z2 : Int32) (yMem : (Nat → Int32)) : Int64 := (f_Y_bytes_B7 z1 yMem 9 (0 : Int64) (z2 - (1 : Int32)))
set_option maxRecDepth 100000 in
set_option maxHeartbeats 4000000 in
theorem c_Y_bytes (l : Launch) (dC : Nat → ClassId) (dI : Nat → Nat → Nat) (cI cJ : ClassId) (qY qYm qYr qYv qYl qYn qYp qYs qYw qY6 : Nat) (yPc : Int64) (yMod : Int32) (yLev : Int32) (yLoc : Int32) (yKsp : Int64) (yUsp : Int64) (yKgp : Int64) (yVal : Int64) (yTab : Int32) (ySpc : Int32) (yHal : Int32) (yEnt : Int32) (yPen : Int32) (yBuf : Int32) (yHer : Int64) (yWrd : Int32) (yHas : Int32) (yTrp : Int32) (yNon : Int32) (yMem : (Nat → Int32)) (yR : (Nat → Int64)) (yV : (Nat → Int64)) (yPL : (Nat → Int32)) (yPN : (Nat → Int32)) (yBP : (Nat → Int32)) (yBS : (Nat → Int32)) (yBW : (Nat → Int64)) (ySix : (Nat → Int64)) (z1 : Int32) (z2 : Int32) (ha0 : 0 ≤ z1.toInt) (ha1 : z1.toInt + z2.toInt ≤ 4096) (hn0 : 0 ≤ z2.toInt) (hn8 : z2.toInt ≤ 8) : Met l yY_bytes (.code yY_bytes cY_bytes 6 (some .long) :: vG) ({ frames := 0, cells := 0, slots := 0, locals := 0 }) (va_Pc [.ref qY, .int z1, .int z2] (qa_preR (dC, dI) vwCl (wY cI cJ qY qYm qYr qYv qYl qYn qYp qYs qYw qY6 yPc yMod yLev yLoc yKsp yUsp yKgp yVal yTab ySpc yHal yEnt yPen yBuf yHer yWrd yHas yTrp yNon yMem yR yV yPL yPN yBP yBS yBW ySix) [(cI, .int), (cJ, .long)])) (qa_det (.long (f_Y_bytes z1 z2 yMem))) 0 0 (fun _ => False) := by
  refine Met.ofW (cc := cY_bytes) (maxL := 6) (ret := (some .long)) (by decide) rfl ?_
  intro p e s m args below meth c s₁ B hml hv
  obtain ⟨rfl, hP, hK⟩ := hv
  have hx := B.exec
  have hb := B.bytes
  have hr := B.returns
  have hts : ∀ w ∈ vG, w.before _ s = true := fun w h => atoms_spec (ws := (.code yY_bytes cY_bytes 6 (some .long) :: vG)) B.pre w (List.mem_cons_of_mem _ h)
  have hown : s.vm.findClass "LongMachineModel" = some m.cls := findClass_of_methodNamed B.named
  have hlocks := B.notSynchronized
  have hl := lv_entry ([.ref qY, .int z1, .int z2]) (n := 6) (Nat.le_of_ble_eq_true rfl)
  rw [lg_entry_eq]
  generalize (lg_sl ([.ref qY, .int z1, .int z2]) ++ List.replicate (6 - (lg_sl ([.ref qY, .int z1, .int z2])).length) Slot.unset).toArray = ls at hl ⊢
  have hl : lv_has ls 6 [(0, .ref qY), (1, .int z1), (2, .int z2)] := hl
  obtain ⟨u, hu⟩ : ∃ u, u = f_Y_bytes z1 z2 yMem := ⟨_, rfl⟩
  rw [← hu]
  unfold f_Y_bytes at hu
  refine lv_lconst (pc := 0) (v := (0 : Int64)) hx hb dY_bytes_0 (by decide) ?_
  refine lv_lstore_n (pc := 1) (lv' := [(3, .long (0 : Int64)), (0, .ref qY), (1, .int z1), (2, .int z2)]) hx hb dY_bytes_1 rfl hl (by decide) rfl (fun ls hl => ?_)
  refine lv_iload_n (pc := 2) hx hb dY_bytes_2 rfl (lv_at hl 3 rfl) ?_
  refine lv_iconst (pc := 3) (v := (1 : Int32)) hx hb dY_bytes_3 (by decide) ?_
  refine lv_isub (pc := 4) hx hb dY_bytes_4 ?_
  refine lv_istore (pc := 5) (lv' := [(5, .int (z2 - (1 : Int32))), (3, .long (0 : Int64)), (0, .ref qY), (1, .int z1), (2, .int z2)]) hx hb dY_bytes_5 hl (by decide) rfl (fun ls hl => ?_)
  have hB7 : ∀ (n : Nat) (k3_7 : Int64) (k5_7 : Int32) (ls : Array Slot) (hq7_fu : ((k5_7).toInt + 1).toNat < n) (hq7_kn : (k5_7).toInt < z2.toInt) (hl : lv_has ls 6 [(0, .ref qY), (1, .int z1), (2, .int z2), (3, .long k3_7), (5, .int k5_7)]) (u : Int64) (hu : u = f_Y_bytes_B7 z1 yMem n k3_7 k5_7), W p l e { frames := 0, cells := 0, slots := 0, locals := 0 } s m ([.ref qY, .int z1, .int z2]).toArray below meth c s.heap [] 0 0 (MQ below (qa_det (.long u)) ([.ref qY, .int z1, .int z2]).toArray s 0 0 (fun _ => False)) (F0 m 7 ls []) := by
    intro n
    induction n with
    | zero => intro k3_7 k5_7 ls hq7_fu hq7_kn hl u hu; exact absurd hq7_fu (Nat.not_lt_zero _)
    | succ n ih =>
        intro k3_7 k5_7 ls hq7_fu hq7_kn hl u hu
        rw [f_Y_bytes_B7_s] at hu
        refine lv_iload (pc := 7) hx hb dY_bytes_7 (lv_at hl 4 rfl) ?_
        refine lv_if_lt (pc := 9) (tgt := 34) hx hb dY_bytes_9 (by decide) (fun h9_1 => ?_) (fun h9_1 => ?_)
        · have hu := hu.trans (if_pos h9_1)
          refine lv_lload_n (pc := 34) hx hb dY_bytes_34 rfl (lv_at hl 3 rfl) ?_
          subst hu
          exact W.lret hx hb hr (fun t ht hW => ⟨rfl, ht⟩) (fun _ h => by cases h) dY_bytes_35
        · have hu := hu.trans (if_neg h9_1)
          refine lv_lload_n (pc := 12) hx hb dY_bytes_12 rfl (lv_at hl 3 rfl) ?_
          refine lv_bipush (pc := 13) (v := (8 : Int32)) hx hb dY_bytes_13 (by decide) ?_
          refine lv_lshl (pc := 15) (v := (jlshl k3_7 (8 : Int32))) hx hb dY_bytes_15 rfl ?_
          refine lv_aload_n (pc := 16) hx hb dY_bytes_16 rfl (lv_at hl 0 rfl) ?_
          refine va_get (D := (dC, dI)) (pc := 17) (ci := 5) (v := .ref qYm) (C := "LongMachineModel") (T := TY) (N := 28) hx hb hts ui_Y hown hK hP 0 rfl rfl 0 (by decide) (hts _ gm_346) (fun _ h9 => h9) rfl dY_bytes_17 ?_
          refine lv_iload_n (pc := 20) hx hb dY_bytes_20 rfl (lv_at hl 1 rfl) ?_
          refine lv_iload (pc := 21) hx hb dY_bytes_21 (lv_at hl 4 rfl) ?_
          refine lv_iadd (pc := 23) hx hb dY_bytes_23 ?_
          refine qa_iald (pc := 24) (k := (Int32.toNatClampNeg (z1 + k5_7))) hx hb hK hP 1 0 rfl rfl rfl (ry_b4 ha0 ha1 hn8 h9_1 hq7_kn) dY_bytes_24 ?_
          refine lv_i2l (pc := 25) (v := (Int32.toInt64 (yMem (Int32.toNatClampNeg (z1 + k5_7))))) hx hb dY_bytes_25 rfl ?_
          refine lv_lor (pc := 26) hx hb dY_bytes_26 ?_
          refine lv_lstore_n (pc := 27) (lv' := [(3, .long ((jlshl k3_7 (8 : Int32)) ||| (Int32.toInt64 (yMem (Int32.toNatClampNeg (z1 + k5_7)))))), (0, .ref qY), (1, .int z1), (2, .int z2), (5, .int k5_7)]) hx hb dY_bytes_27 rfl hl (by decide) rfl (fun ls hl => ?_)
          refine lv_iinc (pc := 28) (k := 4) (lv' := [(5, .int (k5_7 + (-1 : Int32))), (3, .long ((jlshl k3_7 (8 : Int32)) ||| (Int32.toInt64 (yMem (Int32.toNatClampNeg (z1 + k5_7)))))), (0, .ref qY), (1, .int z1), (2, .int z2)]) hx hb dY_bytes_28 hl rfl (qa_inc (by decide) k5_7) (by decide) rfl (fun ls hl => ?_)
          refine lv_goto (pc := 31) (tgt := 7) hx hb dY_bytes_31 (by decide) ?_
          exact ih ((jlshl k3_7 (8 : Int32)) ||| (Int32.toInt64 (yMem (Int32.toNatClampNeg (z1 + k5_7))))) (k5_7 + (-1 : Int32)) _ (ry_b2 h9_1 hq7_fu) (ry_b3 h9_1 hq7_kn) (lv_sub hl [2, 3, 4, 1, 0] rfl) u hu
  exact hB7 9 (0 : Int64) (z2 - (1 : Int32)) _ (ry_b0 hn0 hn8) (ry_b1 hn0) (lv_sub hl [2, 3, 4, 1, 0] rfl) u hu
def f_Y_store_B3 (z1 : Int32) (z2 : Int32) (z3 : Int64) : Nat → Int32 → (Nat → Int32) → (Nat → Int32)
  | 0, k5_3, yMem_3 => yMem_3
  | n + 1, k5_3, yMem_3 => (if z2 ≤ k5_3 then yMem_3 else (f_Y_store_B3 z1 z2 z3 n (k5_3 + (1 : Int32)) (upd yMem_3 (Int32.toNatClampNeg (z1 + k5_3)) (Int64.toInt32 ((jlshr z3 ((8 : Int32) * k5_3)) &&& (255 : Int64))))))
theorem f_Y_store_B3_s (z1 : Int32) (z2 : Int32) (z3 : Int64) (n : Nat) (k5_3 : Int32) (yMem_3 : (Nat → Int32)) : f_Y_store_B3 z1 z2 z3 (n + 1) k5_3 yMem_3 = (if z2 ≤ k5_3 then yMem_3 else (f_Y_store_B3 z1 z2 z3 n (k5_3 + (1 : Int32)) (upd yMem_3 (Int32.toNatClampNeg (z1 + k5_3)) (Int64.toInt32 ((jlshr z3 ((8 : Int32) * k5_3)) &&& (255 : Int64)))))) := rfl
def f_Y_store (z1 : Int32) (z2 : Int32) (z3 : Int64) (yMem : (Nat → Int32)) : (Nat → Int32) := (f_Y_store_B3 z1 z2 z3 9 (0 : Int32) yMem)
set_option maxRecDepth 100000 in
set_option maxHeartbeats 4000000 in
theorem c_Y_store (l : Launch) (dC : Nat → ClassId) (dI : Nat → Nat → Nat) (cI cJ : ClassId) (qY qYm qYr qYv qYl qYn qYp qYs qYw qY6 : Nat) (sz : Nat) (yPc : Int64) (yMod : Int32) (yLev : Int32) (yLoc : Int32) (yKsp : Int64) (yUsp : Int64) (yKgp : Int64) (yVal : Int64) (yTab : Int32) (ySpc : Int32) (yHal : Int32) (yEnt : Int32) (yPen : Int32) (yBuf : Int32) (yHer : Int64) (yWrd : Int32) (yHas : Int32) (yTrp : Int32) (yNon : Int32) (yMem : (Nat → Int32)) (yR : (Nat → Int64)) (yV : (Nat → Int64)) (yPL : (Nat → Int32)) (yPN : (Nat → Int32)) (yBP : (Nat → Int32)) (yBS : (Nat → Int32)) (yBW : (Nat → Int64)) (ySix : (Nat → Int64)) (z1 : Int32) (z2 : Int32) (z3 : Int64) (ha0 : 0 ≤ z1.toInt) (ha1 : z1.toInt + z2.toInt ≤ 4096) (hn0 : 0 ≤ z2.toInt) (hn8 : z2.toInt ≤ 8) : Met l yY_store (.code yY_store cY_store 6 none :: vG) ({ frames := 0, cells := 0, slots := 0, locals := 0 }) (va_Pc [.ref qY, .int z1, .int z2, .long z3] (qa_pre (dC, dI) vwCl (wY cI cJ qY qYm qYr qYv qYl qYn qYp qYs qYw qY6 yPc yMod yLev yLoc yKsp yUsp yKgp yVal yTab ySpc yHal yEnt yPen yBuf yHer yWrd yHas yTrp yNon yMem yR yV yPL yPN yBP yBS yBW ySix) [(cI, .int), (cJ, .long)] sz)) (qa_mod none (dC, dI) vwCl (wY cI cJ qY qYm qYr qYv qYl qYn qYp qYs qYw qY6 yPc yMod yLev yLoc yKsp yUsp yKgp yVal yTab ySpc yHal yEnt yPen yBuf yHer yWrd yHas yTrp yNon (f_Y_store z1 z2 z3 yMem) yR yV yPL yPN yBP yBS yBW ySix) (va_A (wY cI cJ qY qYm qYr qYv qYl qYn qYp qYs qYw qY6 yPc yMod yLev yLoc yKsp yUsp yKgp yVal yTab ySpc yHal yEnt yPen yBuf yHer yWrd yHas yTrp yNon yMem yR yV yPL yPN yBP yBS yBW ySix) sz)) 0 0 (va_A (wY cI cJ qY qYm qYr qYv qYl qYn qYp qYs qYw qY6 yPc yMod yLev yLoc yKsp yUsp yKgp yVal yTab ySpc yHal yEnt yPen yBuf yHer yWrd yHas yTrp yNon yMem yR yV yPL yPN yBP yBS yBW ySix) sz) := by
  refine Met.ofW (cc := cY_store) (maxL := 6) (ret := none) (by decide) rfl ?_
  intro p e s m args below meth c s₁ B hml hv
  obtain ⟨rfl, hsz, hP, hK, hD0⟩ := hv
  have hx := B.exec
  have hb := B.bytes
  have hr := B.returns
  have hts : ∀ w ∈ vG, w.before _ s = true := fun w h => atoms_spec (ws := (.code yY_store cY_store 6 none :: vG)) B.pre w (List.mem_cons_of_mem _ h)
  have hown : s.vm.findClass "LongMachineModel" = some m.cls := findClass_of_methodNamed B.named
  have hlocks := B.notSynchronized
  subst hsz
  have hD := hD0.self (sz := s.heap.size)
  generalize hAe : va_A (wY cI cJ qY qYm qYr qYv qYl qYn qYp qYs qYw qY6 yPc yMod yLev yLoc yKsp yUsp yKgp yVal yTab ySpc yHal yEnt yPen yBuf yHer yWrd yHas yTrp yNon yMem yR yV yPL yPN yBP yBS yBW ySix) s.heap.size = A at hD ⊢
  have hA : ∀ q : Nat, s.heap.size ≤ q → A q := fun q h => by rw [← hAe]; exact Or.inr h
  have hS : va_S A s.heap s.heap [] := va_S.rf
  have hl := lv_entry ([.ref qY, .int z1, .int z2, .long z3]) (n := 6) (Nat.le_of_ble_eq_true rfl)
  rw [lg_entry_eq]
  generalize (lg_sl ([.ref qY, .int z1, .int z2, .long z3]) ++ List.replicate (6 - (lg_sl ([.ref qY, .int z1, .int z2, .long z3])).length) Slot.unset).toArray = ls at hl ⊢
  have hl : lv_has ls 6 [(0, .ref qY), (1, .int z1), (2, .int z2), (3, .long z3)] := hl
  obtain ⟨u, hu⟩ : ∃ u, u = f_Y_store z1 z2 z3 yMem := ⟨_, rfl⟩
  rw [← hu]
  unfold f_Y_store at hu
  refine lv_iconst (pc := 0) (v := (0 : Int32)) hx hb dY_store_0 (by decide) ?_
  refine lv_istore (pc := 1) (lv' := [(5, .int (0 : Int32)), (0, .ref qY), (1, .int z1), (2, .int z2), (3, .long z3)]) hx hb dY_store_1 hl (by decide) rfl (fun ls hl => ?_)
  have hB3 : ∀ (n : Nat) (k5_3 : Int32) (yMem_3 : (Nat → Int32)) (H : Heap) (locs : List Loc) (ls : Array Slot) (hq3_fu : (z2.toInt - (k5_3).toInt).toNat < n) (hq3_i0 : 0 ≤ (k5_3).toInt) (hP : va_P (dC, dI) vwCl (wY cI cJ qY qYm qYr qYv qYl qYn qYp qYs qYw qY6 yPc yMod yLev yLoc yKsp yUsp yKgp yVal yTab ySpc yHal yEnt yPen yBuf yHer yWrd yHas yTrp yNon yMem_3 yR yV yPL yPN yBP yBS yBW ySix) H) (hD : va_D A (wY cI cJ qY qYm qYr qYv qYl qYn qYp qYs qYw qY6 yPc yMod yLev yLoc yKsp yUsp yKgp yVal yTab ySpc yHal yEnt yPen yBuf yHer yWrd yHas yTrp yNon yMem_3 yR yV yPL yPN yBP yBS yBW ySix)) (hS : va_S A s.heap H locs) (hl : lv_has ls 6 [(0, .ref qY), (1, .int z1), (2, .int z2), (3, .long z3), (5, .int k5_3)]) (u : (Nat → Int32)) (hu : u = f_Y_store_B3 z1 z2 z3 n k5_3 yMem_3), W p l e { frames := 0, cells := 0, slots := 0, locals := 0 } s m ([.ref qY, .int z1, .int z2, .long z3]).toArray below meth c H locs 0 0 (MQ below (qa_mod none (dC, dI) vwCl (wY cI cJ qY qYm qYr qYv qYl qYn qYp qYs qYw qY6 yPc yMod yLev yLoc yKsp yUsp yKgp yVal yTab ySpc yHal yEnt yPen yBuf yHer yWrd yHas yTrp yNon u yR yV yPL yPN yBP yBS yBW ySix) A) ([.ref qY, .int z1, .int z2, .long z3]).toArray s 0 0 A) (F0 m 3 ls []) := by
    intro n
    induction n with
    | zero => intro k5_3 yMem_3 H locs ls hq3_fu hq3_i0 hP hD hS hl u hu; exact absurd hq3_fu (Nat.not_lt_zero _)
    | succ n ih =>
        intro k5_3 yMem_3 H locs ls hq3_fu hq3_i0 hP hD hS hl u hu
        rw [f_Y_store_B3_s] at hu
        refine lv_iload (pc := 3) hx hb dY_store_3 (lv_at hl 4 rfl) ?_
        refine lv_iload_n (pc := 5) hx hb dY_store_5 rfl (lv_at hl 2 rfl) ?_
        refine lv_icmp_ge (pc := 6) (tgt := 36) hx hb dY_store_6 (by decide) (fun h6_1 => ?_) (fun h6_1 => ?_)
        · have hu := hu.trans (if_pos h6_1)
          subst hu
          exact W.vret hx hb hr (fun t ht hW => ⟨rfl, by rw [ht]; exact hP, hS.F ht⟩) hS.2.2 dY_store_36
        · have hu := hu.trans (if_neg h6_1)
          refine lv_aload_n (pc := 9) hx hb dY_store_9 rfl (lv_at hl 0 rfl) ?_
          refine va_get (D := (dC, dI)) (pc := 10) (ci := 5) (v := .ref qYm) (C := "LongMachineModel") (T := TY) (N := 28) hx hb hts ui_Y hown hK hP 0 rfl rfl 0 (by decide) (hts _ gm_346) (fun _ h9 => h9) rfl dY_store_10 ?_
          refine lv_iload_n (pc := 13) hx hb dY_store_13 rfl (lv_at hl 1 rfl) ?_
          refine lv_iload (pc := 14) hx hb dY_store_14 (lv_at hl 4 rfl) ?_
          refine lv_iadd (pc := 16) hx hb dY_store_16 ?_
          refine lv_lload_n (pc := 17) hx hb dY_store_17 rfl (lv_at hl 3 rfl) ?_
          refine lv_bipush (pc := 18) (v := (8 : Int32)) hx hb dY_store_18 (by decide) ?_
          refine lv_iload (pc := 20) hx hb dY_store_20 (lv_at hl 4 rfl) ?_
          refine lv_imul (pc := 22) hx hb dY_store_22 ?_
          refine lv_lshr (pc := 23) (v := (jlshr z3 ((8 : Int32) * k5_3))) hx hb dY_store_23 rfl ?_
          refine lv_ldc2 (pc := 24) (v := (255 : Int64)) hx hb hown (hts _ gm_448) dY_store_24 ?_
          refine lv_land (pc := 27) hx hb dY_store_27 ?_
          refine lv_l2i (pc := 28) (v := (Int64.toInt32 ((jlshr z3 ((8 : Int32) * k5_3)) &&& (255 : Int64)))) hx hb dY_store_28 rfl ?_
          refine qa_iast (pc := 29) (k := (Int32.toNatClampNeg (z1 + k5_3))) hx hb hK hP hD hS 1 0 rfl rfl rfl (ry_s1 ha0 ha1 hn8 hq3_i0 h6_1) dY_store_29 (fun H locs hP hD hS => ?_)
          have hP : va_P (dC, dI) vwCl (wY cI cJ qY qYm qYr qYv qYl qYn qYp qYs qYw qY6 yPc yMod yLev yLoc yKsp yUsp yKgp yVal yTab ySpc yHal yEnt yPen yBuf yHer yWrd yHas yTrp yNon (upd yMem_3 (Int32.toNatClampNeg (z1 + k5_3)) (Int64.toInt32 ((jlshr z3 ((8 : Int32) * k5_3)) &&& (255 : Int64)))) yR yV yPL yPN yBP yBS yBW ySix) H := hP
          have hD : va_D A (wY cI cJ qY qYm qYr qYv qYl qYn qYp qYs qYw qY6 yPc yMod yLev yLoc yKsp yUsp yKgp yVal yTab ySpc yHal yEnt yPen yBuf yHer yWrd yHas yTrp yNon (upd yMem_3 (Int32.toNatClampNeg (z1 + k5_3)) (Int64.toInt32 ((jlshr z3 ((8 : Int32) * k5_3)) &&& (255 : Int64)))) yR yV yPL yPN yBP yBS yBW ySix) := hD
          refine lv_iinc (pc := 30) (k := 4) (lv' := [(5, .int (k5_3 + (1 : Int32))), (0, .ref qY), (1, .int z1), (2, .int z2), (3, .long z3)]) hx hb dY_store_30 hl rfl (qa_inc (by decide) k5_3) (by decide) rfl (fun ls hl => ?_)
          refine lv_goto (pc := 33) (tgt := 3) hx hb dY_store_33 (by decide) ?_
          exact ih (k5_3 + (1 : Int32)) (upd yMem_3 (Int32.toNatClampNeg (z1 + k5_3)) (Int64.toInt32 ((jlshr z3 ((8 : Int32) * k5_3)) &&& (255 : Int64)))) _ _ _ (rg_fs h6_1 hq3_fu) (rg_i0 h6_1 hq3_i0) hP hD hS (lv_sub hl [1, 2, 3, 4, 0] rfl) u hu
  exact hB3 9 (0 : Int32) yMem _ _ _ (ry_s0 hn8) (rg_z) hP hD hS (lv_sub hl [1, 2, 3, 4, 0] rfl) u hu
def f_Y_buffered_B2 (z1 : Int32) (ySpc : Int32) (yBuf : Int32) (yBP : (Nat → Int32)) (yBS : (Nat → Int32)) : Nat → Int32 → Int32
  | 0, k2_2 => (0 : Int32)
  | n + 1, k2_2 => (if yBuf ≤ k2_2 then (-1 : Int32) else (if (yBP (Int32.toNatClampNeg k2_2)) = z1 then (if (yBS (Int32.toNatClampNeg k2_2)) = ySpc then k2_2 else (f_Y_buffered_B2 z1 ySpc yBuf yBP yBS n (k2_2 + (1 : Int32)))) else (f_Y_buffered_B2 z1 ySpc yBuf yBP yBS n (k2_2 + (1 : Int32)))))
theorem f_Y_buffered_B2_s (z1 : Int32) (ySpc : Int32) (yBuf : Int32) (yBP : (Nat → Int32)) (yBS : (Nat → Int32)) (n : Nat) (k2_2 : Int32) : f_Y_buffered_B2 z1 ySpc yBuf yBP yBS (n + 1) k2_2 = (if yBuf ≤ k2_2 then (-1 : Int32) else (if (yBP (Int32.toNatClampNeg k2_2)) = z1 then (if (yBS (Int32.toNatClampNeg k2_2)) = ySpc then k2_2 else (f_Y_buffered_B2 z1 ySpc yBuf yBP yBS n (k2_2 + (1 : Int32)))) else (f_Y_buffered_B2 z1 ySpc yBuf yBP yBS n (k2_2 + (1 : Int32))))) := rfl
def f_Y_buffered (z1 : Int32) (ySpc : Int32) (yBuf : Int32) (yBP : (Nat → Int32)) (yBS : (Nat → Int32)) : Int32 := (f_Y_buffered_B2 z1 ySpc yBuf yBP yBS 5 (0 : Int32))
set_option maxRecDepth 100000 in
set_option maxHeartbeats 4000000 in
theorem c_Y_buffered (l : Launch) (dC : Nat → ClassId) (dI : Nat → Nat → Nat) (cI cJ : ClassId) (qY qYm qYr qYv qYl qYn qYp qYs qYw qY6 : Nat) (yPc : Int64) (yMod : Int32) (yLev : Int32) (yLoc : Int32) (yKsp : Int64) (yUsp : Int64) (yKgp : Int64) (yVal : Int64) (yTab : Int32) (ySpc : Int32) (yHal : Int32) (yEnt : Int32) (yPen : Int32) (yBuf : Int32) (yHer : Int64) (yWrd : Int32) (yHas : Int32) (yTrp : Int32) (yNon : Int32) (yMem : (Nat → Int32)) (yR : (Nat → Int64)) (yV : (Nat → Int64)) (yPL : (Nat → Int32)) (yPN : (Nat → Int32)) (yBP : (Nat → Int32)) (yBS : (Nat → Int32)) (yBW : (Nat → Int64)) (ySix : (Nat → Int64)) (z1 : Int32) (hy4 : yBuf.toInt ≤ 4) : Met l yY_buffered (.code yY_buffered cY_buffered 3 (some .int) :: vG) ({ frames := 0, cells := 0, slots := 0, locals := 0 }) (va_Pc [.ref qY, .int z1] (qa_preR (dC, dI) vwCl (wY cI cJ qY qYm qYr qYv qYl qYn qYp qYs qYw qY6 yPc yMod yLev yLoc yKsp yUsp yKgp yVal yTab ySpc yHal yEnt yPen yBuf yHer yWrd yHas yTrp yNon yMem yR yV yPL yPN yBP yBS yBW ySix) [(cI, .int), (cJ, .long)])) (qa_det (.int (f_Y_buffered z1 ySpc yBuf yBP yBS))) 0 0 (fun _ => False) := by
  refine Met.ofW (cc := cY_buffered) (maxL := 3) (ret := (some .int)) (by decide) rfl ?_
  intro p e s m args below meth c s₁ B hml hv
  obtain ⟨rfl, hP, hK⟩ := hv
  have hx := B.exec
  have hb := B.bytes
  have hr := B.returns
  have hts : ∀ w ∈ vG, w.before _ s = true := fun w h => atoms_spec (ws := (.code yY_buffered cY_buffered 3 (some .int) :: vG)) B.pre w (List.mem_cons_of_mem _ h)
  have hown : s.vm.findClass "LongMachineModel" = some m.cls := findClass_of_methodNamed B.named
  have hlocks := B.notSynchronized
  have hl := lv_entry ([.ref qY, .int z1]) (n := 3) (Nat.le_of_ble_eq_true rfl)
  rw [lg_entry_eq]
  generalize (lg_sl ([.ref qY, .int z1]) ++ List.replicate (3 - (lg_sl ([.ref qY, .int z1])).length) Slot.unset).toArray = ls at hl ⊢
  have hl : lv_has ls 3 [(0, .ref qY), (1, .int z1)] := hl
  obtain ⟨u, hu⟩ : ∃ u, u = f_Y_buffered z1 ySpc yBuf yBP yBS := ⟨_, rfl⟩
  rw [← hu]
  unfold f_Y_buffered at hu
  refine lv_iconst (pc := 0) (v := (0 : Int32)) hx hb dY_buffered_0 (by decide) ?_
  refine lv_istore_n (pc := 1) (lv' := [(2, .int (0 : Int32)), (0, .ref qY), (1, .int z1)]) hx hb dY_buffered_1 rfl hl (by decide) rfl (fun ls hl => ?_)
  have hB2 : ∀ (n : Nat) (k2_2 : Int32) (ls : Array Slot) (hq2_fu : ((yBuf).toInt - (k2_2).toInt).toNat < n) (hq2_i0 : 0 ≤ (k2_2).toInt) (hl : lv_has ls 3 [(0, .ref qY), (1, .int z1), (2, .int k2_2)]) (u : Int32) (hu : u = f_Y_buffered_B2 z1 ySpc yBuf yBP yBS n k2_2), W p l e { frames := 0, cells := 0, slots := 0, locals := 0 } s m ([.ref qY, .int z1]).toArray below meth c s.heap [] 0 0 (MQ below (qa_det (.int u)) ([.ref qY, .int z1]).toArray s 0 0 (fun _ => False)) (F0 m 2 ls []) := by
    intro n
    induction n with
    | zero => intro k2_2 ls hq2_fu hq2_i0 hl u hu; exact absurd hq2_fu (Nat.not_lt_zero _)
    | succ n ih =>
        intro k2_2 ls hq2_fu hq2_i0 hl u hu
        rw [f_Y_buffered_B2_s] at hu
        refine lv_iload_n (pc := 2) hx hb dY_buffered_2 rfl (lv_at hl 2 rfl) ?_
        refine lv_aload_n (pc := 3) hx hb dY_buffered_3 rfl (lv_at hl 0 rfl) ?_
        refine va_get (D := (dC, dI)) (pc := 4) (ci := 5) (v := .int yBuf) (C := "LongMachineModel") (T := TY) (N := 28) hx hb hts ui_Y hown hK hP 0 rfl rfl 18 (by decide) (hts _ gm_364) (fun _ h9 => h9) rfl dY_buffered_4 ?_
        refine lv_icmp_ge (pc := 7) (tgt := 41) hx hb dY_buffered_7 (by decide) (fun h7_1 => ?_) (fun h7_1 => ?_)
        · have hu := hu.trans (if_pos h7_1)
          refine lv_iconst (pc := 41) (v := (-1 : Int32)) hx hb dY_buffered_41 (by decide) ?_
          subst hu
          exact W.iret hx hb hr (fun t ht hW => ⟨rfl, ht⟩) (fun _ h => by cases h) dY_buffered_42
        · have hu := hu.trans (if_neg h7_1)
          refine lv_aload_n (pc := 10) hx hb dY_buffered_10 rfl (lv_at hl 0 rfl) ?_
          refine va_get (D := (dC, dI)) (pc := 11) (ci := 5) (v := .ref qYp) (C := "LongMachineModel") (T := TY) (N := 28) hx hb hts ui_Y hown hK hP 0 rfl rfl 19 (by decide) (hts _ gm_365) (fun _ h9 => h9) rfl dY_buffered_11 ?_
          refine lv_iload_n (pc := 14) hx hb dY_buffered_14 rfl (lv_at hl 2 rfl) ?_
          refine qa_iald (pc := 15) (k := (Int32.toNatClampNeg k2_2)) hx hb hK hP 6 0 rfl rfl rfl (rg_b hq2_i0 h7_1 hy4) dY_buffered_15 ?_
          refine lv_iload_n (pc := 16) hx hb dY_buffered_16 rfl (lv_at hl 1 rfl) ?_
          refine lv_icmp_ne (pc := 17) (tgt := 35) hx hb dY_buffered_17 (by decide) (fun h17_2 => ?_) (fun h17_2 => ?_)
          · have hu := hu.trans (if_neg h17_2)
            refine lv_iinc (pc := 35) (k := 2) (lv' := [(2, .int (k2_2 + (1 : Int32))), (0, .ref qY), (1, .int z1)]) hx hb dY_buffered_35 hl rfl (qa_inc (by decide) k2_2) (by decide) rfl (fun ls hl => ?_)
            refine lv_goto (pc := 38) (tgt := 2) hx hb dY_buffered_38 (by decide) ?_
            exact ih (k2_2 + (1 : Int32)) _ (rg_fs h7_1 hq2_fu) (rg_i0 h7_1 hq2_i0) (lv_sub hl [1, 2, 0] rfl) u hu
          · have hu := hu.trans (if_pos h17_2)
            refine lv_aload_n (pc := 20) hx hb dY_buffered_20 rfl (lv_at hl 0 rfl) ?_
            refine va_get (D := (dC, dI)) (pc := 21) (ci := 5) (v := .ref qYs) (C := "LongMachineModel") (T := TY) (N := 28) hx hb hts ui_Y hown hK hP 0 rfl rfl 20 (by decide) (hts _ gm_366) (fun _ h9 => h9) rfl dY_buffered_21 ?_
            refine lv_iload_n (pc := 24) hx hb dY_buffered_24 rfl (lv_at hl 2 rfl) ?_
            refine qa_iald (pc := 25) (k := (Int32.toNatClampNeg k2_2)) hx hb hK hP 7 0 rfl rfl rfl (rg_b hq2_i0 h7_1 hy4) dY_buffered_25 ?_
            refine lv_aload_n (pc := 26) hx hb dY_buffered_26 rfl (lv_at hl 0 rfl) ?_
            refine va_get (D := (dC, dI)) (pc := 27) (ci := 5) (v := .int ySpc) (C := "LongMachineModel") (T := TY) (N := 28) hx hb hts ui_Y hown hK hP 0 rfl rfl 11 (by decide) (hts _ gm_357) (fun _ h9 => h9) rfl dY_buffered_27 ?_
            refine lv_icmp_ne (pc := 30) (tgt := 35) hx hb dY_buffered_30 (by decide) (fun h30_3 => ?_) (fun h30_3 => ?_)
            · have hu := hu.trans (if_neg h30_3)
              refine lv_iinc (pc := 35) (k := 2) (lv' := [(2, .int (k2_2 + (1 : Int32))), (0, .ref qY), (1, .int z1)]) hx hb dY_buffered_35 hl rfl (qa_inc (by decide) k2_2) (by decide) rfl (fun ls hl => ?_)
              refine lv_goto (pc := 38) (tgt := 2) hx hb dY_buffered_38 (by decide) ?_
              exact ih (k2_2 + (1 : Int32)) _ (rg_fs h7_1 hq2_fu) (rg_i0 h7_1 hq2_i0) (lv_sub hl [1, 2, 0] rfl) u hu
            · have hu := hu.trans (if_pos h30_3)
              refine lv_iload_n (pc := 33) hx hb dY_buffered_33 rfl (lv_at hl 2 rfl) ?_
              subst hu
              exact W.iret hx hb hr (fun t ht hW => ⟨rfl, ht⟩) (fun _ h => by cases h) dY_buffered_34
  exact hB2 5 (0 : Int32) _ (rg_f0 hy4) (rg_z) (lv_sub hl [1, 2, 0] rfl) u hu
theorem rgf_buffered_B (z1 ySpc yBuf : Int32) (yBP yBS : Nat → Int32) : ∀ (n : Nat) (k : Int32), 0 ≤ k.toInt → ¬ f_Y_buffered_B2 z1 ySpc yBuf yBP yBS n k < 0 → n = 0 ∨ (0 ≤ (f_Y_buffered_B2 z1 ySpc yBuf yBP yBS n k).toInt ∧ (f_Y_buffered_B2 z1 ySpc yBuf yBP yBS n k).toInt < yBuf.toInt) ∨ f_Y_buffered_B2 z1 ySpc yBuf yBP yBS n k = 0 := by
  intro n
  induction n with
  | zero => intro k h0 h; exact Or.inl rfl
  | succ n ih =>
    intro k h0 h
    rw [f_Y_buffered_B2_s] at h ⊢
    refine Or.inr ?_
    split
    · rename_i hc
      rw [if_pos hc] at h
      exact absurd h (by decide)
    · rename_i hc
      rw [if_neg hc] at h
      have hr : ∀ w, w = f_Y_buffered_B2 z1 ySpc yBuf yBP yBS n (k + 1) → ¬ w < 0 → (0 ≤ w.toInt ∧ w.toInt < yBuf.toInt) ∨ w = 0 := by
        intro w hw hn
        subst hw
        rcases ih (k + 1) (rg_i0 hc h0) hn with rfl | h2
        · exact Or.inr rfl
        · exact h2
      split
      · rename_i hp
        rw [if_pos hp] at h
        split
        · exact Or.inl ⟨h0, rg_lt hc⟩
        · rename_i hs
          rw [if_neg hs] at h
          exact hr _ rfl h
      · rename_i hp
        rw [if_neg hp] at h
        exact hr _ rfl h
theorem rgf_buffered {z1 ySpc yBuf : Int32} {yBP yBS : Nat → Int32} (hc : yBuf.toInt ≤ 4) (h : ¬ f_Y_buffered z1 ySpc yBuf yBP yBS < 0) : vp_in (f_Y_buffered z1 ySpc yBuf yBP yBS) 4 := by
  unfold f_Y_buffered at h ⊢
  rcases rgf_buffered_B z1 ySpc yBuf yBP yBS 5 0 rg_z h with h2 | h2 | h2
  · exact absurd h2 (by decide)
  · exact qa_inI h2.1 (by omega)
  · rw [h2]
    exact qa_in (by decide)
def f_Y_keep_B11 (z1 : Int32) (z2 : Int64) (ySpc : Int32) (yBuf : Int32) : Nat → Int32 → (Nat → Int32) → (Nat → Int32) → (Nat → Int64) → Int32 × (Nat → Int32) × (Nat → Int32) × (Nat → Int64)
  | 0, k4_11, yBP_11, yBS_11, yBW_11 => (yBuf, yBP_11, yBS_11, yBW_11)
  | n + 1, k4_11, yBP_11, yBS_11, yBW_11 => (if (3 : Int32) ≤ k4_11 then (((3 : Int32) + (1 : Int32)), (upd yBP_11 3 z1), (upd yBS_11 3 ySpc), (vp_updL yBW_11 3 z2)) else (f_Y_keep_B11 z1 z2 ySpc yBuf n (k4_11 + (1 : Int32)) (upd yBP_11 (Int32.toNatClampNeg k4_11) (yBP_11 (Int32.toNatClampNeg (k4_11 + (1 : Int32))))) (upd yBS_11 (Int32.toNatClampNeg k4_11) (yBS_11 (Int32.toNatClampNeg (k4_11 + (1 : Int32))))) (vp_updL yBW_11 (Int32.toNatClampNeg k4_11) (yBW_11 (Int32.toNatClampNeg (k4_11 + (1 : Int32)))))))
theorem f_Y_keep_B11_s (z1 : Int32) (z2 : Int64) (ySpc : Int32) (yBuf : Int32) (n : Nat) (k4_11 : Int32) (yBP_11 : (Nat → Int32)) (yBS_11 : (Nat → Int32)) (yBW_11 : (Nat → Int64)) : f_Y_keep_B11 z1 z2 ySpc yBuf (n + 1) k4_11 yBP_11 yBS_11 yBW_11 = (if (3 : Int32) ≤ k4_11 then (((3 : Int32) + (1 : Int32)), (upd yBP_11 3 z1), (upd yBS_11 3 ySpc), (vp_updL yBW_11 3 z2)) else (f_Y_keep_B11 z1 z2 ySpc yBuf n (k4_11 + (1 : Int32)) (upd yBP_11 (Int32.toNatClampNeg k4_11) (yBP_11 (Int32.toNatClampNeg (k4_11 + (1 : Int32))))) (upd yBS_11 (Int32.toNatClampNeg k4_11) (yBS_11 (Int32.toNatClampNeg (k4_11 + (1 : Int32))))) (vp_updL yBW_11 (Int32.toNatClampNeg k4_11) (yBW_11 (Int32.toNatClampNeg (k4_11 + (1 : Int32))))))) := rfl
def f_Y_keep (z1 : Int32) (z2 : Int64) (ySpc : Int32) (yBuf : Int32) (yBP : (Nat → Int32)) (yBS : (Nat → Int32)) (yBW : (Nat → Int64)) : Int32 × (Nat → Int32) × (Nat → Int32) × (Nat → Int64) := (if yBuf = (4 : Int32) then (f_Y_keep_B11 z1 z2 ySpc yBuf 4 (0 : Int32) yBP yBS yBW) else ((yBuf + (1 : Int32)), (upd yBP (Int32.toNatClampNeg yBuf) z1), (upd yBS (Int32.toNatClampNeg yBuf) ySpc), (vp_updL yBW (Int32.toNatClampNeg yBuf) z2)))
set_option maxRecDepth 100000 in
set_option maxHeartbeats 4000000 in
theorem c_Y_keep (l : Launch) (dC : Nat → ClassId) (dI : Nat → Nat → Nat) (cI cJ : ClassId) (qY qYm qYr qYv qYl qYn qYp qYs qYw qY6 : Nat) (sz : Nat) (yPc : Int64) (yMod : Int32) (yLev : Int32) (yLoc : Int32) (yKsp : Int64) (yUsp : Int64) (yKgp : Int64) (yVal : Int64) (yTab : Int32) (ySpc : Int32) (yHal : Int32) (yEnt : Int32) (yPen : Int32) (yBuf : Int32) (yHer : Int64) (yWrd : Int32) (yHas : Int32) (yTrp : Int32) (yNon : Int32) (yMem : (Nat → Int32)) (yR : (Nat → Int64)) (yV : (Nat → Int64)) (yPL : (Nat → Int32)) (yPN : (Nat → Int32)) (yBP : (Nat → Int32)) (yBS : (Nat → Int32)) (yBW : (Nat → Int64)) (ySix : (Nat → Int64)) (z1 : Int32) (z2 : Int64) (hy0 : 0 ≤ yBuf.toInt) (hy4 : yBuf.toInt ≤ 4) : Met l yY_keep (.code yY_keep cY_keep 5 none :: vG) ({ frames := 0, cells := 0, slots := 0, locals := 0 }) (va_Pc [.ref qY, .int z1, .long z2] (qa_pre (dC, dI) vwCl (wY cI cJ qY qYm qYr qYv qYl qYn qYp qYs qYw qY6 yPc yMod yLev yLoc yKsp yUsp yKgp yVal yTab ySpc yHal yEnt yPen yBuf yHer yWrd yHas yTrp yNon yMem yR yV yPL yPN yBP yBS yBW ySix) [(cI, .int), (cJ, .long)] sz)) (qa_mod none (dC, dI) vwCl (wY cI cJ qY qYm qYr qYv qYl qYn qYp qYs qYw qY6 yPc yMod yLev yLoc yKsp yUsp yKgp yVal yTab ySpc yHal yEnt yPen ((f_Y_keep z1 z2 ySpc yBuf yBP yBS yBW).1) yHer yWrd yHas yTrp yNon yMem yR yV yPL yPN ((f_Y_keep z1 z2 ySpc yBuf yBP yBS yBW).2.1) ((f_Y_keep z1 z2 ySpc yBuf yBP yBS yBW).2.2.1) ((f_Y_keep z1 z2 ySpc yBuf yBP yBS yBW).2.2.2) ySix) (va_A (wY cI cJ qY qYm qYr qYv qYl qYn qYp qYs qYw qY6 yPc yMod yLev yLoc yKsp yUsp yKgp yVal yTab ySpc yHal yEnt yPen yBuf yHer yWrd yHas yTrp yNon yMem yR yV yPL yPN yBP yBS yBW ySix) sz)) 0 0 (va_A (wY cI cJ qY qYm qYr qYv qYl qYn qYp qYs qYw qY6 yPc yMod yLev yLoc yKsp yUsp yKgp yVal yTab ySpc yHal yEnt yPen yBuf yHer yWrd yHas yTrp yNon yMem yR yV yPL yPN yBP yBS yBW ySix) sz) := by
  refine Met.ofW (cc := cY_keep) (maxL := 5) (ret := none) (by decide) rfl ?_
  intro p e s m args below meth c s₁ B hml hv
  obtain ⟨rfl, hsz, hP, hK, hD0⟩ := hv
  have hx := B.exec
  have hb := B.bytes
  have hr := B.returns
  have hts : ∀ w ∈ vG, w.before _ s = true := fun w h => atoms_spec (ws := (.code yY_keep cY_keep 5 none :: vG)) B.pre w (List.mem_cons_of_mem _ h)
  have hown : s.vm.findClass "LongMachineModel" = some m.cls := findClass_of_methodNamed B.named
  have hlocks := B.notSynchronized
  subst hsz
  have hD := hD0.self (sz := s.heap.size)
  generalize hAe : va_A (wY cI cJ qY qYm qYr qYv qYl qYn qYp qYs qYw qY6 yPc yMod yLev yLoc yKsp yUsp yKgp yVal yTab ySpc yHal yEnt yPen yBuf yHer yWrd yHas yTrp yNon yMem yR yV yPL yPN yBP yBS yBW ySix) s.heap.size = A at hD ⊢
  have hA : ∀ q : Nat, s.heap.size ≤ q → A q := fun q h => by rw [← hAe]; exact Or.inr h
  have hS : va_S A s.heap s.heap [] := va_S.rf
  have hl := lv_entry ([.ref qY, .int z1, .long z2]) (n := 5) (Nat.le_of_ble_eq_true rfl)
  rw [lg_entry_eq]
  generalize (lg_sl ([.ref qY, .int z1, .long z2]) ++ List.replicate (5 - (lg_sl ([.ref qY, .int z1, .long z2])).length) Slot.unset).toArray = ls at hl ⊢
  have hl : lv_has ls 5 [(0, .ref qY), (1, .int z1), (2, .long z2)] := hl
  obtain ⟨u, hu⟩ : ∃ u, u = f_Y_keep z1 z2 ySpc yBuf yBP yBS yBW := ⟨_, rfl⟩
  rw [← hu]
  unfold f_Y_keep at hu
  refine lv_aload_n (pc := 0) hx hb dY_keep_0 rfl (lv_at hl 0 rfl) ?_
  refine va_get (D := (dC, dI)) (pc := 1) (ci := 5) (v := .int yBuf) (C := "LongMachineModel") (T := TY) (N := 28) hx hb hts ui_Y hown hK hP 0 rfl rfl 18 (by decide) (hts _ gm_364) (fun _ h9 => h9) rfl dY_keep_1 ?_
  refine lv_iconst (pc := 4) (v := (4 : Int32)) hx hb dY_keep_4 (by decide) ?_
  refine lv_icmp_ne (pc := 5) (tgt := 76) hx hb dY_keep_5 (by decide) (fun h5_1 => ?_) (fun h5_1 => ?_)
  · have hu := hu.trans (if_neg h5_1)
    refine lv_aload_n (pc := 76) hx hb dY_keep_76 rfl (lv_at hl 0 rfl) ?_
    refine va_get (D := (dC, dI)) (pc := 77) (ci := 5) (v := .ref qYp) (C := "LongMachineModel") (T := TY) (N := 28) hx hb hts ui_Y hown hK hP 0 rfl rfl 19 (by decide) (hts _ gm_365) (fun _ h9 => h9) rfl dY_keep_77 ?_
    refine lv_aload_n (pc := 80) hx hb dY_keep_80 rfl (lv_at hl 0 rfl) ?_
    refine va_get (D := (dC, dI)) (pc := 81) (ci := 5) (v := .int yBuf) (C := "LongMachineModel") (T := TY) (N := 28) hx hb hts ui_Y hown hK hP 0 rfl rfl 18 (by decide) (hts _ gm_364) (fun _ h9 => h9) rfl dY_keep_81 ?_
    refine lv_iload_n (pc := 84) hx hb dY_keep_84 rfl (lv_at hl 1 rfl) ?_
    refine qa_iast (pc := 85) (k := (Int32.toNatClampNeg yBuf)) hx hb hK hP hD hS 6 0 rfl rfl rfl (by first | exact qa_in (by decide) | exact ry_ne4 hy0 hy4 h5_1) dY_keep_85 (fun H locs hP hD hS => ?_)
    have hP : va_P (dC, dI) vwCl (wY cI cJ qY qYm qYr qYv qYl qYn qYp qYs qYw qY6 yPc yMod yLev yLoc yKsp yUsp yKgp yVal yTab ySpc yHal yEnt yPen yBuf yHer yWrd yHas yTrp yNon yMem yR yV yPL yPN (upd yBP (Int32.toNatClampNeg yBuf) z1) yBS yBW ySix) H := hP
    have hD : va_D A (wY cI cJ qY qYm qYr qYv qYl qYn qYp qYs qYw qY6 yPc yMod yLev yLoc yKsp yUsp yKgp yVal yTab ySpc yHal yEnt yPen yBuf yHer yWrd yHas yTrp yNon yMem yR yV yPL yPN (upd yBP (Int32.toNatClampNeg yBuf) z1) yBS yBW ySix) := hD
    refine lv_aload_n (pc := 86) hx hb dY_keep_86 rfl (lv_at hl 0 rfl) ?_
    refine va_get (D := (dC, dI)) (pc := 87) (ci := 5) (v := .ref qYs) (C := "LongMachineModel") (T := TY) (N := 28) hx hb hts ui_Y hown hK hP 0 rfl rfl 20 (by decide) (hts _ gm_366) (fun _ h9 => h9) rfl dY_keep_87 ?_
    refine lv_aload_n (pc := 90) hx hb dY_keep_90 rfl (lv_at hl 0 rfl) ?_
    refine va_get (D := (dC, dI)) (pc := 91) (ci := 5) (v := .int yBuf) (C := "LongMachineModel") (T := TY) (N := 28) hx hb hts ui_Y hown hK hP 0 rfl rfl 18 (by decide) (hts _ gm_364) (fun _ h9 => h9) rfl dY_keep_91 ?_
    refine lv_aload_n (pc := 94) hx hb dY_keep_94 rfl (lv_at hl 0 rfl) ?_
    refine va_get (D := (dC, dI)) (pc := 95) (ci := 5) (v := .int ySpc) (C := "LongMachineModel") (T := TY) (N := 28) hx hb hts ui_Y hown hK hP 0 rfl rfl 11 (by decide) (hts _ gm_357) (fun _ h9 => h9) rfl dY_keep_95 ?_
    refine qa_iast (pc := 98) (k := (Int32.toNatClampNeg yBuf)) hx hb hK hP hD hS 7 0 rfl rfl rfl (by first | exact qa_in (by decide) | exact ry_ne4 hy0 hy4 h5_1) dY_keep_98 (fun H locs hP hD hS => ?_)
    have hP : va_P (dC, dI) vwCl (wY cI cJ qY qYm qYr qYv qYl qYn qYp qYs qYw qY6 yPc yMod yLev yLoc yKsp yUsp yKgp yVal yTab ySpc yHal yEnt yPen yBuf yHer yWrd yHas yTrp yNon yMem yR yV yPL yPN (upd yBP (Int32.toNatClampNeg yBuf) z1) (upd yBS (Int32.toNatClampNeg yBuf) ySpc) yBW ySix) H := hP
    have hD : va_D A (wY cI cJ qY qYm qYr qYv qYl qYn qYp qYs qYw qY6 yPc yMod yLev yLoc yKsp yUsp yKgp yVal yTab ySpc yHal yEnt yPen yBuf yHer yWrd yHas yTrp yNon yMem yR yV yPL yPN (upd yBP (Int32.toNatClampNeg yBuf) z1) (upd yBS (Int32.toNatClampNeg yBuf) ySpc) yBW ySix) := hD
    refine lv_aload_n (pc := 99) hx hb dY_keep_99 rfl (lv_at hl 0 rfl) ?_
    refine va_get (D := (dC, dI)) (pc := 100) (ci := 5) (v := .ref qYw) (C := "LongMachineModel") (T := TY) (N := 28) hx hb hts ui_Y hown hK hP 0 rfl rfl 21 (by decide) (hts _ gm_367) (fun _ h9 => h9) rfl dY_keep_100 ?_
    refine lv_aload_n (pc := 103) hx hb dY_keep_103 rfl (lv_at hl 0 rfl) ?_
    refine va_get (D := (dC, dI)) (pc := 104) (ci := 5) (v := .int yBuf) (C := "LongMachineModel") (T := TY) (N := 28) hx hb hts ui_Y hown hK hP 0 rfl rfl 18 (by decide) (hts _ gm_364) (fun _ h9 => h9) rfl dY_keep_104 ?_
    refine lv_lload_n (pc := 107) hx hb dY_keep_107 rfl (lv_at hl 2 rfl) ?_
    refine qa_last (pc := 108) (k := (Int32.toNatClampNeg yBuf)) hx hb hK hP hD hS 8 1 rfl rfl rfl (by first | exact qa_in (by decide) | exact ry_ne4 hy0 hy4 h5_1) dY_keep_108 (fun H locs hP hD hS => ?_)
    have hP : va_P (dC, dI) vwCl (wY cI cJ qY qYm qYr qYv qYl qYn qYp qYs qYw qY6 yPc yMod yLev yLoc yKsp yUsp yKgp yVal yTab ySpc yHal yEnt yPen yBuf yHer yWrd yHas yTrp yNon yMem yR yV yPL yPN (upd yBP (Int32.toNatClampNeg yBuf) z1) (upd yBS (Int32.toNatClampNeg yBuf) ySpc) (vp_updL yBW (Int32.toNatClampNeg yBuf) z2) ySix) H := hP
    have hD : va_D A (wY cI cJ qY qYm qYr qYv qYl qYn qYp qYs qYw qY6 yPc yMod yLev yLoc yKsp yUsp yKgp yVal yTab ySpc yHal yEnt yPen yBuf yHer yWrd yHas yTrp yNon yMem yR yV yPL yPN (upd yBP (Int32.toNatClampNeg yBuf) z1) (upd yBS (Int32.toNatClampNeg yBuf) ySpc) (vp_updL yBW (Int32.toNatClampNeg yBuf) z2) ySix) := hD
    refine lv_aload_n (pc := 109) hx hb dY_keep_109 rfl (lv_at hl 0 rfl) ?_
    refine lv_dup (pc := 110) hx hb dY_keep_110 rfl ?_
    refine va_get (D := (dC, dI)) (pc := 111) (ci := 5) (v := .int yBuf) (C := "LongMachineModel") (T := TY) (N := 28) hx hb hts ui_Y hown hK hP 0 rfl rfl 18 (by decide) (hts _ gm_364) (fun _ h9 => h9) rfl dY_keep_111 ?_
    refine lv_iconst (pc := 114) (v := (1 : Int32)) hx hb dY_keep_114 (by decide) ?_
    refine lv_iadd (pc := 115) hx hb dY_keep_115 ?_
    refine va_put (D := (dC, dI)) (pc := 116) (ci := 5) (v := .int (yBuf + (1 : Int32))) (ty := .int) (C := "LongMachineModel") (T := TY) (N := 28) hx hb hts ui_Y tyY tyY_ok nmY hown hK hP hD hS 0 rfl rfl 18 (by decide) (hts _ gm_364) (fun _ h9 => h9) rfl (by decide +kernel) rfl rfl (Nat.le_of_ble_eq_true rfl) dY_keep_116 (fun H locs hP hD hS => ?_)
    have hP : va_P (dC, dI) vwCl (wY cI cJ qY qYm qYr qYv qYl qYn qYp qYs qYw qY6 yPc yMod yLev yLoc yKsp yUsp yKgp yVal yTab ySpc yHal yEnt yPen (yBuf + (1 : Int32)) yHer yWrd yHas yTrp yNon yMem yR yV yPL yPN (upd yBP (Int32.toNatClampNeg yBuf) z1) (upd yBS (Int32.toNatClampNeg yBuf) ySpc) (vp_updL yBW (Int32.toNatClampNeg yBuf) z2) ySix) H := hP
    have hD : va_D A (wY cI cJ qY qYm qYr qYv qYl qYn qYp qYs qYw qY6 yPc yMod yLev yLoc yKsp yUsp yKgp yVal yTab ySpc yHal yEnt yPen (yBuf + (1 : Int32)) yHer yWrd yHas yTrp yNon yMem yR yV yPL yPN (upd yBP (Int32.toNatClampNeg yBuf) z1) (upd yBS (Int32.toNatClampNeg yBuf) ySpc) (vp_updL yBW (Int32.toNatClampNeg yBuf) z2) ySix) := hD
    subst hu
    exact W.vret hx hb hr (fun t ht hW => ⟨rfl, by rw [ht]; exact hP, hS.F ht⟩) hS.2.2 dY_keep_119
  · have hu := hu.trans (if_pos h5_1)
    refine lv_iconst (pc := 8) (v := (0 : Int32)) hx hb dY_keep_8 (by decide) ?_
    refine lv_istore (pc := 9) (lv' := [(4, .int (0 : Int32)), (0, .ref qY), (1, .int z1), (2, .long z2)]) hx hb dY_keep_9 hl (by decide) rfl (fun ls hl => ?_)
    have hB11 : ∀ (n : Nat) (k4_11 : Int32) (yBP_11 : (Nat → Int32)) (yBS_11 : (Nat → Int32)) (yBW_11 : (Nat → Int64)) (H : Heap) (locs : List Loc) (ls : Array Slot) (hq11_fu : ((3 : Int32).toInt - (k4_11).toInt).toNat < n) (hq11_i0 : 0 ≤ (k4_11).toInt) (hP : va_P (dC, dI) vwCl (wY cI cJ qY qYm qYr qYv qYl qYn qYp qYs qYw qY6 yPc yMod yLev yLoc yKsp yUsp yKgp yVal yTab ySpc yHal yEnt yPen yBuf yHer yWrd yHas yTrp yNon yMem yR yV yPL yPN yBP_11 yBS_11 yBW_11 ySix) H) (hD : va_D A (wY cI cJ qY qYm qYr qYv qYl qYn qYp qYs qYw qY6 yPc yMod yLev yLoc yKsp yUsp yKgp yVal yTab ySpc yHal yEnt yPen yBuf yHer yWrd yHas yTrp yNon yMem yR yV yPL yPN yBP_11 yBS_11 yBW_11 ySix)) (hS : va_S A s.heap H locs) (hl : lv_has ls 5 [(0, .ref qY), (1, .int z1), (2, .long z2), (4, .int k4_11)]) (u : Int32 × (Nat → Int32) × (Nat → Int32) × (Nat → Int64)) (hu : u = f_Y_keep_B11 z1 z2 ySpc yBuf n k4_11 yBP_11 yBS_11 yBW_11), W p l e { frames := 0, cells := 0, slots := 0, locals := 0 } s m ([.ref qY, .int z1, .long z2]).toArray below meth c H locs 0 0 (MQ below (qa_mod none (dC, dI) vwCl (wY cI cJ qY qYm qYr qYv qYl qYn qYp qYs qYw qY6 yPc yMod yLev yLoc yKsp yUsp yKgp yVal yTab ySpc yHal yEnt yPen u.1 yHer yWrd yHas yTrp yNon yMem yR yV yPL yPN u.2.1 u.2.2.1 u.2.2.2 ySix) A) ([.ref qY, .int z1, .long z2]).toArray s 0 0 A) (F0 m 11 ls []) := by
      intro n
      induction n with
      | zero => intro k4_11 yBP_11 yBS_11 yBW_11 H locs ls hq11_fu hq11_i0 hP hD hS hl u hu; exact absurd hq11_fu (Nat.not_lt_zero _)
      | succ n ih =>
          intro k4_11 yBP_11 yBS_11 yBW_11 H locs ls hq11_fu hq11_i0 hP hD hS hl u hu
          rw [f_Y_keep_B11_s] at hu
          refine lv_iload (pc := 11) hx hb dY_keep_11 (lv_at hl 3 rfl) ?_
          refine lv_iconst (pc := 13) (v := (3 : Int32)) hx hb dY_keep_13 (by decide) ?_
          refine lv_icmp_ge (pc := 14) (tgt := 71) hx hb dY_keep_14 (by decide) (fun h14_2 => ?_) (fun h14_2 => ?_)
          · have hu := hu.trans (if_pos h14_2)
            refine lv_aload_n (pc := 71) hx hb dY_keep_71 rfl (lv_at hl 0 rfl) ?_
            refine lv_iconst (pc := 72) (v := (3 : Int32)) hx hb dY_keep_72 (by decide) ?_
            refine va_put (D := (dC, dI)) (pc := 73) (ci := 5) (v := .int (3 : Int32)) (ty := .int) (C := "LongMachineModel") (T := TY) (N := 28) hx hb hts ui_Y tyY tyY_ok nmY hown hK hP hD hS 0 rfl rfl 18 (by decide) (hts _ gm_364) (fun _ h9 => h9) rfl (by decide +kernel) rfl rfl (Nat.le_of_ble_eq_true rfl) dY_keep_73 (fun H locs hP hD hS => ?_)
            have hP : va_P (dC, dI) vwCl (wY cI cJ qY qYm qYr qYv qYl qYn qYp qYs qYw qY6 yPc yMod yLev yLoc yKsp yUsp yKgp yVal yTab ySpc yHal yEnt yPen (3 : Int32) yHer yWrd yHas yTrp yNon yMem yR yV yPL yPN yBP_11 yBS_11 yBW_11 ySix) H := hP
            have hD : va_D A (wY cI cJ qY qYm qYr qYv qYl qYn qYp qYs qYw qY6 yPc yMod yLev yLoc yKsp yUsp yKgp yVal yTab ySpc yHal yEnt yPen (3 : Int32) yHer yWrd yHas yTrp yNon yMem yR yV yPL yPN yBP_11 yBS_11 yBW_11 ySix) := hD
            refine lv_aload_n (pc := 76) hx hb dY_keep_76 rfl (lv_at hl 0 rfl) ?_
            refine va_get (D := (dC, dI)) (pc := 77) (ci := 5) (v := .ref qYp) (C := "LongMachineModel") (T := TY) (N := 28) hx hb hts ui_Y hown hK hP 0 rfl rfl 19 (by decide) (hts _ gm_365) (fun _ h9 => h9) rfl dY_keep_77 ?_
            refine lv_aload_n (pc := 80) hx hb dY_keep_80 rfl (lv_at hl 0 rfl) ?_
            refine va_get (D := (dC, dI)) (pc := 81) (ci := 5) (v := .int (3 : Int32)) (C := "LongMachineModel") (T := TY) (N := 28) hx hb hts ui_Y hown hK hP 0 rfl rfl 18 (by decide) (hts _ gm_364) (fun _ h9 => h9) rfl dY_keep_81 ?_
            refine lv_iload_n (pc := 84) hx hb dY_keep_84 rfl (lv_at hl 1 rfl) ?_
            refine qa_iast (pc := 85) (k := 3) hx hb hK hP hD hS 6 0 rfl rfl (by decide) (by first | exact qa_in (by decide) | exact ry_ne4 hy0 hy4 h5_1) dY_keep_85 (fun H locs hP hD hS => ?_)
            have hP : va_P (dC, dI) vwCl (wY cI cJ qY qYm qYr qYv qYl qYn qYp qYs qYw qY6 yPc yMod yLev yLoc yKsp yUsp yKgp yVal yTab ySpc yHal yEnt yPen (3 : Int32) yHer yWrd yHas yTrp yNon yMem yR yV yPL yPN (upd yBP_11 3 z1) yBS_11 yBW_11 ySix) H := hP
            have hD : va_D A (wY cI cJ qY qYm qYr qYv qYl qYn qYp qYs qYw qY6 yPc yMod yLev yLoc yKsp yUsp yKgp yVal yTab ySpc yHal yEnt yPen (3 : Int32) yHer yWrd yHas yTrp yNon yMem yR yV yPL yPN (upd yBP_11 3 z1) yBS_11 yBW_11 ySix) := hD
            refine lv_aload_n (pc := 86) hx hb dY_keep_86 rfl (lv_at hl 0 rfl) ?_
            refine va_get (D := (dC, dI)) (pc := 87) (ci := 5) (v := .ref qYs) (C := "LongMachineModel") (T := TY) (N := 28) hx hb hts ui_Y hown hK hP 0 rfl rfl 20 (by decide) (hts _ gm_366) (fun _ h9 => h9) rfl dY_keep_87 ?_
            refine lv_aload_n (pc := 90) hx hb dY_keep_90 rfl (lv_at hl 0 rfl) ?_
            refine va_get (D := (dC, dI)) (pc := 91) (ci := 5) (v := .int (3 : Int32)) (C := "LongMachineModel") (T := TY) (N := 28) hx hb hts ui_Y hown hK hP 0 rfl rfl 18 (by decide) (hts _ gm_364) (fun _ h9 => h9) rfl dY_keep_91 ?_
            refine lv_aload_n (pc := 94) hx hb dY_keep_94 rfl (lv_at hl 0 rfl) ?_
            refine va_get (D := (dC, dI)) (pc := 95) (ci := 5) (v := .int ySpc) (C := "LongMachineModel") (T := TY) (N := 28) hx hb hts ui_Y hown hK hP 0 rfl rfl 11 (by decide) (hts _ gm_357) (fun _ h9 => h9) rfl dY_keep_95 ?_
            refine qa_iast (pc := 98) (k := 3) hx hb hK hP hD hS 7 0 rfl rfl (by decide) (by first | exact qa_in (by decide) | exact ry_ne4 hy0 hy4 h5_1) dY_keep_98 (fun H locs hP hD hS => ?_)
            have hP : va_P (dC, dI) vwCl (wY cI cJ qY qYm qYr qYv qYl qYn qYp qYs qYw qY6 yPc yMod yLev yLoc yKsp yUsp yKgp yVal yTab ySpc yHal yEnt yPen (3 : Int32) yHer yWrd yHas yTrp yNon yMem yR yV yPL yPN (upd yBP_11 3 z1) (upd yBS_11 3 ySpc) yBW_11 ySix) H := hP
            have hD : va_D A (wY cI cJ qY qYm qYr qYv qYl qYn qYp qYs qYw qY6 yPc yMod yLev yLoc yKsp yUsp yKgp yVal yTab ySpc yHal yEnt yPen (3 : Int32) yHer yWrd yHas yTrp yNon yMem yR yV yPL yPN (upd yBP_11 3 z1) (upd yBS_11 3 ySpc) yBW_11 ySix) := hD
            refine lv_aload_n (pc := 99) hx hb dY_keep_99 rfl (lv_at hl 0 rfl) ?_
            refine va_get (D := (dC, dI)) (pc := 100) (ci := 5) (v := .ref qYw) (C := "LongMachineModel") (T := TY) (N := 28) hx hb hts ui_Y hown hK hP 0 rfl rfl 21 (by decide) (hts _ gm_367) (fun _ h9 => h9) rfl dY_keep_100 ?_
            refine lv_aload_n (pc := 103) hx hb dY_keep_103 rfl (lv_at hl 0 rfl) ?_
            refine va_get (D := (dC, dI)) (pc := 104) (ci := 5) (v := .int (3 : Int32)) (C := "LongMachineModel") (T := TY) (N := 28) hx hb hts ui_Y hown hK hP 0 rfl rfl 18 (by decide) (hts _ gm_364) (fun _ h9 => h9) rfl dY_keep_104 ?_
            refine lv_lload_n (pc := 107) hx hb dY_keep_107 rfl (lv_at hl 2 rfl) ?_
            refine qa_last (pc := 108) (k := 3) hx hb hK hP hD hS 8 1 rfl rfl (by decide) (by first | exact qa_in (by decide) | exact ry_ne4 hy0 hy4 h5_1) dY_keep_108 (fun H locs hP hD hS => ?_)
            have hP : va_P (dC, dI) vwCl (wY cI cJ qY qYm qYr qYv qYl qYn qYp qYs qYw qY6 yPc yMod yLev yLoc yKsp yUsp yKgp yVal yTab ySpc yHal yEnt yPen (3 : Int32) yHer yWrd yHas yTrp yNon yMem yR yV yPL yPN (upd yBP_11 3 z1) (upd yBS_11 3 ySpc) (vp_updL yBW_11 3 z2) ySix) H := hP
            have hD : va_D A (wY cI cJ qY qYm qYr qYv qYl qYn qYp qYs qYw qY6 yPc yMod yLev yLoc yKsp yUsp yKgp yVal yTab ySpc yHal yEnt yPen (3 : Int32) yHer yWrd yHas yTrp yNon yMem yR yV yPL yPN (upd yBP_11 3 z1) (upd yBS_11 3 ySpc) (vp_updL yBW_11 3 z2) ySix) := hD
            refine lv_aload_n (pc := 109) hx hb dY_keep_109 rfl (lv_at hl 0 rfl) ?_
            refine lv_dup (pc := 110) hx hb dY_keep_110 rfl ?_
            refine va_get (D := (dC, dI)) (pc := 111) (ci := 5) (v := .int (3 : Int32)) (C := "LongMachineModel") (T := TY) (N := 28) hx hb hts ui_Y hown hK hP 0 rfl rfl 18 (by decide) (hts _ gm_364) (fun _ h9 => h9) rfl dY_keep_111 ?_
            refine lv_iconst (pc := 114) (v := (1 : Int32)) hx hb dY_keep_114 (by decide) ?_
            refine lv_iadd (pc := 115) hx hb dY_keep_115 ?_
            refine va_put (D := (dC, dI)) (pc := 116) (ci := 5) (v := .int ((3 : Int32) + (1 : Int32))) (ty := .int) (C := "LongMachineModel") (T := TY) (N := 28) hx hb hts ui_Y tyY tyY_ok nmY hown hK hP hD hS 0 rfl rfl 18 (by decide) (hts _ gm_364) (fun _ h9 => h9) rfl (by decide +kernel) rfl rfl (Nat.le_of_ble_eq_true rfl) dY_keep_116 (fun H locs hP hD hS => ?_)
            have hP : va_P (dC, dI) vwCl (wY cI cJ qY qYm qYr qYv qYl qYn qYp qYs qYw qY6 yPc yMod yLev yLoc yKsp yUsp yKgp yVal yTab ySpc yHal yEnt yPen ((3 : Int32) + (1 : Int32)) yHer yWrd yHas yTrp yNon yMem yR yV yPL yPN (upd yBP_11 3 z1) (upd yBS_11 3 ySpc) (vp_updL yBW_11 3 z2) ySix) H := hP
            have hD : va_D A (wY cI cJ qY qYm qYr qYv qYl qYn qYp qYs qYw qY6 yPc yMod yLev yLoc yKsp yUsp yKgp yVal yTab ySpc yHal yEnt yPen ((3 : Int32) + (1 : Int32)) yHer yWrd yHas yTrp yNon yMem yR yV yPL yPN (upd yBP_11 3 z1) (upd yBS_11 3 ySpc) (vp_updL yBW_11 3 z2) ySix) := hD
            subst hu
            exact W.vret hx hb hr (fun t ht hW => ⟨rfl, by rw [ht]; exact hP, hS.F ht⟩) hS.2.2 dY_keep_119
          · have hu := hu.trans (if_neg h14_2)
            refine lv_aload_n (pc := 17) hx hb dY_keep_17 rfl (lv_at hl 0 rfl) ?_
            refine va_get (D := (dC, dI)) (pc := 18) (ci := 5) (v := .ref qYp) (C := "LongMachineModel") (T := TY) (N := 28) hx hb hts ui_Y hown hK hP 0 rfl rfl 19 (by decide) (hts _ gm_365) (fun _ h9 => h9) rfl dY_keep_18 ?_
            refine lv_iload (pc := 21) hx hb dY_keep_21 (lv_at hl 3 rfl) ?_
            refine lv_aload_n (pc := 23) hx hb dY_keep_23 rfl (lv_at hl 0 rfl) ?_
            refine va_get (D := (dC, dI)) (pc := 24) (ci := 5) (v := .ref qYp) (C := "LongMachineModel") (T := TY) (N := 28) hx hb hts ui_Y hown hK hP 0 rfl rfl 19 (by decide) (hts _ gm_365) (fun _ h9 => h9) rfl dY_keep_24 ?_
            refine lv_iload (pc := 27) hx hb dY_keep_27 (lv_at hl 3 rfl) ?_
            refine lv_iconst (pc := 29) (v := (1 : Int32)) hx hb dY_keep_29 (by decide) ?_
            refine lv_iadd (pc := 30) hx hb dY_keep_30 ?_
            refine qa_iald (pc := 31) (k := (Int32.toNatClampNeg (k4_11 + (1 : Int32)))) hx hb hK hP 6 0 rfl rfl rfl (ry_k1 hq11_i0 h14_2) dY_keep_31 ?_
            refine qa_iast (pc := 32) (k := (Int32.toNatClampNeg k4_11)) hx hb hK hP hD hS 6 0 rfl rfl rfl (rg_b hq11_i0 h14_2 (by decide)) dY_keep_32 (fun H locs hP hD hS => ?_)
            have hP : va_P (dC, dI) vwCl (wY cI cJ qY qYm qYr qYv qYl qYn qYp qYs qYw qY6 yPc yMod yLev yLoc yKsp yUsp yKgp yVal yTab ySpc yHal yEnt yPen yBuf yHer yWrd yHas yTrp yNon yMem yR yV yPL yPN (upd yBP_11 (Int32.toNatClampNeg k4_11) (yBP_11 (Int32.toNatClampNeg (k4_11 + (1 : Int32))))) yBS_11 yBW_11 ySix) H := hP
            have hD : va_D A (wY cI cJ qY qYm qYr qYv qYl qYn qYp qYs qYw qY6 yPc yMod yLev yLoc yKsp yUsp yKgp yVal yTab ySpc yHal yEnt yPen yBuf yHer yWrd yHas yTrp yNon yMem yR yV yPL yPN (upd yBP_11 (Int32.toNatClampNeg k4_11) (yBP_11 (Int32.toNatClampNeg (k4_11 + (1 : Int32))))) yBS_11 yBW_11 ySix) := hD
            refine lv_aload_n (pc := 33) hx hb dY_keep_33 rfl (lv_at hl 0 rfl) ?_
            refine va_get (D := (dC, dI)) (pc := 34) (ci := 5) (v := .ref qYs) (C := "LongMachineModel") (T := TY) (N := 28) hx hb hts ui_Y hown hK hP 0 rfl rfl 20 (by decide) (hts _ gm_366) (fun _ h9 => h9) rfl dY_keep_34 ?_
            refine lv_iload (pc := 37) hx hb dY_keep_37 (lv_at hl 3 rfl) ?_
            refine lv_aload_n (pc := 39) hx hb dY_keep_39 rfl (lv_at hl 0 rfl) ?_
            refine va_get (D := (dC, dI)) (pc := 40) (ci := 5) (v := .ref qYs) (C := "LongMachineModel") (T := TY) (N := 28) hx hb hts ui_Y hown hK hP 0 rfl rfl 20 (by decide) (hts _ gm_366) (fun _ h9 => h9) rfl dY_keep_40 ?_
            refine lv_iload (pc := 43) hx hb dY_keep_43 (lv_at hl 3 rfl) ?_
            refine lv_iconst (pc := 45) (v := (1 : Int32)) hx hb dY_keep_45 (by decide) ?_
            refine lv_iadd (pc := 46) hx hb dY_keep_46 ?_
            refine qa_iald (pc := 47) (k := (Int32.toNatClampNeg (k4_11 + (1 : Int32)))) hx hb hK hP 7 0 rfl rfl rfl (ry_k1 hq11_i0 h14_2) dY_keep_47 ?_
            refine qa_iast (pc := 48) (k := (Int32.toNatClampNeg k4_11)) hx hb hK hP hD hS 7 0 rfl rfl rfl (rg_b hq11_i0 h14_2 (by decide)) dY_keep_48 (fun H locs hP hD hS => ?_)
            have hP : va_P (dC, dI) vwCl (wY cI cJ qY qYm qYr qYv qYl qYn qYp qYs qYw qY6 yPc yMod yLev yLoc yKsp yUsp yKgp yVal yTab ySpc yHal yEnt yPen yBuf yHer yWrd yHas yTrp yNon yMem yR yV yPL yPN (upd yBP_11 (Int32.toNatClampNeg k4_11) (yBP_11 (Int32.toNatClampNeg (k4_11 + (1 : Int32))))) (upd yBS_11 (Int32.toNatClampNeg k4_11) (yBS_11 (Int32.toNatClampNeg (k4_11 + (1 : Int32))))) yBW_11 ySix) H := hP
            have hD : va_D A (wY cI cJ qY qYm qYr qYv qYl qYn qYp qYs qYw qY6 yPc yMod yLev yLoc yKsp yUsp yKgp yVal yTab ySpc yHal yEnt yPen yBuf yHer yWrd yHas yTrp yNon yMem yR yV yPL yPN (upd yBP_11 (Int32.toNatClampNeg k4_11) (yBP_11 (Int32.toNatClampNeg (k4_11 + (1 : Int32))))) (upd yBS_11 (Int32.toNatClampNeg k4_11) (yBS_11 (Int32.toNatClampNeg (k4_11 + (1 : Int32))))) yBW_11 ySix) := hD
            refine lv_aload_n (pc := 49) hx hb dY_keep_49 rfl (lv_at hl 0 rfl) ?_
            refine va_get (D := (dC, dI)) (pc := 50) (ci := 5) (v := .ref qYw) (C := "LongMachineModel") (T := TY) (N := 28) hx hb hts ui_Y hown hK hP 0 rfl rfl 21 (by decide) (hts _ gm_367) (fun _ h9 => h9) rfl dY_keep_50 ?_
            refine lv_iload (pc := 53) hx hb dY_keep_53 (lv_at hl 3 rfl) ?_
            refine lv_aload_n (pc := 55) hx hb dY_keep_55 rfl (lv_at hl 0 rfl) ?_
            refine va_get (D := (dC, dI)) (pc := 56) (ci := 5) (v := .ref qYw) (C := "LongMachineModel") (T := TY) (N := 28) hx hb hts ui_Y hown hK hP 0 rfl rfl 21 (by decide) (hts _ gm_367) (fun _ h9 => h9) rfl dY_keep_56 ?_
            refine lv_iload (pc := 59) hx hb dY_keep_59 (lv_at hl 3 rfl) ?_
            refine lv_iconst (pc := 61) (v := (1 : Int32)) hx hb dY_keep_61 (by decide) ?_
            refine lv_iadd (pc := 62) hx hb dY_keep_62 ?_
            refine qa_lald (pc := 63) (k := (Int32.toNatClampNeg (k4_11 + (1 : Int32)))) hx hb hK hP 8 1 rfl rfl rfl (ry_k1 hq11_i0 h14_2) dY_keep_63 ?_
            refine qa_last (pc := 64) (k := (Int32.toNatClampNeg k4_11)) hx hb hK hP hD hS 8 1 rfl rfl rfl (rg_b hq11_i0 h14_2 (by decide)) dY_keep_64 (fun H locs hP hD hS => ?_)
            have hP : va_P (dC, dI) vwCl (wY cI cJ qY qYm qYr qYv qYl qYn qYp qYs qYw qY6 yPc yMod yLev yLoc yKsp yUsp yKgp yVal yTab ySpc yHal yEnt yPen yBuf yHer yWrd yHas yTrp yNon yMem yR yV yPL yPN (upd yBP_11 (Int32.toNatClampNeg k4_11) (yBP_11 (Int32.toNatClampNeg (k4_11 + (1 : Int32))))) (upd yBS_11 (Int32.toNatClampNeg k4_11) (yBS_11 (Int32.toNatClampNeg (k4_11 + (1 : Int32))))) (vp_updL yBW_11 (Int32.toNatClampNeg k4_11) (yBW_11 (Int32.toNatClampNeg (k4_11 + (1 : Int32))))) ySix) H := hP
            have hD : va_D A (wY cI cJ qY qYm qYr qYv qYl qYn qYp qYs qYw qY6 yPc yMod yLev yLoc yKsp yUsp yKgp yVal yTab ySpc yHal yEnt yPen yBuf yHer yWrd yHas yTrp yNon yMem yR yV yPL yPN (upd yBP_11 (Int32.toNatClampNeg k4_11) (yBP_11 (Int32.toNatClampNeg (k4_11 + (1 : Int32))))) (upd yBS_11 (Int32.toNatClampNeg k4_11) (yBS_11 (Int32.toNatClampNeg (k4_11 + (1 : Int32))))) (vp_updL yBW_11 (Int32.toNatClampNeg k4_11) (yBW_11 (Int32.toNatClampNeg (k4_11 + (1 : Int32))))) ySix) := hD
            refine lv_iinc (pc := 65) (k := 3) (lv' := [(4, .int (k4_11 + (1 : Int32))), (0, .ref qY), (1, .int z1), (2, .long z2)]) hx hb dY_keep_65 hl rfl (qa_inc (by decide) k4_11) (by decide) rfl (fun ls hl => ?_)
            refine lv_goto (pc := 68) (tgt := 11) hx hb dY_keep_68 (by decide) ?_
            exact ih (k4_11 + (1 : Int32)) (upd yBP_11 (Int32.toNatClampNeg k4_11) (yBP_11 (Int32.toNatClampNeg (k4_11 + (1 : Int32))))) (upd yBS_11 (Int32.toNatClampNeg k4_11) (yBS_11 (Int32.toNatClampNeg (k4_11 + (1 : Int32))))) (vp_updL yBW_11 (Int32.toNatClampNeg k4_11) (yBW_11 (Int32.toNatClampNeg (k4_11 + (1 : Int32))))) _ _ _ (rg_fs h14_2 hq11_fu) (rg_i0 h14_2 hq11_i0) hP hD hS (lv_sub hl [1, 2, 3, 0] rfl) u hu
    exact hB11 4 (0 : Int32) yBP yBS yBW _ _ _ (by decide) (rg_z) hP hD hS (lv_sub hl [1, 2, 3, 0] rfl) u hu
set_option maxRecDepth 100000 in
set_option maxHeartbeats 4000000 in
theorem c_Y_number (l : Launch) (z0 : Int64) : Met l yY_number (.code yY_number cY_number 2 (some .int) :: vG) ({ frames := 0, cells := 0, slots := 0, locals := 0 }) (va_Pc [.long z0] (fun _ => True)) (qa_det (.int (Int64.toInt32 ((jlshr z0 (32 : Int32)) &&& (15 : Int64))))) 0 0 (fun _ => False) := by
  refine Met.ofW (cc := cY_number) (maxL := 2) (ret := (some .int)) (by decide) rfl ?_
  intro p e s m args below meth c s₁ B hml hv
  obtain ⟨rfl, hv⟩ := hv
  have hx := B.exec
  have hb := B.bytes
  have hr := B.returns
  have hts : ∀ w ∈ vG, w.before _ s = true := fun w h => atoms_spec (ws := (.code yY_number cY_number 2 (some .int) :: vG)) B.pre w (List.mem_cons_of_mem _ h)
  have hown : s.vm.findClass "LongMachineModel" = some m.cls := findClass_of_methodNamed B.named
  have hlocks := B.notSynchronized
  have hl := lv_entry ([.long z0]) (n := 2) (Nat.le_of_ble_eq_true rfl)
  rw [lg_entry_eq]
  generalize (lg_sl ([.long z0]) ++ List.replicate (2 - (lg_sl ([.long z0])).length) Slot.unset).toArray = ls at hl ⊢
  have hl : lv_has ls 2 [(0, .long z0)] := hl
  refine lv_lload_n (pc := 0) hx hb dY_number_0 rfl (lv_at hl 0 rfl) ?_
  refine lv_bipush (pc := 1) (v := (32 : Int32)) hx hb dY_number_1 (by decide) ?_
  refine lv_lshr (pc := 3) (v := (jlshr z0 (32 : Int32))) hx hb dY_number_3 rfl ?_
  refine lv_ldc2 (pc := 4) (v := (15 : Int64)) hx hb hown (hts _ gm_441) dY_number_4 ?_
  refine lv_land (pc := 7) hx hb dY_number_7 ?_
  refine lv_l2i (pc := 8) (v := (Int64.toInt32 ((jlshr z0 (32 : Int32)) &&& (15 : Int64)))) hx hb dY_number_8 rfl ?_
  exact W.iret hx hb hr (fun t ht hW => ⟨rfl, ht⟩) (fun _ h => by cases h) dY_number_9
def f_Y_walk_B7 (z1 : Int32) (ySpc : Int32) (yBuf : Int32) (yMem : (Nat → Int32)) (yBP : (Nat → Int32)) (yBS : (Nat → Int32)) (yBW : (Nat → Int64)) : Nat → Int32 → Int32 → Int64 × Int32 × (Nat → Int32) × (Nat → Int32) × (Nat → Int64)
  | 0, k2_7, k3_7 => ((0 : Int64), yBuf, yBP, yBS, yBW)
  | n + 1, k2_7, k3_7 => (if (2 : Int32) ≤ k3_7 then (if ((f_Y_bytes (k2_7 + ((8 : Int32) * (z1 &&& (3 : Int32)))) (8 : Int32) yMem) &&& (1 : Int64)) = (0 : Int64) then ((f_Y_bytes (k2_7 + ((8 : Int32) * (z1 &&& (3 : Int32)))) (8 : Int32) yMem), yBuf, yBP, yBS, yBW) else ((fun (r89_1 : Int32 × (Nat → Int32) × (Nat → Int32) × (Nat → Int64)) => ((f_Y_bytes (k2_7 + ((8 : Int32) * (z1 &&& (3 : Int32)))) (8 : Int32) yMem), r89_1.1, r89_1.2.1, r89_1.2.2.1, r89_1.2.2.2)) (f_Y_keep z1 (f_Y_bytes (k2_7 + ((8 : Int32) * (z1 &&& (3 : Int32)))) (8 : Int32) yMem) ySpc yBuf yBP yBS yBW))) else (if ((f_Y_bytes (k2_7 + ((8 : Int32) * ((z1 >>> (((4 : Int32) - ((2 : Int32) * k3_7)) &&& (31 : Int32))) &&& (3 : Int32)))) (8 : Int32) yMem) &&& (1 : Int64)) = (0 : Int64) then ((240 : Int64), yBuf, yBP, yBS, yBW) else (f_Y_walk_B7 z1 ySpc yBuf yMem yBP yBS yBW n ((256 : Int32) * (Int64.toInt32 ((jlshr (f_Y_bytes (k2_7 + ((8 : Int32) * ((z1 >>> (((4 : Int32) - ((2 : Int32) * k3_7)) &&& (31 : Int32))) &&& (3 : Int32)))) (8 : Int32) yMem) (32 : Int32)) &&& (15 : Int64)))) (k3_7 + (1 : Int32)))))
theorem f_Y_walk_B7_s (z1 : Int32) (ySpc : Int32) (yBuf : Int32) (yMem : (Nat → Int32)) (yBP : (Nat → Int32)) (yBS : (Nat → Int32)) (yBW : (Nat → Int64)) (n : Nat) (k2_7 : Int32) (k3_7 : Int32) : f_Y_walk_B7 z1 ySpc yBuf yMem yBP yBS yBW (n + 1) k2_7 k3_7 = (if (2 : Int32) ≤ k3_7 then (if ((f_Y_bytes (k2_7 + ((8 : Int32) * (z1 &&& (3 : Int32)))) (8 : Int32) yMem) &&& (1 : Int64)) = (0 : Int64) then ((f_Y_bytes (k2_7 + ((8 : Int32) * (z1 &&& (3 : Int32)))) (8 : Int32) yMem), yBuf, yBP, yBS, yBW) else ((fun (r89_1 : Int32 × (Nat → Int32) × (Nat → Int32) × (Nat → Int64)) => ((f_Y_bytes (k2_7 + ((8 : Int32) * (z1 &&& (3 : Int32)))) (8 : Int32) yMem), r89_1.1, r89_1.2.1, r89_1.2.2.1, r89_1.2.2.2)) (f_Y_keep z1 (f_Y_bytes (k2_7 + ((8 : Int32) * (z1 &&& (3 : Int32)))) (8 : Int32) yMem) ySpc yBuf yBP yBS yBW))) else (if ((f_Y_bytes (k2_7 + ((8 : Int32) * ((z1 >>> (((4 : Int32) - ((2 : Int32) * k3_7)) &&& (31 : Int32))) &&& (3 : Int32)))) (8 : Int32) yMem) &&& (1 : Int64)) = (0 : Int64) then ((240 : Int64), yBuf, yBP, yBS, yBW) else (f_Y_walk_B7 z1 ySpc yBuf yMem yBP yBS yBW n ((256 : Int32) * (Int64.toInt32 ((jlshr (f_Y_bytes (k2_7 + ((8 : Int32) * ((z1 >>> (((4 : Int32) - ((2 : Int32) * k3_7)) &&& (31 : Int32))) &&& (3 : Int32)))) (8 : Int32) yMem) (32 : Int32)) &&& (15 : Int64)))) (k3_7 + (1 : Int32))))) := rfl
def f_Y_walk (z1 : Int32) (yTab : Int32) (ySpc : Int32) (yBuf : Int32) (yMem : (Nat → Int32)) (yBP : (Nat → Int32)) (yBS : (Nat → Int32)) (yBW : (Nat → Int64)) : Int64 × Int32 × (Nat → Int32) × (Nat → Int32) × (Nat → Int64) := (f_Y_walk_B7 z1 ySpc yBuf yMem yBP yBS yBW 3 yTab (0 : Int32))
set_option maxRecDepth 100000 in
set_option maxHeartbeats 4000000 in
theorem c_Y_walk (l : Launch) (dC : Nat → ClassId) (dI : Nat → Nat → Nat) (cI cJ : ClassId) (qY qYm qYr qYv qYl qYn qYp qYs qYw qY6 : Nat) (sz : Nat) (yPc : Int64) (yMod : Int32) (yLev : Int32) (yLoc : Int32) (yKsp : Int64) (yUsp : Int64) (yKgp : Int64) (yVal : Int64) (yTab : Int32) (ySpc : Int32) (yHal : Int32) (yEnt : Int32) (yPen : Int32) (yBuf : Int32) (yHer : Int64) (yWrd : Int32) (yHas : Int32) (yTrp : Int32) (yNon : Int32) (yMem : (Nat → Int32)) (yR : (Nat → Int64)) (yV : (Nat → Int64)) (yPL : (Nat → Int32)) (yPN : (Nat → Int32)) (yBP : (Nat → Int32)) (yBS : (Nat → Int32)) (yBW : (Nat → Int64)) (ySix : (Nat → Int64)) (z1 : Int32) (hy0 : 0 ≤ yBuf.toInt) (hy4 : yBuf.toInt ≤ 4) (ht0 : 0 ≤ yTab.toInt) (ht1 : yTab.toInt ≤ 4064) : Met l yY_walk (.code yY_walk cY_walk 6 (some .long) :: vG) ({ frames := 1, cells := 0, slots := 0, locals := 25 }) (va_Pc [.ref qY, .int z1] (qa_pre (dC, dI) vwCl (wY cI cJ qY qYm qYr qYv qYl qYn qYp qYs qYw qY6 yPc yMod yLev yLoc yKsp yUsp yKgp yVal yTab ySpc yHal yEnt yPen yBuf yHer yWrd yHas yTrp yNon yMem yR yV yPL yPN yBP yBS yBW ySix) [(cI, .int), (cJ, .long)] sz)) (qa_mod (some (.long ((f_Y_walk z1 yTab ySpc yBuf yMem yBP yBS yBW).1))) (dC, dI) vwCl (wY cI cJ qY qYm qYr qYv qYl qYn qYp qYs qYw qY6 yPc yMod yLev yLoc yKsp yUsp yKgp yVal yTab ySpc yHal yEnt yPen ((f_Y_walk z1 yTab ySpc yBuf yMem yBP yBS yBW).2.1) yHer yWrd yHas yTrp yNon yMem yR yV yPL yPN ((f_Y_walk z1 yTab ySpc yBuf yMem yBP yBS yBW).2.2.1) ((f_Y_walk z1 yTab ySpc yBuf yMem yBP yBS yBW).2.2.2.1) ((f_Y_walk z1 yTab ySpc yBuf yMem yBP yBS yBW).2.2.2.2) ySix) (va_A (wY cI cJ qY qYm qYr qYv qYl qYn qYp qYs qYw qY6 yPc yMod yLev yLoc yKsp yUsp yKgp yVal yTab ySpc yHal yEnt yPen yBuf yHer yWrd yHas yTrp yNon yMem yR yV yPL yPN yBP yBS yBW ySix) sz)) 0 0 (va_A (wY cI cJ qY qYm qYr qYv qYl qYn qYp qYs qYw qY6 yPc yMod yLev yLoc yKsp yUsp yKgp yVal yTab ySpc yHal yEnt yPen yBuf yHer yWrd yHas yTrp yNon yMem yR yV yPL yPN yBP yBS yBW ySix) sz) := by
  refine Met.ofW (cc := cY_walk) (maxL := 6) (ret := (some .long)) (by decide) rfl ?_
  intro p e s m args below meth c s₁ B hml hv
  obtain ⟨rfl, hsz, hP, hK, hD0⟩ := hv
  have hx := B.exec
  have hb := B.bytes
  have hr := B.returns
  have hts : ∀ w ∈ vG, w.before _ s = true := fun w h => atoms_spec (ws := (.code yY_walk cY_walk 6 (some .long) :: vG)) B.pre w (List.mem_cons_of_mem _ h)
  have hown : s.vm.findClass "LongMachineModel" = some m.cls := findClass_of_methodNamed B.named
  have hlocks := B.notSynchronized
  subst hsz
  have hD := hD0.self (sz := s.heap.size)
  generalize hAe : va_A (wY cI cJ qY qYm qYr qYv qYl qYn qYp qYs qYw qY6 yPc yMod yLev yLoc yKsp yUsp yKgp yVal yTab ySpc yHal yEnt yPen yBuf yHer yWrd yHas yTrp yNon yMem yR yV yPL yPN yBP yBS yBW ySix) s.heap.size = A at hD ⊢
  have hA : ∀ q : Nat, s.heap.size ≤ q → A q := fun q h => by rw [← hAe]; exact Or.inr h
  have hS : va_S A s.heap s.heap [] := va_S.rf
  have hl := lv_entry ([.ref qY, .int z1]) (n := 6) (Nat.le_of_ble_eq_true rfl)
  rw [lg_entry_eq]
  generalize (lg_sl ([.ref qY, .int z1]) ++ List.replicate (6 - (lg_sl ([.ref qY, .int z1])).length) Slot.unset).toArray = ls at hl ⊢
  have hl : lv_has ls 6 [(0, .ref qY), (1, .int z1)] := hl
  obtain ⟨u, hu⟩ : ∃ u, u = f_Y_walk z1 yTab ySpc yBuf yMem yBP yBS yBW := ⟨_, rfl⟩
  rw [← hu]
  unfold f_Y_walk at hu
  refine lv_aload_n (pc := 0) hx hb dY_walk_0 rfl (lv_at hl 0 rfl) ?_
  refine va_get (D := (dC, dI)) (pc := 1) (ci := 5) (v := .int yTab) (C := "LongMachineModel") (T := TY) (N := 28) hx hb hts ui_Y hown hK hP 0 rfl rfl 10 (by decide) (hts _ gm_356) (fun _ h9 => h9) rfl dY_walk_1 ?_
  refine lv_istore_n (pc := 4) (lv' := [(2, .int yTab), (0, .ref qY), (1, .int z1)]) hx hb dY_walk_4 rfl hl (by decide) rfl (fun ls hl => ?_)
  refine lv_iconst (pc := 5) (v := (0 : Int32)) hx hb dY_walk_5 (by decide) ?_
  refine lv_istore_n (pc := 6) (lv' := [(3, .int (0 : Int32)), (2, .int yTab), (0, .ref qY), (1, .int z1)]) hx hb dY_walk_6 rfl hl (by decide) rfl (fun ls hl => ?_)
  have hB7 : ∀ (n : Nat) (k2_7 : Int32) (k3_7 : Int32) (H : Heap) (locs : List Loc) (ls : Array Slot) (hq7_fu : ((2 : Int32).toInt - (k3_7).toInt).toNat < n) (hq7_a0 : 0 ≤ (k2_7).toInt) (hq7_a1 : (k2_7).toInt ≤ 4064) (hP : va_P (dC, dI) vwCl (wY cI cJ qY qYm qYr qYv qYl qYn qYp qYs qYw qY6 yPc yMod yLev yLoc yKsp yUsp yKgp yVal yTab ySpc yHal yEnt yPen yBuf yHer yWrd yHas yTrp yNon yMem yR yV yPL yPN yBP yBS yBW ySix) H) (hD : va_D A (wY cI cJ qY qYm qYr qYv qYl qYn qYp qYs qYw qY6 yPc yMod yLev yLoc yKsp yUsp yKgp yVal yTab ySpc yHal yEnt yPen yBuf yHer yWrd yHas yTrp yNon yMem yR yV yPL yPN yBP yBS yBW ySix)) (hS : va_S A s.heap H locs) (hl : lv_has ls 6 [(0, .ref qY), (1, .int z1), (2, .int k2_7), (3, .int k3_7)]) (u : Int64 × Int32 × (Nat → Int32) × (Nat → Int32) × (Nat → Int64)) (hu : u = f_Y_walk_B7 z1 ySpc yBuf yMem yBP yBS yBW n k2_7 k3_7), W p l e { frames := 1, cells := 0, slots := 0, locals := 25 } s m ([.ref qY, .int z1]).toArray below meth c H locs 0 0 (MQ below (qa_mod (some (.long u.1)) (dC, dI) vwCl (wY cI cJ qY qYm qYr qYv qYl qYn qYp qYs qYw qY6 yPc yMod yLev yLoc yKsp yUsp yKgp yVal yTab ySpc yHal yEnt yPen u.2.1 yHer yWrd yHas yTrp yNon yMem yR yV yPL yPN u.2.2.1 u.2.2.2.1 u.2.2.2.2 ySix) A) ([.ref qY, .int z1]).toArray s 0 0 A) (F0 m 7 ls []) := by
    intro n
    induction n with
    | zero => intro k2_7 k3_7 H locs ls hq7_fu hq7_a0 hq7_a1 hP hD hS hl u hu; exact absurd hq7_fu (Nat.not_lt_zero _)
    | succ n ih =>
        intro k2_7 k3_7 H locs ls hq7_fu hq7_a0 hq7_a1 hP hD hS hl u hu
        rw [f_Y_walk_B7_s] at hu
        refine lv_iload_n (pc := 7) hx hb dY_walk_7 rfl (lv_at hl 3 rfl) ?_
        refine lv_iconst (pc := 8) (v := (2 : Int32)) hx hb dY_walk_8 (by decide) ?_
        refine lv_icmp_ge (pc := 9) (tgt := 63) hx hb dY_walk_9 (by decide) (fun h9_1 => ?_) (fun h9_1 => ?_)
        · have hu := hu.trans (if_pos h9_1)
          refine lv_aload_n (pc := 63) hx hb dY_walk_63 rfl (lv_at hl 0 rfl) ?_
          refine lv_iload_n (pc := 64) hx hb dY_walk_64 rfl (lv_at hl 2 rfl) ?_
          refine lv_bipush (pc := 65) (v := (8 : Int32)) hx hb dY_walk_65 (by decide) ?_
          refine lv_iload_n (pc := 67) hx hb dY_walk_67 rfl (lv_at hl 1 rfl) ?_
          refine lv_iconst (pc := 68) (v := (3 : Int32)) hx hb dY_walk_68 (by decide) ?_
          refine lv_iand (pc := 69) hx hb dY_walk_69 ?_
          refine lv_imul (pc := 70) hx hb dY_walk_70 ?_
          refine lv_iadd (pc := 71) hx hb dY_walk_71 ?_
          refine lv_bipush (pc := 72) (v := (8 : Int32)) hx hb dY_walk_72 (by decide) ?_
          refine qa_calld (pc := 74) (v := .long (f_Y_bytes (k2_7 + ((8 : Int32) * (z1 &&& (3 : Int32)))) (8 : Int32) yMem)) (va_runV (As := [.int (k2_7 + ((8 : Int32) * (z1 &&& (3 : Int32)))), .int (8 : Int32)]) (rest := []) ⟨hx, hb, hml, hown, hts⟩ (c_Y_bytes l dC dI cI cJ qY qYm qYr qYv qYl qYn qYp qYs qYw qY6 yPc yMod yLev yLoc yKsp yUsp yKgp yVal yTab ySpc yHal yEnt yPen yBuf yHer yWrd yHas yTrp yNon yMem yR yV yPL yPN yBP yBS yBW ySix (k2_7 + ((8 : Int32) * (z1 &&& (3 : Int32)))) (8 : Int32) ((ry_w hq7_a0 hq7_a1 _).1) ((ry_w hq7_a0 hq7_a1 _).2) (by decide) (by decide)) (cwV 2 hts (gd_V gm_436 gm_434 gm_435 gm_583 gm_6) rfl rfl rfl (by decide +kernel) ⟨Nat.le_of_ble_eq_true rfl, Nat.le_of_ble_eq_true rfl⟩) (qa_VR (q0 := 0) (q := ("LongMachineModel", TY, 28)) hK hP rfl rfl hP) rfl rfl hl.1 rfl (lv_room (Nat.le_of_ble_eq_true rfl)) dY_walk_74 ⟨Nat.zero_le _, Nat.zero_le _⟩) ?_
          refine lv_lstore_n (pc := 77) (lv' := [(3, .long (f_Y_bytes (k2_7 + ((8 : Int32) * (z1 &&& (3 : Int32)))) (8 : Int32) yMem)), (0, .ref qY), (1, .int z1), (2, .int k2_7)]) hx hb dY_walk_77 rfl hl (by decide) rfl (fun ls hl => ?_)
          refine lv_lload_n (pc := 78) hx hb dY_walk_78 rfl (lv_at hl 0 rfl) ?_
          refine lv_lconst (pc := 79) (v := (1 : Int64)) hx hb dY_walk_79 (by decide) ?_
          refine lv_land (pc := 80) hx hb dY_walk_80 ?_
          refine lv_lconst (pc := 81) (v := (0 : Int64)) hx hb dY_walk_81 (by decide) ?_
          refine qa_lc_eq (pc := 82) (tgt := 92) hx hb dY_walk_82 dY_walk_83 (by decide) (fun h82_2 => ?_) (fun h82_2 => ?_)
          · have hu := hu.trans (if_pos h82_2)
            refine lv_lload_n (pc := 92) hx hb dY_walk_92 rfl (lv_at hl 0 rfl) ?_
            subst hu
            exact W.lret hx hb hr (fun t ht hW => ⟨rfl, by rw [ht]; exact hP, hS.F ht⟩) hS.2.2 dY_walk_93
          · have hu := hu.trans (if_neg h82_2)
            refine lv_aload_n (pc := 86) hx hb dY_walk_86 rfl (lv_at hl 1 rfl) ?_
            refine lv_iload_n (pc := 87) hx hb dY_walk_87 rfl (lv_at hl 2 rfl) ?_
            refine lv_lload_n (pc := 88) hx hb dY_walk_88 rfl (lv_at hl 0 rfl) ?_
            have hc := c_Y_keep l dC dI cI cJ qY qYm qYr qYv qYl qYn qYp qYs qYw qY6 H.size yPc yMod yLev yLoc yKsp yUsp yKgp yVal yTab ySpc yHal yEnt yPen yBuf yHer yWrd yHas yTrp yNon yMem yR yV yPL yPN yBP yBS yBW ySix z1 (f_Y_bytes (k2_7 + ((8 : Int32) * (z1 &&& (3 : Int32)))) (8 : Int32) yMem) (hy0) (hy4)
            generalize er89_1 : f_Y_keep z1 (f_Y_bytes (k2_7 + ((8 : Int32) * (z1 &&& (3 : Int32)))) (8 : Int32) yMem) ySpc yBuf yBP yBS yBW = r89_1 at hu hc
            have hu : u = ((f_Y_bytes (k2_7 + ((8 : Int32) * (z1 &&& (3 : Int32)))) (8 : Int32) yMem), r89_1.1, r89_1.2.1, r89_1.2.2.1, r89_1.2.2.2) := hu
            refine qa_callv (pc := 89) (wr := []) (wf := (wY cI cJ qY qYm qYr qYv qYl qYn qYp qYs qYw qY6 yPc yMod yLev yLoc yKsp yUsp yKgp yVal yTab ySpc yHal yEnt yPen r89_1.1 yHer yWrd yHas yTrp yNon yMem yR yV yPL yPN r89_1.2.1 r89_1.2.2.1 r89_1.2.2.2 ySix)) (va_runV (As := [.int z1, .long (f_Y_bytes (k2_7 + ((8 : Int32) * (z1 &&& (3 : Int32)))) (8 : Int32) yMem)]) (rest := []) ⟨hx, hb, hml, hown, hts⟩ hc (cwV 2 hts (gd_V gm_444 gm_442 gm_443 gm_584 gm_6) rfl rfl rfl (by decide +kernel) ⟨Nat.le_of_ble_eq_true rfl, Nat.le_of_ble_eq_true rfl⟩) (qa_VM (q0 := 0) (q := ("LongMachineModel", TY, 28)) hK hP rfl rfl hP hD) rfl rfl hl.1 rfl (lv_room (Nat.le_of_ble_eq_true rfl)) dY_walk_89 ⟨Nat.zero_le _, Nat.zero_le _⟩) hP hD hS hA [0, 1, 2, 3, 4, 5, 6, 7, 8, 9] [] [0, 1, 2, 3, 4, 5, 6, 7, 8, 9] rfl (by decide) rfl (by decide) (by decide) rfl rfl (by decide) (fun H locs hP hD hS => ?_)
            refine lv_lload_n (pc := 92) hx hb dY_walk_92 rfl (lv_at hl 0 rfl) ?_
            subst hu
            exact W.lret hx hb hr (fun t ht hW => ⟨rfl, by rw [ht]; exact hP, hS.F ht⟩) hS.2.2 dY_walk_93
        · have hu := hu.trans (if_neg h9_1)
          refine lv_aload_n (pc := 12) hx hb dY_walk_12 rfl (lv_at hl 0 rfl) ?_
          refine lv_iload_n (pc := 13) hx hb dY_walk_13 rfl (lv_at hl 2 rfl) ?_
          refine lv_bipush (pc := 14) (v := (8 : Int32)) hx hb dY_walk_14 (by decide) ?_
          refine lv_iload_n (pc := 16) hx hb dY_walk_16 rfl (lv_at hl 1 rfl) ?_
          refine lv_iconst (pc := 17) (v := (4 : Int32)) hx hb dY_walk_17 (by decide) ?_
          refine lv_iconst (pc := 18) (v := (2 : Int32)) hx hb dY_walk_18 (by decide) ?_
          refine lv_iload_n (pc := 19) hx hb dY_walk_19 rfl (lv_at hl 3 rfl) ?_
          refine lv_imul (pc := 20) hx hb dY_walk_20 ?_
          refine lv_isub (pc := 21) hx hb dY_walk_21 ?_
          refine lv_ishr (pc := 22) hx hb dY_walk_22 ?_
          refine lv_iconst (pc := 23) (v := (3 : Int32)) hx hb dY_walk_23 (by decide) ?_
          refine lv_iand (pc := 24) hx hb dY_walk_24 ?_
          refine lv_imul (pc := 25) hx hb dY_walk_25 ?_
          refine lv_iadd (pc := 26) hx hb dY_walk_26 ?_
          refine lv_bipush (pc := 27) (v := (8 : Int32)) hx hb dY_walk_27 (by decide) ?_
          refine qa_calld (pc := 29) (v := .long (f_Y_bytes (k2_7 + ((8 : Int32) * ((z1 >>> (((4 : Int32) - ((2 : Int32) * k3_7)) &&& (31 : Int32))) &&& (3 : Int32)))) (8 : Int32) yMem)) (va_runV (As := [.int (k2_7 + ((8 : Int32) * ((z1 >>> (((4 : Int32) - ((2 : Int32) * k3_7)) &&& (31 : Int32))) &&& (3 : Int32)))), .int (8 : Int32)]) (rest := []) ⟨hx, hb, hml, hown, hts⟩ (c_Y_bytes l dC dI cI cJ qY qYm qYr qYv qYl qYn qYp qYs qYw qY6 yPc yMod yLev yLoc yKsp yUsp yKgp yVal yTab ySpc yHal yEnt yPen yBuf yHer yWrd yHas yTrp yNon yMem yR yV yPL yPN yBP yBS yBW ySix (k2_7 + ((8 : Int32) * ((z1 >>> (((4 : Int32) - ((2 : Int32) * k3_7)) &&& (31 : Int32))) &&& (3 : Int32)))) (8 : Int32) ((ry_w hq7_a0 hq7_a1 _).1) ((ry_w hq7_a0 hq7_a1 _).2) (by decide) (by decide)) (cwV 2 hts (gd_V gm_436 gm_434 gm_435 gm_583 gm_6) rfl rfl rfl (by decide +kernel) ⟨Nat.le_of_ble_eq_true rfl, Nat.le_of_ble_eq_true rfl⟩) (qa_VR (q0 := 0) (q := ("LongMachineModel", TY, 28)) hK hP rfl rfl hP) rfl rfl hl.1 rfl (lv_room (Nat.le_of_ble_eq_true rfl)) dY_walk_29 ⟨Nat.zero_le _, Nat.zero_le _⟩) ?_
          refine lv_lstore (pc := 32) (lv' := [(4, .long (f_Y_bytes (k2_7 + ((8 : Int32) * ((z1 >>> (((4 : Int32) - ((2 : Int32) * k3_7)) &&& (31 : Int32))) &&& (3 : Int32)))) (8 : Int32) yMem)), (0, .ref qY), (1, .int z1), (2, .int k2_7), (3, .int k3_7)]) hx hb dY_walk_32 hl (by decide) rfl (fun ls hl => ?_)
          refine lv_lload (pc := 34) hx hb dY_walk_34 (lv_at hl 0 rfl) ?_
          refine lv_lconst (pc := 36) (v := (1 : Int64)) hx hb dY_walk_36 (by decide) ?_
          refine lv_land (pc := 37) hx hb dY_walk_37 ?_
          refine lv_lconst (pc := 38) (v := (0 : Int64)) hx hb dY_walk_38 (by decide) ?_
          refine qa_lc_ne (pc := 39) (tgt := 47) hx hb dY_walk_39 dY_walk_40 (by decide) (fun h39_3 => ?_) (fun h39_3 => ?_)
          · have hu := hu.trans (if_neg h39_3)
            refine lv_sipush (pc := 47) (v := (256 : Int32)) hx hb dY_walk_47 (by decide) ?_
            refine lv_lload (pc := 50) hx hb dY_walk_50 (lv_at hl 0 rfl) ?_
            refine qa_calld (pc := 52) (v := .int (Int64.toInt32 ((jlshr (f_Y_bytes (k2_7 + ((8 : Int32) * ((z1 >>> (((4 : Int32) - ((2 : Int32) * k3_7)) &&& (31 : Int32))) &&& (3 : Int32)))) (8 : Int32) yMem) (32 : Int32)) &&& (15 : Int64)))) (va_runS (As := [.long (f_Y_bytes (k2_7 + ((8 : Int32) * ((z1 >>> (((4 : Int32) - ((2 : Int32) * k3_7)) &&& (31 : Int32))) &&& (3 : Int32)))) (8 : Int32) yMem)]) (rest := [.int (256 : Int32)]) ⟨hx, hb, hml, hown, hts⟩ (c_Y_number l (f_Y_bytes (k2_7 + ((8 : Int32) * ((z1 >>> (((4 : Int32) - ((2 : Int32) * k3_7)) &&& (31 : Int32))) &&& (3 : Int32)))) (8 : Int32) yMem)) (va_cwS 1 hts (gd_S gm_440 gm_438 gm_439 gm_6) rfl rfl rfl (by decide +kernel) ⟨Nat.le_of_ble_eq_true rfl, Nat.le_of_ble_eq_true rfl⟩) qa_S0 rfl rfl hl.1 rfl (lv_room (Nat.le_of_ble_eq_true rfl)) dY_walk_52 ⟨Nat.zero_le _, Nat.zero_le _⟩) ?_
            refine lv_imul (pc := 55) hx hb dY_walk_55 ?_
            refine lv_istore_n (pc := 56) (lv' := [(2, .int ((256 : Int32) * (Int64.toInt32 ((jlshr (f_Y_bytes (k2_7 + ((8 : Int32) * ((z1 >>> (((4 : Int32) - ((2 : Int32) * k3_7)) &&& (31 : Int32))) &&& (3 : Int32)))) (8 : Int32) yMem) (32 : Int32)) &&& (15 : Int64))))), (4, .long (f_Y_bytes (k2_7 + ((8 : Int32) * ((z1 >>> (((4 : Int32) - ((2 : Int32) * k3_7)) &&& (31 : Int32))) &&& (3 : Int32)))) (8 : Int32) yMem)), (0, .ref qY), (1, .int z1), (3, .int k3_7)]) hx hb dY_walk_56 rfl hl (by decide) rfl (fun ls hl => ?_)
            refine lv_iinc (pc := 57) (k := 4) (lv' := [(3, .int (k3_7 + (1 : Int32))), (2, .int ((256 : Int32) * (Int64.toInt32 ((jlshr (f_Y_bytes (k2_7 + ((8 : Int32) * ((z1 >>> (((4 : Int32) - ((2 : Int32) * k3_7)) &&& (31 : Int32))) &&& (3 : Int32)))) (8 : Int32) yMem) (32 : Int32)) &&& (15 : Int64))))), (4, .long (f_Y_bytes (k2_7 + ((8 : Int32) * ((z1 >>> (((4 : Int32) - ((2 : Int32) * k3_7)) &&& (31 : Int32))) &&& (3 : Int32)))) (8 : Int32) yMem)), (0, .ref qY), (1, .int z1)]) hx hb dY_walk_57 hl rfl (qa_inc (by decide) k3_7) (by decide) rfl (fun ls hl => ?_)
            refine lv_goto (pc := 60) (tgt := 7) hx hb dY_walk_60 (by decide) ?_
            exact ih ((256 : Int32) * (Int64.toInt32 ((jlshr (f_Y_bytes (k2_7 + ((8 : Int32) * ((z1 >>> (((4 : Int32) - ((2 : Int32) * k3_7)) &&& (31 : Int32))) &&& (3 : Int32)))) (8 : Int32) yMem) (32 : Int32)) &&& (15 : Int64)))) (k3_7 + (1 : Int32)) _ _ _ (rg_fs h9_1 hq7_fu) ((ry_num _).1) ((ry_num _).2) hP hD hS (lv_sub hl [3, 4, 1, 0] rfl) u hu
          · have hu := hu.trans (if_pos h39_3)
            refine lv_ldc2 (pc := 43) (v := (240 : Int64)) hx hb hown (hts _ gm_437) dY_walk_43 ?_
            subst hu
            exact W.lret hx hb hr (fun t ht hW => ⟨rfl, by rw [ht]; exact hP, hS.F ht⟩) hS.2.2 dY_walk_46
  exact hB7 3 yTab (0 : Int32) _ _ _ (by decide) (ht0) (ht1) hP hD hS (lv_sub hl [2, 3, 1, 0] rfl) u hu
def f_Y_translate_B106 (z1 : Int64) (z3 : Int32) (yMod : Int32) (yBuf_106 : Int32) (yBP_106 : (Nat → Int32)) (yBS_106 : (Nat → Int32)) (yBW_106 : (Nat → Int64)) (t0_106 : Int64) : Int32 × Int32 × (Nat → Int32) × (Nat → Int32) × (Nat → Int64) := (if ((jlshr t0_106 ((if z3 = (1 : Int32) then (6 : Int32) else (4 : Int32)) + yMod)) &&& (1 : Int64)) = (0 : Int64) then ((-2 : Int32), yBuf_106, yBP_106, yBS_106, yBW_106) else (if (t0_106 &&& (1 : Int64)) = (0 : Int64) then ((-1 : Int32), yBuf_106, yBP_106, yBS_106, yBW_106) else (if ((jlshr t0_106 (if z3 = (0 : Int32) then (1 : Int32) else (if z3 = (1 : Int32) then (2 : Int32) else (3 : Int32)))) &&& (1 : Int64)) = (1 : Int64) then ((if z3 = (0 : Int32) then (-4 : Int32) else (if z3 = (1 : Int32) then (-5 : Int32) else (-3 : Int32))), yBuf_106, yBP_106, yBS_106, yBW_106) else ((((256 : Int32) * (Int64.toInt32 ((jlshr t0_106 (32 : Int32)) &&& (15 : Int64)))) + ((Int64.toInt32 z1) &&& (255 : Int32))), yBuf_106, yBP_106, yBS_106, yBW_106))))
def f_Y_translate_K103_1 (z1 : Int64) (z3 : Int32) (yMod : Int32) (r103_1 : Int64 × Int32 × (Nat → Int32) × (Nat → Int32) × (Nat → Int64)) : Int32 × Int32 × (Nat → Int32) × (Nat → Int32) × (Nat → Int64) := (f_Y_translate_B106 z1 z3 yMod r103_1.2.1 r103_1.2.2.1 r103_1.2.2.2.1 r103_1.2.2.2.2 r103_1.1)
def f_Y_translate_B33 (z1 : Int64) (z3 : Int32) (yMod : Int32) (yTab : Int32) (ySpc : Int32) (yBuf : Int32) (yMem : (Nat → Int32)) (yBP : (Nat → Int32)) (yBS : (Nat → Int32)) (yBW : (Nat → Int64))  : Int32 × Int32 × (Nat → Int32) × (Nat → Int32) × (Nat → Int64) := (if (Int64.toInt32 z1) ≤ (32767 : Int32) then (if (f_Y_buffered ((Int64.toInt32 z1) >>> ((8 : Int32) &&& (31 : Int32))) ySpc yBuf yBP yBS) < (0 : Int32) then (f_Y_translate_K103_1 z1 z3 yMod (f_Y_walk ((Int64.toInt32 z1) >>> ((8 : Int32) &&& (31 : Int32))) yTab ySpc yBuf yMem yBP yBS yBW)) else (f_Y_translate_B106 z1 z3 yMod yBuf yBP yBS yBW (yBW (Int32.toNatClampNeg (f_Y_buffered ((Int64.toInt32 z1) >>> ((8 : Int32) &&& (31 : Int32))) ySpc yBuf yBP yBS))))) else ((if (36864 : Int32) ≤ (Int64.toInt32 z1) then (-2 : Int32) else (if yMod = (0 : Int32) then ((Int64.toInt32 z1) - (32768 : Int32)) else (-2 : Int32))), yBuf, yBP, yBS, yBW))
def f_Y_translate (z1 : Int64) (z3 : Int32) (yMod : Int32) (yTab : Int32) (ySpc : Int32) (yBuf : Int32) (yMem : (Nat → Int32)) (yBP : (Nat → Int32)) (yBS : (Nat → Int32)) (yBW : (Nat → Int64)) : Int32 × Int32 × (Nat → Int32) × (Nat → Int32) × (Nat → Int64) := (if z1 < (0 : Int64) then ((-2 : Int32), yBuf, yBP, yBS, yBW) else (if (65535 : Int64) < z1 then ((-2 : Int32), yBuf, yBP, yBS, yBW) else (if z1 ≤ (16383 : Int64) then (f_Y_translate_B33 z1 z3 yMod yTab ySpc yBuf yMem yBP yBS yBW ) else (if (32768 : Int64) ≤ z1 then (f_Y_translate_B33 z1 z3 yMod yTab ySpc yBuf yMem yBP yBS yBW ) else ((-2 : Int32), yBuf, yBP, yBS, yBW)))))
set_option maxRecDepth 100000 in
set_option maxHeartbeats 4000000 in
theorem c_Y_translate (l : Launch) (dC : Nat → ClassId) (dI : Nat → Nat → Nat) (cI cJ : ClassId) (qY qYm qYr qYv qYl qYn qYp qYs qYw qY6 : Nat) (sz : Nat) (yPc : Int64) (yMod : Int32) (yLev : Int32) (yLoc : Int32) (yKsp : Int64) (yUsp : Int64) (yKgp : Int64) (yVal : Int64) (yTab : Int32) (ySpc : Int32) (yHal : Int32) (yEnt : Int32) (yPen : Int32) (yBuf : Int32) (yHer : Int64) (yWrd : Int32) (yHas : Int32) (yTrp : Int32) (yNon : Int32) (yMem : (Nat → Int32)) (yR : (Nat → Int64)) (yV : (Nat → Int64)) (yPL : (Nat → Int32)) (yPN : (Nat → Int32)) (yBP : (Nat → Int32)) (yBS : (Nat → Int32)) (yBW : (Nat → Int64)) (ySix : (Nat → Int64)) (z1 : Int64) (z3 : Int32) (hy0 : 0 ≤ yBuf.toInt) (hy4 : yBuf.toInt ≤ 4) (ht0 : 0 ≤ yTab.toInt) (ht1 : yTab.toInt ≤ 4064) : Met l yY_translate (.code yY_translate cY_translate 11 (some .int) :: vG) ({ frames := 2, cells := 0, slots := 0, locals := 50 }) (va_Pc [.ref qY, .long z1, .int z3] (qa_pre (dC, dI) vwCl (wY cI cJ qY qYm qYr qYv qYl qYn qYp qYs qYw qY6 yPc yMod yLev yLoc yKsp yUsp yKgp yVal yTab ySpc yHal yEnt yPen yBuf yHer yWrd yHas yTrp yNon yMem yR yV yPL yPN yBP yBS yBW ySix) [(cI, .int), (cJ, .long)] sz)) (qa_mod (some (.int ((f_Y_translate z1 z3 yMod yTab ySpc yBuf yMem yBP yBS yBW).1))) (dC, dI) vwCl (wY cI cJ qY qYm qYr qYv qYl qYn qYp qYs qYw qY6 yPc yMod yLev yLoc yKsp yUsp yKgp yVal yTab ySpc yHal yEnt yPen ((f_Y_translate z1 z3 yMod yTab ySpc yBuf yMem yBP yBS yBW).2.1) yHer yWrd yHas yTrp yNon yMem yR yV yPL yPN ((f_Y_translate z1 z3 yMod yTab ySpc yBuf yMem yBP yBS yBW).2.2.1) ((f_Y_translate z1 z3 yMod yTab ySpc yBuf yMem yBP yBS yBW).2.2.2.1) ((f_Y_translate z1 z3 yMod yTab ySpc yBuf yMem yBP yBS yBW).2.2.2.2) ySix) (va_A (wY cI cJ qY qYm qYr qYv qYl qYn qYp qYs qYw qY6 yPc yMod yLev yLoc yKsp yUsp yKgp yVal yTab ySpc yHal yEnt yPen yBuf yHer yWrd yHas yTrp yNon yMem yR yV yPL yPN yBP yBS yBW ySix) sz)) 0 0 (va_A (wY cI cJ qY qYm qYr qYv qYl qYn qYp qYs qYw qY6 yPc yMod yLev yLoc yKsp yUsp yKgp yVal yTab ySpc yHal yEnt yPen yBuf yHer yWrd yHas yTrp yNon yMem yR yV yPL yPN yBP yBS yBW ySix) sz) := by
  refine Met.ofW (cc := cY_translate) (maxL := 11) (ret := (some .int)) (by decide) rfl ?_
  intro p e s m args below meth c s₁ B hml hv
  obtain ⟨rfl, hsz, hP, hK, hD0⟩ := hv
  have hx := B.exec
  have hb := B.bytes
  have hr := B.returns
  have hts : ∀ w ∈ vG, w.before _ s = true := fun w h => atoms_spec (ws := (.code yY_translate cY_translate 11 (some .int) :: vG)) B.pre w (List.mem_cons_of_mem _ h)
  have hown : s.vm.findClass "LongMachineModel" = some m.cls := findClass_of_methodNamed B.named
  have hlocks := B.notSynchronized
  subst hsz
  have hD := hD0.self (sz := s.heap.size)
  generalize hAe : va_A (wY cI cJ qY qYm qYr qYv qYl qYn qYp qYs qYw qY6 yPc yMod yLev yLoc yKsp yUsp yKgp yVal yTab ySpc yHal yEnt yPen yBuf yHer yWrd yHas yTrp yNon yMem yR yV yPL yPN yBP yBS yBW ySix) s.heap.size = A at hD ⊢
  have hA : ∀ q : Nat, s.heap.size ≤ q → A q := fun q h => by rw [← hAe]; exact Or.inr h
  have hS : va_S A s.heap s.heap [] := va_S.rf
  have hl := lv_entry ([.ref qY, .long z1, .int z3]) (n := 11) (Nat.le_of_ble_eq_true rfl)
  rw [lg_entry_eq]
  generalize (lg_sl ([.ref qY, .long z1, .int z3]) ++ List.replicate (11 - (lg_sl ([.ref qY, .long z1, .int z3])).length) Slot.unset).toArray = ls at hl ⊢
  have hl : lv_has ls 11 [(0, .ref qY), (1, .long z1), (3, .int z3)] := hl
  obtain ⟨u, hu⟩ : ∃ u, u = f_Y_translate z1 z3 yMod yTab ySpc yBuf yMem yBP yBS yBW := ⟨_, rfl⟩
  rw [← hu]
  unfold f_Y_translate at hu
  have hB106 : ∀ (yBuf_106 : Int32) (yBP_106 : (Nat → Int32)) (yBS_106 : (Nat → Int32)) (yBW_106 : (Nat → Int64)) (t0_106 : Int64) (H : Heap) (locs : List Loc) (ls : Array Slot) (hP : va_P (dC, dI) vwCl (wY cI cJ qY qYm qYr qYv qYl qYn qYp qYs qYw qY6 yPc yMod yLev yLoc yKsp yUsp yKgp yVal yTab ySpc yHal yEnt yPen yBuf_106 yHer yWrd yHas yTrp yNon yMem yR yV yPL yPN yBP_106 yBS_106 yBW_106 ySix) H) (hD : va_D A (wY cI cJ qY qYm qYr qYv qYl qYn qYp qYs qYw qY6 yPc yMod yLev yLoc yKsp yUsp yKgp yVal yTab ySpc yHal yEnt yPen yBuf_106 yHer yWrd yHas yTrp yNon yMem yR yV yPL yPN yBP_106 yBS_106 yBW_106 ySix)) (hS : va_S A s.heap H locs) (hl : lv_has ls 11 [(0, .ref qY), (1, .long z1), (3, .int z3), (4, .int (Int64.toInt32 z1)), (5, .int ((Int64.toInt32 z1) >>> ((8 : Int32) &&& (31 : Int32)))), (6, .int (f_Y_buffered ((Int64.toInt32 z1) >>> ((8 : Int32) &&& (31 : Int32))) ySpc yBuf yBP yBS))]) (u : Int32 × Int32 × (Nat → Int32) × (Nat → Int32) × (Nat → Int64)) (hu : u = f_Y_translate_B106 z1 z3 yMod yBuf_106 yBP_106 yBS_106 yBW_106 t0_106), W p l e { frames := 2, cells := 0, slots := 0, locals := 50 } s m ([.ref qY, .long z1, .int z3]).toArray below meth c H locs 0 0 (MQ below (qa_mod (some (.int u.1)) (dC, dI) vwCl (wY cI cJ qY qYm qYr qYv qYl qYn qYp qYs qYw qY6 yPc yMod yLev yLoc yKsp yUsp yKgp yVal yTab ySpc yHal yEnt yPen u.2.1 yHer yWrd yHas yTrp yNon yMem yR yV yPL yPN u.2.2.1 u.2.2.2.1 u.2.2.2.2 ySix) A) ([.ref qY, .long z1, .int z3]).toArray s 0 0 A) (F0 m 106 ls [.long t0_106]) := by
    intro yBuf_106 yBP_106 yBS_106 yBW_106 t0_106 H locs ls  hP hD hS hl u hu
    unfold f_Y_translate_B106 at hu
    refine lv_lstore (pc := 106) (lv' := [(7, .long t0_106), (0, .ref qY), (1, .long z1), (3, .int z3), (4, .int (Int64.toInt32 z1)), (5, .int ((Int64.toInt32 z1) >>> ((8 : Int32) &&& (31 : Int32)))), (6, .int (f_Y_buffered ((Int64.toInt32 z1) >>> ((8 : Int32) &&& (31 : Int32))) ySpc yBuf yBP yBS))]) hx hb dY_translate_106 hl (by decide) rfl (fun ls hl => ?_)
    refine lv_iload_n (pc := 108) hx hb dY_translate_108 rfl (lv_at hl 3 rfl) ?_
    refine lv_iconst (pc := 109) (v := (1 : Int32)) hx hb dY_translate_109 (by decide) ?_
    refine qa_joini (J := 119) (ls2 := ls) (rest2 := []) (if z3 = (1 : Int32) then (6 : Int32) else (4 : Int32)) (fun hj119 => ?_) ?_
    · refine lv_icmp_ne (pc := 110) (tgt := 118) hx hb dY_translate_110 (by decide) (fun h110_1 => ?_) (fun h110_1 => ?_)
      · refine lv_iconst (pc := 118) (v := (4 : Int32)) hx hb dY_translate_118 (by decide) ?_
        exact hj119 _ (Eq.symm (if_neg h110_1))
      · refine lv_bipush (pc := 113) (v := (6 : Int32)) hx hb dY_translate_113 (by decide) ?_
        refine lv_goto (pc := 115) (tgt := 119) hx hb dY_translate_115 (by decide) ?_
        exact hj119 _ (Eq.symm (if_pos h110_1))
    refine lv_aload_n (pc := 119) hx hb dY_translate_119 rfl (lv_at hl 1 rfl) ?_
    refine va_get (D := (dC, dI)) (pc := 120) (ci := 5) (v := .int yMod) (C := "LongMachineModel") (T := TY) (N := 28) hx hb hts ui_Y hown hK hP 0 rfl rfl 3 (by decide) (hts _ gm_349) (fun _ h9 => h9) rfl dY_translate_120 ?_
    refine lv_iadd (pc := 123) hx hb dY_translate_123 ?_
    refine lv_istore (pc := 124) (lv' := [(9, .int ((if z3 = (1 : Int32) then (6 : Int32) else (4 : Int32)) + yMod)), (7, .long t0_106), (0, .ref qY), (1, .long z1), (3, .int z3), (4, .int (Int64.toInt32 z1)), (5, .int ((Int64.toInt32 z1) >>> ((8 : Int32) &&& (31 : Int32)))), (6, .int (f_Y_buffered ((Int64.toInt32 z1) >>> ((8 : Int32) &&& (31 : Int32))) ySpc yBuf yBP yBS))]) hx hb dY_translate_124 hl (by decide) rfl (fun ls hl => ?_)
    refine lv_lload (pc := 126) hx hb dY_translate_126 (lv_at hl 1 rfl) ?_
    refine lv_iload (pc := 128) hx hb dY_translate_128 (lv_at hl 0 rfl) ?_
    refine lv_lshr (pc := 130) (v := (jlshr t0_106 ((if z3 = (1 : Int32) then (6 : Int32) else (4 : Int32)) + yMod))) hx hb dY_translate_130 rfl ?_
    refine lv_lconst (pc := 131) (v := (1 : Int64)) hx hb dY_translate_131 (by decide) ?_
    refine lv_land (pc := 132) hx hb dY_translate_132 ?_
    refine lv_lconst (pc := 133) (v := (0 : Int64)) hx hb dY_translate_133 (by decide) ?_
    refine qa_lc_ne (pc := 134) (tgt := 141) hx hb dY_translate_134 dY_translate_135 (by decide) (fun h134_2 => ?_) (fun h134_2 => ?_)
    · have hu := hu.trans (if_neg h134_2)
      refine lv_lload (pc := 141) hx hb dY_translate_141 (lv_at hl 1 rfl) ?_
      refine lv_lconst (pc := 143) (v := (1 : Int64)) hx hb dY_translate_143 (by decide) ?_
      refine lv_land (pc := 144) hx hb dY_translate_144 ?_
      refine lv_lconst (pc := 145) (v := (0 : Int64)) hx hb dY_translate_145 (by decide) ?_
      refine qa_lc_ne (pc := 146) (tgt := 152) hx hb dY_translate_146 dY_translate_147 (by decide) (fun h146_3 => ?_) (fun h146_3 => ?_)
      · have hu := hu.trans (if_neg h146_3)
        refine lv_iload_n (pc := 152) hx hb dY_translate_152 rfl (lv_at hl 4 rfl) ?_
        refine qa_joini (J := 170) (ls2 := ls) (rest2 := []) (if z3 = (0 : Int32) then (1 : Int32) else (if z3 = (1 : Int32) then (2 : Int32) else (3 : Int32))) (fun hj170 => ?_) ?_
        · refine lv_if_ne (pc := 153) (tgt := 160) hx hb dY_translate_153 (by decide) (fun h153_4 => ?_) (fun h153_4 => ?_)
          · refine lv_iload_n (pc := 160) hx hb dY_translate_160 rfl (lv_at hl 4 rfl) ?_
            refine lv_iconst (pc := 161) (v := (1 : Int32)) hx hb dY_translate_161 (by decide) ?_
            refine lv_icmp_ne (pc := 162) (tgt := 169) hx hb dY_translate_162 (by decide) (fun h162_5 => ?_) (fun h162_5 => ?_)
            · refine lv_iconst (pc := 169) (v := (3 : Int32)) hx hb dY_translate_169 (by decide) ?_
              exact hj170 _ (Eq.symm (Eq.trans (if_neg h153_4) (if_neg h162_5)))
            · refine lv_iconst (pc := 165) (v := (2 : Int32)) hx hb dY_translate_165 (by decide) ?_
              refine lv_goto (pc := 166) (tgt := 170) hx hb dY_translate_166 (by decide) ?_
              exact hj170 _ (Eq.symm (Eq.trans (if_neg h153_4) (if_pos h162_5)))
          · refine lv_iconst (pc := 156) (v := (1 : Int32)) hx hb dY_translate_156 (by decide) ?_
            refine lv_goto (pc := 157) (tgt := 170) hx hb dY_translate_157 (by decide) ?_
            exact hj170 _ (Eq.symm (if_pos h153_4))
        refine lv_istore (pc := 170) (lv' := [(10, .int (if z3 = (0 : Int32) then (1 : Int32) else (if z3 = (1 : Int32) then (2 : Int32) else (3 : Int32)))), (9, .int ((if z3 = (1 : Int32) then (6 : Int32) else (4 : Int32)) + yMod)), (7, .long t0_106), (0, .ref qY), (1, .long z1), (3, .int z3), (4, .int (Int64.toInt32 z1)), (5, .int ((Int64.toInt32 z1) >>> ((8 : Int32) &&& (31 : Int32)))), (6, .int (f_Y_buffered ((Int64.toInt32 z1) >>> ((8 : Int32) &&& (31 : Int32))) ySpc yBuf yBP yBS))]) hx hb dY_translate_170 hl (by decide) rfl (fun ls hl => ?_)
        refine lv_lload (pc := 172) hx hb dY_translate_172 (lv_at hl 2 rfl) ?_
        refine lv_iload (pc := 174) hx hb dY_translate_174 (lv_at hl 0 rfl) ?_
        refine lv_lshr (pc := 176) (v := (jlshr t0_106 (if z3 = (0 : Int32) then (1 : Int32) else (if z3 = (1 : Int32) then (2 : Int32) else (3 : Int32))))) hx hb dY_translate_176 rfl ?_
        refine lv_lconst (pc := 177) (v := (1 : Int64)) hx hb dY_translate_177 (by decide) ?_
        refine lv_land (pc := 178) hx hb dY_translate_178 ?_
        refine lv_lconst (pc := 179) (v := (1 : Int64)) hx hb dY_translate_179 (by decide) ?_
        refine qa_lc_ne (pc := 180) (tgt := 206) hx hb dY_translate_180 dY_translate_181 (by decide) (fun h180_6 => ?_) (fun h180_6 => ?_)
        · have hu := hu.trans (if_neg h180_6)
          refine lv_sipush (pc := 206) (v := (256 : Int32)) hx hb dY_translate_206 (by decide) ?_
          refine lv_lload (pc := 209) hx hb dY_translate_209 (lv_at hl 2 rfl) ?_
          refine qa_calld (pc := 211) (v := .int (Int64.toInt32 ((jlshr t0_106 (32 : Int32)) &&& (15 : Int64)))) (va_runS (As := [.long t0_106]) (rest := [.int (256 : Int32)]) ⟨hx, hb, hml, hown, hts⟩ (c_Y_number l t0_106) (va_cwS 1 hts (gd_S gm_440 gm_438 gm_439 gm_6) rfl rfl rfl (by decide +kernel) ⟨Nat.le_of_ble_eq_true rfl, Nat.le_of_ble_eq_true rfl⟩) qa_S0 rfl rfl hl.1 rfl (lv_room (Nat.le_of_ble_eq_true rfl)) dY_translate_211 ⟨Nat.zero_le _, Nat.zero_le _⟩) ?_
          refine lv_imul (pc := 214) hx hb dY_translate_214 ?_
          refine lv_iload (pc := 215) hx hb dY_translate_215 (lv_at hl 6 rfl) ?_
          refine lv_sipush (pc := 217) (v := (255 : Int32)) hx hb dY_translate_217 (by decide) ?_
          refine lv_iand (pc := 220) hx hb dY_translate_220 ?_
          refine lv_iadd (pc := 221) hx hb dY_translate_221 ?_
          subst hu
          exact W.iret hx hb hr (fun t ht hW => ⟨rfl, by rw [ht]; exact hP, hS.F ht⟩) hS.2.2 dY_translate_222
        · have hu := hu.trans (if_pos h180_6)
          refine lv_iload_n (pc := 184) hx hb dY_translate_184 rfl (lv_at hl 5 rfl) ?_
          refine qa_joini (J := 205) (ls2 := ls) (rest2 := []) (if z3 = (0 : Int32) then (-4 : Int32) else (if z3 = (1 : Int32) then (-5 : Int32) else (-3 : Int32))) (fun hj205 => ?_) ?_
          · refine lv_if_ne (pc := 185) (tgt := 193) hx hb dY_translate_185 (by decide) (fun h185_7 => ?_) (fun h185_7 => ?_)
            · refine lv_iload_n (pc := 193) hx hb dY_translate_193 rfl (lv_at hl 5 rfl) ?_
              refine lv_iconst (pc := 194) (v := (1 : Int32)) hx hb dY_translate_194 (by decide) ?_
              refine lv_icmp_ne (pc := 195) (tgt := 203) hx hb dY_translate_195 (by decide) (fun h195_8 => ?_) (fun h195_8 => ?_)
              · refine lv_bipush (pc := 203) (v := (-3 : Int32)) hx hb dY_translate_203 (by decide) ?_
                exact hj205 _ (Eq.symm (Eq.trans (if_neg h185_7) (if_neg h195_8)))
              · refine lv_bipush (pc := 198) (v := (-5 : Int32)) hx hb dY_translate_198 (by decide) ?_
                refine lv_goto (pc := 200) (tgt := 205) hx hb dY_translate_200 (by decide) ?_
                exact hj205 _ (Eq.symm (Eq.trans (if_neg h185_7) (if_pos h195_8)))
            · refine lv_bipush (pc := 188) (v := (-4 : Int32)) hx hb dY_translate_188 (by decide) ?_
              refine lv_goto (pc := 190) (tgt := 205) hx hb dY_translate_190 (by decide) ?_
              exact hj205 _ (Eq.symm (if_pos h185_7))
          subst hu
          exact W.iret hx hb hr (fun t ht hW => ⟨rfl, by rw [ht]; exact hP, hS.F ht⟩) hS.2.2 dY_translate_205
      · have hu := hu.trans (if_pos h146_3)
        refine lv_iconst (pc := 150) (v := (-1 : Int32)) hx hb dY_translate_150 (by decide) ?_
        subst hu
        exact W.iret hx hb hr (fun t ht hW => ⟨rfl, by rw [ht]; exact hP, hS.F ht⟩) hS.2.2 dY_translate_151
    · have hu := hu.trans (if_pos h134_2)
      refine lv_bipush (pc := 138) (v := (-2 : Int32)) hx hb dY_translate_138 (by decide) ?_
      subst hu
      exact W.iret hx hb hr (fun t ht hW => ⟨rfl, by rw [ht]; exact hP, hS.F ht⟩) hS.2.2 dY_translate_140
  have hB33 : ∀  (H : Heap) (locs : List Loc) (ls : Array Slot) (hP : va_P (dC, dI) vwCl (wY cI cJ qY qYm qYr qYv qYl qYn qYp qYs qYw qY6 yPc yMod yLev yLoc yKsp yUsp yKgp yVal yTab ySpc yHal yEnt yPen yBuf yHer yWrd yHas yTrp yNon yMem yR yV yPL yPN yBP yBS yBW ySix) H) (hD : va_D A (wY cI cJ qY qYm qYr qYv qYl qYn qYp qYs qYw qY6 yPc yMod yLev yLoc yKsp yUsp yKgp yVal yTab ySpc yHal yEnt yPen yBuf yHer yWrd yHas yTrp yNon yMem yR yV yPL yPN yBP yBS yBW ySix)) (hS : va_S A s.heap H locs) (hl : lv_has ls 11 [(0, .ref qY), (1, .long z1), (3, .int z3)]) (u : Int32 × Int32 × (Nat → Int32) × (Nat → Int32) × (Nat → Int64)) (hu : u = f_Y_translate_B33 z1 z3 yMod yTab ySpc yBuf yMem yBP yBS yBW ), W p l e { frames := 2, cells := 0, slots := 0, locals := 50 } s m ([.ref qY, .long z1, .int z3]).toArray below meth c H locs 0 0 (MQ below (qa_mod (some (.int u.1)) (dC, dI) vwCl (wY cI cJ qY qYm qYr qYv qYl qYn qYp qYs qYw qY6 yPc yMod yLev yLoc yKsp yUsp yKgp yVal yTab ySpc yHal yEnt yPen u.2.1 yHer yWrd yHas yTrp yNon yMem yR yV yPL yPN u.2.2.1 u.2.2.2.1 u.2.2.2.2 ySix) A) ([.ref qY, .long z1, .int z3]).toArray s 0 0 A) (F0 m 33 ls []) := by
    intro  H locs ls  hP hD hS hl u hu
    unfold f_Y_translate_B33 at hu
    refine lv_lload_n (pc := 33) hx hb dY_translate_33 rfl (lv_at hl 1 rfl) ?_
    refine lv_l2i (pc := 34) (v := (Int64.toInt32 z1)) hx hb dY_translate_34 rfl ?_
    refine lv_istore (pc := 35) (lv' := [(4, .int (Int64.toInt32 z1)), (0, .ref qY), (1, .long z1), (3, .int z3)]) hx hb dY_translate_35 hl (by decide) rfl (fun ls hl => ?_)
    refine lv_iload (pc := 37) hx hb dY_translate_37 (lv_at hl 0 rfl) ?_
    refine lv_sipush (pc := 39) (v := (32767 : Int32)) hx hb dY_translate_39 (by decide) ?_
    refine lv_icmp_le (pc := 42) (tgt := 70) hx hb dY_translate_42 (by decide) (fun h42_9 => ?_) (fun h42_9 => ?_)
    · have hu := hu.trans (if_pos h42_9)
      refine lv_iload (pc := 70) hx hb dY_translate_70 (lv_at hl 0 rfl) ?_
      refine lv_bipush (pc := 72) (v := (8 : Int32)) hx hb dY_translate_72 (by decide) ?_
      refine lv_ishr (pc := 74) hx hb dY_translate_74 ?_
      refine lv_istore (pc := 75) (lv' := [(5, .int ((Int64.toInt32 z1) >>> ((8 : Int32) &&& (31 : Int32)))), (4, .int (Int64.toInt32 z1)), (0, .ref qY), (1, .long z1), (3, .int z3)]) hx hb dY_translate_75 hl (by decide) rfl (fun ls hl => ?_)
      refine lv_aload_n (pc := 77) hx hb dY_translate_77 rfl (lv_at hl 2 rfl) ?_
      refine lv_iload (pc := 78) hx hb dY_translate_78 (lv_at hl 0 rfl) ?_
      refine qa_calld (pc := 80) (v := .int (f_Y_buffered ((Int64.toInt32 z1) >>> ((8 : Int32) &&& (31 : Int32))) ySpc yBuf yBP yBS)) (va_runV (As := [.int ((Int64.toInt32 z1) >>> ((8 : Int32) &&& (31 : Int32)))]) (rest := []) ⟨hx, hb, hml, hown, hts⟩ (c_Y_buffered l dC dI cI cJ qY qYm qYr qYv qYl qYn qYp qYs qYw qY6 yPc yMod yLev yLoc yKsp yUsp yKgp yVal yTab ySpc yHal yEnt yPen yBuf yHer yWrd yHas yTrp yNon yMem yR yV yPL yPN yBP yBS yBW ySix ((Int64.toInt32 z1) >>> ((8 : Int32) &&& (31 : Int32))) (hy4)) (cwV 1 hts (gd_V gm_430 gm_428 gm_429 gm_581 gm_6) rfl rfl rfl (by decide +kernel) ⟨Nat.le_of_ble_eq_true rfl, Nat.le_of_ble_eq_true rfl⟩) (qa_VR (q0 := 0) (q := ("LongMachineModel", TY, 28)) hK hP rfl rfl hP) rfl rfl hl.1 rfl (lv_room (Nat.le_of_ble_eq_true rfl)) dY_translate_80 ⟨Nat.zero_le _, Nat.zero_le _⟩) ?_
      refine lv_istore (pc := 83) (lv' := [(6, .int (f_Y_buffered ((Int64.toInt32 z1) >>> ((8 : Int32) &&& (31 : Int32))) ySpc yBuf yBP yBS)), (5, .int ((Int64.toInt32 z1) >>> ((8 : Int32) &&& (31 : Int32)))), (4, .int (Int64.toInt32 z1)), (0, .ref qY), (1, .long z1), (3, .int z3)]) hx hb dY_translate_83 hl (by decide) rfl (fun ls hl => ?_)
      refine lv_iload (pc := 85) hx hb dY_translate_85 (lv_at hl 0 rfl) ?_
      refine lv_if_lt (pc := 87) (tgt := 100) hx hb dY_translate_87 (by decide) (fun h87_10 => ?_) (fun h87_10 => ?_)
      · have hu := hu.trans (if_pos h87_10)
        refine lv_aload_n (pc := 100) hx hb dY_translate_100 rfl (lv_at hl 3 rfl) ?_
        refine lv_iload (pc := 101) hx hb dY_translate_101 (lv_at hl 1 rfl) ?_
        have hc := c_Y_walk l dC dI cI cJ qY qYm qYr qYv qYl qYn qYp qYs qYw qY6 H.size yPc yMod yLev yLoc yKsp yUsp yKgp yVal yTab ySpc yHal yEnt yPen yBuf yHer yWrd yHas yTrp yNon yMem yR yV yPL yPN yBP yBS yBW ySix ((Int64.toInt32 z1) >>> ((8 : Int32) &&& (31 : Int32))) (hy0) (hy4) (ht0) (ht1)
        generalize er103_1 : f_Y_walk ((Int64.toInt32 z1) >>> ((8 : Int32) &&& (31 : Int32))) yTab ySpc yBuf yMem yBP yBS yBW = r103_1 at hu hc
        unfold f_Y_translate_K103_1 at hu
        refine qa_calll (pc := 103) (wr := []) (wf := (wY cI cJ qY qYm qYr qYv qYl qYn qYp qYs qYw qY6 yPc yMod yLev yLoc yKsp yUsp yKgp yVal yTab ySpc yHal yEnt yPen r103_1.2.1 yHer yWrd yHas yTrp yNon yMem yR yV yPL yPN r103_1.2.2.1 r103_1.2.2.2.1 r103_1.2.2.2.2 ySix)) (va_runV (As := [.int ((Int64.toInt32 z1) >>> ((8 : Int32) &&& (31 : Int32)))]) (rest := []) ⟨hx, hb, hml, hown, hts⟩ hc (cwV 1 hts (gd_V gm_433 gm_431 gm_432 gm_582 gm_6) rfl rfl rfl (by decide +kernel) ⟨Nat.le_of_ble_eq_true rfl, Nat.le_of_ble_eq_true rfl⟩) (qa_VM (q0 := 0) (q := ("LongMachineModel", TY, 28)) hK hP rfl rfl hP hD) rfl rfl hl.1 rfl (lv_room (Nat.le_of_ble_eq_true rfl)) dY_translate_103 ⟨Nat.zero_le _, Nat.zero_le _⟩) hP hD hS hA [0, 1, 2, 3, 4, 5, 6, 7, 8, 9] [] [0, 1, 2, 3, 4, 5, 6, 7, 8, 9] rfl (by decide) rfl (by decide) (by decide) rfl rfl (by decide) (fun H locs hP hD hS => ?_)
        exact hB106 r103_1.2.1 r103_1.2.2.1 r103_1.2.2.2.1 r103_1.2.2.2.2 r103_1.1 _ _ _  hP hD hS (lv_sub hl [3, 4, 5, 2, 1, 0] rfl) u hu
      · have hu := hu.trans (if_neg h87_10)
        refine lv_aload_n (pc := 90) hx hb dY_translate_90 rfl (lv_at hl 3 rfl) ?_
        refine va_get (D := (dC, dI)) (pc := 91) (ci := 5) (v := .ref qYw) (C := "LongMachineModel") (T := TY) (N := 28) hx hb hts ui_Y hown hK hP 0 rfl rfl 21 (by decide) (hts _ gm_367) (fun _ h9 => h9) rfl dY_translate_91 ?_
        refine lv_iload (pc := 94) hx hb dY_translate_94 (lv_at hl 0 rfl) ?_
        refine qa_lald (pc := 96) (k := (Int32.toNatClampNeg (f_Y_buffered ((Int64.toInt32 z1) >>> ((8 : Int32) &&& (31 : Int32))) ySpc yBuf yBP yBS))) hx hb hK hP 8 1 rfl rfl rfl (rgf_buffered hy4 h87_10) dY_translate_96 ?_
        refine lv_goto (pc := 97) (tgt := 106) hx hb dY_translate_97 (by decide) ?_
        exact hB106 yBuf yBP yBS yBW (yBW (Int32.toNatClampNeg (f_Y_buffered ((Int64.toInt32 z1) >>> ((8 : Int32) &&& (31 : Int32))) ySpc yBuf yBP yBS))) _ _ _  hP hD hS (lv_sub hl [3, 4, 5, 2, 1, 0] rfl) u hu
    · have hu := hu.trans (if_neg h42_9)
      refine lv_iload (pc := 45) hx hb dY_translate_45 (lv_at hl 0 rfl) ?_
      refine lv_ldc (pc := 47) hx hb hown (hts _ gm_426) dY_translate_47 ?_
      refine qa_joini (J := 69) (ls2 := ls) (rest2 := []) (if (36864 : Int32) ≤ (Int64.toInt32 z1) then (-2 : Int32) else (if yMod = (0 : Int32) then ((Int64.toInt32 z1) - (32768 : Int32)) else (-2 : Int32))) (fun hj69 => ?_) ?_
      · refine lv_icmp_ge (pc := 49) (tgt := 67) hx hb dY_translate_49 (by decide) (fun h49_11 => ?_) (fun h49_11 => ?_)
        · refine lv_bipush (pc := 67) (v := (-2 : Int32)) hx hb dY_translate_67 (by decide) ?_
          exact hj69 _ (Eq.symm (if_pos h49_11))
        · refine lv_aload_n (pc := 52) hx hb dY_translate_52 rfl (lv_at hl 1 rfl) ?_
          refine va_get (D := (dC, dI)) (pc := 53) (ci := 5) (v := .int yMod) (C := "LongMachineModel") (T := TY) (N := 28) hx hb hts ui_Y hown hK hP 0 rfl rfl 3 (by decide) (hts _ gm_349) (fun _ h9 => h9) rfl dY_translate_53 ?_
          refine lv_if_ne (pc := 56) (tgt := 67) hx hb dY_translate_56 (by decide) (fun h56_12 => ?_) (fun h56_12 => ?_)
          · refine lv_bipush (pc := 67) (v := (-2 : Int32)) hx hb dY_translate_67 (by decide) ?_
            exact hj69 _ (Eq.symm (Eq.trans (if_neg h49_11) (if_neg h56_12)))
          · refine lv_iload (pc := 59) hx hb dY_translate_59 (lv_at hl 0 rfl) ?_
            refine lv_ldc (pc := 61) hx hb hown (hts _ gm_427) dY_translate_61 ?_
            refine lv_isub (pc := 63) hx hb dY_translate_63 ?_
            refine lv_goto (pc := 64) (tgt := 69) hx hb dY_translate_64 (by decide) ?_
            exact hj69 _ (Eq.symm (Eq.trans (if_neg h49_11) (if_pos h56_12)))
      subst hu
      exact W.iret hx hb hr (fun t ht hW => ⟨rfl, by rw [ht]; exact hP, hS.F ht⟩) hS.2.2 dY_translate_69
  refine lv_lload_n (pc := 0) hx hb dY_translate_0 rfl (lv_at hl 1 rfl) ?_
  refine lv_lconst (pc := 1) (v := (0 : Int64)) hx hb dY_translate_1 (by decide) ?_
  refine qa_lc_lt (pc := 2) (tgt := 30) hx hb dY_translate_2 dY_translate_3 (by decide) (fun h2_13 => ?_) (fun h2_13 => ?_)
  · have hu := hu.trans (if_pos h2_13)
    refine lv_bipush (pc := 30) (v := (-2 : Int32)) hx hb dY_translate_30 (by decide) ?_
    subst hu
    exact W.iret hx hb hr (fun t ht hW => ⟨rfl, by rw [ht]; exact hP, hS.F ht⟩) hS.2.2 dY_translate_32
  · have hu := hu.trans (if_neg h2_13)
    refine lv_lload_n (pc := 6) hx hb dY_translate_6 rfl (lv_at hl 1 rfl) ?_
    refine lv_ldc2 (pc := 7) (v := (65535 : Int64)) hx hb hown (hts _ gm_423) dY_translate_7 ?_
    refine qa_lc_gt (pc := 10) (tgt := 30) hx hb dY_translate_10 dY_translate_11 (by decide) (fun h10_14 => ?_) (fun h10_14 => ?_)
    · have hu := hu.trans (if_pos h10_14)
      refine lv_bipush (pc := 30) (v := (-2 : Int32)) hx hb dY_translate_30 (by decide) ?_
      subst hu
      exact W.iret hx hb hr (fun t ht hW => ⟨rfl, by rw [ht]; exact hP, hS.F ht⟩) hS.2.2 dY_translate_32
    · have hu := hu.trans (if_neg h10_14)
      refine lv_lload_n (pc := 14) hx hb dY_translate_14 rfl (lv_at hl 1 rfl) ?_
      refine lv_ldc2 (pc := 15) (v := (16383 : Int64)) hx hb hown (hts _ gm_424) dY_translate_15 ?_
      refine qa_lc_le (pc := 18) (tgt := 33) hx hb dY_translate_18 dY_translate_19 (by decide) (fun h18_15 => ?_) (fun h18_15 => ?_)
      · have hu := hu.trans (if_pos h18_15)
        exact hB33  _ _ _  hP hD hS (lv_sub hl [0, 1, 2] rfl) u hu
      · have hu := hu.trans (if_neg h18_15)
        refine lv_lload_n (pc := 22) hx hb dY_translate_22 rfl (lv_at hl 1 rfl) ?_
        refine lv_ldc2 (pc := 23) (v := (32768 : Int64)) hx hb hown (hts _ gm_425) dY_translate_23 ?_
        refine qa_lc_ge (pc := 26) (tgt := 33) hx hb dY_translate_26 dY_translate_27 (by decide) (fun h26_16 => ?_) (fun h26_16 => ?_)
        · have hu := hu.trans (if_pos h26_16)
          exact hB33  _ _ _  hP hD hS (lv_sub hl [0, 1, 2] rfl) u hu
        · have hu := hu.trans (if_neg h26_16)
          refine lv_bipush (pc := 30) (v := (-2 : Int32)) hx hb dY_translate_30 (by decide) ?_
          subst hu
          exact W.iret hx hb hr (fun t ht hW => ⟨rfl, by rw [ht]; exact hP, hS.F ht⟩) hS.2.2 dY_translate_32
