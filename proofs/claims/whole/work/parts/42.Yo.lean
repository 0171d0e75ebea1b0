set_option maxRecDepth 100000 in
set_option maxHeartbeats 4000000 in
theorem c_Y_less (l : Launch) (z0 : Int64) (z2 : Int64) : Met l yY_less (.code yY_less cY_less 4 (some .boolean) :: vG) ({ frames := 0, cells := 0, slots := 0, locals := 0 }) (va_Pc [.long z0, .long z2] (fun _ => True)) (qa_det (.int (if (if z2 ≤ z0 then (0 : Int32) else (1 : Int32)) = (if (if (0 : Int64) ≤ z0 then (0 : Int32) else (1 : Int32)) = (if (0 : Int64) ≤ z2 then (0 : Int32) else (1 : Int32)) then (0 : Int32) else (1 : Int32)) then (0 : Int32) else (1 : Int32)))) 0 0 (fun _ => False) := by
  refine Met.ofW (cc := cY_less) (maxL := 4) (ret := (some .boolean)) (by decide) rfl ?_
  intro p e s m args below meth c s₁ B hml hv
  obtain ⟨rfl, hv⟩ := hv
  have hx := B.exec
  have hb := B.bytes
  have hr := B.returns
  have hts : ∀ w ∈ vG, w.before _ s = true := fun w h => atoms_spec (ws := (.code yY_less cY_less 4 (some .boolean) :: vG)) B.pre w (List.mem_cons_of_mem _ h)
  have hown : s.vm.findClass "LongMachineModel" = some m.cls := findClass_of_methodNamed B.named
  have hlocks := B.notSynchronized
  have hl := lv_entry ([.long z0, .long z2]) (n := 4) (Nat.le_of_ble_eq_true rfl)
  rw [lg_entry_eq]
  generalize (lg_sl ([.long z0, .long z2]) ++ List.replicate (4 - (lg_sl ([.long z0, .long z2])).length) Slot.unset).toArray = ls at hl ⊢
  have hl : lv_has ls 4 [(0, .long z0), (2, .long z2)] := hl
  refine lv_lload_n (pc := 0) hx hb dY_less_0 rfl (lv_at hl 0 rfl) ?_
  refine lv_lload_n (pc := 1) hx hb dY_less_1 rfl (lv_at hl 1 rfl) ?_
  refine qa_joini (J := 11) (ls2 := ls) (rest2 := []) (if z2 ≤ z0 then (0 : Int32) else (1 : Int32)) (fun hj11 => ?_) ?_
  · refine qa_lc_ge (pc := 2) (tgt := 10) hx hb dY_less_2 dY_less_3 (by decide) (fun h2_1 => ?_) (fun h2_1 => ?_)
    · refine lv_iconst (pc := 10) (v := (0 : Int32)) hx hb dY_less_10 (by decide) ?_
      exact hj11 _ (Eq.symm (if_pos h2_1))
    · refine lv_iconst (pc := 6) (v := (1 : Int32)) hx hb dY_less_6 (by decide) ?_
      refine lv_goto (pc := 7) (tgt := 11) hx hb dY_less_7 (by decide) ?_
      exact hj11 _ (Eq.symm (if_neg h2_1))
  refine lv_lload_n (pc := 11) hx hb dY_less_11 rfl (lv_at hl 0 rfl) ?_
  refine lv_lconst (pc := 12) (v := (0 : Int64)) hx hb dY_less_12 (by decide) ?_
  refine qa_joini (J := 22) (ls2 := ls) (rest2 := [.int (if z2 ≤ z0 then (0 : Int32) else (1 : Int32))]) (if (0 : Int64) ≤ z0 then (0 : Int32) else (1 : Int32)) (fun hj22 => ?_) ?_
  · refine qa_lc_ge (pc := 13) (tgt := 21) hx hb dY_less_13 dY_less_14 (by decide) (fun h13_2 => ?_) (fun h13_2 => ?_)
    · refine lv_iconst (pc := 21) (v := (0 : Int32)) hx hb dY_less_21 (by decide) ?_
      exact hj22 _ (Eq.symm (if_pos h13_2))
    · refine lv_iconst (pc := 17) (v := (1 : Int32)) hx hb dY_less_17 (by decide) ?_
      refine lv_goto (pc := 18) (tgt := 22) hx hb dY_less_18 (by decide) ?_
      exact hj22 _ (Eq.symm (if_neg h13_2))
  refine lv_lload_n (pc := 22) hx hb dY_less_22 rfl (lv_at hl 1 rfl) ?_
  refine lv_lconst (pc := 23) (v := (0 : Int64)) hx hb dY_less_23 (by decide) ?_
  refine qa_joini (J := 33) (ls2 := ls) (rest2 := [.int (if (0 : Int64) ≤ z0 then (0 : Int32) else (1 : Int32)), .int (if z2 ≤ z0 then (0 : Int32) else (1 : Int32))]) (if (0 : Int64) ≤ z2 then (0 : Int32) else (1 : Int32)) (fun hj33 => ?_) ?_
  · refine qa_lc_ge (pc := 24) (tgt := 32) hx hb dY_less_24 dY_less_25 (by decide) (fun h24_3 => ?_) (fun h24_3 => ?_)
    · refine lv_iconst (pc := 32) (v := (0 : Int32)) hx hb dY_less_32 (by decide) ?_
      exact hj33 _ (Eq.symm (if_pos h24_3))
    · refine lv_iconst (pc := 28) (v := (1 : Int32)) hx hb dY_less_28 (by decide) ?_
      refine lv_goto (pc := 29) (tgt := 33) hx hb dY_less_29 (by decide) ?_
      exact hj33 _ (Eq.symm (if_neg h24_3))
  refine qa_joini (J := 41) (ls2 := ls) (rest2 := [.int (if z2 ≤ z0 then (0 : Int32) else (1 : Int32))]) (if (if (0 : Int64) ≤ z0 then (0 : Int32) else (1 : Int32)) = (if (0 : Int64) ≤ z2 then (0 : Int32) else (1 : Int32)) then (0 : Int32) else (1 : Int32)) (fun hj41 => ?_) ?_
  · refine lv_icmp_eq (pc := 33) (tgt := 40) hx hb dY_less_33 (by decide) (fun h33_4 => ?_) (fun h33_4 => ?_)
    · refine lv_iconst (pc := 40) (v := (0 : Int32)) hx hb dY_less_40 (by decide) ?_
      exact hj41 _ (Eq.symm (if_pos h33_4))
    · refine lv_iconst (pc := 36) (v := (1 : Int32)) hx hb dY_less_36 (by decide) ?_
      refine lv_goto (pc := 37) (tgt := 41) hx hb dY_less_37 (by decide) ?_
      exact hj41 _ (Eq.symm (if_neg h33_4))
  refine qa_joini (J := 49) (ls2 := ls) (rest2 := []) (if (if z2 ≤ z0 then (0 : Int32) else (1 : Int32)) = (if (if (0 : Int64) ≤ z0 then (0 : Int32) else (1 : Int32)) = (if (0 : Int64) ≤ z2 then (0 : Int32) else (1 : Int32)) then (0 : Int32) else (1 : Int32)) then (0 : Int32) else (1 : Int32)) (fun hj49 => ?_) ?_
  · refine lv_icmp_eq (pc := 41) (tgt := 48) hx hb dY_less_41 (by decide) (fun h41_5 => ?_) (fun h41_5 => ?_)
    · refine lv_iconst (pc := 48) (v := (0 : Int32)) hx hb dY_less_48 (by decide) ?_
      exact hj49 _ (Eq.symm (if_pos h41_5))
    · refine lv_iconst (pc := 44) (v := (1 : Int32)) hx hb dY_less_44 (by decide) ?_
      refine lv_goto (pc := 45) (tgt := 49) hx hb dY_less_45 (by decide) ?_
      exact hj49 _ (Eq.symm (if_neg h41_5))
  exact W.zret hx hb hr (qa_nb (qa_bi qa_b0 qa_b1)) (fun t ht hW => ⟨rfl, ht⟩) (fun _ h => by cases h) dY_less_49
set_option maxRecDepth 100000 in
set_option maxHeartbeats 4000000 in
theorem c_Y_is (l : Launch) (z0 : Int32) : Met l yY_is (.code yY_is cY_is 1 (some .long) :: vG) ({ frames := 0, cells := 0, slots := 0, locals := 0 }) (va_Pc [.int z0] (fun _ => True)) (qa_det (.long (if z0 = (0 : Int32) then (0 : Int64) else (1 : Int64)))) 0 0 (fun _ => False) := by
  refine Met.ofW (cc := cY_is) (maxL := 1) (ret := (some .long)) (by decide) rfl ?_
  intro p e s m args below meth c s₁ B hml hv
  obtain ⟨rfl, hv⟩ := hv
  have hx := B.exec
  have hb := B.bytes
  have hr := B.returns
  have hts : ∀ w ∈ vG, w.before _ s = true := fun w h => atoms_spec (ws := (.code yY_is cY_is 1 (some .long) :: vG)) B.pre w (List.mem_cons_of_mem _ h)
  have hown : s.vm.findClass "LongMachineModel" = some m.cls := findClass_of_methodNamed B.named
  have hlocks := B.notSynchronized
  have hl := lv_entry ([.int z0]) (n := 1) (Nat.le_of_ble_eq_true rfl)
  rw [lg_entry_eq]
  generalize (lg_sl ([.int z0]) ++ List.replicate (1 - (lg_sl ([.int z0])).length) Slot.unset).toArray = ls at hl ⊢
  have hl : lv_has ls 1 [(0, .int z0)] := hl
  refine lv_iload_n (pc := 0) hx hb dY_is_0 rfl (lv_at hl 0 rfl) ?_
  refine qa_joinl (J := 9) (ls2 := ls) (rest2 := []) (if z0 = (0 : Int32) then (0 : Int64) else (1 : Int64)) (fun hj9 => ?_) ?_
  · refine lv_if_eq (pc := 1) (tgt := 8) hx hb dY_is_1 (by decide) (fun h1_1 => ?_) (fun h1_1 => ?_)
    · refine lv_lconst (pc := 8) (v := (0 : Int64)) hx hb dY_is_8 (by decide) ?_
      exact hj9 _ (Eq.symm (if_pos h1_1))
    · refine lv_lconst (pc := 4) (v := (1 : Int64)) hx hb dY_is_4 (by decide) ?_
      refine lv_goto (pc := 5) (tgt := 9) hx hb dY_is_5 (by decide) ?_
      exact hj9 _ (Eq.symm (if_neg h1_1))
  exact W.lret hx hb hr (fun t ht hW => ⟨rfl, ht⟩) (fun _ h => by cases h) dY_is_9
def f_Y_sums_B404 (z2 : Int64) (z4 : Int64) (yTrp : Int32) (yNon : Int32) : Nat → Int64 → Int32 → Int64 × Int32 × Int32
  | 0, k6_404, k8_404 => ((0 : Int64), yTrp, yNon)
  | n + 1, k6_404, k8_404 => (if (8 : Int32) ≤ k8_404 then (k6_404, (0 : Int32), yNon) else (f_Y_sums_B404 z2 z4 yTrp yNon n (k6_404 ||| (jlshl (if (if ((jlshr z2 ((8 : Int32) * k8_404)) &&& (255 : Int64)) < ((jlshr z4 ((8 : Int32) * k8_404)) &&& (255 : Int64)) then (0 : Int32) else (1 : Int32)) = (0 : Int32) then (0 : Int64) else (1 : Int64)) k8_404)) (k8_404 + (1 : Int32))))
theorem f_Y_sums_B404_s (z2 : Int64) (z4 : Int64) (yTrp : Int32) (yNon : Int32) (n : Nat) (k6_404 : Int64) (k8_404 : Int32) : f_Y_sums_B404 z2 z4 yTrp yNon (n + 1) k6_404 k8_404 = (if (8 : Int32) ≤ k8_404 then (k6_404, (0 : Int32), yNon) else (f_Y_sums_B404 z2 z4 yTrp yNon n (k6_404 ||| (jlshl (if (if ((jlshr z2 ((8 : Int32) * k8_404)) &&& (255 : Int64)) < ((jlshr z4 ((8 : Int32) * k8_404)) &&& (255 : Int64)) then (0 : Int32) else (1 : Int32)) = (0 : Int32) then (0 : Int64) else (1 : Int64)) k8_404)) (k8_404 + (1 : Int32)))) := rfl
def f_Y_sums (z1 : Int32) (z2 : Int64) (z4 : Int64) (yTrp : Int32) (yNon : Int32) : Int64 × Int32 × Int32 := (if z1 = (0 : Int32) ∨ z1 = (64 : Int32) then (if z1 = (96 : Int32) then ((Int32.toInt64 (Int64.toInt32 (z2 + z4))), (if (if (0 : Int64) ≤ z2 then (0 : Int32) else (1 : Int32)) = (if (0 : Int64) ≤ z4 then (0 : Int32) else (1 : Int32)) then (if (if (0 : Int64) ≤ (Int32.toInt64 (Int64.toInt32 (z2 + z4))) then (0 : Int32) else (1 : Int32)) = (if (0 : Int64) ≤ z2 then (0 : Int32) else (1 : Int32)) then (0 : Int32) else (1 : Int32)) else (0 : Int32)), yNon) else (if z1 = (105 : Int32) then ((Int32.toInt64 (Int64.toInt32 (z2 + z4))), (if (if (0 : Int64) ≤ z2 then (0 : Int32) else (1 : Int32)) = (if (0 : Int64) ≤ z4 then (0 : Int32) else (1 : Int32)) then (0 : Int32) else (if (if (0 : Int64) ≤ (Int32.toInt64 (Int64.toInt32 (z2 + z4))) then (0 : Int32) else (1 : Int32)) = (if (0 : Int64) ≤ z2 then (0 : Int32) else (1 : Int32)) then (0 : Int32) else (1 : Int32))), yNon) else ((Int32.toInt64 (Int64.toInt32 (z2 + z4))), (if z1 = (64 : Int32) then (if (Int32.toInt64 (Int64.toInt32 (z2 + z4))) = ((Int32.toInt64 (Int64.toInt32 z2)) + (Int32.toInt64 (Int64.toInt32 z4))) then (0 : Int32) else (1 : Int32)) else (if z1 = (73 : Int32) then (if (Int32.toInt64 (Int64.toInt32 (z2 + z4))) = ((Int32.toInt64 (Int64.toInt32 z2)) - (Int32.toInt64 (Int64.toInt32 z4))) then (0 : Int32) else (1 : Int32)) else (0 : Int32))), yNon))) else (if z1 = (2 : Int32) then ((Int32.toInt64 (Int64.toInt32 (((4 : Int64) * z2) + z4))), (0 : Int32), yNon) else (if z1 = (9 : Int32) ∨ z1 = (73 : Int32) then (if z1 = (96 : Int32) then ((Int32.toInt64 (Int64.toInt32 (z2 - z4))), (if (if (0 : Int64) ≤ z2 then (0 : Int32) else (1 : Int32)) = (if (0 : Int64) ≤ z4 then (0 : Int32) else (1 : Int32)) then (if (if (0 : Int64) ≤ (Int32.toInt64 (Int64.toInt32 (z2 - z4))) then (0 : Int32) else (1 : Int32)) = (if (0 : Int64) ≤ z2 then (0 : Int32) else (1 : Int32)) then (0 : Int32) else (1 : Int32)) else (0 : Int32)), yNon) else (if z1 = (105 : Int32) then ((Int32.toInt64 (Int64.toInt32 (z2 - z4))), (if (if (0 : Int64) ≤ z2 then (0 : Int32) else (1 : Int32)) = (if (0 : Int64) ≤ z4 then (0 : Int32) else (1 : Int32)) then (0 : Int32) else (if (if (0 : Int64) ≤ (Int32.toInt64 (Int64.toInt32 (z2 - z4))) then (0 : Int32) else (1 : Int32)) = (if (0 : Int64) ≤ z2 then (0 : Int32) else (1 : Int32)) then (0 : Int32) else (1 : Int32))), yNon) else ((Int32.toInt64 (Int64.toInt32 (z2 - z4))), (if z1 = (73 : Int32) then (if (Int32.toInt64 (Int64.toInt32 (z2 - z4))) = ((Int32.toInt64 (Int64.toInt32 z2)) - (Int32.toInt64 (Int64.toInt32 z4))) then (0 : Int32) else (1 : Int32)) else (0 : Int32)), yNon))) else (if z1 = (11 : Int32) then ((Int32.toInt64 (Int64.toInt32 (((4 : Int64) * z2) - z4))), (0 : Int32), yNon) else (if z1 = (15 : Int32) then (f_Y_sums_B404 z2 z4 yTrp yNon 9 (0 : Int64) (0 : Int32)) else (if z1 = (18 : Int32) then ((Int32.toInt64 (Int64.toInt32 (((8 : Int64) * z2) + z4))), (0 : Int32), yNon) else (if z1 = (29 : Int32) then ((if (if (if z4 ≤ z2 then (0 : Int32) else (1 : Int32)) = (if (if (0 : Int64) ≤ z2 then (0 : Int32) else (1 : Int32)) = (if (0 : Int64) ≤ z4 then (0 : Int32) else (1 : Int32)) then (0 : Int32) else (1 : Int32)) then (0 : Int32) else (1 : Int32)) = (0 : Int32) then (0 : Int64) else (1 : Int64)), (0 : Int32), yNon) else (if z1 = (32 : Int32) ∨ z1 = (96 : Int32) then (if z1 = (96 : Int32) then ((z2 + z4), (if (if (0 : Int64) ≤ z2 then (0 : Int32) else (1 : Int32)) = (if (0 : Int64) ≤ z4 then (0 : Int32) else (1 : Int32)) then (if (if (0 : Int64) ≤ (z2 + z4) then (0 : Int32) else (1 : Int32)) = (if (0 : Int64) ≤ z2 then (0 : Int32) else (1 : Int32)) then (0 : Int32) else (1 : Int32)) else (0 : Int32)), yNon) else (if z1 = (105 : Int32) then ((z2 + z4), (if (if (0 : Int64) ≤ z2 then (0 : Int32) else (1 : Int32)) = (if (0 : Int64) ≤ z4 then (0 : Int32) else (1 : Int32)) then (0 : Int32) else (if (if (0 : Int64) ≤ (z2 + z4) then (0 : Int32) else (1 : Int32)) = (if (0 : Int64) ≤ z2 then (0 : Int32) else (1 : Int32)) then (0 : Int32) else (1 : Int32))), yNon) else ((z2 + z4), (0 : Int32), yNon))) else (if z1 = (34 : Int32) then ((((4 : Int64) * z2) + z4), (0 : Int32), yNon) else (if z1 = (41 : Int32) ∨ z1 = (105 : Int32) then (if z1 = (105 : Int32) then ((z2 - z4), (if (if (0 : Int64) ≤ z2 then (0 : Int32) else (1 : Int32)) = (if (0 : Int64) ≤ z4 then (0 : Int32) else (1 : Int32)) then (0 : Int32) else (if (if (0 : Int64) ≤ (z2 - z4) then (0 : Int32) else (1 : Int32)) = (if (0 : Int64) ≤ z2 then (0 : Int32) else (1 : Int32)) then (0 : Int32) else (1 : Int32))), yNon) else ((z2 - z4), (0 : Int32), yNon)) else (if z1 = (43 : Int32) then ((((4 : Int64) * z2) - z4), (0 : Int32), yNon) else (if z1 = (45 : Int32) then ((if (if z2 = z4 then (1 : Int32) else (0 : Int32)) = (0 : Int32) then (0 : Int64) else (1 : Int64)), (0 : Int32), yNon) else (if z1 = (50 : Int32) then ((((8 : Int64) * z2) + z4), (0 : Int32), yNon) else (if z1 = (61 : Int32) then ((if (if (if (if z2 ≤ z4 then (0 : Int32) else (1 : Int32)) = (if (if (0 : Int64) ≤ z4 then (0 : Int32) else (1 : Int32)) = (if (0 : Int64) ≤ z2 then (0 : Int32) else (1 : Int32)) then (0 : Int32) else (1 : Int32)) then (0 : Int32) else (1 : Int32)) = (0 : Int32) then (1 : Int32) else (0 : Int32)) = (0 : Int32) then (0 : Int64) else (1 : Int64)), (0 : Int32), yNon) else (if z1 = (77 : Int32) then ((if (if z4 ≤ z2 then (0 : Int32) else (1 : Int32)) = (0 : Int32) then (0 : Int64) else (1 : Int64)), (0 : Int32), yNon) else (if z1 = (109 : Int32) then ((if (if z4 < z2 then (0 : Int32) else (1 : Int32)) = (0 : Int32) then (0 : Int64) else (1 : Int64)), (0 : Int32), yNon) else ((0 : Int64), (0 : Int32), (1 : Int32))))))))))))))))))
set_option maxRecDepth 100000 in
set_option maxHeartbeats 4000000 in
theorem c_Y_sums (l : Launch) (dC : Nat → ClassId) (dI : Nat → Nat → Nat) (cI cJ : ClassId) (qY qYm qYr qYv qYl qYn qYp qYs qYw qY6 : Nat) (sz : Nat) (yPc : Int64) (yMod : Int32) (yLev : Int32) (yLoc : Int32) (yKsp : Int64) (yUsp : Int64) (yKgp : Int64) (yVal : Int64) (yTab : Int32) (ySpc : Int32) (yHal : Int32) (yEnt : Int32) (yPen : Int32) (yBuf : Int32) (yHer : Int64) (yWrd : Int32) (yHas : Int32) (yTrp : Int32) (yNon : Int32) (yMem : (Nat → Int32)) (yR : (Nat → Int64)) (yV : (Nat → Int64)) (yPL : (Nat → Int32)) (yPN : (Nat → Int32)) (yBP : (Nat → Int32)) (yBS : (Nat → Int32)) (yBW : (Nat → Int64)) (ySix : (Nat → Int64)) (z1 : Int32) (z2 : Int64) (z4 : Int64) : Met l yY_sums (.code yY_sums cY_sums 9 (some .long) :: vG) ({ frames := 1, cells := 0, slots := 0, locals := 23 }) (va_Pc [.ref qY, .int z1, .long z2, .long z4] (qa_pre (dC, dI) vwCl (wY cI cJ qY qYm qYr qYv qYl qYn qYp qYs qYw qY6 yPc yMod yLev yLoc yKsp yUsp yKgp yVal yTab ySpc yHal yEnt yPen yBuf yHer yWrd yHas yTrp yNon yMem yR yV yPL yPN yBP yBS yBW ySix) [(cI, .int), (cJ, .long)] sz)) (qa_mod (some (.long ((f_Y_sums z1 z2 z4 yTrp yNon).1))) (dC, dI) vwCl (wY cI cJ qY qYm qYr qYv qYl qYn qYp qYs qYw qY6 yPc yMod yLev yLoc yKsp yUsp yKgp yVal yTab ySpc yHal yEnt yPen yBuf yHer yWrd yHas ((f_Y_sums z1 z2 z4 yTrp yNon).2.1) ((f_Y_sums z1 z2 z4 yTrp yNon).2.2) yMem yR yV yPL yPN yBP yBS yBW ySix) (va_A (wY cI cJ qY qYm qYr qYv qYl qYn qYp qYs qYw qY6 yPc yMod yLev yLoc yKsp yUsp yKgp yVal yTab ySpc yHal yEnt yPen yBuf yHer yWrd yHas yTrp yNon yMem yR yV yPL yPN yBP yBS yBW ySix) sz)) 0 0 (va_A (wY cI cJ qY qYm qYr qYv qYl qYn qYp qYs qYw qY6 yPc yMod yLev yLoc yKsp yUsp yKgp yVal yTab ySpc yHal yEnt yPen yBuf yHer yWrd yHas yTrp yNon yMem yR yV yPL yPN yBP yBS yBW ySix) sz) := by
  refine Met.ofW (cc := cY_sums) (maxL := 9) (ret := (some .long)) (by decide) rfl ?_
  intro p e s m args below meth c s₁ B hml hv
  obtain ⟨rfl, hsz, hP, hK, hD0⟩ := hv
  have hx := B.exec
  have hb := B.bytes
  have hr := B.returns
  have hts : ∀ w ∈ vG, w.before _ s = true := fun w h => atoms_spec (ws := (.code yY_sums cY_sums 9 (some .long) :: vG)) B.pre w (List.mem_cons_of_mem _ h)
  have hown : s.vm.findClass "LongMachineModel" = some m.cls := findClass_of_methodNamed B.named
  have hlocks := B.notSynchronized
  subst hsz
  have hD := hD0.self (sz := s.heap.size)
  generalize hAe : va_A (wY cI cJ qY qYm qYr qYv qYl qYn qYp qYs qYw qY6 yPc yMod yLev yLoc yKsp yUsp yKgp yVal yTab ySpc yHal yEnt yPen yBuf yHer yWrd yHas yTrp yNon yMem yR yV yPL yPN yBP yBS yBW ySix) s.heap.size = A at hD ⊢
  have hA : ∀ q : Nat, s.heap.size ≤ q → A q := fun q h => by rw [← hAe]; exact Or.inr h
  have hS : va_S A s.heap s.heap [] := va_S.rf
  have hl := lv_entry ([.ref qY, .int z1, .long z2, .long z4]) (n := 9) (Nat.le_of_ble_eq_true rfl)
  rw [lg_entry_eq]
  generalize (lg_sl ([.ref qY, .int z1, .long z2, .long z4]) ++ List.replicate (9 - (lg_sl ([.ref qY, .int z1, .long z2, .long z4])).length) Slot.unset).toArray = ls at hl ⊢
  have hl : lv_has ls 9 [(0, .ref qY), (1, .int z1), (2, .long z2), (4, .long z4)] := hl
  obtain ⟨u, hu⟩ : ∃ u, u = f_Y_sums z1 z2 z4 yTrp yNon := ⟨_, rfl⟩
  rw [← hu]
  unfold f_Y_sums at hu
  refine lv_lconst (pc := 0) (v := (0 : Int64)) hx hb dY_sums_0 (by decide) ?_
  refine lv_lstore (pc := 1) (lv' := [(6, .long (0 : Int64)), (0, .ref qY), (1, .int z1), (2, .long z2), (4, .long z4)]) hx hb dY_sums_1 hl (by decide) rfl (fun ls hl => ?_)
  refine lv_iload_n (pc := 3) hx hb dY_sums_3 rfl (lv_at hl 2 rfl) ?_
  rcases Decidable.em (z1 = (0 : Int32) ∨ z1 = (64 : Int32)) with h4_1 | h4_1
  · have hu := hu.trans (if_pos h4_1)
    refine lv_lookup (pc := 4) (tgt := 176) (off := 172) hx hb dY_sums_4 (by decide) (by rcases h4_1 with h | h <;> (rw [h]; decide)) (by decide) ?_
    refine lv_lload_n (pc := 176) hx hb dY_sums_176 rfl (lv_at hl 3 rfl) ?_
    refine lv_lload (pc := 177) hx hb dY_sums_177 (lv_at hl 4 rfl) ?_
    refine lv_ladd (pc := 179) hx hb dY_sums_179 ?_
    refine qa_calld (pc := 180) (v := .long (Int32.toInt64 (Int64.toInt32 (z2 + z4)))) (va_runS (As := [.long (z2 + z4)]) (rest := []) ⟨hx, hb, hml, hown, hts⟩ (c_Y_sx l (z2 + z4)) (va_cwS 1 hts (gd_S gm_478 gm_476 gm_477 gm_6) rfl rfl rfl (by decide +kernel) ⟨Nat.le_of_ble_eq_true rfl, Nat.le_of_ble_eq_true rfl⟩) qa_S0 rfl rfl hl.1 rfl (lv_room (Nat.le_of_ble_eq_true rfl)) dY_sums_180 ⟨Nat.zero_le _, Nat.zero_le _⟩) ?_
    refine lv_lstore (pc := 183) (lv' := [(6, .long (Int32.toInt64 (Int64.toInt32 (z2 + z4)))), (0, .ref qY), (1, .int z1), (2, .long z2), (4, .long z4)]) hx hb dY_sums_183 hl (by decide) rfl (fun ls hl => ?_)
    refine lv_goto (pc := 185) (tgt := 468) hx hb dY_sums_185 (by decide) ?_
    refine lv_aload_n (pc := 468) hx hb dY_sums_468 rfl (lv_at hl 1 rfl) ?_
    refine lv_iload_n (pc := 469) hx hb dY_sums_469 rfl (lv_at hl 2 rfl) ?_
    refine lv_bipush (pc := 470) (v := (64 : Int32)) hx hb dY_sums_470 (by decide) ?_
    refine qa_joini (J := 518) (ls2 := ls) (rest2 := [.ref qY]) (if z1 = (64 : Int32) then (if (Int32.toInt64 (Int64.toInt32 (z2 + z4))) = ((Int32.toInt64 (Int64.toInt32 z2)) + (Int32.toInt64 (Int64.toInt32 z4))) then (0 : Int32) else (1 : Int32)) else (if z1 = (73 : Int32) then (if (Int32.toInt64 (Int64.toInt32 (z2 + z4))) = ((Int32.toInt64 (Int64.toInt32 z2)) - (Int32.toInt64 (Int64.toInt32 z4))) then (0 : Int32) else (1 : Int32)) else (0 : Int32))) (fun hj518 => ?_) ?_
    · refine lv_icmp_ne (pc := 472) (tgt := 491) hx hb dY_sums_472 (by decide) (fun h472_2 => ?_) (fun h472_2 => ?_)
      · refine lv_iload_n (pc := 491) hx hb dY_sums_491 rfl (lv_at hl 2 rfl) ?_
        refine lv_bipush (pc := 492) (v := (73 : Int32)) hx hb dY_sums_492 (by decide) ?_
        refine lv_icmp_ne (pc := 494) (tgt := 517) hx hb dY_sums_494 (by decide) (fun h494_3 => ?_) (fun h494_3 => ?_)
        · refine lv_iconst (pc := 517) (v := (0 : Int32)) hx hb dY_sums_517 (by decide) ?_
          exact hj518 _ (Eq.symm (Eq.trans (if_neg h472_2) (if_neg h494_3)))
        · refine lv_lload (pc := 497) hx hb dY_sums_497 (lv_at hl 0 rfl) ?_
          refine lv_lload_n (pc := 499) hx hb dY_sums_499 rfl (lv_at hl 3 rfl) ?_
          refine qa_calld (pc := 500) (v := .long (Int32.toInt64 (Int64.toInt32 z2))) (va_runS (As := [.long z2]) (rest := [.long (Int32.toInt64 (Int64.toInt32 (z2 + z4))), .ref qY]) ⟨hx, hb, hml, hown, hts⟩ (c_Y_sx l z2) (va_cwS 1 hts (gd_S gm_478 gm_476 gm_477 gm_6) rfl rfl rfl (by decide +kernel) ⟨Nat.le_of_ble_eq_true rfl, Nat.le_of_ble_eq_true rfl⟩) qa_S0 rfl rfl hl.1 rfl (lv_room (Nat.le_of_ble_eq_true rfl)) dY_sums_500 ⟨Nat.zero_le _, Nat.zero_le _⟩) ?_
          refine lv_lload (pc := 503) hx hb dY_sums_503 (lv_at hl 4 rfl) ?_
          refine qa_calld (pc := 505) (v := .long (Int32.toInt64 (Int64.toInt32 z4))) (va_runS (As := [.long z4]) (rest := [.long (Int32.toInt64 (Int64.toInt32 z2)), .long (Int32.toInt64 (Int64.toInt32 (z2 + z4))), .ref qY]) ⟨hx, hb, hml, hown, hts⟩ (c_Y_sx l z4) (va_cwS 1 hts (gd_S gm_478 gm_476 gm_477 gm_6) rfl rfl rfl (by decide +kernel) ⟨Nat.le_of_ble_eq_true rfl, Nat.le_of_ble_eq_true rfl⟩) qa_S0 rfl rfl hl.1 rfl (lv_room (Nat.le_of_ble_eq_true rfl)) dY_sums_505 ⟨Nat.zero_le _, Nat.zero_le _⟩) ?_
          refine lv_lsub (pc := 508) hx hb dY_sums_508 ?_
          refine qa_lc_eq (pc := 509) (tgt := 517) hx hb dY_sums_509 dY_sums_510 (by decide) (fun h509_4 => ?_) (fun h509_4 => ?_)
          · refine lv_iconst (pc := 517) (v := (0 : Int32)) hx hb dY_sums_517 (by decide) ?_
            exact hj518 _ (Eq.symm (Eq.trans (if_neg h472_2) (Eq.trans (if_pos h494_3) (if_pos h509_4))))
          · refine lv_iconst (pc := 513) (v := (1 : Int32)) hx hb dY_sums_513 (by decide) ?_
            refine lv_goto (pc := 514) (tgt := 518) hx hb dY_sums_514 (by decide) ?_
            exact hj518 _ (Eq.symm (Eq.trans (if_neg h472_2) (Eq.trans (if_pos h494_3) (if_neg h509_4))))
      · refine lv_lload (pc := 475) hx hb dY_sums_475 (lv_at hl 0 rfl) ?_
        refine lv_lload_n (pc := 477) hx hb dY_sums_477 rfl (lv_at hl 3 rfl) ?_
        refine qa_calld (pc := 478) (v := .long (Int32.toInt64 (Int64.toInt32 z2))) (va_runS (As := [.long z2]) (rest := [.long (Int32.toInt64 (Int64.toInt32 (z2 + z4))), .ref qY]) ⟨hx, hb, hml, hown, hts⟩ (c_Y_sx l z2) (va_cwS 1 hts (gd_S gm_478 gm_476 gm_477 gm_6) rfl rfl rfl (by decide +kernel) ⟨Nat.le_of_ble_eq_true rfl, Nat.le_of_ble_eq_true rfl⟩) qa_S0 rfl rfl hl.1 rfl (lv_room (Nat.le_of_ble_eq_true rfl)) dY_sums_478 ⟨Nat.zero_le _, Nat.zero_le _⟩) ?_
        refine lv_lload (pc := 481) hx hb dY_sums_481 (lv_at hl 4 rfl) ?_
        refine qa_calld (pc := 483) (v := .long (Int32.toInt64 (Int64.toInt32 z4))) (va_runS (As := [.long z4]) (rest := [.long (Int32.toInt64 (Int64.toInt32 z2)), .long (Int32.toInt64 (Int64.toInt32 (z2 + z4))), .ref qY]) ⟨hx, hb, hml, hown, hts⟩ (c_Y_sx l z4) (va_cwS 1 hts (gd_S gm_478 gm_476 gm_477 gm_6) rfl rfl rfl (by decide +kernel) ⟨Nat.le_of_ble_eq_true rfl, Nat.le_of_ble_eq_true rfl⟩) qa_S0 rfl rfl hl.1 rfl (lv_room (Nat.le_of_ble_eq_true rfl)) dY_sums_483 ⟨Nat.zero_le _, Nat.zero_le _⟩) ?_
        refine lv_ladd (pc := 486) hx hb dY_sums_486 ?_
        refine qa_lc_ne (pc := 487) (tgt := 513) hx hb dY_sums_487 dY_sums_488 (by decide) (fun h487_5 => ?_) (fun h487_5 => ?_)
        · refine lv_iconst (pc := 513) (v := (1 : Int32)) hx hb dY_sums_513 (by decide) ?_
          refine lv_goto (pc := 514) (tgt := 518) hx hb dY_sums_514 (by decide) ?_
          exact hj518 _ (Eq.symm (Eq.trans (if_pos h472_2) (if_neg h487_5)))
        · refine lv_iload_n (pc := 491) hx hb dY_sums_491 rfl (lv_at hl 2 rfl) ?_
          refine lv_bipush (pc := 492) (v := (73 : Int32)) hx hb dY_sums_492 (by decide) ?_
          refine lv_icmp_ne (pc := 494) (tgt := 517) hx hb dY_sums_494 (by decide) (fun h494_6 => ?_) (fun h494_6 => absurd h494_6 (by rw [h472_2]; decide))
          refine lv_iconst (pc := 517) (v := (0 : Int32)) hx hb dY_sums_517 (by decide) ?_
          exact hj518 _ (Eq.symm (Eq.trans (if_pos h472_2) (if_pos h487_5)))
    refine va_put (D := (dC, dI)) (pc := 518) (ci := 5) (v := .int (if z1 = (64 : Int32) then (if (Int32.toInt64 (Int64.toInt32 (z2 + z4))) = ((Int32.toInt64 (Int64.toInt32 z2)) + (Int32.toInt64 (Int64.toInt32 z4))) then (0 : Int32) else (1 : Int32)) else (if z1 = (73 : Int32) then (if (Int32.toInt64 (Int64.toInt32 (z2 + z4))) = ((Int32.toInt64 (Int64.toInt32 z2)) - (Int32.toInt64 (Int64.toInt32 z4))) then (0 : Int32) else (1 : Int32)) else (0 : Int32)))) (ty := .boolean) (C := "LongMachineModel") (T := TY) (N := 28) hx hb hts ui_Y tyY tyY_ok nmY hown hK hP hD hS 0 rfl rfl 25 (by decide) (hts _ gm_371) (fun _ h9 => h9) rfl (by decide +kernel) (qa_nb (qa_bi (qa_bi qa_b0 qa_b1) (qa_bi (qa_bi qa_b0 qa_b1) qa_b0))) (qa_fb (qa_bi (qa_bi qa_b0 qa_b1) (qa_bi (qa_bi qa_b0 qa_b1) qa_b0))) (Nat.le_of_ble_eq_true rfl) dY_sums_518 (fun H locs hP hD hS => ?_)
    have hP : va_P (dC, dI) vwCl (wY cI cJ qY qYm qYr qYv qYl qYn qYp qYs qYw qY6 yPc yMod yLev yLoc yKsp yUsp yKgp yVal yTab ySpc yHal yEnt yPen yBuf yHer yWrd yHas (if z1 = (64 : Int32) then (if (Int32.toInt64 (Int64.toInt32 (z2 + z4))) = ((Int32.toInt64 (Int64.toInt32 z2)) + (Int32.toInt64 (Int64.toInt32 z4))) then (0 : Int32) else (1 : Int32)) else (if z1 = (73 : Int32) then (if (Int32.toInt64 (Int64.toInt32 (z2 + z4))) = ((Int32.toInt64 (Int64.toInt32 z2)) - (Int32.toInt64 (Int64.toInt32 z4))) then (0 : Int32) else (1 : Int32)) else (0 : Int32))) yNon yMem yR yV yPL yPN yBP yBS yBW ySix) H := hP
    have hD : va_D A (wY cI cJ qY qYm qYr qYv qYl qYn qYp qYs qYw qY6 yPc yMod yLev yLoc yKsp yUsp yKgp yVal yTab ySpc yHal yEnt yPen yBuf yHer yWrd yHas (if z1 = (64 : Int32) then (if (Int32.toInt64 (Int64.toInt32 (z2 + z4))) = ((Int32.toInt64 (Int64.toInt32 z2)) + (Int32.toInt64 (Int64.toInt32 z4))) then (0 : Int32) else (1 : Int32)) else (if z1 = (73 : Int32) then (if (Int32.toInt64 (Int64.toInt32 (z2 + z4))) = ((Int32.toInt64 (Int64.toInt32 z2)) - (Int32.toInt64 (Int64.toInt32 z4))) then (0 : Int32) else (1 : Int32)) else (0 : Int32))) yNon yMem yR yV yPL yPN yBP yBS yBW ySix) := hD
    refine lv_iload_n (pc := 521) hx hb dY_sums_521 rfl (lv_at hl 2 rfl) ?_
    refine lv_bipush (pc := 522) (v := (96 : Int32)) hx hb dY_sums_522 (by decide) ?_
    refine lv_icmp_ne (pc := 524) (tgt := 588) hx hb dY_sums_524 (by decide) (fun h524_7 => ?_) (fun h524_7 => ?_)
    · have hu := hu.trans (if_neg h524_7)
      refine lv_iload_n (pc := 588) hx hb dY_sums_588 rfl (lv_at hl 2 rfl) ?_
      refine lv_bipush (pc := 589) (v := (105 : Int32)) hx hb dY_sums_589 (by decide) ?_
      refine lv_icmp_ne (pc := 591) (tgt := 655) hx hb dY_sums_591 (by decide) (fun h591_8 => ?_) (fun h591_8 => ?_)
      · have hu := hu.trans (if_neg h591_8)
        refine lv_lload (pc := 655) hx hb dY_sums_655 (lv_at hl 0 rfl) ?_
        subst hu
        exact W.lret hx hb hr (fun t ht hW => ⟨rfl, by rw [ht]; exact hP, hS.F ht⟩) hS.2.2 dY_sums_657
      · have hu := hu.trans (if_pos h591_8)
        refine lv_aload_n (pc := 594) hx hb dY_sums_594 rfl (lv_at hl 1 rfl) ?_
        refine lv_lload_n (pc := 595) hx hb dY_sums_595 rfl (lv_at hl 3 rfl) ?_
        refine lv_lconst (pc := 596) (v := (0 : Int64)) hx hb dY_sums_596 (by decide) ?_
        refine qa_joini (J := 606) (ls2 := ls) (rest2 := [.ref qY]) (if (0 : Int64) ≤ z2 then (0 : Int32) else (1 : Int32)) (fun hj606 => ?_) ?_
        · refine qa_lc_ge (pc := 597) (tgt := 605) hx hb dY_sums_597 dY_sums_598 (by decide) (fun h597_9 => ?_) (fun h597_9 => ?_)
          · refine lv_iconst (pc := 605) (v := (0 : Int32)) hx hb dY_sums_605 (by decide) ?_
            exact hj606 _ (Eq.symm (if_pos h597_9))
          · refine lv_iconst (pc := 601) (v := (1 : Int32)) hx hb dY_sums_601 (by decide) ?_
            refine lv_goto (pc := 602) (tgt := 606) hx hb dY_sums_602 (by decide) ?_
            exact hj606 _ (Eq.symm (if_neg h597_9))
        refine lv_lload (pc := 606) hx hb dY_sums_606 (lv_at hl 4 rfl) ?_
        refine lv_lconst (pc := 608) (v := (0 : Int64)) hx hb dY_sums_608 (by decide) ?_
        refine qa_joini (J := 618) (ls2 := ls) (rest2 := [.int (if (0 : Int64) ≤ z2 then (0 : Int32) else (1 : Int32)), .ref qY]) (if (0 : Int64) ≤ z4 then (0 : Int32) else (1 : Int32)) (fun hj618 => ?_) ?_
        · refine qa_lc_ge (pc := 609) (tgt := 617) hx hb dY_sums_609 dY_sums_610 (by decide) (fun h609_10 => ?_) (fun h609_10 => ?_)
          · refine lv_iconst (pc := 617) (v := (0 : Int32)) hx hb dY_sums_617 (by decide) ?_
            exact hj618 _ (Eq.symm (if_pos h609_10))
          · refine lv_iconst (pc := 613) (v := (1 : Int32)) hx hb dY_sums_613 (by decide) ?_
            refine lv_goto (pc := 614) (tgt := 618) hx hb dY_sums_614 (by decide) ?_
            exact hj618 _ (Eq.symm (if_neg h609_10))
        refine qa_joini (J := 652) (ls2 := ls) (rest2 := [.ref qY]) (if (if (0 : Int64) ≤ z2 then (0 : Int32) else (1 : Int32)) = (if (0 : Int64) ≤ z4 then (0 : Int32) else (1 : Int32)) then (0 : Int32) else (if (if (0 : Int64) ≤ (Int32.toInt64 (Int64.toInt32 (z2 + z4))) then (0 : Int32) else (1 : Int32)) = (if (0 : Int64) ≤ z2 then (0 : Int32) else (1 : Int32)) then (0 : Int32) else (1 : Int32))) (fun hj652 => ?_) ?_
        · refine lv_icmp_eq (pc := 618) (tgt := 651) hx hb dY_sums_618 (by decide) (fun h618_11 => ?_) (fun h618_11 => ?_)
          · refine lv_iconst (pc := 651) (v := (0 : Int32)) hx hb dY_sums_651 (by decide) ?_
            exact hj652 _ (Eq.symm (if_pos h618_11))
          · refine lv_lload (pc := 621) hx hb dY_sums_621 (lv_at hl 0 rfl) ?_
            refine lv_lconst (pc := 623) (v := (0 : Int64)) hx hb dY_sums_623 (by decide) ?_
            refine qa_joini (J := 633) (ls2 := ls) (rest2 := [.ref qY]) (if (0 : Int64) ≤ (Int32.toInt64 (Int64.toInt32 (z2 + z4))) then (0 : Int32) else (1 : Int32)) (fun hj633 => ?_) ?_
            · refine qa_lc_ge (pc := 624) (tgt := 632) hx hb dY_sums_624 dY_sums_625 (by decide) (fun h624_12 => ?_) (fun h624_12 => ?_)
              · refine lv_iconst (pc := 632) (v := (0 : Int32)) hx hb dY_sums_632 (by decide) ?_
                exact hj633 _ (Eq.symm (if_pos h624_12))
              · refine lv_iconst (pc := 628) (v := (1 : Int32)) hx hb dY_sums_628 (by decide) ?_
                refine lv_goto (pc := 629) (tgt := 633) hx hb dY_sums_629 (by decide) ?_
                exact hj633 _ (Eq.symm (if_neg h624_12))
            refine lv_lload_n (pc := 633) hx hb dY_sums_633 rfl (lv_at hl 3 rfl) ?_
            refine lv_lconst (pc := 634) (v := (0 : Int64)) hx hb dY_sums_634 (by decide) ?_
            refine qa_joini (J := 644) (ls2 := ls) (rest2 := [.int (if (0 : Int64) ≤ (Int32.toInt64 (Int64.toInt32 (z2 + z4))) then (0 : Int32) else (1 : Int32)), .ref qY]) (if (0 : Int64) ≤ z2 then (0 : Int32) else (1 : Int32)) (fun hj644 => ?_) ?_
            · refine qa_lc_ge (pc := 635) (tgt := 643) hx hb dY_sums_635 dY_sums_636 (by decide) (fun h635_13 => ?_) (fun h635_13 => ?_)
              · refine lv_iconst (pc := 643) (v := (0 : Int32)) hx hb dY_sums_643 (by decide) ?_
                exact hj644 _ (Eq.symm (if_pos h635_13))
              · refine lv_iconst (pc := 639) (v := (1 : Int32)) hx hb dY_sums_639 (by decide) ?_
                refine lv_goto (pc := 640) (tgt := 644) hx hb dY_sums_640 (by decide) ?_
                exact hj644 _ (Eq.symm (if_neg h635_13))
            refine lv_icmp_eq (pc := 644) (tgt := 651) hx hb dY_sums_644 (by decide) (fun h644_14 => ?_) (fun h644_14 => ?_)
            · refine lv_iconst (pc := 651) (v := (0 : Int32)) hx hb dY_sums_651 (by decide) ?_
              exact hj652 _ (Eq.symm (Eq.trans (if_neg h618_11) (if_pos h644_14)))
            · refine lv_iconst (pc := 647) (v := (1 : Int32)) hx hb dY_sums_647 (by decide) ?_
              refine lv_goto (pc := 648) (tgt := 652) hx hb dY_sums_648 (by decide) ?_
              exact hj652 _ (Eq.symm (Eq.trans (if_neg h618_11) (if_neg h644_14)))
        refine va_put (D := (dC, dI)) (pc := 652) (ci := 5) (v := .int (if (if (0 : Int64) ≤ z2 then (0 : Int32) else (1 : Int32)) = (if (0 : Int64) ≤ z4 then (0 : Int32) else (1 : Int32)) then (0 : Int32) else (if (if (0 : Int64) ≤ (Int32.toInt64 (Int64.toInt32 (z2 + z4))) then (0 : Int32) else (1 : Int32)) = (if (0 : Int64) ≤ z2 then (0 : Int32) else (1 : Int32)) then (0 : Int32) else (1 : Int32)))) (ty := .boolean) (C := "LongMachineModel") (T := TY) (N := 28) hx hb hts ui_Y tyY tyY_ok nmY hown hK hP hD hS 0 rfl rfl 25 (by decide) (hts _ gm_371) (fun _ h9 => h9) rfl (by decide +kernel) (qa_nb (qa_bi qa_b0 (qa_bi qa_b0 qa_b1))) (qa_fb (qa_bi qa_b0 (qa_bi qa_b0 qa_b1))) (Nat.le_of_ble_eq_true rfl) dY_sums_652 (fun H locs hP hD hS => ?_)
        have hP : va_P (dC, dI) vwCl (wY cI cJ qY qYm qYr qYv qYl qYn qYp qYs qYw qY6 yPc yMod yLev yLoc yKsp yUsp yKgp yVal yTab ySpc yHal yEnt yPen yBuf yHer yWrd yHas (if (if (0 : Int64) ≤ z2 then (0 : Int32) else (1 : Int32)) = (if (0 : Int64) ≤ z4 then (0 : Int32) else (1 : Int32)) then (0 : Int32) else (if (if (0 : Int64) ≤ (Int32.toInt64 (Int64.toInt32 (z2 + z4))) then (0 : Int32) else (1 : Int32)) = (if (0 : Int64) ≤ z2 then (0 : Int32) else (1 : Int32)) then (0 : Int32) else (1 : Int32))) yNon yMem yR yV yPL yPN yBP yBS yBW ySix) H := hP
        have hD : va_D A (wY cI cJ qY qYm qYr qYv qYl qYn qYp qYs qYw qY6 yPc yMod yLev yLoc yKsp yUsp yKgp yVal yTab ySpc yHal yEnt yPen yBuf yHer yWrd yHas (if (if (0 : Int64) ≤ z2 then (0 : Int32) else (1 : Int32)) = (if (0 : Int64) ≤ z4 then (0 : Int32) else (1 : Int32)) then (0 : Int32) else (if (if (0 : Int64) ≤ (Int32.toInt64 (Int64.toInt32 (z2 + z4))) then (0 : Int32) else (1 : Int32)) = (if (0 : Int64) ≤ z2 then (0 : Int32) else (1 : Int32)) then (0 : Int32) else (1 : Int32))) yNon yMem yR yV yPL yPN yBP yBS yBW ySix) := hD
        refine lv_lload (pc := 655) hx hb dY_sums_655 (lv_at hl 0 rfl) ?_
        subst hu
        exact W.lret hx hb hr (fun t ht hW => ⟨rfl, by rw [ht]; exact hP, hS.F ht⟩) hS.2.2 dY_sums_657
    · have hu := hu.trans (if_pos h524_7)
      refine lv_aload_n (pc := 527) hx hb dY_sums_527 rfl (lv_at hl 1 rfl) ?_
      refine lv_lload_n (pc := 528) hx hb dY_sums_528 rfl (lv_at hl 3 rfl) ?_
      refine lv_lconst (pc := 529) (v := (0 : Int64)) hx hb dY_sums_529 (by decide) ?_
      refine qa_joini (J := 539) (ls2 := ls) (rest2 := [.ref qY]) (if (0 : Int64) ≤ z2 then (0 : Int32) else (1 : Int32)) (fun hj539 => ?_) ?_
      · refine qa_lc_ge (pc := 530) (tgt := 538) hx hb dY_sums_530 dY_sums_531 (by decide) (fun h530_15 => ?_) (fun h530_15 => ?_)
        · refine lv_iconst (pc := 538) (v := (0 : Int32)) hx hb dY_sums_538 (by decide) ?_
          exact hj539 _ (Eq.symm (if_pos h530_15))
        · refine lv_iconst (pc := 534) (v := (1 : Int32)) hx hb dY_sums_534 (by decide) ?_
          refine lv_goto (pc := 535) (tgt := 539) hx hb dY_sums_535 (by decide) ?_
          exact hj539 _ (Eq.symm (if_neg h530_15))
      refine lv_lload (pc := 539) hx hb dY_sums_539 (lv_at hl 4 rfl) ?_
      refine lv_lconst (pc := 541) (v := (0 : Int64)) hx hb dY_sums_541 (by decide) ?_
      refine qa_joini (J := 551) (ls2 := ls) (rest2 := [.int (if (0 : Int64) ≤ z2 then (0 : Int32) else (1 : Int32)), .ref qY]) (if (0 : Int64) ≤ z4 then (0 : Int32) else (1 : Int32)) (fun hj551 => ?_) ?_
      · refine qa_lc_ge (pc := 542) (tgt := 550) hx hb dY_sums_542 dY_sums_543 (by decide) (fun h542_16 => ?_) (fun h542_16 => ?_)
        · refine lv_iconst (pc := 550) (v := (0 : Int32)) hx hb dY_sums_550 (by decide) ?_
          exact hj551 _ (Eq.symm (if_pos h542_16))
        · refine lv_iconst (pc := 546) (v := (1 : Int32)) hx hb dY_sums_546 (by decide) ?_
          refine lv_goto (pc := 547) (tgt := 551) hx hb dY_sums_547 (by decide) ?_
          exact hj551 _ (Eq.symm (if_neg h542_16))
      refine qa_joini (J := 585) (ls2 := ls) (rest2 := [.ref qY]) (if (if (0 : Int64) ≤ z2 then (0 : Int32) else (1 : Int32)) = (if (0 : Int64) ≤ z4 then (0 : Int32) else (1 : Int32)) then (if (if (0 : Int64) ≤ (Int32.toInt64 (Int64.toInt32 (z2 + z4))) then (0 : Int32) else (1 : Int32)) = (if (0 : Int64) ≤ z2 then (0 : Int32) else (1 : Int32)) then (0 : Int32) else (1 : Int32)) else (0 : Int32)) (fun hj585 => ?_) ?_
      · refine lv_icmp_ne (pc := 551) (tgt := 584) hx hb dY_sums_551 (by decide) (fun h551_17 => ?_) (fun h551_17 => ?_)
        · refine lv_iconst (pc := 584) (v := (0 : Int32)) hx hb dY_sums_584 (by decide) ?_
          exact hj585 _ (Eq.symm (if_neg h551_17))
        · refine lv_lload (pc := 554) hx hb dY_sums_554 (lv_at hl 0 rfl) ?_
          refine lv_lconst (pc := 556) (v := (0 : Int64)) hx hb dY_sums_556 (by decide) ?_
          refine qa_joini (J := 566) (ls2 := ls) (rest2 := [.ref qY]) (if (0 : Int64) ≤ (Int32.toInt64 (Int64.toInt32 (z2 + z4))) then (0 : Int32) else (1 : Int32)) (fun hj566 => ?_) ?_
          · refine qa_lc_ge (pc := 557) (tgt := 565) hx hb dY_sums_557 dY_sums_558 (by decide) (fun h557_18 => ?_) (fun h557_18 => ?_)
            · refine lv_iconst (pc := 565) (v := (0 : Int32)) hx hb dY_sums_565 (by decide) ?_
              exact hj566 _ (Eq.symm (if_pos h557_18))
            · refine lv_iconst (pc := 561) (v := (1 : Int32)) hx hb dY_sums_561 (by decide) ?_
              refine lv_goto (pc := 562) (tgt := 566) hx hb dY_sums_562 (by decide) ?_
              exact hj566 _ (Eq.symm (if_neg h557_18))
          refine lv_lload_n (pc := 566) hx hb dY_sums_566 rfl (lv_at hl 3 rfl) ?_
          refine lv_lconst (pc := 567) (v := (0 : Int64)) hx hb dY_sums_567 (by decide) ?_
          refine qa_joini (J := 577) (ls2 := ls) (rest2 := [.int (if (0 : Int64) ≤ (Int32.toInt64 (Int64.toInt32 (z2 + z4))) then (0 : Int32) else (1 : Int32)), .ref qY]) (if (0 : Int64) ≤ z2 then (0 : Int32) else (1 : Int32)) (fun hj577 => ?_) ?_
          · refine qa_lc_ge (pc := 568) (tgt := 576) hx hb dY_sums_568 dY_sums_569 (by decide) (fun h568_19 => ?_) (fun h568_19 => ?_)
            · refine lv_iconst (pc := 576) (v := (0 : Int32)) hx hb dY_sums_576 (by decide) ?_
              exact hj577 _ (Eq.symm (if_pos h568_19))
            · refine lv_iconst (pc := 572) (v := (1 : Int32)) hx hb dY_sums_572 (by decide) ?_
              refine lv_goto (pc := 573) (tgt := 577) hx hb dY_sums_573 (by decide) ?_
              exact hj577 _ (Eq.symm (if_neg h568_19))
          refine lv_icmp_eq (pc := 577) (tgt := 584) hx hb dY_sums_577 (by decide) (fun h577_20 => ?_) (fun h577_20 => ?_)
          · refine lv_iconst (pc := 584) (v := (0 : Int32)) hx hb dY_sums_584 (by decide) ?_
            exact hj585 _ (Eq.symm (Eq.trans (if_pos h551_17) (if_pos h577_20)))
          · refine lv_iconst (pc := 580) (v := (1 : Int32)) hx hb dY_sums_580 (by decide) ?_
            refine lv_goto (pc := 581) (tgt := 585) hx hb dY_sums_581 (by decide) ?_
            exact hj585 _ (Eq.symm (Eq.trans (if_pos h551_17) (if_neg h577_20)))
      refine va_put (D := (dC, dI)) (pc := 585) (ci := 5) (v := .int (if (if (0 : Int64) ≤ z2 then (0 : Int32) else (1 : Int32)) = (if (0 : Int64) ≤ z4 then (0 : Int32) else (1 : Int32)) then (if (if (0 : Int64) ≤ (Int32.toInt64 (Int64.toInt32 (z2 + z4))) then (0 : Int32) else (1 : Int32)) = (if (0 : Int64) ≤ z2 then (0 : Int32) else (1 : Int32)) then (0 : Int32) else (1 : Int32)) else (0 : Int32))) (ty := .boolean) (C := "LongMachineModel") (T := TY) (N := 28) hx hb hts ui_Y tyY tyY_ok nmY hown hK hP hD hS 0 rfl rfl 25 (by decide) (hts _ gm_371) (fun _ h9 => h9) rfl (by decide +kernel) (qa_nb (qa_bi (qa_bi qa_b0 qa_b1) qa_b0)) (qa_fb (qa_bi (qa_bi qa_b0 qa_b1) qa_b0)) (Nat.le_of_ble_eq_true rfl) dY_sums_585 (fun H locs hP hD hS => ?_)
      have hP : va_P (dC, dI) vwCl (wY cI cJ qY qYm qYr qYv qYl qYn qYp qYs qYw qY6 yPc yMod yLev yLoc yKsp yUsp yKgp yVal yTab ySpc yHal yEnt yPen yBuf yHer yWrd yHas (if (if (0 : Int64) ≤ z2 then (0 : Int32) else (1 : Int32)) = (if (0 : Int64) ≤ z4 then (0 : Int32) else (1 : Int32)) then (if (if (0 : Int64) ≤ (Int32.toInt64 (Int64.toInt32 (z2 + z4))) then (0 : Int32) else (1 : Int32)) = (if (0 : Int64) ≤ z2 then (0 : Int32) else (1 : Int32)) then (0 : Int32) else (1 : Int32)) else (0 : Int32)) yNon yMem yR yV yPL yPN yBP yBS yBW ySix) H := hP
      have hD : va_D A (wY cI cJ qY qYm qYr qYv qYl qYn qYp qYs qYw qY6 yPc yMod yLev yLoc yKsp yUsp yKgp yVal yTab ySpc yHal yEnt yPen yBuf yHer yWrd yHas (if (if (0 : Int64) ≤ z2 then (0 : Int32) else (1 : Int32)) = (if (0 : Int64) ≤ z4 then (0 : Int32) else (1 : Int32)) then (if (if (0 : Int64) ≤ (Int32.toInt64 (Int64.toInt32 (z2 + z4))) then (0 : Int32) else (1 : Int32)) = (if (0 : Int64) ≤ z2 then (0 : Int32) else (1 : Int32)) then (0 : Int32) else (1 : Int32)) else (0 : Int32)) yNon yMem yR yV yPL yPN yBP yBS yBW ySix) := hD
      refine lv_iload_n (pc := 588) hx hb dY_sums_588 rfl (lv_at hl 2 rfl) ?_
      refine lv_bipush (pc := 589) (v := (105 : Int32)) hx hb dY_sums_589 (by decide) ?_
      refine lv_icmp_ne (pc := 591) (tgt := 655) hx hb dY_sums_591 (by decide) (fun h591_21 => ?_) (fun h591_21 => absurd h591_21 (by rw [h524_7]; decide))
      refine lv_lload (pc := 655) hx hb dY_sums_655 (lv_at hl 0 rfl) ?_
      subst hu
      exact W.lret hx hb hr (fun t ht hW => ⟨rfl, by rw [ht]; exact hP, hS.F ht⟩) hS.2.2 dY_sums_657
  · have hu := hu.trans (if_neg h4_1)
    have n4_0 : ¬ z1 = (0 : Int32) := fun q => h4_1 (Or.inl q)
    have n4_1 : ¬ z1 = (64 : Int32) := fun q => h4_1 (Or.inr (q))
    rcases Decidable.em (z1 = (2 : Int32)) with h4_22 | h4_22
    · have hu := hu.trans (if_pos h4_22)
      refine lv_lookup (pc := 4) (tgt := 188) (off := 184) hx hb dY_sums_4 (by decide) (by rw [h4_22]; decide) (by decide) ?_
      refine lv_ldc2 (pc := 188) (v := (4 : Int64)) hx hb hown (hts _ gm_452) dY_sums_188 ?_
      refine lv_lload_n (pc := 191) hx hb dY_sums_191 rfl (lv_at hl 3 rfl) ?_
      refine lv_lmul (pc := 192) hx hb dY_sums_192 ?_
      refine lv_lload (pc := 193) hx hb dY_sums_193 (lv_at hl 4 rfl) ?_
      refine lv_ladd (pc := 195) hx hb dY_sums_195 ?_
      refine qa_calld (pc := 196) (v := .long (Int32.toInt64 (Int64.toInt32 (((4 : Int64) * z2) + z4)))) (va_runS (As := [.long (((4 : Int64) * z2) + z4)]) (rest := []) ⟨hx, hb, hml, hown, hts⟩ (c_Y_sx l (((4 : Int64) * z2) + z4)) (va_cwS 1 hts (gd_S gm_478 gm_476 gm_477 gm_6) rfl rfl rfl (by decide +kernel) ⟨Nat.le_of_ble_eq_true rfl, Nat.le_of_ble_eq_true rfl⟩) qa_S0 rfl rfl hl.1 rfl (lv_room (Nat.le_of_ble_eq_true rfl)) dY_sums_196 ⟨Nat.zero_le _, Nat.zero_le _⟩) ?_
      refine lv_lstore (pc := 199) (lv' := [(6, .long (Int32.toInt64 (Int64.toInt32 (((4 : Int64) * z2) + z4)))), (0, .ref qY), (1, .int z1), (2, .long z2), (4, .long z4)]) hx hb dY_sums_199 hl (by decide) rfl (fun ls hl => ?_)
      refine lv_goto (pc := 201) (tgt := 468) hx hb dY_sums_201 (by decide) ?_
      refine lv_aload_n (pc := 468) hx hb dY_sums_468 rfl (lv_at hl 1 rfl) ?_
      refine lv_iload_n (pc := 469) hx hb dY_sums_469 rfl (lv_at hl 2 rfl) ?_
      refine lv_bipush (pc := 470) (v := (64 : Int32)) hx hb dY_sums_470 (by decide) ?_
      refine lv_icmp_ne (pc := 472) (tgt := 491) hx hb dY_sums_472 (by decide) (fun h472_23 => ?_) (fun h472_23 => absurd h472_23 n4_1)
      refine lv_iload_n (pc := 491) hx hb dY_sums_491 rfl (lv_at hl 2 rfl) ?_
      refine lv_bipush (pc := 492) (v := (73 : Int32)) hx hb dY_sums_492 (by decide) ?_
      refine lv_icmp_ne (pc := 494) (tgt := 517) hx hb dY_sums_494 (by decide) (fun h494_24 => ?_) (fun h494_24 => absurd h494_24 (by rw [h4_22]; decide))
      refine lv_iconst (pc := 517) (v := (0 : Int32)) hx hb dY_sums_517 (by decide) ?_
      refine va_put (D := (dC, dI)) (pc := 518) (ci := 5) (v := .int (0 : Int32)) (ty := .boolean) (C := "LongMachineModel") (T := TY) (N := 28) hx hb hts ui_Y tyY tyY_ok nmY hown hK hP hD hS 0 rfl rfl 25 (by decide) (hts _ gm_371) (fun _ h9 => h9) rfl (by decide +kernel) rfl rfl (Nat.le_of_ble_eq_true rfl) dY_sums_518 (fun H locs hP hD hS => ?_)
      have hP : va_P (dC, dI) vwCl (wY cI cJ qY qYm qYr qYv qYl qYn qYp qYs qYw qY6 yPc yMod yLev yLoc yKsp yUsp yKgp yVal yTab ySpc yHal yEnt yPen yBuf yHer yWrd yHas (0 : Int32) yNon yMem yR yV yPL yPN yBP yBS yBW ySix) H := hP
      have hD : va_D A (wY cI cJ qY qYm qYr qYv qYl qYn qYp qYs qYw qY6 yPc yMod yLev yLoc yKsp yUsp yKgp yVal yTab ySpc yHal yEnt yPen yBuf yHer yWrd yHas (0 : Int32) yNon yMem yR yV yPL yPN yBP yBS yBW ySix) := hD
      refine lv_iload_n (pc := 521) hx hb dY_sums_521 rfl (lv_at hl 2 rfl) ?_
      refine lv_bipush (pc := 522) (v := (96 : Int32)) hx hb dY_sums_522 (by decide) ?_
      refine lv_icmp_ne (pc := 524) (tgt := 588) hx hb dY_sums_524 (by decide) (fun h524_25 => ?_) (fun h524_25 => absurd h524_25 (by rw [h4_22]; decide))
      refine lv_iload_n (pc := 588) hx hb dY_sums_588 rfl (lv_at hl 2 rfl) ?_
      refine lv_bipush (pc := 589) (v := (105 : Int32)) hx hb dY_sums_589 (by decide) ?_
      refine lv_icmp_ne (pc := 591) (tgt := 655) hx hb dY_sums_591 (by decide) (fun h591_26 => ?_) (fun h591_26 => absurd h591_26 (by rw [h4_22]; decide))
      refine lv_lload (pc := 655) hx hb dY_sums_655 (lv_at hl 0 rfl) ?_
      subst hu
      exact W.lret hx hb hr (fun t ht hW => ⟨rfl, by rw [ht]; exact hP, hS.F ht⟩) hS.2.2 dY_sums_657
    · have hu := hu.trans (if_neg h4_22)
      have n4_2 : ¬ z1 = (2 : Int32) := h4_22
      rcases Decidable.em (z1 = (9 : Int32) ∨ z1 = (73 : Int32)) with h4_27 | h4_27
      · have hu := hu.trans (if_pos h4_27)
        refine lv_lookup (pc := 4) (tgt := 220) (off := 216) hx hb dY_sums_4 (by decide) (by rcases h4_27 with h | h <;> (rw [h]; decide)) (by decide) ?_
        refine lv_lload_n (pc := 220) hx hb dY_sums_220 rfl (lv_at hl 3 rfl) ?_
        refine lv_lload (pc := 221) hx hb dY_sums_221 (lv_at hl 4 rfl) ?_
        refine lv_lsub (pc := 223) hx hb dY_sums_223 ?_
        refine qa_calld (pc := 224) (v := .long (Int32.toInt64 (Int64.toInt32 (z2 - z4)))) (va_runS (As := [.long (z2 - z4)]) (rest := []) ⟨hx, hb, hml, hown, hts⟩ (c_Y_sx l (z2 - z4)) (va_cwS 1 hts (gd_S gm_478 gm_476 gm_477 gm_6) rfl rfl rfl (by decide +kernel) ⟨Nat.le_of_ble_eq_true rfl, Nat.le_of_ble_eq_true rfl⟩) qa_S0 rfl rfl hl.1 rfl (lv_room (Nat.le_of_ble_eq_true rfl)) dY_sums_224 ⟨Nat.zero_le _, Nat.zero_le _⟩) ?_
        refine lv_lstore (pc := 227) (lv' := [(6, .long (Int32.toInt64 (Int64.toInt32 (z2 - z4)))), (0, .ref qY), (1, .int z1), (2, .long z2), (4, .long z4)]) hx hb dY_sums_227 hl (by decide) rfl (fun ls hl => ?_)
        refine lv_goto (pc := 229) (tgt := 468) hx hb dY_sums_229 (by decide) ?_
        refine lv_aload_n (pc := 468) hx hb dY_sums_468 rfl (lv_at hl 1 rfl) ?_
        refine lv_iload_n (pc := 469) hx hb dY_sums_469 rfl (lv_at hl 2 rfl) ?_
        refine lv_bipush (pc := 470) (v := (64 : Int32)) hx hb dY_sums_470 (by decide) ?_
        refine lv_icmp_ne (pc := 472) (tgt := 491) hx hb dY_sums_472 (by decide) (fun h472_28 => ?_) (fun h472_28 => absurd h472_28 n4_1)
        refine lv_iload_n (pc := 491) hx hb dY_sums_491 rfl (lv_at hl 2 rfl) ?_
        refine lv_bipush (pc := 492) (v := (73 : Int32)) hx hb dY_sums_492 (by decide) ?_
        refine qa_joini (J := 518) (ls2 := ls) (rest2 := [.ref qY]) (if z1 = (73 : Int32) then (if (Int32.toInt64 (Int64.toInt32 (z2 - z4))) = ((Int32.toInt64 (Int64.toInt32 z2)) - (Int32.toInt64 (Int64.toInt32 z4))) then (0 : Int32) else (1 : Int32)) else (0 : Int32)) (fun hj518 => ?_) ?_
        · refine lv_icmp_ne (pc := 494) (tgt := 517) hx hb dY_sums_494 (by decide) (fun h494_29 => ?_) (fun h494_29 => ?_)
          · refine lv_iconst (pc := 517) (v := (0 : Int32)) hx hb dY_sums_517 (by decide) ?_
            exact hj518 _ (Eq.symm (if_neg h494_29))
          · refine lv_lload (pc := 497) hx hb dY_sums_497 (lv_at hl 0 rfl) ?_
            refine lv_lload_n (pc := 499) hx hb dY_sums_499 rfl (lv_at hl 3 rfl) ?_
            refine qa_calld (pc := 500) (v := .long (Int32.toInt64 (Int64.toInt32 z2))) (va_runS (As := [.long z2]) (rest := [.long (Int32.toInt64 (Int64.toInt32 (z2 - z4))), .ref qY]) ⟨hx, hb, hml, hown, hts⟩ (c_Y_sx l z2) (va_cwS 1 hts (gd_S gm_478 gm_476 gm_477 gm_6) rfl rfl rfl (by decide +kernel) ⟨Nat.le_of_ble_eq_true rfl, Nat.le_of_ble_eq_true rfl⟩) qa_S0 rfl rfl hl.1 rfl (lv_room (Nat.le_of_ble_eq_true rfl)) dY_sums_500 ⟨Nat.zero_le _, Nat.zero_le _⟩) ?_
            refine lv_lload (pc := 503) hx hb dY_sums_503 (lv_at hl 4 rfl) ?_
            refine qa_calld (pc := 505) (v := .long (Int32.toInt64 (Int64.toInt32 z4))) (va_runS (As := [.long z4]) (rest := [.long (Int32.toInt64 (Int64.toInt32 z2)), .long (Int32.toInt64 (Int64.toInt32 (z2 - z4))), .ref qY]) ⟨hx, hb, hml, hown, hts⟩ (c_Y_sx l z4) (va_cwS 1 hts (gd_S gm_478 gm_476 gm_477 gm_6) rfl rfl rfl (by decide +kernel) ⟨Nat.le_of_ble_eq_true rfl, Nat.le_of_ble_eq_true rfl⟩) qa_S0 rfl rfl hl.1 rfl (lv_room (Nat.le_of_ble_eq_true rfl)) dY_sums_505 ⟨Nat.zero_le _, Nat.zero_le _⟩) ?_
            refine lv_lsub (pc := 508) hx hb dY_sums_508 ?_
            refine qa_lc_eq (pc := 509) (tgt := 517) hx hb dY_sums_509 dY_sums_510 (by decide) (fun h509_30 => ?_) (fun h509_30 => ?_)
            · refine lv_iconst (pc := 517) (v := (0 : Int32)) hx hb dY_sums_517 (by decide) ?_
              exact hj518 _ (Eq.symm (Eq.trans (if_pos h494_29) (if_pos h509_30)))
            · refine lv_iconst (pc := 513) (v := (1 : Int32)) hx hb dY_sums_513 (by decide) ?_
              refine lv_goto (pc := 514) (tgt := 518) hx hb dY_sums_514 (by decide) ?_
              exact hj518 _ (Eq.symm (Eq.trans (if_pos h494_29) (if_neg h509_30)))
        refine va_put (D := (dC, dI)) (pc := 518) (ci := 5) (v := .int (if z1 = (73 : Int32) then (if (Int32.toInt64 (Int64.toInt32 (z2 - z4))) = ((Int32.toInt64 (Int64.toInt32 z2)) - (Int32.toInt64 (Int64.toInt32 z4))) then (0 : Int32) else (1 : Int32)) else (0 : Int32))) (ty := .boolean) (C := "LongMachineModel") (T := TY) (N := 28) hx hb hts ui_Y tyY tyY_ok nmY hown hK hP hD hS 0 rfl rfl 25 (by decide) (hts _ gm_371) (fun _ h9 => h9) rfl (by decide +kernel) (qa_nb (qa_bi (qa_bi qa_b0 qa_b1) qa_b0)) (qa_fb (qa_bi (qa_bi qa_b0 qa_b1) qa_b0)) (Nat.le_of_ble_eq_true rfl) dY_sums_518 (fun H locs hP hD hS => ?_)
        have hP : va_P (dC, dI) vwCl (wY cI cJ qY qYm qYr qYv qYl qYn qYp qYs qYw qY6 yPc yMod yLev yLoc yKsp yUsp yKgp yVal yTab ySpc yHal yEnt yPen yBuf yHer yWrd yHas (if z1 = (73 : Int32) then (if (Int32.toInt64 (Int64.toInt32 (z2 - z4))) = ((Int32.toInt64 (Int64.toInt32 z2)) - (Int32.toInt64 (Int64.toInt32 z4))) then (0 : Int32) else (1 : Int32)) else (0 : Int32)) yNon yMem yR yV yPL yPN yBP yBS yBW ySix) H := hP
        have hD : va_D A (wY cI cJ qY qYm qYr qYv qYl qYn qYp qYs qYw qY6 yPc yMod yLev yLoc yKsp yUsp yKgp yVal yTab ySpc yHal yEnt yPen yBuf yHer yWrd yHas (if z1 = (73 : Int32) then (if (Int32.toInt64 (Int64.toInt32 (z2 - z4))) = ((Int32.toInt64 (Int64.toInt32 z2)) - (Int32.toInt64 (Int64.toInt32 z4))) then (0 : Int32) else (1 : Int32)) else (0 : Int32)) yNon yMem yR yV yPL yPN yBP yBS yBW ySix) := hD
        refine lv_iload_n (pc := 521) hx hb dY_sums_521 rfl (lv_at hl 2 rfl) ?_
        refine lv_bipush (pc := 522) (v := (96 : Int32)) hx hb dY_sums_522 (by decide) ?_
        refine lv_icmp_ne (pc := 524) (tgt := 588) hx hb dY_sums_524 (by decide) (fun h524_31 => ?_) (fun h524_31 => ?_)
        · have hu := hu.trans (if_neg h524_31)
          refine lv_iload_n (pc := 588) hx hb dY_sums_588 rfl (lv_at hl 2 rfl) ?_
          refine lv_bipush (pc := 589) (v := (105 : Int32)) hx hb dY_sums_589 (by decide) ?_
          refine lv_icmp_ne (pc := 591) (tgt := 655) hx hb dY_sums_591 (by decide) (fun h591_32 => ?_) (fun h591_32 => ?_)
          · have hu := hu.trans (if_neg h591_32)
            refine lv_lload (pc := 655) hx hb dY_sums_655 (lv_at hl 0 rfl) ?_
            subst hu
            exact W.lret hx hb hr (fun t ht hW => ⟨rfl, by rw [ht]; exact hP, hS.F ht⟩) hS.2.2 dY_sums_657
          · have hu := hu.trans (if_pos h591_32)
            refine lv_aload_n (pc := 594) hx hb dY_sums_594 rfl (lv_at hl 1 rfl) ?_
            refine lv_lload_n (pc := 595) hx hb dY_sums_595 rfl (lv_at hl 3 rfl) ?_
            refine lv_lconst (pc := 596) (v := (0 : Int64)) hx hb dY_sums_596 (by decide) ?_
            refine qa_joini (J := 606) (ls2 := ls) (rest2 := [.ref qY]) (if (0 : Int64) ≤ z2 then (0 : Int32) else (1 : Int32)) (fun hj606 => ?_) ?_
            · refine qa_lc_ge (pc := 597) (tgt := 605) hx hb dY_sums_597 dY_sums_598 (by decide) (fun h597_33 => ?_) (fun h597_33 => ?_)
              · refine lv_iconst (pc := 605) (v := (0 : Int32)) hx hb dY_sums_605 (by decide) ?_
                exact hj606 _ (Eq.symm (if_pos h597_33))
              · refine lv_iconst (pc := 601) (v := (1 : Int32)) hx hb dY_sums_601 (by decide) ?_
                refine lv_goto (pc := 602) (tgt := 606) hx hb dY_sums_602 (by decide) ?_
                exact hj606 _ (Eq.symm (if_neg h597_33))
            refine lv_lload (pc := 606) hx hb dY_sums_606 (lv_at hl 4 rfl) ?_
            refine lv_lconst (pc := 608) (v := (0 : Int64)) hx hb dY_sums_608 (by decide) ?_
            refine qa_joini (J := 618) (ls2 := ls) (rest2 := [.int (if (0 : Int64) ≤ z2 then (0 : Int32) else (1 : Int32)), .ref qY]) (if (0 : Int64) ≤ z4 then (0 : Int32) else (1 : Int32)) (fun hj618 => ?_) ?_
            · refine qa_lc_ge (pc := 609) (tgt := 617) hx hb dY_sums_609 dY_sums_610 (by decide) (fun h609_34 => ?_) (fun h609_34 => ?_)
              · refine lv_iconst (pc := 617) (v := (0 : Int32)) hx hb dY_sums_617 (by decide) ?_
                exact hj618 _ (Eq.symm (if_pos h609_34))
              · refine lv_iconst (pc := 613) (v := (1 : Int32)) hx hb dY_sums_613 (by decide) ?_
                refine lv_goto (pc := 614) (tgt := 618) hx hb dY_sums_614 (by decide) ?_
                exact hj618 _ (Eq.symm (if_neg h609_34))
            refine qa_joini (J := 652) (ls2 := ls) (rest2 := [.ref qY]) (if (if (0 : Int64) ≤ z2 then (0 : Int32) else (1 : Int32)) = (if (0 : Int64) ≤ z4 then (0 : Int32) else (1 : Int32)) then (0 : Int32) else (if (if (0 : Int64) ≤ (Int32.toInt64 (Int64.toInt32 (z2 - z4))) then (0 : Int32) else (1 : Int32)) = (if (0 : Int64) ≤ z2 then (0 : Int32) else (1 : Int32)) then (0 : Int32) else (1 : Int32))) (fun hj652 => ?_) ?_
            · refine lv_icmp_eq (pc := 618) (tgt := 651) hx hb dY_sums_618 (by decide) (fun h618_35 => ?_) (fun h618_35 => ?_)
              · refine lv_iconst (pc := 651) (v := (0 : Int32)) hx hb dY_sums_651 (by decide) ?_
                exact hj652 _ (Eq.symm (if_pos h618_35))
              · refine lv_lload (pc := 621) hx hb dY_sums_621 (lv_at hl 0 rfl) ?_
                refine lv_lconst (pc := 623) (v := (0 : Int64)) hx hb dY_sums_623 (by decide) ?_
                refine qa_joini (J := 633) (ls2 := ls) (rest2 := [.ref qY]) (if (0 : Int64) ≤ (Int32.toInt64 (Int64.toInt32 (z2 - z4))) then (0 : Int32) else (1 : Int32)) (fun hj633 => ?_) ?_
                · refine qa_lc_ge (pc := 624) (tgt := 632) hx hb dY_sums_624 dY_sums_625 (by decide) (fun h624_36 => ?_) (fun h624_36 => ?_)
                  · refine lv_iconst (pc := 632) (v := (0 : Int32)) hx hb dY_sums_632 (by decide) ?_
                    exact hj633 _ (Eq.symm (if_pos h624_36))
                  · refine lv_iconst (pc := 628) (v := (1 : Int32)) hx hb dY_sums_628 (by decide) ?_
                    refine lv_goto (pc := 629) (tgt := 633) hx hb dY_sums_629 (by decide) ?_
                    exact hj633 _ (Eq.symm (if_neg h624_36))
                refine lv_lload_n (pc := 633) hx hb dY_sums_633 rfl (lv_at hl 3 rfl) ?_
                refine lv_lconst (pc := 634) (v := (0 : Int64)) hx hb dY_sums_634 (by decide) ?_
                refine qa_joini (J := 644) (ls2 := ls) (rest2 := [.int (if (0 : Int64) ≤ (Int32.toInt64 (Int64.toInt32 (z2 - z4))) then (0 : Int32) else (1 : Int32)), .ref qY]) (if (0 : Int64) ≤ z2 then (0 : Int32) else (1 : Int32)) (fun hj644 => ?_) ?_
                · refine qa_lc_ge (pc := 635) (tgt := 643) hx hb dY_sums_635 dY_sums_636 (by decide) (fun h635_37 => ?_) (fun h635_37 => ?_)
                  · refine lv_iconst (pc := 643) (v := (0 : Int32)) hx hb dY_sums_643 (by decide) ?_
                    exact hj644 _ (Eq.symm (if_pos h635_37))
                  · refine lv_iconst (pc := 639) (v := (1 : Int32)) hx hb dY_sums_639 (by decide) ?_
                    refine lv_goto (pc := 640) (tgt := 644) hx hb dY_sums_640 (by decide) ?_
                    exact hj644 _ (Eq.symm (if_neg h635_37))
                refine lv_icmp_eq (pc := 644) (tgt := 651) hx hb dY_sums_644 (by decide) (fun h644_38 => ?_) (fun h644_38 => ?_)
                · refine lv_iconst (pc := 651) (v := (0 : Int32)) hx hb dY_sums_651 (by decide) ?_
                  exact hj652 _ (Eq.symm (Eq.trans (if_neg h618_35) (if_pos h644_38)))
                · refine lv_iconst (pc := 647) (v := (1 : Int32)) hx hb dY_sums_647 (by decide) ?_
                  refine lv_goto (pc := 648) (tgt := 652) hx hb dY_sums_648 (by decide) ?_
                  exact hj652 _ (Eq.symm (Eq.trans (if_neg h618_35) (if_neg h644_38)))
            refine va_put (D := (dC, dI)) (pc := 652) (ci := 5) (v := .int (if (if (0 : Int64) ≤ z2 then (0 : Int32) else (1 : Int32)) = (if (0 : Int64) ≤ z4 then (0 : Int32) else (1 : Int32)) then (0 : Int32) else (if (if (0 : Int64) ≤ (Int32.toInt64 (Int64.toInt32 (z2 - z4))) then (0 : Int32) else (1 : Int32)) = (if (0 : Int64) ≤ z2 then (0 : Int32) else (1 : Int32)) then (0 : Int32) else (1 : Int32)))) (ty := .boolean) (C := "LongMachineModel") (T := TY) (N := 28) hx hb hts ui_Y tyY tyY_ok nmY hown hK hP hD hS 0 rfl rfl 25 (by decide) (hts _ gm_371) (fun _ h9 => h9) rfl (by decide +kernel) (qa_nb (qa_bi qa_b0 (qa_bi qa_b0 qa_b1))) (qa_fb (qa_bi qa_b0 (qa_bi qa_b0 qa_b1))) (Nat.le_of_ble_eq_true rfl) dY_sums_652 (fun H locs hP hD hS => ?_)
            have hP : va_P (dC, dI) vwCl (wY cI cJ qY qYm qYr qYv qYl qYn qYp qYs qYw qY6 yPc yMod yLev yLoc yKsp yUsp yKgp yVal yTab ySpc yHal yEnt yPen yBuf yHer yWrd yHas (if (if (0 : Int64) ≤ z2 then (0 : Int32) else (1 : Int32)) = (if (0 : Int64) ≤ z4 then (0 : Int32) else (1 : Int32)) then (0 : Int32) else (if (if (0 : Int64) ≤ (Int32.toInt64 (Int64.toInt32 (z2 - z4))) then (0 : Int32) else (1 : Int32)) = (if (0 : Int64) ≤ z2 then (0 : Int32) else (1 : Int32)) then (0 : Int32) else (1 : Int32))) yNon yMem yR yV yPL yPN yBP yBS yBW ySix) H := hP
            have hD : va_D A (wY cI cJ qY qYm qYr qYv qYl qYn qYp qYs qYw qY6 yPc yMod yLev yLoc yKsp yUsp yKgp yVal yTab ySpc yHal yEnt yPen yBuf yHer yWrd yHas (if (if (0 : Int64) ≤ z2 then (0 : Int32) else (1 : Int32)) = (if (0 : Int64) ≤ z4 then (0 : Int32) else (1 : Int32)) then (0 : Int32) else (if (if (0 : Int64) ≤ (Int32.toInt64 (Int64.toInt32 (z2 - z4))) then (0 : Int32) else (1 : Int32)) = (if (0 : Int64) ≤ z2 then (0 : Int32) else (1 : Int32)) then (0 : Int32) else (1 : Int32))) yNon yMem yR yV yPL yPN yBP yBS yBW ySix) := hD
            refine lv_lload (pc := 655) hx hb dY_sums_655 (lv_at hl 0 rfl) ?_
            subst hu
            exact W.lret hx hb hr (fun t ht hW => ⟨rfl, by rw [ht]; exact hP, hS.F ht⟩) hS.2.2 dY_sums_657
        · have hu := hu.trans (if_pos h524_31)
          refine lv_aload_n (pc := 527) hx hb dY_sums_527 rfl (lv_at hl 1 rfl) ?_
          refine lv_lload_n (pc := 528) hx hb dY_sums_528 rfl (lv_at hl 3 rfl) ?_
          refine lv_lconst (pc := 529) (v := (0 : Int64)) hx hb dY_sums_529 (by decide) ?_
          refine qa_joini (J := 539) (ls2 := ls) (rest2 := [.ref qY]) (if (0 : Int64) ≤ z2 then (0 : Int32) else (1 : Int32)) (fun hj539 => ?_) ?_
          · refine qa_lc_ge (pc := 530) (tgt := 538) hx hb dY_sums_530 dY_sums_531 (by decide) (fun h530_39 => ?_) (fun h530_39 => ?_)
            · refine lv_iconst (pc := 538) (v := (0 : Int32)) hx hb dY_sums_538 (by decide) ?_
              exact hj539 _ (Eq.symm (if_pos h530_39))
            · refine lv_iconst (pc := 534) (v := (1 : Int32)) hx hb dY_sums_534 (by decide) ?_
              refine lv_goto (pc := 535) (tgt := 539) hx hb dY_sums_535 (by decide) ?_
              exact hj539 _ (Eq.symm (if_neg h530_39))
          refine lv_lload (pc := 539) hx hb dY_sums_539 (lv_at hl 4 rfl) ?_
          refine lv_lconst (pc := 541) (v := (0 : Int64)) hx hb dY_sums_541 (by decide) ?_
          refine qa_joini (J := 551) (ls2 := ls) (rest2 := [.int (if (0 : Int64) ≤ z2 then (0 : Int32) else (1 : Int32)), .ref qY]) (if (0 : Int64) ≤ z4 then (0 : Int32) else (1 : Int32)) (fun hj551 => ?_) ?_
          · refine qa_lc_ge (pc := 542) (tgt := 550) hx hb dY_sums_542 dY_sums_543 (by decide) (fun h542_40 => ?_) (fun h542_40 => ?_)
            · refine lv_iconst (pc := 550) (v := (0 : Int32)) hx hb dY_sums_550 (by decide) ?_
              exact hj551 _ (Eq.symm (if_pos h542_40))
            · refine lv_iconst (pc := 546) (v := (1 : Int32)) hx hb dY_sums_546 (by decide) ?_
              refine lv_goto (pc := 547) (tgt := 551) hx hb dY_sums_547 (by decide) ?_
              exact hj551 _ (Eq.symm (if_neg h542_40))
          refine qa_joini (J := 585) (ls2 := ls) (rest2 := [.ref qY]) (if (if (0 : Int64) ≤ z2 then (0 : Int32) else (1 : Int32)) = (if (0 : Int64) ≤ z4 then (0 : Int32) else (1 : Int32)) then (if (if (0 : Int64) ≤ (Int32.toInt64 (Int64.toInt32 (z2 - z4))) then (0 : Int32) else (1 : Int32)) = (if (0 : Int64) ≤ z2 then (0 : Int32) else (1 : Int32)) then (0 : Int32) else (1 : Int32)) else (0 : Int32)) (fun hj585 => ?_) ?_
          · refine lv_icmp_ne (pc := 551) (tgt := 584) hx hb dY_sums_551 (by decide) (fun h551_41 => ?_) (fun h551_41 => ?_)
            · refine lv_iconst (pc := 584) (v := (0 : Int32)) hx hb dY_sums_584 (by decide) ?_
              exact hj585 _ (Eq.symm (if_neg h551_41))
            · refine lv_lload (pc := 554) hx hb dY_sums_554 (lv_at hl 0 rfl) ?_
              refine lv_lconst (pc := 556) (v := (0 : Int64)) hx hb dY_sums_556 (by decide) ?_
              refine qa_joini (J := 566) (ls2 := ls) (rest2 := [.ref qY]) (if (0 : Int64) ≤ (Int32.toInt64 (Int64.toInt32 (z2 - z4))) then (0 : Int32) else (1 : Int32)) (fun hj566 => ?_) ?_
              · refine qa_lc_ge (pc := 557) (tgt := 565) hx hb dY_sums_557 dY_sums_558 (by decide) (fun h557_42 => ?_) (fun h557_42 => ?_)
                · refine lv_iconst (pc := 565) (v := (0 : Int32)) hx hb dY_sums_565 (by decide) ?_
                  exact hj566 _ (Eq.symm (if_pos h557_42))
                · refine lv_iconst (pc := 561) (v := (1 : Int32)) hx hb dY_sums_561 (by decide) ?_
                  refine lv_goto (pc := 562) (tgt := 566) hx hb dY_sums_562 (by decide) ?_
                  exact hj566 _ (Eq.symm (if_neg h557_42))
              refine lv_lload_n (pc := 566) hx hb dY_sums_566 rfl (lv_at hl 3 rfl) ?_
              refine lv_lconst (pc := 567) (v := (0 : Int64)) hx hb dY_sums_567 (by decide) ?_
              refine qa_joini (J := 577) (ls2 := ls) (rest2 := [.int (if (0 : Int64) ≤ (Int32.toInt64 (Int64.toInt32 (z2 - z4))) then (0 : Int32) else (1 : Int32)), .ref qY]) (if (0 : Int64) ≤ z2 then (0 : Int32) else (1 : Int32)) (fun hj577 => ?_) ?_
              · refine qa_lc_ge (pc := 568) (tgt := 576) hx hb dY_sums_568 dY_sums_569 (by decide) (fun h568_43 => ?_) (fun h568_43 => ?_)
                · refine lv_iconst (pc := 576) (v := (0 : Int32)) hx hb dY_sums_576 (by decide) ?_
                  exact hj577 _ (Eq.symm (if_pos h568_43))
                · refine lv_iconst (pc := 572) (v := (1 : Int32)) hx hb dY_sums_572 (by decide) ?_
                  refine lv_goto (pc := 573) (tgt := 577) hx hb dY_sums_573 (by decide) ?_
                  exact hj577 _ (Eq.symm (if_neg h568_43))
              refine lv_icmp_eq (pc := 577) (tgt := 584) hx hb dY_sums_577 (by decide) (fun h577_44 => ?_) (fun h577_44 => ?_)
              · refine lv_iconst (pc := 584) (v := (0 : Int32)) hx hb dY_sums_584 (by decide) ?_
                exact hj585 _ (Eq.symm (Eq.trans (if_pos h551_41) (if_pos h577_44)))
              · refine lv_iconst (pc := 580) (v := (1 : Int32)) hx hb dY_sums_580 (by decide) ?_
                refine lv_goto (pc := 581) (tgt := 585) hx hb dY_sums_581 (by decide) ?_
                exact hj585 _ (Eq.symm (Eq.trans (if_pos h551_41) (if_neg h577_44)))
          refine va_put (D := (dC, dI)) (pc := 585) (ci := 5) (v := .int (if (if (0 : Int64) ≤ z2 then (0 : Int32) else (1 : Int32)) = (if (0 : Int64) ≤ z4 then (0 : Int32) else (1 : Int32)) then (if (if (0 : Int64) ≤ (Int32.toInt64 (Int64.toInt32 (z2 - z4))) then (0 : Int32) else (1 : Int32)) = (if (0 : Int64) ≤ z2 then (0 : Int32) else (1 : Int32)) then (0 : Int32) else (1 : Int32)) else (0 : Int32))) (ty := .boolean) (C := "LongMachineModel") (T := TY) (N := 28) hx hb hts ui_Y tyY tyY_ok nmY hown hK hP hD hS 0 rfl rfl 25 (by decide) (hts _ gm_371) (fun _ h9 => h9) rfl (by decide +kernel) (qa_nb (qa_bi (qa_bi qa_b0 qa_b1) qa_b0)) (qa_fb (qa_bi (qa_bi qa_b0 qa_b1) qa_b0)) (Nat.le_of_ble_eq_true rfl) dY_sums_585 (fun H locs hP hD hS => ?_)
          have hP : va_P (dC, dI) vwCl (wY cI cJ qY qYm qYr qYv qYl qYn qYp qYs qYw qY6 yPc yMod yLev yLoc yKsp yUsp yKgp yVal yTab ySpc yHal yEnt yPen yBuf yHer yWrd yHas (if (if (0 : Int64) ≤ z2 then (0 : Int32) else (1 : Int32)) = (if (0 : Int64) ≤ z4 then (0 : Int32) else (1 : Int32)) then (if (if (0 : Int64) ≤ (Int32.toInt64 (Int64.toInt32 (z2 - z4))) then (0 : Int32) else (1 : Int32)) = (if (0 : Int64) ≤ z2 then (0 : Int32) else (1 : Int32)) then (0 : Int32) else (1 : Int32)) else (0 : Int32)) yNon yMem yR yV yPL yPN yBP yBS yBW ySix) H := hP
          have hD : va_D A (wY cI cJ qY qYm qYr qYv qYl qYn qYp qYs qYw qY6 yPc yMod yLev yLoc yKsp yUsp yKgp yVal yTab ySpc yHal yEnt yPen yBuf yHer yWrd yHas (if (if (0 : Int64) ≤ z2 then (0 : Int32) else (1 : Int32)) = (if (0 : Int64) ≤ z4 then (0 : Int32) else (1 : Int32)) then (if (if (0 : Int64) ≤ (Int32.toInt64 (Int64.toInt32 (z2 - z4))) then (0 : Int32) else (1 : Int32)) = (if (0 : Int64) ≤ z2 then (0 : Int32) else (1 : Int32)) then (0 : Int32) else (1 : Int32)) else (0 : Int32)) yNon yMem yR yV yPL yPN yBP yBS yBW ySix) := hD
          refine lv_iload_n (pc := 588) hx hb dY_sums_588 rfl (lv_at hl 2 rfl) ?_
          refine lv_bipush (pc := 589) (v := (105 : Int32)) hx hb dY_sums_589 (by decide) ?_
          refine lv_icmp_ne (pc := 591) (tgt := 655) hx hb dY_sums_591 (by decide) (fun h591_45 => ?_) (fun h591_45 => absurd h591_45 (by rw [h524_31]; decide))
          refine lv_lload (pc := 655) hx hb dY_sums_655 (lv_at hl 0 rfl) ?_
          subst hu
          exact W.lret hx hb hr (fun t ht hW => ⟨rfl, by rw [ht]; exact hP, hS.F ht⟩) hS.2.2 dY_sums_657
      · have hu := hu.trans (if_neg h4_27)
        have n4_3 : ¬ z1 = (9 : Int32) := fun q => h4_27 (Or.inl q)
        have n4_4 : ¬ z1 = (73 : Int32) := fun q => h4_27 (Or.inr (q))
        rcases Decidable.em (z1 = (11 : Int32)) with h4_46 | h4_46
        · have hu := hu.trans (if_pos h4_46)
          refine lv_lookup (pc := 4) (tgt := 232) (off := 228) hx hb dY_sums_4 (by decide) (by rw [h4_46]; decide) (by decide) ?_
          refine lv_ldc2 (pc := 232) (v := (4 : Int64)) hx hb hown (hts _ gm_452) dY_sums_232 ?_
          refine lv_lload_n (pc := 235) hx hb dY_sums_235 rfl (lv_at hl 3 rfl) ?_
          refine lv_lmul (pc := 236) hx hb dY_sums_236 ?_
          refine lv_lload (pc := 237) hx hb dY_sums_237 (lv_at hl 4 rfl) ?_
          refine lv_lsub (pc := 239) hx hb dY_sums_239 ?_
          refine qa_calld (pc := 240) (v := .long (Int32.toInt64 (Int64.toInt32 (((4 : Int64) * z2) - z4)))) (va_runS (As := [.long (((4 : Int64) * z2) - z4)]) (rest := []) ⟨hx, hb, hml, hown, hts⟩ (c_Y_sx l (((4 : Int64) * z2) - z4)) (va_cwS 1 hts (gd_S gm_478 gm_476 gm_477 gm_6) rfl rfl rfl (by decide +kernel) ⟨Nat.le_of_ble_eq_true rfl, Nat.le_of_ble_eq_true rfl⟩) qa_S0 rfl rfl hl.1 rfl (lv_room (Nat.le_of_ble_eq_true rfl)) dY_sums_240 ⟨Nat.zero_le _, Nat.zero_le _⟩) ?_
          refine lv_lstore (pc := 243) (lv' := [(6, .long (Int32.toInt64 (Int64.toInt32 (((4 : Int64) * z2) - z4)))), (0, .ref qY), (1, .int z1), (2, .long z2), (4, .long z4)]) hx hb dY_sums_243 hl (by decide) rfl (fun ls hl => ?_)
          refine lv_goto (pc := 245) (tgt := 468) hx hb dY_sums_245 (by decide) ?_
          refine lv_aload_n (pc := 468) hx hb dY_sums_468 rfl (lv_at hl 1 rfl) ?_
          refine lv_iload_n (pc := 469) hx hb dY_sums_469 rfl (lv_at hl 2 rfl) ?_
          refine lv_bipush (pc := 470) (v := (64 : Int32)) hx hb dY_sums_470 (by decide) ?_
          refine lv_icmp_ne (pc := 472) (tgt := 491) hx hb dY_sums_472 (by decide) (fun h472_47 => ?_) (fun h472_47 => absurd h472_47 n4_1)
          refine lv_iload_n (pc := 491) hx hb dY_sums_491 rfl (lv_at hl 2 rfl) ?_
          refine lv_bipush (pc := 492) (v := (73 : Int32)) hx hb dY_sums_492 (by decide) ?_
          refine lv_icmp_ne (pc := 494) (tgt := 517) hx hb dY_sums_494 (by decide) (fun h494_48 => ?_) (fun h494_48 => absurd h494_48 n4_4)
          refine lv_iconst (pc := 517) (v := (0 : Int32)) hx hb dY_sums_517 (by decide) ?_
          refine va_put (D := (dC, dI)) (pc := 518) (ci := 5) (v := .int (0 : Int32)) (ty := .boolean) (C := "LongMachineModel") (T := TY) (N := 28) hx hb hts ui_Y tyY tyY_ok nmY hown hK hP hD hS 0 rfl rfl 25 (by decide) (hts _ gm_371) (fun _ h9 => h9) rfl (by decide +kernel) rfl rfl (Nat.le_of_ble_eq_true rfl) dY_sums_518 (fun H locs hP hD hS => ?_)
          have hP : va_P (dC, dI) vwCl (wY cI cJ qY qYm qYr qYv qYl qYn qYp qYs qYw qY6 yPc yMod yLev yLoc yKsp yUsp yKgp yVal yTab ySpc yHal yEnt yPen yBuf yHer yWrd yHas (0 : Int32) yNon yMem yR yV yPL yPN yBP yBS yBW ySix) H := hP
          have hD : va_D A (wY cI cJ qY qYm qYr qYv qYl qYn qYp qYs qYw qY6 yPc yMod yLev yLoc yKsp yUsp yKgp yVal yTab ySpc yHal yEnt yPen yBuf yHer yWrd yHas (0 : Int32) yNon yMem yR yV yPL yPN yBP yBS yBW ySix) := hD
          refine lv_iload_n (pc := 521) hx hb dY_sums_521 rfl (lv_at hl 2 rfl) ?_
          refine lv_bipush (pc := 522) (v := (96 : Int32)) hx hb dY_sums_522 (by decide) ?_
          refine lv_icmp_ne (pc := 524) (tgt := 588) hx hb dY_sums_524 (by decide) (fun h524_49 => ?_) (fun h524_49 => absurd h524_49 (by rw [h4_46]; decide))
          refine lv_iload_n (pc := 588) hx hb dY_sums_588 rfl (lv_at hl 2 rfl) ?_
          refine lv_bipush (pc := 589) (v := (105 : Int32)) hx hb dY_sums_589 (by decide) ?_
          refine lv_icmp_ne (pc := 591) (tgt := 655) hx hb dY_sums_591 (by decide) (fun h591_50 => ?_) (fun h591_50 => absurd h591_50 (by rw [h4_46]; decide))
          refine lv_lload (pc := 655) hx hb dY_sums_655 (lv_at hl 0 rfl) ?_
          subst hu
          exact W.lret hx hb hr (fun t ht hW => ⟨rfl, by rw [ht]; exact hP, hS.F ht⟩) hS.2.2 dY_sums_657
        · have hu := hu.trans (if_neg h4_46)
          have n4_5 : ¬ z1 = (11 : Int32) := h4_46
          rcases Decidable.em (z1 = (15 : Int32)) with h4_51 | h4_51
          · have hu := hu.trans (if_pos h4_51)
            refine lv_lookup (pc := 4) (tgt := 401) (off := 397) hx hb dY_sums_4 (by decide) (by rw [h4_51]; decide) (by decide) ?_
            refine lv_iconst (pc := 401) (v := (0 : Int32)) hx hb dY_sums_401 (by decide) ?_
            refine lv_istore (pc := 402) (lv' := [(8, .int (0 : Int32)), (6, .long (0 : Int64)), (0, .ref qY), (1, .int z1), (2, .long z2), (4, .long z4)]) hx hb dY_sums_402 hl (by decide) rfl (fun ls hl => ?_)
            have hB404 : ∀ (n : Nat) (k6_404 : Int64) (k8_404 : Int32) (H : Heap) (locs : List Loc) (ls : Array Slot) (hq404_fu : ((8 : Int32).toInt - (k8_404).toInt).toNat < n) (hP : va_P (dC, dI) vwCl (wY cI cJ qY qYm qYr qYv qYl qYn qYp qYs qYw qY6 yPc yMod yLev yLoc yKsp yUsp yKgp yVal yTab ySpc yHal yEnt yPen yBuf yHer yWrd yHas yTrp yNon yMem yR yV yPL yPN yBP yBS yBW ySix) H) (hD : va_D A (wY cI cJ qY qYm qYr qYv qYl qYn qYp qYs qYw qY6 yPc yMod yLev yLoc yKsp yUsp yKgp yVal yTab ySpc yHal yEnt yPen yBuf yHer yWrd yHas yTrp yNon yMem yR yV yPL yPN yBP yBS yBW ySix)) (hS : va_S A s.heap H locs) (hl : lv_has ls 9 [(0, .ref qY), (1, .int z1), (2, .long z2), (4, .long z4), (6, .long k6_404), (8, .int k8_404)]) (u : Int64 × Int32 × Int32) (hu : u = f_Y_sums_B404 z2 z4 yTrp yNon n k6_404 k8_404), W p l e { frames := 1, cells := 0, slots := 0, locals := 23 } s m ([.ref qY, .int z1, .long z2, .long z4]).toArray below meth c H locs 0 0 (MQ below (qa_mod (some (.long u.1)) (dC, dI) vwCl (wY cI cJ qY qYm qYr qYv qYl qYn qYp qYs qYw qY6 yPc yMod yLev yLoc yKsp yUsp yKgp yVal yTab ySpc yHal yEnt yPen yBuf yHer yWrd yHas u.2.1 u.2.2 yMem yR yV yPL yPN yBP yBS yBW ySix) A) ([.ref qY, .int z1, .long z2, .long z4]).toArray s 0 0 A) (F0 m 404 ls []) := by
              intro n
              induction n with
              | zero => intro k6_404 k8_404 H locs ls hq404_fu hP hD hS hl u hu; exact absurd hq404_fu (Nat.not_lt_zero _)
              | succ n ih =>
                  intro k6_404 k8_404 H locs ls hq404_fu hP hD hS hl u hu
                  rw [f_Y_sums_B404_s] at hu
                  refine lv_iload (pc := 404) hx hb dY_sums_404 (lv_at hl 5 rfl) ?_
                  refine lv_bipush (pc := 406) (v := (8 : Int32)) hx hb dY_sums_406 (by decide) ?_
                  refine lv_icmp_ge (pc := 408) (tgt := 460) hx hb dY_sums_408 (by decide) (fun h408_52 => ?_) (fun h408_52 => ?_)
                  · have hu := hu.trans (if_pos h408_52)
                    refine lv_goto (pc := 460) (tgt := 468) hx hb dY_sums_460 (by decide) ?_
                    refine lv_aload_n (pc := 468) hx hb dY_sums_468 rfl (lv_at hl 0 rfl) ?_
                    refine lv_iload_n (pc := 469) hx hb dY_sums_469 rfl (lv_at hl 1 rfl) ?_
                    refine lv_bipush (pc := 470) (v := (64 : Int32)) hx hb dY_sums_470 (by decide) ?_
                    refine lv_icmp_ne (pc := 472) (tgt := 491) hx hb dY_sums_472 (by decide) (fun h472_53 => ?_) (fun h472_53 => absurd h472_53 n4_1)
                    refine lv_iload_n (pc := 491) hx hb dY_sums_491 rfl (lv_at hl 1 rfl) ?_
                    refine lv_bipush (pc := 492) (v := (73 : Int32)) hx hb dY_sums_492 (by decide) ?_
                    refine lv_icmp_ne (pc := 494) (tgt := 517) hx hb dY_sums_494 (by decide) (fun h494_54 => ?_) (fun h494_54 => absurd h494_54 n4_4)
                    refine lv_iconst (pc := 517) (v := (0 : Int32)) hx hb dY_sums_517 (by decide) ?_
                    refine va_put (D := (dC, dI)) (pc := 518) (ci := 5) (v := .int (0 : Int32)) (ty := .boolean) (C := "LongMachineModel") (T := TY) (N := 28) hx hb hts ui_Y tyY tyY_ok nmY hown hK hP hD hS 0 rfl rfl 25 (by decide) (hts _ gm_371) (fun _ h9 => h9) rfl (by decide +kernel) rfl rfl (Nat.le_of_ble_eq_true rfl) dY_sums_518 (fun H locs hP hD hS => ?_)
                    have hP : va_P (dC, dI) vwCl (wY cI cJ qY qYm qYr qYv qYl qYn qYp qYs qYw qY6 yPc yMod yLev yLoc yKsp yUsp yKgp yVal yTab ySpc yHal yEnt yPen yBuf yHer yWrd yHas (0 : Int32) yNon yMem yR yV yPL yPN yBP yBS yBW ySix) H := hP
                    have hD : va_D A (wY cI cJ qY qYm qYr qYv qYl qYn qYp qYs qYw qY6 yPc yMod yLev yLoc yKsp yUsp yKgp yVal yTab ySpc yHal yEnt yPen yBuf yHer yWrd yHas (0 : Int32) yNon yMem yR yV yPL yPN yBP yBS yBW ySix) := hD
                    refine lv_iload_n (pc := 521) hx hb dY_sums_521 rfl (lv_at hl 1 rfl) ?_
                    refine lv_bipush (pc := 522) (v := (96 : Int32)) hx hb dY_sums_522 (by decide) ?_
                    refine lv_icmp_ne (pc := 524) (tgt := 588) hx hb dY_sums_524 (by decide) (fun h524_55 => ?_) (fun h524_55 => absurd h524_55 (by rw [h4_51]; decide))
                    refine lv_iload_n (pc := 588) hx hb dY_sums_588 rfl (lv_at hl 1 rfl) ?_
                    refine lv_bipush (pc := 589) (v := (105 : Int32)) hx hb dY_sums_589 (by decide) ?_
                    refine lv_icmp_ne (pc := 591) (tgt := 655) hx hb dY_sums_591 (by decide) (fun h591_56 => ?_) (fun h591_56 => absurd h591_56 (by rw [h4_51]; decide))
                    refine lv_lload (pc := 655) hx hb dY_sums_655 (lv_at hl 4 rfl) ?_
                    subst hu
                    exact W.lret hx hb hr (fun t ht hW => ⟨rfl, by rw [ht]; exact hP, hS.F ht⟩) hS.2.2 dY_sums_657
                  · have hu := hu.trans (if_neg h408_52)
                    refine lv_lload (pc := 411) hx hb dY_sums_411 (lv_at hl 4 rfl) ?_
                    refine lv_lload_n (pc := 413) hx hb dY_sums_413 rfl (lv_at hl 2 rfl) ?_
                    refine lv_bipush (pc := 414) (v := (8 : Int32)) hx hb dY_sums_414 (by decide) ?_
                    refine lv_iload (pc := 416) hx hb dY_sums_416 (lv_at hl 5 rfl) ?_
                    refine lv_imul (pc := 418) hx hb dY_sums_418 ?_
                    refine lv_lshr (pc := 419) (v := (jlshr z2 ((8 : Int32) * k8_404))) hx hb dY_sums_419 rfl ?_
                    refine lv_ldc2 (pc := 420) (v := (255 : Int64)) hx hb hown (hts _ gm_448) dY_sums_420 ?_
                    refine lv_land (pc := 423) hx hb dY_sums_423 ?_
                    refine lv_lload (pc := 424) hx hb dY_sums_424 (lv_at hl 3 rfl) ?_
                    refine lv_bipush (pc := 426) (v := (8 : Int32)) hx hb dY_sums_426 (by decide) ?_
                    refine lv_iload (pc := 428) hx hb dY_sums_428 (lv_at hl 5 rfl) ?_
                    refine lv_imul (pc := 430) hx hb dY_sums_430 ?_
                    refine lv_lshr (pc := 431) (v := (jlshr z4 ((8 : Int32) * k8_404))) hx hb dY_sums_431 rfl ?_
                    refine lv_ldc2 (pc := 432) (v := (255 : Int64)) hx hb hown (hts _ gm_448) dY_sums_432 ?_
                    refine lv_land (pc := 435) hx hb dY_sums_435 ?_
                    refine qa_joini (J := 445) (ls2 := ls) (rest2 := [.long k6_404]) (if ((jlshr z2 ((8 : Int32) * k8_404)) &&& (255 : Int64)) < ((jlshr z4 ((8 : Int32) * k8_404)) &&& (255 : Int64)) then (0 : Int32) else (1 : Int32)) (fun hj445 => ?_) ?_
                    · refine qa_lc_lt (pc := 436) (tgt := 444) hx hb dY_sums_436 dY_sums_437 (by decide) (fun h436_57 => ?_) (fun h436_57 => ?_)
                      · refine lv_iconst (pc := 444) (v := (0 : Int32)) hx hb dY_sums_444 (by decide) ?_
                        exact hj445 _ (Eq.symm (if_pos h436_57))
                      · refine lv_iconst (pc := 440) (v := (1 : Int32)) hx hb dY_sums_440 (by decide) ?_
                        refine lv_goto (pc := 441) (tgt := 445) hx hb dY_sums_441 (by decide) ?_
                        exact hj445 _ (Eq.symm (if_neg h436_57))
                    refine qa_calld (pc := 445) (v := .long (if (if ((jlshr z2 ((8 : Int32) * k8_404)) &&& (255 : Int64)) < ((jlshr z4 ((8 : Int32) * k8_404)) &&& (255 : Int64)) then (0 : Int32) else (1 : Int32)) = (0 : Int32) then (0 : Int64) else (1 : Int64))) (va_runS (As := [.int (if ((jlshr z2 ((8 : Int32) * k8_404)) &&& (255 : Int64)) < ((jlshr z4 ((8 : Int32) * k8_404)) &&& (255 : Int64)) then (0 : Int32) else (1 : Int32))]) (rest := [.long k6_404]) ⟨hx, hb, hml, hown, hts⟩ (c_Y_is l (if ((jlshr z2 ((8 : Int32) * k8_404)) &&& (255 : Int64)) < ((jlshr z4 ((8 : Int32) * k8_404)) &&& (255 : Int64)) then (0 : Int32) else (1 : Int32))) (va_cwS 1 hts (gd_S gm_481 gm_479 gm_480 gm_6) rfl rfl rfl (by decide +kernel) ⟨Nat.le_of_ble_eq_true rfl, Nat.le_of_ble_eq_true rfl⟩) qa_S0 rfl rfl hl.1 rfl (lv_room (Nat.le_of_ble_eq_true rfl)) dY_sums_445 ⟨Nat.zero_le _, Nat.zero_le _⟩) ?_
                    refine lv_iload (pc := 448) hx hb dY_sums_448 (lv_at hl 5 rfl) ?_
                    refine lv_lshl (pc := 450) (v := (jlshl (if (if ((jlshr z2 ((8 : Int32) * k8_404)) &&& (255 : Int64)) < ((jlshr z4 ((8 : Int32) * k8_404)) &&& (255 : Int64)) then (0 : Int32) else (1 : Int32)) = (0 : Int32) then (0 : Int64) else (1 : Int64)) k8_404)) hx hb dY_sums_450 rfl ?_
                    refine lv_lor (pc := 451) hx hb dY_sums_451 ?_
                    refine lv_lstore (pc := 452) (lv' := [(6, .long (k6_404 ||| (jlshl (if (if ((jlshr z2 ((8 : Int32) * k8_404)) &&& (255 : Int64)) < ((jlshr z4 ((8 : Int32) * k8_404)) &&& (255 : Int64)) then (0 : Int32) else (1 : Int32)) = (0 : Int32) then (0 : Int64) else (1 : Int64)) k8_404))), (0, .ref qY), (1, .int z1), (2, .long z2), (4, .long z4), (8, .int k8_404)]) hx hb dY_sums_452 hl (by decide) rfl (fun ls hl => ?_)
                    refine lv_iinc (pc := 454) (k := 5) (lv' := [(8, .int (k8_404 + (1 : Int32))), (6, .long (k6_404 ||| (jlshl (if (if ((jlshr z2 ((8 : Int32) * k8_404)) &&& (255 : Int64)) < ((jlshr z4 ((8 : Int32) * k8_404)) &&& (255 : Int64)) then (0 : Int32) else (1 : Int32)) = (0 : Int32) then (0 : Int64) else (1 : Int64)) k8_404))), (0, .ref qY), (1, .int z1), (2, .long z2), (4, .long z4)]) hx hb dY_sums_454 hl rfl (qa_inc (by decide) k8_404) (by decide) rfl (fun ls hl => ?_)
                    refine lv_goto (pc := 457) (tgt := 404) hx hb dY_sums_457 (by decide) ?_
                    exact ih (k6_404 ||| (jlshl (if (if ((jlshr z2 ((8 : Int32) * k8_404)) &&& (255 : Int64)) < ((jlshr z4 ((8 : Int32) * k8_404)) &&& (255 : Int64)) then (0 : Int32) else (1 : Int32)) = (0 : Int32) then (0 : Int64) else (1 : Int64)) k8_404)) (k8_404 + (1 : Int32)) _ _ _ (rg_fs h408_52 hq404_fu) hP hD hS (lv_sub hl [2, 3, 4, 5, 1, 0] rfl) u hu
            exact hB404 9 (0 : Int64) (0 : Int32) _ _ _ (by decide) hP hD hS (lv_sub hl [2, 3, 4, 5, 1, 0] rfl) u hu
          · have hu := hu.trans (if_neg h4_51)
            have n4_6 : ¬ z1 = (15 : Int32) := h4_51
            rcases Decidable.em (z1 = (18 : Int32)) with h4_58 | h4_58
            · have hu := hu.trans (if_pos h4_58)
              refine lv_lookup (pc := 4) (tgt := 204) (off := 200) hx hb dY_sums_4 (by decide) (by rw [h4_58]; decide) (by decide) ?_
              refine lv_ldc2 (pc := 204) (v := (8 : Int64)) hx hb hown (hts _ gm_418) dY_sums_204 ?_
              refine lv_lload_n (pc := 207) hx hb dY_sums_207 rfl (lv_at hl 3 rfl) ?_
              refine lv_lmul (pc := 208) hx hb dY_sums_208 ?_
              refine lv_lload (pc := 209) hx hb dY_sums_209 (lv_at hl 4 rfl) ?_
              refine lv_ladd (pc := 211) hx hb dY_sums_211 ?_
              refine qa_calld (pc := 212) (v := .long (Int32.toInt64 (Int64.toInt32 (((8 : Int64) * z2) + z4)))) (va_runS (As := [.long (((8 : Int64) * z2) + z4)]) (rest := []) ⟨hx, hb, hml, hown, hts⟩ (c_Y_sx l (((8 : Int64) * z2) + z4)) (va_cwS 1 hts (gd_S gm_478 gm_476 gm_477 gm_6) rfl rfl rfl (by decide +kernel) ⟨Nat.le_of_ble_eq_true rfl, Nat.le_of_ble_eq_true rfl⟩) qa_S0 rfl rfl hl.1 rfl (lv_room (Nat.le_of_ble_eq_true rfl)) dY_sums_212 ⟨Nat.zero_le _, Nat.zero_le _⟩) ?_
              refine lv_lstore (pc := 215) (lv' := [(6, .long (Int32.toInt64 (Int64.toInt32 (((8 : Int64) * z2) + z4)))), (0, .ref qY), (1, .int z1), (2, .long z2), (4, .long z4)]) hx hb dY_sums_215 hl (by decide) rfl (fun ls hl => ?_)
              refine lv_goto (pc := 217) (tgt := 468) hx hb dY_sums_217 (by decide) ?_
              refine lv_aload_n (pc := 468) hx hb dY_sums_468 rfl (lv_at hl 1 rfl) ?_
              refine lv_iload_n (pc := 469) hx hb dY_sums_469 rfl (lv_at hl 2 rfl) ?_
              refine lv_bipush (pc := 470) (v := (64 : Int32)) hx hb dY_sums_470 (by decide) ?_
              refine lv_icmp_ne (pc := 472) (tgt := 491) hx hb dY_sums_472 (by decide) (fun h472_59 => ?_) (fun h472_59 => absurd h472_59 n4_1)
              refine lv_iload_n (pc := 491) hx hb dY_sums_491 rfl (lv_at hl 2 rfl) ?_
              refine lv_bipush (pc := 492) (v := (73 : Int32)) hx hb dY_sums_492 (by decide) ?_
              refine lv_icmp_ne (pc := 494) (tgt := 517) hx hb dY_sums_494 (by decide) (fun h494_60 => ?_) (fun h494_60 => absurd h494_60 n4_4)
              refine lv_iconst (pc := 517) (v := (0 : Int32)) hx hb dY_sums_517 (by decide) ?_
              refine va_put (D := (dC, dI)) (pc := 518) (ci := 5) (v := .int (0 : Int32)) (ty := .boolean) (C := "LongMachineModel") (T := TY) (N := 28) hx hb hts ui_Y tyY tyY_ok nmY hown hK hP hD hS 0 rfl rfl 25 (by decide) (hts _ gm_371) (fun _ h9 => h9) rfl (by decide +kernel) rfl rfl (Nat.le_of_ble_eq_true rfl) dY_sums_518 (fun H locs hP hD hS => ?_)
              have hP : va_P (dC, dI) vwCl (wY cI cJ qY qYm qYr qYv qYl qYn qYp qYs qYw qY6 yPc yMod yLev yLoc yKsp yUsp yKgp yVal yTab ySpc yHal yEnt yPen yBuf yHer yWrd yHas (0 : Int32) yNon yMem yR yV yPL yPN yBP yBS yBW ySix) H := hP
              have hD : va_D A (wY cI cJ qY qYm qYr qYv qYl qYn qYp qYs qYw qY6 yPc yMod yLev yLoc yKsp yUsp yKgp yVal yTab ySpc yHal yEnt yPen yBuf yHer yWrd yHas (0 : Int32) yNon yMem yR yV yPL yPN yBP yBS yBW ySix) := hD
              refine lv_iload_n (pc := 521) hx hb dY_sums_521 rfl (lv_at hl 2 rfl) ?_
              refine lv_bipush (pc := 522) (v := (96 : Int32)) hx hb dY_sums_522 (by decide) ?_
              refine lv_icmp_ne (pc := 524) (tgt := 588) hx hb dY_sums_524 (by decide) (fun h524_61 => ?_) (fun h524_61 => absurd h524_61 (by rw [h4_58]; decide))
              refine lv_iload_n (pc := 588) hx hb dY_sums_588 rfl (lv_at hl 2 rfl) ?_
              refine lv_bipush (pc := 589) (v := (105 : Int32)) hx hb dY_sums_589 (by decide) ?_
              refine lv_icmp_ne (pc := 591) (tgt := 655) hx hb dY_sums_591 (by decide) (fun h591_62 => ?_) (fun h591_62 => absurd h591_62 (by rw [h4_58]; decide))
              refine lv_lload (pc := 655) hx hb dY_sums_655 (lv_at hl 0 rfl) ?_
              subst hu
              exact W.lret hx hb hr (fun t ht hW => ⟨rfl, by rw [ht]; exact hP, hS.F ht⟩) hS.2.2 dY_sums_657
            · have hu := hu.trans (if_neg h4_58)
              have n4_7 : ¬ z1 = (18 : Int32) := h4_58
              rcases Decidable.em (z1 = (29 : Int32)) with h4_63 | h4_63
              · have hu := hu.trans (if_pos h4_63)
                refine lv_lookup (pc := 4) (tgt := 365) (off := 361) hx hb dY_sums_4 (by decide) (by rw [h4_63]; decide) (by decide) ?_
                refine lv_lload_n (pc := 365) hx hb dY_sums_365 rfl (lv_at hl 3 rfl) ?_
                refine lv_lload (pc := 366) hx hb dY_sums_366 (lv_at hl 4 rfl) ?_
                refine qa_calld (pc := 368) (v := .int (if (if z4 ≤ z2 then (0 : Int32) else (1 : Int32)) = (if (if (0 : Int64) ≤ z2 then (0 : Int32) else (1 : Int32)) = (if (0 : Int64) ≤ z4 then (0 : Int32) else (1 : Int32)) then (0 : Int32) else (1 : Int32)) then (0 : Int32) else (1 : Int32))) (va_runS (As := [.long z2, .long z4]) (rest := []) ⟨hx, hb, hml, hown, hts⟩ (c_Y_less l z2 z4) (va_cwS 2 hts (gd_S gm_484 gm_482 gm_483 gm_6) rfl rfl rfl (by decide +kernel) ⟨Nat.le_of_ble_eq_true rfl, Nat.le_of_ble_eq_true rfl⟩) qa_S0 rfl rfl hl.1 rfl (lv_room (Nat.le_of_ble_eq_true rfl)) dY_sums_368 ⟨Nat.zero_le _, Nat.zero_le _⟩) ?_
                refine qa_calld (pc := 371) (v := .long (if (if (if z4 ≤ z2 then (0 : Int32) else (1 : Int32)) = (if (if (0 : Int64) ≤ z2 then (0 : Int32) else (1 : Int32)) = (if (0 : Int64) ≤ z4 then (0 : Int32) else (1 : Int32)) then (0 : Int32) else (1 : Int32)) then (0 : Int32) else (1 : Int32)) = (0 : Int32) then (0 : Int64) else (1 : Int64))) (va_runS (As := [.int (if (if z4 ≤ z2 then (0 : Int32) else (1 : Int32)) = (if (if (0 : Int64) ≤ z2 then (0 : Int32) else (1 : Int32)) = (if (0 : Int64) ≤ z4 then (0 : Int32) else (1 : Int32)) then (0 : Int32) else (1 : Int32)) then (0 : Int32) else (1 : Int32))]) (rest := []) ⟨hx, hb, hml, hown, hts⟩ (c_Y_is l (if (if z4 ≤ z2 then (0 : Int32) else (1 : Int32)) = (if (if (0 : Int64) ≤ z2 then (0 : Int32) else (1 : Int32)) = (if (0 : Int64) ≤ z4 then (0 : Int32) else (1 : Int32)) then (0 : Int32) else (1 : Int32)) then (0 : Int32) else (1 : Int32))) (va_cwS 1 hts (gd_S gm_481 gm_479 gm_480 gm_6) rfl rfl rfl (by decide +kernel) ⟨Nat.le_of_ble_eq_true rfl, Nat.le_of_ble_eq_true rfl⟩) qa_S0 rfl rfl hl.1 rfl (lv_room (Nat.le_of_ble_eq_true rfl)) dY_sums_371 ⟨Nat.zero_le _, Nat.zero_le _⟩) ?_
                refine lv_lstore (pc := 374) (lv' := [(6, .long (if (if (if z4 ≤ z2 then (0 : Int32) else (1 : Int32)) = (if (if (0 : Int64) ≤ z2 then (0 : Int32) else (1 : Int32)) = (if (0 : Int64) ≤ z4 then (0 : Int32) else (1 : Int32)) then (0 : Int32) else (1 : Int32)) then (0 : Int32) else (1 : Int32)) = (0 : Int32) then (0 : Int64) else (1 : Int64))), (0, .ref qY), (1, .int z1), (2, .long z2), (4, .long z4)]) hx hb dY_sums_374 hl (by decide) rfl (fun ls hl => ?_)
                refine lv_goto (pc := 376) (tgt := 468) hx hb dY_sums_376 (by decide) ?_
                refine lv_aload_n (pc := 468) hx hb dY_sums_468 rfl (lv_at hl 1 rfl) ?_
                refine lv_iload_n (pc := 469) hx hb dY_sums_469 rfl (lv_at hl 2 rfl) ?_
                refine lv_bipush (pc := 470) (v := (64 : Int32)) hx hb dY_sums_470 (by decide) ?_
                refine lv_icmp_ne (pc := 472) (tgt := 491) hx hb dY_sums_472 (by decide) (fun h472_64 => ?_) (fun h472_64 => absurd h472_64 n4_1)
                refine lv_iload_n (pc := 491) hx hb dY_sums_491 rfl (lv_at hl 2 rfl) ?_
                refine lv_bipush (pc := 492) (v := (73 : Int32)) hx hb dY_sums_492 (by decide) ?_
                refine lv_icmp_ne (pc := 494) (tgt := 517) hx hb dY_sums_494 (by decide) (fun h494_65 => ?_) (fun h494_65 => absurd h494_65 n4_4)
                refine lv_iconst (pc := 517) (v := (0 : Int32)) hx hb dY_sums_517 (by decide) ?_
                refine va_put (D := (dC, dI)) (pc := 518) (ci := 5) (v := .int (0 : Int32)) (ty := .boolean) (C := "LongMachineModel") (T := TY) (N := 28) hx hb hts ui_Y tyY tyY_ok nmY hown hK hP hD hS 0 rfl rfl 25 (by decide) (hts _ gm_371) (fun _ h9 => h9) rfl (by decide +kernel) rfl rfl (Nat.le_of_ble_eq_true rfl) dY_sums_518 (fun H locs hP hD hS => ?_)
                have hP : va_P (dC, dI) vwCl (wY cI cJ qY qYm qYr qYv qYl qYn qYp qYs qYw qY6 yPc yMod yLev yLoc yKsp yUsp yKgp yVal yTab ySpc yHal yEnt yPen yBuf yHer yWrd yHas (0 : Int32) yNon yMem yR yV yPL yPN yBP yBS yBW ySix) H := hP
                have hD : va_D A (wY cI cJ qY qYm qYr qYv qYl qYn qYp qYs qYw qY6 yPc yMod yLev yLoc yKsp yUsp yKgp yVal yTab ySpc yHal yEnt yPen yBuf yHer yWrd yHas (0 : Int32) yNon yMem yR yV yPL yPN yBP yBS yBW ySix) := hD
                refine lv_iload_n (pc := 521) hx hb dY_sums_521 rfl (lv_at hl 2 rfl) ?_
                refine lv_bipush (pc := 522) (v := (96 : Int32)) hx hb dY_sums_522 (by decide) ?_
                refine lv_icmp_ne (pc := 524) (tgt := 588) hx hb dY_sums_524 (by decide) (fun h524_66 => ?_) (fun h524_66 => absurd h524_66 (by rw [h4_63]; decide))
                refine lv_iload_n (pc := 588) hx hb dY_sums_588 rfl (lv_at hl 2 rfl) ?_
                refine lv_bipush (pc := 589) (v := (105 : Int32)) hx hb dY_sums_589 (by decide) ?_
                refine lv_icmp_ne (pc := 591) (tgt := 655) hx hb dY_sums_591 (by decide) (fun h591_67 => ?_) (fun h591_67 => absurd h591_67 (by rw [h4_63]; decide))
                refine lv_lload (pc := 655) hx hb dY_sums_655 (lv_at hl 0 rfl) ?_
                subst hu
                exact W.lret hx hb hr (fun t ht hW => ⟨rfl, by rw [ht]; exact hP, hS.F ht⟩) hS.2.2 dY_sums_657
              · have hu := hu.trans (if_neg h4_63)
                have n4_8 : ¬ z1 = (29 : Int32) := h4_63
                rcases Decidable.em (z1 = (32 : Int32) ∨ z1 = (96 : Int32)) with h4_68 | h4_68
                · have hu := hu.trans (if_pos h4_68)
                  refine lv_lookup (pc := 4) (tgt := 248) (off := 244) hx hb dY_sums_4 (by decide) (by rcases h4_68 with h | h <;> (rw [h]; decide)) (by decide) ?_
                  refine lv_lload_n (pc := 248) hx hb dY_sums_248 rfl (lv_at hl 3 rfl) ?_
                  refine lv_lload (pc := 249) hx hb dY_sums_249 (lv_at hl 4 rfl) ?_
                  refine lv_ladd (pc := 251) hx hb dY_sums_251 ?_
                  refine lv_lstore (pc := 252) (lv' := [(6, .long (z2 + z4)), (0, .ref qY), (1, .int z1), (2, .long z2), (4, .long z4)]) hx hb dY_sums_252 hl (by decide) rfl (fun ls hl => ?_)
                  refine lv_goto (pc := 254) (tgt := 468) hx hb dY_sums_254 (by decide) ?_
                  refine lv_aload_n (pc := 468) hx hb dY_sums_468 rfl (lv_at hl 1 rfl) ?_
                  refine lv_iload_n (pc := 469) hx hb dY_sums_469 rfl (lv_at hl 2 rfl) ?_
                  refine lv_bipush (pc := 470) (v := (64 : Int32)) hx hb dY_sums_470 (by decide) ?_
                  refine lv_icmp_ne (pc := 472) (tgt := 491) hx hb dY_sums_472 (by decide) (fun h472_69 => ?_) (fun h472_69 => absurd h472_69 n4_1)
                  refine lv_iload_n (pc := 491) hx hb dY_sums_491 rfl (lv_at hl 2 rfl) ?_
                  refine lv_bipush (pc := 492) (v := (73 : Int32)) hx hb dY_sums_492 (by decide) ?_
                  refine lv_icmp_ne (pc := 494) (tgt := 517) hx hb dY_sums_494 (by decide) (fun h494_70 => ?_) (fun h494_70 => absurd h494_70 n4_4)
                  refine lv_iconst (pc := 517) (v := (0 : Int32)) hx hb dY_sums_517 (by decide) ?_
                  refine va_put (D := (dC, dI)) (pc := 518) (ci := 5) (v := .int (0 : Int32)) (ty := .boolean) (C := "LongMachineModel") (T := TY) (N := 28) hx hb hts ui_Y tyY tyY_ok nmY hown hK hP hD hS 0 rfl rfl 25 (by decide) (hts _ gm_371) (fun _ h9 => h9) rfl (by decide +kernel) rfl rfl (Nat.le_of_ble_eq_true rfl) dY_sums_518 (fun H locs hP hD hS => ?_)
                  have hP : va_P (dC, dI) vwCl (wY cI cJ qY qYm qYr qYv qYl qYn qYp qYs qYw qY6 yPc yMod yLev yLoc yKsp yUsp yKgp yVal yTab ySpc yHal yEnt yPen yBuf yHer yWrd yHas (0 : Int32) yNon yMem yR yV yPL yPN yBP yBS yBW ySix) H := hP
                  have hD : va_D A (wY cI cJ qY qYm qYr qYv qYl qYn qYp qYs qYw qY6 yPc yMod yLev yLoc yKsp yUsp yKgp yVal yTab ySpc yHal yEnt yPen yBuf yHer yWrd yHas (0 : Int32) yNon yMem yR yV yPL yPN yBP yBS yBW ySix) := hD
                  refine lv_iload_n (pc := 521) hx hb dY_sums_521 rfl (lv_at hl 2 rfl) ?_
                  refine lv_bipush (pc := 522) (v := (96 : Int32)) hx hb dY_sums_522 (by decide) ?_
                  refine lv_icmp_ne (pc := 524) (tgt := 588) hx hb dY_sums_524 (by decide) (fun h524_71 => ?_) (fun h524_71 => ?_)
                  · have hu := hu.trans (if_neg h524_71)
                    refine lv_iload_n (pc := 588) hx hb dY_sums_588 rfl (lv_at hl 2 rfl) ?_
                    refine lv_bipush (pc := 589) (v := (105 : Int32)) hx hb dY_sums_589 (by decide) ?_
                    refine lv_icmp_ne (pc := 591) (tgt := 655) hx hb dY_sums_591 (by decide) (fun h591_72 => ?_) (fun h591_72 => ?_)
                    · have hu := hu.trans (if_neg h591_72)
                      refine lv_lload (pc := 655) hx hb dY_sums_655 (lv_at hl 0 rfl) ?_
                      subst hu
                      exact W.lret hx hb hr (fun t ht hW => ⟨rfl, by rw [ht]; exact hP, hS.F ht⟩) hS.2.2 dY_sums_657
                    · have hu := hu.trans (if_pos h591_72)
                      refine lv_aload_n (pc := 594) hx hb dY_sums_594 rfl (lv_at hl 1 rfl) ?_
                      refine lv_lload_n (pc := 595) hx hb dY_sums_595 rfl (lv_at hl 3 rfl) ?_
                      refine lv_lconst (pc := 596) (v := (0 : Int64)) hx hb dY_sums_596 (by decide) ?_
                      refine qa_joini (J := 606) (ls2 := ls) (rest2 := [.ref qY]) (if (0 : Int64) ≤ z2 then (0 : Int32) else (1 : Int32)) (fun hj606 => ?_) ?_
                      · refine qa_lc_ge (pc := 597) (tgt := 605) hx hb dY_sums_597 dY_sums_598 (by decide) (fun h597_73 => ?_) (fun h597_73 => ?_)
                        · refine lv_iconst (pc := 605) (v := (0 : Int32)) hx hb dY_sums_605 (by decide) ?_
                          exact hj606 _ (Eq.symm (if_pos h597_73))
                        · refine lv_iconst (pc := 601) (v := (1 : Int32)) hx hb dY_sums_601 (by decide) ?_
                          refine lv_goto (pc := 602) (tgt := 606) hx hb dY_sums_602 (by decide) ?_
                          exact hj606 _ (Eq.symm (if_neg h597_73))
                      refine lv_lload (pc := 606) hx hb dY_sums_606 (lv_at hl 4 rfl) ?_
                      refine lv_lconst (pc := 608) (v := (0 : Int64)) hx hb dY_sums_608 (by decide) ?_
                      refine qa_joini (J := 618) (ls2 := ls) (rest2 := [.int (if (0 : Int64) ≤ z2 then (0 : Int32) else (1 : Int32)), .ref qY]) (if (0 : Int64) ≤ z4 then (0 : Int32) else (1 : Int32)) (fun hj618 => ?_) ?_
                      · refine qa_lc_ge (pc := 609) (tgt := 617) hx hb dY_sums_609 dY_sums_610 (by decide) (fun h609_74 => ?_) (fun h609_74 => ?_)
                        · refine lv_iconst (pc := 617) (v := (0 : Int32)) hx hb dY_sums_617 (by decide) ?_
                          exact hj618 _ (Eq.symm (if_pos h609_74))
                        · refine lv_iconst (pc := 613) (v := (1 : Int32)) hx hb dY_sums_613 (by decide) ?_
                          refine lv_goto (pc := 614) (tgt := 618) hx hb dY_sums_614 (by decide) ?_
                          exact hj618 _ (Eq.symm (if_neg h609_74))
                      refine qa_joini (J := 652) (ls2 := ls) (rest2 := [.ref qY]) (if (if (0 : Int64) ≤ z2 then (0 : Int32) else (1 : Int32)) = (if (0 : Int64) ≤ z4 then (0 : Int32) else (1 : Int32)) then (0 : Int32) else (if (if (0 : Int64) ≤ (z2 + z4) then (0 : Int32) else (1 : Int32)) = (if (0 : Int64) ≤ z2 then (0 : Int32) else (1 : Int32)) then (0 : Int32) else (1 : Int32))) (fun hj652 => ?_) ?_
                      · refine lv_icmp_eq (pc := 618) (tgt := 651) hx hb dY_sums_618 (by decide) (fun h618_75 => ?_) (fun h618_75 => ?_)
                        · refine lv_iconst (pc := 651) (v := (0 : Int32)) hx hb dY_sums_651 (by decide) ?_
                          exact hj652 _ (Eq.symm (if_pos h618_75))
                        · refine lv_lload (pc := 621) hx hb dY_sums_621 (lv_at hl 0 rfl) ?_
                          refine lv_lconst (pc := 623) (v := (0 : Int64)) hx hb dY_sums_623 (by decide) ?_
                          refine qa_joini (J := 633) (ls2 := ls) (rest2 := [.ref qY]) (if (0 : Int64) ≤ (z2 + z4) then (0 : Int32) else (1 : Int32)) (fun hj633 => ?_) ?_
                          · refine qa_lc_ge (pc := 624) (tgt := 632) hx hb dY_sums_624 dY_sums_625 (by decide) (fun h624_76 => ?_) (fun h624_76 => ?_)
                            · refine lv_iconst (pc := 632) (v := (0 : Int32)) hx hb dY_sums_632 (by decide) ?_
                              exact hj633 _ (Eq.symm (if_pos h624_76))
                            · refine lv_iconst (pc := 628) (v := (1 : Int32)) hx hb dY_sums_628 (by decide) ?_
                              refine lv_goto (pc := 629) (tgt := 633) hx hb dY_sums_629 (by decide) ?_
                              exact hj633 _ (Eq.symm (if_neg h624_76))
                          refine lv_lload_n (pc := 633) hx hb dY_sums_633 rfl (lv_at hl 3 rfl) ?_
                          refine lv_lconst (pc := 634) (v := (0 : Int64)) hx hb dY_sums_634 (by decide) ?_
                          refine qa_joini (J := 644) (ls2 := ls) (rest2 := [.int (if (0 : Int64) ≤ (z2 + z4) then (0 : Int32) else (1 : Int32)), .ref qY]) (if (0 : Int64) ≤ z2 then (0 : Int32) else (1 : Int32)) (fun hj644 => ?_) ?_
                          · refine qa_lc_ge (pc := 635) (tgt := 643) hx hb dY_sums_635 dY_sums_636 (by decide) (fun h635_77 => ?_) (fun h635_77 => ?_)
                            · refine lv_iconst (pc := 643) (v := (0 : Int32)) hx hb dY_sums_643 (by decide) ?_
                              exact hj644 _ (Eq.symm (if_pos h635_77))
                            · refine lv_iconst (pc := 639) (v := (1 : Int32)) hx hb dY_sums_639 (by decide) ?_
                              refine lv_goto (pc := 640) (tgt := 644) hx hb dY_sums_640 (by decide) ?_
                              exact hj644 _ (Eq.symm (if_neg h635_77))
                          refine lv_icmp_eq (pc := 644) (tgt := 651) hx hb dY_sums_644 (by decide) (fun h644_78 => ?_) (fun h644_78 => ?_)
                          · refine lv_iconst (pc := 651) (v := (0 : Int32)) hx hb dY_sums_651 (by decide) ?_
                            exact hj652 _ (Eq.symm (Eq.trans (if_neg h618_75) (if_pos h644_78)))
                          · refine lv_iconst (pc := 647) (v := (1 : Int32)) hx hb dY_sums_647 (by decide) ?_
                            refine lv_goto (pc := 648) (tgt := 652) hx hb dY_sums_648 (by decide) ?_
                            exact hj652 _ (Eq.symm (Eq.trans (if_neg h618_75) (if_neg h644_78)))
                      refine va_put (D := (dC, dI)) (pc := 652) (ci := 5) (v := .int (if (if (0 : Int64) ≤ z2 then (0 : Int32) else (1 : Int32)) = (if (0 : Int64) ≤ z4 then (0 : Int32) else (1 : Int32)) then (0 : Int32) else (if (if (0 : Int64) ≤ (z2 + z4) then (0 : Int32) else (1 : Int32)) = (if (0 : Int64) ≤ z2 then (0 : Int32) else (1 : Int32)) then (0 : Int32) else (1 : Int32)))) (ty := .boolean) (C := "LongMachineModel") (T := TY) (N := 28) hx hb hts ui_Y tyY tyY_ok nmY hown hK hP hD hS 0 rfl rfl 25 (by decide) (hts _ gm_371) (fun _ h9 => h9) rfl (by decide +kernel) (qa_nb (qa_bi qa_b0 (qa_bi qa_b0 qa_b1))) (qa_fb (qa_bi qa_b0 (qa_bi qa_b0 qa_b1))) (Nat.le_of_ble_eq_true rfl) dY_sums_652 (fun H locs hP hD hS => ?_)
                      have hP : va_P (dC, dI) vwCl (wY cI cJ qY qYm qYr qYv qYl qYn qYp qYs qYw qY6 yPc yMod yLev yLoc yKsp yUsp yKgp yVal yTab ySpc yHal yEnt yPen yBuf yHer yWrd yHas (if (if (0 : Int64) ≤ z2 then (0 : Int32) else (1 : Int32)) = (if (0 : Int64) ≤ z4 then (0 : Int32) else (1 : Int32)) then (0 : Int32) else (if (if (0 : Int64) ≤ (z2 + z4) then (0 : Int32) else (1 : Int32)) = (if (0 : Int64) ≤ z2 then (0 : Int32) else (1 : Int32)) then (0 : Int32) else (1 : Int32))) yNon yMem yR yV yPL yPN yBP yBS yBW ySix) H := hP
                      have hD : va_D A (wY cI cJ qY qYm qYr qYv qYl qYn qYp qYs qYw qY6 yPc yMod yLev yLoc yKsp yUsp yKgp yVal yTab ySpc yHal yEnt yPen yBuf yHer yWrd yHas (if (if (0 : Int64) ≤ z2 then (0 : Int32) else (1 : Int32)) = (if (0 : Int64) ≤ z4 then (0 : Int32) else (1 : Int32)) then (0 : Int32) else (if (if (0 : Int64) ≤ (z2 + z4) then (0 : Int32) else (1 : Int32)) = (if (0 : Int64) ≤ z2 then (0 : Int32) else (1 : Int32)) then (0 : Int32) else (1 : Int32))) yNon yMem yR yV yPL yPN yBP yBS yBW ySix) := hD
                      refine lv_lload (pc := 655) hx hb dY_sums_655 (lv_at hl 0 rfl) ?_
                      subst hu
                      exact W.lret hx hb hr (fun t ht hW => ⟨rfl, by rw [ht]; exact hP, hS.F ht⟩) hS.2.2 dY_sums_657
                  · have hu := hu.trans (if_pos h524_71)
                    refine lv_aload_n (pc := 527) hx hb dY_sums_527 rfl (lv_at hl 1 rfl) ?_
                    refine lv_lload_n (pc := 528) hx hb dY_sums_528 rfl (lv_at hl 3 rfl) ?_
                    refine lv_lconst (pc := 529) (v := (0 : Int64)) hx hb dY_sums_529 (by decide) ?_
                    refine qa_joini (J := 539) (ls2 := ls) (rest2 := [.ref qY]) (if (0 : Int64) ≤ z2 then (0 : Int32) else (1 : Int32)) (fun hj539 => ?_) ?_
                    · refine qa_lc_ge (pc := 530) (tgt := 538) hx hb dY_sums_530 dY_sums_531 (by decide) (fun h530_79 => ?_) (fun h530_79 => ?_)
                      · refine lv_iconst (pc := 538) (v := (0 : Int32)) hx hb dY_sums_538 (by decide) ?_
                        exact hj539 _ (Eq.symm (if_pos h530_79))
                      · refine lv_iconst (pc := 534) (v := (1 : Int32)) hx hb dY_sums_534 (by decide) ?_
                        refine lv_goto (pc := 535) (tgt := 539) hx hb dY_sums_535 (by decide) ?_
                        exact hj539 _ (Eq.symm (if_neg h530_79))
                    refine lv_lload (pc := 539) hx hb dY_sums_539 (lv_at hl 4 rfl) ?_
                    refine lv_lconst (pc := 541) (v := (0 : Int64)) hx hb dY_sums_541 (by decide) ?_
                    refine qa_joini (J := 551) (ls2 := ls) (rest2 := [.int (if (0 : Int64) ≤ z2 then (0 : Int32) else (1 : Int32)), .ref qY]) (if (0 : Int64) ≤ z4 then (0 : Int32) else (1 : Int32)) (fun hj551 => ?_) ?_
                    · refine qa_lc_ge (pc := 542) (tgt := 550) hx hb dY_sums_542 dY_sums_543 (by decide) (fun h542_80 => ?_) (fun h542_80 => ?_)
                      · refine lv_iconst (pc := 550) (v := (0 : Int32)) hx hb dY_sums_550 (by decide) ?_
                        exact hj551 _ (Eq.symm (if_pos h542_80))
                      · refine lv_iconst (pc := 546) (v := (1 : Int32)) hx hb dY_sums_546 (by decide) ?_
                        refine lv_goto (pc := 547) (tgt := 551) hx hb dY_sums_547 (by decide) ?_
                        exact hj551 _ (Eq.symm (if_neg h542_80))
                    refine qa_joini (J := 585) (ls2 := ls) (rest2 := [.ref qY]) (if (if (0 : Int64) ≤ z2 then (0 : Int32) else (1 : Int32)) = (if (0 : Int64) ≤ z4 then (0 : Int32) else (1 : Int32)) then (if (if (0 : Int64) ≤ (z2 + z4) then (0 : Int32) else (1 : Int32)) = (if (0 : Int64) ≤ z2 then (0 : Int32) else (1 : Int32)) then (0 : Int32) else (1 : Int32)) else (0 : Int32)) (fun hj585 => ?_) ?_
                    · refine lv_icmp_ne (pc := 551) (tgt := 584) hx hb dY_sums_551 (by decide) (fun h551_81 => ?_) (fun h551_81 => ?_)
                      · refine lv_iconst (pc := 584) (v := (0 : Int32)) hx hb dY_sums_584 (by decide) ?_
                        exact hj585 _ (Eq.symm (if_neg h551_81))
                      · refine lv_lload (pc := 554) hx hb dY_sums_554 (lv_at hl 0 rfl) ?_
                        refine lv_lconst (pc := 556) (v := (0 : Int64)) hx hb dY_sums_556 (by decide) ?_
                        refine qa_joini (J := 566) (ls2 := ls) (rest2 := [.ref qY]) (if (0 : Int64) ≤ (z2 + z4) then (0 : Int32) else (1 : Int32)) (fun hj566 => ?_) ?_
                        · refine qa_lc_ge (pc := 557) (tgt := 565) hx hb dY_sums_557 dY_sums_558 (by decide) (fun h557_82 => ?_) (fun h557_82 => ?_)
                          · refine lv_iconst (pc := 565) (v := (0 : Int32)) hx hb dY_sums_565 (by decide) ?_
                            exact hj566 _ (Eq.symm (if_pos h557_82))
                          · refine lv_iconst (pc := 561) (v := (1 : Int32)) hx hb dY_sums_561 (by decide) ?_
                            refine lv_goto (pc := 562) (tgt := 566) hx hb dY_sums_562 (by decide) ?_
                            exact hj566 _ (Eq.symm (if_neg h557_82))
                        refine lv_lload_n (pc := 566) hx hb dY_sums_566 rfl (lv_at hl 3 rfl) ?_
                        refine lv_lconst (pc := 567) (v := (0 : Int64)) hx hb dY_sums_567 (by decide) ?_
                        refine qa_joini (J := 577) (ls2 := ls) (rest2 := [.int (if (0 : Int64) ≤ (z2 + z4) then (0 : Int32) else (1 : Int32)), .ref qY]) (if (0 : Int64) ≤ z2 then (0 : Int32) else (1 : Int32)) (fun hj577 => ?_) ?_
                        · refine qa_lc_ge (pc := 568) (tgt := 576) hx hb dY_sums_568 dY_sums_569 (by decide) (fun h568_83 => ?_) (fun h568_83 => ?_)
                          · refine lv_iconst (pc := 576) (v := (0 : Int32)) hx hb dY_sums_576 (by decide) ?_
                            exact hj577 _ (Eq.symm (if_pos h568_83))
                          · refine lv_iconst (pc := 572) (v := (1 : Int32)) hx hb dY_sums_572 (by decide) ?_
                            refine lv_goto (pc := 573) (tgt := 577) hx hb dY_sums_573 (by decide) ?_
                            exact hj577 _ (Eq.symm (if_neg h568_83))
                        refine lv_icmp_eq (pc := 577) (tgt := 584) hx hb dY_sums_577 (by decide) (fun h577_84 => ?_) (fun h577_84 => ?_)
                        · refine lv_iconst (pc := 584) (v := (0 : Int32)) hx hb dY_sums_584 (by decide) ?_
                          exact hj585 _ (Eq.symm (Eq.trans (if_pos h551_81) (if_pos h577_84)))
                        · refine lv_iconst (pc := 580) (v := (1 : Int32)) hx hb dY_sums_580 (by decide) ?_
                          refine lv_goto (pc := 581) (tgt := 585) hx hb dY_sums_581 (by decide) ?_
                          exact hj585 _ (Eq.symm (Eq.trans (if_pos h551_81) (if_neg h577_84)))
                    refine va_put (D := (dC, dI)) (pc := 585) (ci := 5) (v := .int (if (if (0 : Int64) ≤ z2 then (0 : Int32) else (1 : Int32)) = (if (0 : Int64) ≤ z4 then (0 : Int32) else (1 : Int32)) then (if (if (0 : Int64) ≤ (z2 + z4) then (0 : Int32) else (1 : Int32)) = (if (0 : Int64) ≤ z2 then (0 : Int32) else (1 : Int32)) then (0 : Int32) else (1 : Int32)) else (0 : Int32))) (ty := .boolean) (C := "LongMachineModel") (T := TY) (N := 28) hx hb hts ui_Y tyY tyY_ok nmY hown hK hP hD hS 0 rfl rfl 25 (by decide) (hts _ gm_371) (fun _ h9 => h9) rfl (by decide +kernel) (qa_nb (qa_bi (qa_bi qa_b0 qa_b1) qa_b0)) (qa_fb (qa_bi (qa_bi qa_b0 qa_b1) qa_b0)) (Nat.le_of_ble_eq_true rfl) dY_sums_585 (fun H locs hP hD hS => ?_)
                    have hP : va_P (dC, dI) vwCl (wY cI cJ qY qYm qYr qYv qYl qYn qYp qYs qYw qY6 yPc yMod yLev yLoc yKsp yUsp yKgp yVal yTab ySpc yHal yEnt yPen yBuf yHer yWrd yHas (if (if (0 : Int64) ≤ z2 then (0 : Int32) else (1 : Int32)) = (if (0 : Int64) ≤ z4 then (0 : Int32) else (1 : Int32)) then (if (if (0 : Int64) ≤ (z2 + z4) then (0 : Int32) else (1 : Int32)) = (if (0 : Int64) ≤ z2 then (0 : Int32) else (1 : Int32)) then (0 : Int32) else (1 : Int32)) else (0 : Int32)) yNon yMem yR yV yPL yPN yBP yBS yBW ySix) H := hP
                    have hD : va_D A (wY cI cJ qY qYm qYr qYv qYl qYn qYp qYs qYw qY6 yPc yMod yLev yLoc yKsp yUsp yKgp yVal yTab ySpc yHal yEnt yPen yBuf yHer yWrd yHas (if (if (0 : Int64) ≤ z2 then (0 : Int32) else (1 : Int32)) = (if (0 : Int64) ≤ z4 then (0 : Int32) else (1 : Int32)) then (if (if (0 : Int64) ≤ (z2 + z4) then (0 : Int32) else (1 : Int32)) = (if (0 : Int64) ≤ z2 then (0 : Int32) else (1 : Int32)) then (0 : Int32) else (1 : Int32)) else (0 : Int32)) yNon yMem yR yV yPL yPN yBP yBS yBW ySix) := hD
                    refine lv_iload_n (pc := 588) hx hb dY_sums_588 rfl (lv_at hl 2 rfl) ?_
                    refine lv_bipush (pc := 589) (v := (105 : Int32)) hx hb dY_sums_589 (by decide) ?_
                    refine lv_icmp_ne (pc := 591) (tgt := 655) hx hb dY_sums_591 (by decide) (fun h591_85 => ?_) (fun h591_85 => absurd h591_85 (by rw [h524_71]; decide))
                    refine lv_lload (pc := 655) hx hb dY_sums_655 (lv_at hl 0 rfl) ?_
                    subst hu
                    exact W.lret hx hb hr (fun t ht hW => ⟨rfl, by rw [ht]; exact hP, hS.F ht⟩) hS.2.2 dY_sums_657
                · have hu := hu.trans (if_neg h4_68)
                  have n4_9 : ¬ z1 = (32 : Int32) := fun q => h4_68 (Or.inl q)
                  have n4_10 : ¬ z1 = (96 : Int32) := fun q => h4_68 (Or.inr (q))
                  rcases Decidable.em (z1 = (34 : Int32)) with h4_86 | h4_86
                  · have hu := hu.trans (if_pos h4_86)
                    refine lv_lookup (pc := 4) (tgt := 257) (off := 253) hx hb dY_sums_4 (by decide) (by rw [h4_86]; decide) (by decide) ?_
                    refine lv_ldc2 (pc := 257) (v := (4 : Int64)) hx hb hown (hts _ gm_452) dY_sums_257 ?_
                    refine lv_lload_n (pc := 260) hx hb dY_sums_260 rfl (lv_at hl 3 rfl) ?_
                    refine lv_lmul (pc := 261) hx hb dY_sums_261 ?_
                    refine lv_lload (pc := 262) hx hb dY_sums_262 (lv_at hl 4 rfl) ?_
                    refine lv_ladd (pc := 264) hx hb dY_sums_264 ?_
                    refine lv_lstore (pc := 265) (lv' := [(6, .long (((4 : Int64) * z2) + z4)), (0, .ref qY), (1, .int z1), (2, .long z2), (4, .long z4)]) hx hb dY_sums_265 hl (by decide) rfl (fun ls hl => ?_)
                    refine lv_goto (pc := 267) (tgt := 468) hx hb dY_sums_267 (by decide) ?_
                    refine lv_aload_n (pc := 468) hx hb dY_sums_468 rfl (lv_at hl 1 rfl) ?_
                    refine lv_iload_n (pc := 469) hx hb dY_sums_469 rfl (lv_at hl 2 rfl) ?_
                    refine lv_bipush (pc := 470) (v := (64 : Int32)) hx hb dY_sums_470 (by decide) ?_
                    refine lv_icmp_ne (pc := 472) (tgt := 491) hx hb dY_sums_472 (by decide) (fun h472_87 => ?_) (fun h472_87 => absurd h472_87 n4_1)
                    refine lv_iload_n (pc := 491) hx hb dY_sums_491 rfl (lv_at hl 2 rfl) ?_
                    refine lv_bipush (pc := 492) (v := (73 : Int32)) hx hb dY_sums_492 (by decide) ?_
                    refine lv_icmp_ne (pc := 494) (tgt := 517) hx hb dY_sums_494 (by decide) (fun h494_88 => ?_) (fun h494_88 => absurd h494_88 n4_4)
                    refine lv_iconst (pc := 517) (v := (0 : Int32)) hx hb dY_sums_517 (by decide) ?_
                    refine va_put (D := (dC, dI)) (pc := 518) (ci := 5) (v := .int (0 : Int32)) (ty := .boolean) (C := "LongMachineModel") (T := TY) (N := 28) hx hb hts ui_Y tyY tyY_ok nmY hown hK hP hD hS 0 rfl rfl 25 (by decide) (hts _ gm_371) (fun _ h9 => h9) rfl (by decide +kernel) rfl rfl (Nat.le_of_ble_eq_true rfl) dY_sums_518 (fun H locs hP hD hS => ?_)
                    have hP : va_P (dC, dI) vwCl (wY cI cJ qY qYm qYr qYv qYl qYn qYp qYs qYw qY6 yPc yMod yLev yLoc yKsp yUsp yKgp yVal yTab ySpc yHal yEnt yPen yBuf yHer yWrd yHas (0 : Int32) yNon yMem yR yV yPL yPN yBP yBS yBW ySix) H := hP
                    have hD : va_D A (wY cI cJ qY qYm qYr qYv qYl qYn qYp qYs qYw qY6 yPc yMod yLev yLoc yKsp yUsp yKgp yVal yTab ySpc yHal yEnt yPen yBuf yHer yWrd yHas (0 : Int32) yNon yMem yR yV yPL yPN yBP yBS yBW ySix) := hD
                    refine lv_iload_n (pc := 521) hx hb dY_sums_521 rfl (lv_at hl 2 rfl) ?_
                    refine lv_bipush (pc := 522) (v := (96 : Int32)) hx hb dY_sums_522 (by decide) ?_
                    refine lv_icmp_ne (pc := 524) (tgt := 588) hx hb dY_sums_524 (by decide) (fun h524_89 => ?_) (fun h524_89 => absurd h524_89 n4_10)
                    refine lv_iload_n (pc := 588) hx hb dY_sums_588 rfl (lv_at hl 2 rfl) ?_
                    refine lv_bipush (pc := 589) (v := (105 : Int32)) hx hb dY_sums_589 (by decide) ?_
                    refine lv_icmp_ne (pc := 591) (tgt := 655) hx hb dY_sums_591 (by decide) (fun h591_90 => ?_) (fun h591_90 => absurd h591_90 (by rw [h4_86]; decide))
                    refine lv_lload (pc := 655) hx hb dY_sums_655 (lv_at hl 0 rfl) ?_
                    subst hu
                    exact W.lret hx hb hr (fun t ht hW => ⟨rfl, by rw [ht]; exact hP, hS.F ht⟩) hS.2.2 dY_sums_657
                  · have hu := hu.trans (if_neg h4_86)
                    have n4_11 : ¬ z1 = (34 : Int32) := h4_86
                    rcases Decidable.em (z1 = (41 : Int32) ∨ z1 = (105 : Int32)) with h4_91 | h4_91
                    · have hu := hu.trans (if_pos h4_91)
                      refine lv_lookup (pc := 4) (tgt := 283) (off := 279) hx hb dY_sums_4 (by decide) (by rcases h4_91 with h | h <;> (rw [h]; decide)) (by decide) ?_
                      refine lv_lload_n (pc := 283) hx hb dY_sums_283 rfl (lv_at hl 3 rfl) ?_
                      refine lv_lload (pc := 284) hx hb dY_sums_284 (lv_at hl 4 rfl) ?_
                      refine lv_lsub (pc := 286) hx hb dY_sums_286 ?_
                      refine lv_lstore (pc := 287) (lv' := [(6, .long (z2 - z4)), (0, .ref qY), (1, .int z1), (2, .long z2), (4, .long z4)]) hx hb dY_sums_287 hl (by decide) rfl (fun ls hl => ?_)
                      refine lv_goto (pc := 289) (tgt := 468) hx hb dY_sums_289 (by decide) ?_
                      refine lv_aload_n (pc := 468) hx hb dY_sums_468 rfl (lv_at hl 1 rfl) ?_
                      refine lv_iload_n (pc := 469) hx hb dY_sums_469 rfl (lv_at hl 2 rfl) ?_
                      refine lv_bipush (pc := 470) (v := (64 : Int32)) hx hb dY_sums_470 (by decide) ?_
                      refine lv_icmp_ne (pc := 472) (tgt := 491) hx hb dY_sums_472 (by decide) (fun h472_92 => ?_) (fun h472_92 => absurd h472_92 n4_1)
                      refine lv_iload_n (pc := 491) hx hb dY_sums_491 rfl (lv_at hl 2 rfl) ?_
                      refine lv_bipush (pc := 492) (v := (73 : Int32)) hx hb dY_sums_492 (by decide) ?_
                      refine lv_icmp_ne (pc := 494) (tgt := 517) hx hb dY_sums_494 (by decide) (fun h494_93 => ?_) (fun h494_93 => absurd h494_93 n4_4)
                      refine lv_iconst (pc := 517) (v := (0 : Int32)) hx hb dY_sums_517 (by decide) ?_
                      refine va_put (D := (dC, dI)) (pc := 518) (ci := 5) (v := .int (0 : Int32)) (ty := .boolean) (C := "LongMachineModel") (T := TY) (N := 28) hx hb hts ui_Y tyY tyY_ok nmY hown hK hP hD hS 0 rfl rfl 25 (by decide) (hts _ gm_371) (fun _ h9 => h9) rfl (by decide +kernel) rfl rfl (Nat.le_of_ble_eq_true rfl) dY_sums_518 (fun H locs hP hD hS => ?_)
                      have hP : va_P (dC, dI) vwCl (wY cI cJ qY qYm qYr qYv qYl qYn qYp qYs qYw qY6 yPc yMod yLev yLoc yKsp yUsp yKgp yVal yTab ySpc yHal yEnt yPen yBuf yHer yWrd yHas (0 : Int32) yNon yMem yR yV yPL yPN yBP yBS yBW ySix) H := hP
                      have hD : va_D A (wY cI cJ qY qYm qYr qYv qYl qYn qYp qYs qYw qY6 yPc yMod yLev yLoc yKsp yUsp yKgp yVal yTab ySpc yHal yEnt yPen yBuf yHer yWrd yHas (0 : Int32) yNon yMem yR yV yPL yPN yBP yBS yBW ySix) := hD
                      refine lv_iload_n (pc := 521) hx hb dY_sums_521 rfl (lv_at hl 2 rfl) ?_
                      refine lv_bipush (pc := 522) (v := (96 : Int32)) hx hb dY_sums_522 (by decide) ?_
                      refine lv_icmp_ne (pc := 524) (tgt := 588) hx hb dY_sums_524 (by decide) (fun h524_94 => ?_) (fun h524_94 => absurd h524_94 n4_10)
                      refine lv_iload_n (pc := 588) hx hb dY_sums_588 rfl (lv_at hl 2 rfl) ?_
                      refine lv_bipush (pc := 589) (v := (105 : Int32)) hx hb dY_sums_589 (by decide) ?_
                      refine lv_icmp_ne (pc := 591) (tgt := 655) hx hb dY_sums_591 (by decide) (fun h591_95 => ?_) (fun h591_95 => ?_)
                      · have hu := hu.trans (if_neg h591_95)
                        refine lv_lload (pc := 655) hx hb dY_sums_655 (lv_at hl 0 rfl) ?_
                        subst hu
                        exact W.lret hx hb hr (fun t ht hW => ⟨rfl, by rw [ht]; exact hP, hS.F ht⟩) hS.2.2 dY_sums_657
                      · have hu := hu.trans (if_pos h591_95)
                        refine lv_aload_n (pc := 594) hx hb dY_sums_594 rfl (lv_at hl 1 rfl) ?_
                        refine lv_lload_n (pc := 595) hx hb dY_sums_595 rfl (lv_at hl 3 rfl) ?_
                        refine lv_lconst (pc := 596) (v := (0 : Int64)) hx hb dY_sums_596 (by decide) ?_
                        refine qa_joini (J := 606) (ls2 := ls) (rest2 := [.ref qY]) (if (0 : Int64) ≤ z2 then (0 : Int32) else (1 : Int32)) (fun hj606 => ?_) ?_
                        · refine qa_lc_ge (pc := 597) (tgt := 605) hx hb dY_sums_597 dY_sums_598 (by decide) (fun h597_96 => ?_) (fun h597_96 => ?_)
                          · refine lv_iconst (pc := 605) (v := (0 : Int32)) hx hb dY_sums_605 (by decide) ?_
                            exact hj606 _ (Eq.symm (if_pos h597_96))
                          · refine lv_iconst (pc := 601) (v := (1 : Int32)) hx hb dY_sums_601 (by decide) ?_
                            refine lv_goto (pc := 602) (tgt := 606) hx hb dY_sums_602 (by decide) ?_
                            exact hj606 _ (Eq.symm (if_neg h597_96))
                        refine lv_lload (pc := 606) hx hb dY_sums_606 (lv_at hl 4 rfl) ?_
                        refine lv_lconst (pc := 608) (v := (0 : Int64)) hx hb dY_sums_608 (by decide) ?_
                        refine qa_joini (J := 618) (ls2 := ls) (rest2 := [.int (if (0 : Int64) ≤ z2 then (0 : Int32) else (1 : Int32)), .ref qY]) (if (0 : Int64) ≤ z4 then (0 : Int32) else (1 : Int32)) (fun hj618 => ?_) ?_
                        · refine qa_lc_ge (pc := 609) (tgt := 617) hx hb dY_sums_609 dY_sums_610 (by decide) (fun h609_97 => ?_) (fun h609_97 => ?_)
                          · refine lv_iconst (pc := 617) (v := (0 : Int32)) hx hb dY_sums_617 (by decide) ?_
                            exact hj618 _ (Eq.symm (if_pos h609_97))
                          · refine lv_iconst (pc := 613) (v := (1 : Int32)) hx hb dY_sums_613 (by decide) ?_
                            refine lv_goto (pc := 614) (tgt := 618) hx hb dY_sums_614 (by decide) ?_
                            exact hj618 _ (Eq.symm (if_neg h609_97))
                        refine qa_joini (J := 652) (ls2 := ls) (rest2 := [.ref qY]) (if (if (0 : Int64) ≤ z2 then (0 : Int32) else (1 : Int32)) = (if (0 : Int64) ≤ z4 then (0 : Int32) else (1 : Int32)) then (0 : Int32) else (if (if (0 : Int64) ≤ (z2 - z4) then (0 : Int32) else (1 : Int32)) = (if (0 : Int64) ≤ z2 then (0 : Int32) else (1 : Int32)) then (0 : Int32) else (1 : Int32))) (fun hj652 => ?_) ?_
                        · refine lv_icmp_eq (pc := 618) (tgt := 651) hx hb dY_sums_618 (by decide) (fun h618_98 => ?_) (fun h618_98 => ?_)
                          · refine lv_iconst (pc := 651) (v := (0 : Int32)) hx hb dY_sums_651 (by decide) ?_
                            exact hj652 _ (Eq.symm (if_pos h618_98))
                          · refine lv_lload (pc := 621) hx hb dY_sums_621 (lv_at hl 0 rfl) ?_
                            refine lv_lconst (pc := 623) (v := (0 : Int64)) hx hb dY_sums_623 (by decide) ?_
                            refine qa_joini (J := 633) (ls2 := ls) (rest2 := [.ref qY]) (if (0 : Int64) ≤ (z2 - z4) then (0 : Int32) else (1 : Int32)) (fun hj633 => ?_) ?_
                            · refine qa_lc_ge (pc := 624) (tgt := 632) hx hb dY_sums_624 dY_sums_625 (by decide) (fun h624_99 => ?_) (fun h624_99 => ?_)
                              · refine lv_iconst (pc := 632) (v := (0 : Int32)) hx hb dY_sums_632 (by decide) ?_
                                exact hj633 _ (Eq.symm (if_pos h624_99))
                              · refine lv_iconst (pc := 628) (v := (1 : Int32)) hx hb dY_sums_628 (by decide) ?_
                                refine lv_goto (pc := 629) (tgt := 633) hx hb dY_sums_629 (by decide) ?_
                                exact hj633 _ (Eq.symm (if_neg h624_99))
                            refine lv_lload_n (pc := 633) hx hb dY_sums_633 rfl (lv_at hl 3 rfl) ?_
                            refine lv_lconst (pc := 634) (v := (0 : Int64)) hx hb dY_sums_634 (by decide) ?_
                            refine qa_joini (J := 644) (ls2 := ls) (rest2 := [.int (if (0 : Int64) ≤ (z2 - z4) then (0 : Int32) else (1 : Int32)), .ref qY]) (if (0 : Int64) ≤ z2 then (0 : Int32) else (1 : Int32)) (fun hj644 => ?_) ?_
                            · refine qa_lc_ge (pc := 635) (tgt := 643) hx hb dY_sums_635 dY_sums_636 (by decide) (fun h635_100 => ?_) (fun h635_100 => ?_)
                              · refine lv_iconst (pc := 643) (v := (0 : Int32)) hx hb dY_sums_643 (by decide) ?_
                                exact hj644 _ (Eq.symm (if_pos h635_100))
                              · refine lv_iconst (pc := 639) (v := (1 : Int32)) hx hb dY_sums_639 (by decide) ?_
                                refine lv_goto (pc := 640) (tgt := 644) hx hb dY_sums_640 (by decide) ?_
                                exact hj644 _ (Eq.symm (if_neg h635_100))
                            refine lv_icmp_eq (pc := 644) (tgt := 651) hx hb dY_sums_644 (by decide) (fun h644_101 => ?_) (fun h644_101 => ?_)
                            · refine lv_iconst (pc := 651) (v := (0 : Int32)) hx hb dY_sums_651 (by decide) ?_
                              exact hj652 _ (Eq.symm (Eq.trans (if_neg h618_98) (if_pos h644_101)))
                            · refine lv_iconst (pc := 647) (v := (1 : Int32)) hx hb dY_sums_647 (by decide) ?_
                              refine lv_goto (pc := 648) (tgt := 652) hx hb dY_sums_648 (by decide) ?_
                              exact hj652 _ (Eq.symm (Eq.trans (if_neg h618_98) (if_neg h644_101)))
                        refine va_put (D := (dC, dI)) (pc := 652) (ci := 5) (v := .int (if (if (0 : Int64) ≤ z2 then (0 : Int32) else (1 : Int32)) = (if (0 : Int64) ≤ z4 then (0 : Int32) else (1 : Int32)) then (0 : Int32) else (if (if (0 : Int64) ≤ (z2 - z4) then (0 : Int32) else (1 : Int32)) = (if (0 : Int64) ≤ z2 then (0 : Int32) else (1 : Int32)) then (0 : Int32) else (1 : Int32)))) (ty := .boolean) (C := "LongMachineModel") (T := TY) (N := 28) hx hb hts ui_Y tyY tyY_ok nmY hown hK hP hD hS 0 rfl rfl 25 (by decide) (hts _ gm_371) (fun _ h9 => h9) rfl (by decide +kernel) (qa_nb (qa_bi qa_b0 (qa_bi qa_b0 qa_b1))) (qa_fb (qa_bi qa_b0 (qa_bi qa_b0 qa_b1))) (Nat.le_of_ble_eq_true rfl) dY_sums_652 (fun H locs hP hD hS => ?_)
                        have hP : va_P (dC, dI) vwCl (wY cI cJ qY qYm qYr qYv qYl qYn qYp qYs qYw qY6 yPc yMod yLev yLoc yKsp yUsp yKgp yVal yTab ySpc yHal yEnt yPen yBuf yHer yWrd yHas (if (if (0 : Int64) ≤ z2 then (0 : Int32) else (1 : Int32)) = (if (0 : Int64) ≤ z4 then (0 : Int32) else (1 : Int32)) then (0 : Int32) else (if (if (0 : Int64) ≤ (z2 - z4) then (0 : Int32) else (1 : Int32)) = (if (0 : Int64) ≤ z2 then (0 : Int32) else (1 : Int32)) then (0 : Int32) else (1 : Int32))) yNon yMem yR yV yPL yPN yBP yBS yBW ySix) H := hP
                        have hD : va_D A (wY cI cJ qY qYm qYr qYv qYl qYn qYp qYs qYw qY6 yPc yMod yLev yLoc yKsp yUsp yKgp yVal yTab ySpc yHal yEnt yPen yBuf yHer yWrd yHas (if (if (0 : Int64) ≤ z2 then (0 : Int32) else (1 : Int32)) = (if (0 : Int64) ≤ z4 then (0 : Int32) else (1 : Int32)) then (0 : Int32) else (if (if (0 : Int64) ≤ (z2 - z4) then (0 : Int32) else (1 : Int32)) = (if (0 : Int64) ≤ z2 then (0 : Int32) else (1 : Int32)) then (0 : Int32) else (1 : Int32))) yNon yMem yR yV yPL yPN yBP yBS yBW ySix) := hD
                        refine lv_lload (pc := 655) hx hb dY_sums_655 (lv_at hl 0 rfl) ?_
                        subst hu
                        exact W.lret hx hb hr (fun t ht hW => ⟨rfl, by rw [ht]; exact hP, hS.F ht⟩) hS.2.2 dY_sums_657
                    · have hu := hu.trans (if_neg h4_91)
                      have n4_12 : ¬ z1 = (41 : Int32) := fun q => h4_91 (Or.inl q)
                      have n4_13 : ¬ z1 = (105 : Int32) := fun q => h4_91 (Or.inr (q))
                      rcases Decidable.em (z1 = (43 : Int32)) with h4_102 | h4_102
                      · have hu := hu.trans (if_pos h4_102)
                        refine lv_lookup (pc := 4) (tgt := 292) (off := 288) hx hb dY_sums_4 (by decide) (by rw [h4_102]; decide) (by decide) ?_
                        refine lv_ldc2 (pc := 292) (v := (4 : Int64)) hx hb hown (hts _ gm_452) dY_sums_292 ?_
                        refine lv_lload_n (pc := 295) hx hb dY_sums_295 rfl (lv_at hl 3 rfl) ?_
                        refine lv_lmul (pc := 296) hx hb dY_sums_296 ?_
                        refine lv_lload (pc := 297) hx hb dY_sums_297 (lv_at hl 4 rfl) ?_
                        refine lv_lsub (pc := 299) hx hb dY_sums_299 ?_
                        refine lv_lstore (pc := 300) (lv' := [(6, .long (((4 : Int64) * z2) - z4)), (0, .ref qY), (1, .int z1), (2, .long z2), (4, .long z4)]) hx hb dY_sums_300 hl (by decide) rfl (fun ls hl => ?_)
                        refine lv_goto (pc := 302) (tgt := 468) hx hb dY_sums_302 (by decide) ?_
                        refine lv_aload_n (pc := 468) hx hb dY_sums_468 rfl (lv_at hl 1 rfl) ?_
                        refine lv_iload_n (pc := 469) hx hb dY_sums_469 rfl (lv_at hl 2 rfl) ?_
                        refine lv_bipush (pc := 470) (v := (64 : Int32)) hx hb dY_sums_470 (by decide) ?_
                        refine lv_icmp_ne (pc := 472) (tgt := 491) hx hb dY_sums_472 (by decide) (fun h472_103 => ?_) (fun h472_103 => absurd h472_103 n4_1)
                        refine lv_iload_n (pc := 491) hx hb dY_sums_491 rfl (lv_at hl 2 rfl) ?_
                        refine lv_bipush (pc := 492) (v := (73 : Int32)) hx hb dY_sums_492 (by decide) ?_
                        refine lv_icmp_ne (pc := 494) (tgt := 517) hx hb dY_sums_494 (by decide) (fun h494_104 => ?_) (fun h494_104 => absurd h494_104 n4_4)
                        refine lv_iconst (pc := 517) (v := (0 : Int32)) hx hb dY_sums_517 (by decide) ?_
                        refine va_put (D := (dC, dI)) (pc := 518) (ci := 5) (v := .int (0 : Int32)) (ty := .boolean) (C := "LongMachineModel") (T := TY) (N := 28) hx hb hts ui_Y tyY tyY_ok nmY hown hK hP hD hS 0 rfl rfl 25 (by decide) (hts _ gm_371) (fun _ h9 => h9) rfl (by decide +kernel) rfl rfl (Nat.le_of_ble_eq_true rfl) dY_sums_518 (fun H locs hP hD hS => ?_)
                        have hP : va_P (dC, dI) vwCl (wY cI cJ qY qYm qYr qYv qYl qYn qYp qYs qYw qY6 yPc yMod yLev yLoc yKsp yUsp yKgp yVal yTab ySpc yHal yEnt yPen yBuf yHer yWrd yHas (0 : Int32) yNon yMem yR yV yPL yPN yBP yBS yBW ySix) H := hP
                        have hD : va_D A (wY cI cJ qY qYm qYr qYv qYl qYn qYp qYs qYw qY6 yPc yMod yLev yLoc yKsp yUsp yKgp yVal yTab ySpc yHal yEnt yPen yBuf yHer yWrd yHas (0 : Int32) yNon yMem yR yV yPL yPN yBP yBS yBW ySix) := hD
                        refine lv_iload_n (pc := 521) hx hb dY_sums_521 rfl (lv_at hl 2 rfl) ?_
                        refine lv_bipush (pc := 522) (v := (96 : Int32)) hx hb dY_sums_522 (by decide) ?_
                        refine lv_icmp_ne (pc := 524) (tgt := 588) hx hb dY_sums_524 (by decide) (fun h524_105 => ?_) (fun h524_105 => absurd h524_105 n4_10)
                        refine lv_iload_n (pc := 588) hx hb dY_sums_588 rfl (lv_at hl 2 rfl) ?_
                        refine lv_bipush (pc := 589) (v := (105 : Int32)) hx hb dY_sums_589 (by decide) ?_
                        refine lv_icmp_ne (pc := 591) (tgt := 655) hx hb dY_sums_591 (by decide) (fun h591_106 => ?_) (fun h591_106 => absurd h591_106 n4_13)
                        refine lv_lload (pc := 655) hx hb dY_sums_655 (lv_at hl 0 rfl) ?_
                        subst hu
                        exact W.lret hx hb hr (fun t ht hW => ⟨rfl, by rw [ht]; exact hP, hS.F ht⟩) hS.2.2 dY_sums_657
                      · have hu := hu.trans (if_neg h4_102)
                        have n4_14 : ¬ z1 = (43 : Int32) := h4_102
                        rcases Decidable.em (z1 = (45 : Int32)) with h4_107 | h4_107
                        · have hu := hu.trans (if_pos h4_107)
                          refine lv_lookup (pc := 4) (tgt := 305) (off := 301) hx hb dY_sums_4 (by decide) (by rw [h4_107]; decide) (by decide) ?_
                          refine lv_lload_n (pc := 305) hx hb dY_sums_305 rfl (lv_at hl 3 rfl) ?_
                          refine lv_lload (pc := 306) hx hb dY_sums_306 (lv_at hl 4 rfl) ?_
                          refine qa_joini (J := 317) (ls2 := ls) (rest2 := []) (if z2 = z4 then (1 : Int32) else (0 : Int32)) (fun hj317 => ?_) ?_
                          · refine qa_lc_ne (pc := 308) (tgt := 316) hx hb dY_sums_308 dY_sums_309 (by decide) (fun h308_108 => ?_) (fun h308_108 => ?_)
                            · refine lv_iconst (pc := 316) (v := (0 : Int32)) hx hb dY_sums_316 (by decide) ?_
                              exact hj317 _ (Eq.symm (if_neg h308_108))
                            · refine lv_iconst (pc := 312) (v := (1 : Int32)) hx hb dY_sums_312 (by decide) ?_
                              refine lv_goto (pc := 313) (tgt := 317) hx hb dY_sums_313 (by decide) ?_
                              exact hj317 _ (Eq.symm (if_pos h308_108))
                          refine qa_calld (pc := 317) (v := .long (if (if z2 = z4 then (1 : Int32) else (0 : Int32)) = (0 : Int32) then (0 : Int64) else (1 : Int64))) (va_runS (As := [.int (if z2 = z4 then (1 : Int32) else (0 : Int32))]) (rest := []) ⟨hx, hb, hml, hown, hts⟩ (c_Y_is l (if z2 = z4 then (1 : Int32) else (0 : Int32))) (va_cwS 1 hts (gd_S gm_481 gm_479 gm_480 gm_6) rfl rfl rfl (by decide +kernel) ⟨Nat.le_of_ble_eq_true rfl, Nat.le_of_ble_eq_true rfl⟩) qa_S0 rfl rfl hl.1 rfl (lv_room (Nat.le_of_ble_eq_true rfl)) dY_sums_317 ⟨Nat.zero_le _, Nat.zero_le _⟩) ?_
                          refine lv_lstore (pc := 320) (lv' := [(6, .long (if (if z2 = z4 then (1 : Int32) else (0 : Int32)) = (0 : Int32) then (0 : Int64) else (1 : Int64))), (0, .ref qY), (1, .int z1), (2, .long z2), (4, .long z4)]) hx hb dY_sums_320 hl (by decide) rfl (fun ls hl => ?_)
                          refine lv_goto (pc := 322) (tgt := 468) hx hb dY_sums_322 (by decide) ?_
                          refine lv_aload_n (pc := 468) hx hb dY_sums_468 rfl (lv_at hl 1 rfl) ?_
                          refine lv_iload_n (pc := 469) hx hb dY_sums_469 rfl (lv_at hl 2 rfl) ?_
                          refine lv_bipush (pc := 470) (v := (64 : Int32)) hx hb dY_sums_470 (by decide) ?_
                          refine lv_icmp_ne (pc := 472) (tgt := 491) hx hb dY_sums_472 (by decide) (fun h472_109 => ?_) (fun h472_109 => absurd h472_109 n4_1)
                          refine lv_iload_n (pc := 491) hx hb dY_sums_491 rfl (lv_at hl 2 rfl) ?_
                          refine lv_bipush (pc := 492) (v := (73 : Int32)) hx hb dY_sums_492 (by decide) ?_
                          refine lv_icmp_ne (pc := 494) (tgt := 517) hx hb dY_sums_494 (by decide) (fun h494_110 => ?_) (fun h494_110 => absurd h494_110 n4_4)
                          refine lv_iconst (pc := 517) (v := (0 : Int32)) hx hb dY_sums_517 (by decide) ?_
                          refine va_put (D := (dC, dI)) (pc := 518) (ci := 5) (v := .int (0 : Int32)) (ty := .boolean) (C := "LongMachineModel") (T := TY) (N := 28) hx hb hts ui_Y tyY tyY_ok nmY hown hK hP hD hS 0 rfl rfl 25 (by decide) (hts _ gm_371) (fun _ h9 => h9) rfl (by decide +kernel) rfl rfl (Nat.le_of_ble_eq_true rfl) dY_sums_518 (fun H locs hP hD hS => ?_)
                          have hP : va_P (dC, dI) vwCl (wY cI cJ qY qYm qYr qYv qYl qYn qYp qYs qYw qY6 yPc yMod yLev yLoc yKsp yUsp yKgp yVal yTab ySpc yHal yEnt yPen yBuf yHer yWrd yHas (0 : Int32) yNon yMem yR yV yPL yPN yBP yBS yBW ySix) H := hP
                          have hD : va_D A (wY cI cJ qY qYm qYr qYv qYl qYn qYp qYs qYw qY6 yPc yMod yLev yLoc yKsp yUsp yKgp yVal yTab ySpc yHal yEnt yPen yBuf yHer yWrd yHas (0 : Int32) yNon yMem yR yV yPL yPN yBP yBS yBW ySix) := hD
                          refine lv_iload_n (pc := 521) hx hb dY_sums_521 rfl (lv_at hl 2 rfl) ?_
                          refine lv_bipush (pc := 522) (v := (96 : Int32)) hx hb dY_sums_522 (by decide) ?_
                          refine lv_icmp_ne (pc := 524) (tgt := 588) hx hb dY_sums_524 (by decide) (fun h524_111 => ?_) (fun h524_111 => absurd h524_111 n4_10)
                          refine lv_iload_n (pc := 588) hx hb dY_sums_588 rfl (lv_at hl 2 rfl) ?_
                          refine lv_bipush (pc := 589) (v := (105 : Int32)) hx hb dY_sums_589 (by decide) ?_
                          refine lv_icmp_ne (pc := 591) (tgt := 655) hx hb dY_sums_591 (by decide) (fun h591_112 => ?_) (fun h591_112 => absurd h591_112 n4_13)
                          refine lv_lload (pc := 655) hx hb dY_sums_655 (lv_at hl 0 rfl) ?_
                          subst hu
                          exact W.lret hx hb hr (fun t ht hW => ⟨rfl, by rw [ht]; exact hP, hS.F ht⟩) hS.2.2 dY_sums_657
                        · have hu := hu.trans (if_neg h4_107)
                          have n4_15 : ¬ z1 = (45 : Int32) := h4_107
                          rcases Decidable.em (z1 = (50 : Int32)) with h4_113 | h4_113
                          · have hu := hu.trans (if_pos h4_113)
                            refine lv_lookup (pc := 4) (tgt := 270) (off := 266) hx hb dY_sums_4 (by decide) (by rw [h4_113]; decide) (by decide) ?_
                            refine lv_ldc2 (pc := 270) (v := (8 : Int64)) hx hb hown (hts _ gm_418) dY_sums_270 ?_
                            refine lv_lload_n (pc := 273) hx hb dY_sums_273 rfl (lv_at hl 3 rfl) ?_
                            refine lv_lmul (pc := 274) hx hb dY_sums_274 ?_
                            refine lv_lload (pc := 275) hx hb dY_sums_275 (lv_at hl 4 rfl) ?_
                            refine lv_ladd (pc := 277) hx hb dY_sums_277 ?_
                            refine lv_lstore (pc := 278) (lv' := [(6, .long (((8 : Int64) * z2) + z4)), (0, .ref qY), (1, .int z1), (2, .long z2), (4, .long z4)]) hx hb dY_sums_278 hl (by decide) rfl (fun ls hl => ?_)
                            refine lv_goto (pc := 280) (tgt := 468) hx hb dY_sums_280 (by decide) ?_
                            refine lv_aload_n (pc := 468) hx hb dY_sums_468 rfl (lv_at hl 1 rfl) ?_
                            refine lv_iload_n (pc := 469) hx hb dY_sums_469 rfl (lv_at hl 2 rfl) ?_
                            refine lv_bipush (pc := 470) (v := (64 : Int32)) hx hb dY_sums_470 (by decide) ?_
                            refine lv_icmp_ne (pc := 472) (tgt := 491) hx hb dY_sums_472 (by decide) (fun h472_114 => ?_) (fun h472_114 => absurd h472_114 n4_1)
                            refine lv_iload_n (pc := 491) hx hb dY_sums_491 rfl (lv_at hl 2 rfl) ?_
                            refine lv_bipush (pc := 492) (v := (73 : Int32)) hx hb dY_sums_492 (by decide) ?_
                            refine lv_icmp_ne (pc := 494) (tgt := 517) hx hb dY_sums_494 (by decide) (fun h494_115 => ?_) (fun h494_115 => absurd h494_115 n4_4)
                            refine lv_iconst (pc := 517) (v := (0 : Int32)) hx hb dY_sums_517 (by decide) ?_
                            refine va_put (D := (dC, dI)) (pc := 518) (ci := 5) (v := .int (0 : Int32)) (ty := .boolean) (C := "LongMachineModel") (T := TY) (N := 28) hx hb hts ui_Y tyY tyY_ok nmY hown hK hP hD hS 0 rfl rfl 25 (by decide) (hts _ gm_371) (fun _ h9 => h9) rfl (by decide +kernel) rfl rfl (Nat.le_of_ble_eq_true rfl) dY_sums_518 (fun H locs hP hD hS => ?_)
                            have hP : va_P (dC, dI) vwCl (wY cI cJ qY qYm qYr qYv qYl qYn qYp qYs qYw qY6 yPc yMod yLev yLoc yKsp yUsp yKgp yVal yTab ySpc yHal yEnt yPen yBuf yHer yWrd yHas (0 : Int32) yNon yMem yR yV yPL yPN yBP yBS yBW ySix) H := hP
                            have hD : va_D A (wY cI cJ qY qYm qYr qYv qYl qYn qYp qYs qYw qY6 yPc yMod yLev yLoc yKsp yUsp yKgp yVal yTab ySpc yHal yEnt yPen yBuf yHer yWrd yHas (0 : Int32) yNon yMem yR yV yPL yPN yBP yBS yBW ySix) := hD
                            refine lv_iload_n (pc := 521) hx hb dY_sums_521 rfl (lv_at hl 2 rfl) ?_
                            refine lv_bipush (pc := 522) (v := (96 : Int32)) hx hb dY_sums_522 (by decide) ?_
                            refine lv_icmp_ne (pc := 524) (tgt := 588) hx hb dY_sums_524 (by decide) (fun h524_116 => ?_) (fun h524_116 => absurd h524_116 n4_10)
                            refine lv_iload_n (pc := 588) hx hb dY_sums_588 rfl (lv_at hl 2 rfl) ?_
                            refine lv_bipush (pc := 589) (v := (105 : Int32)) hx hb dY_sums_589 (by decide) ?_
                            refine lv_icmp_ne (pc := 591) (tgt := 655) hx hb dY_sums_591 (by decide) (fun h591_117 => ?_) (fun h591_117 => absurd h591_117 n4_13)
                            refine lv_lload (pc := 655) hx hb dY_sums_655 (lv_at hl 0 rfl) ?_
                            subst hu
                            exact W.lret hx hb hr (fun t ht hW => ⟨rfl, by rw [ht]; exact hP, hS.F ht⟩) hS.2.2 dY_sums_657
                          · have hu := hu.trans (if_neg h4_113)
                            have n4_16 : ¬ z1 = (50 : Int32) := h4_113
                            rcases Decidable.em (z1 = (61 : Int32)) with h4_118 | h4_118
                            · have hu := hu.trans (if_pos h4_118)
                              refine lv_lookup (pc := 4) (tgt := 379) (off := 375) hx hb dY_sums_4 (by decide) (by rw [h4_118]; decide) (by decide) ?_
                              refine lv_lload (pc := 379) hx hb dY_sums_379 (lv_at hl 4 rfl) ?_
                              refine lv_lload_n (pc := 381) hx hb dY_sums_381 rfl (lv_at hl 3 rfl) ?_
                              refine qa_calld (pc := 382) (v := .int (if (if z2 ≤ z4 then (0 : Int32) else (1 : Int32)) = (if (if (0 : Int64) ≤ z4 then (0 : Int32) else (1 : Int32)) = (if (0 : Int64) ≤ z2 then (0 : Int32) else (1 : Int32)) then (0 : Int32) else (1 : Int32)) then (0 : Int32) else (1 : Int32))) (va_runS (As := [.long z4, .long z2]) (rest := []) ⟨hx, hb, hml, hown, hts⟩ (c_Y_less l z4 z2) (va_cwS 2 hts (gd_S gm_484 gm_482 gm_483 gm_6) rfl rfl rfl (by decide +kernel) ⟨Nat.le_of_ble_eq_true rfl, Nat.le_of_ble_eq_true rfl⟩) qa_S0 rfl rfl hl.1 rfl (lv_room (Nat.le_of_ble_eq_true rfl)) dY_sums_382 ⟨Nat.zero_le _, Nat.zero_le _⟩) ?_
                              refine qa_joini (J := 393) (ls2 := ls) (rest2 := []) (if (if (if z2 ≤ z4 then (0 : Int32) else (1 : Int32)) = (if (if (0 : Int64) ≤ z4 then (0 : Int32) else (1 : Int32)) = (if (0 : Int64) ≤ z2 then (0 : Int32) else (1 : Int32)) then (0 : Int32) else (1 : Int32)) then (0 : Int32) else (1 : Int32)) = (0 : Int32) then (1 : Int32) else (0 : Int32)) (fun hj393 => ?_) ?_
                              · refine lv_if_ne (pc := 385) (tgt := 392) hx hb dY_sums_385 (by decide) (fun h385_119 => ?_) (fun h385_119 => ?_)
                                · refine lv_iconst (pc := 392) (v := (0 : Int32)) hx hb dY_sums_392 (by decide) ?_
                                  exact hj393 _ (Eq.symm (if_neg h385_119))
                                · refine lv_iconst (pc := 388) (v := (1 : Int32)) hx hb dY_sums_388 (by decide) ?_
                                  refine lv_goto (pc := 389) (tgt := 393) hx hb dY_sums_389 (by decide) ?_
                                  exact hj393 _ (Eq.symm (if_pos h385_119))
                              refine qa_calld (pc := 393) (v := .long (if (if (if (if z2 ≤ z4 then (0 : Int32) else (1 : Int32)) = (if (if (0 : Int64) ≤ z4 then (0 : Int32) else (1 : Int32)) = (if (0 : Int64) ≤ z2 then (0 : Int32) else (1 : Int32)) then (0 : Int32) else (1 : Int32)) then (0 : Int32) else (1 : Int32)) = (0 : Int32) then (1 : Int32) else (0 : Int32)) = (0 : Int32) then (0 : Int64) else (1 : Int64))) (va_runS (As := [.int (if (if (if z2 ≤ z4 then (0 : Int32) else (1 : Int32)) = (if (if (0 : Int64) ≤ z4 then (0 : Int32) else (1 : Int32)) = (if (0 : Int64) ≤ z2 then (0 : Int32) else (1 : Int32)) then (0 : Int32) else (1 : Int32)) then (0 : Int32) else (1 : Int32)) = (0 : Int32) then (1 : Int32) else (0 : Int32))]) (rest := []) ⟨hx, hb, hml, hown, hts⟩ (c_Y_is l (if (if (if z2 ≤ z4 then (0 : Int32) else (1 : Int32)) = (if (if (0 : Int64) ≤ z4 then (0 : Int32) else (1 : Int32)) = (if (0 : Int64) ≤ z2 then (0 : Int32) else (1 : Int32)) then (0 : Int32) else (1 : Int32)) then (0 : Int32) else (1 : Int32)) = (0 : Int32) then (1 : Int32) else (0 : Int32))) (va_cwS 1 hts (gd_S gm_481 gm_479 gm_480 gm_6) rfl rfl rfl (by decide +kernel) ⟨Nat.le_of_ble_eq_true rfl, Nat.le_of_ble_eq_true rfl⟩) qa_S0 rfl rfl hl.1 rfl (lv_room (Nat.le_of_ble_eq_true rfl)) dY_sums_393 ⟨Nat.zero_le _, Nat.zero_le _⟩) ?_
                              refine lv_lstore (pc := 396) (lv' := [(6, .long (if (if (if (if z2 ≤ z4 then (0 : Int32) else (1 : Int32)) = (if (if (0 : Int64) ≤ z4 then (0 : Int32) else (1 : Int32)) = (if (0 : Int64) ≤ z2 then (0 : Int32) else (1 : Int32)) then (0 : Int32) else (1 : Int32)) then (0 : Int32) else (1 : Int32)) = (0 : Int32) then (1 : Int32) else (0 : Int32)) = (0 : Int32) then (0 : Int64) else (1 : Int64))), (0, .ref qY), (1, .int z1), (2, .long z2), (4, .long z4)]) hx hb dY_sums_396 hl (by decide) rfl (fun ls hl => ?_)
                              refine lv_goto (pc := 398) (tgt := 468) hx hb dY_sums_398 (by decide) ?_
                              refine lv_aload_n (pc := 468) hx hb dY_sums_468 rfl (lv_at hl 1 rfl) ?_
                              refine lv_iload_n (pc := 469) hx hb dY_sums_469 rfl (lv_at hl 2 rfl) ?_
                              refine lv_bipush (pc := 470) (v := (64 : Int32)) hx hb dY_sums_470 (by decide) ?_
                              refine lv_icmp_ne (pc := 472) (tgt := 491) hx hb dY_sums_472 (by decide) (fun h472_120 => ?_) (fun h472_120 => absurd h472_120 n4_1)
                              refine lv_iload_n (pc := 491) hx hb dY_sums_491 rfl (lv_at hl 2 rfl) ?_
                              refine lv_bipush (pc := 492) (v := (73 : Int32)) hx hb dY_sums_492 (by decide) ?_
                              refine lv_icmp_ne (pc := 494) (tgt := 517) hx hb dY_sums_494 (by decide) (fun h494_121 => ?_) (fun h494_121 => absurd h494_121 n4_4)
                              refine lv_iconst (pc := 517) (v := (0 : Int32)) hx hb dY_sums_517 (by decide) ?_
                              refine va_put (D := (dC, dI)) (pc := 518) (ci := 5) (v := .int (0 : Int32)) (ty := .boolean) (C := "LongMachineModel") (T := TY) (N := 28) hx hb hts ui_Y tyY tyY_ok nmY hown hK hP hD hS 0 rfl rfl 25 (by decide) (hts _ gm_371) (fun _ h9 => h9) rfl (by decide +kernel) rfl rfl (Nat.le_of_ble_eq_true rfl) dY_sums_518 (fun H locs hP hD hS => ?_)
                              have hP : va_P (dC, dI) vwCl (wY cI cJ qY qYm qYr qYv qYl qYn qYp qYs qYw qY6 yPc yMod yLev yLoc yKsp yUsp yKgp yVal yTab ySpc yHal yEnt yPen yBuf yHer yWrd yHas (0 : Int32) yNon yMem yR yV yPL yPN yBP yBS yBW ySix) H := hP
                              have hD : va_D A (wY cI cJ qY qYm qYr qYv qYl qYn qYp qYs qYw qY6 yPc yMod yLev yLoc yKsp yUsp yKgp yVal yTab ySpc yHal yEnt yPen yBuf yHer yWrd yHas (0 : Int32) yNon yMem yR yV yPL yPN yBP yBS yBW ySix) := hD
                              refine lv_iload_n (pc := 521) hx hb dY_sums_521 rfl (lv_at hl 2 rfl) ?_
                              refine lv_bipush (pc := 522) (v := (96 : Int32)) hx hb dY_sums_522 (by decide) ?_
                              refine lv_icmp_ne (pc := 524) (tgt := 588) hx hb dY_sums_524 (by decide) (fun h524_122 => ?_) (fun h524_122 => absurd h524_122 n4_10)
                              refine lv_iload_n (pc := 588) hx hb dY_sums_588 rfl (lv_at hl 2 rfl) ?_
                              refine lv_bipush (pc := 589) (v := (105 : Int32)) hx hb dY_sums_589 (by decide) ?_
                              refine lv_icmp_ne (pc := 591) (tgt := 655) hx hb dY_sums_591 (by decide) (fun h591_123 => ?_) (fun h591_123 => absurd h591_123 n4_13)
                              refine lv_lload (pc := 655) hx hb dY_sums_655 (lv_at hl 0 rfl) ?_
                              subst hu
                              exact W.lret hx hb hr (fun t ht hW => ⟨rfl, by rw [ht]; exact hP, hS.F ht⟩) hS.2.2 dY_sums_657
                            · have hu := hu.trans (if_neg h4_118)
                              have n4_17 : ¬ z1 = (61 : Int32) := h4_118
                              rcases Decidable.em (z1 = (77 : Int32)) with h4_124 | h4_124
                              · have hu := hu.trans (if_pos h4_124)
                                refine lv_lookup (pc := 4) (tgt := 325) (off := 321) hx hb dY_sums_4 (by decide) (by rw [h4_124]; decide) (by decide) ?_
                                refine lv_lload_n (pc := 325) hx hb dY_sums_325 rfl (lv_at hl 3 rfl) ?_
                                refine lv_lload (pc := 326) hx hb dY_sums_326 (lv_at hl 4 rfl) ?_
                                refine qa_joini (J := 337) (ls2 := ls) (rest2 := []) (if z4 ≤ z2 then (0 : Int32) else (1 : Int32)) (fun hj337 => ?_) ?_
                                · refine qa_lc_ge (pc := 328) (tgt := 336) hx hb dY_sums_328 dY_sums_329 (by decide) (fun h328_125 => ?_) (fun h328_125 => ?_)
                                  · refine lv_iconst (pc := 336) (v := (0 : Int32)) hx hb dY_sums_336 (by decide) ?_
                                    exact hj337 _ (Eq.symm (if_pos h328_125))
                                  · refine lv_iconst (pc := 332) (v := (1 : Int32)) hx hb dY_sums_332 (by decide) ?_
                                    refine lv_goto (pc := 333) (tgt := 337) hx hb dY_sums_333 (by decide) ?_
                                    exact hj337 _ (Eq.symm (if_neg h328_125))
                                refine qa_calld (pc := 337) (v := .long (if (if z4 ≤ z2 then (0 : Int32) else (1 : Int32)) = (0 : Int32) then (0 : Int64) else (1 : Int64))) (va_runS (As := [.int (if z4 ≤ z2 then (0 : Int32) else (1 : Int32))]) (rest := []) ⟨hx, hb, hml, hown, hts⟩ (c_Y_is l (if z4 ≤ z2 then (0 : Int32) else (1 : Int32))) (va_cwS 1 hts (gd_S gm_481 gm_479 gm_480 gm_6) rfl rfl rfl (by decide +kernel) ⟨Nat.le_of_ble_eq_true rfl, Nat.le_of_ble_eq_true rfl⟩) qa_S0 rfl rfl hl.1 rfl (lv_room (Nat.le_of_ble_eq_true rfl)) dY_sums_337 ⟨Nat.zero_le _, Nat.zero_le _⟩) ?_
                                refine lv_lstore (pc := 340) (lv' := [(6, .long (if (if z4 ≤ z2 then (0 : Int32) else (1 : Int32)) = (0 : Int32) then (0 : Int64) else (1 : Int64))), (0, .ref qY), (1, .int z1), (2, .long z2), (4, .long z4)]) hx hb dY_sums_340 hl (by decide) rfl (fun ls hl => ?_)
                                refine lv_goto (pc := 342) (tgt := 468) hx hb dY_sums_342 (by decide) ?_
                                refine lv_aload_n (pc := 468) hx hb dY_sums_468 rfl (lv_at hl 1 rfl) ?_
                                refine lv_iload_n (pc := 469) hx hb dY_sums_469 rfl (lv_at hl 2 rfl) ?_
                                refine lv_bipush (pc := 470) (v := (64 : Int32)) hx hb dY_sums_470 (by decide) ?_
                                refine lv_icmp_ne (pc := 472) (tgt := 491) hx hb dY_sums_472 (by decide) (fun h472_126 => ?_) (fun h472_126 => absurd h472_126 n4_1)
                                refine lv_iload_n (pc := 491) hx hb dY_sums_491 rfl (lv_at hl 2 rfl) ?_
                                refine lv_bipush (pc := 492) (v := (73 : Int32)) hx hb dY_sums_492 (by decide) ?_
                                refine lv_icmp_ne (pc := 494) (tgt := 517) hx hb dY_sums_494 (by decide) (fun h494_127 => ?_) (fun h494_127 => absurd h494_127 n4_4)
                                refine lv_iconst (pc := 517) (v := (0 : Int32)) hx hb dY_sums_517 (by decide) ?_
                                refine va_put (D := (dC, dI)) (pc := 518) (ci := 5) (v := .int (0 : Int32)) (ty := .boolean) (C := "LongMachineModel") (T := TY) (N := 28) hx hb hts ui_Y tyY tyY_ok nmY hown hK hP hD hS 0 rfl rfl 25 (by decide) (hts _ gm_371) (fun _ h9 => h9) rfl (by decide +kernel) rfl rfl (Nat.le_of_ble_eq_true rfl) dY_sums_518 (fun H locs hP hD hS => ?_)
                                have hP : va_P (dC, dI) vwCl (wY cI cJ qY qYm qYr qYv qYl qYn qYp qYs qYw qY6 yPc yMod yLev yLoc yKsp yUsp yKgp yVal yTab ySpc yHal yEnt yPen yBuf yHer yWrd yHas (0 : Int32) yNon yMem yR yV yPL yPN yBP yBS yBW ySix) H := hP
                                have hD : va_D A (wY cI cJ qY qYm qYr qYv qYl qYn qYp qYs qYw qY6 yPc yMod yLev yLoc yKsp yUsp yKgp yVal yTab ySpc yHal yEnt yPen yBuf yHer yWrd yHas (0 : Int32) yNon yMem yR yV yPL yPN yBP yBS yBW ySix) := hD
                                refine lv_iload_n (pc := 521) hx hb dY_sums_521 rfl (lv_at hl 2 rfl) ?_
                                refine lv_bipush (pc := 522) (v := (96 : Int32)) hx hb dY_sums_522 (by decide) ?_
                                refine lv_icmp_ne (pc := 524) (tgt := 588) hx hb dY_sums_524 (by decide) (fun h524_128 => ?_) (fun h524_128 => absurd h524_128 n4_10)
                                refine lv_iload_n (pc := 588) hx hb dY_sums_588 rfl (lv_at hl 2 rfl) ?_
                                refine lv_bipush (pc := 589) (v := (105 : Int32)) hx hb dY_sums_589 (by decide) ?_
                                refine lv_icmp_ne (pc := 591) (tgt := 655) hx hb dY_sums_591 (by decide) (fun h591_129 => ?_) (fun h591_129 => absurd h591_129 n4_13)
                                refine lv_lload (pc := 655) hx hb dY_sums_655 (lv_at hl 0 rfl) ?_
                                subst hu
                                exact W.lret hx hb hr (fun t ht hW => ⟨rfl, by rw [ht]; exact hP, hS.F ht⟩) hS.2.2 dY_sums_657
                              · have hu := hu.trans (if_neg h4_124)
                                have n4_18 : ¬ z1 = (77 : Int32) := h4_124
                                rcases Decidable.em (z1 = (109 : Int32)) with h4_130 | h4_130
                                · have hu := hu.trans (if_pos h4_130)
                                  refine lv_lookup (pc := 4) (tgt := 345) (off := 341) hx hb dY_sums_4 (by decide) (by rw [h4_130]; decide) (by decide) ?_
                                  refine lv_lload_n (pc := 345) hx hb dY_sums_345 rfl (lv_at hl 3 rfl) ?_
                                  refine lv_lload (pc := 346) hx hb dY_sums_346 (lv_at hl 4 rfl) ?_
                                  refine qa_joini (J := 357) (ls2 := ls) (rest2 := []) (if z4 < z2 then (0 : Int32) else (1 : Int32)) (fun hj357 => ?_) ?_
                                  · refine qa_lc_gt (pc := 348) (tgt := 356) hx hb dY_sums_348 dY_sums_349 (by decide) (fun h348_131 => ?_) (fun h348_131 => ?_)
                                    · refine lv_iconst (pc := 356) (v := (0 : Int32)) hx hb dY_sums_356 (by decide) ?_
                                      exact hj357 _ (Eq.symm (if_pos h348_131))
                                    · refine lv_iconst (pc := 352) (v := (1 : Int32)) hx hb dY_sums_352 (by decide) ?_
                                      refine lv_goto (pc := 353) (tgt := 357) hx hb dY_sums_353 (by decide) ?_
                                      exact hj357 _ (Eq.symm (if_neg h348_131))
                                  refine qa_calld (pc := 357) (v := .long (if (if z4 < z2 then (0 : Int32) else (1 : Int32)) = (0 : Int32) then (0 : Int64) else (1 : Int64))) (va_runS (As := [.int (if z4 < z2 then (0 : Int32) else (1 : Int32))]) (rest := []) ⟨hx, hb, hml, hown, hts⟩ (c_Y_is l (if z4 < z2 then (0 : Int32) else (1 : Int32))) (va_cwS 1 hts (gd_S gm_481 gm_479 gm_480 gm_6) rfl rfl rfl (by decide +kernel) ⟨Nat.le_of_ble_eq_true rfl, Nat.le_of_ble_eq_true rfl⟩) qa_S0 rfl rfl hl.1 rfl (lv_room (Nat.le_of_ble_eq_true rfl)) dY_sums_357 ⟨Nat.zero_le _, Nat.zero_le _⟩) ?_
                                  refine lv_lstore (pc := 360) (lv' := [(6, .long (if (if z4 < z2 then (0 : Int32) else (1 : Int32)) = (0 : Int32) then (0 : Int64) else (1 : Int64))), (0, .ref qY), (1, .int z1), (2, .long z2), (4, .long z4)]) hx hb dY_sums_360 hl (by decide) rfl (fun ls hl => ?_)
                                  refine lv_goto (pc := 362) (tgt := 468) hx hb dY_sums_362 (by decide) ?_
                                  refine lv_aload_n (pc := 468) hx hb dY_sums_468 rfl (lv_at hl 1 rfl) ?_
                                  refine lv_iload_n (pc := 469) hx hb dY_sums_469 rfl (lv_at hl 2 rfl) ?_
                                  refine lv_bipush (pc := 470) (v := (64 : Int32)) hx hb dY_sums_470 (by decide) ?_
                                  refine lv_icmp_ne (pc := 472) (tgt := 491) hx hb dY_sums_472 (by decide) (fun h472_132 => ?_) (fun h472_132 => absurd h472_132 n4_1)
                                  refine lv_iload_n (pc := 491) hx hb dY_sums_491 rfl (lv_at hl 2 rfl) ?_
                                  refine lv_bipush (pc := 492) (v := (73 : Int32)) hx hb dY_sums_492 (by decide) ?_
                                  refine lv_icmp_ne (pc := 494) (tgt := 517) hx hb dY_sums_494 (by decide) (fun h494_133 => ?_) (fun h494_133 => absurd h494_133 n4_4)
                                  refine lv_iconst (pc := 517) (v := (0 : Int32)) hx hb dY_sums_517 (by decide) ?_
                                  refine va_put (D := (dC, dI)) (pc := 518) (ci := 5) (v := .int (0 : Int32)) (ty := .boolean) (C := "LongMachineModel") (T := TY) (N := 28) hx hb hts ui_Y tyY tyY_ok nmY hown hK hP hD hS 0 rfl rfl 25 (by decide) (hts _ gm_371) (fun _ h9 => h9) rfl (by decide +kernel) rfl rfl (Nat.le_of_ble_eq_true rfl) dY_sums_518 (fun H locs hP hD hS => ?_)
                                  have hP : va_P (dC, dI) vwCl (wY cI cJ qY qYm qYr qYv qYl qYn qYp qYs qYw qY6 yPc yMod yLev yLoc yKsp yUsp yKgp yVal yTab ySpc yHal yEnt yPen yBuf yHer yWrd yHas (0 : Int32) yNon yMem yR yV yPL yPN yBP yBS yBW ySix) H := hP
                                  have hD : va_D A (wY cI cJ qY qYm qYr qYv qYl qYn qYp qYs qYw qY6 yPc yMod yLev yLoc yKsp yUsp yKgp yVal yTab ySpc yHal yEnt yPen yBuf yHer yWrd yHas (0 : Int32) yNon yMem yR yV yPL yPN yBP yBS yBW ySix) := hD
                                  refine lv_iload_n (pc := 521) hx hb dY_sums_521 rfl (lv_at hl 2 rfl) ?_
                                  refine lv_bipush (pc := 522) (v := (96 : Int32)) hx hb dY_sums_522 (by decide) ?_
                                  refine lv_icmp_ne (pc := 524) (tgt := 588) hx hb dY_sums_524 (by decide) (fun h524_134 => ?_) (fun h524_134 => absurd h524_134 n4_10)
                                  refine lv_iload_n (pc := 588) hx hb dY_sums_588 rfl (lv_at hl 2 rfl) ?_
                                  refine lv_bipush (pc := 589) (v := (105 : Int32)) hx hb dY_sums_589 (by decide) ?_
                                  refine lv_icmp_ne (pc := 591) (tgt := 655) hx hb dY_sums_591 (by decide) (fun h591_135 => ?_) (fun h591_135 => absurd h591_135 n4_13)
                                  refine lv_lload (pc := 655) hx hb dY_sums_655 (lv_at hl 0 rfl) ?_
                                  subst hu
                                  exact W.lret hx hb hr (fun t ht hW => ⟨rfl, by rw [ht]; exact hP, hS.F ht⟩) hS.2.2 dY_sums_657
                                · have hu := hu.trans (if_neg h4_130)
                                  have n4_19 : ¬ z1 = (109 : Int32) := h4_130
                                  refine lv_lookup (pc := 4) (tgt := 463) (off := 459) hx hb dY_sums_4 (by decide) ((lv_osw n4_0 (by decide)).trans ((lv_osw n4_2 (by decide)).trans ((lv_osw n4_3 (by decide)).trans ((lv_osw n4_5 (by decide)).trans ((lv_osw n4_6 (by decide)).trans ((lv_osw n4_7 (by decide)).trans ((lv_osw n4_8 (by decide)).trans ((lv_osw n4_9 (by decide)).trans ((lv_osw n4_11 (by decide)).trans ((lv_osw n4_12 (by decide)).trans ((lv_osw n4_14 (by decide)).trans ((lv_osw n4_15 (by decide)).trans ((lv_osw n4_16 (by decide)).trans ((lv_osw n4_17 (by decide)).trans ((lv_osw n4_1 (by decide)).trans ((lv_osw n4_4 (by decide)).trans ((lv_osw n4_18 (by decide)).trans ((lv_osw n4_10 (by decide)).trans ((lv_osw n4_13 (by decide)).trans ((lv_osw n4_19 (by decide)).trans (rfl))))))))))))))))))))) (by decide) ?_
                                  refine lv_aload_n (pc := 463) hx hb dY_sums_463 rfl (lv_at hl 1 rfl) ?_
                                  refine lv_iconst (pc := 464) (v := (1 : Int32)) hx hb dY_sums_464 (by decide) ?_
                                  refine va_put (D := (dC, dI)) (pc := 465) (ci := 5) (v := .int (1 : Int32)) (ty := .boolean) (C := "LongMachineModel") (T := TY) (N := 28) hx hb hts ui_Y tyY tyY_ok nmY hown hK hP hD hS 0 rfl rfl 26 (by decide) (hts _ gm_372) (fun _ h9 => h9) rfl (by decide +kernel) rfl rfl (Nat.le_of_ble_eq_true rfl) dY_sums_465 (fun H locs hP hD hS => ?_)
                                  have hP : va_P (dC, dI) vwCl (wY cI cJ qY qYm qYr qYv qYl qYn qYp qYs qYw qY6 yPc yMod yLev yLoc yKsp yUsp yKgp yVal yTab ySpc yHal yEnt yPen yBuf yHer yWrd yHas yTrp (1 : Int32) yMem yR yV yPL yPN yBP yBS yBW ySix) H := hP
                                  have hD : va_D A (wY cI cJ qY qYm qYr qYv qYl qYn qYp qYs qYw qY6 yPc yMod yLev yLoc yKsp yUsp yKgp yVal yTab ySpc yHal yEnt yPen yBuf yHer yWrd yHas yTrp (1 : Int32) yMem yR yV yPL yPN yBP yBS yBW ySix) := hD
                                  refine lv_aload_n (pc := 468) hx hb dY_sums_468 rfl (lv_at hl 1 rfl) ?_
                                  refine lv_iload_n (pc := 469) hx hb dY_sums_469 rfl (lv_at hl 2 rfl) ?_
                                  refine lv_bipush (pc := 470) (v := (64 : Int32)) hx hb dY_sums_470 (by decide) ?_
                                  refine lv_icmp_ne (pc := 472) (tgt := 491) hx hb dY_sums_472 (by decide) (fun h472_136 => ?_) (fun h472_136 => absurd h472_136 n4_1)
                                  refine lv_iload_n (pc := 491) hx hb dY_sums_491 rfl (lv_at hl 2 rfl) ?_
                                  refine lv_bipush (pc := 492) (v := (73 : Int32)) hx hb dY_sums_492 (by decide) ?_
                                  refine lv_icmp_ne (pc := 494) (tgt := 517) hx hb dY_sums_494 (by decide) (fun h494_137 => ?_) (fun h494_137 => absurd h494_137 n4_4)
                                  refine lv_iconst (pc := 517) (v := (0 : Int32)) hx hb dY_sums_517 (by decide) ?_
                                  refine va_put (D := (dC, dI)) (pc := 518) (ci := 5) (v := .int (0 : Int32)) (ty := .boolean) (C := "LongMachineModel") (T := TY) (N := 28) hx hb hts ui_Y tyY tyY_ok nmY hown hK hP hD hS 0 rfl rfl 25 (by decide) (hts _ gm_371) (fun _ h9 => h9) rfl (by decide +kernel) rfl rfl (Nat.le_of_ble_eq_true rfl) dY_sums_518 (fun H locs hP hD hS => ?_)
                                  have hP : va_P (dC, dI) vwCl (wY cI cJ qY qYm qYr qYv qYl qYn qYp qYs qYw qY6 yPc yMod yLev yLoc yKsp yUsp yKgp yVal yTab ySpc yHal yEnt yPen yBuf yHer yWrd yHas (0 : Int32) (1 : Int32) yMem yR yV yPL yPN yBP yBS yBW ySix) H := hP
                                  have hD : va_D A (wY cI cJ qY qYm qYr qYv qYl qYn qYp qYs qYw qY6 yPc yMod yLev yLoc yKsp yUsp yKgp yVal yTab ySpc yHal yEnt yPen yBuf yHer yWrd yHas (0 : Int32) (1 : Int32) yMem yR yV yPL yPN yBP yBS yBW ySix) := hD
                                  refine lv_iload_n (pc := 521) hx hb dY_sums_521 rfl (lv_at hl 2 rfl) ?_
                                  refine lv_bipush (pc := 522) (v := (96 : Int32)) hx hb dY_sums_522 (by decide) ?_
                                  refine lv_icmp_ne (pc := 524) (tgt := 588) hx hb dY_sums_524 (by decide) (fun h524_138 => ?_) (fun h524_138 => absurd h524_138 n4_10)
                                  refine lv_iload_n (pc := 588) hx hb dY_sums_588 rfl (lv_at hl 2 rfl) ?_
                                  refine lv_bipush (pc := 589) (v := (105 : Int32)) hx hb dY_sums_589 (by decide) ?_
                                  refine lv_icmp_ne (pc := 591) (tgt := 655) hx hb dY_sums_591 (by decide) (fun h591_139 => ?_) (fun h591_139 => absurd h591_139 n4_13)
                                  refine lv_lload (pc := 655) hx hb dY_sums_655 (lv_at hl 0 rfl) ?_
                                  subst hu
                                  exact W.lret hx hb hr (fun t ht hW => ⟨rfl, by rw [ht]; exact hP, hS.F ht⟩) hS.2.2 dY_sums_657
def f_Y_bits (z1 : Int32) (z2 : Int64) (z4 : Int64) (yHas : Int32) (yNon : Int32) : Int64 × Int32 × Int32 := (if z1 = (0 : Int32) then ((z2 &&& z4), yHas, yNon) else (if z1 = (8 : Int32) then ((z2 &&& (z4 ^^^ (-1 : Int64))), yHas, yNon) else (if z1 = (20 : Int32) then (z4, (if (z2 &&& (1 : Int64)) = (1 : Int64) then (1 : Int32) else (0 : Int32)), yNon) else (if z1 = (22 : Int32) then (z4, (if (z2 &&& (1 : Int64)) = (0 : Int64) then (1 : Int32) else (0 : Int32)), yNon) else (if z1 = (32 : Int32) then ((z2 ||| z4), yHas, yNon) else (if z1 = (36 : Int32) then (z4, (if z2 = (0 : Int64) then (1 : Int32) else (0 : Int32)), yNon) else (if z1 = (38 : Int32) then (z4, (if z2 = (0 : Int64) then (0 : Int32) else (1 : Int32)), yNon) else (if z1 = (40 : Int32) then ((z2 ||| (z4 ^^^ (-1 : Int64))), yHas, yNon) else (if z1 = (64 : Int32) then ((z2 ^^^ z4), yHas, yNon) else (if z1 = (68 : Int32) then (z4, (if (0 : Int64) ≤ z2 then (0 : Int32) else (1 : Int32)), yNon) else (if z1 = (70 : Int32) then (z4, (if z2 < (0 : Int64) then (0 : Int32) else (1 : Int32)), yNon) else (if z1 = (72 : Int32) then ((z2 ^^^ (z4 ^^^ (-1 : Int64))), yHas, yNon) else (if z1 = (100 : Int32) then (z4, (if (0 : Int64) < z2 then (0 : Int32) else (1 : Int32)), yNon) else (if z1 = (102 : Int32) then (z4, (if z2 ≤ (0 : Int64) then (0 : Int32) else (1 : Int32)), yNon) else ((0 : Int64), yHas, (1 : Int32))))))))))))))))
set_option maxRecDepth 100000 in
set_option maxHeartbeats 4000000 in
theorem c_Y_bits (l : Launch) (dC : Nat → ClassId) (dI : Nat → Nat → Nat) (cI cJ : ClassId) (qY qYm qYr qYv qYl qYn qYp qYs qYw qY6 : Nat) (sz : Nat) (yPc : Int64) (yMod : Int32) (yLev : Int32) (yLoc : Int32) (yKsp : Int64) (yUsp : Int64) (yKgp : Int64) (yVal : Int64) (yTab : Int32) (ySpc : Int32) (yHal : Int32) (yEnt : Int32) (yPen : Int32) (yBuf : Int32) (yHer : Int64) (yWrd : Int32) (yHas : Int32) (yTrp : Int32) (yNon : Int32) (yMem : (Nat → Int32)) (yR : (Nat → Int64)) (yV : (Nat → Int64)) (yPL : (Nat → Int32)) (yPN : (Nat → Int32)) (yBP : (Nat → Int32)) (yBS : (Nat → Int32)) (yBW : (Nat → Int64)) (ySix : (Nat → Int64)) (z1 : Int32) (z2 : Int64) (z4 : Int64) : Met l yY_bits (.code yY_bits cY_bits 6 (some .long) :: vG) ({ frames := 0, cells := 0, slots := 0, locals := 0 }) (va_Pc [.ref qY, .int z1, .long z2, .long z4] (qa_pre (dC, dI) vwCl (wY cI cJ qY qYm qYr qYv qYl qYn qYp qYs qYw qY6 yPc yMod yLev yLoc yKsp yUsp yKgp yVal yTab ySpc yHal yEnt yPen yBuf yHer yWrd yHas yTrp yNon yMem yR yV yPL yPN yBP yBS yBW ySix) [(cI, .int), (cJ, .long)] sz)) (qa_mod (some (.long ((f_Y_bits z1 z2 z4 yHas yNon).1))) (dC, dI) vwCl (wY cI cJ qY qYm qYr qYv qYl qYn qYp qYs qYw qY6 yPc yMod yLev yLoc yKsp yUsp yKgp yVal yTab ySpc yHal yEnt yPen yBuf yHer yWrd ((f_Y_bits z1 z2 z4 yHas yNon).2.1) yTrp ((f_Y_bits z1 z2 z4 yHas yNon).2.2) yMem yR yV yPL yPN yBP yBS yBW ySix) (va_A (wY cI cJ qY qYm qYr qYv qYl qYn qYp qYs qYw qY6 yPc yMod yLev yLoc yKsp yUsp yKgp yVal yTab ySpc yHal yEnt yPen yBuf yHer yWrd yHas yTrp yNon yMem yR yV yPL yPN yBP yBS yBW ySix) sz)) 0 0 (va_A (wY cI cJ qY qYm qYr qYv qYl qYn qYp qYs qYw qY6 yPc yMod yLev yLoc yKsp yUsp yKgp yVal yTab ySpc yHal yEnt yPen yBuf yHer yWrd yHas yTrp yNon yMem yR yV yPL yPN yBP yBS yBW ySix) sz) := by
  refine Met.ofW (cc := cY_bits) (maxL := 6) (ret := (some .long)) (by decide) rfl ?_
  intro p e s m args below meth c s₁ B hml hv
  obtain ⟨rfl, hsz, hP, hK, hD0⟩ := hv
  have hx := B.exec
  have hb := B.bytes
  have hr := B.returns
  have hts : ∀ w ∈ vG, w.before _ s = true := fun w h => atoms_spec (ws := (.code yY_bits cY_bits 6 (some .long) :: vG)) B.pre w (List.mem_cons_of_mem _ h)
  have hown : s.vm.findClass "LongMachineModel" = some m.cls := findClass_of_methodNamed B.named
  have hlocks := B.notSynchronized
  subst hsz
  have hD := hD0.self (sz := s.heap.size)
  generalize hAe : va_A (wY cI cJ qY qYm qYr qYv qYl qYn qYp qYs qYw qY6 yPc yMod yLev yLoc yKsp yUsp yKgp yVal yTab ySpc yHal yEnt yPen yBuf yHer yWrd yHas yTrp yNon yMem yR yV yPL yPN yBP yBS yBW ySix) s.heap.size = A at hD ⊢
  have hA : ∀ q : Nat, s.heap.size ≤ q → A q := fun q h => by rw [← hAe]; exact Or.inr h
  have hS : va_S A s.heap s.heap [] := va_S.rf
  have hl := lv_entry ([.ref qY, .int z1, .long z2, .long z4]) (n := 6) (Nat.le_of_ble_eq_true rfl)
  rw [lg_entry_eq]
  generalize (lg_sl ([.ref qY, .int z1, .long z2, .long z4]) ++ List.replicate (6 - (lg_sl ([.ref qY, .int z1, .long z2, .long z4])).length) Slot.unset).toArray = ls at hl ⊢
  have hl : lv_has ls 6 [(0, .ref qY), (1, .int z1), (2, .long z2), (4, .long z4)] := hl
  obtain ⟨u, hu⟩ : ∃ u, u = f_Y_bits z1 z2 z4 yHas yNon := ⟨_, rfl⟩
  rw [← hu]
  unfold f_Y_bits at hu
  refine lv_iload_n (pc := 0) hx hb dY_bits_0 rfl (lv_at hl 1 rfl) ?_
  rcases Decidable.em (z1 = (0 : Int32)) with h1_1 | h1_1
  · have hu := hu.trans (if_pos h1_1)
    refine lv_lookup (pc := 1) (tgt := 124) (off := 123) hx hb dY_bits_1 (by decide) (by rw [h1_1]; decide) (by decide) ?_
    refine lv_lload_n (pc := 124) hx hb dY_bits_124 rfl (lv_at hl 2 rfl) ?_
    refine lv_lload (pc := 125) hx hb dY_bits_125 (lv_at hl 3 rfl) ?_
    refine lv_land (pc := 127) hx hb dY_bits_127 ?_
    subst hu
    exact W.lret hx hb hr (fun t ht hW => ⟨rfl, by rw [ht]; exact hP, hS.F ht⟩) hS.2.2 dY_bits_128
  · have hu := hu.trans (if_neg h1_1)
    have n1_0 : ¬ z1 = (0 : Int32) := h1_1
    rcases Decidable.em (z1 = (8 : Int32)) with h1_2 | h1_2
    · have hu := hu.trans (if_pos h1_2)
      refine lv_lookup (pc := 1) (tgt := 129) (off := 128) hx hb dY_bits_1 (by decide) (by rw [h1_2]; decide) (by decide) ?_
      refine lv_lload_n (pc := 129) hx hb dY_bits_129 rfl (lv_at hl 2 rfl) ?_
      refine lv_lload (pc := 130) hx hb dY_bits_130 (lv_at hl 3 rfl) ?_
      refine lv_ldc2 (pc := 132) (v := (-1 : Int64)) hx hb hown (hts _ gm_488) dY_bits_132 ?_
      refine lv_lxor (pc := 135) hx hb dY_bits_135 ?_
      refine lv_land (pc := 136) hx hb dY_bits_136 ?_
      subst hu
      exact W.lret hx hb hr (fun t ht hW => ⟨rfl, by rw [ht]; exact hP, hS.F ht⟩) hS.2.2 dY_bits_137
    · have hu := hu.trans (if_neg h1_2)
      have n1_1 : ¬ z1 = (8 : Int32) := h1_2
      rcases Decidable.em (z1 = (20 : Int32)) with h1_3 | h1_3
      · have hu := hu.trans (if_pos h1_3)
        refine lv_lookup (pc := 1) (tgt := 166) (off := 165) hx hb dY_bits_1 (by decide) (by rw [h1_3]; decide) (by decide) ?_
        refine lv_aload_n (pc := 166) hx hb dY_bits_166 rfl (lv_at hl 0 rfl) ?_
        refine lv_lload_n (pc := 167) hx hb dY_bits_167 rfl (lv_at hl 2 rfl) ?_
        refine lv_lconst (pc := 168) (v := (1 : Int64)) hx hb dY_bits_168 (by decide) ?_
        refine lv_land (pc := 169) hx hb dY_bits_169 ?_
        refine lv_lconst (pc := 170) (v := (1 : Int64)) hx hb dY_bits_170 (by decide) ?_
        refine qa_joini (J := 180) (ls2 := ls) (rest2 := [.ref qY]) (if (z2 &&& (1 : Int64)) = (1 : Int64) then (1 : Int32) else (0 : Int32)) (fun hj180 => ?_) ?_
        · refine qa_lc_ne (pc := 171) (tgt := 179) hx hb dY_bits_171 dY_bits_172 (by decide) (fun h171_4 => ?_) (fun h171_4 => ?_)
          · refine lv_iconst (pc := 179) (v := (0 : Int32)) hx hb dY_bits_179 (by decide) ?_
            exact hj180 _ (Eq.symm (if_neg h171_4))
          · refine lv_iconst (pc := 175) (v := (1 : Int32)) hx hb dY_bits_175 (by decide) ?_
            refine lv_goto (pc := 176) (tgt := 180) hx hb dY_bits_176 (by decide) ?_
            exact hj180 _ (Eq.symm (if_pos h171_4))
        refine va_put (D := (dC, dI)) (pc := 180) (ci := 5) (v := .int (if (z2 &&& (1 : Int64)) = (1 : Int64) then (1 : Int32) else (0 : Int32))) (ty := .boolean) (C := "LongMachineModel") (T := TY) (N := 28) hx hb hts ui_Y tyY tyY_ok nmY hown hK hP hD hS 0 rfl rfl 24 (by decide) (hts _ gm_370) (fun _ h9 => h9) rfl (by decide +kernel) (qa_nb (qa_bi qa_b1 qa_b0)) (qa_fb (qa_bi qa_b1 qa_b0)) (Nat.le_of_ble_eq_true rfl) dY_bits_180 (fun H locs hP hD hS => ?_)
        have hP : va_P (dC, dI) vwCl (wY cI cJ qY qYm qYr qYv qYl qYn qYp qYs qYw qY6 yPc yMod yLev yLoc yKsp yUsp yKgp yVal yTab ySpc yHal yEnt yPen yBuf yHer yWrd (if (z2 &&& (1 : Int64)) = (1 : Int64) then (1 : Int32) else (0 : Int32)) yTrp yNon yMem yR yV yPL yPN yBP yBS yBW ySix) H := hP
        have hD : va_D A (wY cI cJ qY qYm qYr qYv qYl qYn qYp qYs qYw qY6 yPc yMod yLev yLoc yKsp yUsp yKgp yVal yTab ySpc yHal yEnt yPen yBuf yHer yWrd (if (z2 &&& (1 : Int64)) = (1 : Int64) then (1 : Int32) else (0 : Int32)) yTrp yNon yMem yR yV yPL yPN yBP yBS yBW ySix) := hD
        refine lv_lload (pc := 183) hx hb dY_bits_183 (lv_at hl 3 rfl) ?_
        subst hu
        exact W.lret hx hb hr (fun t ht hW => ⟨rfl, by rw [ht]; exact hP, hS.F ht⟩) hS.2.2 dY_bits_185
      · have hu := hu.trans (if_neg h1_3)
        have n1_2 : ¬ z1 = (20 : Int32) := h1_3
        rcases Decidable.em (z1 = (22 : Int32)) with h1_5 | h1_5
        · have hu := hu.trans (if_pos h1_5)
          refine lv_lookup (pc := 1) (tgt := 186) (off := 185) hx hb dY_bits_1 (by decide) (by rw [h1_5]; decide) (by decide) ?_
          refine lv_aload_n (pc := 186) hx hb dY_bits_186 rfl (lv_at hl 0 rfl) ?_
          refine lv_lload_n (pc := 187) hx hb dY_bits_187 rfl (lv_at hl 2 rfl) ?_
          refine lv_lconst (pc := 188) (v := (1 : Int64)) hx hb dY_bits_188 (by decide) ?_
          refine lv_land (pc := 189) hx hb dY_bits_189 ?_
          refine lv_lconst (pc := 190) (v := (0 : Int64)) hx hb dY_bits_190 (by decide) ?_
          refine qa_joini (J := 200) (ls2 := ls) (rest2 := [.ref qY]) (if (z2 &&& (1 : Int64)) = (0 : Int64) then (1 : Int32) else (0 : Int32)) (fun hj200 => ?_) ?_
          · refine qa_lc_ne (pc := 191) (tgt := 199) hx hb dY_bits_191 dY_bits_192 (by decide) (fun h191_6 => ?_) (fun h191_6 => ?_)
            · refine lv_iconst (pc := 199) (v := (0 : Int32)) hx hb dY_bits_199 (by decide) ?_
              exact hj200 _ (Eq.symm (if_neg h191_6))
            · refine lv_iconst (pc := 195) (v := (1 : Int32)) hx hb dY_bits_195 (by decide) ?_
              refine lv_goto (pc := 196) (tgt := 200) hx hb dY_bits_196 (by decide) ?_
              exact hj200 _ (Eq.symm (if_pos h191_6))
          refine va_put (D := (dC, dI)) (pc := 200) (ci := 5) (v := .int (if (z2 &&& (1 : Int64)) = (0 : Int64) then (1 : Int32) else (0 : Int32))) (ty := .boolean) (C := "LongMachineModel") (T := TY) (N := 28) hx hb hts ui_Y tyY tyY_ok nmY hown hK hP hD hS 0 rfl rfl 24 (by decide) (hts _ gm_370) (fun _ h9 => h9) rfl (by decide +kernel) (qa_nb (qa_bi qa_b1 qa_b0)) (qa_fb (qa_bi qa_b1 qa_b0)) (Nat.le_of_ble_eq_true rfl) dY_bits_200 (fun H locs hP hD hS => ?_)
          have hP : va_P (dC, dI) vwCl (wY cI cJ qY qYm qYr qYv qYl qYn qYp qYs qYw qY6 yPc yMod yLev yLoc yKsp yUsp yKgp yVal yTab ySpc yHal yEnt yPen yBuf yHer yWrd (if (z2 &&& (1 : Int64)) = (0 : Int64) then (1 : Int32) else (0 : Int32)) yTrp yNon yMem yR yV yPL yPN yBP yBS yBW ySix) H := hP
          have hD : va_D A (wY cI cJ qY qYm qYr qYv qYl qYn qYp qYs qYw qY6 yPc yMod yLev yLoc yKsp yUsp yKgp yVal yTab ySpc yHal yEnt yPen yBuf yHer yWrd (if (z2 &&& (1 : Int64)) = (0 : Int64) then (1 : Int32) else (0 : Int32)) yTrp yNon yMem yR yV yPL yPN yBP yBS yBW ySix) := hD
          refine lv_lload (pc := 203) hx hb dY_bits_203 (lv_at hl 3 rfl) ?_
          subst hu
          exact W.lret hx hb hr (fun t ht hW => ⟨rfl, by rw [ht]; exact hP, hS.F ht⟩) hS.2.2 dY_bits_205
        · have hu := hu.trans (if_neg h1_5)
          have n1_3 : ¬ z1 = (22 : Int32) := h1_5
          rcases Decidable.em (z1 = (32 : Int32)) with h1_7 | h1_7
          · have hu := hu.trans (if_pos h1_7)
            refine lv_lookup (pc := 1) (tgt := 138) (off := 137) hx hb dY_bits_1 (by decide) (by rw [h1_7]; decide) (by decide) ?_
            refine lv_lload_n (pc := 138) hx hb dY_bits_138 rfl (lv_at hl 2 rfl) ?_
            refine lv_lload (pc := 139) hx hb dY_bits_139 (lv_at hl 3 rfl) ?_
            refine lv_lor (pc := 141) hx hb dY_bits_141 ?_
            subst hu
            exact W.lret hx hb hr (fun t ht hW => ⟨rfl, by rw [ht]; exact hP, hS.F ht⟩) hS.2.2 dY_bits_142
          · have hu := hu.trans (if_neg h1_7)
            have n1_4 : ¬ z1 = (32 : Int32) := h1_7
            rcases Decidable.em (z1 = (36 : Int32)) with h1_8 | h1_8
            · have hu := hu.trans (if_pos h1_8)
              refine lv_lookup (pc := 1) (tgt := 206) (off := 205) hx hb dY_bits_1 (by decide) (by rw [h1_8]; decide) (by decide) ?_
              refine lv_aload_n (pc := 206) hx hb dY_bits_206 rfl (lv_at hl 0 rfl) ?_
              refine lv_lload_n (pc := 207) hx hb dY_bits_207 rfl (lv_at hl 2 rfl) ?_
              refine lv_lconst (pc := 208) (v := (0 : Int64)) hx hb dY_bits_208 (by decide) ?_
              refine qa_joini (J := 218) (ls2 := ls) (rest2 := [.ref qY]) (if z2 = (0 : Int64) then (1 : Int32) else (0 : Int32)) (fun hj218 => ?_) ?_
              · refine qa_lc_ne (pc := 209) (tgt := 217) hx hb dY_bits_209 dY_bits_210 (by decide) (fun h209_9 => ?_) (fun h209_9 => ?_)
                · refine lv_iconst (pc := 217) (v := (0 : Int32)) hx hb dY_bits_217 (by decide) ?_
                  exact hj218 _ (Eq.symm (if_neg h209_9))
                · refine lv_iconst (pc := 213) (v := (1 : Int32)) hx hb dY_bits_213 (by decide) ?_
                  refine lv_goto (pc := 214) (tgt := 218) hx hb dY_bits_214 (by decide) ?_
                  exact hj218 _ (Eq.symm (if_pos h209_9))
              refine va_put (D := (dC, dI)) (pc := 218) (ci := 5) (v := .int (if z2 = (0 : Int64) then (1 : Int32) else (0 : Int32))) (ty := .boolean) (C := "LongMachineModel") (T := TY) (N := 28) hx hb hts ui_Y tyY tyY_ok nmY hown hK hP hD hS 0 rfl rfl 24 (by decide) (hts _ gm_370) (fun _ h9 => h9) rfl (by decide +kernel) (qa_nb (qa_bi qa_b1 qa_b0)) (qa_fb (qa_bi qa_b1 qa_b0)) (Nat.le_of_ble_eq_true rfl) dY_bits_218 (fun H locs hP hD hS => ?_)
              have hP : va_P (dC, dI) vwCl (wY cI cJ qY qYm qYr qYv qYl qYn qYp qYs qYw qY6 yPc yMod yLev yLoc yKsp yUsp yKgp yVal yTab ySpc yHal yEnt yPen yBuf yHer yWrd (if z2 = (0 : Int64) then (1 : Int32) else (0 : Int32)) yTrp yNon yMem yR yV yPL yPN yBP yBS yBW ySix) H := hP
              have hD : va_D A (wY cI cJ qY qYm qYr qYv qYl qYn qYp qYs qYw qY6 yPc yMod yLev yLoc yKsp yUsp yKgp yVal yTab ySpc yHal yEnt yPen yBuf yHer yWrd (if z2 = (0 : Int64) then (1 : Int32) else (0 : Int32)) yTrp yNon yMem yR yV yPL yPN yBP yBS yBW ySix) := hD
              refine lv_lload (pc := 221) hx hb dY_bits_221 (lv_at hl 3 rfl) ?_
              subst hu
              exact W.lret hx hb hr (fun t ht hW => ⟨rfl, by rw [ht]; exact hP, hS.F ht⟩) hS.2.2 dY_bits_223
            · have hu := hu.trans (if_neg h1_8)
              have n1_5 : ¬ z1 = (36 : Int32) := h1_8
              rcases Decidable.em (z1 = (38 : Int32)) with h1_10 | h1_10
              · have hu := hu.trans (if_pos h1_10)
                refine lv_lookup (pc := 1) (tgt := 224) (off := 223) hx hb dY_bits_1 (by decide) (by rw [h1_10]; decide) (by decide) ?_
                refine lv_aload_n (pc := 224) hx hb dY_bits_224 rfl (lv_at hl 0 rfl) ?_
                refine lv_lload_n (pc := 225) hx hb dY_bits_225 rfl (lv_at hl 2 rfl) ?_
                refine lv_lconst (pc := 226) (v := (0 : Int64)) hx hb dY_bits_226 (by decide) ?_
                refine qa_joini (J := 236) (ls2 := ls) (rest2 := [.ref qY]) (if z2 = (0 : Int64) then (0 : Int32) else (1 : Int32)) (fun hj236 => ?_) ?_
                · refine qa_lc_eq (pc := 227) (tgt := 235) hx hb dY_bits_227 dY_bits_228 (by decide) (fun h227_11 => ?_) (fun h227_11 => ?_)
                  · refine lv_iconst (pc := 235) (v := (0 : Int32)) hx hb dY_bits_235 (by decide) ?_
                    exact hj236 _ (Eq.symm (if_pos h227_11))
                  · refine lv_iconst (pc := 231) (v := (1 : Int32)) hx hb dY_bits_231 (by decide) ?_
                    refine lv_goto (pc := 232) (tgt := 236) hx hb dY_bits_232 (by decide) ?_
                    exact hj236 _ (Eq.symm (if_neg h227_11))
                refine va_put (D := (dC, dI)) (pc := 236) (ci := 5) (v := .int (if z2 = (0 : Int64) then (0 : Int32) else (1 : Int32))) (ty := .boolean) (C := "LongMachineModel") (T := TY) (N := 28) hx hb hts ui_Y tyY tyY_ok nmY hown hK hP hD hS 0 rfl rfl 24 (by decide) (hts _ gm_370) (fun _ h9 => h9) rfl (by decide +kernel) (qa_nb (qa_bi qa_b0 qa_b1)) (qa_fb (qa_bi qa_b0 qa_b1)) (Nat.le_of_ble_eq_true rfl) dY_bits_236 (fun H locs hP hD hS => ?_)
                have hP : va_P (dC, dI) vwCl (wY cI cJ qY qYm qYr qYv qYl qYn qYp qYs qYw qY6 yPc yMod yLev yLoc yKsp yUsp yKgp yVal yTab ySpc yHal yEnt yPen yBuf yHer yWrd (if z2 = (0 : Int64) then (0 : Int32) else (1 : Int32)) yTrp yNon yMem yR yV yPL yPN yBP yBS yBW ySix) H := hP
                have hD : va_D A (wY cI cJ qY qYm qYr qYv qYl qYn qYp qYs qYw qY6 yPc yMod yLev yLoc yKsp yUsp yKgp yVal yTab ySpc yHal yEnt yPen yBuf yHer yWrd (if z2 = (0 : Int64) then (0 : Int32) else (1 : Int32)) yTrp yNon yMem yR yV yPL yPN yBP yBS yBW ySix) := hD
                refine lv_lload (pc := 239) hx hb dY_bits_239 (lv_at hl 3 rfl) ?_
                subst hu
                exact W.lret hx hb hr (fun t ht hW => ⟨rfl, by rw [ht]; exact hP, hS.F ht⟩) hS.2.2 dY_bits_241
              · have hu := hu.trans (if_neg h1_10)
                have n1_6 : ¬ z1 = (38 : Int32) := h1_10
                rcases Decidable.em (z1 = (40 : Int32)) with h1_12 | h1_12
                · have hu := hu.trans (if_pos h1_12)
                  refine lv_lookup (pc := 1) (tgt := 143) (off := 142) hx hb dY_bits_1 (by decide) (by rw [h1_12]; decide) (by decide) ?_
                  refine lv_lload_n (pc := 143) hx hb dY_bits_143 rfl (lv_at hl 2 rfl) ?_
                  refine lv_lload (pc := 144) hx hb dY_bits_144 (lv_at hl 3 rfl) ?_
                  refine lv_ldc2 (pc := 146) (v := (-1 : Int64)) hx hb hown (hts _ gm_488) dY_bits_146 ?_
                  refine lv_lxor (pc := 149) hx hb dY_bits_149 ?_
                  refine lv_lor (pc := 150) hx hb dY_bits_150 ?_
                  subst hu
                  exact W.lret hx hb hr (fun t ht hW => ⟨rfl, by rw [ht]; exact hP, hS.F ht⟩) hS.2.2 dY_bits_151
                · have hu := hu.trans (if_neg h1_12)
                  have n1_7 : ¬ z1 = (40 : Int32) := h1_12
                  rcases Decidable.em (z1 = (64 : Int32)) with h1_13 | h1_13
                  · have hu := hu.trans (if_pos h1_13)
                    refine lv_lookup (pc := 1) (tgt := 152) (off := 151) hx hb dY_bits_1 (by decide) (by rw [h1_13]; decide) (by decide) ?_
                    refine lv_lload_n (pc := 152) hx hb dY_bits_152 rfl (lv_at hl 2 rfl) ?_
                    refine lv_lload (pc := 153) hx hb dY_bits_153 (lv_at hl 3 rfl) ?_
                    refine lv_lxor (pc := 155) hx hb dY_bits_155 ?_
                    subst hu
                    exact W.lret hx hb hr (fun t ht hW => ⟨rfl, by rw [ht]; exact hP, hS.F ht⟩) hS.2.2 dY_bits_156
                  · have hu := hu.trans (if_neg h1_13)
                    have n1_8 : ¬ z1 = (64 : Int32) := h1_13
                    rcases Decidable.em (z1 = (68 : Int32)) with h1_14 | h1_14
                    · have hu := hu.trans (if_pos h1_14)
                      refine lv_lookup (pc := 1) (tgt := 242) (off := 241) hx hb dY_bits_1 (by decide) (by rw [h1_14]; decide) (by decide) ?_
                      refine lv_aload_n (pc := 242) hx hb dY_bits_242 rfl (lv_at hl 0 rfl) ?_
                      refine lv_lload_n (pc := 243) hx hb dY_bits_243 rfl (lv_at hl 2 rfl) ?_
                      refine lv_lconst (pc := 244) (v := (0 : Int64)) hx hb dY_bits_244 (by decide) ?_
                      refine qa_joini (J := 254) (ls2 := ls) (rest2 := [.ref qY]) (if (0 : Int64) ≤ z2 then (0 : Int32) else (1 : Int32)) (fun hj254 => ?_) ?_
                      · refine qa_lc_ge (pc := 245) (tgt := 253) hx hb dY_bits_245 dY_bits_246 (by decide) (fun h245_15 => ?_) (fun h245_15 => ?_)
                        · refine lv_iconst (pc := 253) (v := (0 : Int32)) hx hb dY_bits_253 (by decide) ?_
                          exact hj254 _ (Eq.symm (if_pos h245_15))
                        · refine lv_iconst (pc := 249) (v := (1 : Int32)) hx hb dY_bits_249 (by decide) ?_
                          refine lv_goto (pc := 250) (tgt := 254) hx hb dY_bits_250 (by decide) ?_
                          exact hj254 _ (Eq.symm (if_neg h245_15))
                      refine va_put (D := (dC, dI)) (pc := 254) (ci := 5) (v := .int (if (0 : Int64) ≤ z2 then (0 : Int32) else (1 : Int32))) (ty := .boolean) (C := "LongMachineModel") (T := TY) (N := 28) hx hb hts ui_Y tyY tyY_ok nmY hown hK hP hD hS 0 rfl rfl 24 (by decide) (hts _ gm_370) (fun _ h9 => h9) rfl (by decide +kernel) (qa_nb (qa_bi qa_b0 qa_b1)) (qa_fb (qa_bi qa_b0 qa_b1)) (Nat.le_of_ble_eq_true rfl) dY_bits_254 (fun H locs hP hD hS => ?_)
                      have hP : va_P (dC, dI) vwCl (wY cI cJ qY qYm qYr qYv qYl qYn qYp qYs qYw qY6 yPc yMod yLev yLoc yKsp yUsp yKgp yVal yTab ySpc yHal yEnt yPen yBuf yHer yWrd (if (0 : Int64) ≤ z2 then (0 : Int32) else (1 : Int32)) yTrp yNon yMem yR yV yPL yPN yBP yBS yBW ySix) H := hP
                      have hD : va_D A (wY cI cJ qY qYm qYr qYv qYl qYn qYp qYs qYw qY6 yPc yMod yLev yLoc yKsp yUsp yKgp yVal yTab ySpc yHal yEnt yPen yBuf yHer yWrd (if (0 : Int64) ≤ z2 then (0 : Int32) else (1 : Int32)) yTrp yNon yMem yR yV yPL yPN yBP yBS yBW ySix) := hD
                      refine lv_lload (pc := 257) hx hb dY_bits_257 (lv_at hl 3 rfl) ?_
                      subst hu
                      exact W.lret hx hb hr (fun t ht hW => ⟨rfl, by rw [ht]; exact hP, hS.F ht⟩) hS.2.2 dY_bits_259
                    · have hu := hu.trans (if_neg h1_14)
                      have n1_9 : ¬ z1 = (68 : Int32) := h1_14
                      rcases Decidable.em (z1 = (70 : Int32)) with h1_16 | h1_16
                      · have hu := hu.trans (if_pos h1_16)
                        refine lv_lookup (pc := 1) (tgt := 260) (off := 259) hx hb dY_bits_1 (by decide) (by rw [h1_16]; decide) (by decide) ?_
                        refine lv_aload_n (pc := 260) hx hb dY_bits_260 rfl (lv_at hl 0 rfl) ?_
                        refine lv_lload_n (pc := 261) hx hb dY_bits_261 rfl (lv_at hl 2 rfl) ?_
                        refine lv_lconst (pc := 262) (v := (0 : Int64)) hx hb dY_bits_262 (by decide) ?_
                        refine qa_joini (J := 272) (ls2 := ls) (rest2 := [.ref qY]) (if z2 < (0 : Int64) then (0 : Int32) else (1 : Int32)) (fun hj272 => ?_) ?_
                        · refine qa_lc_lt (pc := 263) (tgt := 271) hx hb dY_bits_263 dY_bits_264 (by decide) (fun h263_17 => ?_) (fun h263_17 => ?_)
                          · refine lv_iconst (pc := 271) (v := (0 : Int32)) hx hb dY_bits_271 (by decide) ?_
                            exact hj272 _ (Eq.symm (if_pos h263_17))
                          · refine lv_iconst (pc := 267) (v := (1 : Int32)) hx hb dY_bits_267 (by decide) ?_
                            refine lv_goto (pc := 268) (tgt := 272) hx hb dY_bits_268 (by decide) ?_
                            exact hj272 _ (Eq.symm (if_neg h263_17))
                        refine va_put (D := (dC, dI)) (pc := 272) (ci := 5) (v := .int (if z2 < (0 : Int64) then (0 : Int32) else (1 : Int32))) (ty := .boolean) (C := "LongMachineModel") (T := TY) (N := 28) hx hb hts ui_Y tyY tyY_ok nmY hown hK hP hD hS 0 rfl rfl 24 (by decide) (hts _ gm_370) (fun _ h9 => h9) rfl (by decide +kernel) (qa_nb (qa_bi qa_b0 qa_b1)) (qa_fb (qa_bi qa_b0 qa_b1)) (Nat.le_of_ble_eq_true rfl) dY_bits_272 (fun H locs hP hD hS => ?_)
                        have hP : va_P (dC, dI) vwCl (wY cI cJ qY qYm qYr qYv qYl qYn qYp qYs qYw qY6 yPc yMod yLev yLoc yKsp yUsp yKgp yVal yTab ySpc yHal yEnt yPen yBuf yHer yWrd (if z2 < (0 : Int64) then (0 : Int32) else (1 : Int32)) yTrp yNon yMem yR yV yPL yPN yBP yBS yBW ySix) H := hP
                        have hD : va_D A (wY cI cJ qY qYm qYr qYv qYl qYn qYp qYs qYw qY6 yPc yMod yLev yLoc yKsp yUsp yKgp yVal yTab ySpc yHal yEnt yPen yBuf yHer yWrd (if z2 < (0 : Int64) then (0 : Int32) else (1 : Int32)) yTrp yNon yMem yR yV yPL yPN yBP yBS yBW ySix) := hD
                        refine lv_lload (pc := 275) hx hb dY_bits_275 (lv_at hl 3 rfl) ?_
                        subst hu
                        exact W.lret hx hb hr (fun t ht hW => ⟨rfl, by rw [ht]; exact hP, hS.F ht⟩) hS.2.2 dY_bits_277
                      · have hu := hu.trans (if_neg h1_16)
                        have n1_10 : ¬ z1 = (70 : Int32) := h1_16
                        rcases Decidable.em (z1 = (72 : Int32)) with h1_18 | h1_18
                        · have hu := hu.trans (if_pos h1_18)
                          refine lv_lookup (pc := 1) (tgt := 157) (off := 156) hx hb dY_bits_1 (by decide) (by rw [h1_18]; decide) (by decide) ?_
                          refine lv_lload_n (pc := 157) hx hb dY_bits_157 rfl (lv_at hl 2 rfl) ?_
                          refine lv_lload (pc := 158) hx hb dY_bits_158 (lv_at hl 3 rfl) ?_
                          refine lv_ldc2 (pc := 160) (v := (-1 : Int64)) hx hb hown (hts _ gm_488) dY_bits_160 ?_
                          refine lv_lxor (pc := 163) hx hb dY_bits_163 ?_
                          refine lv_lxor (pc := 164) hx hb dY_bits_164 ?_
                          subst hu
                          exact W.lret hx hb hr (fun t ht hW => ⟨rfl, by rw [ht]; exact hP, hS.F ht⟩) hS.2.2 dY_bits_165
                        · have hu := hu.trans (if_neg h1_18)
                          have n1_11 : ¬ z1 = (72 : Int32) := h1_18
                          rcases Decidable.em (z1 = (100 : Int32)) with h1_19 | h1_19
                          · have hu := hu.trans (if_pos h1_19)
                            refine lv_lookup (pc := 1) (tgt := 278) (off := 277) hx hb dY_bits_1 (by decide) (by rw [h1_19]; decide) (by decide) ?_
                            refine lv_aload_n (pc := 278) hx hb dY_bits_278 rfl (lv_at hl 0 rfl) ?_
                            refine lv_lload_n (pc := 279) hx hb dY_bits_279 rfl (lv_at hl 2 rfl) ?_
                            refine lv_lconst (pc := 280) (v := (0 : Int64)) hx hb dY_bits_280 (by decide) ?_
                            refine qa_joini (J := 290) (ls2 := ls) (rest2 := [.ref qY]) (if (0 : Int64) < z2 then (0 : Int32) else (1 : Int32)) (fun hj290 => ?_) ?_
                            · refine qa_lc_gt (pc := 281) (tgt := 289) hx hb dY_bits_281 dY_bits_282 (by decide) (fun h281_20 => ?_) (fun h281_20 => ?_)
                              · refine lv_iconst (pc := 289) (v := (0 : Int32)) hx hb dY_bits_289 (by decide) ?_
                                exact hj290 _ (Eq.symm (if_pos h281_20))
                              · refine lv_iconst (pc := 285) (v := (1 : Int32)) hx hb dY_bits_285 (by decide) ?_
                                refine lv_goto (pc := 286) (tgt := 290) hx hb dY_bits_286 (by decide) ?_
                                exact hj290 _ (Eq.symm (if_neg h281_20))
                            refine va_put (D := (dC, dI)) (pc := 290) (ci := 5) (v := .int (if (0 : Int64) < z2 then (0 : Int32) else (1 : Int32))) (ty := .boolean) (C := "LongMachineModel") (T := TY) (N := 28) hx hb hts ui_Y tyY tyY_ok nmY hown hK hP hD hS 0 rfl rfl 24 (by decide) (hts _ gm_370) (fun _ h9 => h9) rfl (by decide +kernel) (qa_nb (qa_bi qa_b0 qa_b1)) (qa_fb (qa_bi qa_b0 qa_b1)) (Nat.le_of_ble_eq_true rfl) dY_bits_290 (fun H locs hP hD hS => ?_)
                            have hP : va_P (dC, dI) vwCl (wY cI cJ qY qYm qYr qYv qYl qYn qYp qYs qYw qY6 yPc yMod yLev yLoc yKsp yUsp yKgp yVal yTab ySpc yHal yEnt yPen yBuf yHer yWrd (if (0 : Int64) < z2 then (0 : Int32) else (1 : Int32)) yTrp yNon yMem yR yV yPL yPN yBP yBS yBW ySix) H := hP
                            have hD : va_D A (wY cI cJ qY qYm qYr qYv qYl qYn qYp qYs qYw qY6 yPc yMod yLev yLoc yKsp yUsp yKgp yVal yTab ySpc yHal yEnt yPen yBuf yHer yWrd (if (0 : Int64) < z2 then (0 : Int32) else (1 : Int32)) yTrp yNon yMem yR yV yPL yPN yBP yBS yBW ySix) := hD
                            refine lv_lload (pc := 293) hx hb dY_bits_293 (lv_at hl 3 rfl) ?_
                            subst hu
                            exact W.lret hx hb hr (fun t ht hW => ⟨rfl, by rw [ht]; exact hP, hS.F ht⟩) hS.2.2 dY_bits_295
                          · have hu := hu.trans (if_neg h1_19)
                            have n1_12 : ¬ z1 = (100 : Int32) := h1_19
                            rcases Decidable.em (z1 = (102 : Int32)) with h1_21 | h1_21
                            · have hu := hu.trans (if_pos h1_21)
                              refine lv_lookup (pc := 1) (tgt := 296) (off := 295) hx hb dY_bits_1 (by decide) (by rw [h1_21]; decide) (by decide) ?_
                              refine lv_aload_n (pc := 296) hx hb dY_bits_296 rfl (lv_at hl 0 rfl) ?_
                              refine lv_lload_n (pc := 297) hx hb dY_bits_297 rfl (lv_at hl 2 rfl) ?_
                              refine lv_lconst (pc := 298) (v := (0 : Int64)) hx hb dY_bits_298 (by decide) ?_
                              refine qa_joini (J := 308) (ls2 := ls) (rest2 := [.ref qY]) (if z2 ≤ (0 : Int64) then (0 : Int32) else (1 : Int32)) (fun hj308 => ?_) ?_
                              · refine qa_lc_le (pc := 299) (tgt := 307) hx hb dY_bits_299 dY_bits_300 (by decide) (fun h299_22 => ?_) (fun h299_22 => ?_)
                                · refine lv_iconst (pc := 307) (v := (0 : Int32)) hx hb dY_bits_307 (by decide) ?_
                                  exact hj308 _ (Eq.symm (if_pos h299_22))
                                · refine lv_iconst (pc := 303) (v := (1 : Int32)) hx hb dY_bits_303 (by decide) ?_
                                  refine lv_goto (pc := 304) (tgt := 308) hx hb dY_bits_304 (by decide) ?_
                                  exact hj308 _ (Eq.symm (if_neg h299_22))
                              refine va_put (D := (dC, dI)) (pc := 308) (ci := 5) (v := .int (if z2 ≤ (0 : Int64) then (0 : Int32) else (1 : Int32))) (ty := .boolean) (C := "LongMachineModel") (T := TY) (N := 28) hx hb hts ui_Y tyY tyY_ok nmY hown hK hP hD hS 0 rfl rfl 24 (by decide) (hts _ gm_370) (fun _ h9 => h9) rfl (by decide +kernel) (qa_nb (qa_bi qa_b0 qa_b1)) (qa_fb (qa_bi qa_b0 qa_b1)) (Nat.le_of_ble_eq_true rfl) dY_bits_308 (fun H locs hP hD hS => ?_)
                              have hP : va_P (dC, dI) vwCl (wY cI cJ qY qYm qYr qYv qYl qYn qYp qYs qYw qY6 yPc yMod yLev yLoc yKsp yUsp yKgp yVal yTab ySpc yHal yEnt yPen yBuf yHer yWrd (if z2 ≤ (0 : Int64) then (0 : Int32) else (1 : Int32)) yTrp yNon yMem yR yV yPL yPN yBP yBS yBW ySix) H := hP
                              have hD : va_D A (wY cI cJ qY qYm qYr qYv qYl qYn qYp qYs qYw qY6 yPc yMod yLev yLoc yKsp yUsp yKgp yVal yTab ySpc yHal yEnt yPen yBuf yHer yWrd (if z2 ≤ (0 : Int64) then (0 : Int32) else (1 : Int32)) yTrp yNon yMem yR yV yPL yPN yBP yBS yBW ySix) := hD
                              refine lv_lload (pc := 311) hx hb dY_bits_311 (lv_at hl 3 rfl) ?_
                              subst hu
                              exact W.lret hx hb hr (fun t ht hW => ⟨rfl, by rw [ht]; exact hP, hS.F ht⟩) hS.2.2 dY_bits_313
                            · have hu := hu.trans (if_neg h1_21)
                              have n1_13 : ¬ z1 = (102 : Int32) := h1_21
                              refine lv_lookup (pc := 1) (tgt := 314) (off := 313) hx hb dY_bits_1 (by decide) ((lv_osw n1_0 (by decide)).trans ((lv_osw n1_1 (by decide)).trans ((lv_osw n1_2 (by decide)).trans ((lv_osw n1_3 (by decide)).trans ((lv_osw n1_4 (by decide)).trans ((lv_osw n1_5 (by decide)).trans ((lv_osw n1_6 (by decide)).trans ((lv_osw n1_7 (by decide)).trans ((lv_osw n1_8 (by decide)).trans ((lv_osw n1_9 (by decide)).trans ((lv_osw n1_10 (by decide)).trans ((lv_osw n1_11 (by decide)).trans ((lv_osw n1_12 (by decide)).trans ((lv_osw n1_13 (by decide)).trans (rfl))))))))))))))) (by decide) ?_
                              refine lv_aload_n (pc := 314) hx hb dY_bits_314 rfl (lv_at hl 0 rfl) ?_
                              refine lv_iconst (pc := 315) (v := (1 : Int32)) hx hb dY_bits_315 (by decide) ?_
                              refine va_put (D := (dC, dI)) (pc := 316) (ci := 5) (v := .int (1 : Int32)) (ty := .boolean) (C := "LongMachineModel") (T := TY) (N := 28) hx hb hts ui_Y tyY tyY_ok nmY hown hK hP hD hS 0 rfl rfl 26 (by decide) (hts _ gm_372) (fun _ h9 => h9) rfl (by decide +kernel) rfl rfl (Nat.le_of_ble_eq_true rfl) dY_bits_316 (fun H locs hP hD hS => ?_)
                              have hP : va_P (dC, dI) vwCl (wY cI cJ qY qYm qYr qYv qYl qYn qYp qYs qYw qY6 yPc yMod yLev yLoc yKsp yUsp yKgp yVal yTab ySpc yHal yEnt yPen yBuf yHer yWrd yHas yTrp (1 : Int32) yMem yR yV yPL yPN yBP yBS yBW ySix) H := hP
                              have hD : va_D A (wY cI cJ qY qYm qYr qYv qYl qYn qYp qYs qYw qY6 yPc yMod yLev yLoc yKsp yUsp yKgp yVal yTab ySpc yHal yEnt yPen yBuf yHer yWrd yHas yTrp (1 : Int32) yMem yR yV yPL yPN yBP yBS yBW ySix) := hD
                              refine lv_lconst (pc := 319) (v := (0 : Int64)) hx hb dY_bits_319 (by decide) ?_
                              subst hu
                              exact W.lret hx hb hr (fun t ht hW => ⟨rfl, by rw [ht]; exact hP, hS.F ht⟩) hS.2.2 dY_bits_320
set_option maxRecDepth 100000 in
set_option maxHeartbeats 4000000 in
theorem c_Y_lowest (l : Launch) (z0 : Int32) : Met l yY_lowest (.code yY_lowest cY_lowest 1 (some .long) :: vG) ({ frames := 0, cells := 0, slots := 0, locals := 0 }) (va_Pc [.int z0] (fun _ => True)) (qa_det (.long (if z0 = (64 : Int32) then (-1 : Int64) else ((jlshl (1 : Int64) z0) - (1 : Int64))))) 0 0 (fun _ => False) := by
  refine Met.ofW (cc := cY_lowest) (maxL := 1) (ret := (some .long)) (by decide) rfl ?_
  intro p e s m args below meth c s₁ B hml hv
  obtain ⟨rfl, hv⟩ := hv
  have hx := B.exec
  have hb := B.bytes
  have hr := B.returns
  have hts : ∀ w ∈ vG, w.before _ s = true := fun w h => atoms_spec (ws := (.code yY_lowest cY_lowest 1 (some .long) :: vG)) B.pre w (List.mem_cons_of_mem _ h)
  have hown : s.vm.findClass "LongMachineModel" = some m.cls := findClass_of_methodNamed B.named
  have hlocks := B.notSynchronized
  have hl := lv_entry ([.int z0]) (n := 1) (Nat.le_of_ble_eq_true rfl)
  rw [lg_entry_eq]
  generalize (lg_sl ([.int z0]) ++ List.replicate (1 - (lg_sl ([.int z0])).length) Slot.unset).toArray = ls at hl ⊢
  have hl : lv_has ls 1 [(0, .int z0)] := hl
  refine lv_iload_n (pc := 0) hx hb dY_lowest_0 rfl (lv_at hl 0 rfl) ?_
  refine lv_bipush (pc := 1) (v := (64 : Int32)) hx hb dY_lowest_1 (by decide) ?_
  refine qa_joinl (J := 17) (ls2 := ls) (rest2 := []) (if z0 = (64 : Int32) then (-1 : Int64) else ((jlshl (1 : Int64) z0) - (1 : Int64))) (fun hj17 => ?_) ?_
  · refine lv_icmp_ne (pc := 3) (tgt := 12) hx hb dY_lowest_3 (by decide) (fun h3_1 => ?_) (fun h3_1 => ?_)
    · refine lv_lconst (pc := 12) (v := (1 : Int64)) hx hb dY_lowest_12 (by decide) ?_
      refine lv_iload_n (pc := 13) hx hb dY_lowest_13 rfl (lv_at hl 0 rfl) ?_
      refine lv_lshl (pc := 14) (v := (jlshl (1 : Int64) z0)) hx hb dY_lowest_14 rfl ?_
      refine lv_lconst (pc := 15) (v := (1 : Int64)) hx hb dY_lowest_15 (by decide) ?_
      refine lv_lsub (pc := 16) hx hb dY_lowest_16 ?_
      exact hj17 _ (Eq.symm (if_neg h3_1))
    · refine lv_ldc2 (pc := 6) (v := (-1 : Int64)) hx hb hown (hts _ gm_488) dY_lowest_6 ?_
      refine lv_goto (pc := 9) (tgt := 17) hx hb dY_lowest_9 (by decide) ?_
      exact hj17 _ (Eq.symm (if_pos h3_1))
  exact W.lret hx hb hr (fun t ht hW => ⟨rfl, ht⟩) (fun _ h => by cases h) dY_lowest_17
def f_Y_zapped_B6 (z0 : Int64) (z2 : Int64) (z4 : Int32) : Nat → Int64 → Int32 → Int64
  | 0, k5_6, k7_6 => (0 : Int64)
  | n + 1, k5_6, k7_6 => (if (8 : Int32) ≤ k7_6 then k5_6 else (if (if (if ((jlshr z2 k7_6) &&& (1 : Int64)) = (1 : Int64) then (1 : Int32) else (0 : Int32)) = z4 then (1 : Int32) else (0 : Int32)) = (0 : Int32) then (f_Y_zapped_B6 z0 z2 z4 n (k5_6 ||| (z0 &&& (jlshl (255 : Int64) ((8 : Int32) * k7_6)))) (k7_6 + (1 : Int32))) else (f_Y_zapped_B6 z0 z2 z4 n k5_6 (k7_6 + (1 : Int32)))))
theorem f_Y_zapped_B6_s (z0 : Int64) (z2 : Int64) (z4 : Int32) (n : Nat) (k5_6 : Int64) (k7_6 : Int32) : f_Y_zapped_B6 z0 z2 z4 (n + 1) k5_6 k7_6 = (if (8 : Int32) ≤ k7_6 then k5_6 else (if (if (if ((jlshr z2 k7_6) &&& (1 : Int64)) = (1 : Int64) then (1 : Int32) else (0 : Int32)) = z4 then (1 : Int32) else (0 : Int32)) = (0 : Int32) then (f_Y_zapped_B6 z0 z2 z4 n (k5_6 ||| (z0 &&& (jlshl (255 : Int64) ((8 : Int32) * k7_6)))) (k7_6 + (1 : Int32))) else (f_Y_zapped_B6 z0 z2 z4 n k5_6 (k7_6 + (1 : Int32))))) := rfl
def f_Y_zapped (z0 : Int64) (z2 : Int64) (z4 : Int32) : Int64 := (f_Y_zapped_B6 z0 z2 z4 9 (0 : Int64) (0 : Int32))
set_option maxRecDepth 100000 in
set_option maxHeartbeats 4000000 in
theorem c_Y_zapped (l : Launch) (z0 : Int64) (z2 : Int64) (z4 : Int32) : Met l yY_zapped (.code yY_zapped cY_zapped 9 (some .long) :: vG) ({ frames := 0, cells := 0, slots := 0, locals := 0 }) (va_Pc [.long z0, .long z2, .int z4] (fun _ => True)) (qa_det (.long (f_Y_zapped z0 z2 z4))) 0 0 (fun _ => False) := by
  refine Met.ofW (cc := cY_zapped) (maxL := 9) (ret := (some .long)) (by decide) rfl ?_
  intro p e s m args below meth c s₁ B hml hv
  obtain ⟨rfl, hv⟩ := hv
  have hx := B.exec
  have hb := B.bytes
  have hr := B.returns
  have hts : ∀ w ∈ vG, w.before _ s = true := fun w h => atoms_spec (ws := (.code yY_zapped cY_zapped 9 (some .long) :: vG)) B.pre w (List.mem_cons_of_mem _ h)
  have hown : s.vm.findClass "LongMachineModel" = some m.cls := findClass_of_methodNamed B.named
  have hlocks := B.notSynchronized
  have hl := lv_entry ([.long z0, .long z2, .int z4]) (n := 9) (Nat.le_of_ble_eq_true rfl)
  rw [lg_entry_eq]
  generalize (lg_sl ([.long z0, .long z2, .int z4]) ++ List.replicate (9 - (lg_sl ([.long z0, .long z2, .int z4])).length) Slot.unset).toArray = ls at hl ⊢
  have hl : lv_has ls 9 [(0, .long z0), (2, .long z2), (4, .int z4)] := hl
  obtain ⟨u, hu⟩ : ∃ u, u = f_Y_zapped z0 z2 z4 := ⟨_, rfl⟩
  rw [← hu]
  unfold f_Y_zapped at hu
  refine lv_lconst (pc := 0) (v := (0 : Int64)) hx hb dY_zapped_0 (by decide) ?_
  refine lv_lstore (pc := 1) (lv' := [(5, .long (0 : Int64)), (0, .long z0), (2, .long z2), (4, .int z4)]) hx hb dY_zapped_1 hl (by decide) rfl (fun ls hl => ?_)
  refine lv_iconst (pc := 3) (v := (0 : Int32)) hx hb dY_zapped_3 (by decide) ?_
  refine lv_istore (pc := 4) (lv' := [(7, .int (0 : Int32)), (5, .long (0 : Int64)), (0, .long z0), (2, .long z2), (4, .int z4)]) hx hb dY_zapped_4 hl (by decide) rfl (fun ls hl => ?_)
  have hB6 : ∀ (n : Nat) (k5_6 : Int64) (k7_6 : Int32) (ls : Array Slot) (hq6_fu : ((8 : Int32).toInt - (k7_6).toInt).toNat < n) (hl : lv_has ls 9 [(0, .long z0), (2, .long z2), (4, .int z4), (5, .long k5_6), (7, .int k7_6)]) (u : Int64) (hu : u = f_Y_zapped_B6 z0 z2 z4 n k5_6 k7_6), W p l e { frames := 0, cells := 0, slots := 0, locals := 0 } s m ([.long z0, .long z2, .int z4]).toArray below meth c s.heap [] 0 0 (MQ below (qa_det (.long u)) ([.long z0, .long z2, .int z4]).toArray s 0 0 (fun _ => False)) (F0 m 6 ls []) := by
    intro n
    induction n with
    | zero => intro k5_6 k7_6 ls hq6_fu hl u hu; exact absurd hq6_fu (Nat.not_lt_zero _)
    | succ n ih =>
        intro k5_6 k7_6 ls hq6_fu hl u hu
        rw [f_Y_zapped_B6_s] at hu
        refine lv_iload (pc := 6) hx hb dY_zapped_6 (lv_at hl 4 rfl) ?_
        refine lv_bipush (pc := 8) (v := (8 : Int32)) hx hb dY_zapped_8 (by decide) ?_
        refine lv_icmp_ge (pc := 10) (tgt := 68) hx hb dY_zapped_10 (by decide) (fun h10_1 => ?_) (fun h10_1 => ?_)
        · have hu := hu.trans (if_pos h10_1)
          refine lv_lload (pc := 68) hx hb dY_zapped_68 (lv_at hl 3 rfl) ?_
          subst hu
          exact W.lret hx hb hr (fun t ht hW => ⟨rfl, ht⟩) (fun _ h => by cases h) dY_zapped_70
        · have hu := hu.trans (if_neg h10_1)
          refine lv_lload_n (pc := 13) hx hb dY_zapped_13 rfl (lv_at hl 1 rfl) ?_
          refine lv_iload (pc := 14) hx hb dY_zapped_14 (lv_at hl 4 rfl) ?_
          refine lv_lshr (pc := 16) (v := (jlshr z2 k7_6)) hx hb dY_zapped_16 rfl ?_
          refine lv_lconst (pc := 17) (v := (1 : Int64)) hx hb dY_zapped_17 (by decide) ?_
          refine lv_land (pc := 18) hx hb dY_zapped_18 ?_
          refine lv_lconst (pc := 19) (v := (1 : Int64)) hx hb dY_zapped_19 (by decide) ?_
          refine qa_joini (J := 29) (ls2 := ls) (rest2 := []) (if ((jlshr z2 k7_6) &&& (1 : Int64)) = (1 : Int64) then (1 : Int32) else (0 : Int32)) (fun hj29 => ?_) ?_
          · refine qa_lc_ne (pc := 20) (tgt := 28) hx hb dY_zapped_20 dY_zapped_21 (by decide) (fun h20_2 => ?_) (fun h20_2 => ?_)
            · refine lv_iconst (pc := 28) (v := (0 : Int32)) hx hb dY_zapped_28 (by decide) ?_
              exact hj29 _ (Eq.symm (if_neg h20_2))
            · refine lv_iconst (pc := 24) (v := (1 : Int32)) hx hb dY_zapped_24 (by decide) ?_
              refine lv_goto (pc := 25) (tgt := 29) hx hb dY_zapped_25 (by decide) ?_
              exact hj29 _ (Eq.symm (if_pos h20_2))
          refine lv_iload (pc := 29) hx hb dY_zapped_29 (lv_at hl 2 rfl) ?_
          refine qa_joini (J := 39) (ls2 := ls) (rest2 := []) (if (if ((jlshr z2 k7_6) &&& (1 : Int64)) = (1 : Int64) then (1 : Int32) else (0 : Int32)) = z4 then (1 : Int32) else (0 : Int32)) (fun hj39 => ?_) ?_
          · refine lv_icmp_ne (pc := 31) (tgt := 38) hx hb dY_zapped_31 (by decide) (fun h31_3 => ?_) (fun h31_3 => ?_)
            · refine lv_iconst (pc := 38) (v := (0 : Int32)) hx hb dY_zapped_38 (by decide) ?_
              exact hj39 _ (Eq.symm (if_neg h31_3))
            · refine lv_iconst (pc := 34) (v := (1 : Int32)) hx hb dY_zapped_34 (by decide) ?_
              refine lv_goto (pc := 35) (tgt := 39) hx hb dY_zapped_35 (by decide) ?_
              exact hj39 _ (Eq.symm (if_pos h31_3))
          refine lv_istore (pc := 39) (lv' := [(8, .int (if (if ((jlshr z2 k7_6) &&& (1 : Int64)) = (1 : Int64) then (1 : Int32) else (0 : Int32)) = z4 then (1 : Int32) else (0 : Int32))), (0, .long z0), (2, .long z2), (4, .int z4), (5, .long k5_6), (7, .int k7_6)]) hx hb dY_zapped_39 hl (by decide) rfl (fun ls hl => ?_)
          refine lv_iload (pc := 41) hx hb dY_zapped_41 (lv_at hl 0 rfl) ?_
          refine lv_if_ne (pc := 43) (tgt := 62) hx hb dY_zapped_43 (by decide) (fun h43_4 => ?_) (fun h43_4 => ?_)
          · have hu := hu.trans (if_neg h43_4)
            refine lv_iinc (pc := 62) (k := 5) (lv' := [(7, .int (k7_6 + (1 : Int32))), (8, .int (if (if ((jlshr z2 k7_6) &&& (1 : Int64)) = (1 : Int64) then (1 : Int32) else (0 : Int32)) = z4 then (1 : Int32) else (0 : Int32))), (0, .long z0), (2, .long z2), (4, .int z4), (5, .long k5_6)]) hx hb dY_zapped_62 hl rfl (qa_inc (by decide) k7_6) (by decide) rfl (fun ls hl => ?_)
            refine lv_goto (pc := 65) (tgt := 6) hx hb dY_zapped_65 (by decide) ?_
            exact ih k5_6 (k7_6 + (1 : Int32)) _ (rg_fs h10_1 hq6_fu) (lv_sub hl [2, 3, 4, 5, 0] rfl) u hu
          · have hu := hu.trans (if_pos h43_4)
            refine lv_lload (pc := 46) hx hb dY_zapped_46 (lv_at hl 4 rfl) ?_
            refine lv_lload_n (pc := 48) hx hb dY_zapped_48 rfl (lv_at hl 1 rfl) ?_
            refine lv_ldc2 (pc := 49) (v := (255 : Int64)) hx hb hown (hts _ gm_448) dY_zapped_49 ?_
            refine lv_bipush (pc := 52) (v := (8 : Int32)) hx hb dY_zapped_52 (by decide) ?_
            refine lv_iload (pc := 54) hx hb dY_zapped_54 (lv_at hl 5 rfl) ?_
            refine lv_imul (pc := 56) hx hb dY_zapped_56 ?_
            refine lv_lshl (pc := 57) (v := (jlshl (255 : Int64) ((8 : Int32) * k7_6))) hx hb dY_zapped_57 rfl ?_
            refine lv_land (pc := 58) hx hb dY_zapped_58 ?_
            refine lv_lor (pc := 59) hx hb dY_zapped_59 ?_
            refine lv_lstore (pc := 60) (lv' := [(5, .long (k5_6 ||| (z0 &&& (jlshl (255 : Int64) ((8 : Int32) * k7_6))))), (8, .int (if (if ((jlshr z2 k7_6) &&& (1 : Int64)) = (1 : Int64) then (1 : Int32) else (0 : Int32)) = z4 then (1 : Int32) else (0 : Int32))), (0, .long z0), (2, .long z2), (4, .int z4), (7, .int k7_6)]) hx hb dY_zapped_60 hl (by decide) rfl (fun ls hl => ?_)
            refine lv_iinc (pc := 62) (k := 5) (lv' := [(7, .int (k7_6 + (1 : Int32))), (5, .long (k5_6 ||| (z0 &&& (jlshl (255 : Int64) ((8 : Int32) * k7_6))))), (8, .int (if (if ((jlshr z2 k7_6) &&& (1 : Int64)) = (1 : Int64) then (1 : Int32) else (0 : Int32)) = z4 then (1 : Int32) else (0 : Int32))), (0, .long z0), (2, .long z2), (4, .int z4)]) hx hb dY_zapped_62 hl rfl (qa_inc (by decide) k7_6) (by decide) rfl (fun ls hl => ?_)
            refine lv_goto (pc := 65) (tgt := 6) hx hb dY_zapped_65 (by decide) ?_
            exact ih (k5_6 ||| (z0 &&& (jlshl (255 : Int64) ((8 : Int32) * k7_6)))) (k7_6 + (1 : Int32)) _ (rg_fs h10_1 hq6_fu) (lv_sub hl [3, 4, 5, 1, 0] rfl) u hu
  exact hB6 9 (0 : Int64) (0 : Int32) _ (by decide) (lv_sub hl [2, 3, 4, 1, 0] rfl) u hu
def f_Y_parts (z1 : Int32) (z2 : Int64) (z4 : Int64) (yNon : Int32) : Int64 × Int32 := (if z1 = (52 : Int32) then ((jlushr z2 (Int64.toInt32 (z4 &&& (63 : Int64)))), yNon) else (if z1 = (57 : Int32) then ((jlshl z2 (Int64.toInt32 (z4 &&& (63 : Int64)))), yNon) else (if z1 = (60 : Int32) then ((jlshr z2 (Int64.toInt32 (z4 &&& (63 : Int64)))), yNon) else (if z1 = (48 : Int32) then ((f_Y_zapped z2 z4 (1 : Int32)), yNon) else (if z1 = (49 : Int32) then ((f_Y_zapped z2 z4 (0 : Int32)), yNon) else (if (if (z1 &&& (64 : Int32)) = (0 : Int32) then (0 : Int32) else (1 : Int32)) = (0 : Int32) then (if (z1 &&& (15 : Int32)) = (6 : Int32) then (((jlushr z2 ((8 : Int32) * (Int64.toInt32 (z4 &&& (7 : Int64))))) &&& (if ((8 : Int32) <<< (((z1 >>> ((4 : Int32) &&& (31 : Int32))) &&& (3 : Int32)) &&& (31 : Int32))) = (64 : Int32) then (-1 : Int64) else ((jlshl (1 : Int64) ((8 : Int32) <<< (((z1 >>> ((4 : Int32) &&& (31 : Int32))) &&& (3 : Int32)) &&& (31 : Int32)))) - (1 : Int64)))), yNon) else (if (z1 &&& (15 : Int32)) = (11 : Int32) then ((jlshl (z2 &&& (if ((8 : Int32) <<< (((z1 >>> ((4 : Int32) &&& (31 : Int32))) &&& (3 : Int32)) &&& (31 : Int32))) = (64 : Int32) then (-1 : Int64) else ((jlshl (1 : Int64) ((8 : Int32) <<< (((z1 >>> ((4 : Int32) &&& (31 : Int32))) &&& (3 : Int32)) &&& (31 : Int32)))) - (1 : Int64)))) ((8 : Int32) * (Int64.toInt32 (z4 &&& (7 : Int64))))), yNon) else (if (z1 &&& (15 : Int32)) = (2 : Int32) then ((z2 &&& ((jlshl (if ((8 : Int32) <<< (((z1 >>> ((4 : Int32) &&& (31 : Int32))) &&& (3 : Int32)) &&& (31 : Int32))) = (64 : Int32) then (-1 : Int64) else ((jlshl (1 : Int64) ((8 : Int32) <<< (((z1 >>> ((4 : Int32) &&& (31 : Int32))) &&& (3 : Int32)) &&& (31 : Int32)))) - (1 : Int64))) ((8 : Int32) * (Int64.toInt32 (z4 &&& (7 : Int64))))) ^^^ (-1 : Int64))), yNon) else ((0 : Int64), (1 : Int32))))) else (if ((z1 >>> ((4 : Int32) &&& (31 : Int32))) &&& (3 : Int32)) ≤ (0 : Int32) then ((0 : Int64), (1 : Int32)) else (if (z1 &&& (15 : Int32)) = (10 : Int32) then ((if ((8 : Int32) * (Int64.toInt32 (z4 &&& (7 : Int64)))) = (0 : Int32) then (z2 &&& (if ((8 : Int32) <<< (((z1 >>> ((4 : Int32) &&& (31 : Int32))) &&& (3 : Int32)) &&& (31 : Int32))) = (64 : Int32) then (-1 : Int64) else ((jlshl (1 : Int64) ((8 : Int32) <<< (((z1 >>> ((4 : Int32) &&& (31 : Int32))) &&& (3 : Int32)) &&& (31 : Int32)))) - (1 : Int64)))) else ((jlshl z2 ((64 : Int32) - ((8 : Int32) * (Int64.toInt32 (z4 &&& (7 : Int64)))))) &&& (if ((8 : Int32) <<< (((z1 >>> ((4 : Int32) &&& (31 : Int32))) &&& (3 : Int32)) &&& (31 : Int32))) = (64 : Int32) then (-1 : Int64) else ((jlshl (1 : Int64) ((8 : Int32) <<< (((z1 >>> ((4 : Int32) &&& (31 : Int32))) &&& (3 : Int32)) &&& (31 : Int32)))) - (1 : Int64))))), yNon) else (if (z1 &&& (15 : Int32)) = (7 : Int32) then ((if ((8 : Int32) * (Int64.toInt32 (z4 &&& (7 : Int64)))) = (0 : Int32) then (0 : Int64) else (jlushr (z2 &&& (if ((8 : Int32) <<< (((z1 >>> ((4 : Int32) &&& (31 : Int32))) &&& (3 : Int32)) &&& (31 : Int32))) = (64 : Int32) then (-1 : Int64) else ((jlshl (1 : Int64) ((8 : Int32) <<< (((z1 >>> ((4 : Int32) &&& (31 : Int32))) &&& (3 : Int32)) &&& (31 : Int32)))) - (1 : Int64)))) ((64 : Int32) - ((8 : Int32) * (Int64.toInt32 (z4 &&& (7 : Int64))))))), yNon) else (if (z1 &&& (15 : Int32)) = (2 : Int32) then ((if ((8 : Int32) * (Int64.toInt32 (z4 &&& (7 : Int64)))) = (0 : Int32) then z2 else (z2 &&& ((jlushr (if ((8 : Int32) <<< (((z1 >>> ((4 : Int32) &&& (31 : Int32))) &&& (3 : Int32)) &&& (31 : Int32))) = (64 : Int32) then (-1 : Int64) else ((jlshl (1 : Int64) ((8 : Int32) <<< (((z1 >>> ((4 : Int32) &&& (31 : Int32))) &&& (3 : Int32)) &&& (31 : Int32)))) - (1 : Int64))) ((64 : Int32) - ((8 : Int32) * (Int64.toInt32 (z4 &&& (7 : Int64)))))) ^^^ (-1 : Int64)))), yNon) else ((0 : Int64), (1 : Int32))))))))))))
set_option maxRecDepth 100000 in
set_option maxHeartbeats 4000000 in
theorem c_Y_parts (l : Launch) (dC : Nat → ClassId) (dI : Nat → Nat → Nat) (cI cJ : ClassId) (qY qYm qYr qYv qYl qYn qYp qYs qYw qY6 : Nat) (sz : Nat) (yPc : Int64) (yMod : Int32) (yLev : Int32) (yLoc : Int32) (yKsp : Int64) (yUsp : Int64) (yKgp : Int64) (yVal : Int64) (yTab : Int32) (ySpc : Int32) (yHal : Int32) (yEnt : Int32) (yPen : Int32) (yBuf : Int32) (yHer : Int64) (yWrd : Int32) (yHas : Int32) (yTrp : Int32) (yNon : Int32) (yMem : (Nat → Int32)) (yR : (Nat → Int64)) (yV : (Nat → Int64)) (yPL : (Nat → Int32)) (yPN : (Nat → Int32)) (yBP : (Nat → Int32)) (yBS : (Nat → Int32)) (yBW : (Nat → Int64)) (ySix : (Nat → Int64)) (z1 : Int32) (z2 : Int64) (z4 : Int64) : Met l yY_parts (.code yY_parts cY_parts 13 (some .long) :: vG) ({ frames := 1, cells := 0, slots := 0, locals := 28 }) (va_Pc [.ref qY, .int z1, .long z2, .long z4] (qa_pre (dC, dI) vwCl (wY cI cJ qY qYm qYr qYv qYl qYn qYp qYs qYw qY6 yPc yMod yLev yLoc yKsp yUsp yKgp yVal yTab ySpc yHal yEnt yPen yBuf yHer yWrd yHas yTrp yNon yMem yR yV yPL yPN yBP yBS yBW ySix) [(cI, .int), (cJ, .long)] sz)) (qa_mod (some (.long ((f_Y_parts z1 z2 z4 yNon).1))) (dC, dI) vwCl (wY cI cJ qY qYm qYr qYv qYl qYn qYp qYs qYw qY6 yPc yMod yLev yLoc yKsp yUsp yKgp yVal yTab ySpc yHal yEnt yPen yBuf yHer yWrd yHas yTrp ((f_Y_parts z1 z2 z4 yNon).2) yMem yR yV yPL yPN yBP yBS yBW ySix) (va_A (wY cI cJ qY qYm qYr qYv qYl qYn qYp qYs qYw qY6 yPc yMod yLev yLoc yKsp yUsp yKgp yVal yTab ySpc yHal yEnt yPen yBuf yHer yWrd yHas yTrp yNon yMem yR yV yPL yPN yBP yBS yBW ySix) sz)) 0 0 (va_A (wY cI cJ qY qYm qYr qYv qYl qYn qYp qYs qYw qY6 yPc yMod yLev yLoc yKsp yUsp yKgp yVal yTab ySpc yHal yEnt yPen yBuf yHer yWrd yHas yTrp yNon yMem yR yV yPL yPN yBP yBS yBW ySix) sz) := by
  refine Met.ofW (cc := cY_parts) (maxL := 13) (ret := (some .long)) (by decide) rfl ?_
  intro p e s m args below meth c s₁ B hml hv
  obtain ⟨rfl, hsz, hP, hK, hD0⟩ := hv
  have hx := B.exec
  have hb := B.bytes
  have hr := B.returns
  have hts : ∀ w ∈ vG, w.before _ s = true := fun w h => atoms_spec (ws := (.code yY_parts cY_parts 13 (some .long) :: vG)) B.pre w (List.mem_cons_of_mem _ h)
  have hown : s.vm.findClass "LongMachineModel" = some m.cls := findClass_of_methodNamed B.named
  have hlocks := B.notSynchronized
  subst hsz
  have hD := hD0.self (sz := s.heap.size)
  generalize hAe : va_A (wY cI cJ qY qYm qYr qYv qYl qYn qYp qYs qYw qY6 yPc yMod yLev yLoc yKsp yUsp yKgp yVal yTab ySpc yHal yEnt yPen yBuf yHer yWrd yHas yTrp yNon yMem yR yV yPL yPN yBP yBS yBW ySix) s.heap.size = A at hD ⊢
  have hA : ∀ q : Nat, s.heap.size ≤ q → A q := fun q h => by rw [← hAe]; exact Or.inr h
  have hS : va_S A s.heap s.heap [] := va_S.rf
  have hl := lv_entry ([.ref qY, .int z1, .long z2, .long z4]) (n := 13) (Nat.le_of_ble_eq_true rfl)
  rw [lg_entry_eq]
  generalize (lg_sl ([.ref qY, .int z1, .long z2, .long z4]) ++ List.replicate (13 - (lg_sl ([.ref qY, .int z1, .long z2, .long z4])).length) Slot.unset).toArray = ls at hl ⊢
  have hl : lv_has ls 13 [(0, .ref qY), (1, .int z1), (2, .long z2), (4, .long z4)] := hl
  obtain ⟨u, hu⟩ : ∃ u, u = f_Y_parts z1 z2 z4 yNon := ⟨_, rfl⟩
  rw [← hu]
  unfold f_Y_parts at hu
  refine lv_bipush (pc := 0) (v := (8 : Int32)) hx hb dY_parts_0 (by decide) ?_
  refine lv_lload (pc := 2) hx hb dY_parts_2 (lv_at hl 3 rfl) ?_
  refine lv_ldc2 (pc := 4) (v := (7 : Int64)) hx hb hown (hts _ gm_466) dY_parts_4 ?_
  refine lv_land (pc := 7) hx hb dY_parts_7 ?_
  refine lv_l2i (pc := 8) (v := (Int64.toInt32 (z4 &&& (7 : Int64)))) hx hb dY_parts_8 rfl ?_
  refine lv_imul (pc := 9) hx hb dY_parts_9 ?_
  refine lv_istore (pc := 10) (lv' := [(6, .int ((8 : Int32) * (Int64.toInt32 (z4 &&& (7 : Int64))))), (0, .ref qY), (1, .int z1), (2, .long z2), (4, .long z4)]) hx hb dY_parts_10 hl (by decide) rfl (fun ls hl => ?_)
  refine lv_iload_n (pc := 12) hx hb dY_parts_12 rfl (lv_at hl 2 rfl) ?_
  refine lv_iconst (pc := 13) (v := (4 : Int32)) hx hb dY_parts_13 (by decide) ?_
  refine lv_ishr (pc := 14) hx hb dY_parts_14 ?_
  refine lv_iconst (pc := 15) (v := (3 : Int32)) hx hb dY_parts_15 (by decide) ?_
  refine lv_iand (pc := 16) hx hb dY_parts_16 ?_
  refine lv_istore (pc := 17) (lv' := [(7, .int ((z1 >>> ((4 : Int32) &&& (31 : Int32))) &&& (3 : Int32))), (6, .int ((8 : Int32) * (Int64.toInt32 (z4 &&& (7 : Int64))))), (0, .ref qY), (1, .int z1), (2, .long z2), (4, .long z4)]) hx hb dY_parts_17 hl (by decide) rfl (fun ls hl => ?_)
  refine lv_iload_n (pc := 19) hx hb dY_parts_19 rfl (lv_at hl 3 rfl) ?_
  refine lv_bipush (pc := 20) (v := (64 : Int32)) hx hb dY_parts_20 (by decide) ?_
  refine lv_iand (pc := 22) hx hb dY_parts_22 ?_
  refine qa_joini (J := 31) (ls2 := ls) (rest2 := []) (if (z1 &&& (64 : Int32)) = (0 : Int32) then (0 : Int32) else (1 : Int32)) (fun hj31 => ?_) ?_
  · refine lv_if_eq (pc := 23) (tgt := 30) hx hb dY_parts_23 (by decide) (fun h23_1 => ?_) (fun h23_1 => ?_)
    · refine lv_iconst (pc := 30) (v := (0 : Int32)) hx hb dY_parts_30 (by decide) ?_
      exact hj31 _ (Eq.symm (if_pos h23_1))
    · refine lv_iconst (pc := 26) (v := (1 : Int32)) hx hb dY_parts_26 (by decide) ?_
      refine lv_goto (pc := 27) (tgt := 31) hx hb dY_parts_27 (by decide) ?_
      exact hj31 _ (Eq.symm (if_neg h23_1))
  refine lv_istore (pc := 31) (lv' := [(8, .int (if (z1 &&& (64 : Int32)) = (0 : Int32) then (0 : Int32) else (1 : Int32))), (7, .int ((z1 >>> ((4 : Int32) &&& (31 : Int32))) &&& (3 : Int32))), (6, .int ((8 : Int32) * (Int64.toInt32 (z4 &&& (7 : Int64))))), (0, .ref qY), (1, .int z1), (2, .long z2), (4, .long z4)]) hx hb dY_parts_31 hl (by decide) rfl (fun ls hl => ?_)
  refine lv_bipush (pc := 33) (v := (8 : Int32)) hx hb dY_parts_33 (by decide) ?_
  refine lv_iload (pc := 35) hx hb dY_parts_35 (lv_at hl 1 rfl) ?_
  refine lv_ishl (pc := 37) hx hb dY_parts_37 ?_
  refine qa_calld (pc := 38) (v := .long (if ((8 : Int32) <<< (((z1 >>> ((4 : Int32) &&& (31 : Int32))) &&& (3 : Int32)) &&& (31 : Int32))) = (64 : Int32) then (-1 : Int64) else ((jlshl (1 : Int64) ((8 : Int32) <<< (((z1 >>> ((4 : Int32) &&& (31 : Int32))) &&& (3 : Int32)) &&& (31 : Int32)))) - (1 : Int64)))) (va_runS (As := [.int ((8 : Int32) <<< (((z1 >>> ((4 : Int32) &&& (31 : Int32))) &&& (3 : Int32)) &&& (31 : Int32)))]) (rest := []) ⟨hx, hb, hml, hown, hts⟩ (c_Y_lowest l ((8 : Int32) <<< (((z1 >>> ((4 : Int32) &&& (31 : Int32))) &&& (3 : Int32)) &&& (31 : Int32)))) (va_cwS 1 hts (gd_S gm_494 gm_492 gm_493 gm_6) rfl rfl rfl (by decide +kernel) ⟨Nat.le_of_ble_eq_true rfl, Nat.le_of_ble_eq_true rfl⟩) qa_S0 rfl rfl hl.1 rfl (lv_room (Nat.le_of_ble_eq_true rfl)) dY_parts_38 ⟨Nat.zero_le _, Nat.zero_le _⟩) ?_
  refine lv_lstore (pc := 41) (lv' := [(9, .long (if ((8 : Int32) <<< (((z1 >>> ((4 : Int32) &&& (31 : Int32))) &&& (3 : Int32)) &&& (31 : Int32))) = (64 : Int32) then (-1 : Int64) else ((jlshl (1 : Int64) ((8 : Int32) <<< (((z1 >>> ((4 : Int32) &&& (31 : Int32))) &&& (3 : Int32)) &&& (31 : Int32)))) - (1 : Int64)))), (8, .int (if (z1 &&& (64 : Int32)) = (0 : Int32) then (0 : Int32) else (1 : Int32))), (7, .int ((z1 >>> ((4 : Int32) &&& (31 : Int32))) &&& (3 : Int32))), (6, .int ((8 : Int32) * (Int64.toInt32 (z4 &&& (7 : Int64))))), (0, .ref qY), (1, .int z1), (2, .long z2), (4, .long z4)]) hx hb dY_parts_41 hl (by decide) rfl (fun ls hl => ?_)
  refine lv_iload_n (pc := 43) hx hb dY_parts_43 rfl (lv_at hl 5 rfl) ?_
  refine lv_bipush (pc := 44) (v := (15 : Int32)) hx hb dY_parts_44 (by decide) ?_
  refine lv_iand (pc := 46) hx hb dY_parts_46 ?_
  refine lv_istore (pc := 47) (lv' := [(11, .int (z1 &&& (15 : Int32))), (9, .long (if ((8 : Int32) <<< (((z1 >>> ((4 : Int32) &&& (31 : Int32))) &&& (3 : Int32)) &&& (31 : Int32))) = (64 : Int32) then (-1 : Int64) else ((jlshl (1 : Int64) ((8 : Int32) <<< (((z1 >>> ((4 : Int32) &&& (31 : Int32))) &&& (3 : Int32)) &&& (31 : Int32)))) - (1 : Int64)))), (8, .int (if (z1 &&& (64 : Int32)) = (0 : Int32) then (0 : Int32) else (1 : Int32))), (7, .int ((z1 >>> ((4 : Int32) &&& (31 : Int32))) &&& (3 : Int32))), (6, .int ((8 : Int32) * (Int64.toInt32 (z4 &&& (7 : Int64))))), (0, .ref qY), (1, .int z1), (2, .long z2), (4, .long z4)]) hx hb dY_parts_47 hl (by decide) rfl (fun ls hl => ?_)
  refine lv_lload (pc := 49) hx hb dY_parts_49 (lv_at hl 8 rfl) ?_
  refine lv_ldc2 (pc := 51) (v := (63 : Int64)) hx hb hown (hts _ gm_495) dY_parts_51 ?_
  refine lv_land (pc := 54) hx hb dY_parts_54 ?_
  refine lv_l2i (pc := 55) (v := (Int64.toInt32 (z4 &&& (63 : Int64)))) hx hb dY_parts_55 rfl ?_
  refine lv_istore (pc := 56) (lv' := [(12, .int (Int64.toInt32 (z4 &&& (63 : Int64)))), (11, .int (z1 &&& (15 : Int32))), (9, .long (if ((8 : Int32) <<< (((z1 >>> ((4 : Int32) &&& (31 : Int32))) &&& (3 : Int32)) &&& (31 : Int32))) = (64 : Int32) then (-1 : Int64) else ((jlshl (1 : Int64) ((8 : Int32) <<< (((z1 >>> ((4 : Int32) &&& (31 : Int32))) &&& (3 : Int32)) &&& (31 : Int32)))) - (1 : Int64)))), (8, .int (if (z1 &&& (64 : Int32)) = (0 : Int32) then (0 : Int32) else (1 : Int32))), (7, .int ((z1 >>> ((4 : Int32) &&& (31 : Int32))) &&& (3 : Int32))), (6, .int ((8 : Int32) * (Int64.toInt32 (z4 &&& (7 : Int64))))), (0, .ref qY), (1, .int z1), (2, .long z2), (4, .long z4)]) hx hb dY_parts_56 hl (by decide) rfl (fun ls hl => ?_)
  refine lv_iload_n (pc := 58) hx hb dY_parts_58 rfl (lv_at hl 7 rfl) ?_
  refine lv_bipush (pc := 59) (v := (52 : Int32)) hx hb dY_parts_59 (by decide) ?_
  refine lv_icmp_ne (pc := 61) (tgt := 69) hx hb dY_parts_61 (by decide) (fun h61_2 => ?_) (fun h61_2 => ?_)
  · have hu := hu.trans (if_neg h61_2)
    refine lv_iload_n (pc := 69) hx hb dY_parts_69 rfl (lv_at hl 7 rfl) ?_
    refine lv_bipush (pc := 70) (v := (57 : Int32)) hx hb dY_parts_70 (by decide) ?_
    refine lv_icmp_ne (pc := 72) (tgt := 80) hx hb dY_parts_72 (by decide) (fun h72_3 => ?_) (fun h72_3 => ?_)
    · have hu := hu.trans (if_neg h72_3)
      refine lv_iload_n (pc := 80) hx hb dY_parts_80 rfl (lv_at hl 7 rfl) ?_
      refine lv_bipush (pc := 81) (v := (60 : Int32)) hx hb dY_parts_81 (by decide) ?_
      refine lv_icmp_ne (pc := 83) (tgt := 91) hx hb dY_parts_83 (by decide) (fun h83_4 => ?_) (fun h83_4 => ?_)
      · have hu := hu.trans (if_neg h83_4)
        refine lv_iload_n (pc := 91) hx hb dY_parts_91 rfl (lv_at hl 7 rfl) ?_
        refine lv_bipush (pc := 92) (v := (48 : Int32)) hx hb dY_parts_92 (by decide) ?_
        refine lv_icmp_eq (pc := 94) (tgt := 103) hx hb dY_parts_94 (by decide) (fun h94_5 => ?_) (fun h94_5 => ?_)
        · have hu := hu.trans (if_pos h94_5)
          refine lv_lload_n (pc := 103) hx hb dY_parts_103 rfl (lv_at hl 8 rfl) ?_
          refine lv_lload (pc := 104) hx hb dY_parts_104 (lv_at hl 9 rfl) ?_
          refine lv_iload_n (pc := 106) hx hb dY_parts_106 rfl (lv_at hl 7 rfl) ?_
          refine lv_bipush (pc := 107) (v := (48 : Int32)) hx hb dY_parts_107 (by decide) ?_
          refine lv_icmp_ne (pc := 109) (tgt := 116) hx hb dY_parts_109 (by decide) (fun h109_6 => absurd h94_5 h109_6) (fun h109_6 => ?_)
          refine lv_iconst (pc := 112) (v := (1 : Int32)) hx hb dY_parts_112 (by decide) ?_
          refine lv_goto (pc := 113) (tgt := 117) hx hb dY_parts_113 (by decide) ?_
          refine qa_calld (pc := 117) (v := .long (f_Y_zapped z2 z4 (1 : Int32))) (va_runS (As := [.long z2, .long z4, .int (1 : Int32)]) (rest := []) ⟨hx, hb, hml, hown, hts⟩ (c_Y_zapped l z2 z4 (1 : Int32)) (va_cwS 3 hts (gd_S gm_498 gm_496 gm_497 gm_6) rfl rfl rfl (by decide +kernel) ⟨Nat.le_of_ble_eq_true rfl, Nat.le_of_ble_eq_true rfl⟩) qa_S0 rfl rfl hl.1 rfl (lv_room (Nat.le_of_ble_eq_true rfl)) dY_parts_117 ⟨Nat.zero_le _, Nat.zero_le _⟩) ?_
          subst hu
          exact W.lret hx hb hr (fun t ht hW => ⟨rfl, by rw [ht]; exact hP, hS.F ht⟩) hS.2.2 dY_parts_120
        · have hu := hu.trans (if_neg h94_5)
          refine lv_iload_n (pc := 97) hx hb dY_parts_97 rfl (lv_at hl 7 rfl) ?_
          refine lv_bipush (pc := 98) (v := (49 : Int32)) hx hb dY_parts_98 (by decide) ?_
          refine lv_icmp_ne (pc := 100) (tgt := 121) hx hb dY_parts_100 (by decide) (fun h100_7 => ?_) (fun h100_7 => ?_)
          · have hu := hu.trans (if_neg h100_7)
            refine lv_iload (pc := 121) hx hb dY_parts_121 (lv_at hl 3 rfl) ?_
            refine lv_if_ne (pc := 123) (tgt := 141) hx hb dY_parts_123 (by decide) (fun h123_8 => ?_) (fun h123_8 => ?_)
            · have hu := hu.trans (if_neg h123_8)
              refine lv_iload (pc := 141) hx hb dY_parts_141 (lv_at hl 3 rfl) ?_
              refine lv_if_ne (pc := 143) (tgt := 161) hx hb dY_parts_143 (by decide) (fun h143_9 => ?_) (fun h143_9 => absurd h143_9 h123_8)
              refine lv_iload (pc := 161) hx hb dY_parts_161 (lv_at hl 3 rfl) ?_
              refine lv_if_ne (pc := 163) (tgt := 184) hx hb dY_parts_163 (by decide) (fun h163_10 => ?_) (fun h163_10 => absurd h163_10 h123_8)
              refine lv_iload (pc := 184) hx hb dY_parts_184 (lv_at hl 3 rfl) ?_
              refine lv_if_eq (pc := 186) (tgt := 224) hx hb dY_parts_186 (by decide) (fun h186_11 => absurd h186_11 h123_8) (fun h186_11 => ?_)
              refine lv_iload (pc := 189) hx hb dY_parts_189 (lv_at hl 4 rfl) ?_
              refine lv_if_le (pc := 191) (tgt := 224) hx hb dY_parts_191 (by decide) (fun h191_12 => ?_) (fun h191_12 => ?_)
              · have hu := hu.trans (if_pos h191_12)
                refine lv_iload (pc := 224) hx hb dY_parts_224 (lv_at hl 3 rfl) ?_
                refine lv_if_eq (pc := 226) (tgt := 261) hx hb dY_parts_226 (by decide) (fun h226_13 => absurd h226_13 h123_8) (fun h226_13 => ?_)
                refine lv_iload (pc := 229) hx hb dY_parts_229 (lv_at hl 4 rfl) ?_
                refine lv_if_le (pc := 231) (tgt := 261) hx hb dY_parts_231 (by decide) (fun h231_14 => ?_) (fun h231_14 => absurd h191_12 h231_14)
                refine lv_iload (pc := 261) hx hb dY_parts_261 (lv_at hl 3 rfl) ?_
                refine lv_if_eq (pc := 263) (tgt := 301) hx hb dY_parts_263 (by decide) (fun h263_15 => absurd h263_15 h123_8) (fun h263_15 => ?_)
                refine lv_iload (pc := 266) hx hb dY_parts_266 (lv_at hl 4 rfl) ?_
                refine lv_if_le (pc := 268) (tgt := 301) hx hb dY_parts_268 (by decide) (fun h268_16 => ?_) (fun h268_16 => absurd h191_12 h268_16)
                refine lv_aload_n (pc := 301) hx hb dY_parts_301 rfl (lv_at hl 6 rfl) ?_
                refine lv_iconst (pc := 302) (v := (1 : Int32)) hx hb dY_parts_302 (by decide) ?_
                refine va_put (D := (dC, dI)) (pc := 303) (ci := 5) (v := .int (1 : Int32)) (ty := .boolean) (C := "LongMachineModel") (T := TY) (N := 28) hx hb hts ui_Y tyY tyY_ok nmY hown hK hP hD hS 0 rfl rfl 26 (by decide) (hts _ gm_372) (fun _ h9 => h9) rfl (by decide +kernel) rfl rfl (Nat.le_of_ble_eq_true rfl) dY_parts_303 (fun H locs hP hD hS => ?_)
                have hP : va_P (dC, dI) vwCl (wY cI cJ qY qYm qYr qYv qYl qYn qYp qYs qYw qY6 yPc yMod yLev yLoc yKsp yUsp yKgp yVal yTab ySpc yHal yEnt yPen yBuf yHer yWrd yHas yTrp (1 : Int32) yMem yR yV yPL yPN yBP yBS yBW ySix) H := hP
                have hD : va_D A (wY cI cJ qY qYm qYr qYv qYl qYn qYp qYs qYw qY6 yPc yMod yLev yLoc yKsp yUsp yKgp yVal yTab ySpc yHal yEnt yPen yBuf yHer yWrd yHas yTrp (1 : Int32) yMem yR yV yPL yPN yBP yBS yBW ySix) := hD
                refine lv_lconst (pc := 306) (v := (0 : Int64)) hx hb dY_parts_306 (by decide) ?_
                subst hu
                exact W.lret hx hb hr (fun t ht hW => ⟨rfl, by rw [ht]; exact hP, hS.F ht⟩) hS.2.2 dY_parts_307
              · have hu := hu.trans (if_neg h191_12)
                refine lv_iload (pc := 194) hx hb dY_parts_194 (lv_at hl 1 rfl) ?_
                refine lv_bipush (pc := 196) (v := (10 : Int32)) hx hb dY_parts_196 (by decide) ?_
                refine lv_icmp_ne (pc := 198) (tgt := 224) hx hb dY_parts_198 (by decide) (fun h198_17 => ?_) (fun h198_17 => ?_)
                · have hu := hu.trans (if_neg h198_17)
                  refine lv_iload (pc := 224) hx hb dY_parts_224 (lv_at hl 3 rfl) ?_
                  refine lv_if_eq (pc := 226) (tgt := 261) hx hb dY_parts_226 (by decide) (fun h226_18 => absurd h226_18 h123_8) (fun h226_18 => ?_)
                  refine lv_iload (pc := 229) hx hb dY_parts_229 (lv_at hl 4 rfl) ?_
                  refine lv_if_le (pc := 231) (tgt := 261) hx hb dY_parts_231 (by decide) (fun h231_19 => absurd h231_19 h191_12) (fun h231_19 => ?_)
                  refine lv_iload (pc := 234) hx hb dY_parts_234 (lv_at hl 1 rfl) ?_
                  refine lv_bipush (pc := 236) (v := (7 : Int32)) hx hb dY_parts_236 (by decide) ?_
                  refine lv_icmp_ne (pc := 238) (tgt := 261) hx hb dY_parts_238 (by decide) (fun h238_20 => ?_) (fun h238_20 => ?_)
                  · have hu := hu.trans (if_neg h238_20)
                    refine lv_iload (pc := 261) hx hb dY_parts_261 (lv_at hl 3 rfl) ?_
                    refine lv_if_eq (pc := 263) (tgt := 301) hx hb dY_parts_263 (by decide) (fun h263_21 => absurd h263_21 h123_8) (fun h263_21 => ?_)
                    refine lv_iload (pc := 266) hx hb dY_parts_266 (lv_at hl 4 rfl) ?_
                    refine lv_if_le (pc := 268) (tgt := 301) hx hb dY_parts_268 (by decide) (fun h268_22 => absurd h268_22 h191_12) (fun h268_22 => ?_)
                    refine lv_iload (pc := 271) hx hb dY_parts_271 (lv_at hl 1 rfl) ?_
                    refine lv_iconst (pc := 273) (v := (2 : Int32)) hx hb dY_parts_273 (by decide) ?_
                    refine lv_icmp_ne (pc := 274) (tgt := 301) hx hb dY_parts_274 (by decide) (fun h274_23 => ?_) (fun h274_23 => ?_)
                    · have hu := hu.trans (if_neg h274_23)
                      refine lv_aload_n (pc := 301) hx hb dY_parts_301 rfl (lv_at hl 6 rfl) ?_
                      refine lv_iconst (pc := 302) (v := (1 : Int32)) hx hb dY_parts_302 (by decide) ?_
                      refine va_put (D := (dC, dI)) (pc := 303) (ci := 5) (v := .int (1 : Int32)) (ty := .boolean) (C := "LongMachineModel") (T := TY) (N := 28) hx hb hts ui_Y tyY tyY_ok nmY hown hK hP hD hS 0 rfl rfl 26 (by decide) (hts _ gm_372) (fun _ h9 => h9) rfl (by decide +kernel) rfl rfl (Nat.le_of_ble_eq_true rfl) dY_parts_303 (fun H locs hP hD hS => ?_)
                      have hP : va_P (dC, dI) vwCl (wY cI cJ qY qYm qYr qYv qYl qYn qYp qYs qYw qY6 yPc yMod yLev yLoc yKsp yUsp yKgp yVal yTab ySpc yHal yEnt yPen yBuf yHer yWrd yHas yTrp (1 : Int32) yMem yR yV yPL yPN yBP yBS yBW ySix) H := hP
                      have hD : va_D A (wY cI cJ qY qYm qYr qYv qYl qYn qYp qYs qYw qY6 yPc yMod yLev yLoc yKsp yUsp yKgp yVal yTab ySpc yHal yEnt yPen yBuf yHer yWrd yHas yTrp (1 : Int32) yMem yR yV yPL yPN yBP yBS yBW ySix) := hD
                      refine lv_lconst (pc := 306) (v := (0 : Int64)) hx hb dY_parts_306 (by decide) ?_
                      subst hu
                      exact W.lret hx hb hr (fun t ht hW => ⟨rfl, by rw [ht]; exact hP, hS.F ht⟩) hS.2.2 dY_parts_307
                    · have hu := hu.trans (if_pos h274_23)
                      refine lv_iload (pc := 277) hx hb dY_parts_277 (lv_at hl 5 rfl) ?_
                      refine qa_joinl (J := 300) (ls2 := ls) (rest2 := []) (if ((8 : Int32) * (Int64.toInt32 (z4 &&& (7 : Int64)))) = (0 : Int32) then z2 else (z2 &&& ((jlushr (if ((8 : Int32) <<< (((z1 >>> ((4 : Int32) &&& (31 : Int32))) &&& (3 : Int32)) &&& (31 : Int32))) = (64 : Int32) then (-1 : Int64) else ((jlshl (1 : Int64) ((8 : Int32) <<< (((z1 >>> ((4 : Int32) &&& (31 : Int32))) &&& (3 : Int32)) &&& (31 : Int32)))) - (1 : Int64))) ((64 : Int32) - ((8 : Int32) * (Int64.toInt32 (z4 &&& (7 : Int64)))))) ^^^ (-1 : Int64)))) (fun hj300 => ?_) ?_
                      · refine lv_if_ne (pc := 279) (tgt := 286) hx hb dY_parts_279 (by decide) (fun h279_24 => ?_) (fun h279_24 => ?_)
                        · refine lv_lload_n (pc := 286) hx hb dY_parts_286 rfl (lv_at hl 8 rfl) ?_
                          refine lv_lload (pc := 287) hx hb dY_parts_287 (lv_at hl 2 rfl) ?_
                          refine lv_bipush (pc := 289) (v := (64 : Int32)) hx hb dY_parts_289 (by decide) ?_
                          refine lv_iload (pc := 291) hx hb dY_parts_291 (lv_at hl 5 rfl) ?_
                          refine lv_isub (pc := 293) hx hb dY_parts_293 ?_
                          refine lv_lushr (pc := 294) (v := (jlushr (if ((8 : Int32) <<< (((z1 >>> ((4 : Int32) &&& (31 : Int32))) &&& (3 : Int32)) &&& (31 : Int32))) = (64 : Int32) then (-1 : Int64) else ((jlshl (1 : Int64) ((8 : Int32) <<< (((z1 >>> ((4 : Int32) &&& (31 : Int32))) &&& (3 : Int32)) &&& (31 : Int32)))) - (1 : Int64))) ((64 : Int32) - ((8 : Int32) * (Int64.toInt32 (z4 &&& (7 : Int64))))))) hx hb dY_parts_294 rfl ?_
                          refine lv_ldc2 (pc := 295) (v := (-1 : Int64)) hx hb hown (hts _ gm_488) dY_parts_295 ?_
                          refine lv_lxor (pc := 298) hx hb dY_parts_298 ?_
                          refine lv_land (pc := 299) hx hb dY_parts_299 ?_
                          exact hj300 _ (Eq.symm (if_neg h279_24))
                        · refine lv_lload_n (pc := 282) hx hb dY_parts_282 rfl (lv_at hl 8 rfl) ?_
                          refine lv_goto (pc := 283) (tgt := 300) hx hb dY_parts_283 (by decide) ?_
                          exact hj300 _ (Eq.symm (if_pos h279_24))
                      subst hu
                      exact W.lret hx hb hr (fun t ht hW => ⟨rfl, by rw [ht]; exact hP, hS.F ht⟩) hS.2.2 dY_parts_300
                  · have hu := hu.trans (if_pos h238_20)
                    refine lv_iload (pc := 241) hx hb dY_parts_241 (lv_at hl 5 rfl) ?_
                    refine qa_joinl (J := 260) (ls2 := ls) (rest2 := []) (if ((8 : Int32) * (Int64.toInt32 (z4 &&& (7 : Int64)))) = (0 : Int32) then (0 : Int64) else (jlushr (z2 &&& (if ((8 : Int32) <<< (((z1 >>> ((4 : Int32) &&& (31 : Int32))) &&& (3 : Int32)) &&& (31 : Int32))) = (64 : Int32) then (-1 : Int64) else ((jlshl (1 : Int64) ((8 : Int32) <<< (((z1 >>> ((4 : Int32) &&& (31 : Int32))) &&& (3 : Int32)) &&& (31 : Int32)))) - (1 : Int64)))) ((64 : Int32) - ((8 : Int32) * (Int64.toInt32 (z4 &&& (7 : Int64))))))) (fun hj260 => ?_) ?_
                    · refine lv_if_ne (pc := 243) (tgt := 250) hx hb dY_parts_243 (by decide) (fun h243_25 => ?_) (fun h243_25 => ?_)
                      · refine lv_lload_n (pc := 250) hx hb dY_parts_250 rfl (lv_at hl 8 rfl) ?_
                        refine lv_lload (pc := 251) hx hb dY_parts_251 (lv_at hl 2 rfl) ?_
                        refine lv_land (pc := 253) hx hb dY_parts_253 ?_
                        refine lv_bipush (pc := 254) (v := (64 : Int32)) hx hb dY_parts_254 (by decide) ?_
                        refine lv_iload (pc := 256) hx hb dY_parts_256 (lv_at hl 5 rfl) ?_
                        refine lv_isub (pc := 258) hx hb dY_parts_258 ?_
                        refine lv_lushr (pc := 259) (v := (jlushr (z2 &&& (if ((8 : Int32) <<< (((z1 >>> ((4 : Int32) &&& (31 : Int32))) &&& (3 : Int32)) &&& (31 : Int32))) = (64 : Int32) then (-1 : Int64) else ((jlshl (1 : Int64) ((8 : Int32) <<< (((z1 >>> ((4 : Int32) &&& (31 : Int32))) &&& (3 : Int32)) &&& (31 : Int32)))) - (1 : Int64)))) ((64 : Int32) - ((8 : Int32) * (Int64.toInt32 (z4 &&& (7 : Int64))))))) hx hb dY_parts_259 rfl ?_
                        exact hj260 _ (Eq.symm (if_neg h243_25))
                      · refine lv_lconst (pc := 246) (v := (0 : Int64)) hx hb dY_parts_246 (by decide) ?_
                        refine lv_goto (pc := 247) (tgt := 260) hx hb dY_parts_247 (by decide) ?_
                        exact hj260 _ (Eq.symm (if_pos h243_25))
                    subst hu
                    exact W.lret hx hb hr (fun t ht hW => ⟨rfl, by rw [ht]; exact hP, hS.F ht⟩) hS.2.2 dY_parts_260
                · have hu := hu.trans (if_pos h198_17)
                  refine lv_iload (pc := 201) hx hb dY_parts_201 (lv_at hl 5 rfl) ?_
                  refine qa_joinl (J := 223) (ls2 := ls) (rest2 := []) (if ((8 : Int32) * (Int64.toInt32 (z4 &&& (7 : Int64)))) = (0 : Int32) then (z2 &&& (if ((8 : Int32) <<< (((z1 >>> ((4 : Int32) &&& (31 : Int32))) &&& (3 : Int32)) &&& (31 : Int32))) = (64 : Int32) then (-1 : Int64) else ((jlshl (1 : Int64) ((8 : Int32) <<< (((z1 >>> ((4 : Int32) &&& (31 : Int32))) &&& (3 : Int32)) &&& (31 : Int32)))) - (1 : Int64)))) else ((jlshl z2 ((64 : Int32) - ((8 : Int32) * (Int64.toInt32 (z4 &&& (7 : Int64)))))) &&& (if ((8 : Int32) <<< (((z1 >>> ((4 : Int32) &&& (31 : Int32))) &&& (3 : Int32)) &&& (31 : Int32))) = (64 : Int32) then (-1 : Int64) else ((jlshl (1 : Int64) ((8 : Int32) <<< (((z1 >>> ((4 : Int32) &&& (31 : Int32))) &&& (3 : Int32)) &&& (31 : Int32)))) - (1 : Int64))))) (fun hj223 => ?_) ?_
                  · refine lv_if_ne (pc := 203) (tgt := 213) hx hb dY_parts_203 (by decide) (fun h203_26 => ?_) (fun h203_26 => ?_)
                    · refine lv_lload_n (pc := 213) hx hb dY_parts_213 rfl (lv_at hl 8 rfl) ?_
                      refine lv_bipush (pc := 214) (v := (64 : Int32)) hx hb dY_parts_214 (by decide) ?_
                      refine lv_iload (pc := 216) hx hb dY_parts_216 (lv_at hl 5 rfl) ?_
                      refine lv_isub (pc := 218) hx hb dY_parts_218 ?_
                      refine lv_lshl (pc := 219) (v := (jlshl z2 ((64 : Int32) - ((8 : Int32) * (Int64.toInt32 (z4 &&& (7 : Int64))))))) hx hb dY_parts_219 rfl ?_
                      refine lv_lload (pc := 220) hx hb dY_parts_220 (lv_at hl 2 rfl) ?_
                      refine lv_land (pc := 222) hx hb dY_parts_222 ?_
                      exact hj223 _ (Eq.symm (if_neg h203_26))
                    · refine lv_lload_n (pc := 206) hx hb dY_parts_206 rfl (lv_at hl 8 rfl) ?_
                      refine lv_lload (pc := 207) hx hb dY_parts_207 (lv_at hl 2 rfl) ?_
                      refine lv_land (pc := 209) hx hb dY_parts_209 ?_
                      refine lv_goto (pc := 210) (tgt := 223) hx hb dY_parts_210 (by decide) ?_
                      exact hj223 _ (Eq.symm (if_pos h203_26))
                  subst hu
                  exact W.lret hx hb hr (fun t ht hW => ⟨rfl, by rw [ht]; exact hP, hS.F ht⟩) hS.2.2 dY_parts_223
            · have hu := hu.trans (if_pos h123_8)
              refine lv_iload (pc := 126) hx hb dY_parts_126 (lv_at hl 1 rfl) ?_
              refine lv_bipush (pc := 128) (v := (6 : Int32)) hx hb dY_parts_128 (by decide) ?_
              refine lv_icmp_ne (pc := 130) (tgt := 141) hx hb dY_parts_130 (by decide) (fun h130_27 => ?_) (fun h130_27 => ?_)
              · have hu := hu.trans (if_neg h130_27)
                refine lv_iload (pc := 141) hx hb dY_parts_141 (lv_at hl 3 rfl) ?_
                refine lv_if_ne (pc := 143) (tgt := 161) hx hb dY_parts_143 (by decide) (fun h143_28 => absurd h123_8 h143_28) (fun h143_28 => ?_)
                refine lv_iload (pc := 146) hx hb dY_parts_146 (lv_at hl 1 rfl) ?_
                refine lv_bipush (pc := 148) (v := (11 : Int32)) hx hb dY_parts_148 (by decide) ?_
                refine lv_icmp_ne (pc := 150) (tgt := 161) hx hb dY_parts_150 (by decide) (fun h150_29 => ?_) (fun h150_29 => ?_)
                · have hu := hu.trans (if_neg h150_29)
                  refine lv_iload (pc := 161) hx hb dY_parts_161 (lv_at hl 3 rfl) ?_
                  refine lv_if_ne (pc := 163) (tgt := 184) hx hb dY_parts_163 (by decide) (fun h163_30 => absurd h123_8 h163_30) (fun h163_30 => ?_)
                  refine lv_iload (pc := 166) hx hb dY_parts_166 (lv_at hl 1 rfl) ?_
                  refine lv_iconst (pc := 168) (v := (2 : Int32)) hx hb dY_parts_168 (by decide) ?_
                  refine lv_icmp_ne (pc := 169) (tgt := 184) hx hb dY_parts_169 (by decide) (fun h169_31 => ?_) (fun h169_31 => ?_)
                  · have hu := hu.trans (if_neg h169_31)
                    refine lv_iload (pc := 184) hx hb dY_parts_184 (lv_at hl 3 rfl) ?_
                    refine lv_if_eq (pc := 186) (tgt := 224) hx hb dY_parts_186 (by decide) (fun h186_32 => ?_) (fun h186_32 => absurd h123_8 h186_32)
                    refine lv_iload (pc := 224) hx hb dY_parts_224 (lv_at hl 3 rfl) ?_
                    refine lv_if_eq (pc := 226) (tgt := 261) hx hb dY_parts_226 (by decide) (fun h226_33 => ?_) (fun h226_33 => absurd h123_8 h226_33)
                    refine lv_iload (pc := 261) hx hb dY_parts_261 (lv_at hl 3 rfl) ?_
                    refine lv_if_eq (pc := 263) (tgt := 301) hx hb dY_parts_263 (by decide) (fun h263_34 => ?_) (fun h263_34 => absurd h123_8 h263_34)
                    refine lv_aload_n (pc := 301) hx hb dY_parts_301 rfl (lv_at hl 6 rfl) ?_
                    refine lv_iconst (pc := 302) (v := (1 : Int32)) hx hb dY_parts_302 (by decide) ?_
                    refine va_put (D := (dC, dI)) (pc := 303) (ci := 5) (v := .int (1 : Int32)) (ty := .boolean) (C := "LongMachineModel") (T := TY) (N := 28) hx hb hts ui_Y tyY tyY_ok nmY hown hK hP hD hS 0 rfl rfl 26 (by decide) (hts _ gm_372) (fun _ h9 => h9) rfl (by decide +kernel) rfl rfl (Nat.le_of_ble_eq_true rfl) dY_parts_303 (fun H locs hP hD hS => ?_)
                    have hP : va_P (dC, dI) vwCl (wY cI cJ qY qYm qYr qYv qYl qYn qYp qYs qYw qY6 yPc yMod yLev yLoc yKsp yUsp yKgp yVal yTab ySpc yHal yEnt yPen yBuf yHer yWrd yHas yTrp (1 : Int32) yMem yR yV yPL yPN yBP yBS yBW ySix) H := hP
                    have hD : va_D A (wY cI cJ qY qYm qYr qYv qYl qYn qYp qYs qYw qY6 yPc yMod yLev yLoc yKsp yUsp yKgp yVal yTab ySpc yHal yEnt yPen yBuf yHer yWrd yHas yTrp (1 : Int32) yMem yR yV yPL yPN yBP yBS yBW ySix) := hD
                    refine lv_lconst (pc := 306) (v := (0 : Int64)) hx hb dY_parts_306 (by decide) ?_
                    subst hu
                    exact W.lret hx hb hr (fun t ht hW => ⟨rfl, by rw [ht]; exact hP, hS.F ht⟩) hS.2.2 dY_parts_307
                  · have hu := hu.trans (if_pos h169_31)
                    refine lv_lload_n (pc := 172) hx hb dY_parts_172 rfl (lv_at hl 8 rfl) ?_
                    refine lv_lload (pc := 173) hx hb dY_parts_173 (lv_at hl 2 rfl) ?_
                    refine lv_iload (pc := 175) hx hb dY_parts_175 (lv_at hl 5 rfl) ?_
                    refine lv_lshl (pc := 177) (v := (jlshl (if ((8 : Int32) <<< (((z1 >>> ((4 : Int32) &&& (31 : Int32))) &&& (3 : Int32)) &&& (31 : Int32))) = (64 : Int32) then (-1 : Int64) else ((jlshl (1 : Int64) ((8 : Int32) <<< (((z1 >>> ((4 : Int32) &&& (31 : Int32))) &&& (3 : Int32)) &&& (31 : Int32)))) - (1 : Int64))) ((8 : Int32) * (Int64.toInt32 (z4 &&& (7 : Int64)))))) hx hb dY_parts_177 rfl ?_
                    refine lv_ldc2 (pc := 178) (v := (-1 : Int64)) hx hb hown (hts _ gm_488) dY_parts_178 ?_
                    refine lv_lxor (pc := 181) hx hb dY_parts_181 ?_
                    refine lv_land (pc := 182) hx hb dY_parts_182 ?_
                    subst hu
                    exact W.lret hx hb hr (fun t ht hW => ⟨rfl, by rw [ht]; exact hP, hS.F ht⟩) hS.2.2 dY_parts_183
                · have hu := hu.trans (if_pos h150_29)
                  refine lv_lload_n (pc := 153) hx hb dY_parts_153 rfl (lv_at hl 8 rfl) ?_
                  refine lv_lload (pc := 154) hx hb dY_parts_154 (lv_at hl 2 rfl) ?_
                  refine lv_land (pc := 156) hx hb dY_parts_156 ?_
                  refine lv_iload (pc := 157) hx hb dY_parts_157 (lv_at hl 5 rfl) ?_
                  refine lv_lshl (pc := 159) (v := (jlshl (z2 &&& (if ((8 : Int32) <<< (((z1 >>> ((4 : Int32) &&& (31 : Int32))) &&& (3 : Int32)) &&& (31 : Int32))) = (64 : Int32) then (-1 : Int64) else ((jlshl (1 : Int64) ((8 : Int32) <<< (((z1 >>> ((4 : Int32) &&& (31 : Int32))) &&& (3 : Int32)) &&& (31 : Int32)))) - (1 : Int64)))) ((8 : Int32) * (Int64.toInt32 (z4 &&& (7 : Int64)))))) hx hb dY_parts_159 rfl ?_
                  subst hu
                  exact W.lret hx hb hr (fun t ht hW => ⟨rfl, by rw [ht]; exact hP, hS.F ht⟩) hS.2.2 dY_parts_160
              · have hu := hu.trans (if_pos h130_27)
                refine lv_lload_n (pc := 133) hx hb dY_parts_133 rfl (lv_at hl 8 rfl) ?_
                refine lv_iload (pc := 134) hx hb dY_parts_134 (lv_at hl 5 rfl) ?_
                refine lv_lushr (pc := 136) (v := (jlushr z2 ((8 : Int32) * (Int64.toInt32 (z4 &&& (7 : Int64)))))) hx hb dY_parts_136 rfl ?_
                refine lv_lload (pc := 137) hx hb dY_parts_137 (lv_at hl 2 rfl) ?_
                refine lv_land (pc := 139) hx hb dY_parts_139 ?_
                subst hu
                exact W.lret hx hb hr (fun t ht hW => ⟨rfl, by rw [ht]; exact hP, hS.F ht⟩) hS.2.2 dY_parts_140
          · have hu := hu.trans (if_pos h100_7)
            refine lv_lload_n (pc := 103) hx hb dY_parts_103 rfl (lv_at hl 8 rfl) ?_
            refine lv_lload (pc := 104) hx hb dY_parts_104 (lv_at hl 9 rfl) ?_
            refine lv_iload_n (pc := 106) hx hb dY_parts_106 rfl (lv_at hl 7 rfl) ?_
            refine lv_bipush (pc := 107) (v := (48 : Int32)) hx hb dY_parts_107 (by decide) ?_
            refine lv_icmp_ne (pc := 109) (tgt := 116) hx hb dY_parts_109 (by decide) (fun h109_35 => ?_) (fun h109_35 => absurd h109_35 h94_5)
            refine lv_iconst (pc := 116) (v := (0 : Int32)) hx hb dY_parts_116 (by decide) ?_
            refine qa_calld (pc := 117) (v := .long (f_Y_zapped z2 z4 (0 : Int32))) (va_runS (As := [.long z2, .long z4, .int (0 : Int32)]) (rest := []) ⟨hx, hb, hml, hown, hts⟩ (c_Y_zapped l z2 z4 (0 : Int32)) (va_cwS 3 hts (gd_S gm_498 gm_496 gm_497 gm_6) rfl rfl rfl (by decide +kernel) ⟨Nat.le_of_ble_eq_true rfl, Nat.le_of_ble_eq_true rfl⟩) qa_S0 rfl rfl hl.1 rfl (lv_room (Nat.le_of_ble_eq_true rfl)) dY_parts_117 ⟨Nat.zero_le _, Nat.zero_le _⟩) ?_
            subst hu
            exact W.lret hx hb hr (fun t ht hW => ⟨rfl, by rw [ht]; exact hP, hS.F ht⟩) hS.2.2 dY_parts_120
      · have hu := hu.trans (if_pos h83_4)
        refine lv_lload_n (pc := 86) hx hb dY_parts_86 rfl (lv_at hl 8 rfl) ?_
        refine lv_iload (pc := 87) hx hb dY_parts_87 (lv_at hl 0 rfl) ?_
        refine lv_lshr (pc := 89) (v := (jlshr z2 (Int64.toInt32 (z4 &&& (63 : Int64))))) hx hb dY_parts_89 rfl ?_
        subst hu
        exact W.lret hx hb hr (fun t ht hW => ⟨rfl, by rw [ht]; exact hP, hS.F ht⟩) hS.2.2 dY_parts_90
    · have hu := hu.trans (if_pos h72_3)
      refine lv_lload_n (pc := 75) hx hb dY_parts_75 rfl (lv_at hl 8 rfl) ?_
      refine lv_iload (pc := 76) hx hb dY_parts_76 (lv_at hl 0 rfl) ?_
      refine lv_lshl (pc := 78) (v := (jlshl z2 (Int64.toInt32 (z4 &&& (63 : Int64))))) hx hb dY_parts_78 rfl ?_
      subst hu
      exact W.lret hx hb hr (fun t ht hW => ⟨rfl, by rw [ht]; exact hP, hS.F ht⟩) hS.2.2 dY_parts_79
  · have hu := hu.trans (if_pos h61_2)
    refine lv_lload_n (pc := 64) hx hb dY_parts_64 rfl (lv_at hl 8 rfl) ?_
    refine lv_iload (pc := 65) hx hb dY_parts_65 (lv_at hl 0 rfl) ?_
    refine lv_lushr (pc := 67) (v := (jlushr z2 (Int64.toInt32 (z4 &&& (63 : Int64))))) hx hb dY_parts_67 rfl ?_
    subst hu
    exact W.lret hx hb hr (fun t ht hW => ⟨rfl, by rw [ht]; exact hP, hS.F ht⟩) hS.2.2 dY_parts_68
set_option maxRecDepth 100000 in
set_option maxHeartbeats 4000000 in
theorem c_Y_upper (l : Launch) (z0 : Int64) (z2 : Int64) : Met l yY_upper (.code yY_upper cY_upper 18 (some .long) :: vG) ({ frames := 0, cells := 0, slots := 0, locals := 0 }) (va_Pc [.long z0, .long z2] (fun _ => True)) (qa_det (.long ((((jlushr z0 (32 : Int32)) * (jlushr z2 (32 : Int32))) + (jlushr (((jlushr z0 (32 : Int32)) * (z2 &&& (4294967295 : Int64))) + (jlushr ((z0 &&& (4294967295 : Int64)) * (z2 &&& (4294967295 : Int64))) (32 : Int32))) (32 : Int32))) + (jlushr (((z0 &&& (4294967295 : Int64)) * (jlushr z2 (32 : Int32))) + ((((jlushr z0 (32 : Int32)) * (z2 &&& (4294967295 : Int64))) + (jlushr ((z0 &&& (4294967295 : Int64)) * (z2 &&& (4294967295 : Int64))) (32 : Int32))) &&& (4294967295 : Int64))) (32 : Int32))))) 0 0 (fun _ => False) := by
  refine Met.ofW (cc := cY_upper) (maxL := 18) (ret := (some .long)) (by decide) rfl ?_
  intro p e s m args below meth c s₁ B hml hv
  obtain ⟨rfl, hv⟩ := hv
  have hx := B.exec
  have hb := B.bytes
  have hr := B.returns
  have hts : ∀ w ∈ vG, w.before _ s = true := fun w h => atoms_spec (ws := (.code yY_upper cY_upper 18 (some .long) :: vG)) B.pre w (List.mem_cons_of_mem _ h)
  have hown : s.vm.findClass "LongMachineModel" = some m.cls := findClass_of_methodNamed B.named
  have hlocks := B.notSynchronized
  have hl := lv_entry ([.long z0, .long z2]) (n := 18) (Nat.le_of_ble_eq_true rfl)
  rw [lg_entry_eq]
  generalize (lg_sl ([.long z0, .long z2]) ++ List.replicate (18 - (lg_sl ([.long z0, .long z2])).length) Slot.unset).toArray = ls at hl ⊢
  have hl : lv_has ls 18 [(0, .long z0), (2, .long z2)] := hl
  refine lv_lload_n (pc := 0) hx hb dY_upper_0 rfl (lv_at hl 0 rfl) ?_
  refine lv_bipush (pc := 1) (v := (32 : Int32)) hx hb dY_upper_1 (by decide) ?_
  refine lv_lushr (pc := 3) (v := (jlushr z0 (32 : Int32))) hx hb dY_upper_3 rfl ?_
  refine lv_lstore (pc := 4) (lv' := [(4, .long (jlushr z0 (32 : Int32))), (0, .long z0), (2, .long z2)]) hx hb dY_upper_4 hl (by decide) rfl (fun ls hl => ?_)
  refine lv_lload_n (pc := 6) hx hb dY_upper_6 rfl (lv_at hl 1 rfl) ?_
  refine lv_ldc2 (pc := 7) (v := (4294967295 : Int64)) hx hb hown (hts _ gm_505) dY_upper_7 ?_
  refine lv_land (pc := 10) hx hb dY_upper_10 ?_
  refine lv_lstore (pc := 11) (lv' := [(6, .long (z0 &&& (4294967295 : Int64))), (4, .long (jlushr z0 (32 : Int32))), (0, .long z0), (2, .long z2)]) hx hb dY_upper_11 hl (by decide) rfl (fun ls hl => ?_)
  refine lv_lload_n (pc := 13) hx hb dY_upper_13 rfl (lv_at hl 3 rfl) ?_
  refine lv_bipush (pc := 14) (v := (32 : Int32)) hx hb dY_upper_14 (by decide) ?_
  refine lv_lushr (pc := 16) (v := (jlushr z2 (32 : Int32))) hx hb dY_upper_16 rfl ?_
  refine lv_lstore (pc := 17) (lv' := [(8, .long (jlushr z2 (32 : Int32))), (6, .long (z0 &&& (4294967295 : Int64))), (4, .long (jlushr z0 (32 : Int32))), (0, .long z0), (2, .long z2)]) hx hb dY_upper_17 hl (by decide) rfl (fun ls hl => ?_)
  refine lv_lload_n (pc := 19) hx hb dY_upper_19 rfl (lv_at hl 4 rfl) ?_
  refine lv_ldc2 (pc := 20) (v := (4294967295 : Int64)) hx hb hown (hts _ gm_505) dY_upper_20 ?_
  refine lv_land (pc := 23) hx hb dY_upper_23 ?_
  refine lv_lstore (pc := 24) (lv' := [(10, .long (z2 &&& (4294967295 : Int64))), (8, .long (jlushr z2 (32 : Int32))), (6, .long (z0 &&& (4294967295 : Int64))), (4, .long (jlushr z0 (32 : Int32))), (0, .long z0), (2, .long z2)]) hx hb dY_upper_24 hl (by decide) rfl (fun ls hl => ?_)
  refine lv_lload (pc := 26) hx hb dY_upper_26 (lv_at hl 2 rfl) ?_
  refine lv_lload (pc := 28) hx hb dY_upper_28 (lv_at hl 0 rfl) ?_
  refine lv_lmul (pc := 30) hx hb dY_upper_30 ?_
  refine lv_bipush (pc := 31) (v := (32 : Int32)) hx hb dY_upper_31 (by decide) ?_
  refine lv_lushr (pc := 33) (v := (jlushr ((z0 &&& (4294967295 : Int64)) * (z2 &&& (4294967295 : Int64))) (32 : Int32))) hx hb dY_upper_33 rfl ?_
  refine lv_lstore (pc := 34) (lv' := [(12, .long (jlushr ((z0 &&& (4294967295 : Int64)) * (z2 &&& (4294967295 : Int64))) (32 : Int32))), (10, .long (z2 &&& (4294967295 : Int64))), (8, .long (jlushr z2 (32 : Int32))), (6, .long (z0 &&& (4294967295 : Int64))), (4, .long (jlushr z0 (32 : Int32))), (0, .long z0), (2, .long z2)]) hx hb dY_upper_34 hl (by decide) rfl (fun ls hl => ?_)
  refine lv_lload (pc := 36) hx hb dY_upper_36 (lv_at hl 4 rfl) ?_
  refine lv_lload (pc := 38) hx hb dY_upper_38 (lv_at hl 1 rfl) ?_
  refine lv_lmul (pc := 40) hx hb dY_upper_40 ?_
  refine lv_lload (pc := 41) hx hb dY_upper_41 (lv_at hl 0 rfl) ?_
  refine lv_ladd (pc := 43) hx hb dY_upper_43 ?_
  refine lv_lstore (pc := 44) (lv' := [(14, .long (((jlushr z0 (32 : Int32)) * (z2 &&& (4294967295 : Int64))) + (jlushr ((z0 &&& (4294967295 : Int64)) * (z2 &&& (4294967295 : Int64))) (32 : Int32)))), (12, .long (jlushr ((z0 &&& (4294967295 : Int64)) * (z2 &&& (4294967295 : Int64))) (32 : Int32))), (10, .long (z2 &&& (4294967295 : Int64))), (8, .long (jlushr z2 (32 : Int32))), (6, .long (z0 &&& (4294967295 : Int64))), (4, .long (jlushr z0 (32 : Int32))), (0, .long z0), (2, .long z2)]) hx hb dY_upper_44 hl (by decide) rfl (fun ls hl => ?_)
  refine lv_lload (pc := 46) hx hb dY_upper_46 (lv_at hl 4 rfl) ?_
  refine lv_lload (pc := 48) hx hb dY_upper_48 (lv_at hl 3 rfl) ?_
  refine lv_lmul (pc := 50) hx hb dY_upper_50 ?_
  refine lv_lload (pc := 51) hx hb dY_upper_51 (lv_at hl 0 rfl) ?_
  refine lv_ldc2 (pc := 53) (v := (4294967295 : Int64)) hx hb hown (hts _ gm_505) dY_upper_53 ?_
  refine lv_land (pc := 56) hx hb dY_upper_56 ?_
  refine lv_ladd (pc := 57) hx hb dY_upper_57 ?_
  refine lv_lstore (pc := 58) (lv' := [(16, .long (((z0 &&& (4294967295 : Int64)) * (jlushr z2 (32 : Int32))) + ((((jlushr z0 (32 : Int32)) * (z2 &&& (4294967295 : Int64))) + (jlushr ((z0 &&& (4294967295 : Int64)) * (z2 &&& (4294967295 : Int64))) (32 : Int32))) &&& (4294967295 : Int64)))), (14, .long (((jlushr z0 (32 : Int32)) * (z2 &&& (4294967295 : Int64))) + (jlushr ((z0 &&& (4294967295 : Int64)) * (z2 &&& (4294967295 : Int64))) (32 : Int32)))), (12, .long (jlushr ((z0 &&& (4294967295 : Int64)) * (z2 &&& (4294967295 : Int64))) (32 : Int32))), (10, .long (z2 &&& (4294967295 : Int64))), (8, .long (jlushr z2 (32 : Int32))), (6, .long (z0 &&& (4294967295 : Int64))), (4, .long (jlushr z0 (32 : Int32))), (0, .long z0), (2, .long z2)]) hx hb dY_upper_58 hl (by decide) rfl (fun ls hl => ?_)
  refine lv_lload (pc := 60) hx hb dY_upper_60 (lv_at hl 6 rfl) ?_
  refine lv_lload (pc := 62) hx hb dY_upper_62 (lv_at hl 4 rfl) ?_
  refine lv_lmul (pc := 64) hx hb dY_upper_64 ?_
  refine lv_lload (pc := 65) hx hb dY_upper_65 (lv_at hl 1 rfl) ?_
  refine lv_bipush (pc := 67) (v := (32 : Int32)) hx hb dY_upper_67 (by decide) ?_
  refine lv_lushr (pc := 69) (v := (jlushr (((jlushr z0 (32 : Int32)) * (z2 &&& (4294967295 : Int64))) + (jlushr ((z0 &&& (4294967295 : Int64)) * (z2 &&& (4294967295 : Int64))) (32 : Int32))) (32 : Int32))) hx hb dY_upper_69 rfl ?_
  refine lv_ladd (pc := 70) hx hb dY_upper_70 ?_
  refine lv_lload (pc := 71) hx hb dY_upper_71 (lv_at hl 0 rfl) ?_
  refine lv_bipush (pc := 73) (v := (32 : Int32)) hx hb dY_upper_73 (by decide) ?_
  refine lv_lushr (pc := 75) (v := (jlushr (((z0 &&& (4294967295 : Int64)) * (jlushr z2 (32 : Int32))) + ((((jlushr z0 (32 : Int32)) * (z2 &&& (4294967295 : Int64))) + (jlushr ((z0 &&& (4294967295 : Int64)) * (z2 &&& (4294967295 : Int64))) (32 : Int32))) &&& (4294967295 : Int64))) (32 : Int32))) hx hb dY_upper_75 rfl ?_
  refine lv_ladd (pc := 76) hx hb dY_upper_76 ?_
  exact W.lret hx hb hr (fun t ht hW => ⟨rfl, ht⟩) (fun _ h => by cases h) dY_upper_77
def f_Y_products (z1 : Int32) (z2 : Int64) (z4 : Int64) (yTrp : Int32) (yNon : Int32) : Int64 × Int32 × Int32 := (if z1 = (0 : Int32) then ((Int32.toInt64 (Int64.toInt32 (z2 * z4))), (0 : Int32), yNon) else (if z1 = (64 : Int32) then ((Int32.toInt64 (Int64.toInt32 (z2 * z4))), (if (Int32.toInt64 (Int64.toInt32 (z2 * z4))) = ((Int32.toInt64 (Int64.toInt32 z2)) * (Int32.toInt64 (Int64.toInt32 z4))) then (0 : Int32) else (1 : Int32)), yNon) else (if z1 = (48 : Int32) then (((((jlushr z2 (32 : Int32)) * (jlushr z4 (32 : Int32))) + (jlushr (((jlushr z2 (32 : Int32)) * (z4 &&& (4294967295 : Int64))) + (jlushr ((z2 &&& (4294967295 : Int64)) * (z4 &&& (4294967295 : Int64))) (32 : Int32))) (32 : Int32))) + (jlushr (((z2 &&& (4294967295 : Int64)) * (jlushr z4 (32 : Int32))) + ((((jlushr z2 (32 : Int32)) * (z4 &&& (4294967295 : Int64))) + (jlushr ((z2 &&& (4294967295 : Int64)) * (z4 &&& (4294967295 : Int64))) (32 : Int32))) &&& (4294967295 : Int64))) (32 : Int32))), yTrp, yNon) else (if z1 = (32 : Int32) then ((z2 * z4), (0 : Int32), yNon) else (if z1 = (96 : Int32) then ((z2 * z4), (if ((((((jlushr z2 (32 : Int32)) * (jlushr z4 (32 : Int32))) + (jlushr (((jlushr z2 (32 : Int32)) * (z4 &&& (4294967295 : Int64))) + (jlushr ((z2 &&& (4294967295 : Int64)) * (z4 &&& (4294967295 : Int64))) (32 : Int32))) (32 : Int32))) + (jlushr (((z2 &&& (4294967295 : Int64)) * (jlushr z4 (32 : Int32))) + ((((jlushr z2 (32 : Int32)) * (z4 &&& (4294967295 : Int64))) + (jlushr ((z2 &&& (4294967295 : Int64)) * (z4 &&& (4294967295 : Int64))) (32 : Int32))) &&& (4294967295 : Int64))) (32 : Int32))) - (if (0 : Int64) ≤ z2 then (0 : Int64) else z4)) - (if (0 : Int64) ≤ z4 then (0 : Int64) else z2)) = (jlshr (z2 * z4) (63 : Int32)) then (0 : Int32) else (1 : Int32)), yNon) else ((z2 * z4), (0 : Int32), (1 : Int32)))))))
set_option maxRecDepth 100000 in
set_option maxHeartbeats 4000000 in
theorem c_Y_products (l : Launch) (dC : Nat → ClassId) (dI : Nat → Nat → Nat) (cI cJ : ClassId) (qY qYm qYr qYv qYl qYn qYp qYs qYw qY6 : Nat) (sz : Nat) (yPc : Int64) (yMod : Int32) (yLev : Int32) (yLoc : Int32) (yKsp : Int64) (yUsp : Int64) (yKgp : Int64) (yVal : Int64) (yTab : Int32) (ySpc : Int32) (yHal : Int32) (yEnt : Int32) (yPen : Int32) (yBuf : Int32) (yHer : Int64) (yWrd : Int32) (yHas : Int32) (yTrp : Int32) (yNon : Int32) (yMem : (Nat → Int32)) (yR : (Nat → Int64)) (yV : (Nat → Int64)) (yPL : (Nat → Int32)) (yPN : (Nat → Int32)) (yBP : (Nat → Int32)) (yBS : (Nat → Int32)) (yBW : (Nat → Int64)) (ySix : (Nat → Int64)) (z1 : Int32) (z2 : Int64) (z4 : Int64) : Met l yY_products (.code yY_products cY_products 10 (some .long) :: vG) ({ frames := 1, cells := 0, slots := 0, locals := 37 }) (va_Pc [.ref qY, .int z1, .long z2, .long z4] (qa_pre (dC, dI) vwCl (wY cI cJ qY qYm qYr qYv qYl qYn qYp qYs qYw qY6 yPc yMod yLev yLoc yKsp yUsp yKgp yVal yTab ySpc yHal yEnt yPen yBuf yHer yWrd yHas yTrp yNon yMem yR yV yPL yPN yBP yBS yBW ySix) [(cI, .int), (cJ, .long)] sz)) (qa_mod (some (.long ((f_Y_products z1 z2 z4 yTrp yNon).1))) (dC, dI) vwCl (wY cI cJ qY qYm qYr qYv qYl qYn qYp qYs qYw qY6 yPc yMod yLev yLoc yKsp yUsp yKgp yVal yTab ySpc yHal yEnt yPen yBuf yHer yWrd yHas ((f_Y_products z1 z2 z4 yTrp yNon).2.1) ((f_Y_products z1 z2 z4 yTrp yNon).2.2) yMem yR yV yPL yPN yBP yBS yBW ySix) (va_A (wY cI cJ qY qYm qYr qYv qYl qYn qYp qYs qYw qY6 yPc yMod yLev yLoc yKsp yUsp yKgp yVal yTab ySpc yHal yEnt yPen yBuf yHer yWrd yHas yTrp yNon yMem yR yV yPL yPN yBP yBS yBW ySix) sz)) 0 0 (va_A (wY cI cJ qY qYm qYr qYv qYl qYn qYp qYs qYw qY6 yPc yMod yLev yLoc yKsp yUsp yKgp yVal yTab ySpc yHal yEnt yPen yBuf yHer yWrd yHas yTrp yNon yMem yR yV yPL yPN yBP yBS yBW ySix) sz) := by
  refine Met.ofW (cc := cY_products) (maxL := 10) (ret := (some .long)) (by decide) rfl ?_
  intro p e s m args below meth c s₁ B hml hv
  obtain ⟨rfl, hsz, hP, hK, hD0⟩ := hv
  have hx := B.exec
  have hb := B.bytes
  have hr := B.returns
  have hts : ∀ w ∈ vG, w.before _ s = true := fun w h => atoms_spec (ws := (.code yY_products cY_products 10 (some .long) :: vG)) B.pre w (List.mem_cons_of_mem _ h)
  have hown : s.vm.findClass "LongMachineModel" = some m.cls := findClass_of_methodNamed B.named
  have hlocks := B.notSynchronized
  subst hsz
  have hD := hD0.self (sz := s.heap.size)
  generalize hAe : va_A (wY cI cJ qY qYm qYr qYv qYl qYn qYp qYs qYw qY6 yPc yMod yLev yLoc yKsp yUsp yKgp yVal yTab ySpc yHal yEnt yPen yBuf yHer yWrd yHas yTrp yNon yMem yR yV yPL yPN yBP yBS yBW ySix) s.heap.size = A at hD ⊢
  have hA : ∀ q : Nat, s.heap.size ≤ q → A q := fun q h => by rw [← hAe]; exact Or.inr h
  have hS : va_S A s.heap s.heap [] := va_S.rf
  have hl := lv_entry ([.ref qY, .int z1, .long z2, .long z4]) (n := 10) (Nat.le_of_ble_eq_true rfl)
  rw [lg_entry_eq]
  generalize (lg_sl ([.ref qY, .int z1, .long z2, .long z4]) ++ List.replicate (10 - (lg_sl ([.ref qY, .int z1, .long z2, .long z4])).length) Slot.unset).toArray = ls at hl ⊢
  have hl : lv_has ls 10 [(0, .ref qY), (1, .int z1), (2, .long z2), (4, .long z4)] := hl
  obtain ⟨u, hu⟩ : ∃ u, u = f_Y_products z1 z2 z4 yTrp yNon := ⟨_, rfl⟩
  rw [← hu]
  unfold f_Y_products at hu
  refine lv_lload_n (pc := 0) hx hb dY_products_0 rfl (lv_at hl 2 rfl) ?_
  refine lv_lload (pc := 1) hx hb dY_products_1 (lv_at hl 3 rfl) ?_
  refine lv_lmul (pc := 3) hx hb dY_products_3 ?_
  refine lv_lstore (pc := 4) (lv' := [(6, .long (z2 * z4)), (0, .ref qY), (1, .int z1), (2, .long z2), (4, .long z4)]) hx hb dY_products_4 hl (by decide) rfl (fun ls hl => ?_)
  refine lv_iload_n (pc := 6) hx hb dY_products_6 rfl (lv_at hl 2 rfl) ?_
  refine lv_if_eq (pc := 7) (tgt := 16) hx hb dY_products_7 (by decide) (fun h7_1 => ?_) (fun h7_1 => ?_)
  · have hu := hu.trans (if_pos h7_1)
    refine lv_aload_n (pc := 16) hx hb dY_products_16 rfl (lv_at hl 1 rfl) ?_
    refine lv_iload_n (pc := 17) hx hb dY_products_17 rfl (lv_at hl 2 rfl) ?_
    refine lv_bipush (pc := 18) (v := (64 : Int32)) hx hb dY_products_18 (by decide) ?_
    refine lv_icmp_ne (pc := 20) (tgt := 46) hx hb dY_products_20 (by decide) (fun h20_2 => ?_) (fun h20_2 => absurd h20_2 (by rw [h7_1]; decide))
    refine lv_iconst (pc := 46) (v := (0 : Int32)) hx hb dY_products_46 (by decide) ?_
    refine va_put (D := (dC, dI)) (pc := 47) (ci := 5) (v := .int (0 : Int32)) (ty := .boolean) (C := "LongMachineModel") (T := TY) (N := 28) hx hb hts ui_Y tyY tyY_ok nmY hown hK hP hD hS 0 rfl rfl 25 (by decide) (hts _ gm_371) (fun _ h9 => h9) rfl (by decide +kernel) rfl rfl (Nat.le_of_ble_eq_true rfl) dY_products_47 (fun H locs hP hD hS => ?_)
    have hP : va_P (dC, dI) vwCl (wY cI cJ qY qYm qYr qYv qYl qYn qYp qYs qYw qY6 yPc yMod yLev yLoc yKsp yUsp yKgp yVal yTab ySpc yHal yEnt yPen yBuf yHer yWrd yHas (0 : Int32) yNon yMem yR yV yPL yPN yBP yBS yBW ySix) H := hP
    have hD : va_D A (wY cI cJ qY qYm qYr qYv qYl qYn qYp qYs qYw qY6 yPc yMod yLev yLoc yKsp yUsp yKgp yVal yTab ySpc yHal yEnt yPen yBuf yHer yWrd yHas (0 : Int32) yNon yMem yR yV yPL yPN yBP yBS yBW ySix) := hD
    refine lv_lload (pc := 50) hx hb dY_products_50 (lv_at hl 0 rfl) ?_
    refine qa_calld (pc := 52) (v := .long (Int32.toInt64 (Int64.toInt32 (z2 * z4)))) (va_runS (As := [.long (z2 * z4)]) (rest := []) ⟨hx, hb, hml, hown, hts⟩ (c_Y_sx l (z2 * z4)) (va_cwS 1 hts (gd_S gm_478 gm_476 gm_477 gm_6) rfl rfl rfl (by decide +kernel) ⟨Nat.le_of_ble_eq_true rfl, Nat.le_of_ble_eq_true rfl⟩) qa_S0 rfl rfl hl.1 rfl (lv_room (Nat.le_of_ble_eq_true rfl)) dY_products_52 ⟨Nat.zero_le _, Nat.zero_le _⟩) ?_
    subst hu
    exact W.lret hx hb hr (fun t ht hW => ⟨rfl, by rw [ht]; exact hP, hS.F ht⟩) hS.2.2 dY_products_55
  · have hu := hu.trans (if_neg h7_1)
    refine lv_iload_n (pc := 10) hx hb dY_products_10 rfl (lv_at hl 2 rfl) ?_
    refine lv_bipush (pc := 11) (v := (64 : Int32)) hx hb dY_products_11 (by decide) ?_
    refine lv_icmp_ne (pc := 13) (tgt := 56) hx hb dY_products_13 (by decide) (fun h13_3 => ?_) (fun h13_3 => ?_)
    · have hu := hu.trans (if_neg h13_3)
      refine lv_iload_n (pc := 56) hx hb dY_products_56 rfl (lv_at hl 2 rfl) ?_
      refine lv_bipush (pc := 57) (v := (48 : Int32)) hx hb dY_products_57 (by decide) ?_
      refine lv_icmp_ne (pc := 59) (tgt := 69) hx hb dY_products_59 (by decide) (fun h59_4 => ?_) (fun h59_4 => ?_)
      · have hu := hu.trans (if_neg h59_4)
        refine lv_iload_n (pc := 69) hx hb dY_products_69 rfl (lv_at hl 2 rfl) ?_
        refine lv_bipush (pc := 70) (v := (32 : Int32)) hx hb dY_products_70 (by decide) ?_
        refine lv_icmp_eq (pc := 72) (tgt := 86) hx hb dY_products_72 (by decide) (fun h72_5 => ?_) (fun h72_5 => ?_)
        · have hu := hu.trans (if_pos h72_5)
          refine lv_lload_n (pc := 86) hx hb dY_products_86 rfl (lv_at hl 3 rfl) ?_
          refine lv_lload (pc := 87) hx hb dY_products_87 (lv_at hl 4 rfl) ?_
          refine qa_calld (pc := 89) (v := .long ((((jlushr z2 (32 : Int32)) * (jlushr z4 (32 : Int32))) + (jlushr (((jlushr z2 (32 : Int32)) * (z4 &&& (4294967295 : Int64))) + (jlushr ((z2 &&& (4294967295 : Int64)) * (z4 &&& (4294967295 : Int64))) (32 : Int32))) (32 : Int32))) + (jlushr (((z2 &&& (4294967295 : Int64)) * (jlushr z4 (32 : Int32))) + ((((jlushr z2 (32 : Int32)) * (z4 &&& (4294967295 : Int64))) + (jlushr ((z2 &&& (4294967295 : Int64)) * (z4 &&& (4294967295 : Int64))) (32 : Int32))) &&& (4294967295 : Int64))) (32 : Int32)))) (va_runS (As := [.long z2, .long z4]) (rest := []) ⟨hx, hb, hml, hown, hts⟩ (c_Y_upper l z2 z4) (va_cwS 2 hts (gd_S gm_504 gm_502 gm_503 gm_6) rfl rfl rfl (by decide +kernel) ⟨Nat.le_of_ble_eq_true rfl, Nat.le_of_ble_eq_true rfl⟩) qa_S0 rfl rfl hl.1 rfl (lv_room (Nat.le_of_ble_eq_true rfl)) dY_products_89 ⟨Nat.zero_le _, Nat.zero_le _⟩) ?_
          refine lv_lload_n (pc := 92) hx hb dY_products_92 rfl (lv_at hl 3 rfl) ?_
          refine lv_lconst (pc := 93) (v := (0 : Int64)) hx hb dY_products_93 (by decide) ?_
          refine qa_joinl (J := 104) (ls2 := ls) (rest2 := [.long ((((jlushr z2 (32 : Int32)) * (jlushr z4 (32 : Int32))) + (jlushr (((jlushr z2 (32 : Int32)) * (z4 &&& (4294967295 : Int64))) + (jlushr ((z2 &&& (4294967295 : Int64)) * (z4 &&& (4294967295 : Int64))) (32 : Int32))) (32 : Int32))) + (jlushr (((z2 &&& (4294967295 : Int64)) * (jlushr z4 (32 : Int32))) + ((((jlushr z2 (32 : Int32)) * (z4 &&& (4294967295 : Int64))) + (jlushr ((z2 &&& (4294967295 : Int64)) * (z4 &&& (4294967295 : Int64))) (32 : Int32))) &&& (4294967295 : Int64))) (32 : Int32)))]) (if (0 : Int64) ≤ z2 then (0 : Int64) else z4) (fun hj104 => ?_) ?_
          · refine qa_lc_ge (pc := 94) (tgt := 103) hx hb dY_products_94 dY_products_95 (by decide) (fun h94_6 => ?_) (fun h94_6 => ?_)
            · refine lv_lconst (pc := 103) (v := (0 : Int64)) hx hb dY_products_103 (by decide) ?_
              exact hj104 _ (Eq.symm (if_pos h94_6))
            · refine lv_lload (pc := 98) hx hb dY_products_98 (lv_at hl 4 rfl) ?_
              refine lv_goto (pc := 100) (tgt := 104) hx hb dY_products_100 (by decide) ?_
              exact hj104 _ (Eq.symm (if_neg h94_6))
          refine lv_lsub (pc := 104) hx hb dY_products_104 ?_
          refine lv_lload (pc := 105) hx hb dY_products_105 (lv_at hl 4 rfl) ?_
          refine lv_lconst (pc := 107) (v := (0 : Int64)) hx hb dY_products_107 (by decide) ?_
          refine qa_joinl (J := 117) (ls2 := ls) (rest2 := [.long (((((jlushr z2 (32 : Int32)) * (jlushr z4 (32 : Int32))) + (jlushr (((jlushr z2 (32 : Int32)) * (z4 &&& (4294967295 : Int64))) + (jlushr ((z2 &&& (4294967295 : Int64)) * (z4 &&& (4294967295 : Int64))) (32 : Int32))) (32 : Int32))) + (jlushr (((z2 &&& (4294967295 : Int64)) * (jlushr z4 (32 : Int32))) + ((((jlushr z2 (32 : Int32)) * (z4 &&& (4294967295 : Int64))) + (jlushr ((z2 &&& (4294967295 : Int64)) * (z4 &&& (4294967295 : Int64))) (32 : Int32))) &&& (4294967295 : Int64))) (32 : Int32))) - (if (0 : Int64) ≤ z2 then (0 : Int64) else z4))]) (if (0 : Int64) ≤ z4 then (0 : Int64) else z2) (fun hj117 => ?_) ?_
          · refine qa_lc_ge (pc := 108) (tgt := 116) hx hb dY_products_108 dY_products_109 (by decide) (fun h108_7 => ?_) (fun h108_7 => ?_)
            · refine lv_lconst (pc := 116) (v := (0 : Int64)) hx hb dY_products_116 (by decide) ?_
              exact hj117 _ (Eq.symm (if_pos h108_7))
            · refine lv_lload_n (pc := 112) hx hb dY_products_112 rfl (lv_at hl 3 rfl) ?_
              refine lv_goto (pc := 113) (tgt := 117) hx hb dY_products_113 (by decide) ?_
              exact hj117 _ (Eq.symm (if_neg h108_7))
          refine lv_lsub (pc := 117) hx hb dY_products_117 ?_
          refine lv_lstore (pc := 118) (lv' := [(8, .long ((((((jlushr z2 (32 : Int32)) * (jlushr z4 (32 : Int32))) + (jlushr (((jlushr z2 (32 : Int32)) * (z4 &&& (4294967295 : Int64))) + (jlushr ((z2 &&& (4294967295 : Int64)) * (z4 &&& (4294967295 : Int64))) (32 : Int32))) (32 : Int32))) + (jlushr (((z2 &&& (4294967295 : Int64)) * (jlushr z4 (32 : Int32))) + ((((jlushr z2 (32 : Int32)) * (z4 &&& (4294967295 : Int64))) + (jlushr ((z2 &&& (4294967295 : Int64)) * (z4 &&& (4294967295 : Int64))) (32 : Int32))) &&& (4294967295 : Int64))) (32 : Int32))) - (if (0 : Int64) ≤ z2 then (0 : Int64) else z4)) - (if (0 : Int64) ≤ z4 then (0 : Int64) else z2))), (6, .long (z2 * z4)), (0, .ref qY), (1, .int z1), (2, .long z2), (4, .long z4)]) hx hb dY_products_118 hl (by decide) rfl (fun ls hl => ?_)
          refine lv_aload_n (pc := 120) hx hb dY_products_120 rfl (lv_at hl 2 rfl) ?_
          refine lv_iload_n (pc := 121) hx hb dY_products_121 rfl (lv_at hl 3 rfl) ?_
          refine lv_bipush (pc := 122) (v := (96 : Int32)) hx hb dY_products_122 (by decide) ?_
          refine lv_icmp_ne (pc := 124) (tgt := 142) hx hb dY_products_124 (by decide) (fun h124_8 => ?_) (fun h124_8 => absurd h124_8 (by rw [h72_5]; decide))
          refine lv_iconst (pc := 142) (v := (0 : Int32)) hx hb dY_products_142 (by decide) ?_
          refine va_put (D := (dC, dI)) (pc := 143) (ci := 5) (v := .int (0 : Int32)) (ty := .boolean) (C := "LongMachineModel") (T := TY) (N := 28) hx hb hts ui_Y tyY tyY_ok nmY hown hK hP hD hS 0 rfl rfl 25 (by decide) (hts _ gm_371) (fun _ h9 => h9) rfl (by decide +kernel) rfl rfl (Nat.le_of_ble_eq_true rfl) dY_products_143 (fun H locs hP hD hS => ?_)
          have hP : va_P (dC, dI) vwCl (wY cI cJ qY qYm qYr qYv qYl qYn qYp qYs qYw qY6 yPc yMod yLev yLoc yKsp yUsp yKgp yVal yTab ySpc yHal yEnt yPen yBuf yHer yWrd yHas (0 : Int32) yNon yMem yR yV yPL yPN yBP yBS yBW ySix) H := hP
          have hD : va_D A (wY cI cJ qY qYm qYr qYv qYl qYn qYp qYs qYw qY6 yPc yMod yLev yLoc yKsp yUsp yKgp yVal yTab ySpc yHal yEnt yPen yBuf yHer yWrd yHas (0 : Int32) yNon yMem yR yV yPL yPN yBP yBS yBW ySix) := hD
          refine lv_lload (pc := 146) hx hb dY_products_146 (lv_at hl 1 rfl) ?_
          subst hu
          exact W.lret hx hb hr (fun t ht hW => ⟨rfl, by rw [ht]; exact hP, hS.F ht⟩) hS.2.2 dY_products_148
        · have hu := hu.trans (if_neg h72_5)
          refine lv_iload_n (pc := 75) hx hb dY_products_75 rfl (lv_at hl 2 rfl) ?_
          refine lv_bipush (pc := 76) (v := (96 : Int32)) hx hb dY_products_76 (by decide) ?_
          refine lv_icmp_eq (pc := 78) (tgt := 86) hx hb dY_products_78 (by decide) (fun h78_9 => ?_) (fun h78_9 => ?_)
          · have hu := hu.trans (if_pos h78_9)
            refine lv_lload_n (pc := 86) hx hb dY_products_86 rfl (lv_at hl 3 rfl) ?_
            refine lv_lload (pc := 87) hx hb dY_products_87 (lv_at hl 4 rfl) ?_
            refine qa_calld (pc := 89) (v := .long ((((jlushr z2 (32 : Int32)) * (jlushr z4 (32 : Int32))) + (jlushr (((jlushr z2 (32 : Int32)) * (z4 &&& (4294967295 : Int64))) + (jlushr ((z2 &&& (4294967295 : Int64)) * (z4 &&& (4294967295 : Int64))) (32 : Int32))) (32 : Int32))) + (jlushr (((z2 &&& (4294967295 : Int64)) * (jlushr z4 (32 : Int32))) + ((((jlushr z2 (32 : Int32)) * (z4 &&& (4294967295 : Int64))) + (jlushr ((z2 &&& (4294967295 : Int64)) * (z4 &&& (4294967295 : Int64))) (32 : Int32))) &&& (4294967295 : Int64))) (32 : Int32)))) (va_runS (As := [.long z2, .long z4]) (rest := []) ⟨hx, hb, hml, hown, hts⟩ (c_Y_upper l z2 z4) (va_cwS 2 hts (gd_S gm_504 gm_502 gm_503 gm_6) rfl rfl rfl (by decide +kernel) ⟨Nat.le_of_ble_eq_true rfl, Nat.le_of_ble_eq_true rfl⟩) qa_S0 rfl rfl hl.1 rfl (lv_room (Nat.le_of_ble_eq_true rfl)) dY_products_89 ⟨Nat.zero_le _, Nat.zero_le _⟩) ?_
            refine lv_lload_n (pc := 92) hx hb dY_products_92 rfl (lv_at hl 3 rfl) ?_
            refine lv_lconst (pc := 93) (v := (0 : Int64)) hx hb dY_products_93 (by decide) ?_
            refine qa_joinl (J := 104) (ls2 := ls) (rest2 := [.long ((((jlushr z2 (32 : Int32)) * (jlushr z4 (32 : Int32))) + (jlushr (((jlushr z2 (32 : Int32)) * (z4 &&& (4294967295 : Int64))) + (jlushr ((z2 &&& (4294967295 : Int64)) * (z4 &&& (4294967295 : Int64))) (32 : Int32))) (32 : Int32))) + (jlushr (((z2 &&& (4294967295 : Int64)) * (jlushr z4 (32 : Int32))) + ((((jlushr z2 (32 : Int32)) * (z4 &&& (4294967295 : Int64))) + (jlushr ((z2 &&& (4294967295 : Int64)) * (z4 &&& (4294967295 : Int64))) (32 : Int32))) &&& (4294967295 : Int64))) (32 : Int32)))]) (if (0 : Int64) ≤ z2 then (0 : Int64) else z4) (fun hj104 => ?_) ?_
            · refine qa_lc_ge (pc := 94) (tgt := 103) hx hb dY_products_94 dY_products_95 (by decide) (fun h94_10 => ?_) (fun h94_10 => ?_)
              · refine lv_lconst (pc := 103) (v := (0 : Int64)) hx hb dY_products_103 (by decide) ?_
                exact hj104 _ (Eq.symm (if_pos h94_10))
              · refine lv_lload (pc := 98) hx hb dY_products_98 (lv_at hl 4 rfl) ?_
                refine lv_goto (pc := 100) (tgt := 104) hx hb dY_products_100 (by decide) ?_
                exact hj104 _ (Eq.symm (if_neg h94_10))
            refine lv_lsub (pc := 104) hx hb dY_products_104 ?_
            refine lv_lload (pc := 105) hx hb dY_products_105 (lv_at hl 4 rfl) ?_
            refine lv_lconst (pc := 107) (v := (0 : Int64)) hx hb dY_products_107 (by decide) ?_
            refine qa_joinl (J := 117) (ls2 := ls) (rest2 := [.long (((((jlushr z2 (32 : Int32)) * (jlushr z4 (32 : Int32))) + (jlushr (((jlushr z2 (32 : Int32)) * (z4 &&& (4294967295 : Int64))) + (jlushr ((z2 &&& (4294967295 : Int64)) * (z4 &&& (4294967295 : Int64))) (32 : Int32))) (32 : Int32))) + (jlushr (((z2 &&& (4294967295 : Int64)) * (jlushr z4 (32 : Int32))) + ((((jlushr z2 (32 : Int32)) * (z4 &&& (4294967295 : Int64))) + (jlushr ((z2 &&& (4294967295 : Int64)) * (z4 &&& (4294967295 : Int64))) (32 : Int32))) &&& (4294967295 : Int64))) (32 : Int32))) - (if (0 : Int64) ≤ z2 then (0 : Int64) else z4))]) (if (0 : Int64) ≤ z4 then (0 : Int64) else z2) (fun hj117 => ?_) ?_
            · refine qa_lc_ge (pc := 108) (tgt := 116) hx hb dY_products_108 dY_products_109 (by decide) (fun h108_11 => ?_) (fun h108_11 => ?_)
              · refine lv_lconst (pc := 116) (v := (0 : Int64)) hx hb dY_products_116 (by decide) ?_
                exact hj117 _ (Eq.symm (if_pos h108_11))
              · refine lv_lload_n (pc := 112) hx hb dY_products_112 rfl (lv_at hl 3 rfl) ?_
                refine lv_goto (pc := 113) (tgt := 117) hx hb dY_products_113 (by decide) ?_
                exact hj117 _ (Eq.symm (if_neg h108_11))
            refine lv_lsub (pc := 117) hx hb dY_products_117 ?_
            refine lv_lstore (pc := 118) (lv' := [(8, .long ((((((jlushr z2 (32 : Int32)) * (jlushr z4 (32 : Int32))) + (jlushr (((jlushr z2 (32 : Int32)) * (z4 &&& (4294967295 : Int64))) + (jlushr ((z2 &&& (4294967295 : Int64)) * (z4 &&& (4294967295 : Int64))) (32 : Int32))) (32 : Int32))) + (jlushr (((z2 &&& (4294967295 : Int64)) * (jlushr z4 (32 : Int32))) + ((((jlushr z2 (32 : Int32)) * (z4 &&& (4294967295 : Int64))) + (jlushr ((z2 &&& (4294967295 : Int64)) * (z4 &&& (4294967295 : Int64))) (32 : Int32))) &&& (4294967295 : Int64))) (32 : Int32))) - (if (0 : Int64) ≤ z2 then (0 : Int64) else z4)) - (if (0 : Int64) ≤ z4 then (0 : Int64) else z2))), (6, .long (z2 * z4)), (0, .ref qY), (1, .int z1), (2, .long z2), (4, .long z4)]) hx hb dY_products_118 hl (by decide) rfl (fun ls hl => ?_)
            refine lv_aload_n (pc := 120) hx hb dY_products_120 rfl (lv_at hl 2 rfl) ?_
            refine lv_iload_n (pc := 121) hx hb dY_products_121 rfl (lv_at hl 3 rfl) ?_
            refine lv_bipush (pc := 122) (v := (96 : Int32)) hx hb dY_products_122 (by decide) ?_
            refine lv_icmp_ne (pc := 124) (tgt := 142) hx hb dY_products_124 (by decide) (fun h124_12 => absurd h78_9 h124_12) (fun h124_12 => ?_)
            refine lv_lload (pc := 127) hx hb dY_products_127 (lv_at hl 0 rfl) ?_
            refine lv_lload (pc := 129) hx hb dY_products_129 (lv_at hl 1 rfl) ?_
            refine lv_bipush (pc := 131) (v := (63 : Int32)) hx hb dY_products_131 (by decide) ?_
            refine lv_lshr (pc := 133) (v := (jlshr (z2 * z4) (63 : Int32))) hx hb dY_products_133 rfl ?_
            refine qa_joini (J := 143) (ls2 := ls) (rest2 := [.ref qY]) (if ((((((jlushr z2 (32 : Int32)) * (jlushr z4 (32 : Int32))) + (jlushr (((jlushr z2 (32 : Int32)) * (z4 &&& (4294967295 : Int64))) + (jlushr ((z2 &&& (4294967295 : Int64)) * (z4 &&& (4294967295 : Int64))) (32 : Int32))) (32 : Int32))) + (jlushr (((z2 &&& (4294967295 : Int64)) * (jlushr z4 (32 : Int32))) + ((((jlushr z2 (32 : Int32)) * (z4 &&& (4294967295 : Int64))) + (jlushr ((z2 &&& (4294967295 : Int64)) * (z4 &&& (4294967295 : Int64))) (32 : Int32))) &&& (4294967295 : Int64))) (32 : Int32))) - (if (0 : Int64) ≤ z2 then (0 : Int64) else z4)) - (if (0 : Int64) ≤ z4 then (0 : Int64) else z2)) = (jlshr (z2 * z4) (63 : Int32)) then (0 : Int32) else (1 : Int32)) (fun hj143 => ?_) ?_
            · refine qa_lc_eq (pc := 134) (tgt := 142) hx hb dY_products_134 dY_products_135 (by decide) (fun h134_13 => ?_) (fun h134_13 => ?_)
              · refine lv_iconst (pc := 142) (v := (0 : Int32)) hx hb dY_products_142 (by decide) ?_
                exact hj143 _ (Eq.symm (if_pos h134_13))
              · refine lv_iconst (pc := 138) (v := (1 : Int32)) hx hb dY_products_138 (by decide) ?_
                refine lv_goto (pc := 139) (tgt := 143) hx hb dY_products_139 (by decide) ?_
                exact hj143 _ (Eq.symm (if_neg h134_13))
            refine va_put (D := (dC, dI)) (pc := 143) (ci := 5) (v := .int (if ((((((jlushr z2 (32 : Int32)) * (jlushr z4 (32 : Int32))) + (jlushr (((jlushr z2 (32 : Int32)) * (z4 &&& (4294967295 : Int64))) + (jlushr ((z2 &&& (4294967295 : Int64)) * (z4 &&& (4294967295 : Int64))) (32 : Int32))) (32 : Int32))) + (jlushr (((z2 &&& (4294967295 : Int64)) * (jlushr z4 (32 : Int32))) + ((((jlushr z2 (32 : Int32)) * (z4 &&& (4294967295 : Int64))) + (jlushr ((z2 &&& (4294967295 : Int64)) * (z4 &&& (4294967295 : Int64))) (32 : Int32))) &&& (4294967295 : Int64))) (32 : Int32))) - (if (0 : Int64) ≤ z2 then (0 : Int64) else z4)) - (if (0 : Int64) ≤ z4 then (0 : Int64) else z2)) = (jlshr (z2 * z4) (63 : Int32)) then (0 : Int32) else (1 : Int32))) (ty := .boolean) (C := "LongMachineModel") (T := TY) (N := 28) hx hb hts ui_Y tyY tyY_ok nmY hown hK hP hD hS 0 rfl rfl 25 (by decide) (hts _ gm_371) (fun _ h9 => h9) rfl (by decide +kernel) (qa_nb (qa_bi qa_b0 qa_b1)) (qa_fb (qa_bi qa_b0 qa_b1)) (Nat.le_of_ble_eq_true rfl) dY_products_143 (fun H locs hP hD hS => ?_)
            have hP : va_P (dC, dI) vwCl (wY cI cJ qY qYm qYr qYv qYl qYn qYp qYs qYw qY6 yPc yMod yLev yLoc yKsp yUsp yKgp yVal yTab ySpc yHal yEnt yPen yBuf yHer yWrd yHas (if ((((((jlushr z2 (32 : Int32)) * (jlushr z4 (32 : Int32))) + (jlushr (((jlushr z2 (32 : Int32)) * (z4 &&& (4294967295 : Int64))) + (jlushr ((z2 &&& (4294967295 : Int64)) * (z4 &&& (4294967295 : Int64))) (32 : Int32))) (32 : Int32))) + (jlushr (((z2 &&& (4294967295 : Int64)) * (jlushr z4 (32 : Int32))) + ((((jlushr z2 (32 : Int32)) * (z4 &&& (4294967295 : Int64))) + (jlushr ((z2 &&& (4294967295 : Int64)) * (z4 &&& (4294967295 : Int64))) (32 : Int32))) &&& (4294967295 : Int64))) (32 : Int32))) - (if (0 : Int64) ≤ z2 then (0 : Int64) else z4)) - (if (0 : Int64) ≤ z4 then (0 : Int64) else z2)) = (jlshr (z2 * z4) (63 : Int32)) then (0 : Int32) else (1 : Int32)) yNon yMem yR yV yPL yPN yBP yBS yBW ySix) H := hP
            have hD : va_D A (wY cI cJ qY qYm qYr qYv qYl qYn qYp qYs qYw qY6 yPc yMod yLev yLoc yKsp yUsp yKgp yVal yTab ySpc yHal yEnt yPen yBuf yHer yWrd yHas (if ((((((jlushr z2 (32 : Int32)) * (jlushr z4 (32 : Int32))) + (jlushr (((jlushr z2 (32 : Int32)) * (z4 &&& (4294967295 : Int64))) + (jlushr ((z2 &&& (4294967295 : Int64)) * (z4 &&& (4294967295 : Int64))) (32 : Int32))) (32 : Int32))) + (jlushr (((z2 &&& (4294967295 : Int64)) * (jlushr z4 (32 : Int32))) + ((((jlushr z2 (32 : Int32)) * (z4 &&& (4294967295 : Int64))) + (jlushr ((z2 &&& (4294967295 : Int64)) * (z4 &&& (4294967295 : Int64))) (32 : Int32))) &&& (4294967295 : Int64))) (32 : Int32))) - (if (0 : Int64) ≤ z2 then (0 : Int64) else z4)) - (if (0 : Int64) ≤ z4 then (0 : Int64) else z2)) = (jlshr (z2 * z4) (63 : Int32)) then (0 : Int32) else (1 : Int32)) yNon yMem yR yV yPL yPN yBP yBS yBW ySix) := hD
            refine lv_lload (pc := 146) hx hb dY_products_146 (lv_at hl 1 rfl) ?_
            subst hu
            exact W.lret hx hb hr (fun t ht hW => ⟨rfl, by rw [ht]; exact hP, hS.F ht⟩) hS.2.2 dY_products_148
          · have hu := hu.trans (if_neg h78_9)
            refine lv_aload_n (pc := 81) hx hb dY_products_81 rfl (lv_at hl 1 rfl) ?_
            refine lv_iconst (pc := 82) (v := (1 : Int32)) hx hb dY_products_82 (by decide) ?_
            refine va_put (D := (dC, dI)) (pc := 83) (ci := 5) (v := .int (1 : Int32)) (ty := .boolean) (C := "LongMachineModel") (T := TY) (N := 28) hx hb hts ui_Y tyY tyY_ok nmY hown hK hP hD hS 0 rfl rfl 26 (by decide) (hts _ gm_372) (fun _ h9 => h9) rfl (by decide +kernel) rfl rfl (Nat.le_of_ble_eq_true rfl) dY_products_83 (fun H locs hP hD hS => ?_)
            have hP : va_P (dC, dI) vwCl (wY cI cJ qY qYm qYr qYv qYl qYn qYp qYs qYw qY6 yPc yMod yLev yLoc yKsp yUsp yKgp yVal yTab ySpc yHal yEnt yPen yBuf yHer yWrd yHas yTrp (1 : Int32) yMem yR yV yPL yPN yBP yBS yBW ySix) H := hP
            have hD : va_D A (wY cI cJ qY qYm qYr qYv qYl qYn qYp qYs qYw qY6 yPc yMod yLev yLoc yKsp yUsp yKgp yVal yTab ySpc yHal yEnt yPen yBuf yHer yWrd yHas yTrp (1 : Int32) yMem yR yV yPL yPN yBP yBS yBW ySix) := hD
            refine lv_lload_n (pc := 86) hx hb dY_products_86 rfl (lv_at hl 3 rfl) ?_
            refine lv_lload (pc := 87) hx hb dY_products_87 (lv_at hl 4 rfl) ?_
            refine qa_calld (pc := 89) (v := .long ((((jlushr z2 (32 : Int32)) * (jlushr z4 (32 : Int32))) + (jlushr (((jlushr z2 (32 : Int32)) * (z4 &&& (4294967295 : Int64))) + (jlushr ((z2 &&& (4294967295 : Int64)) * (z4 &&& (4294967295 : Int64))) (32 : Int32))) (32 : Int32))) + (jlushr (((z2 &&& (4294967295 : Int64)) * (jlushr z4 (32 : Int32))) + ((((jlushr z2 (32 : Int32)) * (z4 &&& (4294967295 : Int64))) + (jlushr ((z2 &&& (4294967295 : Int64)) * (z4 &&& (4294967295 : Int64))) (32 : Int32))) &&& (4294967295 : Int64))) (32 : Int32)))) (va_runS (As := [.long z2, .long z4]) (rest := []) ⟨hx, hb, hml, hown, hts⟩ (c_Y_upper l z2 z4) (va_cwS 2 hts (gd_S gm_504 gm_502 gm_503 gm_6) rfl rfl rfl (by decide +kernel) ⟨Nat.le_of_ble_eq_true rfl, Nat.le_of_ble_eq_true rfl⟩) qa_S0 rfl rfl hl.1 rfl (lv_room (Nat.le_of_ble_eq_true rfl)) dY_products_89 ⟨Nat.zero_le _, Nat.zero_le _⟩) ?_
            refine lv_lload_n (pc := 92) hx hb dY_products_92 rfl (lv_at hl 3 rfl) ?_
            refine lv_lconst (pc := 93) (v := (0 : Int64)) hx hb dY_products_93 (by decide) ?_
            refine qa_joinl (J := 104) (ls2 := ls) (rest2 := [.long ((((jlushr z2 (32 : Int32)) * (jlushr z4 (32 : Int32))) + (jlushr (((jlushr z2 (32 : Int32)) * (z4 &&& (4294967295 : Int64))) + (jlushr ((z2 &&& (4294967295 : Int64)) * (z4 &&& (4294967295 : Int64))) (32 : Int32))) (32 : Int32))) + (jlushr (((z2 &&& (4294967295 : Int64)) * (jlushr z4 (32 : Int32))) + ((((jlushr z2 (32 : Int32)) * (z4 &&& (4294967295 : Int64))) + (jlushr ((z2 &&& (4294967295 : Int64)) * (z4 &&& (4294967295 : Int64))) (32 : Int32))) &&& (4294967295 : Int64))) (32 : Int32)))]) (if (0 : Int64) ≤ z2 then (0 : Int64) else z4) (fun hj104 => ?_) ?_
            · refine qa_lc_ge (pc := 94) (tgt := 103) hx hb dY_products_94 dY_products_95 (by decide) (fun h94_14 => ?_) (fun h94_14 => ?_)
              · refine lv_lconst (pc := 103) (v := (0 : Int64)) hx hb dY_products_103 (by decide) ?_
                exact hj104 _ (Eq.symm (if_pos h94_14))
              · refine lv_lload (pc := 98) hx hb dY_products_98 (lv_at hl 4 rfl) ?_
                refine lv_goto (pc := 100) (tgt := 104) hx hb dY_products_100 (by decide) ?_
                exact hj104 _ (Eq.symm (if_neg h94_14))
            refine lv_lsub (pc := 104) hx hb dY_products_104 ?_
            refine lv_lload (pc := 105) hx hb dY_products_105 (lv_at hl 4 rfl) ?_
            refine lv_lconst (pc := 107) (v := (0 : Int64)) hx hb dY_products_107 (by decide) ?_
            refine qa_joinl (J := 117) (ls2 := ls) (rest2 := [.long (((((jlushr z2 (32 : Int32)) * (jlushr z4 (32 : Int32))) + (jlushr (((jlushr z2 (32 : Int32)) * (z4 &&& (4294967295 : Int64))) + (jlushr ((z2 &&& (4294967295 : Int64)) * (z4 &&& (4294967295 : Int64))) (32 : Int32))) (32 : Int32))) + (jlushr (((z2 &&& (4294967295 : Int64)) * (jlushr z4 (32 : Int32))) + ((((jlushr z2 (32 : Int32)) * (z4 &&& (4294967295 : Int64))) + (jlushr ((z2 &&& (4294967295 : Int64)) * (z4 &&& (4294967295 : Int64))) (32 : Int32))) &&& (4294967295 : Int64))) (32 : Int32))) - (if (0 : Int64) ≤ z2 then (0 : Int64) else z4))]) (if (0 : Int64) ≤ z4 then (0 : Int64) else z2) (fun hj117 => ?_) ?_
            · refine qa_lc_ge (pc := 108) (tgt := 116) hx hb dY_products_108 dY_products_109 (by decide) (fun h108_15 => ?_) (fun h108_15 => ?_)
              · refine lv_lconst (pc := 116) (v := (0 : Int64)) hx hb dY_products_116 (by decide) ?_
                exact hj117 _ (Eq.symm (if_pos h108_15))
              · refine lv_lload_n (pc := 112) hx hb dY_products_112 rfl (lv_at hl 3 rfl) ?_
                refine lv_goto (pc := 113) (tgt := 117) hx hb dY_products_113 (by decide) ?_
                exact hj117 _ (Eq.symm (if_neg h108_15))
            refine lv_lsub (pc := 117) hx hb dY_products_117 ?_
            refine lv_lstore (pc := 118) (lv' := [(8, .long ((((((jlushr z2 (32 : Int32)) * (jlushr z4 (32 : Int32))) + (jlushr (((jlushr z2 (32 : Int32)) * (z4 &&& (4294967295 : Int64))) + (jlushr ((z2 &&& (4294967295 : Int64)) * (z4 &&& (4294967295 : Int64))) (32 : Int32))) (32 : Int32))) + (jlushr (((z2 &&& (4294967295 : Int64)) * (jlushr z4 (32 : Int32))) + ((((jlushr z2 (32 : Int32)) * (z4 &&& (4294967295 : Int64))) + (jlushr ((z2 &&& (4294967295 : Int64)) * (z4 &&& (4294967295 : Int64))) (32 : Int32))) &&& (4294967295 : Int64))) (32 : Int32))) - (if (0 : Int64) ≤ z2 then (0 : Int64) else z4)) - (if (0 : Int64) ≤ z4 then (0 : Int64) else z2))), (6, .long (z2 * z4)), (0, .ref qY), (1, .int z1), (2, .long z2), (4, .long z4)]) hx hb dY_products_118 hl (by decide) rfl (fun ls hl => ?_)
            refine lv_aload_n (pc := 120) hx hb dY_products_120 rfl (lv_at hl 2 rfl) ?_
            refine lv_iload_n (pc := 121) hx hb dY_products_121 rfl (lv_at hl 3 rfl) ?_
            refine lv_bipush (pc := 122) (v := (96 : Int32)) hx hb dY_products_122 (by decide) ?_
            refine lv_icmp_ne (pc := 124) (tgt := 142) hx hb dY_products_124 (by decide) (fun h124_16 => ?_) (fun h124_16 => absurd h124_16 h78_9)
            refine lv_iconst (pc := 142) (v := (0 : Int32)) hx hb dY_products_142 (by decide) ?_
            refine va_put (D := (dC, dI)) (pc := 143) (ci := 5) (v := .int (0 : Int32)) (ty := .boolean) (C := "LongMachineModel") (T := TY) (N := 28) hx hb hts ui_Y tyY tyY_ok nmY hown hK hP hD hS 0 rfl rfl 25 (by decide) (hts _ gm_371) (fun _ h9 => h9) rfl (by decide +kernel) rfl rfl (Nat.le_of_ble_eq_true rfl) dY_products_143 (fun H locs hP hD hS => ?_)
            have hP : va_P (dC, dI) vwCl (wY cI cJ qY qYm qYr qYv qYl qYn qYp qYs qYw qY6 yPc yMod yLev yLoc yKsp yUsp yKgp yVal yTab ySpc yHal yEnt yPen yBuf yHer yWrd yHas (0 : Int32) (1 : Int32) yMem yR yV yPL yPN yBP yBS yBW ySix) H := hP
            have hD : va_D A (wY cI cJ qY qYm qYr qYv qYl qYn qYp qYs qYw qY6 yPc yMod yLev yLoc yKsp yUsp yKgp yVal yTab ySpc yHal yEnt yPen yBuf yHer yWrd yHas (0 : Int32) (1 : Int32) yMem yR yV yPL yPN yBP yBS yBW ySix) := hD
            refine lv_lload (pc := 146) hx hb dY_products_146 (lv_at hl 1 rfl) ?_
            subst hu
            exact W.lret hx hb hr (fun t ht hW => ⟨rfl, by rw [ht]; exact hP, hS.F ht⟩) hS.2.2 dY_products_148
      · have hu := hu.trans (if_pos h59_4)
        refine lv_lload_n (pc := 62) hx hb dY_products_62 rfl (lv_at hl 3 rfl) ?_
        refine lv_lload (pc := 63) hx hb dY_products_63 (lv_at hl 4 rfl) ?_
        refine qa_calld (pc := 65) (v := .long ((((jlushr z2 (32 : Int32)) * (jlushr z4 (32 : Int32))) + (jlushr (((jlushr z2 (32 : Int32)) * (z4 &&& (4294967295 : Int64))) + (jlushr ((z2 &&& (4294967295 : Int64)) * (z4 &&& (4294967295 : Int64))) (32 : Int32))) (32 : Int32))) + (jlushr (((z2 &&& (4294967295 : Int64)) * (jlushr z4 (32 : Int32))) + ((((jlushr z2 (32 : Int32)) * (z4 &&& (4294967295 : Int64))) + (jlushr ((z2 &&& (4294967295 : Int64)) * (z4 &&& (4294967295 : Int64))) (32 : Int32))) &&& (4294967295 : Int64))) (32 : Int32)))) (va_runS (As := [.long z2, .long z4]) (rest := []) ⟨hx, hb, hml, hown, hts⟩ (c_Y_upper l z2 z4) (va_cwS 2 hts (gd_S gm_504 gm_502 gm_503 gm_6) rfl rfl rfl (by decide +kernel) ⟨Nat.le_of_ble_eq_true rfl, Nat.le_of_ble_eq_true rfl⟩) qa_S0 rfl rfl hl.1 rfl (lv_room (Nat.le_of_ble_eq_true rfl)) dY_products_65 ⟨Nat.zero_le _, Nat.zero_le _⟩) ?_
        subst hu
        exact W.lret hx hb hr (fun t ht hW => ⟨rfl, by rw [ht]; exact hP, hS.F ht⟩) hS.2.2 dY_products_68
    · have hu := hu.trans (if_pos h13_3)
      refine lv_aload_n (pc := 16) hx hb dY_products_16 rfl (lv_at hl 1 rfl) ?_
      refine lv_iload_n (pc := 17) hx hb dY_products_17 rfl (lv_at hl 2 rfl) ?_
      refine lv_bipush (pc := 18) (v := (64 : Int32)) hx hb dY_products_18 (by decide) ?_
      refine lv_icmp_ne (pc := 20) (tgt := 46) hx hb dY_products_20 (by decide) (fun h20_17 => absurd h13_3 h20_17) (fun h20_17 => ?_)
      refine lv_lload (pc := 23) hx hb dY_products_23 (lv_at hl 0 rfl) ?_
      refine qa_calld (pc := 25) (v := .long (Int32.toInt64 (Int64.toInt32 (z2 * z4)))) (va_runS (As := [.long (z2 * z4)]) (rest := [.ref qY]) ⟨hx, hb, hml, hown, hts⟩ (c_Y_sx l (z2 * z4)) (va_cwS 1 hts (gd_S gm_478 gm_476 gm_477 gm_6) rfl rfl rfl (by decide +kernel) ⟨Nat.le_of_ble_eq_true rfl, Nat.le_of_ble_eq_true rfl⟩) qa_S0 rfl rfl hl.1 rfl (lv_room (Nat.le_of_ble_eq_true rfl)) dY_products_25 ⟨Nat.zero_le _, Nat.zero_le _⟩) ?_
      refine lv_lload_n (pc := 28) hx hb dY_products_28 rfl (lv_at hl 3 rfl) ?_
      refine qa_calld (pc := 29) (v := .long (Int32.toInt64 (Int64.toInt32 z2))) (va_runS (As := [.long z2]) (rest := [.long (Int32.toInt64 (Int64.toInt32 (z2 * z4))), .ref qY]) ⟨hx, hb, hml, hown, hts⟩ (c_Y_sx l z2) (va_cwS 1 hts (gd_S gm_478 gm_476 gm_477 gm_6) rfl rfl rfl (by decide +kernel) ⟨Nat.le_of_ble_eq_true rfl, Nat.le_of_ble_eq_true rfl⟩) qa_S0 rfl rfl hl.1 rfl (lv_room (Nat.le_of_ble_eq_true rfl)) dY_products_29 ⟨Nat.zero_le _, Nat.zero_le _⟩) ?_
      refine lv_lload (pc := 32) hx hb dY_products_32 (lv_at hl 4 rfl) ?_
      refine qa_calld (pc := 34) (v := .long (Int32.toInt64 (Int64.toInt32 z4))) (va_runS (As := [.long z4]) (rest := [.long (Int32.toInt64 (Int64.toInt32 z2)), .long (Int32.toInt64 (Int64.toInt32 (z2 * z4))), .ref qY]) ⟨hx, hb, hml, hown, hts⟩ (c_Y_sx l z4) (va_cwS 1 hts (gd_S gm_478 gm_476 gm_477 gm_6) rfl rfl rfl (by decide +kernel) ⟨Nat.le_of_ble_eq_true rfl, Nat.le_of_ble_eq_true rfl⟩) qa_S0 rfl rfl hl.1 rfl (lv_room (Nat.le_of_ble_eq_true rfl)) dY_products_34 ⟨Nat.zero_le _, Nat.zero_le _⟩) ?_
      refine lv_lmul (pc := 37) hx hb dY_products_37 ?_
      refine qa_joini (J := 47) (ls2 := ls) (rest2 := [.ref qY]) (if (Int32.toInt64 (Int64.toInt32 (z2 * z4))) = ((Int32.toInt64 (Int64.toInt32 z2)) * (Int32.toInt64 (Int64.toInt32 z4))) then (0 : Int32) else (1 : Int32)) (fun hj47 => ?_) ?_
      · refine qa_lc_eq (pc := 38) (tgt := 46) hx hb dY_products_38 dY_products_39 (by decide) (fun h38_18 => ?_) (fun h38_18 => ?_)
        · refine lv_iconst (pc := 46) (v := (0 : Int32)) hx hb dY_products_46 (by decide) ?_
          exact hj47 _ (Eq.symm (if_pos h38_18))
        · refine lv_iconst (pc := 42) (v := (1 : Int32)) hx hb dY_products_42 (by decide) ?_
          refine lv_goto (pc := 43) (tgt := 47) hx hb dY_products_43 (by decide) ?_
          exact hj47 _ (Eq.symm (if_neg h38_18))
      refine va_put (D := (dC, dI)) (pc := 47) (ci := 5) (v := .int (if (Int32.toInt64 (Int64.toInt32 (z2 * z4))) = ((Int32.toInt64 (Int64.toInt32 z2)) * (Int32.toInt64 (Int64.toInt32 z4))) then (0 : Int32) else (1 : Int32))) (ty := .boolean) (C := "LongMachineModel") (T := TY) (N := 28) hx hb hts ui_Y tyY tyY_ok nmY hown hK hP hD hS 0 rfl rfl 25 (by decide) (hts _ gm_371) (fun _ h9 => h9) rfl (by decide +kernel) (qa_nb (qa_bi qa_b0 qa_b1)) (qa_fb (qa_bi qa_b0 qa_b1)) (Nat.le_of_ble_eq_true rfl) dY_products_47 (fun H locs hP hD hS => ?_)
      have hP : va_P (dC, dI) vwCl (wY cI cJ qY qYm qYr qYv qYl qYn qYp qYs qYw qY6 yPc yMod yLev yLoc yKsp yUsp yKgp yVal yTab ySpc yHal yEnt yPen yBuf yHer yWrd yHas (if (Int32.toInt64 (Int64.toInt32 (z2 * z4))) = ((Int32.toInt64 (Int64.toInt32 z2)) * (Int32.toInt64 (Int64.toInt32 z4))) then (0 : Int32) else (1 : Int32)) yNon yMem yR yV yPL yPN yBP yBS yBW ySix) H := hP
      have hD : va_D A (wY cI cJ qY qYm qYr qYv qYl qYn qYp qYs qYw qY6 yPc yMod yLev yLoc yKsp yUsp yKgp yVal yTab ySpc yHal yEnt yPen yBuf yHer yWrd yHas (if (Int32.toInt64 (Int64.toInt32 (z2 * z4))) = ((Int32.toInt64 (Int64.toInt32 z2)) * (Int32.toInt64 (Int64.toInt32 z4))) then (0 : Int32) else (1 : Int32)) yNon yMem yR yV yPL yPN yBP yBS yBW ySix) := hD
      refine lv_lload (pc := 50) hx hb dY_products_50 (lv_at hl 0 rfl) ?_
      refine qa_calld (pc := 52) (v := .long (Int32.toInt64 (Int64.toInt32 (z2 * z4)))) (va_runS (As := [.long (z2 * z4)]) (rest := []) ⟨hx, hb, hml, hown, hts⟩ (c_Y_sx l (z2 * z4)) (va_cwS 1 hts (gd_S gm_478 gm_476 gm_477 gm_6) rfl rfl rfl (by decide +kernel) ⟨Nat.le_of_ble_eq_true rfl, Nat.le_of_ble_eq_true rfl⟩) qa_S0 rfl rfl hl.1 rfl (lv_room (Nat.le_of_ble_eq_true rfl)) dY_products_52 ⟨Nat.zero_le _, Nat.zero_le _⟩) ?_
      subst hu
      exact W.lret hx hb hr (fun t ht hW => ⟨rfl, by rw [ht]; exact hP, hS.F ht⟩) hS.2.2 dY_products_55
def f_Y_meets (z0 : Int32) (z1 : Int64) : Int32 := (if z0 = (56 : Int32) then (if (z1 &&& (1 : Int64)) = (0 : Int64) then (1 : Int32) else (0 : Int32)) else (if z0 = (57 : Int32) then (if z1 = (0 : Int64) then (1 : Int32) else (0 : Int32)) else (if z0 = (58 : Int32) then (if (0 : Int64) ≤ z1 then (0 : Int32) else (1 : Int32)) else (if z0 = (59 : Int32) then (if (0 : Int64) < z1 then (0 : Int32) else (1 : Int32)) else (if z0 = (60 : Int32) then (if (z1 &&& (1 : Int64)) = (1 : Int64) then (1 : Int32) else (0 : Int32)) else (if z0 = (61 : Int32) then (if z1 = (0 : Int64) then (0 : Int32) else (1 : Int32)) else (if z0 = (62 : Int32) then (if z1 < (0 : Int64) then (0 : Int32) else (1 : Int32)) else (if z0 = (63 : Int32) then (if z1 ≤ (0 : Int64) then (0 : Int32) else (1 : Int32)) else (1 : Int32)))))))))
set_option maxRecDepth 100000 in
set_option maxHeartbeats 4000000 in
theorem c_Y_meets (l : Launch) (z0 : Int32) (z1 : Int64) : Met l yY_meets (.code yY_meets cY_meets 3 (some .boolean) :: vG) ({ frames := 0, cells := 0, slots := 0, locals := 0 }) (va_Pc [.int z0, .long z1] (fun _ => True)) (qa_det (.int (f_Y_meets z0 z1))) 0 0 (fun _ => False) := by
  refine Met.ofW (cc := cY_meets) (maxL := 3) (ret := (some .boolean)) (by decide) rfl ?_
  intro p e s m args below meth c s₁ B hml hv
  obtain ⟨rfl, hv⟩ := hv
  have hx := B.exec
  have hb := B.bytes
  have hr := B.returns
  have hts : ∀ w ∈ vG, w.before _ s = true := fun w h => atoms_spec (ws := (.code yY_meets cY_meets 3 (some .boolean) :: vG)) B.pre w (List.mem_cons_of_mem _ h)
  have hown : s.vm.findClass "LongMachineModel" = some m.cls := findClass_of_methodNamed B.named
  have hlocks := B.notSynchronized
  have hl := lv_entry ([.int z0, .long z1]) (n := 3) (Nat.le_of_ble_eq_true rfl)
  rw [lg_entry_eq]
  generalize (lg_sl ([.int z0, .long z1]) ++ List.replicate (3 - (lg_sl ([.int z0, .long z1])).length) Slot.unset).toArray = ls at hl ⊢
  have hl : lv_has ls 3 [(0, .int z0), (1, .long z1)] := hl
  obtain ⟨u, hu⟩ : ∃ u, u = f_Y_meets z0 z1 := ⟨_, rfl⟩
  rw [← hu]
  unfold f_Y_meets at hu
  refine lv_iload_n (pc := 0) hx hb dY_meets_0 rfl (lv_at hl 0 rfl) ?_
  rcases Decidable.em (z0 = (56 : Int32)) with h1_1 | h1_1
  · have hu := hu.trans (if_pos h1_1)
    refine qa_table (pc := 1) (tgt := 48) (off := 47) hx hb dY_meets_1 (Or.inr (by rw [h1_1]; decide)) (by decide) ?_
    refine lv_lload_n (pc := 48) hx hb dY_meets_48 rfl (lv_at hl 1 rfl) ?_
    refine lv_lconst (pc := 49) (v := (1 : Int64)) hx hb dY_meets_49 (by decide) ?_
    refine lv_land (pc := 50) hx hb dY_meets_50 ?_
    refine lv_lconst (pc := 51) (v := (0 : Int64)) hx hb dY_meets_51 (by decide) ?_
    refine qa_joini (J := 61) (ls2 := ls) (rest2 := []) (if (z1 &&& (1 : Int64)) = (0 : Int64) then (1 : Int32) else (0 : Int32)) (fun hj61 => ?_) ?_
    · refine qa_lc_ne (pc := 52) (tgt := 60) hx hb dY_meets_52 dY_meets_53 (by decide) (fun h52_2 => ?_) (fun h52_2 => ?_)
      · refine lv_iconst (pc := 60) (v := (0 : Int32)) hx hb dY_meets_60 (by decide) ?_
        exact hj61 _ (Eq.symm (if_neg h52_2))
      · refine lv_iconst (pc := 56) (v := (1 : Int32)) hx hb dY_meets_56 (by decide) ?_
        refine lv_goto (pc := 57) (tgt := 61) hx hb dY_meets_57 (by decide) ?_
        exact hj61 _ (Eq.symm (if_pos h52_2))
    subst hu
    exact W.zret hx hb hr (qa_nb (qa_bi qa_b1 qa_b0)) (fun t ht hW => ⟨rfl, ht⟩) (fun _ h => by cases h) dY_meets_61
  · have hu := hu.trans (if_neg h1_1)
    have n1_0 : ¬ z0 = (56 : Int32) := h1_1
    rcases Decidable.em (z0 = (57 : Int32)) with h1_3 | h1_3
    · have hu := hu.trans (if_pos h1_3)
      refine qa_table (pc := 1) (tgt := 62) (off := 61) hx hb dY_meets_1 (Or.inr (by rw [h1_3]; decide)) (by decide) ?_
      refine lv_lload_n (pc := 62) hx hb dY_meets_62 rfl (lv_at hl 1 rfl) ?_
      refine lv_lconst (pc := 63) (v := (0 : Int64)) hx hb dY_meets_63 (by decide) ?_
      refine qa_joini (J := 73) (ls2 := ls) (rest2 := []) (if z1 = (0 : Int64) then (1 : Int32) else (0 : Int32)) (fun hj73 => ?_) ?_
      · refine qa_lc_ne (pc := 64) (tgt := 72) hx hb dY_meets_64 dY_meets_65 (by decide) (fun h64_4 => ?_) (fun h64_4 => ?_)
        · refine lv_iconst (pc := 72) (v := (0 : Int32)) hx hb dY_meets_72 (by decide) ?_
          exact hj73 _ (Eq.symm (if_neg h64_4))
        · refine lv_iconst (pc := 68) (v := (1 : Int32)) hx hb dY_meets_68 (by decide) ?_
          refine lv_goto (pc := 69) (tgt := 73) hx hb dY_meets_69 (by decide) ?_
          exact hj73 _ (Eq.symm (if_pos h64_4))
      subst hu
      exact W.zret hx hb hr (qa_nb (qa_bi qa_b1 qa_b0)) (fun t ht hW => ⟨rfl, ht⟩) (fun _ h => by cases h) dY_meets_73
    · have hu := hu.trans (if_neg h1_3)
      have n1_1 : ¬ z0 = (57 : Int32) := h1_3
      rcases Decidable.em (z0 = (58 : Int32)) with h1_5 | h1_5
      · have hu := hu.trans (if_pos h1_5)
        refine qa_table (pc := 1) (tgt := 74) (off := 73) hx hb dY_meets_1 (Or.inr (by rw [h1_5]; decide)) (by decide) ?_
        refine lv_lload_n (pc := 74) hx hb dY_meets_74 rfl (lv_at hl 1 rfl) ?_
        refine lv_lconst (pc := 75) (v := (0 : Int64)) hx hb dY_meets_75 (by decide) ?_
        refine qa_joini (J := 85) (ls2 := ls) (rest2 := []) (if (0 : Int64) ≤ z1 then (0 : Int32) else (1 : Int32)) (fun hj85 => ?_) ?_
        · refine qa_lc_ge (pc := 76) (tgt := 84) hx hb dY_meets_76 dY_meets_77 (by decide) (fun h76_6 => ?_) (fun h76_6 => ?_)
          · refine lv_iconst (pc := 84) (v := (0 : Int32)) hx hb dY_meets_84 (by decide) ?_
            exact hj85 _ (Eq.symm (if_pos h76_6))
          · refine lv_iconst (pc := 80) (v := (1 : Int32)) hx hb dY_meets_80 (by decide) ?_
            refine lv_goto (pc := 81) (tgt := 85) hx hb dY_meets_81 (by decide) ?_
            exact hj85 _ (Eq.symm (if_neg h76_6))
        subst hu
        exact W.zret hx hb hr (qa_nb (qa_bi qa_b0 qa_b1)) (fun t ht hW => ⟨rfl, ht⟩) (fun _ h => by cases h) dY_meets_85
      · have hu := hu.trans (if_neg h1_5)
        have n1_2 : ¬ z0 = (58 : Int32) := h1_5
        rcases Decidable.em (z0 = (59 : Int32)) with h1_7 | h1_7
        · have hu := hu.trans (if_pos h1_7)
          refine qa_table (pc := 1) (tgt := 86) (off := 85) hx hb dY_meets_1 (Or.inr (by rw [h1_7]; decide)) (by decide) ?_
          refine lv_lload_n (pc := 86) hx hb dY_meets_86 rfl (lv_at hl 1 rfl) ?_
          refine lv_lconst (pc := 87) (v := (0 : Int64)) hx hb dY_meets_87 (by decide) ?_
          refine qa_joini (J := 97) (ls2 := ls) (rest2 := []) (if (0 : Int64) < z1 then (0 : Int32) else (1 : Int32)) (fun hj97 => ?_) ?_
          · refine qa_lc_gt (pc := 88) (tgt := 96) hx hb dY_meets_88 dY_meets_89 (by decide) (fun h88_8 => ?_) (fun h88_8 => ?_)
            · refine lv_iconst (pc := 96) (v := (0 : Int32)) hx hb dY_meets_96 (by decide) ?_
              exact hj97 _ (Eq.symm (if_pos h88_8))
            · refine lv_iconst (pc := 92) (v := (1 : Int32)) hx hb dY_meets_92 (by decide) ?_
              refine lv_goto (pc := 93) (tgt := 97) hx hb dY_meets_93 (by decide) ?_
              exact hj97 _ (Eq.symm (if_neg h88_8))
          subst hu
          exact W.zret hx hb hr (qa_nb (qa_bi qa_b0 qa_b1)) (fun t ht hW => ⟨rfl, ht⟩) (fun _ h => by cases h) dY_meets_97
        · have hu := hu.trans (if_neg h1_7)
          have n1_3 : ¬ z0 = (59 : Int32) := h1_7
          rcases Decidable.em (z0 = (60 : Int32)) with h1_9 | h1_9
          · have hu := hu.trans (if_pos h1_9)
            refine qa_table (pc := 1) (tgt := 98) (off := 97) hx hb dY_meets_1 (Or.inr (by rw [h1_9]; decide)) (by decide) ?_
            refine lv_lload_n (pc := 98) hx hb dY_meets_98 rfl (lv_at hl 1 rfl) ?_
            refine lv_lconst (pc := 99) (v := (1 : Int64)) hx hb dY_meets_99 (by decide) ?_
            refine lv_land (pc := 100) hx hb dY_meets_100 ?_
            refine lv_lconst (pc := 101) (v := (1 : Int64)) hx hb dY_meets_101 (by decide) ?_
            refine qa_joini (J := 111) (ls2 := ls) (rest2 := []) (if (z1 &&& (1 : Int64)) = (1 : Int64) then (1 : Int32) else (0 : Int32)) (fun hj111 => ?_) ?_
            · refine qa_lc_ne (pc := 102) (tgt := 110) hx hb dY_meets_102 dY_meets_103 (by decide) (fun h102_10 => ?_) (fun h102_10 => ?_)
              · refine lv_iconst (pc := 110) (v := (0 : Int32)) hx hb dY_meets_110 (by decide) ?_
                exact hj111 _ (Eq.symm (if_neg h102_10))
              · refine lv_iconst (pc := 106) (v := (1 : Int32)) hx hb dY_meets_106 (by decide) ?_
                refine lv_goto (pc := 107) (tgt := 111) hx hb dY_meets_107 (by decide) ?_
                exact hj111 _ (Eq.symm (if_pos h102_10))
            subst hu
            exact W.zret hx hb hr (qa_nb (qa_bi qa_b1 qa_b0)) (fun t ht hW => ⟨rfl, ht⟩) (fun _ h => by cases h) dY_meets_111
          · have hu := hu.trans (if_neg h1_9)
            have n1_4 : ¬ z0 = (60 : Int32) := h1_9
            rcases Decidable.em (z0 = (61 : Int32)) with h1_11 | h1_11
            · have hu := hu.trans (if_pos h1_11)
              refine qa_table (pc := 1) (tgt := 112) (off := 111) hx hb dY_meets_1 (Or.inr (by rw [h1_11]; decide)) (by decide) ?_
              refine lv_lload_n (pc := 112) hx hb dY_meets_112 rfl (lv_at hl 1 rfl) ?_
              refine lv_lconst (pc := 113) (v := (0 : Int64)) hx hb dY_meets_113 (by decide) ?_
              refine qa_joini (J := 123) (ls2 := ls) (rest2 := []) (if z1 = (0 : Int64) then (0 : Int32) else (1 : Int32)) (fun hj123 => ?_) ?_
              · refine qa_lc_eq (pc := 114) (tgt := 122) hx hb dY_meets_114 dY_meets_115 (by decide) (fun h114_12 => ?_) (fun h114_12 => ?_)
                · refine lv_iconst (pc := 122) (v := (0 : Int32)) hx hb dY_meets_122 (by decide) ?_
                  exact hj123 _ (Eq.symm (if_pos h114_12))
                · refine lv_iconst (pc := 118) (v := (1 : Int32)) hx hb dY_meets_118 (by decide) ?_
                  refine lv_goto (pc := 119) (tgt := 123) hx hb dY_meets_119 (by decide) ?_
                  exact hj123 _ (Eq.symm (if_neg h114_12))
              subst hu
              exact W.zret hx hb hr (qa_nb (qa_bi qa_b0 qa_b1)) (fun t ht hW => ⟨rfl, ht⟩) (fun _ h => by cases h) dY_meets_123
            · have hu := hu.trans (if_neg h1_11)
              have n1_5 : ¬ z0 = (61 : Int32) := h1_11
              rcases Decidable.em (z0 = (62 : Int32)) with h1_13 | h1_13
              · have hu := hu.trans (if_pos h1_13)
                refine qa_table (pc := 1) (tgt := 124) (off := 123) hx hb dY_meets_1 (Or.inr (by rw [h1_13]; decide)) (by decide) ?_
                refine lv_lload_n (pc := 124) hx hb dY_meets_124 rfl (lv_at hl 1 rfl) ?_
                refine lv_lconst (pc := 125) (v := (0 : Int64)) hx hb dY_meets_125 (by decide) ?_
                refine qa_joini (J := 135) (ls2 := ls) (rest2 := []) (if z1 < (0 : Int64) then (0 : Int32) else (1 : Int32)) (fun hj135 => ?_) ?_
                · refine qa_lc_lt (pc := 126) (tgt := 134) hx hb dY_meets_126 dY_meets_127 (by decide) (fun h126_14 => ?_) (fun h126_14 => ?_)
                  · refine lv_iconst (pc := 134) (v := (0 : Int32)) hx hb dY_meets_134 (by decide) ?_
                    exact hj135 _ (Eq.symm (if_pos h126_14))
                  · refine lv_iconst (pc := 130) (v := (1 : Int32)) hx hb dY_meets_130 (by decide) ?_
                    refine lv_goto (pc := 131) (tgt := 135) hx hb dY_meets_131 (by decide) ?_
                    exact hj135 _ (Eq.symm (if_neg h126_14))
                subst hu
                exact W.zret hx hb hr (qa_nb (qa_bi qa_b0 qa_b1)) (fun t ht hW => ⟨rfl, ht⟩) (fun _ h => by cases h) dY_meets_135
              · have hu := hu.trans (if_neg h1_13)
                have n1_6 : ¬ z0 = (62 : Int32) := h1_13
                rcases Decidable.em (z0 = (63 : Int32)) with h1_15 | h1_15
                · have hu := hu.trans (if_pos h1_15)
                  refine qa_table (pc := 1) (tgt := 136) (off := 135) hx hb dY_meets_1 (Or.inr (by rw [h1_15]; decide)) (by decide) ?_
                  refine lv_lload_n (pc := 136) hx hb dY_meets_136 rfl (lv_at hl 1 rfl) ?_
                  refine lv_lconst (pc := 137) (v := (0 : Int64)) hx hb dY_meets_137 (by decide) ?_
                  refine qa_joini (J := 147) (ls2 := ls) (rest2 := []) (if z1 ≤ (0 : Int64) then (0 : Int32) else (1 : Int32)) (fun hj147 => ?_) ?_
                  · refine qa_lc_le (pc := 138) (tgt := 146) hx hb dY_meets_138 dY_meets_139 (by decide) (fun h138_16 => ?_) (fun h138_16 => ?_)
                    · refine lv_iconst (pc := 146) (v := (0 : Int32)) hx hb dY_meets_146 (by decide) ?_
                      exact hj147 _ (Eq.symm (if_pos h138_16))
                    · refine lv_iconst (pc := 142) (v := (1 : Int32)) hx hb dY_meets_142 (by decide) ?_
                      refine lv_goto (pc := 143) (tgt := 147) hx hb dY_meets_143 (by decide) ?_
                      exact hj147 _ (Eq.symm (if_neg h138_16))
                  subst hu
                  exact W.zret hx hb hr (qa_nb (qa_bi qa_b0 qa_b1)) (fun t ht hW => ⟨rfl, ht⟩) (fun _ h => by cases h) dY_meets_147
                · have hu := hu.trans (if_neg h1_15)
                  have n1_7 : ¬ z0 = (63 : Int32) := h1_15
                  refine qa_table (pc := 1) (tgt := 148) (off := 147) hx hb dY_meets_1 (Or.inl ⟨by have := lv_neT n1_0 (by decide : ((56 : Int32)).toInt = 56); have := lv_neT n1_1 (by decide : ((57 : Int32)).toInt = 57); have := lv_neT n1_2 (by decide : ((58 : Int32)).toInt = 58); have := lv_neT n1_3 (by decide : ((59 : Int32)).toInt = 59); have := lv_neT n1_4 (by decide : ((60 : Int32)).toInt = 60); have := lv_neT n1_5 (by decide : ((61 : Int32)).toInt = 61); have := lv_neT n1_6 (by decide : ((62 : Int32)).toInt = 62); have := lv_neT n1_7 (by decide : ((63 : Int32)).toInt = 63); omega, rfl⟩) (by decide) ?_
                  refine lv_iconst (pc := 148) (v := (1 : Int32)) hx hb dY_meets_148 (by decide) ?_
                  subst hu
                  exact W.zret hx hb hr rfl (fun t ht hW => ⟨rfl, ht⟩) (fun _ h => by cases h) dY_meets_149
