set_option maxRecDepth 100000 in
set_option maxHeartbeats 4000000 in
theorem c_X3_sx (l : Launch) (z0 : Int64) : Met l yX3_sx (.code yX3_sx cX3_sx 2 (some .long) :: vG) ({ frames := 0, cells := 0, slots := 0, locals := 0 }) (va_Pc [.long z0] (fun _ => True)) (qa_det (.long (Int32.toInt64 (Int64.toInt32 z0)))) 0 0 (fun _ => False) := by
  refine Met.ofW (cc := cX3_sx) (maxL := 2) (ret := (some .long)) (by decide) rfl ?_
  intro p e s m args below meth c s₁ B hml hv
  obtain ⟨rfl, hv⟩ := hv
  have hx := B.exec
  have hb := B.bytes
  have hr := B.returns
  have hts : ∀ w ∈ vG, w.before _ s = true := fun w h => atoms_spec (ws := (.code yX3_sx cX3_sx 2 (some .long) :: vG)) B.pre w (List.mem_cons_of_mem _ h)
  have hown : s.vm.findClass "LongMachine$Operation" = some m.cls := findClass_of_methodNamed B.named
  have hlocks := B.notSynchronized
  have hl := lv_entry ([.long z0]) (n := 2) (Nat.le_of_ble_eq_true rfl)
  rw [lg_entry_eq]
  generalize (lg_sl ([.long z0]) ++ List.replicate (2 - (lg_sl ([.long z0])).length) Slot.unset).toArray = ls at hl ⊢
  have hl : lv_has ls 2 [(0, .long z0)] := hl
  refine lv_lload_n (pc := 0) hx hb dX3_sx_0 rfl (lv_at hl 0 rfl) ?_
  refine lv_l2i (pc := 1) (v := (Int64.toInt32 z0)) hx hb dX3_sx_1 rfl ?_
  refine lv_i2l (pc := 2) (v := (Int32.toInt64 (Int64.toInt32 z0))) hx hb dX3_sx_2 rfl ?_
  exact W.lret hx hb hr (fun t ht hW => ⟨rfl, ht⟩) (fun _ h => by cases h) dX3_sx_3
set_option maxRecDepth 100000 in
set_option maxHeartbeats 4000000 in
theorem c_X3_trapIf (l : Launch) (dC : Nat → ClassId) (dI : Nat → Nat → Nat) (cI cJ : ClassId) (qO : Nat) (sz : Nat) (oRes : Int64) (oKno : Int32) (oGiv : Int32) (oTrp : Int32) (z1 : Int32) (z2 : Int64) (hz1 : z1 = 0 ∨ z1 = 1) : Met l yX3_trapIf (.code yX3_trapIf cX3_trapIf 4 (some .long) :: vG) ({ frames := 0, cells := 0, slots := 0, locals := 0 }) (va_Pc [.ref qO, .int z1, .long z2] (qa_pre (dC, dI) vwCl (wO cI cJ qO oRes oKno oGiv oTrp) [(cI, .int), (cJ, .long)] sz)) (qa_mod (some (.long z2)) (dC, dI) vwCl (wO cI cJ qO oRes oKno oGiv z1) (va_A (wO cI cJ qO oRes oKno oGiv oTrp) sz)) 0 0 (va_A (wO cI cJ qO oRes oKno oGiv oTrp) sz) := by
  refine Met.ofW (cc := cX3_trapIf) (maxL := 4) (ret := (some .long)) (by decide) rfl ?_
  intro p e s m args below meth c s₁ B hml hv
  obtain ⟨rfl, hsz, hP, hK, hD0⟩ := hv
  have hx := B.exec
  have hb := B.bytes
  have hr := B.returns
  have hts : ∀ w ∈ vG, w.before _ s = true := fun w h => atoms_spec (ws := (.code yX3_trapIf cX3_trapIf 4 (some .long) :: vG)) B.pre w (List.mem_cons_of_mem _ h)
  have hown : s.vm.findClass "LongMachine$Operation" = some m.cls := findClass_of_methodNamed B.named
  have hlocks := B.notSynchronized
  subst hsz
  have hD := hD0.self (sz := s.heap.size)
  generalize hAe : va_A (wO cI cJ qO oRes oKno oGiv oTrp) s.heap.size = A at hD ⊢
  have hA : ∀ q : Nat, s.heap.size ≤ q → A q := fun q h => by rw [← hAe]; exact Or.inr h
  have hS : va_S A s.heap s.heap [] := va_S.rf
  have hl := lv_entry ([.ref qO, .int z1, .long z2]) (n := 4) (Nat.le_of_ble_eq_true rfl)
  rw [lg_entry_eq]
  generalize (lg_sl ([.ref qO, .int z1, .long z2]) ++ List.replicate (4 - (lg_sl ([.ref qO, .int z1, .long z2])).length) Slot.unset).toArray = ls at hl ⊢
  have hl : lv_has ls 4 [(0, .ref qO), (1, .int z1), (2, .long z2)] := hl
  refine lv_aload_n (pc := 0) hx hb dX3_trapIf_0 rfl (lv_at hl 0 rfl) ?_
  refine lv_iload_n (pc := 1) hx hb dX3_trapIf_1 rfl (lv_at hl 1 rfl) ?_
  refine va_put (D := (dC, dI)) (pc := 2) (ci := 3) (v := .int z1) (ty := .boolean) (C := "LongMachine$Operation") (T := TX3) (N := 4) hx hb hts ui_X3 tyX3 tyX3_ok nmX3 hown hK hP hD hS 0 rfl rfl 3 (by decide) (hts _ gm_65) (fun _ h9 => h9) rfl (by decide +kernel) (qa_nb hz1) (qa_fb hz1) (Nat.le_of_ble_eq_true rfl) dX3_trapIf_2 (fun H locs hP hD hS => ?_)
  have hP : va_P (dC, dI) vwCl (wO cI cJ qO oRes oKno oGiv z1) H := hP
  have hD : va_D A (wO cI cJ qO oRes oKno oGiv z1) := hD
  refine lv_lload_n (pc := 5) hx hb dX3_trapIf_5 rfl (lv_at hl 2 rfl) ?_
  exact W.lret hx hb hr (fun t ht hW => ⟨rfl, by rw [ht]; exact hP, hS.F ht⟩) hS.2.2 dX3_trapIf_6
set_option maxRecDepth 100000 in
set_option maxHeartbeats 4000000 in
theorem c_X3_truth (l : Launch) (z0 : Int32) : Met l yX3_truth (.code yX3_truth cX3_truth 1 (some .long) :: vG) ({ frames := 0, cells := 0, slots := 0, locals := 0 }) (va_Pc [.int z0] (fun _ => True)) (qa_det (.long (if z0 = (0 : Int32) then (0 : Int64) else (1 : Int64)))) 0 0 (fun _ => False) := by
  refine Met.ofW (cc := cX3_truth) (maxL := 1) (ret := (some .long)) (by decide) rfl ?_
  intro p e s m args below meth c s₁ B hml hv
  obtain ⟨rfl, hv⟩ := hv
  have hx := B.exec
  have hb := B.bytes
  have hr := B.returns
  have hts : ∀ w ∈ vG, w.before _ s = true := fun w h => atoms_spec (ws := (.code yX3_truth cX3_truth 1 (some .long) :: vG)) B.pre w (List.mem_cons_of_mem _ h)
  have hown : s.vm.findClass "LongMachine$Operation" = some m.cls := findClass_of_methodNamed B.named
  have hlocks := B.notSynchronized
  have hl := lv_entry ([.int z0]) (n := 1) (Nat.le_of_ble_eq_true rfl)
  rw [lg_entry_eq]
  generalize (lg_sl ([.int z0]) ++ List.replicate (1 - (lg_sl ([.int z0])).length) Slot.unset).toArray = ls at hl ⊢
  have hl : lv_has ls 1 [(0, .int z0)] := hl
  refine lv_iload_n (pc := 0) hx hb dX3_truth_0 rfl (lv_at hl 0 rfl) ?_
  refine qa_joinl (J := 9) (ls2 := ls) (rest2 := []) (if z0 = (0 : Int32) then (0 : Int64) else (1 : Int64)) (fun hj9 => ?_) ?_
  · refine lv_if_eq (pc := 1) (tgt := 8) hx hb dX3_truth_1 (by decide) (fun h1_1 => ?_) (fun h1_1 => ?_)
    · refine lv_lconst (pc := 8) (v := (0 : Int64)) hx hb dX3_truth_8 (by decide) ?_
      exact hj9 _ (Eq.symm (if_pos h1_1))
    · refine lv_lconst (pc := 4) (v := (1 : Int64)) hx hb dX3_truth_4 (by decide) ?_
      refine lv_goto (pc := 5) (tgt := 9) hx hb dX3_truth_5 (by decide) ?_
      exact hj9 _ (Eq.symm (if_neg h1_1))
  exact W.lret hx hb hr (fun t ht hW => ⟨rfl, ht⟩) (fun _ h => by cases h) dX3_truth_9
set_option maxRecDepth 100000 in
set_option maxHeartbeats 4000000 in
theorem c_X3_isBelow (l : Launch) (z0 : Int64) (z2 : Int64) : Met l yX3_isBelow (.code yX3_isBelow cX3_isBelow 4 (some .boolean) :: vG) ({ frames := 0, cells := 0, slots := 0, locals := 0 }) (va_Pc [.long z0, .long z2] (fun _ => True)) (qa_det (.int (if (z2 ^^^ (-9223372036854775808 : Int64)) ≤ (z0 ^^^ (-9223372036854775808 : Int64)) then (0 : Int32) else (1 : Int32)))) 0 0 (fun _ => False) := by
  refine Met.ofW (cc := cX3_isBelow) (maxL := 4) (ret := (some .boolean)) (by decide) rfl ?_
  intro p e s m args below meth c s₁ B hml hv
  obtain ⟨rfl, hv⟩ := hv
  have hx := B.exec
  have hb := B.bytes
  have hr := B.returns
  have hts : ∀ w ∈ vG, w.before _ s = true := fun w h => atoms_spec (ws := (.code yX3_isBelow cX3_isBelow 4 (some .boolean) :: vG)) B.pre w (List.mem_cons_of_mem _ h)
  have hown : s.vm.findClass "LongMachine$Operation" = some m.cls := findClass_of_methodNamed B.named
  have hlocks := B.notSynchronized
  have hl := lv_entry ([.long z0, .long z2]) (n := 4) (Nat.le_of_ble_eq_true rfl)
  rw [lg_entry_eq]
  generalize (lg_sl ([.long z0, .long z2]) ++ List.replicate (4 - (lg_sl ([.long z0, .long z2])).length) Slot.unset).toArray = ls at hl ⊢
  have hl : lv_has ls 4 [(0, .long z0), (2, .long z2)] := hl
  refine lv_lload_n (pc := 0) hx hb dX3_isBelow_0 rfl (lv_at hl 0 rfl) ?_
  refine lv_ldc2 (pc := 1) (v := (-9223372036854775808 : Int64)) hx hb hown (hts _ gm_274) dX3_isBelow_1 ?_
  refine lv_lxor (pc := 4) hx hb dX3_isBelow_4 ?_
  refine lv_lload_n (pc := 5) hx hb dX3_isBelow_5 rfl (lv_at hl 1 rfl) ?_
  refine lv_ldc2 (pc := 6) (v := (-9223372036854775808 : Int64)) hx hb hown (hts _ gm_274) dX3_isBelow_6 ?_
  refine lv_lxor (pc := 9) hx hb dX3_isBelow_9 ?_
  refine qa_joini (J := 19) (ls2 := ls) (rest2 := []) (if (z2 ^^^ (-9223372036854775808 : Int64)) ≤ (z0 ^^^ (-9223372036854775808 : Int64)) then (0 : Int32) else (1 : Int32)) (fun hj19 => ?_) ?_
  · refine qa_lc_ge (pc := 10) (tgt := 18) hx hb dX3_isBelow_10 dX3_isBelow_11 (by decide) (fun h10_1 => ?_) (fun h10_1 => ?_)
    · refine lv_iconst (pc := 18) (v := (0 : Int32)) hx hb dX3_isBelow_18 (by decide) ?_
      exact hj19 _ (Eq.symm (if_pos h10_1))
    · refine lv_iconst (pc := 14) (v := (1 : Int32)) hx hb dX3_isBelow_14 (by decide) ?_
      refine lv_goto (pc := 15) (tgt := 19) hx hb dX3_isBelow_15 (by decide) ?_
      exact hj19 _ (Eq.symm (if_neg h10_1))
  exact W.zret hx hb hr (qa_nb (qa_bi qa_b0 qa_b1)) (fun t ht hW => ⟨rfl, ht⟩) (fun _ h => by cases h) dX3_isBelow_19
def f_X3_bytesNotLess_B6 (z0 : Int64) (z2 : Int64) : Nat → Int64 → Int32 → Int64
  | 0, k4_6, k6_6 => (0 : Int64)
  | n + 1, k4_6, k6_6 => (if (8 : Int32) ≤ k6_6 then k4_6 else (if ((jlushr z0 ((8 : Int32) * k6_6)) &&& (255 : Int64)) < ((jlushr z2 ((8 : Int32) * k6_6)) &&& (255 : Int64)) then (f_X3_bytesNotLess_B6 z0 z2 n k4_6 (k6_6 + (1 : Int32))) else (f_X3_bytesNotLess_B6 z0 z2 n (k4_6 ||| (jlshl (1 : Int64) k6_6)) (k6_6 + (1 : Int32)))))
theorem f_X3_bytesNotLess_B6_s (z0 : Int64) (z2 : Int64) (n : Nat) (k4_6 : Int64) (k6_6 : Int32) : f_X3_bytesNotLess_B6 z0 z2 (n + 1) k4_6 k6_6 = (if (8 : Int32) ≤ k6_6 then k4_6 else (if ((jlushr z0 ((8 : Int32) * k6_6)) &&& (255 : Int64)) < ((jlushr z2 ((8 : Int32) * k6_6)) &&& (255 : Int64)) then (f_X3_bytesNotLess_B6 z0 z2 n k4_6 (k6_6 + (1 : Int32))) else (f_X3_bytesNotLess_B6 z0 z2 n (k4_6 ||| (jlshl (1 : Int64) k6_6)) (k6_6 + (1 : Int32))))) := rfl
def f_X3_bytesNotLess (z0 : Int64) (z2 : Int64) : Int64 := (f_X3_bytesNotLess_B6 z0 z2 9 (0 : Int64) (0 : Int32))
set_option maxRecDepth 100000 in
set_option maxHeartbeats 4000000 in
theorem c_X3_bytesNotLess (l : Launch) (z0 : Int64) (z2 : Int64) : Met l yX3_bytesNotLess (.code yX3_bytesNotLess cX3_bytesNotLess 7 (some .long) :: vG) ({ frames := 0, cells := 0, slots := 0, locals := 0 }) (va_Pc [.long z0, .long z2] (fun _ => True)) (qa_det (.long (f_X3_bytesNotLess z0 z2))) 0 0 (fun _ => False) := by
  refine Met.ofW (cc := cX3_bytesNotLess) (maxL := 7) (ret := (some .long)) (by decide) rfl ?_
  intro p e s m args below meth c s₁ B hml hv
  obtain ⟨rfl, hv⟩ := hv
  have hx := B.exec
  have hb := B.bytes
  have hr := B.returns
  have hts : ∀ w ∈ vG, w.before _ s = true := fun w h => atoms_spec (ws := (.code yX3_bytesNotLess cX3_bytesNotLess 7 (some .long) :: vG)) B.pre w (List.mem_cons_of_mem _ h)
  have hown : s.vm.findClass "LongMachine$Operation" = some m.cls := findClass_of_methodNamed B.named
  have hlocks := B.notSynchronized
  have hl := lv_entry ([.long z0, .long z2]) (n := 7) (Nat.le_of_ble_eq_true rfl)
  rw [lg_entry_eq]
  generalize (lg_sl ([.long z0, .long z2]) ++ List.replicate (7 - (lg_sl ([.long z0, .long z2])).length) Slot.unset).toArray = ls at hl ⊢
  have hl : lv_has ls 7 [(0, .long z0), (2, .long z2)] := hl
  obtain ⟨u, hu⟩ : ∃ u, u = f_X3_bytesNotLess z0 z2 := ⟨_, rfl⟩
  rw [← hu]
  unfold f_X3_bytesNotLess at hu
  refine lv_lconst (pc := 0) (v := (0 : Int64)) hx hb dX3_bytesNotLess_0 (by decide) ?_
  refine lv_lstore (pc := 1) (lv' := [(4, .long (0 : Int64)), (0, .long z0), (2, .long z2)]) hx hb dX3_bytesNotLess_1 hl (by decide) rfl (fun ls hl => ?_)
  refine lv_iconst (pc := 3) (v := (0 : Int32)) hx hb dX3_bytesNotLess_3 (by decide) ?_
  refine lv_istore (pc := 4) (lv' := [(6, .int (0 : Int32)), (4, .long (0 : Int64)), (0, .long z0), (2, .long z2)]) hx hb dX3_bytesNotLess_4 hl (by decide) rfl (fun ls hl => ?_)
  have hB6 : ∀ (n : Nat) (k4_6 : Int64) (k6_6 : Int32) (ls : Array Slot) (hq6_fu : ((8 : Int32).toInt - (k6_6).toInt).toNat < n) (hl : lv_has ls 7 [(0, .long z0), (2, .long z2), (4, .long k4_6), (6, .int k6_6)]) (u : Int64) (hu : u = f_X3_bytesNotLess_B6 z0 z2 n k4_6 k6_6), W p l e { frames := 0, cells := 0, slots := 0, locals := 0 } s m ([.long z0, .long z2]).toArray below meth c s.heap [] 0 0 (MQ below (qa_det (.long u)) ([.long z0, .long z2]).toArray s 0 0 (fun _ => False)) (F0 m 6 ls []) := by
    intro n
    induction n with
    | zero => intro k4_6 k6_6 ls hq6_fu hl u hu; exact absurd hq6_fu (Nat.not_lt_zero _)
    | succ n ih =>
        intro k4_6 k6_6 ls hq6_fu hl u hu
        rw [f_X3_bytesNotLess_B6_s] at hu
        refine lv_iload (pc := 6) hx hb dX3_bytesNotLess_6 (lv_at hl 3 rfl) ?_
        refine lv_bipush (pc := 8) (v := (8 : Int32)) hx hb dX3_bytesNotLess_8 (by decide) ?_
        refine lv_icmp_ge (pc := 10) (tgt := 54) hx hb dX3_bytesNotLess_10 (by decide) (fun h10_1 => ?_) (fun h10_1 => ?_)
        · have hu := hu.trans (if_pos h10_1)
          refine lv_lload (pc := 54) hx hb dX3_bytesNotLess_54 (lv_at hl 2 rfl) ?_
          subst hu
          exact W.lret hx hb hr (fun t ht hW => ⟨rfl, ht⟩) (fun _ h => by cases h) dX3_bytesNotLess_56
        · have hu := hu.trans (if_neg h10_1)
          refine lv_lload_n (pc := 13) hx hb dX3_bytesNotLess_13 rfl (lv_at hl 0 rfl) ?_
          refine lv_bipush (pc := 14) (v := (8 : Int32)) hx hb dX3_bytesNotLess_14 (by decide) ?_
          refine lv_iload (pc := 16) hx hb dX3_bytesNotLess_16 (lv_at hl 3 rfl) ?_
          refine lv_imul (pc := 18) hx hb dX3_bytesNotLess_18 ?_
          refine lv_lushr (pc := 19) (v := (jlushr z0 ((8 : Int32) * k6_6))) hx hb dX3_bytesNotLess_19 rfl ?_
          refine lv_ldc2 (pc := 20) (v := (255 : Int64)) hx hb hown (hts _ gm_278) dX3_bytesNotLess_20 ?_
          refine lv_land (pc := 23) hx hb dX3_bytesNotLess_23 ?_
          refine lv_lload_n (pc := 24) hx hb dX3_bytesNotLess_24 rfl (lv_at hl 1 rfl) ?_
          refine lv_bipush (pc := 25) (v := (8 : Int32)) hx hb dX3_bytesNotLess_25 (by decide) ?_
          refine lv_iload (pc := 27) hx hb dX3_bytesNotLess_27 (lv_at hl 3 rfl) ?_
          refine lv_imul (pc := 29) hx hb dX3_bytesNotLess_29 ?_
          refine lv_lushr (pc := 30) (v := (jlushr z2 ((8 : Int32) * k6_6))) hx hb dX3_bytesNotLess_30 rfl ?_
          refine lv_ldc2 (pc := 31) (v := (255 : Int64)) hx hb hown (hts _ gm_278) dX3_bytesNotLess_31 ?_
          refine lv_land (pc := 34) hx hb dX3_bytesNotLess_34 ?_
          refine qa_lc_lt (pc := 35) (tgt := 48) hx hb dX3_bytesNotLess_35 dX3_bytesNotLess_36 (by decide) (fun h35_2 => ?_) (fun h35_2 => ?_)
          · have hu := hu.trans (if_pos h35_2)
            refine lv_iinc (pc := 48) (k := 3) (lv' := [(6, .int (k6_6 + (1 : Int32))), (0, .long z0), (2, .long z2), (4, .long k4_6)]) hx hb dX3_bytesNotLess_48 hl rfl (qa_inc (by decide) k6_6) (by decide) rfl (fun ls hl => ?_)
            refine lv_goto (pc := 51) (tgt := 6) hx hb dX3_bytesNotLess_51 (by decide) ?_
            exact ih k4_6 (k6_6 + (1 : Int32)) _ (rg_fs h10_1 hq6_fu) (lv_sub hl [1, 2, 3, 0] rfl) u hu
          · have hu := hu.trans (if_neg h35_2)
            refine lv_lload (pc := 39) hx hb dX3_bytesNotLess_39 (lv_at hl 2 rfl) ?_
            refine lv_lconst (pc := 41) (v := (1 : Int64)) hx hb dX3_bytesNotLess_41 (by decide) ?_
            refine lv_iload (pc := 42) hx hb dX3_bytesNotLess_42 (lv_at hl 3 rfl) ?_
            refine lv_lshl (pc := 44) (v := (jlshl (1 : Int64) k6_6)) hx hb dX3_bytesNotLess_44 rfl ?_
            refine lv_lor (pc := 45) hx hb dX3_bytesNotLess_45 ?_
            refine lv_lstore (pc := 46) (lv' := [(4, .long (k4_6 ||| (jlshl (1 : Int64) k6_6))), (0, .long z0), (2, .long z2), (6, .int k6_6)]) hx hb dX3_bytesNotLess_46 hl (by decide) rfl (fun ls hl => ?_)
            refine lv_iinc (pc := 48) (k := 3) (lv' := [(6, .int (k6_6 + (1 : Int32))), (4, .long (k4_6 ||| (jlshl (1 : Int64) k6_6))), (0, .long z0), (2, .long z2)]) hx hb dX3_bytesNotLess_48 hl rfl (qa_inc (by decide) k6_6) (by decide) rfl (fun ls hl => ?_)
            refine lv_goto (pc := 51) (tgt := 6) hx hb dX3_bytesNotLess_51 (by decide) ?_
            exact ih (k4_6 ||| (jlshl (1 : Int64) k6_6)) (k6_6 + (1 : Int32)) _ (rg_fs h10_1 hq6_fu) (lv_sub hl [2, 3, 1, 0] rfl) u hu
  exact hB6 9 (0 : Int64) (0 : Int32) _ (by decide) (lv_sub hl [2, 3, 1, 0] rfl) u hu
def f_X3_add (z1 : Int32) (z2 : Int64) (z4 : Int64) (oKno : Int32) (oTrp : Int32) : Int64 × Int32 × Int32 := (if z1 = (0 : Int32) then ((Int32.toInt64 (Int64.toInt32 (z2 + z4))), oKno, oTrp) else (if z1 = (2 : Int32) then ((Int32.toInt64 (Int64.toInt32 (((4 : Int64) * z2) + z4))), oKno, oTrp) else (if z1 = (9 : Int32) then ((Int32.toInt64 (Int64.toInt32 (z2 - z4))), oKno, oTrp) else (if z1 = (11 : Int32) then ((Int32.toInt64 (Int64.toInt32 (((4 : Int64) * z2) - z4))), oKno, oTrp) else (if z1 = (15 : Int32) then ((f_X3_bytesNotLess z2 z4), oKno, oTrp) else (if z1 = (18 : Int32) then ((Int32.toInt64 (Int64.toInt32 (((8 : Int64) * z2) + z4))), oKno, oTrp) else (if z1 = (29 : Int32) then ((if (if (z4 ^^^ (-9223372036854775808 : Int64)) ≤ (z2 ^^^ (-9223372036854775808 : Int64)) then (0 : Int32) else (1 : Int32)) = (0 : Int32) then (0 : Int64) else (1 : Int64)), oKno, oTrp) else (if z1 = (32 : Int32) then ((z2 + z4), oKno, oTrp) else (if z1 = (34 : Int32) then ((((4 : Int64) * z2) + z4), oKno, oTrp) else (if z1 = (41 : Int32) then ((z2 - z4), oKno, oTrp) else (if z1 = (43 : Int32) then ((((4 : Int64) * z2) - z4), oKno, oTrp) else (if z1 = (45 : Int32) then ((if (if z2 = z4 then (1 : Int32) else (0 : Int32)) = (0 : Int32) then (0 : Int64) else (1 : Int64)), oKno, oTrp) else (if z1 = (50 : Int32) then ((((8 : Int64) * z2) + z4), oKno, oTrp) else (if z1 = (61 : Int32) then ((if (if (if (z2 ^^^ (-9223372036854775808 : Int64)) ≤ (z4 ^^^ (-9223372036854775808 : Int64)) then (0 : Int32) else (1 : Int32)) = (0 : Int32) then (1 : Int32) else (0 : Int32)) = (0 : Int32) then (0 : Int64) else (1 : Int64)), oKno, oTrp) else (if z1 = (64 : Int32) then ((Int32.toInt64 (Int64.toInt32 (z2 + z4))), oKno, (if (Int32.toInt64 (Int64.toInt32 (z2 + z4))) = ((Int32.toInt64 (Int64.toInt32 z2)) + (Int32.toInt64 (Int64.toInt32 z4))) then (0 : Int32) else (1 : Int32))) else (if z1 = (73 : Int32) then ((Int32.toInt64 (Int64.toInt32 (z2 - z4))), oKno, (if (Int32.toInt64 (Int64.toInt32 (z2 - z4))) = ((Int32.toInt64 (Int64.toInt32 z2)) - (Int32.toInt64 (Int64.toInt32 z4))) then (0 : Int32) else (1 : Int32))) else (if z1 = (77 : Int32) then ((if (if z4 ≤ z2 then (0 : Int32) else (1 : Int32)) = (0 : Int32) then (0 : Int64) else (1 : Int64)), oKno, oTrp) else (if z1 = (96 : Int32) then ((z2 + z4), oKno, (if (0 : Int64) ≤ ((z2 ^^^ (z2 + z4)) &&& (z4 ^^^ (z2 + z4))) then (0 : Int32) else (1 : Int32))) else (if z1 = (105 : Int32) then ((z2 - z4), oKno, (if (0 : Int64) ≤ ((z2 ^^^ z4) &&& (z2 ^^^ (z2 - z4))) then (0 : Int32) else (1 : Int32))) else (if z1 = (109 : Int32) then ((if (if z4 < z2 then (0 : Int32) else (1 : Int32)) = (0 : Int32) then (0 : Int64) else (1 : Int64)), oKno, oTrp) else ((0 : Int64), (0 : Int32), oTrp)))))))))))))))))))))
set_option maxRecDepth 100000 in
set_option maxHeartbeats 4000000 in
theorem c_X3_add (l : Launch) (dC : Nat → ClassId) (dI : Nat → Nat → Nat) (cI cJ : ClassId) (qO : Nat) (sz : Nat) (oRes : Int64) (oKno : Int32) (oGiv : Int32) (oTrp : Int32) (z1 : Int32) (z2 : Int64) (z4 : Int64) : Met l yX3_add (.code yX3_add cX3_add 6 (some .long) :: vG) ({ frames := 1, cells := 0, slots := 0, locals := 26 }) (va_Pc [.ref qO, .int z1, .long z2, .long z4] (qa_pre (dC, dI) vwCl (wO cI cJ qO oRes oKno oGiv oTrp) [(cI, .int), (cJ, .long)] sz)) (qa_mod (some (.long ((f_X3_add z1 z2 z4 oKno oTrp).1))) (dC, dI) vwCl (wO cI cJ qO oRes ((f_X3_add z1 z2 z4 oKno oTrp).2.1) oGiv ((f_X3_add z1 z2 z4 oKno oTrp).2.2)) (va_A (wO cI cJ qO oRes oKno oGiv oTrp) sz)) 0 0 (va_A (wO cI cJ qO oRes oKno oGiv oTrp) sz) := by
  refine Met.ofW (cc := cX3_add) (maxL := 6) (ret := (some .long)) (by decide) rfl ?_
  intro p e s m args below meth c s₁ B hml hv
  obtain ⟨rfl, hsz, hP, hK, hD0⟩ := hv
  have hx := B.exec
  have hb := B.bytes
  have hr := B.returns
  have hts : ∀ w ∈ vG, w.before _ s = true := fun w h => atoms_spec (ws := (.code yX3_add cX3_add 6 (some .long) :: vG)) B.pre w (List.mem_cons_of_mem _ h)
  have hown : s.vm.findClass "LongMachine$Operation" = some m.cls := findClass_of_methodNamed B.named
  have hlocks := B.notSynchronized
  subst hsz
  have hD := hD0.self (sz := s.heap.size)
  generalize hAe : va_A (wO cI cJ qO oRes oKno oGiv oTrp) s.heap.size = A at hD ⊢
  have hA : ∀ q : Nat, s.heap.size ≤ q → A q := fun q h => by rw [← hAe]; exact Or.inr h
  have hS : va_S A s.heap s.heap [] := va_S.rf
  have hl := lv_entry ([.ref qO, .int z1, .long z2, .long z4]) (n := 6) (Nat.le_of_ble_eq_true rfl)
  rw [lg_entry_eq]
  generalize (lg_sl ([.ref qO, .int z1, .long z2, .long z4]) ++ List.replicate (6 - (lg_sl ([.ref qO, .int z1, .long z2, .long z4])).length) Slot.unset).toArray = ls at hl ⊢
  have hl : lv_has ls 6 [(0, .ref qO), (1, .int z1), (2, .long z2), (4, .long z4)] := hl
  obtain ⟨u, hu⟩ : ∃ u, u = f_X3_add z1 z2 z4 oKno oTrp := ⟨_, rfl⟩
  rw [← hu]
  unfold f_X3_add at hu
  refine lv_iload_n (pc := 0) hx hb dX3_add_0 rfl (lv_at hl 1 rfl) ?_
  rcases Decidable.em (z1 = (0 : Int32)) with h1_1 | h1_1
  · have hu := hu.trans (if_pos h1_1)
    refine lv_lookup (pc := 1) (tgt := 172) (off := 171) hx hb dX3_add_1 (by decide) (by rw [h1_1]; decide) (by decide) ?_
    refine lv_lload_n (pc := 172) hx hb dX3_add_172 rfl (lv_at hl 2 rfl) ?_
    refine lv_lload (pc := 173) hx hb dX3_add_173 (lv_at hl 3 rfl) ?_
    refine lv_ladd (pc := 175) hx hb dX3_add_175 ?_
    refine qa_calld (pc := 176) (v := .long (Int32.toInt64 (Int64.toInt32 (z2 + z4)))) (va_runS (As := [.long (z2 + z4)]) (rest := []) ⟨hx, hb, hml, hown, hts⟩ (c_X3_sx l (z2 + z4)) (va_cwS 1 hts (gd_S gm_262 gm_260 gm_261 gm_4) rfl rfl rfl (by decide +kernel) ⟨Nat.le_of_ble_eq_true rfl, Nat.le_of_ble_eq_true rfl⟩) qa_S0 rfl rfl hl.1 rfl (lv_room (Nat.le_of_ble_eq_true rfl)) dX3_add_176 ⟨Nat.zero_le _, Nat.zero_le _⟩) ?_
    subst hu
    exact W.lret hx hb hr (fun t ht hW => ⟨rfl, by rw [ht]; exact hP, hS.F ht⟩) hS.2.2 dX3_add_179
  · have hu := hu.trans (if_neg h1_1)
    have n1_0 : ¬ z1 = (0 : Int32) := h1_1
    rcases Decidable.em (z1 = (2 : Int32)) with h1_2 | h1_2
    · have hu := hu.trans (if_pos h1_2)
      refine lv_lookup (pc := 1) (tgt := 180) (off := 179) hx hb dX3_add_1 (by decide) (by rw [h1_2]; decide) (by decide) ?_
      refine lv_ldc2 (pc := 180) (v := (4 : Int64)) hx hb hown (hts _ gm_263) dX3_add_180 ?_
      refine lv_lload_n (pc := 183) hx hb dX3_add_183 rfl (lv_at hl 2 rfl) ?_
      refine lv_lmul (pc := 184) hx hb dX3_add_184 ?_
      refine lv_lload (pc := 185) hx hb dX3_add_185 (lv_at hl 3 rfl) ?_
      refine lv_ladd (pc := 187) hx hb dX3_add_187 ?_
      refine qa_calld (pc := 188) (v := .long (Int32.toInt64 (Int64.toInt32 (((4 : Int64) * z2) + z4)))) (va_runS (As := [.long (((4 : Int64) * z2) + z4)]) (rest := []) ⟨hx, hb, hml, hown, hts⟩ (c_X3_sx l (((4 : Int64) * z2) + z4)) (va_cwS 1 hts (gd_S gm_262 gm_260 gm_261 gm_4) rfl rfl rfl (by decide +kernel) ⟨Nat.le_of_ble_eq_true rfl, Nat.le_of_ble_eq_true rfl⟩) qa_S0 rfl rfl hl.1 rfl (lv_room (Nat.le_of_ble_eq_true rfl)) dX3_add_188 ⟨Nat.zero_le _, Nat.zero_le _⟩) ?_
      subst hu
      exact W.lret hx hb hr (fun t ht hW => ⟨rfl, by rw [ht]; exact hP, hS.F ht⟩) hS.2.2 dX3_add_191
    · have hu := hu.trans (if_neg h1_2)
      have n1_1 : ¬ z1 = (2 : Int32) := h1_2
      rcases Decidable.em (z1 = (9 : Int32)) with h1_3 | h1_3
      · have hu := hu.trans (if_pos h1_3)
        refine lv_lookup (pc := 1) (tgt := 204) (off := 203) hx hb dX3_add_1 (by decide) (by rw [h1_3]; decide) (by decide) ?_
        refine lv_lload_n (pc := 204) hx hb dX3_add_204 rfl (lv_at hl 2 rfl) ?_
        refine lv_lload (pc := 205) hx hb dX3_add_205 (lv_at hl 3 rfl) ?_
        refine lv_lsub (pc := 207) hx hb dX3_add_207 ?_
        refine qa_calld (pc := 208) (v := .long (Int32.toInt64 (Int64.toInt32 (z2 - z4)))) (va_runS (As := [.long (z2 - z4)]) (rest := []) ⟨hx, hb, hml, hown, hts⟩ (c_X3_sx l (z2 - z4)) (va_cwS 1 hts (gd_S gm_262 gm_260 gm_261 gm_4) rfl rfl rfl (by decide +kernel) ⟨Nat.le_of_ble_eq_true rfl, Nat.le_of_ble_eq_true rfl⟩) qa_S0 rfl rfl hl.1 rfl (lv_room (Nat.le_of_ble_eq_true rfl)) dX3_add_208 ⟨Nat.zero_le _, Nat.zero_le _⟩) ?_
        subst hu
        exact W.lret hx hb hr (fun t ht hW => ⟨rfl, by rw [ht]; exact hP, hS.F ht⟩) hS.2.2 dX3_add_211
      · have hu := hu.trans (if_neg h1_3)
        have n1_2 : ¬ z1 = (9 : Int32) := h1_3
        rcases Decidable.em (z1 = (11 : Int32)) with h1_4 | h1_4
        · have hu := hu.trans (if_pos h1_4)
          refine lv_lookup (pc := 1) (tgt := 212) (off := 211) hx hb dX3_add_1 (by decide) (by rw [h1_4]; decide) (by decide) ?_
          refine lv_ldc2 (pc := 212) (v := (4 : Int64)) hx hb hown (hts _ gm_263) dX3_add_212 ?_
          refine lv_lload_n (pc := 215) hx hb dX3_add_215 rfl (lv_at hl 2 rfl) ?_
          refine lv_lmul (pc := 216) hx hb dX3_add_216 ?_
          refine lv_lload (pc := 217) hx hb dX3_add_217 (lv_at hl 3 rfl) ?_
          refine lv_lsub (pc := 219) hx hb dX3_add_219 ?_
          refine qa_calld (pc := 220) (v := .long (Int32.toInt64 (Int64.toInt32 (((4 : Int64) * z2) - z4)))) (va_runS (As := [.long (((4 : Int64) * z2) - z4)]) (rest := []) ⟨hx, hb, hml, hown, hts⟩ (c_X3_sx l (((4 : Int64) * z2) - z4)) (va_cwS 1 hts (gd_S gm_262 gm_260 gm_261 gm_4) rfl rfl rfl (by decide +kernel) ⟨Nat.le_of_ble_eq_true rfl, Nat.le_of_ble_eq_true rfl⟩) qa_S0 rfl rfl hl.1 rfl (lv_room (Nat.le_of_ble_eq_true rfl)) dX3_add_220 ⟨Nat.zero_le _, Nat.zero_le _⟩) ?_
          subst hu
          exact W.lret hx hb hr (fun t ht hW => ⟨rfl, by rw [ht]; exact hP, hS.F ht⟩) hS.2.2 dX3_add_223
        · have hu := hu.trans (if_neg h1_4)
          have n1_3 : ¬ z1 = (11 : Int32) := h1_4
          rcases Decidable.em (z1 = (15 : Int32)) with h1_5 | h1_5
          · have hu := hu.trans (if_pos h1_5)
            refine lv_lookup (pc := 1) (tgt := 476) (off := 475) hx hb dX3_add_1 (by decide) (by rw [h1_5]; decide) (by decide) ?_
            refine lv_lload_n (pc := 476) hx hb dX3_add_476 rfl (lv_at hl 2 rfl) ?_
            refine lv_lload (pc := 477) hx hb dX3_add_477 (lv_at hl 3 rfl) ?_
            refine qa_calld (pc := 479) (v := .long (f_X3_bytesNotLess z2 z4)) (va_runS (As := [.long z2, .long z4]) (rest := []) ⟨hx, hb, hml, hown, hts⟩ (c_X3_bytesNotLess l z2 z4) (va_cwS 2 hts (gd_S gm_277 gm_275 gm_276 gm_4) rfl rfl rfl (by decide +kernel) ⟨Nat.le_of_ble_eq_true rfl, Nat.le_of_ble_eq_true rfl⟩) qa_S0 rfl rfl hl.1 rfl (lv_room (Nat.le_of_ble_eq_true rfl)) dX3_add_479 ⟨Nat.zero_le _, Nat.zero_le _⟩) ?_
            subst hu
            exact W.lret hx hb hr (fun t ht hW => ⟨rfl, by rw [ht]; exact hP, hS.F ht⟩) hS.2.2 dX3_add_482
          · have hu := hu.trans (if_neg h1_5)
            have n1_4 : ¬ z1 = (15 : Int32) := h1_5
            rcases Decidable.em (z1 = (18 : Int32)) with h1_6 | h1_6
            · have hu := hu.trans (if_pos h1_6)
              refine lv_lookup (pc := 1) (tgt := 192) (off := 191) hx hb dX3_add_1 (by decide) (by rw [h1_6]; decide) (by decide) ?_
              refine lv_ldc2 (pc := 192) (v := (8 : Int64)) hx hb hown (hts _ gm_264) dX3_add_192 ?_
              refine lv_lload_n (pc := 195) hx hb dX3_add_195 rfl (lv_at hl 2 rfl) ?_
              refine lv_lmul (pc := 196) hx hb dX3_add_196 ?_
              refine lv_lload (pc := 197) hx hb dX3_add_197 (lv_at hl 3 rfl) ?_
              refine lv_ladd (pc := 199) hx hb dX3_add_199 ?_
              refine qa_calld (pc := 200) (v := .long (Int32.toInt64 (Int64.toInt32 (((8 : Int64) * z2) + z4)))) (va_runS (As := [.long (((8 : Int64) * z2) + z4)]) (rest := []) ⟨hx, hb, hml, hown, hts⟩ (c_X3_sx l (((8 : Int64) * z2) + z4)) (va_cwS 1 hts (gd_S gm_262 gm_260 gm_261 gm_4) rfl rfl rfl (by decide +kernel) ⟨Nat.le_of_ble_eq_true rfl, Nat.le_of_ble_eq_true rfl⟩) qa_S0 rfl rfl hl.1 rfl (lv_room (Nat.le_of_ble_eq_true rfl)) dX3_add_200 ⟨Nat.zero_le _, Nat.zero_le _⟩) ?_
              subst hu
              exact W.lret hx hb hr (fun t ht hW => ⟨rfl, by rw [ht]; exact hP, hS.F ht⟩) hS.2.2 dX3_add_203
            · have hu := hu.trans (if_neg h1_6)
              have n1_5 : ¬ z1 = (18 : Int32) := h1_6
              rcases Decidable.em (z1 = (29 : Int32)) with h1_7 | h1_7
              · have hu := hu.trans (if_pos h1_7)
                refine lv_lookup (pc := 1) (tgt := 448) (off := 447) hx hb dX3_add_1 (by decide) (by rw [h1_7]; decide) (by decide) ?_
                refine lv_lload_n (pc := 448) hx hb dX3_add_448 rfl (lv_at hl 2 rfl) ?_
                refine lv_lload (pc := 449) hx hb dX3_add_449 (lv_at hl 3 rfl) ?_
                refine qa_calld (pc := 451) (v := .int (if (z4 ^^^ (-9223372036854775808 : Int64)) ≤ (z2 ^^^ (-9223372036854775808 : Int64)) then (0 : Int32) else (1 : Int32))) (va_runS (As := [.long z2, .long z4]) (rest := []) ⟨hx, hb, hml, hown, hts⟩ (c_X3_isBelow l z2 z4) (va_cwS 2 hts (gd_S gm_273 gm_271 gm_272 gm_4) rfl rfl rfl (by decide +kernel) ⟨Nat.le_of_ble_eq_true rfl, Nat.le_of_ble_eq_true rfl⟩) qa_S0 rfl rfl hl.1 rfl (lv_room (Nat.le_of_ble_eq_true rfl)) dX3_add_451 ⟨Nat.zero_le _, Nat.zero_le _⟩) ?_
                refine qa_calld (pc := 454) (v := .long (if (if (z4 ^^^ (-9223372036854775808 : Int64)) ≤ (z2 ^^^ (-9223372036854775808 : Int64)) then (0 : Int32) else (1 : Int32)) = (0 : Int32) then (0 : Int64) else (1 : Int64))) (va_runS (As := [.int (if (z4 ^^^ (-9223372036854775808 : Int64)) ≤ (z2 ^^^ (-9223372036854775808 : Int64)) then (0 : Int32) else (1 : Int32))]) (rest := []) ⟨hx, hb, hml, hown, hts⟩ (c_X3_truth l (if (z4 ^^^ (-9223372036854775808 : Int64)) ≤ (z2 ^^^ (-9223372036854775808 : Int64)) then (0 : Int32) else (1 : Int32))) (va_cwS 1 hts (gd_S gm_270 gm_268 gm_269 gm_4) rfl rfl rfl (by decide +kernel) ⟨Nat.le_of_ble_eq_true rfl, Nat.le_of_ble_eq_true rfl⟩) qa_S0 rfl rfl hl.1 rfl (lv_room (Nat.le_of_ble_eq_true rfl)) dX3_add_454 ⟨Nat.zero_le _, Nat.zero_le _⟩) ?_
                subst hu
                exact W.lret hx hb hr (fun t ht hW => ⟨rfl, by rw [ht]; exact hP, hS.F ht⟩) hS.2.2 dX3_add_457
              · have hu := hu.trans (if_neg h1_7)
                have n1_6 : ¬ z1 = (29 : Int32) := h1_7
                rcases Decidable.em (z1 = (32 : Int32)) with h1_8 | h1_8
                · have hu := hu.trans (if_pos h1_8)
                  refine lv_lookup (pc := 1) (tgt := 224) (off := 223) hx hb dX3_add_1 (by decide) (by rw [h1_8]; decide) (by decide) ?_
                  refine lv_lload_n (pc := 224) hx hb dX3_add_224 rfl (lv_at hl 2 rfl) ?_
                  refine lv_lload (pc := 225) hx hb dX3_add_225 (lv_at hl 3 rfl) ?_
                  refine lv_ladd (pc := 227) hx hb dX3_add_227 ?_
                  subst hu
                  exact W.lret hx hb hr (fun t ht hW => ⟨rfl, by rw [ht]; exact hP, hS.F ht⟩) hS.2.2 dX3_add_228
                · have hu := hu.trans (if_neg h1_8)
                  have n1_7 : ¬ z1 = (32 : Int32) := h1_8
                  rcases Decidable.em (z1 = (34 : Int32)) with h1_9 | h1_9
                  · have hu := hu.trans (if_pos h1_9)
                    refine lv_lookup (pc := 1) (tgt := 229) (off := 228) hx hb dX3_add_1 (by decide) (by rw [h1_9]; decide) (by decide) ?_
                    refine lv_ldc2 (pc := 229) (v := (4 : Int64)) hx hb hown (hts _ gm_263) dX3_add_229 ?_
                    refine lv_lload_n (pc := 232) hx hb dX3_add_232 rfl (lv_at hl 2 rfl) ?_
                    refine lv_lmul (pc := 233) hx hb dX3_add_233 ?_
                    refine lv_lload (pc := 234) hx hb dX3_add_234 (lv_at hl 3 rfl) ?_
                    refine lv_ladd (pc := 236) hx hb dX3_add_236 ?_
                    subst hu
                    exact W.lret hx hb hr (fun t ht hW => ⟨rfl, by rw [ht]; exact hP, hS.F ht⟩) hS.2.2 dX3_add_237
                  · have hu := hu.trans (if_neg h1_9)
                    have n1_8 : ¬ z1 = (34 : Int32) := h1_9
                    rcases Decidable.em (z1 = (41 : Int32)) with h1_10 | h1_10
                    · have hu := hu.trans (if_pos h1_10)
                      refine lv_lookup (pc := 1) (tgt := 247) (off := 246) hx hb dX3_add_1 (by decide) (by rw [h1_10]; decide) (by decide) ?_
                      refine lv_lload_n (pc := 247) hx hb dX3_add_247 rfl (lv_at hl 2 rfl) ?_
                      refine lv_lload (pc := 248) hx hb dX3_add_248 (lv_at hl 3 rfl) ?_
                      refine lv_lsub (pc := 250) hx hb dX3_add_250 ?_
                      subst hu
                      exact W.lret hx hb hr (fun t ht hW => ⟨rfl, by rw [ht]; exact hP, hS.F ht⟩) hS.2.2 dX3_add_251
                    · have hu := hu.trans (if_neg h1_10)
                      have n1_9 : ¬ z1 = (41 : Int32) := h1_10
                      rcases Decidable.em (z1 = (43 : Int32)) with h1_11 | h1_11
                      · have hu := hu.trans (if_pos h1_11)
                        refine lv_lookup (pc := 1) (tgt := 252) (off := 251) hx hb dX3_add_1 (by decide) (by rw [h1_11]; decide) (by decide) ?_
                        refine lv_ldc2 (pc := 252) (v := (4 : Int64)) hx hb hown (hts _ gm_263) dX3_add_252 ?_
                        refine lv_lload_n (pc := 255) hx hb dX3_add_255 rfl (lv_at hl 2 rfl) ?_
                        refine lv_lmul (pc := 256) hx hb dX3_add_256 ?_
                        refine lv_lload (pc := 257) hx hb dX3_add_257 (lv_at hl 3 rfl) ?_
                        refine lv_lsub (pc := 259) hx hb dX3_add_259 ?_
                        subst hu
                        exact W.lret hx hb hr (fun t ht hW => ⟨rfl, by rw [ht]; exact hP, hS.F ht⟩) hS.2.2 dX3_add_260
                      · have hu := hu.trans (if_neg h1_11)
                        have n1_10 : ¬ z1 = (43 : Int32) := h1_11
                        rcases Decidable.em (z1 = (45 : Int32)) with h1_12 | h1_12
                        · have hu := hu.trans (if_pos h1_12)
                          refine lv_lookup (pc := 1) (tgt := 400) (off := 399) hx hb dX3_add_1 (by decide) (by rw [h1_12]; decide) (by decide) ?_
                          refine lv_lload_n (pc := 400) hx hb dX3_add_400 rfl (lv_at hl 2 rfl) ?_
                          refine lv_lload (pc := 401) hx hb dX3_add_401 (lv_at hl 3 rfl) ?_
                          refine qa_joini (J := 412) (ls2 := ls) (rest2 := []) (if z2 = z4 then (1 : Int32) else (0 : Int32)) (fun hj412 => ?_) ?_
                          · refine qa_lc_ne (pc := 403) (tgt := 411) hx hb dX3_add_403 dX3_add_404 (by decide) (fun h403_13 => ?_) (fun h403_13 => ?_)
                            · refine lv_iconst (pc := 411) (v := (0 : Int32)) hx hb dX3_add_411 (by decide) ?_
                              exact hj412 _ (Eq.symm (if_neg h403_13))
                            · refine lv_iconst (pc := 407) (v := (1 : Int32)) hx hb dX3_add_407 (by decide) ?_
                              refine lv_goto (pc := 408) (tgt := 412) hx hb dX3_add_408 (by decide) ?_
                              exact hj412 _ (Eq.symm (if_pos h403_13))
                          refine qa_calld (pc := 412) (v := .long (if (if z2 = z4 then (1 : Int32) else (0 : Int32)) = (0 : Int32) then (0 : Int64) else (1 : Int64))) (va_runS (As := [.int (if z2 = z4 then (1 : Int32) else (0 : Int32))]) (rest := []) ⟨hx, hb, hml, hown, hts⟩ (c_X3_truth l (if z2 = z4 then (1 : Int32) else (0 : Int32))) (va_cwS 1 hts (gd_S gm_270 gm_268 gm_269 gm_4) rfl rfl rfl (by decide +kernel) ⟨Nat.le_of_ble_eq_true rfl, Nat.le_of_ble_eq_true rfl⟩) qa_S0 rfl rfl hl.1 rfl (lv_room (Nat.le_of_ble_eq_true rfl)) dX3_add_412 ⟨Nat.zero_le _, Nat.zero_le _⟩) ?_
                          subst hu
                          exact W.lret hx hb hr (fun t ht hW => ⟨rfl, by rw [ht]; exact hP, hS.F ht⟩) hS.2.2 dX3_add_415
                        · have hu := hu.trans (if_neg h1_12)
                          have n1_11 : ¬ z1 = (45 : Int32) := h1_12
                          rcases Decidable.em (z1 = (50 : Int32)) with h1_14 | h1_14
                          · have hu := hu.trans (if_pos h1_14)
                            refine lv_lookup (pc := 1) (tgt := 238) (off := 237) hx hb dX3_add_1 (by decide) (by rw [h1_14]; decide) (by decide) ?_
                            refine lv_ldc2 (pc := 238) (v := (8 : Int64)) hx hb hown (hts _ gm_264) dX3_add_238 ?_
                            refine lv_lload_n (pc := 241) hx hb dX3_add_241 rfl (lv_at hl 2 rfl) ?_
                            refine lv_lmul (pc := 242) hx hb dX3_add_242 ?_
                            refine lv_lload (pc := 243) hx hb dX3_add_243 (lv_at hl 3 rfl) ?_
                            refine lv_ladd (pc := 245) hx hb dX3_add_245 ?_
                            subst hu
                            exact W.lret hx hb hr (fun t ht hW => ⟨rfl, by rw [ht]; exact hP, hS.F ht⟩) hS.2.2 dX3_add_246
                          · have hu := hu.trans (if_neg h1_14)
                            have n1_12 : ¬ z1 = (50 : Int32) := h1_14
                            rcases Decidable.em (z1 = (61 : Int32)) with h1_15 | h1_15
                            · have hu := hu.trans (if_pos h1_15)
                              refine lv_lookup (pc := 1) (tgt := 458) (off := 457) hx hb dX3_add_1 (by decide) (by rw [h1_15]; decide) (by decide) ?_
                              refine lv_lload (pc := 458) hx hb dX3_add_458 (lv_at hl 3 rfl) ?_
                              refine lv_lload_n (pc := 460) hx hb dX3_add_460 rfl (lv_at hl 2 rfl) ?_
                              refine qa_calld (pc := 461) (v := .int (if (z2 ^^^ (-9223372036854775808 : Int64)) ≤ (z4 ^^^ (-9223372036854775808 : Int64)) then (0 : Int32) else (1 : Int32))) (va_runS (As := [.long z4, .long z2]) (rest := []) ⟨hx, hb, hml, hown, hts⟩ (c_X3_isBelow l z4 z2) (va_cwS 2 hts (gd_S gm_273 gm_271 gm_272 gm_4) rfl rfl rfl (by decide +kernel) ⟨Nat.le_of_ble_eq_true rfl, Nat.le_of_ble_eq_true rfl⟩) qa_S0 rfl rfl hl.1 rfl (lv_room (Nat.le_of_ble_eq_true rfl)) dX3_add_461 ⟨Nat.zero_le _, Nat.zero_le _⟩) ?_
                              refine qa_joini (J := 472) (ls2 := ls) (rest2 := []) (if (if (z2 ^^^ (-9223372036854775808 : Int64)) ≤ (z4 ^^^ (-9223372036854775808 : Int64)) then (0 : Int32) else (1 : Int32)) = (0 : Int32) then (1 : Int32) else (0 : Int32)) (fun hj472 => ?_) ?_
                              · refine lv_if_ne (pc := 464) (tgt := 471) hx hb dX3_add_464 (by decide) (fun h464_16 => ?_) (fun h464_16 => ?_)
                                · refine lv_iconst (pc := 471) (v := (0 : Int32)) hx hb dX3_add_471 (by decide) ?_
                                  exact hj472 _ (Eq.symm (if_neg h464_16))
                                · refine lv_iconst (pc := 467) (v := (1 : Int32)) hx hb dX3_add_467 (by decide) ?_
                                  refine lv_goto (pc := 468) (tgt := 472) hx hb dX3_add_468 (by decide) ?_
                                  exact hj472 _ (Eq.symm (if_pos h464_16))
                              refine qa_calld (pc := 472) (v := .long (if (if (if (z2 ^^^ (-9223372036854775808 : Int64)) ≤ (z4 ^^^ (-9223372036854775808 : Int64)) then (0 : Int32) else (1 : Int32)) = (0 : Int32) then (1 : Int32) else (0 : Int32)) = (0 : Int32) then (0 : Int64) else (1 : Int64))) (va_runS (As := [.int (if (if (z2 ^^^ (-9223372036854775808 : Int64)) ≤ (z4 ^^^ (-9223372036854775808 : Int64)) then (0 : Int32) else (1 : Int32)) = (0 : Int32) then (1 : Int32) else (0 : Int32))]) (rest := []) ⟨hx, hb, hml, hown, hts⟩ (c_X3_truth l (if (if (z2 ^^^ (-9223372036854775808 : Int64)) ≤ (z4 ^^^ (-9223372036854775808 : Int64)) then (0 : Int32) else (1 : Int32)) = (0 : Int32) then (1 : Int32) else (0 : Int32))) (va_cwS 1 hts (gd_S gm_270 gm_268 gm_269 gm_4) rfl rfl rfl (by decide +kernel) ⟨Nat.le_of_ble_eq_true rfl, Nat.le_of_ble_eq_true rfl⟩) qa_S0 rfl rfl hl.1 rfl (lv_room (Nat.le_of_ble_eq_true rfl)) dX3_add_472 ⟨Nat.zero_le _, Nat.zero_le _⟩) ?_
                              subst hu
                              exact W.lret hx hb hr (fun t ht hW => ⟨rfl, by rw [ht]; exact hP, hS.F ht⟩) hS.2.2 dX3_add_475
                            · have hu := hu.trans (if_neg h1_15)
                              have n1_13 : ¬ z1 = (61 : Int32) := h1_15
                              rcases Decidable.em (z1 = (64 : Int32)) with h1_17 | h1_17
                              · have hu := hu.trans (if_pos h1_17)
                                refine lv_lookup (pc := 1) (tgt := 261) (off := 260) hx hb dX3_add_1 (by decide) (by rw [h1_17]; decide) (by decide) ?_
                                refine lv_aload_n (pc := 261) hx hb dX3_add_261 rfl (lv_at hl 0 rfl) ?_
                                refine lv_lload_n (pc := 262) hx hb dX3_add_262 rfl (lv_at hl 2 rfl) ?_
                                refine lv_lload (pc := 263) hx hb dX3_add_263 (lv_at hl 3 rfl) ?_
                                refine lv_ladd (pc := 265) hx hb dX3_add_265 ?_
                                refine qa_calld (pc := 266) (v := .long (Int32.toInt64 (Int64.toInt32 (z2 + z4)))) (va_runS (As := [.long (z2 + z4)]) (rest := [.ref qO]) ⟨hx, hb, hml, hown, hts⟩ (c_X3_sx l (z2 + z4)) (va_cwS 1 hts (gd_S gm_262 gm_260 gm_261 gm_4) rfl rfl rfl (by decide +kernel) ⟨Nat.le_of_ble_eq_true rfl, Nat.le_of_ble_eq_true rfl⟩) qa_S0 rfl rfl hl.1 rfl (lv_room (Nat.le_of_ble_eq_true rfl)) dX3_add_266 ⟨Nat.zero_le _, Nat.zero_le _⟩) ?_
                                refine lv_lload_n (pc := 269) hx hb dX3_add_269 rfl (lv_at hl 2 rfl) ?_
                                refine qa_calld (pc := 270) (v := .long (Int32.toInt64 (Int64.toInt32 z2))) (va_runS (As := [.long z2]) (rest := [.long (Int32.toInt64 (Int64.toInt32 (z2 + z4))), .ref qO]) ⟨hx, hb, hml, hown, hts⟩ (c_X3_sx l z2) (va_cwS 1 hts (gd_S gm_262 gm_260 gm_261 gm_4) rfl rfl rfl (by decide +kernel) ⟨Nat.le_of_ble_eq_true rfl, Nat.le_of_ble_eq_true rfl⟩) qa_S0 rfl rfl hl.1 rfl (lv_room (Nat.le_of_ble_eq_true rfl)) dX3_add_270 ⟨Nat.zero_le _, Nat.zero_le _⟩) ?_
                                refine lv_lload (pc := 273) hx hb dX3_add_273 (lv_at hl 3 rfl) ?_
                                refine qa_calld (pc := 275) (v := .long (Int32.toInt64 (Int64.toInt32 z4))) (va_runS (As := [.long z4]) (rest := [.long (Int32.toInt64 (Int64.toInt32 z2)), .long (Int32.toInt64 (Int64.toInt32 (z2 + z4))), .ref qO]) ⟨hx, hb, hml, hown, hts⟩ (c_X3_sx l z4) (va_cwS 1 hts (gd_S gm_262 gm_260 gm_261 gm_4) rfl rfl rfl (by decide +kernel) ⟨Nat.le_of_ble_eq_true rfl, Nat.le_of_ble_eq_true rfl⟩) qa_S0 rfl rfl hl.1 rfl (lv_room (Nat.le_of_ble_eq_true rfl)) dX3_add_275 ⟨Nat.zero_le _, Nat.zero_le _⟩) ?_
                                refine lv_ladd (pc := 278) hx hb dX3_add_278 ?_
                                refine qa_joini (J := 288) (ls2 := ls) (rest2 := [.ref qO]) (if (Int32.toInt64 (Int64.toInt32 (z2 + z4))) = ((Int32.toInt64 (Int64.toInt32 z2)) + (Int32.toInt64 (Int64.toInt32 z4))) then (0 : Int32) else (1 : Int32)) (fun hj288 => ?_) ?_
                                · refine qa_lc_eq (pc := 279) (tgt := 287) hx hb dX3_add_279 dX3_add_280 (by decide) (fun h279_18 => ?_) (fun h279_18 => ?_)
                                  · refine lv_iconst (pc := 287) (v := (0 : Int32)) hx hb dX3_add_287 (by decide) ?_
                                    exact hj288 _ (Eq.symm (if_pos h279_18))
                                  · refine lv_iconst (pc := 283) (v := (1 : Int32)) hx hb dX3_add_283 (by decide) ?_
                                    refine lv_goto (pc := 284) (tgt := 288) hx hb dX3_add_284 (by decide) ?_
                                    exact hj288 _ (Eq.symm (if_neg h279_18))
                                refine lv_lload_n (pc := 288) hx hb dX3_add_288 rfl (lv_at hl 2 rfl) ?_
                                refine lv_lload (pc := 289) hx hb dX3_add_289 (lv_at hl 3 rfl) ?_
                                refine lv_ladd (pc := 291) hx hb dX3_add_291 ?_
                                refine qa_calld (pc := 292) (v := .long (Int32.toInt64 (Int64.toInt32 (z2 + z4)))) (va_runS (As := [.long (z2 + z4)]) (rest := [.int (if (Int32.toInt64 (Int64.toInt32 (z2 + z4))) = ((Int32.toInt64 (Int64.toInt32 z2)) + (Int32.toInt64 (Int64.toInt32 z4))) then (0 : Int32) else (1 : Int32)), .ref qO]) ⟨hx, hb, hml, hown, hts⟩ (c_X3_sx l (z2 + z4)) (va_cwS 1 hts (gd_S gm_262 gm_260 gm_261 gm_4) rfl rfl rfl (by decide +kernel) ⟨Nat.le_of_ble_eq_true rfl, Nat.le_of_ble_eq_true rfl⟩) qa_S0 rfl rfl hl.1 rfl (lv_room (Nat.le_of_ble_eq_true rfl)) dX3_add_292 ⟨Nat.zero_le _, Nat.zero_le _⟩) ?_
                                refine qa_calll (pc := 295) (wr := []) (wf := (wO cI cJ qO oRes oKno oGiv (if (Int32.toInt64 (Int64.toInt32 (z2 + z4))) = ((Int32.toInt64 (Int64.toInt32 z2)) + (Int32.toInt64 (Int64.toInt32 z4))) then (0 : Int32) else (1 : Int32)))) (va_runV (As := [.int (if (Int32.toInt64 (Int64.toInt32 (z2 + z4))) = ((Int32.toInt64 (Int64.toInt32 z2)) + (Int32.toInt64 (Int64.toInt32 z4))) then (0 : Int32) else (1 : Int32)), .long (Int32.toInt64 (Int64.toInt32 (z2 + z4)))]) (rest := []) ⟨hx, hb, hml, hown, hts⟩ (c_X3_trapIf l dC dI cI cJ qO s.heap.size oRes oKno oGiv oTrp (if (Int32.toInt64 (Int64.toInt32 (z2 + z4))) = ((Int32.toInt64 (Int64.toInt32 z2)) + (Int32.toInt64 (Int64.toInt32 z4))) then (0 : Int32) else (1 : Int32)) (Int32.toInt64 (Int64.toInt32 (z2 + z4))) (qa_bi qa_b0 qa_b1)) (cwV 2 hts (gd_V gm_267 gm_265 gm_266 gm_564 gm_4) rfl rfl rfl (by decide +kernel) ⟨Nat.le_of_ble_eq_true rfl, Nat.le_of_ble_eq_true rfl⟩) (qa_VM (q0 := 0) (q := ("LongMachine$Operation", TX3, 4)) hK hP rfl rfl hP hD) rfl rfl hl.1 rfl (lv_room (Nat.le_of_ble_eq_true rfl)) dX3_add_295 ⟨Nat.zero_le _, Nat.zero_le _⟩) hP hD hS hA [0] [] [0] rfl (by decide) rfl (by decide) (by decide) rfl rfl (by decide) (fun H locs hP hD hS => ?_)
                                subst hu
                                exact W.lret hx hb hr (fun t ht hW => ⟨rfl, by rw [ht]; exact hP, hS.F ht⟩) hS.2.2 dX3_add_298
                              · have hu := hu.trans (if_neg h1_17)
                                have n1_14 : ¬ z1 = (64 : Int32) := h1_17
                                rcases Decidable.em (z1 = (73 : Int32)) with h1_19 | h1_19
                                · have hu := hu.trans (if_pos h1_19)
                                  refine lv_lookup (pc := 1) (tgt := 299) (off := 298) hx hb dX3_add_1 (by decide) (by rw [h1_19]; decide) (by decide) ?_
                                  refine lv_aload_n (pc := 299) hx hb dX3_add_299 rfl (lv_at hl 0 rfl) ?_
                                  refine lv_lload_n (pc := 300) hx hb dX3_add_300 rfl (lv_at hl 2 rfl) ?_
                                  refine lv_lload (pc := 301) hx hb dX3_add_301 (lv_at hl 3 rfl) ?_
                                  refine lv_lsub (pc := 303) hx hb dX3_add_303 ?_
                                  refine qa_calld (pc := 304) (v := .long (Int32.toInt64 (Int64.toInt32 (z2 - z4)))) (va_runS (As := [.long (z2 - z4)]) (rest := [.ref qO]) ⟨hx, hb, hml, hown, hts⟩ (c_X3_sx l (z2 - z4)) (va_cwS 1 hts (gd_S gm_262 gm_260 gm_261 gm_4) rfl rfl rfl (by decide +kernel) ⟨Nat.le_of_ble_eq_true rfl, Nat.le_of_ble_eq_true rfl⟩) qa_S0 rfl rfl hl.1 rfl (lv_room (Nat.le_of_ble_eq_true rfl)) dX3_add_304 ⟨Nat.zero_le _, Nat.zero_le _⟩) ?_
                                  refine lv_lload_n (pc := 307) hx hb dX3_add_307 rfl (lv_at hl 2 rfl) ?_
                                  refine qa_calld (pc := 308) (v := .long (Int32.toInt64 (Int64.toInt32 z2))) (va_runS (As := [.long z2]) (rest := [.long (Int32.toInt64 (Int64.toInt32 (z2 - z4))), .ref qO]) ⟨hx, hb, hml, hown, hts⟩ (c_X3_sx l z2) (va_cwS 1 hts (gd_S gm_262 gm_260 gm_261 gm_4) rfl rfl rfl (by decide +kernel) ⟨Nat.le_of_ble_eq_true rfl, Nat.le_of_ble_eq_true rfl⟩) qa_S0 rfl rfl hl.1 rfl (lv_room (Nat.le_of_ble_eq_true rfl)) dX3_add_308 ⟨Nat.zero_le _, Nat.zero_le _⟩) ?_
                                  refine lv_lload (pc := 311) hx hb dX3_add_311 (lv_at hl 3 rfl) ?_
                                  refine qa_calld (pc := 313) (v := .long (Int32.toInt64 (Int64.toInt32 z4))) (va_runS (As := [.long z4]) (rest := [.long (Int32.toInt64 (Int64.toInt32 z2)), .long (Int32.toInt64 (Int64.toInt32 (z2 - z4))), .ref qO]) ⟨hx, hb, hml, hown, hts⟩ (c_X3_sx l z4) (va_cwS 1 hts (gd_S gm_262 gm_260 gm_261 gm_4) rfl rfl rfl (by decide +kernel) ⟨Nat.le_of_ble_eq_true rfl, Nat.le_of_ble_eq_true rfl⟩) qa_S0 rfl rfl hl.1 rfl (lv_room (Nat.le_of_ble_eq_true rfl)) dX3_add_313 ⟨Nat.zero_le _, Nat.zero_le _⟩) ?_
                                  refine lv_lsub (pc := 316) hx hb dX3_add_316 ?_
                                  refine qa_joini (J := 326) (ls2 := ls) (rest2 := [.ref qO]) (if (Int32.toInt64 (Int64.toInt32 (z2 - z4))) = ((Int32.toInt64 (Int64.toInt32 z2)) - (Int32.toInt64 (Int64.toInt32 z4))) then (0 : Int32) else (1 : Int32)) (fun hj326 => ?_) ?_
                                  · refine qa_lc_eq (pc := 317) (tgt := 325) hx hb dX3_add_317 dX3_add_318 (by decide) (fun h317_20 => ?_) (fun h317_20 => ?_)
                                    · refine lv_iconst (pc := 325) (v := (0 : Int32)) hx hb dX3_add_325 (by decide) ?_
                                      exact hj326 _ (Eq.symm (if_pos h317_20))
                                    · refine lv_iconst (pc := 321) (v := (1 : Int32)) hx hb dX3_add_321 (by decide) ?_
                                      refine lv_goto (pc := 322) (tgt := 326) hx hb dX3_add_322 (by decide) ?_
                                      exact hj326 _ (Eq.symm (if_neg h317_20))
                                  refine lv_lload_n (pc := 326) hx hb dX3_add_326 rfl (lv_at hl 2 rfl) ?_
                                  refine lv_lload (pc := 327) hx hb dX3_add_327 (lv_at hl 3 rfl) ?_
                                  refine lv_lsub (pc := 329) hx hb dX3_add_329 ?_
                                  refine qa_calld (pc := 330) (v := .long (Int32.toInt64 (Int64.toInt32 (z2 - z4)))) (va_runS (As := [.long (z2 - z4)]) (rest := [.int (if (Int32.toInt64 (Int64.toInt32 (z2 - z4))) = ((Int32.toInt64 (Int64.toInt32 z2)) - (Int32.toInt64 (Int64.toInt32 z4))) then (0 : Int32) else (1 : Int32)), .ref qO]) ⟨hx, hb, hml, hown, hts⟩ (c_X3_sx l (z2 - z4)) (va_cwS 1 hts (gd_S gm_262 gm_260 gm_261 gm_4) rfl rfl rfl (by decide +kernel) ⟨Nat.le_of_ble_eq_true rfl, Nat.le_of_ble_eq_true rfl⟩) qa_S0 rfl rfl hl.1 rfl (lv_room (Nat.le_of_ble_eq_true rfl)) dX3_add_330 ⟨Nat.zero_le _, Nat.zero_le _⟩) ?_
                                  refine qa_calll (pc := 333) (wr := []) (wf := (wO cI cJ qO oRes oKno oGiv (if (Int32.toInt64 (Int64.toInt32 (z2 - z4))) = ((Int32.toInt64 (Int64.toInt32 z2)) - (Int32.toInt64 (Int64.toInt32 z4))) then (0 : Int32) else (1 : Int32)))) (va_runV (As := [.int (if (Int32.toInt64 (Int64.toInt32 (z2 - z4))) = ((Int32.toInt64 (Int64.toInt32 z2)) - (Int32.toInt64 (Int64.toInt32 z4))) then (0 : Int32) else (1 : Int32)), .long (Int32.toInt64 (Int64.toInt32 (z2 - z4)))]) (rest := []) ⟨hx, hb, hml, hown, hts⟩ (c_X3_trapIf l dC dI cI cJ qO s.heap.size oRes oKno oGiv oTrp (if (Int32.toInt64 (Int64.toInt32 (z2 - z4))) = ((Int32.toInt64 (Int64.toInt32 z2)) - (Int32.toInt64 (Int64.toInt32 z4))) then (0 : Int32) else (1 : Int32)) (Int32.toInt64 (Int64.toInt32 (z2 - z4))) (qa_bi qa_b0 qa_b1)) (cwV 2 hts (gd_V gm_267 gm_265 gm_266 gm_564 gm_4) rfl rfl rfl (by decide +kernel) ⟨Nat.le_of_ble_eq_true rfl, Nat.le_of_ble_eq_true rfl⟩) (qa_VM (q0 := 0) (q := ("LongMachine$Operation", TX3, 4)) hK hP rfl rfl hP hD) rfl rfl hl.1 rfl (lv_room (Nat.le_of_ble_eq_true rfl)) dX3_add_333 ⟨Nat.zero_le _, Nat.zero_le _⟩) hP hD hS hA [0] [] [0] rfl (by decide) rfl (by decide) (by decide) rfl rfl (by decide) (fun H locs hP hD hS => ?_)
                                  subst hu
                                  exact W.lret hx hb hr (fun t ht hW => ⟨rfl, by rw [ht]; exact hP, hS.F ht⟩) hS.2.2 dX3_add_336
                                · have hu := hu.trans (if_neg h1_19)
                                  have n1_15 : ¬ z1 = (73 : Int32) := h1_19
                                  rcases Decidable.em (z1 = (77 : Int32)) with h1_21 | h1_21
                                  · have hu := hu.trans (if_pos h1_21)
                                    refine lv_lookup (pc := 1) (tgt := 416) (off := 415) hx hb dX3_add_1 (by decide) (by rw [h1_21]; decide) (by decide) ?_
                                    refine lv_lload_n (pc := 416) hx hb dX3_add_416 rfl (lv_at hl 2 rfl) ?_
                                    refine lv_lload (pc := 417) hx hb dX3_add_417 (lv_at hl 3 rfl) ?_
                                    refine qa_joini (J := 428) (ls2 := ls) (rest2 := []) (if z4 ≤ z2 then (0 : Int32) else (1 : Int32)) (fun hj428 => ?_) ?_
                                    · refine qa_lc_ge (pc := 419) (tgt := 427) hx hb dX3_add_419 dX3_add_420 (by decide) (fun h419_22 => ?_) (fun h419_22 => ?_)
                                      · refine lv_iconst (pc := 427) (v := (0 : Int32)) hx hb dX3_add_427 (by decide) ?_
                                        exact hj428 _ (Eq.symm (if_pos h419_22))
                                      · refine lv_iconst (pc := 423) (v := (1 : Int32)) hx hb dX3_add_423 (by decide) ?_
                                        refine lv_goto (pc := 424) (tgt := 428) hx hb dX3_add_424 (by decide) ?_
                                        exact hj428 _ (Eq.symm (if_neg h419_22))
                                    refine qa_calld (pc := 428) (v := .long (if (if z4 ≤ z2 then (0 : Int32) else (1 : Int32)) = (0 : Int32) then (0 : Int64) else (1 : Int64))) (va_runS (As := [.int (if z4 ≤ z2 then (0 : Int32) else (1 : Int32))]) (rest := []) ⟨hx, hb, hml, hown, hts⟩ (c_X3_truth l (if z4 ≤ z2 then (0 : Int32) else (1 : Int32))) (va_cwS 1 hts (gd_S gm_270 gm_268 gm_269 gm_4) rfl rfl rfl (by decide +kernel) ⟨Nat.le_of_ble_eq_true rfl, Nat.le_of_ble_eq_true rfl⟩) qa_S0 rfl rfl hl.1 rfl (lv_room (Nat.le_of_ble_eq_true rfl)) dX3_add_428 ⟨Nat.zero_le _, Nat.zero_le _⟩) ?_
                                    subst hu
                                    exact W.lret hx hb hr (fun t ht hW => ⟨rfl, by rw [ht]; exact hP, hS.F ht⟩) hS.2.2 dX3_add_431
                                  · have hu := hu.trans (if_neg h1_21)
                                    have n1_16 : ¬ z1 = (77 : Int32) := h1_21
                                    rcases Decidable.em (z1 = (96 : Int32)) with h1_23 | h1_23
                                    · have hu := hu.trans (if_pos h1_23)
                                      refine lv_lookup (pc := 1) (tgt := 337) (off := 336) hx hb dX3_add_1 (by decide) (by rw [h1_23]; decide) (by decide) ?_
                                      refine lv_aload_n (pc := 337) hx hb dX3_add_337 rfl (lv_at hl 0 rfl) ?_
                                      refine lv_lload_n (pc := 338) hx hb dX3_add_338 rfl (lv_at hl 2 rfl) ?_
                                      refine lv_lload_n (pc := 339) hx hb dX3_add_339 rfl (lv_at hl 2 rfl) ?_
                                      refine lv_lload (pc := 340) hx hb dX3_add_340 (lv_at hl 3 rfl) ?_
                                      refine lv_ladd (pc := 342) hx hb dX3_add_342 ?_
                                      refine lv_lxor (pc := 343) hx hb dX3_add_343 ?_
                                      refine lv_lload (pc := 344) hx hb dX3_add_344 (lv_at hl 3 rfl) ?_
                                      refine lv_lload_n (pc := 346) hx hb dX3_add_346 rfl (lv_at hl 2 rfl) ?_
                                      refine lv_lload (pc := 347) hx hb dX3_add_347 (lv_at hl 3 rfl) ?_
                                      refine lv_ladd (pc := 349) hx hb dX3_add_349 ?_
                                      refine lv_lxor (pc := 350) hx hb dX3_add_350 ?_
                                      refine lv_land (pc := 351) hx hb dX3_add_351 ?_
                                      refine lv_lconst (pc := 352) (v := (0 : Int64)) hx hb dX3_add_352 (by decide) ?_
                                      refine qa_joini (J := 362) (ls2 := ls) (rest2 := [.ref qO]) (if (0 : Int64) ≤ ((z2 ^^^ (z2 + z4)) &&& (z4 ^^^ (z2 + z4))) then (0 : Int32) else (1 : Int32)) (fun hj362 => ?_) ?_
                                      · refine qa_lc_ge (pc := 353) (tgt := 361) hx hb dX3_add_353 dX3_add_354 (by decide) (fun h353_24 => ?_) (fun h353_24 => ?_)
                                        · refine lv_iconst (pc := 361) (v := (0 : Int32)) hx hb dX3_add_361 (by decide) ?_
                                          exact hj362 _ (Eq.symm (if_pos h353_24))
                                        · refine lv_iconst (pc := 357) (v := (1 : Int32)) hx hb dX3_add_357 (by decide) ?_
                                          refine lv_goto (pc := 358) (tgt := 362) hx hb dX3_add_358 (by decide) ?_
                                          exact hj362 _ (Eq.symm (if_neg h353_24))
                                      refine lv_lload_n (pc := 362) hx hb dX3_add_362 rfl (lv_at hl 2 rfl) ?_
                                      refine lv_lload (pc := 363) hx hb dX3_add_363 (lv_at hl 3 rfl) ?_
                                      refine lv_ladd (pc := 365) hx hb dX3_add_365 ?_
                                      refine qa_calll (pc := 366) (wr := []) (wf := (wO cI cJ qO oRes oKno oGiv (if (0 : Int64) ≤ ((z2 ^^^ (z2 + z4)) &&& (z4 ^^^ (z2 + z4))) then (0 : Int32) else (1 : Int32)))) (va_runV (As := [.int (if (0 : Int64) ≤ ((z2 ^^^ (z2 + z4)) &&& (z4 ^^^ (z2 + z4))) then (0 : Int32) else (1 : Int32)), .long (z2 + z4)]) (rest := []) ⟨hx, hb, hml, hown, hts⟩ (c_X3_trapIf l dC dI cI cJ qO s.heap.size oRes oKno oGiv oTrp (if (0 : Int64) ≤ ((z2 ^^^ (z2 + z4)) &&& (z4 ^^^ (z2 + z4))) then (0 : Int32) else (1 : Int32)) (z2 + z4) (qa_bi qa_b0 qa_b1)) (cwV 2 hts (gd_V gm_267 gm_265 gm_266 gm_564 gm_4) rfl rfl rfl (by decide +kernel) ⟨Nat.le_of_ble_eq_true rfl, Nat.le_of_ble_eq_true rfl⟩) (qa_VM (q0 := 0) (q := ("LongMachine$Operation", TX3, 4)) hK hP rfl rfl hP hD) rfl rfl hl.1 rfl (lv_room (Nat.le_of_ble_eq_true rfl)) dX3_add_366 ⟨Nat.zero_le _, Nat.zero_le _⟩) hP hD hS hA [0] [] [0] rfl (by decide) rfl (by decide) (by decide) rfl rfl (by decide) (fun H locs hP hD hS => ?_)
                                      subst hu
                                      exact W.lret hx hb hr (fun t ht hW => ⟨rfl, by rw [ht]; exact hP, hS.F ht⟩) hS.2.2 dX3_add_369
                                    · have hu := hu.trans (if_neg h1_23)
                                      have n1_17 : ¬ z1 = (96 : Int32) := h1_23
                                      rcases Decidable.em (z1 = (105 : Int32)) with h1_25 | h1_25
                                      · have hu := hu.trans (if_pos h1_25)
                                        refine lv_lookup (pc := 1) (tgt := 370) (off := 369) hx hb dX3_add_1 (by decide) (by rw [h1_25]; decide) (by decide) ?_
                                        refine lv_aload_n (pc := 370) hx hb dX3_add_370 rfl (lv_at hl 0 rfl) ?_
                                        refine lv_lload_n (pc := 371) hx hb dX3_add_371 rfl (lv_at hl 2 rfl) ?_
                                        refine lv_lload (pc := 372) hx hb dX3_add_372 (lv_at hl 3 rfl) ?_
                                        refine lv_lxor (pc := 374) hx hb dX3_add_374 ?_
                                        refine lv_lload_n (pc := 375) hx hb dX3_add_375 rfl (lv_at hl 2 rfl) ?_
                                        refine lv_lload_n (pc := 376) hx hb dX3_add_376 rfl (lv_at hl 2 rfl) ?_
                                        refine lv_lload (pc := 377) hx hb dX3_add_377 (lv_at hl 3 rfl) ?_
                                        refine lv_lsub (pc := 379) hx hb dX3_add_379 ?_
                                        refine lv_lxor (pc := 380) hx hb dX3_add_380 ?_
                                        refine lv_land (pc := 381) hx hb dX3_add_381 ?_
                                        refine lv_lconst (pc := 382) (v := (0 : Int64)) hx hb dX3_add_382 (by decide) ?_
                                        refine qa_joini (J := 392) (ls2 := ls) (rest2 := [.ref qO]) (if (0 : Int64) ≤ ((z2 ^^^ z4) &&& (z2 ^^^ (z2 - z4))) then (0 : Int32) else (1 : Int32)) (fun hj392 => ?_) ?_
                                        · refine qa_lc_ge (pc := 383) (tgt := 391) hx hb dX3_add_383 dX3_add_384 (by decide) (fun h383_26 => ?_) (fun h383_26 => ?_)
                                          · refine lv_iconst (pc := 391) (v := (0 : Int32)) hx hb dX3_add_391 (by decide) ?_
                                            exact hj392 _ (Eq.symm (if_pos h383_26))
                                          · refine lv_iconst (pc := 387) (v := (1 : Int32)) hx hb dX3_add_387 (by decide) ?_
                                            refine lv_goto (pc := 388) (tgt := 392) hx hb dX3_add_388 (by decide) ?_
                                            exact hj392 _ (Eq.symm (if_neg h383_26))
                                        refine lv_lload_n (pc := 392) hx hb dX3_add_392 rfl (lv_at hl 2 rfl) ?_
                                        refine lv_lload (pc := 393) hx hb dX3_add_393 (lv_at hl 3 rfl) ?_
                                        refine lv_lsub (pc := 395) hx hb dX3_add_395 ?_
                                        refine qa_calll (pc := 396) (wr := []) (wf := (wO cI cJ qO oRes oKno oGiv (if (0 : Int64) ≤ ((z2 ^^^ z4) &&& (z2 ^^^ (z2 - z4))) then (0 : Int32) else (1 : Int32)))) (va_runV (As := [.int (if (0 : Int64) ≤ ((z2 ^^^ z4) &&& (z2 ^^^ (z2 - z4))) then (0 : Int32) else (1 : Int32)), .long (z2 - z4)]) (rest := []) ⟨hx, hb, hml, hown, hts⟩ (c_X3_trapIf l dC dI cI cJ qO s.heap.size oRes oKno oGiv oTrp (if (0 : Int64) ≤ ((z2 ^^^ z4) &&& (z2 ^^^ (z2 - z4))) then (0 : Int32) else (1 : Int32)) (z2 - z4) (qa_bi qa_b0 qa_b1)) (cwV 2 hts (gd_V gm_267 gm_265 gm_266 gm_564 gm_4) rfl rfl rfl (by decide +kernel) ⟨Nat.le_of_ble_eq_true rfl, Nat.le_of_ble_eq_true rfl⟩) (qa_VM (q0 := 0) (q := ("LongMachine$Operation", TX3, 4)) hK hP rfl rfl hP hD) rfl rfl hl.1 rfl (lv_room (Nat.le_of_ble_eq_true rfl)) dX3_add_396 ⟨Nat.zero_le _, Nat.zero_le _⟩) hP hD hS hA [0] [] [0] rfl (by decide) rfl (by decide) (by decide) rfl rfl (by decide) (fun H locs hP hD hS => ?_)
                                        subst hu
                                        exact W.lret hx hb hr (fun t ht hW => ⟨rfl, by rw [ht]; exact hP, hS.F ht⟩) hS.2.2 dX3_add_399
                                      · have hu := hu.trans (if_neg h1_25)
                                        have n1_18 : ¬ z1 = (105 : Int32) := h1_25
                                        rcases Decidable.em (z1 = (109 : Int32)) with h1_27 | h1_27
                                        · have hu := hu.trans (if_pos h1_27)
                                          refine lv_lookup (pc := 1) (tgt := 432) (off := 431) hx hb dX3_add_1 (by decide) (by rw [h1_27]; decide) (by decide) ?_
                                          refine lv_lload_n (pc := 432) hx hb dX3_add_432 rfl (lv_at hl 2 rfl) ?_
                                          refine lv_lload (pc := 433) hx hb dX3_add_433 (lv_at hl 3 rfl) ?_
                                          refine qa_joini (J := 444) (ls2 := ls) (rest2 := []) (if z4 < z2 then (0 : Int32) else (1 : Int32)) (fun hj444 => ?_) ?_
                                          · refine qa_lc_gt (pc := 435) (tgt := 443) hx hb dX3_add_435 dX3_add_436 (by decide) (fun h435_28 => ?_) (fun h435_28 => ?_)
                                            · refine lv_iconst (pc := 443) (v := (0 : Int32)) hx hb dX3_add_443 (by decide) ?_
                                              exact hj444 _ (Eq.symm (if_pos h435_28))
                                            · refine lv_iconst (pc := 439) (v := (1 : Int32)) hx hb dX3_add_439 (by decide) ?_
                                              refine lv_goto (pc := 440) (tgt := 444) hx hb dX3_add_440 (by decide) ?_
                                              exact hj444 _ (Eq.symm (if_neg h435_28))
                                          refine qa_calld (pc := 444) (v := .long (if (if z4 < z2 then (0 : Int32) else (1 : Int32)) = (0 : Int32) then (0 : Int64) else (1 : Int64))) (va_runS (As := [.int (if z4 < z2 then (0 : Int32) else (1 : Int32))]) (rest := []) ⟨hx, hb, hml, hown, hts⟩ (c_X3_truth l (if z4 < z2 then (0 : Int32) else (1 : Int32))) (va_cwS 1 hts (gd_S gm_270 gm_268 gm_269 gm_4) rfl rfl rfl (by decide +kernel) ⟨Nat.le_of_ble_eq_true rfl, Nat.le_of_ble_eq_true rfl⟩) qa_S0 rfl rfl hl.1 rfl (lv_room (Nat.le_of_ble_eq_true rfl)) dX3_add_444 ⟨Nat.zero_le _, Nat.zero_le _⟩) ?_
                                          subst hu
                                          exact W.lret hx hb hr (fun t ht hW => ⟨rfl, by rw [ht]; exact hP, hS.F ht⟩) hS.2.2 dX3_add_447
                                        · have hu := hu.trans (if_neg h1_27)
                                          have n1_19 : ¬ z1 = (109 : Int32) := h1_27
                                          refine lv_lookup (pc := 1) (tgt := 483) (off := 482) hx hb dX3_add_1 (by decide) ((lv_osw n1_0 (by decide)).trans ((lv_osw n1_1 (by decide)).trans ((lv_osw n1_2 (by decide)).trans ((lv_osw n1_3 (by decide)).trans ((lv_osw n1_4 (by decide)).trans ((lv_osw n1_5 (by decide)).trans ((lv_osw n1_6 (by decide)).trans ((lv_osw n1_7 (by decide)).trans ((lv_osw n1_8 (by decide)).trans ((lv_osw n1_9 (by decide)).trans ((lv_osw n1_10 (by decide)).trans ((lv_osw n1_11 (by decide)).trans ((lv_osw n1_12 (by decide)).trans ((lv_osw n1_13 (by decide)).trans ((lv_osw n1_14 (by decide)).trans ((lv_osw n1_15 (by decide)).trans ((lv_osw n1_16 (by decide)).trans ((lv_osw n1_17 (by decide)).trans ((lv_osw n1_18 (by decide)).trans ((lv_osw n1_19 (by decide)).trans (rfl))))))))))))))))))))) (by decide) ?_
                                          refine lv_aload_n (pc := 483) hx hb dX3_add_483 rfl (lv_at hl 0 rfl) ?_
                                          refine lv_iconst (pc := 484) (v := (0 : Int32)) hx hb dX3_add_484 (by decide) ?_
                                          refine va_put (D := (dC, dI)) (pc := 485) (ci := 3) (v := .int (0 : Int32)) (ty := .boolean) (C := "LongMachine$Operation") (T := TX3) (N := 4) hx hb hts ui_X3 tyX3 tyX3_ok nmX3 hown hK hP hD hS 0 rfl rfl 1 (by decide) (hts _ gm_61) (fun _ h9 => h9) rfl (by decide +kernel) rfl rfl (Nat.le_of_ble_eq_true rfl) dX3_add_485 (fun H locs hP hD hS => ?_)
                                          have hP : va_P (dC, dI) vwCl (wO cI cJ qO oRes (0 : Int32) oGiv oTrp) H := hP
                                          have hD : va_D A (wO cI cJ qO oRes (0 : Int32) oGiv oTrp) := hD
                                          refine lv_lconst (pc := 488) (v := (0 : Int64)) hx hb dX3_add_488 (by decide) ?_
                                          subst hu
                                          exact W.lret hx hb hr (fun t ht hW => ⟨rfl, by rw [ht]; exact hP, hS.F ht⟩) hS.2.2 dX3_add_489
set_option maxRecDepth 100000 in
set_option maxHeartbeats 4000000 in
theorem c_X3_onlyIf (l : Launch) (dC : Nat → ClassId) (dI : Nat → Nat → Nat) (cI cJ : ClassId) (qO : Nat) (sz : Nat) (oRes : Int64) (oKno : Int32) (oGiv : Int32) (oTrp : Int32) (z1 : Int32) (z2 : Int64) (hz1 : z1 = 0 ∨ z1 = 1) : Met l yX3_onlyIf (.code yX3_onlyIf cX3_onlyIf 4 (some .long) :: vG) ({ frames := 0, cells := 0, slots := 0, locals := 0 }) (va_Pc [.ref qO, .int z1, .long z2] (qa_pre (dC, dI) vwCl (wO cI cJ qO oRes oKno oGiv oTrp) [(cI, .int), (cJ, .long)] sz)) (qa_mod (some (.long z2)) (dC, dI) vwCl (wO cI cJ qO oRes oKno z1 oTrp) (va_A (wO cI cJ qO oRes oKno oGiv oTrp) sz)) 0 0 (va_A (wO cI cJ qO oRes oKno oGiv oTrp) sz) := by
  refine Met.ofW (cc := cX3_onlyIf) (maxL := 4) (ret := (some .long)) (by decide) rfl ?_
  intro p e s m args below meth c s₁ B hml hv
  obtain ⟨rfl, hsz, hP, hK, hD0⟩ := hv
  have hx := B.exec
  have hb := B.bytes
  have hr := B.returns
  have hts : ∀ w ∈ vG, w.before _ s = true := fun w h => atoms_spec (ws := (.code yX3_onlyIf cX3_onlyIf 4 (some .long) :: vG)) B.pre w (List.mem_cons_of_mem _ h)
  have hown : s.vm.findClass "LongMachine$Operation" = some m.cls := findClass_of_methodNamed B.named
  have hlocks := B.notSynchronized
  subst hsz
  have hD := hD0.self (sz := s.heap.size)
  generalize hAe : va_A (wO cI cJ qO oRes oKno oGiv oTrp) s.heap.size = A at hD ⊢
  have hA : ∀ q : Nat, s.heap.size ≤ q → A q := fun q h => by rw [← hAe]; exact Or.inr h
  have hS : va_S A s.heap s.heap [] := va_S.rf
  have hl := lv_entry ([.ref qO, .int z1, .long z2]) (n := 4) (Nat.le_of_ble_eq_true rfl)
  rw [lg_entry_eq]
  generalize (lg_sl ([.ref qO, .int z1, .long z2]) ++ List.replicate (4 - (lg_sl ([.ref qO, .int z1, .long z2])).length) Slot.unset).toArray = ls at hl ⊢
  have hl : lv_has ls 4 [(0, .ref qO), (1, .int z1), (2, .long z2)] := hl
  refine lv_aload_n (pc := 0) hx hb dX3_onlyIf_0 rfl (lv_at hl 0 rfl) ?_
  refine lv_iload_n (pc := 1) hx hb dX3_onlyIf_1 rfl (lv_at hl 1 rfl) ?_
  refine va_put (D := (dC, dI)) (pc := 2) (ci := 3) (v := .int z1) (ty := .boolean) (C := "LongMachine$Operation") (T := TX3) (N := 4) hx hb hts ui_X3 tyX3 tyX3_ok nmX3 hown hK hP hD hS 0 rfl rfl 2 (by decide) (hts _ gm_63) (fun _ h9 => h9) rfl (by decide +kernel) (qa_nb hz1) (qa_fb hz1) (Nat.le_of_ble_eq_true rfl) dX3_onlyIf_2 (fun H locs hP hD hS => ?_)
  have hP : va_P (dC, dI) vwCl (wO cI cJ qO oRes oKno z1 oTrp) H := hP
  have hD : va_D A (wO cI cJ qO oRes oKno z1 oTrp) := hD
  refine lv_lload_n (pc := 5) hx hb dX3_onlyIf_5 rfl (lv_at hl 2 rfl) ?_
  exact W.lret hx hb hr (fun t ht hW => ⟨rfl, by rw [ht]; exact hP, hS.F ht⟩) hS.2.2 dX3_onlyIf_6
def f_X3_combine (z1 : Int32) (z2 : Int64) (z4 : Int64) (oKno : Int32) (oGiv : Int32) : Int64 × Int32 × Int32 := (if z1 = (0 : Int32) then ((z2 &&& z4), oKno, oGiv) else (if z1 = (8 : Int32) then ((z2 &&& (z4 ^^^ (-1 : Int64))), oKno, oGiv) else (if z1 = (20 : Int32) then (z4, oKno, (if (z2 &&& (1 : Int64)) = (0 : Int64) then (0 : Int32) else (1 : Int32))) else (if z1 = (22 : Int32) then (z4, oKno, (if (z2 &&& (1 : Int64)) = (0 : Int64) then (1 : Int32) else (0 : Int32))) else (if z1 = (32 : Int32) then ((z2 ||| z4), oKno, oGiv) else (if z1 = (36 : Int32) then (z4, oKno, (if z2 = (0 : Int64) then (1 : Int32) else (0 : Int32))) else (if z1 = (38 : Int32) then (z4, oKno, (if z2 = (0 : Int64) then (0 : Int32) else (1 : Int32))) else (if z1 = (40 : Int32) then ((z2 ||| (z4 ^^^ (-1 : Int64))), oKno, oGiv) else (if z1 = (64 : Int32) then ((z2 ^^^ z4), oKno, oGiv) else (if z1 = (68 : Int32) then (z4, oKno, (if (0 : Int64) ≤ z2 then (0 : Int32) else (1 : Int32))) else (if z1 = (70 : Int32) then (z4, oKno, (if z2 < (0 : Int64) then (0 : Int32) else (1 : Int32))) else (if z1 = (72 : Int32) then ((z2 ^^^ (z4 ^^^ (-1 : Int64))), oKno, oGiv) else (if z1 = (100 : Int32) then (z4, oKno, (if (0 : Int64) < z2 then (0 : Int32) else (1 : Int32))) else (if z1 = (102 : Int32) then (z4, oKno, (if z2 ≤ (0 : Int64) then (0 : Int32) else (1 : Int32))) else ((0 : Int64), (0 : Int32), oGiv)))))))))))))))
set_option maxRecDepth 100000 in
set_option maxHeartbeats 4000000 in
theorem c_X3_combine (l : Launch) (dC : Nat → ClassId) (dI : Nat → Nat → Nat) (cI cJ : ClassId) (qO : Nat) (sz : Nat) (oRes : Int64) (oKno : Int32) (oGiv : Int32) (oTrp : Int32) (z1 : Int32) (z2 : Int64) (z4 : Int64) : Met l yX3_combine (.code yX3_combine cX3_combine 6 (some .long) :: vG) ({ frames := 1, cells := 0, slots := 0, locals := 23 }) (va_Pc [.ref qO, .int z1, .long z2, .long z4] (qa_pre (dC, dI) vwCl (wO cI cJ qO oRes oKno oGiv oTrp) [(cI, .int), (cJ, .long)] sz)) (qa_mod (some (.long ((f_X3_combine z1 z2 z4 oKno oGiv).1))) (dC, dI) vwCl (wO cI cJ qO oRes ((f_X3_combine z1 z2 z4 oKno oGiv).2.1) ((f_X3_combine z1 z2 z4 oKno oGiv).2.2) oTrp) (va_A (wO cI cJ qO oRes oKno oGiv oTrp) sz)) 0 0 (va_A (wO cI cJ qO oRes oKno oGiv oTrp) sz) := by
  refine Met.ofW (cc := cX3_combine) (maxL := 6) (ret := (some .long)) (by decide) rfl ?_
  intro p e s m args below meth c s₁ B hml hv
  obtain ⟨rfl, hsz, hP, hK, hD0⟩ := hv
  have hx := B.exec
  have hb := B.bytes
  have hr := B.returns
  have hts : ∀ w ∈ vG, w.before _ s = true := fun w h => atoms_spec (ws := (.code yX3_combine cX3_combine 6 (some .long) :: vG)) B.pre w (List.mem_cons_of_mem _ h)
  have hown : s.vm.findClass "LongMachine$Operation" = some m.cls := findClass_of_methodNamed B.named
  have hlocks := B.notSynchronized
  subst hsz
  have hD := hD0.self (sz := s.heap.size)
  generalize hAe : va_A (wO cI cJ qO oRes oKno oGiv oTrp) s.heap.size = A at hD ⊢
  have hA : ∀ q : Nat, s.heap.size ≤ q → A q := fun q h => by rw [← hAe]; exact Or.inr h
  have hS : va_S A s.heap s.heap [] := va_S.rf
  have hl := lv_entry ([.ref qO, .int z1, .long z2, .long z4]) (n := 6) (Nat.le_of_ble_eq_true rfl)
  rw [lg_entry_eq]
  generalize (lg_sl ([.ref qO, .int z1, .long z2, .long z4]) ++ List.replicate (6 - (lg_sl ([.ref qO, .int z1, .long z2, .long z4])).length) Slot.unset).toArray = ls at hl ⊢
  have hl : lv_has ls 6 [(0, .ref qO), (1, .int z1), (2, .long z2), (4, .long z4)] := hl
  obtain ⟨u, hu⟩ : ∃ u, u = f_X3_combine z1 z2 z4 oKno oGiv := ⟨_, rfl⟩
  rw [← hu]
  unfold f_X3_combine at hu
  refine lv_iload_n (pc := 0) hx hb dX3_combine_0 rfl (lv_at hl 1 rfl) ?_
  rcases Decidable.em (z1 = (0 : Int32)) with h1_1 | h1_1
  · have hu := hu.trans (if_pos h1_1)
    refine lv_lookup (pc := 1) (tgt := 124) (off := 123) hx hb dX3_combine_1 (by decide) (by rw [h1_1]; decide) (by decide) ?_
    refine lv_lload_n (pc := 124) hx hb dX3_combine_124 rfl (lv_at hl 2 rfl) ?_
    refine lv_lload (pc := 125) hx hb dX3_combine_125 (lv_at hl 3 rfl) ?_
    refine lv_land (pc := 127) hx hb dX3_combine_127 ?_
    subst hu
    exact W.lret hx hb hr (fun t ht hW => ⟨rfl, by rw [ht]; exact hP, hS.F ht⟩) hS.2.2 dX3_combine_128
  · have hu := hu.trans (if_neg h1_1)
    have n1_0 : ¬ z1 = (0 : Int32) := h1_1
    rcases Decidable.em (z1 = (8 : Int32)) with h1_2 | h1_2
    · have hu := hu.trans (if_pos h1_2)
      refine lv_lookup (pc := 1) (tgt := 129) (off := 128) hx hb dX3_combine_1 (by decide) (by rw [h1_2]; decide) (by decide) ?_
      refine lv_lload_n (pc := 129) hx hb dX3_combine_129 rfl (lv_at hl 2 rfl) ?_
      refine lv_lload (pc := 130) hx hb dX3_combine_130 (lv_at hl 3 rfl) ?_
      refine lv_ldc2 (pc := 132) (v := (-1 : Int64)) hx hb hown (hts _ gm_282) dX3_combine_132 ?_
      refine lv_lxor (pc := 135) hx hb dX3_combine_135 ?_
      refine lv_land (pc := 136) hx hb dX3_combine_136 ?_
      subst hu
      exact W.lret hx hb hr (fun t ht hW => ⟨rfl, by rw [ht]; exact hP, hS.F ht⟩) hS.2.2 dX3_combine_137
    · have hu := hu.trans (if_neg h1_2)
      have n1_1 : ¬ z1 = (8 : Int32) := h1_2
      rcases Decidable.em (z1 = (20 : Int32)) with h1_3 | h1_3
      · have hu := hu.trans (if_pos h1_3)
        refine lv_lookup (pc := 1) (tgt := 166) (off := 165) hx hb dX3_combine_1 (by decide) (by rw [h1_3]; decide) (by decide) ?_
        refine lv_aload_n (pc := 166) hx hb dX3_combine_166 rfl (lv_at hl 0 rfl) ?_
        refine lv_lload_n (pc := 167) hx hb dX3_combine_167 rfl (lv_at hl 2 rfl) ?_
        refine lv_lconst (pc := 168) (v := (1 : Int64)) hx hb dX3_combine_168 (by decide) ?_
        refine lv_land (pc := 169) hx hb dX3_combine_169 ?_
        refine lv_lconst (pc := 170) (v := (0 : Int64)) hx hb dX3_combine_170 (by decide) ?_
        refine qa_joini (J := 180) (ls2 := ls) (rest2 := [.ref qO]) (if (z2 &&& (1 : Int64)) = (0 : Int64) then (0 : Int32) else (1 : Int32)) (fun hj180 => ?_) ?_
        · refine qa_lc_eq (pc := 171) (tgt := 179) hx hb dX3_combine_171 dX3_combine_172 (by decide) (fun h171_4 => ?_) (fun h171_4 => ?_)
          · refine lv_iconst (pc := 179) (v := (0 : Int32)) hx hb dX3_combine_179 (by decide) ?_
            exact hj180 _ (Eq.symm (if_pos h171_4))
          · refine lv_iconst (pc := 175) (v := (1 : Int32)) hx hb dX3_combine_175 (by decide) ?_
            refine lv_goto (pc := 176) (tgt := 180) hx hb dX3_combine_176 (by decide) ?_
            exact hj180 _ (Eq.symm (if_neg h171_4))
        refine lv_lload (pc := 180) hx hb dX3_combine_180 (lv_at hl 3 rfl) ?_
        refine qa_calll (pc := 182) (wr := []) (wf := (wO cI cJ qO oRes oKno (if (z2 &&& (1 : Int64)) = (0 : Int64) then (0 : Int32) else (1 : Int32)) oTrp)) (va_runV (As := [.int (if (z2 &&& (1 : Int64)) = (0 : Int64) then (0 : Int32) else (1 : Int32)), .long z4]) (rest := []) ⟨hx, hb, hml, hown, hts⟩ (c_X3_onlyIf l dC dI cI cJ qO s.heap.size oRes oKno oGiv oTrp (if (z2 &&& (1 : Int64)) = (0 : Int64) then (0 : Int32) else (1 : Int32)) z4 (qa_bi qa_b0 qa_b1)) (cwV 2 hts (gd_V gm_285 gm_283 gm_284 gm_566 gm_4) rfl rfl rfl (by decide +kernel) ⟨Nat.le_of_ble_eq_true rfl, Nat.le_of_ble_eq_true rfl⟩) (qa_VM (q0 := 0) (q := ("LongMachine$Operation", TX3, 4)) hK hP rfl rfl hP hD) rfl rfl hl.1 rfl (lv_room (Nat.le_of_ble_eq_true rfl)) dX3_combine_182 ⟨Nat.zero_le _, Nat.zero_le _⟩) hP hD hS hA [0] [] [0] rfl (by decide) rfl (by decide) (by decide) rfl rfl (by decide) (fun H locs hP hD hS => ?_)
        subst hu
        exact W.lret hx hb hr (fun t ht hW => ⟨rfl, by rw [ht]; exact hP, hS.F ht⟩) hS.2.2 dX3_combine_185
      · have hu := hu.trans (if_neg h1_3)
        have n1_2 : ¬ z1 = (20 : Int32) := h1_3
        rcases Decidable.em (z1 = (22 : Int32)) with h1_5 | h1_5
        · have hu := hu.trans (if_pos h1_5)
          refine lv_lookup (pc := 1) (tgt := 186) (off := 185) hx hb dX3_combine_1 (by decide) (by rw [h1_5]; decide) (by decide) ?_
          refine lv_aload_n (pc := 186) hx hb dX3_combine_186 rfl (lv_at hl 0 rfl) ?_
          refine lv_lload_n (pc := 187) hx hb dX3_combine_187 rfl (lv_at hl 2 rfl) ?_
          refine lv_lconst (pc := 188) (v := (1 : Int64)) hx hb dX3_combine_188 (by decide) ?_
          refine lv_land (pc := 189) hx hb dX3_combine_189 ?_
          refine lv_lconst (pc := 190) (v := (0 : Int64)) hx hb dX3_combine_190 (by decide) ?_
          refine qa_joini (J := 200) (ls2 := ls) (rest2 := [.ref qO]) (if (z2 &&& (1 : Int64)) = (0 : Int64) then (1 : Int32) else (0 : Int32)) (fun hj200 => ?_) ?_
          · refine qa_lc_ne (pc := 191) (tgt := 199) hx hb dX3_combine_191 dX3_combine_192 (by decide) (fun h191_6 => ?_) (fun h191_6 => ?_)
            · refine lv_iconst (pc := 199) (v := (0 : Int32)) hx hb dX3_combine_199 (by decide) ?_
              exact hj200 _ (Eq.symm (if_neg h191_6))
            · refine lv_iconst (pc := 195) (v := (1 : Int32)) hx hb dX3_combine_195 (by decide) ?_
              refine lv_goto (pc := 196) (tgt := 200) hx hb dX3_combine_196 (by decide) ?_
              exact hj200 _ (Eq.symm (if_pos h191_6))
          refine lv_lload (pc := 200) hx hb dX3_combine_200 (lv_at hl 3 rfl) ?_
          refine qa_calll (pc := 202) (wr := []) (wf := (wO cI cJ qO oRes oKno (if (z2 &&& (1 : Int64)) = (0 : Int64) then (1 : Int32) else (0 : Int32)) oTrp)) (va_runV (As := [.int (if (z2 &&& (1 : Int64)) = (0 : Int64) then (1 : Int32) else (0 : Int32)), .long z4]) (rest := []) ⟨hx, hb, hml, hown, hts⟩ (c_X3_onlyIf l dC dI cI cJ qO s.heap.size oRes oKno oGiv oTrp (if (z2 &&& (1 : Int64)) = (0 : Int64) then (1 : Int32) else (0 : Int32)) z4 (qa_bi qa_b1 qa_b0)) (cwV 2 hts (gd_V gm_285 gm_283 gm_284 gm_566 gm_4) rfl rfl rfl (by decide +kernel) ⟨Nat.le_of_ble_eq_true rfl, Nat.le_of_ble_eq_true rfl⟩) (qa_VM (q0 := 0) (q := ("LongMachine$Operation", TX3, 4)) hK hP rfl rfl hP hD) rfl rfl hl.1 rfl (lv_room (Nat.le_of_ble_eq_true rfl)) dX3_combine_202 ⟨Nat.zero_le _, Nat.zero_le _⟩) hP hD hS hA [0] [] [0] rfl (by decide) rfl (by decide) (by decide) rfl rfl (by decide) (fun H locs hP hD hS => ?_)
          subst hu
          exact W.lret hx hb hr (fun t ht hW => ⟨rfl, by rw [ht]; exact hP, hS.F ht⟩) hS.2.2 dX3_combine_205
        · have hu := hu.trans (if_neg h1_5)
          have n1_3 : ¬ z1 = (22 : Int32) := h1_5
          rcases Decidable.em (z1 = (32 : Int32)) with h1_7 | h1_7
          · have hu := hu.trans (if_pos h1_7)
            refine lv_lookup (pc := 1) (tgt := 138) (off := 137) hx hb dX3_combine_1 (by decide) (by rw [h1_7]; decide) (by decide) ?_
            refine lv_lload_n (pc := 138) hx hb dX3_combine_138 rfl (lv_at hl 2 rfl) ?_
            refine lv_lload (pc := 139) hx hb dX3_combine_139 (lv_at hl 3 rfl) ?_
            refine lv_lor (pc := 141) hx hb dX3_combine_141 ?_
            subst hu
            exact W.lret hx hb hr (fun t ht hW => ⟨rfl, by rw [ht]; exact hP, hS.F ht⟩) hS.2.2 dX3_combine_142
          · have hu := hu.trans (if_neg h1_7)
            have n1_4 : ¬ z1 = (32 : Int32) := h1_7
            rcases Decidable.em (z1 = (36 : Int32)) with h1_8 | h1_8
            · have hu := hu.trans (if_pos h1_8)
              refine lv_lookup (pc := 1) (tgt := 206) (off := 205) hx hb dX3_combine_1 (by decide) (by rw [h1_8]; decide) (by decide) ?_
              refine lv_aload_n (pc := 206) hx hb dX3_combine_206 rfl (lv_at hl 0 rfl) ?_
              refine lv_lload_n (pc := 207) hx hb dX3_combine_207 rfl (lv_at hl 2 rfl) ?_
              refine lv_lconst (pc := 208) (v := (0 : Int64)) hx hb dX3_combine_208 (by decide) ?_
              refine qa_joini (J := 218) (ls2 := ls) (rest2 := [.ref qO]) (if z2 = (0 : Int64) then (1 : Int32) else (0 : Int32)) (fun hj218 => ?_) ?_
              · refine qa_lc_ne (pc := 209) (tgt := 217) hx hb dX3_combine_209 dX3_combine_210 (by decide) (fun h209_9 => ?_) (fun h209_9 => ?_)
                · refine lv_iconst (pc := 217) (v := (0 : Int32)) hx hb dX3_combine_217 (by decide) ?_
                  exact hj218 _ (Eq.symm (if_neg h209_9))
                · refine lv_iconst (pc := 213) (v := (1 : Int32)) hx hb dX3_combine_213 (by decide) ?_
                  refine lv_goto (pc := 214) (tgt := 218) hx hb dX3_combine_214 (by decide) ?_
                  exact hj218 _ (Eq.symm (if_pos h209_9))
              refine lv_lload (pc := 218) hx hb dX3_combine_218 (lv_at hl 3 rfl) ?_
              refine qa_calll (pc := 220) (wr := []) (wf := (wO cI cJ qO oRes oKno (if z2 = (0 : Int64) then (1 : Int32) else (0 : Int32)) oTrp)) (va_runV (As := [.int (if z2 = (0 : Int64) then (1 : Int32) else (0 : Int32)), .long z4]) (rest := []) ⟨hx, hb, hml, hown, hts⟩ (c_X3_onlyIf l dC dI cI cJ qO s.heap.size oRes oKno oGiv oTrp (if z2 = (0 : Int64) then (1 : Int32) else (0 : Int32)) z4 (qa_bi qa_b1 qa_b0)) (cwV 2 hts (gd_V gm_285 gm_283 gm_284 gm_566 gm_4) rfl rfl rfl (by decide +kernel) ⟨Nat.le_of_ble_eq_true rfl, Nat.le_of_ble_eq_true rfl⟩) (qa_VM (q0 := 0) (q := ("LongMachine$Operation", TX3, 4)) hK hP rfl rfl hP hD) rfl rfl hl.1 rfl (lv_room (Nat.le_of_ble_eq_true rfl)) dX3_combine_220 ⟨Nat.zero_le _, Nat.zero_le _⟩) hP hD hS hA [0] [] [0] rfl (by decide) rfl (by decide) (by decide) rfl rfl (by decide) (fun H locs hP hD hS => ?_)
              subst hu
              exact W.lret hx hb hr (fun t ht hW => ⟨rfl, by rw [ht]; exact hP, hS.F ht⟩) hS.2.2 dX3_combine_223
            · have hu := hu.trans (if_neg h1_8)
              have n1_5 : ¬ z1 = (36 : Int32) := h1_8
              rcases Decidable.em (z1 = (38 : Int32)) with h1_10 | h1_10
              · have hu := hu.trans (if_pos h1_10)
                refine lv_lookup (pc := 1) (tgt := 224) (off := 223) hx hb dX3_combine_1 (by decide) (by rw [h1_10]; decide) (by decide) ?_
                refine lv_aload_n (pc := 224) hx hb dX3_combine_224 rfl (lv_at hl 0 rfl) ?_
                refine lv_lload_n (pc := 225) hx hb dX3_combine_225 rfl (lv_at hl 2 rfl) ?_
                refine lv_lconst (pc := 226) (v := (0 : Int64)) hx hb dX3_combine_226 (by decide) ?_
                refine qa_joini (J := 236) (ls2 := ls) (rest2 := [.ref qO]) (if z2 = (0 : Int64) then (0 : Int32) else (1 : Int32)) (fun hj236 => ?_) ?_
                · refine qa_lc_eq (pc := 227) (tgt := 235) hx hb dX3_combine_227 dX3_combine_228 (by decide) (fun h227_11 => ?_) (fun h227_11 => ?_)
                  · refine lv_iconst (pc := 235) (v := (0 : Int32)) hx hb dX3_combine_235 (by decide) ?_
                    exact hj236 _ (Eq.symm (if_pos h227_11))
                  · refine lv_iconst (pc := 231) (v := (1 : Int32)) hx hb dX3_combine_231 (by decide) ?_
                    refine lv_goto (pc := 232) (tgt := 236) hx hb dX3_combine_232 (by decide) ?_
                    exact hj236 _ (Eq.symm (if_neg h227_11))
                refine lv_lload (pc := 236) hx hb dX3_combine_236 (lv_at hl 3 rfl) ?_
                refine qa_calll (pc := 238) (wr := []) (wf := (wO cI cJ qO oRes oKno (if z2 = (0 : Int64) then (0 : Int32) else (1 : Int32)) oTrp)) (va_runV (As := [.int (if z2 = (0 : Int64) then (0 : Int32) else (1 : Int32)), .long z4]) (rest := []) ⟨hx, hb, hml, hown, hts⟩ (c_X3_onlyIf l dC dI cI cJ qO s.heap.size oRes oKno oGiv oTrp (if z2 = (0 : Int64) then (0 : Int32) else (1 : Int32)) z4 (qa_bi qa_b0 qa_b1)) (cwV 2 hts (gd_V gm_285 gm_283 gm_284 gm_566 gm_4) rfl rfl rfl (by decide +kernel) ⟨Nat.le_of_ble_eq_true rfl, Nat.le_of_ble_eq_true rfl⟩) (qa_VM (q0 := 0) (q := ("LongMachine$Operation", TX3, 4)) hK hP rfl rfl hP hD) rfl rfl hl.1 rfl (lv_room (Nat.le_of_ble_eq_true rfl)) dX3_combine_238 ⟨Nat.zero_le _, Nat.zero_le _⟩) hP hD hS hA [0] [] [0] rfl (by decide) rfl (by decide) (by decide) rfl rfl (by decide) (fun H locs hP hD hS => ?_)
                subst hu
                exact W.lret hx hb hr (fun t ht hW => ⟨rfl, by rw [ht]; exact hP, hS.F ht⟩) hS.2.2 dX3_combine_241
              · have hu := hu.trans (if_neg h1_10)
                have n1_6 : ¬ z1 = (38 : Int32) := h1_10
                rcases Decidable.em (z1 = (40 : Int32)) with h1_12 | h1_12
                · have hu := hu.trans (if_pos h1_12)
                  refine lv_lookup (pc := 1) (tgt := 143) (off := 142) hx hb dX3_combine_1 (by decide) (by rw [h1_12]; decide) (by decide) ?_
                  refine lv_lload_n (pc := 143) hx hb dX3_combine_143 rfl (lv_at hl 2 rfl) ?_
                  refine lv_lload (pc := 144) hx hb dX3_combine_144 (lv_at hl 3 rfl) ?_
                  refine lv_ldc2 (pc := 146) (v := (-1 : Int64)) hx hb hown (hts _ gm_282) dX3_combine_146 ?_
                  refine lv_lxor (pc := 149) hx hb dX3_combine_149 ?_
                  refine lv_lor (pc := 150) hx hb dX3_combine_150 ?_
                  subst hu
                  exact W.lret hx hb hr (fun t ht hW => ⟨rfl, by rw [ht]; exact hP, hS.F ht⟩) hS.2.2 dX3_combine_151
                · have hu := hu.trans (if_neg h1_12)
                  have n1_7 : ¬ z1 = (40 : Int32) := h1_12
                  rcases Decidable.em (z1 = (64 : Int32)) with h1_13 | h1_13
                  · have hu := hu.trans (if_pos h1_13)
                    refine lv_lookup (pc := 1) (tgt := 152) (off := 151) hx hb dX3_combine_1 (by decide) (by rw [h1_13]; decide) (by decide) ?_
                    refine lv_lload_n (pc := 152) hx hb dX3_combine_152 rfl (lv_at hl 2 rfl) ?_
                    refine lv_lload (pc := 153) hx hb dX3_combine_153 (lv_at hl 3 rfl) ?_
                    refine lv_lxor (pc := 155) hx hb dX3_combine_155 ?_
                    subst hu
                    exact W.lret hx hb hr (fun t ht hW => ⟨rfl, by rw [ht]; exact hP, hS.F ht⟩) hS.2.2 dX3_combine_156
                  · have hu := hu.trans (if_neg h1_13)
                    have n1_8 : ¬ z1 = (64 : Int32) := h1_13
                    rcases Decidable.em (z1 = (68 : Int32)) with h1_14 | h1_14
                    · have hu := hu.trans (if_pos h1_14)
                      refine lv_lookup (pc := 1) (tgt := 242) (off := 241) hx hb dX3_combine_1 (by decide) (by rw [h1_14]; decide) (by decide) ?_
                      refine lv_aload_n (pc := 242) hx hb dX3_combine_242 rfl (lv_at hl 0 rfl) ?_
                      refine lv_lload_n (pc := 243) hx hb dX3_combine_243 rfl (lv_at hl 2 rfl) ?_
                      refine lv_lconst (pc := 244) (v := (0 : Int64)) hx hb dX3_combine_244 (by decide) ?_
                      refine qa_joini (J := 254) (ls2 := ls) (rest2 := [.ref qO]) (if (0 : Int64) ≤ z2 then (0 : Int32) else (1 : Int32)) (fun hj254 => ?_) ?_
                      · refine qa_lc_ge (pc := 245) (tgt := 253) hx hb dX3_combine_245 dX3_combine_246 (by decide) (fun h245_15 => ?_) (fun h245_15 => ?_)
                        · refine lv_iconst (pc := 253) (v := (0 : Int32)) hx hb dX3_combine_253 (by decide) ?_
                          exact hj254 _ (Eq.symm (if_pos h245_15))
                        · refine lv_iconst (pc := 249) (v := (1 : Int32)) hx hb dX3_combine_249 (by decide) ?_
                          refine lv_goto (pc := 250) (tgt := 254) hx hb dX3_combine_250 (by decide) ?_
                          exact hj254 _ (Eq.symm (if_neg h245_15))
                      refine lv_lload (pc := 254) hx hb dX3_combine_254 (lv_at hl 3 rfl) ?_
                      refine qa_calll (pc := 256) (wr := []) (wf := (wO cI cJ qO oRes oKno (if (0 : Int64) ≤ z2 then (0 : Int32) else (1 : Int32)) oTrp)) (va_runV (As := [.int (if (0 : Int64) ≤ z2 then (0 : Int32) else (1 : Int32)), .long z4]) (rest := []) ⟨hx, hb, hml, hown, hts⟩ (c_X3_onlyIf l dC dI cI cJ qO s.heap.size oRes oKno oGiv oTrp (if (0 : Int64) ≤ z2 then (0 : Int32) else (1 : Int32)) z4 (qa_bi qa_b0 qa_b1)) (cwV 2 hts (gd_V gm_285 gm_283 gm_284 gm_566 gm_4) rfl rfl rfl (by decide +kernel) ⟨Nat.le_of_ble_eq_true rfl, Nat.le_of_ble_eq_true rfl⟩) (qa_VM (q0 := 0) (q := ("LongMachine$Operation", TX3, 4)) hK hP rfl rfl hP hD) rfl rfl hl.1 rfl (lv_room (Nat.le_of_ble_eq_true rfl)) dX3_combine_256 ⟨Nat.zero_le _, Nat.zero_le _⟩) hP hD hS hA [0] [] [0] rfl (by decide) rfl (by decide) (by decide) rfl rfl (by decide) (fun H locs hP hD hS => ?_)
                      subst hu
                      exact W.lret hx hb hr (fun t ht hW => ⟨rfl, by rw [ht]; exact hP, hS.F ht⟩) hS.2.2 dX3_combine_259
                    · have hu := hu.trans (if_neg h1_14)
                      have n1_9 : ¬ z1 = (68 : Int32) := h1_14
                      rcases Decidable.em (z1 = (70 : Int32)) with h1_16 | h1_16
                      · have hu := hu.trans (if_pos h1_16)
                        refine lv_lookup (pc := 1) (tgt := 260) (off := 259) hx hb dX3_combine_1 (by decide) (by rw [h1_16]; decide) (by decide) ?_
                        refine lv_aload_n (pc := 260) hx hb dX3_combine_260 rfl (lv_at hl 0 rfl) ?_
                        refine lv_lload_n (pc := 261) hx hb dX3_combine_261 rfl (lv_at hl 2 rfl) ?_
                        refine lv_lconst (pc := 262) (v := (0 : Int64)) hx hb dX3_combine_262 (by decide) ?_
                        refine qa_joini (J := 272) (ls2 := ls) (rest2 := [.ref qO]) (if z2 < (0 : Int64) then (0 : Int32) else (1 : Int32)) (fun hj272 => ?_) ?_
                        · refine qa_lc_lt (pc := 263) (tgt := 271) hx hb dX3_combine_263 dX3_combine_264 (by decide) (fun h263_17 => ?_) (fun h263_17 => ?_)
                          · refine lv_iconst (pc := 271) (v := (0 : Int32)) hx hb dX3_combine_271 (by decide) ?_
                            exact hj272 _ (Eq.symm (if_pos h263_17))
                          · refine lv_iconst (pc := 267) (v := (1 : Int32)) hx hb dX3_combine_267 (by decide) ?_
                            refine lv_goto (pc := 268) (tgt := 272) hx hb dX3_combine_268 (by decide) ?_
                            exact hj272 _ (Eq.symm (if_neg h263_17))
                        refine lv_lload (pc := 272) hx hb dX3_combine_272 (lv_at hl 3 rfl) ?_
                        refine qa_calll (pc := 274) (wr := []) (wf := (wO cI cJ qO oRes oKno (if z2 < (0 : Int64) then (0 : Int32) else (1 : Int32)) oTrp)) (va_runV (As := [.int (if z2 < (0 : Int64) then (0 : Int32) else (1 : Int32)), .long z4]) (rest := []) ⟨hx, hb, hml, hown, hts⟩ (c_X3_onlyIf l dC dI cI cJ qO s.heap.size oRes oKno oGiv oTrp (if z2 < (0 : Int64) then (0 : Int32) else (1 : Int32)) z4 (qa_bi qa_b0 qa_b1)) (cwV 2 hts (gd_V gm_285 gm_283 gm_284 gm_566 gm_4) rfl rfl rfl (by decide +kernel) ⟨Nat.le_of_ble_eq_true rfl, Nat.le_of_ble_eq_true rfl⟩) (qa_VM (q0 := 0) (q := ("LongMachine$Operation", TX3, 4)) hK hP rfl rfl hP hD) rfl rfl hl.1 rfl (lv_room (Nat.le_of_ble_eq_true rfl)) dX3_combine_274 ⟨Nat.zero_le _, Nat.zero_le _⟩) hP hD hS hA [0] [] [0] rfl (by decide) rfl (by decide) (by decide) rfl rfl (by decide) (fun H locs hP hD hS => ?_)
                        subst hu
                        exact W.lret hx hb hr (fun t ht hW => ⟨rfl, by rw [ht]; exact hP, hS.F ht⟩) hS.2.2 dX3_combine_277
                      · have hu := hu.trans (if_neg h1_16)
                        have n1_10 : ¬ z1 = (70 : Int32) := h1_16
                        rcases Decidable.em (z1 = (72 : Int32)) with h1_18 | h1_18
                        · have hu := hu.trans (if_pos h1_18)
                          refine lv_lookup (pc := 1) (tgt := 157) (off := 156) hx hb dX3_combine_1 (by decide) (by rw [h1_18]; decide) (by decide) ?_
                          refine lv_lload_n (pc := 157) hx hb dX3_combine_157 rfl (lv_at hl 2 rfl) ?_
                          refine lv_lload (pc := 158) hx hb dX3_combine_158 (lv_at hl 3 rfl) ?_
                          refine lv_ldc2 (pc := 160) (v := (-1 : Int64)) hx hb hown (hts _ gm_282) dX3_combine_160 ?_
                          refine lv_lxor (pc := 163) hx hb dX3_combine_163 ?_
                          refine lv_lxor (pc := 164) hx hb dX3_combine_164 ?_
                          subst hu
                          exact W.lret hx hb hr (fun t ht hW => ⟨rfl, by rw [ht]; exact hP, hS.F ht⟩) hS.2.2 dX3_combine_165
                        · have hu := hu.trans (if_neg h1_18)
                          have n1_11 : ¬ z1 = (72 : Int32) := h1_18
                          rcases Decidable.em (z1 = (100 : Int32)) with h1_19 | h1_19
                          · have hu := hu.trans (if_pos h1_19)
                            refine lv_lookup (pc := 1) (tgt := 278) (off := 277) hx hb dX3_combine_1 (by decide) (by rw [h1_19]; decide) (by decide) ?_
                            refine lv_aload_n (pc := 278) hx hb dX3_combine_278 rfl (lv_at hl 0 rfl) ?_
                            refine lv_lload_n (pc := 279) hx hb dX3_combine_279 rfl (lv_at hl 2 rfl) ?_
                            refine lv_lconst (pc := 280) (v := (0 : Int64)) hx hb dX3_combine_280 (by decide) ?_
                            refine qa_joini (J := 290) (ls2 := ls) (rest2 := [.ref qO]) (if (0 : Int64) < z2 then (0 : Int32) else (1 : Int32)) (fun hj290 => ?_) ?_
                            · refine qa_lc_gt (pc := 281) (tgt := 289) hx hb dX3_combine_281 dX3_combine_282 (by decide) (fun h281_20 => ?_) (fun h281_20 => ?_)
                              · refine lv_iconst (pc := 289) (v := (0 : Int32)) hx hb dX3_combine_289 (by decide) ?_
                                exact hj290 _ (Eq.symm (if_pos h281_20))
                              · refine lv_iconst (pc := 285) (v := (1 : Int32)) hx hb dX3_combine_285 (by decide) ?_
                                refine lv_goto (pc := 286) (tgt := 290) hx hb dX3_combine_286 (by decide) ?_
                                exact hj290 _ (Eq.symm (if_neg h281_20))
                            refine lv_lload (pc := 290) hx hb dX3_combine_290 (lv_at hl 3 rfl) ?_
                            refine qa_calll (pc := 292) (wr := []) (wf := (wO cI cJ qO oRes oKno (if (0 : Int64) < z2 then (0 : Int32) else (1 : Int32)) oTrp)) (va_runV (As := [.int (if (0 : Int64) < z2 then (0 : Int32) else (1 : Int32)), .long z4]) (rest := []) ⟨hx, hb, hml, hown, hts⟩ (c_X3_onlyIf l dC dI cI cJ qO s.heap.size oRes oKno oGiv oTrp (if (0 : Int64) < z2 then (0 : Int32) else (1 : Int32)) z4 (qa_bi qa_b0 qa_b1)) (cwV 2 hts (gd_V gm_285 gm_283 gm_284 gm_566 gm_4) rfl rfl rfl (by decide +kernel) ⟨Nat.le_of_ble_eq_true rfl, Nat.le_of_ble_eq_true rfl⟩) (qa_VM (q0 := 0) (q := ("LongMachine$Operation", TX3, 4)) hK hP rfl rfl hP hD) rfl rfl hl.1 rfl (lv_room (Nat.le_of_ble_eq_true rfl)) dX3_combine_292 ⟨Nat.zero_le _, Nat.zero_le _⟩) hP hD hS hA [0] [] [0] rfl (by decide) rfl (by decide) (by decide) rfl rfl (by decide) (fun H locs hP hD hS => ?_)
                            subst hu
                            exact W.lret hx hb hr (fun t ht hW => ⟨rfl, by rw [ht]; exact hP, hS.F ht⟩) hS.2.2 dX3_combine_295
                          · have hu := hu.trans (if_neg h1_19)
                            have n1_12 : ¬ z1 = (100 : Int32) := h1_19
                            rcases Decidable.em (z1 = (102 : Int32)) with h1_21 | h1_21
                            · have hu := hu.trans (if_pos h1_21)
                              refine lv_lookup (pc := 1) (tgt := 296) (off := 295) hx hb dX3_combine_1 (by decide) (by rw [h1_21]; decide) (by decide) ?_
                              refine lv_aload_n (pc := 296) hx hb dX3_combine_296 rfl (lv_at hl 0 rfl) ?_
                              refine lv_lload_n (pc := 297) hx hb dX3_combine_297 rfl (lv_at hl 2 rfl) ?_
                              refine lv_lconst (pc := 298) (v := (0 : Int64)) hx hb dX3_combine_298 (by decide) ?_
                              refine qa_joini (J := 308) (ls2 := ls) (rest2 := [.ref qO]) (if z2 ≤ (0 : Int64) then (0 : Int32) else (1 : Int32)) (fun hj308 => ?_) ?_
                              · refine qa_lc_le (pc := 299) (tgt := 307) hx hb dX3_combine_299 dX3_combine_300 (by decide) (fun h299_22 => ?_) (fun h299_22 => ?_)
                                · refine lv_iconst (pc := 307) (v := (0 : Int32)) hx hb dX3_combine_307 (by decide) ?_
                                  exact hj308 _ (Eq.symm (if_pos h299_22))
                                · refine lv_iconst (pc := 303) (v := (1 : Int32)) hx hb dX3_combine_303 (by decide) ?_
                                  refine lv_goto (pc := 304) (tgt := 308) hx hb dX3_combine_304 (by decide) ?_
                                  exact hj308 _ (Eq.symm (if_neg h299_22))
                              refine lv_lload (pc := 308) hx hb dX3_combine_308 (lv_at hl 3 rfl) ?_
                              refine qa_calll (pc := 310) (wr := []) (wf := (wO cI cJ qO oRes oKno (if z2 ≤ (0 : Int64) then (0 : Int32) else (1 : Int32)) oTrp)) (va_runV (As := [.int (if z2 ≤ (0 : Int64) then (0 : Int32) else (1 : Int32)), .long z4]) (rest := []) ⟨hx, hb, hml, hown, hts⟩ (c_X3_onlyIf l dC dI cI cJ qO s.heap.size oRes oKno oGiv oTrp (if z2 ≤ (0 : Int64) then (0 : Int32) else (1 : Int32)) z4 (qa_bi qa_b0 qa_b1)) (cwV 2 hts (gd_V gm_285 gm_283 gm_284 gm_566 gm_4) rfl rfl rfl (by decide +kernel) ⟨Nat.le_of_ble_eq_true rfl, Nat.le_of_ble_eq_true rfl⟩) (qa_VM (q0 := 0) (q := ("LongMachine$Operation", TX3, 4)) hK hP rfl rfl hP hD) rfl rfl hl.1 rfl (lv_room (Nat.le_of_ble_eq_true rfl)) dX3_combine_310 ⟨Nat.zero_le _, Nat.zero_le _⟩) hP hD hS hA [0] [] [0] rfl (by decide) rfl (by decide) (by decide) rfl rfl (by decide) (fun H locs hP hD hS => ?_)
                              subst hu
                              exact W.lret hx hb hr (fun t ht hW => ⟨rfl, by rw [ht]; exact hP, hS.F ht⟩) hS.2.2 dX3_combine_313
                            · have hu := hu.trans (if_neg h1_21)
                              have n1_13 : ¬ z1 = (102 : Int32) := h1_21
                              refine lv_lookup (pc := 1) (tgt := 314) (off := 313) hx hb dX3_combine_1 (by decide) ((lv_osw n1_0 (by decide)).trans ((lv_osw n1_1 (by decide)).trans ((lv_osw n1_2 (by decide)).trans ((lv_osw n1_3 (by decide)).trans ((lv_osw n1_4 (by decide)).trans ((lv_osw n1_5 (by decide)).trans ((lv_osw n1_6 (by decide)).trans ((lv_osw n1_7 (by decide)).trans ((lv_osw n1_8 (by decide)).trans ((lv_osw n1_9 (by decide)).trans ((lv_osw n1_10 (by decide)).trans ((lv_osw n1_11 (by decide)).trans ((lv_osw n1_12 (by decide)).trans ((lv_osw n1_13 (by decide)).trans (rfl))))))))))))))) (by decide) ?_
                              refine lv_aload_n (pc := 314) hx hb dX3_combine_314 rfl (lv_at hl 0 rfl) ?_
                              refine lv_iconst (pc := 315) (v := (0 : Int32)) hx hb dX3_combine_315 (by decide) ?_
                              refine va_put (D := (dC, dI)) (pc := 316) (ci := 3) (v := .int (0 : Int32)) (ty := .boolean) (C := "LongMachine$Operation") (T := TX3) (N := 4) hx hb hts ui_X3 tyX3 tyX3_ok nmX3 hown hK hP hD hS 0 rfl rfl 1 (by decide) (hts _ gm_61) (fun _ h9 => h9) rfl (by decide +kernel) rfl rfl (Nat.le_of_ble_eq_true rfl) dX3_combine_316 (fun H locs hP hD hS => ?_)
                              have hP : va_P (dC, dI) vwCl (wO cI cJ qO oRes (0 : Int32) oGiv oTrp) H := hP
                              have hD : va_D A (wO cI cJ qO oRes (0 : Int32) oGiv oTrp) := hD
                              refine lv_lconst (pc := 319) (v := (0 : Int64)) hx hb dX3_combine_319 (by decide) ?_
                              subst hu
                              exact W.lret hx hb hr (fun t ht hW => ⟨rfl, by rw [ht]; exact hP, hS.F ht⟩) hS.2.2 dX3_combine_320
def f_X3_bytesOf_B5 (z0 : Int64) : Nat → Int64 → Int32 → Int64
  | 0, k2_5, k4_5 => (0 : Int64)
  | n + 1, k2_5, k4_5 => (if (8 : Int32) ≤ k4_5 then k2_5 else (if ((jlshr z0 k4_5) &&& (1 : Int64)) = (0 : Int64) then (f_X3_bytesOf_B5 z0 n k2_5 (k4_5 + (1 : Int32))) else (f_X3_bytesOf_B5 z0 n (k2_5 ||| (jlshl (255 : Int64) ((8 : Int32) * k4_5))) (k4_5 + (1 : Int32)))))
theorem f_X3_bytesOf_B5_s (z0 : Int64) (n : Nat) (k2_5 : Int64) (k4_5 : Int32) : f_X3_bytesOf_B5 z0 (n + 1) k2_5 k4_5 = (if (8 : Int32) ≤ k4_5 then k2_5 else (if ((jlshr z0 k4_5) &&& (1 : Int64)) = (0 : Int64) then (f_X3_bytesOf_B5 z0 n k2_5 (k4_5 + (1 : Int32))) else (f_X3_bytesOf_B5 z0 n (k2_5 ||| (jlshl (255 : Int64) ((8 : Int32) * k4_5))) (k4_5 + (1 : Int32))))) := rfl
def f_X3_bytesOf (z0 : Int64) : Int64 := (f_X3_bytesOf_B5 z0 9 (0 : Int64) (0 : Int32))
set_option maxRecDepth 100000 in
set_option maxHeartbeats 4000000 in
theorem c_X3_bytesOf (l : Launch) (z0 : Int64) : Met l yX3_bytesOf (.code yX3_bytesOf cX3_bytesOf 5 (some .long) :: vG) ({ frames := 0, cells := 0, slots := 0, locals := 0 }) (va_Pc [.long z0] (fun _ => True)) (qa_det (.long (f_X3_bytesOf z0))) 0 0 (fun _ => False) := by
  refine Met.ofW (cc := cX3_bytesOf) (maxL := 5) (ret := (some .long)) (by decide) rfl ?_
  intro p e s m args below meth c s₁ B hml hv
  obtain ⟨rfl, hv⟩ := hv
  have hx := B.exec
  have hb := B.bytes
  have hr := B.returns
  have hts : ∀ w ∈ vG, w.before _ s = true := fun w h => atoms_spec (ws := (.code yX3_bytesOf cX3_bytesOf 5 (some .long) :: vG)) B.pre w (List.mem_cons_of_mem _ h)
  have hown : s.vm.findClass "LongMachine$Operation" = some m.cls := findClass_of_methodNamed B.named
  have hlocks := B.notSynchronized
  have hl := lv_entry ([.long z0]) (n := 5) (Nat.le_of_ble_eq_true rfl)
  rw [lg_entry_eq]
  generalize (lg_sl ([.long z0]) ++ List.replicate (5 - (lg_sl ([.long z0])).length) Slot.unset).toArray = ls at hl ⊢
  have hl : lv_has ls 5 [(0, .long z0)] := hl
  obtain ⟨u, hu⟩ : ∃ u, u = f_X3_bytesOf z0 := ⟨_, rfl⟩
  rw [← hu]
  unfold f_X3_bytesOf at hu
  refine lv_lconst (pc := 0) (v := (0 : Int64)) hx hb dX3_bytesOf_0 (by decide) ?_
  refine lv_lstore_n (pc := 1) (lv' := [(2, .long (0 : Int64)), (0, .long z0)]) hx hb dX3_bytesOf_1 rfl hl (by decide) rfl (fun ls hl => ?_)
  refine lv_iconst (pc := 2) (v := (0 : Int32)) hx hb dX3_bytesOf_2 (by decide) ?_
  refine lv_istore (pc := 3) (lv' := [(4, .int (0 : Int32)), (2, .long (0 : Int64)), (0, .long z0)]) hx hb dX3_bytesOf_3 hl (by decide) rfl (fun ls hl => ?_)
  have hB5 : ∀ (n : Nat) (k2_5 : Int64) (k4_5 : Int32) (ls : Array Slot) (hq5_fu : ((8 : Int32).toInt - (k4_5).toInt).toNat < n) (hl : lv_has ls 5 [(0, .long z0), (2, .long k2_5), (4, .int k4_5)]) (u : Int64) (hu : u = f_X3_bytesOf_B5 z0 n k2_5 k4_5), W p l e { frames := 0, cells := 0, slots := 0, locals := 0 } s m ([.long z0]).toArray below meth c s.heap [] 0 0 (MQ below (qa_det (.long u)) ([.long z0]).toArray s 0 0 (fun _ => False)) (F0 m 5 ls []) := by
    intro n
    induction n with
    | zero => intro k2_5 k4_5 ls hq5_fu hl u hu; exact absurd hq5_fu (Nat.not_lt_zero _)
    | succ n ih =>
        intro k2_5 k4_5 ls hq5_fu hl u hu
        rw [f_X3_bytesOf_B5_s] at hu
        refine lv_iload (pc := 5) hx hb dX3_bytesOf_5 (lv_at hl 2 rfl) ?_
        refine lv_bipush (pc := 7) (v := (8 : Int32)) hx hb dX3_bytesOf_7 (by decide) ?_
        refine lv_icmp_ge (pc := 9) (tgt := 41) hx hb dX3_bytesOf_9 (by decide) (fun h9_1 => ?_) (fun h9_1 => ?_)
        · have hu := hu.trans (if_pos h9_1)
          refine lv_lload_n (pc := 41) hx hb dX3_bytesOf_41 rfl (lv_at hl 1 rfl) ?_
          subst hu
          exact W.lret hx hb hr (fun t ht hW => ⟨rfl, ht⟩) (fun _ h => by cases h) dX3_bytesOf_42
        · have hu := hu.trans (if_neg h9_1)
          refine lv_lload_n (pc := 12) hx hb dX3_bytesOf_12 rfl (lv_at hl 0 rfl) ?_
          refine lv_iload (pc := 13) hx hb dX3_bytesOf_13 (lv_at hl 2 rfl) ?_
          refine lv_lshr (pc := 15) (v := (jlshr z0 k4_5)) hx hb dX3_bytesOf_15 rfl ?_
          refine lv_lconst (pc := 16) (v := (1 : Int64)) hx hb dX3_bytesOf_16 (by decide) ?_
          refine lv_land (pc := 17) hx hb dX3_bytesOf_17 ?_
          refine lv_lconst (pc := 18) (v := (0 : Int64)) hx hb dX3_bytesOf_18 (by decide) ?_
          refine qa_lc_eq (pc := 19) (tgt := 35) hx hb dX3_bytesOf_19 dX3_bytesOf_20 (by decide) (fun h19_2 => ?_) (fun h19_2 => ?_)
          · have hu := hu.trans (if_pos h19_2)
            refine lv_iinc (pc := 35) (k := 2) (lv' := [(4, .int (k4_5 + (1 : Int32))), (0, .long z0), (2, .long k2_5)]) hx hb dX3_bytesOf_35 hl rfl (qa_inc (by decide) k4_5) (by decide) rfl (fun ls hl => ?_)
            refine lv_goto (pc := 38) (tgt := 5) hx hb dX3_bytesOf_38 (by decide) ?_
            exact ih k2_5 (k4_5 + (1 : Int32)) _ (rg_fs h9_1 hq5_fu) (lv_sub hl [1, 2, 0] rfl) u hu
          · have hu := hu.trans (if_neg h19_2)
            refine lv_lload_n (pc := 23) hx hb dX3_bytesOf_23 rfl (lv_at hl 1 rfl) ?_
            refine lv_ldc2 (pc := 24) (v := (255 : Int64)) hx hb hown (hts _ gm_278) dX3_bytesOf_24 ?_
            refine lv_bipush (pc := 27) (v := (8 : Int32)) hx hb dX3_bytesOf_27 (by decide) ?_
            refine lv_iload (pc := 29) hx hb dX3_bytesOf_29 (lv_at hl 2 rfl) ?_
            refine lv_imul (pc := 31) hx hb dX3_bytesOf_31 ?_
            refine lv_lshl (pc := 32) (v := (jlshl (255 : Int64) ((8 : Int32) * k4_5))) hx hb dX3_bytesOf_32 rfl ?_
            refine lv_lor (pc := 33) hx hb dX3_bytesOf_33 ?_
            refine lv_lstore_n (pc := 34) (lv' := [(2, .long (k2_5 ||| (jlshl (255 : Int64) ((8 : Int32) * k4_5)))), (0, .long z0), (4, .int k4_5)]) hx hb dX3_bytesOf_34 rfl hl (by decide) rfl (fun ls hl => ?_)
            refine lv_iinc (pc := 35) (k := 2) (lv' := [(4, .int (k4_5 + (1 : Int32))), (2, .long (k2_5 ||| (jlshl (255 : Int64) ((8 : Int32) * k4_5)))), (0, .long z0)]) hx hb dX3_bytesOf_35 hl rfl (qa_inc (by decide) k4_5) (by decide) rfl (fun ls hl => ?_)
            refine lv_goto (pc := 38) (tgt := 5) hx hb dX3_bytesOf_38 (by decide) ?_
            exact ih (k2_5 ||| (jlshl (255 : Int64) ((8 : Int32) * k4_5))) (k4_5 + (1 : Int32)) _ (rg_fs h9_1 hq5_fu) (lv_sub hl [2, 1, 0] rfl) u hu
  exact hB5 9 (0 : Int64) (0 : Int32) _ (by decide) (lv_sub hl [2, 1, 0] rfl) u hu
def f_X3_lowPart (z1 : Int32) (z2 : Int64) (z4 : Int32) (z5 : Int64) (oKno : Int32) : Int64 × Int32 := (if (z1 &&& (15 : Int32)) = (2 : Int32) then ((z2 &&& ((jlshl z5 z4) ^^^ (-1 : Int64))), oKno) else (if (z1 &&& (15 : Int32)) = (6 : Int32) then (((jlushr z2 z4) &&& z5), oKno) else (if (z1 &&& (15 : Int32)) = (11 : Int32) then ((jlshl (z2 &&& z5) z4), oKno) else ((0 : Int64), (0 : Int32)))))
set_option maxRecDepth 100000 in
set_option maxHeartbeats 4000000 in
theorem c_X3_lowPart (l : Launch) (dC : Nat → ClassId) (dI : Nat → Nat → Nat) (cI cJ : ClassId) (qO : Nat) (sz : Nat) (oRes : Int64) (oKno : Int32) (oGiv : Int32) (oTrp : Int32) (z1 : Int32) (z2 : Int64) (z4 : Int32) (z5 : Int64) : Met l yX3_lowPart (.code yX3_lowPart cX3_lowPart 7 (some .long) :: vG) ({ frames := 0, cells := 0, slots := 0, locals := 0 }) (va_Pc [.ref qO, .int z1, .long z2, .int z4, .long z5] (qa_pre (dC, dI) vwCl (wO cI cJ qO oRes oKno oGiv oTrp) [(cI, .int), (cJ, .long)] sz)) (qa_mod (some (.long ((f_X3_lowPart z1 z2 z4 z5 oKno).1))) (dC, dI) vwCl (wO cI cJ qO oRes ((f_X3_lowPart z1 z2 z4 z5 oKno).2) oGiv oTrp) (va_A (wO cI cJ qO oRes oKno oGiv oTrp) sz)) 0 0 (va_A (wO cI cJ qO oRes oKno oGiv oTrp) sz) := by
  refine Met.ofW (cc := cX3_lowPart) (maxL := 7) (ret := (some .long)) (by decide) rfl ?_
  intro p e s m args below meth c s₁ B hml hv
  obtain ⟨rfl, hsz, hP, hK, hD0⟩ := hv
  have hx := B.exec
  have hb := B.bytes
  have hr := B.returns
  have hts : ∀ w ∈ vG, w.before _ s = true := fun w h => atoms_spec (ws := (.code yX3_lowPart cX3_lowPart 7 (some .long) :: vG)) B.pre w (List.mem_cons_of_mem _ h)
  have hown : s.vm.findClass "LongMachine$Operation" = some m.cls := findClass_of_methodNamed B.named
  have hlocks := B.notSynchronized
  subst hsz
  have hD := hD0.self (sz := s.heap.size)
  generalize hAe : va_A (wO cI cJ qO oRes oKno oGiv oTrp) s.heap.size = A at hD ⊢
  have hA : ∀ q : Nat, s.heap.size ≤ q → A q := fun q h => by rw [← hAe]; exact Or.inr h
  have hS : va_S A s.heap s.heap [] := va_S.rf
  have hl := lv_entry ([.ref qO, .int z1, .long z2, .int z4, .long z5]) (n := 7) (Nat.le_of_ble_eq_true rfl)
  rw [lg_entry_eq]
  generalize (lg_sl ([.ref qO, .int z1, .long z2, .int z4, .long z5]) ++ List.replicate (7 - (lg_sl ([.ref qO, .int z1, .long z2, .int z4, .long z5])).length) Slot.unset).toArray = ls at hl ⊢
  have hl : lv_has ls 7 [(0, .ref qO), (1, .int z1), (2, .long z2), (4, .int z4), (5, .long z5)] := hl
  obtain ⟨u, hu⟩ : ∃ u, u = f_X3_lowPart z1 z2 z4 z5 oKno := ⟨_, rfl⟩
  rw [← hu]
  unfold f_X3_lowPart at hu
  refine lv_iload_n (pc := 0) hx hb dX3_lowPart_0 rfl (lv_at hl 1 rfl) ?_
  refine lv_bipush (pc := 1) (v := (15 : Int32)) hx hb dX3_lowPart_1 (by decide) ?_
  refine lv_iand (pc := 3) hx hb dX3_lowPart_3 ?_
  rcases Decidable.em ((z1 &&& (15 : Int32)) = (2 : Int32)) with h4_1 | h4_1
  · have hu := hu.trans (if_pos h4_1)
    refine lv_lookup (pc := 4) (tgt := 56) (off := 52) hx hb dX3_lowPart_4 (by decide) (by rw [h4_1]; decide) (by decide) ?_
    refine lv_lload_n (pc := 56) hx hb dX3_lowPart_56 rfl (lv_at hl 2 rfl) ?_
    refine lv_lload (pc := 57) hx hb dX3_lowPart_57 (lv_at hl 4 rfl) ?_
    refine lv_iload (pc := 59) hx hb dX3_lowPart_59 (lv_at hl 3 rfl) ?_
    refine lv_lshl (pc := 61) (v := (jlshl z5 z4)) hx hb dX3_lowPart_61 rfl ?_
    refine lv_ldc2 (pc := 62) (v := (-1 : Int64)) hx hb hown (hts _ gm_282) dX3_lowPart_62 ?_
    refine lv_lxor (pc := 65) hx hb dX3_lowPart_65 ?_
    refine lv_land (pc := 66) hx hb dX3_lowPart_66 ?_
    subst hu
    exact W.lret hx hb hr (fun t ht hW => ⟨rfl, by rw [ht]; exact hP, hS.F ht⟩) hS.2.2 dX3_lowPart_67
  · have hu := hu.trans (if_neg h4_1)
    have n4_0 : ¬ (z1 &&& (15 : Int32)) = (2 : Int32) := h4_1
    rcases Decidable.em ((z1 &&& (15 : Int32)) = (6 : Int32)) with h4_2 | h4_2
    · have hu := hu.trans (if_pos h4_2)
      refine lv_lookup (pc := 4) (tgt := 40) (off := 36) hx hb dX3_lowPart_4 (by decide) (by rw [h4_2]; decide) (by decide) ?_
      refine lv_lload_n (pc := 40) hx hb dX3_lowPart_40 rfl (lv_at hl 2 rfl) ?_
      refine lv_iload (pc := 41) hx hb dX3_lowPart_41 (lv_at hl 3 rfl) ?_
      refine lv_lushr (pc := 43) (v := (jlushr z2 z4)) hx hb dX3_lowPart_43 rfl ?_
      refine lv_lload (pc := 44) hx hb dX3_lowPart_44 (lv_at hl 4 rfl) ?_
      refine lv_land (pc := 46) hx hb dX3_lowPart_46 ?_
      subst hu
      exact W.lret hx hb hr (fun t ht hW => ⟨rfl, by rw [ht]; exact hP, hS.F ht⟩) hS.2.2 dX3_lowPart_47
    · have hu := hu.trans (if_neg h4_2)
      have n4_1 : ¬ (z1 &&& (15 : Int32)) = (6 : Int32) := h4_2
      rcases Decidable.em ((z1 &&& (15 : Int32)) = (11 : Int32)) with h4_3 | h4_3
      · have hu := hu.trans (if_pos h4_3)
        refine lv_lookup (pc := 4) (tgt := 48) (off := 44) hx hb dX3_lowPart_4 (by decide) (by rw [h4_3]; decide) (by decide) ?_
        refine lv_lload_n (pc := 48) hx hb dX3_lowPart_48 rfl (lv_at hl 2 rfl) ?_
        refine lv_lload (pc := 49) hx hb dX3_lowPart_49 (lv_at hl 4 rfl) ?_
        refine lv_land (pc := 51) hx hb dX3_lowPart_51 ?_
        refine lv_iload (pc := 52) hx hb dX3_lowPart_52 (lv_at hl 3 rfl) ?_
        refine lv_lshl (pc := 54) (v := (jlshl (z2 &&& z5) z4)) hx hb dX3_lowPart_54 rfl ?_
        subst hu
        exact W.lret hx hb hr (fun t ht hW => ⟨rfl, by rw [ht]; exact hP, hS.F ht⟩) hS.2.2 dX3_lowPart_55
      · have hu := hu.trans (if_neg h4_3)
        have n4_2 : ¬ (z1 &&& (15 : Int32)) = (11 : Int32) := h4_3
        refine lv_lookup (pc := 4) (tgt := 68) (off := 64) hx hb dX3_lowPart_4 (by decide) ((lv_osw n4_0 (by decide)).trans ((lv_osw n4_1 (by decide)).trans ((lv_osw n4_2 (by decide)).trans (rfl)))) (by decide) ?_
        refine lv_aload_n (pc := 68) hx hb dX3_lowPart_68 rfl (lv_at hl 0 rfl) ?_
        refine lv_iconst (pc := 69) (v := (0 : Int32)) hx hb dX3_lowPart_69 (by decide) ?_
        refine va_put (D := (dC, dI)) (pc := 70) (ci := 3) (v := .int (0 : Int32)) (ty := .boolean) (C := "LongMachine$Operation") (T := TX3) (N := 4) hx hb hts ui_X3 tyX3 tyX3_ok nmX3 hown hK hP hD hS 0 rfl rfl 1 (by decide) (hts _ gm_61) (fun _ h9 => h9) rfl (by decide +kernel) rfl rfl (Nat.le_of_ble_eq_true rfl) dX3_lowPart_70 (fun H locs hP hD hS => ?_)
        have hP : va_P (dC, dI) vwCl (wO cI cJ qO oRes (0 : Int32) oGiv oTrp) H := hP
        have hD : va_D A (wO cI cJ qO oRes (0 : Int32) oGiv oTrp) := hD
        refine lv_lconst (pc := 73) (v := (0 : Int64)) hx hb dX3_lowPart_73 (by decide) ?_
        subst hu
        exact W.lret hx hb hr (fun t ht hW => ⟨rfl, by rw [ht]; exact hP, hS.F ht⟩) hS.2.2 dX3_lowPart_74
def f_X3_highPart (z1 : Int32) (z2 : Int64) (z4 : Int32) (z5 : Int64) (oKno : Int32) : Int64 × Int32 := (if (z1 &&& (48 : Int32)) = (0 : Int32) then ((0 : Int64), (0 : Int32)) else (if (z1 &&& (15 : Int32)) = (2 : Int32) then ((if z4 = (0 : Int32) then z2 else (z2 &&& ((jlushr z5 ((64 : Int32) - z4)) ^^^ (-1 : Int64)))), oKno) else (if (z1 &&& (15 : Int32)) = (7 : Int32) then ((if z4 = (0 : Int32) then (0 : Int64) else (jlushr (z2 &&& z5) ((64 : Int32) - z4))), oKno) else (if (z1 &&& (15 : Int32)) = (10 : Int32) then (((if z4 = (0 : Int32) then z2 else (jlshl z2 ((64 : Int32) - z4))) &&& z5), oKno) else ((0 : Int64), (0 : Int32))))))
set_option maxRecDepth 100000 in
set_option maxHeartbeats 4000000 in
theorem c_X3_highPart (l : Launch) (dC : Nat → ClassId) (dI : Nat → Nat → Nat) (cI cJ : ClassId) (qO : Nat) (sz : Nat) (oRes : Int64) (oKno : Int32) (oGiv : Int32) (oTrp : Int32) (z1 : Int32) (z2 : Int64) (z4 : Int32) (z5 : Int64) : Met l yX3_highPart (.code yX3_highPart cX3_highPart 7 (some .long) :: vG) ({ frames := 0, cells := 0, slots := 0, locals := 0 }) (va_Pc [.ref qO, .int z1, .long z2, .int z4, .long z5] (qa_pre (dC, dI) vwCl (wO cI cJ qO oRes oKno oGiv oTrp) [(cI, .int), (cJ, .long)] sz)) (qa_mod (some (.long ((f_X3_highPart z1 z2 z4 z5 oKno).1))) (dC, dI) vwCl (wO cI cJ qO oRes ((f_X3_highPart z1 z2 z4 z5 oKno).2) oGiv oTrp) (va_A (wO cI cJ qO oRes oKno oGiv oTrp) sz)) 0 0 (va_A (wO cI cJ qO oRes oKno oGiv oTrp) sz) := by
  refine Met.ofW (cc := cX3_highPart) (maxL := 7) (ret := (some .long)) (by decide) rfl ?_
  intro p e s m args below meth c s₁ B hml hv
  obtain ⟨rfl, hsz, hP, hK, hD0⟩ := hv
  have hx := B.exec
  have hb := B.bytes
  have hr := B.returns
  have hts : ∀ w ∈ vG, w.before _ s = true := fun w h => atoms_spec (ws := (.code yX3_highPart cX3_highPart 7 (some .long) :: vG)) B.pre w (List.mem_cons_of_mem _ h)
  have hown : s.vm.findClass "LongMachine$Operation" = some m.cls := findClass_of_methodNamed B.named
  have hlocks := B.notSynchronized
  subst hsz
  have hD := hD0.self (sz := s.heap.size)
  generalize hAe : va_A (wO cI cJ qO oRes oKno oGiv oTrp) s.heap.size = A at hD ⊢
  have hA : ∀ q : Nat, s.heap.size ≤ q → A q := fun q h => by rw [← hAe]; exact Or.inr h
  have hS : va_S A s.heap s.heap [] := va_S.rf
  have hl := lv_entry ([.ref qO, .int z1, .long z2, .int z4, .long z5]) (n := 7) (Nat.le_of_ble_eq_true rfl)
  rw [lg_entry_eq]
  generalize (lg_sl ([.ref qO, .int z1, .long z2, .int z4, .long z5]) ++ List.replicate (7 - (lg_sl ([.ref qO, .int z1, .long z2, .int z4, .long z5])).length) Slot.unset).toArray = ls at hl ⊢
  have hl : lv_has ls 7 [(0, .ref qO), (1, .int z1), (2, .long z2), (4, .int z4), (5, .long z5)] := hl
  obtain ⟨u, hu⟩ : ∃ u, u = f_X3_highPart z1 z2 z4 z5 oKno := ⟨_, rfl⟩
  rw [← hu]
  unfold f_X3_highPart at hu
  refine lv_iload_n (pc := 0) hx hb dX3_highPart_0 rfl (lv_at hl 1 rfl) ?_
  refine lv_bipush (pc := 1) (v := (48 : Int32)) hx hb dX3_highPart_1 (by decide) ?_
  refine lv_iand (pc := 3) hx hb dX3_highPart_3 ?_
  refine lv_if_ne (pc := 4) (tgt := 14) hx hb dX3_highPart_4 (by decide) (fun h4_1 => ?_) (fun h4_1 => ?_)
  · have hu := hu.trans (if_neg h4_1)
    refine lv_iload_n (pc := 14) hx hb dX3_highPart_14 rfl (lv_at hl 1 rfl) ?_
    refine lv_bipush (pc := 15) (v := (15 : Int32)) hx hb dX3_highPart_15 (by decide) ?_
    refine lv_iand (pc := 17) hx hb dX3_highPart_17 ?_
    rcases Decidable.em ((z1 &&& (15 : Int32)) = (2 : Int32)) with h18_2 | h18_2
    · have hu := hu.trans (if_pos h18_2)
      refine lv_lookup (pc := 18) (tgt := 92) (off := 74) hx hb dX3_highPart_18 (by decide) (by rw [h18_2]; decide) (by decide) ?_
      refine lv_iload (pc := 92) hx hb dX3_highPart_92 (lv_at hl 3 rfl) ?_
      refine qa_joinl (J := 115) (ls2 := ls) (rest2 := []) (if z4 = (0 : Int32) then z2 else (z2 &&& ((jlushr z5 ((64 : Int32) - z4)) ^^^ (-1 : Int64)))) (fun hj115 => ?_) ?_
      · refine lv_if_ne (pc := 94) (tgt := 101) hx hb dX3_highPart_94 (by decide) (fun h94_3 => ?_) (fun h94_3 => ?_)
        · refine lv_lload_n (pc := 101) hx hb dX3_highPart_101 rfl (lv_at hl 2 rfl) ?_
          refine lv_lload (pc := 102) hx hb dX3_highPart_102 (lv_at hl 4 rfl) ?_
          refine lv_bipush (pc := 104) (v := (64 : Int32)) hx hb dX3_highPart_104 (by decide) ?_
          refine lv_iload (pc := 106) hx hb dX3_highPart_106 (lv_at hl 3 rfl) ?_
          refine lv_isub (pc := 108) hx hb dX3_highPart_108 ?_
          refine lv_lushr (pc := 109) (v := (jlushr z5 ((64 : Int32) - z4))) hx hb dX3_highPart_109 rfl ?_
          refine lv_ldc2 (pc := 110) (v := (-1 : Int64)) hx hb hown (hts _ gm_282) dX3_highPart_110 ?_
          refine lv_lxor (pc := 113) hx hb dX3_highPart_113 ?_
          refine lv_land (pc := 114) hx hb dX3_highPart_114 ?_
          exact hj115 _ (Eq.symm (if_neg h94_3))
        · refine lv_lload_n (pc := 97) hx hb dX3_highPart_97 rfl (lv_at hl 2 rfl) ?_
          refine lv_goto (pc := 98) (tgt := 115) hx hb dX3_highPart_98 (by decide) ?_
          exact hj115 _ (Eq.symm (if_pos h94_3))
      subst hu
      exact W.lret hx hb hr (fun t ht hW => ⟨rfl, by rw [ht]; exact hP, hS.F ht⟩) hS.2.2 dX3_highPart_115
    · have hu := hu.trans (if_neg h18_2)
      have n18_0 : ¬ (z1 &&& (15 : Int32)) = (2 : Int32) := h18_2
      rcases Decidable.em ((z1 &&& (15 : Int32)) = (7 : Int32)) with h18_4 | h18_4
      · have hu := hu.trans (if_pos h18_4)
        refine lv_lookup (pc := 18) (tgt := 72) (off := 54) hx hb dX3_highPart_18 (by decide) (by rw [h18_4]; decide) (by decide) ?_
        refine lv_iload (pc := 72) hx hb dX3_highPart_72 (lv_at hl 3 rfl) ?_
        refine qa_joinl (J := 91) (ls2 := ls) (rest2 := []) (if z4 = (0 : Int32) then (0 : Int64) else (jlushr (z2 &&& z5) ((64 : Int32) - z4))) (fun hj91 => ?_) ?_
        · refine lv_if_ne (pc := 74) (tgt := 81) hx hb dX3_highPart_74 (by decide) (fun h74_5 => ?_) (fun h74_5 => ?_)
          · refine lv_lload_n (pc := 81) hx hb dX3_highPart_81 rfl (lv_at hl 2 rfl) ?_
            refine lv_lload (pc := 82) hx hb dX3_highPart_82 (lv_at hl 4 rfl) ?_
            refine lv_land (pc := 84) hx hb dX3_highPart_84 ?_
            refine lv_bipush (pc := 85) (v := (64 : Int32)) hx hb dX3_highPart_85 (by decide) ?_
            refine lv_iload (pc := 87) hx hb dX3_highPart_87 (lv_at hl 3 rfl) ?_
            refine lv_isub (pc := 89) hx hb dX3_highPart_89 ?_
            refine lv_lushr (pc := 90) (v := (jlushr (z2 &&& z5) ((64 : Int32) - z4))) hx hb dX3_highPart_90 rfl ?_
            exact hj91 _ (Eq.symm (if_neg h74_5))
          · refine lv_lconst (pc := 77) (v := (0 : Int64)) hx hb dX3_highPart_77 (by decide) ?_
            refine lv_goto (pc := 78) (tgt := 91) hx hb dX3_highPart_78 (by decide) ?_
            exact hj91 _ (Eq.symm (if_pos h74_5))
        subst hu
        exact W.lret hx hb hr (fun t ht hW => ⟨rfl, by rw [ht]; exact hP, hS.F ht⟩) hS.2.2 dX3_highPart_91
      · have hu := hu.trans (if_neg h18_4)
        have n18_1 : ¬ (z1 &&& (15 : Int32)) = (7 : Int32) := h18_4
        rcases Decidable.em ((z1 &&& (15 : Int32)) = (10 : Int32)) with h18_6 | h18_6
        · have hu := hu.trans (if_pos h18_6)
          refine lv_lookup (pc := 18) (tgt := 52) (off := 34) hx hb dX3_highPart_18 (by decide) (by rw [h18_6]; decide) (by decide) ?_
          refine lv_iload (pc := 52) hx hb dX3_highPart_52 (lv_at hl 3 rfl) ?_
          refine qa_joinl (J := 68) (ls2 := ls) (rest2 := []) (if z4 = (0 : Int32) then z2 else (jlshl z2 ((64 : Int32) - z4))) (fun hj68 => ?_) ?_
          · refine lv_if_ne (pc := 54) (tgt := 61) hx hb dX3_highPart_54 (by decide) (fun h54_7 => ?_) (fun h54_7 => ?_)
            · refine lv_lload_n (pc := 61) hx hb dX3_highPart_61 rfl (lv_at hl 2 rfl) ?_
              refine lv_bipush (pc := 62) (v := (64 : Int32)) hx hb dX3_highPart_62 (by decide) ?_
              refine lv_iload (pc := 64) hx hb dX3_highPart_64 (lv_at hl 3 rfl) ?_
              refine lv_isub (pc := 66) hx hb dX3_highPart_66 ?_
              refine lv_lshl (pc := 67) (v := (jlshl z2 ((64 : Int32) - z4))) hx hb dX3_highPart_67 rfl ?_
              exact hj68 _ (Eq.symm (if_neg h54_7))
            · refine lv_lload_n (pc := 57) hx hb dX3_highPart_57 rfl (lv_at hl 2 rfl) ?_
              refine lv_goto (pc := 58) (tgt := 68) hx hb dX3_highPart_58 (by decide) ?_
              exact hj68 _ (Eq.symm (if_pos h54_7))
          refine lv_lload (pc := 68) hx hb dX3_highPart_68 (lv_at hl 4 rfl) ?_
          refine lv_land (pc := 70) hx hb dX3_highPart_70 ?_
          subst hu
          exact W.lret hx hb hr (fun t ht hW => ⟨rfl, by rw [ht]; exact hP, hS.F ht⟩) hS.2.2 dX3_highPart_71
        · have hu := hu.trans (if_neg h18_6)
          have n18_2 : ¬ (z1 &&& (15 : Int32)) = (10 : Int32) := h18_6
          refine lv_lookup (pc := 18) (tgt := 116) (off := 98) hx hb dX3_highPart_18 (by decide) ((lv_osw n18_0 (by decide)).trans ((lv_osw n18_1 (by decide)).trans ((lv_osw n18_2 (by decide)).trans (rfl)))) (by decide) ?_
          refine lv_aload_n (pc := 116) hx hb dX3_highPart_116 rfl (lv_at hl 0 rfl) ?_
          refine lv_iconst (pc := 117) (v := (0 : Int32)) hx hb dX3_highPart_117 (by decide) ?_
          refine va_put (D := (dC, dI)) (pc := 118) (ci := 3) (v := .int (0 : Int32)) (ty := .boolean) (C := "LongMachine$Operation") (T := TX3) (N := 4) hx hb hts ui_X3 tyX3 tyX3_ok nmX3 hown hK hP hD hS 0 rfl rfl 1 (by decide) (hts _ gm_61) (fun _ h9 => h9) rfl (by decide +kernel) rfl rfl (Nat.le_of_ble_eq_true rfl) dX3_highPart_118 (fun H locs hP hD hS => ?_)
          have hP : va_P (dC, dI) vwCl (wO cI cJ qO oRes (0 : Int32) oGiv oTrp) H := hP
          have hD : va_D A (wO cI cJ qO oRes (0 : Int32) oGiv oTrp) := hD
          refine lv_lconst (pc := 121) (v := (0 : Int64)) hx hb dX3_highPart_121 (by decide) ?_
          subst hu
          exact W.lret hx hb hr (fun t ht hW => ⟨rfl, by rw [ht]; exact hP, hS.F ht⟩) hS.2.2 dX3_highPart_122
  · have hu := hu.trans (if_pos h4_1)
    refine lv_aload_n (pc := 7) hx hb dX3_highPart_7 rfl (lv_at hl 0 rfl) ?_
    refine lv_iconst (pc := 8) (v := (0 : Int32)) hx hb dX3_highPart_8 (by decide) ?_
    refine va_put (D := (dC, dI)) (pc := 9) (ci := 3) (v := .int (0 : Int32)) (ty := .boolean) (C := "LongMachine$Operation") (T := TX3) (N := 4) hx hb hts ui_X3 tyX3 tyX3_ok nmX3 hown hK hP hD hS 0 rfl rfl 1 (by decide) (hts _ gm_61) (fun _ h9 => h9) rfl (by decide +kernel) rfl rfl (Nat.le_of_ble_eq_true rfl) dX3_highPart_9 (fun H locs hP hD hS => ?_)
    have hP : va_P (dC, dI) vwCl (wO cI cJ qO oRes (0 : Int32) oGiv oTrp) H := hP
    have hD : va_D A (wO cI cJ qO oRes (0 : Int32) oGiv oTrp) := hD
    refine lv_lconst (pc := 12) (v := (0 : Int64)) hx hb dX3_highPart_12 (by decide) ?_
    subst hu
    exact W.lret hx hb hr (fun t ht hW => ⟨rfl, by rw [ht]; exact hP, hS.F ht⟩) hS.2.2 dX3_highPart_13
def f_X3_shift_K166_1  (r166_1 : Int64 × Int32) : Int64 × Int32 := (r166_1.1, r166_1.2)
def f_X3_shift_K153_2  (r153_2 : Int64 × Int32) : Int64 × Int32 := (r153_2.1, r153_2.2)
def f_X3_shift (z1 : Int32) (z2 : Int64) (z4 : Int64) (oKno : Int32) : Int64 × Int32 := (if z1 = (48 : Int32) then ((z2 &&& ((f_X3_bytesOf z4) ^^^ (-1 : Int64))), oKno) else (if z1 = (49 : Int32) then ((z2 &&& (f_X3_bytesOf z4)), oKno) else (if z1 = (52 : Int32) then ((jlushr z2 ((Int64.toInt32 z4) &&& (63 : Int32))), oKno) else (if z1 = (57 : Int32) then ((jlshl z2 ((Int64.toInt32 z4) &&& (63 : Int32))), oKno) else (if z1 = (60 : Int32) then ((jlshr z2 ((Int64.toInt32 z4) &&& (63 : Int32))), oKno) else (if (z1 &&& (64 : Int32)) = (0 : Int32) then (f_X3_shift_K153_2  (f_X3_lowPart z1 z2 ((8 : Int32) * ((Int64.toInt32 z4) &&& (7 : Int32))) (jlushr (-1 : Int64) ((64 : Int32) - ((8 : Int32) <<< (((z1 >>> ((4 : Int32) &&& (31 : Int32))) &&& (3 : Int32)) &&& (31 : Int32))))) oKno)) else (f_X3_shift_K166_1  (f_X3_highPart z1 z2 ((8 : Int32) * ((Int64.toInt32 z4) &&& (7 : Int32))) (jlushr (-1 : Int64) ((64 : Int32) - ((8 : Int32) <<< (((z1 >>> ((4 : Int32) &&& (31 : Int32))) &&& (3 : Int32)) &&& (31 : Int32))))) oKno))))))))
set_option maxRecDepth 100000 in
set_option maxHeartbeats 4000000 in
theorem c_X3_shift (l : Launch) (dC : Nat → ClassId) (dI : Nat → Nat → Nat) (cI cJ : ClassId) (qO : Nat) (sz : Nat) (oRes : Int64) (oKno : Int32) (oGiv : Int32) (oTrp : Int32) (z1 : Int32) (z2 : Int64) (z4 : Int64) : Met l yX3_shift (.code yX3_shift cX3_shift 10 (some .long) :: vG) ({ frames := 1, cells := 0, slots := 0, locals := 26 }) (va_Pc [.ref qO, .int z1, .long z2, .long z4] (qa_pre (dC, dI) vwCl (wO cI cJ qO oRes oKno oGiv oTrp) [(cI, .int), (cJ, .long)] sz)) (qa_mod (some (.long ((f_X3_shift z1 z2 z4 oKno).1))) (dC, dI) vwCl (wO cI cJ qO oRes ((f_X3_shift z1 z2 z4 oKno).2) oGiv oTrp) (va_A (wO cI cJ qO oRes oKno oGiv oTrp) sz)) 0 0 (va_A (wO cI cJ qO oRes oKno oGiv oTrp) sz) := by
  refine Met.ofW (cc := cX3_shift) (maxL := 10) (ret := (some .long)) (by decide) rfl ?_
  intro p e s m args below meth c s₁ B hml hv
  obtain ⟨rfl, hsz, hP, hK, hD0⟩ := hv
  have hx := B.exec
  have hb := B.bytes
  have hr := B.returns
  have hts : ∀ w ∈ vG, w.before _ s = true := fun w h => atoms_spec (ws := (.code yX3_shift cX3_shift 10 (some .long) :: vG)) B.pre w (List.mem_cons_of_mem _ h)
  have hown : s.vm.findClass "LongMachine$Operation" = some m.cls := findClass_of_methodNamed B.named
  have hlocks := B.notSynchronized
  subst hsz
  have hD := hD0.self (sz := s.heap.size)
  generalize hAe : va_A (wO cI cJ qO oRes oKno oGiv oTrp) s.heap.size = A at hD ⊢
  have hA : ∀ q : Nat, s.heap.size ≤ q → A q := fun q h => by rw [← hAe]; exact Or.inr h
  have hS : va_S A s.heap s.heap [] := va_S.rf
  have hl := lv_entry ([.ref qO, .int z1, .long z2, .long z4]) (n := 10) (Nat.le_of_ble_eq_true rfl)
  rw [lg_entry_eq]
  generalize (lg_sl ([.ref qO, .int z1, .long z2, .long z4]) ++ List.replicate (10 - (lg_sl ([.ref qO, .int z1, .long z2, .long z4])).length) Slot.unset).toArray = ls at hl ⊢
  have hl : lv_has ls 10 [(0, .ref qO), (1, .int z1), (2, .long z2), (4, .long z4)] := hl
  obtain ⟨u, hu⟩ : ∃ u, u = f_X3_shift z1 z2 z4 oKno := ⟨_, rfl⟩
  rw [← hu]
  unfold f_X3_shift at hu
  refine lv_lload (pc := 0) hx hb dX3_shift_0 (lv_at hl 3 rfl) ?_
  refine lv_l2i (pc := 2) (v := (Int64.toInt32 z4)) hx hb dX3_shift_2 rfl ?_
  refine lv_bipush (pc := 3) (v := (63 : Int32)) hx hb dX3_shift_3 (by decide) ?_
  refine lv_iand (pc := 5) hx hb dX3_shift_5 ?_
  refine lv_istore (pc := 6) (lv' := [(6, .int ((Int64.toInt32 z4) &&& (63 : Int32))), (0, .ref qO), (1, .int z1), (2, .long z2), (4, .long z4)]) hx hb dX3_shift_6 hl (by decide) rfl (fun ls hl => ?_)
  refine lv_iload_n (pc := 8) hx hb dX3_shift_8 rfl (lv_at hl 2 rfl) ?_
  rcases Decidable.em (z1 = (48 : Int32)) with h9_1 | h9_1
  · have hu := hu.trans (if_pos h9_1)
    refine qa_table (pc := 9) (tgt := 76) (off := 67) hx hb dX3_shift_9 (Or.inr (by rw [h9_1]; decide)) (by decide) ?_
    refine lv_lload_n (pc := 76) hx hb dX3_shift_76 rfl (lv_at hl 3 rfl) ?_
    refine lv_lload (pc := 77) hx hb dX3_shift_77 (lv_at hl 4 rfl) ?_
    refine qa_calld (pc := 79) (v := .long (f_X3_bytesOf z4)) (va_runS (As := [.long z4]) (rest := [.long z2]) ⟨hx, hb, hml, hown, hts⟩ (c_X3_bytesOf l z4) (va_cwS 1 hts (gd_S gm_291 gm_289 gm_290 gm_4) rfl rfl rfl (by decide +kernel) ⟨Nat.le_of_ble_eq_true rfl, Nat.le_of_ble_eq_true rfl⟩) qa_S0 rfl rfl hl.1 rfl (lv_room (Nat.le_of_ble_eq_true rfl)) dX3_shift_79 ⟨Nat.zero_le _, Nat.zero_le _⟩) ?_
    refine lv_ldc2 (pc := 82) (v := (-1 : Int64)) hx hb hown (hts _ gm_282) dX3_shift_82 ?_
    refine lv_lxor (pc := 85) hx hb dX3_shift_85 ?_
    refine lv_land (pc := 86) hx hb dX3_shift_86 ?_
    subst hu
    exact W.lret hx hb hr (fun t ht hW => ⟨rfl, by rw [ht]; exact hP, hS.F ht⟩) hS.2.2 dX3_shift_87
  · have hu := hu.trans (if_neg h9_1)
    have n9_0 : ¬ z1 = (48 : Int32) := h9_1
    rcases Decidable.em (z1 = (49 : Int32)) with h9_2 | h9_2
    · have hu := hu.trans (if_pos h9_2)
      refine qa_table (pc := 9) (tgt := 88) (off := 79) hx hb dX3_shift_9 (Or.inr (by rw [h9_2]; decide)) (by decide) ?_
      refine lv_lload_n (pc := 88) hx hb dX3_shift_88 rfl (lv_at hl 3 rfl) ?_
      refine lv_lload (pc := 89) hx hb dX3_shift_89 (lv_at hl 4 rfl) ?_
      refine qa_calld (pc := 91) (v := .long (f_X3_bytesOf z4)) (va_runS (As := [.long z4]) (rest := [.long z2]) ⟨hx, hb, hml, hown, hts⟩ (c_X3_bytesOf l z4) (va_cwS 1 hts (gd_S gm_291 gm_289 gm_290 gm_4) rfl rfl rfl (by decide +kernel) ⟨Nat.le_of_ble_eq_true rfl, Nat.le_of_ble_eq_true rfl⟩) qa_S0 rfl rfl hl.1 rfl (lv_room (Nat.le_of_ble_eq_true rfl)) dX3_shift_91 ⟨Nat.zero_le _, Nat.zero_le _⟩) ?_
      refine lv_land (pc := 94) hx hb dX3_shift_94 ?_
      subst hu
      exact W.lret hx hb hr (fun t ht hW => ⟨rfl, by rw [ht]; exact hP, hS.F ht⟩) hS.2.2 dX3_shift_95
    · have hu := hu.trans (if_neg h9_2)
      have n9_1 : ¬ z1 = (49 : Int32) := h9_2
      rcases Decidable.em (z1 = (52 : Int32)) with h9_3 | h9_3
      · have hu := hu.trans (if_pos h9_3)
        refine qa_table (pc := 9) (tgt := 96) (off := 87) hx hb dX3_shift_9 (Or.inr (by rw [h9_3]; decide)) (by decide) ?_
        refine lv_lload_n (pc := 96) hx hb dX3_shift_96 rfl (lv_at hl 3 rfl) ?_
        refine lv_iload (pc := 97) hx hb dX3_shift_97 (lv_at hl 0 rfl) ?_
        refine lv_lushr (pc := 99) (v := (jlushr z2 ((Int64.toInt32 z4) &&& (63 : Int32)))) hx hb dX3_shift_99 rfl ?_
        subst hu
        exact W.lret hx hb hr (fun t ht hW => ⟨rfl, by rw [ht]; exact hP, hS.F ht⟩) hS.2.2 dX3_shift_100
      · have hu := hu.trans (if_neg h9_3)
        have n9_2 : ¬ z1 = (52 : Int32) := h9_3
        rcases Decidable.em (z1 = (57 : Int32)) with h9_4 | h9_4
        · have hu := hu.trans (if_pos h9_4)
          refine qa_table (pc := 9) (tgt := 101) (off := 92) hx hb dX3_shift_9 (Or.inr (by rw [h9_4]; decide)) (by decide) ?_
          refine lv_lload_n (pc := 101) hx hb dX3_shift_101 rfl (lv_at hl 3 rfl) ?_
          refine lv_iload (pc := 102) hx hb dX3_shift_102 (lv_at hl 0 rfl) ?_
          refine lv_lshl (pc := 104) (v := (jlshl z2 ((Int64.toInt32 z4) &&& (63 : Int32)))) hx hb dX3_shift_104 rfl ?_
          subst hu
          exact W.lret hx hb hr (fun t ht hW => ⟨rfl, by rw [ht]; exact hP, hS.F ht⟩) hS.2.2 dX3_shift_105
        · have hu := hu.trans (if_neg h9_4)
          have n9_3 : ¬ z1 = (57 : Int32) := h9_4
          rcases Decidable.em (z1 = (60 : Int32)) with h9_5 | h9_5
          · have hu := hu.trans (if_pos h9_5)
            refine qa_table (pc := 9) (tgt := 106) (off := 97) hx hb dX3_shift_9 (Or.inr (by rw [h9_5]; decide)) (by decide) ?_
            refine lv_lload_n (pc := 106) hx hb dX3_shift_106 rfl (lv_at hl 3 rfl) ?_
            refine lv_iload (pc := 107) hx hb dX3_shift_107 (lv_at hl 0 rfl) ?_
            refine lv_lshr (pc := 109) (v := (jlshr z2 ((Int64.toInt32 z4) &&& (63 : Int32)))) hx hb dX3_shift_109 rfl ?_
            subst hu
            exact W.lret hx hb hr (fun t ht hW => ⟨rfl, by rw [ht]; exact hP, hS.F ht⟩) hS.2.2 dX3_shift_110
          · have hu := hu.trans (if_neg h9_5)
            have n9_4 : ¬ z1 = (60 : Int32) := h9_5
            refine qa_table (pc := 9) (tgt := 111) (off := 102) hx hb dX3_shift_9 (by (rcases Decidable.em ((z1).toInt < 48 ∨ 60 < (z1).toInt) with hh | hh); exact Or.inl ⟨hh, rfl⟩; refine Or.inr ?_; (have := lv_neT n9_0 (by decide : ((48 : Int32)).toInt = 48); have := lv_neT n9_1 (by decide : ((49 : Int32)).toInt = 49); have := lv_neT n9_2 (by decide : ((52 : Int32)).toInt = 52); have := lv_neT n9_3 (by decide : ((57 : Int32)).toInt = 57); have := lv_neT n9_4 (by decide : ((60 : Int32)).toInt = 60)); have hh2 : (z1).toInt = 50 ∨ (z1).toInt = 51 ∨ (z1).toInt = 53 ∨ (z1).toInt = 54 ∨ (z1).toInt = 55 ∨ (z1).toInt = 56 ∨ (z1).toInt = 58 ∨ (z1).toInt = 59 := (by omega); rcases hh2 with h | h | h | h | h | h | h | h <;> (rw [h]; decide)) (by decide) ?_
            refine lv_bipush (pc := 111) (v := (8 : Int32)) hx hb dX3_shift_111 (by decide) ?_
            refine lv_lload (pc := 113) hx hb dX3_shift_113 (lv_at hl 4 rfl) ?_
            refine lv_l2i (pc := 115) (v := (Int64.toInt32 z4)) hx hb dX3_shift_115 rfl ?_
            refine lv_bipush (pc := 116) (v := (7 : Int32)) hx hb dX3_shift_116 (by decide) ?_
            refine lv_iand (pc := 118) hx hb dX3_shift_118 ?_
            refine lv_imul (pc := 119) hx hb dX3_shift_119 ?_
            refine lv_istore (pc := 120) (lv' := [(7, .int ((8 : Int32) * ((Int64.toInt32 z4) &&& (7 : Int32)))), (6, .int ((Int64.toInt32 z4) &&& (63 : Int32))), (0, .ref qO), (1, .int z1), (2, .long z2), (4, .long z4)]) hx hb dX3_shift_120 hl (by decide) rfl (fun ls hl => ?_)
            refine lv_ldc2 (pc := 122) (v := (-1 : Int64)) hx hb hown (hts _ gm_282) dX3_shift_122 ?_
            refine lv_bipush (pc := 125) (v := (64 : Int32)) hx hb dX3_shift_125 (by decide) ?_
            refine lv_bipush (pc := 127) (v := (8 : Int32)) hx hb dX3_shift_127 (by decide) ?_
            refine lv_iload_n (pc := 129) hx hb dX3_shift_129 rfl (lv_at hl 3 rfl) ?_
            refine lv_iconst (pc := 130) (v := (4 : Int32)) hx hb dX3_shift_130 (by decide) ?_
            refine lv_ishr (pc := 131) hx hb dX3_shift_131 ?_
            refine lv_iconst (pc := 132) (v := (3 : Int32)) hx hb dX3_shift_132 (by decide) ?_
            refine lv_iand (pc := 133) hx hb dX3_shift_133 ?_
            refine lv_ishl (pc := 134) hx hb dX3_shift_134 ?_
            refine lv_isub (pc := 135) hx hb dX3_shift_135 ?_
            refine lv_lushr (pc := 136) (v := (jlushr (-1 : Int64) ((64 : Int32) - ((8 : Int32) <<< (((z1 >>> ((4 : Int32) &&& (31 : Int32))) &&& (3 : Int32)) &&& (31 : Int32)))))) hx hb dX3_shift_136 rfl ?_
            refine lv_lstore (pc := 137) (lv' := [(8, .long (jlushr (-1 : Int64) ((64 : Int32) - ((8 : Int32) <<< (((z1 >>> ((4 : Int32) &&& (31 : Int32))) &&& (3 : Int32)) &&& (31 : Int32)))))), (7, .int ((8 : Int32) * ((Int64.toInt32 z4) &&& (7 : Int32)))), (6, .int ((Int64.toInt32 z4) &&& (63 : Int32))), (0, .ref qO), (1, .int z1), (2, .long z2), (4, .long z4)]) hx hb dX3_shift_137 hl (by decide) rfl (fun ls hl => ?_)
            refine lv_iload_n (pc := 139) hx hb dX3_shift_139 rfl (lv_at hl 4 rfl) ?_
            refine lv_bipush (pc := 140) (v := (64 : Int32)) hx hb dX3_shift_140 (by decide) ?_
            refine lv_iand (pc := 142) hx hb dX3_shift_142 ?_
            refine lv_if_ne (pc := 143) (tgt := 159) hx hb dX3_shift_143 (by decide) (fun h143_6 => ?_) (fun h143_6 => ?_)
            · have hu := hu.trans (if_neg h143_6)
              refine lv_aload_n (pc := 159) hx hb dX3_shift_159 rfl (lv_at hl 3 rfl) ?_
              refine lv_iload_n (pc := 160) hx hb dX3_shift_160 rfl (lv_at hl 4 rfl) ?_
              refine lv_lload_n (pc := 161) hx hb dX3_shift_161 rfl (lv_at hl 5 rfl) ?_
              refine lv_iload (pc := 162) hx hb dX3_shift_162 (lv_at hl 1 rfl) ?_
              refine lv_lload (pc := 164) hx hb dX3_shift_164 (lv_at hl 0 rfl) ?_
              have hc := c_X3_highPart l dC dI cI cJ qO s.heap.size oRes oKno oGiv oTrp z1 z2 ((8 : Int32) * ((Int64.toInt32 z4) &&& (7 : Int32))) (jlushr (-1 : Int64) ((64 : Int32) - ((8 : Int32) <<< (((z1 >>> ((4 : Int32) &&& (31 : Int32))) &&& (3 : Int32)) &&& (31 : Int32)))))
              generalize er166_1 : f_X3_highPart z1 z2 ((8 : Int32) * ((Int64.toInt32 z4) &&& (7 : Int32))) (jlushr (-1 : Int64) ((64 : Int32) - ((8 : Int32) <<< (((z1 >>> ((4 : Int32) &&& (31 : Int32))) &&& (3 : Int32)) &&& (31 : Int32))))) oKno = r166_1 at hu hc
              unfold f_X3_shift_K166_1 at hu
              refine qa_calll (pc := 166) (wr := []) (wf := (wO cI cJ qO oRes r166_1.2 oGiv oTrp)) (va_runV (As := [.int z1, .long z2, .int ((8 : Int32) * ((Int64.toInt32 z4) &&& (7 : Int32))), .long (jlushr (-1 : Int64) ((64 : Int32) - ((8 : Int32) <<< (((z1 >>> ((4 : Int32) &&& (31 : Int32))) &&& (3 : Int32)) &&& (31 : Int32)))))]) (rest := []) ⟨hx, hb, hml, hown, hts⟩ hc (cwV 4 hts (gd_V gm_297 gm_295 gm_296 gm_569 gm_4) rfl rfl rfl (by decide +kernel) ⟨Nat.le_of_ble_eq_true rfl, Nat.le_of_ble_eq_true rfl⟩) (qa_VM (q0 := 0) (q := ("LongMachine$Operation", TX3, 4)) hK hP rfl rfl hP hD) rfl rfl hl.1 rfl (lv_room (Nat.le_of_ble_eq_true rfl)) dX3_shift_166 ⟨Nat.zero_le _, Nat.zero_le _⟩) hP hD hS hA [0] [] [0] rfl (by decide) rfl (by decide) (by decide) rfl rfl (by decide) (fun H locs hP hD hS => ?_)
              subst hu
              exact W.lret hx hb hr (fun t ht hW => ⟨rfl, by rw [ht]; exact hP, hS.F ht⟩) hS.2.2 dX3_shift_169
            · have hu := hu.trans (if_pos h143_6)
              refine lv_aload_n (pc := 146) hx hb dX3_shift_146 rfl (lv_at hl 3 rfl) ?_
              refine lv_iload_n (pc := 147) hx hb dX3_shift_147 rfl (lv_at hl 4 rfl) ?_
              refine lv_lload_n (pc := 148) hx hb dX3_shift_148 rfl (lv_at hl 5 rfl) ?_
              refine lv_iload (pc := 149) hx hb dX3_shift_149 (lv_at hl 1 rfl) ?_
              refine lv_lload (pc := 151) hx hb dX3_shift_151 (lv_at hl 0 rfl) ?_
              have hc := c_X3_lowPart l dC dI cI cJ qO s.heap.size oRes oKno oGiv oTrp z1 z2 ((8 : Int32) * ((Int64.toInt32 z4) &&& (7 : Int32))) (jlushr (-1 : Int64) ((64 : Int32) - ((8 : Int32) <<< (((z1 >>> ((4 : Int32) &&& (31 : Int32))) &&& (3 : Int32)) &&& (31 : Int32)))))
              generalize er153_2 : f_X3_lowPart z1 z2 ((8 : Int32) * ((Int64.toInt32 z4) &&& (7 : Int32))) (jlushr (-1 : Int64) ((64 : Int32) - ((8 : Int32) <<< (((z1 >>> ((4 : Int32) &&& (31 : Int32))) &&& (3 : Int32)) &&& (31 : Int32))))) oKno = r153_2 at hu hc
              unfold f_X3_shift_K153_2 at hu
              refine qa_calll (pc := 153) (wr := []) (wf := (wO cI cJ qO oRes r153_2.2 oGiv oTrp)) (va_runV (As := [.int z1, .long z2, .int ((8 : Int32) * ((Int64.toInt32 z4) &&& (7 : Int32))), .long (jlushr (-1 : Int64) ((64 : Int32) - ((8 : Int32) <<< (((z1 >>> ((4 : Int32) &&& (31 : Int32))) &&& (3 : Int32)) &&& (31 : Int32)))))]) (rest := []) ⟨hx, hb, hml, hown, hts⟩ hc (cwV 4 hts (gd_V gm_294 gm_292 gm_293 gm_568 gm_4) rfl rfl rfl (by decide +kernel) ⟨Nat.le_of_ble_eq_true rfl, Nat.le_of_ble_eq_true rfl⟩) (qa_VM (q0 := 0) (q := ("LongMachine$Operation", TX3, 4)) hK hP rfl rfl hP hD) rfl rfl hl.1 rfl (lv_room (Nat.le_of_ble_eq_true rfl)) dX3_shift_153 ⟨Nat.zero_le _, Nat.zero_le _⟩) hP hD hS hA [0] [] [0] rfl (by decide) rfl (by decide) (by decide) rfl rfl (by decide) (fun H locs hP hD hS => ?_)
              refine lv_goto (pc := 156) (tgt := 169) hx hb dX3_shift_156 (by decide) ?_
              subst hu
              exact W.lret hx hb hr (fun t ht hW => ⟨rfl, by rw [ht]; exact hP, hS.F ht⟩) hS.2.2 dX3_shift_169
set_option maxRecDepth 100000 in
set_option maxHeartbeats 4000000 in
theorem c_X3_upper (l : Launch) (z0 : Int64) (z2 : Int64) : Met l yX3_upper (.code yX3_upper cX3_upper 16 (some .long) :: vG) ({ frames := 0, cells := 0, slots := 0, locals := 0 }) (va_Pc [.long z0, .long z2] (fun _ => True)) (qa_det (.long ((((jlushr z0 (32 : Int32)) * (jlushr z2 (32 : Int32))) + (jlushr (((jlushr z0 (32 : Int32)) * (z2 &&& (4294967295 : Int64))) + (jlushr ((z0 &&& (4294967295 : Int64)) * (z2 &&& (4294967295 : Int64))) (32 : Int32))) (32 : Int32))) + (jlushr (((z0 &&& (4294967295 : Int64)) * (jlushr z2 (32 : Int32))) + ((((jlushr z0 (32 : Int32)) * (z2 &&& (4294967295 : Int64))) + (jlushr ((z0 &&& (4294967295 : Int64)) * (z2 &&& (4294967295 : Int64))) (32 : Int32))) &&& (4294967295 : Int64))) (32 : Int32))))) 0 0 (fun _ => False) := by
  refine Met.ofW (cc := cX3_upper) (maxL := 16) (ret := (some .long)) (by decide) rfl ?_
  intro p e s m args below meth c s₁ B hml hv
  obtain ⟨rfl, hv⟩ := hv
  have hx := B.exec
  have hb := B.bytes
  have hr := B.returns
  have hts : ∀ w ∈ vG, w.before _ s = true := fun w h => atoms_spec (ws := (.code yX3_upper cX3_upper 16 (some .long) :: vG)) B.pre w (List.mem_cons_of_mem _ h)
  have hown : s.vm.findClass "LongMachine$Operation" = some m.cls := findClass_of_methodNamed B.named
  have hlocks := B.notSynchronized
  have hl := lv_entry ([.long z0, .long z2]) (n := 16) (Nat.le_of_ble_eq_true rfl)
  rw [lg_entry_eq]
  generalize (lg_sl ([.long z0, .long z2]) ++ List.replicate (16 - (lg_sl ([.long z0, .long z2])).length) Slot.unset).toArray = ls at hl ⊢
  have hl : lv_has ls 16 [(0, .long z0), (2, .long z2)] := hl
  refine lv_lload_n (pc := 0) hx hb dX3_upper_0 rfl (lv_at hl 0 rfl) ?_
  refine lv_ldc2 (pc := 1) (v := (4294967295 : Int64)) hx hb hown (hts _ gm_304) dX3_upper_1 ?_
  refine lv_land (pc := 4) hx hb dX3_upper_4 ?_
  refine lv_lstore (pc := 5) (lv' := [(4, .long (z0 &&& (4294967295 : Int64))), (0, .long z0), (2, .long z2)]) hx hb dX3_upper_5 hl (by decide) rfl (fun ls hl => ?_)
  refine lv_lload_n (pc := 7) hx hb dX3_upper_7 rfl (lv_at hl 2 rfl) ?_
  refine lv_ldc2 (pc := 8) (v := (4294967295 : Int64)) hx hb hown (hts _ gm_304) dX3_upper_8 ?_
  refine lv_land (pc := 11) hx hb dX3_upper_11 ?_
  refine lv_lstore (pc := 12) (lv' := [(6, .long (z2 &&& (4294967295 : Int64))), (4, .long (z0 &&& (4294967295 : Int64))), (0, .long z0), (2, .long z2)]) hx hb dX3_upper_12 hl (by decide) rfl (fun ls hl => ?_)
  refine lv_lload_n (pc := 14) hx hb dX3_upper_14 rfl (lv_at hl 2 rfl) ?_
  refine lv_bipush (pc := 15) (v := (32 : Int32)) hx hb dX3_upper_15 (by decide) ?_
  refine lv_lushr (pc := 17) (v := (jlushr z0 (32 : Int32))) hx hb dX3_upper_17 rfl ?_
  refine lv_lstore (pc := 18) (lv' := [(8, .long (jlushr z0 (32 : Int32))), (6, .long (z2 &&& (4294967295 : Int64))), (4, .long (z0 &&& (4294967295 : Int64))), (0, .long z0), (2, .long z2)]) hx hb dX3_upper_18 hl (by decide) rfl (fun ls hl => ?_)
  refine lv_lload_n (pc := 20) hx hb dX3_upper_20 rfl (lv_at hl 4 rfl) ?_
  refine lv_bipush (pc := 21) (v := (32 : Int32)) hx hb dX3_upper_21 (by decide) ?_
  refine lv_lushr (pc := 23) (v := (jlushr z2 (32 : Int32))) hx hb dX3_upper_23 rfl ?_
  refine lv_lstore (pc := 24) (lv' := [(10, .long (jlushr z2 (32 : Int32))), (8, .long (jlushr z0 (32 : Int32))), (6, .long (z2 &&& (4294967295 : Int64))), (4, .long (z0 &&& (4294967295 : Int64))), (0, .long z0), (2, .long z2)]) hx hb dX3_upper_24 hl (by decide) rfl (fun ls hl => ?_)
  refine lv_lload (pc := 26) hx hb dX3_upper_26 (lv_at hl 1 rfl) ?_
  refine lv_lload (pc := 28) hx hb dX3_upper_28 (lv_at hl 2 rfl) ?_
  refine lv_lmul (pc := 30) hx hb dX3_upper_30 ?_
  refine lv_lload (pc := 31) hx hb dX3_upper_31 (lv_at hl 3 rfl) ?_
  refine lv_lload (pc := 33) hx hb dX3_upper_33 (lv_at hl 2 rfl) ?_
  refine lv_lmul (pc := 35) hx hb dX3_upper_35 ?_
  refine lv_bipush (pc := 36) (v := (32 : Int32)) hx hb dX3_upper_36 (by decide) ?_
  refine lv_lushr (pc := 38) (v := (jlushr ((z0 &&& (4294967295 : Int64)) * (z2 &&& (4294967295 : Int64))) (32 : Int32))) hx hb dX3_upper_38 rfl ?_
  refine lv_ladd (pc := 39) hx hb dX3_upper_39 ?_
  refine lv_lstore (pc := 40) (lv' := [(12, .long (((jlushr z0 (32 : Int32)) * (z2 &&& (4294967295 : Int64))) + (jlushr ((z0 &&& (4294967295 : Int64)) * (z2 &&& (4294967295 : Int64))) (32 : Int32)))), (10, .long (jlushr z2 (32 : Int32))), (8, .long (jlushr z0 (32 : Int32))), (6, .long (z2 &&& (4294967295 : Int64))), (4, .long (z0 &&& (4294967295 : Int64))), (0, .long z0), (2, .long z2)]) hx hb dX3_upper_40 hl (by decide) rfl (fun ls hl => ?_)
  refine lv_lload (pc := 42) hx hb dX3_upper_42 (lv_at hl 4 rfl) ?_
  refine lv_lload (pc := 44) hx hb dX3_upper_44 (lv_at hl 1 rfl) ?_
  refine lv_lmul (pc := 46) hx hb dX3_upper_46 ?_
  refine lv_lload (pc := 47) hx hb dX3_upper_47 (lv_at hl 0 rfl) ?_
  refine lv_ldc2 (pc := 49) (v := (4294967295 : Int64)) hx hb hown (hts _ gm_304) dX3_upper_49 ?_
  refine lv_land (pc := 52) hx hb dX3_upper_52 ?_
  refine lv_ladd (pc := 53) hx hb dX3_upper_53 ?_
  refine lv_lstore (pc := 54) (lv' := [(14, .long (((z0 &&& (4294967295 : Int64)) * (jlushr z2 (32 : Int32))) + ((((jlushr z0 (32 : Int32)) * (z2 &&& (4294967295 : Int64))) + (jlushr ((z0 &&& (4294967295 : Int64)) * (z2 &&& (4294967295 : Int64))) (32 : Int32))) &&& (4294967295 : Int64)))), (12, .long (((jlushr z0 (32 : Int32)) * (z2 &&& (4294967295 : Int64))) + (jlushr ((z0 &&& (4294967295 : Int64)) * (z2 &&& (4294967295 : Int64))) (32 : Int32)))), (10, .long (jlushr z2 (32 : Int32))), (8, .long (jlushr z0 (32 : Int32))), (6, .long (z2 &&& (4294967295 : Int64))), (4, .long (z0 &&& (4294967295 : Int64))), (0, .long z0), (2, .long z2)]) hx hb dX3_upper_54 hl (by decide) rfl (fun ls hl => ?_)
  refine lv_lload (pc := 56) hx hb dX3_upper_56 (lv_at hl 3 rfl) ?_
  refine lv_lload (pc := 58) hx hb dX3_upper_58 (lv_at hl 2 rfl) ?_
  refine lv_lmul (pc := 60) hx hb dX3_upper_60 ?_
  refine lv_lload (pc := 61) hx hb dX3_upper_61 (lv_at hl 1 rfl) ?_
  refine lv_bipush (pc := 63) (v := (32 : Int32)) hx hb dX3_upper_63 (by decide) ?_
  refine lv_lushr (pc := 65) (v := (jlushr (((jlushr z0 (32 : Int32)) * (z2 &&& (4294967295 : Int64))) + (jlushr ((z0 &&& (4294967295 : Int64)) * (z2 &&& (4294967295 : Int64))) (32 : Int32))) (32 : Int32))) hx hb dX3_upper_65 rfl ?_
  refine lv_ladd (pc := 66) hx hb dX3_upper_66 ?_
  refine lv_lload (pc := 67) hx hb dX3_upper_67 (lv_at hl 0 rfl) ?_
  refine lv_bipush (pc := 69) (v := (32 : Int32)) hx hb dX3_upper_69 (by decide) ?_
  refine lv_lushr (pc := 71) (v := (jlushr (((z0 &&& (4294967295 : Int64)) * (jlushr z2 (32 : Int32))) + ((((jlushr z0 (32 : Int32)) * (z2 &&& (4294967295 : Int64))) + (jlushr ((z0 &&& (4294967295 : Int64)) * (z2 &&& (4294967295 : Int64))) (32 : Int32))) &&& (4294967295 : Int64))) (32 : Int32))) hx hb dX3_upper_71 rfl ?_
  refine lv_ladd (pc := 72) hx hb dX3_upper_72 ?_
  exact W.lret hx hb hr (fun t ht hW => ⟨rfl, ht⟩) (fun _ h => by cases h) dX3_upper_73
set_option maxRecDepth 100000 in
set_option maxHeartbeats 4000000 in
theorem c_X3_signedUpper (l : Launch) (z0 : Int64) (z2 : Int64) (z4 : Int64) : Met l yX3_signedUpper (.code yX3_signedUpper cX3_signedUpper 6 (some .long) :: vG) ({ frames := 0, cells := 0, slots := 0, locals := 0 }) (va_Pc [.long z0, .long z2, .long z4] (fun _ => True)) (qa_det (.long ((z0 - (if (0 : Int64) ≤ z2 then (0 : Int64) else z4)) - (if (0 : Int64) ≤ z4 then (0 : Int64) else z2)))) 0 0 (fun _ => False) := by
  refine Met.ofW (cc := cX3_signedUpper) (maxL := 6) (ret := (some .long)) (by decide) rfl ?_
  intro p e s m args below meth c s₁ B hml hv
  obtain ⟨rfl, hv⟩ := hv
  have hx := B.exec
  have hb := B.bytes
  have hr := B.returns
  have hts : ∀ w ∈ vG, w.before _ s = true := fun w h => atoms_spec (ws := (.code yX3_signedUpper cX3_signedUpper 6 (some .long) :: vG)) B.pre w (List.mem_cons_of_mem _ h)
  have hown : s.vm.findClass "LongMachine$Operation" = some m.cls := findClass_of_methodNamed B.named
  have hlocks := B.notSynchronized
  have hl := lv_entry ([.long z0, .long z2, .long z4]) (n := 6) (Nat.le_of_ble_eq_true rfl)
  rw [lg_entry_eq]
  generalize (lg_sl ([.long z0, .long z2, .long z4]) ++ List.replicate (6 - (lg_sl ([.long z0, .long z2, .long z4])).length) Slot.unset).toArray = ls at hl ⊢
  have hl : lv_has ls 6 [(0, .long z0), (2, .long z2), (4, .long z4)] := hl
  refine lv_lload_n (pc := 0) hx hb dX3_signedUpper_0 rfl (lv_at hl 0 rfl) ?_
  refine lv_lload_n (pc := 1) hx hb dX3_signedUpper_1 rfl (lv_at hl 1 rfl) ?_
  refine lv_lconst (pc := 2) (v := (0 : Int64)) hx hb dX3_signedUpper_2 (by decide) ?_
  refine qa_joinl (J := 13) (ls2 := ls) (rest2 := [.long z0]) (if (0 : Int64) ≤ z2 then (0 : Int64) else z4) (fun hj13 => ?_) ?_
  · refine qa_lc_ge (pc := 3) (tgt := 12) hx hb dX3_signedUpper_3 dX3_signedUpper_4 (by decide) (fun h3_1 => ?_) (fun h3_1 => ?_)
    · refine lv_lconst (pc := 12) (v := (0 : Int64)) hx hb dX3_signedUpper_12 (by decide) ?_
      exact hj13 _ (Eq.symm (if_pos h3_1))
    · refine lv_lload (pc := 7) hx hb dX3_signedUpper_7 (lv_at hl 2 rfl) ?_
      refine lv_goto (pc := 9) (tgt := 13) hx hb dX3_signedUpper_9 (by decide) ?_
      exact hj13 _ (Eq.symm (if_neg h3_1))
  refine lv_lsub (pc := 13) hx hb dX3_signedUpper_13 ?_
  refine lv_lload (pc := 14) hx hb dX3_signedUpper_14 (lv_at hl 2 rfl) ?_
  refine lv_lconst (pc := 16) (v := (0 : Int64)) hx hb dX3_signedUpper_16 (by decide) ?_
  refine qa_joinl (J := 26) (ls2 := ls) (rest2 := [.long (z0 - (if (0 : Int64) ≤ z2 then (0 : Int64) else z4))]) (if (0 : Int64) ≤ z4 then (0 : Int64) else z2) (fun hj26 => ?_) ?_
  · refine qa_lc_ge (pc := 17) (tgt := 25) hx hb dX3_signedUpper_17 dX3_signedUpper_18 (by decide) (fun h17_2 => ?_) (fun h17_2 => ?_)
    · refine lv_lconst (pc := 25) (v := (0 : Int64)) hx hb dX3_signedUpper_25 (by decide) ?_
      exact hj26 _ (Eq.symm (if_pos h17_2))
    · refine lv_lload_n (pc := 21) hx hb dX3_signedUpper_21 rfl (lv_at hl 1 rfl) ?_
      refine lv_goto (pc := 22) (tgt := 26) hx hb dX3_signedUpper_22 (by decide) ?_
      exact hj26 _ (Eq.symm (if_neg h17_2))
  refine lv_lsub (pc := 26) hx hb dX3_signedUpper_26 ?_
  exact W.lret hx hb hr (fun t ht hW => ⟨rfl, ht⟩) (fun _ h => by cases h) dX3_signedUpper_27
def f_X3_multiply (z1 : Int32) (z2 : Int64) (z4 : Int64) (oKno : Int32) (oTrp : Int32) : Int64 × Int32 × Int32 := (if z1 = (0 : Int32) then ((Int32.toInt64 (Int64.toInt32 (z2 * z4))), oKno, oTrp) else (if z1 = (32 : Int32) then ((z2 * z4), oKno, oTrp) else (if z1 = (48 : Int32) then (((((jlushr z2 (32 : Int32)) * (jlushr z4 (32 : Int32))) + (jlushr (((jlushr z2 (32 : Int32)) * (z4 &&& (4294967295 : Int64))) + (jlushr ((z2 &&& (4294967295 : Int64)) * (z4 &&& (4294967295 : Int64))) (32 : Int32))) (32 : Int32))) + (jlushr (((z2 &&& (4294967295 : Int64)) * (jlushr z4 (32 : Int32))) + ((((jlushr z2 (32 : Int32)) * (z4 &&& (4294967295 : Int64))) + (jlushr ((z2 &&& (4294967295 : Int64)) * (z4 &&& (4294967295 : Int64))) (32 : Int32))) &&& (4294967295 : Int64))) (32 : Int32))), oKno, oTrp) else (if z1 = (64 : Int32) then ((Int32.toInt64 (Int64.toInt32 (z2 * z4))), oKno, (if (Int32.toInt64 (Int64.toInt32 (z2 * z4))) = ((Int32.toInt64 (Int64.toInt32 z2)) * (Int32.toInt64 (Int64.toInt32 z4))) then (0 : Int32) else (1 : Int32))) else (if z1 = (96 : Int32) then ((z2 * z4), oKno, (if ((((((jlushr z2 (32 : Int32)) * (jlushr z4 (32 : Int32))) + (jlushr (((jlushr z2 (32 : Int32)) * (z4 &&& (4294967295 : Int64))) + (jlushr ((z2 &&& (4294967295 : Int64)) * (z4 &&& (4294967295 : Int64))) (32 : Int32))) (32 : Int32))) + (jlushr (((z2 &&& (4294967295 : Int64)) * (jlushr z4 (32 : Int32))) + ((((jlushr z2 (32 : Int32)) * (z4 &&& (4294967295 : Int64))) + (jlushr ((z2 &&& (4294967295 : Int64)) * (z4 &&& (4294967295 : Int64))) (32 : Int32))) &&& (4294967295 : Int64))) (32 : Int32))) - (if (0 : Int64) ≤ z2 then (0 : Int64) else z4)) - (if (0 : Int64) ≤ z4 then (0 : Int64) else z2)) = (jlshr (z2 * z4) (63 : Int32)) then (0 : Int32) else (1 : Int32))) else ((0 : Int64), (0 : Int32), oTrp))))))
set_option maxRecDepth 100000 in
set_option maxHeartbeats 4000000 in
theorem c_X3_multiply (l : Launch) (dC : Nat → ClassId) (dI : Nat → Nat → Nat) (cI cJ : ClassId) (qO : Nat) (sz : Nat) (oRes : Int64) (oKno : Int32) (oGiv : Int32) (oTrp : Int32) (z1 : Int32) (z2 : Int64) (z4 : Int64) : Met l yX3_multiply (.code yX3_multiply cX3_multiply 6 (some .long) :: vG) ({ frames := 1, cells := 0, slots := 0, locals := 35 }) (va_Pc [.ref qO, .int z1, .long z2, .long z4] (qa_pre (dC, dI) vwCl (wO cI cJ qO oRes oKno oGiv oTrp) [(cI, .int), (cJ, .long)] sz)) (qa_mod (some (.long ((f_X3_multiply z1 z2 z4 oKno oTrp).1))) (dC, dI) vwCl (wO cI cJ qO oRes ((f_X3_multiply z1 z2 z4 oKno oTrp).2.1) oGiv ((f_X3_multiply z1 z2 z4 oKno oTrp).2.2)) (va_A (wO cI cJ qO oRes oKno oGiv oTrp) sz)) 0 0 (va_A (wO cI cJ qO oRes oKno oGiv oTrp) sz) := by
  refine Met.ofW (cc := cX3_multiply) (maxL := 6) (ret := (some .long)) (by decide) rfl ?_
  intro p e s m args below meth c s₁ B hml hv
  obtain ⟨rfl, hsz, hP, hK, hD0⟩ := hv
  have hx := B.exec
  have hb := B.bytes
  have hr := B.returns
  have hts : ∀ w ∈ vG, w.before _ s = true := fun w h => atoms_spec (ws := (.code yX3_multiply cX3_multiply 6 (some .long) :: vG)) B.pre w (List.mem_cons_of_mem _ h)
  have hown : s.vm.findClass "LongMachine$Operation" = some m.cls := findClass_of_methodNamed B.named
  have hlocks := B.notSynchronized
  subst hsz
  have hD := hD0.self (sz := s.heap.size)
  generalize hAe : va_A (wO cI cJ qO oRes oKno oGiv oTrp) s.heap.size = A at hD ⊢
  have hA : ∀ q : Nat, s.heap.size ≤ q → A q := fun q h => by rw [← hAe]; exact Or.inr h
  have hS : va_S A s.heap s.heap [] := va_S.rf
  have hl := lv_entry ([.ref qO, .int z1, .long z2, .long z4]) (n := 6) (Nat.le_of_ble_eq_true rfl)
  rw [lg_entry_eq]
  generalize (lg_sl ([.ref qO, .int z1, .long z2, .long z4]) ++ List.replicate (6 - (lg_sl ([.ref qO, .int z1, .long z2, .long z4])).length) Slot.unset).toArray = ls at hl ⊢
  have hl : lv_has ls 6 [(0, .ref qO), (1, .int z1), (2, .long z2), (4, .long z4)] := hl
  obtain ⟨u, hu⟩ : ∃ u, u = f_X3_multiply z1 z2 z4 oKno oTrp := ⟨_, rfl⟩
  rw [← hu]
  unfold f_X3_multiply at hu
  refine lv_iload_n (pc := 0) hx hb dX3_multiply_0 rfl (lv_at hl 1 rfl) ?_
  rcases Decidable.em (z1 = (0 : Int32)) with h1_1 | h1_1
  · have hu := hu.trans (if_pos h1_1)
    refine lv_lookup (pc := 1) (tgt := 52) (off := 51) hx hb dX3_multiply_1 (by decide) (by rw [h1_1]; decide) (by decide) ?_
    refine lv_lload_n (pc := 52) hx hb dX3_multiply_52 rfl (lv_at hl 2 rfl) ?_
    refine lv_lload (pc := 53) hx hb dX3_multiply_53 (lv_at hl 3 rfl) ?_
    refine lv_lmul (pc := 55) hx hb dX3_multiply_55 ?_
    refine qa_calld (pc := 56) (v := .long (Int32.toInt64 (Int64.toInt32 (z2 * z4)))) (va_runS (As := [.long (z2 * z4)]) (rest := []) ⟨hx, hb, hml, hown, hts⟩ (c_X3_sx l (z2 * z4)) (va_cwS 1 hts (gd_S gm_262 gm_260 gm_261 gm_4) rfl rfl rfl (by decide +kernel) ⟨Nat.le_of_ble_eq_true rfl, Nat.le_of_ble_eq_true rfl⟩) qa_S0 rfl rfl hl.1 rfl (lv_room (Nat.le_of_ble_eq_true rfl)) dX3_multiply_56 ⟨Nat.zero_le _, Nat.zero_le _⟩) ?_
    subst hu
    exact W.lret hx hb hr (fun t ht hW => ⟨rfl, by rw [ht]; exact hP, hS.F ht⟩) hS.2.2 dX3_multiply_59
  · have hu := hu.trans (if_neg h1_1)
    have n1_0 : ¬ z1 = (0 : Int32) := h1_1
    rcases Decidable.em (z1 = (32 : Int32)) with h1_2 | h1_2
    · have hu := hu.trans (if_pos h1_2)
      refine lv_lookup (pc := 1) (tgt := 60) (off := 59) hx hb dX3_multiply_1 (by decide) (by rw [h1_2]; decide) (by decide) ?_
      refine lv_lload_n (pc := 60) hx hb dX3_multiply_60 rfl (lv_at hl 2 rfl) ?_
      refine lv_lload (pc := 61) hx hb dX3_multiply_61 (lv_at hl 3 rfl) ?_
      refine lv_lmul (pc := 63) hx hb dX3_multiply_63 ?_
      subst hu
      exact W.lret hx hb hr (fun t ht hW => ⟨rfl, by rw [ht]; exact hP, hS.F ht⟩) hS.2.2 dX3_multiply_64
    · have hu := hu.trans (if_neg h1_2)
      have n1_1 : ¬ z1 = (32 : Int32) := h1_2
      rcases Decidable.em (z1 = (48 : Int32)) with h1_3 | h1_3
      · have hu := hu.trans (if_pos h1_3)
        refine lv_lookup (pc := 1) (tgt := 65) (off := 64) hx hb dX3_multiply_1 (by decide) (by rw [h1_3]; decide) (by decide) ?_
        refine lv_lload_n (pc := 65) hx hb dX3_multiply_65 rfl (lv_at hl 2 rfl) ?_
        refine lv_lload (pc := 66) hx hb dX3_multiply_66 (lv_at hl 3 rfl) ?_
        refine qa_calld (pc := 68) (v := .long ((((jlushr z2 (32 : Int32)) * (jlushr z4 (32 : Int32))) + (jlushr (((jlushr z2 (32 : Int32)) * (z4 &&& (4294967295 : Int64))) + (jlushr ((z2 &&& (4294967295 : Int64)) * (z4 &&& (4294967295 : Int64))) (32 : Int32))) (32 : Int32))) + (jlushr (((z2 &&& (4294967295 : Int64)) * (jlushr z4 (32 : Int32))) + ((((jlushr z2 (32 : Int32)) * (z4 &&& (4294967295 : Int64))) + (jlushr ((z2 &&& (4294967295 : Int64)) * (z4 &&& (4294967295 : Int64))) (32 : Int32))) &&& (4294967295 : Int64))) (32 : Int32)))) (va_runS (As := [.long z2, .long z4]) (rest := []) ⟨hx, hb, hml, hown, hts⟩ (c_X3_upper l z2 z4) (va_cwS 2 hts (gd_S gm_303 gm_301 gm_302 gm_4) rfl rfl rfl (by decide +kernel) ⟨Nat.le_of_ble_eq_true rfl, Nat.le_of_ble_eq_true rfl⟩) qa_S0 rfl rfl hl.1 rfl (lv_room (Nat.le_of_ble_eq_true rfl)) dX3_multiply_68 ⟨Nat.zero_le _, Nat.zero_le _⟩) ?_
        subst hu
        exact W.lret hx hb hr (fun t ht hW => ⟨rfl, by rw [ht]; exact hP, hS.F ht⟩) hS.2.2 dX3_multiply_71
      · have hu := hu.trans (if_neg h1_3)
        have n1_2 : ¬ z1 = (48 : Int32) := h1_3
        rcases Decidable.em (z1 = (64 : Int32)) with h1_4 | h1_4
        · have hu := hu.trans (if_pos h1_4)
          refine lv_lookup (pc := 1) (tgt := 72) (off := 71) hx hb dX3_multiply_1 (by decide) (by rw [h1_4]; decide) (by decide) ?_
          refine lv_aload_n (pc := 72) hx hb dX3_multiply_72 rfl (lv_at hl 0 rfl) ?_
          refine lv_lload_n (pc := 73) hx hb dX3_multiply_73 rfl (lv_at hl 2 rfl) ?_
          refine lv_lload (pc := 74) hx hb dX3_multiply_74 (lv_at hl 3 rfl) ?_
          refine lv_lmul (pc := 76) hx hb dX3_multiply_76 ?_
          refine qa_calld (pc := 77) (v := .long (Int32.toInt64 (Int64.toInt32 (z2 * z4)))) (va_runS (As := [.long (z2 * z4)]) (rest := [.ref qO]) ⟨hx, hb, hml, hown, hts⟩ (c_X3_sx l (z2 * z4)) (va_cwS 1 hts (gd_S gm_262 gm_260 gm_261 gm_4) rfl rfl rfl (by decide +kernel) ⟨Nat.le_of_ble_eq_true rfl, Nat.le_of_ble_eq_true rfl⟩) qa_S0 rfl rfl hl.1 rfl (lv_room (Nat.le_of_ble_eq_true rfl)) dX3_multiply_77 ⟨Nat.zero_le _, Nat.zero_le _⟩) ?_
          refine lv_lload_n (pc := 80) hx hb dX3_multiply_80 rfl (lv_at hl 2 rfl) ?_
          refine qa_calld (pc := 81) (v := .long (Int32.toInt64 (Int64.toInt32 z2))) (va_runS (As := [.long z2]) (rest := [.long (Int32.toInt64 (Int64.toInt32 (z2 * z4))), .ref qO]) ⟨hx, hb, hml, hown, hts⟩ (c_X3_sx l z2) (va_cwS 1 hts (gd_S gm_262 gm_260 gm_261 gm_4) rfl rfl rfl (by decide +kernel) ⟨Nat.le_of_ble_eq_true rfl, Nat.le_of_ble_eq_true rfl⟩) qa_S0 rfl rfl hl.1 rfl (lv_room (Nat.le_of_ble_eq_true rfl)) dX3_multiply_81 ⟨Nat.zero_le _, Nat.zero_le _⟩) ?_
          refine lv_lload (pc := 84) hx hb dX3_multiply_84 (lv_at hl 3 rfl) ?_
          refine qa_calld (pc := 86) (v := .long (Int32.toInt64 (Int64.toInt32 z4))) (va_runS (As := [.long z4]) (rest := [.long (Int32.toInt64 (Int64.toInt32 z2)), .long (Int32.toInt64 (Int64.toInt32 (z2 * z4))), .ref qO]) ⟨hx, hb, hml, hown, hts⟩ (c_X3_sx l z4) (va_cwS 1 hts (gd_S gm_262 gm_260 gm_261 gm_4) rfl rfl rfl (by decide +kernel) ⟨Nat.le_of_ble_eq_true rfl, Nat.le_of_ble_eq_true rfl⟩) qa_S0 rfl rfl hl.1 rfl (lv_room (Nat.le_of_ble_eq_true rfl)) dX3_multiply_86 ⟨Nat.zero_le _, Nat.zero_le _⟩) ?_
          refine lv_lmul (pc := 89) hx hb dX3_multiply_89 ?_
          refine qa_joini (J := 99) (ls2 := ls) (rest2 := [.ref qO]) (if (Int32.toInt64 (Int64.toInt32 (z2 * z4))) = ((Int32.toInt64 (Int64.toInt32 z2)) * (Int32.toInt64 (Int64.toInt32 z4))) then (0 : Int32) else (1 : Int32)) (fun hj99 => ?_) ?_
          · refine qa_lc_eq (pc := 90) (tgt := 98) hx hb dX3_multiply_90 dX3_multiply_91 (by decide) (fun h90_5 => ?_) (fun h90_5 => ?_)
            · refine lv_iconst (pc := 98) (v := (0 : Int32)) hx hb dX3_multiply_98 (by decide) ?_
              exact hj99 _ (Eq.symm (if_pos h90_5))
            · refine lv_iconst (pc := 94) (v := (1 : Int32)) hx hb dX3_multiply_94 (by decide) ?_
              refine lv_goto (pc := 95) (tgt := 99) hx hb dX3_multiply_95 (by decide) ?_
              exact hj99 _ (Eq.symm (if_neg h90_5))
          refine lv_lload_n (pc := 99) hx hb dX3_multiply_99 rfl (lv_at hl 2 rfl) ?_
          refine lv_lload (pc := 100) hx hb dX3_multiply_100 (lv_at hl 3 rfl) ?_
          refine lv_lmul (pc := 102) hx hb dX3_multiply_102 ?_
          refine qa_calld (pc := 103) (v := .long (Int32.toInt64 (Int64.toInt32 (z2 * z4)))) (va_runS (As := [.long (z2 * z4)]) (rest := [.int (if (Int32.toInt64 (Int64.toInt32 (z2 * z4))) = ((Int32.toInt64 (Int64.toInt32 z2)) * (Int32.toInt64 (Int64.toInt32 z4))) then (0 : Int32) else (1 : Int32)), .ref qO]) ⟨hx, hb, hml, hown, hts⟩ (c_X3_sx l (z2 * z4)) (va_cwS 1 hts (gd_S gm_262 gm_260 gm_261 gm_4) rfl rfl rfl (by decide +kernel) ⟨Nat.le_of_ble_eq_true rfl, Nat.le_of_ble_eq_true rfl⟩) qa_S0 rfl rfl hl.1 rfl (lv_room (Nat.le_of_ble_eq_true rfl)) dX3_multiply_103 ⟨Nat.zero_le _, Nat.zero_le _⟩) ?_
          refine qa_calll (pc := 106) (wr := []) (wf := (wO cI cJ qO oRes oKno oGiv (if (Int32.toInt64 (Int64.toInt32 (z2 * z4))) = ((Int32.toInt64 (Int64.toInt32 z2)) * (Int32.toInt64 (Int64.toInt32 z4))) then (0 : Int32) else (1 : Int32)))) (va_runV (As := [.int (if (Int32.toInt64 (Int64.toInt32 (z2 * z4))) = ((Int32.toInt64 (Int64.toInt32 z2)) * (Int32.toInt64 (Int64.toInt32 z4))) then (0 : Int32) else (1 : Int32)), .long (Int32.toInt64 (Int64.toInt32 (z2 * z4)))]) (rest := []) ⟨hx, hb, hml, hown, hts⟩ (c_X3_trapIf l dC dI cI cJ qO s.heap.size oRes oKno oGiv oTrp (if (Int32.toInt64 (Int64.toInt32 (z2 * z4))) = ((Int32.toInt64 (Int64.toInt32 z2)) * (Int32.toInt64 (Int64.toInt32 z4))) then (0 : Int32) else (1 : Int32)) (Int32.toInt64 (Int64.toInt32 (z2 * z4))) (qa_bi qa_b0 qa_b1)) (cwV 2 hts (gd_V gm_267 gm_265 gm_266 gm_564 gm_4) rfl rfl rfl (by decide +kernel) ⟨Nat.le_of_ble_eq_true rfl, Nat.le_of_ble_eq_true rfl⟩) (qa_VM (q0 := 0) (q := ("LongMachine$Operation", TX3, 4)) hK hP rfl rfl hP hD) rfl rfl hl.1 rfl (lv_room (Nat.le_of_ble_eq_true rfl)) dX3_multiply_106 ⟨Nat.zero_le _, Nat.zero_le _⟩) hP hD hS hA [0] [] [0] rfl (by decide) rfl (by decide) (by decide) rfl rfl (by decide) (fun H locs hP hD hS => ?_)
          subst hu
          exact W.lret hx hb hr (fun t ht hW => ⟨rfl, by rw [ht]; exact hP, hS.F ht⟩) hS.2.2 dX3_multiply_109
        · have hu := hu.trans (if_neg h1_4)
          have n1_3 : ¬ z1 = (64 : Int32) := h1_4
          rcases Decidable.em (z1 = (96 : Int32)) with h1_6 | h1_6
          · have hu := hu.trans (if_pos h1_6)
            refine lv_lookup (pc := 1) (tgt := 110) (off := 109) hx hb dX3_multiply_1 (by decide) (by rw [h1_6]; decide) (by decide) ?_
            refine lv_aload_n (pc := 110) hx hb dX3_multiply_110 rfl (lv_at hl 0 rfl) ?_
            refine lv_lload_n (pc := 111) hx hb dX3_multiply_111 rfl (lv_at hl 2 rfl) ?_
            refine lv_lload (pc := 112) hx hb dX3_multiply_112 (lv_at hl 3 rfl) ?_
            refine qa_calld (pc := 114) (v := .long ((((jlushr z2 (32 : Int32)) * (jlushr z4 (32 : Int32))) + (jlushr (((jlushr z2 (32 : Int32)) * (z4 &&& (4294967295 : Int64))) + (jlushr ((z2 &&& (4294967295 : Int64)) * (z4 &&& (4294967295 : Int64))) (32 : Int32))) (32 : Int32))) + (jlushr (((z2 &&& (4294967295 : Int64)) * (jlushr z4 (32 : Int32))) + ((((jlushr z2 (32 : Int32)) * (z4 &&& (4294967295 : Int64))) + (jlushr ((z2 &&& (4294967295 : Int64)) * (z4 &&& (4294967295 : Int64))) (32 : Int32))) &&& (4294967295 : Int64))) (32 : Int32)))) (va_runS (As := [.long z2, .long z4]) (rest := [.ref qO]) ⟨hx, hb, hml, hown, hts⟩ (c_X3_upper l z2 z4) (va_cwS 2 hts (gd_S gm_303 gm_301 gm_302 gm_4) rfl rfl rfl (by decide +kernel) ⟨Nat.le_of_ble_eq_true rfl, Nat.le_of_ble_eq_true rfl⟩) qa_S0 rfl rfl hl.1 rfl (lv_room (Nat.le_of_ble_eq_true rfl)) dX3_multiply_114 ⟨Nat.zero_le _, Nat.zero_le _⟩) ?_
            refine lv_lload_n (pc := 117) hx hb dX3_multiply_117 rfl (lv_at hl 2 rfl) ?_
            refine lv_lload (pc := 118) hx hb dX3_multiply_118 (lv_at hl 3 rfl) ?_
            refine qa_calld (pc := 120) (v := .long ((((((jlushr z2 (32 : Int32)) * (jlushr z4 (32 : Int32))) + (jlushr (((jlushr z2 (32 : Int32)) * (z4 &&& (4294967295 : Int64))) + (jlushr ((z2 &&& (4294967295 : Int64)) * (z4 &&& (4294967295 : Int64))) (32 : Int32))) (32 : Int32))) + (jlushr (((z2 &&& (4294967295 : Int64)) * (jlushr z4 (32 : Int32))) + ((((jlushr z2 (32 : Int32)) * (z4 &&& (4294967295 : Int64))) + (jlushr ((z2 &&& (4294967295 : Int64)) * (z4 &&& (4294967295 : Int64))) (32 : Int32))) &&& (4294967295 : Int64))) (32 : Int32))) - (if (0 : Int64) ≤ z2 then (0 : Int64) else z4)) - (if (0 : Int64) ≤ z4 then (0 : Int64) else z2))) (va_runS (As := [.long ((((jlushr z2 (32 : Int32)) * (jlushr z4 (32 : Int32))) + (jlushr (((jlushr z2 (32 : Int32)) * (z4 &&& (4294967295 : Int64))) + (jlushr ((z2 &&& (4294967295 : Int64)) * (z4 &&& (4294967295 : Int64))) (32 : Int32))) (32 : Int32))) + (jlushr (((z2 &&& (4294967295 : Int64)) * (jlushr z4 (32 : Int32))) + ((((jlushr z2 (32 : Int32)) * (z4 &&& (4294967295 : Int64))) + (jlushr ((z2 &&& (4294967295 : Int64)) * (z4 &&& (4294967295 : Int64))) (32 : Int32))) &&& (4294967295 : Int64))) (32 : Int32))), .long z2, .long z4]) (rest := [.ref qO]) ⟨hx, hb, hml, hown, hts⟩ (c_X3_signedUpper l ((((jlushr z2 (32 : Int32)) * (jlushr z4 (32 : Int32))) + (jlushr (((jlushr z2 (32 : Int32)) * (z4 &&& (4294967295 : Int64))) + (jlushr ((z2 &&& (4294967295 : Int64)) * (z4 &&& (4294967295 : Int64))) (32 : Int32))) (32 : Int32))) + (jlushr (((z2 &&& (4294967295 : Int64)) * (jlushr z4 (32 : Int32))) + ((((jlushr z2 (32 : Int32)) * (z4 &&& (4294967295 : Int64))) + (jlushr ((z2 &&& (4294967295 : Int64)) * (z4 &&& (4294967295 : Int64))) (32 : Int32))) &&& (4294967295 : Int64))) (32 : Int32))) z2 z4) (va_cwS 3 hts (gd_S gm_307 gm_305 gm_306 gm_4) rfl rfl rfl (by decide +kernel) ⟨Nat.le_of_ble_eq_true rfl, Nat.le_of_ble_eq_true rfl⟩) qa_S0 rfl rfl hl.1 rfl (lv_room (Nat.le_of_ble_eq_true rfl)) dX3_multiply_120 ⟨Nat.zero_le _, Nat.zero_le _⟩) ?_
            refine lv_lload_n (pc := 123) hx hb dX3_multiply_123 rfl (lv_at hl 2 rfl) ?_
            refine lv_lload (pc := 124) hx hb dX3_multiply_124 (lv_at hl 3 rfl) ?_
            refine lv_lmul (pc := 126) hx hb dX3_multiply_126 ?_
            refine lv_bipush (pc := 127) (v := (63 : Int32)) hx hb dX3_multiply_127 (by decide) ?_
            refine lv_lshr (pc := 129) (v := (jlshr (z2 * z4) (63 : Int32))) hx hb dX3_multiply_129 rfl ?_
            refine qa_joini (J := 139) (ls2 := ls) (rest2 := [.ref qO]) (if ((((((jlushr z2 (32 : Int32)) * (jlushr z4 (32 : Int32))) + (jlushr (((jlushr z2 (32 : Int32)) * (z4 &&& (4294967295 : Int64))) + (jlushr ((z2 &&& (4294967295 : Int64)) * (z4 &&& (4294967295 : Int64))) (32 : Int32))) (32 : Int32))) + (jlushr (((z2 &&& (4294967295 : Int64)) * (jlushr z4 (32 : Int32))) + ((((jlushr z2 (32 : Int32)) * (z4 &&& (4294967295 : Int64))) + (jlushr ((z2 &&& (4294967295 : Int64)) * (z4 &&& (4294967295 : Int64))) (32 : Int32))) &&& (4294967295 : Int64))) (32 : Int32))) - (if (0 : Int64) ≤ z2 then (0 : Int64) else z4)) - (if (0 : Int64) ≤ z4 then (0 : Int64) else z2)) = (jlshr (z2 * z4) (63 : Int32)) then (0 : Int32) else (1 : Int32)) (fun hj139 => ?_) ?_
            · refine qa_lc_eq (pc := 130) (tgt := 138) hx hb dX3_multiply_130 dX3_multiply_131 (by decide) (fun h130_7 => ?_) (fun h130_7 => ?_)
              · refine lv_iconst (pc := 138) (v := (0 : Int32)) hx hb dX3_multiply_138 (by decide) ?_
                exact hj139 _ (Eq.symm (if_pos h130_7))
              · refine lv_iconst (pc := 134) (v := (1 : Int32)) hx hb dX3_multiply_134 (by decide) ?_
                refine lv_goto (pc := 135) (tgt := 139) hx hb dX3_multiply_135 (by decide) ?_
                exact hj139 _ (Eq.symm (if_neg h130_7))
            refine lv_lload_n (pc := 139) hx hb dX3_multiply_139 rfl (lv_at hl 2 rfl) ?_
            refine lv_lload (pc := 140) hx hb dX3_multiply_140 (lv_at hl 3 rfl) ?_
            refine lv_lmul (pc := 142) hx hb dX3_multiply_142 ?_
            refine qa_calll (pc := 143) (wr := []) (wf := (wO cI cJ qO oRes oKno oGiv (if ((((((jlushr z2 (32 : Int32)) * (jlushr z4 (32 : Int32))) + (jlushr (((jlushr z2 (32 : Int32)) * (z4 &&& (4294967295 : Int64))) + (jlushr ((z2 &&& (4294967295 : Int64)) * (z4 &&& (4294967295 : Int64))) (32 : Int32))) (32 : Int32))) + (jlushr (((z2 &&& (4294967295 : Int64)) * (jlushr z4 (32 : Int32))) + ((((jlushr z2 (32 : Int32)) * (z4 &&& (4294967295 : Int64))) + (jlushr ((z2 &&& (4294967295 : Int64)) * (z4 &&& (4294967295 : Int64))) (32 : Int32))) &&& (4294967295 : Int64))) (32 : Int32))) - (if (0 : Int64) ≤ z2 then (0 : Int64) else z4)) - (if (0 : Int64) ≤ z4 then (0 : Int64) else z2)) = (jlshr (z2 * z4) (63 : Int32)) then (0 : Int32) else (1 : Int32)))) (va_runV (As := [.int (if ((((((jlushr z2 (32 : Int32)) * (jlushr z4 (32 : Int32))) + (jlushr (((jlushr z2 (32 : Int32)) * (z4 &&& (4294967295 : Int64))) + (jlushr ((z2 &&& (4294967295 : Int64)) * (z4 &&& (4294967295 : Int64))) (32 : Int32))) (32 : Int32))) + (jlushr (((z2 &&& (4294967295 : Int64)) * (jlushr z4 (32 : Int32))) + ((((jlushr z2 (32 : Int32)) * (z4 &&& (4294967295 : Int64))) + (jlushr ((z2 &&& (4294967295 : Int64)) * (z4 &&& (4294967295 : Int64))) (32 : Int32))) &&& (4294967295 : Int64))) (32 : Int32))) - (if (0 : Int64) ≤ z2 then (0 : Int64) else z4)) - (if (0 : Int64) ≤ z4 then (0 : Int64) else z2)) = (jlshr (z2 * z4) (63 : Int32)) then (0 : Int32) else (1 : Int32)), .long (z2 * z4)]) (rest := []) ⟨hx, hb, hml, hown, hts⟩ (c_X3_trapIf l dC dI cI cJ qO s.heap.size oRes oKno oGiv oTrp (if ((((((jlushr z2 (32 : Int32)) * (jlushr z4 (32 : Int32))) + (jlushr (((jlushr z2 (32 : Int32)) * (z4 &&& (4294967295 : Int64))) + (jlushr ((z2 &&& (4294967295 : Int64)) * (z4 &&& (4294967295 : Int64))) (32 : Int32))) (32 : Int32))) + (jlushr (((z2 &&& (4294967295 : Int64)) * (jlushr z4 (32 : Int32))) + ((((jlushr z2 (32 : Int32)) * (z4 &&& (4294967295 : Int64))) + (jlushr ((z2 &&& (4294967295 : Int64)) * (z4 &&& (4294967295 : Int64))) (32 : Int32))) &&& (4294967295 : Int64))) (32 : Int32))) - (if (0 : Int64) ≤ z2 then (0 : Int64) else z4)) - (if (0 : Int64) ≤ z4 then (0 : Int64) else z2)) = (jlshr (z2 * z4) (63 : Int32)) then (0 : Int32) else (1 : Int32)) (z2 * z4) (qa_bi qa_b0 qa_b1)) (cwV 2 hts (gd_V gm_267 gm_265 gm_266 gm_564 gm_4) rfl rfl rfl (by decide +kernel) ⟨Nat.le_of_ble_eq_true rfl, Nat.le_of_ble_eq_true rfl⟩) (qa_VM (q0 := 0) (q := ("LongMachine$Operation", TX3, 4)) hK hP rfl rfl hP hD) rfl rfl hl.1 rfl (lv_room (Nat.le_of_ble_eq_true rfl)) dX3_multiply_143 ⟨Nat.zero_le _, Nat.zero_le _⟩) hP hD hS hA [0] [] [0] rfl (by decide) rfl (by decide) (by decide) rfl rfl (by decide) (fun H locs hP hD hS => ?_)
            subst hu
            exact W.lret hx hb hr (fun t ht hW => ⟨rfl, by rw [ht]; exact hP, hS.F ht⟩) hS.2.2 dX3_multiply_146
          · have hu := hu.trans (if_neg h1_6)
            have n1_4 : ¬ z1 = (96 : Int32) := h1_6
            refine lv_lookup (pc := 1) (tgt := 147) (off := 146) hx hb dX3_multiply_1 (by decide) ((lv_osw n1_0 (by decide)).trans ((lv_osw n1_1 (by decide)).trans ((lv_osw n1_2 (by decide)).trans ((lv_osw n1_3 (by decide)).trans ((lv_osw n1_4 (by decide)).trans (rfl)))))) (by decide) ?_
            refine lv_aload_n (pc := 147) hx hb dX3_multiply_147 rfl (lv_at hl 0 rfl) ?_
            refine lv_iconst (pc := 148) (v := (0 : Int32)) hx hb dX3_multiply_148 (by decide) ?_
            refine va_put (D := (dC, dI)) (pc := 149) (ci := 3) (v := .int (0 : Int32)) (ty := .boolean) (C := "LongMachine$Operation") (T := TX3) (N := 4) hx hb hts ui_X3 tyX3 tyX3_ok nmX3 hown hK hP hD hS 0 rfl rfl 1 (by decide) (hts _ gm_61) (fun _ h9 => h9) rfl (by decide +kernel) rfl rfl (Nat.le_of_ble_eq_true rfl) dX3_multiply_149 (fun H locs hP hD hS => ?_)
            have hP : va_P (dC, dI) vwCl (wO cI cJ qO oRes (0 : Int32) oGiv oTrp) H := hP
            have hD : va_D A (wO cI cJ qO oRes (0 : Int32) oGiv oTrp) := hD
            refine lv_lconst (pc := 152) (v := (0 : Int64)) hx hb dX3_multiply_152 (by decide) ?_
            subst hu
            exact W.lret hx hb hr (fun t ht hW => ⟨rfl, by rw [ht]; exact hP, hS.F ht⟩) hS.2.2 dX3_multiply_153
def f_X3_compute_K54_1  (r54_1 : Int64 × Int32 × Int32) : Int64 × Int32 × Int32 × Int32 := (r54_1.1, r54_1.2.1, (1 : Int32), r54_1.2.2)
def f_X3_compute_K69_2  (r69_2 : Int64 × Int32 × Int32) : Int64 × Int32 × Int32 × Int32 := (r69_2.1, r69_2.2.1, r69_2.2.2, (0 : Int32))
def f_X3_compute_K84_3  (r84_3 : Int64 × Int32) : Int64 × Int32 × Int32 × Int32 := (r84_3.1, r84_3.2, (1 : Int32), (0 : Int32))
def f_X3_compute_K99_4  (r99_4 : Int64 × Int32 × Int32) : Int64 × Int32 × Int32 × Int32 := (r99_4.1, r99_4.2.1, (1 : Int32), r99_4.2.2)
def f_X3_compute (z1 : Int32) (z2 : Int32) (z3 : Int64) (z5 : Int64) (oRes : Int64) : Int64 × Int32 × Int32 × Int32 := (if z1 = (16 : Int32) then (f_X3_compute_K54_1  (f_X3_add z2 z3 z5 (1 : Int32) (0 : Int32))) else (if z1 = (17 : Int32) then (f_X3_compute_K69_2  (f_X3_combine z2 z3 z5 (1 : Int32) (1 : Int32))) else (if z1 = (18 : Int32) then (f_X3_compute_K84_3  (f_X3_shift z2 z3 z5 (1 : Int32))) else (if z1 = (19 : Int32) then (f_X3_compute_K99_4  (f_X3_multiply z2 z3 z5 (1 : Int32) (0 : Int32))) else (oRes, (0 : Int32), (1 : Int32), (0 : Int32))))))
set_option maxRecDepth 100000 in
set_option maxHeartbeats 4000000 in
theorem c_X3_compute (l : Launch) (dC : Nat → ClassId) (dI : Nat → Nat → Nat) (cI cJ : ClassId) (qO : Nat) (sz : Nat) (oRes : Int64) (oKno : Int32) (oGiv : Int32) (oTrp : Int32) (z1 : Int32) (z2 : Int32) (z3 : Int64) (z5 : Int64) : Met l yX3_compute (.code yX3_compute cX3_compute 7 none :: vG) ({ frames := 2, cells := 0, slots := 0, locals := 60 }) (va_Pc [.ref qO, .int z1, .int z2, .long z3, .long z5] (qa_pre (dC, dI) vwCl (wO cI cJ qO oRes oKno oGiv oTrp) [(cI, .int), (cJ, .long)] sz)) (qa_mod none (dC, dI) vwCl (wO cI cJ qO ((f_X3_compute z1 z2 z3 z5 oRes).1) ((f_X3_compute z1 z2 z3 z5 oRes).2.1) ((f_X3_compute z1 z2 z3 z5 oRes).2.2.1) ((f_X3_compute z1 z2 z3 z5 oRes).2.2.2)) (va_A (wO cI cJ qO oRes oKno oGiv oTrp) sz)) 0 0 (va_A (wO cI cJ qO oRes oKno oGiv oTrp) sz) := by
  refine Met.ofW (cc := cX3_compute) (maxL := 7) (ret := none) (by decide) rfl ?_
  intro p e s m args below meth c s₁ B hml hv
  obtain ⟨rfl, hsz, hP, hK, hD0⟩ := hv
  have hx := B.exec
  have hb := B.bytes
  have hr := B.returns
  have hts : ∀ w ∈ vG, w.before _ s = true := fun w h => atoms_spec (ws := (.code yX3_compute cX3_compute 7 none :: vG)) B.pre w (List.mem_cons_of_mem _ h)
  have hown : s.vm.findClass "LongMachine$Operation" = some m.cls := findClass_of_methodNamed B.named
  have hlocks := B.notSynchronized
  subst hsz
  have hD := hD0.self (sz := s.heap.size)
  generalize hAe : va_A (wO cI cJ qO oRes oKno oGiv oTrp) s.heap.size = A at hD ⊢
  have hA : ∀ q : Nat, s.heap.size ≤ q → A q := fun q h => by rw [← hAe]; exact Or.inr h
  have hS : va_S A s.heap s.heap [] := va_S.rf
  have hl := lv_entry ([.ref qO, .int z1, .int z2, .long z3, .long z5]) (n := 7) (Nat.le_of_ble_eq_true rfl)
  rw [lg_entry_eq]
  generalize (lg_sl ([.ref qO, .int z1, .int z2, .long z3, .long z5]) ++ List.replicate (7 - (lg_sl ([.ref qO, .int z1, .int z2, .long z3, .long z5])).length) Slot.unset).toArray = ls at hl ⊢
  have hl : lv_has ls 7 [(0, .ref qO), (1, .int z1), (2, .int z2), (3, .long z3), (5, .long z5)] := hl
  obtain ⟨u, hu⟩ : ∃ u, u = f_X3_compute z1 z2 z3 z5 oRes := ⟨_, rfl⟩
  rw [← hu]
  unfold f_X3_compute at hu
  refine lv_aload_n (pc := 0) hx hb dX3_compute_0 rfl (lv_at hl 0 rfl) ?_
  refine lv_iconst (pc := 1) (v := (1 : Int32)) hx hb dX3_compute_1 (by decide) ?_
  refine va_put (D := (dC, dI)) (pc := 2) (ci := 3) (v := .int (1 : Int32)) (ty := .boolean) (C := "LongMachine$Operation") (T := TX3) (N := 4) hx hb hts ui_X3 tyX3 tyX3_ok nmX3 hown hK hP hD hS 0 rfl rfl 1 (by decide) (hts _ gm_61) (fun _ h9 => h9) rfl (by decide +kernel) rfl rfl (Nat.le_of_ble_eq_true rfl) dX3_compute_2 (fun H locs hP hD hS => ?_)
  have hP : va_P (dC, dI) vwCl (wO cI cJ qO oRes (1 : Int32) oGiv oTrp) H := hP
  have hD : va_D A (wO cI cJ qO oRes (1 : Int32) oGiv oTrp) := hD
  refine lv_aload_n (pc := 5) hx hb dX3_compute_5 rfl (lv_at hl 0 rfl) ?_
  refine lv_iconst (pc := 6) (v := (1 : Int32)) hx hb dX3_compute_6 (by decide) ?_
  refine va_put (D := (dC, dI)) (pc := 7) (ci := 3) (v := .int (1 : Int32)) (ty := .boolean) (C := "LongMachine$Operation") (T := TX3) (N := 4) hx hb hts ui_X3 tyX3 tyX3_ok nmX3 hown hK hP hD hS 0 rfl rfl 2 (by decide) (hts _ gm_63) (fun _ h9 => h9) rfl (by decide +kernel) rfl rfl (Nat.le_of_ble_eq_true rfl) dX3_compute_7 (fun H locs hP hD hS => ?_)
  have hP : va_P (dC, dI) vwCl (wO cI cJ qO oRes (1 : Int32) (1 : Int32) oTrp) H := hP
  have hD : va_D A (wO cI cJ qO oRes (1 : Int32) (1 : Int32) oTrp) := hD
  refine lv_aload_n (pc := 10) hx hb dX3_compute_10 rfl (lv_at hl 0 rfl) ?_
  refine lv_iconst (pc := 11) (v := (0 : Int32)) hx hb dX3_compute_11 (by decide) ?_
  refine va_put (D := (dC, dI)) (pc := 12) (ci := 3) (v := .int (0 : Int32)) (ty := .boolean) (C := "LongMachine$Operation") (T := TX3) (N := 4) hx hb hts ui_X3 tyX3 tyX3_ok nmX3 hown hK hP hD hS 0 rfl rfl 3 (by decide) (hts _ gm_65) (fun _ h9 => h9) rfl (by decide +kernel) rfl rfl (Nat.le_of_ble_eq_true rfl) dX3_compute_12 (fun H locs hP hD hS => ?_)
  have hP : va_P (dC, dI) vwCl (wO cI cJ qO oRes (1 : Int32) (1 : Int32) (0 : Int32)) H := hP
  have hD : va_D A (wO cI cJ qO oRes (1 : Int32) (1 : Int32) (0 : Int32)) := hD
  refine lv_iload_n (pc := 15) hx hb dX3_compute_15 rfl (lv_at hl 1 rfl) ?_
  rcases Decidable.em (z1 = (16 : Int32)) with h16_1 | h16_1
  · have hu := hu.trans (if_pos h16_1)
    refine qa_table (pc := 16) (tgt := 48) (off := 32) hx hb dX3_compute_16 (Or.inr (by rw [h16_1]; decide)) (by decide) ?_
    refine lv_aload_n (pc := 48) hx hb dX3_compute_48 rfl (lv_at hl 0 rfl) ?_
    refine lv_aload_n (pc := 49) hx hb dX3_compute_49 rfl (lv_at hl 0 rfl) ?_
    refine lv_iload_n (pc := 50) hx hb dX3_compute_50 rfl (lv_at hl 2 rfl) ?_
    refine lv_lload_n (pc := 51) hx hb dX3_compute_51 rfl (lv_at hl 3 rfl) ?_
    refine lv_lload (pc := 52) hx hb dX3_compute_52 (lv_at hl 4 rfl) ?_
    have hc := c_X3_add l dC dI cI cJ qO H.size oRes (1 : Int32) (1 : Int32) (0 : Int32) z2 z3 z5
    generalize er54_1 : f_X3_add z2 z3 z5 (1 : Int32) (0 : Int32) = r54_1 at hu hc
    unfold f_X3_compute_K54_1 at hu
    refine qa_calll (pc := 54) (wr := []) (wf := (wO cI cJ qO oRes r54_1.2.1 (1 : Int32) r54_1.2.2)) (va_runV (As := [.int z2, .long z3, .long z5]) (rest := [.ref qO]) ⟨hx, hb, hml, hown, hts⟩ hc (cwV 3 hts (gd_V gm_259 gm_257 gm_258 gm_563 gm_4) rfl rfl rfl (by decide +kernel) ⟨Nat.le_of_ble_eq_true rfl, Nat.le_of_ble_eq_true rfl⟩) (qa_VM (q0 := 0) (q := ("LongMachine$Operation", TX3, 4)) hK hP rfl rfl hP hD) rfl rfl hl.1 rfl (lv_room (Nat.le_of_ble_eq_true rfl)) dX3_compute_54 ⟨Nat.zero_le _, Nat.zero_le _⟩) hP hD hS hA [0] [] [0] rfl (by decide) rfl (by decide) (by decide) rfl rfl (by decide) (fun H locs hP hD hS => ?_)
    refine va_put (D := (dC, dI)) (pc := 57) (ci := 3) (v := .long r54_1.1) (ty := .long) (C := "LongMachine$Operation") (T := TX3) (N := 4) hx hb hts ui_X3 tyX3 tyX3_ok nmX3 hown hK hP hD hS 0 rfl rfl 0 (by decide) (hts _ gm_59) (fun _ h9 => h9) rfl (by decide +kernel) rfl rfl (Nat.le_of_ble_eq_true rfl) dX3_compute_57 (fun H locs hP hD hS => ?_)
    have hP : va_P (dC, dI) vwCl (wO cI cJ qO r54_1.1 r54_1.2.1 (1 : Int32) r54_1.2.2) H := hP
    have hD : va_D A (wO cI cJ qO r54_1.1 r54_1.2.1 (1 : Int32) r54_1.2.2) := hD
    refine lv_goto (pc := 60) (tgt := 113) hx hb dX3_compute_60 (by decide) ?_
    subst hu
    exact W.vret hx hb hr (fun t ht hW => ⟨rfl, by rw [ht]; exact hP, hS.F ht⟩) hS.2.2 dX3_compute_113
  · have hu := hu.trans (if_neg h16_1)
    have n16_0 : ¬ z1 = (16 : Int32) := h16_1
    rcases Decidable.em (z1 = (17 : Int32)) with h16_2 | h16_2
    · have hu := hu.trans (if_pos h16_2)
      refine qa_table (pc := 16) (tgt := 63) (off := 47) hx hb dX3_compute_16 (Or.inr (by rw [h16_2]; decide)) (by decide) ?_
      refine lv_aload_n (pc := 63) hx hb dX3_compute_63 rfl (lv_at hl 0 rfl) ?_
      refine lv_aload_n (pc := 64) hx hb dX3_compute_64 rfl (lv_at hl 0 rfl) ?_
      refine lv_iload_n (pc := 65) hx hb dX3_compute_65 rfl (lv_at hl 2 rfl) ?_
      refine lv_lload_n (pc := 66) hx hb dX3_compute_66 rfl (lv_at hl 3 rfl) ?_
      refine lv_lload (pc := 67) hx hb dX3_compute_67 (lv_at hl 4 rfl) ?_
      have hc := c_X3_combine l dC dI cI cJ qO H.size oRes (1 : Int32) (1 : Int32) (0 : Int32) z2 z3 z5
      generalize er69_2 : f_X3_combine z2 z3 z5 (1 : Int32) (1 : Int32) = r69_2 at hu hc
      unfold f_X3_compute_K69_2 at hu
      refine qa_calll (pc := 69) (wr := []) (wf := (wO cI cJ qO oRes r69_2.2.1 r69_2.2.2 (0 : Int32))) (va_runV (As := [.int z2, .long z3, .long z5]) (rest := [.ref qO]) ⟨hx, hb, hml, hown, hts⟩ hc (cwV 3 hts (gd_V gm_281 gm_279 gm_280 gm_565 gm_4) rfl rfl rfl (by decide +kernel) ⟨Nat.le_of_ble_eq_true rfl, Nat.le_of_ble_eq_true rfl⟩) (qa_VM (q0 := 0) (q := ("LongMachine$Operation", TX3, 4)) hK hP rfl rfl hP hD) rfl rfl hl.1 rfl (lv_room (Nat.le_of_ble_eq_true rfl)) dX3_compute_69 ⟨Nat.zero_le _, Nat.zero_le _⟩) hP hD hS hA [0] [] [0] rfl (by decide) rfl (by decide) (by decide) rfl rfl (by decide) (fun H locs hP hD hS => ?_)
      refine va_put (D := (dC, dI)) (pc := 72) (ci := 3) (v := .long r69_2.1) (ty := .long) (C := "LongMachine$Operation") (T := TX3) (N := 4) hx hb hts ui_X3 tyX3 tyX3_ok nmX3 hown hK hP hD hS 0 rfl rfl 0 (by decide) (hts _ gm_59) (fun _ h9 => h9) rfl (by decide +kernel) rfl rfl (Nat.le_of_ble_eq_true rfl) dX3_compute_72 (fun H locs hP hD hS => ?_)
      have hP : va_P (dC, dI) vwCl (wO cI cJ qO r69_2.1 r69_2.2.1 r69_2.2.2 (0 : Int32)) H := hP
      have hD : va_D A (wO cI cJ qO r69_2.1 r69_2.2.1 r69_2.2.2 (0 : Int32)) := hD
      refine lv_goto (pc := 75) (tgt := 113) hx hb dX3_compute_75 (by decide) ?_
      subst hu
      exact W.vret hx hb hr (fun t ht hW => ⟨rfl, by rw [ht]; exact hP, hS.F ht⟩) hS.2.2 dX3_compute_113
    · have hu := hu.trans (if_neg h16_2)
      have n16_1 : ¬ z1 = (17 : Int32) := h16_2
      rcases Decidable.em (z1 = (18 : Int32)) with h16_3 | h16_3
      · have hu := hu.trans (if_pos h16_3)
        refine qa_table (pc := 16) (tgt := 78) (off := 62) hx hb dX3_compute_16 (Or.inr (by rw [h16_3]; decide)) (by decide) ?_
        refine lv_aload_n (pc := 78) hx hb dX3_compute_78 rfl (lv_at hl 0 rfl) ?_
        refine lv_aload_n (pc := 79) hx hb dX3_compute_79 rfl (lv_at hl 0 rfl) ?_
        refine lv_iload_n (pc := 80) hx hb dX3_compute_80 rfl (lv_at hl 2 rfl) ?_
        refine lv_lload_n (pc := 81) hx hb dX3_compute_81 rfl (lv_at hl 3 rfl) ?_
        refine lv_lload (pc := 82) hx hb dX3_compute_82 (lv_at hl 4 rfl) ?_
        have hc := c_X3_shift l dC dI cI cJ qO H.size oRes (1 : Int32) (1 : Int32) (0 : Int32) z2 z3 z5
        generalize er84_3 : f_X3_shift z2 z3 z5 (1 : Int32) = r84_3 at hu hc
        unfold f_X3_compute_K84_3 at hu
        refine qa_calll (pc := 84) (wr := []) (wf := (wO cI cJ qO oRes r84_3.2 (1 : Int32) (0 : Int32))) (va_runV (As := [.int z2, .long z3, .long z5]) (rest := [.ref qO]) ⟨hx, hb, hml, hown, hts⟩ hc (cwV 3 hts (gd_V gm_288 gm_286 gm_287 gm_567 gm_4) rfl rfl rfl (by decide +kernel) ⟨Nat.le_of_ble_eq_true rfl, Nat.le_of_ble_eq_true rfl⟩) (qa_VM (q0 := 0) (q := ("LongMachine$Operation", TX3, 4)) hK hP rfl rfl hP hD) rfl rfl hl.1 rfl (lv_room (Nat.le_of_ble_eq_true rfl)) dX3_compute_84 ⟨Nat.zero_le _, Nat.zero_le _⟩) hP hD hS hA [0] [] [0] rfl (by decide) rfl (by decide) (by decide) rfl rfl (by decide) (fun H locs hP hD hS => ?_)
        refine va_put (D := (dC, dI)) (pc := 87) (ci := 3) (v := .long r84_3.1) (ty := .long) (C := "LongMachine$Operation") (T := TX3) (N := 4) hx hb hts ui_X3 tyX3 tyX3_ok nmX3 hown hK hP hD hS 0 rfl rfl 0 (by decide) (hts _ gm_59) (fun _ h9 => h9) rfl (by decide +kernel) rfl rfl (Nat.le_of_ble_eq_true rfl) dX3_compute_87 (fun H locs hP hD hS => ?_)
        have hP : va_P (dC, dI) vwCl (wO cI cJ qO r84_3.1 r84_3.2 (1 : Int32) (0 : Int32)) H := hP
        have hD : va_D A (wO cI cJ qO r84_3.1 r84_3.2 (1 : Int32) (0 : Int32)) := hD
        refine lv_goto (pc := 90) (tgt := 113) hx hb dX3_compute_90 (by decide) ?_
        subst hu
        exact W.vret hx hb hr (fun t ht hW => ⟨rfl, by rw [ht]; exact hP, hS.F ht⟩) hS.2.2 dX3_compute_113
      · have hu := hu.trans (if_neg h16_3)
        have n16_2 : ¬ z1 = (18 : Int32) := h16_3
        rcases Decidable.em (z1 = (19 : Int32)) with h16_4 | h16_4
        · have hu := hu.trans (if_pos h16_4)
          refine qa_table (pc := 16) (tgt := 93) (off := 77) hx hb dX3_compute_16 (Or.inr (by rw [h16_4]; decide)) (by decide) ?_
          refine lv_aload_n (pc := 93) hx hb dX3_compute_93 rfl (lv_at hl 0 rfl) ?_
          refine lv_aload_n (pc := 94) hx hb dX3_compute_94 rfl (lv_at hl 0 rfl) ?_
          refine lv_iload_n (pc := 95) hx hb dX3_compute_95 rfl (lv_at hl 2 rfl) ?_
          refine lv_lload_n (pc := 96) hx hb dX3_compute_96 rfl (lv_at hl 3 rfl) ?_
          refine lv_lload (pc := 97) hx hb dX3_compute_97 (lv_at hl 4 rfl) ?_
          have hc := c_X3_multiply l dC dI cI cJ qO H.size oRes (1 : Int32) (1 : Int32) (0 : Int32) z2 z3 z5
          generalize er99_4 : f_X3_multiply z2 z3 z5 (1 : Int32) (0 : Int32) = r99_4 at hu hc
          unfold f_X3_compute_K99_4 at hu
          refine qa_calll (pc := 99) (wr := []) (wf := (wO cI cJ qO oRes r99_4.2.1 (1 : Int32) r99_4.2.2)) (va_runV (As := [.int z2, .long z3, .long z5]) (rest := [.ref qO]) ⟨hx, hb, hml, hown, hts⟩ hc (cwV 3 hts (gd_V gm_300 gm_298 gm_299 gm_570 gm_4) rfl rfl rfl (by decide +kernel) ⟨Nat.le_of_ble_eq_true rfl, Nat.le_of_ble_eq_true rfl⟩) (qa_VM (q0 := 0) (q := ("LongMachine$Operation", TX3, 4)) hK hP rfl rfl hP hD) rfl rfl hl.1 rfl (lv_room (Nat.le_of_ble_eq_true rfl)) dX3_compute_99 ⟨Nat.zero_le _, Nat.zero_le _⟩) hP hD hS hA [0] [] [0] rfl (by decide) rfl (by decide) (by decide) rfl rfl (by decide) (fun H locs hP hD hS => ?_)
          refine va_put (D := (dC, dI)) (pc := 102) (ci := 3) (v := .long r99_4.1) (ty := .long) (C := "LongMachine$Operation") (T := TX3) (N := 4) hx hb hts ui_X3 tyX3 tyX3_ok nmX3 hown hK hP hD hS 0 rfl rfl 0 (by decide) (hts _ gm_59) (fun _ h9 => h9) rfl (by decide +kernel) rfl rfl (Nat.le_of_ble_eq_true rfl) dX3_compute_102 (fun H locs hP hD hS => ?_)
          have hP : va_P (dC, dI) vwCl (wO cI cJ qO r99_4.1 r99_4.2.1 (1 : Int32) r99_4.2.2) H := hP
          have hD : va_D A (wO cI cJ qO r99_4.1 r99_4.2.1 (1 : Int32) r99_4.2.2) := hD
          refine lv_goto (pc := 105) (tgt := 113) hx hb dX3_compute_105 (by decide) ?_
          subst hu
          exact W.vret hx hb hr (fun t ht hW => ⟨rfl, by rw [ht]; exact hP, hS.F ht⟩) hS.2.2 dX3_compute_113
        · have hu := hu.trans (if_neg h16_4)
          have n16_3 : ¬ z1 = (19 : Int32) := h16_4
          refine qa_table (pc := 16) (tgt := 108) (off := 92) hx hb dX3_compute_16 (Or.inl ⟨by have := lv_neT n16_0 (by decide : ((16 : Int32)).toInt = 16); have := lv_neT n16_1 (by decide : ((17 : Int32)).toInt = 17); have := lv_neT n16_2 (by decide : ((18 : Int32)).toInt = 18); have := lv_neT n16_3 (by decide : ((19 : Int32)).toInt = 19); omega, rfl⟩) (by decide) ?_
          refine lv_aload_n (pc := 108) hx hb dX3_compute_108 rfl (lv_at hl 0 rfl) ?_
          refine lv_iconst (pc := 109) (v := (0 : Int32)) hx hb dX3_compute_109 (by decide) ?_
          refine va_put (D := (dC, dI)) (pc := 110) (ci := 3) (v := .int (0 : Int32)) (ty := .boolean) (C := "LongMachine$Operation") (T := TX3) (N := 4) hx hb hts ui_X3 tyX3 tyX3_ok nmX3 hown hK hP hD hS 0 rfl rfl 1 (by decide) (hts _ gm_61) (fun _ h9 => h9) rfl (by decide +kernel) rfl rfl (Nat.le_of_ble_eq_true rfl) dX3_compute_110 (fun H locs hP hD hS => ?_)
          have hP : va_P (dC, dI) vwCl (wO cI cJ qO oRes (0 : Int32) (1 : Int32) (0 : Int32)) H := hP
          have hD : va_D A (wO cI cJ qO oRes (0 : Int32) (1 : Int32) (0 : Int32)) := hD
          subst hu
          exact W.vret hx hb hr (fun t ht hW => ⟨rfl, by rw [ht]; exact hP, hS.F ht⟩) hS.2.2 dX3_compute_113
