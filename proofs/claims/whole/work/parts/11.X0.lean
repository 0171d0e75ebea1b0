set_option maxRecDepth 100000 in
set_option maxHeartbeats 4000000 in
theorem c_X0_clear (l : Launch) (dC : Nat → ClassId) (dI : Nat → Nat → Nat) (cI cJ : ClassId) (qC : Nat) (sz : Nat) (aVec : Int32) (aA : Int64) (aB : Int64) (aC : Int64) (aPc : Int64) : Met l yX0_clear (.code yX0_clear cX0_clear 1 none :: vG) ({ frames := 0, cells := 0, slots := 0, locals := 0 }) (va_Pc [.ref qC] (qa_pre (dC, dI) vwCl (wC cI cJ qC aVec aA aB aC aPc) [(cI, .int), (cJ, .long)] sz)) (qa_mod none (dC, dI) vwCl (wC cI cJ qC (-2 : Int32) aA aB aC aPc) (va_A (wC cI cJ qC aVec aA aB aC aPc) sz)) 0 0 (va_A (wC cI cJ qC aVec aA aB aC aPc) sz) := by
  refine Met.ofW (cc := cX0_clear) (maxL := 1) (ret := none) (by decide) rfl ?_
  intro p e s m args below meth c s₁ B hml hv
  obtain ⟨rfl, hsz, hP, hK, hD0⟩ := hv
  have hx := B.exec
  have hb := B.bytes
  have hr := B.returns
  have hts : ∀ w ∈ vG, w.before _ s = true := fun w h => atoms_spec (ws := (.code yX0_clear cX0_clear 1 none :: vG)) B.pre w (List.mem_cons_of_mem _ h)
  have hown : s.vm.findClass "LongMachine$Crossing" = some m.cls := findClass_of_methodNamed B.named
  have hlocks := B.notSynchronized
  subst hsz
  have hD := hD0.self (sz := s.heap.size)
  generalize hAe : va_A (wC cI cJ qC aVec aA aB aC aPc) s.heap.size = A at hD ⊢
  have hA : ∀ q : Nat, s.heap.size ≤ q → A q := fun q h => by rw [← hAe]; exact Or.inr h
  have hS : va_S A s.heap s.heap [] := va_S.rf
  have hl := lv_entry ([.ref qC]) (n := 1) (Nat.le_of_ble_eq_true rfl)
  rw [lg_entry_eq]
  generalize (lg_sl ([.ref qC]) ++ List.replicate (1 - (lg_sl ([.ref qC])).length) Slot.unset).toArray = ls at hl ⊢
  have hl : lv_has ls 1 [(0, .ref qC)] := hl
  refine lv_aload_n (pc := 0) hx hb dX0_clear_0 rfl (lv_at hl 0 rfl) ?_
  refine lv_bipush (pc := 1) (v := (-2 : Int32)) hx hb dX0_clear_1 (by decide) ?_
  refine va_put (D := (dC, dI)) (pc := 3) (ci := 0) (v := .int (-2 : Int32)) (ty := .int) (C := "LongMachine$Crossing") (T := TX0) (N := 5) hx hb hts ui_X0 tyX0 tyX0_ok nmX0 hown hK hP hD hS 0 rfl rfl 0 (by decide) (hts _ gm_76) (fun _ h9 => h9) rfl (by decide +kernel) rfl rfl (Nat.le_of_ble_eq_true rfl) dX0_clear_3 (fun H locs hP hD hS => ?_)
  have hP : va_P (dC, dI) vwCl (wC cI cJ qC (-2 : Int32) aA aB aC aPc) H := hP
  have hD : va_D A (wC cI cJ qC (-2 : Int32) aA aB aC aPc) := hD
  exact W.vret hx hb hr (fun t ht hW => ⟨rfl, by rw [ht]; exact hP, hS.F ht⟩) hS.2.2 dX0_clear_6
set_option maxRecDepth 100000 in
set_option maxHeartbeats 4000000 in
theorem c_X0_comeBack (l : Launch) (dC : Nat → ClassId) (dI : Nat → Nat → Nat) (cI cJ : ClassId) (qC : Nat) (sz : Nat) (aVec : Int32) (aA : Int64) (aB : Int64) (aC : Int64) (aPc : Int64) : Met l yX0_comeBack (.code yX0_comeBack cX0_comeBack 1 none :: vG) ({ frames := 0, cells := 0, slots := 0, locals := 0 }) (va_Pc [.ref qC] (qa_pre (dC, dI) vwCl (wC cI cJ qC aVec aA aB aC aPc) [(cI, .int), (cJ, .long)] sz)) (qa_mod none (dC, dI) vwCl (wC cI cJ qC (-1 : Int32) aA aB aC aPc) (va_A (wC cI cJ qC aVec aA aB aC aPc) sz)) 0 0 (va_A (wC cI cJ qC aVec aA aB aC aPc) sz) := by
  refine Met.ofW (cc := cX0_comeBack) (maxL := 1) (ret := none) (by decide) rfl ?_
  intro p e s m args below meth c s₁ B hml hv
  obtain ⟨rfl, hsz, hP, hK, hD0⟩ := hv
  have hx := B.exec
  have hb := B.bytes
  have hr := B.returns
  have hts : ∀ w ∈ vG, w.before _ s = true := fun w h => atoms_spec (ws := (.code yX0_comeBack cX0_comeBack 1 none :: vG)) B.pre w (List.mem_cons_of_mem _ h)
  have hown : s.vm.findClass "LongMachine$Crossing" = some m.cls := findClass_of_methodNamed B.named
  have hlocks := B.notSynchronized
  subst hsz
  have hD := hD0.self (sz := s.heap.size)
  generalize hAe : va_A (wC cI cJ qC aVec aA aB aC aPc) s.heap.size = A at hD ⊢
  have hA : ∀ q : Nat, s.heap.size ≤ q → A q := fun q h => by rw [← hAe]; exact Or.inr h
  have hS : va_S A s.heap s.heap [] := va_S.rf
  have hl := lv_entry ([.ref qC]) (n := 1) (Nat.le_of_ble_eq_true rfl)
  rw [lg_entry_eq]
  generalize (lg_sl ([.ref qC]) ++ List.replicate (1 - (lg_sl ([.ref qC])).length) Slot.unset).toArray = ls at hl ⊢
  have hl : lv_has ls 1 [(0, .ref qC)] := hl
  refine lv_aload_n (pc := 0) hx hb dX0_comeBack_0 rfl (lv_at hl 0 rfl) ?_
  refine lv_iconst (pc := 1) (v := (-1 : Int32)) hx hb dX0_comeBack_1 (by decide) ?_
  refine va_put (D := (dC, dI)) (pc := 2) (ci := 0) (v := .int (-1 : Int32)) (ty := .int) (C := "LongMachine$Crossing") (T := TX0) (N := 5) hx hb hts ui_X0 tyX0 tyX0_ok nmX0 hown hK hP hD hS 0 rfl rfl 0 (by decide) (hts _ gm_76) (fun _ h9 => h9) rfl (by decide +kernel) rfl rfl (Nat.le_of_ble_eq_true rfl) dX0_comeBack_2 (fun H locs hP hD hS => ?_)
  have hP : va_P (dC, dI) vwCl (wC cI cJ qC (-1 : Int32) aA aB aC aPc) H := hP
  have hD : va_D A (wC cI cJ qC (-1 : Int32) aA aB aC aPc) := hD
  exact W.vret hx hb hr (fun t ht hW => ⟨rfl, by rw [ht]; exact hP, hS.F ht⟩) hS.2.2 dX0_comeBack_5
set_option maxRecDepth 100000 in
set_option maxHeartbeats 4000000 in
theorem c_X0_enter (l : Launch) (dC : Nat → ClassId) (dI : Nat → Nat → Nat) (cI cJ : ClassId) (qC : Nat) (sz : Nat) (aVec : Int32) (aA : Int64) (aB : Int64) (aC : Int64) (aPc : Int64) (z1 : Int32) (z2 : Int64) (z4 : Int64) (z6 : Int64) (z8 : Int64) : Met l yX0_enter (.code yX0_enter cX0_enter 10 none :: vG) ({ frames := 0, cells := 0, slots := 0, locals := 0 }) (va_Pc [.ref qC, .int z1, .long z2, .long z4, .long z6, .long z8] (qa_pre (dC, dI) vwCl (wC cI cJ qC aVec aA aB aC aPc) [(cI, .int), (cJ, .long)] sz)) (qa_mod none (dC, dI) vwCl (wC cI cJ qC z1 z2 z4 z6 z8) (va_A (wC cI cJ qC aVec aA aB aC aPc) sz)) 0 0 (va_A (wC cI cJ qC aVec aA aB aC aPc) sz) := by
  refine Met.ofW (cc := cX0_enter) (maxL := 10) (ret := none) (by decide) rfl ?_
  intro p e s m args below meth c s₁ B hml hv
  obtain ⟨rfl, hsz, hP, hK, hD0⟩ := hv
  have hx := B.exec
  have hb := B.bytes
  have hr := B.returns
  have hts : ∀ w ∈ vG, w.before _ s = true := fun w h => atoms_spec (ws := (.code yX0_enter cX0_enter 10 none :: vG)) B.pre w (List.mem_cons_of_mem _ h)
  have hown : s.vm.findClass "LongMachine$Crossing" = some m.cls := findClass_of_methodNamed B.named
  have hlocks := B.notSynchronized
  subst hsz
  have hD := hD0.self (sz := s.heap.size)
  generalize hAe : va_A (wC cI cJ qC aVec aA aB aC aPc) s.heap.size = A at hD ⊢
  have hA : ∀ q : Nat, s.heap.size ≤ q → A q := fun q h => by rw [← hAe]; exact Or.inr h
  have hS : va_S A s.heap s.heap [] := va_S.rf
  have hl := lv_entry ([.ref qC, .int z1, .long z2, .long z4, .long z6, .long z8]) (n := 10) (Nat.le_of_ble_eq_true rfl)
  rw [lg_entry_eq]
  generalize (lg_sl ([.ref qC, .int z1, .long z2, .long z4, .long z6, .long z8]) ++ List.replicate (10 - (lg_sl ([.ref qC, .int z1, .long z2, .long z4, .long z6, .long z8])).length) Slot.unset).toArray = ls at hl ⊢
  have hl : lv_has ls 10 [(0, .ref qC), (1, .int z1), (2, .long z2), (4, .long z4), (6, .long z6), (8, .long z8)] := hl
  refine lv_aload_n (pc := 0) hx hb dX0_enter_0 rfl (lv_at hl 0 rfl) ?_
  refine lv_iload_n (pc := 1) hx hb dX0_enter_1 rfl (lv_at hl 1 rfl) ?_
  refine va_put (D := (dC, dI)) (pc := 2) (ci := 0) (v := .int z1) (ty := .int) (C := "LongMachine$Crossing") (T := TX0) (N := 5) hx hb hts ui_X0 tyX0 tyX0_ok nmX0 hown hK hP hD hS 0 rfl rfl 0 (by decide) (hts _ gm_76) (fun _ h9 => h9) rfl (by decide +kernel) rfl rfl (Nat.le_of_ble_eq_true rfl) dX0_enter_2 (fun H locs hP hD hS => ?_)
  have hP : va_P (dC, dI) vwCl (wC cI cJ qC z1 aA aB aC aPc) H := hP
  have hD : va_D A (wC cI cJ qC z1 aA aB aC aPc) := hD
  refine lv_aload_n (pc := 5) hx hb dX0_enter_5 rfl (lv_at hl 0 rfl) ?_
  refine lv_lload_n (pc := 6) hx hb dX0_enter_6 rfl (lv_at hl 2 rfl) ?_
  refine va_put (D := (dC, dI)) (pc := 7) (ci := 0) (v := .long z2) (ty := .long) (C := "LongMachine$Crossing") (T := TX0) (N := 5) hx hb hts ui_X0 tyX0 tyX0_ok nmX0 hown hK hP hD hS 0 rfl rfl 1 (by decide) (hts _ gm_78) (fun _ h9 => h9) rfl (by decide +kernel) rfl rfl (Nat.le_of_ble_eq_true rfl) dX0_enter_7 (fun H locs hP hD hS => ?_)
  have hP : va_P (dC, dI) vwCl (wC cI cJ qC z1 z2 aB aC aPc) H := hP
  have hD : va_D A (wC cI cJ qC z1 z2 aB aC aPc) := hD
  refine lv_aload_n (pc := 10) hx hb dX0_enter_10 rfl (lv_at hl 0 rfl) ?_
  refine lv_lload (pc := 11) hx hb dX0_enter_11 (lv_at hl 3 rfl) ?_
  refine va_put (D := (dC, dI)) (pc := 13) (ci := 0) (v := .long z4) (ty := .long) (C := "LongMachine$Crossing") (T := TX0) (N := 5) hx hb hts ui_X0 tyX0 tyX0_ok nmX0 hown hK hP hD hS 0 rfl rfl 2 (by decide) (hts _ gm_80) (fun _ h9 => h9) rfl (by decide +kernel) rfl rfl (Nat.le_of_ble_eq_true rfl) dX0_enter_13 (fun H locs hP hD hS => ?_)
  have hP : va_P (dC, dI) vwCl (wC cI cJ qC z1 z2 z4 aC aPc) H := hP
  have hD : va_D A (wC cI cJ qC z1 z2 z4 aC aPc) := hD
  refine lv_aload_n (pc := 16) hx hb dX0_enter_16 rfl (lv_at hl 0 rfl) ?_
  refine lv_lload (pc := 17) hx hb dX0_enter_17 (lv_at hl 4 rfl) ?_
  refine va_put (D := (dC, dI)) (pc := 19) (ci := 0) (v := .long z6) (ty := .long) (C := "LongMachine$Crossing") (T := TX0) (N := 5) hx hb hts ui_X0 tyX0 tyX0_ok nmX0 hown hK hP hD hS 0 rfl rfl 3 (by decide) (hts _ gm_82) (fun _ h9 => h9) rfl (by decide +kernel) rfl rfl (Nat.le_of_ble_eq_true rfl) dX0_enter_19 (fun H locs hP hD hS => ?_)
  have hP : va_P (dC, dI) vwCl (wC cI cJ qC z1 z2 z4 z6 aPc) H := hP
  have hD : va_D A (wC cI cJ qC z1 z2 z4 z6 aPc) := hD
  refine lv_aload_n (pc := 22) hx hb dX0_enter_22 rfl (lv_at hl 0 rfl) ?_
  refine lv_lload (pc := 23) hx hb dX0_enter_23 (lv_at hl 5 rfl) ?_
  refine va_put (D := (dC, dI)) (pc := 25) (ci := 0) (v := .long z8) (ty := .long) (C := "LongMachine$Crossing") (T := TX0) (N := 5) hx hb hts ui_X0 tyX0 tyX0_ok nmX0 hown hK hP hD hS 0 rfl rfl 4 (by decide) (hts _ gm_84) (fun _ h9 => h9) rfl (by decide +kernel) rfl rfl (Nat.le_of_ble_eq_true rfl) dX0_enter_25 (fun H locs hP hD hS => ?_)
  have hP : va_P (dC, dI) vwCl (wC cI cJ qC z1 z2 z4 z6 z8) H := hP
  have hD : va_D A (wC cI cJ qC z1 z2 z4 z6 z8) := hD
  exact W.vret hx hb hr (fun t ht hW => ⟨rfl, by rw [ht]; exact hP, hS.F ht⟩) hS.2.2 dX0_enter_28
