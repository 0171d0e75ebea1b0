def f_X1_add (z1 : Int32) (z2 : Int32) (iCnt : Int32) (iL : (Nat → Int32)) (iN : (Nat → Int32)) : Int32 × Int32 × (Nat → Int32) × (Nat → Int32) := (if iCnt < (4 : Int32) then ((1 : Int32), (iCnt + (1 : Int32)), (upd iL (Int32.toNatClampNeg iCnt) z1), (upd iN (Int32.toNatClampNeg iCnt) z2)) else ((0 : Int32), iCnt, iL, iN))
set_option maxRecDepth 100000 in
set_option maxHeartbeats 4000000 in
theorem c_X1_add (l : Launch) (dC : Nat → ClassId) (dI : Nat → Nat → Nat) (cI cJ : ClassId) (qI qIl qIn : Nat) (sz : Nat) (iCnt : Int32) (iL : (Nat → Int32)) (iN : (Nat → Int32)) (z1 : Int32) (z2 : Int32) (hc0 : 0 ≤ iCnt.toInt) : Met l yX1_add (.code yX1_add cX1_add 3 (some .boolean) :: vG) ({ frames := 0, cells := 0, slots := 0, locals := 0 }) (va_Pc [.ref qI, .int z1, .int z2] (qa_pre (dC, dI) vwCl (wI cI cJ qI qIl qIn iCnt iL iN) [(cI, .int), (cJ, .long)] sz)) (qa_mod (some (.int ((f_X1_add z1 z2 iCnt iL iN).1))) (dC, dI) vwCl (wI cI cJ qI qIl qIn ((f_X1_add z1 z2 iCnt iL iN).2.1) ((f_X1_add z1 z2 iCnt iL iN).2.2.1) ((f_X1_add z1 z2 iCnt iL iN).2.2.2)) (va_A (wI cI cJ qI qIl qIn iCnt iL iN) sz)) 0 0 (va_A (wI cI cJ qI qIl qIn iCnt iL iN) sz) := by
  refine Met.ofW (cc := cX1_add) (maxL := 3) (ret := (some .boolean)) (by decide) rfl ?_
  intro p e s m args below meth c s₁ B hml hv
  obtain ⟨rfl, hsz, hP, hK, hD0⟩ := hv
  have hx := B.exec
  have hb := B.bytes
  have hr := B.returns
  have hts : ∀ w ∈ vG, w.before _ s = true := fun w h => atoms_spec (ws := (.code yX1_add cX1_add 3 (some .boolean) :: vG)) B.pre w (List.mem_cons_of_mem _ h)
  have hown : s.vm.findClass "LongMachine$Interrupts" = some m.cls := findClass_of_methodNamed B.named
  have hlocks := B.notSynchronized
  subst hsz
  have hD := hD0.self (sz := s.heap.size)
  generalize hAe : va_A (wI cI cJ qI qIl qIn iCnt iL iN) s.heap.size = A at hD ⊢
  have hA : ∀ q : Nat, s.heap.size ≤ q → A q := fun q h => by rw [← hAe]; exact Or.inr h
  have hS : va_S A s.heap s.heap [] := va_S.rf
  have hl := lv_entry ([.ref qI, .int z1, .int z2]) (n := 3) (Nat.le_of_ble_eq_true rfl)
  rw [lg_entry_eq]
  generalize (lg_sl ([.ref qI, .int z1, .int z2]) ++ List.replicate (3 - (lg_sl ([.ref qI, .int z1, .int z2])).length) Slot.unset).toArray = ls at hl ⊢
  have hl : lv_has ls 3 [(0, .ref qI), (1, .int z1), (2, .int z2)] := hl
  obtain ⟨u, hu⟩ : ∃ u, u = f_X1_add z1 z2 iCnt iL iN := ⟨_, rfl⟩
  rw [← hu]
  unfold f_X1_add at hu
  refine lv_aload_n (pc := 0) hx hb dX1_add_0 rfl (lv_at hl 0 rfl) ?_
  refine va_get (D := (dC, dI)) (pc := 1) (ci := 1) (v := .int iCnt) (C := "LongMachine$Interrupts") (T := TX1) (N := 3) hx hb hts ui_X1 hown hK hP 0 rfl rfl 2 (by decide) (hts _ gm_49) (fun _ h9 => h9) rfl dX1_add_1 ?_
  refine lv_iconst (pc := 4) (v := (4 : Int32)) hx hb dX1_add_4 (by decide) ?_
  refine lv_icmp_lt (pc := 5) (tgt := 10) hx hb dX1_add_5 (by decide) (fun h5_1 => ?_) (fun h5_1 => ?_)
  · have hu := hu.trans (if_pos h5_1)
    refine lv_aload_n (pc := 10) hx hb dX1_add_10 rfl (lv_at hl 0 rfl) ?_
    refine va_get (D := (dC, dI)) (pc := 11) (ci := 1) (v := .ref qIl) (C := "LongMachine$Interrupts") (T := TX1) (N := 3) hx hb hts ui_X1 hown hK hP 0 rfl rfl 0 (by decide) (hts _ gm_47) (fun _ h9 => h9) rfl dX1_add_11 ?_
    refine lv_aload_n (pc := 14) hx hb dX1_add_14 rfl (lv_at hl 0 rfl) ?_
    refine va_get (D := (dC, dI)) (pc := 15) (ci := 1) (v := .int iCnt) (C := "LongMachine$Interrupts") (T := TX1) (N := 3) hx hb hts ui_X1 hown hK hP 0 rfl rfl 2 (by decide) (hts _ gm_49) (fun _ h9 => h9) rfl dX1_add_15 ?_
    refine lv_iload_n (pc := 18) hx hb dX1_add_18 rfl (lv_at hl 1 rfl) ?_
    refine qa_iast (pc := 19) (k := (Int32.toNatClampNeg iCnt)) hx hb hK hP hD hS 1 0 rfl rfl rfl (rg_a hc0 h5_1 (by decide)) dX1_add_19 (fun H locs hP hD hS => ?_)
    have hP : va_P (dC, dI) vwCl (wI cI cJ qI qIl qIn iCnt (upd iL (Int32.toNatClampNeg iCnt) z1) iN) H := hP
    have hD : va_D A (wI cI cJ qI qIl qIn iCnt (upd iL (Int32.toNatClampNeg iCnt) z1) iN) := hD
    refine lv_aload_n (pc := 20) hx hb dX1_add_20 rfl (lv_at hl 0 rfl) ?_
    refine va_get (D := (dC, dI)) (pc := 21) (ci := 1) (v := .ref qIn) (C := "LongMachine$Interrupts") (T := TX1) (N := 3) hx hb hts ui_X1 hown hK hP 0 rfl rfl 1 (by decide) (hts _ gm_48) (fun _ h9 => h9) rfl dX1_add_21 ?_
    refine lv_aload_n (pc := 24) hx hb dX1_add_24 rfl (lv_at hl 0 rfl) ?_
    refine va_get (D := (dC, dI)) (pc := 25) (ci := 1) (v := .int iCnt) (C := "LongMachine$Interrupts") (T := TX1) (N := 3) hx hb hts ui_X1 hown hK hP 0 rfl rfl 2 (by decide) (hts _ gm_49) (fun _ h9 => h9) rfl dX1_add_25 ?_
    refine lv_iload_n (pc := 28) hx hb dX1_add_28 rfl (lv_at hl 2 rfl) ?_
    refine qa_iast (pc := 29) (k := (Int32.toNatClampNeg iCnt)) hx hb hK hP hD hS 2 0 rfl rfl rfl (rg_a hc0 h5_1 (by decide)) dX1_add_29 (fun H locs hP hD hS => ?_)
    have hP : va_P (dC, dI) vwCl (wI cI cJ qI qIl qIn iCnt (upd iL (Int32.toNatClampNeg iCnt) z1) (upd iN (Int32.toNatClampNeg iCnt) z2)) H := hP
    have hD : va_D A (wI cI cJ qI qIl qIn iCnt (upd iL (Int32.toNatClampNeg iCnt) z1) (upd iN (Int32.toNatClampNeg iCnt) z2)) := hD
    refine lv_aload_n (pc := 30) hx hb dX1_add_30 rfl (lv_at hl 0 rfl) ?_
    refine lv_dup (pc := 31) hx hb dX1_add_31 rfl ?_
    refine va_get (D := (dC, dI)) (pc := 32) (ci := 1) (v := .int iCnt) (C := "LongMachine$Interrupts") (T := TX1) (N := 3) hx hb hts ui_X1 hown hK hP 0 rfl rfl 2 (by decide) (hts _ gm_49) (fun _ h9 => h9) rfl dX1_add_32 ?_
    refine lv_iconst (pc := 35) (v := (1 : Int32)) hx hb dX1_add_35 (by decide) ?_
    refine lv_iadd (pc := 36) hx hb dX1_add_36 ?_
    refine va_put (D := (dC, dI)) (pc := 37) (ci := 1) (v := .int (iCnt + (1 : Int32))) (ty := .int) (C := "LongMachine$Interrupts") (T := TX1) (N := 3) hx hb hts ui_X1 tyX1 tyX1_ok nmX1 hown hK hP hD hS 0 rfl rfl 2 (by decide) (hts _ gm_49) (fun _ h9 => h9) rfl (by decide +kernel) rfl rfl (Nat.le_of_ble_eq_true rfl) dX1_add_37 (fun H locs hP hD hS => ?_)
    have hP : va_P (dC, dI) vwCl (wI cI cJ qI qIl qIn (iCnt + (1 : Int32)) (upd iL (Int32.toNatClampNeg iCnt) z1) (upd iN (Int32.toNatClampNeg iCnt) z2)) H := hP
    have hD : va_D A (wI cI cJ qI qIl qIn (iCnt + (1 : Int32)) (upd iL (Int32.toNatClampNeg iCnt) z1) (upd iN (Int32.toNatClampNeg iCnt) z2)) := hD
    refine lv_iconst (pc := 40) (v := (1 : Int32)) hx hb dX1_add_40 (by decide) ?_
    subst hu
    exact W.zret hx hb hr rfl (fun t ht hW => ⟨rfl, by rw [ht]; exact hP, hS.F ht⟩) hS.2.2 dX1_add_41
  · have hu := hu.trans (if_neg h5_1)
    refine lv_iconst (pc := 8) (v := (0 : Int32)) hx hb dX1_add_8 (by decide) ?_
    subst hu
    exact W.zret hx hb hr rfl (fun t ht hW => ⟨rfl, by rw [ht]; exact hP, hS.F ht⟩) hS.2.2 dX1_add_9
def f_X1_remove_B12 (iCnt : Int32) : Nat → Int32 → (Nat → Int32) → (Nat → Int32) → Int32 × (Nat → Int32) × (Nat → Int32)
  | 0, k2_12, iL_12, iN_12 => ((iCnt - (1 : Int32)), iL_12, iN_12)
  | n + 1, k2_12, iL_12, iN_12 => (if (iCnt - (1 : Int32)) ≤ k2_12 then ((iCnt - (1 : Int32)), iL_12, iN_12) else (f_X1_remove_B12 iCnt n (k2_12 + (1 : Int32)) (upd iL_12 (Int32.toNatClampNeg k2_12) (iL_12 (Int32.toNatClampNeg (k2_12 + (1 : Int32))))) (upd iN_12 (Int32.toNatClampNeg k2_12) (iN_12 (Int32.toNatClampNeg (k2_12 + (1 : Int32)))))))
theorem f_X1_remove_B12_s (iCnt : Int32) (n : Nat) (k2_12 : Int32) (iL_12 : (Nat → Int32)) (iN_12 : (Nat → Int32)) : f_X1_remove_B12 iCnt (n + 1) k2_12 iL_12 iN_12 = (if (iCnt - (1 : Int32)) ≤ k2_12 then ((iCnt - (1 : Int32)), iL_12, iN_12) else (f_X1_remove_B12 iCnt n (k2_12 + (1 : Int32)) (upd iL_12 (Int32.toNatClampNeg k2_12) (iL_12 (Int32.toNatClampNeg (k2_12 + (1 : Int32))))) (upd iN_12 (Int32.toNatClampNeg k2_12) (iN_12 (Int32.toNatClampNeg (k2_12 + (1 : Int32))))))) := rfl
def f_X1_remove (z1 : Int32) (iCnt : Int32) (iL : (Nat → Int32)) (iN : (Nat → Int32)) : Int32 × (Nat → Int32) × (Nat → Int32) := (f_X1_remove_B12 iCnt 5 z1 iL iN)
set_option maxRecDepth 100000 in
set_option maxHeartbeats 4000000 in
theorem c_X1_remove (l : Launch) (dC : Nat → ClassId) (dI : Nat → Nat → Nat) (cI cJ : ClassId) (qI qIl qIn : Nat) (sz : Nat) (iCnt : Int32) (iL : (Nat → Int32)) (iN : (Nat → Int32)) (z1 : Int32) (ha0 : 0 ≤ z1.toInt) (ha1 : z1.toInt < iCnt.toInt) (hc4 : iCnt.toInt ≤ 4) : Met l yX1_remove (.code yX1_remove cX1_remove 3 none :: vG) ({ frames := 0, cells := 0, slots := 0, locals := 0 }) (va_Pc [.ref qI, .int z1] (qa_pre (dC, dI) vwCl (wI cI cJ qI qIl qIn iCnt iL iN) [(cI, .int), (cJ, .long)] sz)) (qa_mod none (dC, dI) vwCl (wI cI cJ qI qIl qIn ((f_X1_remove z1 iCnt iL iN).1) ((f_X1_remove z1 iCnt iL iN).2.1) ((f_X1_remove z1 iCnt iL iN).2.2)) (va_A (wI cI cJ qI qIl qIn iCnt iL iN) sz)) 0 0 (va_A (wI cI cJ qI qIl qIn iCnt iL iN) sz) := by
  refine Met.ofW (cc := cX1_remove) (maxL := 3) (ret := none) (by decide) rfl ?_
  intro p e s m args below meth c s₁ B hml hv
  obtain ⟨rfl, hsz, hP, hK, hD0⟩ := hv
  have hx := B.exec
  have hb := B.bytes
  have hr := B.returns
  have hts : ∀ w ∈ vG, w.before _ s = true := fun w h => atoms_spec (ws := (.code yX1_remove cX1_remove 3 none :: vG)) B.pre w (List.mem_cons_of_mem _ h)
  have hown : s.vm.findClass "LongMachine$Interrupts" = some m.cls := findClass_of_methodNamed B.named
  have hlocks := B.notSynchronized
  subst hsz
  have hD := hD0.self (sz := s.heap.size)
  generalize hAe : va_A (wI cI cJ qI qIl qIn iCnt iL iN) s.heap.size = A at hD ⊢
  have hA : ∀ q : Nat, s.heap.size ≤ q → A q := fun q h => by rw [← hAe]; exact Or.inr h
  have hS : va_S A s.heap s.heap [] := va_S.rf
  have hl := lv_entry ([.ref qI, .int z1]) (n := 3) (Nat.le_of_ble_eq_true rfl)
  rw [lg_entry_eq]
  generalize (lg_sl ([.ref qI, .int z1]) ++ List.replicate (3 - (lg_sl ([.ref qI, .int z1])).length) Slot.unset).toArray = ls at hl ⊢
  have hl : lv_has ls 3 [(0, .ref qI), (1, .int z1)] := hl
  obtain ⟨u, hu⟩ : ∃ u, u = f_X1_remove z1 iCnt iL iN := ⟨_, rfl⟩
  rw [← hu]
  unfold f_X1_remove at hu
  refine lv_aload_n (pc := 0) hx hb dX1_remove_0 rfl (lv_at hl 0 rfl) ?_
  refine lv_dup (pc := 1) hx hb dX1_remove_1 rfl ?_
  refine va_get (D := (dC, dI)) (pc := 2) (ci := 1) (v := .int iCnt) (C := "LongMachine$Interrupts") (T := TX1) (N := 3) hx hb hts ui_X1 hown hK hP 0 rfl rfl 2 (by decide) (hts _ gm_49) (fun _ h9 => h9) rfl dX1_remove_2 ?_
  refine lv_iconst (pc := 5) (v := (1 : Int32)) hx hb dX1_remove_5 (by decide) ?_
  refine lv_isub (pc := 6) hx hb dX1_remove_6 ?_
  refine va_put (D := (dC, dI)) (pc := 7) (ci := 1) (v := .int (iCnt - (1 : Int32))) (ty := .int) (C := "LongMachine$Interrupts") (T := TX1) (N := 3) hx hb hts ui_X1 tyX1 tyX1_ok nmX1 hown hK hP hD hS 0 rfl rfl 2 (by decide) (hts _ gm_49) (fun _ h9 => h9) rfl (by decide +kernel) rfl rfl (Nat.le_of_ble_eq_true rfl) dX1_remove_7 (fun H locs hP hD hS => ?_)
  have hP : va_P (dC, dI) vwCl (wI cI cJ qI qIl qIn (iCnt - (1 : Int32)) iL iN) H := hP
  have hD : va_D A (wI cI cJ qI qIl qIn (iCnt - (1 : Int32)) iL iN) := hD
  refine lv_iload_n (pc := 10) hx hb dX1_remove_10 rfl (lv_at hl 1 rfl) ?_
  refine lv_istore_n (pc := 11) (lv' := [(2, .int z1), (0, .ref qI), (1, .int z1)]) hx hb dX1_remove_11 rfl hl (by decide) rfl (fun ls hl => ?_)
  have hB12 : ∀ (n : Nat) (k2_12 : Int32) (iL_12 : (Nat → Int32)) (iN_12 : (Nat → Int32)) (H : Heap) (locs : List Loc) (ls : Array Slot) (hq12_fu : (((iCnt - (1 : Int32))).toInt - (k2_12).toInt).toNat < n) (hq12_i0 : 0 ≤ (k2_12).toInt) (hP : va_P (dC, dI) vwCl (wI cI cJ qI qIl qIn (iCnt - (1 : Int32)) iL_12 iN_12) H) (hD : va_D A (wI cI cJ qI qIl qIn (iCnt - (1 : Int32)) iL_12 iN_12)) (hS : va_S A s.heap H locs) (hl : lv_has ls 3 [(0, .ref qI), (1, .int z1), (2, .int k2_12)]) (u : Int32 × (Nat → Int32) × (Nat → Int32)) (hu : u = f_X1_remove_B12 iCnt n k2_12 iL_12 iN_12), W p l e { frames := 0, cells := 0, slots := 0, locals := 0 } s m ([.ref qI, .int z1]).toArray below meth c H locs 0 0 (MQ below (qa_mod none (dC, dI) vwCl (wI cI cJ qI qIl qIn u.1 u.2.1 u.2.2) A) ([.ref qI, .int z1]).toArray s 0 0 A) (F0 m 12 ls []) := by
    intro n
    induction n with
    | zero => intro k2_12 iL_12 iN_12 H locs ls hq12_fu hq12_i0 hP hD hS hl u hu; exact absurd hq12_fu (Nat.not_lt_zero _)
    | succ n ih =>
        intro k2_12 iL_12 iN_12 H locs ls hq12_fu hq12_i0 hP hD hS hl u hu
        rw [f_X1_remove_B12_s] at hu
        refine lv_iload_n (pc := 12) hx hb dX1_remove_12 rfl (lv_at hl 2 rfl) ?_
        refine lv_aload_n (pc := 13) hx hb dX1_remove_13 rfl (lv_at hl 0 rfl) ?_
        refine va_get (D := (dC, dI)) (pc := 14) (ci := 1) (v := .int (iCnt - (1 : Int32))) (C := "LongMachine$Interrupts") (T := TX1) (N := 3) hx hb hts ui_X1 hown hK hP 0 rfl rfl 2 (by decide) (hts _ gm_49) (fun _ h9 => h9) rfl dX1_remove_14 ?_
        refine lv_icmp_ge (pc := 17) (tgt := 54) hx hb dX1_remove_17 (by decide) (fun h17_1 => ?_) (fun h17_1 => ?_)
        · have hu := hu.trans (if_pos h17_1)
          subst hu
          exact W.vret hx hb hr (fun t ht hW => ⟨rfl, by rw [ht]; exact hP, hS.F ht⟩) hS.2.2 dX1_remove_54
        · have hu := hu.trans (if_neg h17_1)
          refine lv_aload_n (pc := 20) hx hb dX1_remove_20 rfl (lv_at hl 0 rfl) ?_
          refine va_get (D := (dC, dI)) (pc := 21) (ci := 1) (v := .ref qIl) (C := "LongMachine$Interrupts") (T := TX1) (N := 3) hx hb hts ui_X1 hown hK hP 0 rfl rfl 0 (by decide) (hts _ gm_47) (fun _ h9 => h9) rfl dX1_remove_21 ?_
          refine lv_iload_n (pc := 24) hx hb dX1_remove_24 rfl (lv_at hl 2 rfl) ?_
          refine lv_aload_n (pc := 25) hx hb dX1_remove_25 rfl (lv_at hl 0 rfl) ?_
          refine va_get (D := (dC, dI)) (pc := 26) (ci := 1) (v := .ref qIl) (C := "LongMachine$Interrupts") (T := TX1) (N := 3) hx hb hts ui_X1 hown hK hP 0 rfl rfl 0 (by decide) (hts _ gm_47) (fun _ h9 => h9) rfl dX1_remove_26 ?_
          refine lv_iload_n (pc := 29) hx hb dX1_remove_29 rfl (lv_at hl 2 rfl) ?_
          refine lv_iconst (pc := 30) (v := (1 : Int32)) hx hb dX1_remove_30 (by decide) ?_
          refine lv_iadd (pc := 31) hx hb dX1_remove_31 ?_
          refine qa_iald (pc := 32) (k := (Int32.toNatClampNeg (k2_12 + (1 : Int32)))) hx hb hK hP 1 0 rfl rfl rfl (rg_r1 h17_1 hq12_i0 (by omega) hc4) dX1_remove_32 ?_
          refine qa_iast (pc := 33) (k := (Int32.toNatClampNeg k2_12)) hx hb hK hP hD hS 1 0 rfl rfl rfl (rg_r0 h17_1 hq12_i0 (by omega) hc4) dX1_remove_33 (fun H locs hP hD hS => ?_)
          have hP : va_P (dC, dI) vwCl (wI cI cJ qI qIl qIn (iCnt - (1 : Int32)) (upd iL_12 (Int32.toNatClampNeg k2_12) (iL_12 (Int32.toNatClampNeg (k2_12 + (1 : Int32))))) iN_12) H := hP
          have hD : va_D A (wI cI cJ qI qIl qIn (iCnt - (1 : Int32)) (upd iL_12 (Int32.toNatClampNeg k2_12) (iL_12 (Int32.toNatClampNeg (k2_12 + (1 : Int32))))) iN_12) := hD
          refine lv_aload_n (pc := 34) hx hb dX1_remove_34 rfl (lv_at hl 0 rfl) ?_
          refine va_get (D := (dC, dI)) (pc := 35) (ci := 1) (v := .ref qIn) (C := "LongMachine$Interrupts") (T := TX1) (N := 3) hx hb hts ui_X1 hown hK hP 0 rfl rfl 1 (by decide) (hts _ gm_48) (fun _ h9 => h9) rfl dX1_remove_35 ?_
          refine lv_iload_n (pc := 38) hx hb dX1_remove_38 rfl (lv_at hl 2 rfl) ?_
          refine lv_aload_n (pc := 39) hx hb dX1_remove_39 rfl (lv_at hl 0 rfl) ?_
          refine va_get (D := (dC, dI)) (pc := 40) (ci := 1) (v := .ref qIn) (C := "LongMachine$Interrupts") (T := TX1) (N := 3) hx hb hts ui_X1 hown hK hP 0 rfl rfl 1 (by decide) (hts _ gm_48) (fun _ h9 => h9) rfl dX1_remove_40 ?_
          refine lv_iload_n (pc := 43) hx hb dX1_remove_43 rfl (lv_at hl 2 rfl) ?_
          refine lv_iconst (pc := 44) (v := (1 : Int32)) hx hb dX1_remove_44 (by decide) ?_
          refine lv_iadd (pc := 45) hx hb dX1_remove_45 ?_
          refine qa_iald (pc := 46) (k := (Int32.toNatClampNeg (k2_12 + (1 : Int32)))) hx hb hK hP 2 0 rfl rfl rfl (rg_r1 h17_1 hq12_i0 (by omega) hc4) dX1_remove_46 ?_
          refine qa_iast (pc := 47) (k := (Int32.toNatClampNeg k2_12)) hx hb hK hP hD hS 2 0 rfl rfl rfl (rg_r0 h17_1 hq12_i0 (by omega) hc4) dX1_remove_47 (fun H locs hP hD hS => ?_)
          have hP : va_P (dC, dI) vwCl (wI cI cJ qI qIl qIn (iCnt - (1 : Int32)) (upd iL_12 (Int32.toNatClampNeg k2_12) (iL_12 (Int32.toNatClampNeg (k2_12 + (1 : Int32))))) (upd iN_12 (Int32.toNatClampNeg k2_12) (iN_12 (Int32.toNatClampNeg (k2_12 + (1 : Int32)))))) H := hP
          have hD : va_D A (wI cI cJ qI qIl qIn (iCnt - (1 : Int32)) (upd iL_12 (Int32.toNatClampNeg k2_12) (iL_12 (Int32.toNatClampNeg (k2_12 + (1 : Int32))))) (upd iN_12 (Int32.toNatClampNeg k2_12) (iN_12 (Int32.toNatClampNeg (k2_12 + (1 : Int32)))))) := hD
          refine lv_iinc (pc := 48) (k := 2) (lv' := [(2, .int (k2_12 + (1 : Int32))), (0, .ref qI), (1, .int z1)]) hx hb dX1_remove_48 hl rfl (qa_inc (by decide) k2_12) (by decide) rfl (fun ls hl => ?_)
          refine lv_goto (pc := 51) (tgt := 12) hx hb dX1_remove_51 (by decide) ?_
          exact ih (k2_12 + (1 : Int32)) (upd iL_12 (Int32.toNatClampNeg k2_12) (iL_12 (Int32.toNatClampNeg (k2_12 + (1 : Int32))))) (upd iN_12 (Int32.toNatClampNeg k2_12) (iN_12 (Int32.toNatClampNeg (k2_12 + (1 : Int32))))) _ _ _ (rg_fs h17_1 hq12_fu) (rg_i0 h17_1 hq12_i0) hP hD hS (lv_sub hl [1, 2, 0] rfl) u hu
  exact hB12 5 z1 iL iN _ _ _ (rg_rf ha0 (by omega) hc4) (ha0) hP hD hS (lv_sub hl [1, 2, 0] rfl) u hu
def f_X1_takeAbove_B7 (iCnt : Int32) (iL : (Nat → Int32)) (iN : (Nat → Int32)) : Nat → Int32 → Int32 → Int32 → Int32 × Int32 × (Nat → Int32) × (Nat → Int32)
  | 0, k2_7, k3_7, k4_7 => ((0 : Int32), iCnt, iL, iN)
  | n + 1, k2_7, k3_7, k4_7 => (if iCnt ≤ k4_7 then (if (0 : Int32) ≤ k2_7 then ((fun (r66_1 : Int32 × (Nat → Int32) × (Nat → Int32)) => ((((256 : Int32) * k3_7) + (iN (Int32.toNatClampNeg k2_7))), r66_1.1, r66_1.2.1, r66_1.2.2)) (f_X1_remove k2_7 iCnt iL iN)) else ((-1 : Int32), iCnt, iL, iN)) else (if (iL (Int32.toNatClampNeg k4_7)) ≤ k3_7 then (f_X1_takeAbove_B7 iCnt iL iN n k2_7 k3_7 (k4_7 + (1 : Int32))) else (f_X1_takeAbove_B7 iCnt iL iN n k4_7 (iL (Int32.toNatClampNeg k4_7)) (k4_7 + (1 : Int32)))))
theorem f_X1_takeAbove_B7_s (iCnt : Int32) (iL : (Nat → Int32)) (iN : (Nat → Int32)) (n : Nat) (k2_7 : Int32) (k3_7 : Int32) (k4_7 : Int32) : f_X1_takeAbove_B7 iCnt iL iN (n + 1) k2_7 k3_7 k4_7 = (if iCnt ≤ k4_7 then (if (0 : Int32) ≤ k2_7 then ((fun (r66_1 : Int32 × (Nat → Int32) × (Nat → Int32)) => ((((256 : Int32) * k3_7) + (iN (Int32.toNatClampNeg k2_7))), r66_1.1, r66_1.2.1, r66_1.2.2)) (f_X1_remove k2_7 iCnt iL iN)) else ((-1 : Int32), iCnt, iL, iN)) else (if (iL (Int32.toNatClampNeg k4_7)) ≤ k3_7 then (f_X1_takeAbove_B7 iCnt iL iN n k2_7 k3_7 (k4_7 + (1 : Int32))) else (f_X1_takeAbove_B7 iCnt iL iN n k4_7 (iL (Int32.toNatClampNeg k4_7)) (k4_7 + (1 : Int32))))) := rfl
def f_X1_takeAbove (z1 : Int32) (iCnt : Int32) (iL : (Nat → Int32)) (iN : (Nat → Int32)) : Int32 × Int32 × (Nat → Int32) × (Nat → Int32) := (f_X1_takeAbove_B7 iCnt iL iN 5 (-1 : Int32) z1 (0 : Int32))
set_option maxRecDepth 100000 in
set_option maxHeartbeats 4000000 in
theorem c_X1_takeAbove (l : Launch) (dC : Nat → ClassId) (dI : Nat → Nat → Nat) (cI cJ : ClassId) (qI qIl qIn : Nat) (sz : Nat) (iCnt : Int32) (iL : (Nat → Int32)) (iN : (Nat → Int32)) (z1 : Int32) (hc4 : iCnt.toInt ≤ 4) : Met l yX1_takeAbove (.code yX1_takeAbove cX1_takeAbove 5 (some .int) :: vG) ({ frames := 1, cells := 0, slots := 0, locals := 22 }) (va_Pc [.ref qI, .int z1] (qa_pre (dC, dI) vwCl (wI cI cJ qI qIl qIn iCnt iL iN) [(cI, .int), (cJ, .long)] sz)) (qa_mod (some (.int ((f_X1_takeAbove z1 iCnt iL iN).1))) (dC, dI) vwCl (wI cI cJ qI qIl qIn ((f_X1_takeAbove z1 iCnt iL iN).2.1) ((f_X1_takeAbove z1 iCnt iL iN).2.2.1) ((f_X1_takeAbove z1 iCnt iL iN).2.2.2)) (va_A (wI cI cJ qI qIl qIn iCnt iL iN) sz)) 0 0 (va_A (wI cI cJ qI qIl qIn iCnt iL iN) sz) := by
  refine Met.ofW (cc := cX1_takeAbove) (maxL := 5) (ret := (some .int)) (by decide) rfl ?_
  intro p e s m args below meth c s₁ B hml hv
  obtain ⟨rfl, hsz, hP, hK, hD0⟩ := hv
  have hx := B.exec
  have hb := B.bytes
  have hr := B.returns
  have hts : ∀ w ∈ vG, w.before _ s = true := fun w h => atoms_spec (ws := (.code yX1_takeAbove cX1_takeAbove 5 (some .int) :: vG)) B.pre w (List.mem_cons_of_mem _ h)
  have hown : s.vm.findClass "LongMachine$Interrupts" = some m.cls := findClass_of_methodNamed B.named
  have hlocks := B.notSynchronized
  subst hsz
  have hD := hD0.self (sz := s.heap.size)
  generalize hAe : va_A (wI cI cJ qI qIl qIn iCnt iL iN) s.heap.size = A at hD ⊢
  have hA : ∀ q : Nat, s.heap.size ≤ q → A q := fun q h => by rw [← hAe]; exact Or.inr h
  have hS : va_S A s.heap s.heap [] := va_S.rf
  have hl := lv_entry ([.ref qI, .int z1]) (n := 5) (Nat.le_of_ble_eq_true rfl)
  rw [lg_entry_eq]
  generalize (lg_sl ([.ref qI, .int z1]) ++ List.replicate (5 - (lg_sl ([.ref qI, .int z1])).length) Slot.unset).toArray = ls at hl ⊢
  have hl : lv_has ls 5 [(0, .ref qI), (1, .int z1)] := hl
  obtain ⟨u, hu⟩ : ∃ u, u = f_X1_takeAbove z1 iCnt iL iN := ⟨_, rfl⟩
  rw [← hu]
  unfold f_X1_takeAbove at hu
  refine lv_iconst (pc := 0) (v := (-1 : Int32)) hx hb dX1_takeAbove_0 (by decide) ?_
  refine lv_istore_n (pc := 1) (lv' := [(2, .int (-1 : Int32)), (0, .ref qI), (1, .int z1)]) hx hb dX1_takeAbove_1 rfl hl (by decide) rfl (fun ls hl => ?_)
  refine lv_iload_n (pc := 2) hx hb dX1_takeAbove_2 rfl (lv_at hl 2 rfl) ?_
  refine lv_istore_n (pc := 3) (lv' := [(3, .int z1), (2, .int (-1 : Int32)), (0, .ref qI), (1, .int z1)]) hx hb dX1_takeAbove_3 rfl hl (by decide) rfl (fun ls hl => ?_)
  refine lv_iconst (pc := 4) (v := (0 : Int32)) hx hb dX1_takeAbove_4 (by decide) ?_
  refine lv_istore (pc := 5) (lv' := [(4, .int (0 : Int32)), (3, .int z1), (2, .int (-1 : Int32)), (0, .ref qI), (1, .int z1)]) hx hb dX1_takeAbove_5 hl (by decide) rfl (fun ls hl => ?_)
  have hB7 : ∀ (n : Nat) (k2_7 : Int32) (k3_7 : Int32) (k4_7 : Int32) (H : Heap) (locs : List Loc) (ls : Array Slot) (hq7_fu : ((iCnt).toInt - (k4_7).toInt).toNat < n) (hq7_i0 : 0 ≤ (k4_7).toInt) (hq7_bs : (k2_7).toInt = -1 ∨ (0 ≤ (k2_7).toInt ∧ (k2_7).toInt < (iCnt).toInt)) (hP : va_P (dC, dI) vwCl (wI cI cJ qI qIl qIn iCnt iL iN) H) (hD : va_D A (wI cI cJ qI qIl qIn iCnt iL iN)) (hS : va_S A s.heap H locs) (hl : lv_has ls 5 [(0, .ref qI), (1, .int z1), (2, .int k2_7), (3, .int k3_7), (4, .int k4_7)]) (u : Int32 × Int32 × (Nat → Int32) × (Nat → Int32)) (hu : u = f_X1_takeAbove_B7 iCnt iL iN n k2_7 k3_7 k4_7), W p l e { frames := 1, cells := 0, slots := 0, locals := 22 } s m ([.ref qI, .int z1]).toArray below meth c H locs 0 0 (MQ below (qa_mod (some (.int u.1)) (dC, dI) vwCl (wI cI cJ qI qIl qIn u.2.1 u.2.2.1 u.2.2.2) A) ([.ref qI, .int z1]).toArray s 0 0 A) (F0 m 7 ls []) := by
    intro n
    induction n with
    | zero => intro k2_7 k3_7 k4_7 H locs ls hq7_fu hq7_i0 hq7_bs hP hD hS hl u hu; exact absurd hq7_fu (Nat.not_lt_zero _)
    | succ n ih =>
        intro k2_7 k3_7 k4_7 H locs ls hq7_fu hq7_i0 hq7_bs hP hD hS hl u hu
        rw [f_X1_takeAbove_B7_s] at hu
        refine lv_iload (pc := 7) hx hb dX1_takeAbove_7 (lv_at hl 4 rfl) ?_
        refine lv_aload_n (pc := 9) hx hb dX1_takeAbove_9 rfl (lv_at hl 0 rfl) ?_
        refine va_get (D := (dC, dI)) (pc := 10) (ci := 1) (v := .int iCnt) (C := "LongMachine$Interrupts") (T := TX1) (N := 3) hx hb hts ui_X1 hown hK hP 0 rfl rfl 2 (by decide) (hts _ gm_49) (fun _ h9 => h9) rfl dX1_takeAbove_10 ?_
        refine lv_icmp_ge (pc := 13) (tgt := 44) hx hb dX1_takeAbove_13 (by decide) (fun h13_1 => ?_) (fun h13_1 => ?_)
        · have hu := hu.trans (if_pos h13_1)
          refine lv_iload_n (pc := 44) hx hb dX1_takeAbove_44 rfl (lv_at hl 2 rfl) ?_
          refine lv_if_ge (pc := 45) (tgt := 50) hx hb dX1_takeAbove_45 (by decide) (fun h45_2 => ?_) (fun h45_2 => ?_)
          · have hu := hu.trans (if_pos h45_2)
            refine lv_sipush (pc := 50) (v := (256 : Int32)) hx hb dX1_takeAbove_50 (by decide) ?_
            refine lv_iload_n (pc := 53) hx hb dX1_takeAbove_53 rfl (lv_at hl 3 rfl) ?_
            refine lv_imul (pc := 54) hx hb dX1_takeAbove_54 ?_
            refine lv_aload_n (pc := 55) hx hb dX1_takeAbove_55 rfl (lv_at hl 0 rfl) ?_
            refine va_get (D := (dC, dI)) (pc := 56) (ci := 1) (v := .ref qIn) (C := "LongMachine$Interrupts") (T := TX1) (N := 3) hx hb hts ui_X1 hown hK hP 0 rfl rfl 1 (by decide) (hts _ gm_48) (fun _ h9 => h9) rfl dX1_takeAbove_56 ?_
            refine lv_iload_n (pc := 59) hx hb dX1_takeAbove_59 rfl (lv_at hl 2 rfl) ?_
            refine qa_iald (pc := 60) (k := (Int32.toNatClampNeg k2_7)) hx hb hK hP 2 0 rfl rfl rfl (rg_best h45_2 hq7_bs hc4) dX1_takeAbove_60 ?_
            refine lv_iadd (pc := 61) hx hb dX1_takeAbove_61 ?_
            refine lv_istore (pc := 62) (lv' := [(4, .int (((256 : Int32) * k3_7) + (iN (Int32.toNatClampNeg k2_7)))), (0, .ref qI), (1, .int z1), (2, .int k2_7), (3, .int k3_7)]) hx hb dX1_takeAbove_62 hl (by decide) rfl (fun ls hl => ?_)
            refine lv_aload_n (pc := 64) hx hb dX1_takeAbove_64 rfl (lv_at hl 1 rfl) ?_
            refine lv_iload_n (pc := 65) hx hb dX1_takeAbove_65 rfl (lv_at hl 3 rfl) ?_
            have hc := c_X1_remove l dC dI cI cJ qI qIl qIn H.size iCnt iL iN k2_7 (rg_best0 h45_2) (rg_best1 h45_2 hq7_bs) (hc4)
            generalize er66_1 : f_X1_remove k2_7 iCnt iL iN = r66_1 at hu hc
            have hu : u = ((((256 : Int32) * k3_7) + (iN (Int32.toNatClampNeg k2_7))), r66_1.1, r66_1.2.1, r66_1.2.2) := hu
            refine qa_callv (pc := 66) (wr := []) (wf := (wI cI cJ qI qIl qIn r66_1.1 r66_1.2.1 r66_1.2.2)) (va_runV (As := [.int k2_7]) (rest := []) ⟨hx, hb, hml, hown, hts⟩ hc (cwV 1 hts (gd_V gm_165 gm_163 gm_164 gm_550 gm_3) rfl rfl rfl (by decide +kernel) ⟨Nat.le_of_ble_eq_true rfl, Nat.le_of_ble_eq_true rfl⟩) (qa_VM (q0 := 0) (q := ("LongMachine$Interrupts", TX1, 3)) hK hP rfl rfl hP hD) rfl rfl hl.1 rfl (lv_room (Nat.le_of_ble_eq_true rfl)) dX1_takeAbove_66 ⟨Nat.zero_le _, Nat.zero_le _⟩) hP hD hS hA [0, 1, 2] [] [0, 1, 2] rfl (by decide) rfl (by decide) (by decide) rfl rfl (by decide) (fun H locs hP hD hS => ?_)
            refine lv_iload (pc := 69) hx hb dX1_takeAbove_69 (lv_at hl 0 rfl) ?_
            subst hu
            exact W.iret hx hb hr (fun t ht hW => ⟨rfl, by rw [ht]; exact hP, hS.F ht⟩) hS.2.2 dX1_takeAbove_71
          · have hu := hu.trans (if_neg h45_2)
            refine lv_iconst (pc := 48) (v := (-1 : Int32)) hx hb dX1_takeAbove_48 (by decide) ?_
            subst hu
            exact W.iret hx hb hr (fun t ht hW => ⟨rfl, by rw [ht]; exact hP, hS.F ht⟩) hS.2.2 dX1_takeAbove_49
        · have hu := hu.trans (if_neg h13_1)
          refine lv_aload_n (pc := 16) hx hb dX1_takeAbove_16 rfl (lv_at hl 0 rfl) ?_
          refine va_get (D := (dC, dI)) (pc := 17) (ci := 1) (v := .ref qIl) (C := "LongMachine$Interrupts") (T := TX1) (N := 3) hx hb hts ui_X1 hown hK hP 0 rfl rfl 0 (by decide) (hts _ gm_47) (fun _ h9 => h9) rfl dX1_takeAbove_17 ?_
          refine lv_iload (pc := 20) hx hb dX1_takeAbove_20 (lv_at hl 4 rfl) ?_
          refine qa_iald (pc := 22) (k := (Int32.toNatClampNeg k4_7)) hx hb hK hP 1 0 rfl rfl rfl (rg_b hq7_i0 h13_1 hc4) dX1_takeAbove_22 ?_
          refine lv_iload_n (pc := 23) hx hb dX1_takeAbove_23 rfl (lv_at hl 3 rfl) ?_
          refine lv_icmp_le (pc := 24) (tgt := 38) hx hb dX1_takeAbove_24 (by decide) (fun h24_3 => ?_) (fun h24_3 => ?_)
          · have hu := hu.trans (if_pos h24_3)
            refine lv_iinc (pc := 38) (k := 4) (lv' := [(4, .int (k4_7 + (1 : Int32))), (0, .ref qI), (1, .int z1), (2, .int k2_7), (3, .int k3_7)]) hx hb dX1_takeAbove_38 hl rfl (qa_inc (by decide) k4_7) (by decide) rfl (fun ls hl => ?_)
            refine lv_goto (pc := 41) (tgt := 7) hx hb dX1_takeAbove_41 (by decide) ?_
            exact ih k2_7 k3_7 (k4_7 + (1 : Int32)) _ _ _ (rg_fs h13_1 hq7_fu) (rg_i0 h13_1 hq7_i0) (by first | exact hq7_bs | exact Or.inr ⟨hq7_i0, rg_lt h13_1⟩) hP hD hS (lv_sub hl [1, 2, 3, 4, 0] rfl) u hu
          · have hu := hu.trans (if_neg h24_3)
            refine lv_iload (pc := 27) hx hb dX1_takeAbove_27 (lv_at hl 4 rfl) ?_
            refine lv_istore_n (pc := 29) (lv' := [(2, .int k4_7), (0, .ref qI), (1, .int z1), (3, .int k3_7), (4, .int k4_7)]) hx hb dX1_takeAbove_29 rfl hl (by decide) rfl (fun ls hl => ?_)
            refine lv_aload_n (pc := 30) hx hb dX1_takeAbove_30 rfl (lv_at hl 1 rfl) ?_
            refine va_get (D := (dC, dI)) (pc := 31) (ci := 1) (v := .ref qIl) (C := "LongMachine$Interrupts") (T := TX1) (N := 3) hx hb hts ui_X1 hown hK hP 0 rfl rfl 0 (by decide) (hts _ gm_47) (fun _ h9 => h9) rfl dX1_takeAbove_31 ?_
            refine lv_iload (pc := 34) hx hb dX1_takeAbove_34 (lv_at hl 4 rfl) ?_
            refine qa_iald (pc := 36) (k := (Int32.toNatClampNeg k4_7)) hx hb hK hP 1 0 rfl rfl rfl (rg_b hq7_i0 h13_1 hc4) dX1_takeAbove_36 ?_
            refine lv_istore_n (pc := 37) (lv' := [(3, .int (iL (Int32.toNatClampNeg k4_7))), (2, .int k4_7), (0, .ref qI), (1, .int z1), (4, .int k4_7)]) hx hb dX1_takeAbove_37 rfl hl (by decide) rfl (fun ls hl => ?_)
            refine lv_iinc (pc := 38) (k := 4) (lv' := [(4, .int (k4_7 + (1 : Int32))), (3, .int (iL (Int32.toNatClampNeg k4_7))), (2, .int k4_7), (0, .ref qI), (1, .int z1)]) hx hb dX1_takeAbove_38 hl rfl (qa_inc (by decide) k4_7) (by decide) rfl (fun ls hl => ?_)
            refine lv_goto (pc := 41) (tgt := 7) hx hb dX1_takeAbove_41 (by decide) ?_
            exact ih k4_7 (iL (Int32.toNatClampNeg k4_7)) (k4_7 + (1 : Int32)) _ _ _ (rg_fs h13_1 hq7_fu) (rg_i0 h13_1 hq7_i0) (by first | exact hq7_bs | exact Or.inr ⟨hq7_i0, rg_lt h13_1⟩) hP hD hS (lv_sub hl [3, 4, 2, 1, 0] rfl) u hu
  exact hB7 5 (-1 : Int32) z1 (0 : Int32) _ _ _ (rg_f0 hc4) (rg_z) (Or.inl (by decide)) hP hD hS (lv_sub hl [3, 4, 2, 1, 0] rfl) u hu
