set_option maxRecDepth 100000 in
set_option maxHeartbeats 4000000 in
theorem c_X2_load (l : Launch) (dC : Nat → ClassId) (dI : Nat → Nat → Nat) (cI cJ : ClassId) (qM qMw qMp qMs qMd : Nat) (mOld : Int32) (mCnt : Int32) (mTab : Int32) (mSpc : Int32) (mW : (Nat → Int64)) (mP : (Nat → Int32)) (mS : (Nat → Int32)) (mD : (Nat → Int64)) (z1 : Int32) (z2 : Int32) (hp0 : 0 ≤ z1.toInt) (hp1 : z1.toInt < 4096) : Met l yX2_load (.code yX2_load cX2_load 5 (some .long) :: vG) ({ frames := 0, cells := 0, slots := 0, locals := 0 }) (va_Pc [.ref qM, .int z1, .int z2] (qa_preR (dC, dI) vwCl (wM cI cJ qM qMw qMp qMs qMd mOld mCnt mTab mSpc mW mP mS mD) [(cI, .int), (cJ, .long)])) (qa_det (.long (if z2 = (0 : Int32) then (Int32.toInt64 (Int64.toInt32 (jlushr (mW (Int32.toNatClampNeg (z1 >>> ((3 : Int32) &&& (31 : Int32))))) ((8 : Int32) * (z1 &&& (4 : Int32)))))) else (mW (Int32.toNatClampNeg (z1 >>> ((3 : Int32) &&& (31 : Int32)))))))) 0 0 (fun _ => False) := by
  refine Met.ofW (cc := cX2_load) (maxL := 5) (ret := (some .long)) (by decide) rfl ?_
  intro p e s m args below meth c s₁ B hml hv
  obtain ⟨rfl, hP, hK⟩ := hv
  have hx := B.exec
  have hb := B.bytes
  have hr := B.returns
  have hts : ∀ w ∈ vG, w.before _ s = true := fun w h => atoms_spec (ws := (.code yX2_load cX2_load 5 (some .long) :: vG)) B.pre w (List.mem_cons_of_mem _ h)
  have hown : s.vm.findClass "LongMachine$Memory" = some m.cls := findClass_of_methodNamed B.named
  have hlocks := B.notSynchronized
  have hl := lv_entry ([.ref qM, .int z1, .int z2]) (n := 5) (Nat.le_of_ble_eq_true rfl)
  rw [lg_entry_eq]
  generalize (lg_sl ([.ref qM, .int z1, .int z2]) ++ List.replicate (5 - (lg_sl ([.ref qM, .int z1, .int z2])).length) Slot.unset).toArray = ls at hl ⊢
  have hl : lv_has ls 5 [(0, .ref qM), (1, .int z1), (2, .int z2)] := hl
  refine lv_aload_n (pc := 0) hx hb dX2_load_0 rfl (lv_at hl 0 rfl) ?_
  refine va_get (D := (dC, dI)) (pc := 1) (ci := 2) (v := .ref qMw) (C := "LongMachine$Memory") (T := TX2) (N := 8) hx hb hts ui_X2 hown hK hP 0 rfl rfl 0 (by decide) (hts _ gm_20) (fun _ h9 => h9) rfl dX2_load_1 ?_
  refine lv_iload_n (pc := 4) hx hb dX2_load_4 rfl (lv_at hl 1 rfl) ?_
  refine lv_iconst (pc := 5) (v := (3 : Int32)) hx hb dX2_load_5 (by decide) ?_
  refine lv_ishr (pc := 6) hx hb dX2_load_6 ?_
  refine qa_lald (pc := 7) (k := (Int32.toNatClampNeg (z1 >>> ((3 : Int32) &&& (31 : Int32))))) hx hb hK hP 1 1 rfl rfl rfl (rg_sh3 hp0 hp1) dX2_load_7 ?_
  refine lv_lstore_n (pc := 8) (lv' := [(3, .long (mW (Int32.toNatClampNeg (z1 >>> ((3 : Int32) &&& (31 : Int32)))))), (0, .ref qM), (1, .int z1), (2, .int z2)]) hx hb dX2_load_8 rfl hl (by decide) rfl (fun ls hl => ?_)
  refine lv_iload_n (pc := 9) hx hb dX2_load_9 rfl (lv_at hl 3 rfl) ?_
  refine qa_joinl (J := 27) (ls2 := ls) (rest2 := []) (if z2 = (0 : Int32) then (Int32.toInt64 (Int64.toInt32 (jlushr (mW (Int32.toNatClampNeg (z1 >>> ((3 : Int32) &&& (31 : Int32))))) ((8 : Int32) * (z1 &&& (4 : Int32)))))) else (mW (Int32.toNatClampNeg (z1 >>> ((3 : Int32) &&& (31 : Int32)))))) (fun hj27 => ?_) ?_
  · refine lv_if_eq (pc := 10) (tgt := 17) hx hb dX2_load_10 (by decide) (fun h10_1 => ?_) (fun h10_1 => ?_)
    · refine lv_lload_n (pc := 17) hx hb dX2_load_17 rfl (lv_at hl 0 rfl) ?_
      refine lv_bipush (pc := 18) (v := (8 : Int32)) hx hb dX2_load_18 (by decide) ?_
      refine lv_iload_n (pc := 20) hx hb dX2_load_20 rfl (lv_at hl 2 rfl) ?_
      refine lv_iconst (pc := 21) (v := (4 : Int32)) hx hb dX2_load_21 (by decide) ?_
      refine lv_iand (pc := 22) hx hb dX2_load_22 ?_
      refine lv_imul (pc := 23) hx hb dX2_load_23 ?_
      refine lv_lushr (pc := 24) (v := (jlushr (mW (Int32.toNatClampNeg (z1 >>> ((3 : Int32) &&& (31 : Int32))))) ((8 : Int32) * (z1 &&& (4 : Int32))))) hx hb dX2_load_24 rfl ?_
      refine lv_l2i (pc := 25) (v := (Int64.toInt32 (jlushr (mW (Int32.toNatClampNeg (z1 >>> ((3 : Int32) &&& (31 : Int32))))) ((8 : Int32) * (z1 &&& (4 : Int32)))))) hx hb dX2_load_25 rfl ?_
      refine lv_i2l (pc := 26) (v := (Int32.toInt64 (Int64.toInt32 (jlushr (mW (Int32.toNatClampNeg (z1 >>> ((3 : Int32) &&& (31 : Int32))))) ((8 : Int32) * (z1 &&& (4 : Int32))))))) hx hb dX2_load_26 rfl ?_
      exact hj27 _ (Eq.symm (if_pos h10_1))
    · refine lv_lload_n (pc := 13) hx hb dX2_load_13 rfl (lv_at hl 0 rfl) ?_
      refine lv_goto (pc := 14) (tgt := 27) hx hb dX2_load_14 (by decide) ?_
      exact hj27 _ (Eq.symm (if_neg h10_1))
  exact W.lret hx hb hr (fun t ht hW => ⟨rfl, ht⟩) (fun _ h => by cases h) dX2_load_27
set_option maxRecDepth 100000 in
set_option maxHeartbeats 4000000 in
theorem c_X2_store (l : Launch) (dC : Nat → ClassId) (dI : Nat → Nat → Nat) (cI cJ : ClassId) (qM qMw qMp qMs qMd : Nat) (sz : Nat) (mOld : Int32) (mCnt : Int32) (mTab : Int32) (mSpc : Int32) (mW : (Nat → Int64)) (mP : (Nat → Int32)) (mS : (Nat → Int32)) (mD : (Nat → Int64)) (z1 : Int32) (z2 : Int32) (z3 : Int64) (hp0 : 0 ≤ z1.toInt) (hp1 : z1.toInt < 4096) : Met l yX2_store (.code yX2_store cX2_store 10 none :: vG) ({ frames := 0, cells := 0, slots := 0, locals := 0 }) (va_Pc [.ref qM, .int z1, .int z2, .long z3] (qa_pre (dC, dI) vwCl (wM cI cJ qM qMw qMp qMs qMd mOld mCnt mTab mSpc mW mP mS mD) [(cI, .int), (cJ, .long)] sz)) (qa_mod none (dC, dI) vwCl (wM cI cJ qM qMw qMp qMs qMd mOld mCnt mTab mSpc (vp_updL mW (Int32.toNatClampNeg (z1 >>> ((3 : Int32) &&& (31 : Int32)))) (((mW (Int32.toNatClampNeg (z1 >>> ((3 : Int32) &&& (31 : Int32))))) &&& ((if z2 = (0 : Int32) then (jlshl (4294967295 : Int64) ((8 : Int32) * (z1 &&& (4 : Int32)))) else (-1 : Int64)) ^^^ (-1 : Int64))) ||| ((if z2 = (0 : Int32) then (jlshl z3 ((8 : Int32) * (z1 &&& (4 : Int32)))) else z3) &&& (if z2 = (0 : Int32) then (jlshl (4294967295 : Int64) ((8 : Int32) * (z1 &&& (4 : Int32)))) else (-1 : Int64))))) mP mS mD) (va_A (wM cI cJ qM qMw qMp qMs qMd mOld mCnt mTab mSpc mW mP mS mD) sz)) 0 0 (va_A (wM cI cJ qM qMw qMp qMs qMd mOld mCnt mTab mSpc mW mP mS mD) sz) := by
  refine Met.ofW (cc := cX2_store) (maxL := 10) (ret := none) (by decide) rfl ?_
  intro p e s m args below meth c s₁ B hml hv
  obtain ⟨rfl, hsz, hP, hK, hD0⟩ := hv
  have hx := B.exec
  have hb := B.bytes
  have hr := B.returns
  have hts : ∀ w ∈ vG, w.before _ s = true := fun w h => atoms_spec (ws := (.code yX2_store cX2_store 10 none :: vG)) B.pre w (List.mem_cons_of_mem _ h)
  have hown : s.vm.findClass "LongMachine$Memory" = some m.cls := findClass_of_methodNamed B.named
  have hlocks := B.notSynchronized
  subst hsz
  have hD := hD0.self (sz := s.heap.size)
  generalize hAe : va_A (wM cI cJ qM qMw qMp qMs qMd mOld mCnt mTab mSpc mW mP mS mD) s.heap.size = A at hD ⊢
  have hA : ∀ q : Nat, s.heap.size ≤ q → A q := fun q h => by rw [← hAe]; exact Or.inr h
  have hS : va_S A s.heap s.heap [] := va_S.rf
  have hl := lv_entry ([.ref qM, .int z1, .int z2, .long z3]) (n := 10) (Nat.le_of_ble_eq_true rfl)
  rw [lg_entry_eq]
  generalize (lg_sl ([.ref qM, .int z1, .int z2, .long z3]) ++ List.replicate (10 - (lg_sl ([.ref qM, .int z1, .int z2, .long z3])).length) Slot.unset).toArray = ls at hl ⊢
  have hl : lv_has ls 10 [(0, .ref qM), (1, .int z1), (2, .int z2), (3, .long z3)] := hl
  refine lv_bipush (pc := 0) (v := (8 : Int32)) hx hb dX2_store_0 (by decide) ?_
  refine lv_iload_n (pc := 2) hx hb dX2_store_2 rfl (lv_at hl 1 rfl) ?_
  refine lv_iconst (pc := 3) (v := (4 : Int32)) hx hb dX2_store_3 (by decide) ?_
  refine lv_iand (pc := 4) hx hb dX2_store_4 ?_
  refine lv_imul (pc := 5) hx hb dX2_store_5 ?_
  refine lv_istore (pc := 6) (lv' := [(5, .int ((8 : Int32) * (z1 &&& (4 : Int32)))), (0, .ref qM), (1, .int z1), (2, .int z2), (3, .long z3)]) hx hb dX2_store_6 hl (by decide) rfl (fun ls hl => ?_)
  refine lv_iload_n (pc := 8) hx hb dX2_store_8 rfl (lv_at hl 3 rfl) ?_
  refine qa_joinl (J := 24) (ls2 := ls) (rest2 := []) (if z2 = (0 : Int32) then (jlshl (4294967295 : Int64) ((8 : Int32) * (z1 &&& (4 : Int32)))) else (-1 : Int64)) (fun hj24 => ?_) ?_
  · refine lv_if_eq (pc := 9) (tgt := 18) hx hb dX2_store_9 (by decide) (fun h9_1 => ?_) (fun h9_1 => ?_)
    · refine lv_ldc2 (pc := 18) (v := (4294967295 : Int64)) hx hb hown (hts _ gm_249) dX2_store_18 ?_
      refine lv_iload (pc := 21) hx hb dX2_store_21 (lv_at hl 0 rfl) ?_
      refine lv_lshl (pc := 23) (v := (jlshl (4294967295 : Int64) ((8 : Int32) * (z1 &&& (4 : Int32))))) hx hb dX2_store_23 rfl ?_
      exact hj24 _ (Eq.symm (if_pos h9_1))
    · refine lv_ldc2 (pc := 12) (v := (-1 : Int64)) hx hb hown (hts _ gm_248) dX2_store_12 ?_
      refine lv_goto (pc := 15) (tgt := 24) hx hb dX2_store_15 (by decide) ?_
      exact hj24 _ (Eq.symm (if_neg h9_1))
  refine lv_lstore (pc := 24) (lv' := [(6, .long (if z2 = (0 : Int32) then (jlshl (4294967295 : Int64) ((8 : Int32) * (z1 &&& (4 : Int32)))) else (-1 : Int64))), (5, .int ((8 : Int32) * (z1 &&& (4 : Int32)))), (0, .ref qM), (1, .int z1), (2, .int z2), (3, .long z3)]) hx hb dX2_store_24 hl (by decide) rfl (fun ls hl => ?_)
  refine lv_iload_n (pc := 26) hx hb dX2_store_26 rfl (lv_at hl 4 rfl) ?_
  refine qa_joinl (J := 38) (ls2 := ls) (rest2 := []) (if z2 = (0 : Int32) then (jlshl z3 ((8 : Int32) * (z1 &&& (4 : Int32)))) else z3) (fun hj38 => ?_) ?_
  · refine lv_if_eq (pc := 27) (tgt := 34) hx hb dX2_store_27 (by decide) (fun h27_2 => ?_) (fun h27_2 => ?_)
    · refine lv_lload_n (pc := 34) hx hb dX2_store_34 rfl (lv_at hl 5 rfl) ?_
      refine lv_iload (pc := 35) hx hb dX2_store_35 (lv_at hl 1 rfl) ?_
      refine lv_lshl (pc := 37) (v := (jlshl z3 ((8 : Int32) * (z1 &&& (4 : Int32))))) hx hb dX2_store_37 rfl ?_
      exact hj38 _ (Eq.symm (if_pos h27_2))
    · refine lv_lload_n (pc := 30) hx hb dX2_store_30 rfl (lv_at hl 5 rfl) ?_
      refine lv_goto (pc := 31) (tgt := 38) hx hb dX2_store_31 (by decide) ?_
      exact hj38 _ (Eq.symm (if_neg h27_2))
  refine lv_lstore (pc := 38) (lv' := [(8, .long (if z2 = (0 : Int32) then (jlshl z3 ((8 : Int32) * (z1 &&& (4 : Int32)))) else z3)), (6, .long (if z2 = (0 : Int32) then (jlshl (4294967295 : Int64) ((8 : Int32) * (z1 &&& (4 : Int32)))) else (-1 : Int64))), (5, .int ((8 : Int32) * (z1 &&& (4 : Int32)))), (0, .ref qM), (1, .int z1), (2, .int z2), (3, .long z3)]) hx hb dX2_store_38 hl (by decide) rfl (fun ls hl => ?_)
  refine lv_aload_n (pc := 40) hx hb dX2_store_40 rfl (lv_at hl 3 rfl) ?_
  refine va_get (D := (dC, dI)) (pc := 41) (ci := 2) (v := .ref qMw) (C := "LongMachine$Memory") (T := TX2) (N := 8) hx hb hts ui_X2 hown hK hP 0 rfl rfl 0 (by decide) (hts _ gm_20) (fun _ h9 => h9) rfl dX2_store_41 ?_
  refine lv_iload_n (pc := 44) hx hb dX2_store_44 rfl (lv_at hl 4 rfl) ?_
  refine lv_iconst (pc := 45) (v := (3 : Int32)) hx hb dX2_store_45 (by decide) ?_
  refine lv_ishr (pc := 46) hx hb dX2_store_46 ?_
  refine lv_aload_n (pc := 47) hx hb dX2_store_47 rfl (lv_at hl 3 rfl) ?_
  refine va_get (D := (dC, dI)) (pc := 48) (ci := 2) (v := .ref qMw) (C := "LongMachine$Memory") (T := TX2) (N := 8) hx hb hts ui_X2 hown hK hP 0 rfl rfl 0 (by decide) (hts _ gm_20) (fun _ h9 => h9) rfl dX2_store_48 ?_
  refine lv_iload_n (pc := 51) hx hb dX2_store_51 rfl (lv_at hl 4 rfl) ?_
  refine lv_iconst (pc := 52) (v := (3 : Int32)) hx hb dX2_store_52 (by decide) ?_
  refine lv_ishr (pc := 53) hx hb dX2_store_53 ?_
  refine qa_lald (pc := 54) (k := (Int32.toNatClampNeg (z1 >>> ((3 : Int32) &&& (31 : Int32))))) hx hb hK hP 1 1 rfl rfl rfl (rg_sh3 hp0 hp1) dX2_store_54 ?_
  refine lv_lload (pc := 55) hx hb dX2_store_55 (lv_at hl 1 rfl) ?_
  refine lv_ldc2 (pc := 57) (v := (-1 : Int64)) hx hb hown (hts _ gm_248) dX2_store_57 ?_
  refine lv_lxor (pc := 60) hx hb dX2_store_60 ?_
  refine lv_land (pc := 61) hx hb dX2_store_61 ?_
  refine lv_lload (pc := 62) hx hb dX2_store_62 (lv_at hl 0 rfl) ?_
  refine lv_lload (pc := 64) hx hb dX2_store_64 (lv_at hl 1 rfl) ?_
  refine lv_land (pc := 66) hx hb dX2_store_66 ?_
  refine lv_lor (pc := 67) hx hb dX2_store_67 ?_
  refine qa_last (pc := 68) (k := (Int32.toNatClampNeg (z1 >>> ((3 : Int32) &&& (31 : Int32))))) hx hb hK hP hD hS 1 1 rfl rfl rfl (rg_sh3 hp0 hp1) dX2_store_68 (fun H locs hP hD hS => ?_)
  have hP : va_P (dC, dI) vwCl (wM cI cJ qM qMw qMp qMs qMd mOld mCnt mTab mSpc (vp_updL mW (Int32.toNatClampNeg (z1 >>> ((3 : Int32) &&& (31 : Int32)))) (((mW (Int32.toNatClampNeg (z1 >>> ((3 : Int32) &&& (31 : Int32))))) &&& ((if z2 = (0 : Int32) then (jlshl (4294967295 : Int64) ((8 : Int32) * (z1 &&& (4 : Int32)))) else (-1 : Int64)) ^^^ (-1 : Int64))) ||| ((if z2 = (0 : Int32) then (jlshl z3 ((8 : Int32) * (z1 &&& (4 : Int32)))) else z3) &&& (if z2 = (0 : Int32) then (jlshl (4294967295 : Int64) ((8 : Int32) * (z1 &&& (4 : Int32)))) else (-1 : Int64))))) mP mS mD) H := hP
  have hD : va_D A (wM cI cJ qM qMw qMp qMs qMd mOld mCnt mTab mSpc (vp_updL mW (Int32.toNatClampNeg (z1 >>> ((3 : Int32) &&& (31 : Int32)))) (((mW (Int32.toNatClampNeg (z1 >>> ((3 : Int32) &&& (31 : Int32))))) &&& ((if z2 = (0 : Int32) then (jlshl (4294967295 : Int64) ((8 : Int32) * (z1 &&& (4 : Int32)))) else (-1 : Int64)) ^^^ (-1 : Int64))) ||| ((if z2 = (0 : Int32) then (jlshl z3 ((8 : Int32) * (z1 &&& (4 : Int32)))) else z3) &&& (if z2 = (0 : Int32) then (jlshl (4294967295 : Int64) ((8 : Int32) * (z1 &&& (4 : Int32)))) else (-1 : Int64))))) mP mS mD) := hD
  exact W.vret hx hb hr (fun t ht hW => ⟨rfl, by rw [ht]; exact hP, hS.F ht⟩) hS.2.2 dX2_store_69
set_option maxRecDepth 100000 in
set_option maxHeartbeats 4000000 in
theorem c_X2_emptyBuffer (l : Launch) (dC : Nat → ClassId) (dI : Nat → Nat → Nat) (cI cJ : ClassId) (qM qMw qMp qMs qMd : Nat) (sz : Nat) (mOld : Int32) (mCnt : Int32) (mTab : Int32) (mSpc : Int32) (mW : (Nat → Int64)) (mP : (Nat → Int32)) (mS : (Nat → Int32)) (mD : (Nat → Int64)) : Met l yX2_emptyBuffer (.code yX2_emptyBuffer cX2_emptyBuffer 1 none :: vG) ({ frames := 0, cells := 0, slots := 0, locals := 0 }) (va_Pc [.ref qM] (qa_pre (dC, dI) vwCl (wM cI cJ qM qMw qMp qMs qMd mOld mCnt mTab mSpc mW mP mS mD) [(cI, .int), (cJ, .long)] sz)) (qa_mod none (dC, dI) vwCl (wM cI cJ qM qMw qMp qMs qMd (0 : Int32) (0 : Int32) mTab mSpc mW mP mS mD) (va_A (wM cI cJ qM qMw qMp qMs qMd mOld mCnt mTab mSpc mW mP mS mD) sz)) 0 0 (va_A (wM cI cJ qM qMw qMp qMs qMd mOld mCnt mTab mSpc mW mP mS mD) sz) := by
  refine Met.ofW (cc := cX2_emptyBuffer) (maxL := 1) (ret := none) (by decide) rfl ?_
  intro p e s m args below meth c s₁ B hml hv
  obtain ⟨rfl, hsz, hP, hK, hD0⟩ := hv
  have hx := B.exec
  have hb := B.bytes
  have hr := B.returns
  have hts : ∀ w ∈ vG, w.before _ s = true := fun w h => atoms_spec (ws := (.code yX2_emptyBuffer cX2_emptyBuffer 1 none :: vG)) B.pre w (List.mem_cons_of_mem _ h)
  have hown : s.vm.findClass "LongMachine$Memory" = some m.cls := findClass_of_methodNamed B.named
  have hlocks := B.notSynchronized
  subst hsz
  have hD := hD0.self (sz := s.heap.size)
  generalize hAe : va_A (wM cI cJ qM qMw qMp qMs qMd mOld mCnt mTab mSpc mW mP mS mD) s.heap.size = A at hD ⊢
  have hA : ∀ q : Nat, s.heap.size ≤ q → A q := fun q h => by rw [← hAe]; exact Or.inr h
  have hS : va_S A s.heap s.heap [] := va_S.rf
  have hl := lv_entry ([.ref qM]) (n := 1) (Nat.le_of_ble_eq_true rfl)
  rw [lg_entry_eq]
  generalize (lg_sl ([.ref qM]) ++ List.replicate (1 - (lg_sl ([.ref qM])).length) Slot.unset).toArray = ls at hl ⊢
  have hl : lv_has ls 1 [(0, .ref qM)] := hl
  refine lv_aload_n (pc := 0) hx hb dX2_emptyBuffer_0 rfl (lv_at hl 0 rfl) ?_
  refine lv_iconst (pc := 1) (v := (0 : Int32)) hx hb dX2_emptyBuffer_1 (by decide) ?_
  refine va_put (D := (dC, dI)) (pc := 2) (ci := 2) (v := .int (0 : Int32)) (ty := .int) (C := "LongMachine$Memory") (T := TX2) (N := 8) hx hb hts ui_X2 tyX2 tyX2_ok nmX2 hown hK hP hD hS 0 rfl rfl 5 (by decide) (hts _ gm_26) (fun _ h9 => h9) rfl (by decide +kernel) rfl rfl (Nat.le_of_ble_eq_true rfl) dX2_emptyBuffer_2 (fun H locs hP hD hS => ?_)
  have hP : va_P (dC, dI) vwCl (wM cI cJ qM qMw qMp qMs qMd mOld (0 : Int32) mTab mSpc mW mP mS mD) H := hP
  have hD : va_D A (wM cI cJ qM qMw qMp qMs qMd mOld (0 : Int32) mTab mSpc mW mP mS mD) := hD
  refine lv_aload_n (pc := 5) hx hb dX2_emptyBuffer_5 rfl (lv_at hl 0 rfl) ?_
  refine lv_iconst (pc := 6) (v := (0 : Int32)) hx hb dX2_emptyBuffer_6 (by decide) ?_
  refine va_put (D := (dC, dI)) (pc := 7) (ci := 2) (v := .int (0 : Int32)) (ty := .int) (C := "LongMachine$Memory") (T := TX2) (N := 8) hx hb hts ui_X2 tyX2 tyX2_ok nmX2 hown hK hP hD hS 0 rfl rfl 4 (by decide) (hts _ gm_25) (fun _ h9 => h9) rfl (by decide +kernel) rfl rfl (Nat.le_of_ble_eq_true rfl) dX2_emptyBuffer_7 (fun H locs hP hD hS => ?_)
  have hP : va_P (dC, dI) vwCl (wM cI cJ qM qMw qMp qMs qMd (0 : Int32) (0 : Int32) mTab mSpc mW mP mS mD) H := hP
  have hD : va_D A (wM cI cJ qM qMw qMp qMs qMd (0 : Int32) (0 : Int32) mTab mSpc mW mP mS mD) := hD
  exact W.vret hx hb hr (fun t ht hW => ⟨rfl, by rw [ht]; exact hP, hS.F ht⟩) hS.2.2 dX2_emptyBuffer_10
set_option maxRecDepth 100000 in
set_option maxHeartbeats 4000000 in
theorem c_X2_faulted (l : Launch) (z0 : Int32) : Met l yX2_faulted (.code yX2_faulted cX2_faulted 1 (some .int) :: vG) ({ frames := 0, cells := 0, slots := 0, locals := 0 }) (va_Pc [.int z0] (fun _ => True)) (qa_det (.int ((-1 : Int32) - z0))) 0 0 (fun _ => False) := by
  refine Met.ofW (cc := cX2_faulted) (maxL := 1) (ret := (some .int)) (by decide) rfl ?_
  intro p e s m args below meth c s₁ B hml hv
  obtain ⟨rfl, hv⟩ := hv
  have hx := B.exec
  have hb := B.bytes
  have hr := B.returns
  have hts : ∀ w ∈ vG, w.before _ s = true := fun w h => atoms_spec (ws := (.code yX2_faulted cX2_faulted 1 (some .int) :: vG)) B.pre w (List.mem_cons_of_mem _ h)
  have hown : s.vm.findClass "LongMachine$Memory" = some m.cls := findClass_of_methodNamed B.named
  have hlocks := B.notSynchronized
  have hl := lv_entry ([.int z0]) (n := 1) (Nat.le_of_ble_eq_true rfl)
  rw [lg_entry_eq]
  generalize (lg_sl ([.int z0]) ++ List.replicate (1 - (lg_sl ([.int z0])).length) Slot.unset).toArray = ls at hl ⊢
  have hl : lv_has ls 1 [(0, .int z0)] := hl
  refine lv_iconst (pc := 0) (v := (-1 : Int32)) hx hb dX2_faulted_0 (by decide) ?_
  refine lv_iload_n (pc := 1) hx hb dX2_faulted_1 rfl (lv_at hl 0 rfl) ?_
  refine lv_isub (pc := 2) hx hb dX2_faulted_2 ?_
  exact W.iret hx hb hr (fun t ht hW => ⟨rfl, ht⟩) (fun _ h => by cases h) dX2_faulted_3
set_option maxRecDepth 100000 in
set_option maxHeartbeats 4000000 in
theorem c_X2_faultOf (l : Launch) (z0 : Int32) : Met l yX2_faultOf (.code yX2_faultOf cX2_faultOf 1 (some .int) :: vG) ({ frames := 0, cells := 0, slots := 0, locals := 0 }) (va_Pc [.int z0] (fun _ => True)) (qa_det (.int ((-1 : Int32) - z0))) 0 0 (fun _ => False) := by
  refine Met.ofW (cc := cX2_faultOf) (maxL := 1) (ret := (some .int)) (by decide) rfl ?_
  intro p e s m args below meth c s₁ B hml hv
  obtain ⟨rfl, hv⟩ := hv
  have hx := B.exec
  have hb := B.bytes
  have hr := B.returns
  have hts : ∀ w ∈ vG, w.before _ s = true := fun w h => atoms_spec (ws := (.code yX2_faultOf cX2_faultOf 1 (some .int) :: vG)) B.pre w (List.mem_cons_of_mem _ h)
  have hown : s.vm.findClass "LongMachine$Memory" = some m.cls := findClass_of_methodNamed B.named
  have hlocks := B.notSynchronized
  have hl := lv_entry ([.int z0]) (n := 1) (Nat.le_of_ble_eq_true rfl)
  rw [lg_entry_eq]
  generalize (lg_sl ([.int z0]) ++ List.replicate (1 - (lg_sl ([.int z0])).length) Slot.unset).toArray = ls at hl ⊢
  have hl : lv_has ls 1 [(0, .int z0)] := hl
  refine lv_iconst (pc := 0) (v := (-1 : Int32)) hx hb dX2_faultOf_0 (by decide) ?_
  refine lv_iload_n (pc := 1) hx hb dX2_faultOf_1 rfl (lv_at hl 0 rfl) ?_
  refine lv_isub (pc := 2) hx hb dX2_faultOf_2 ?_
  exact W.iret hx hb hr (fun t ht hW => ⟨rfl, ht⟩) (fun _ h => by cases h) dX2_faultOf_3
set_option maxRecDepth 100000 in
set_option maxHeartbeats 4000000 in
theorem c_X2_directPlace (l : Launch) (z0 : Int64) (z2 : Int32) : Met l yX2_directPlace (.code yX2_directPlace cX2_directPlace 4 (some .int) :: vG) ({ frames := 1, cells := 0, slots := 0, locals := 20 }) (va_Pc [.long z0, .int z2] (fun _ => True)) (qa_det (.int (if (if z0 < (32768 : Int64) then (0 : Int32) else (if (36864 : Int64) ≤ z0 then (0 : Int32) else (1 : Int32))) = (0 : Int32) then ((-1 : Int32) - (1 : Int32)) else (if z2 = (0 : Int32) then ((Int64.toInt32 z0) - (32768 : Int32)) else ((-1 : Int32) - (1 : Int32)))))) 0 0 (fun _ => False) := by
  refine Met.ofW (cc := cX2_directPlace) (maxL := 4) (ret := (some .int)) (by decide) rfl ?_
  intro p e s m args below meth c s₁ B hml hv
  obtain ⟨rfl, hv⟩ := hv
  have hx := B.exec
  have hb := B.bytes
  have hr := B.returns
  have hts : ∀ w ∈ vG, w.before _ s = true := fun w h => atoms_spec (ws := (.code yX2_directPlace cX2_directPlace 4 (some .int) :: vG)) B.pre w (List.mem_cons_of_mem _ h)
  have hown : s.vm.findClass "LongMachine$Memory" = some m.cls := findClass_of_methodNamed B.named
  have hlocks := B.notSynchronized
  have hl := lv_entry ([.long z0, .int z2]) (n := 4) (Nat.le_of_ble_eq_true rfl)
  rw [lg_entry_eq]
  generalize (lg_sl ([.long z0, .int z2]) ++ List.replicate (4 - (lg_sl ([.long z0, .int z2])).length) Slot.unset).toArray = ls at hl ⊢
  have hl : lv_has ls 4 [(0, .long z0), (2, .int z2)] := hl
  refine lv_lload_n (pc := 0) hx hb dX2_directPlace_0 rfl (lv_at hl 0 rfl) ?_
  refine lv_ldc2 (pc := 1) (v := (32768 : Int64)) hx hb hown (hts _ gm_174) dX2_directPlace_1 ?_
  refine qa_joini (J := 21) (ls2 := ls) (rest2 := []) (if z0 < (32768 : Int64) then (0 : Int32) else (if (36864 : Int64) ≤ z0 then (0 : Int32) else (1 : Int32))) (fun hj21 => ?_) ?_
  · refine qa_lc_lt (pc := 4) (tgt := 20) hx hb dX2_directPlace_4 dX2_directPlace_5 (by decide) (fun h4_1 => ?_) (fun h4_1 => ?_)
    · refine lv_iconst (pc := 20) (v := (0 : Int32)) hx hb dX2_directPlace_20 (by decide) ?_
      exact hj21 _ (Eq.symm (if_pos h4_1))
    · refine lv_lload_n (pc := 8) hx hb dX2_directPlace_8 rfl (lv_at hl 0 rfl) ?_
      refine lv_ldc2 (pc := 9) (v := (36864 : Int64)) hx hb hown (hts _ gm_175) dX2_directPlace_9 ?_
      refine qa_lc_ge (pc := 12) (tgt := 20) hx hb dX2_directPlace_12 dX2_directPlace_13 (by decide) (fun h12_2 => ?_) (fun h12_2 => ?_)
      · refine lv_iconst (pc := 20) (v := (0 : Int32)) hx hb dX2_directPlace_20 (by decide) ?_
        exact hj21 _ (Eq.symm (Eq.trans (if_neg h4_1) (if_pos h12_2)))
      · refine lv_iconst (pc := 16) (v := (1 : Int32)) hx hb dX2_directPlace_16 (by decide) ?_
        refine lv_goto (pc := 17) (tgt := 21) hx hb dX2_directPlace_17 (by decide) ?_
        exact hj21 _ (Eq.symm (Eq.trans (if_neg h4_1) (if_neg h12_2)))
  refine lv_istore_n (pc := 21) (lv' := [(3, .int (if z0 < (32768 : Int64) then (0 : Int32) else (if (36864 : Int64) ≤ z0 then (0 : Int32) else (1 : Int32)))), (0, .long z0), (2, .int z2)]) hx hb dX2_directPlace_21 rfl hl (by decide) rfl (fun ls hl => ?_)
  refine lv_iload_n (pc := 22) hx hb dX2_directPlace_22 rfl (lv_at hl 0 rfl) ?_
  refine qa_joini (J := 42) (ls2 := ls) (rest2 := []) (if (if z0 < (32768 : Int64) then (0 : Int32) else (if (36864 : Int64) ≤ z0 then (0 : Int32) else (1 : Int32))) = (0 : Int32) then ((-1 : Int32) - (1 : Int32)) else (if z2 = (0 : Int32) then ((Int64.toInt32 z0) - (32768 : Int32)) else ((-1 : Int32) - (1 : Int32)))) (fun hj42 => ?_) ?_
  · refine lv_if_eq (pc := 23) (tgt := 38) hx hb dX2_directPlace_23 (by decide) (fun h23_3 => ?_) (fun h23_3 => ?_)
    · refine lv_iconst (pc := 38) (v := (1 : Int32)) hx hb dX2_directPlace_38 (by decide) ?_
      refine qa_calld (pc := 39) (v := .int ((-1 : Int32) - (1 : Int32))) (va_runS (As := [.int (1 : Int32)]) (rest := []) ⟨hx, hb, hml, hown, hts⟩ (c_X2_faulted l (1 : Int32)) (va_cwS 1 hts (gd_S gm_179 gm_177 gm_178 gm_2) rfl rfl rfl (by decide +kernel) ⟨Nat.le_of_ble_eq_true rfl, Nat.le_of_ble_eq_true rfl⟩) qa_S0 rfl rfl hl.1 rfl (lv_room (Nat.le_of_ble_eq_true rfl)) dX2_directPlace_39 ⟨Nat.zero_le _, Nat.zero_le _⟩) ?_
      exact hj42 _ (Eq.symm (if_pos h23_3))
    · refine lv_iload_n (pc := 26) hx hb dX2_directPlace_26 rfl (lv_at hl 2 rfl) ?_
      refine lv_if_ne (pc := 27) (tgt := 38) hx hb dX2_directPlace_27 (by decide) (fun h27_4 => ?_) (fun h27_4 => ?_)
      · refine lv_iconst (pc := 38) (v := (1 : Int32)) hx hb dX2_directPlace_38 (by decide) ?_
        refine qa_calld (pc := 39) (v := .int ((-1 : Int32) - (1 : Int32))) (va_runS (As := [.int (1 : Int32)]) (rest := []) ⟨hx, hb, hml, hown, hts⟩ (c_X2_faulted l (1 : Int32)) (va_cwS 1 hts (gd_S gm_179 gm_177 gm_178 gm_2) rfl rfl rfl (by decide +kernel) ⟨Nat.le_of_ble_eq_true rfl, Nat.le_of_ble_eq_true rfl⟩) qa_S0 rfl rfl hl.1 rfl (lv_room (Nat.le_of_ble_eq_true rfl)) dX2_directPlace_39 ⟨Nat.zero_le _, Nat.zero_le _⟩) ?_
        exact hj42 _ (Eq.symm (Eq.trans (if_neg h23_3) (if_neg h27_4)))
      · refine lv_lload_n (pc := 30) hx hb dX2_directPlace_30 rfl (lv_at hl 1 rfl) ?_
        refine lv_l2i (pc := 31) (v := (Int64.toInt32 z0)) hx hb dX2_directPlace_31 rfl ?_
        refine lv_ldc (pc := 32) hx hb hown (hts _ gm_176) dX2_directPlace_32 ?_
        refine lv_isub (pc := 34) hx hb dX2_directPlace_34 ?_
        refine lv_goto (pc := 35) (tgt := 42) hx hb dX2_directPlace_35 (by decide) ?_
        exact hj42 _ (Eq.symm (Eq.trans (if_neg h23_3) (if_pos h27_4)))
  exact W.iret hx hb hr (fun t ht hW => ⟨rfl, ht⟩) (fun _ h => by cases h) dX2_directPlace_42
def f_X2_find_B2 (z1 : Int32) (mCnt : Int32) (mSpc : Int32) (mP : (Nat → Int32)) (mS : (Nat → Int32)) : Nat → Int32 → Int32
  | 0, k2_2 => (0 : Int32)
  | n + 1, k2_2 => (if mCnt ≤ k2_2 then (-1 : Int32) else (if (mP (Int32.toNatClampNeg k2_2)) = z1 then (if (mS (Int32.toNatClampNeg k2_2)) = mSpc then k2_2 else (f_X2_find_B2 z1 mCnt mSpc mP mS n (k2_2 + (1 : Int32)))) else (f_X2_find_B2 z1 mCnt mSpc mP mS n (k2_2 + (1 : Int32)))))
theorem f_X2_find_B2_s (z1 : Int32) (mCnt : Int32) (mSpc : Int32) (mP : (Nat → Int32)) (mS : (Nat → Int32)) (n : Nat) (k2_2 : Int32) : f_X2_find_B2 z1 mCnt mSpc mP mS (n + 1) k2_2 = (if mCnt ≤ k2_2 then (-1 : Int32) else (if (mP (Int32.toNatClampNeg k2_2)) = z1 then (if (mS (Int32.toNatClampNeg k2_2)) = mSpc then k2_2 else (f_X2_find_B2 z1 mCnt mSpc mP mS n (k2_2 + (1 : Int32)))) else (f_X2_find_B2 z1 mCnt mSpc mP mS n (k2_2 + (1 : Int32))))) := rfl
def f_X2_find (z1 : Int32) (mCnt : Int32) (mSpc : Int32) (mP : (Nat → Int32)) (mS : (Nat → Int32)) : Int32 := (f_X2_find_B2 z1 mCnt mSpc mP mS 5 (0 : Int32))
set_option maxRecDepth 100000 in
set_option maxHeartbeats 4000000 in
theorem c_X2_find (l : Launch) (dC : Nat → ClassId) (dI : Nat → Nat → Nat) (cI cJ : ClassId) (qM qMw qMp qMs qMd : Nat) (mOld : Int32) (mCnt : Int32) (mTab : Int32) (mSpc : Int32) (mW : (Nat → Int64)) (mP : (Nat → Int32)) (mS : (Nat → Int32)) (mD : (Nat → Int64)) (z1 : Int32) (hc4 : mCnt.toInt ≤ 4) : Met l yX2_find (.code yX2_find cX2_find 3 (some .int) :: vG) ({ frames := 0, cells := 0, slots := 0, locals := 0 }) (va_Pc [.ref qM, .int z1] (qa_preR (dC, dI) vwCl (wM cI cJ qM qMw qMp qMs qMd mOld mCnt mTab mSpc mW mP mS mD) [(cI, .int), (cJ, .long)])) (qa_det (.int (f_X2_find z1 mCnt mSpc mP mS))) 0 0 (fun _ => False) := by
  refine Met.ofW (cc := cX2_find) (maxL := 3) (ret := (some .int)) (by decide) rfl ?_
  intro p e s m args below meth c s₁ B hml hv
  obtain ⟨rfl, hP, hK⟩ := hv
  have hx := B.exec
  have hb := B.bytes
  have hr := B.returns
  have hts : ∀ w ∈ vG, w.before _ s = true := fun w h => atoms_spec (ws := (.code yX2_find cX2_find 3 (some .int) :: vG)) B.pre w (List.mem_cons_of_mem _ h)
  have hown : s.vm.findClass "LongMachine$Memory" = some m.cls := findClass_of_methodNamed B.named
  have hlocks := B.notSynchronized
  have hl := lv_entry ([.ref qM, .int z1]) (n := 3) (Nat.le_of_ble_eq_true rfl)
  rw [lg_entry_eq]
  generalize (lg_sl ([.ref qM, .int z1]) ++ List.replicate (3 - (lg_sl ([.ref qM, .int z1])).length) Slot.unset).toArray = ls at hl ⊢
  have hl : lv_has ls 3 [(0, .ref qM), (1, .int z1)] := hl
  obtain ⟨u, hu⟩ : ∃ u, u = f_X2_find z1 mCnt mSpc mP mS := ⟨_, rfl⟩
  rw [← hu]
  unfold f_X2_find at hu
  refine lv_iconst (pc := 0) (v := (0 : Int32)) hx hb dX2_find_0 (by decide) ?_
  refine lv_istore_n (pc := 1) (lv' := [(2, .int (0 : Int32)), (0, .ref qM), (1, .int z1)]) hx hb dX2_find_1 rfl hl (by decide) rfl (fun ls hl => ?_)
  have hB2 : ∀ (n : Nat) (k2_2 : Int32) (ls : Array Slot) (hq2_fu : ((mCnt).toInt - (k2_2).toInt).toNat < n) (hq2_i0 : 0 ≤ (k2_2).toInt) (hl : lv_has ls 3 [(0, .ref qM), (1, .int z1), (2, .int k2_2)]) (u : Int32) (hu : u = f_X2_find_B2 z1 mCnt mSpc mP mS n k2_2), W p l e { frames := 0, cells := 0, slots := 0, locals := 0 } s m ([.ref qM, .int z1]).toArray below meth c s.heap [] 0 0 (MQ below (qa_det (.int u)) ([.ref qM, .int z1]).toArray s 0 0 (fun _ => False)) (F0 m 2 ls []) := by
    intro n
    induction n with
    | zero => intro k2_2 ls hq2_fu hq2_i0 hl u hu; exact absurd hq2_fu (Nat.not_lt_zero _)
    | succ n ih =>
        intro k2_2 ls hq2_fu hq2_i0 hl u hu
        rw [f_X2_find_B2_s] at hu
        refine lv_iload_n (pc := 2) hx hb dX2_find_2 rfl (lv_at hl 2 rfl) ?_
        refine lv_aload_n (pc := 3) hx hb dX2_find_3 rfl (lv_at hl 0 rfl) ?_
        refine va_get (D := (dC, dI)) (pc := 4) (ci := 2) (v := .int mCnt) (C := "LongMachine$Memory") (T := TX2) (N := 8) hx hb hts ui_X2 hown hK hP 0 rfl rfl 5 (by decide) (hts _ gm_26) (fun _ h9 => h9) rfl dX2_find_4 ?_
        refine lv_icmp_ge (pc := 7) (tgt := 41) hx hb dX2_find_7 (by decide) (fun h7_1 => ?_) (fun h7_1 => ?_)
        · have hu := hu.trans (if_pos h7_1)
          refine lv_iconst (pc := 41) (v := (-1 : Int32)) hx hb dX2_find_41 (by decide) ?_
          subst hu
          exact W.iret hx hb hr (fun t ht hW => ⟨rfl, ht⟩) (fun _ h => by cases h) dX2_find_42
        · have hu := hu.trans (if_neg h7_1)
          refine lv_aload_n (pc := 10) hx hb dX2_find_10 rfl (lv_at hl 0 rfl) ?_
          refine va_get (D := (dC, dI)) (pc := 11) (ci := 2) (v := .ref qMp) (C := "LongMachine$Memory") (T := TX2) (N := 8) hx hb hts ui_X2 hown hK hP 0 rfl rfl 1 (by decide) (hts _ gm_22) (fun _ h9 => h9) rfl dX2_find_11 ?_
          refine lv_iload_n (pc := 14) hx hb dX2_find_14 rfl (lv_at hl 2 rfl) ?_
          refine qa_iald (pc := 15) (k := (Int32.toNatClampNeg k2_2)) hx hb hK hP 2 0 rfl rfl rfl (rg_b hq2_i0 h7_1 hc4) dX2_find_15 ?_
          refine lv_iload_n (pc := 16) hx hb dX2_find_16 rfl (lv_at hl 1 rfl) ?_
          refine lv_icmp_ne (pc := 17) (tgt := 35) hx hb dX2_find_17 (by decide) (fun h17_2 => ?_) (fun h17_2 => ?_)
          · have hu := hu.trans (if_neg h17_2)
            refine lv_iinc (pc := 35) (k := 2) (lv' := [(2, .int (k2_2 + (1 : Int32))), (0, .ref qM), (1, .int z1)]) hx hb dX2_find_35 hl rfl (qa_inc (by decide) k2_2) (by decide) rfl (fun ls hl => ?_)
            refine lv_goto (pc := 38) (tgt := 2) hx hb dX2_find_38 (by decide) ?_
            exact ih (k2_2 + (1 : Int32)) _ (rg_fs h7_1 hq2_fu) (rg_i0 h7_1 hq2_i0) (lv_sub hl [1, 2, 0] rfl) u hu
          · have hu := hu.trans (if_pos h17_2)
            refine lv_aload_n (pc := 20) hx hb dX2_find_20 rfl (lv_at hl 0 rfl) ?_
            refine va_get (D := (dC, dI)) (pc := 21) (ci := 2) (v := .ref qMs) (C := "LongMachine$Memory") (T := TX2) (N := 8) hx hb hts ui_X2 hown hK hP 0 rfl rfl 2 (by decide) (hts _ gm_23) (fun _ h9 => h9) rfl dX2_find_21 ?_
            refine lv_iload_n (pc := 24) hx hb dX2_find_24 rfl (lv_at hl 2 rfl) ?_
            refine qa_iald (pc := 25) (k := (Int32.toNatClampNeg k2_2)) hx hb hK hP 3 0 rfl rfl rfl (rg_b hq2_i0 h7_1 hc4) dX2_find_25 ?_
            refine lv_aload_n (pc := 26) hx hb dX2_find_26 rfl (lv_at hl 0 rfl) ?_
            refine va_get (D := (dC, dI)) (pc := 27) (ci := 2) (v := .int mSpc) (C := "LongMachine$Memory") (T := TX2) (N := 8) hx hb hts ui_X2 hown hK hP 0 rfl rfl 7 (by decide) (hts _ gm_31) (fun _ h9 => h9) rfl dX2_find_27 ?_
            refine lv_icmp_ne (pc := 30) (tgt := 35) hx hb dX2_find_30 (by decide) (fun h30_3 => ?_) (fun h30_3 => ?_)
            · have hu := hu.trans (if_neg h30_3)
              refine lv_iinc (pc := 35) (k := 2) (lv' := [(2, .int (k2_2 + (1 : Int32))), (0, .ref qM), (1, .int z1)]) hx hb dX2_find_35 hl rfl (qa_inc (by decide) k2_2) (by decide) rfl (fun ls hl => ?_)
              refine lv_goto (pc := 38) (tgt := 2) hx hb dX2_find_38 (by decide) ?_
              exact ih (k2_2 + (1 : Int32)) _ (rg_fs h7_1 hq2_fu) (rg_i0 h7_1 hq2_i0) (lv_sub hl [1, 2, 0] rfl) u hu
            · have hu := hu.trans (if_pos h30_3)
              refine lv_iload_n (pc := 33) hx hb dX2_find_33 rfl (lv_at hl 2 rfl) ?_
              subst hu
              exact W.iret hx hb hr (fun t ht hW => ⟨rfl, ht⟩) (fun _ h => by cases h) dX2_find_34
  exact hB2 5 (0 : Int32) _ (rg_f0 hc4) (rg_z) (lv_sub hl [1, 2, 0] rfl) u hu
theorem rgf_find_B (z1 mCnt mSpc : Int32) (mP mS : Nat → Int32) : ∀ (n : Nat) (k : Int32), 0 ≤ k.toInt → ¬ f_X2_find_B2 z1 mCnt mSpc mP mS n k < 0 → n = 0 ∨ (0 ≤ (f_X2_find_B2 z1 mCnt mSpc mP mS n k).toInt ∧ (f_X2_find_B2 z1 mCnt mSpc mP mS n k).toInt < mCnt.toInt) ∨ f_X2_find_B2 z1 mCnt mSpc mP mS n k = 0 := by
  intro n
  induction n with
  | zero => intro k h0 h; exact Or.inl rfl
  | succ n ih =>
    intro k h0 h
    rw [f_X2_find_B2_s] at h ⊢
    refine Or.inr ?_
    split
    · rename_i hc
      rw [if_pos hc] at h
      exact absurd h (by decide)
    · rename_i hc
      rw [if_neg hc] at h
      have hr : ∀ w, w = f_X2_find_B2 z1 mCnt mSpc mP mS n (k + 1) → ¬ w < 0 → (0 ≤ w.toInt ∧ w.toInt < mCnt.toInt) ∨ w = 0 := by
        intro w hw hn
        subst hw
        rcases ih (k + 1) (rg_i0 hc h0) hn with rfl | h2
        · exact Or.inr rfl
        · exact h2
      split
      · rename_i hp
        rw [if_pos hp] at h
        split
        · exact Or.inl ⟨h0, rg_lt hc⟩
        · rename_i hs
          rw [if_neg hs] at h
          exact hr _ rfl h
      · rename_i hp
        rw [if_neg hp] at h
        exact hr _ rfl h
theorem rgf_find {z1 mCnt mSpc : Int32} {mP mS : Nat → Int32} (hc : mCnt.toInt ≤ 4) (h : ¬ f_X2_find z1 mCnt mSpc mP mS < 0) : vp_in (f_X2_find z1 mCnt mSpc mP mS) 4 := by
  unfold f_X2_find at h ⊢
  rcases rgf_find_B z1 mCnt mSpc mP mS 5 0 rg_z h with h2 | h2 | h2
  · exact absurd h2 (by decide)
  · exact qa_inI h2.1 (by omega)
  · rw [h2]
    exact qa_in (by decide)
def f_X2_keep (z1 : Int32) (z2 : Int64) (mOld : Int32) (mCnt : Int32) (mSpc : Int32) (mP : (Nat → Int32)) (mS : (Nat → Int32)) (mD : (Nat → Int64)) : Int32 × Int32 × (Nat → Int32) × (Nat → Int32) × (Nat → Int64) := (if (4 : Int32) ≤ mCnt then (((mOld + (1 : Int32)) - (mOld + (1 : Int32)) / (4 : Int32) * (4 : Int32)), mCnt, (upd mP (Int32.toNatClampNeg mOld) z1), (upd mS (Int32.toNatClampNeg mOld) mSpc), (vp_updL mD (Int32.toNatClampNeg mOld) z2)) else (mOld, (mCnt + (1 : Int32)), (upd mP (Int32.toNatClampNeg mCnt) z1), (upd mS (Int32.toNatClampNeg mCnt) mSpc), (vp_updL mD (Int32.toNatClampNeg mCnt) z2)))
set_option maxRecDepth 100000 in
set_option maxHeartbeats 4000000 in
theorem c_X2_keep (l : Launch) (dC : Nat → ClassId) (dI : Nat → Nat → Nat) (cI cJ : ClassId) (qM qMw qMp qMs qMd : Nat) (sz : Nat) (mOld : Int32) (mCnt : Int32) (mTab : Int32) (mSpc : Int32) (mW : (Nat → Int64)) (mP : (Nat → Int32)) (mS : (Nat → Int32)) (mD : (Nat → Int64)) (z1 : Int32) (z2 : Int64) (hc0 : 0 ≤ mCnt.toInt) (hc4 : mCnt.toInt ≤ 4) (ho0 : 0 ≤ mOld.toInt) (ho4 : mOld.toInt < 4) : Met l yX2_keep (.code yX2_keep cX2_keep 5 none :: vG) ({ frames := 0, cells := 0, slots := 0, locals := 0 }) (va_Pc [.ref qM, .int z1, .long z2] (qa_pre (dC, dI) vwCl (wM cI cJ qM qMw qMp qMs qMd mOld mCnt mTab mSpc mW mP mS mD) [(cI, .int), (cJ, .long)] sz)) (qa_mod none (dC, dI) vwCl (wM cI cJ qM qMw qMp qMs qMd ((f_X2_keep z1 z2 mOld mCnt mSpc mP mS mD).1) ((f_X2_keep z1 z2 mOld mCnt mSpc mP mS mD).2.1) mTab mSpc mW ((f_X2_keep z1 z2 mOld mCnt mSpc mP mS mD).2.2.1) ((f_X2_keep z1 z2 mOld mCnt mSpc mP mS mD).2.2.2.1) ((f_X2_keep z1 z2 mOld mCnt mSpc mP mS mD).2.2.2.2)) (va_A (wM cI cJ qM qMw qMp qMs qMd mOld mCnt mTab mSpc mW mP mS mD) sz)) 0 0 (va_A (wM cI cJ qM qMw qMp qMs qMd mOld mCnt mTab mSpc mW mP mS mD) sz) := by
  refine Met.ofW (cc := cX2_keep) (maxL := 5) (ret := none) (by decide) rfl ?_
  intro p e s m args below meth c s₁ B hml hv
  obtain ⟨rfl, hsz, hP, hK, hD0⟩ := hv
  have hx := B.exec
  have hb := B.bytes
  have hr := B.returns
  have hts : ∀ w ∈ vG, w.before _ s = true := fun w h => atoms_spec (ws := (.code yX2_keep cX2_keep 5 none :: vG)) B.pre w (List.mem_cons_of_mem _ h)
  have hown : s.vm.findClass "LongMachine$Memory" = some m.cls := findClass_of_methodNamed B.named
  have hlocks := B.notSynchronized
  subst hsz
  have hD := hD0.self (sz := s.heap.size)
  generalize hAe : va_A (wM cI cJ qM qMw qMp qMs qMd mOld mCnt mTab mSpc mW mP mS mD) s.heap.size = A at hD ⊢
  have hA : ∀ q : Nat, s.heap.size ≤ q → A q := fun q h => by rw [← hAe]; exact Or.inr h
  have hS : va_S A s.heap s.heap [] := va_S.rf
  have hl := lv_entry ([.ref qM, .int z1, .long z2]) (n := 5) (Nat.le_of_ble_eq_true rfl)
  rw [lg_entry_eq]
  generalize (lg_sl ([.ref qM, .int z1, .long z2]) ++ List.replicate (5 - (lg_sl ([.ref qM, .int z1, .long z2])).length) Slot.unset).toArray = ls at hl ⊢
  have hl : lv_has ls 5 [(0, .ref qM), (1, .int z1), (2, .long z2)] := hl
  obtain ⟨u, hu⟩ : ∃ u, u = f_X2_keep z1 z2 mOld mCnt mSpc mP mS mD := ⟨_, rfl⟩
  rw [← hu]
  unfold f_X2_keep at hu
  refine lv_aload_n (pc := 0) hx hb dX2_keep_0 rfl (lv_at hl 0 rfl) ?_
  refine va_get (D := (dC, dI)) (pc := 1) (ci := 2) (v := .int mCnt) (C := "LongMachine$Memory") (T := TX2) (N := 8) hx hb hts ui_X2 hown hK hP 0 rfl rfl 5 (by decide) (hts _ gm_26) (fun _ h9 => h9) rfl dX2_keep_1 ?_
  refine lv_istore (pc := 4) (lv' := [(4, .int mCnt), (0, .ref qM), (1, .int z1), (2, .long z2)]) hx hb dX2_keep_4 hl (by decide) rfl (fun ls hl => ?_)
  refine lv_aload_n (pc := 6) hx hb dX2_keep_6 rfl (lv_at hl 1 rfl) ?_
  refine va_get (D := (dC, dI)) (pc := 7) (ci := 2) (v := .int mCnt) (C := "LongMachine$Memory") (T := TX2) (N := 8) hx hb hts ui_X2 hown hK hP 0 rfl rfl 5 (by decide) (hts _ gm_26) (fun _ h9 => h9) rfl dX2_keep_7 ?_
  refine lv_iconst (pc := 10) (v := (4 : Int32)) hx hb dX2_keep_10 (by decide) ?_
  refine lv_icmp_ge (pc := 11) (tgt := 27) hx hb dX2_keep_11 (by decide) (fun h11_1 => ?_) (fun h11_1 => ?_)
  · have hu := hu.trans (if_pos h11_1)
    refine lv_aload_n (pc := 27) hx hb dX2_keep_27 rfl (lv_at hl 1 rfl) ?_
    refine va_get (D := (dC, dI)) (pc := 28) (ci := 2) (v := .int mOld) (C := "LongMachine$Memory") (T := TX2) (N := 8) hx hb hts ui_X2 hown hK hP 0 rfl rfl 4 (by decide) (hts _ gm_25) (fun _ h9 => h9) rfl dX2_keep_28 ?_
    refine lv_istore (pc := 31) (lv' := [(4, .int mOld), (0, .ref qM), (1, .int z1), (2, .long z2)]) hx hb dX2_keep_31 hl (by decide) rfl (fun ls hl => ?_)
    refine lv_aload_n (pc := 33) hx hb dX2_keep_33 rfl (lv_at hl 1 rfl) ?_
    refine lv_aload_n (pc := 34) hx hb dX2_keep_34 rfl (lv_at hl 1 rfl) ?_
    refine va_get (D := (dC, dI)) (pc := 35) (ci := 2) (v := .int mOld) (C := "LongMachine$Memory") (T := TX2) (N := 8) hx hb hts ui_X2 hown hK hP 0 rfl rfl 4 (by decide) (hts _ gm_25) (fun _ h9 => h9) rfl dX2_keep_35 ?_
    refine lv_iconst (pc := 38) (v := (1 : Int32)) hx hb dX2_keep_38 (by decide) ?_
    refine lv_iadd (pc := 39) hx hb dX2_keep_39 ?_
    refine lv_iconst (pc := 40) (v := (4 : Int32)) hx hb dX2_keep_40 (by decide) ?_
    refine lv_irem (pc := 41) hx hb dX2_keep_41 (by decide) ?_
    refine va_put (D := (dC, dI)) (pc := 42) (ci := 2) (v := .int ((mOld + (1 : Int32)) - (mOld + (1 : Int32)) / (4 : Int32) * (4 : Int32))) (ty := .int) (C := "LongMachine$Memory") (T := TX2) (N := 8) hx hb hts ui_X2 tyX2 tyX2_ok nmX2 hown hK hP hD hS 0 rfl rfl 4 (by decide) (hts _ gm_25) (fun _ h9 => h9) rfl (by decide +kernel) rfl rfl (Nat.le_of_ble_eq_true rfl) dX2_keep_42 (fun H locs hP hD hS => ?_)
    have hP : va_P (dC, dI) vwCl (wM cI cJ qM qMw qMp qMs qMd ((mOld + (1 : Int32)) - (mOld + (1 : Int32)) / (4 : Int32) * (4 : Int32)) mCnt mTab mSpc mW mP mS mD) H := hP
    have hD : va_D A (wM cI cJ qM qMw qMp qMs qMd ((mOld + (1 : Int32)) - (mOld + (1 : Int32)) / (4 : Int32) * (4 : Int32)) mCnt mTab mSpc mW mP mS mD) := hD
    refine lv_aload_n (pc := 45) hx hb dX2_keep_45 rfl (lv_at hl 1 rfl) ?_
    refine va_get (D := (dC, dI)) (pc := 46) (ci := 2) (v := .ref qMp) (C := "LongMachine$Memory") (T := TX2) (N := 8) hx hb hts ui_X2 hown hK hP 0 rfl rfl 1 (by decide) (hts _ gm_22) (fun _ h9 => h9) rfl dX2_keep_46 ?_
    refine lv_iload (pc := 49) hx hb dX2_keep_49 (lv_at hl 0 rfl) ?_
    refine lv_iload_n (pc := 51) hx hb dX2_keep_51 rfl (lv_at hl 2 rfl) ?_
    refine qa_iast (pc := 52) (k := (Int32.toNatClampNeg mOld)) hx hb hK hP hD hS 2 0 rfl rfl rfl (by first | exact qa_inI ho0 ho4 | exact rg_b hc0 h11_1 (by decide)) dX2_keep_52 (fun H locs hP hD hS => ?_)
    have hP : va_P (dC, dI) vwCl (wM cI cJ qM qMw qMp qMs qMd ((mOld + (1 : Int32)) - (mOld + (1 : Int32)) / (4 : Int32) * (4 : Int32)) mCnt mTab mSpc mW (upd mP (Int32.toNatClampNeg mOld) z1) mS mD) H := hP
    have hD : va_D A (wM cI cJ qM qMw qMp qMs qMd ((mOld + (1 : Int32)) - (mOld + (1 : Int32)) / (4 : Int32) * (4 : Int32)) mCnt mTab mSpc mW (upd mP (Int32.toNatClampNeg mOld) z1) mS mD) := hD
    refine lv_aload_n (pc := 53) hx hb dX2_keep_53 rfl (lv_at hl 1 rfl) ?_
    refine va_get (D := (dC, dI)) (pc := 54) (ci := 2) (v := .ref qMs) (C := "LongMachine$Memory") (T := TX2) (N := 8) hx hb hts ui_X2 hown hK hP 0 rfl rfl 2 (by decide) (hts _ gm_23) (fun _ h9 => h9) rfl dX2_keep_54 ?_
    refine lv_iload (pc := 57) hx hb dX2_keep_57 (lv_at hl 0 rfl) ?_
    refine lv_aload_n (pc := 59) hx hb dX2_keep_59 rfl (lv_at hl 1 rfl) ?_
    refine va_get (D := (dC, dI)) (pc := 60) (ci := 2) (v := .int mSpc) (C := "LongMachine$Memory") (T := TX2) (N := 8) hx hb hts ui_X2 hown hK hP 0 rfl rfl 7 (by decide) (hts _ gm_31) (fun _ h9 => h9) rfl dX2_keep_60 ?_
    refine qa_iast (pc := 63) (k := (Int32.toNatClampNeg mOld)) hx hb hK hP hD hS 3 0 rfl rfl rfl (by first | exact qa_inI ho0 ho4 | exact rg_b hc0 h11_1 (by decide)) dX2_keep_63 (fun H locs hP hD hS => ?_)
    have hP : va_P (dC, dI) vwCl (wM cI cJ qM qMw qMp qMs qMd ((mOld + (1 : Int32)) - (mOld + (1 : Int32)) / (4 : Int32) * (4 : Int32)) mCnt mTab mSpc mW (upd mP (Int32.toNatClampNeg mOld) z1) (upd mS (Int32.toNatClampNeg mOld) mSpc) mD) H := hP
    have hD : va_D A (wM cI cJ qM qMw qMp qMs qMd ((mOld + (1 : Int32)) - (mOld + (1 : Int32)) / (4 : Int32) * (4 : Int32)) mCnt mTab mSpc mW (upd mP (Int32.toNatClampNeg mOld) z1) (upd mS (Int32.toNatClampNeg mOld) mSpc) mD) := hD
    refine lv_aload_n (pc := 64) hx hb dX2_keep_64 rfl (lv_at hl 1 rfl) ?_
    refine va_get (D := (dC, dI)) (pc := 65) (ci := 2) (v := .ref qMd) (C := "LongMachine$Memory") (T := TX2) (N := 8) hx hb hts ui_X2 hown hK hP 0 rfl rfl 3 (by decide) (hts _ gm_24) (fun _ h9 => h9) rfl dX2_keep_65 ?_
    refine lv_iload (pc := 68) hx hb dX2_keep_68 (lv_at hl 0 rfl) ?_
    refine lv_lload_n (pc := 70) hx hb dX2_keep_70 rfl (lv_at hl 3 rfl) ?_
    refine qa_last (pc := 71) (k := (Int32.toNatClampNeg mOld)) hx hb hK hP hD hS 4 1 rfl rfl rfl (by first | exact qa_inI ho0 ho4 | exact rg_b hc0 h11_1 (by decide)) dX2_keep_71 (fun H locs hP hD hS => ?_)
    have hP : va_P (dC, dI) vwCl (wM cI cJ qM qMw qMp qMs qMd ((mOld + (1 : Int32)) - (mOld + (1 : Int32)) / (4 : Int32) * (4 : Int32)) mCnt mTab mSpc mW (upd mP (Int32.toNatClampNeg mOld) z1) (upd mS (Int32.toNatClampNeg mOld) mSpc) (vp_updL mD (Int32.toNatClampNeg mOld) z2)) H := hP
    have hD : va_D A (wM cI cJ qM qMw qMp qMs qMd ((mOld + (1 : Int32)) - (mOld + (1 : Int32)) / (4 : Int32) * (4 : Int32)) mCnt mTab mSpc mW (upd mP (Int32.toNatClampNeg mOld) z1) (upd mS (Int32.toNatClampNeg mOld) mSpc) (vp_updL mD (Int32.toNatClampNeg mOld) z2)) := hD
    subst hu
    exact W.vret hx hb hr (fun t ht hW => ⟨rfl, by rw [ht]; exact hP, hS.F ht⟩) hS.2.2 dX2_keep_72
  · have hu := hu.trans (if_neg h11_1)
    refine lv_aload_n (pc := 14) hx hb dX2_keep_14 rfl (lv_at hl 1 rfl) ?_
    refine lv_dup (pc := 15) hx hb dX2_keep_15 rfl ?_
    refine va_get (D := (dC, dI)) (pc := 16) (ci := 2) (v := .int mCnt) (C := "LongMachine$Memory") (T := TX2) (N := 8) hx hb hts ui_X2 hown hK hP 0 rfl rfl 5 (by decide) (hts _ gm_26) (fun _ h9 => h9) rfl dX2_keep_16 ?_
    refine lv_iconst (pc := 19) (v := (1 : Int32)) hx hb dX2_keep_19 (by decide) ?_
    refine lv_iadd (pc := 20) hx hb dX2_keep_20 ?_
    refine va_put (D := (dC, dI)) (pc := 21) (ci := 2) (v := .int (mCnt + (1 : Int32))) (ty := .int) (C := "LongMachine$Memory") (T := TX2) (N := 8) hx hb hts ui_X2 tyX2 tyX2_ok nmX2 hown hK hP hD hS 0 rfl rfl 5 (by decide) (hts _ gm_26) (fun _ h9 => h9) rfl (by decide +kernel) rfl rfl (Nat.le_of_ble_eq_true rfl) dX2_keep_21 (fun H locs hP hD hS => ?_)
    have hP : va_P (dC, dI) vwCl (wM cI cJ qM qMw qMp qMs qMd mOld (mCnt + (1 : Int32)) mTab mSpc mW mP mS mD) H := hP
    have hD : va_D A (wM cI cJ qM qMw qMp qMs qMd mOld (mCnt + (1 : Int32)) mTab mSpc mW mP mS mD) := hD
    refine lv_goto (pc := 24) (tgt := 45) hx hb dX2_keep_24 (by decide) ?_
    refine lv_aload_n (pc := 45) hx hb dX2_keep_45 rfl (lv_at hl 1 rfl) ?_
    refine va_get (D := (dC, dI)) (pc := 46) (ci := 2) (v := .ref qMp) (C := "LongMachine$Memory") (T := TX2) (N := 8) hx hb hts ui_X2 hown hK hP 0 rfl rfl 1 (by decide) (hts _ gm_22) (fun _ h9 => h9) rfl dX2_keep_46 ?_
    refine lv_iload (pc := 49) hx hb dX2_keep_49 (lv_at hl 0 rfl) ?_
    refine lv_iload_n (pc := 51) hx hb dX2_keep_51 rfl (lv_at hl 2 rfl) ?_
    refine qa_iast (pc := 52) (k := (Int32.toNatClampNeg mCnt)) hx hb hK hP hD hS 2 0 rfl rfl rfl (by first | exact qa_inI ho0 ho4 | exact rg_b hc0 h11_1 (by decide)) dX2_keep_52 (fun H locs hP hD hS => ?_)
    have hP : va_P (dC, dI) vwCl (wM cI cJ qM qMw qMp qMs qMd mOld (mCnt + (1 : Int32)) mTab mSpc mW (upd mP (Int32.toNatClampNeg mCnt) z1) mS mD) H := hP
    have hD : va_D A (wM cI cJ qM qMw qMp qMs qMd mOld (mCnt + (1 : Int32)) mTab mSpc mW (upd mP (Int32.toNatClampNeg mCnt) z1) mS mD) := hD
    refine lv_aload_n (pc := 53) hx hb dX2_keep_53 rfl (lv_at hl 1 rfl) ?_
    refine va_get (D := (dC, dI)) (pc := 54) (ci := 2) (v := .ref qMs) (C := "LongMachine$Memory") (T := TX2) (N := 8) hx hb hts ui_X2 hown hK hP 0 rfl rfl 2 (by decide) (hts _ gm_23) (fun _ h9 => h9) rfl dX2_keep_54 ?_
    refine lv_iload (pc := 57) hx hb dX2_keep_57 (lv_at hl 0 rfl) ?_
    refine lv_aload_n (pc := 59) hx hb dX2_keep_59 rfl (lv_at hl 1 rfl) ?_
    refine va_get (D := (dC, dI)) (pc := 60) (ci := 2) (v := .int mSpc) (C := "LongMachine$Memory") (T := TX2) (N := 8) hx hb hts ui_X2 hown hK hP 0 rfl rfl 7 (by decide) (hts _ gm_31) (fun _ h9 => h9) rfl dX2_keep_60 ?_
    refine qa_iast (pc := 63) (k := (Int32.toNatClampNeg mCnt)) hx hb hK hP hD hS 3 0 rfl rfl rfl (by first | exact qa_inI ho0 ho4 | exact rg_b hc0 h11_1 (by decide)) dX2_keep_63 (fun H locs hP hD hS => ?_)
    have hP : va_P (dC, dI) vwCl (wM cI cJ qM qMw qMp qMs qMd mOld (mCnt + (1 : Int32)) mTab mSpc mW (upd mP (Int32.toNatClampNeg mCnt) z1) (upd mS (Int32.toNatClampNeg mCnt) mSpc) mD) H := hP
    have hD : va_D A (wM cI cJ qM qMw qMp qMs qMd mOld (mCnt + (1 : Int32)) mTab mSpc mW (upd mP (Int32.toNatClampNeg mCnt) z1) (upd mS (Int32.toNatClampNeg mCnt) mSpc) mD) := hD
    refine lv_aload_n (pc := 64) hx hb dX2_keep_64 rfl (lv_at hl 1 rfl) ?_
    refine va_get (D := (dC, dI)) (pc := 65) (ci := 2) (v := .ref qMd) (C := "LongMachine$Memory") (T := TX2) (N := 8) hx hb hts ui_X2 hown hK hP 0 rfl rfl 3 (by decide) (hts _ gm_24) (fun _ h9 => h9) rfl dX2_keep_65 ?_
    refine lv_iload (pc := 68) hx hb dX2_keep_68 (lv_at hl 0 rfl) ?_
    refine lv_lload_n (pc := 70) hx hb dX2_keep_70 rfl (lv_at hl 3 rfl) ?_
    refine qa_last (pc := 71) (k := (Int32.toNatClampNeg mCnt)) hx hb hK hP hD hS 4 1 rfl rfl rfl (by first | exact qa_inI ho0 ho4 | exact rg_b hc0 h11_1 (by decide)) dX2_keep_71 (fun H locs hP hD hS => ?_)
    have hP : va_P (dC, dI) vwCl (wM cI cJ qM qMw qMp qMs qMd mOld (mCnt + (1 : Int32)) mTab mSpc mW (upd mP (Int32.toNatClampNeg mCnt) z1) (upd mS (Int32.toNatClampNeg mCnt) mSpc) (vp_updL mD (Int32.toNatClampNeg mCnt) z2)) H := hP
    have hD : va_D A (wM cI cJ qM qMw qMp qMs qMd mOld (mCnt + (1 : Int32)) mTab mSpc mW (upd mP (Int32.toNatClampNeg mCnt) z1) (upd mS (Int32.toNatClampNeg mCnt) mSpc) (vp_updL mD (Int32.toNatClampNeg mCnt) z2)) := hD
    subst hu
    exact W.vret hx hb hr (fun t ht hW => ⟨rfl, by rw [ht]; exact hP, hS.F ht⟩) hS.2.2 dX2_keep_72
set_option maxRecDepth 100000 in
set_option maxHeartbeats 4000000 in
theorem c_X2_numberOf (l : Launch) (z0 : Int64) : Met l yX2_numberOf (.code yX2_numberOf cX2_numberOf 2 (some .int) :: vG) ({ frames := 0, cells := 0, slots := 0, locals := 0 }) (va_Pc [.long z0] (fun _ => True)) (qa_det (.int ((Int64.toInt32 (jlushr z0 (32 : Int32))) &&& (15 : Int32)))) 0 0 (fun _ => False) := by
  refine Met.ofW (cc := cX2_numberOf) (maxL := 2) (ret := (some .int)) (by decide) rfl ?_
  intro p e s m args below meth c s₁ B hml hv
  obtain ⟨rfl, hv⟩ := hv
  have hx := B.exec
  have hb := B.bytes
  have hr := B.returns
  have hts : ∀ w ∈ vG, w.before _ s = true := fun w h => atoms_spec (ws := (.code yX2_numberOf cX2_numberOf 2 (some .int) :: vG)) B.pre w (List.mem_cons_of_mem _ h)
  have hown : s.vm.findClass "LongMachine$Memory" = some m.cls := findClass_of_methodNamed B.named
  have hlocks := B.notSynchronized
  have hl := lv_entry ([.long z0]) (n := 2) (Nat.le_of_ble_eq_true rfl)
  rw [lg_entry_eq]
  generalize (lg_sl ([.long z0]) ++ List.replicate (2 - (lg_sl ([.long z0])).length) Slot.unset).toArray = ls at hl ⊢
  have hl : lv_has ls 2 [(0, .long z0)] := hl
  refine lv_lload_n (pc := 0) hx hb dX2_numberOf_0 rfl (lv_at hl 0 rfl) ?_
  refine lv_bipush (pc := 1) (v := (32 : Int32)) hx hb dX2_numberOf_1 (by decide) ?_
  refine lv_lushr (pc := 3) (v := (jlushr z0 (32 : Int32))) hx hb dX2_numberOf_3 rfl ?_
  refine lv_l2i (pc := 4) (v := (Int64.toInt32 (jlushr z0 (32 : Int32)))) hx hb dX2_numberOf_4 rfl ?_
  refine lv_bipush (pc := 5) (v := (15 : Int32)) hx hb dX2_numberOf_5 (by decide) ?_
  refine lv_iand (pc := 7) hx hb dX2_numberOf_7 ?_
  exact W.iret hx hb hr (fun t ht hW => ⟨rfl, ht⟩) (fun _ h => by cases h) dX2_numberOf_8
def f_X2_walk_K95_1 (z1 : Int32) (mTab : Int32) (mW : (Nat → Int64)) (r95_1 : Int32 × Int32 × (Nat → Int32) × (Nat → Int32) × (Nat → Int64)) : Int64 × Int32 × Int32 × (Nat → Int32) × (Nat → Int32) × (Nat → Int64) := ((mW (Int32.toNatClampNeg (((32 : Int32) * ((Int64.toInt32 (jlushr (mW (Int32.toNatClampNeg (((32 : Int32) * ((Int64.toInt32 (jlushr (mW (Int32.toNatClampNeg ((mTab >>> ((3 : Int32) &&& (31 : Int32))) + ((z1 >>> ((4 : Int32) &&& (31 : Int32))) &&& (3 : Int32))))) (32 : Int32))) &&& (15 : Int32))) + ((z1 >>> ((2 : Int32) &&& (31 : Int32))) &&& (3 : Int32))))) (32 : Int32))) &&& (15 : Int32))) + (z1 &&& (3 : Int32))))), r95_1.1, r95_1.2.1, r95_1.2.2.1, r95_1.2.2.2.1, r95_1.2.2.2.2)
def f_X2_walk (z1 : Int32) (mOld : Int32) (mCnt : Int32) (mTab : Int32) (mSpc : Int32) (mW : (Nat → Int64)) (mP : (Nat → Int32)) (mS : (Nat → Int32)) (mD : (Nat → Int64)) : Int64 × Int32 × Int32 × (Nat → Int32) × (Nat → Int32) × (Nat → Int64) := (if ((mW (Int32.toNatClampNeg ((mTab >>> ((3 : Int32) &&& (31 : Int32))) + ((z1 >>> ((4 : Int32) &&& (31 : Int32))) &&& (3 : Int32))))) &&& (1 : Int64)) = (0 : Int64) then ((240 : Int64), mOld, mCnt, mP, mS, mD) else (if ((mW (Int32.toNatClampNeg (((32 : Int32) * ((Int64.toInt32 (jlushr (mW (Int32.toNatClampNeg ((mTab >>> ((3 : Int32) &&& (31 : Int32))) + ((z1 >>> ((4 : Int32) &&& (31 : Int32))) &&& (3 : Int32))))) (32 : Int32))) &&& (15 : Int32))) + ((z1 >>> ((2 : Int32) &&& (31 : Int32))) &&& (3 : Int32))))) &&& (1 : Int64)) = (0 : Int64) then ((240 : Int64), mOld, mCnt, mP, mS, mD) else (if ((mW (Int32.toNatClampNeg (((32 : Int32) * ((Int64.toInt32 (jlushr (mW (Int32.toNatClampNeg (((32 : Int32) * ((Int64.toInt32 (jlushr (mW (Int32.toNatClampNeg ((mTab >>> ((3 : Int32) &&& (31 : Int32))) + ((z1 >>> ((4 : Int32) &&& (31 : Int32))) &&& (3 : Int32))))) (32 : Int32))) &&& (15 : Int32))) + ((z1 >>> ((2 : Int32) &&& (31 : Int32))) &&& (3 : Int32))))) (32 : Int32))) &&& (15 : Int32))) + (z1 &&& (3 : Int32))))) &&& (1 : Int64)) = (0 : Int64) then ((mW (Int32.toNatClampNeg (((32 : Int32) * ((Int64.toInt32 (jlushr (mW (Int32.toNatClampNeg (((32 : Int32) * ((Int64.toInt32 (jlushr (mW (Int32.toNatClampNeg ((mTab >>> ((3 : Int32) &&& (31 : Int32))) + ((z1 >>> ((4 : Int32) &&& (31 : Int32))) &&& (3 : Int32))))) (32 : Int32))) &&& (15 : Int32))) + ((z1 >>> ((2 : Int32) &&& (31 : Int32))) &&& (3 : Int32))))) (32 : Int32))) &&& (15 : Int32))) + (z1 &&& (3 : Int32))))), mOld, mCnt, mP, mS, mD) else (f_X2_walk_K95_1 z1 mTab mW (f_X2_keep z1 (mW (Int32.toNatClampNeg (((32 : Int32) * ((Int64.toInt32 (jlushr (mW (Int32.toNatClampNeg (((32 : Int32) * ((Int64.toInt32 (jlushr (mW (Int32.toNatClampNeg ((mTab >>> ((3 : Int32) &&& (31 : Int32))) + ((z1 >>> ((4 : Int32) &&& (31 : Int32))) &&& (3 : Int32))))) (32 : Int32))) &&& (15 : Int32))) + ((z1 >>> ((2 : Int32) &&& (31 : Int32))) &&& (3 : Int32))))) (32 : Int32))) &&& (15 : Int32))) + (z1 &&& (3 : Int32))))) mOld mCnt mSpc mP mS mD)))))
set_option maxRecDepth 100000 in
set_option maxHeartbeats 4000000 in
theorem c_X2_walk (l : Launch) (dC : Nat → ClassId) (dI : Nat → Nat → Nat) (cI cJ : ClassId) (qM qMw qMp qMs qMd : Nat) (sz : Nat) (mOld : Int32) (mCnt : Int32) (mTab : Int32) (mSpc : Int32) (mW : (Nat → Int64)) (mP : (Nat → Int32)) (mS : (Nat → Int32)) (mD : (Nat → Int64)) (z1 : Int32) (hc0 : 0 ≤ mCnt.toInt) (hc4 : mCnt.toInt ≤ 4) (ho0 : 0 ≤ mOld.toInt) (ho4 : mOld.toInt < 4) (ht0 : 0 ≤ mTab.toInt) (ht1 : mTab.toInt ≤ 4064) : Met l yX2_walk (.code yX2_walk cX2_walk 8 (some .long) :: vG) ({ frames := 1, cells := 0, slots := 0, locals := 24 }) (va_Pc [.ref qM, .int z1] (qa_pre (dC, dI) vwCl (wM cI cJ qM qMw qMp qMs qMd mOld mCnt mTab mSpc mW mP mS mD) [(cI, .int), (cJ, .long)] sz)) (qa_mod (some (.long ((f_X2_walk z1 mOld mCnt mTab mSpc mW mP mS mD).1))) (dC, dI) vwCl (wM cI cJ qM qMw qMp qMs qMd ((f_X2_walk z1 mOld mCnt mTab mSpc mW mP mS mD).2.1) ((f_X2_walk z1 mOld mCnt mTab mSpc mW mP mS mD).2.2.1) mTab mSpc mW ((f_X2_walk z1 mOld mCnt mTab mSpc mW mP mS mD).2.2.2.1) ((f_X2_walk z1 mOld mCnt mTab mSpc mW mP mS mD).2.2.2.2.1) ((f_X2_walk z1 mOld mCnt mTab mSpc mW mP mS mD).2.2.2.2.2)) (va_A (wM cI cJ qM qMw qMp qMs qMd mOld mCnt mTab mSpc mW mP mS mD) sz)) 0 0 (va_A (wM cI cJ qM qMw qMp qMs qMd mOld mCnt mTab mSpc mW mP mS mD) sz) := by
  refine Met.ofW (cc := cX2_walk) (maxL := 8) (ret := (some .long)) (by decide) rfl ?_
  intro p e s m args below meth c s₁ B hml hv
  obtain ⟨rfl, hsz, hP, hK, hD0⟩ := hv
  have hx := B.exec
  have hb := B.bytes
  have hr := B.returns
  have hts : ∀ w ∈ vG, w.before _ s = true := fun w h => atoms_spec (ws := (.code yX2_walk cX2_walk 8 (some .long) :: vG)) B.pre w (List.mem_cons_of_mem _ h)
  have hown : s.vm.findClass "LongMachine$Memory" = some m.cls := findClass_of_methodNamed B.named
  have hlocks := B.notSynchronized
  subst hsz
  have hD := hD0.self (sz := s.heap.size)
  generalize hAe : va_A (wM cI cJ qM qMw qMp qMs qMd mOld mCnt mTab mSpc mW mP mS mD) s.heap.size = A at hD ⊢
  have hA : ∀ q : Nat, s.heap.size ≤ q → A q := fun q h => by rw [← hAe]; exact Or.inr h
  have hS : va_S A s.heap s.heap [] := va_S.rf
  have hl := lv_entry ([.ref qM, .int z1]) (n := 8) (Nat.le_of_ble_eq_true rfl)
  rw [lg_entry_eq]
  generalize (lg_sl ([.ref qM, .int z1]) ++ List.replicate (8 - (lg_sl ([.ref qM, .int z1])).length) Slot.unset).toArray = ls at hl ⊢
  have hl : lv_has ls 8 [(0, .ref qM), (1, .int z1)] := hl
  obtain ⟨u, hu⟩ : ∃ u, u = f_X2_walk z1 mOld mCnt mTab mSpc mW mP mS mD := ⟨_, rfl⟩
  rw [← hu]
  unfold f_X2_walk at hu
  refine lv_aload_n (pc := 0) hx hb dX2_walk_0 rfl (lv_at hl 0 rfl) ?_
  refine va_get (D := (dC, dI)) (pc := 1) (ci := 2) (v := .ref qMw) (C := "LongMachine$Memory") (T := TX2) (N := 8) hx hb hts ui_X2 hown hK hP 0 rfl rfl 0 (by decide) (hts _ gm_20) (fun _ h9 => h9) rfl dX2_walk_1 ?_
  refine lv_aload_n (pc := 4) hx hb dX2_walk_4 rfl (lv_at hl 0 rfl) ?_
  refine va_get (D := (dC, dI)) (pc := 5) (ci := 2) (v := .int mTab) (C := "LongMachine$Memory") (T := TX2) (N := 8) hx hb hts ui_X2 hown hK hP 0 rfl rfl 6 (by decide) (hts _ gm_29) (fun _ h9 => h9) rfl dX2_walk_5 ?_
  refine lv_iconst (pc := 8) (v := (3 : Int32)) hx hb dX2_walk_8 (by decide) ?_
  refine lv_ishr (pc := 9) hx hb dX2_walk_9 ?_
  refine lv_iload_n (pc := 10) hx hb dX2_walk_10 rfl (lv_at hl 1 rfl) ?_
  refine lv_iconst (pc := 11) (v := (4 : Int32)) hx hb dX2_walk_11 (by decide) ?_
  refine lv_ishr (pc := 12) hx hb dX2_walk_12 ?_
  refine lv_iconst (pc := 13) (v := (3 : Int32)) hx hb dX2_walk_13 (by decide) ?_
  refine lv_iand (pc := 14) hx hb dX2_walk_14 ?_
  refine lv_iadd (pc := 15) hx hb dX2_walk_15 ?_
  refine qa_lald (pc := 16) (k := (Int32.toNatClampNeg ((mTab >>> ((3 : Int32) &&& (31 : Int32))) + ((z1 >>> ((4 : Int32) &&& (31 : Int32))) &&& (3 : Int32))))) hx hb hK hP 1 1 rfl rfl rfl (rg_w1 _ ht0 ht1) dX2_walk_16 ?_
  refine lv_lstore_n (pc := 17) (lv' := [(2, .long (mW (Int32.toNatClampNeg ((mTab >>> ((3 : Int32) &&& (31 : Int32))) + ((z1 >>> ((4 : Int32) &&& (31 : Int32))) &&& (3 : Int32)))))), (0, .ref qM), (1, .int z1)]) hx hb dX2_walk_17 rfl hl (by decide) rfl (fun ls hl => ?_)
  refine lv_lload_n (pc := 18) hx hb dX2_walk_18 rfl (lv_at hl 0 rfl) ?_
  refine lv_lconst (pc := 19) (v := (1 : Int64)) hx hb dX2_walk_19 (by decide) ?_
  refine lv_land (pc := 20) hx hb dX2_walk_20 ?_
  refine lv_lconst (pc := 21) (v := (0 : Int64)) hx hb dX2_walk_21 (by decide) ?_
  refine qa_lc_ne (pc := 22) (tgt := 30) hx hb dX2_walk_22 dX2_walk_23 (by decide) (fun h22_1 => ?_) (fun h22_1 => ?_)
  · have hu := hu.trans (if_neg h22_1)
    refine lv_aload_n (pc := 30) hx hb dX2_walk_30 rfl (lv_at hl 1 rfl) ?_
    refine va_get (D := (dC, dI)) (pc := 31) (ci := 2) (v := .ref qMw) (C := "LongMachine$Memory") (T := TX2) (N := 8) hx hb hts ui_X2 hown hK hP 0 rfl rfl 0 (by decide) (hts _ gm_20) (fun _ h9 => h9) rfl dX2_walk_31 ?_
    refine lv_bipush (pc := 34) (v := (32 : Int32)) hx hb dX2_walk_34 (by decide) ?_
    refine lv_lload_n (pc := 36) hx hb dX2_walk_36 rfl (lv_at hl 0 rfl) ?_
    refine qa_calld (pc := 37) (v := .int ((Int64.toInt32 (jlushr (mW (Int32.toNatClampNeg ((mTab >>> ((3 : Int32) &&& (31 : Int32))) + ((z1 >>> ((4 : Int32) &&& (31 : Int32))) &&& (3 : Int32))))) (32 : Int32))) &&& (15 : Int32))) (va_runS (As := [.long (mW (Int32.toNatClampNeg ((mTab >>> ((3 : Int32) &&& (31 : Int32))) + ((z1 >>> ((4 : Int32) &&& (31 : Int32))) &&& (3 : Int32)))))]) (rest := [.int (32 : Int32), .ref qMw]) ⟨hx, hb, hml, hown, hts⟩ (c_X2_numberOf l (mW (Int32.toNatClampNeg ((mTab >>> ((3 : Int32) &&& (31 : Int32))) + ((z1 >>> ((4 : Int32) &&& (31 : Int32))) &&& (3 : Int32)))))) (va_cwS 1 hts (gd_S gm_189 gm_187 gm_188 gm_2) rfl rfl rfl (by decide +kernel) ⟨Nat.le_of_ble_eq_true rfl, Nat.le_of_ble_eq_true rfl⟩) qa_S0 rfl rfl hl.1 rfl (lv_room (Nat.le_of_ble_eq_true rfl)) dX2_walk_37 ⟨Nat.zero_le _, Nat.zero_le _⟩) ?_
    refine lv_imul (pc := 40) hx hb dX2_walk_40 ?_
    refine lv_iload_n (pc := 41) hx hb dX2_walk_41 rfl (lv_at hl 2 rfl) ?_
    refine lv_iconst (pc := 42) (v := (2 : Int32)) hx hb dX2_walk_42 (by decide) ?_
    refine lv_ishr (pc := 43) hx hb dX2_walk_43 ?_
    refine lv_iconst (pc := 44) (v := (3 : Int32)) hx hb dX2_walk_44 (by decide) ?_
    refine lv_iand (pc := 45) hx hb dX2_walk_45 ?_
    refine lv_iadd (pc := 46) hx hb dX2_walk_46 ?_
    refine qa_lald (pc := 47) (k := (Int32.toNatClampNeg (((32 : Int32) * ((Int64.toInt32 (jlushr (mW (Int32.toNatClampNeg ((mTab >>> ((3 : Int32) &&& (31 : Int32))) + ((z1 >>> ((4 : Int32) &&& (31 : Int32))) &&& (3 : Int32))))) (32 : Int32))) &&& (15 : Int32))) + ((z1 >>> ((2 : Int32) &&& (31 : Int32))) &&& (3 : Int32))))) hx hb hK hP 1 1 rfl rfl rfl (rg_w2 _ _) dX2_walk_47 ?_
    refine lv_lstore (pc := 48) (lv' := [(4, .long (mW (Int32.toNatClampNeg (((32 : Int32) * ((Int64.toInt32 (jlushr (mW (Int32.toNatClampNeg ((mTab >>> ((3 : Int32) &&& (31 : Int32))) + ((z1 >>> ((4 : Int32) &&& (31 : Int32))) &&& (3 : Int32))))) (32 : Int32))) &&& (15 : Int32))) + ((z1 >>> ((2 : Int32) &&& (31 : Int32))) &&& (3 : Int32)))))), (2, .long (mW (Int32.toNatClampNeg ((mTab >>> ((3 : Int32) &&& (31 : Int32))) + ((z1 >>> ((4 : Int32) &&& (31 : Int32))) &&& (3 : Int32)))))), (0, .ref qM), (1, .int z1)]) hx hb dX2_walk_48 hl (by decide) rfl (fun ls hl => ?_)
    refine lv_lload (pc := 50) hx hb dX2_walk_50 (lv_at hl 0 rfl) ?_
    refine lv_lconst (pc := 52) (v := (1 : Int64)) hx hb dX2_walk_52 (by decide) ?_
    refine lv_land (pc := 53) hx hb dX2_walk_53 ?_
    refine lv_lconst (pc := 54) (v := (0 : Int64)) hx hb dX2_walk_54 (by decide) ?_
    refine qa_lc_ne (pc := 55) (tgt := 63) hx hb dX2_walk_55 dX2_walk_56 (by decide) (fun h55_2 => ?_) (fun h55_2 => ?_)
    · have hu := hu.trans (if_neg h55_2)
      refine lv_aload_n (pc := 63) hx hb dX2_walk_63 rfl (lv_at hl 2 rfl) ?_
      refine va_get (D := (dC, dI)) (pc := 64) (ci := 2) (v := .ref qMw) (C := "LongMachine$Memory") (T := TX2) (N := 8) hx hb hts ui_X2 hown hK hP 0 rfl rfl 0 (by decide) (hts _ gm_20) (fun _ h9 => h9) rfl dX2_walk_64 ?_
      refine lv_bipush (pc := 67) (v := (32 : Int32)) hx hb dX2_walk_67 (by decide) ?_
      refine lv_lload (pc := 69) hx hb dX2_walk_69 (lv_at hl 0 rfl) ?_
      refine qa_calld (pc := 71) (v := .int ((Int64.toInt32 (jlushr (mW (Int32.toNatClampNeg (((32 : Int32) * ((Int64.toInt32 (jlushr (mW (Int32.toNatClampNeg ((mTab >>> ((3 : Int32) &&& (31 : Int32))) + ((z1 >>> ((4 : Int32) &&& (31 : Int32))) &&& (3 : Int32))))) (32 : Int32))) &&& (15 : Int32))) + ((z1 >>> ((2 : Int32) &&& (31 : Int32))) &&& (3 : Int32))))) (32 : Int32))) &&& (15 : Int32))) (va_runS (As := [.long (mW (Int32.toNatClampNeg (((32 : Int32) * ((Int64.toInt32 (jlushr (mW (Int32.toNatClampNeg ((mTab >>> ((3 : Int32) &&& (31 : Int32))) + ((z1 >>> ((4 : Int32) &&& (31 : Int32))) &&& (3 : Int32))))) (32 : Int32))) &&& (15 : Int32))) + ((z1 >>> ((2 : Int32) &&& (31 : Int32))) &&& (3 : Int32)))))]) (rest := [.int (32 : Int32), .ref qMw]) ⟨hx, hb, hml, hown, hts⟩ (c_X2_numberOf l (mW (Int32.toNatClampNeg (((32 : Int32) * ((Int64.toInt32 (jlushr (mW (Int32.toNatClampNeg ((mTab >>> ((3 : Int32) &&& (31 : Int32))) + ((z1 >>> ((4 : Int32) &&& (31 : Int32))) &&& (3 : Int32))))) (32 : Int32))) &&& (15 : Int32))) + ((z1 >>> ((2 : Int32) &&& (31 : Int32))) &&& (3 : Int32)))))) (va_cwS 1 hts (gd_S gm_189 gm_187 gm_188 gm_2) rfl rfl rfl (by decide +kernel) ⟨Nat.le_of_ble_eq_true rfl, Nat.le_of_ble_eq_true rfl⟩) qa_S0 rfl rfl hl.1 rfl (lv_room (Nat.le_of_ble_eq_true rfl)) dX2_walk_71 ⟨Nat.zero_le _, Nat.zero_le _⟩) ?_
      refine lv_imul (pc := 74) hx hb dX2_walk_74 ?_
      refine lv_iload_n (pc := 75) hx hb dX2_walk_75 rfl (lv_at hl 3 rfl) ?_
      refine lv_iconst (pc := 76) (v := (3 : Int32)) hx hb dX2_walk_76 (by decide) ?_
      refine lv_iand (pc := 77) hx hb dX2_walk_77 ?_
      refine lv_iadd (pc := 78) hx hb dX2_walk_78 ?_
      refine qa_lald (pc := 79) (k := (Int32.toNatClampNeg (((32 : Int32) * ((Int64.toInt32 (jlushr (mW (Int32.toNatClampNeg (((32 : Int32) * ((Int64.toInt32 (jlushr (mW (Int32.toNatClampNeg ((mTab >>> ((3 : Int32) &&& (31 : Int32))) + ((z1 >>> ((4 : Int32) &&& (31 : Int32))) &&& (3 : Int32))))) (32 : Int32))) &&& (15 : Int32))) + ((z1 >>> ((2 : Int32) &&& (31 : Int32))) &&& (3 : Int32))))) (32 : Int32))) &&& (15 : Int32))) + (z1 &&& (3 : Int32))))) hx hb hK hP 1 1 rfl rfl rfl (rg_w2 _ _) dX2_walk_79 ?_
      refine lv_lstore (pc := 80) (lv' := [(6, .long (mW (Int32.toNatClampNeg (((32 : Int32) * ((Int64.toInt32 (jlushr (mW (Int32.toNatClampNeg (((32 : Int32) * ((Int64.toInt32 (jlushr (mW (Int32.toNatClampNeg ((mTab >>> ((3 : Int32) &&& (31 : Int32))) + ((z1 >>> ((4 : Int32) &&& (31 : Int32))) &&& (3 : Int32))))) (32 : Int32))) &&& (15 : Int32))) + ((z1 >>> ((2 : Int32) &&& (31 : Int32))) &&& (3 : Int32))))) (32 : Int32))) &&& (15 : Int32))) + (z1 &&& (3 : Int32)))))), (4, .long (mW (Int32.toNatClampNeg (((32 : Int32) * ((Int64.toInt32 (jlushr (mW (Int32.toNatClampNeg ((mTab >>> ((3 : Int32) &&& (31 : Int32))) + ((z1 >>> ((4 : Int32) &&& (31 : Int32))) &&& (3 : Int32))))) (32 : Int32))) &&& (15 : Int32))) + ((z1 >>> ((2 : Int32) &&& (31 : Int32))) &&& (3 : Int32)))))), (2, .long (mW (Int32.toNatClampNeg ((mTab >>> ((3 : Int32) &&& (31 : Int32))) + ((z1 >>> ((4 : Int32) &&& (31 : Int32))) &&& (3 : Int32)))))), (0, .ref qM), (1, .int z1)]) hx hb dX2_walk_80 hl (by decide) rfl (fun ls hl => ?_)
      refine lv_lload (pc := 82) hx hb dX2_walk_82 (lv_at hl 0 rfl) ?_
      refine lv_lconst (pc := 84) (v := (1 : Int64)) hx hb dX2_walk_84 (by decide) ?_
      refine lv_land (pc := 85) hx hb dX2_walk_85 ?_
      refine lv_lconst (pc := 86) (v := (0 : Int64)) hx hb dX2_walk_86 (by decide) ?_
      refine qa_lc_eq (pc := 87) (tgt := 98) hx hb dX2_walk_87 dX2_walk_88 (by decide) (fun h87_3 => ?_) (fun h87_3 => ?_)
      · have hu := hu.trans (if_pos h87_3)
        refine lv_lload (pc := 98) hx hb dX2_walk_98 (lv_at hl 0 rfl) ?_
        subst hu
        exact W.lret hx hb hr (fun t ht hW => ⟨rfl, by rw [ht]; exact hP, hS.F ht⟩) hS.2.2 dX2_walk_100
      · have hu := hu.trans (if_neg h87_3)
        refine lv_aload_n (pc := 91) hx hb dX2_walk_91 rfl (lv_at hl 3 rfl) ?_
        refine lv_iload_n (pc := 92) hx hb dX2_walk_92 rfl (lv_at hl 4 rfl) ?_
        refine lv_lload (pc := 93) hx hb dX2_walk_93 (lv_at hl 0 rfl) ?_
        have hc := c_X2_keep l dC dI cI cJ qM qMw qMp qMs qMd s.heap.size mOld mCnt mTab mSpc mW mP mS mD z1 (mW (Int32.toNatClampNeg (((32 : Int32) * ((Int64.toInt32 (jlushr (mW (Int32.toNatClampNeg (((32 : Int32) * ((Int64.toInt32 (jlushr (mW (Int32.toNatClampNeg ((mTab >>> ((3 : Int32) &&& (31 : Int32))) + ((z1 >>> ((4 : Int32) &&& (31 : Int32))) &&& (3 : Int32))))) (32 : Int32))) &&& (15 : Int32))) + ((z1 >>> ((2 : Int32) &&& (31 : Int32))) &&& (3 : Int32))))) (32 : Int32))) &&& (15 : Int32))) + (z1 &&& (3 : Int32))))) (hc0) (hc4) (ho0) (ho4)
        generalize er95_1 : f_X2_keep z1 (mW (Int32.toNatClampNeg (((32 : Int32) * ((Int64.toInt32 (jlushr (mW (Int32.toNatClampNeg (((32 : Int32) * ((Int64.toInt32 (jlushr (mW (Int32.toNatClampNeg ((mTab >>> ((3 : Int32) &&& (31 : Int32))) + ((z1 >>> ((4 : Int32) &&& (31 : Int32))) &&& (3 : Int32))))) (32 : Int32))) &&& (15 : Int32))) + ((z1 >>> ((2 : Int32) &&& (31 : Int32))) &&& (3 : Int32))))) (32 : Int32))) &&& (15 : Int32))) + (z1 &&& (3 : Int32))))) mOld mCnt mSpc mP mS mD = r95_1 at hu hc
        unfold f_X2_walk_K95_1 at hu
        refine qa_callv (pc := 95) (wr := []) (wf := (wM cI cJ qM qMw qMp qMs qMd r95_1.1 r95_1.2.1 mTab mSpc mW r95_1.2.2.1 r95_1.2.2.2.1 r95_1.2.2.2.2)) (va_runV (As := [.int z1, .long (mW (Int32.toNatClampNeg (((32 : Int32) * ((Int64.toInt32 (jlushr (mW (Int32.toNatClampNeg (((32 : Int32) * ((Int64.toInt32 (jlushr (mW (Int32.toNatClampNeg ((mTab >>> ((3 : Int32) &&& (31 : Int32))) + ((z1 >>> ((4 : Int32) &&& (31 : Int32))) &&& (3 : Int32))))) (32 : Int32))) &&& (15 : Int32))) + ((z1 >>> ((2 : Int32) &&& (31 : Int32))) &&& (3 : Int32))))) (32 : Int32))) &&& (15 : Int32))) + (z1 &&& (3 : Int32)))))]) (rest := []) ⟨hx, hb, hml, hown, hts⟩ hc (cwV 2 hts (gd_V gm_192 gm_190 gm_191 gm_553 gm_2) rfl rfl rfl (by decide +kernel) ⟨Nat.le_of_ble_eq_true rfl, Nat.le_of_ble_eq_true rfl⟩) (qa_VM (q0 := 0) (q := ("LongMachine$Memory", TX2, 8)) hK hP rfl rfl hP hD) rfl rfl hl.1 rfl (lv_room (Nat.le_of_ble_eq_true rfl)) dX2_walk_95 ⟨Nat.zero_le _, Nat.zero_le _⟩) hP hD hS hA [0, 1, 2, 3, 4] [] [0, 1, 2, 3, 4] rfl (by decide) rfl (by decide) (by decide) rfl rfl (by decide) (fun H locs hP hD hS => ?_)
        refine lv_lload (pc := 98) hx hb dX2_walk_98 (lv_at hl 0 rfl) ?_
        subst hu
        exact W.lret hx hb hr (fun t ht hW => ⟨rfl, by rw [ht]; exact hP, hS.F ht⟩) hS.2.2 dX2_walk_100
    · have hu := hu.trans (if_pos h55_2)
      refine lv_ldc2 (pc := 59) (v := (240 : Int64)) hx hb hown (hts _ gm_186) dX2_walk_59 ?_
      subst hu
      exact W.lret hx hb hr (fun t ht hW => ⟨rfl, by rw [ht]; exact hP, hS.F ht⟩) hS.2.2 dX2_walk_62
  · have hu := hu.trans (if_pos h22_1)
    refine lv_ldc2 (pc := 26) (v := (240 : Int64)) hx hb hown (hts _ gm_186) dX2_walk_26 ?_
    subst hu
    exact W.lret hx hb hr (fun t ht hW => ⟨rfl, by rw [ht]; exact hP, hS.F ht⟩) hS.2.2 dX2_walk_29
def f_X2_faultIn (z0 : Int64) (z2 : Int32) (z3 : Int32) : Int32 := (if (((Int64.toInt32 z0) >>> (((if z2 = (1 : Int32) then (6 : Int32) else (4 : Int32)) + z3) &&& (31 : Int32))) &&& (1 : Int32)) = (0 : Int32) then (1 : Int32) else (if ((Int64.toInt32 z0) &&& (1 : Int32)) = (0 : Int32) then (0 : Int32) else (if z2 = (0 : Int32) then (if ((Int64.toInt32 z0) &&& (2 : Int32)) = (0 : Int32) then (-1 : Int32) else (3 : Int32)) else (if z2 = (1 : Int32) then (if ((Int64.toInt32 z0) &&& (4 : Int32)) = (0 : Int32) then (-1 : Int32) else (4 : Int32)) else (if ((Int64.toInt32 z0) &&& (8 : Int32)) = (0 : Int32) then (-1 : Int32) else (2 : Int32))))))
set_option maxRecDepth 100000 in
set_option maxHeartbeats 4000000 in
theorem c_X2_faultIn (l : Launch) (z0 : Int64) (z2 : Int32) (z3 : Int32) : Met l yX2_faultIn (.code yX2_faultIn cX2_faultIn 6 (some .int) :: vG) ({ frames := 0, cells := 0, slots := 0, locals := 0 }) (va_Pc [.long z0, .int z2, .int z3] (fun _ => True)) (qa_det (.int (f_X2_faultIn z0 z2 z3))) 0 0 (fun _ => False) := by
  refine Met.ofW (cc := cX2_faultIn) (maxL := 6) (ret := (some .int)) (by decide) rfl ?_
  intro p e s m args below meth c s₁ B hml hv
  obtain ⟨rfl, hv⟩ := hv
  have hx := B.exec
  have hb := B.bytes
  have hr := B.returns
  have hts : ∀ w ∈ vG, w.before _ s = true := fun w h => atoms_spec (ws := (.code yX2_faultIn cX2_faultIn 6 (some .int) :: vG)) B.pre w (List.mem_cons_of_mem _ h)
  have hown : s.vm.findClass "LongMachine$Memory" = some m.cls := findClass_of_methodNamed B.named
  have hlocks := B.notSynchronized
  have hl := lv_entry ([.long z0, .int z2, .int z3]) (n := 6) (Nat.le_of_ble_eq_true rfl)
  rw [lg_entry_eq]
  generalize (lg_sl ([.long z0, .int z2, .int z3]) ++ List.replicate (6 - (lg_sl ([.long z0, .int z2, .int z3])).length) Slot.unset).toArray = ls at hl ⊢
  have hl : lv_has ls 6 [(0, .long z0), (2, .int z2), (3, .int z3)] := hl
  obtain ⟨u, hu⟩ : ∃ u, u = f_X2_faultIn z0 z2 z3 := ⟨_, rfl⟩
  rw [← hu]
  unfold f_X2_faultIn at hu
  refine lv_lload_n (pc := 0) hx hb dX2_faultIn_0 rfl (lv_at hl 0 rfl) ?_
  refine lv_l2i (pc := 1) (v := (Int64.toInt32 z0)) hx hb dX2_faultIn_1 rfl ?_
  refine lv_istore (pc := 2) (lv' := [(4, .int (Int64.toInt32 z0)), (0, .long z0), (2, .int z2), (3, .int z3)]) hx hb dX2_faultIn_2 hl (by decide) rfl (fun ls hl => ?_)
  refine lv_iload_n (pc := 4) hx hb dX2_faultIn_4 rfl (lv_at hl 2 rfl) ?_
  refine lv_iconst (pc := 5) (v := (1 : Int32)) hx hb dX2_faultIn_5 (by decide) ?_
  refine qa_joini (J := 15) (ls2 := ls) (rest2 := []) (if z2 = (1 : Int32) then (6 : Int32) else (4 : Int32)) (fun hj15 => ?_) ?_
  · refine lv_icmp_ne (pc := 6) (tgt := 14) hx hb dX2_faultIn_6 (by decide) (fun h6_1 => ?_) (fun h6_1 => ?_)
    · refine lv_iconst (pc := 14) (v := (4 : Int32)) hx hb dX2_faultIn_14 (by decide) ?_
      exact hj15 _ (Eq.symm (if_neg h6_1))
    · refine lv_bipush (pc := 9) (v := (6 : Int32)) hx hb dX2_faultIn_9 (by decide) ?_
      refine lv_goto (pc := 11) (tgt := 15) hx hb dX2_faultIn_11 (by decide) ?_
      exact hj15 _ (Eq.symm (if_pos h6_1))
  refine lv_iload_n (pc := 15) hx hb dX2_faultIn_15 rfl (lv_at hl 3 rfl) ?_
  refine lv_iadd (pc := 16) hx hb dX2_faultIn_16 ?_
  refine lv_istore (pc := 17) (lv' := [(5, .int ((if z2 = (1 : Int32) then (6 : Int32) else (4 : Int32)) + z3)), (4, .int (Int64.toInt32 z0)), (0, .long z0), (2, .int z2), (3, .int z3)]) hx hb dX2_faultIn_17 hl (by decide) rfl (fun ls hl => ?_)
  refine lv_iload (pc := 19) hx hb dX2_faultIn_19 (lv_at hl 1 rfl) ?_
  refine lv_iload (pc := 21) hx hb dX2_faultIn_21 (lv_at hl 0 rfl) ?_
  refine lv_ishr (pc := 23) hx hb dX2_faultIn_23 ?_
  refine lv_iconst (pc := 24) (v := (1 : Int32)) hx hb dX2_faultIn_24 (by decide) ?_
  refine lv_iand (pc := 25) hx hb dX2_faultIn_25 ?_
  refine lv_if_ne (pc := 26) (tgt := 31) hx hb dX2_faultIn_26 (by decide) (fun h26_2 => ?_) (fun h26_2 => ?_)
  · have hu := hu.trans (if_neg h26_2)
    refine lv_iload (pc := 31) hx hb dX2_faultIn_31 (lv_at hl 1 rfl) ?_
    refine lv_iconst (pc := 33) (v := (1 : Int32)) hx hb dX2_faultIn_33 (by decide) ?_
    refine lv_iand (pc := 34) hx hb dX2_faultIn_34 ?_
    refine lv_if_ne (pc := 35) (tgt := 40) hx hb dX2_faultIn_35 (by decide) (fun h35_3 => ?_) (fun h35_3 => ?_)
    · have hu := hu.trans (if_neg h35_3)
      refine lv_iload_n (pc := 40) hx hb dX2_faultIn_40 rfl (lv_at hl 3 rfl) ?_
      rcases Decidable.em (z2 = (0 : Int32)) with h41_4 | h41_4
      · have hu := hu.trans (if_pos h41_4)
        refine lv_lookup (pc := 41) (tgt := 68) (off := 27) hx hb dX2_faultIn_41 (by decide) (by rw [h41_4]; decide) (by decide) ?_
        refine lv_iload (pc := 68) hx hb dX2_faultIn_68 (lv_at hl 1 rfl) ?_
        refine lv_iconst (pc := 70) (v := (2 : Int32)) hx hb dX2_faultIn_70 (by decide) ?_
        refine lv_iand (pc := 71) hx hb dX2_faultIn_71 ?_
        refine qa_joini (J := 80) (ls2 := ls) (rest2 := []) (if ((Int64.toInt32 z0) &&& (2 : Int32)) = (0 : Int32) then (-1 : Int32) else (3 : Int32)) (fun hj80 => ?_) ?_
        · refine lv_if_eq (pc := 72) (tgt := 79) hx hb dX2_faultIn_72 (by decide) (fun h72_5 => ?_) (fun h72_5 => ?_)
          · refine lv_iconst (pc := 79) (v := (-1 : Int32)) hx hb dX2_faultIn_79 (by decide) ?_
            exact hj80 _ (Eq.symm (if_pos h72_5))
          · refine lv_iconst (pc := 75) (v := (3 : Int32)) hx hb dX2_faultIn_75 (by decide) ?_
            refine lv_goto (pc := 76) (tgt := 80) hx hb dX2_faultIn_76 (by decide) ?_
            exact hj80 _ (Eq.symm (if_neg h72_5))
        subst hu
        exact W.iret hx hb hr (fun t ht hW => ⟨rfl, ht⟩) (fun _ h => by cases h) dX2_faultIn_80
      · have hu := hu.trans (if_neg h41_4)
        have n41_0 : ¬ z2 = (0 : Int32) := h41_4
        rcases Decidable.em (z2 = (1 : Int32)) with h41_6 | h41_6
        · have hu := hu.trans (if_pos h41_6)
          refine lv_lookup (pc := 41) (tgt := 81) (off := 40) hx hb dX2_faultIn_41 (by decide) (by rw [h41_6]; decide) (by decide) ?_
          refine lv_iload (pc := 81) hx hb dX2_faultIn_81 (lv_at hl 1 rfl) ?_
          refine lv_iconst (pc := 83) (v := (4 : Int32)) hx hb dX2_faultIn_83 (by decide) ?_
          refine lv_iand (pc := 84) hx hb dX2_faultIn_84 ?_
          refine qa_joini (J := 93) (ls2 := ls) (rest2 := []) (if ((Int64.toInt32 z0) &&& (4 : Int32)) = (0 : Int32) then (-1 : Int32) else (4 : Int32)) (fun hj93 => ?_) ?_
          · refine lv_if_eq (pc := 85) (tgt := 92) hx hb dX2_faultIn_85 (by decide) (fun h85_7 => ?_) (fun h85_7 => ?_)
            · refine lv_iconst (pc := 92) (v := (-1 : Int32)) hx hb dX2_faultIn_92 (by decide) ?_
              exact hj93 _ (Eq.symm (if_pos h85_7))
            · refine lv_iconst (pc := 88) (v := (4 : Int32)) hx hb dX2_faultIn_88 (by decide) ?_
              refine lv_goto (pc := 89) (tgt := 93) hx hb dX2_faultIn_89 (by decide) ?_
              exact hj93 _ (Eq.symm (if_neg h85_7))
          subst hu
          exact W.iret hx hb hr (fun t ht hW => ⟨rfl, ht⟩) (fun _ h => by cases h) dX2_faultIn_93
        · have hu := hu.trans (if_neg h41_6)
          have n41_1 : ¬ z2 = (1 : Int32) := h41_6
          refine lv_lookup (pc := 41) (tgt := 94) (off := 53) hx hb dX2_faultIn_41 (by decide) ((lv_osw n41_0 (by decide)).trans ((lv_osw n41_1 (by decide)).trans (rfl))) (by decide) ?_
          refine lv_iload (pc := 94) hx hb dX2_faultIn_94 (lv_at hl 1 rfl) ?_
          refine lv_bipush (pc := 96) (v := (8 : Int32)) hx hb dX2_faultIn_96 (by decide) ?_
          refine lv_iand (pc := 98) hx hb dX2_faultIn_98 ?_
          refine qa_joini (J := 107) (ls2 := ls) (rest2 := []) (if ((Int64.toInt32 z0) &&& (8 : Int32)) = (0 : Int32) then (-1 : Int32) else (2 : Int32)) (fun hj107 => ?_) ?_
          · refine lv_if_eq (pc := 99) (tgt := 106) hx hb dX2_faultIn_99 (by decide) (fun h99_8 => ?_) (fun h99_8 => ?_)
            · refine lv_iconst (pc := 106) (v := (-1 : Int32)) hx hb dX2_faultIn_106 (by decide) ?_
              exact hj107 _ (Eq.symm (if_pos h99_8))
            · refine lv_iconst (pc := 102) (v := (2 : Int32)) hx hb dX2_faultIn_102 (by decide) ?_
              refine lv_goto (pc := 103) (tgt := 107) hx hb dX2_faultIn_103 (by decide) ?_
              exact hj107 _ (Eq.symm (if_neg h99_8))
          subst hu
          exact W.iret hx hb hr (fun t ht hW => ⟨rfl, ht⟩) (fun _ h => by cases h) dX2_faultIn_107
    · have hu := hu.trans (if_pos h35_3)
      refine lv_iconst (pc := 38) (v := (0 : Int32)) hx hb dX2_faultIn_38 (by decide) ?_
      subst hu
      exact W.iret hx hb hr (fun t ht hW => ⟨rfl, ht⟩) (fun _ h => by cases h) dX2_faultIn_39
  · have hu := hu.trans (if_pos h26_2)
    refine lv_iconst (pc := 29) (v := (1 : Int32)) hx hb dX2_faultIn_29 (by decide) ?_
    subst hu
    exact W.iret hx hb hr (fun t ht hW => ⟨rfl, ht⟩) (fun _ h => by cases h) dX2_faultIn_30
def f_X2_place_K54_1 (z1 : Int64) (z3 : Int32) (z4 : Int32) (r54_1 : Int64 × Int32 × Int32 × (Nat → Int32) × (Nat → Int32) × (Nat → Int64)) : Int32 × Int32 × Int32 × (Nat → Int32) × (Nat → Int32) × (Nat → Int64) := ((if (f_X2_faultIn r54_1.1 z3 z4) < (0 : Int32) then (((256 : Int32) * ((Int64.toInt32 (jlushr r54_1.1 (32 : Int32))) &&& (15 : Int32))) + ((Int64.toInt32 z1) &&& (255 : Int32))) else ((-1 : Int32) - (f_X2_faultIn r54_1.1 z3 z4))), r54_1.2.1, r54_1.2.2.1, r54_1.2.2.2.1, r54_1.2.2.2.2.1, r54_1.2.2.2.2.2)
def f_X2_place (z1 : Int64) (z3 : Int32) (z4 : Int32) (mOld : Int32) (mCnt : Int32) (mTab : Int32) (mSpc : Int32) (mW : (Nat → Int64)) (mP : (Nat → Int32)) (mS : (Nat → Int32)) (mD : (Nat → Int64)) : Int32 × Int32 × Int32 × (Nat → Int32) × (Nat → Int32) × (Nat → Int64) := (if z1 < (0 : Int64) then ((if (if z1 < (32768 : Int64) then (0 : Int32) else (if (36864 : Int64) ≤ z1 then (0 : Int32) else (1 : Int32))) = (0 : Int32) then ((-1 : Int32) - (1 : Int32)) else (if z4 = (0 : Int32) then ((Int64.toInt32 z1) - (32768 : Int32)) else ((-1 : Int32) - (1 : Int32)))), mOld, mCnt, mP, mS, mD) else (if z1 < (16384 : Int64) then (if (f_X2_find ((Int64.toInt32 z1) >>> ((8 : Int32) &&& (31 : Int32))) mCnt mSpc mP mS) < (0 : Int32) then (f_X2_place_K54_1 z1 z3 z4 (f_X2_walk ((Int64.toInt32 z1) >>> ((8 : Int32) &&& (31 : Int32))) mOld mCnt mTab mSpc mW mP mS mD)) else ((if (f_X2_faultIn (mD (Int32.toNatClampNeg (f_X2_find ((Int64.toInt32 z1) >>> ((8 : Int32) &&& (31 : Int32))) mCnt mSpc mP mS))) z3 z4) < (0 : Int32) then (((256 : Int32) * ((Int64.toInt32 (jlushr (mD (Int32.toNatClampNeg (f_X2_find ((Int64.toInt32 z1) >>> ((8 : Int32) &&& (31 : Int32))) mCnt mSpc mP mS))) (32 : Int32))) &&& (15 : Int32))) + ((Int64.toInt32 z1) &&& (255 : Int32))) else ((-1 : Int32) - (f_X2_faultIn (mD (Int32.toNatClampNeg (f_X2_find ((Int64.toInt32 z1) >>> ((8 : Int32) &&& (31 : Int32))) mCnt mSpc mP mS))) z3 z4))), mOld, mCnt, mP, mS, mD)) else ((if (if z1 < (32768 : Int64) then (0 : Int32) else (if (36864 : Int64) ≤ z1 then (0 : Int32) else (1 : Int32))) = (0 : Int32) then ((-1 : Int32) - (1 : Int32)) else (if z4 = (0 : Int32) then ((Int64.toInt32 z1) - (32768 : Int32)) else ((-1 : Int32) - (1 : Int32)))), mOld, mCnt, mP, mS, mD)))
set_option maxRecDepth 100000 in
set_option maxHeartbeats 4000000 in
theorem c_X2_place (l : Launch) (dC : Nat → ClassId) (dI : Nat → Nat → Nat) (cI cJ : ClassId) (qM qMw qMp qMs qMd : Nat) (sz : Nat) (mOld : Int32) (mCnt : Int32) (mTab : Int32) (mSpc : Int32) (mW : (Nat → Int64)) (mP : (Nat → Int32)) (mS : (Nat → Int32)) (mD : (Nat → Int64)) (z1 : Int64) (z3 : Int32) (z4 : Int32) (hc0 : 0 ≤ mCnt.toInt) (hc4 : mCnt.toInt ≤ 4) (ho0 : 0 ≤ mOld.toInt) (ho4 : mOld.toInt < 4) (ht0 : 0 ≤ mTab.toInt) (ht1 : mTab.toInt ≤ 4064) : Met l yX2_place (.code yX2_place cX2_place 10 (some .int) :: vG) ({ frames := 2, cells := 0, slots := 0, locals := 51 }) (va_Pc [.ref qM, .long z1, .int z3, .int z4] (qa_pre (dC, dI) vwCl (wM cI cJ qM qMw qMp qMs qMd mOld mCnt mTab mSpc mW mP mS mD) [(cI, .int), (cJ, .long)] sz)) (qa_mod (some (.int ((f_X2_place z1 z3 z4 mOld mCnt mTab mSpc mW mP mS mD).1))) (dC, dI) vwCl (wM cI cJ qM qMw qMp qMs qMd ((f_X2_place z1 z3 z4 mOld mCnt mTab mSpc mW mP mS mD).2.1) ((f_X2_place z1 z3 z4 mOld mCnt mTab mSpc mW mP mS mD).2.2.1) mTab mSpc mW ((f_X2_place z1 z3 z4 mOld mCnt mTab mSpc mW mP mS mD).2.2.2.1) ((f_X2_place z1 z3 z4 mOld mCnt mTab mSpc mW mP mS mD).2.2.2.2.1) ((f_X2_place z1 z3 z4 mOld mCnt mTab mSpc mW mP mS mD).2.2.2.2.2)) (va_A (wM cI cJ qM qMw qMp qMs qMd mOld mCnt mTab mSpc mW mP mS mD) sz)) 0 0 (va_A (wM cI cJ qM qMw qMp qMs qMd mOld mCnt mTab mSpc mW mP mS mD) sz) := by
  refine Met.ofW (cc := cX2_place) (maxL := 10) (ret := (some .int)) (by decide) rfl ?_
  intro p e s m args below meth c s₁ B hml hv
  obtain ⟨rfl, hsz, hP, hK, hD0⟩ := hv
  have hx := B.exec
  have hb := B.bytes
  have hr := B.returns
  have hts : ∀ w ∈ vG, w.before _ s = true := fun w h => atoms_spec (ws := (.code yX2_place cX2_place 10 (some .int) :: vG)) B.pre w (List.mem_cons_of_mem _ h)
  have hown : s.vm.findClass "LongMachine$Memory" = some m.cls := findClass_of_methodNamed B.named
  have hlocks := B.notSynchronized
  subst hsz
  have hD := hD0.self (sz := s.heap.size)
  generalize hAe : va_A (wM cI cJ qM qMw qMp qMs qMd mOld mCnt mTab mSpc mW mP mS mD) s.heap.size = A at hD ⊢
  have hA : ∀ q : Nat, s.heap.size ≤ q → A q := fun q h => by rw [← hAe]; exact Or.inr h
  have hS : va_S A s.heap s.heap [] := va_S.rf
  have hl := lv_entry ([.ref qM, .long z1, .int z3, .int z4]) (n := 10) (Nat.le_of_ble_eq_true rfl)
  rw [lg_entry_eq]
  generalize (lg_sl ([.ref qM, .long z1, .int z3, .int z4]) ++ List.replicate (10 - (lg_sl ([.ref qM, .long z1, .int z3, .int z4])).length) Slot.unset).toArray = ls at hl ⊢
  have hl : lv_has ls 10 [(0, .ref qM), (1, .long z1), (3, .int z3), (4, .int z4)] := hl
  obtain ⟨u, hu⟩ : ∃ u, u = f_X2_place z1 z3 z4 mOld mCnt mTab mSpc mW mP mS mD := ⟨_, rfl⟩
  rw [← hu]
  unfold f_X2_place at hu
  refine lv_lload_n (pc := 0) hx hb dX2_place_0 rfl (lv_at hl 1 rfl) ?_
  refine lv_lconst (pc := 1) (v := (0 : Int64)) hx hb dX2_place_1 (by decide) ?_
  refine qa_lc_lt (pc := 2) (tgt := 14) hx hb dX2_place_2 dX2_place_3 (by decide) (fun h2_1 => ?_) (fun h2_1 => ?_)
  · have hu := hu.trans (if_pos h2_1)
    refine lv_lload_n (pc := 14) hx hb dX2_place_14 rfl (lv_at hl 1 rfl) ?_
    refine lv_iload (pc := 15) hx hb dX2_place_15 (lv_at hl 3 rfl) ?_
    refine qa_calld (pc := 17) (v := .int (if (if z1 < (32768 : Int64) then (0 : Int32) else (if (36864 : Int64) ≤ z1 then (0 : Int32) else (1 : Int32))) = (0 : Int32) then ((-1 : Int32) - (1 : Int32)) else (if z4 = (0 : Int32) then ((Int64.toInt32 z1) - (32768 : Int32)) else ((-1 : Int32) - (1 : Int32))))) (va_runS (As := [.long z1, .int z4]) (rest := []) ⟨hx, hb, hml, hown, hts⟩ (c_X2_directPlace l z1 z4) (va_cwS 2 hts (gd_S gm_173 gm_171 gm_172 gm_2) rfl rfl rfl (by decide +kernel) ⟨Nat.le_of_ble_eq_true rfl, Nat.le_of_ble_eq_true rfl⟩) qa_S0 rfl rfl hl.1 rfl (lv_room (Nat.le_of_ble_eq_true rfl)) dX2_place_17 ⟨Nat.zero_le _, Nat.zero_le _⟩) ?_
    subst hu
    exact W.iret hx hb hr (fun t ht hW => ⟨rfl, by rw [ht]; exact hP, hS.F ht⟩) hS.2.2 dX2_place_20
  · have hu := hu.trans (if_neg h2_1)
    refine lv_lload_n (pc := 6) hx hb dX2_place_6 rfl (lv_at hl 1 rfl) ?_
    refine lv_ldc2 (pc := 7) (v := (16384 : Int64)) hx hb hown (hts _ gm_170) dX2_place_7 ?_
    refine qa_lc_lt (pc := 10) (tgt := 21) hx hb dX2_place_10 dX2_place_11 (by decide) (fun h10_2 => ?_) (fun h10_2 => ?_)
    · have hu := hu.trans (if_pos h10_2)
      refine lv_lload_n (pc := 21) hx hb dX2_place_21 rfl (lv_at hl 1 rfl) ?_
      refine lv_l2i (pc := 22) (v := (Int64.toInt32 z1)) hx hb dX2_place_22 rfl ?_
      refine lv_bipush (pc := 23) (v := (8 : Int32)) hx hb dX2_place_23 (by decide) ?_
      refine lv_ishr (pc := 25) hx hb dX2_place_25 ?_
      refine lv_istore (pc := 26) (lv' := [(5, .int ((Int64.toInt32 z1) >>> ((8 : Int32) &&& (31 : Int32)))), (0, .ref qM), (1, .long z1), (3, .int z3), (4, .int z4)]) hx hb dX2_place_26 hl (by decide) rfl (fun ls hl => ?_)
      refine lv_aload_n (pc := 28) hx hb dX2_place_28 rfl (lv_at hl 1 rfl) ?_
      refine lv_iload (pc := 29) hx hb dX2_place_29 (lv_at hl 0 rfl) ?_
      refine qa_calld (pc := 31) (v := .int (f_X2_find ((Int64.toInt32 z1) >>> ((8 : Int32) &&& (31 : Int32))) mCnt mSpc mP mS)) (va_runV (As := [.int ((Int64.toInt32 z1) >>> ((8 : Int32) &&& (31 : Int32)))]) (rest := []) ⟨hx, hb, hml, hown, hts⟩ (c_X2_find l dC dI cI cJ qM qMw qMp qMs qMd mOld mCnt mTab mSpc mW mP mS mD ((Int64.toInt32 z1) >>> ((8 : Int32) &&& (31 : Int32))) (hc4)) (cwV 1 hts (gd_V gm_182 gm_180 gm_181 gm_551 gm_2) rfl rfl rfl (by decide +kernel) ⟨Nat.le_of_ble_eq_true rfl, Nat.le_of_ble_eq_true rfl⟩) (qa_VR (q0 := 0) (q := ("LongMachine$Memory", TX2, 8)) hK hP rfl rfl hP) rfl rfl hl.1 rfl (lv_room (Nat.le_of_ble_eq_true rfl)) dX2_place_31 ⟨Nat.zero_le _, Nat.zero_le _⟩) ?_
      refine lv_istore (pc := 34) (lv' := [(6, .int (f_X2_find ((Int64.toInt32 z1) >>> ((8 : Int32) &&& (31 : Int32))) mCnt mSpc mP mS)), (5, .int ((Int64.toInt32 z1) >>> ((8 : Int32) &&& (31 : Int32)))), (0, .ref qM), (1, .long z1), (3, .int z3), (4, .int z4)]) hx hb dX2_place_34 hl (by decide) rfl (fun ls hl => ?_)
      refine lv_iload (pc := 36) hx hb dX2_place_36 (lv_at hl 0 rfl) ?_
      refine lv_if_lt (pc := 38) (tgt := 51) hx hb dX2_place_38 (by decide) (fun h38_3 => ?_) (fun h38_3 => ?_)
      · have hu := hu.trans (if_pos h38_3)
        refine lv_aload_n (pc := 51) hx hb dX2_place_51 rfl (lv_at hl 2 rfl) ?_
        refine lv_iload (pc := 52) hx hb dX2_place_52 (lv_at hl 1 rfl) ?_
        have hc := c_X2_walk l dC dI cI cJ qM qMw qMp qMs qMd s.heap.size mOld mCnt mTab mSpc mW mP mS mD ((Int64.toInt32 z1) >>> ((8 : Int32) &&& (31 : Int32))) (hc0) (hc4) (ho0) (ho4) (ht0) (ht1)
        generalize er54_1 : f_X2_walk ((Int64.toInt32 z1) >>> ((8 : Int32) &&& (31 : Int32))) mOld mCnt mTab mSpc mW mP mS mD = r54_1 at hu hc
        unfold f_X2_place_K54_1 at hu
        refine qa_calll (pc := 54) (wr := []) (wf := (wM cI cJ qM qMw qMp qMs qMd r54_1.2.1 r54_1.2.2.1 mTab mSpc mW r54_1.2.2.2.1 r54_1.2.2.2.2.1 r54_1.2.2.2.2.2)) (va_runV (As := [.int ((Int64.toInt32 z1) >>> ((8 : Int32) &&& (31 : Int32)))]) (rest := []) ⟨hx, hb, hml, hown, hts⟩ hc (cwV 1 hts (gd_V gm_185 gm_183 gm_184 gm_552 gm_2) rfl rfl rfl (by decide +kernel) ⟨Nat.le_of_ble_eq_true rfl, Nat.le_of_ble_eq_true rfl⟩) (qa_VM (q0 := 0) (q := ("LongMachine$Memory", TX2, 8)) hK hP rfl rfl hP hD) rfl rfl hl.1 rfl (lv_room (Nat.le_of_ble_eq_true rfl)) dX2_place_54 ⟨Nat.zero_le _, Nat.zero_le _⟩) hP hD hS hA [0, 1, 2, 3, 4] [] [0, 1, 2, 3, 4] rfl (by decide) rfl (by decide) (by decide) rfl rfl (by decide) (fun H locs hP hD hS => ?_)
        refine lv_lstore (pc := 57) (lv' := [(7, .long r54_1.1), (6, .int (f_X2_find ((Int64.toInt32 z1) >>> ((8 : Int32) &&& (31 : Int32))) mCnt mSpc mP mS)), (5, .int ((Int64.toInt32 z1) >>> ((8 : Int32) &&& (31 : Int32)))), (0, .ref qM), (1, .long z1), (3, .int z3), (4, .int z4)]) hx hb dX2_place_57 hl (by decide) rfl (fun ls hl => ?_)
        refine lv_lload (pc := 59) hx hb dX2_place_59 (lv_at hl 0 rfl) ?_
        refine lv_iload_n (pc := 61) hx hb dX2_place_61 rfl (lv_at hl 5 rfl) ?_
        refine lv_iload (pc := 62) hx hb dX2_place_62 (lv_at hl 6 rfl) ?_
        refine qa_calld (pc := 64) (v := .int (f_X2_faultIn r54_1.1 z3 z4)) (va_runS (As := [.long r54_1.1, .int z3, .int z4]) (rest := []) ⟨hx, hb, hml, hown, hts⟩ (c_X2_faultIn l r54_1.1 z3 z4) (va_cwS 3 hts (gd_S gm_195 gm_193 gm_194 gm_2) rfl rfl rfl (by decide +kernel) ⟨Nat.le_of_ble_eq_true rfl, Nat.le_of_ble_eq_true rfl⟩) qa_S0 rfl rfl hl.1 rfl (lv_room (Nat.le_of_ble_eq_true rfl)) dX2_place_64 ⟨Nat.zero_le _, Nat.zero_le _⟩) ?_
        refine lv_istore (pc := 67) (lv' := [(9, .int (f_X2_faultIn r54_1.1 z3 z4)), (7, .long r54_1.1), (6, .int (f_X2_find ((Int64.toInt32 z1) >>> ((8 : Int32) &&& (31 : Int32))) mCnt mSpc mP mS)), (5, .int ((Int64.toInt32 z1) >>> ((8 : Int32) &&& (31 : Int32)))), (0, .ref qM), (1, .long z1), (3, .int z3), (4, .int z4)]) hx hb dX2_place_67 hl (by decide) rfl (fun ls hl => ?_)
        refine lv_iload (pc := 69) hx hb dX2_place_69 (lv_at hl 0 rfl) ?_
        refine qa_joini (J := 98) (ls2 := ls) (rest2 := []) (if (f_X2_faultIn r54_1.1 z3 z4) < (0 : Int32) then (((256 : Int32) * ((Int64.toInt32 (jlushr r54_1.1 (32 : Int32))) &&& (15 : Int32))) + ((Int64.toInt32 z1) &&& (255 : Int32))) else ((-1 : Int32) - (f_X2_faultIn r54_1.1 z3 z4))) (fun hj98 => ?_) ?_
        · refine lv_if_lt (pc := 71) (tgt := 82) hx hb dX2_place_71 (by decide) (fun h71_4 => ?_) (fun h71_4 => ?_)
          · refine lv_sipush (pc := 82) (v := (256 : Int32)) hx hb dX2_place_82 (by decide) ?_
            refine lv_lload (pc := 85) hx hb dX2_place_85 (lv_at hl 1 rfl) ?_
            refine qa_calld (pc := 87) (v := .int ((Int64.toInt32 (jlushr r54_1.1 (32 : Int32))) &&& (15 : Int32))) (va_runS (As := [.long r54_1.1]) (rest := [.int (256 : Int32)]) ⟨hx, hb, hml, hown, hts⟩ (c_X2_numberOf l r54_1.1) (va_cwS 1 hts (gd_S gm_189 gm_187 gm_188 gm_2) rfl rfl rfl (by decide +kernel) ⟨Nat.le_of_ble_eq_true rfl, Nat.le_of_ble_eq_true rfl⟩) qa_S0 rfl rfl hl.1 rfl (lv_room (Nat.le_of_ble_eq_true rfl)) dX2_place_87 ⟨Nat.zero_le _, Nat.zero_le _⟩) ?_
            refine lv_imul (pc := 90) hx hb dX2_place_90 ?_
            refine lv_lload_n (pc := 91) hx hb dX2_place_91 rfl (lv_at hl 5 rfl) ?_
            refine lv_l2i (pc := 92) (v := (Int64.toInt32 z1)) hx hb dX2_place_92 rfl ?_
            refine lv_sipush (pc := 93) (v := (255 : Int32)) hx hb dX2_place_93 (by decide) ?_
            refine lv_iand (pc := 96) hx hb dX2_place_96 ?_
            refine lv_iadd (pc := 97) hx hb dX2_place_97 ?_
            exact hj98 _ (Eq.symm (if_pos h71_4))
          · refine lv_iload (pc := 74) hx hb dX2_place_74 (lv_at hl 0 rfl) ?_
            refine qa_calld (pc := 76) (v := .int ((-1 : Int32) - (f_X2_faultIn r54_1.1 z3 z4))) (va_runS (As := [.int (f_X2_faultIn r54_1.1 z3 z4)]) (rest := []) ⟨hx, hb, hml, hown, hts⟩ (c_X2_faulted l (f_X2_faultIn r54_1.1 z3 z4)) (va_cwS 1 hts (gd_S gm_179 gm_177 gm_178 gm_2) rfl rfl rfl (by decide +kernel) ⟨Nat.le_of_ble_eq_true rfl, Nat.le_of_ble_eq_true rfl⟩) qa_S0 rfl rfl hl.1 rfl (lv_room (Nat.le_of_ble_eq_true rfl)) dX2_place_76 ⟨Nat.zero_le _, Nat.zero_le _⟩) ?_
            refine lv_goto (pc := 79) (tgt := 98) hx hb dX2_place_79 (by decide) ?_
            exact hj98 _ (Eq.symm (if_neg h71_4))
        subst hu
        exact W.iret hx hb hr (fun t ht hW => ⟨rfl, by rw [ht]; exact hP, hS.F ht⟩) hS.2.2 dX2_place_98
      · have hu := hu.trans (if_neg h38_3)
        refine lv_aload_n (pc := 41) hx hb dX2_place_41 rfl (lv_at hl 2 rfl) ?_
        refine va_get (D := (dC, dI)) (pc := 42) (ci := 2) (v := .ref qMd) (C := "LongMachine$Memory") (T := TX2) (N := 8) hx hb hts ui_X2 hown hK hP 0 rfl rfl 3 (by decide) (hts _ gm_24) (fun _ h9 => h9) rfl dX2_place_42 ?_
        refine lv_iload (pc := 45) hx hb dX2_place_45 (lv_at hl 0 rfl) ?_
        refine qa_lald (pc := 47) (k := (Int32.toNatClampNeg (f_X2_find ((Int64.toInt32 z1) >>> ((8 : Int32) &&& (31 : Int32))) mCnt mSpc mP mS))) hx hb hK hP 4 1 rfl rfl rfl (rgf_find hc4 h38_3) dX2_place_47 ?_
        refine lv_goto (pc := 48) (tgt := 57) hx hb dX2_place_48 (by decide) ?_
        refine lv_lstore (pc := 57) (lv' := [(7, .long (mD (Int32.toNatClampNeg (f_X2_find ((Int64.toInt32 z1) >>> ((8 : Int32) &&& (31 : Int32))) mCnt mSpc mP mS)))), (6, .int (f_X2_find ((Int64.toInt32 z1) >>> ((8 : Int32) &&& (31 : Int32))) mCnt mSpc mP mS)), (5, .int ((Int64.toInt32 z1) >>> ((8 : Int32) &&& (31 : Int32)))), (0, .ref qM), (1, .long z1), (3, .int z3), (4, .int z4)]) hx hb dX2_place_57 hl (by decide) rfl (fun ls hl => ?_)
        refine lv_lload (pc := 59) hx hb dX2_place_59 (lv_at hl 0 rfl) ?_
        refine lv_iload_n (pc := 61) hx hb dX2_place_61 rfl (lv_at hl 5 rfl) ?_
        refine lv_iload (pc := 62) hx hb dX2_place_62 (lv_at hl 6 rfl) ?_
        refine qa_calld (pc := 64) (v := .int (f_X2_faultIn (mD (Int32.toNatClampNeg (f_X2_find ((Int64.toInt32 z1) >>> ((8 : Int32) &&& (31 : Int32))) mCnt mSpc mP mS))) z3 z4)) (va_runS (As := [.long (mD (Int32.toNatClampNeg (f_X2_find ((Int64.toInt32 z1) >>> ((8 : Int32) &&& (31 : Int32))) mCnt mSpc mP mS))), .int z3, .int z4]) (rest := []) ⟨hx, hb, hml, hown, hts⟩ (c_X2_faultIn l (mD (Int32.toNatClampNeg (f_X2_find ((Int64.toInt32 z1) >>> ((8 : Int32) &&& (31 : Int32))) mCnt mSpc mP mS))) z3 z4) (va_cwS 3 hts (gd_S gm_195 gm_193 gm_194 gm_2) rfl rfl rfl (by decide +kernel) ⟨Nat.le_of_ble_eq_true rfl, Nat.le_of_ble_eq_true rfl⟩) qa_S0 rfl rfl hl.1 rfl (lv_room (Nat.le_of_ble_eq_true rfl)) dX2_place_64 ⟨Nat.zero_le _, Nat.zero_le _⟩) ?_
        refine lv_istore (pc := 67) (lv' := [(9, .int (f_X2_faultIn (mD (Int32.toNatClampNeg (f_X2_find ((Int64.toInt32 z1) >>> ((8 : Int32) &&& (31 : Int32))) mCnt mSpc mP mS))) z3 z4)), (7, .long (mD (Int32.toNatClampNeg (f_X2_find ((Int64.toInt32 z1) >>> ((8 : Int32) &&& (31 : Int32))) mCnt mSpc mP mS)))), (6, .int (f_X2_find ((Int64.toInt32 z1) >>> ((8 : Int32) &&& (31 : Int32))) mCnt mSpc mP mS)), (5, .int ((Int64.toInt32 z1) >>> ((8 : Int32) &&& (31 : Int32)))), (0, .ref qM), (1, .long z1), (3, .int z3), (4, .int z4)]) hx hb dX2_place_67 hl (by decide) rfl (fun ls hl => ?_)
        refine lv_iload (pc := 69) hx hb dX2_place_69 (lv_at hl 0 rfl) ?_
        refine qa_joini (J := 98) (ls2 := ls) (rest2 := []) (if (f_X2_faultIn (mD (Int32.toNatClampNeg (f_X2_find ((Int64.toInt32 z1) >>> ((8 : Int32) &&& (31 : Int32))) mCnt mSpc mP mS))) z3 z4) < (0 : Int32) then (((256 : Int32) * ((Int64.toInt32 (jlushr (mD (Int32.toNatClampNeg (f_X2_find ((Int64.toInt32 z1) >>> ((8 : Int32) &&& (31 : Int32))) mCnt mSpc mP mS))) (32 : Int32))) &&& (15 : Int32))) + ((Int64.toInt32 z1) &&& (255 : Int32))) else ((-1 : Int32) - (f_X2_faultIn (mD (Int32.toNatClampNeg (f_X2_find ((Int64.toInt32 z1) >>> ((8 : Int32) &&& (31 : Int32))) mCnt mSpc mP mS))) z3 z4))) (fun hj98 => ?_) ?_
        · refine lv_if_lt (pc := 71) (tgt := 82) hx hb dX2_place_71 (by decide) (fun h71_5 => ?_) (fun h71_5 => ?_)
          · refine lv_sipush (pc := 82) (v := (256 : Int32)) hx hb dX2_place_82 (by decide) ?_
            refine lv_lload (pc := 85) hx hb dX2_place_85 (lv_at hl 1 rfl) ?_
            refine qa_calld (pc := 87) (v := .int ((Int64.toInt32 (jlushr (mD (Int32.toNatClampNeg (f_X2_find ((Int64.toInt32 z1) >>> ((8 : Int32) &&& (31 : Int32))) mCnt mSpc mP mS))) (32 : Int32))) &&& (15 : Int32))) (va_runS (As := [.long (mD (Int32.toNatClampNeg (f_X2_find ((Int64.toInt32 z1) >>> ((8 : Int32) &&& (31 : Int32))) mCnt mSpc mP mS)))]) (rest := [.int (256 : Int32)]) ⟨hx, hb, hml, hown, hts⟩ (c_X2_numberOf l (mD (Int32.toNatClampNeg (f_X2_find ((Int64.toInt32 z1) >>> ((8 : Int32) &&& (31 : Int32))) mCnt mSpc mP mS)))) (va_cwS 1 hts (gd_S gm_189 gm_187 gm_188 gm_2) rfl rfl rfl (by decide +kernel) ⟨Nat.le_of_ble_eq_true rfl, Nat.le_of_ble_eq_true rfl⟩) qa_S0 rfl rfl hl.1 rfl (lv_room (Nat.le_of_ble_eq_true rfl)) dX2_place_87 ⟨Nat.zero_le _, Nat.zero_le _⟩) ?_
            refine lv_imul (pc := 90) hx hb dX2_place_90 ?_
            refine lv_lload_n (pc := 91) hx hb dX2_place_91 rfl (lv_at hl 5 rfl) ?_
            refine lv_l2i (pc := 92) (v := (Int64.toInt32 z1)) hx hb dX2_place_92 rfl ?_
            refine lv_sipush (pc := 93) (v := (255 : Int32)) hx hb dX2_place_93 (by decide) ?_
            refine lv_iand (pc := 96) hx hb dX2_place_96 ?_
            refine lv_iadd (pc := 97) hx hb dX2_place_97 ?_
            exact hj98 _ (Eq.symm (if_pos h71_5))
          · refine lv_iload (pc := 74) hx hb dX2_place_74 (lv_at hl 0 rfl) ?_
            refine qa_calld (pc := 76) (v := .int ((-1 : Int32) - (f_X2_faultIn (mD (Int32.toNatClampNeg (f_X2_find ((Int64.toInt32 z1) >>> ((8 : Int32) &&& (31 : Int32))) mCnt mSpc mP mS))) z3 z4))) (va_runS (As := [.int (f_X2_faultIn (mD (Int32.toNatClampNeg (f_X2_find ((Int64.toInt32 z1) >>> ((8 : Int32) &&& (31 : Int32))) mCnt mSpc mP mS))) z3 z4)]) (rest := []) ⟨hx, hb, hml, hown, hts⟩ (c_X2_faulted l (f_X2_faultIn (mD (Int32.toNatClampNeg (f_X2_find ((Int64.toInt32 z1) >>> ((8 : Int32) &&& (31 : Int32))) mCnt mSpc mP mS))) z3 z4)) (va_cwS 1 hts (gd_S gm_179 gm_177 gm_178 gm_2) rfl rfl rfl (by decide +kernel) ⟨Nat.le_of_ble_eq_true rfl, Nat.le_of_ble_eq_true rfl⟩) qa_S0 rfl rfl hl.1 rfl (lv_room (Nat.le_of_ble_eq_true rfl)) dX2_place_76 ⟨Nat.zero_le _, Nat.zero_le _⟩) ?_
            refine lv_goto (pc := 79) (tgt := 98) hx hb dX2_place_79 (by decide) ?_
            exact hj98 _ (Eq.symm (if_neg h71_5))
        subst hu
        exact W.iret hx hb hr (fun t ht hW => ⟨rfl, by rw [ht]; exact hP, hS.F ht⟩) hS.2.2 dX2_place_98
    · have hu := hu.trans (if_neg h10_2)
      refine lv_lload_n (pc := 14) hx hb dX2_place_14 rfl (lv_at hl 1 rfl) ?_
      refine lv_iload (pc := 15) hx hb dX2_place_15 (lv_at hl 3 rfl) ?_
      refine qa_calld (pc := 17) (v := .int (if (if z1 < (32768 : Int64) then (0 : Int32) else (if (36864 : Int64) ≤ z1 then (0 : Int32) else (1 : Int32))) = (0 : Int32) then ((-1 : Int32) - (1 : Int32)) else (if z4 = (0 : Int32) then ((Int64.toInt32 z1) - (32768 : Int32)) else ((-1 : Int32) - (1 : Int32))))) (va_runS (As := [.long z1, .int z4]) (rest := []) ⟨hx, hb, hml, hown, hts⟩ (c_X2_directPlace l z1 z4) (va_cwS 2 hts (gd_S gm_173 gm_171 gm_172 gm_2) rfl rfl rfl (by decide +kernel) ⟨Nat.le_of_ble_eq_true rfl, Nat.le_of_ble_eq_true rfl⟩) qa_S0 rfl rfl hl.1 rfl (lv_room (Nat.le_of_ble_eq_true rfl)) dX2_place_17 ⟨Nat.zero_le _, Nat.zero_le _⟩) ?_
      subst hu
      exact W.iret hx hb hr (fun t ht hW => ⟨rfl, by rw [ht]; exact hP, hS.F ht⟩) hS.2.2 dX2_place_20
