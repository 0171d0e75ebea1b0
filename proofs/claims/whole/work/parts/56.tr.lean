/-! The buffer kept alike; the walk of the tables. -/
theorem bu_rem {x : Int32} (h0 : 0 ≤ x.toInt) (h4 : x.toInt < 4) : ((x + (1 : Int32)) - (x + (1 : Int32)) / (4 : Int32) * (4 : Int32)).toNatClampNeg = (x.toNatClampNeg + 1) % 4 := by
  have h3 : x.toInt = 0 ∨ x.toInt = 1 ∨ x.toInt = 2 ∨ x.toInt = 3 := by omega
  rcases h3 with h3 | h3 | h3 | h3
  · have e : x = 0 := Int32.toInt_inj.mp (by rw [h3]; decide)
    subst e
    decide
  · have e : x = 1 := Int32.toInt_inj.mp (by rw [h3]; decide)
    subst e
    decide
  · have e : x = 2 := Int32.toInt_inj.mp (by rw [h3]; decide)
    subst e
    decide
  · have e : x = 3 := Int32.toInt_inj.mp (by rw [h3]; decide)
    subst e
    decide
theorem bu_keep {z : Int32} {d : Int64} {mOld mCnt s : Int32} {mP mS : Nat → Int32} {mD : Nat → Int64} {yBP yBS : Nat → Int32} {yBW : Nat → Int64} (hM : okM mOld mCnt) (hb : RB mOld mCnt mP mS mD yBP yBS yBW) (hn : ∀ i : Nat, (i : Int) < mCnt.toInt → ¬ (mP i = z ∧ mS i = s)) :
    (f_Y_keep z d s mCnt yBP yBS yBW).1 = (f_X2_keep z d mOld mCnt s mP mS mD).2.1 ∧ RB (f_X2_keep z d mOld mCnt s mP mS mD).1 (f_X2_keep z d mOld mCnt s mP mS mD).2.1 (f_X2_keep z d mOld mCnt s mP mS mD).2.2.1 (f_X2_keep z d mOld mCnt s mP mS mD).2.2.2.1 (f_X2_keep z d mOld mCnt s mP mS mD).2.2.2.2 (f_Y_keep z d s mCnt yBP yBS yBW).2.1 (f_Y_keep z d s mCnt yBP yBS yBW).2.2.1 (f_Y_keep z d s mCnt yBP yBS yBW).2.2.2 := by
  obtain ⟨⟨hc0, hc4⟩, ho0, ho4⟩ := hM
  obtain ⟨hb1, hb2, hb3⟩ := hb
  have e4 : (4 : Int32).toInt = 4 := by decide
  unfold f_X2_keep f_Y_keep
  by_cases h4 : mCnt = (4 : Int32)
  · subst h4
    rw [if_pos (show (4 : Int32) ≤ (4 : Int32) by decide), if_pos rfl, bu_k4]
    refine ⟨show ((3 : Int32) + (1 : Int32)) = (4 : Int32) by decide, ?_⟩
    show RB ((mOld + (1 : Int32)) - (mOld + (1 : Int32)) / (4 : Int32) * (4 : Int32)) 4 (upd mP (Int32.toNatClampNeg mOld) z) (upd mS (Int32.toNatClampNeg mOld) s) (vp_updL mD (Int32.toNatClampNeg mOld) d) _ _ _
    have ho : (mOld.toNatClampNeg : Int) = mOld.toInt := by
      show (mOld.toInt.toNat : Int) = _
      omega
    refine ⟨fun h => absurd h (by decide), fun k hk => ?_, fun i j hi hj g1 g2 => ?_⟩
    · rw [e4] at hk
      have hk4 : k < 4 := by omega
      dsimp only
      rw [bu_rem ho0 ho4, bu_sh _ _ k hk4, bu_sh _ _ k hk4, bu_shL _ _ k hk4]
      by_cases h3 : k = 3
      · rw [if_pos h3, if_pos h3, if_pos h3, show ((mOld.toNatClampNeg + 1) % 4 + k) % 4 = mOld.toNatClampNeg by omega, pk_us, pk_us, pk_uLs]
        exact ⟨rfl, rfl, rfl⟩
      · rw [if_neg h3, if_neg h3, if_neg h3]
        obtain ⟨a1, a2, a3⟩ := hb2 (k + 1) (by omega)
        have hne : ¬ ((mOld.toNatClampNeg + 1) % 4 + k) % 4 = mOld.toNatClampNeg := by omega
        rw [pk_un hne, pk_un hne, pk_uLn hne, show ((mOld.toNatClampNeg + 1) % 4 + k) % 4 = (mOld.toNatClampNeg + (k + 1)) % 4 by omega]
        exact ⟨a1, a2, a3⟩
    · exact bu_uq (c := 4) (fun i j a b => hb3 i j (by omega) (by omega)) (fun i a => hn i (by omega)) i j (Or.inl (by omega)) (Or.inl (by omega)) g1 g2
  · have hne : ¬ mCnt.toInt = 4 := fun q => h4 (Int32.toInt_inj.mp (by rw [q]; decide))
    have hlt : ¬ (4 : Int32) ≤ mCnt := by
      rw [Int32.le_iff_toInt_le]
      omega
    rw [if_neg hlt, if_neg h4]
    have hold := hb1 (by omega)
    have e1 : (1 : Int32).toInt = 1 := by decide
    have ea : (mCnt + (1 : Int32)).toInt = mCnt.toInt + 1 := by
      rw [rg_add (by rw [e1]; omega) (by rw [e1]; omega), e1]
    have hc : (mCnt.toNatClampNeg : Int) = mCnt.toInt := by
      show (mCnt.toInt.toNat : Int) = _
      omega
    refine ⟨rfl, ?_⟩
    show RB mOld (mCnt + (1 : Int32)) (upd mP (Int32.toNatClampNeg mCnt) z) (upd mS (Int32.toNatClampNeg mCnt) s) (vp_updL mD (Int32.toNatClampNeg mCnt) d) (upd yBP (Int32.toNatClampNeg mCnt) z) (upd yBS (Int32.toNatClampNeg mCnt) s) (vp_updL yBW (Int32.toNatClampNeg mCnt) d)
    have h00 : (0 : Int32).toNatClampNeg = 0 := by decide
    rw [hold, h00] at hb2
    refine ⟨fun _ => hold, fun k hk => ?_, fun i j hi hj g1 g2 => ?_⟩
    · rw [hold, h00]
      by_cases hk2 : k = mCnt.toNatClampNeg
      · rw [show (0 + k) % 4 = mCnt.toNatClampNeg by omega, hk2, pk_us, pk_us, pk_us, pk_us, pk_uLs, pk_uLs]
        exact ⟨rfl, rfl, rfl⟩
      · obtain ⟨a1, a2, a3⟩ := hb2 k (by omega)
        have hne2 : ¬ (0 + k) % 4 = mCnt.toNatClampNeg := by omega
        rw [pk_un hk2, pk_un hk2, pk_uLn hk2, pk_un hne2, pk_un hne2, pk_uLn hne2]
        exact ⟨a1, a2, a3⟩
    · exact bu_uq (c := mCnt.toNatClampNeg) (fun i j a b => hb3 i j (by omega) (by omega)) (fun i a => hn i (by omega)) i j (by omega) (by omega) g1 g2
theorem tr_num (d : Int64) : Int64.toInt32 ((jlshr d (32 : Int32)) &&& (15 : Int64)) = (Int64.toInt32 (jlushr d (32 : Int32))) &&& (15 : Int32) := by
  obtain ⟨N, hN, e⟩ := wb_of d
  have ht := mf_toInt d hN e
  have hr : jlushr (lN N) (32 : Int32) = lN (N / 2 ^ 32) := wb_shr (k := 32) hN (by decide)
  have hl : (jlshr d (32 : Int32)).toInt = d.toInt / 2 ^ 32 := Jvm.Kit.i64_shr d _ (k := 32) (by decide)
  have h2 : ((jlshr d (32 : Int32)) &&& (15 : Int64)).toInt = (jlshr d (32 : Int32)).toInt % 16 := Jvm.Kit.i64_mask _ 15 (k := 4) (by decide) (by decide)
  have h3 : (Int64.toInt32 ((jlshr d (32 : Int32)) &&& (15 : Int64))).toInt = ((jlshr d (32 : Int32)) &&& (15 : Int64)).toInt := Jvm.Kit.i32_of_i64 (by omega) (by omega)
  rw [show jlushr d (32 : Int32) = lN (N / 2 ^ 32) by rw [e, hr], lN_i]
  have h4 : nI (N / 2 ^ 32) &&& (15 : Int32) = nI (N / 2 ^ 32 % 2 ^ 4) := pk_andN (by omega) 4 (by decide)
  rw [h4]
  apply Int32.toInt_inj.mp
  rw [h3, h2, hl, nI_toInt (by omega)]
  rcases ht with h | h <;> rw [h] <;> omega
/-- a word of a table: where the class looks, where the reference does -/
theorem tr_w1 {t : Int32} (h0 : 0 ≤ t.toInt) (h1 : t.toInt ≤ 4064) (h8 : t.toInt % 8 = 0) (x : Int32) : 0 ≤ (t + ((8 : Int32) * (x &&& (3 : Int32)))).toInt ∧ (t + ((8 : Int32) * (x &&& (3 : Int32)))).toInt + 8 ≤ 4096 ∧ (t + ((8 : Int32) * (x &&& (3 : Int32)))).toInt % 8 = 0 ∧ (t + ((8 : Int32) * (x &&& (3 : Int32)))).toNatClampNeg / 8 = ((t >>> ((3 : Int32) &&& (31 : Int32))) + (x &&& (3 : Int32))).toNatClampNeg := by
  have h := rg_and3 x
  have e8 : (8 : Int32).toInt = 8 := by decide
  have em := rg_mul (x := (8 : Int32)) (y := x &&& (3 : Int32)) (by rw [e8]; omega) (by rw [e8]; omega)
  rw [e8] at em
  have e := rg_add (x := t) (y := (8 : Int32) * (x &&& (3 : Int32))) (by omega) (by omega)
  have hs := rg_sh3v (x := t)
  have e2 := rg_add (x := t >>> ((3 : Int32) &&& (31 : Int32))) (y := x &&& (3 : Int32)) (by omega) (by omega)
  refine ⟨by omega, by omega, by omega, ?_⟩
  show (t + ((8 : Int32) * (x &&& (3 : Int32)))).toInt.toNat / 8 = ((t >>> ((3 : Int32) &&& (31 : Int32))) + (x &&& (3 : Int32))).toInt.toNat
  omega
theorem tr_w2 (a x : Int32) : 0 ≤ (((256 : Int32) * (a &&& (15 : Int32))) + ((8 : Int32) * (x &&& (3 : Int32)))).toInt ∧ (((256 : Int32) * (a &&& (15 : Int32))) + ((8 : Int32) * (x &&& (3 : Int32)))).toInt + 8 ≤ 4096 ∧ (((256 : Int32) * (a &&& (15 : Int32))) + ((8 : Int32) * (x &&& (3 : Int32)))).toInt % 8 = 0 ∧ (((256 : Int32) * (a &&& (15 : Int32))) + ((8 : Int32) * (x &&& (3 : Int32)))).toNatClampNeg / 8 = (((32 : Int32) * (a &&& (15 : Int32))) + (x &&& (3 : Int32))).toNatClampNeg := by
  have h := rg_and3 x
  have ha := rg_and15 a
  have e8 : (8 : Int32).toInt = 8 := by decide
  have e32 : (32 : Int32).toInt = 32 := by decide
  have e256 : (256 : Int32).toInt = 256 := by decide
  have em := rg_mul (x := (8 : Int32)) (y := x &&& (3 : Int32)) (by rw [e8]; omega) (by rw [e8]; omega)
  rw [e8] at em
  have en := rg_mul (x := (256 : Int32)) (y := a &&& (15 : Int32)) (by rw [e256]; omega) (by rw [e256]; omega)
  rw [e256] at en
  have ep := rg_mul (x := (32 : Int32)) (y := a &&& (15 : Int32)) (by rw [e32]; omega) (by rw [e32]; omega)
  rw [e32] at ep
  have e := rg_add (x := (256 : Int32) * (a &&& (15 : Int32))) (y := (8 : Int32) * (x &&& (3 : Int32))) (by omega) (by omega)
  have e2 := rg_add (x := (32 : Int32) * (a &&& (15 : Int32))) (y := x &&& (3 : Int32)) (by omega) (by omega)
  refine ⟨by omega, by omega, by omega, ?_⟩
  show (((256 : Int32) * (a &&& (15 : Int32))) + ((8 : Int32) * (x &&& (3 : Int32)))).toInt.toNat / 8 = (((32 : Int32) * (a &&& (15 : Int32))) + (x &&& (3 : Int32))).toInt.toNat
  omega
