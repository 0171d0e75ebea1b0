/-! Memory: what the class's store makes of a word. -/
def xst (w : Int64) (a : Int32) (whole : Int32) (v : Int64) : Int64 := ((w &&& ((if whole = (0 : Int32) then (jlshl (4294967295 : Int64) ((8 : Int32) * (a &&& (4 : Int32)))) else (-1 : Int64)) ^^^ (-1 : Int64))) ||| ((if whole = (0 : Int32) then (jlshl v ((8 : Int32) * (a &&& (4 : Int32)))) else v) &&& (if whole = (0 : Int32) then (jlshl (4294967295 : Int64) ((8 : Int32) * (a &&& (4 : Int32)))) else (-1 : Int64))))
theorem mg_1 (w : Int64) (a : Int32) {whole : Int32} (hw : ¬ whole = (0 : Int32)) (v : Int64) : xst w a whole v = v := by
  unfold xst
  rw [if_neg hw, if_neg hw, show ((-1 : Int64) ^^^ (-1 : Int64)) = 0 by decide, Int64.and_zero, Int64.zero_or, Int64.and_neg_one]
theorem mg_h0 {N V : Nat} (hN : N < 2 ^ 64) (hV : V < 2 ^ 64) {a : Int32} (ha : a &&& (4 : Int32) = nI 0) : xst (lN N) a (0 : Int32) (lN V) = lN (N / 4294967296 * 4294967296 + V % 4294967296) := by
  unfold xst
  rw [if_pos rfl, if_pos rfl, ha, show jlshl (4294967295 : Int64) ((8 : Int32) * nI 0) = lN 4294967295 by decide, show lN 4294967295 ^^^ (-1 : Int64) = lN 18446744069414584320 by decide]
  have e : jlshl (lN V) ((8 : Int32) * nI 0) = lN (V * 2 ^ 0) := wb_shl V (k := 0) (by decide)
  rw [e, Nat.pow_zero, Nat.mul_one, wb_and hN (by decide), wb_and hV (by decide), mf_hi N hN, mf_lo]
  exact g_or (k := 32) (p := 4294967296) rfl (Nat.mod_lt _ (by decide)) (by omega)
theorem mg_h4 {N V : Nat} (hN : N < 2 ^ 64) {a : Int32} (ha : a &&& (4 : Int32) = nI 4) : xst (lN N) a (0 : Int32) (lN V) = lN (V % 4294967296 * 4294967296 + N % 4294967296) := by
  unfold xst
  rw [if_pos rfl, if_pos rfl, ha, show jlshl (4294967295 : Int64) ((8 : Int32) * nI 4) = lN 18446744069414584320 by decide, show lN 18446744069414584320 ^^^ (-1 : Int64) = lN 4294967295 by decide]
  have e : jlshl (lN V) ((8 : Int32) * nI 4) = lN (V * 2 ^ 32) := wb_shl V (k := 32) (by decide)
  rw [e, wb_mod (V * 2 ^ 32), wb_and hN (by decide), wb_and (Nat.mod_lt _ (by decide)) (by decide), mf_hi _ (Nat.mod_lt _ (by decide)), mf_lo]
  have e2 : V * 2 ^ 32 % 2 ^ 64 / 4294967296 * 4294967296 = V % 4294967296 * 4294967296 := by omega
  rw [e2, Nat.add_comm]
  exact g_or' (k := 32) (p := 4294967296) rfl (Nat.mod_lt _ (by decide)) (by omega)
theorem mg_b0 {N V k : Nat} (hN : N < 2 ^ 64) (hV : V < 2 ^ 64) (hk : k < 8) : byt (lN (N / 4294967296 * 4294967296 + V % 4294967296)) k = if k < 4 then byt (lN V) k else byt (lN N) k := by
  unfold byt
  rw [wb_tn (by omega), wb_tn hN, wb_tn hV]
  rcases (show k = 0 ∨ k = 1 ∨ k = 2 ∨ k = 3 ∨ k = 4 ∨ k = 5 ∨ k = 6 ∨ k = 7 by omega) with rfl | rfl | rfl | rfl | rfl | rfl | rfl | rfl <;> simp only [Nat.reduceMul, Nat.reducePow, Nat.reduceLT, if_true, if_false] <;> (congr 1; omega)
theorem mg_b4 {N V k : Nat} (hN : N < 2 ^ 64) (hV : V < 2 ^ 64) (hk : k < 8) : byt (lN (V % 4294967296 * 4294967296 + N % 4294967296)) k = if 4 ≤ k then byt (lN V) (k - 4) else byt (lN N) k := by
  unfold byt
  rw [wb_tn (by omega), wb_tn hN, wb_tn hV]
  rcases (show k = 0 ∨ k = 1 ∨ k = 2 ∨ k = 3 ∨ k = 4 ∨ k = 5 ∨ k = 6 ∨ k = 7 by omega) with rfl | rfl | rfl | rfl | rfl | rfl | rfl | rfl <;> simp only [Nat.reduceMul, Nat.reducePow, Nat.reduceLeDiff, Nat.reduceSub, if_true, if_false] <;> (congr 1; omega)
theorem mg_sh3 {a : Int32} (h0 : 0 ≤ a.toInt) : (a >>> ((3 : Int32) &&& (31 : Int32))).toNatClampNeg = a.toNatClampNeg / 8 := by
  have h := rg_sh3v (x := a)
  show (a >>> ((3 : Int32) &&& (31 : Int32))).toInt.toNat = a.toInt.toNat / 8
  omega
theorem mg_s4 {mW : Nat → Int64} {yMem : Nat → Int32} (hm : RM mW yMem) {a : Int32} (h0 : 0 ≤ a.toInt) (h1 : a.toInt + 4 ≤ 4096) (h4 : a.toInt % 4 = 0) (v : Int64) : RM (vp_updL mW (a.toNatClampNeg / 8) (xst (mW (a.toNatClampNeg / 8)) a (0 : Int32) v)) (f_Y_store a (4 : Int32) v yMem) := by
  intro i hi
  have hA : a.toInt = (a.toNatClampNeg : Int) := by
    show a.toInt = (a.toInt.toNat : Int)
    omega
  obtain ⟨N, hN, eN⟩ := wb_of (mW (a.toNatClampNeg / 8))
  obtain ⟨V, hV, eV⟩ := wb_of v
  have hs : a.toNatClampNeg % 8 = 0 ∨ a.toNatClampNeg % 8 = 4 := by omega
  have hq : a.toInt = ((8 * (a.toNatClampNeg / 8) + a.toNatClampNeg % 8 : Nat) : Int) := by omega
  have h4a := mf_and4 h0 hs hq
  rw [mf_store (z := (4 : Int32)) v (Z := 4) rfl (by omega) hA (by omega)]
  by_cases hw : i / 8 = a.toNatClampNeg / 8
  · rw [hw, pk_uLs, eN, eV]
    have hmi := hm i hi
    rw [hw, eN] at hmi
    rcases hs with e | e
    · rw [e] at h4a
      rw [mg_h0 hN hV h4a, mg_b0 hN hV (by omega)]
      by_cases h : a.toNatClampNeg ≤ i ∧ i < a.toNatClampNeg + 4
      · rw [if_pos h, if_pos (by omega)]
        congr 1
        omega
      · rw [if_neg h, if_neg (by omega), hmi]
    · rw [e] at h4a
      rw [mg_h4 hN h4a, mg_b4 hN hV (by omega)]
      by_cases h : a.toNatClampNeg ≤ i ∧ i < a.toNatClampNeg + 4
      · rw [if_pos h, if_pos (by omega)]
        congr 1
        omega
      · rw [if_neg h, if_neg (by omega), hmi]
  · rw [if_neg (by omega), hm i hi, pk_uLn hw]
/-- the address that set and word take: the same for both -/
theorem mg_pl {z : Int32} : ((if z < (0 : Int32) then (0 : Int32) else (if (4096 : Int32) ≤ z then (0 : Int32) else (if (z &&& (7 : Int32)) = (0 : Int32) then (1 : Int32) else (0 : Int32)))) = (0 : Int32)) ↔ ((if z < (0 : Int32) then (0 : Int32) else (if (4088 : Int32) < z then (0 : Int32) else (if (z - z / (8 : Int32) * (8 : Int32)) = (0 : Int32) then (1 : Int32) else (0 : Int32)))) = (0 : Int32)) := by
  by_cases h1 : z < (0 : Int32)
  · rw [if_pos h1, if_pos h1]
  · rw [if_neg h1, if_neg h1]
    have g0 := rg_nn h1
    have e7 : (z &&& (7 : Int32)).toInt = z.toInt % 8 := Jvm.Kit.i32_mask z 7 (k := 3) (by decide) (by decide)
    have e0 : (0 : Int32).toInt = 0 := by decide
    have e8 : (8 : Int32).toInt = 8 := by decide
    have e4096 : (4096 : Int32).toInt = 4096 := by decide
    have e4088 : (4088 : Int32).toInt = 4088 := by decide
    have er : (z - z / (8 : Int32) * (8 : Int32)).toInt = z.toInt % 8 := by
      obtain ⟨j, hj, rfl⟩ := nI_of h1
      have h := pk_rem (a := j) (d := 8) hj (by decide) (by decide)
      have h2 : nI j - nI j / (8 : Int32) * (8 : Int32) = nI (j % 8) := h
      rw [h2, nI_toInt (by omega), nI_toInt hj]
      omega
    have iffX : (z &&& (7 : Int32)) = (0 : Int32) ↔ z.toInt % 8 = 0 := by
      rw [← Int32.toInt_inj, e7, e0]
    have iffY : (z - z / (8 : Int32) * (8 : Int32)) = (0 : Int32) ↔ z.toInt % 8 = 0 := by
      rw [← Int32.toInt_inj, er, e0]
    have n1 : ¬ (1 : Int32) = (0 : Int32) := by decide
    by_cases h8 : z.toInt % 8 = 0
    · rw [if_pos (iffX.mpr h8), if_pos (iffY.mpr h8)]
      by_cases hl : (4096 : Int32) ≤ z
      · have hl2 : (4088 : Int32) < z := by
          rw [Int32.lt_iff_toInt_lt]
          rw [Int32.le_iff_toInt_le] at hl
          omega
        rw [if_pos hl, if_pos hl2]
      · have hl2 : ¬ (4088 : Int32) < z := by
          rw [Int32.lt_iff_toInt_lt]
          rw [Int32.le_iff_toInt_le] at hl
          omega
        rw [if_neg hl, if_neg hl2]
    · rw [if_neg (fun q => h8 (iffX.mp q)), if_neg (fun q => h8 (iffY.mp q)), ite_self, ite_self]
theorem mg_al {z : Int32} (h : ¬ (if z < (0 : Int32) then (0 : Int32) else (if (4096 : Int32) ≤ z then (0 : Int32) else (if (z &&& (7 : Int32)) = (0 : Int32) then (1 : Int32) else (0 : Int32)))) = (0 : Int32)) : 0 ≤ z.toInt ∧ z.toInt + 8 ≤ 4096 ∧ z.toInt % 8 = 0 := by
  by_cases h1 : z < (0 : Int32)
  · rw [if_pos h1] at h
    exact absurd rfl h
  · rw [if_neg h1] at h
    by_cases h2 : (4096 : Int32) ≤ z
    · rw [if_pos h2] at h
      exact absurd rfl h
    · rw [if_neg h2] at h
      by_cases h3 : (z &&& (7 : Int32)) = (0 : Int32)
      · have e7 : (z &&& (7 : Int32)).toInt = z.toInt % 8 := Jvm.Kit.i32_mask z 7 (k := 3) (by decide) (by decide)
        rw [h3] at e7
        have e0 : (0 : Int32).toInt = 0 := by decide
        have e4096 : (4096 : Int32).toInt = 4096 := by decide
        have g1 := rg_nn h1
        have g2 := rg_lt h2
        exact ⟨g1, by omega, by omega⟩
      · rw [if_neg h3] at h
        exact absurd rfl h
theorem mg_set {mW : Nat → Int64} {yMem : Nat → Int32} (hm : RM mW yMem) (z1 : Int32) (z2 : Int64) : (f_X4_set z1 z2 mW).1 = (f_Y_set z1 z2 yMem).1 ∧ RM (f_X4_set z1 z2 mW).2 (f_Y_set z1 z2 yMem).2 := by
  unfold f_X4_set f_Y_set f_Y_set_K14_1
  by_cases h : (if z1 < (0 : Int32) then (0 : Int32) else (if (4096 : Int32) ≤ z1 then (0 : Int32) else (if (z1 &&& (7 : Int32)) = (0 : Int32) then (1 : Int32) else (0 : Int32)))) = (0 : Int32)
  · rw [if_pos h, if_pos (mg_pl.mp h)]
    exact ⟨rfl, hm⟩
  · rw [if_neg h, if_neg (fun q => h (mg_pl.mpr q))]
    obtain ⟨g0, g1, g2⟩ := mg_al h
    refine ⟨rfl, ?_⟩
    show RM (vp_updL mW (Int32.toNatClampNeg (z1 >>> ((3 : Int32) &&& (31 : Int32)))) z2) (f_Y_store z1 (8 : Int32) z2 yMem)
    rw [mg_sh3 g0]
    exact mf_s8 hm g0 g1 g2 z2
