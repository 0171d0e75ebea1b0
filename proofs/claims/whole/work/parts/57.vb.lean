/-! Bits of descriptors. -/
theorem vb_ti {M : Nat} (h : M < 4294967296) : (nI M).toInt = (M : Int) ∨ (nI M).toInt = (M : Int) - 4294967296 := by
  have e := BitVec.toInt_eq_toNat_cond (nI M).toBitVec
  rw [pk_tn h] at e
  have e2 : (nI M).toInt = (nI M).toBitVec.toInt := rfl
  rw [e2, e]
  split
  · exact Or.inl rfl
  · exact Or.inr rfl
theorem vb_i {d : Int64} {N : Nat} (e : d = lN N) : Int64.toInt32 d = nI (N % 4294967296) := by
  rw [e, lN_i, mf_mod32]
theorem vb_and (a b : Nat) : nI a &&& nI b = nI (a &&& b) := by
  apply Int32.toBitVec_inj.mp
  show BitVec.ofNat 32 a &&& BitVec.ofNat 32 b = BitVec.ofNat 32 (a &&& b)
  exact (BitVec.ofNat_and (x := a) (y := b)).symm
theorem vb_z {n : Nat} (h : n < 2147483648) : nI n = (0 : Int32) ↔ n = 0 := by
  constructor
  · intro q
    have e := nI_toInt (n := n) (by omega)
    rw [q] at e
    have e0 : (0 : Int32).toInt = 0 := by decide
    omega
  · intro q
    rw [q]
    rfl
theorem vb_lz {n : Nat} (h : n < 2) : lN n = (0 : Int64) ↔ n = 0 := by
  rcases (show n = 0 ∨ n = 1 by omega) with rfl | rfl
  · exact ⟨fun _ => rfl, fun _ => rfl⟩
  · exact ⟨fun q => absurd q (by decide), fun q => absurd q (by decide)⟩
theorem vb_y0 {d : Int64} {N : Nat} (hN : N < 2 ^ 64) (e : d = lN N) : (d &&& (1 : Int64)) = (0 : Int64) ↔ N % 2 = 0 := by
  rw [e, wb_a1 hN, vb_lz (by omega)]
theorem vb_x4 {d : Int64} {N : Nat} (e : d = lN N) : (((Int64.toInt32 d) >>> ((4 : Int32) &&& (31 : Int32))) &&& (1 : Int32)) = (0 : Int32) ↔ N / 16 % 2 = 0 := by
  have h1 := rg_shr (Int64.toInt32 d) ((4 : Int32) &&& (31 : Int32)) 4 (by decide)
  have h2 : (((Int64.toInt32 d) >>> ((4 : Int32) &&& (31 : Int32))) &&& (1 : Int32)).toInt = ((Int64.toInt32 d) >>> ((4 : Int32) &&& (31 : Int32))).toInt % 2 := Jvm.Kit.i32_mask _ 1 (k := 1) (by decide) (by decide)
  have h3 := vb_ti (M := N % 4294967296) (Nat.mod_lt _ (by decide))
  rw [← vb_i e] at h3
  rw [← Int32.toInt_inj, h2, h1, show (0 : Int32).toInt = 0 by decide]
  rcases h3 with h3 | h3 <;> rw [h3] <;> omega
theorem vb_x5 {d : Int64} {N : Nat} (e : d = lN N) : (((Int64.toInt32 d) >>> ((5 : Int32) &&& (31 : Int32))) &&& (1 : Int32)) = (0 : Int32) ↔ N / 32 % 2 = 0 := by
  have h1 := rg_shr (Int64.toInt32 d) ((5 : Int32) &&& (31 : Int32)) 5 (by decide)
  have h2 : (((Int64.toInt32 d) >>> ((5 : Int32) &&& (31 : Int32))) &&& (1 : Int32)).toInt = ((Int64.toInt32 d) >>> ((5 : Int32) &&& (31 : Int32))).toInt % 2 := Jvm.Kit.i32_mask _ 1 (k := 1) (by decide) (by decide)
  have h3 := vb_ti (M := N % 4294967296) (Nat.mod_lt _ (by decide))
  rw [← vb_i e] at h3
  rw [← Int32.toInt_inj, h2, h1, show (0 : Int32).toInt = 0 by decide]
  rcases h3 with h3 | h3 <;> rw [h3] <;> omega
theorem vb_x6 {d : Int64} {N : Nat} (e : d = lN N) : (((Int64.toInt32 d) >>> ((6 : Int32) &&& (31 : Int32))) &&& (1 : Int32)) = (0 : Int32) ↔ N / 64 % 2 = 0 := by
  have h1 := rg_shr (Int64.toInt32 d) ((6 : Int32) &&& (31 : Int32)) 6 (by decide)
  have h2 : (((Int64.toInt32 d) >>> ((6 : Int32) &&& (31 : Int32))) &&& (1 : Int32)).toInt = ((Int64.toInt32 d) >>> ((6 : Int32) &&& (31 : Int32))).toInt % 2 := Jvm.Kit.i32_mask _ 1 (k := 1) (by decide) (by decide)
  have h3 := vb_ti (M := N % 4294967296) (Nat.mod_lt _ (by decide))
  rw [← vb_i e] at h3
  rw [← Int32.toInt_inj, h2, h1, show (0 : Int32).toInt = 0 by decide]
  rcases h3 with h3 | h3 <;> rw [h3] <;> omega
theorem vb_x7 {d : Int64} {N : Nat} (e : d = lN N) : (((Int64.toInt32 d) >>> ((7 : Int32) &&& (31 : Int32))) &&& (1 : Int32)) = (0 : Int32) ↔ N / 128 % 2 = 0 := by
  have h1 := rg_shr (Int64.toInt32 d) ((7 : Int32) &&& (31 : Int32)) 7 (by decide)
  have h2 : (((Int64.toInt32 d) >>> ((7 : Int32) &&& (31 : Int32))) &&& (1 : Int32)).toInt = ((Int64.toInt32 d) >>> ((7 : Int32) &&& (31 : Int32))).toInt % 2 := Jvm.Kit.i32_mask _ 1 (k := 1) (by decide) (by decide)
  have h3 := vb_ti (M := N % 4294967296) (Nat.mod_lt _ (by decide))
  rw [← vb_i e] at h3
  rw [← Int32.toInt_inj, h2, h1, show (0 : Int32).toInt = 0 by decide]
  rcases h3 with h3 | h3 <;> rw [h3] <;> omega
theorem vb_y1 {d : Int64} {N : Nat} (hN : N < 2 ^ 64) (e : d = lN N) : ((jlshr d (1 : Int32)) &&& (1 : Int64)).toInt = ((N / 2 % 2 : Nat) : Int) := by
  have h1 : (jlshr d (1 : Int32)).toInt = d.toInt / 2 ^ 1 := Jvm.Kit.i64_shr d _ (k := 1) (by decide)
  have h2 : ((jlshr d (1 : Int32)) &&& (1 : Int64)).toInt = (jlshr d (1 : Int32)).toInt % 2 := Jvm.Kit.i64_mask _ 1 (k := 1) (by decide) (by decide)
  rw [h2, h1]
  rcases mf_toInt d hN e with h | h <;> rw [h] <;> omega
theorem vb_y2 {d : Int64} {N : Nat} (hN : N < 2 ^ 64) (e : d = lN N) : ((jlshr d (2 : Int32)) &&& (1 : Int64)).toInt = ((N / 4 % 2 : Nat) : Int) := by
  have h1 : (jlshr d (2 : Int32)).toInt = d.toInt / 2 ^ 2 := Jvm.Kit.i64_shr d _ (k := 2) (by decide)
  have h2 : ((jlshr d (2 : Int32)) &&& (1 : Int64)).toInt = (jlshr d (2 : Int32)).toInt % 2 := Jvm.Kit.i64_mask _ 1 (k := 1) (by decide) (by decide)
  rw [h2, h1]
  rcases mf_toInt d hN e with h | h <;> rw [h] <;> omega
theorem vb_y3 {d : Int64} {N : Nat} (hN : N < 2 ^ 64) (e : d = lN N) : ((jlshr d (3 : Int32)) &&& (1 : Int64)).toInt = ((N / 8 % 2 : Nat) : Int) := by
  have h1 : (jlshr d (3 : Int32)).toInt = d.toInt / 2 ^ 3 := Jvm.Kit.i64_shr d _ (k := 3) (by decide)
  have h2 : ((jlshr d (3 : Int32)) &&& (1 : Int64)).toInt = (jlshr d (3 : Int32)).toInt % 2 := Jvm.Kit.i64_mask _ 1 (k := 1) (by decide) (by decide)
  rw [h2, h1]
  rcases mf_toInt d hN e with h | h <;> rw [h] <;> omega
theorem vb_y4 {d : Int64} {N : Nat} (hN : N < 2 ^ 64) (e : d = lN N) : ((jlshr d (4 : Int32)) &&& (1 : Int64)).toInt = ((N / 16 % 2 : Nat) : Int) := by
  have h1 : (jlshr d (4 : Int32)).toInt = d.toInt / 2 ^ 4 := Jvm.Kit.i64_shr d _ (k := 4) (by decide)
  have h2 : ((jlshr d (4 : Int32)) &&& (1 : Int64)).toInt = (jlshr d (4 : Int32)).toInt % 2 := Jvm.Kit.i64_mask _ 1 (k := 1) (by decide) (by decide)
  rw [h2, h1]
  rcases mf_toInt d hN e with h | h <;> rw [h] <;> omega
theorem vb_y5 {d : Int64} {N : Nat} (hN : N < 2 ^ 64) (e : d = lN N) : ((jlshr d (5 : Int32)) &&& (1 : Int64)).toInt = ((N / 32 % 2 : Nat) : Int) := by
  have h1 : (jlshr d (5 : Int32)).toInt = d.toInt / 2 ^ 5 := Jvm.Kit.i64_shr d _ (k := 5) (by decide)
  have h2 : ((jlshr d (5 : Int32)) &&& (1 : Int64)).toInt = (jlshr d (5 : Int32)).toInt % 2 := Jvm.Kit.i64_mask _ 1 (k := 1) (by decide) (by decide)
  rw [h2, h1]
  rcases mf_toInt d hN e with h | h <;> rw [h] <;> omega
theorem vb_y6 {d : Int64} {N : Nat} (hN : N < 2 ^ 64) (e : d = lN N) : ((jlshr d (6 : Int32)) &&& (1 : Int64)).toInt = ((N / 64 % 2 : Nat) : Int) := by
  have h1 : (jlshr d (6 : Int32)).toInt = d.toInt / 2 ^ 6 := Jvm.Kit.i64_shr d _ (k := 6) (by decide)
  have h2 : ((jlshr d (6 : Int32)) &&& (1 : Int64)).toInt = (jlshr d (6 : Int32)).toInt % 2 := Jvm.Kit.i64_mask _ 1 (k := 1) (by decide) (by decide)
  rw [h2, h1]
  rcases mf_toInt d hN e with h | h <;> rw [h] <;> omega
theorem vb_y7 {d : Int64} {N : Nat} (hN : N < 2 ^ 64) (e : d = lN N) : ((jlshr d (7 : Int32)) &&& (1 : Int64)).toInt = ((N / 128 % 2 : Nat) : Int) := by
  have h1 : (jlshr d (7 : Int32)).toInt = d.toInt / 2 ^ 7 := Jvm.Kit.i64_shr d _ (k := 7) (by decide)
  have h2 : ((jlshr d (7 : Int32)) &&& (1 : Int64)).toInt = (jlshr d (7 : Int32)).toInt % 2 := Jvm.Kit.i64_mask _ 1 (k := 1) (by decide) (by decide)
  rw [h2, h1]
  rcases mf_toInt d hN e with h | h <;> rw [h] <;> omega
theorem vb_a2 (M i : Nat) : M &&& 2 ^ i = if M / 2 ^ i % 2 = 1 then 2 ^ i else 0 := by
  have ht : M.testBit i = decide (M / 2 ^ i % 2 = 1) := Nat.testBit_eq_decide_div_mod_eq
  apply Nat.eq_of_testBit_eq
  intro j
  rw [Nat.testBit_and, Nat.testBit_two_pow]
  by_cases hb : M / 2 ^ i % 2 = 1
  · rw [if_pos hb, Nat.testBit_two_pow]
    by_cases h : i = j
    · subst h
      simp [ht, hb]
    · simp [h]
  · rw [if_neg hb, Nat.zero_testBit]
    by_cases h : i = j
    · subst h
      simp [ht, hb]
    · simp [h]
theorem vb_m0 {d : Int64} {N : Nat} (e : d = lN N) : ((Int64.toInt32 d) &&& (1 : Int32)) = (0 : Int32) ↔ N / 1 % 2 = 0 := by
  rw [vb_i e]
  have h : nI (N % 4294967296) &&& (1 : Int32) = nI (N % 4294967296 &&& 2 ^ 0) := vb_and _ 1
  rw [h, vb_a2]
  by_cases hb : N % 4294967296 / 2 ^ 0 % 2 = 1
  · rw [if_pos hb]
    exact ⟨fun q => absurd q (by decide), fun q => by omega⟩
  · rw [if_neg hb]
    exact ⟨fun _ => by omega, fun _ => by decide⟩
theorem vb_m1 {d : Int64} {N : Nat} (e : d = lN N) : ((Int64.toInt32 d) &&& (2 : Int32)) = (0 : Int32) ↔ N / 2 % 2 = 0 := by
  rw [vb_i e]
  have h : nI (N % 4294967296) &&& (2 : Int32) = nI (N % 4294967296 &&& 2 ^ 1) := vb_and _ 2
  rw [h, vb_a2]
  by_cases hb : N % 4294967296 / 2 ^ 1 % 2 = 1
  · rw [if_pos hb]
    exact ⟨fun q => absurd q (by decide), fun q => by omega⟩
  · rw [if_neg hb]
    exact ⟨fun _ => by omega, fun _ => by decide⟩
theorem vb_m2 {d : Int64} {N : Nat} (e : d = lN N) : ((Int64.toInt32 d) &&& (4 : Int32)) = (0 : Int32) ↔ N / 4 % 2 = 0 := by
  rw [vb_i e]
  have h : nI (N % 4294967296) &&& (4 : Int32) = nI (N % 4294967296 &&& 2 ^ 2) := vb_and _ 4
  rw [h, vb_a2]
  by_cases hb : N % 4294967296 / 2 ^ 2 % 2 = 1
  · rw [if_pos hb]
    exact ⟨fun q => absurd q (by decide), fun q => by omega⟩
  · rw [if_neg hb]
    exact ⟨fun _ => by omega, fun _ => by decide⟩
theorem vb_m3 {d : Int64} {N : Nat} (e : d = lN N) : ((Int64.toInt32 d) &&& (8 : Int32)) = (0 : Int32) ↔ N / 8 % 2 = 0 := by
  rw [vb_i e]
  have h : nI (N % 4294967296) &&& (8 : Int32) = nI (N % 4294967296 &&& 2 ^ 3) := vb_and _ 8
  rw [h, vb_a2]
  by_cases hb : N % 4294967296 / 2 ^ 3 % 2 = 1
  · rw [if_pos hb]
    exact ⟨fun q => absurd q (by decide), fun q => by omega⟩
  · rw [if_neg hb]
    exact ⟨fun _ => by omega, fun _ => by decide⟩
