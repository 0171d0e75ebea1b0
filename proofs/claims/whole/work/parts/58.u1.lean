/-! The operations, alike. -/
def opt (u v : Int64 × Int32 × Int32) : Prop := (u.2.1 = 0 ∧ v.2.2 = 1) ∨ (u.2.1 = 1 ∧ v.2.2 = 0 ∧ v.1 = u.1 ∧ v.2.1 = u.2.2)
def opq (u v : Int64 × Int32) : Prop := (u.2 = 0 ∧ v.2 = 1) ∨ (u.2 = 1 ∧ v.2 = 0 ∧ v.1 = u.1)
theorem oa_by (z : Int64) {j : Nat} (hj : j < 8) : (jlushr z ((8 : Int32) * nI j)) &&& (255 : Int64) = (jlshr z ((8 : Int32) * nI j)) &&& (255 : Int64) := by
  obtain ⟨V, hV, eV⟩ := wb_of z
  have ht := mf_toInt z hV eV
  have key : ∀ (D Q : Nat), D * (256 * Q) = 18446744073709551616 → 0 < D → jlushr (lN V) ((8 : Int32) * nI j) = lN (V / D) → (jlshr z ((8 : Int32) * nI j)).toInt = z.toInt / (D : Int) → (jlushr z ((8 : Int32) * nI j)) &&& (255 : Int64) = (jlshr z ((8 : Int32) * nI j)) &&& (255 : Int64) := by
    intro D Q hDQ hD hu hs
    have h2 : ((jlshr z ((8 : Int32) * nI j)) &&& (255 : Int64)).toInt = (jlshr z ((8 : Int32) * nI j)).toInt % 256 := Jvm.Kit.i64_mask _ 255 (k := 8) (by decide) (by decide)
    have h4 : lN (V / D) &&& (255 : Int64) = lN (V / D % 256) := g_mask (s := 8) (p := 256) (by decide) (by decide) (Nat.lt_of_le_of_lt (Nat.div_le_self _ _) hV)
    have h5 : jlushr z ((8 : Int32) * nI j) = lN (V / D) := by rw [eV]; exact hu
    apply Int64.toInt_inj.mp
    rw [h2, hs, h5, h4, pf_lI (by have := Nat.mod_lt (V / D) (show 0 < 256 by decide); omega)]
    exact (mf_dm _ _ _ _ hDQ hD ht).symm
  rcases (show j = 0 ∨ j = 1 ∨ j = 2 ∨ j = 3 ∨ j = 4 ∨ j = 5 ∨ j = 6 ∨ j = 7 by omega) with rfl | rfl | rfl | rfl | rfl | rfl | rfl | rfl
  · exact key 1 72057594037927936 (by decide) (by decide) (wb_shr (k := 0) hV (by decide)) (Jvm.Kit.i64_shr z _ (k := 0) (by decide))
  · exact key 256 281474976710656 (by decide) (by decide) (wb_shr (k := 8) hV (by decide)) (Jvm.Kit.i64_shr z _ (k := 8) (by decide))
  · exact key 65536 1099511627776 (by decide) (by decide) (wb_shr (k := 16) hV (by decide)) (Jvm.Kit.i64_shr z _ (k := 16) (by decide))
  · exact key 16777216 4294967296 (by decide) (by decide) (wb_shr (k := 24) hV (by decide)) (Jvm.Kit.i64_shr z _ (k := 24) (by decide))
  · exact key 4294967296 16777216 (by decide) (by decide) (wb_shr (k := 32) hV (by decide)) (Jvm.Kit.i64_shr z _ (k := 32) (by decide))
  · exact key 1099511627776 65536 (by decide) (by decide) (wb_shr (k := 40) hV (by decide)) (Jvm.Kit.i64_shr z _ (k := 40) (by decide))
  · exact key 281474976710656 256 (by decide) (by decide) (wb_shr (k := 48) hV (by decide)) (Jvm.Kit.i64_shr z _ (k := 48) (by decide))
  · exact key 72057594037927936 1 (by decide) (by decide) (wb_shr (k := 56) hV (by decide)) (Jvm.Kit.i64_shr z _ (k := 56) (by decide))
theorem oa_or0 (a : Int64) : a ||| (0 : Int64) = a := by
  apply wb_inj
  show a.toBitVec ||| 0#64 = a.toBitVec
  simp
theorem oa_sh0 {j : Nat} (hj : j < 8) : jlshl (0 : Int64) (nI j) = 0 := by
  have : ∀ j, j < 8 → jlshl (0 : Int64) (nI j) = 0 := by decide +kernel
  exact this j hj
theorem oa_15 (z2 z4 : Int64) : ∀ (n j : Nat) (a : Int64), f_Y_sums_B404 z2 z4 0 0 n a (nI j) = (f_X3_bytesNotLess_B6 z2 z4 n a (nI j), 0, 0) ∨ 8 < j := by
  intro n
  induction n with
  | zero => intro j a; exact Or.inl rfl
  | succ n ih =>
    intro j a
    by_cases h8 : 8 < j
    · exact Or.inr h8
    · apply Or.inl
      rw [f_Y_sums_B404, f_X3_bytesNotLess_B6]
      by_cases hc : 8 ≤ j
      · rw [if_pos (show (8 : Int32) ≤ nI j from nI_le (a := 8) hc (by omega)), if_pos (show (8 : Int32) ≤ nI j from nI_le (a := 8) hc (by omega))]
      · have hj : j < 8 := by omega
        rw [if_neg (show ¬ (8 : Int32) ≤ nI j from nI_ge (b := 8) hj (by decide)), if_neg (show ¬ (8 : Int32) ≤ nI j from nI_ge (b := 8) hj (by decide)), oa_by z2 hj, oa_by z4 hj, show nI j + (1 : Int32) = nI (j + 1) from nI_1 j]
        have h9 : ∀ a : Int64, f_Y_sums_B404 z2 z4 0 0 n a (nI (j + 1)) = (f_X3_bytesNotLess_B6 z2 z4 n a (nI (j + 1)), 0, 0) := by
          intro a
          rcases ih (j + 1) a with h | h
          · exact h
          · omega
        by_cases hl : ((jlshr z2 ((8 : Int32) * nI j)) &&& (255 : Int64)) < ((jlshr z4 ((8 : Int32) * nI j)) &&& (255 : Int64))
        · rw [if_pos hl, if_pos hl, if_pos rfl, oa_sh0 hj, oa_or0]
          exact h9 a
        · rw [if_neg hl, if_neg hl, if_neg (show ¬ (1 : Int32) = (0 : Int32) by decide)]
          exact h9 _
theorem oa_sg (x : Int64) : (0 : Int64) ≤ x ↔ x.toBitVec.msb = false := by
  rw [Int64.le_iff_toInt_le, BitVec.msb_eq_toInt]
  have e0 : (0 : Int64).toInt = 0 := by decide
  have e1 : x.toBitVec.toInt = x.toInt := rfl
  rw [e0, e1]
  simp
theorem oa_xor (a b : Int64) : (0 : Int64) ≤ (a ^^^ b) ↔ ((0 : Int64) ≤ a ↔ (0 : Int64) ≤ b) := by
  rw [oa_sg, oa_sg, oa_sg]
  show (a.toBitVec ^^^ b.toBitVec).msb = false ↔ _
  rw [BitVec.msb_xor]
  cases a.toBitVec.msb <;> cases b.toBitVec.msb <;> decide
theorem oa_and (a b : Int64) : (0 : Int64) ≤ (a &&& b) ↔ ((0 : Int64) ≤ a ∨ (0 : Int64) ≤ b) := by
  rw [oa_sg, oa_sg, oa_sg]
  show (a.toBitVec &&& b.toBitVec).msb = false ↔ _
  rw [BitVec.msb_and]
  cases a.toBitVec.msb <;> cases b.toBitVec.msb <;> decide
theorem oa_01 : ((0 : Int32) = (1 : Int32)) = False := eq_false (by decide)
theorem oa_10 : ((1 : Int32) = (0 : Int32)) = False := eq_false (by decide)
theorem oa_96 (a b s : Int64) : (if (0 : Int64) ≤ ((a ^^^ s) &&& (b ^^^ s)) then (0 : Int32) else (1 : Int32)) = (if (if (0 : Int64) ≤ a then (0 : Int32) else (1 : Int32)) = (if (0 : Int64) ≤ b then (0 : Int32) else (1 : Int32)) then (if (if (0 : Int64) ≤ s then (0 : Int32) else (1 : Int32)) = (if (0 : Int64) ≤ a then (0 : Int32) else (1 : Int32)) then (0 : Int32) else (1 : Int32)) else (0 : Int32)) := by
  have h := oa_and (a ^^^ s) (b ^^^ s)
  rw [oa_xor, oa_xor] at h
  by_cases ha : (0 : Int64) ≤ a <;> by_cases hb : (0 : Int64) ≤ b <;> by_cases hs : (0 : Int64) ≤ s <;> simp only [h, ha, hb, hs, oa_01, oa_10, if_true, if_false, true_iff, false_iff, iff_true, iff_false, or_true, true_or, or_false, false_or, not_true, not_false_iff]
theorem oa_105 (a b s : Int64) : (if (0 : Int64) ≤ ((a ^^^ b) &&& (a ^^^ s)) then (0 : Int32) else (1 : Int32)) = (if (if (0 : Int64) ≤ a then (0 : Int32) else (1 : Int32)) = (if (0 : Int64) ≤ b then (0 : Int32) else (1 : Int32)) then (0 : Int32) else (if (if (0 : Int64) ≤ s then (0 : Int32) else (1 : Int32)) = (if (0 : Int64) ≤ a then (0 : Int32) else (1 : Int32)) then (0 : Int32) else (1 : Int32))) := by
  have h := oa_and (a ^^^ b) (a ^^^ s)
  rw [oa_xor, oa_xor] at h
  by_cases ha : (0 : Int64) ≤ a <;> by_cases hb : (0 : Int64) ≤ b <;> by_cases hs : (0 : Int64) ≤ s <;> simp only [h, ha, hb, hs, oa_01, oa_10, if_true, if_false, true_iff, false_iff, iff_true, iff_false, or_true, true_or, or_false, false_or, not_true, not_false_iff]
theorem oa_lt (a b : Int64) : (if (b ^^^ (-9223372036854775808 : Int64)) ≤ (a ^^^ (-9223372036854775808 : Int64)) then (0 : Int32) else (1 : Int32)) = (if (if b ≤ a then (0 : Int32) else (1 : Int32)) = (if (if (0 : Int64) ≤ a then (0 : Int32) else (1 : Int32)) = (if (0 : Int64) ≤ b then (0 : Int32) else (1 : Int32)) then (0 : Int32) else (1 : Int32)) then (0 : Int32) else (1 : Int32)) := by
  have h := uN_le b a
  have e0 : (0 : Int64).toInt = 0 := by decide
  have ia := uN_int a
  have ib := uN_int b
  have la := uN_lt a
  have lb := uN_lt b
  by_cases ha : (0 : Int64) ≤ a <;> by_cases hb : (0 : Int64) ≤ b <;> by_cases hs : b ≤ a <;> by_cases hu : uN b ≤ uN a <;> first | (simp only [h, ha, hb, hs, hu, oa_01, oa_10, if_true, if_false]; done) | (exfalso; rw [Int64.le_iff_toInt_le] at ha hb hs; rw [e0] at ha hb; split at ia <;> split at ib <;> omega)
theorem oa_b1 (x : Int64) : (x &&& (1 : Int64)) = 0 ∨ (x &&& (1 : Int64)) = 1 := by
  obtain ⟨N, hN, e⟩ := wb_of x
  rw [e, g_and1 hN]
  rcases (show N % 2 = 0 ∨ N % 2 = 1 by omega) with h | h <;> rw [h]
  · exact Or.inl rfl
  · exact Or.inr rfl
theorem oa_20 (x : Int64) : (if (x &&& (1 : Int64)) = (1 : Int64) then (1 : Int32) else (0 : Int32)) = (if (x &&& (1 : Int64)) = (0 : Int64) then (0 : Int32) else (1 : Int32)) := by
  rcases oa_b1 x with h | h <;> rw [h] <;> decide
theorem oa_bits (z1 : Int32) (z2 z4 : Int64) : opt (f_X3_combine z1 z2 z4 1 1) (f_Y_bits z1 z2 z4 1 0) := by
  unfold f_X3_combine f_Y_bits
  by_cases h0 : z1 = 0
  · rw [if_pos h0, if_pos h0]; exact Or.inr ⟨rfl, rfl, rfl, rfl⟩
  rw [if_neg h0, if_neg h0]
  by_cases h1 : z1 = 8
  · rw [if_pos h1, if_pos h1]; exact Or.inr ⟨rfl, rfl, rfl, rfl⟩
  rw [if_neg h1, if_neg h1]
  by_cases h2 : z1 = 20
  · rw [if_pos h2, if_pos h2]; exact Or.inr ⟨rfl, rfl, rfl, oa_20 z2⟩
  rw [if_neg h2, if_neg h2]
  by_cases h3 : z1 = 22
  · rw [if_pos h3, if_pos h3]; exact Or.inr ⟨rfl, rfl, rfl, rfl⟩
  rw [if_neg h3, if_neg h3]
  by_cases h4 : z1 = 32
  · rw [if_pos h4, if_pos h4]; exact Or.inr ⟨rfl, rfl, rfl, rfl⟩
  rw [if_neg h4, if_neg h4]
  by_cases h5 : z1 = 36
  · rw [if_pos h5, if_pos h5]; exact Or.inr ⟨rfl, rfl, rfl, rfl⟩
  rw [if_neg h5, if_neg h5]
  by_cases h6 : z1 = 38
  · rw [if_pos h6, if_pos h6]; exact Or.inr ⟨rfl, rfl, rfl, rfl⟩
  rw [if_neg h6, if_neg h6]
  by_cases h7 : z1 = 40
  · rw [if_pos h7, if_pos h7]; exact Or.inr ⟨rfl, rfl, rfl, rfl⟩
  rw [if_neg h7, if_neg h7]
  by_cases h8 : z1 = 64
  · rw [if_pos h8, if_pos h8]; exact Or.inr ⟨rfl, rfl, rfl, rfl⟩
  rw [if_neg h8, if_neg h8]
  by_cases h9 : z1 = 68
  · rw [if_pos h9, if_pos h9]; exact Or.inr ⟨rfl, rfl, rfl, rfl⟩
  rw [if_neg h9, if_neg h9]
  by_cases hA : z1 = 70
  · rw [if_pos hA, if_pos hA]; exact Or.inr ⟨rfl, rfl, rfl, rfl⟩
  rw [if_neg hA, if_neg hA]
  by_cases hB : z1 = 72
  · rw [if_pos hB, if_pos hB]; exact Or.inr ⟨rfl, rfl, rfl, rfl⟩
  rw [if_neg hB, if_neg hB]
  by_cases hC : z1 = 100
  · rw [if_pos hC, if_pos hC]; exact Or.inr ⟨rfl, rfl, rfl, rfl⟩
  rw [if_neg hC, if_neg hC]
  by_cases hD : z1 = 102
  · rw [if_pos hD, if_pos hD]; exact Or.inr ⟨rfl, rfl, rfl, rfl⟩
  rw [if_neg hD, if_neg hD]
  exact Or.inl ⟨rfl, rfl⟩
theorem oa_s0 (z2 z4 : Int64) : opt (f_X3_add 0 z2 z4 1 0) (f_Y_sums 0 z2 z4 0 0) := by
  exact Or.inr ⟨rfl, rfl, rfl, rfl⟩
theorem oa_s2 (z2 z4 : Int64) : opt (f_X3_add 2 z2 z4 1 0) (f_Y_sums 2 z2 z4 0 0) := by
  exact Or.inr ⟨rfl, rfl, rfl, rfl⟩
theorem oa_s9 (z2 z4 : Int64) : opt (f_X3_add 9 z2 z4 1 0) (f_Y_sums 9 z2 z4 0 0) := by
  exact Or.inr ⟨rfl, rfl, rfl, rfl⟩
theorem oa_s11 (z2 z4 : Int64) : opt (f_X3_add 11 z2 z4 1 0) (f_Y_sums 11 z2 z4 0 0) := by
  exact Or.inr ⟨rfl, rfl, rfl, rfl⟩
theorem oa_s15 (z2 z4 : Int64) : opt (f_X3_add 15 z2 z4 1 0) (f_Y_sums 15 z2 z4 0 0) := by
  have e15 : f_Y_sums_B404 z2 z4 0 0 9 (0 : Int64) (0 : Int32) = (f_X3_bytesNotLess z2 z4, 0, 0) := by
    rcases oa_15 z2 z4 9 0 (0 : Int64) with h | h
    · exact h
    · omega
  exact Or.inr ⟨rfl, (congrArg (fun w => w.2.2) e15), (congrArg (fun w => w.1) e15), (congrArg (fun w => w.2.1) e15)⟩
theorem oa_s18 (z2 z4 : Int64) : opt (f_X3_add 18 z2 z4 1 0) (f_Y_sums 18 z2 z4 0 0) := by
  exact Or.inr ⟨rfl, rfl, rfl, rfl⟩
theorem oa_s29 (z2 z4 : Int64) : opt (f_X3_add 29 z2 z4 1 0) (f_Y_sums 29 z2 z4 0 0) := by
  have e29 : (if (if (if z4 ≤ z2 then (0 : Int32) else (1 : Int32)) = (if (if (0 : Int64) ≤ z2 then (0 : Int32) else (1 : Int32)) = (if (0 : Int64) ≤ z4 then (0 : Int32) else (1 : Int32)) then (0 : Int32) else (1 : Int32)) then (0 : Int32) else (1 : Int32)) = (0 : Int32) then (0 : Int64) else (1 : Int64)) = (if (if (z4 ^^^ (-9223372036854775808 : Int64)) ≤ (z2 ^^^ (-9223372036854775808 : Int64)) then (0 : Int32) else (1 : Int32)) = (0 : Int32) then (0 : Int64) else (1 : Int64)) := by
    rw [oa_lt]
  exact Or.inr ⟨rfl, rfl, e29, rfl⟩
theorem oa_s32 (z2 z4 : Int64) : opt (f_X3_add 32 z2 z4 1 0) (f_Y_sums 32 z2 z4 0 0) := by
  exact Or.inr ⟨rfl, rfl, rfl, rfl⟩
theorem oa_s34 (z2 z4 : Int64) : opt (f_X3_add 34 z2 z4 1 0) (f_Y_sums 34 z2 z4 0 0) := by
  exact Or.inr ⟨rfl, rfl, rfl, rfl⟩
theorem oa_s41 (z2 z4 : Int64) : opt (f_X3_add 41 z2 z4 1 0) (f_Y_sums 41 z2 z4 0 0) := by
  exact Or.inr ⟨rfl, rfl, rfl, rfl⟩
theorem oa_s43 (z2 z4 : Int64) : opt (f_X3_add 43 z2 z4 1 0) (f_Y_sums 43 z2 z4 0 0) := by
  exact Or.inr ⟨rfl, rfl, rfl, rfl⟩
theorem oa_s45 (z2 z4 : Int64) : opt (f_X3_add 45 z2 z4 1 0) (f_Y_sums 45 z2 z4 0 0) := by
  exact Or.inr ⟨rfl, rfl, rfl, rfl⟩
theorem oa_s50 (z2 z4 : Int64) : opt (f_X3_add 50 z2 z4 1 0) (f_Y_sums 50 z2 z4 0 0) := by
  exact Or.inr ⟨rfl, rfl, rfl, rfl⟩
theorem oa_s61 (z2 z4 : Int64) : opt (f_X3_add 61 z2 z4 1 0) (f_Y_sums 61 z2 z4 0 0) := by
  have e61 : (if (if (if (if z2 ≤ z4 then (0 : Int32) else (1 : Int32)) = (if (if (0 : Int64) ≤ z4 then (0 : Int32) else (1 : Int32)) = (if (0 : Int64) ≤ z2 then (0 : Int32) else (1 : Int32)) then (0 : Int32) else (1 : Int32)) then (0 : Int32) else (1 : Int32)) = (0 : Int32) then (1 : Int32) else (0 : Int32)) = (0 : Int32) then (0 : Int64) else (1 : Int64)) = (if (if (if (z2 ^^^ (-9223372036854775808 : Int64)) ≤ (z4 ^^^ (-9223372036854775808 : Int64)) then (0 : Int32) else (1 : Int32)) = (0 : Int32) then (1 : Int32) else (0 : Int32)) = (0 : Int32) then (0 : Int64) else (1 : Int64)) := by
    rw [oa_lt]
  exact Or.inr ⟨rfl, rfl, e61, rfl⟩
theorem oa_s64 (z2 z4 : Int64) : opt (f_X3_add 64 z2 z4 1 0) (f_Y_sums 64 z2 z4 0 0) := by
  exact Or.inr ⟨rfl, rfl, rfl, rfl⟩
theorem oa_s73 (z2 z4 : Int64) : opt (f_X3_add 73 z2 z4 1 0) (f_Y_sums 73 z2 z4 0 0) := by
  exact Or.inr ⟨rfl, rfl, rfl, rfl⟩
theorem oa_s77 (z2 z4 : Int64) : opt (f_X3_add 77 z2 z4 1 0) (f_Y_sums 77 z2 z4 0 0) := by
  exact Or.inr ⟨rfl, rfl, rfl, rfl⟩
theorem oa_s96 (z2 z4 : Int64) : opt (f_X3_add 96 z2 z4 1 0) (f_Y_sums 96 z2 z4 0 0) := by
  exact Or.inr ⟨rfl, rfl, rfl, (oa_96 z2 z4 (z2 + z4)).symm⟩
theorem oa_s105 (z2 z4 : Int64) : opt (f_X3_add 105 z2 z4 1 0) (f_Y_sums 105 z2 z4 0 0) := by
  exact Or.inr ⟨rfl, rfl, rfl, (oa_105 z2 z4 (z2 - z4)).symm⟩
theorem oa_s109 (z2 z4 : Int64) : opt (f_X3_add 109 z2 z4 1 0) (f_Y_sums 109 z2 z4 0 0) := by
  exact Or.inr ⟨rfl, rfl, rfl, rfl⟩
theorem oa_sums (z1 : Int32) (z2 z4 : Int64) : opt (f_X3_add z1 z2 z4 1 0) (f_Y_sums z1 z2 z4 0 0) := by
  by_cases h0 : z1 = 0
  · subst h0; exact oa_s0 z2 z4
  by_cases h2 : z1 = 2
  · subst h2; exact oa_s2 z2 z4
  by_cases h9 : z1 = 9
  · subst h9; exact oa_s9 z2 z4
  by_cases h11 : z1 = 11
  · subst h11; exact oa_s11 z2 z4
  by_cases h15 : z1 = 15
  · subst h15; exact oa_s15 z2 z4
  by_cases h18 : z1 = 18
  · subst h18; exact oa_s18 z2 z4
  by_cases h29 : z1 = 29
  · subst h29; exact oa_s29 z2 z4
  by_cases h32 : z1 = 32
  · subst h32; exact oa_s32 z2 z4
  by_cases h34 : z1 = 34
  · subst h34; exact oa_s34 z2 z4
  by_cases h41 : z1 = 41
  · subst h41; exact oa_s41 z2 z4
  by_cases h43 : z1 = 43
  · subst h43; exact oa_s43 z2 z4
  by_cases h45 : z1 = 45
  · subst h45; exact oa_s45 z2 z4
  by_cases h50 : z1 = 50
  · subst h50; exact oa_s50 z2 z4
  by_cases h61 : z1 = 61
  · subst h61; exact oa_s61 z2 z4
  by_cases h64 : z1 = 64
  · subst h64; exact oa_s64 z2 z4
  by_cases h73 : z1 = 73
  · subst h73; exact oa_s73 z2 z4
  by_cases h77 : z1 = 77
  · subst h77; exact oa_s77 z2 z4
  by_cases h96 : z1 = 96
  · subst h96; exact oa_s96 z2 z4
  by_cases h105 : z1 = 105
  · subst h105; exact oa_s105 z2 z4
  by_cases h109 : z1 = 109
  · subst h109; exact oa_s109 z2 z4
  simp only [f_X3_add, f_Y_sums, h0, h2, h9, h11, h15, h18, h29, h32, h34, h41, h43, h45, h50, h61, h64, h73, h77, h96, h105, h109, or_self, if_false]
  exact Or.inl ⟨rfl, rfl⟩
theorem oa_prod (z1 : Int32) (z2 z4 : Int64) : opt (f_X3_multiply z1 z2 z4 1 0) (f_Y_products z1 z2 z4 0 0) := by
  by_cases h0 : z1 = 0
  · subst h0; exact Or.inr ⟨rfl, rfl, rfl, rfl⟩
  by_cases h32 : z1 = 32
  · subst h32; exact Or.inr ⟨rfl, rfl, rfl, rfl⟩
  by_cases h48 : z1 = 48
  · subst h48; exact Or.inr ⟨rfl, rfl, rfl, rfl⟩
  by_cases h64 : z1 = 64
  · subst h64; exact Or.inr ⟨rfl, rfl, rfl, rfl⟩
  by_cases h96 : z1 = 96
  · subst h96; exact Or.inr ⟨rfl, rfl, rfl, rfl⟩
  simp only [f_X3_multiply, f_Y_products, h0, h32, h48, h64, h96, if_false]
  exact Or.inl ⟨rfl, rfl⟩
