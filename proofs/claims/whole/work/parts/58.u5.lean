/-! Shifts and parts, alike. -/
theorem oz_m {k i : Nat} (hk : k < 8) (hi : i < 64) : (jlshl (255 : Int64) ((8 : Int32) * nI k)).toBitVec.getLsbD i = decide (i / 8 = k) := by
  have : ∀ k, k < 8 → ∀ i, i < 64 → (jlshl (255 : Int64) ((8 : Int32) * nI k)).toBitVec.getLsbD i = decide (i / 8 = k) := by decide +kernel
  exact this k hk i hi
theorem oz_b (z : Int64) {k : Nat} (hk : k < 8) : ((jlshr z (nI k)) &&& (1 : Int64)) = (0 : Int64) ↔ z.toBitVec.getLsbD k = false := by
  obtain ⟨N, hN, e⟩ := wb_of z
  have hb : z.toBitVec.getLsbD k = decide (N / 2 ^ k % 2 = 1) := by
    rw [e, wb_tb, BitVec.getLsbD_ofNat, Nat.testBit_eq_decide_div_mod_eq]
    simp
    omega
  rw [hb]
  have e0 : (0 : Int64).toInt = 0 := by decide
  have h2 : ((jlshr z (nI k)) &&& (1 : Int64)).toInt = (jlshr z (nI k)).toInt % 2 := Jvm.Kit.i64_mask _ 1 (k := 1) (by decide) (by decide)
  have ht := mf_toInt z hN e
  have key : (jlshr z (nI k)).toInt = z.toInt / 2 ^ k → (((jlshr z (nI k)) &&& (1 : Int64)) = (0 : Int64) ↔ decide (N / 2 ^ k % 2 = 1) = false) := by
    intro h1
    rw [← Int64.toInt_inj, h2, h1, e0, decide_eq_false_iff_not]
    rcases (show k = 0 ∨ k = 1 ∨ k = 2 ∨ k = 3 ∨ k = 4 ∨ k = 5 ∨ k = 6 ∨ k = 7 by omega) with rfl | rfl | rfl | rfl | rfl | rfl | rfl | rfl <;> rcases ht with h | h <;> rw [h] <;> omega
  apply key
  rcases (show k = 0 ∨ k = 1 ∨ k = 2 ∨ k = 3 ∨ k = 4 ∨ k = 5 ∨ k = 6 ∨ k = 7 by omega) with rfl | rfl | rfl | rfl | rfl | rfl | rfl | rfl
  · exact Jvm.Kit.i64_shr z _ (k := 0) (by decide)
  · exact Jvm.Kit.i64_shr z _ (k := 1) (by decide)
  · exact Jvm.Kit.i64_shr z _ (k := 2) (by decide)
  · exact Jvm.Kit.i64_shr z _ (k := 3) (by decide)
  · exact Jvm.Kit.i64_shr z _ (k := 4) (by decide)
  · exact Jvm.Kit.i64_shr z _ (k := 5) (by decide)
  · exact Jvm.Kit.i64_shr z _ (k := 6) (by decide)
  · exact Jvm.Kit.i64_shr z _ (k := 7) (by decide)
theorem oz_x (z : Int64) {i : Nat} (hi : i < 64) : ∀ (n k : Nat) (a : Int64), 9 ≤ n + k → k ≤ 8 → (f_X3_bytesOf_B5 z n a (nI k)).toBitVec.getLsbD i = (a.toBitVec.getLsbD i || (decide (k ≤ i / 8) && z.toBitVec.getLsbD (i / 8))) := by
  intro n
  induction n with
  | zero => intro k a h h8; omega
  | succ n ih =>
    intro k a h h8
    rw [f_X3_bytesOf_B5]
    by_cases hc : 8 ≤ k
    · rw [if_pos (show (8 : Int32) ≤ nI k from nI_le (a := 8) hc (by omega)), decide_eq_false (show ¬ k ≤ i / 8 by omega)]
      simp
    · rw [if_neg (show ¬ (8 : Int32) ≤ nI k from nI_ge (b := 8) (by omega) (by decide)), show nI k + (1 : Int32) = nI (k + 1) from nI_1 k]
      have hb := oz_b z (show k < 8 by omega)
      by_cases h1 : ((jlshr z (nI k)) &&& (1 : Int64)) = (0 : Int64)
      · rw [if_pos h1, ih (k + 1) a (by omega) (by omega)]
        have hb := hb.mp h1
        by_cases he : i / 8 = k
        · rw [he, hb]
          simp
        · rw [show decide (k + 1 ≤ i / 8) = decide (k ≤ i / 8) from decide_eq_decide.mpr (by omega)]
      · rw [if_neg h1, ih (k + 1) _ (by omega) (by omega), Int64.toBitVec_or, BitVec.getLsbD_or, oz_m (by omega) hi]
        have hb : z.toBitVec.getLsbD k = true := by
          cases hq : z.toBitVec.getLsbD k
          · exact absurd (hb.mpr hq) h1
          · rfl
        by_cases he : i / 8 = k
        · rw [he, hb, decide_eq_true rfl, decide_eq_false (show ¬ k + 1 ≤ k by omega), decide_eq_true (Nat.le_refl k)]
          simp
        · rw [decide_eq_false he, show decide (k + 1 ≤ i / 8) = decide (k ≤ i / 8) from decide_eq_decide.mpr (by omega)]
          simp
theorem oz_y (z0 z2 : Int64) (fl : Int32) (g : Nat → Bool) (hg : ∀ k, k < 8 → ((if (if (if ((jlshr z2 (nI k)) &&& (1 : Int64)) = (1 : Int64) then (1 : Int32) else (0 : Int32)) = fl then (1 : Int32) else (0 : Int32)) = (0 : Int32) then true else false) = g k)) {i : Nat} (hi : i < 64) : ∀ (n k : Nat) (a : Int64), 9 ≤ n + k → k ≤ 8 → (f_Y_zapped_B6 z0 z2 fl n a (nI k)).toBitVec.getLsbD i = (a.toBitVec.getLsbD i || (decide (k ≤ i / 8) && (z0.toBitVec.getLsbD i && g (i / 8)))) := by
  intro n
  induction n with
  | zero => intro k a h h8; omega
  | succ n ih =>
    intro k a h h8
    rw [f_Y_zapped_B6]
    by_cases hc : 8 ≤ k
    · rw [if_pos (show (8 : Int32) ≤ nI k from nI_le (a := 8) hc (by omega)), decide_eq_false (show ¬ k ≤ i / 8 by omega)]
      simp
    · rw [if_neg (show ¬ (8 : Int32) ≤ nI k from nI_ge (b := 8) (by omega) (by decide)), show nI k + (1 : Int32) = nI (k + 1) from nI_1 k]
      have hb := hg k (show k < 8 by omega)
      by_cases h1 : (if (if ((jlshr z2 (nI k)) &&& (1 : Int64)) = (1 : Int64) then (1 : Int32) else (0 : Int32)) = fl then (1 : Int32) else (0 : Int32)) = (0 : Int32)
      · rw [if_pos h1] at hb ⊢
        rw [ih (k + 1) _ (by omega) (by omega), Int64.toBitVec_or, BitVec.getLsbD_or, Int64.toBitVec_and, BitVec.getLsbD_and, oz_m (by omega) hi]
        by_cases he : i / 8 = k
        · rw [he, ← hb, decide_eq_true rfl, decide_eq_false (show ¬ k + 1 ≤ k by omega), decide_eq_true (Nat.le_refl k)]
          simp
        · rw [decide_eq_false he, show decide (k + 1 ≤ i / 8) = decide (k ≤ i / 8) from decide_eq_decide.mpr (by omega)]
          simp
      · rw [if_neg h1] at hb ⊢
        rw [ih (k + 1) a (by omega) (by omega)]
        by_cases he : i / 8 = k
        · rw [he, ← hb]
          simp
        · rw [show decide (k + 1 ≤ i / 8) = decide (k ≤ i / 8) from decide_eq_decide.mpr (by omega)]
theorem oz_48 (z2 z4 : Int64) : f_Y_zapped z2 z4 (1 : Int32) = z2 &&& ((f_X3_bytesOf z4) ^^^ (-1 : Int64)) := by
  apply wb_inj
  apply BitVec.eq_of_getLsbD_eq
  intro i hi
  have hy := oz_y z2 z4 (1 : Int32) (fun k => ! z4.toBitVec.getLsbD k) (by
    intro k hk
    have hb := oz_b z4 hk
    rcases oa_b1 (jlshr z4 (nI k)) with h | h
    · rw [h, hb.mp h]; decide
    · have hq : z4.toBitVec.getLsbD k = true := by
        cases hq : z4.toBitVec.getLsbD k
        · have := hb.mpr hq
          rw [h] at this
          exact absurd this (by decide)
        · rfl
      rw [h]; simp only [hq]; decide) hi 9 0 (0 : Int64) (by omega) (by omega)
  have hx := oz_x z4 hi 9 0 (0 : Int64) (by omega) (by omega)
  have h0 : (0 : Int64).toBitVec.getLsbD i = false := by
    show (0#64).getLsbD i = false
    simp
  have h1 : (-1 : Int64).toBitVec.getLsbD i = true := by
    have : ∀ i, i < 64 → (-1 : Int64).toBitVec.getLsbD i = true := by decide +kernel
    exact this i hi
  rw [Int64.toBitVec_and, BitVec.getLsbD_and, Int64.toBitVec_xor, BitVec.getLsbD_xor, h1]
  rw [h0] at hx hy
  rw [show (f_Y_zapped z2 z4 (1 : Int32)).toBitVec.getLsbD i = _ from hy, show (f_X3_bytesOf z4).toBitVec.getLsbD i = _ from hx]
  simp
theorem oz_49 (z2 z4 : Int64) : f_Y_zapped z2 z4 (0 : Int32) = z2 &&& (f_X3_bytesOf z4) := by
  apply wb_inj
  apply BitVec.eq_of_getLsbD_eq
  intro i hi
  have hy := oz_y z2 z4 (0 : Int32) (fun k => z4.toBitVec.getLsbD k) (by
    intro k hk
    have hb := oz_b z4 hk
    rcases oa_b1 (jlshr z4 (nI k)) with h | h
    · rw [h, hb.mp h]; decide
    · have hq : z4.toBitVec.getLsbD k = true := by
        cases hq : z4.toBitVec.getLsbD k
        · have := hb.mpr hq
          rw [h] at this
          exact absurd this (by decide)
        · rfl
      rw [h]; simp only [hq]; decide) hi 9 0 (0 : Int64) (by omega) (by omega)
  have hx := oz_x z4 hi 9 0 (0 : Int64) (by omega) (by omega)
  have h0 : (0 : Int64).toBitVec.getLsbD i = false := by
    show (0#64).getLsbD i = false
    simp
  rw [Int64.toBitVec_and, BitVec.getLsbD_and]
  rw [h0] at hx hy
  rw [show (f_Y_zapped z2 z4 (0 : Int32)).toBitVec.getLsbD i = _ from hy, show (f_X3_bytesOf z4).toBitVec.getLsbD i = _ from hx]
  simp
theorem oz_c (x : Int32) : x &&& (3 : Int32) = 0 ∨ x &&& (3 : Int32) = 1 ∨ x &&& (3 : Int32) = 2 ∨ x &&& (3 : Int32) = 3 := by
  have h : (x &&& (3 : Int32)).toInt = x.toInt % 4 := Jvm.Kit.i32_mask x 3 (k := 2) (by decide) (by decide)
  rcases (show x.toInt % 4 = 0 ∨ x.toInt % 4 = 1 ∨ x.toInt % 4 = 2 ∨ x.toInt % 4 = 3 by omega) with g | g | g | g
  · exact Or.inl (Int32.toInt_inj.mp (by rw [h, g]; decide))
  · exact Or.inr (Or.inl (Int32.toInt_inj.mp (by rw [h, g]; decide)))
  · exact Or.inr (Or.inr (Or.inl (Int32.toInt_inj.mp (by rw [h, g]; decide))))
  · exact Or.inr (Or.inr (Or.inr (Int32.toInt_inj.mp (by rw [h, g]; decide))))
theorem oz_k {c : Int32} (h : c = 0 ∨ c = 1 ∨ c = 2 ∨ c = 3) : jlushr (-1 : Int64) ((64 : Int32) - ((8 : Int32) <<< (c &&& (31 : Int32)))) = (if ((8 : Int32) <<< (c &&& (31 : Int32))) = (64 : Int32) then (-1 : Int64) else ((jlshl (1 : Int64) ((8 : Int32) <<< (c &&& (31 : Int32)))) - (1 : Int64))) := by
  rcases h with rfl | rfl | rfl | rfl <;> decide
theorem oz_w (z : Int32) : (z &&& (48 : Int32)) = (0 : Int32) ↔ ((z >>> ((4 : Int32) &&& (31 : Int32))) &&& (3 : Int32)) ≤ (0 : Int32) := by
  obtain ⟨M, hM, e⟩ := wb_of32 z
  have h1 := rg_shr z ((4 : Int32) &&& (31 : Int32)) 4 (by decide)
  have h2 : ((z >>> ((4 : Int32) &&& (31 : Int32))) &&& (3 : Int32)).toInt = (z >>> ((4 : Int32) &&& (31 : Int32))).toInt % 4 := Jvm.Kit.i32_mask _ 3 (k := 2) (by decide) (by decide)
  have h3 := vb_ti (M := M) hM
  rw [← e] at h3
  rw [Int32.le_iff_toInt_le, h2, h1, show (0 : Int32).toInt = 0 by decide]
  have h4 : z &&& (48 : Int32) = nI (M &&& 48) := by rw [e]; exact vb_and M 48
  have h5 : M &&& 48 = (M &&& 2 ^ 4) ||| (M &&& 2 ^ 5) := by
    rw [← Nat.and_or_distrib_left, show ((2 : Nat) ^ 4 ||| 2 ^ 5) = 48 by decide]
  have a4 := vb_a2 M 4
  have a5 := vb_a2 M 5
  rw [h4, h5, a4, a5]
  by_cases c4 : M / 2 ^ 4 % 2 = 1 <;> by_cases c5 : M / 2 ^ 5 % 2 = 1
  · rw [if_pos c4, if_pos c5]
    constructor
    · intro h; exact absurd h (by decide)
    · intro h; rcases h3 with h3 | h3 <;> rw [h3] at h <;> omega
  · rw [if_pos c4, if_neg c5]
    constructor
    · intro h; exact absurd h (by decide)
    · intro h; rcases h3 with h3 | h3 <;> rw [h3] at h <;> omega
  · rw [if_neg c4, if_pos c5]
    constructor
    · intro h; exact absurd h (by decide)
    · intro h; rcases h3 with h3 | h3 <;> rw [h3] at h <;> omega
  · rw [if_neg c4, if_neg c5]
    constructor
    · intro h; rcases h3 with h3 | h3 <;> rw [h3] <;> omega
    · intro h; decide
theorem oz_6 (z : Int32) {a b : Int32} (ha : (z &&& (15 : Int32)) = a) (h : ¬ a = b) : ¬ (z &&& (15 : Int32)) = b := fun q => h (ha ▸ q)
theorem oa_parts (z1 : Int32) (z2 z4 : Int64) : opq (f_X3_shift z1 z2 z4 1) (f_Y_parts z1 z2 z4 0) := by
  by_cases h48 : z1 = 48
  · subst h48; exact Or.inr ⟨rfl, rfl, oz_48 z2 z4⟩
  by_cases h49 : z1 = 49
  · subst h49; exact Or.inr ⟨rfl, rfl, oz_49 z2 z4⟩
  have e63 : Int64.toInt32 (z4 &&& (63 : Int64)) = (Int64.toInt32 z4) &&& (63 : Int32) := bk_and z4 63 63 (by decide)
  by_cases h52 : z1 = 52
  · subst h52; exact Or.inr ⟨rfl, rfl, congrArg (jlushr z2) e63⟩
  by_cases h57 : z1 = 57
  · subst h57; exact Or.inr ⟨rfl, rfl, congrArg (jlshl z2) e63⟩
  by_cases h60 : z1 = 60
  · subst h60; exact Or.inr ⟨rfl, rfl, congrArg (jlshr z2) e63⟩
  unfold f_X3_shift f_Y_parts
  rw [if_neg h48, if_neg h49, if_neg h52, if_neg h57, if_neg h60, if_neg h52, if_neg h57, if_neg h60, if_neg h48, if_neg h49, ← oz_k (oz_c _), bk_and z4 7 7 (by decide)]
  have n1 : ¬ (1 : Int32) = (0 : Int32) := by decide
  generalize jlushr (-1 : Int64) ((64 : Int32) - ((8 : Int32) <<< (((z1 >>> ((4 : Int32) &&& (31 : Int32))) &&& (3 : Int32)) &&& (31 : Int32)))) = m
  generalize (8 : Int32) * ((Int64.toInt32 z4) &&& (7 : Int32)) = p
  by_cases hh : (z1 &&& (64 : Int32)) = (0 : Int32)
  · rw [if_pos hh, if_pos hh, if_pos rfl]
    unfold f_X3_shift_K153_2 f_X3_lowPart
    by_cases c2 : (z1 &&& (15 : Int32)) = (2 : Int32)
    · rw [if_pos c2, if_neg (oz_6 z1 c2 (by decide)), if_neg (oz_6 z1 c2 (by decide)), if_pos c2]
      exact Or.inr ⟨rfl, rfl, rfl⟩
    · rw [if_neg c2]
      by_cases c6 : (z1 &&& (15 : Int32)) = (6 : Int32)
      · rw [if_pos c6, if_pos c6]
        exact Or.inr ⟨rfl, rfl, rfl⟩
      · rw [if_neg c6, if_neg c6]
        by_cases c11 : (z1 &&& (15 : Int32)) = (11 : Int32)
        · rw [if_pos c11, if_pos c11]
          exact Or.inr ⟨rfl, rfl, rfl⟩
        · rw [if_neg c11, if_neg c11, if_neg c2]
          exact Or.inl ⟨rfl, rfl⟩
  · rw [if_neg hh, if_neg hh, if_neg n1]
    unfold f_X3_shift_K166_1 f_X3_highPart
    by_cases cw : (z1 &&& (48 : Int32)) = (0 : Int32)
    · rw [if_pos cw, if_pos ((oz_w z1).mp cw)]
      exact Or.inl ⟨rfl, rfl⟩
    · rw [if_neg cw, if_neg (fun q => cw ((oz_w z1).mpr q))]
      by_cases c2 : (z1 &&& (15 : Int32)) = (2 : Int32)
      · rw [if_pos c2, if_neg (oz_6 z1 c2 (by decide)), if_neg (oz_6 z1 c2 (by decide)), if_pos c2]
        exact Or.inr ⟨rfl, rfl, rfl⟩
      · rw [if_neg c2]
        by_cases c7 : (z1 &&& (15 : Int32)) = (7 : Int32)
        · rw [if_pos c7, if_neg (oz_6 z1 c7 (by decide)), if_pos c7]
          exact Or.inr ⟨rfl, rfl, rfl⟩
        · rw [if_neg c7]
          by_cases c10 : (z1 &&& (15 : Int32)) = (10 : Int32)
          · rw [if_pos c10, if_pos c10]
            refine Or.inr ⟨rfl, rfl, ?_⟩
            show (if p = (0 : Int32) then (z2 &&& m) else ((jlshl z2 ((64 : Int32) - p)) &&& m)) = (if p = (0 : Int32) then z2 else (jlshl z2 ((64 : Int32) - p))) &&& m
            by_cases hp : p = (0 : Int32)
            · rw [if_pos hp, if_pos hp]
            · rw [if_neg hp, if_neg hp]
          · rw [if_neg c10, if_neg c10, if_neg c7, if_neg c2]
            exact Or.inl ⟨rfl, rfl⟩
