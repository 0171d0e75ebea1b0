/-! Translation, alike. -/
theorem tv_1 {d : Int64} {k : Int64} {n : Nat} (hn : n < 2) (h : k.toInt = (n : Int)) : (k = (0 : Int64) ↔ n = 0) ∧ (k = (1 : Int64) ↔ n = 1) := by
  have e0 : (0 : Int64).toInt = 0 := by decide
  have e1 : (1 : Int64).toInt = 1 := by decide
  constructor
  · rw [← Int64.toInt_inj, h, e0]
    omega
  · rw [← Int64.toInt_inj, h, e1]
    omega
/-- one access: three bits of the descriptor decide -/
theorem tv_3 {A A' B B' C C' : Prop} [Decidable A] [Decidable A'] [Decidable B] [Decidable B'] [Decidable C] [Decidable C'] (hA : A ↔ A') (hB : B ↔ B') (hC : C ↔ ¬ C') {f g x : Int32} (hf : ¬ f < (0 : Int32)) (hg : (-1 : Int32) - f = g) :
    (if A' then (-2 : Int32) else (if B' then (-1 : Int32) else (if C' then g else x))) = (if (if A then (1 : Int32) else (if B then (0 : Int32) else (if C then (-1 : Int32) else f))) < (0 : Int32) then x else ((-1 : Int32) - (if A then (1 : Int32) else (if B then (0 : Int32) else (if C then (-1 : Int32) else f))))) := by
  by_cases a : A
  · rw [if_pos a, if_pos (hA.mp a)]
    rfl
  · rw [if_neg a, if_neg (fun q => a (hA.mpr q))]
    by_cases b : B
    · rw [if_pos b, if_pos (hB.mp b)]
      rfl
    · rw [if_neg b, if_neg (fun q => b (hB.mpr q))]
      by_cases c : C
      · rw [if_pos c, if_neg (hC.mp c)]
        rfl
      · have c' : C' := Decidable.not_not.mp (fun q => c (hC.mpr q))
        rw [if_neg c, if_pos c', if_neg hf, hg]
theorem tv_tup {A B C : Prop} [Decidable A] [Decidable B] [Decidable C] {α : Type} {a b c x : Int32} {t : α} : (if A then (a, t) else (if B then (b, t) else (if C then (c, t) else (x, t)))) = ((if A then a else (if B then b else (if C then c else x))), t) := by
  split
  · rfl
  · split
    · rfl
    · split <;> rfl
theorem tv_val (z1 d : Int64) (z3 z4 b : Int32) (p q : Nat → Int32) (w : Nat → Int64) (h4 : okD z4) : f_Y_translate_B106 z1 z3 z4 b p q w d = ((if f_X2_faultIn d z3 z4 < (0 : Int32) then (((256 : Int32) * ((Int64.toInt32 (jlushr d (32 : Int32))) &&& (15 : Int32))) + ((Int64.toInt32 z1) &&& (255 : Int32))) else ((-1 : Int32) - f_X2_faultIn d z3 z4)), b, p, q, w) := by
  obtain ⟨N, hN, e⟩ := wb_of d
  unfold f_Y_translate_B106 f_X2_faultIn
  rw [tv_tup, tr_num]
  refine congrArg (fun v => (v, b, p, q, w)) ?_
  have m0 := vb_m0 e
  have y0 := vb_y0 hN e
  have B : ((Int64.toInt32 d) &&& (1 : Int32)) = (0 : Int32) ↔ (d &&& (1 : Int64)) = (0 : Int64) := by
    rw [m0, y0]
    omega
  have x4 := vb_x4 e
  have x5 := vb_x5 e
  have x6 := vb_x6 e
  have x7 := vb_x7 e
  have w4 := (tv_1 (d := d) (Nat.mod_lt _ (by decide)) (vb_y4 hN e)).1
  have w5 := (tv_1 (d := d) (Nat.mod_lt _ (by decide)) (vb_y5 hN e)).1
  have w6 := (tv_1 (d := d) (Nat.mod_lt _ (by decide)) (vb_y6 hN e)).1
  have w7 := (tv_1 (d := d) (Nat.mod_lt _ (by decide)) (vb_y7 hN e)).1
  have C1 : ((Int64.toInt32 d) &&& (2 : Int32)) = (0 : Int32) ↔ ¬ ((jlshr d (1 : Int32)) &&& (1 : Int64)) = (1 : Int64) := by
    rw [vb_m1 e, (tv_1 (d := d) (Nat.mod_lt _ (by decide)) (vb_y1 hN e)).2]
    omega
  have C2 : ((Int64.toInt32 d) &&& (4 : Int32)) = (0 : Int32) ↔ ¬ ((jlshr d (2 : Int32)) &&& (1 : Int64)) = (1 : Int64) := by
    rw [vb_m2 e, (tv_1 (d := d) (Nat.mod_lt _ (by decide)) (vb_y2 hN e)).2]
    omega
  have C3 : ((Int64.toInt32 d) &&& (8 : Int32)) = (0 : Int32) ↔ ¬ ((jlshr d (3 : Int32)) &&& (1 : Int64)) = (1 : Int64) := by
    rw [vb_m3 e, (tv_1 (d := d) (Nat.mod_lt _ (by decide)) (vb_y3 hN e)).2]
    omega
  have A4 : (((Int64.toInt32 d) >>> (((4 : Int32) + (0 : Int32)) &&& (31 : Int32))) &&& (1 : Int32)) = (0 : Int32) ↔ ((jlshr d ((4 : Int32) + (0 : Int32))) &&& (1 : Int64)) = (0 : Int64) := by
    rw [show ((4 : Int32) + (0 : Int32)) = (4 : Int32) by decide, x4, w4]
  have A5 : (((Int64.toInt32 d) >>> (((4 : Int32) + (1 : Int32)) &&& (31 : Int32))) &&& (1 : Int32)) = (0 : Int32) ↔ ((jlshr d ((4 : Int32) + (1 : Int32))) &&& (1 : Int64)) = (0 : Int64) := by
    rw [show ((4 : Int32) + (1 : Int32)) = (5 : Int32) by decide, x5, w5]
  have A6 : (((Int64.toInt32 d) >>> (((6 : Int32) + (0 : Int32)) &&& (31 : Int32))) &&& (1 : Int32)) = (0 : Int32) ↔ ((jlshr d ((6 : Int32) + (0 : Int32))) &&& (1 : Int64)) = (0 : Int64) := by
    rw [show ((6 : Int32) + (0 : Int32)) = (6 : Int32) by decide, x6, w6]
  have A7 : (((Int64.toInt32 d) >>> (((6 : Int32) + (1 : Int32)) &&& (31 : Int32))) &&& (1 : Int32)) = (0 : Int32) ↔ ((jlshr d ((6 : Int32) + (1 : Int32))) &&& (1 : Int64)) = (0 : Int64) := by
    rw [show ((6 : Int32) + (1 : Int32)) = (7 : Int32) by decide, x7, w7]
  by_cases h1 : z3 = (1 : Int32)
  · subst h1
    rw [if_pos rfl, if_neg (show ¬ (1 : Int32) = (0 : Int32) by decide), if_neg (show ¬ (1 : Int32) = (0 : Int32) by decide), if_neg (show ¬ (1 : Int32) = (0 : Int32) by decide), if_pos rfl, if_pos rfl, if_pos rfl]
    rcases h4 with rfl | rfl
    · exact tv_3 A6 B C2 (by decide) (by decide)
    · exact tv_3 A7 B C2 (by decide) (by decide)
  · rw [if_neg h1, if_neg h1, if_neg h1, if_neg h1]
    by_cases h0 : z3 = (0 : Int32)
    · rw [if_pos h0, if_pos h0, if_pos h0]
      rcases h4 with rfl | rfl
      · exact tv_3 A4 B C1 (by decide) (by decide)
      · exact tv_3 A5 B C1 (by decide) (by decide)
    · rw [if_neg h0, if_neg h0, if_neg h0]
      rcases h4 with rfl | rfl
      · exact tv_3 A4 B C3 (by decide) (by decide)
      · exact tv_3 A5 B C3 (by decide) (by decide)
