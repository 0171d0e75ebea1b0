/-! Public methods that touch neither memory nor buffer: the two functions are one. -/
theorem pa_and31 {z : Int32} (h0 : 0 ≤ z.toInt) (h1 : z.toInt < 32) : z &&& (31 : Int32) = z := by
  have h : (z &&& (31 : Int32)).toInt = z.toInt % 32 := Jvm.Kit.i32_mask z 31 (k := 5) (by decide) (by decide)
  exact Int32.toInt_inj.mp (by omega)
theorem pa_put (z1 : Int32) (z2 a b : Int64) (r : Nat → Int64) : f_X4_put z1 z2 a b r = f_Y_put z1 z2 a b r := by
  unfold f_X4_put f_Y_put f_X4_put_K47_1 f_X4_write
  by_cases h1 : z1 < (0 : Int32)
  · rw [if_pos h1, if_pos h1]
  · rw [if_neg h1, if_neg h1]
    by_cases h2 : z1 ≤ (33 : Int32)
    · rw [if_pos h2, if_pos h2]
      by_cases h3 : z1 = (32 : Int32)
      · subst h3
        rfl
      · rw [if_neg h3, if_neg h3, if_neg h3]
        by_cases h4 : z1 = (33 : Int32)
        · subst h4
          rfl
        · rw [if_neg h4, if_neg h4, if_neg h4]
          have g1 := rg_nn h1
          by_cases h5 : (31 : Int32) ≤ z1
          · rw [if_pos h5]
            rw [Int32.le_iff_toInt_le] at h2 h5
            have e31 : (31 : Int32).toInt = 31 := by decide
            have e33 : (33 : Int32).toInt = 33 := by decide
            have n3 : ¬ z1.toInt = 32 := fun q => h3 (Int32.toInt_inj.mp (by rw [q]; decide))
            have n4 : ¬ z1.toInt = 33 := fun q => h4 (Int32.toInt_inj.mp (by rw [q]; decide))
            have e : z1 = 31 := Int32.toInt_inj.mp (by omega)
            rw [if_pos e]
          · rw [if_neg h5]
            have g2 := rg_lt h5
            have e31 : (31 : Int32).toInt = 31 := by decide
            rw [if_neg (fun q => by rw [q] at g2; omega), pa_and31 g1 (by omega)]
    · rw [if_neg h2, if_neg h2]
theorem pa_interrupt (z1 z2 c : Int32) (l n : Nat → Int32) (hc : okI c) : f_X4_interrupt z1 z2 c l n = f_Y_interrupt z1 z2 c l n := by
  unfold f_X4_interrupt f_Y_interrupt f_X4_interrupt_K30_1 f_X1_add
  by_cases h1 : z1 < (1 : Int32)
  · rw [if_pos h1, if_pos h1]
  · rw [if_neg h1, if_neg h1]
    by_cases h2 : (7 : Int32) < z1
    · rw [if_pos h2, if_pos h2]
    · rw [if_neg h2, if_neg h2]
      by_cases h3 : z2 < (0 : Int32)
      · rw [if_pos h3, if_pos h3]
      · rw [if_neg h3, if_neg h3]
        have e255 : (255 : Int32).toInt = 255 := by decide
        by_cases h4 : z2 ≤ (255 : Int32)
        · have h4' : ¬ (255 : Int32) < z2 := by
            rw [Int32.le_iff_toInt_le] at h4
            rw [Int32.lt_iff_toInt_lt]
            omega
          rw [if_pos h4, if_neg h4']
          obtain ⟨hc0, hc4⟩ := hc
          have e4 : (4 : Int32).toInt = 4 := by decide
          by_cases h5 : c = (4 : Int32)
          · have h5' : ¬ c < (4 : Int32) := by
              rw [Int32.lt_iff_toInt_lt, h5]
              omega
            rw [if_neg h5', if_pos h5]
          · have h5' : c < (4 : Int32) := by
              rw [Int32.lt_iff_toInt_lt]
              have : ¬ c.toInt = 4 := fun q => h5 (Int32.toInt_inj.mp (by rw [q]; decide))
              omega
            rw [if_pos h5', if_neg h5]
        · have h4' : (255 : Int32) < z2 := by
            rw [Int32.le_iff_toInt_le] at h4
            rw [Int32.lt_iff_toInt_lt]
            omega
          rw [if_neg h4, if_pos h4']
theorem pa_intI {z1 z2 c : Int32} {l n : Nat → Int32} (hc : okI c) : okI (f_Y_interrupt z1 z2 c l n).2.1 := by
  unfold f_Y_interrupt
  refine iteInduction (motive := fun u : Int32 × Int32 × (Nat → Int32) × (Nat → Int32) => okI u.2.1) (fun _ => hc) (fun _ => ?_)
  refine iteInduction (motive := fun u : Int32 × Int32 × (Nat → Int32) × (Nat → Int32) => okI u.2.1) (fun _ => hc) (fun _ => ?_)
  refine iteInduction (motive := fun u : Int32 × Int32 × (Nat → Int32) × (Nat → Int32) => okI u.2.1) (fun _ => hc) (fun _ => ?_)
  refine iteInduction (motive := fun u : Int32 × Int32 × (Nat → Int32) × (Nat → Int32) => okI u.2.1) (fun _ => hc) (fun _ => ?_)
  refine iteInduction (motive := fun u : Int32 × Int32 × (Nat → Int32) × (Nat → Int32) => okI u.2.1) (fun _ => hc) (fun hn => ?_)
  have e : ¬ c.toInt = 4 := fun q => hn (Int32.toInt_inj.mp (by rw [q]; decide))
  obtain ⟨h0, h4⟩ := hc
  have e1 : (1 : Int32).toInt = 1 := by decide
  have ea := rg_add (x := c) (y := 1) (by rw [e1]; omega) (by rw [e1]; omega)
  rw [e1] at ea
  exact ⟨by show 0 ≤ (c + 1).toInt; omega, by show (c + 1).toInt ≤ 4; omega⟩
theorem pa_al (x : Int64) : (x &&& (-4 : Int64)).toInt % 4 = 0 := by
  have h : ((x &&& (-4 : Int64)) &&& (3 : Int64)).toInt = (x &&& (-4 : Int64)).toInt % 4 := Jvm.Kit.i64_mask _ 3 (k := 2) (by decide) (by decide)
  have e : (x &&& (-4 : Int64)) &&& (3 : Int64) = 0 := by
    rw [Int64.and_assoc, show (-4 : Int64) &&& (3 : Int64) = 0 by decide, Int64.and_zero]
  rw [e] at h
  have e0 : (0 : Int64).toInt = 0 := by decide
  omega
theorem pa_putP {z1 : Int32} {z2 a b : Int64} {r : Nat → Int64} (h : a.toInt % 4 = 0) : (f_Y_put z1 z2 a b r).2.1.toInt % 4 = 0 := by
  unfold f_Y_put
  have ha := pa_al z2
  repeat' first | exact h | exact ha | refine iteInduction (motive := fun u : Int32 × Int64 × Int64 × (Nat → Int64) => u.2.1.toInt % 4 = 0) (fun _ => ?_) (fun _ => ?_)
theorem pa_register (z1 : Int32) (a b c d e : Int64) (r v : Nat → Int64) (t s : Int32) : f_X4_register z1 a b c d e r v t s = f_Y_register z1 a b c d e t s r v := by
  have e45 : ((45 : Int32) < z1) = ((46 : Int32) ≤ z1) := by
    have h1 : (45 : Int32).toInt = 45 := by decide
    have h2 : (46 : Int32).toInt = 46 := by decide
    apply propext
    rw [Int32.lt_iff_toInt_lt, Int32.le_iff_toInt_le]
    omega
  unfold f_X4_register f_Y_register
  simp only [e45]
