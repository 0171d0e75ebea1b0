/-! What the reference's walk, buffer and translation keep. -/
def okY (b : Int32) : Prop := 0 ≤ b.toInt ∧ b.toInt ≤ 4
theorem okY_4 : okY ((3 : Int32) + (1 : Int32)) := by unfold okY; decide
theorem ryf_keep_B (z1 : Int32) (z2 : Int64) (ySpc yBuf : Int32) (h : okY yBuf) : ∀ (n : Nat) (k : Int32) (a b : Nat → Int32) (d : Nat → Int64), okY (f_Y_keep_B11 z1 z2 ySpc yBuf n k a b d).1 := by
  intro n
  induction n with
  | zero => intro k a b d; exact h
  | succ n ih =>
    intro k a b d
    rw [f_Y_keep_B11_s]
    exact iteInduction (motive := fun u : Int32 × (Nat → Int32) × (Nat → Int32) × (Nat → Int64) => okY u.1) (fun _ => okY_4) (fun _ => ih _ _ _ _)
theorem ryf_keep {z1 : Int32} {z2 : Int64} {ySpc yBuf : Int32} {yBP yBS : Nat → Int32} {yBW : Nat → Int64} (h : okY yBuf) : okY (f_Y_keep z1 z2 ySpc yBuf yBP yBS yBW).1 := by
  unfold f_Y_keep
  refine iteInduction (motive := fun u : Int32 × (Nat → Int32) × (Nat → Int32) × (Nat → Int64) => okY u.1) (fun _ => ryf_keep_B _ _ _ _ h _ _ _ _ _) (fun hn => ?_)
  have e : ¬ yBuf.toInt = 4 := fun q => hn (Int32.toInt_inj.mp (by rw [q]; decide))
  obtain ⟨h0, h4⟩ := h
  have e1 : (1 : Int32).toInt = 1 := by decide
  have ea := rg_add (x := yBuf) (y := 1) (by rw [e1]; omega) (by rw [e1]; omega)
  rw [e1] at ea
  exact ⟨by show 0 ≤ (yBuf + 1).toInt; omega, by show (yBuf + 1).toInt ≤ 4; omega⟩
theorem ryf_walk_B (z1 ySpc yBuf : Int32) (yMem yBP yBS : Nat → Int32) (yBW : Nat → Int64) (h : okY yBuf) : ∀ (n : Nat) (a k : Int32), okY (f_Y_walk_B7 z1 ySpc yBuf yMem yBP yBS yBW n a k).2.1 := by
  intro n
  induction n with
  | zero => intro a k; exact h
  | succ n ih =>
    intro a k
    rw [f_Y_walk_B7_s]
    refine iteInduction (motive := fun u : Int64 × Int32 × (Nat → Int32) × (Nat → Int32) × (Nat → Int64) => okY u.2.1) (fun _ => ?_) (fun _ => ?_)
    · exact iteInduction (motive := fun u : Int64 × Int32 × (Nat → Int32) × (Nat → Int32) × (Nat → Int64) => okY u.2.1) (fun _ => h) (fun _ => ryf_keep h)
    · exact iteInduction (motive := fun u : Int64 × Int32 × (Nat → Int32) × (Nat → Int32) × (Nat → Int64) => okY u.2.1) (fun _ => h) (fun _ => ih _ _)
theorem ryf_walk {z1 yTab ySpc yBuf : Int32} {yMem yBP yBS : Nat → Int32} {yBW : Nat → Int64} (h : okY yBuf) : okY (f_Y_walk z1 yTab ySpc yBuf yMem yBP yBS yBW).2.1 := ryf_walk_B _ _ _ _ _ _ _ h _ _ _
theorem ry_l32 (x : Int64) : (Int64.toInt32 x).toInt % 256 = x.toInt % 256 := by
  rw [Int64.toInt_toInt32]
  unfold Int.bmod
  dsimp only
  split <;> omega
def pY (v : Int64) (u : Int32 × Int32 × (Nat → Int32) × (Nat → Int32) × (Nat → Int64)) : Prop := (u.1.toInt < 0 ∨ (0 ≤ u.1.toInt ∧ u.1.toInt < 4096 ∧ u.1.toInt % 256 = v.toInt % 256)) ∧ okY u.2.1
theorem ryf_106 {z1 : Int64} {z3 yMod yBuf : Int32} {yBP yBS : Nat → Int32} {yBW : Nat → Int64} {t : Int64} (h : okY yBuf) : pY z1 (f_Y_translate_B106 z1 z3 yMod yBuf yBP yBS yBW t) := by
  unfold f_Y_translate_B106
  refine iteInduction (motive := pY z1) (fun _ => ⟨Or.inl (by show (-2 : Int32).toInt < 0; decide), h⟩) (fun _ => ?_)
  refine iteInduction (motive := pY z1) (fun _ => ⟨Or.inl (by show (-1 : Int32).toInt < 0; decide), h⟩) (fun _ => ?_)
  refine iteInduction (motive := pY z1) (fun _ => ⟨Or.inl ?_, h⟩) (fun _ => ⟨Or.inr ?_, h⟩)
  · show (if z3 = (0 : Int32) then (-4 : Int32) else (if z3 = (1 : Int32) then (-5 : Int32) else (-3 : Int32))).toInt < 0
    split
    · decide
    · split <;> decide
  · show 0 ≤ (((256 : Int32) * (Int64.toInt32 ((jlshr t (32 : Int32)) &&& (15 : Int64)))) + ((Int64.toInt32 z1) &&& (255 : Int32))).toInt ∧ _
    have ha := ry_l15 (jlshr t (32 : Int32))
    have hb := rg_and255 (Int64.toInt32 z1)
    have hm : ((Int64.toInt32 z1) &&& (255 : Int32)).toInt = (Int64.toInt32 z1).toInt % 256 := Jvm.Kit.i32_mask _ 255 (k := 8) (by decide) (by decide)
    have hl := ry_l32 z1
    have e : (256 : Int32).toInt = 256 := by decide
    have em := rg_mul (x := (256 : Int32)) (y := Int64.toInt32 ((jlshr t (32 : Int32)) &&& (15 : Int64))) (by rw [e]; omega) (by rw [e]; omega)
    rw [e] at em
    have es := rg_add (x := (256 : Int32) * (Int64.toInt32 ((jlshr t (32 : Int32)) &&& (15 : Int64)))) (y := (Int64.toInt32 z1) &&& (255 : Int32)) (by omega) (by omega)
    refine ⟨by omega, ?_, ?_⟩
    · show (((256 : Int32) * (Int64.toInt32 ((jlshr t (32 : Int32)) &&& (15 : Int64)))) + ((Int64.toInt32 z1) &&& (255 : Int32))).toInt < 4096
      omega
    · show (((256 : Int32) * (Int64.toInt32 ((jlshr t (32 : Int32)) &&& (15 : Int64)))) + ((Int64.toInt32 z1) &&& (255 : Int32))).toInt % 256 = z1.toInt % 256
      omega
theorem ryf_33 {z1 : Int64} {z3 yMod yTab ySpc yBuf : Int32} {yMem yBP yBS : Nat → Int32} {yBW : Nat → Int64} (h : okY yBuf) (hz0 : 0 ≤ z1.toInt) (hz1 : z1.toInt < 65536) : pY z1 (f_Y_translate_B33 z1 z3 yMod yTab ySpc yBuf yMem yBP yBS yBW) := by
  unfold f_Y_translate_B33
  refine iteInduction (motive := pY z1) (fun _ => ?_) (fun hc => ?_)
  · exact iteInduction (motive := pY z1) (fun _ => ryf_106 (ryf_walk h)) (fun _ => ryf_106 h)
  · refine ⟨?_, h⟩
    show (if (36864 : Int32) ≤ (Int64.toInt32 z1) then (-2 : Int32) else (if yMod = (0 : Int32) then ((Int64.toInt32 z1) - (32768 : Int32)) else (-2 : Int32))).toInt < 0 ∨ (0 ≤ (if (36864 : Int32) ≤ (Int64.toInt32 z1) then (-2 : Int32) else (if yMod = (0 : Int32) then ((Int64.toInt32 z1) - (32768 : Int32)) else (-2 : Int32))).toInt ∧ (if (36864 : Int32) ≤ (Int64.toInt32 z1) then (-2 : Int32) else (if yMod = (0 : Int32) then ((Int64.toInt32 z1) - (32768 : Int32)) else (-2 : Int32))).toInt < 4096 ∧ (if (36864 : Int32) ≤ (Int64.toInt32 z1) then (-2 : Int32) else (if yMod = (0 : Int32) then ((Int64.toInt32 z1) - (32768 : Int32)) else (-2 : Int32))).toInt % 256 = z1.toInt % 256)
    by_cases h1 : (36864 : Int32) ≤ (Int64.toInt32 z1)
    · rw [if_pos h1]
      exact Or.inl (by decide)
    · rw [if_neg h1]
      by_cases h2 : yMod = (0 : Int32)
      · rw [if_pos h2]
        have e : (Int64.toInt32 z1).toInt = z1.toInt := Jvm.Kit.i32_of_i64 (by omega) (by omega)
        have e1 : (36864 : Int32).toInt = 36864 := by decide
        have e2 : (32767 : Int32).toInt = 32767 := by decide
        have e3 : (32768 : Int32).toInt = 32768 := by decide
        rw [Int32.le_iff_toInt_le] at h1 hc
        have es : ((Int64.toInt32 z1) - (32768 : Int32)).toInt = z1.toInt - 32768 := by
          rw [Jvm.Kit.i32_sub (by rw [e3, e]; omega) (by rw [e3, e]; omega), e3, e]
        exact Or.inr ⟨by omega, by omega, by omega⟩
      · rw [if_neg h2]
        exact Or.inl (by decide)
theorem ryf_tr {z1 : Int64} {z3 yMod yTab ySpc yBuf : Int32} {yMem yBP yBS : Nat → Int32} {yBW : Nat → Int64} (h : okY yBuf) : pY z1 (f_Y_translate z1 z3 yMod yTab ySpc yBuf yMem yBP yBS yBW) := by
  unfold f_Y_translate
  refine iteInduction (motive := pY z1) (fun _ => ⟨Or.inl (by show (-2 : Int32).toInt < 0; decide), h⟩) (fun h1 => ?_)
  refine iteInduction (motive := pY z1) (fun _ => ⟨Or.inl (by show (-2 : Int32).toInt < 0; decide), h⟩) (fun h2 => ?_)
  have e0 : (0 : Int64).toInt = 0 := by decide
  have e1 : (65535 : Int64).toInt = 65535 := by decide
  rw [Int64.lt_iff_toInt_lt] at h1 h2
  refine iteInduction (motive := pY z1) (fun _ => ryf_33 h (by omega) (by omega)) (fun _ => ?_)
  exact iteInduction (motive := pY z1) (fun _ => ryf_33 h (by omega) (by omega)) (fun _ => ⟨Or.inl (by show (-2 : Int32).toInt < 0; decide), h⟩)
theorem ry_m8 (x y : Int64) : (x + y).toInt % 8 = (x.toInt + y.toInt) % 8 := by
  rw [Int64.toInt_add]
  unfold Int.bmod
  dsimp only
  split <;> omega
theorem ry_m8s (x y : Int64) : (x - y).toInt % 8 = (x.toInt - y.toInt) % 8 := by
  rw [Int64.toInt_sub]
  unfold Int.bmod
  dsimp only
  split <;> omega
theorem ry_m4 (x y : Int64) : (x + y).toInt % 4 = (x.toInt + y.toInt) % 4 := by
  rw [Int64.toInt_add]
  unfold Int.bmod
  dsimp only
  split <;> omega
theorem ry_q8 {q : Int32} (h0 : 0 ≤ q.toInt) (h1 : q.toInt < 64) : (Int32.toInt64 ((8 : Int32) * q)).toInt = 8 * q.toInt := by
  have e8 : (8 : Int32).toInt = 8 := by decide
  rw [Jvm.Kit.i64_of_i32, rg_mul (by rw [e8]; omega) (by rw [e8]; omega), e8]
theorem ry_v8 {x : Int64} {q : Int32} (h : x.toInt % 8 = 0) (h0 : 0 ≤ q.toInt) (h1 : q.toInt < 64) : ((x - (48 : Int64)) + (Int32.toInt64 ((8 : Int32) * q))).toInt % 8 = 0 := by
  have e := ry_q8 h0 h1
  have e48 : (48 : Int64).toInt = 48 := by decide
  have e1 := ry_m8s x 48
  rw [e48] at e1
  have e2 := ry_m8 (x - 48) (Int32.toInt64 ((8 : Int32) * q))
  omega
theorem ry_v8b {x : Int64} {q : Int32} (h : x.toInt % 8 = 0) (h0 : 0 ≤ q.toInt) (h1 : q.toInt < 64) : (x + (Int32.toInt64 ((8 : Int32) * q))).toInt % 8 = 0 := by
  have e := ry_q8 h0 h1
  have e2 := ry_m8 x (Int32.toInt64 ((8 : Int32) * q))
  omega
/-- a place that is there, of a place in memory that 8 (4) divides -/
theorem ry_at8 {v : Int64} {r : Int32 × Int32 × (Nat → Int32) × (Nat → Int32) × (Nat → Int64)} (hp : pY v r) (hv : v.toInt % 8 = 0) (h : 0 ≤ r.1.toInt) : r.1.toInt + (8 : Int32).toInt ≤ 4096 := by
  have e8 : (8 : Int32).toInt = 8 := by decide
  rcases hp.1 with h1 | h1 <;> omega
theorem ry_at4 {v : Int64} {r : Int32 × Int32 × (Nat → Int32) × (Nat → Int32) × (Nat → Int64)} (hp : pY v r) (hv : v.toInt % 4 = 0) (h : 0 ≤ r.1.toInt) : r.1.toInt + (4 : Int32).toInt ≤ 4096 := by
  have e4 : (4 : Int32).toInt = 4 := by decide
  rcases hp.1 with h1 | h1 <;> omega
theorem ry_al {x : Int64} (h : ¬ (if (x - x / (8 : Int64) * (8 : Int64)) = (0 : Int64) then (1 : Int32) else (0 : Int32)) = (0 : Int32)) : x.toInt % 8 = 0 := by
  split at h
  · rename_i h1
    have h2 := Jvm.Kit.i64_rem x 8
    rw [h1] at h2
    have e8 : (8 : Int64).toInt = 8 := by decide
    have e0 : (0 : Int64).toInt = 0 := by decide
    rw [e8, e0] at h2
    have h3 : (8 : Int) ∣ x.toInt := Int.dvd_of_tmod_eq_zero h2.symm
    omega
  · exact absurd rfl h
theorem ry_g {r : Int32} (h : ¬ (if r < (0 : Int32) then (0 : Int32) else (1 : Int32)) = (0 : Int32)) : 0 ≤ r.toInt := by
  split at h
  · exact absurd rfl h
  · rename_i h1
    exact rg_nn h1
theorem ry_e1 {q : Int32} (h0 : 0 ≤ q.toInt) (h : ¬ (3 : Int32) ≤ q) : vp_in ((16 : Int32) + q) 32 := by
  have h := rg_lt h
  have e3 : (3 : Int32).toInt = 3 := by decide
  have e16 : (16 : Int32).toInt = 16 := by decide
  have e := rg_add (x := (16 : Int32)) (y := q) (by omega) (by omega)
  exact qa_inI (by omega) (by omega)
theorem ry_e2 {q : Int32} (h0 : 0 ≤ q.toInt) (h : ¬ (3 : Int32) ≤ q) : vp_in ((3 : Int32) + q) 6 := by
  have h := rg_lt h
  have e3 : (3 : Int32).toInt = 3 := by decide
  have e := rg_add (x := (3 : Int32)) (y := q) (by omega) (by omega)
  exact qa_inI (by omega) (by omega)
