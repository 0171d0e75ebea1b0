/-! The pending interrupts, alike. -/
theorem iq_u {iL iN : Nat → Int32} (h : okQ iL iN) (k a : Nat) : okQ (upd iL k (iL a)) (upd iN k (iN a)) := by
  intro j
  unfold upd
  by_cases e : j = k
  · rw [if_pos e, if_pos e]
    exact h a
  · rw [if_neg e, if_neg e]
    exact h j
theorem iq_v {iL iN : Nat → Int32} (h : okQ iL iN) (k : Nat) {x y : Int32} (hx : 0 ≤ x.toInt ∧ x.toInt < 8) (hy : 0 ≤ y.toInt ∧ y.toInt < 256) : okQ (upd iL k x) (upd iN k y) := by
  intro j
  unfold upd
  by_cases e : j = k
  · rw [if_pos e, if_pos e]
    exact ⟨hx, hy⟩
  · rw [if_neg e, if_neg e]
    exact h j
theorem iq_rem (c : Int32) : ∀ (n : Nat) (k : Int32) (l m : Nat → Int32), okQ l m → okQ (f_X1_remove_B12 c n k l m).2.1 (f_X1_remove_B12 c n k l m).2.2 := by
  intro n
  induction n with
  | zero => intro k l m h; exact h
  | succ n ih =>
    intro k l m h
    rw [f_X1_remove_B12_s]
    by_cases hc : (c - (1 : Int32)) ≤ k
    · rw [if_pos hc]
      exact h
    · rw [if_neg hc]
      exact ih _ _ _ (iq_u h _ _)
theorem iq_take (c lev : Int32) (l m : Nat → Int32) {cc : Nat} (hcc : c = nI cc) (hc4 : cc ≤ 4) : ∀ (n j : Nat) (k2 k3 : Int32), cc - j < n → j ≤ cc → ((k2 = -1 ∧ k3 = lev) ∨ (0 ≤ k2.toInt ∧ k3 = l (Int32.toNatClampNeg k2) ∧ lev.toInt < (l (Int32.toNatClampNeg k2)).toInt)) →
    f_X1_takeAbove_B7 c l m n k2 k3 (nI j) = (if f_Y_due_B4 lev c l n k2 (nI j) < (0 : Int32) then ((-1 : Int32), c, l, m) else ((((256 : Int32) * (l (Int32.toNatClampNeg (f_Y_due_B4 lev c l n k2 (nI j))))) + (m (Int32.toNatClampNeg (f_Y_due_B4 lev c l n k2 (nI j))))), (f_X1_remove (f_Y_due_B4 lev c l n k2 (nI j)) c l m).1, (f_X1_remove (f_Y_due_B4 lev c l n k2 (nI j)) c l m).2.1, (f_X1_remove (f_Y_due_B4 lev c l n k2 (nI j)) c l m).2.2)) := by
  intro n
  induction n with
  | zero => intro j k2 k3 h; omega
  | succ n ih =>
    intro j k2 k3 hn hj hk
    rw [f_X1_takeAbove_B7_s, f_Y_due_B4_s]
    by_cases h1 : cc ≤ j
    · have h2 : c ≤ nI j := by rw [hcc]; exact nI_le h1 (by omega)
      rw [if_pos h2, if_pos h2]
      rcases hk with ⟨e1, e2⟩ | ⟨e1, e2, e3⟩
      · subst e1
        rw [if_neg (show ¬ (0 : Int32) ≤ (-1 : Int32) by decide), if_pos (show (-1 : Int32) < (0 : Int32) by decide)]
      · have g : (0 : Int32) ≤ k2 := by
          rw [Int32.le_iff_toInt_le]
          exact e1
        rw [if_pos g, if_neg (Int32.not_lt.mpr g), e2]
    · have h2 : ¬ c ≤ nI j := by rw [hcc]; exact nI_ge (by omega) (by omega)
      rw [if_neg h2, if_neg h2, show nI j + (1 : Int32) = nI (j + 1) from nI_1 j]
      have hj0 : 0 ≤ (nI j).toInt := by rw [nI_toInt (by omega)]; omega
      by_cases a1 : (l (Int32.toNatClampNeg (nI j))) ≤ lev
      · rw [if_pos a1]
        have a2 : (l (Int32.toNatClampNeg (nI j))) ≤ k3 := by
          rcases hk with ⟨e1, e2⟩ | ⟨e1, e2, e3⟩
          · rw [e2]; exact a1
          · rw [e2]
            rw [Int32.le_iff_toInt_le] at a1 ⊢
            omega
        rw [if_pos a2]
        exact ih (j + 1) k2 k3 (by omega) (by omega) hk
      · rw [if_neg a1]
        have a3 : lev.toInt < (l (Int32.toNatClampNeg (nI j))).toInt := by
          rw [Int32.le_iff_toInt_le] at a1
          omega
        rcases hk with ⟨e1, e2⟩ | ⟨e1, e2, e3⟩
        · have g : k2 < (0 : Int32) := by rw [e1]; decide
          have a2 : ¬ (l (Int32.toNatClampNeg (nI j))) ≤ k3 := by rw [e2]; exact a1
          rw [if_pos g, if_neg a2]
          exact ih (j + 1) (nI j) _ (by omega) (by omega) (Or.inr ⟨hj0, rfl, a3⟩)
        · have g : ¬ k2 < (0 : Int32) := by
            rw [Int32.lt_iff_toInt_lt]
            have : (0 : Int32).toInt = 0 := by decide
            omega
          rw [if_neg g, e2]
          by_cases a4 : (l (Int32.toNatClampNeg (nI j))) ≤ (l (Int32.toNatClampNeg k2))
          · rw [if_pos a4, if_pos a4]
            exact ih (j + 1) k2 _ (by omega) (by omega) (Or.inr ⟨e1, rfl, e3⟩)
          · rw [if_neg a4, if_neg a4]
            exact ih (j + 1) (nI j) _ (by omega) (by omega) (Or.inr ⟨hj0, rfl, a3⟩)
theorem iq_dec {a b : Int32} (ha : 0 ≤ a.toInt ∧ a.toInt < 8) (hb : 0 ≤ b.toInt ∧ b.toInt < 256) : (((256 : Int32) * a) + b).toInt = 256 * a.toInt + b.toInt ∧ (((256 : Int32) * a) + b) >>> ((8 : Int32) &&& (31 : Int32)) = a ∧ (((256 : Int32) * a) + b) &&& (255 : Int32) = b := by
  have e32 : (256 : Int32).toInt = 256 := by decide
  have em := rg_mul (x := (256 : Int32)) (y := a) (by rw [e32]; omega) (by rw [e32]; omega)
  rw [e32] at em
  have ea := rg_add (x := (256 : Int32) * a) (y := b) (by omega) (by omega)
  rw [em] at ea
  refine ⟨ea, ?_, ?_⟩
  · apply Int32.toInt_inj.mp
    rw [rg_shr _ ((8 : Int32) &&& (31 : Int32)) 8 (by decide), ea]
    omega
  · apply Int32.toInt_inj.mp
    rw [Jvm.Kit.i32_mask _ 255 (k := 8) (by decide) (by decide), ea]
    omega
theorem iq_due (lev c : Int32) (l : Nat → Int32) {cc : Nat} (hcc : c = nI cc) (hc4 : cc ≤ 4) : ∀ (n j : Nat) (k : Int32), cc - j < n → j ≤ cc → (k = -1 ∨ 0 ≤ k.toInt) → f_Y_due_B4 lev c l n k (nI j) = -1 ∨ 0 ≤ (f_Y_due_B4 lev c l n k (nI j)).toInt := by
  intro n
  induction n with
  | zero => intro j k h; omega
  | succ n ih =>
    intro j k hn hj hk
    rw [f_Y_due_B4_s]
    have hj0 : 0 ≤ (nI j).toInt := by rw [nI_toInt (by omega)]; omega
    by_cases h1 : cc ≤ j
    · rw [if_pos (show c ≤ nI j by rw [hcc]; exact nI_le h1 (by omega))]
      exact hk
    · rw [if_neg (show ¬ c ≤ nI j by rw [hcc]; exact nI_ge (by omega) (by omega)), show nI j + (1 : Int32) = nI (j + 1) from nI_1 j]
      have p1 := ih (j + 1) k (by omega) (by omega) hk
      have p2 := ih (j + 1) (nI j) (by omega) (by omega) (Or.inr hj0)
      by_cases a1 : (l (Int32.toNatClampNeg (nI j))) ≤ lev
      · rw [if_pos a1]; exact p1
      · rw [if_neg a1]
        by_cases a2 : k < (0 : Int32)
        · rw [if_pos a2]; exact p2
        · rw [if_neg a2]
          by_cases a3 : (l (Int32.toNatClampNeg (nI j))) ≤ (l (Int32.toNatClampNeg k))
          · rw [if_pos a3]; exact p1
          · rw [if_neg a3]; exact p2
