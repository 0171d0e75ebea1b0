/-! The buffer. -/
theorem bu_same (z s c : Int32) (p q : Nat → Int32) : ∀ (n : Nat) (k : Int32), f_Y_buffered_B2 z s c p q n k = f_X2_find_B2 z c s p q n k := by
  intro n
  induction n with
  | zero => intro k; rfl
  | succ n ih => intro k; rw [f_Y_buffered_B2_s, f_X2_find_B2_s, ih]
theorem bu_eq (z s c : Int32) (p q : Nat → Int32) : f_Y_buffered z s c p q = f_X2_find z c s p q := bu_same z s c p q 5 0
theorem bu_self {x : Int32} (h : 0 ≤ x.toInt) : nI x.toNatClampNeg = x := by
  have hb := rg_bd x
  apply Int32.toInt_inj.mp
  have e : x.toNatClampNeg = x.toInt.toNat := rfl
  rw [nI_toInt (by omega)]
  omega
theorem bu_find_B (z s : Int32) (p q : Nat → Int32) {c : Nat} (hc : c ≤ 4) : ∀ (n k : Nat), k ≤ c → c - k < n → (∃ i, k ≤ i ∧ i < c ∧ p i = z ∧ q i = s ∧ f_X2_find_B2 z (nI c) s p q n (nI k) = nI i) ∨ ((∀ i, k ≤ i → i < c → ¬ (p i = z ∧ q i = s)) ∧ f_X2_find_B2 z (nI c) s p q n (nI k) = -1) := by
  intro n
  induction n with
  | zero => intro k hk h; omega
  | succ n ih =>
    intro k hk h
    rw [f_X2_find_B2_s]
    by_cases hkc : c ≤ k
    · rw [if_pos (nI_le hkc (by omega))]
      exact Or.inr ⟨fun i h1 h2 => by omega, rfl⟩
    · rw [if_neg (nI_ge (by omega) (by omega)), nI_clamp (by omega)]
      have e1 : nI k + (1 : Int32) = nI (k + 1) := nI_1 k
      rw [e1]
      have hr := ih (k + 1) (by omega) (by omega)
      have step : ¬ (p k = z ∧ q k = s) → (∃ i, k ≤ i ∧ i < c ∧ p i = z ∧ q i = s ∧ f_X2_find_B2 z (nI c) s p q n (nI (k + 1)) = nI i) ∨ ((∀ i, k ≤ i → i < c → ¬ (p i = z ∧ q i = s)) ∧ f_X2_find_B2 z (nI c) s p q n (nI (k + 1)) = -1) := by
        intro hno
        rcases hr with ⟨i, h1, h2, h3, h4, h5⟩ | ⟨h1, h2⟩
        · exact Or.inl ⟨i, by omega, h2, h3, h4, h5⟩
        · refine Or.inr ⟨fun i g1 g2 => ?_, h2⟩
          by_cases hi : i = k
          · subst hi
            exact hno
          · exact h1 i (by omega) g2
      by_cases hp : p k = z
      · rw [if_pos hp]
        by_cases hq : q k = s
        · rw [if_pos hq]
          exact Or.inl ⟨k, Nat.le_refl _, by omega, hp, hq, rfl⟩
        · rw [if_neg hq]
          exact step (fun g => hq g.2)
      · rw [if_neg hp]
        exact step (fun g => hp g.1)
theorem bu_find (z s : Int32) (p q : Nat → Int32) {c : Nat} (hc : c ≤ 4) : (∃ i, i < c ∧ p i = z ∧ q i = s ∧ f_X2_find z (nI c) s p q = nI i) ∨ ((∀ i, i < c → ¬ (p i = z ∧ q i = s)) ∧ f_X2_find z (nI c) s p q = -1) := by
  rcases bu_find_B z s p q hc 5 0 (by omega) (by omega) with ⟨i, _, h2, h3, h4, h5⟩ | ⟨h1, h2⟩
  · exact Or.inl ⟨i, h2, h3, h4, h5⟩
  · exact Or.inr ⟨fun i hi => h1 i (by omega) hi, h2⟩
theorem bu_pos {i : Nat} (h : i < 4) : ¬ nI i < (0 : Int32) := nI_pos (by omega)
theorem bu_m1 : (-1 : Int32) < (0 : Int32) := by decide
/-- both sides find, or both don't; what they find is the same descriptor -/
theorem bu_sim {mOld mCnt : Int32} {mP mS : Nat → Int32} {mD : Nat → Int64} {yBP yBS : Nat → Int32} {yBW : Nat → Int64} (hM : okM mOld mCnt) (hb : RB mOld mCnt mP mS mD yBP yBS yBW) (z s : Int32) :
    ((f_X2_find z mCnt s mP mS < (0 : Int32)) ↔ (f_X2_find z mCnt s yBP yBS < (0 : Int32))) ∧ (¬ f_X2_find z mCnt s mP mS < (0 : Int32) → mD (Int32.toNatClampNeg (f_X2_find z mCnt s mP mS)) = yBW (Int32.toNatClampNeg (f_X2_find z mCnt s yBP yBS))) ∧
    (f_X2_find z mCnt s mP mS < (0 : Int32) → ∀ i : Nat, (i : Int) < mCnt.toInt → ¬ (mP i = z ∧ mS i = s)) := by
  obtain ⟨⟨hc0, hc4⟩, ho0, ho4⟩ := hM
  obtain ⟨hb1, hb2, hb3⟩ := hb
  obtain ⟨c, ec, hc⟩ : ∃ c : Nat, mCnt = nI c ∧ (c : Int) = mCnt.toInt := ⟨mCnt.toNatClampNeg, (bu_self hc0).symm, by show (mCnt.toInt.toNat : Int) = _; omega⟩
  obtain ⟨o, ho⟩ : ∃ o : Nat, mOld.toNatClampNeg = o := ⟨_, rfl⟩
  have hoi : (o : Int) = mOld.toInt := by
    rw [← ho]
    show (mOld.toInt.toNat : Int) = _
    omega
  rw [ho] at hb2
  have ho' : c < 4 → o = 0 := fun h => by
    have h1 := hb1 (by omega)
    rw [h1] at hoi
    have e0 : (0 : Int32).toInt = 0 := by decide
    omega
  have slot : ∀ k, k < c → (o + k) % 4 < c := fun k hk => by
    by_cases h4 : c < 4
    · rw [ho' h4]
      omega
    · omega
  rw [ec]
  have hcn : c ≤ 4 := by omega
  rcases bu_find z s mP mS hcn with ⟨i, h1, h2, h3, h4⟩ | ⟨h1, h4⟩
  · rcases bu_find z s yBP yBS hcn with ⟨k, g1, g2, g3, g4⟩ | ⟨g1, g4⟩
    · rw [h4, g4]
      refine ⟨⟨fun q => absurd q (bu_pos (by omega)), fun q => absurd q (bu_pos (by omega))⟩, fun _ => ?_, fun q => absurd q (bu_pos (by omega))⟩
      obtain ⟨a1, a2, a3⟩ := hb2 k (by omega)
      have hs := slot k g1
      have e := hb3 i ((o + k) % 4) (by omega) (by omega) (by rw [h2, ← a1, g2]) (by rw [h3, ← a2, g3])
      rw [nI_clamp (by omega), nI_clamp (by omega), a3, ← e]
    · exfalso
      by_cases h5 : c < 4
      · have e := ho' h5
        obtain ⟨a1, a2, a3⟩ := hb2 i (by omega)
        rw [e, Nat.zero_add, Nat.mod_eq_of_lt (by omega)] at a1 a2
        exact g1 i h1 ⟨by rw [a1, h2], by rw [a2, h3]⟩
      · obtain ⟨a1, a2, a3⟩ := hb2 ((i + 4 - o) % 4) (by omega)
        have e : (o + (i + 4 - o) % 4) % 4 = i := by omega
        rw [e] at a1 a2
        exact g1 ((i + 4 - o) % 4) (by omega) ⟨by rw [a1, h2], by rw [a2, h3]⟩
  · rcases bu_find z s yBP yBS hcn with ⟨k, g1, g2, g3, g4⟩ | ⟨g1, g4⟩
    · exfalso
      obtain ⟨a1, a2, a3⟩ := hb2 k (by omega)
      exact h1 ((o + k) % 4) (slot k g1) ⟨by rw [← a1, g2], by rw [← a2, g3]⟩
    · rw [h4, g4]
      refine ⟨Iff.rfl, fun q => absurd bu_m1 q, fun _ i hi => h1 i ?_⟩
      rw [← ec] at hi
      omega
theorem bu_uq {c t : Nat} {z s : Int32} {p q : Nat → Int32} (hu : ∀ i j : Nat, i < c → j < c → p i = p j → q i = q j → i = j) (hn : ∀ i, i < c → ¬ (p i = z ∧ q i = s)) : ∀ i j : Nat, (i < c ∨ i = t) → (j < c ∨ j = t) → upd p t z i = upd p t z j → upd q t s i = upd q t s j → i = j := by
  intro i j hi hj h1 h2
  by_cases ei : i = t
  · by_cases ej : j = t
    · rw [ei, ej]
    · rw [ei, pk_us, pk_un ej] at h1
      rw [ei, pk_us, pk_un ej] at h2
      exact absurd ⟨h1.symm, h2.symm⟩ (hn j (hj.resolve_right ej))
  · by_cases ej : j = t
    · rw [ej, pk_us, pk_un ei] at h1
      rw [ej, pk_us, pk_un ei] at h2
      exact absurd ⟨h1, h2⟩ (hn i (hi.resolve_right ei))
    · rw [pk_un ei, pk_un ej] at h1
      rw [pk_un ei, pk_un ej] at h2
      exact hu i j (hi.resolve_right ei) (hj.resolve_right ej) h1 h2
theorem bu_k4 (z : Int32) (d : Int64) (s c : Int32) (a b : Nat → Int32) (e : Nat → Int64) : f_Y_keep_B11 z d s c 4 (0 : Int32) a b e = (((3 : Int32) + (1 : Int32)), (upd (upd (upd (upd a 0 (a 1)) 1 ((upd a 0 (a 1)) 2)) 2 ((upd (upd a 0 (a 1)) 1 ((upd a 0 (a 1)) 2)) 3)) 3 z), (upd (upd (upd (upd b 0 (b 1)) 1 ((upd b 0 (b 1)) 2)) 2 ((upd (upd b 0 (b 1)) 1 ((upd b 0 (b 1)) 2)) 3)) 3 s), (vp_updL (vp_updL (vp_updL (vp_updL e 0 (e 1)) 1 ((vp_updL e 0 (e 1)) 2)) 2 ((vp_updL (vp_updL e 0 (e 1)) 1 ((vp_updL e 0 (e 1)) 2)) 3)) 3 d)) := by
  rw [f_Y_keep_B11_s, if_neg (by decide), f_Y_keep_B11_s, if_neg (by decide), f_Y_keep_B11_s, if_neg (by decide), f_Y_keep_B11_s, if_pos (by decide)]
  rfl
theorem bu_sh (a : Nat → Int32) (z : Int32) : ∀ k : Nat, k < 4 → (upd (upd (upd (upd a 0 (a 1)) 1 ((upd a 0 (a 1)) 2)) 2 ((upd (upd a 0 (a 1)) 1 ((upd a 0 (a 1)) 2)) 3)) 3 z) k = if k = 3 then z else a (k + 1) := by
  intro k hk
  rcases (show k = 0 ∨ k = 1 ∨ k = 2 ∨ k = 3 by omega) with rfl | rfl | rfl | rfl <;> rfl
theorem bu_shL (a : Nat → Int64) (z : Int64) : ∀ k : Nat, k < 4 → (vp_updL (vp_updL (vp_updL (vp_updL a 0 (a 1)) 1 ((vp_updL a 0 (a 1)) 2)) 2 ((vp_updL (vp_updL a 0 (a 1)) 1 ((vp_updL a 0 (a 1)) 2)) 3)) 3 z) k = if k = 3 then z else a (k + 1) := by
  intro k hk
  rcases (show k = 0 ∨ k = 1 ∨ k = 2 ∨ k = 3 by omega) with rfl | rfl | rfl | rfl <;> rfl
