/-! Memory: bytes of words. -/
theorem me_step {A b : Nat} (hb : b < 256) (h : A * 256 + b < 2 ^ 64) : (jlshl (lN A) (8 : Int32)) ||| Int32.toInt64 (nI b) = lN (A * 256 + b) := by
  have h1 : jlshl (lN A) (8 : Int32) = lN (A * 256) := wb_shl A (k := 8) (by omega)
  rw [h1, nI_l (by omega)]
  exact g_or (k := 8) (p := 256) rfl hb h
theorem me_idx {a k : Int32} (h0 : 0 ≤ a.toInt) (hk : 0 ≤ k.toInt) (h : a.toInt + k.toInt < 2147483648) : (a + k).toNatClampNeg = a.toNatClampNeg + k.toNatClampNeg := by
  have e := rg_add (x := a) (y := k) (by omega) (by omega)
  show (a + k).toInt.toNat = a.toInt.toNat + k.toInt.toNat
  omega
theorem me_u8 (a : Int32) (f : Nat → Int32) : f_Y_bytes a (8 : Int32) f = (jlshl ((jlshl ((jlshl ((jlshl ((jlshl ((jlshl ((jlshl ((jlshl (lN 0) (8 : Int32)) ||| Int32.toInt64 (f (Int32.toNatClampNeg (a + (7 : Int32))))) (8 : Int32)) ||| Int32.toInt64 (f (Int32.toNatClampNeg (a + (6 : Int32))))) (8 : Int32)) ||| Int32.toInt64 (f (Int32.toNatClampNeg (a + (5 : Int32))))) (8 : Int32)) ||| Int32.toInt64 (f (Int32.toNatClampNeg (a + (4 : Int32))))) (8 : Int32)) ||| Int32.toInt64 (f (Int32.toNatClampNeg (a + (3 : Int32))))) (8 : Int32)) ||| Int32.toInt64 (f (Int32.toNatClampNeg (a + (2 : Int32))))) (8 : Int32)) ||| Int32.toInt64 (f (Int32.toNatClampNeg (a + (1 : Int32))))) (8 : Int32)) ||| Int32.toInt64 (f (Int32.toNatClampNeg (a + (0 : Int32)))) := by
  unfold f_Y_bytes
  rw [f_Y_bytes_B7_s, if_neg (by decide), f_Y_bytes_B7_s, if_neg (by decide), f_Y_bytes_B7_s, if_neg (by decide), f_Y_bytes_B7_s, if_neg (by decide), f_Y_bytes_B7_s, if_neg (by decide), f_Y_bytes_B7_s, if_neg (by decide), f_Y_bytes_B7_s, if_neg (by decide), f_Y_bytes_B7_s, if_neg (by decide), f_Y_bytes_B7_s, if_pos (by decide)]
  rfl
theorem me_u4 (a : Int32) (f : Nat → Int32) : f_Y_bytes a (4 : Int32) f = (jlshl ((jlshl ((jlshl ((jlshl (lN 0) (8 : Int32)) ||| Int32.toInt64 (f (Int32.toNatClampNeg (a + (3 : Int32))))) (8 : Int32)) ||| Int32.toInt64 (f (Int32.toNatClampNeg (a + (2 : Int32))))) (8 : Int32)) ||| Int32.toInt64 (f (Int32.toNatClampNeg (a + (1 : Int32))))) (8 : Int32)) ||| Int32.toInt64 (f (Int32.toNatClampNeg (a + (0 : Int32)))) := by
  unfold f_Y_bytes
  rw [f_Y_bytes_B7_s, if_neg (by decide), f_Y_bytes_B7_s, if_neg (by decide), f_Y_bytes_B7_s, if_neg (by decide), f_Y_bytes_B7_s, if_neg (by decide), f_Y_bytes_B7_s, if_pos (by decide)]
  rfl
theorem me_v8 {a : Int32} {f : Nat → Int32} {b0 b1 b2 b3 b4 b5 b6 b7 : Nat} (h0 : b0 < 256) (h1 : b1 < 256) (h2 : b2 < 256) (h3 : b3 < 256) (h4 : b4 < 256) (h5 : b5 < 256) (h6 : b6 < 256) (h7 : b7 < 256)
    (e0 : f (Int32.toNatClampNeg (a + (0 : Int32))) = nI b0) (e1 : f (Int32.toNatClampNeg (a + (1 : Int32))) = nI b1) (e2 : f (Int32.toNatClampNeg (a + (2 : Int32))) = nI b2) (e3 : f (Int32.toNatClampNeg (a + (3 : Int32))) = nI b3) (e4 : f (Int32.toNatClampNeg (a + (4 : Int32))) = nI b4) (e5 : f (Int32.toNatClampNeg (a + (5 : Int32))) = nI b5) (e6 : f (Int32.toNatClampNeg (a + (6 : Int32))) = nI b6) (e7 : f (Int32.toNatClampNeg (a + (7 : Int32))) = nI b7) :
    f_Y_bytes a (8 : Int32) f = lN (((((((b7 * 256 + b6) * 256 + b5) * 256 + b4) * 256 + b3) * 256 + b2) * 256 + b1) * 256 + b0) := by
  rw [me_u8, e0, e1, e2, e3, e4, e5, e6, e7]
  rw [me_step h7 (by omega), Nat.zero_mul, Nat.zero_add, me_step h6 (by omega), me_step h5 (by omega), me_step h4 (by omega), me_step h3 (by omega), me_step h2 (by omega), me_step h1 (by omega), me_step h0 (by omega)]
theorem me_v4 {a : Int32} {f : Nat → Int32} {b0 b1 b2 b3 : Nat} (h0 : b0 < 256) (h1 : b1 < 256) (h2 : b2 < 256) (h3 : b3 < 256)
    (e0 : f (Int32.toNatClampNeg (a + (0 : Int32))) = nI b0) (e1 : f (Int32.toNatClampNeg (a + (1 : Int32))) = nI b1) (e2 : f (Int32.toNatClampNeg (a + (2 : Int32))) = nI b2) (e3 : f (Int32.toNatClampNeg (a + (3 : Int32))) = nI b3) :
    f_Y_bytes a (4 : Int32) f = lN (((b3 * 256 + b2) * 256 + b1) * 256 + b0) := by
  rw [me_u4, e0, e1, e2, e3]
  rw [me_step h3 (by omega), Nat.zero_mul, Nat.zero_add, me_step h2 (by omega), me_step h1 (by omega), me_step h0 (by omega)]
/-- a byte of the memory, by its place -/
theorem me_at {mW : Nat → Int64} {yMem : Nat → Int32} (hm : RM mW yMem) {a k : Int32} {q s j N : Nat} (h0 : 0 ≤ a.toInt) (hk : k.toInt = (j : Int)) (hq : a.toInt = ((8 * q + s : Nat) : Int)) (hs : s + j < 8) (hlt : 8 * q + s + j < 4096) (hN : mW q = lN N) (hN2 : N < 2 ^ 64) : yMem (Int32.toNatClampNeg (a + k)) = nI (N / 2 ^ (8 * (s + j)) % 256) := by
  have e : (a + k).toNatClampNeg = 8 * q + s + j := by
    rw [me_idx h0 (by omega) (by omega)]
    show a.toInt.toNat + k.toInt.toNat = _
    omega
  have h := hm (8 * q + s + j) hlt
  rw [e, h, show (8 * q + s + j) / 8 = q by omega, show (8 * q + s + j) % 8 = s + j by omega, hN]
  unfold byt
  rw [wb_tn hN2]
theorem me_b8 {mW : Nat → Int64} {yMem : Nat → Int32} (hm : RM mW yMem) {a : Int32} (h0 : 0 ≤ a.toInt) (h1 : a.toInt + 8 ≤ 4096) (h8 : a.toInt % 8 = 0) : f_Y_bytes a (8 : Int32) yMem = mW (a.toNatClampNeg / 8) := by
  obtain ⟨N, hN, eN⟩ := wb_of (mW (a.toNatClampNeg / 8))
  have hq : a.toInt = ((8 * (a.toNatClampNeg / 8) + 0 : Nat) : Int) := by
    show a.toInt = ((8 * (a.toInt.toNat / 8) + 0 : Nat) : Int)
    omega
  have hb : 8 * (a.toNatClampNeg / 8) + 8 ≤ 4096 := by omega
  rw [me_v8 (Nat.mod_lt _ (by decide)) (Nat.mod_lt _ (by decide)) (Nat.mod_lt _ (by decide)) (Nat.mod_lt _ (by decide)) (Nat.mod_lt _ (by decide)) (Nat.mod_lt _ (by decide)) (Nat.mod_lt _ (by decide)) (Nat.mod_lt _ (by decide))
    (me_at (j := 0) hm h0 (by decide) hq (by omega) (by omega) eN hN) (me_at (j := 1) hm h0 (by decide) hq (by omega) (by omega) eN hN) (me_at (j := 2) hm h0 (by decide) hq (by omega) (by omega) eN hN) (me_at (j := 3) hm h0 (by decide) hq (by omega) (by omega) eN hN) (me_at (j := 4) hm h0 (by decide) hq (by omega) (by omega) eN hN) (me_at (j := 5) hm h0 (by decide) hq (by omega) (by omega) eN hN) (me_at (j := 6) hm h0 (by decide) hq (by omega) (by omega) eN hN) (me_at (j := 7) hm h0 (by decide) hq (by omega) (by omega) eN hN), eN]
  congr 1
  simp only [Nat.reduceAdd, Nat.reduceMul, Nat.reducePow, Nat.zero_add]
  omega
