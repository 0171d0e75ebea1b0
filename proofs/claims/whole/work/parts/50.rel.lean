/-! The relation between the class's cells and the reference's. -/
/-- byte k of a word -/
def byt (w : Int64) (k : Nat) : Int32 := nI (w.toBitVec.toNat / 2 ^ (8 * k) % 256)
def RM (mW : Nat → Int64) (yMem : Nat → Int32) : Prop := ∀ i : Nat, i < 4096 → yMem i = byt (mW (i / 8)) (i % 8)
/-- the buffer: a ring on the one side, a list that is moved up on the other; no page of a space stands in it twice -/
def RB (mOld mCnt : Int32) (mP mS : Nat → Int32) (mD : Nat → Int64) (yBP yBS : Nat → Int32) (yBW : Nat → Int64) : Prop :=
  (mCnt.toInt < 4 → mOld = 0) ∧ (∀ k : Nat, (k : Int) < mCnt.toInt → yBP k = mP ((mOld.toNatClampNeg + k) % 4) ∧ yBS k = mS ((mOld.toNatClampNeg + k) % 4) ∧ yBW k = mD ((mOld.toNatClampNeg + k) % 4)) ∧
  ∀ i j : Nat, (i : Int) < mCnt.toInt → (j : Int) < mCnt.toInt → mP i = mP j → mS i = mS j → i = j
def okP (p : Int64) : Prop := p.toInt % 4 = 0
def okW (v : Nat → Int64) : Prop := ∀ k : Nat, k < 6 → (v k).toInt % 4 = 0
def okA (t : Int32) : Prop := t.toInt % 8 = 0
def okD (d : Int32) : Prop := d = 0 ∨ d = 1
def okQ (iL iN : Nat → Int32) : Prop := ∀ k : Nat, (0 ≤ (iL k).toInt ∧ (iL k).toInt < 8) ∧ 0 ≤ (iN k).toInt ∧ (iN k).toInt < 256
def RI (xPc : Int64) (xV : Nat → Int64) (mOld mCnt mTab iCnt xMod xLoc : Int32) (iL iN : Nat → Int32) : Prop := okM mOld mCnt ∧ okT mTab ∧ okI iCnt ∧ okP xPc ∧ okW xV ∧ okA mTab ∧ okD xMod ∧ okD xLoc ∧ okQ iL iN
def Rel (xPc : Int64) (xKsp : Int64) (xUsp : Int64) (xKgp : Int64) (xVal : Int64) (xMod : Int32) (xLev : Int32) (xHal : Int32) (xEnt : Int32) (xLoc : Int32) (xR : (Nat → Int64)) (xV : (Nat → Int64)) (xF : (Nat → Int64)) (mOld : Int32) (mCnt : Int32) (mTab : Int32) (mSpc : Int32) (mW : (Nat → Int64)) (mP : (Nat → Int32)) (mS : (Nat → Int32)) (mD : (Nat → Int64)) (iCnt : Int32) (iL : (Nat → Int32)) (iN : (Nat → Int32)) (yPc : Int64) (yKsp : Int64) (yUsp : Int64) (yKgp : Int64) (yVal : Int64) (yMod : Int32) (yLev : Int32) (yHal : Int32) (yEnt : Int32) (yLoc : Int32) (yR : (Nat → Int64)) (yV : (Nat → Int64)) (ySix : (Nat → Int64)) (yTab : Int32) (ySpc : Int32) (yPen : Int32) (yPL : (Nat → Int32)) (yPN : (Nat → Int32)) (yBuf : Int32) (yMem : (Nat → Int32)) (yBP : (Nat → Int32)) (yBS : (Nat → Int32)) (yBW : (Nat → Int64)) : Prop := yPc = xPc ∧ yKsp = xKsp ∧ yUsp = xUsp ∧ yKgp = xKgp ∧ yVal = xVal ∧ yMod = xMod ∧ yLev = xLev ∧ yHal = xHal ∧ yEnt = xEnt ∧ yLoc = xLoc ∧ yR = xR ∧ yV = xV ∧ ySix = xF ∧ yTab = mTab ∧ ySpc = mSpc ∧ yPen = iCnt ∧ yPL = iL ∧ yPN = iN ∧ yBuf = mCnt ∧ RI xPc xV mOld mCnt mTab iCnt xMod xLoc iL iN ∧ RM mW yMem ∧ RB mOld mCnt mP mS mD yBP yBS yBW
