/-! what the row of numbers tells -/
abbrev gH (n x : Int32) : Prop := 0 ≤ x ∧ x < n
abbrev gI (x lo hi : Int32) : Prop := lo ≤ x ∧ x ≤ hi
abbrev hR (v : Nat → Int32) (h b : Nat) : Prop := bt (v (24 + 7 * b + 3)) h = nI 1
def fSp (v : Nat → Int32) (b : Nat) : Nat → Int32
  | 0 => nI 0
  | k + 1 => fSp v b k + (if hR v k b then v (6 + 3 * k + 0) else nI 0)
def fLeft (v : Nat → Int32) (b : Nat) (all : Int32) : Nat → Int32
  | 0 => v (24 + 7 * b + 0)
  | k + 1 => fLeft v b all k - (if hR v k b then v (24 + 7 * b + 0) * v (6 + 3 * k + 0) / all else nI 0)
def fAhead (v : Nat → Int32) (b hh : Nat) : Nat → Int32
  | 0 => nI 0
  | k + 1 => fAhead v b hh k + (if k < hh ∧ hR v k b then nI 1 else nI 0)
def fShare (v : Nat → Int32) (nh hh b : Nat) : Int32 := if hR v hh b then v (24 + 7 * b + 0) * v (6 + 3 * hh + 0) / fSp v b nh + (if fAhead v b hh nh < fLeft v b (fSp v b nh) nh then nI 1 else nI 0) else nI 0
def fMay (v : Nat → Int32) (nh hh b : Nat) : Int32 := if fShare v nh hh b - v (52 + 4 * hh + b) < 0 then nI 0 else fShare v nh hh b - v (52 + 4 * hh + b)
def fDryN (v : Nat → Int32) : Nat → Int32
  | 0 => nI 0
  | k + 1 => fDryN v k + (if v (76 + 5 * k + 3) ≤ nI 30000 then nI 1 else nI 0)
def fBanksOf (v : Nat → Int32) (hh : Nat) : Nat → Int32
  | 0 => nI 0
  | k + 1 => fBanksOf v hh k + (if hR v hh k then nI 1 else nI 0)
def fStacksOf (v : Nat → Int32) (hh : Int32) (tf : Bool) : Nat → Int32
  | 0 => nI 0
  | k + 1 => fStacksOf v hh tf k + (if v (76 + 5 * k + 0) = hh then (if tf then v (76 + 5 * k + 2) else nI 1) else nI 0)
def fTurfsAt (v : Nat → Int32) (b : Int32) : Nat → Int32
  | 0 => nI 0
  | k + 1 => fTurfsAt v b k + (if v (76 + 5 * k + 1) = b then v (76 + 5 * k + 2) else nI 0)
def fDried (we tn wi ra : Int32) : Int32 := if nI 100000 < we * (nI 64 - wi * (tn + nI 1)) / nI 64 + nI 1500 * ra then nI 100000 else we * (nI 64 - wi * (tn + nI 1)) / nI 64 + nI 1500 * ra
def fOnes (x : Int32) : Nat → Int32
  | 0 => nI 0
  | k + 1 => fOnes x k + bt x k
/-! the reference: its object at m, its rows behind it -/
def MD (m : Nat) (w pa he te re : Nat → Int32) (ps rn ty at_ st ki co : Int32) (h : pH) : Prop :=
  h m = some (ob 7 [.ref (m + 1), .ref (m + 2), .ref (m + 3), .int ps, .int rn, .ref (m + 4), .int ty, .int at_, .int st, .int ki, .ref (m + 5), .int co]) ∧ h (m + 1) = some (ai 1 410 w) ∧ h (m + 2) = some (ai 1 2050 pa) ∧ h (m + 3) = some (ai 1 410 he) ∧ h (m + 4) = some (ai 1 140 te) ∧ h (m + 5) = some (ai 1 3 re)