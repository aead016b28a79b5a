/-! the reference's actions, as functions of its row -/
def zc (w : Nat → Int32) (j : Nat) : Nat → Nat → Int32
  | 0 => w
  | i + 1 => upd (zc w j i) (52 + 4 * j + i) (nI 0)
def gCome (w : Nat → Int32) (sp : Int32) (nh : Nat) : Nat → Int32 := upd (zc (upd (upd (upd w (6 + 3 * nh) sp) (6 + 3 * nh + 1) (nI 0)) (6 + 3 * nh + 2) (nI 0)) nh 4) 1 (zc (upd (upd (upd w (6 + 3 * nh) sp) (6 + 3 * nh + 1) (nI 0)) (6 + 3 * nh + 2) (nI 0)) nh 4 1 + nI 1)
abbrev kCome (w : Nat → Int32) (sp : Int32) : Prop := gI sp (nI 1) (nI 9) ∧ ¬ w 1 = nI 6
def rCome (w : Nat → Int32) (sp : Int32) : Int32 := if gI sp (nI 1) (nI 9) then (if w 1 = nI 6 then -3 else w 1) else -1
abbrev kSet (w : Nat → Int32) (x sp : Int32) : Prop := gH (w 1) x ∧ gI sp (nI 1) (nI 9)
def rSet (w : Nat → Int32) (x sp : Int32) : Int32 := if kSet w x sp then w (6 + 3 * nx x + 0) else -1
def gSet (w : Nat → Int32) (x sp : Int32) : Nat → Int32 := upd w (6 + 3 * nx x) sp
def abF (w : Nat → Int32) (al st : Int32) (b : Nat) : Nat → Nat → Int32
  | 0 => w
  | i + 1 => upd (abF w al st b i) (24 + 7 * b + i) (if i = 0 then al else if i = 1 then st else nI 0)
abbrev kAdd (w : Nat → Int32) (al st : Int32) : Prop := (gI al (nI 0) (nI 5000) ∧ gI st (nI 100) (nI 3000)) ∧ ¬ w 2 = nI 4
def rAdd (w : Nat → Int32) (al st : Int32) : Int32 := if gI al (nI 0) (nI 5000) ∧ gI st (nI 100) (nI 3000) then (if w 2 = nI 4 then -3 else w 2) else -1
def gAdd (w : Nat → Int32) (al st : Int32) (nb : Nat) : Nat → Int32 := upd (abF w al st nb 7) 2 (abF w al st nb 7 2 + nI 1)
abbrev kAllow (w : Nat → Int32) (x al : Int32) : Prop := gH (w 2) x ∧ gI al (nI 0) (nI 5000)
def rAllow (w : Nat → Int32) (x al : Int32) : Int32 := if kAllow w x al then w (24 + 7 * nx x + 0) else -1
def gAllow (w : Nat → Int32) (x al : Int32) : Nat → Int32 := upd w (24 + 7 * nx x) al
abbrev kGrant (w : Nat → Int32) (x y is : Int32) : Prop := gH (w 1) x ∧ gH (w 2) y ∧ gI is (nI 0) (nI 1)
def sGrant (s : Int32) (j : Nat) (is : Int32) : Int32 := (s &&& ((nI 1 <<< (nI j &&& 31)) ^^^ (-1))) ||| is <<< (nI j &&& 31)
def rGrant (w : Nat → Int32) (x y is : Int32) : Int32 := if kGrant w x y is then fOnes (sGrant (w (24 + 7 * nx y + 3)) (nx x) is) 6 else -1
def gGrant (w : Nat → Int32) (x y is : Int32) : Nat → Int32 := upd w (24 + 7 * nx y + 3) (sGrant (w (24 + 7 * nx y + 3)) (nx x) is)
abbrev kCut (w : Nat → Int32) (nh : Nat) (x y t : Int32) : Prop := (gH (w 1) x ∧ gH (w 2) y ∧ gI t (nI 1) (nI 1000)) ∧ t ≤ fMay w nh (nx x) (nx y) ∧ ¬ w 3 = nI 12
def rCut (w : Nat → Int32) (nh : Nat) (x y t : Int32) : Int32 := if gH (w 1) x ∧ gH (w 2) y ∧ gI t (nI 1) (nI 1000) then (if t ≤ fMay w nh (nx x) (nx y) then (if w 3 = nI 12 then -3 else w 3) else -2) else -1
def cuA (w : Nat → Int32) (j b : Nat) (t : Int32) : Nat → Int32 := upd (upd w (52 + 4 * j + b) (w (52 + 4 * j + b) + t)) (24 + 7 * b + 4) (upd w (52 + 4 * j + b) (w (52 + 4 * j + b) + t) (24 + 7 * b + 4) + t)
def cuB (w : Nat → Int32) (ns j b : Nat) (t : Int32) : Nat → Int32 := upd (upd (upd (upd (upd w (76 + 5 * ns + 0) (nI j)) (76 + 5 * ns + 1) (nI b)) (76 + 5 * ns + 2) t) (76 + 5 * ns + 3) (nI 100000)) (76 + 5 * ns + 4) (nI 0)
def gCut (w : Nat → Int32) (ns : Nat) (x y t : Int32) : Nat → Int32 := upd (cuB (cuA w (nx x) (nx y) t) ns (nx x) (nx y) t) 3 (cuB (cuA w (nx x) (nx y) t) ns (nx x) (nx y) t 3 + nI 1)
abbrev kTurn (w : Nat → Int32) (x : Int32) : Prop := gH (w 3) x ∧ ¬ w (76 + 5 * nx x + 4) = nI 3
def rTurn (w : Nat → Int32) (x : Int32) : Int32 := if gH (w 3) x then (if w (76 + 5 * nx x + 4) = nI 3 then -3 else w (76 + 5 * nx x + 4) + nI 1) else -1
def gTurn (w : Nat → Int32) (x : Int32) : Nat → Int32 := upd w (76 + 5 * nx x + 4) (w (76 + 5 * nx x + 4) + nI 1)
def goF (w : Nat → Int32) (j : Nat) : Nat → Nat → Int32
  | 0 => w
  | i + 1 => upd (goF w j i) (76 + 5 * j + i) (goF w j i (76 + 5 * j + i + 5))
def gGo (w : Nat → Int32) (j ns : Nat) : Nat → Int32 := goF (upd w 3 (w 3 - nI 1)) j (5 * (ns - 1 - j))
theorem goF_3 (w : Nat → Int32) (j i : Nat) : goF w j i 3 = w 3 := by
  induction i with
  | zero => rfl
  | succ i ih => exact (pk_un (by omega)).trans ih