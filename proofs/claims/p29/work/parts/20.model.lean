
/-! THE MODEL: what a club is, in natural numbers; every step of it. -/
abbrev mN : Type := Nat → Nat
abbrev mT : Type := Nat × Nat × Nat
abbrev mS : Type := (Nat → Nat) × (Nat → Nat → Nat) × (Nat → List mT) × (Nat → List mT) × List mN
abbrev gG (S : mS) : Nat → Nat := S.1
abbrev gM (S : mS) : Nat → Nat → Nat := S.2.1
abbrev gK (S : mS) : Nat → List mT := S.2.2.1
abbrev gH (S : mS) : Nat → List mT := S.2.2.2.1
abbrev gN (S : mS) : List mN := S.2.2.2.2
def sG (S : mS) (i x : Nat) : mS := (fun j => if j = i then x else S.1 j, S.2)
def sM (S : mS) (m w x : Nat) : mS := (S.1, (fun a c => if a = m then (if c = w then x else S.2.1 a c) else S.2.1 a c), S.2.2)
def sK (S : mS) (m : Nat) (l : List mT) : mS := (S.1, S.2.1, (fun a => if a = m then l else S.2.2.1 a), S.2.2.2)
def sH (S : mS) (m : Nat) (l : List mT) : mS := (S.1, S.2.1, S.2.2.1, (fun a => if a = m then l else S.2.2.2.1 a), S.2.2.2.2)
def sN (S : mS) (l : List mN) : mS := (S.1, S.2.1, S.2.2.1, S.2.2.2.1, l)
def mup (f : Nat → mS → mS) : Nat → mS → mS
  | 0, S => S
  | n + 1, S => f n (mup f n S)
def mfar (S : mS) (a c : Nat) : Nat := (gM S a 0 - gM S c 0) + (gM S c 0 - gM S a 0) + 1
def n0 : mN := fun _ => 0
/-- behind which note a note of the time t is put, of the first n -/
def mat (L : List mN) (t : Nat) : Nat → Nat
  | 0 => 0
  | n + 1 => if t < (L.getD n n0) 3 then mat L t n else n + 1
def mins (L : List mN) (p : Nat) (x : mN) : List mN := L.take p ++ x :: L.drop p
def mnote (kind frm to time num by9 data on ob who : Nat) : mN := fun c => match c with
  | 0 => kind | 1 => frm | 2 => to | 3 => time | 4 => num | 5 => by9 | 6 => data | 7 => on | 8 => ob | 9 => who | _ => 0
def msend (S : mS) (kind frm to num by9 data : Nat) : mS :=
  if (gG S (8 + frm)).testBit to = true ∨ (gN S).length = 150 then sG S 3 (gG S 3 + 1)
  else sN S (mins (gN S) (mat (gN S) (gG S 1 + mfar S frm to) (gN S).length) (mnote kind frm to (gG S 1 + mfar S frm to) num by9 data (gM S frm 2) (gM S frm 3) (gM S frm 4)))
def mover (S : mS) (m heard : Nat) : mS := sH S m ((if (gH S m).length = 5 then (gH S m).drop 1 else gH S m) ++ [(gM S m 2, gM S m 3, heard)])
def menter (S : mS) (m num by9 set : Nat) : mS := sM (sM (sM (sM (sM (sM S m 1 0) m 2 num) m 3 by9) m 4 set) m 5 0) m 7 0
def mnone (S : mS) (m : Nat) : mS := sM (sM (sM S m 8 0) m 9 0) m 10 0
def mor (num by9 : Nat) (l : List mT) (a : Nat) : Nat := l.foldl (fun a t => if t.1 = num ∧ t.2.1 = by9 then a ||| 1 <<< t.2.2 else a) a
def mtold (S : mS) (m num by9 set heard : Nat) : mS :=
  if num < gM S m 6 ∨ num ≤ gM S m 2 then S
  else sK (sM (menter (mover S m heard) m num by9 set) m 5 (mor num by9 (gK S m) 0)) m ((gK S m).filter (fun t => decide (num < t.1)))
/-- of the first n members, what those who answered with the roll of one have heard -/
def mhb (S : mS) (m one : Nat) : Nat → Nat
  | 0 => 0
  | k + 1 => mhb S m one k ||| (if (gM S m 10).testBit k = true ∧ gM S m (12 + 3 * k) = gM S m (12 + 3 * one) ∧ gM S m (13 + 3 * k) = gM S m (13 + 3 * one) then gM S m (14 + 3 * k) else 0)
def mheard (S : mS) (m one : Nat) : Nat := mhb S m one 6
def mstandsF (m num set : Nat) (k : Nat) (S : mS) : mS := if k ≠ m ∧ set.testBit k = true then msend S 3 m k num m (mheard S m k) else S
def mstands (S : mS) (m : Nat) : mS :=
  mnone (mup (mstandsF m (gM S m 8) (gM S m 9)) (gG S 0) (mtold (sG S 6 (gG S 6 + 1)) m (gM S m 8) m (gM S m 9) (mheard S m m))) m
def mputA (S : mS) (m frm num by9 heard : Nat) : mS := sM (sM (sM (sM S m (12 + 3 * frm) num) m (13 + 3 * frm) by9) m (14 + 3 * frm) heard) m 10 (gM S m 10 ||| 1 <<< frm)
def mans (S : mS) (m frm num by9 heard : Nat) : mS :=
  if gM (mputA S m frm num by9 heard) m 10 = gM (mputA S m frm num by9 heard) m 9 then mstands (mputA S m frm num by9 heard) m else mputA S m frm num by9 heard
def mcallF (m num set : Nat) (k : Nat) (S : mS) : mS := if k ≠ m ∧ set.testBit k = true then msend S 1 m k num m set else S
def mstart (S : mS) (m set : Nat) : mS := sM (sM (sM (sM (sM (sM S m 6 (gM S m 6 + 1)) m 1 1) m 8 (gM S m 6 + 1)) m 9 set) m 10 0) m 11 (gG S 1)
def msends (S : mS) (m set : Nat) : mS := mup (mcallF m (gM S m 6 + 1) set) (gG S 0) (mstart S m set)
def mcall (S : mS) (m set : Nat) : mS := mans (msends S m set) m m (gM S m 2) (gM S m 3) (gM S m 5)
def mspeech (S : mS) (x : mN) : mS :=
  if (gM S (x 2) 2 = x 4 ∧ gM S (x 2) 3 = x 5) ∧ gM S (x 2) 1 = 0 then sM S (x 2) 5 (gM S (x 2) 5 ||| 1 <<< x 6)
  else if gM S (x 2) 2 < x 4 ∧ (gK S (x 2)).length < 12 then sK S (x 2) (gK S (x 2) ++ [(x 4, x 5, x 6)])
  else sG S 5 (gG S 5 + 1)
def mcalled (S : mS) (x : mN) : mS :=
  if gM S (x 2) 6 < x 4 then msend (mnone (sM (sM S (x 2) 6 (x 4)) (x 2) 1 1) (x 2)) 2 (x 2) (x 1) (x 4) (x 1) (gM S (x 2) 5) else S
def mreplied (S : mS) (x : mN) : mS := if gM S (x 2) 8 = x 4 then mans S (x 2) (x 1) (x 7) (x 8) (x 6) else S
def mread (S : mS) (x : mN) : mS :=
  if gM S (x 2) 1 = 2 then sG S 3 (gG S 3 + 1)
  else if x 0 = 0 then mspeech S x else if x 0 = 1 then mcalled S x else if x 0 = 2 then mreplied S x
  else mtold S (x 2) (x 4) (x 5) (x 9) (x 6)
def mcomes (S : mS) : mS := mread (sN S ((gN S).drop 1)) ((gN S).getD 0 n0)
def mdue (S : mS) : Prop := 0 < (gN S).length ∧ ((gN S).getD 0 n0) 3 = gG S 1
def mdrain : Nat → mS → mS
  | 0, S => S
  | n + 1, S => if 0 < (gN S).length ∧ ((gN S).getD 0 n0) 3 = gG S 1 then mdrain n (mcomes S) else S
def mwaitF (m : Nat) (S : mS) : mS := if 0 < gM S m 8 ∧ gG S 7 ≤ gG S 1 - gM S m 11 then mcall S m (gM S m 10) else S
def mtick (S : mS) : mS :=
  if 0 < gG S 7 then mup mwaitF (gG S 0) (mdrain (gN S).length (sG S 1 (gG S 1 + 1))) else mdrain (gN S).length (sG S 1 (gG S 1 + 1))
def mticks : Nat → mS → mS
  | 0, S => S
  | n + 1, S => mtick (mticks n S)
def madd (S : mS) (place : Nat) : mS := sG (sM S (gG S 0) 0 place) 0 (gG S 0 + 1)
def msayF (m bit : Nat) (k : Nat) (S : mS) : mS := if k ≠ m ∧ (gM S m 4).testBit k = true then msend S 0 m k (gM S m 2) (gM S m 3) bit else S
def msay0 (S : mS) (m : Nat) : mS := sG (sM (sM S m 7 (gM S m 7 + 1)) m 5 (gM S m 5 ||| 1 <<< (4 * m + gM S m 7))) 4 (gG S 4 + 1)
def msay (S : mS) (m : Nat) : mS := mup (msayF m (4 * m + gM S m 7)) (gG S 0) (msay0 S m)
def mleave (S : mS) (m : Nat) : mS := sK (mnone (sM S m 1 2) m) m []
def mback (S : mS) (m : Nat) : mS := menter (sM (mover S m (gM S m 5)) m 6 (gM S m 6 + 1)) m (gM S m 6 + 1) m (1 <<< m)
def mclr (a k : Nat) : Nat := if a.testBit k = true then a ^^^ 1 <<< k else a
def mcut (S : mS) (a c : Nat) (cut : Bool) : mS :=
  if cut = true then sG (sG S (8 + a) (gG S (8 + a) ||| 1 <<< c)) (8 + c) (gG S (8 + c) ||| 1 <<< a)
  else sG (sG S (8 + a) (mclr (gG S (8 + a)) c)) (8 + c) (mclr (gG S (8 + c)) a)
/-- how many of the first n bits -/
def mbits (s : Nat) : Nat → Nat
  | 0 => 0
  | k + 1 => mbits s k + (if s.testBit k = true then 1 else 0)
def msb (S : mS) : Nat → Nat
  | 0 => 0
  | k + 1 => msb S k + mbits (gG S (8 + k)) 24
def mways (S : mS) : Nat := msb S 6 / 2
/-- who is not a member yet is as new -/
def Fr (c : Nat) (S : mS) : Prop := ∀ m, c ≤ m → m < 6 → (∀ w, gM S m w = if w = 3 then m else if w = 4 then 1 <<< m else 0) ∧ gK S m = [] ∧ gH S m = []
/-- the truth of 'a member' -/
def mb (c : Nat) (m : Int32) : Bool := decide (0 ≤ m.toInt ∧ m.toInt < (c : Int))
/-- the truth of 'a set of members, m among them' -/
def mset (c m : Nat) (s : Int32) : Bool := decide (0 ≤ s.toInt ∧ s.toInt < 2 ^ c) && (s.toInt.toNat).testBit m
