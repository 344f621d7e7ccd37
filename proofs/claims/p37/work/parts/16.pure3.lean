def mbR (p : Nat → Bool) : Nat → Nat → Int32
  | 0, i => nI i + 3
  | d + 1, i => if p i then nI i + 3 else mbR p d (i + 1)
def mbF (S : wPS) (q b : Nat) : Int32 := mbR (fun i => withinB (sI S q_Squadron_x q) (sI S q_Squadron_y q) (sI S q_Squadron_speed q * nI i) (sI S q_Place_x b) (sI S q_Place_y b)) 100 0
def mtmF (S : wPS) (q t : Nat) (w : Int32) : Int32 := fstR (fun i => withinB (sI S q_Squadron_x q) (sI S q_Squadron_y q) (sI S q_Squadron_speed q * nI i) (xAtF S t (w + nI i)) (yAtF S t (w + nI i))) 31 0
def nearF (S : wPS) (x T t m : Nat) : Int32 := fstR (fun i => withinB (sI S q_Town_x T) (sI S q_Town_y T) 10 (xAtF S t (sI S q_Room_minute x + nI i)) (yAtF S t (sI S q_Room_minute x + nI i))) (m + 1) 0
def thrR (p : Nat → Bool) (f : Nat → Int32) : Nat → Nat → Int32 → Int32
  | 0, _, a => a
  | d + 1, i, a => thrR p f d (i + 1) (if p i && !decide (f i = -1) && (decide (a = -1) || decide (f i < a)) then f i else a)
def thrF (S : wPS) (x : Nat) (el : Nat → Nat → Nat) (sz : Nat → Nat) (T m : Nat) : Int32 := thrR (fun i => liveB S (el 7 i) && decide (kindF S el sz (el 7 i) = 2)) (fun i => nearF S x T (el 7 i) m) (sz 7) 0 (-1)
def sirF (S : wPS) (x : Nat) (el : Nat → Nat → Nat) (sz : Nat → Nat) (T : Nat) : Int32 := if thrF S x el sz T 38 = -1 then -1 else (if 0 < thrF S x el sz T 38 - 8 then thrF S x el sz T 38 - 8 else 0)
def behR (p : Nat → Bool) (f : Nat → Int32) : Nat → Nat → Int32 → Int32 → Int32
  | 0, _, b, _ => b
  | d + 1, i, b, a => if p i && (decide (b = -1) || decide (f i < a)) then behR p f d (i + 1) (nI i) (f i) else behR p f d (i + 1) b a
def behF (S : wPS) (x : Nat) (el : Nat → Nat → Nat) (sz : Nat → Nat) (t : Nat) : Int32 := behR (fun i => !decide (sI S q_Flight_isUp (el 5 i) = 0)) (fun i => farF (sI S q_Flight_x (el 5 i)) (sI S q_Flight_y (el 5 i)) (xAtF S t (sI S q_Room_minute x)) (yAtF S t (sI S q_Room_minute x))) (sz 5) 0 (-1) 0
def bestR (fl all mac : Nat → Int32) (ok : Nat → Bool) : Nat → Nat → Int32 → Int32 → Int32 → Int32
  | 0, _, b, _, _ => b
  | d + 1, i, b, a, m => if !decide (fl i = -1) && ok i && (decide (b = -1) || decide (all i < a) || (decide (all i = a) && !decide (mac i ≤ m))) then bestR fl all mac ok d (i + 1) (nI i) (all i) (mac i) else bestR fl all mac ok d (i + 1) b a m
def flownF (S : wPS) (x q t : Nat) : Int32 := if canStartB S q then mtmF S q t (sI S q_Room_minute x + sI S q_Squadron_ready q) else -1
def bestF (S : wPS) (x : Nat) (el : Nat → Nat → Nat) (sz : Nat → Nat) (t : Nat) : Int32 := bestR (fun i => flownF S x (el 2 i) t) (fun i => sI S q_Squadron_ready (el 2 i) + flownF S x (el 2 i) t) (fun i => sI S q_Squadron_machines (el 2 i)) (fun i => decide (2 * flownF S x (el 2 i) t ≤ sI S q_Squadron_tank (el 2 i) - 3)) (sz 2) 0 (-1) 0 0
def onTabB (S : wPS) (x : Nat) (el : Nat → Nat → Nat) (sz : Nat → Nat) (f : Nat) : Bool := anyR (fun i => liveB S (el 7 i) && withinB (sI S q_Flight_x f) (sI S q_Flight_y f) 20 (xAtF S (el 7 i) (sI S q_Room_minute x)) (yAtF S (el 7 i) (sI S q_Room_minute x))) (sz 7) 0
def knownF (S : wPS) (x : Nat) (el : Nat → Nat → Nat) (sz : Nat → Nat) : Int32 := cntR (fun i => !decide (sI S q_Flight_isUp (el 5 i) = 0) && onTabB S x el sz (el 5 i)) (sz 5) 0 0
def seenF (S : wPS) (x : Nat) (el : Nat → Nat → Nat) (sz : Nat → Nat) : UInt64 := if countUpF S el sz 0 = 0 then FP.dconst1 else FP.ddiv (FP.i2d (knownF S x el sz)) (FP.i2d (countUpF S el sz 0))
def sqSoundB (S : wPS) (el : Nat → Nat → Nat) (sz : Nat → Nat) : Bool := decide (countTalksF S el sz ≤ 3) && allR (fun i => !inAirB S (el 2 i) || (!decide (sI S q_Squadron_machines (el 2 i) ≤ 0) && decide (0 < sI S q_Squadron_fuel (el 2 i)))) (sz 2) 0
def plSoundB (S : wPS) (x ta : Nat) (el : Nat → Nat → Nat) (sz : Nat → Nat) : Bool := decide (sumR (fun i => sI S q_Mast_made (el 0 i)) (sz 0) 0 0 = sumR (fun i => sI S q_Mast_came (el 0 i)) (sz 0) 0 0 + sumR (fun i => sI S q_Mast_lost (el 0 i)) (sz 0) 0 0 + sI S q_Room_plotsOnWay x) && decide (sumR (fun i => sI S q_Mast_came (el 0 i)) (sz 0) 0 0 = sumR (fun i => sI S q_Track_hits (el 7 i)) (sz 7) 0 0 + sI S q_Tally_plotsWithoutTrack ta)
def plcSoundB (S : wPS) (el : Nat → Nat → Nat) (sz : Nat → Nat) : Bool := allR (fun i => isPlaceB (sI S q_Flight_x (el 5 i)) (sI S q_Flight_y (el 5 i))) (sz 5) 0 && allR (fun i => isPlaceB (sI S q_Track_x (el 7 i)) (sI S q_Track_y (el 7 i))) (sz 7) 0 && allR (fun i => isPlaceB (sI S q_Squadron_x (el 2 i)) (sI S q_Squadron_y (el 2 i))) (sz 2) 0
def soundB (S : wPS) (x ta : Nat) (el : Nat → Nat → Nat) (sz : Nat → Nat) : Bool := sqSoundB S el sz && plSoundB S x ta el sz && !decide (sI S q_Tally_claims ta < countWonF S el sz) && plcSoundB S el sz
