def zb (b : Bool) : Int32 := if b then 1 else 0
theorem zb_cases {r : Int32} {b : Bool} (h : r = zb b) : (b = true ∧ r = 1) ∨ (b = false ∧ r = 0) := by
  subst h; cases b
  · exact Or.inr ⟨rfl, rfl⟩
  · exact Or.inl ⟨rfl, rfl⟩
theorem zb_nar (b : Bool) : narrow .boolean (.int (zb b)) = .int (zb b) := by cases b <;> rfl
def isInB (v a b : Int32) : Bool := !decide (v < a) && !decide (b < v)
def isPlaceB (x y : Int32) : Bool := isInB x 0 199 && isInB y 0 199
def isCourseB (x y : Int32) : Bool := isInB x (-9) 9 && isInB y (-9) 9
def isNumB (n s : Int32) : Bool := !decide (n < 0) && !decide (s ≤ n)
def holdF (v : Int32) : Int32 := if 0 ≤ v then (if v ≤ 199 then v else 199) else 0
def farF (x y u v : Int32) : Int32 := (x - u) * (x - u) + (y - v) * (y - v)
def withinB (x y r u v : Int32) : Bool := !decide (r * r < farF x y u v)
def xAtF (S : wPS) (t : Nat) (w : Int32) : Int32 := holdF (sI S q_Track_x t + sI S q_Track_courseX t * (w - sI S q_Track_minute t) / 10)
def yAtF (S : wPS) (t : Nat) (w : Int32) : Int32 := holdF (sI S q_Track_y t + sI S q_Track_courseY t * (w - sI S q_Track_minute t) / 10)
def canSeeB (S : wPS) (m f : Nat) : Bool := !decide (sI S q_Flight_isUp f = 0) && !decide (sI S q_Flight_height f ≤ sI S q_Mast_blind m) && withinB (sI S q_Mast_x m) (sI S q_Mast_y m) (sI S q_Mast_range m) (sI S q_Flight_x f) (sI S q_Flight_y f)
def guessF (c : Int32) : Int32 := if 9 < c then c / 10 * 10 else c
def inAirB (S : wPS) (q : Nat) : Bool := decide (sI S q_Squadron_state q = 2) || decide (sI S q_Squadron_state q = 3)
def talkB (S : wPS) (q : Nat) : Bool := decide (sI S q_Squadron_state q = 1) || decide (sI S q_Squadron_state q = 2)
def canStartB (S : wPS) (q : Nat) : Bool := decide (sI S q_Squadron_state q = 0) && !decide (sI S q_Squadron_machines q ≤ 0)
def winF (S : wPS) (q f : Nat) (lot : Int32) : Int32 := if sI S q_Squadron_machines q * (2 + (lot - lot / 6 * 6)) / 8 < sI S q_Flight_count f then sI S q_Squadron_machines q * (2 + (lot - lot / 6 * 6)) / 8 else sI S q_Flight_count f
def tnF (S : wPS) (q : Nat) : Int32 := match sR S q_Squadron_target q with
  | none => -1
  | some t => sI S q_Track_number t
