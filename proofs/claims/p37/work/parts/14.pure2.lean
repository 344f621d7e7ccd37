theorem lp_ge {n i : Nat} {x : Int32} (hx : x = nI i) (h : n ≤ i) (hb : i < 2147483648) : nI n ≤ x := by subst hx; exact nI_le h hb
theorem lp_nge {n i : Nat} {x : Int32} (hx : x = nI i) (h : i < n) (hb : n < 2147483648) : ¬ nI n ≤ x := by subst hx; exact nI_ge h hb
theorem lp_s {i : Nat} {x v : Int32} (hx : x = nI i) (hv : x + 1 = v) : v = nI (i + 1) := by subst hx hv; exact nI_1 i
def cntR (p : Nat → Bool) : Nat → Nat → Int32 → Int32
  | 0, _, a => a
  | d + 1, i, a => cntR p d (i + 1) (if p i then a + 1 else a)
def sumR (f : Nat → Int32) : Nat → Nat → Int32 → Int32
  | 0, _, a => a
  | d + 1, i, a => sumR f d (i + 1) (a + f i)
def anyR (p : Nat → Bool) : Nat → Nat → Bool
  | 0, _ => false
  | d + 1, i => if p i then true else anyR p d (i + 1)
def allR (p : Nat → Bool) : Nat → Nat → Bool
  | 0, _ => true
  | d + 1, i => if p i then allR p d (i + 1) else false
def fstR (p : Nat → Bool) : Nat → Nat → Int32
  | 0, _ => -1
  | d + 1, i => if p i then nI i else fstR p d (i + 1)
/-- a list at l: its n elements, all of kind kd -/
def isL (S : wPS) (l kd : Nat) (e : Nat → Nat) (n : Nat) : Prop := (l ∈ sL S ∧ sK S l = 11) ∧ sI S q_List_size l = nI n ∧ n ≤ 100000 ∧ (∀ i : Nat, i < n → ∃ r : Nat, sR S q_List_elementData l = some r ∧ (r ∈ sL S ∧ sK S r = 12) ∧ n ≤ sN S r ∧ sN S r ≤ 200000 ∧ sW S r i = some (e i)) ∧ ∀ i : Nat, i < n → e i ∈ sL S ∧ sK S (e i) = kd
/-- the room at x: its nine lists, the lots and the tally -/
def RMx (S : wPS) (x lo ta : Nat) (la : Nat → Nat) (el : Nat → Nat → Nat) (sz : Nat → Nat) : Prop := (x ∈ sL S ∧ sK S x = 10) ∧ (sR S q_Room_masts x = some (la 0) ∧ isL S (la 0) 3 (el 0) (sz 0)) ∧ (sR S q_Room_stations x = some (la 1) ∧ isL S (la 1) 4 (el 1) (sz 1)) ∧ (sR S q_Room_squadrons x = some (la 2) ∧ isL S (la 2) 6 (el 2) (sz 2)) ∧ (sR S q_Room_guns x = some (la 3) ∧ isL S (la 3) 1 (el 3) (sz 3)) ∧ (sR S q_Room_towns x = some (la 4) ∧ isL S (la 4) 8 (el 4) (sz 4)) ∧ (sR S q_Room_flights x = some (la 5) ∧ isL S (la 5) 0 (el 5) (sz 5)) ∧ (sR S q_Room_plans x = some (la 6) ∧ isL S (la 6) 4 (el 6) 0) ∧ (sR S q_Room_tracks x = some (la 7) ∧ isL S (la 7) 9 (el 7) (sz 7)) ∧ (sR S q_Room_plots x = some (la 8) ∧ isL S (la 8) 5 (el 8) (sz 8)) ∧ (sR S q_Room_lots x = some lo ∧ lo ∈ sL S ∧ sK S lo = 2) ∧ (sR S q_Room_tally x = some ta ∧ ta ∈ sL S ∧ sK S ta = 7)
/-- squadrons: a base that is a place; a target that is a track, or none -/
def SQx (S : wPS) (el : Nat → Nat → Nat) (sz : Nat → Nat) : Prop := ∀ i : Nat, i < sz 2 → (∃ b : Nat, sR S q_Squadron_base (el 2 i) = some b ∧ b ∈ sL S ∧ sK S b = 4) ∧ (sR S q_Squadron_target (el 2 i) = none ∨ ∃ t : Nat, sR S q_Squadron_target (el 2 i) = some t ∧ t ∈ sL S ∧ sK S t = 9)
def withinSqB (S : wPS) (el : Nat → Nat → Nat) (sz : Nat → Nat) (r u v : Int32) : Bool := anyR (fun i => inAirB S (el 2 i) && withinB (sI S q_Squadron_x (el 2 i)) (sI S q_Squadron_y (el 2 i)) r u v) (sz 2) 0
def kindF (S : wPS) (el : Nat → Nat → Nat) (sz : Nat → Nat) (t : Nat) : Int32 := if withinSqB S el sz 8 (sI S q_Track_x t) (sI S q_Track_y t) then 0 else if 2 < sI S q_Track_hits t then 2 else 1
def upB (S : wPS) (b : Int32) (f : Nat) : Bool := !decide (sI S q_Flight_isUp f = 0) && (!decide (sI S q_Flight_isFoe f = 0) || decide (b = 0))
def countUpF (S : wPS) (el : Nat → Nat → Nat) (sz : Nat → Nat) (b : Int32) : Int32 := cntR (fun i => upB S b (el 5 i)) (sz 5) 0 0
def countFoeF (S : wPS) (el : Nat → Nat → Nat) (sz : Nat → Nat) : Int32 := sumR (fun i => if upB S 1 (el 5 i) then sI S q_Flight_count (el 5 i) else 0) (sz 5) 0 0
def liveB (S : wPS) (t : Nat) : Bool := !decide (sI S q_Track_isLive t = 0)
def countLiveF (S : wPS) (el : Nat → Nat → Nat) (sz : Nat → Nat) : Int32 := cntR (fun i => liveB S (el 7 i)) (sz 7) 0 0
def countKindF (S : wPS) (el : Nat → Nat → Nat) (sz : Nat → Nat) (k : Int32) : Int32 := cntR (fun i => liveB S (el 7 i) && decide (kindF S el sz (el 7 i) = k)) (sz 7) 0 0
def countAirF (S : wPS) (el : Nat → Nat → Nat) (sz : Nat → Nat) : Int32 := cntR (fun i => inAirB S (el 2 i)) (sz 2) 0 0
def countTalksF (S : wPS) (el : Nat → Nat → Nat) (sz : Nat → Nat) : Int32 := cntR (fun i => talkB S (el 2 i)) (sz 2) 0 0
def countWonF (S : wPS) (el : Nat → Nat → Nat) (sz : Nat → Nat) : Int32 := sumR (fun i => sI S q_Squadron_won (el 2 i)) (sz 2) 0 0
def countSentF (S : wPS) (el : Nat → Nat → Nat) (sz : Nat → Nat) (t : Nat) : Int32 := cntR (fun i => talkB S (el 2 i) && decide (tnF S (el 2 i) = sI S q_Track_number t)) (sz 2) 0 0
