theorem nw_at {S : wPS} {a kd n : Nat} (h : a ∉ sL S) : a ∈ sL (newS S a kd n) ∧ sK (newS S a kd n) a = kd := ⟨List.mem_append_right _ (List.mem_singleton.mpr rfl), if_pos rfl⟩
theorem nw_old {S : wPS} {a kd n b kb : Nat} (h : a ∉ sL S) (hb : b ∈ sL S ∧ sK S b = kb) : b ∈ sL (newS S a kd n) ∧ sK (newS S a kd n) b = kb := ⟨List.mem_append_left _ hb.1, (if_neg (fun z : b = a => h (z ▸ hb.1))).trans hb.2⟩
def rtR : Nat → Nat → Int32 → Int32
  | 0, i, _ => nI i
  | d + 1, i, q => if nI i * nI i < q then rtR d (i + 1) q else nI i
def rootF (q : Int32) : Int32 := rtR 399 1 q
theorem rtR_nI (q : Int32) : ∀ (d i : Nat), 1 ≤ i → ∃ j : Nat, 1 ≤ j ∧ j ≤ i + d ∧ rtR d i q = nI j
  | 0, i, h => ⟨i, h, Nat.le_refl i, rfl⟩
  | d + 1, i, h => by
    by_cases hc : nI i * nI i < q
    · obtain ⟨j, h1, h2, h3⟩ := rtR_nI q d (i + 1) (by omega)
      refine ⟨j, h1, by omega, ?_⟩
      show (if nI i * nI i < q then rtR d (i + 1) q else nI i) = _
      rw [if_pos hc, h3]
    · refine ⟨i, h, by omega, ?_⟩
      show (if nI i * nI i < q then rtR d (i + 1) q else nI i) = _
      rw [if_neg hc]
theorem root_nI (q : Int32) : ∃ j : Nat, 1 ≤ j ∧ j ≤ 400 ∧ rootF q = nI j := by
  obtain ⟨j, h1, h2, h3⟩ := rtR_nI q 399 1 (Nat.le_refl 1)
  exact ⟨j, h1, by omega, h3⟩
theorem root_ne (q : Int32) : ¬ rootF q = 0 := by
  obtain ⟨j, h1, h2, h3⟩ := root_nI q
  rw [h3]
  exact nI_ne0 (by omega) (by omega)
def moveF (S : wPS) (f : Nat) : wPS := if sI S q_Flight_isUp f = 0 then S else if isPlaceB (sI S q_Flight_x f + sI S q_Flight_courseX f) (sI S q_Flight_y f + sI S q_Flight_courseY f) then putI (putI S q_Flight_x f (sI S q_Flight_x f + sI S q_Flight_courseX f)) q_Flight_y f (sI S q_Flight_y f + sI S q_Flight_courseY f) else putI S q_Flight_isUp f 0
def loseF (S : wPS) (f : Nat) (m : Int32) : wPS := if 0 < sI S q_Flight_count f - m then putI S q_Flight_count f (sI S q_Flight_count f - m) else putI (putI S q_Flight_count f (sI S q_Flight_count f - m)) q_Flight_isUp f 0
def goF (S : wPS) (q : Nat) (tx ty : Int32) : wPS := if withinB (sI S q_Squadron_x q) (sI S q_Squadron_y q) (sI S q_Squadron_speed q) tx ty then putI (putI S q_Squadron_x q tx) q_Squadron_y q ty else putI (putI S q_Squadron_x q (sI S q_Squadron_x q + (tx - sI S q_Squadron_x q) * sI S q_Squadron_speed q / rootF (farF (sI S q_Squadron_x q) (sI S q_Squadron_y q) tx ty))) q_Squadron_y q (sI S q_Squadron_y q + (ty - sI S q_Squadron_y q) * sI S q_Squadron_speed q / rootF (farF (sI S q_Squadron_x q) (sI S q_Squadron_y q) tx ty))
def pinitFlight (S : wPS) (a : Nat) (u : Int32) (v : Int32) : wPS := putI (putI S q_Flight_x a u) q_Flight_y a v
def pinitGun (S : wPS) (a : Nat) (u : Int32) (v : Int32) : wPS := putI (putI S q_Gun_x a u) q_Gun_y a v
def pinitMast (S : wPS) (a : Nat) (u : Int32) (v : Int32) : wPS := putI (putI S q_Mast_x a u) q_Mast_y a v
def pinitPlace (S : wPS) (a : Nat) (u : Int32) (v : Int32) : wPS := putI (putI S q_Place_x a u) q_Place_y a v
def pinitPlot (S : wPS) (a : Nat) (u : Int32) (v : Int32) : wPS := putI (putI S q_Plot_x a u) q_Plot_y a v
def pinitSquadron (S : wPS) (a : Nat) (u : Int32) (v : Int32) : wPS := putI (putI S q_Squadron_x a u) q_Squadron_y a v
def pinitTown (S : wPS) (a : Nat) (u : Int32) (v : Int32) : wPS := putI (putI S q_Town_x a u) q_Town_y a v
def pinitTrack (S : wPS) (a : Nat) (u : Int32) (v : Int32) : wPS := putI (putI S q_Track_x a u) q_Track_y a v
def initFlight (S : wPS) (a : Nat) (fo : Int32) (u : Int32) (v : Int32) (cx : Int32) (cy : Int32) (hh : Int32) (nn : Int32) : wPS := putI (putI (putI (putI (putI (putI (pinitFlight S a u v) q_Flight_isFoe a fo) q_Flight_courseX a cx) q_Flight_courseY a cy) q_Flight_height a hh) q_Flight_count a nn) q_Flight_isUp a 1
def initGun (S : wPS) (a : Nat) (u : Int32) (v : Int32) (w : Int32) : wPS := putI (pinitGun S a u v) q_Gun_radius a w
def initTown (S : wPS) (a : Nat) (u : Int32) (v : Int32) (w : Int32) : wPS := putI (pinitTown S a u v) q_Town_people a w
def initMast (S : wPS) (a : Nat) (u : Int32) (v : Int32) (rg : Int32) (bl : Int32) (sl : Int32) (lg : Int32) : wPS := putI (putI (putI (putI (pinitMast S a u v) q_Mast_range a rg) q_Mast_blind a bl) q_Mast_slip a sl) q_Mast_lag a lg
def initPlot (S : wPS) (a : Nat) (m : Nat) : wPS := putR (pinitPlot S a (sI S q_Mast_x m) (sI S q_Mast_y m)) q_Plot_mast a (some m)
def initSquadron (S : wPS) (a : Nat) (sn : Int32) (b : Nat) (mc : Int32) (sp : Int32) (tk : Int32) (rd : Int32) : wPS := putI (putI (putI (putI (putI (putI (putI (putR (putI (pinitSquadron S a (sI S q_Place_x b) (sI S q_Place_y b)) q_Squadron_stationNumber a sn) q_Squadron_base a (some b)) q_Squadron_machines a mc) q_Squadron_speed a sp) q_Squadron_tank a tk) q_Squadron_ready a rd) q_Squadron_state a 0) q_Squadron_fuel a tk) q_Squadron_due a (-1)
def initTrack (S : wPS) (a : Nat) (nu : Int32) (p : Nat) : wPS := putI (putI (putI (putI (putI (pinitTrack S a (sI S q_Plot_x p) (sI S q_Plot_y p)) q_Track_number a nu) q_Track_minute a (sI (putI (pinitTrack S a (sI S q_Plot_x p) (sI S q_Plot_y p)) q_Track_number a nu) q_Plot_seenAt p)) q_Track_guess a (sI (putI (putI (pinitTrack S a (sI S q_Plot_x p) (sI S q_Plot_y p)) q_Track_number a nu) q_Track_minute a (sI (putI (pinitTrack S a (sI S q_Plot_x p) (sI S q_Plot_y p)) q_Track_number a nu) q_Plot_seenAt p)) q_Plot_guess p)) q_Track_hits a 1) q_Track_isLive a 1
def initLots (S : wPS) (a : Nat) : wPS := putI S q_Lots_next a 11
def initTally (S : wPS) (a : Nat) : wPS := S
def initAC (S : wPS) (a : Nat) : wPS := S
def initAL (S : wPS) (a : Nat) : wPS := putI (initAC S a) q_List_modCount a 0
def initList (S : wPS) (e9 : Nat × Nat) (a : Nat) : wPS := putR (initAL S a) q_List_elementData a (some e9.1)
def drawF (S : wPS) (l : Nat) : wPS := putI (putI S q_Lots_next l (((53 * (sI S q_Lots_next l)) + 29) - ((53 * (sI S q_Lots_next l)) + 29) / 241 * 241)) q_Lots_drawn l ((sI (putI S q_Lots_next l (((53 * (sI S q_Lots_next l)) + 29) - ((53 * (sI S q_Lots_next l)) + 29) / 241 * 241)) q_Lots_drawn l) + 1)
def drawFR (S : wPS) (l : Nat) : Int32 := sI S q_Lots_next l
def slipF (S : wPS) (l : Nat) (sl : Int32) : wPS := drawF S l
def slipFR (S : wPS) (l : Nat) (sl : Int32) : Int32 := ((drawFR S l) - (drawFR S l) / ((2 * sl) + 1) * ((2 * sl) + 1)) - sl
def writeF (S : wPS) (p : Nat) (m : Nat) (u : Int32) (v : Int32) (gs : Int32) (at_ : Int32) : wPS := putI (putI (putI (putI (putI (putR S q_Plot_mast p (some m)) q_Plot_x p u) q_Plot_y p v) q_Plot_guess p gs) q_Plot_seenAt p at_) q_Plot_due p (at_ + (sI (putI (putI (putI (putI (putR S q_Plot_mast p (some m)) q_Plot_x p u) q_Plot_y p v) q_Plot_guess p gs) q_Plot_seenAt p at_) q_Mast_lag m))
def orderF (S : wPS) (q : Nat) (t : Nat) (w : Int32) : wPS := putI (putR (putI S q_Squadron_state q 1) q_Squadron_target q (some t)) q_Squadron_due q w
def comeUpF (S : wPS) (q : Nat) : wPS := putI (putI S q_Squadron_state q 2) q_Squadron_due q (-1)
def headHomeF (S : wPS) (q : Nat) : wPS := putR (putI S q_Squadron_state q 3) q_Squadron_target q none
def restF (S : wPS) (q : Nat) (gs : Int32) (du : Int32) (b : Nat) : wPS := putI (putI (putI (putR (putI (putI S q_Squadron_state q gs) q_Squadron_due q du) q_Squadron_target q none) q_Squadron_fuel q (sI (putR (putI (putI S q_Squadron_state q gs) q_Squadron_due q du) q_Squadron_target q none) q_Squadron_tank q)) q_Squadron_x q (sI (putI (putR (putI (putI S q_Squadron_state q gs) q_Squadron_due q du) q_Squadron_target q none) q_Squadron_fuel q (sI (putR (putI (putI S q_Squadron_state q gs) q_Squadron_due q du) q_Squadron_target q none) q_Squadron_tank q)) q_Place_x b)) q_Squadron_y q (sI (putI (putI (putR (putI (putI S q_Squadron_state q gs) q_Squadron_due q du) q_Squadron_target q none) q_Squadron_fuel q (sI (putR (putI (putI S q_Squadron_state q gs) q_Squadron_due q du) q_Squadron_target q none) q_Squadron_tank q)) q_Squadron_x q (sI (putI (putR (putI (putI S q_Squadron_state q gs) q_Squadron_due q du) q_Squadron_target q none) q_Squadron_fuel q (sI (putR (putI (putI S q_Squadron_state q gs) q_Squadron_due q du) q_Squadron_target q none) q_Squadron_tank q)) q_Place_x b)) q_Place_y b)
