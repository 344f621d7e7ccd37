abbrev vwCl : List vw_C := [(RJx4a65c, TJx4a65c, 3), (RX0, TX0, 8), (RX1, TX1, 4), (RX2, TX2, 2), (RX3, TX3, 10), (RX4, TX4, 2), (RX6, TX6, 6), (RX7, TX7, 13), (RX8, TX8, 8), (RX9, TX9, 3), (RX10, TX10, 10), (RX11, TX11, 14)]
/-- the pool: its addresses, the kind of each, int columns, reference columns, lengths and rows of arrays -/
abbrev wPS : Type := List Nat × (Nat → Nat) × (Nat → Nat → Int32) × (Nat → Nat → Option Nat) × (Nat → Nat) × (Nat → Nat → Option Nat)
abbrev sL (S : wPS) : List Nat := S.1
abbrev sK (S : wPS) : Nat → Nat := S.2.1
abbrev sI (S : wPS) : Nat → Nat → Int32 := S.2.2.1
abbrev sR (S : wPS) : Nat → Nat → Option Nat := S.2.2.2.1
abbrev sN (S : wPS) : Nat → Nat := S.2.2.2.2.1
abbrev sW (S : wPS) : Nat → Nat → Option Nat := S.2.2.2.2.2
abbrev q_Flight_x : Nat := 0
abbrev q_Flight_y : Nat := 1
abbrev q_Flight_isFoe : Nat := 2
abbrev q_Flight_height : Nat := 3
abbrev q_Flight_courseX : Nat := 4
abbrev q_Flight_courseY : Nat := 5
abbrev q_Flight_count : Nat := 6
abbrev q_Flight_isUp : Nat := 7
abbrev q_Gun_x : Nat := 8
abbrev q_Gun_y : Nat := 9
abbrev q_Gun_radius : Nat := 10
abbrev q_Gun_isLent : Nat := 11
abbrev q_Lots_next : Nat := 12
abbrev q_Lots_drawn : Nat := 13
abbrev q_Mast_x : Nat := 14
abbrev q_Mast_y : Nat := 15
abbrev q_Mast_range : Nat := 16
abbrev q_Mast_blind : Nat := 17
abbrev q_Mast_slip : Nat := 18
abbrev q_Mast_lag : Nat := 19
abbrev q_Mast_isCut : Nat := 20
abbrev q_Mast_made : Nat := 21
abbrev q_Mast_came : Nat := 22
abbrev q_Mast_lost : Nat := 23
abbrev q_Place_x : Nat := 24
abbrev q_Place_y : Nat := 25
abbrev q_Plot_x : Nat := 26
abbrev q_Plot_y : Nat := 27
abbrev q_Plot_mast : Nat := 0
abbrev q_Plot_guess : Nat := 28
abbrev q_Plot_seenAt : Nat := 29
abbrev q_Plot_due : Nat := 30
abbrev q_Squadron_x : Nat := 31
abbrev q_Squadron_y : Nat := 32
abbrev q_Squadron_stationNumber : Nat := 33
abbrev q_Squadron_base : Nat := 1
abbrev q_Squadron_speed : Nat := 34
abbrev q_Squadron_tank : Nat := 35
abbrev q_Squadron_ready : Nat := 36
abbrev q_Squadron_machines : Nat := 37
abbrev q_Squadron_state : Nat := 38
abbrev q_Squadron_fuel : Nat := 39
abbrev q_Squadron_target : Nat := 2
abbrev q_Squadron_due : Nat := 40
abbrev q_Squadron_won : Nat := 41
abbrev q_Tally_refused : Nat := 42
abbrev q_Tally_plotsWithoutTrack : Nat := 43
abbrev q_Tally_fights : Nat := 44
abbrev q_Tally_claims : Nat := 45
abbrev q_Tally_machinesLost : Nat := 46
abbrev q_Tally_shames : Nat := 47
abbrev q_Tally_work : Nat := 48
abbrev q_Tally_lives : Nat := 49
abbrev q_Town_x : Nat := 50
abbrev q_Town_y : Nat := 51
abbrev q_Town_people : Nat := 52
abbrev q_Track_x : Nat := 53
abbrev q_Track_y : Nat := 54
abbrev q_Track_number : Nat := 55
abbrev q_Track_minute : Nat := 56
abbrev q_Track_courseX : Nat := 57
abbrev q_Track_courseY : Nat := 58
abbrev q_Track_hasCourse : Nat := 59
abbrev q_Track_guess : Nat := 60
abbrev q_Track_hits : Nat := 61
abbrev q_Track_isLive : Nat := 62
abbrev q_Room_masts : Nat := 3
abbrev q_Room_stations : Nat := 4
abbrev q_Room_squadrons : Nat := 5
abbrev q_Room_guns : Nat := 6
abbrev q_Room_towns : Nat := 7
abbrev q_Room_flights : Nat := 8
abbrev q_Room_plans : Nat := 9
abbrev q_Room_tracks : Nat := 10
abbrev q_Room_plots : Nat := 11
abbrev q_Room_plotsOnWay : Nat := 63
abbrev q_Room_lots : Nat := 12
abbrev q_Room_tally : Nat := 13
abbrev q_Room_minute : Nat := 64
abbrev q_Room_gateRadius : Nat := 65
abbrev q_List_modCount : Nat := 66
abbrev q_List_elementData : Nat := 14
abbrev q_List_size : Nat := 67
def wE (cO : ClassId) (k : Nat) (i : Nat → Int32) (r : Nat → Option Nat) (n : Nat) (w : Nat → Option Nat) : va_E := if k = 0 then .inr (1, [.int (i 0), .int (i 1), .int (i 2), .int (i 3), .int (i 4), .int (i 5), .int (i 6), .int (i 7)]) else if k = 1 then .inr (2, [.int (i 8), .int (i 9), .int (i 10), .int (i 11)]) else if k = 2 then .inr (3, [.int (i 12), .int (i 13)]) else if k = 3 then .inr (4, [.int (i 14), .int (i 15), .int (i 16), .int (i 17), .int (i 18), .int (i 19), .int (i 20), .int (i 21), .int (i 22), .int (i 23)]) else if k = 4 then .inr (5, [.int (i 24), .int (i 25)]) else if k = 5 then .inr (6, [.int (i 26), .int (i 27), va_rf (r 0), .int (i 28), .int (i 29), .int (i 30)]) else if k = 6 then .inr (7, [.int (i 31), .int (i 32), .int (i 33), va_rf (r 1), .int (i 34), .int (i 35), .int (i 36), .int (i 37), .int (i 38), .int (i 39), va_rf (r 2), .int (i 40), .int (i 41)]) else if k = 7 then .inr (8, [.int (i 42), .int (i 43), .int (i 44), .int (i 45), .int (i 46), .int (i 47), .int (i 48), .int (i 49)]) else if k = 8 then .inr (9, [.int (i 50), .int (i 51), .int (i 52)]) else if k = 9 then .inr (10, [.int (i 53), .int (i 54), .int (i 55), .int (i 56), .int (i 57), .int (i 58), .int (i 59), .int (i 60), .int (i 61), .int (i 62)]) else if k = 10 then .inr (11, [va_rf (r 3), va_rf (r 4), va_rf (r 5), va_rf (r 6), va_rf (r 7), va_rf (r 8), va_rf (r 9), va_rf (r 10), va_rf (r 11), .int (i 63), va_rf (r 12), va_rf (r 13), .int (i 64), .int (i 65)]) else if k = 11 then .inr (0, [.int (i 66), va_rf (r 14), .int (i 67)]) else .inl (cO, n, .inr (.inr (.inr (.inr w))))
def wF (cO : ClassId) (S : wPS) : Nat → va_E := fun a => wE cO (sK S a) (fun c => sI S c a) (fun c => sR S c a) (sN S a) (sW S a)
abbrev pool (cO : ClassId) (S : wPS) : va_W := va_pl (sL S) (wF cO S)
def putI (S : wPS) (c a : Nat) (v : Int32) : wPS := (sL S, sK S, va_up (sI S) c (va_up (sI S c) a v), sR S, sN S, sW S)
def putR (S : wPS) (c a : Nat) (v : Option Nat) : wPS := (sL S, sK S, sI S, va_up (sR S) c (va_up (sR S c) a v), sN S, sW S)
def putW (S : wPS) (a : Nat) (f : Nat → Option Nat) : wPS := (sL S, sK S, sI S, sR S, sN S, va_up (sW S) a f)
def newS (S : wPS) (a kd n : Nat) : wPS := (sL S ++ [a], va_up (sK S) a kd, fun c => va_up (sI S c) a 0, fun c => va_up (sR S c) a none, va_up (sN S) a n, va_up (sW S) a (fun _ => none))
theorem putI_col {S : wPS} {c a : Nat} {v : Int32} (c2 b : Nat) (h : c2 ≠ c ∨ b ≠ a) : sI (putI S c a v) c2 b = sI S c2 b := by
  show va_up (sI S) c (va_up (sI S c) a v) c2 b = sI S c2 b
  by_cases hc : c2 = c
  · subst hc
    have hb : b ≠ a := h.resolve_left (fun z => z rfl)
    simp [va_up, hb]
  · simp [va_up, hc]
theorem putI_at {S : wPS} {c a : Nat} {v : Int32} : sI (putI S c a v) c a = v := by
  show va_up (sI S) c (va_up (sI S c) a v) c a = v
  simp [va_up]
theorem putR_col {S : wPS} {c a : Nat} {v : Option Nat} (c2 b : Nat) (h : c2 ≠ c ∨ b ≠ a) : sR (putR S c a v) c2 b = sR S c2 b := by
  show va_up (sR S) c (va_up (sR S c) a v) c2 b = sR S c2 b
  by_cases hc : c2 = c
  · subst hc
    have hb : b ≠ a := h.resolve_left (fun z => z rfl)
    simp [va_up, hb]
  · simp [va_up, hc]
theorem putR_at {S : wPS} {c a : Nat} {v : Option Nat} : sR (putR S c a v) c a = v := by
  show va_up (sR S) c (va_up (sR S c) a v) c a = v
  simp [va_up]
theorem wA_Flight (cO : ClassId) (S : wPS) {a : Nat} (h : sK S a = 0) : wF cO S a = .inr (1, [.int (sI S 0 a), .int (sI S 1 a), .int (sI S 2 a), .int (sI S 3 a), .int (sI S 4 a), .int (sI S 5 a), .int (sI S 6 a), .int (sI S 7 a)]) := by
  unfold wF; rw [h]; rfl
theorem wG_Flight (cO : ClassId) (S : wPS) {a : Nat} (hO : a ∈ sL S ∧ sK S a = 0) : ∃ k : Nat, (pool cO S)[k]? = some (a, wF cO S a) ∧ (pool cO S)[k]? = some (a, .inr (1, [.int (sI S 0 a), .int (sI S 1 a), .int (sI S 2 a), .int (sI S 3 a), .int (sI S 4 a), .int (sI S 5 a), .int (sI S 6 a), .int (sI S 7 a)])) := by
  obtain ⟨k, hk⟩ := va_pl_get (X := []) (f := wF cO S) hO.1
  exact ⟨k, hk, (show (pool cO S)[k]? = some (a, wF cO S a) from hk).trans (congrArg (fun e => some (a, e)) (wA_Flight cO S hO.2))⟩
theorem wA_Gun (cO : ClassId) (S : wPS) {a : Nat} (h : sK S a = 1) : wF cO S a = .inr (2, [.int (sI S 8 a), .int (sI S 9 a), .int (sI S 10 a), .int (sI S 11 a)]) := by
  unfold wF; rw [h]; rfl
theorem wG_Gun (cO : ClassId) (S : wPS) {a : Nat} (hO : a ∈ sL S ∧ sK S a = 1) : ∃ k : Nat, (pool cO S)[k]? = some (a, wF cO S a) ∧ (pool cO S)[k]? = some (a, .inr (2, [.int (sI S 8 a), .int (sI S 9 a), .int (sI S 10 a), .int (sI S 11 a)])) := by
  obtain ⟨k, hk⟩ := va_pl_get (X := []) (f := wF cO S) hO.1
  exact ⟨k, hk, (show (pool cO S)[k]? = some (a, wF cO S a) from hk).trans (congrArg (fun e => some (a, e)) (wA_Gun cO S hO.2))⟩
theorem wA_Lots (cO : ClassId) (S : wPS) {a : Nat} (h : sK S a = 2) : wF cO S a = .inr (3, [.int (sI S 12 a), .int (sI S 13 a)]) := by
  unfold wF; rw [h]; rfl
theorem wG_Lots (cO : ClassId) (S : wPS) {a : Nat} (hO : a ∈ sL S ∧ sK S a = 2) : ∃ k : Nat, (pool cO S)[k]? = some (a, wF cO S a) ∧ (pool cO S)[k]? = some (a, .inr (3, [.int (sI S 12 a), .int (sI S 13 a)])) := by
  obtain ⟨k, hk⟩ := va_pl_get (X := []) (f := wF cO S) hO.1
  exact ⟨k, hk, (show (pool cO S)[k]? = some (a, wF cO S a) from hk).trans (congrArg (fun e => some (a, e)) (wA_Lots cO S hO.2))⟩
theorem wA_Mast (cO : ClassId) (S : wPS) {a : Nat} (h : sK S a = 3) : wF cO S a = .inr (4, [.int (sI S 14 a), .int (sI S 15 a), .int (sI S 16 a), .int (sI S 17 a), .int (sI S 18 a), .int (sI S 19 a), .int (sI S 20 a), .int (sI S 21 a), .int (sI S 22 a), .int (sI S 23 a)]) := by
  unfold wF; rw [h]; rfl
theorem wG_Mast (cO : ClassId) (S : wPS) {a : Nat} (hO : a ∈ sL S ∧ sK S a = 3) : ∃ k : Nat, (pool cO S)[k]? = some (a, wF cO S a) ∧ (pool cO S)[k]? = some (a, .inr (4, [.int (sI S 14 a), .int (sI S 15 a), .int (sI S 16 a), .int (sI S 17 a), .int (sI S 18 a), .int (sI S 19 a), .int (sI S 20 a), .int (sI S 21 a), .int (sI S 22 a), .int (sI S 23 a)])) := by
  obtain ⟨k, hk⟩ := va_pl_get (X := []) (f := wF cO S) hO.1
  exact ⟨k, hk, (show (pool cO S)[k]? = some (a, wF cO S a) from hk).trans (congrArg (fun e => some (a, e)) (wA_Mast cO S hO.2))⟩
theorem wA_Place (cO : ClassId) (S : wPS) {a : Nat} (h : sK S a = 4) : wF cO S a = .inr (5, [.int (sI S 24 a), .int (sI S 25 a)]) := by
  unfold wF; rw [h]; rfl
theorem wG_Place (cO : ClassId) (S : wPS) {a : Nat} (hO : a ∈ sL S ∧ sK S a = 4) : ∃ k : Nat, (pool cO S)[k]? = some (a, wF cO S a) ∧ (pool cO S)[k]? = some (a, .inr (5, [.int (sI S 24 a), .int (sI S 25 a)])) := by
  obtain ⟨k, hk⟩ := va_pl_get (X := []) (f := wF cO S) hO.1
  exact ⟨k, hk, (show (pool cO S)[k]? = some (a, wF cO S a) from hk).trans (congrArg (fun e => some (a, e)) (wA_Place cO S hO.2))⟩
theorem wA_Plot (cO : ClassId) (S : wPS) {a : Nat} (h : sK S a = 5) : wF cO S a = .inr (6, [.int (sI S 26 a), .int (sI S 27 a), va_rf (sR S 0 a), .int (sI S 28 a), .int (sI S 29 a), .int (sI S 30 a)]) := by
  unfold wF; rw [h]; rfl
theorem wG_Plot (cO : ClassId) (S : wPS) {a : Nat} (hO : a ∈ sL S ∧ sK S a = 5) : ∃ k : Nat, (pool cO S)[k]? = some (a, wF cO S a) ∧ (pool cO S)[k]? = some (a, .inr (6, [.int (sI S 26 a), .int (sI S 27 a), va_rf (sR S 0 a), .int (sI S 28 a), .int (sI S 29 a), .int (sI S 30 a)])) := by
  obtain ⟨k, hk⟩ := va_pl_get (X := []) (f := wF cO S) hO.1
  exact ⟨k, hk, (show (pool cO S)[k]? = some (a, wF cO S a) from hk).trans (congrArg (fun e => some (a, e)) (wA_Plot cO S hO.2))⟩
theorem wA_Squadron (cO : ClassId) (S : wPS) {a : Nat} (h : sK S a = 6) : wF cO S a = .inr (7, [.int (sI S 31 a), .int (sI S 32 a), .int (sI S 33 a), va_rf (sR S 1 a), .int (sI S 34 a), .int (sI S 35 a), .int (sI S 36 a), .int (sI S 37 a), .int (sI S 38 a), .int (sI S 39 a), va_rf (sR S 2 a), .int (sI S 40 a), .int (sI S 41 a)]) := by
  unfold wF; rw [h]; rfl
theorem wG_Squadron (cO : ClassId) (S : wPS) {a : Nat} (hO : a ∈ sL S ∧ sK S a = 6) : ∃ k : Nat, (pool cO S)[k]? = some (a, wF cO S a) ∧ (pool cO S)[k]? = some (a, .inr (7, [.int (sI S 31 a), .int (sI S 32 a), .int (sI S 33 a), va_rf (sR S 1 a), .int (sI S 34 a), .int (sI S 35 a), .int (sI S 36 a), .int (sI S 37 a), .int (sI S 38 a), .int (sI S 39 a), va_rf (sR S 2 a), .int (sI S 40 a), .int (sI S 41 a)])) := by
  obtain ⟨k, hk⟩ := va_pl_get (X := []) (f := wF cO S) hO.1
  exact ⟨k, hk, (show (pool cO S)[k]? = some (a, wF cO S a) from hk).trans (congrArg (fun e => some (a, e)) (wA_Squadron cO S hO.2))⟩
theorem wA_Tally (cO : ClassId) (S : wPS) {a : Nat} (h : sK S a = 7) : wF cO S a = .inr (8, [.int (sI S 42 a), .int (sI S 43 a), .int (sI S 44 a), .int (sI S 45 a), .int (sI S 46 a), .int (sI S 47 a), .int (sI S 48 a), .int (sI S 49 a)]) := by
  unfold wF; rw [h]; rfl
theorem wG_Tally (cO : ClassId) (S : wPS) {a : Nat} (hO : a ∈ sL S ∧ sK S a = 7) : ∃ k : Nat, (pool cO S)[k]? = some (a, wF cO S a) ∧ (pool cO S)[k]? = some (a, .inr (8, [.int (sI S 42 a), .int (sI S 43 a), .int (sI S 44 a), .int (sI S 45 a), .int (sI S 46 a), .int (sI S 47 a), .int (sI S 48 a), .int (sI S 49 a)])) := by
  obtain ⟨k, hk⟩ := va_pl_get (X := []) (f := wF cO S) hO.1
  exact ⟨k, hk, (show (pool cO S)[k]? = some (a, wF cO S a) from hk).trans (congrArg (fun e => some (a, e)) (wA_Tally cO S hO.2))⟩
theorem wA_Town (cO : ClassId) (S : wPS) {a : Nat} (h : sK S a = 8) : wF cO S a = .inr (9, [.int (sI S 50 a), .int (sI S 51 a), .int (sI S 52 a)]) := by
  unfold wF; rw [h]; rfl
theorem wG_Town (cO : ClassId) (S : wPS) {a : Nat} (hO : a ∈ sL S ∧ sK S a = 8) : ∃ k : Nat, (pool cO S)[k]? = some (a, wF cO S a) ∧ (pool cO S)[k]? = some (a, .inr (9, [.int (sI S 50 a), .int (sI S 51 a), .int (sI S 52 a)])) := by
  obtain ⟨k, hk⟩ := va_pl_get (X := []) (f := wF cO S) hO.1
  exact ⟨k, hk, (show (pool cO S)[k]? = some (a, wF cO S a) from hk).trans (congrArg (fun e => some (a, e)) (wA_Town cO S hO.2))⟩
theorem wA_Track (cO : ClassId) (S : wPS) {a : Nat} (h : sK S a = 9) : wF cO S a = .inr (10, [.int (sI S 53 a), .int (sI S 54 a), .int (sI S 55 a), .int (sI S 56 a), .int (sI S 57 a), .int (sI S 58 a), .int (sI S 59 a), .int (sI S 60 a), .int (sI S 61 a), .int (sI S 62 a)]) := by
  unfold wF; rw [h]; rfl
theorem wG_Track (cO : ClassId) (S : wPS) {a : Nat} (hO : a ∈ sL S ∧ sK S a = 9) : ∃ k : Nat, (pool cO S)[k]? = some (a, wF cO S a) ∧ (pool cO S)[k]? = some (a, .inr (10, [.int (sI S 53 a), .int (sI S 54 a), .int (sI S 55 a), .int (sI S 56 a), .int (sI S 57 a), .int (sI S 58 a), .int (sI S 59 a), .int (sI S 60 a), .int (sI S 61 a), .int (sI S 62 a)])) := by
  obtain ⟨k, hk⟩ := va_pl_get (X := []) (f := wF cO S) hO.1
  exact ⟨k, hk, (show (pool cO S)[k]? = some (a, wF cO S a) from hk).trans (congrArg (fun e => some (a, e)) (wA_Track cO S hO.2))⟩
theorem wA_Room (cO : ClassId) (S : wPS) {a : Nat} (h : sK S a = 10) : wF cO S a = .inr (11, [va_rf (sR S 3 a), va_rf (sR S 4 a), va_rf (sR S 5 a), va_rf (sR S 6 a), va_rf (sR S 7 a), va_rf (sR S 8 a), va_rf (sR S 9 a), va_rf (sR S 10 a), va_rf (sR S 11 a), .int (sI S 63 a), va_rf (sR S 12 a), va_rf (sR S 13 a), .int (sI S 64 a), .int (sI S 65 a)]) := by
  unfold wF; rw [h]; rfl
theorem wG_Room (cO : ClassId) (S : wPS) {a : Nat} (hO : a ∈ sL S ∧ sK S a = 10) : ∃ k : Nat, (pool cO S)[k]? = some (a, wF cO S a) ∧ (pool cO S)[k]? = some (a, .inr (11, [va_rf (sR S 3 a), va_rf (sR S 4 a), va_rf (sR S 5 a), va_rf (sR S 6 a), va_rf (sR S 7 a), va_rf (sR S 8 a), va_rf (sR S 9 a), va_rf (sR S 10 a), va_rf (sR S 11 a), .int (sI S 63 a), va_rf (sR S 12 a), va_rf (sR S 13 a), .int (sI S 64 a), .int (sI S 65 a)])) := by
  obtain ⟨k, hk⟩ := va_pl_get (X := []) (f := wF cO S) hO.1
  exact ⟨k, hk, (show (pool cO S)[k]? = some (a, wF cO S a) from hk).trans (congrArg (fun e => some (a, e)) (wA_Room cO S hO.2))⟩
theorem wA_List (cO : ClassId) (S : wPS) {a : Nat} (h : sK S a = 11) : wF cO S a = .inr (0, [.int (sI S 66 a), va_rf (sR S 14 a), .int (sI S 67 a)]) := by
  unfold wF; rw [h]; rfl
theorem wG_List (cO : ClassId) (S : wPS) {a : Nat} (hO : a ∈ sL S ∧ sK S a = 11) : ∃ k : Nat, (pool cO S)[k]? = some (a, wF cO S a) ∧ (pool cO S)[k]? = some (a, .inr (0, [.int (sI S 66 a), va_rf (sR S 14 a), .int (sI S 67 a)])) := by
  obtain ⟨k, hk⟩ := va_pl_get (X := []) (f := wF cO S) hO.1
  exact ⟨k, hk, (show (pool cO S)[k]? = some (a, wF cO S a) from hk).trans (congrArg (fun e => some (a, e)) (wA_List cO S hO.2))⟩
theorem wA_Arr (cO : ClassId) (S : wPS) {a : Nat} (h : sK S a = 12) : wF cO S a = .inl (cO, sN S a, .inr (.inr (.inr (.inr (sW S a))))) := by
  unfold wF; rw [h]; rfl
theorem wG_Arr (cO : ClassId) (S : wPS) {a : Nat} (hO : a ∈ sL S ∧ sK S a = 12) : ∃ k : Nat, (pool cO S)[k]? = some (a, wF cO S a) ∧ (pool cO S)[k]? = some (a, .inl (cO, sN S a, .inr (.inr (.inr (.inr (sW S a)))))) := by
  obtain ⟨k, hk⟩ := va_pl_get (X := []) (f := wF cO S) hO.1
  exact ⟨k, hk, (show (pool cO S)[k]? = some (a, wF cO S a) from hk).trans (congrArg (fun e => some (a, e)) (wA_Arr cO S hO.2))⟩
theorem w_set {A : Nat → Prop} {cO : ClassId} {S : wPS} {a k : Nat} {e : va_E} {S1 : wPS} (hD : va_D A (pool cO S)) (hL : a ∈ sL S) (hk : (pool cO S)[k]? = some (a, wF cO S a)) (h1 : sL S1 = sL S) (h2 : ∀ b : Nat, b ≠ a → wF cO S1 b = wF cO S b) (h3 : wF cO S1 a = e) : (pool cO S).set k (a, e) = pool cO S1 := by
  have h := va_pl_set (X := []) (f := wF cO S) (e := e) hD hL hk
  refine Eq.trans (show (pool cO S).set k (a, e) = va_pl (sL S) (va_up (wF cO S) a e) from h) ?_
  show va_pl (sL S) (va_up (wF cO S) a e) = va_pl (sL S1) (wF cO S1)
  rw [h1]
  refine va_pl_congr (fun b => ?_)
  by_cases hb : b = a
  · subst hb
    rw [h3]; exact if_pos rfl
  · rw [h2 b hb]; exact if_neg hb
theorem w_putI_ne {cO : ClassId} {S : wPS} {c a : Nat} {v : Int32} (b : Nat) (hb : b ≠ a) : wF cO (putI S c a v) b = wF cO S b := by
  have h : (fun c2 => sI (putI S c a v) c2 b) = (fun c2 => sI S c2 b) := funext fun c2 => putI_col c2 b (Or.inr hb)
  show wE cO (sK S b) (fun c2 => sI (putI S c a v) c2 b) (fun c2 => sR S c2 b) (sN S b) (sW S b) = _
  rw [h]; rfl
theorem w_putR_ne {cO : ClassId} {S : wPS} {c a : Nat} {v : Option Nat} (b : Nat) (hb : b ≠ a) : wF cO (putR S c a v) b = wF cO S b := by
  have h : (fun c2 => sR (putR S c a v) c2 b) = (fun c2 => sR S c2 b) := funext fun c2 => putR_col c2 b (Or.inr hb)
  show wE cO (sK S b) (fun c2 => sI S c2 b) (fun c2 => sR (putR S c a v) c2 b) (sN S b) (sW S b) = _
  rw [h]; rfl
theorem wU_Flight_x {A : Nat → Prop} (cO : ClassId) (S : wPS) {a k : Nat} (hD : va_D A (pool cO S)) (hO : a ∈ sL S ∧ sK S a = 0) (hk : (pool cO S)[k]? = some (a, wF cO S a)) (v : Int32) : (pool cO S).set k (a, .inr (1, [.int v, .int (sI S 1 a), .int (sI S 2 a), .int (sI S 3 a), .int (sI S 4 a), .int (sI S 5 a), .int (sI S 6 a), .int (sI S 7 a)])) = pool cO (putI S 0 a v) := by
  refine w_set hD hO.1 hk rfl (fun b hb => w_putI_ne b hb) ?_
  refine (wA_Flight cO (putI S 0 a v) hO.2).trans ?_
  rw [putI_at (S := S) (c := 0) (a := a) (v := v), putI_col (S := S) (c := 0) (a := a) (v := v) 1 a (Or.inl (by decide)), putI_col (S := S) (c := 0) (a := a) (v := v) 2 a (Or.inl (by decide)), putI_col (S := S) (c := 0) (a := a) (v := v) 3 a (Or.inl (by decide)), putI_col (S := S) (c := 0) (a := a) (v := v) 4 a (Or.inl (by decide)), putI_col (S := S) (c := 0) (a := a) (v := v) 5 a (Or.inl (by decide)), putI_col (S := S) (c := 0) (a := a) (v := v) 6 a (Or.inl (by decide)), putI_col (S := S) (c := 0) (a := a) (v := v) 7 a (Or.inl (by decide))]
theorem wU_Flight_y {A : Nat → Prop} (cO : ClassId) (S : wPS) {a k : Nat} (hD : va_D A (pool cO S)) (hO : a ∈ sL S ∧ sK S a = 0) (hk : (pool cO S)[k]? = some (a, wF cO S a)) (v : Int32) : (pool cO S).set k (a, .inr (1, [.int (sI S 0 a), .int v, .int (sI S 2 a), .int (sI S 3 a), .int (sI S 4 a), .int (sI S 5 a), .int (sI S 6 a), .int (sI S 7 a)])) = pool cO (putI S 1 a v) := by
  refine w_set hD hO.1 hk rfl (fun b hb => w_putI_ne b hb) ?_
  refine (wA_Flight cO (putI S 1 a v) hO.2).trans ?_
  rw [putI_col (S := S) (c := 1) (a := a) (v := v) 0 a (Or.inl (by decide)), putI_at (S := S) (c := 1) (a := a) (v := v), putI_col (S := S) (c := 1) (a := a) (v := v) 2 a (Or.inl (by decide)), putI_col (S := S) (c := 1) (a := a) (v := v) 3 a (Or.inl (by decide)), putI_col (S := S) (c := 1) (a := a) (v := v) 4 a (Or.inl (by decide)), putI_col (S := S) (c := 1) (a := a) (v := v) 5 a (Or.inl (by decide)), putI_col (S := S) (c := 1) (a := a) (v := v) 6 a (Or.inl (by decide)), putI_col (S := S) (c := 1) (a := a) (v := v) 7 a (Or.inl (by decide))]
theorem wU_Flight_isFoe {A : Nat → Prop} (cO : ClassId) (S : wPS) {a k : Nat} (hD : va_D A (pool cO S)) (hO : a ∈ sL S ∧ sK S a = 0) (hk : (pool cO S)[k]? = some (a, wF cO S a)) (v : Int32) : (pool cO S).set k (a, .inr (1, [.int (sI S 0 a), .int (sI S 1 a), .int v, .int (sI S 3 a), .int (sI S 4 a), .int (sI S 5 a), .int (sI S 6 a), .int (sI S 7 a)])) = pool cO (putI S 2 a v) := by
  refine w_set hD hO.1 hk rfl (fun b hb => w_putI_ne b hb) ?_
  refine (wA_Flight cO (putI S 2 a v) hO.2).trans ?_
  rw [putI_col (S := S) (c := 2) (a := a) (v := v) 0 a (Or.inl (by decide)), putI_col (S := S) (c := 2) (a := a) (v := v) 1 a (Or.inl (by decide)), putI_at (S := S) (c := 2) (a := a) (v := v), putI_col (S := S) (c := 2) (a := a) (v := v) 3 a (Or.inl (by decide)), putI_col (S := S) (c := 2) (a := a) (v := v) 4 a (Or.inl (by decide)), putI_col (S := S) (c := 2) (a := a) (v := v) 5 a (Or.inl (by decide)), putI_col (S := S) (c := 2) (a := a) (v := v) 6 a (Or.inl (by decide)), putI_col (S := S) (c := 2) (a := a) (v := v) 7 a (Or.inl (by decide))]
theorem wU_Flight_height {A : Nat → Prop} (cO : ClassId) (S : wPS) {a k : Nat} (hD : va_D A (pool cO S)) (hO : a ∈ sL S ∧ sK S a = 0) (hk : (pool cO S)[k]? = some (a, wF cO S a)) (v : Int32) : (pool cO S).set k (a, .inr (1, [.int (sI S 0 a), .int (sI S 1 a), .int (sI S 2 a), .int v, .int (sI S 4 a), .int (sI S 5 a), .int (sI S 6 a), .int (sI S 7 a)])) = pool cO (putI S 3 a v) := by
  refine w_set hD hO.1 hk rfl (fun b hb => w_putI_ne b hb) ?_
  refine (wA_Flight cO (putI S 3 a v) hO.2).trans ?_
  rw [putI_col (S := S) (c := 3) (a := a) (v := v) 0 a (Or.inl (by decide)), putI_col (S := S) (c := 3) (a := a) (v := v) 1 a (Or.inl (by decide)), putI_col (S := S) (c := 3) (a := a) (v := v) 2 a (Or.inl (by decide)), putI_at (S := S) (c := 3) (a := a) (v := v), putI_col (S := S) (c := 3) (a := a) (v := v) 4 a (Or.inl (by decide)), putI_col (S := S) (c := 3) (a := a) (v := v) 5 a (Or.inl (by decide)), putI_col (S := S) (c := 3) (a := a) (v := v) 6 a (Or.inl (by decide)), putI_col (S := S) (c := 3) (a := a) (v := v) 7 a (Or.inl (by decide))]
theorem wU_Flight_courseX {A : Nat → Prop} (cO : ClassId) (S : wPS) {a k : Nat} (hD : va_D A (pool cO S)) (hO : a ∈ sL S ∧ sK S a = 0) (hk : (pool cO S)[k]? = some (a, wF cO S a)) (v : Int32) : (pool cO S).set k (a, .inr (1, [.int (sI S 0 a), .int (sI S 1 a), .int (sI S 2 a), .int (sI S 3 a), .int v, .int (sI S 5 a), .int (sI S 6 a), .int (sI S 7 a)])) = pool cO (putI S 4 a v) := by
  refine w_set hD hO.1 hk rfl (fun b hb => w_putI_ne b hb) ?_
  refine (wA_Flight cO (putI S 4 a v) hO.2).trans ?_
  rw [putI_col (S := S) (c := 4) (a := a) (v := v) 0 a (Or.inl (by decide)), putI_col (S := S) (c := 4) (a := a) (v := v) 1 a (Or.inl (by decide)), putI_col (S := S) (c := 4) (a := a) (v := v) 2 a (Or.inl (by decide)), putI_col (S := S) (c := 4) (a := a) (v := v) 3 a (Or.inl (by decide)), putI_at (S := S) (c := 4) (a := a) (v := v), putI_col (S := S) (c := 4) (a := a) (v := v) 5 a (Or.inl (by decide)), putI_col (S := S) (c := 4) (a := a) (v := v) 6 a (Or.inl (by decide)), putI_col (S := S) (c := 4) (a := a) (v := v) 7 a (Or.inl (by decide))]
theorem wU_Flight_courseY {A : Nat → Prop} (cO : ClassId) (S : wPS) {a k : Nat} (hD : va_D A (pool cO S)) (hO : a ∈ sL S ∧ sK S a = 0) (hk : (pool cO S)[k]? = some (a, wF cO S a)) (v : Int32) : (pool cO S).set k (a, .inr (1, [.int (sI S 0 a), .int (sI S 1 a), .int (sI S 2 a), .int (sI S 3 a), .int (sI S 4 a), .int v, .int (sI S 6 a), .int (sI S 7 a)])) = pool cO (putI S 5 a v) := by
  refine w_set hD hO.1 hk rfl (fun b hb => w_putI_ne b hb) ?_
  refine (wA_Flight cO (putI S 5 a v) hO.2).trans ?_
  rw [putI_col (S := S) (c := 5) (a := a) (v := v) 0 a (Or.inl (by decide)), putI_col (S := S) (c := 5) (a := a) (v := v) 1 a (Or.inl (by decide)), putI_col (S := S) (c := 5) (a := a) (v := v) 2 a (Or.inl (by decide)), putI_col (S := S) (c := 5) (a := a) (v := v) 3 a (Or.inl (by decide)), putI_col (S := S) (c := 5) (a := a) (v := v) 4 a (Or.inl (by decide)), putI_at (S := S) (c := 5) (a := a) (v := v), putI_col (S := S) (c := 5) (a := a) (v := v) 6 a (Or.inl (by decide)), putI_col (S := S) (c := 5) (a := a) (v := v) 7 a (Or.inl (by decide))]
theorem wU_Flight_count {A : Nat → Prop} (cO : ClassId) (S : wPS) {a k : Nat} (hD : va_D A (pool cO S)) (hO : a ∈ sL S ∧ sK S a = 0) (hk : (pool cO S)[k]? = some (a, wF cO S a)) (v : Int32) : (pool cO S).set k (a, .inr (1, [.int (sI S 0 a), .int (sI S 1 a), .int (sI S 2 a), .int (sI S 3 a), .int (sI S 4 a), .int (sI S 5 a), .int v, .int (sI S 7 a)])) = pool cO (putI S 6 a v) := by
  refine w_set hD hO.1 hk rfl (fun b hb => w_putI_ne b hb) ?_
  refine (wA_Flight cO (putI S 6 a v) hO.2).trans ?_
  rw [putI_col (S := S) (c := 6) (a := a) (v := v) 0 a (Or.inl (by decide)), putI_col (S := S) (c := 6) (a := a) (v := v) 1 a (Or.inl (by decide)), putI_col (S := S) (c := 6) (a := a) (v := v) 2 a (Or.inl (by decide)), putI_col (S := S) (c := 6) (a := a) (v := v) 3 a (Or.inl (by decide)), putI_col (S := S) (c := 6) (a := a) (v := v) 4 a (Or.inl (by decide)), putI_col (S := S) (c := 6) (a := a) (v := v) 5 a (Or.inl (by decide)), putI_at (S := S) (c := 6) (a := a) (v := v), putI_col (S := S) (c := 6) (a := a) (v := v) 7 a (Or.inl (by decide))]
theorem wU_Flight_isUp {A : Nat → Prop} (cO : ClassId) (S : wPS) {a k : Nat} (hD : va_D A (pool cO S)) (hO : a ∈ sL S ∧ sK S a = 0) (hk : (pool cO S)[k]? = some (a, wF cO S a)) (v : Int32) : (pool cO S).set k (a, .inr (1, [.int (sI S 0 a), .int (sI S 1 a), .int (sI S 2 a), .int (sI S 3 a), .int (sI S 4 a), .int (sI S 5 a), .int (sI S 6 a), .int v])) = pool cO (putI S 7 a v) := by
  refine w_set hD hO.1 hk rfl (fun b hb => w_putI_ne b hb) ?_
  refine (wA_Flight cO (putI S 7 a v) hO.2).trans ?_
  rw [putI_col (S := S) (c := 7) (a := a) (v := v) 0 a (Or.inl (by decide)), putI_col (S := S) (c := 7) (a := a) (v := v) 1 a (Or.inl (by decide)), putI_col (S := S) (c := 7) (a := a) (v := v) 2 a (Or.inl (by decide)), putI_col (S := S) (c := 7) (a := a) (v := v) 3 a (Or.inl (by decide)), putI_col (S := S) (c := 7) (a := a) (v := v) 4 a (Or.inl (by decide)), putI_col (S := S) (c := 7) (a := a) (v := v) 5 a (Or.inl (by decide)), putI_col (S := S) (c := 7) (a := a) (v := v) 6 a (Or.inl (by decide)), putI_at (S := S) (c := 7) (a := a) (v := v)]
theorem wU_Gun_x {A : Nat → Prop} (cO : ClassId) (S : wPS) {a k : Nat} (hD : va_D A (pool cO S)) (hO : a ∈ sL S ∧ sK S a = 1) (hk : (pool cO S)[k]? = some (a, wF cO S a)) (v : Int32) : (pool cO S).set k (a, .inr (2, [.int v, .int (sI S 9 a), .int (sI S 10 a), .int (sI S 11 a)])) = pool cO (putI S 8 a v) := by
  refine w_set hD hO.1 hk rfl (fun b hb => w_putI_ne b hb) ?_
  refine (wA_Gun cO (putI S 8 a v) hO.2).trans ?_
  rw [putI_at (S := S) (c := 8) (a := a) (v := v), putI_col (S := S) (c := 8) (a := a) (v := v) 9 a (Or.inl (by decide)), putI_col (S := S) (c := 8) (a := a) (v := v) 10 a (Or.inl (by decide)), putI_col (S := S) (c := 8) (a := a) (v := v) 11 a (Or.inl (by decide))]
theorem wU_Gun_y {A : Nat → Prop} (cO : ClassId) (S : wPS) {a k : Nat} (hD : va_D A (pool cO S)) (hO : a ∈ sL S ∧ sK S a = 1) (hk : (pool cO S)[k]? = some (a, wF cO S a)) (v : Int32) : (pool cO S).set k (a, .inr (2, [.int (sI S 8 a), .int v, .int (sI S 10 a), .int (sI S 11 a)])) = pool cO (putI S 9 a v) := by
  refine w_set hD hO.1 hk rfl (fun b hb => w_putI_ne b hb) ?_
  refine (wA_Gun cO (putI S 9 a v) hO.2).trans ?_
  rw [putI_col (S := S) (c := 9) (a := a) (v := v) 8 a (Or.inl (by decide)), putI_at (S := S) (c := 9) (a := a) (v := v), putI_col (S := S) (c := 9) (a := a) (v := v) 10 a (Or.inl (by decide)), putI_col (S := S) (c := 9) (a := a) (v := v) 11 a (Or.inl (by decide))]
theorem wU_Gun_radius {A : Nat → Prop} (cO : ClassId) (S : wPS) {a k : Nat} (hD : va_D A (pool cO S)) (hO : a ∈ sL S ∧ sK S a = 1) (hk : (pool cO S)[k]? = some (a, wF cO S a)) (v : Int32) : (pool cO S).set k (a, .inr (2, [.int (sI S 8 a), .int (sI S 9 a), .int v, .int (sI S 11 a)])) = pool cO (putI S 10 a v) := by
  refine w_set hD hO.1 hk rfl (fun b hb => w_putI_ne b hb) ?_
  refine (wA_Gun cO (putI S 10 a v) hO.2).trans ?_
  rw [putI_col (S := S) (c := 10) (a := a) (v := v) 8 a (Or.inl (by decide)), putI_col (S := S) (c := 10) (a := a) (v := v) 9 a (Or.inl (by decide)), putI_at (S := S) (c := 10) (a := a) (v := v), putI_col (S := S) (c := 10) (a := a) (v := v) 11 a (Or.inl (by decide))]
theorem wU_Gun_isLent {A : Nat → Prop} (cO : ClassId) (S : wPS) {a k : Nat} (hD : va_D A (pool cO S)) (hO : a ∈ sL S ∧ sK S a = 1) (hk : (pool cO S)[k]? = some (a, wF cO S a)) (v : Int32) : (pool cO S).set k (a, .inr (2, [.int (sI S 8 a), .int (sI S 9 a), .int (sI S 10 a), .int v])) = pool cO (putI S 11 a v) := by
  refine w_set hD hO.1 hk rfl (fun b hb => w_putI_ne b hb) ?_
  refine (wA_Gun cO (putI S 11 a v) hO.2).trans ?_
  rw [putI_col (S := S) (c := 11) (a := a) (v := v) 8 a (Or.inl (by decide)), putI_col (S := S) (c := 11) (a := a) (v := v) 9 a (Or.inl (by decide)), putI_col (S := S) (c := 11) (a := a) (v := v) 10 a (Or.inl (by decide)), putI_at (S := S) (c := 11) (a := a) (v := v)]
theorem wU_Lots_next {A : Nat → Prop} (cO : ClassId) (S : wPS) {a k : Nat} (hD : va_D A (pool cO S)) (hO : a ∈ sL S ∧ sK S a = 2) (hk : (pool cO S)[k]? = some (a, wF cO S a)) (v : Int32) : (pool cO S).set k (a, .inr (3, [.int v, .int (sI S 13 a)])) = pool cO (putI S 12 a v) := by
  refine w_set hD hO.1 hk rfl (fun b hb => w_putI_ne b hb) ?_
  refine (wA_Lots cO (putI S 12 a v) hO.2).trans ?_
  rw [putI_at (S := S) (c := 12) (a := a) (v := v), putI_col (S := S) (c := 12) (a := a) (v := v) 13 a (Or.inl (by decide))]
theorem wU_Lots_drawn {A : Nat → Prop} (cO : ClassId) (S : wPS) {a k : Nat} (hD : va_D A (pool cO S)) (hO : a ∈ sL S ∧ sK S a = 2) (hk : (pool cO S)[k]? = some (a, wF cO S a)) (v : Int32) : (pool cO S).set k (a, .inr (3, [.int (sI S 12 a), .int v])) = pool cO (putI S 13 a v) := by
  refine w_set hD hO.1 hk rfl (fun b hb => w_putI_ne b hb) ?_
  refine (wA_Lots cO (putI S 13 a v) hO.2).trans ?_
  rw [putI_col (S := S) (c := 13) (a := a) (v := v) 12 a (Or.inl (by decide)), putI_at (S := S) (c := 13) (a := a) (v := v)]
theorem wU_Mast_x {A : Nat → Prop} (cO : ClassId) (S : wPS) {a k : Nat} (hD : va_D A (pool cO S)) (hO : a ∈ sL S ∧ sK S a = 3) (hk : (pool cO S)[k]? = some (a, wF cO S a)) (v : Int32) : (pool cO S).set k (a, .inr (4, [.int v, .int (sI S 15 a), .int (sI S 16 a), .int (sI S 17 a), .int (sI S 18 a), .int (sI S 19 a), .int (sI S 20 a), .int (sI S 21 a), .int (sI S 22 a), .int (sI S 23 a)])) = pool cO (putI S 14 a v) := by
  refine w_set hD hO.1 hk rfl (fun b hb => w_putI_ne b hb) ?_
  refine (wA_Mast cO (putI S 14 a v) hO.2).trans ?_
  rw [putI_at (S := S) (c := 14) (a := a) (v := v), putI_col (S := S) (c := 14) (a := a) (v := v) 15 a (Or.inl (by decide)), putI_col (S := S) (c := 14) (a := a) (v := v) 16 a (Or.inl (by decide)), putI_col (S := S) (c := 14) (a := a) (v := v) 17 a (Or.inl (by decide)), putI_col (S := S) (c := 14) (a := a) (v := v) 18 a (Or.inl (by decide)), putI_col (S := S) (c := 14) (a := a) (v := v) 19 a (Or.inl (by decide)), putI_col (S := S) (c := 14) (a := a) (v := v) 20 a (Or.inl (by decide)), putI_col (S := S) (c := 14) (a := a) (v := v) 21 a (Or.inl (by decide)), putI_col (S := S) (c := 14) (a := a) (v := v) 22 a (Or.inl (by decide)), putI_col (S := S) (c := 14) (a := a) (v := v) 23 a (Or.inl (by decide))]
theorem wU_Mast_y {A : Nat → Prop} (cO : ClassId) (S : wPS) {a k : Nat} (hD : va_D A (pool cO S)) (hO : a ∈ sL S ∧ sK S a = 3) (hk : (pool cO S)[k]? = some (a, wF cO S a)) (v : Int32) : (pool cO S).set k (a, .inr (4, [.int (sI S 14 a), .int v, .int (sI S 16 a), .int (sI S 17 a), .int (sI S 18 a), .int (sI S 19 a), .int (sI S 20 a), .int (sI S 21 a), .int (sI S 22 a), .int (sI S 23 a)])) = pool cO (putI S 15 a v) := by
  refine w_set hD hO.1 hk rfl (fun b hb => w_putI_ne b hb) ?_
  refine (wA_Mast cO (putI S 15 a v) hO.2).trans ?_
  rw [putI_col (S := S) (c := 15) (a := a) (v := v) 14 a (Or.inl (by decide)), putI_at (S := S) (c := 15) (a := a) (v := v), putI_col (S := S) (c := 15) (a := a) (v := v) 16 a (Or.inl (by decide)), putI_col (S := S) (c := 15) (a := a) (v := v) 17 a (Or.inl (by decide)), putI_col (S := S) (c := 15) (a := a) (v := v) 18 a (Or.inl (by decide)), putI_col (S := S) (c := 15) (a := a) (v := v) 19 a (Or.inl (by decide)), putI_col (S := S) (c := 15) (a := a) (v := v) 20 a (Or.inl (by decide)), putI_col (S := S) (c := 15) (a := a) (v := v) 21 a (Or.inl (by decide)), putI_col (S := S) (c := 15) (a := a) (v := v) 22 a (Or.inl (by decide)), putI_col (S := S) (c := 15) (a := a) (v := v) 23 a (Or.inl (by decide))]
theorem wU_Mast_range {A : Nat → Prop} (cO : ClassId) (S : wPS) {a k : Nat} (hD : va_D A (pool cO S)) (hO : a ∈ sL S ∧ sK S a = 3) (hk : (pool cO S)[k]? = some (a, wF cO S a)) (v : Int32) : (pool cO S).set k (a, .inr (4, [.int (sI S 14 a), .int (sI S 15 a), .int v, .int (sI S 17 a), .int (sI S 18 a), .int (sI S 19 a), .int (sI S 20 a), .int (sI S 21 a), .int (sI S 22 a), .int (sI S 23 a)])) = pool cO (putI S 16 a v) := by
  refine w_set hD hO.1 hk rfl (fun b hb => w_putI_ne b hb) ?_
  refine (wA_Mast cO (putI S 16 a v) hO.2).trans ?_
  rw [putI_col (S := S) (c := 16) (a := a) (v := v) 14 a (Or.inl (by decide)), putI_col (S := S) (c := 16) (a := a) (v := v) 15 a (Or.inl (by decide)), putI_at (S := S) (c := 16) (a := a) (v := v), putI_col (S := S) (c := 16) (a := a) (v := v) 17 a (Or.inl (by decide)), putI_col (S := S) (c := 16) (a := a) (v := v) 18 a (Or.inl (by decide)), putI_col (S := S) (c := 16) (a := a) (v := v) 19 a (Or.inl (by decide)), putI_col (S := S) (c := 16) (a := a) (v := v) 20 a (Or.inl (by decide)), putI_col (S := S) (c := 16) (a := a) (v := v) 21 a (Or.inl (by decide)), putI_col (S := S) (c := 16) (a := a) (v := v) 22 a (Or.inl (by decide)), putI_col (S := S) (c := 16) (a := a) (v := v) 23 a (Or.inl (by decide))]
theorem wU_Mast_blind {A : Nat → Prop} (cO : ClassId) (S : wPS) {a k : Nat} (hD : va_D A (pool cO S)) (hO : a ∈ sL S ∧ sK S a = 3) (hk : (pool cO S)[k]? = some (a, wF cO S a)) (v : Int32) : (pool cO S).set k (a, .inr (4, [.int (sI S 14 a), .int (sI S 15 a), .int (sI S 16 a), .int v, .int (sI S 18 a), .int (sI S 19 a), .int (sI S 20 a), .int (sI S 21 a), .int (sI S 22 a), .int (sI S 23 a)])) = pool cO (putI S 17 a v) := by
  refine w_set hD hO.1 hk rfl (fun b hb => w_putI_ne b hb) ?_
  refine (wA_Mast cO (putI S 17 a v) hO.2).trans ?_
  rw [putI_col (S := S) (c := 17) (a := a) (v := v) 14 a (Or.inl (by decide)), putI_col (S := S) (c := 17) (a := a) (v := v) 15 a (Or.inl (by decide)), putI_col (S := S) (c := 17) (a := a) (v := v) 16 a (Or.inl (by decide)), putI_at (S := S) (c := 17) (a := a) (v := v), putI_col (S := S) (c := 17) (a := a) (v := v) 18 a (Or.inl (by decide)), putI_col (S := S) (c := 17) (a := a) (v := v) 19 a (Or.inl (by decide)), putI_col (S := S) (c := 17) (a := a) (v := v) 20 a (Or.inl (by decide)), putI_col (S := S) (c := 17) (a := a) (v := v) 21 a (Or.inl (by decide)), putI_col (S := S) (c := 17) (a := a) (v := v) 22 a (Or.inl (by decide)), putI_col (S := S) (c := 17) (a := a) (v := v) 23 a (Or.inl (by decide))]
theorem wU_Mast_slip {A : Nat → Prop} (cO : ClassId) (S : wPS) {a k : Nat} (hD : va_D A (pool cO S)) (hO : a ∈ sL S ∧ sK S a = 3) (hk : (pool cO S)[k]? = some (a, wF cO S a)) (v : Int32) : (pool cO S).set k (a, .inr (4, [.int (sI S 14 a), .int (sI S 15 a), .int (sI S 16 a), .int (sI S 17 a), .int v, .int (sI S 19 a), .int (sI S 20 a), .int (sI S 21 a), .int (sI S 22 a), .int (sI S 23 a)])) = pool cO (putI S 18 a v) := by
  refine w_set hD hO.1 hk rfl (fun b hb => w_putI_ne b hb) ?_
  refine (wA_Mast cO (putI S 18 a v) hO.2).trans ?_
  rw [putI_col (S := S) (c := 18) (a := a) (v := v) 14 a (Or.inl (by decide)), putI_col (S := S) (c := 18) (a := a) (v := v) 15 a (Or.inl (by decide)), putI_col (S := S) (c := 18) (a := a) (v := v) 16 a (Or.inl (by decide)), putI_col (S := S) (c := 18) (a := a) (v := v) 17 a (Or.inl (by decide)), putI_at (S := S) (c := 18) (a := a) (v := v), putI_col (S := S) (c := 18) (a := a) (v := v) 19 a (Or.inl (by decide)), putI_col (S := S) (c := 18) (a := a) (v := v) 20 a (Or.inl (by decide)), putI_col (S := S) (c := 18) (a := a) (v := v) 21 a (Or.inl (by decide)), putI_col (S := S) (c := 18) (a := a) (v := v) 22 a (Or.inl (by decide)), putI_col (S := S) (c := 18) (a := a) (v := v) 23 a (Or.inl (by decide))]
theorem wU_Mast_lag {A : Nat → Prop} (cO : ClassId) (S : wPS) {a k : Nat} (hD : va_D A (pool cO S)) (hO : a ∈ sL S ∧ sK S a = 3) (hk : (pool cO S)[k]? = some (a, wF cO S a)) (v : Int32) : (pool cO S).set k (a, .inr (4, [.int (sI S 14 a), .int (sI S 15 a), .int (sI S 16 a), .int (sI S 17 a), .int (sI S 18 a), .int v, .int (sI S 20 a), .int (sI S 21 a), .int (sI S 22 a), .int (sI S 23 a)])) = pool cO (putI S 19 a v) := by
  refine w_set hD hO.1 hk rfl (fun b hb => w_putI_ne b hb) ?_
  refine (wA_Mast cO (putI S 19 a v) hO.2).trans ?_
  rw [putI_col (S := S) (c := 19) (a := a) (v := v) 14 a (Or.inl (by decide)), putI_col (S := S) (c := 19) (a := a) (v := v) 15 a (Or.inl (by decide)), putI_col (S := S) (c := 19) (a := a) (v := v) 16 a (Or.inl (by decide)), putI_col (S := S) (c := 19) (a := a) (v := v) 17 a (Or.inl (by decide)), putI_col (S := S) (c := 19) (a := a) (v := v) 18 a (Or.inl (by decide)), putI_at (S := S) (c := 19) (a := a) (v := v), putI_col (S := S) (c := 19) (a := a) (v := v) 20 a (Or.inl (by decide)), putI_col (S := S) (c := 19) (a := a) (v := v) 21 a (Or.inl (by decide)), putI_col (S := S) (c := 19) (a := a) (v := v) 22 a (Or.inl (by decide)), putI_col (S := S) (c := 19) (a := a) (v := v) 23 a (Or.inl (by decide))]
theorem wU_Mast_isCut {A : Nat → Prop} (cO : ClassId) (S : wPS) {a k : Nat} (hD : va_D A (pool cO S)) (hO : a ∈ sL S ∧ sK S a = 3) (hk : (pool cO S)[k]? = some (a, wF cO S a)) (v : Int32) : (pool cO S).set k (a, .inr (4, [.int (sI S 14 a), .int (sI S 15 a), .int (sI S 16 a), .int (sI S 17 a), .int (sI S 18 a), .int (sI S 19 a), .int v, .int (sI S 21 a), .int (sI S 22 a), .int (sI S 23 a)])) = pool cO (putI S 20 a v) := by
  refine w_set hD hO.1 hk rfl (fun b hb => w_putI_ne b hb) ?_
  refine (wA_Mast cO (putI S 20 a v) hO.2).trans ?_
  rw [putI_col (S := S) (c := 20) (a := a) (v := v) 14 a (Or.inl (by decide)), putI_col (S := S) (c := 20) (a := a) (v := v) 15 a (Or.inl (by decide)), putI_col (S := S) (c := 20) (a := a) (v := v) 16 a (Or.inl (by decide)), putI_col (S := S) (c := 20) (a := a) (v := v) 17 a (Or.inl (by decide)), putI_col (S := S) (c := 20) (a := a) (v := v) 18 a (Or.inl (by decide)), putI_col (S := S) (c := 20) (a := a) (v := v) 19 a (Or.inl (by decide)), putI_at (S := S) (c := 20) (a := a) (v := v), putI_col (S := S) (c := 20) (a := a) (v := v) 21 a (Or.inl (by decide)), putI_col (S := S) (c := 20) (a := a) (v := v) 22 a (Or.inl (by decide)), putI_col (S := S) (c := 20) (a := a) (v := v) 23 a (Or.inl (by decide))]
theorem wU_Mast_made {A : Nat → Prop} (cO : ClassId) (S : wPS) {a k : Nat} (hD : va_D A (pool cO S)) (hO : a ∈ sL S ∧ sK S a = 3) (hk : (pool cO S)[k]? = some (a, wF cO S a)) (v : Int32) : (pool cO S).set k (a, .inr (4, [.int (sI S 14 a), .int (sI S 15 a), .int (sI S 16 a), .int (sI S 17 a), .int (sI S 18 a), .int (sI S 19 a), .int (sI S 20 a), .int v, .int (sI S 22 a), .int (sI S 23 a)])) = pool cO (putI S 21 a v) := by
  refine w_set hD hO.1 hk rfl (fun b hb => w_putI_ne b hb) ?_
  refine (wA_Mast cO (putI S 21 a v) hO.2).trans ?_
  rw [putI_col (S := S) (c := 21) (a := a) (v := v) 14 a (Or.inl (by decide)), putI_col (S := S) (c := 21) (a := a) (v := v) 15 a (Or.inl (by decide)), putI_col (S := S) (c := 21) (a := a) (v := v) 16 a (Or.inl (by decide)), putI_col (S := S) (c := 21) (a := a) (v := v) 17 a (Or.inl (by decide)), putI_col (S := S) (c := 21) (a := a) (v := v) 18 a (Or.inl (by decide)), putI_col (S := S) (c := 21) (a := a) (v := v) 19 a (Or.inl (by decide)), putI_col (S := S) (c := 21) (a := a) (v := v) 20 a (Or.inl (by decide)), putI_at (S := S) (c := 21) (a := a) (v := v), putI_col (S := S) (c := 21) (a := a) (v := v) 22 a (Or.inl (by decide)), putI_col (S := S) (c := 21) (a := a) (v := v) 23 a (Or.inl (by decide))]
theorem wU_Mast_came {A : Nat → Prop} (cO : ClassId) (S : wPS) {a k : Nat} (hD : va_D A (pool cO S)) (hO : a ∈ sL S ∧ sK S a = 3) (hk : (pool cO S)[k]? = some (a, wF cO S a)) (v : Int32) : (pool cO S).set k (a, .inr (4, [.int (sI S 14 a), .int (sI S 15 a), .int (sI S 16 a), .int (sI S 17 a), .int (sI S 18 a), .int (sI S 19 a), .int (sI S 20 a), .int (sI S 21 a), .int v, .int (sI S 23 a)])) = pool cO (putI S 22 a v) := by
  refine w_set hD hO.1 hk rfl (fun b hb => w_putI_ne b hb) ?_
  refine (wA_Mast cO (putI S 22 a v) hO.2).trans ?_
  rw [putI_col (S := S) (c := 22) (a := a) (v := v) 14 a (Or.inl (by decide)), putI_col (S := S) (c := 22) (a := a) (v := v) 15 a (Or.inl (by decide)), putI_col (S := S) (c := 22) (a := a) (v := v) 16 a (Or.inl (by decide)), putI_col (S := S) (c := 22) (a := a) (v := v) 17 a (Or.inl (by decide)), putI_col (S := S) (c := 22) (a := a) (v := v) 18 a (Or.inl (by decide)), putI_col (S := S) (c := 22) (a := a) (v := v) 19 a (Or.inl (by decide)), putI_col (S := S) (c := 22) (a := a) (v := v) 20 a (Or.inl (by decide)), putI_col (S := S) (c := 22) (a := a) (v := v) 21 a (Or.inl (by decide)), putI_at (S := S) (c := 22) (a := a) (v := v), putI_col (S := S) (c := 22) (a := a) (v := v) 23 a (Or.inl (by decide))]
theorem wU_Mast_lost {A : Nat → Prop} (cO : ClassId) (S : wPS) {a k : Nat} (hD : va_D A (pool cO S)) (hO : a ∈ sL S ∧ sK S a = 3) (hk : (pool cO S)[k]? = some (a, wF cO S a)) (v : Int32) : (pool cO S).set k (a, .inr (4, [.int (sI S 14 a), .int (sI S 15 a), .int (sI S 16 a), .int (sI S 17 a), .int (sI S 18 a), .int (sI S 19 a), .int (sI S 20 a), .int (sI S 21 a), .int (sI S 22 a), .int v])) = pool cO (putI S 23 a v) := by
  refine w_set hD hO.1 hk rfl (fun b hb => w_putI_ne b hb) ?_
  refine (wA_Mast cO (putI S 23 a v) hO.2).trans ?_
  rw [putI_col (S := S) (c := 23) (a := a) (v := v) 14 a (Or.inl (by decide)), putI_col (S := S) (c := 23) (a := a) (v := v) 15 a (Or.inl (by decide)), putI_col (S := S) (c := 23) (a := a) (v := v) 16 a (Or.inl (by decide)), putI_col (S := S) (c := 23) (a := a) (v := v) 17 a (Or.inl (by decide)), putI_col (S := S) (c := 23) (a := a) (v := v) 18 a (Or.inl (by decide)), putI_col (S := S) (c := 23) (a := a) (v := v) 19 a (Or.inl (by decide)), putI_col (S := S) (c := 23) (a := a) (v := v) 20 a (Or.inl (by decide)), putI_col (S := S) (c := 23) (a := a) (v := v) 21 a (Or.inl (by decide)), putI_col (S := S) (c := 23) (a := a) (v := v) 22 a (Or.inl (by decide)), putI_at (S := S) (c := 23) (a := a) (v := v)]
theorem wU_Place_x {A : Nat → Prop} (cO : ClassId) (S : wPS) {a k : Nat} (hD : va_D A (pool cO S)) (hO : a ∈ sL S ∧ sK S a = 4) (hk : (pool cO S)[k]? = some (a, wF cO S a)) (v : Int32) : (pool cO S).set k (a, .inr (5, [.int v, .int (sI S 25 a)])) = pool cO (putI S 24 a v) := by
  refine w_set hD hO.1 hk rfl (fun b hb => w_putI_ne b hb) ?_
  refine (wA_Place cO (putI S 24 a v) hO.2).trans ?_
  rw [putI_at (S := S) (c := 24) (a := a) (v := v), putI_col (S := S) (c := 24) (a := a) (v := v) 25 a (Or.inl (by decide))]
theorem wU_Place_y {A : Nat → Prop} (cO : ClassId) (S : wPS) {a k : Nat} (hD : va_D A (pool cO S)) (hO : a ∈ sL S ∧ sK S a = 4) (hk : (pool cO S)[k]? = some (a, wF cO S a)) (v : Int32) : (pool cO S).set k (a, .inr (5, [.int (sI S 24 a), .int v])) = pool cO (putI S 25 a v) := by
  refine w_set hD hO.1 hk rfl (fun b hb => w_putI_ne b hb) ?_
  refine (wA_Place cO (putI S 25 a v) hO.2).trans ?_
  rw [putI_col (S := S) (c := 25) (a := a) (v := v) 24 a (Or.inl (by decide)), putI_at (S := S) (c := 25) (a := a) (v := v)]
theorem wU_Plot_x {A : Nat → Prop} (cO : ClassId) (S : wPS) {a k : Nat} (hD : va_D A (pool cO S)) (hO : a ∈ sL S ∧ sK S a = 5) (hk : (pool cO S)[k]? = some (a, wF cO S a)) (v : Int32) : (pool cO S).set k (a, .inr (6, [.int v, .int (sI S 27 a), va_rf (sR S 0 a), .int (sI S 28 a), .int (sI S 29 a), .int (sI S 30 a)])) = pool cO (putI S 26 a v) := by
  refine w_set hD hO.1 hk rfl (fun b hb => w_putI_ne b hb) ?_
  refine (wA_Plot cO (putI S 26 a v) hO.2).trans ?_
  rw [putI_at (S := S) (c := 26) (a := a) (v := v), putI_col (S := S) (c := 26) (a := a) (v := v) 27 a (Or.inl (by decide)), putI_col (S := S) (c := 26) (a := a) (v := v) 28 a (Or.inl (by decide)), putI_col (S := S) (c := 26) (a := a) (v := v) 29 a (Or.inl (by decide)), putI_col (S := S) (c := 26) (a := a) (v := v) 30 a (Or.inl (by decide))]
  try rfl
theorem wU_Plot_y {A : Nat → Prop} (cO : ClassId) (S : wPS) {a k : Nat} (hD : va_D A (pool cO S)) (hO : a ∈ sL S ∧ sK S a = 5) (hk : (pool cO S)[k]? = some (a, wF cO S a)) (v : Int32) : (pool cO S).set k (a, .inr (6, [.int (sI S 26 a), .int v, va_rf (sR S 0 a), .int (sI S 28 a), .int (sI S 29 a), .int (sI S 30 a)])) = pool cO (putI S 27 a v) := by
  refine w_set hD hO.1 hk rfl (fun b hb => w_putI_ne b hb) ?_
  refine (wA_Plot cO (putI S 27 a v) hO.2).trans ?_
  rw [putI_col (S := S) (c := 27) (a := a) (v := v) 26 a (Or.inl (by decide)), putI_at (S := S) (c := 27) (a := a) (v := v), putI_col (S := S) (c := 27) (a := a) (v := v) 28 a (Or.inl (by decide)), putI_col (S := S) (c := 27) (a := a) (v := v) 29 a (Or.inl (by decide)), putI_col (S := S) (c := 27) (a := a) (v := v) 30 a (Or.inl (by decide))]
  try rfl
theorem wU_Plot_mast {A : Nat → Prop} (cO : ClassId) (S : wPS) {a k : Nat} (hD : va_D A (pool cO S)) (hO : a ∈ sL S ∧ sK S a = 5) (hk : (pool cO S)[k]? = some (a, wF cO S a)) (v : Option Nat) : (pool cO S).set k (a, .inr (6, [.int (sI S 26 a), .int (sI S 27 a), va_rf v, .int (sI S 28 a), .int (sI S 29 a), .int (sI S 30 a)])) = pool cO (putR S 0 a v) := by
  refine w_set hD hO.1 hk rfl (fun b hb => w_putR_ne b hb) ?_
  refine (wA_Plot cO (putR S 0 a v) hO.2).trans ?_
  rw [putR_at (S := S) (c := 0) (a := a) (v := v)]
  try rfl
theorem wU_Plot_guess {A : Nat → Prop} (cO : ClassId) (S : wPS) {a k : Nat} (hD : va_D A (pool cO S)) (hO : a ∈ sL S ∧ sK S a = 5) (hk : (pool cO S)[k]? = some (a, wF cO S a)) (v : Int32) : (pool cO S).set k (a, .inr (6, [.int (sI S 26 a), .int (sI S 27 a), va_rf (sR S 0 a), .int v, .int (sI S 29 a), .int (sI S 30 a)])) = pool cO (putI S 28 a v) := by
  refine w_set hD hO.1 hk rfl (fun b hb => w_putI_ne b hb) ?_
  refine (wA_Plot cO (putI S 28 a v) hO.2).trans ?_
  rw [putI_col (S := S) (c := 28) (a := a) (v := v) 26 a (Or.inl (by decide)), putI_col (S := S) (c := 28) (a := a) (v := v) 27 a (Or.inl (by decide)), putI_at (S := S) (c := 28) (a := a) (v := v), putI_col (S := S) (c := 28) (a := a) (v := v) 29 a (Or.inl (by decide)), putI_col (S := S) (c := 28) (a := a) (v := v) 30 a (Or.inl (by decide))]
  try rfl
theorem wU_Plot_seenAt {A : Nat → Prop} (cO : ClassId) (S : wPS) {a k : Nat} (hD : va_D A (pool cO S)) (hO : a ∈ sL S ∧ sK S a = 5) (hk : (pool cO S)[k]? = some (a, wF cO S a)) (v : Int32) : (pool cO S).set k (a, .inr (6, [.int (sI S 26 a), .int (sI S 27 a), va_rf (sR S 0 a), .int (sI S 28 a), .int v, .int (sI S 30 a)])) = pool cO (putI S 29 a v) := by
  refine w_set hD hO.1 hk rfl (fun b hb => w_putI_ne b hb) ?_
  refine (wA_Plot cO (putI S 29 a v) hO.2).trans ?_
  rw [putI_col (S := S) (c := 29) (a := a) (v := v) 26 a (Or.inl (by decide)), putI_col (S := S) (c := 29) (a := a) (v := v) 27 a (Or.inl (by decide)), putI_col (S := S) (c := 29) (a := a) (v := v) 28 a (Or.inl (by decide)), putI_at (S := S) (c := 29) (a := a) (v := v), putI_col (S := S) (c := 29) (a := a) (v := v) 30 a (Or.inl (by decide))]
  try rfl
theorem wU_Plot_due {A : Nat → Prop} (cO : ClassId) (S : wPS) {a k : Nat} (hD : va_D A (pool cO S)) (hO : a ∈ sL S ∧ sK S a = 5) (hk : (pool cO S)[k]? = some (a, wF cO S a)) (v : Int32) : (pool cO S).set k (a, .inr (6, [.int (sI S 26 a), .int (sI S 27 a), va_rf (sR S 0 a), .int (sI S 28 a), .int (sI S 29 a), .int v])) = pool cO (putI S 30 a v) := by
  refine w_set hD hO.1 hk rfl (fun b hb => w_putI_ne b hb) ?_
  refine (wA_Plot cO (putI S 30 a v) hO.2).trans ?_
  rw [putI_col (S := S) (c := 30) (a := a) (v := v) 26 a (Or.inl (by decide)), putI_col (S := S) (c := 30) (a := a) (v := v) 27 a (Or.inl (by decide)), putI_col (S := S) (c := 30) (a := a) (v := v) 28 a (Or.inl (by decide)), putI_col (S := S) (c := 30) (a := a) (v := v) 29 a (Or.inl (by decide)), putI_at (S := S) (c := 30) (a := a) (v := v)]
  try rfl
theorem wU_Squadron_x {A : Nat → Prop} (cO : ClassId) (S : wPS) {a k : Nat} (hD : va_D A (pool cO S)) (hO : a ∈ sL S ∧ sK S a = 6) (hk : (pool cO S)[k]? = some (a, wF cO S a)) (v : Int32) : (pool cO S).set k (a, .inr (7, [.int v, .int (sI S 32 a), .int (sI S 33 a), va_rf (sR S 1 a), .int (sI S 34 a), .int (sI S 35 a), .int (sI S 36 a), .int (sI S 37 a), .int (sI S 38 a), .int (sI S 39 a), va_rf (sR S 2 a), .int (sI S 40 a), .int (sI S 41 a)])) = pool cO (putI S 31 a v) := by
  refine w_set hD hO.1 hk rfl (fun b hb => w_putI_ne b hb) ?_
  refine (wA_Squadron cO (putI S 31 a v) hO.2).trans ?_
  rw [putI_at (S := S) (c := 31) (a := a) (v := v), putI_col (S := S) (c := 31) (a := a) (v := v) 32 a (Or.inl (by decide)), putI_col (S := S) (c := 31) (a := a) (v := v) 33 a (Or.inl (by decide)), putI_col (S := S) (c := 31) (a := a) (v := v) 34 a (Or.inl (by decide)), putI_col (S := S) (c := 31) (a := a) (v := v) 35 a (Or.inl (by decide)), putI_col (S := S) (c := 31) (a := a) (v := v) 36 a (Or.inl (by decide)), putI_col (S := S) (c := 31) (a := a) (v := v) 37 a (Or.inl (by decide)), putI_col (S := S) (c := 31) (a := a) (v := v) 38 a (Or.inl (by decide)), putI_col (S := S) (c := 31) (a := a) (v := v) 39 a (Or.inl (by decide)), putI_col (S := S) (c := 31) (a := a) (v := v) 40 a (Or.inl (by decide)), putI_col (S := S) (c := 31) (a := a) (v := v) 41 a (Or.inl (by decide))]
  try rfl
theorem wU_Squadron_y {A : Nat → Prop} (cO : ClassId) (S : wPS) {a k : Nat} (hD : va_D A (pool cO S)) (hO : a ∈ sL S ∧ sK S a = 6) (hk : (pool cO S)[k]? = some (a, wF cO S a)) (v : Int32) : (pool cO S).set k (a, .inr (7, [.int (sI S 31 a), .int v, .int (sI S 33 a), va_rf (sR S 1 a), .int (sI S 34 a), .int (sI S 35 a), .int (sI S 36 a), .int (sI S 37 a), .int (sI S 38 a), .int (sI S 39 a), va_rf (sR S 2 a), .int (sI S 40 a), .int (sI S 41 a)])) = pool cO (putI S 32 a v) := by
  refine w_set hD hO.1 hk rfl (fun b hb => w_putI_ne b hb) ?_
  refine (wA_Squadron cO (putI S 32 a v) hO.2).trans ?_
  rw [putI_col (S := S) (c := 32) (a := a) (v := v) 31 a (Or.inl (by decide)), putI_at (S := S) (c := 32) (a := a) (v := v), putI_col (S := S) (c := 32) (a := a) (v := v) 33 a (Or.inl (by decide)), putI_col (S := S) (c := 32) (a := a) (v := v) 34 a (Or.inl (by decide)), putI_col (S := S) (c := 32) (a := a) (v := v) 35 a (Or.inl (by decide)), putI_col (S := S) (c := 32) (a := a) (v := v) 36 a (Or.inl (by decide)), putI_col (S := S) (c := 32) (a := a) (v := v) 37 a (Or.inl (by decide)), putI_col (S := S) (c := 32) (a := a) (v := v) 38 a (Or.inl (by decide)), putI_col (S := S) (c := 32) (a := a) (v := v) 39 a (Or.inl (by decide)), putI_col (S := S) (c := 32) (a := a) (v := v) 40 a (Or.inl (by decide)), putI_col (S := S) (c := 32) (a := a) (v := v) 41 a (Or.inl (by decide))]
  try rfl
theorem wU_Squadron_stationNumber {A : Nat → Prop} (cO : ClassId) (S : wPS) {a k : Nat} (hD : va_D A (pool cO S)) (hO : a ∈ sL S ∧ sK S a = 6) (hk : (pool cO S)[k]? = some (a, wF cO S a)) (v : Int32) : (pool cO S).set k (a, .inr (7, [.int (sI S 31 a), .int (sI S 32 a), .int v, va_rf (sR S 1 a), .int (sI S 34 a), .int (sI S 35 a), .int (sI S 36 a), .int (sI S 37 a), .int (sI S 38 a), .int (sI S 39 a), va_rf (sR S 2 a), .int (sI S 40 a), .int (sI S 41 a)])) = pool cO (putI S 33 a v) := by
  refine w_set hD hO.1 hk rfl (fun b hb => w_putI_ne b hb) ?_
  refine (wA_Squadron cO (putI S 33 a v) hO.2).trans ?_
  rw [putI_col (S := S) (c := 33) (a := a) (v := v) 31 a (Or.inl (by decide)), putI_col (S := S) (c := 33) (a := a) (v := v) 32 a (Or.inl (by decide)), putI_at (S := S) (c := 33) (a := a) (v := v), putI_col (S := S) (c := 33) (a := a) (v := v) 34 a (Or.inl (by decide)), putI_col (S := S) (c := 33) (a := a) (v := v) 35 a (Or.inl (by decide)), putI_col (S := S) (c := 33) (a := a) (v := v) 36 a (Or.inl (by decide)), putI_col (S := S) (c := 33) (a := a) (v := v) 37 a (Or.inl (by decide)), putI_col (S := S) (c := 33) (a := a) (v := v) 38 a (Or.inl (by decide)), putI_col (S := S) (c := 33) (a := a) (v := v) 39 a (Or.inl (by decide)), putI_col (S := S) (c := 33) (a := a) (v := v) 40 a (Or.inl (by decide)), putI_col (S := S) (c := 33) (a := a) (v := v) 41 a (Or.inl (by decide))]
  try rfl
theorem wU_Squadron_base {A : Nat → Prop} (cO : ClassId) (S : wPS) {a k : Nat} (hD : va_D A (pool cO S)) (hO : a ∈ sL S ∧ sK S a = 6) (hk : (pool cO S)[k]? = some (a, wF cO S a)) (v : Option Nat) : (pool cO S).set k (a, .inr (7, [.int (sI S 31 a), .int (sI S 32 a), .int (sI S 33 a), va_rf v, .int (sI S 34 a), .int (sI S 35 a), .int (sI S 36 a), .int (sI S 37 a), .int (sI S 38 a), .int (sI S 39 a), va_rf (sR S 2 a), .int (sI S 40 a), .int (sI S 41 a)])) = pool cO (putR S 1 a v) := by
  refine w_set hD hO.1 hk rfl (fun b hb => w_putR_ne b hb) ?_
  refine (wA_Squadron cO (putR S 1 a v) hO.2).trans ?_
  rw [putR_at (S := S) (c := 1) (a := a) (v := v), putR_col (S := S) (c := 1) (a := a) (v := v) 2 a (Or.inl (by decide))]
  try rfl
theorem wU_Squadron_speed {A : Nat → Prop} (cO : ClassId) (S : wPS) {a k : Nat} (hD : va_D A (pool cO S)) (hO : a ∈ sL S ∧ sK S a = 6) (hk : (pool cO S)[k]? = some (a, wF cO S a)) (v : Int32) : (pool cO S).set k (a, .inr (7, [.int (sI S 31 a), .int (sI S 32 a), .int (sI S 33 a), va_rf (sR S 1 a), .int v, .int (sI S 35 a), .int (sI S 36 a), .int (sI S 37 a), .int (sI S 38 a), .int (sI S 39 a), va_rf (sR S 2 a), .int (sI S 40 a), .int (sI S 41 a)])) = pool cO (putI S 34 a v) := by
  refine w_set hD hO.1 hk rfl (fun b hb => w_putI_ne b hb) ?_
  refine (wA_Squadron cO (putI S 34 a v) hO.2).trans ?_
  rw [putI_col (S := S) (c := 34) (a := a) (v := v) 31 a (Or.inl (by decide)), putI_col (S := S) (c := 34) (a := a) (v := v) 32 a (Or.inl (by decide)), putI_col (S := S) (c := 34) (a := a) (v := v) 33 a (Or.inl (by decide)), putI_at (S := S) (c := 34) (a := a) (v := v), putI_col (S := S) (c := 34) (a := a) (v := v) 35 a (Or.inl (by decide)), putI_col (S := S) (c := 34) (a := a) (v := v) 36 a (Or.inl (by decide)), putI_col (S := S) (c := 34) (a := a) (v := v) 37 a (Or.inl (by decide)), putI_col (S := S) (c := 34) (a := a) (v := v) 38 a (Or.inl (by decide)), putI_col (S := S) (c := 34) (a := a) (v := v) 39 a (Or.inl (by decide)), putI_col (S := S) (c := 34) (a := a) (v := v) 40 a (Or.inl (by decide)), putI_col (S := S) (c := 34) (a := a) (v := v) 41 a (Or.inl (by decide))]
  try rfl
theorem wU_Squadron_tank {A : Nat → Prop} (cO : ClassId) (S : wPS) {a k : Nat} (hD : va_D A (pool cO S)) (hO : a ∈ sL S ∧ sK S a = 6) (hk : (pool cO S)[k]? = some (a, wF cO S a)) (v : Int32) : (pool cO S).set k (a, .inr (7, [.int (sI S 31 a), .int (sI S 32 a), .int (sI S 33 a), va_rf (sR S 1 a), .int (sI S 34 a), .int v, .int (sI S 36 a), .int (sI S 37 a), .int (sI S 38 a), .int (sI S 39 a), va_rf (sR S 2 a), .int (sI S 40 a), .int (sI S 41 a)])) = pool cO (putI S 35 a v) := by
  refine w_set hD hO.1 hk rfl (fun b hb => w_putI_ne b hb) ?_
  refine (wA_Squadron cO (putI S 35 a v) hO.2).trans ?_
  rw [putI_col (S := S) (c := 35) (a := a) (v := v) 31 a (Or.inl (by decide)), putI_col (S := S) (c := 35) (a := a) (v := v) 32 a (Or.inl (by decide)), putI_col (S := S) (c := 35) (a := a) (v := v) 33 a (Or.inl (by decide)), putI_col (S := S) (c := 35) (a := a) (v := v) 34 a (Or.inl (by decide)), putI_at (S := S) (c := 35) (a := a) (v := v), putI_col (S := S) (c := 35) (a := a) (v := v) 36 a (Or.inl (by decide)), putI_col (S := S) (c := 35) (a := a) (v := v) 37 a (Or.inl (by decide)), putI_col (S := S) (c := 35) (a := a) (v := v) 38 a (Or.inl (by decide)), putI_col (S := S) (c := 35) (a := a) (v := v) 39 a (Or.inl (by decide)), putI_col (S := S) (c := 35) (a := a) (v := v) 40 a (Or.inl (by decide)), putI_col (S := S) (c := 35) (a := a) (v := v) 41 a (Or.inl (by decide))]
  try rfl
theorem wU_Squadron_ready {A : Nat → Prop} (cO : ClassId) (S : wPS) {a k : Nat} (hD : va_D A (pool cO S)) (hO : a ∈ sL S ∧ sK S a = 6) (hk : (pool cO S)[k]? = some (a, wF cO S a)) (v : Int32) : (pool cO S).set k (a, .inr (7, [.int (sI S 31 a), .int (sI S 32 a), .int (sI S 33 a), va_rf (sR S 1 a), .int (sI S 34 a), .int (sI S 35 a), .int v, .int (sI S 37 a), .int (sI S 38 a), .int (sI S 39 a), va_rf (sR S 2 a), .int (sI S 40 a), .int (sI S 41 a)])) = pool cO (putI S 36 a v) := by
  refine w_set hD hO.1 hk rfl (fun b hb => w_putI_ne b hb) ?_
  refine (wA_Squadron cO (putI S 36 a v) hO.2).trans ?_
  rw [putI_col (S := S) (c := 36) (a := a) (v := v) 31 a (Or.inl (by decide)), putI_col (S := S) (c := 36) (a := a) (v := v) 32 a (Or.inl (by decide)), putI_col (S := S) (c := 36) (a := a) (v := v) 33 a (Or.inl (by decide)), putI_col (S := S) (c := 36) (a := a) (v := v) 34 a (Or.inl (by decide)), putI_col (S := S) (c := 36) (a := a) (v := v) 35 a (Or.inl (by decide)), putI_at (S := S) (c := 36) (a := a) (v := v), putI_col (S := S) (c := 36) (a := a) (v := v) 37 a (Or.inl (by decide)), putI_col (S := S) (c := 36) (a := a) (v := v) 38 a (Or.inl (by decide)), putI_col (S := S) (c := 36) (a := a) (v := v) 39 a (Or.inl (by decide)), putI_col (S := S) (c := 36) (a := a) (v := v) 40 a (Or.inl (by decide)), putI_col (S := S) (c := 36) (a := a) (v := v) 41 a (Or.inl (by decide))]
  try rfl
theorem wU_Squadron_machines {A : Nat → Prop} (cO : ClassId) (S : wPS) {a k : Nat} (hD : va_D A (pool cO S)) (hO : a ∈ sL S ∧ sK S a = 6) (hk : (pool cO S)[k]? = some (a, wF cO S a)) (v : Int32) : (pool cO S).set k (a, .inr (7, [.int (sI S 31 a), .int (sI S 32 a), .int (sI S 33 a), va_rf (sR S 1 a), .int (sI S 34 a), .int (sI S 35 a), .int (sI S 36 a), .int v, .int (sI S 38 a), .int (sI S 39 a), va_rf (sR S 2 a), .int (sI S 40 a), .int (sI S 41 a)])) = pool cO (putI S 37 a v) := by
  refine w_set hD hO.1 hk rfl (fun b hb => w_putI_ne b hb) ?_
  refine (wA_Squadron cO (putI S 37 a v) hO.2).trans ?_
  rw [putI_col (S := S) (c := 37) (a := a) (v := v) 31 a (Or.inl (by decide)), putI_col (S := S) (c := 37) (a := a) (v := v) 32 a (Or.inl (by decide)), putI_col (S := S) (c := 37) (a := a) (v := v) 33 a (Or.inl (by decide)), putI_col (S := S) (c := 37) (a := a) (v := v) 34 a (Or.inl (by decide)), putI_col (S := S) (c := 37) (a := a) (v := v) 35 a (Or.inl (by decide)), putI_col (S := S) (c := 37) (a := a) (v := v) 36 a (Or.inl (by decide)), putI_at (S := S) (c := 37) (a := a) (v := v), putI_col (S := S) (c := 37) (a := a) (v := v) 38 a (Or.inl (by decide)), putI_col (S := S) (c := 37) (a := a) (v := v) 39 a (Or.inl (by decide)), putI_col (S := S) (c := 37) (a := a) (v := v) 40 a (Or.inl (by decide)), putI_col (S := S) (c := 37) (a := a) (v := v) 41 a (Or.inl (by decide))]
  try rfl
theorem wU_Squadron_state {A : Nat → Prop} (cO : ClassId) (S : wPS) {a k : Nat} (hD : va_D A (pool cO S)) (hO : a ∈ sL S ∧ sK S a = 6) (hk : (pool cO S)[k]? = some (a, wF cO S a)) (v : Int32) : (pool cO S).set k (a, .inr (7, [.int (sI S 31 a), .int (sI S 32 a), .int (sI S 33 a), va_rf (sR S 1 a), .int (sI S 34 a), .int (sI S 35 a), .int (sI S 36 a), .int (sI S 37 a), .int v, .int (sI S 39 a), va_rf (sR S 2 a), .int (sI S 40 a), .int (sI S 41 a)])) = pool cO (putI S 38 a v) := by
  refine w_set hD hO.1 hk rfl (fun b hb => w_putI_ne b hb) ?_
  refine (wA_Squadron cO (putI S 38 a v) hO.2).trans ?_
  rw [putI_col (S := S) (c := 38) (a := a) (v := v) 31 a (Or.inl (by decide)), putI_col (S := S) (c := 38) (a := a) (v := v) 32 a (Or.inl (by decide)), putI_col (S := S) (c := 38) (a := a) (v := v) 33 a (Or.inl (by decide)), putI_col (S := S) (c := 38) (a := a) (v := v) 34 a (Or.inl (by decide)), putI_col (S := S) (c := 38) (a := a) (v := v) 35 a (Or.inl (by decide)), putI_col (S := S) (c := 38) (a := a) (v := v) 36 a (Or.inl (by decide)), putI_col (S := S) (c := 38) (a := a) (v := v) 37 a (Or.inl (by decide)), putI_at (S := S) (c := 38) (a := a) (v := v), putI_col (S := S) (c := 38) (a := a) (v := v) 39 a (Or.inl (by decide)), putI_col (S := S) (c := 38) (a := a) (v := v) 40 a (Or.inl (by decide)), putI_col (S := S) (c := 38) (a := a) (v := v) 41 a (Or.inl (by decide))]
  try rfl
theorem wU_Squadron_fuel {A : Nat → Prop} (cO : ClassId) (S : wPS) {a k : Nat} (hD : va_D A (pool cO S)) (hO : a ∈ sL S ∧ sK S a = 6) (hk : (pool cO S)[k]? = some (a, wF cO S a)) (v : Int32) : (pool cO S).set k (a, .inr (7, [.int (sI S 31 a), .int (sI S 32 a), .int (sI S 33 a), va_rf (sR S 1 a), .int (sI S 34 a), .int (sI S 35 a), .int (sI S 36 a), .int (sI S 37 a), .int (sI S 38 a), .int v, va_rf (sR S 2 a), .int (sI S 40 a), .int (sI S 41 a)])) = pool cO (putI S 39 a v) := by
  refine w_set hD hO.1 hk rfl (fun b hb => w_putI_ne b hb) ?_
  refine (wA_Squadron cO (putI S 39 a v) hO.2).trans ?_
  rw [putI_col (S := S) (c := 39) (a := a) (v := v) 31 a (Or.inl (by decide)), putI_col (S := S) (c := 39) (a := a) (v := v) 32 a (Or.inl (by decide)), putI_col (S := S) (c := 39) (a := a) (v := v) 33 a (Or.inl (by decide)), putI_col (S := S) (c := 39) (a := a) (v := v) 34 a (Or.inl (by decide)), putI_col (S := S) (c := 39) (a := a) (v := v) 35 a (Or.inl (by decide)), putI_col (S := S) (c := 39) (a := a) (v := v) 36 a (Or.inl (by decide)), putI_col (S := S) (c := 39) (a := a) (v := v) 37 a (Or.inl (by decide)), putI_col (S := S) (c := 39) (a := a) (v := v) 38 a (Or.inl (by decide)), putI_at (S := S) (c := 39) (a := a) (v := v), putI_col (S := S) (c := 39) (a := a) (v := v) 40 a (Or.inl (by decide)), putI_col (S := S) (c := 39) (a := a) (v := v) 41 a (Or.inl (by decide))]
  try rfl
theorem wU_Squadron_target {A : Nat → Prop} (cO : ClassId) (S : wPS) {a k : Nat} (hD : va_D A (pool cO S)) (hO : a ∈ sL S ∧ sK S a = 6) (hk : (pool cO S)[k]? = some (a, wF cO S a)) (v : Option Nat) : (pool cO S).set k (a, .inr (7, [.int (sI S 31 a), .int (sI S 32 a), .int (sI S 33 a), va_rf (sR S 1 a), .int (sI S 34 a), .int (sI S 35 a), .int (sI S 36 a), .int (sI S 37 a), .int (sI S 38 a), .int (sI S 39 a), va_rf v, .int (sI S 40 a), .int (sI S 41 a)])) = pool cO (putR S 2 a v) := by
  refine w_set hD hO.1 hk rfl (fun b hb => w_putR_ne b hb) ?_
  refine (wA_Squadron cO (putR S 2 a v) hO.2).trans ?_
  rw [putR_col (S := S) (c := 2) (a := a) (v := v) 1 a (Or.inl (by decide)), putR_at (S := S) (c := 2) (a := a) (v := v)]
  try rfl
theorem wU_Squadron_due {A : Nat → Prop} (cO : ClassId) (S : wPS) {a k : Nat} (hD : va_D A (pool cO S)) (hO : a ∈ sL S ∧ sK S a = 6) (hk : (pool cO S)[k]? = some (a, wF cO S a)) (v : Int32) : (pool cO S).set k (a, .inr (7, [.int (sI S 31 a), .int (sI S 32 a), .int (sI S 33 a), va_rf (sR S 1 a), .int (sI S 34 a), .int (sI S 35 a), .int (sI S 36 a), .int (sI S 37 a), .int (sI S 38 a), .int (sI S 39 a), va_rf (sR S 2 a), .int v, .int (sI S 41 a)])) = pool cO (putI S 40 a v) := by
  refine w_set hD hO.1 hk rfl (fun b hb => w_putI_ne b hb) ?_
  refine (wA_Squadron cO (putI S 40 a v) hO.2).trans ?_
  rw [putI_col (S := S) (c := 40) (a := a) (v := v) 31 a (Or.inl (by decide)), putI_col (S := S) (c := 40) (a := a) (v := v) 32 a (Or.inl (by decide)), putI_col (S := S) (c := 40) (a := a) (v := v) 33 a (Or.inl (by decide)), putI_col (S := S) (c := 40) (a := a) (v := v) 34 a (Or.inl (by decide)), putI_col (S := S) (c := 40) (a := a) (v := v) 35 a (Or.inl (by decide)), putI_col (S := S) (c := 40) (a := a) (v := v) 36 a (Or.inl (by decide)), putI_col (S := S) (c := 40) (a := a) (v := v) 37 a (Or.inl (by decide)), putI_col (S := S) (c := 40) (a := a) (v := v) 38 a (Or.inl (by decide)), putI_col (S := S) (c := 40) (a := a) (v := v) 39 a (Or.inl (by decide)), putI_at (S := S) (c := 40) (a := a) (v := v), putI_col (S := S) (c := 40) (a := a) (v := v) 41 a (Or.inl (by decide))]
  try rfl
theorem wU_Squadron_won {A : Nat → Prop} (cO : ClassId) (S : wPS) {a k : Nat} (hD : va_D A (pool cO S)) (hO : a ∈ sL S ∧ sK S a = 6) (hk : (pool cO S)[k]? = some (a, wF cO S a)) (v : Int32) : (pool cO S).set k (a, .inr (7, [.int (sI S 31 a), .int (sI S 32 a), .int (sI S 33 a), va_rf (sR S 1 a), .int (sI S 34 a), .int (sI S 35 a), .int (sI S 36 a), .int (sI S 37 a), .int (sI S 38 a), .int (sI S 39 a), va_rf (sR S 2 a), .int (sI S 40 a), .int v])) = pool cO (putI S 41 a v) := by
  refine w_set hD hO.1 hk rfl (fun b hb => w_putI_ne b hb) ?_
  refine (wA_Squadron cO (putI S 41 a v) hO.2).trans ?_
  rw [putI_col (S := S) (c := 41) (a := a) (v := v) 31 a (Or.inl (by decide)), putI_col (S := S) (c := 41) (a := a) (v := v) 32 a (Or.inl (by decide)), putI_col (S := S) (c := 41) (a := a) (v := v) 33 a (Or.inl (by decide)), putI_col (S := S) (c := 41) (a := a) (v := v) 34 a (Or.inl (by decide)), putI_col (S := S) (c := 41) (a := a) (v := v) 35 a (Or.inl (by decide)), putI_col (S := S) (c := 41) (a := a) (v := v) 36 a (Or.inl (by decide)), putI_col (S := S) (c := 41) (a := a) (v := v) 37 a (Or.inl (by decide)), putI_col (S := S) (c := 41) (a := a) (v := v) 38 a (Or.inl (by decide)), putI_col (S := S) (c := 41) (a := a) (v := v) 39 a (Or.inl (by decide)), putI_col (S := S) (c := 41) (a := a) (v := v) 40 a (Or.inl (by decide)), putI_at (S := S) (c := 41) (a := a) (v := v)]
  try rfl
theorem wU_Tally_refused {A : Nat → Prop} (cO : ClassId) (S : wPS) {a k : Nat} (hD : va_D A (pool cO S)) (hO : a ∈ sL S ∧ sK S a = 7) (hk : (pool cO S)[k]? = some (a, wF cO S a)) (v : Int32) : (pool cO S).set k (a, .inr (8, [.int v, .int (sI S 43 a), .int (sI S 44 a), .int (sI S 45 a), .int (sI S 46 a), .int (sI S 47 a), .int (sI S 48 a), .int (sI S 49 a)])) = pool cO (putI S 42 a v) := by
  refine w_set hD hO.1 hk rfl (fun b hb => w_putI_ne b hb) ?_
  refine (wA_Tally cO (putI S 42 a v) hO.2).trans ?_
  rw [putI_at (S := S) (c := 42) (a := a) (v := v), putI_col (S := S) (c := 42) (a := a) (v := v) 43 a (Or.inl (by decide)), putI_col (S := S) (c := 42) (a := a) (v := v) 44 a (Or.inl (by decide)), putI_col (S := S) (c := 42) (a := a) (v := v) 45 a (Or.inl (by decide)), putI_col (S := S) (c := 42) (a := a) (v := v) 46 a (Or.inl (by decide)), putI_col (S := S) (c := 42) (a := a) (v := v) 47 a (Or.inl (by decide)), putI_col (S := S) (c := 42) (a := a) (v := v) 48 a (Or.inl (by decide)), putI_col (S := S) (c := 42) (a := a) (v := v) 49 a (Or.inl (by decide))]
theorem wU_Tally_plotsWithoutTrack {A : Nat → Prop} (cO : ClassId) (S : wPS) {a k : Nat} (hD : va_D A (pool cO S)) (hO : a ∈ sL S ∧ sK S a = 7) (hk : (pool cO S)[k]? = some (a, wF cO S a)) (v : Int32) : (pool cO S).set k (a, .inr (8, [.int (sI S 42 a), .int v, .int (sI S 44 a), .int (sI S 45 a), .int (sI S 46 a), .int (sI S 47 a), .int (sI S 48 a), .int (sI S 49 a)])) = pool cO (putI S 43 a v) := by
  refine w_set hD hO.1 hk rfl (fun b hb => w_putI_ne b hb) ?_
  refine (wA_Tally cO (putI S 43 a v) hO.2).trans ?_
  rw [putI_col (S := S) (c := 43) (a := a) (v := v) 42 a (Or.inl (by decide)), putI_at (S := S) (c := 43) (a := a) (v := v), putI_col (S := S) (c := 43) (a := a) (v := v) 44 a (Or.inl (by decide)), putI_col (S := S) (c := 43) (a := a) (v := v) 45 a (Or.inl (by decide)), putI_col (S := S) (c := 43) (a := a) (v := v) 46 a (Or.inl (by decide)), putI_col (S := S) (c := 43) (a := a) (v := v) 47 a (Or.inl (by decide)), putI_col (S := S) (c := 43) (a := a) (v := v) 48 a (Or.inl (by decide)), putI_col (S := S) (c := 43) (a := a) (v := v) 49 a (Or.inl (by decide))]
theorem wU_Tally_fights {A : Nat → Prop} (cO : ClassId) (S : wPS) {a k : Nat} (hD : va_D A (pool cO S)) (hO : a ∈ sL S ∧ sK S a = 7) (hk : (pool cO S)[k]? = some (a, wF cO S a)) (v : Int32) : (pool cO S).set k (a, .inr (8, [.int (sI S 42 a), .int (sI S 43 a), .int v, .int (sI S 45 a), .int (sI S 46 a), .int (sI S 47 a), .int (sI S 48 a), .int (sI S 49 a)])) = pool cO (putI S 44 a v) := by
  refine w_set hD hO.1 hk rfl (fun b hb => w_putI_ne b hb) ?_
  refine (wA_Tally cO (putI S 44 a v) hO.2).trans ?_
  rw [putI_col (S := S) (c := 44) (a := a) (v := v) 42 a (Or.inl (by decide)), putI_col (S := S) (c := 44) (a := a) (v := v) 43 a (Or.inl (by decide)), putI_at (S := S) (c := 44) (a := a) (v := v), putI_col (S := S) (c := 44) (a := a) (v := v) 45 a (Or.inl (by decide)), putI_col (S := S) (c := 44) (a := a) (v := v) 46 a (Or.inl (by decide)), putI_col (S := S) (c := 44) (a := a) (v := v) 47 a (Or.inl (by decide)), putI_col (S := S) (c := 44) (a := a) (v := v) 48 a (Or.inl (by decide)), putI_col (S := S) (c := 44) (a := a) (v := v) 49 a (Or.inl (by decide))]
theorem wU_Tally_claims {A : Nat → Prop} (cO : ClassId) (S : wPS) {a k : Nat} (hD : va_D A (pool cO S)) (hO : a ∈ sL S ∧ sK S a = 7) (hk : (pool cO S)[k]? = some (a, wF cO S a)) (v : Int32) : (pool cO S).set k (a, .inr (8, [.int (sI S 42 a), .int (sI S 43 a), .int (sI S 44 a), .int v, .int (sI S 46 a), .int (sI S 47 a), .int (sI S 48 a), .int (sI S 49 a)])) = pool cO (putI S 45 a v) := by
  refine w_set hD hO.1 hk rfl (fun b hb => w_putI_ne b hb) ?_
  refine (wA_Tally cO (putI S 45 a v) hO.2).trans ?_
  rw [putI_col (S := S) (c := 45) (a := a) (v := v) 42 a (Or.inl (by decide)), putI_col (S := S) (c := 45) (a := a) (v := v) 43 a (Or.inl (by decide)), putI_col (S := S) (c := 45) (a := a) (v := v) 44 a (Or.inl (by decide)), putI_at (S := S) (c := 45) (a := a) (v := v), putI_col (S := S) (c := 45) (a := a) (v := v) 46 a (Or.inl (by decide)), putI_col (S := S) (c := 45) (a := a) (v := v) 47 a (Or.inl (by decide)), putI_col (S := S) (c := 45) (a := a) (v := v) 48 a (Or.inl (by decide)), putI_col (S := S) (c := 45) (a := a) (v := v) 49 a (Or.inl (by decide))]
theorem wU_Tally_machinesLost {A : Nat → Prop} (cO : ClassId) (S : wPS) {a k : Nat} (hD : va_D A (pool cO S)) (hO : a ∈ sL S ∧ sK S a = 7) (hk : (pool cO S)[k]? = some (a, wF cO S a)) (v : Int32) : (pool cO S).set k (a, .inr (8, [.int (sI S 42 a), .int (sI S 43 a), .int (sI S 44 a), .int (sI S 45 a), .int v, .int (sI S 47 a), .int (sI S 48 a), .int (sI S 49 a)])) = pool cO (putI S 46 a v) := by
  refine w_set hD hO.1 hk rfl (fun b hb => w_putI_ne b hb) ?_
  refine (wA_Tally cO (putI S 46 a v) hO.2).trans ?_
  rw [putI_col (S := S) (c := 46) (a := a) (v := v) 42 a (Or.inl (by decide)), putI_col (S := S) (c := 46) (a := a) (v := v) 43 a (Or.inl (by decide)), putI_col (S := S) (c := 46) (a := a) (v := v) 44 a (Or.inl (by decide)), putI_col (S := S) (c := 46) (a := a) (v := v) 45 a (Or.inl (by decide)), putI_at (S := S) (c := 46) (a := a) (v := v), putI_col (S := S) (c := 46) (a := a) (v := v) 47 a (Or.inl (by decide)), putI_col (S := S) (c := 46) (a := a) (v := v) 48 a (Or.inl (by decide)), putI_col (S := S) (c := 46) (a := a) (v := v) 49 a (Or.inl (by decide))]
theorem wU_Tally_shames {A : Nat → Prop} (cO : ClassId) (S : wPS) {a k : Nat} (hD : va_D A (pool cO S)) (hO : a ∈ sL S ∧ sK S a = 7) (hk : (pool cO S)[k]? = some (a, wF cO S a)) (v : Int32) : (pool cO S).set k (a, .inr (8, [.int (sI S 42 a), .int (sI S 43 a), .int (sI S 44 a), .int (sI S 45 a), .int (sI S 46 a), .int v, .int (sI S 48 a), .int (sI S 49 a)])) = pool cO (putI S 47 a v) := by
  refine w_set hD hO.1 hk rfl (fun b hb => w_putI_ne b hb) ?_
  refine (wA_Tally cO (putI S 47 a v) hO.2).trans ?_
  rw [putI_col (S := S) (c := 47) (a := a) (v := v) 42 a (Or.inl (by decide)), putI_col (S := S) (c := 47) (a := a) (v := v) 43 a (Or.inl (by decide)), putI_col (S := S) (c := 47) (a := a) (v := v) 44 a (Or.inl (by decide)), putI_col (S := S) (c := 47) (a := a) (v := v) 45 a (Or.inl (by decide)), putI_col (S := S) (c := 47) (a := a) (v := v) 46 a (Or.inl (by decide)), putI_at (S := S) (c := 47) (a := a) (v := v), putI_col (S := S) (c := 47) (a := a) (v := v) 48 a (Or.inl (by decide)), putI_col (S := S) (c := 47) (a := a) (v := v) 49 a (Or.inl (by decide))]
theorem wU_Tally_work {A : Nat → Prop} (cO : ClassId) (S : wPS) {a k : Nat} (hD : va_D A (pool cO S)) (hO : a ∈ sL S ∧ sK S a = 7) (hk : (pool cO S)[k]? = some (a, wF cO S a)) (v : Int32) : (pool cO S).set k (a, .inr (8, [.int (sI S 42 a), .int (sI S 43 a), .int (sI S 44 a), .int (sI S 45 a), .int (sI S 46 a), .int (sI S 47 a), .int v, .int (sI S 49 a)])) = pool cO (putI S 48 a v) := by
  refine w_set hD hO.1 hk rfl (fun b hb => w_putI_ne b hb) ?_
  refine (wA_Tally cO (putI S 48 a v) hO.2).trans ?_
  rw [putI_col (S := S) (c := 48) (a := a) (v := v) 42 a (Or.inl (by decide)), putI_col (S := S) (c := 48) (a := a) (v := v) 43 a (Or.inl (by decide)), putI_col (S := S) (c := 48) (a := a) (v := v) 44 a (Or.inl (by decide)), putI_col (S := S) (c := 48) (a := a) (v := v) 45 a (Or.inl (by decide)), putI_col (S := S) (c := 48) (a := a) (v := v) 46 a (Or.inl (by decide)), putI_col (S := S) (c := 48) (a := a) (v := v) 47 a (Or.inl (by decide)), putI_at (S := S) (c := 48) (a := a) (v := v), putI_col (S := S) (c := 48) (a := a) (v := v) 49 a (Or.inl (by decide))]
theorem wU_Tally_lives {A : Nat → Prop} (cO : ClassId) (S : wPS) {a k : Nat} (hD : va_D A (pool cO S)) (hO : a ∈ sL S ∧ sK S a = 7) (hk : (pool cO S)[k]? = some (a, wF cO S a)) (v : Int32) : (pool cO S).set k (a, .inr (8, [.int (sI S 42 a), .int (sI S 43 a), .int (sI S 44 a), .int (sI S 45 a), .int (sI S 46 a), .int (sI S 47 a), .int (sI S 48 a), .int v])) = pool cO (putI S 49 a v) := by
  refine w_set hD hO.1 hk rfl (fun b hb => w_putI_ne b hb) ?_
  refine (wA_Tally cO (putI S 49 a v) hO.2).trans ?_
  rw [putI_col (S := S) (c := 49) (a := a) (v := v) 42 a (Or.inl (by decide)), putI_col (S := S) (c := 49) (a := a) (v := v) 43 a (Or.inl (by decide)), putI_col (S := S) (c := 49) (a := a) (v := v) 44 a (Or.inl (by decide)), putI_col (S := S) (c := 49) (a := a) (v := v) 45 a (Or.inl (by decide)), putI_col (S := S) (c := 49) (a := a) (v := v) 46 a (Or.inl (by decide)), putI_col (S := S) (c := 49) (a := a) (v := v) 47 a (Or.inl (by decide)), putI_col (S := S) (c := 49) (a := a) (v := v) 48 a (Or.inl (by decide)), putI_at (S := S) (c := 49) (a := a) (v := v)]
theorem wU_Town_x {A : Nat → Prop} (cO : ClassId) (S : wPS) {a k : Nat} (hD : va_D A (pool cO S)) (hO : a ∈ sL S ∧ sK S a = 8) (hk : (pool cO S)[k]? = some (a, wF cO S a)) (v : Int32) : (pool cO S).set k (a, .inr (9, [.int v, .int (sI S 51 a), .int (sI S 52 a)])) = pool cO (putI S 50 a v) := by
  refine w_set hD hO.1 hk rfl (fun b hb => w_putI_ne b hb) ?_
  refine (wA_Town cO (putI S 50 a v) hO.2).trans ?_
  rw [putI_at (S := S) (c := 50) (a := a) (v := v), putI_col (S := S) (c := 50) (a := a) (v := v) 51 a (Or.inl (by decide)), putI_col (S := S) (c := 50) (a := a) (v := v) 52 a (Or.inl (by decide))]
theorem wU_Town_y {A : Nat → Prop} (cO : ClassId) (S : wPS) {a k : Nat} (hD : va_D A (pool cO S)) (hO : a ∈ sL S ∧ sK S a = 8) (hk : (pool cO S)[k]? = some (a, wF cO S a)) (v : Int32) : (pool cO S).set k (a, .inr (9, [.int (sI S 50 a), .int v, .int (sI S 52 a)])) = pool cO (putI S 51 a v) := by
  refine w_set hD hO.1 hk rfl (fun b hb => w_putI_ne b hb) ?_
  refine (wA_Town cO (putI S 51 a v) hO.2).trans ?_
  rw [putI_col (S := S) (c := 51) (a := a) (v := v) 50 a (Or.inl (by decide)), putI_at (S := S) (c := 51) (a := a) (v := v), putI_col (S := S) (c := 51) (a := a) (v := v) 52 a (Or.inl (by decide))]
theorem wU_Town_people {A : Nat → Prop} (cO : ClassId) (S : wPS) {a k : Nat} (hD : va_D A (pool cO S)) (hO : a ∈ sL S ∧ sK S a = 8) (hk : (pool cO S)[k]? = some (a, wF cO S a)) (v : Int32) : (pool cO S).set k (a, .inr (9, [.int (sI S 50 a), .int (sI S 51 a), .int v])) = pool cO (putI S 52 a v) := by
  refine w_set hD hO.1 hk rfl (fun b hb => w_putI_ne b hb) ?_
  refine (wA_Town cO (putI S 52 a v) hO.2).trans ?_
  rw [putI_col (S := S) (c := 52) (a := a) (v := v) 50 a (Or.inl (by decide)), putI_col (S := S) (c := 52) (a := a) (v := v) 51 a (Or.inl (by decide)), putI_at (S := S) (c := 52) (a := a) (v := v)]
theorem wU_Track_x {A : Nat → Prop} (cO : ClassId) (S : wPS) {a k : Nat} (hD : va_D A (pool cO S)) (hO : a ∈ sL S ∧ sK S a = 9) (hk : (pool cO S)[k]? = some (a, wF cO S a)) (v : Int32) : (pool cO S).set k (a, .inr (10, [.int v, .int (sI S 54 a), .int (sI S 55 a), .int (sI S 56 a), .int (sI S 57 a), .int (sI S 58 a), .int (sI S 59 a), .int (sI S 60 a), .int (sI S 61 a), .int (sI S 62 a)])) = pool cO (putI S 53 a v) := by
  refine w_set hD hO.1 hk rfl (fun b hb => w_putI_ne b hb) ?_
  refine (wA_Track cO (putI S 53 a v) hO.2).trans ?_
  rw [putI_at (S := S) (c := 53) (a := a) (v := v), putI_col (S := S) (c := 53) (a := a) (v := v) 54 a (Or.inl (by decide)), putI_col (S := S) (c := 53) (a := a) (v := v) 55 a (Or.inl (by decide)), putI_col (S := S) (c := 53) (a := a) (v := v) 56 a (Or.inl (by decide)), putI_col (S := S) (c := 53) (a := a) (v := v) 57 a (Or.inl (by decide)), putI_col (S := S) (c := 53) (a := a) (v := v) 58 a (Or.inl (by decide)), putI_col (S := S) (c := 53) (a := a) (v := v) 59 a (Or.inl (by decide)), putI_col (S := S) (c := 53) (a := a) (v := v) 60 a (Or.inl (by decide)), putI_col (S := S) (c := 53) (a := a) (v := v) 61 a (Or.inl (by decide)), putI_col (S := S) (c := 53) (a := a) (v := v) 62 a (Or.inl (by decide))]
theorem wU_Track_y {A : Nat → Prop} (cO : ClassId) (S : wPS) {a k : Nat} (hD : va_D A (pool cO S)) (hO : a ∈ sL S ∧ sK S a = 9) (hk : (pool cO S)[k]? = some (a, wF cO S a)) (v : Int32) : (pool cO S).set k (a, .inr (10, [.int (sI S 53 a), .int v, .int (sI S 55 a), .int (sI S 56 a), .int (sI S 57 a), .int (sI S 58 a), .int (sI S 59 a), .int (sI S 60 a), .int (sI S 61 a), .int (sI S 62 a)])) = pool cO (putI S 54 a v) := by
  refine w_set hD hO.1 hk rfl (fun b hb => w_putI_ne b hb) ?_
  refine (wA_Track cO (putI S 54 a v) hO.2).trans ?_
  rw [putI_col (S := S) (c := 54) (a := a) (v := v) 53 a (Or.inl (by decide)), putI_at (S := S) (c := 54) (a := a) (v := v), putI_col (S := S) (c := 54) (a := a) (v := v) 55 a (Or.inl (by decide)), putI_col (S := S) (c := 54) (a := a) (v := v) 56 a (Or.inl (by decide)), putI_col (S := S) (c := 54) (a := a) (v := v) 57 a (Or.inl (by decide)), putI_col (S := S) (c := 54) (a := a) (v := v) 58 a (Or.inl (by decide)), putI_col (S := S) (c := 54) (a := a) (v := v) 59 a (Or.inl (by decide)), putI_col (S := S) (c := 54) (a := a) (v := v) 60 a (Or.inl (by decide)), putI_col (S := S) (c := 54) (a := a) (v := v) 61 a (Or.inl (by decide)), putI_col (S := S) (c := 54) (a := a) (v := v) 62 a (Or.inl (by decide))]
theorem wU_Track_number {A : Nat → Prop} (cO : ClassId) (S : wPS) {a k : Nat} (hD : va_D A (pool cO S)) (hO : a ∈ sL S ∧ sK S a = 9) (hk : (pool cO S)[k]? = some (a, wF cO S a)) (v : Int32) : (pool cO S).set k (a, .inr (10, [.int (sI S 53 a), .int (sI S 54 a), .int v, .int (sI S 56 a), .int (sI S 57 a), .int (sI S 58 a), .int (sI S 59 a), .int (sI S 60 a), .int (sI S 61 a), .int (sI S 62 a)])) = pool cO (putI S 55 a v) := by
  refine w_set hD hO.1 hk rfl (fun b hb => w_putI_ne b hb) ?_
  refine (wA_Track cO (putI S 55 a v) hO.2).trans ?_
  rw [putI_col (S := S) (c := 55) (a := a) (v := v) 53 a (Or.inl (by decide)), putI_col (S := S) (c := 55) (a := a) (v := v) 54 a (Or.inl (by decide)), putI_at (S := S) (c := 55) (a := a) (v := v), putI_col (S := S) (c := 55) (a := a) (v := v) 56 a (Or.inl (by decide)), putI_col (S := S) (c := 55) (a := a) (v := v) 57 a (Or.inl (by decide)), putI_col (S := S) (c := 55) (a := a) (v := v) 58 a (Or.inl (by decide)), putI_col (S := S) (c := 55) (a := a) (v := v) 59 a (Or.inl (by decide)), putI_col (S := S) (c := 55) (a := a) (v := v) 60 a (Or.inl (by decide)), putI_col (S := S) (c := 55) (a := a) (v := v) 61 a (Or.inl (by decide)), putI_col (S := S) (c := 55) (a := a) (v := v) 62 a (Or.inl (by decide))]
theorem wU_Track_minute {A : Nat → Prop} (cO : ClassId) (S : wPS) {a k : Nat} (hD : va_D A (pool cO S)) (hO : a ∈ sL S ∧ sK S a = 9) (hk : (pool cO S)[k]? = some (a, wF cO S a)) (v : Int32) : (pool cO S).set k (a, .inr (10, [.int (sI S 53 a), .int (sI S 54 a), .int (sI S 55 a), .int v, .int (sI S 57 a), .int (sI S 58 a), .int (sI S 59 a), .int (sI S 60 a), .int (sI S 61 a), .int (sI S 62 a)])) = pool cO (putI S 56 a v) := by
  refine w_set hD hO.1 hk rfl (fun b hb => w_putI_ne b hb) ?_
  refine (wA_Track cO (putI S 56 a v) hO.2).trans ?_
  rw [putI_col (S := S) (c := 56) (a := a) (v := v) 53 a (Or.inl (by decide)), putI_col (S := S) (c := 56) (a := a) (v := v) 54 a (Or.inl (by decide)), putI_col (S := S) (c := 56) (a := a) (v := v) 55 a (Or.inl (by decide)), putI_at (S := S) (c := 56) (a := a) (v := v), putI_col (S := S) (c := 56) (a := a) (v := v) 57 a (Or.inl (by decide)), putI_col (S := S) (c := 56) (a := a) (v := v) 58 a (Or.inl (by decide)), putI_col (S := S) (c := 56) (a := a) (v := v) 59 a (Or.inl (by decide)), putI_col (S := S) (c := 56) (a := a) (v := v) 60 a (Or.inl (by decide)), putI_col (S := S) (c := 56) (a := a) (v := v) 61 a (Or.inl (by decide)), putI_col (S := S) (c := 56) (a := a) (v := v) 62 a (Or.inl (by decide))]
theorem wU_Track_courseX {A : Nat → Prop} (cO : ClassId) (S : wPS) {a k : Nat} (hD : va_D A (pool cO S)) (hO : a ∈ sL S ∧ sK S a = 9) (hk : (pool cO S)[k]? = some (a, wF cO S a)) (v : Int32) : (pool cO S).set k (a, .inr (10, [.int (sI S 53 a), .int (sI S 54 a), .int (sI S 55 a), .int (sI S 56 a), .int v, .int (sI S 58 a), .int (sI S 59 a), .int (sI S 60 a), .int (sI S 61 a), .int (sI S 62 a)])) = pool cO (putI S 57 a v) := by
  refine w_set hD hO.1 hk rfl (fun b hb => w_putI_ne b hb) ?_
  refine (wA_Track cO (putI S 57 a v) hO.2).trans ?_
  rw [putI_col (S := S) (c := 57) (a := a) (v := v) 53 a (Or.inl (by decide)), putI_col (S := S) (c := 57) (a := a) (v := v) 54 a (Or.inl (by decide)), putI_col (S := S) (c := 57) (a := a) (v := v) 55 a (Or.inl (by decide)), putI_col (S := S) (c := 57) (a := a) (v := v) 56 a (Or.inl (by decide)), putI_at (S := S) (c := 57) (a := a) (v := v), putI_col (S := S) (c := 57) (a := a) (v := v) 58 a (Or.inl (by decide)), putI_col (S := S) (c := 57) (a := a) (v := v) 59 a (Or.inl (by decide)), putI_col (S := S) (c := 57) (a := a) (v := v) 60 a (Or.inl (by decide)), putI_col (S := S) (c := 57) (a := a) (v := v) 61 a (Or.inl (by decide)), putI_col (S := S) (c := 57) (a := a) (v := v) 62 a (Or.inl (by decide))]
theorem wU_Track_courseY {A : Nat → Prop} (cO : ClassId) (S : wPS) {a k : Nat} (hD : va_D A (pool cO S)) (hO : a ∈ sL S ∧ sK S a = 9) (hk : (pool cO S)[k]? = some (a, wF cO S a)) (v : Int32) : (pool cO S).set k (a, .inr (10, [.int (sI S 53 a), .int (sI S 54 a), .int (sI S 55 a), .int (sI S 56 a), .int (sI S 57 a), .int v, .int (sI S 59 a), .int (sI S 60 a), .int (sI S 61 a), .int (sI S 62 a)])) = pool cO (putI S 58 a v) := by
  refine w_set hD hO.1 hk rfl (fun b hb => w_putI_ne b hb) ?_
  refine (wA_Track cO (putI S 58 a v) hO.2).trans ?_
  rw [putI_col (S := S) (c := 58) (a := a) (v := v) 53 a (Or.inl (by decide)), putI_col (S := S) (c := 58) (a := a) (v := v) 54 a (Or.inl (by decide)), putI_col (S := S) (c := 58) (a := a) (v := v) 55 a (Or.inl (by decide)), putI_col (S := S) (c := 58) (a := a) (v := v) 56 a (Or.inl (by decide)), putI_col (S := S) (c := 58) (a := a) (v := v) 57 a (Or.inl (by decide)), putI_at (S := S) (c := 58) (a := a) (v := v), putI_col (S := S) (c := 58) (a := a) (v := v) 59 a (Or.inl (by decide)), putI_col (S := S) (c := 58) (a := a) (v := v) 60 a (Or.inl (by decide)), putI_col (S := S) (c := 58) (a := a) (v := v) 61 a (Or.inl (by decide)), putI_col (S := S) (c := 58) (a := a) (v := v) 62 a (Or.inl (by decide))]
theorem wU_Track_hasCourse {A : Nat → Prop} (cO : ClassId) (S : wPS) {a k : Nat} (hD : va_D A (pool cO S)) (hO : a ∈ sL S ∧ sK S a = 9) (hk : (pool cO S)[k]? = some (a, wF cO S a)) (v : Int32) : (pool cO S).set k (a, .inr (10, [.int (sI S 53 a), .int (sI S 54 a), .int (sI S 55 a), .int (sI S 56 a), .int (sI S 57 a), .int (sI S 58 a), .int v, .int (sI S 60 a), .int (sI S 61 a), .int (sI S 62 a)])) = pool cO (putI S 59 a v) := by
  refine w_set hD hO.1 hk rfl (fun b hb => w_putI_ne b hb) ?_
  refine (wA_Track cO (putI S 59 a v) hO.2).trans ?_
  rw [putI_col (S := S) (c := 59) (a := a) (v := v) 53 a (Or.inl (by decide)), putI_col (S := S) (c := 59) (a := a) (v := v) 54 a (Or.inl (by decide)), putI_col (S := S) (c := 59) (a := a) (v := v) 55 a (Or.inl (by decide)), putI_col (S := S) (c := 59) (a := a) (v := v) 56 a (Or.inl (by decide)), putI_col (S := S) (c := 59) (a := a) (v := v) 57 a (Or.inl (by decide)), putI_col (S := S) (c := 59) (a := a) (v := v) 58 a (Or.inl (by decide)), putI_at (S := S) (c := 59) (a := a) (v := v), putI_col (S := S) (c := 59) (a := a) (v := v) 60 a (Or.inl (by decide)), putI_col (S := S) (c := 59) (a := a) (v := v) 61 a (Or.inl (by decide)), putI_col (S := S) (c := 59) (a := a) (v := v) 62 a (Or.inl (by decide))]
theorem wU_Track_guess {A : Nat → Prop} (cO : ClassId) (S : wPS) {a k : Nat} (hD : va_D A (pool cO S)) (hO : a ∈ sL S ∧ sK S a = 9) (hk : (pool cO S)[k]? = some (a, wF cO S a)) (v : Int32) : (pool cO S).set k (a, .inr (10, [.int (sI S 53 a), .int (sI S 54 a), .int (sI S 55 a), .int (sI S 56 a), .int (sI S 57 a), .int (sI S 58 a), .int (sI S 59 a), .int v, .int (sI S 61 a), .int (sI S 62 a)])) = pool cO (putI S 60 a v) := by
  refine w_set hD hO.1 hk rfl (fun b hb => w_putI_ne b hb) ?_
  refine (wA_Track cO (putI S 60 a v) hO.2).trans ?_
  rw [putI_col (S := S) (c := 60) (a := a) (v := v) 53 a (Or.inl (by decide)), putI_col (S := S) (c := 60) (a := a) (v := v) 54 a (Or.inl (by decide)), putI_col (S := S) (c := 60) (a := a) (v := v) 55 a (Or.inl (by decide)), putI_col (S := S) (c := 60) (a := a) (v := v) 56 a (Or.inl (by decide)), putI_col (S := S) (c := 60) (a := a) (v := v) 57 a (Or.inl (by decide)), putI_col (S := S) (c := 60) (a := a) (v := v) 58 a (Or.inl (by decide)), putI_col (S := S) (c := 60) (a := a) (v := v) 59 a (Or.inl (by decide)), putI_at (S := S) (c := 60) (a := a) (v := v), putI_col (S := S) (c := 60) (a := a) (v := v) 61 a (Or.inl (by decide)), putI_col (S := S) (c := 60) (a := a) (v := v) 62 a (Or.inl (by decide))]
theorem wU_Track_hits {A : Nat → Prop} (cO : ClassId) (S : wPS) {a k : Nat} (hD : va_D A (pool cO S)) (hO : a ∈ sL S ∧ sK S a = 9) (hk : (pool cO S)[k]? = some (a, wF cO S a)) (v : Int32) : (pool cO S).set k (a, .inr (10, [.int (sI S 53 a), .int (sI S 54 a), .int (sI S 55 a), .int (sI S 56 a), .int (sI S 57 a), .int (sI S 58 a), .int (sI S 59 a), .int (sI S 60 a), .int v, .int (sI S 62 a)])) = pool cO (putI S 61 a v) := by
  refine w_set hD hO.1 hk rfl (fun b hb => w_putI_ne b hb) ?_
  refine (wA_Track cO (putI S 61 a v) hO.2).trans ?_
  rw [putI_col (S := S) (c := 61) (a := a) (v := v) 53 a (Or.inl (by decide)), putI_col (S := S) (c := 61) (a := a) (v := v) 54 a (Or.inl (by decide)), putI_col (S := S) (c := 61) (a := a) (v := v) 55 a (Or.inl (by decide)), putI_col (S := S) (c := 61) (a := a) (v := v) 56 a (Or.inl (by decide)), putI_col (S := S) (c := 61) (a := a) (v := v) 57 a (Or.inl (by decide)), putI_col (S := S) (c := 61) (a := a) (v := v) 58 a (Or.inl (by decide)), putI_col (S := S) (c := 61) (a := a) (v := v) 59 a (Or.inl (by decide)), putI_col (S := S) (c := 61) (a := a) (v := v) 60 a (Or.inl (by decide)), putI_at (S := S) (c := 61) (a := a) (v := v), putI_col (S := S) (c := 61) (a := a) (v := v) 62 a (Or.inl (by decide))]
theorem wU_Track_isLive {A : Nat → Prop} (cO : ClassId) (S : wPS) {a k : Nat} (hD : va_D A (pool cO S)) (hO : a ∈ sL S ∧ sK S a = 9) (hk : (pool cO S)[k]? = some (a, wF cO S a)) (v : Int32) : (pool cO S).set k (a, .inr (10, [.int (sI S 53 a), .int (sI S 54 a), .int (sI S 55 a), .int (sI S 56 a), .int (sI S 57 a), .int (sI S 58 a), .int (sI S 59 a), .int (sI S 60 a), .int (sI S 61 a), .int v])) = pool cO (putI S 62 a v) := by
  refine w_set hD hO.1 hk rfl (fun b hb => w_putI_ne b hb) ?_
  refine (wA_Track cO (putI S 62 a v) hO.2).trans ?_
  rw [putI_col (S := S) (c := 62) (a := a) (v := v) 53 a (Or.inl (by decide)), putI_col (S := S) (c := 62) (a := a) (v := v) 54 a (Or.inl (by decide)), putI_col (S := S) (c := 62) (a := a) (v := v) 55 a (Or.inl (by decide)), putI_col (S := S) (c := 62) (a := a) (v := v) 56 a (Or.inl (by decide)), putI_col (S := S) (c := 62) (a := a) (v := v) 57 a (Or.inl (by decide)), putI_col (S := S) (c := 62) (a := a) (v := v) 58 a (Or.inl (by decide)), putI_col (S := S) (c := 62) (a := a) (v := v) 59 a (Or.inl (by decide)), putI_col (S := S) (c := 62) (a := a) (v := v) 60 a (Or.inl (by decide)), putI_col (S := S) (c := 62) (a := a) (v := v) 61 a (Or.inl (by decide)), putI_at (S := S) (c := 62) (a := a) (v := v)]
theorem wU_Room_masts {A : Nat → Prop} (cO : ClassId) (S : wPS) {a k : Nat} (hD : va_D A (pool cO S)) (hO : a ∈ sL S ∧ sK S a = 10) (hk : (pool cO S)[k]? = some (a, wF cO S a)) (v : Option Nat) : (pool cO S).set k (a, .inr (11, [va_rf v, va_rf (sR S 4 a), va_rf (sR S 5 a), va_rf (sR S 6 a), va_rf (sR S 7 a), va_rf (sR S 8 a), va_rf (sR S 9 a), va_rf (sR S 10 a), va_rf (sR S 11 a), .int (sI S 63 a), va_rf (sR S 12 a), va_rf (sR S 13 a), .int (sI S 64 a), .int (sI S 65 a)])) = pool cO (putR S 3 a v) := by
  refine w_set hD hO.1 hk rfl (fun b hb => w_putR_ne b hb) ?_
  refine (wA_Room cO (putR S 3 a v) hO.2).trans ?_
  rw [putR_at (S := S) (c := 3) (a := a) (v := v), putR_col (S := S) (c := 3) (a := a) (v := v) 4 a (Or.inl (by decide)), putR_col (S := S) (c := 3) (a := a) (v := v) 5 a (Or.inl (by decide)), putR_col (S := S) (c := 3) (a := a) (v := v) 6 a (Or.inl (by decide)), putR_col (S := S) (c := 3) (a := a) (v := v) 7 a (Or.inl (by decide)), putR_col (S := S) (c := 3) (a := a) (v := v) 8 a (Or.inl (by decide)), putR_col (S := S) (c := 3) (a := a) (v := v) 9 a (Or.inl (by decide)), putR_col (S := S) (c := 3) (a := a) (v := v) 10 a (Or.inl (by decide)), putR_col (S := S) (c := 3) (a := a) (v := v) 11 a (Or.inl (by decide)), putR_col (S := S) (c := 3) (a := a) (v := v) 12 a (Or.inl (by decide)), putR_col (S := S) (c := 3) (a := a) (v := v) 13 a (Or.inl (by decide))]
  try rfl
theorem wU_Room_stations {A : Nat → Prop} (cO : ClassId) (S : wPS) {a k : Nat} (hD : va_D A (pool cO S)) (hO : a ∈ sL S ∧ sK S a = 10) (hk : (pool cO S)[k]? = some (a, wF cO S a)) (v : Option Nat) : (pool cO S).set k (a, .inr (11, [va_rf (sR S 3 a), va_rf v, va_rf (sR S 5 a), va_rf (sR S 6 a), va_rf (sR S 7 a), va_rf (sR S 8 a), va_rf (sR S 9 a), va_rf (sR S 10 a), va_rf (sR S 11 a), .int (sI S 63 a), va_rf (sR S 12 a), va_rf (sR S 13 a), .int (sI S 64 a), .int (sI S 65 a)])) = pool cO (putR S 4 a v) := by
  refine w_set hD hO.1 hk rfl (fun b hb => w_putR_ne b hb) ?_
  refine (wA_Room cO (putR S 4 a v) hO.2).trans ?_
  rw [putR_col (S := S) (c := 4) (a := a) (v := v) 3 a (Or.inl (by decide)), putR_at (S := S) (c := 4) (a := a) (v := v), putR_col (S := S) (c := 4) (a := a) (v := v) 5 a (Or.inl (by decide)), putR_col (S := S) (c := 4) (a := a) (v := v) 6 a (Or.inl (by decide)), putR_col (S := S) (c := 4) (a := a) (v := v) 7 a (Or.inl (by decide)), putR_col (S := S) (c := 4) (a := a) (v := v) 8 a (Or.inl (by decide)), putR_col (S := S) (c := 4) (a := a) (v := v) 9 a (Or.inl (by decide)), putR_col (S := S) (c := 4) (a := a) (v := v) 10 a (Or.inl (by decide)), putR_col (S := S) (c := 4) (a := a) (v := v) 11 a (Or.inl (by decide)), putR_col (S := S) (c := 4) (a := a) (v := v) 12 a (Or.inl (by decide)), putR_col (S := S) (c := 4) (a := a) (v := v) 13 a (Or.inl (by decide))]
  try rfl
theorem wU_Room_squadrons {A : Nat → Prop} (cO : ClassId) (S : wPS) {a k : Nat} (hD : va_D A (pool cO S)) (hO : a ∈ sL S ∧ sK S a = 10) (hk : (pool cO S)[k]? = some (a, wF cO S a)) (v : Option Nat) : (pool cO S).set k (a, .inr (11, [va_rf (sR S 3 a), va_rf (sR S 4 a), va_rf v, va_rf (sR S 6 a), va_rf (sR S 7 a), va_rf (sR S 8 a), va_rf (sR S 9 a), va_rf (sR S 10 a), va_rf (sR S 11 a), .int (sI S 63 a), va_rf (sR S 12 a), va_rf (sR S 13 a), .int (sI S 64 a), .int (sI S 65 a)])) = pool cO (putR S 5 a v) := by
  refine w_set hD hO.1 hk rfl (fun b hb => w_putR_ne b hb) ?_
  refine (wA_Room cO (putR S 5 a v) hO.2).trans ?_
  rw [putR_col (S := S) (c := 5) (a := a) (v := v) 3 a (Or.inl (by decide)), putR_col (S := S) (c := 5) (a := a) (v := v) 4 a (Or.inl (by decide)), putR_at (S := S) (c := 5) (a := a) (v := v), putR_col (S := S) (c := 5) (a := a) (v := v) 6 a (Or.inl (by decide)), putR_col (S := S) (c := 5) (a := a) (v := v) 7 a (Or.inl (by decide)), putR_col (S := S) (c := 5) (a := a) (v := v) 8 a (Or.inl (by decide)), putR_col (S := S) (c := 5) (a := a) (v := v) 9 a (Or.inl (by decide)), putR_col (S := S) (c := 5) (a := a) (v := v) 10 a (Or.inl (by decide)), putR_col (S := S) (c := 5) (a := a) (v := v) 11 a (Or.inl (by decide)), putR_col (S := S) (c := 5) (a := a) (v := v) 12 a (Or.inl (by decide)), putR_col (S := S) (c := 5) (a := a) (v := v) 13 a (Or.inl (by decide))]
  try rfl
theorem wU_Room_guns {A : Nat → Prop} (cO : ClassId) (S : wPS) {a k : Nat} (hD : va_D A (pool cO S)) (hO : a ∈ sL S ∧ sK S a = 10) (hk : (pool cO S)[k]? = some (a, wF cO S a)) (v : Option Nat) : (pool cO S).set k (a, .inr (11, [va_rf (sR S 3 a), va_rf (sR S 4 a), va_rf (sR S 5 a), va_rf v, va_rf (sR S 7 a), va_rf (sR S 8 a), va_rf (sR S 9 a), va_rf (sR S 10 a), va_rf (sR S 11 a), .int (sI S 63 a), va_rf (sR S 12 a), va_rf (sR S 13 a), .int (sI S 64 a), .int (sI S 65 a)])) = pool cO (putR S 6 a v) := by
  refine w_set hD hO.1 hk rfl (fun b hb => w_putR_ne b hb) ?_
  refine (wA_Room cO (putR S 6 a v) hO.2).trans ?_
  rw [putR_col (S := S) (c := 6) (a := a) (v := v) 3 a (Or.inl (by decide)), putR_col (S := S) (c := 6) (a := a) (v := v) 4 a (Or.inl (by decide)), putR_col (S := S) (c := 6) (a := a) (v := v) 5 a (Or.inl (by decide)), putR_at (S := S) (c := 6) (a := a) (v := v), putR_col (S := S) (c := 6) (a := a) (v := v) 7 a (Or.inl (by decide)), putR_col (S := S) (c := 6) (a := a) (v := v) 8 a (Or.inl (by decide)), putR_col (S := S) (c := 6) (a := a) (v := v) 9 a (Or.inl (by decide)), putR_col (S := S) (c := 6) (a := a) (v := v) 10 a (Or.inl (by decide)), putR_col (S := S) (c := 6) (a := a) (v := v) 11 a (Or.inl (by decide)), putR_col (S := S) (c := 6) (a := a) (v := v) 12 a (Or.inl (by decide)), putR_col (S := S) (c := 6) (a := a) (v := v) 13 a (Or.inl (by decide))]
  try rfl
theorem wU_Room_towns {A : Nat → Prop} (cO : ClassId) (S : wPS) {a k : Nat} (hD : va_D A (pool cO S)) (hO : a ∈ sL S ∧ sK S a = 10) (hk : (pool cO S)[k]? = some (a, wF cO S a)) (v : Option Nat) : (pool cO S).set k (a, .inr (11, [va_rf (sR S 3 a), va_rf (sR S 4 a), va_rf (sR S 5 a), va_rf (sR S 6 a), va_rf v, va_rf (sR S 8 a), va_rf (sR S 9 a), va_rf (sR S 10 a), va_rf (sR S 11 a), .int (sI S 63 a), va_rf (sR S 12 a), va_rf (sR S 13 a), .int (sI S 64 a), .int (sI S 65 a)])) = pool cO (putR S 7 a v) := by
  refine w_set hD hO.1 hk rfl (fun b hb => w_putR_ne b hb) ?_
  refine (wA_Room cO (putR S 7 a v) hO.2).trans ?_
  rw [putR_col (S := S) (c := 7) (a := a) (v := v) 3 a (Or.inl (by decide)), putR_col (S := S) (c := 7) (a := a) (v := v) 4 a (Or.inl (by decide)), putR_col (S := S) (c := 7) (a := a) (v := v) 5 a (Or.inl (by decide)), putR_col (S := S) (c := 7) (a := a) (v := v) 6 a (Or.inl (by decide)), putR_at (S := S) (c := 7) (a := a) (v := v), putR_col (S := S) (c := 7) (a := a) (v := v) 8 a (Or.inl (by decide)), putR_col (S := S) (c := 7) (a := a) (v := v) 9 a (Or.inl (by decide)), putR_col (S := S) (c := 7) (a := a) (v := v) 10 a (Or.inl (by decide)), putR_col (S := S) (c := 7) (a := a) (v := v) 11 a (Or.inl (by decide)), putR_col (S := S) (c := 7) (a := a) (v := v) 12 a (Or.inl (by decide)), putR_col (S := S) (c := 7) (a := a) (v := v) 13 a (Or.inl (by decide))]
  try rfl
theorem wU_Room_flights {A : Nat → Prop} (cO : ClassId) (S : wPS) {a k : Nat} (hD : va_D A (pool cO S)) (hO : a ∈ sL S ∧ sK S a = 10) (hk : (pool cO S)[k]? = some (a, wF cO S a)) (v : Option Nat) : (pool cO S).set k (a, .inr (11, [va_rf (sR S 3 a), va_rf (sR S 4 a), va_rf (sR S 5 a), va_rf (sR S 6 a), va_rf (sR S 7 a), va_rf v, va_rf (sR S 9 a), va_rf (sR S 10 a), va_rf (sR S 11 a), .int (sI S 63 a), va_rf (sR S 12 a), va_rf (sR S 13 a), .int (sI S 64 a), .int (sI S 65 a)])) = pool cO (putR S 8 a v) := by
  refine w_set hD hO.1 hk rfl (fun b hb => w_putR_ne b hb) ?_
  refine (wA_Room cO (putR S 8 a v) hO.2).trans ?_
  rw [putR_col (S := S) (c := 8) (a := a) (v := v) 3 a (Or.inl (by decide)), putR_col (S := S) (c := 8) (a := a) (v := v) 4 a (Or.inl (by decide)), putR_col (S := S) (c := 8) (a := a) (v := v) 5 a (Or.inl (by decide)), putR_col (S := S) (c := 8) (a := a) (v := v) 6 a (Or.inl (by decide)), putR_col (S := S) (c := 8) (a := a) (v := v) 7 a (Or.inl (by decide)), putR_at (S := S) (c := 8) (a := a) (v := v), putR_col (S := S) (c := 8) (a := a) (v := v) 9 a (Or.inl (by decide)), putR_col (S := S) (c := 8) (a := a) (v := v) 10 a (Or.inl (by decide)), putR_col (S := S) (c := 8) (a := a) (v := v) 11 a (Or.inl (by decide)), putR_col (S := S) (c := 8) (a := a) (v := v) 12 a (Or.inl (by decide)), putR_col (S := S) (c := 8) (a := a) (v := v) 13 a (Or.inl (by decide))]
  try rfl
theorem wU_Room_plans {A : Nat → Prop} (cO : ClassId) (S : wPS) {a k : Nat} (hD : va_D A (pool cO S)) (hO : a ∈ sL S ∧ sK S a = 10) (hk : (pool cO S)[k]? = some (a, wF cO S a)) (v : Option Nat) : (pool cO S).set k (a, .inr (11, [va_rf (sR S 3 a), va_rf (sR S 4 a), va_rf (sR S 5 a), va_rf (sR S 6 a), va_rf (sR S 7 a), va_rf (sR S 8 a), va_rf v, va_rf (sR S 10 a), va_rf (sR S 11 a), .int (sI S 63 a), va_rf (sR S 12 a), va_rf (sR S 13 a), .int (sI S 64 a), .int (sI S 65 a)])) = pool cO (putR S 9 a v) := by
  refine w_set hD hO.1 hk rfl (fun b hb => w_putR_ne b hb) ?_
  refine (wA_Room cO (putR S 9 a v) hO.2).trans ?_
  rw [putR_col (S := S) (c := 9) (a := a) (v := v) 3 a (Or.inl (by decide)), putR_col (S := S) (c := 9) (a := a) (v := v) 4 a (Or.inl (by decide)), putR_col (S := S) (c := 9) (a := a) (v := v) 5 a (Or.inl (by decide)), putR_col (S := S) (c := 9) (a := a) (v := v) 6 a (Or.inl (by decide)), putR_col (S := S) (c := 9) (a := a) (v := v) 7 a (Or.inl (by decide)), putR_col (S := S) (c := 9) (a := a) (v := v) 8 a (Or.inl (by decide)), putR_at (S := S) (c := 9) (a := a) (v := v), putR_col (S := S) (c := 9) (a := a) (v := v) 10 a (Or.inl (by decide)), putR_col (S := S) (c := 9) (a := a) (v := v) 11 a (Or.inl (by decide)), putR_col (S := S) (c := 9) (a := a) (v := v) 12 a (Or.inl (by decide)), putR_col (S := S) (c := 9) (a := a) (v := v) 13 a (Or.inl (by decide))]
  try rfl
theorem wU_Room_tracks {A : Nat → Prop} (cO : ClassId) (S : wPS) {a k : Nat} (hD : va_D A (pool cO S)) (hO : a ∈ sL S ∧ sK S a = 10) (hk : (pool cO S)[k]? = some (a, wF cO S a)) (v : Option Nat) : (pool cO S).set k (a, .inr (11, [va_rf (sR S 3 a), va_rf (sR S 4 a), va_rf (sR S 5 a), va_rf (sR S 6 a), va_rf (sR S 7 a), va_rf (sR S 8 a), va_rf (sR S 9 a), va_rf v, va_rf (sR S 11 a), .int (sI S 63 a), va_rf (sR S 12 a), va_rf (sR S 13 a), .int (sI S 64 a), .int (sI S 65 a)])) = pool cO (putR S 10 a v) := by
  refine w_set hD hO.1 hk rfl (fun b hb => w_putR_ne b hb) ?_
  refine (wA_Room cO (putR S 10 a v) hO.2).trans ?_
  rw [putR_col (S := S) (c := 10) (a := a) (v := v) 3 a (Or.inl (by decide)), putR_col (S := S) (c := 10) (a := a) (v := v) 4 a (Or.inl (by decide)), putR_col (S := S) (c := 10) (a := a) (v := v) 5 a (Or.inl (by decide)), putR_col (S := S) (c := 10) (a := a) (v := v) 6 a (Or.inl (by decide)), putR_col (S := S) (c := 10) (a := a) (v := v) 7 a (Or.inl (by decide)), putR_col (S := S) (c := 10) (a := a) (v := v) 8 a (Or.inl (by decide)), putR_col (S := S) (c := 10) (a := a) (v := v) 9 a (Or.inl (by decide)), putR_at (S := S) (c := 10) (a := a) (v := v), putR_col (S := S) (c := 10) (a := a) (v := v) 11 a (Or.inl (by decide)), putR_col (S := S) (c := 10) (a := a) (v := v) 12 a (Or.inl (by decide)), putR_col (S := S) (c := 10) (a := a) (v := v) 13 a (Or.inl (by decide))]
  try rfl
theorem wU_Room_plots {A : Nat → Prop} (cO : ClassId) (S : wPS) {a k : Nat} (hD : va_D A (pool cO S)) (hO : a ∈ sL S ∧ sK S a = 10) (hk : (pool cO S)[k]? = some (a, wF cO S a)) (v : Option Nat) : (pool cO S).set k (a, .inr (11, [va_rf (sR S 3 a), va_rf (sR S 4 a), va_rf (sR S 5 a), va_rf (sR S 6 a), va_rf (sR S 7 a), va_rf (sR S 8 a), va_rf (sR S 9 a), va_rf (sR S 10 a), va_rf v, .int (sI S 63 a), va_rf (sR S 12 a), va_rf (sR S 13 a), .int (sI S 64 a), .int (sI S 65 a)])) = pool cO (putR S 11 a v) := by
  refine w_set hD hO.1 hk rfl (fun b hb => w_putR_ne b hb) ?_
  refine (wA_Room cO (putR S 11 a v) hO.2).trans ?_
  rw [putR_col (S := S) (c := 11) (a := a) (v := v) 3 a (Or.inl (by decide)), putR_col (S := S) (c := 11) (a := a) (v := v) 4 a (Or.inl (by decide)), putR_col (S := S) (c := 11) (a := a) (v := v) 5 a (Or.inl (by decide)), putR_col (S := S) (c := 11) (a := a) (v := v) 6 a (Or.inl (by decide)), putR_col (S := S) (c := 11) (a := a) (v := v) 7 a (Or.inl (by decide)), putR_col (S := S) (c := 11) (a := a) (v := v) 8 a (Or.inl (by decide)), putR_col (S := S) (c := 11) (a := a) (v := v) 9 a (Or.inl (by decide)), putR_col (S := S) (c := 11) (a := a) (v := v) 10 a (Or.inl (by decide)), putR_at (S := S) (c := 11) (a := a) (v := v), putR_col (S := S) (c := 11) (a := a) (v := v) 12 a (Or.inl (by decide)), putR_col (S := S) (c := 11) (a := a) (v := v) 13 a (Or.inl (by decide))]
  try rfl
theorem wU_Room_plotsOnWay {A : Nat → Prop} (cO : ClassId) (S : wPS) {a k : Nat} (hD : va_D A (pool cO S)) (hO : a ∈ sL S ∧ sK S a = 10) (hk : (pool cO S)[k]? = some (a, wF cO S a)) (v : Int32) : (pool cO S).set k (a, .inr (11, [va_rf (sR S 3 a), va_rf (sR S 4 a), va_rf (sR S 5 a), va_rf (sR S 6 a), va_rf (sR S 7 a), va_rf (sR S 8 a), va_rf (sR S 9 a), va_rf (sR S 10 a), va_rf (sR S 11 a), .int v, va_rf (sR S 12 a), va_rf (sR S 13 a), .int (sI S 64 a), .int (sI S 65 a)])) = pool cO (putI S 63 a v) := by
  refine w_set hD hO.1 hk rfl (fun b hb => w_putI_ne b hb) ?_
  refine (wA_Room cO (putI S 63 a v) hO.2).trans ?_
  rw [putI_at (S := S) (c := 63) (a := a) (v := v), putI_col (S := S) (c := 63) (a := a) (v := v) 64 a (Or.inl (by decide)), putI_col (S := S) (c := 63) (a := a) (v := v) 65 a (Or.inl (by decide))]
  try rfl
theorem wU_Room_lots {A : Nat → Prop} (cO : ClassId) (S : wPS) {a k : Nat} (hD : va_D A (pool cO S)) (hO : a ∈ sL S ∧ sK S a = 10) (hk : (pool cO S)[k]? = some (a, wF cO S a)) (v : Option Nat) : (pool cO S).set k (a, .inr (11, [va_rf (sR S 3 a), va_rf (sR S 4 a), va_rf (sR S 5 a), va_rf (sR S 6 a), va_rf (sR S 7 a), va_rf (sR S 8 a), va_rf (sR S 9 a), va_rf (sR S 10 a), va_rf (sR S 11 a), .int (sI S 63 a), va_rf v, va_rf (sR S 13 a), .int (sI S 64 a), .int (sI S 65 a)])) = pool cO (putR S 12 a v) := by
  refine w_set hD hO.1 hk rfl (fun b hb => w_putR_ne b hb) ?_
  refine (wA_Room cO (putR S 12 a v) hO.2).trans ?_
  rw [putR_col (S := S) (c := 12) (a := a) (v := v) 3 a (Or.inl (by decide)), putR_col (S := S) (c := 12) (a := a) (v := v) 4 a (Or.inl (by decide)), putR_col (S := S) (c := 12) (a := a) (v := v) 5 a (Or.inl (by decide)), putR_col (S := S) (c := 12) (a := a) (v := v) 6 a (Or.inl (by decide)), putR_col (S := S) (c := 12) (a := a) (v := v) 7 a (Or.inl (by decide)), putR_col (S := S) (c := 12) (a := a) (v := v) 8 a (Or.inl (by decide)), putR_col (S := S) (c := 12) (a := a) (v := v) 9 a (Or.inl (by decide)), putR_col (S := S) (c := 12) (a := a) (v := v) 10 a (Or.inl (by decide)), putR_col (S := S) (c := 12) (a := a) (v := v) 11 a (Or.inl (by decide)), putR_at (S := S) (c := 12) (a := a) (v := v), putR_col (S := S) (c := 12) (a := a) (v := v) 13 a (Or.inl (by decide))]
  try rfl
theorem wU_Room_tally {A : Nat → Prop} (cO : ClassId) (S : wPS) {a k : Nat} (hD : va_D A (pool cO S)) (hO : a ∈ sL S ∧ sK S a = 10) (hk : (pool cO S)[k]? = some (a, wF cO S a)) (v : Option Nat) : (pool cO S).set k (a, .inr (11, [va_rf (sR S 3 a), va_rf (sR S 4 a), va_rf (sR S 5 a), va_rf (sR S 6 a), va_rf (sR S 7 a), va_rf (sR S 8 a), va_rf (sR S 9 a), va_rf (sR S 10 a), va_rf (sR S 11 a), .int (sI S 63 a), va_rf (sR S 12 a), va_rf v, .int (sI S 64 a), .int (sI S 65 a)])) = pool cO (putR S 13 a v) := by
  refine w_set hD hO.1 hk rfl (fun b hb => w_putR_ne b hb) ?_
  refine (wA_Room cO (putR S 13 a v) hO.2).trans ?_
  rw [putR_col (S := S) (c := 13) (a := a) (v := v) 3 a (Or.inl (by decide)), putR_col (S := S) (c := 13) (a := a) (v := v) 4 a (Or.inl (by decide)), putR_col (S := S) (c := 13) (a := a) (v := v) 5 a (Or.inl (by decide)), putR_col (S := S) (c := 13) (a := a) (v := v) 6 a (Or.inl (by decide)), putR_col (S := S) (c := 13) (a := a) (v := v) 7 a (Or.inl (by decide)), putR_col (S := S) (c := 13) (a := a) (v := v) 8 a (Or.inl (by decide)), putR_col (S := S) (c := 13) (a := a) (v := v) 9 a (Or.inl (by decide)), putR_col (S := S) (c := 13) (a := a) (v := v) 10 a (Or.inl (by decide)), putR_col (S := S) (c := 13) (a := a) (v := v) 11 a (Or.inl (by decide)), putR_col (S := S) (c := 13) (a := a) (v := v) 12 a (Or.inl (by decide)), putR_at (S := S) (c := 13) (a := a) (v := v)]
  try rfl
theorem wU_Room_minute {A : Nat → Prop} (cO : ClassId) (S : wPS) {a k : Nat} (hD : va_D A (pool cO S)) (hO : a ∈ sL S ∧ sK S a = 10) (hk : (pool cO S)[k]? = some (a, wF cO S a)) (v : Int32) : (pool cO S).set k (a, .inr (11, [va_rf (sR S 3 a), va_rf (sR S 4 a), va_rf (sR S 5 a), va_rf (sR S 6 a), va_rf (sR S 7 a), va_rf (sR S 8 a), va_rf (sR S 9 a), va_rf (sR S 10 a), va_rf (sR S 11 a), .int (sI S 63 a), va_rf (sR S 12 a), va_rf (sR S 13 a), .int v, .int (sI S 65 a)])) = pool cO (putI S 64 a v) := by
  refine w_set hD hO.1 hk rfl (fun b hb => w_putI_ne b hb) ?_
  refine (wA_Room cO (putI S 64 a v) hO.2).trans ?_
  rw [putI_col (S := S) (c := 64) (a := a) (v := v) 63 a (Or.inl (by decide)), putI_at (S := S) (c := 64) (a := a) (v := v), putI_col (S := S) (c := 64) (a := a) (v := v) 65 a (Or.inl (by decide))]
  try rfl
theorem wU_Room_gateRadius {A : Nat → Prop} (cO : ClassId) (S : wPS) {a k : Nat} (hD : va_D A (pool cO S)) (hO : a ∈ sL S ∧ sK S a = 10) (hk : (pool cO S)[k]? = some (a, wF cO S a)) (v : Int32) : (pool cO S).set k (a, .inr (11, [va_rf (sR S 3 a), va_rf (sR S 4 a), va_rf (sR S 5 a), va_rf (sR S 6 a), va_rf (sR S 7 a), va_rf (sR S 8 a), va_rf (sR S 9 a), va_rf (sR S 10 a), va_rf (sR S 11 a), .int (sI S 63 a), va_rf (sR S 12 a), va_rf (sR S 13 a), .int (sI S 64 a), .int v])) = pool cO (putI S 65 a v) := by
  refine w_set hD hO.1 hk rfl (fun b hb => w_putI_ne b hb) ?_
  refine (wA_Room cO (putI S 65 a v) hO.2).trans ?_
  rw [putI_col (S := S) (c := 65) (a := a) (v := v) 63 a (Or.inl (by decide)), putI_col (S := S) (c := 65) (a := a) (v := v) 64 a (Or.inl (by decide)), putI_at (S := S) (c := 65) (a := a) (v := v)]
  try rfl
theorem wU_List_modCount {A : Nat → Prop} (cO : ClassId) (S : wPS) {a k : Nat} (hD : va_D A (pool cO S)) (hO : a ∈ sL S ∧ sK S a = 11) (hk : (pool cO S)[k]? = some (a, wF cO S a)) (v : Int32) : (pool cO S).set k (a, .inr (0, [.int v, va_rf (sR S 14 a), .int (sI S 67 a)])) = pool cO (putI S 66 a v) := by
  refine w_set hD hO.1 hk rfl (fun b hb => w_putI_ne b hb) ?_
  refine (wA_List cO (putI S 66 a v) hO.2).trans ?_
  rw [putI_at (S := S) (c := 66) (a := a) (v := v), putI_col (S := S) (c := 66) (a := a) (v := v) 67 a (Or.inl (by decide))]
  try rfl
theorem wU_List_elementData {A : Nat → Prop} (cO : ClassId) (S : wPS) {a k : Nat} (hD : va_D A (pool cO S)) (hO : a ∈ sL S ∧ sK S a = 11) (hk : (pool cO S)[k]? = some (a, wF cO S a)) (v : Option Nat) : (pool cO S).set k (a, .inr (0, [.int (sI S 66 a), va_rf v, .int (sI S 67 a)])) = pool cO (putR S 14 a v) := by
  refine w_set hD hO.1 hk rfl (fun b hb => w_putR_ne b hb) ?_
  refine (wA_List cO (putR S 14 a v) hO.2).trans ?_
  rw [putR_at (S := S) (c := 14) (a := a) (v := v)]
  try rfl
theorem wU_List_size {A : Nat → Prop} (cO : ClassId) (S : wPS) {a k : Nat} (hD : va_D A (pool cO S)) (hO : a ∈ sL S ∧ sK S a = 11) (hk : (pool cO S)[k]? = some (a, wF cO S a)) (v : Int32) : (pool cO S).set k (a, .inr (0, [.int (sI S 66 a), va_rf (sR S 14 a), .int v])) = pool cO (putI S 67 a v) := by
  refine w_set hD hO.1 hk rfl (fun b hb => w_putI_ne b hb) ?_
  refine (wA_List cO (putI S 67 a v) hO.2).trans ?_
  rw [putI_col (S := S) (c := 67) (a := a) (v := v) 66 a (Or.inl (by decide)), putI_at (S := S) (c := 67) (a := a) (v := v)]
  try rfl
theorem w_new {A : Nat → Prop} (cO : ClassId) (S : wPS) {a : Nat} (kd n : Nat) {e : va_E} (hD : va_D A (pool cO S ++ [(a, e)])) (he : e = wE cO kd (fun _ => 0) (fun _ => none) n (fun _ => none)) : pool cO S ++ [(a, e)] = pool cO (newS S a kd n) ∧ a ∉ sL S := by
  have hf : a ∉ sL S := va_pl_fresh2 (X := []) (f := wF cO S) hD
  refine ⟨?_, hf⟩
  refine (va_pl_push (f := wF cO S) (e := e) hf).trans ?_
  show va_pl (sL S ++ [a]) (va_up (wF cO S) a e) = va_pl (sL S ++ [a]) (wF cO (newS S a kd n))
  refine va_pl_congr (fun b => ?_)
  by_cases hb : b = a
  · subst hb
    show va_up (wF cO S) b e b = wE cO (va_up (sK S) b kd b) (fun c => va_up (sI S c) b 0 b) (fun c => va_up (sR S c) b none b) (va_up (sN S) b n b) (va_up (sW S) b (fun _ => none) b)
    simp [va_up, he]
  · show va_up (wF cO S) a e b = wE cO (va_up (sK S) a kd b) (fun c => va_up (sI S c) a 0 b) (fun c => va_up (sR S c) a none b) (va_up (sN S) a n b) (va_up (sW S) a (fun _ => none) b)
    simp [va_up, hb, wF]
