theorem nwMast_ch {S : wPS} {a : Nat} {u v rg bl sl lg : Int32} (fa : a ∉ sL S) : Ch [] [] S (initMast (newS S a 3 0) a u v rg bl sl lg) ∧ Kw S (initMast (newS S a 3 0) a u v rg bl sl lg) ∧ (a ∈ sL (initMast (newS S a 3 0) a u v rg bl sl lg) ∧ sK (initMast (newS S a 3 0) a u v rg bl sl lg) a = 3) := by
  refine ⟨?_, kw_new (kd := 3) (n := 0) fa, nw_at (n := 0) fa⟩
  unfold initMast pinitMast
  exact ch_In (ch_In (ch_In (ch_In (ch_In (ch_In (ch_new fa) fa) fa) fa) fa) fa) fa
theorem nwMast_isCut {S : wPS} {a : Nat} {u v rg bl sl lg : Int32} : sI (initMast (newS S a 3 0) a u v rg bl sl lg) q_Mast_isCut a = 0 := by
  unfold initMast pinitMast
  repeat rw [putI_col q_Mast_isCut a (Or.inl (by decide))]
  exact if_pos rfl
theorem nwMast_lost {S : wPS} {a : Nat} {u v rg bl sl lg : Int32} : sI (initMast (newS S a 3 0) a u v rg bl sl lg) q_Mast_lost a = 0 := by
  unfold initMast pinitMast
  repeat rw [putI_col q_Mast_lost a (Or.inl (by decide))]
  exact if_pos rfl
theorem nwMast_slip {S : wPS} {a : Nat} {u v rg bl sl lg : Int32} : sI (initMast (newS S a 3 0) a u v rg bl sl lg) q_Mast_slip a = sl := by
  unfold initMast pinitMast
  repeat (first | rw [putI_at] | rw [putI_col q_Mast_slip a (Or.inl (by decide))])
theorem nwMast_made {S : wPS} {a : Nat} {u v rg bl sl lg : Int32} : sI (initMast (newS S a 3 0) a u v rg bl sl lg) q_Mast_made a = 0 := by
  unfold initMast pinitMast
  repeat rw [putI_col q_Mast_made a (Or.inl (by decide))]
  exact if_pos rfl
theorem nwMast_came {S : wPS} {a : Nat} {u v rg bl sl lg : Int32} : sI (initMast (newS S a 3 0) a u v rg bl sl lg) q_Mast_came a = 0 := by
  unfold initMast pinitMast
  repeat rw [putI_col q_Mast_came a (Or.inl (by decide))]
  exact if_pos rfl
theorem nwFlight_ch {S : wPS} {a : Nat} {fo u v cx cy hh nn : Int32} (fa : a ∉ sL S) : Ch [] [] S (initFlight (newS S a 0 0) a fo u v cx cy hh nn) ∧ Kw S (initFlight (newS S a 0 0) a fo u v cx cy hh nn) ∧ (a ∈ sL (initFlight (newS S a 0 0) a fo u v cx cy hh nn) ∧ sK (initFlight (newS S a 0 0) a fo u v cx cy hh nn) a = 0) := by
  refine ⟨?_, kw_new (kd := 0) (n := 0) fa, nw_at (n := 0) fa⟩
  unfold initFlight pinitFlight
  exact ch_In (ch_In (ch_In (ch_In (ch_In (ch_In (ch_In (ch_In (ch_new fa) fa) fa) fa) fa) fa) fa) fa) fa
theorem nwFlight_x {S : wPS} {a : Nat} {fo u v cx cy hh nn : Int32} : sI (initFlight (newS S a 0 0) a fo u v cx cy hh nn) q_Flight_x a = u := by
  unfold initFlight pinitFlight
  repeat (first | rw [putI_at] | rw [putI_col q_Flight_x a (Or.inl (by decide))])
theorem nwFlight_y {S : wPS} {a : Nat} {fo u v cx cy hh nn : Int32} : sI (initFlight (newS S a 0 0) a fo u v cx cy hh nn) q_Flight_y a = v := by
  unfold initFlight pinitFlight
  repeat (first | rw [putI_at] | rw [putI_col q_Flight_y a (Or.inl (by decide))])
theorem nwFlight_count {S : wPS} {a : Nat} {fo u v cx cy hh nn : Int32} : sI (initFlight (newS S a 0 0) a fo u v cx cy hh nn) q_Flight_count a = nn := by
  unfold initFlight pinitFlight
  repeat (first | rw [putI_at] | rw [putI_col q_Flight_count a (Or.inl (by decide))])
theorem nwGun_ch {S : wPS} {a : Nat} {u v w : Int32} (fa : a ∉ sL S) : Ch [] [] S (initGun (newS S a 1 0) a u v w) ∧ Kw S (initGun (newS S a 1 0) a u v w) ∧ (a ∈ sL (initGun (newS S a 1 0) a u v w) ∧ sK (initGun (newS S a 1 0) a u v w) a = 1) := by
  refine ⟨?_, kw_new (kd := 1) (n := 0) fa, nw_at (n := 0) fa⟩
  unfold initGun pinitGun
  exact ch_In (ch_In (ch_In (ch_new fa) fa) fa) fa
theorem nwTown_ch {S : wPS} {a : Nat} {u v w : Int32} (fa : a ∉ sL S) : Ch [] [] S (initTown (newS S a 8 0) a u v w) ∧ Kw S (initTown (newS S a 8 0) a u v w) ∧ (a ∈ sL (initTown (newS S a 8 0) a u v w) ∧ sK (initTown (newS S a 8 0) a u v w) a = 8) := by
  refine ⟨?_, kw_new (kd := 8) (n := 0) fa, nw_at (n := 0) fa⟩
  unfold initTown pinitTown
  exact ch_In (ch_In (ch_In (ch_new fa) fa) fa) fa
theorem nwPlace_ch {S : wPS} {a : Nat} {u v : Int32} (fa : a ∉ sL S) : Ch [] [] S (pinitPlace (newS S a 4 0) a u v) ∧ Kw S (pinitPlace (newS S a 4 0) a u v) ∧ (a ∈ sL (pinitPlace (newS S a 4 0) a u v) ∧ sK (pinitPlace (newS S a 4 0) a u v) a = 4) := by
  refine ⟨?_, kw_new (kd := 4) (n := 0) fa, nw_at (n := 0) fa⟩
  unfold pinitPlace
  exact ch_In (ch_In (ch_new fa) fa) fa
theorem nwPlace_x {S : wPS} {a : Nat} {u v : Int32} : sI (pinitPlace (newS S a 4 0) a u v) q_Place_x a = u := by
  unfold pinitPlace
  repeat (first | rw [putI_at] | rw [putI_col q_Place_x a (Or.inl (by decide))])
theorem nwPlace_y {S : wPS} {a : Nat} {u v : Int32} : sI (pinitPlace (newS S a 4 0) a u v) q_Place_y a = v := by
  unfold pinitPlace
  repeat (first | rw [putI_at] | rw [putI_col q_Place_y a (Or.inl (by decide))])
theorem nwSq_ch {S : wPS} {a b : Nat} {sn mc sp tk rd : Int32} (fa : a ∉ sL S) : Ch [] [] S (initSquadron (newS S a 6 0) a sn b mc sp tk rd) ∧ Kw S (initSquadron (newS S a 6 0) a sn b mc sp tk rd) ∧ (a ∈ sL (initSquadron (newS S a 6 0) a sn b mc sp tk rd) ∧ sK (initSquadron (newS S a 6 0) a sn b mc sp tk rd) a = 6) := by
  refine ⟨?_, kw_new (kd := 6) (n := 0) fa, nw_at (n := 0) fa⟩
  unfold initSquadron pinitSquadron
  exact ch_In (ch_In (ch_In (ch_In (ch_In (ch_In (ch_In (ch_Rn (ch_In (ch_In (ch_In (ch_new fa) fa) fa) fa) fa) fa) fa) fa) fa) fa) fa) fa
theorem nwSq_machines {S : wPS} {a b : Nat} {sn mc sp tk rd : Int32} : sI (initSquadron (newS S a 6 0) a sn b mc sp tk rd) q_Squadron_machines a = mc := by
  unfold initSquadron pinitSquadron
  repeat (first | rw [putI_at] | rw [putI_col q_Squadron_machines a (Or.inl (by decide))])
theorem nwSq_state {S : wPS} {a b : Nat} {sn mc sp tk rd : Int32} : sI (initSquadron (newS S a 6 0) a sn b mc sp tk rd) q_Squadron_state a = 0 := by
  unfold initSquadron pinitSquadron
  repeat (first | rw [putI_at] | rw [putI_col q_Squadron_state a (Or.inl (by decide))])
theorem nwSq_fuel {S : wPS} {a b : Nat} {sn mc sp tk rd : Int32} : sI (initSquadron (newS S a 6 0) a sn b mc sp tk rd) q_Squadron_fuel a = tk := by
  unfold initSquadron pinitSquadron
  repeat (first | rw [putI_at] | rw [putI_col q_Squadron_fuel a (Or.inl (by decide))])
theorem nwSq_tank {S : wPS} {a b : Nat} {sn mc sp tk rd : Int32} : sI (initSquadron (newS S a 6 0) a sn b mc sp tk rd) q_Squadron_tank a = tk := by
  unfold initSquadron pinitSquadron
  repeat (first | rw [putI_at] | rw [putI_col q_Squadron_tank a (Or.inl (by decide))])
theorem nwSq_speed {S : wPS} {a b : Nat} {sn mc sp tk rd : Int32} : sI (initSquadron (newS S a 6 0) a sn b mc sp tk rd) q_Squadron_speed a = sp := by
  unfold initSquadron pinitSquadron
  repeat (first | rw [putI_at] | rw [putI_col q_Squadron_speed a (Or.inl (by decide))])
theorem nwSq_won {S : wPS} {a b : Nat} {sn mc sp tk rd : Int32} : sI (initSquadron (newS S a 6 0) a sn b mc sp tk rd) q_Squadron_won a = 0 := by
  unfold initSquadron pinitSquadron
  repeat (first | rw [putI_at] | rw [putI_col q_Squadron_won a (Or.inl (by decide))])
  show sI (putI (putI (putI (newS S a 6 0) q_Squadron_x a (sI (newS S a 6 0) q_Place_x b)) q_Squadron_y a (sI (newS S a 6 0) q_Place_y b)) q_Squadron_stationNumber a sn) q_Squadron_won a = 0
  repeat rw [putI_col q_Squadron_won a (Or.inl (by decide))]
  exact if_pos rfl
theorem nwSq_x {S : wPS} {a b : Nat} {sn mc sp tk rd : Int32} (hb : b ∈ sL S) (fa : a ∉ sL S) : sI (initSquadron (newS S a 6 0) a sn b mc sp tk rd) q_Squadron_x a = sI S q_Place_x b := by
  unfold initSquadron pinitSquadron
  repeat (first | rw [putI_at] | rw [putI_col q_Squadron_x a (Or.inl (by decide))])
  show sI (putI (putI (putI (newS S a 6 0) q_Squadron_x a (sI (newS S a 6 0) q_Place_x b)) q_Squadron_y a (sI (newS S a 6 0) q_Place_y b)) q_Squadron_stationNumber a sn) q_Squadron_x a = _
  repeat (first | rw [putI_at] | rw [putI_col q_Squadron_x a (Or.inl (by decide))])
  exact nx_x hb fa
theorem nwSq_y {S : wPS} {a b : Nat} {sn mc sp tk rd : Int32} (hb : b ∈ sL S) (fa : a ∉ sL S) : sI (initSquadron (newS S a 6 0) a sn b mc sp tk rd) q_Squadron_y a = sI S q_Place_y b := by
  unfold initSquadron pinitSquadron
  repeat (first | rw [putI_at] | rw [putI_col q_Squadron_y a (Or.inl (by decide))])
  show sI (putI (putI (putI (newS S a 6 0) q_Squadron_x a (sI (newS S a 6 0) q_Place_x b)) q_Squadron_y a (sI (newS S a 6 0) q_Place_y b)) q_Squadron_stationNumber a sn) q_Squadron_y a = _
  repeat (first | rw [putI_at] | rw [putI_col q_Squadron_y a (Or.inl (by decide))])
  exact nx_x hb fa
theorem nwSq_base {S : wPS} {a b : Nat} {sn mc sp tk rd : Int32} : sR (initSquadron (newS S a 6 0) a sn b mc sp tk rd) q_Squadron_base a = some b := putR_at (S := putI (putI (putI (newS S a 6 0) q_Squadron_x a (sI (newS S a 6 0) q_Place_x b)) q_Squadron_y a (sI (newS S a 6 0) q_Place_y b)) q_Squadron_stationNumber a sn) (c := q_Squadron_base) (a := a) (v := some b)
theorem nwSq_target {S : wPS} {a b : Nat} {sn mc sp tk rd : Int32} : sR (initSquadron (newS S a 6 0) a sn b mc sp tk rd) q_Squadron_target a = none := (putR_col (S := putI (putI (putI (newS S a 6 0) q_Squadron_x a (sI (newS S a 6 0) q_Place_x b)) q_Squadron_y a (sI (newS S a 6 0) q_Place_y b)) q_Squadron_stationNumber a sn) (c := q_Squadron_base) (a := a) (v := some b) q_Squadron_target a (Or.inl (by decide))).trans (if_pos rfl)
theorem nwSq_I {S : wPS} {a b m s t : Nat} {sn rd : Int32} (fa : a ∉ sL S) (hb : b ∈ sL S ∧ sK S b = 4) (hpl : isPlaceB (sI S q_Place_x b) (sI S q_Place_y b) = true) (hm : m ≤ 12) (hs : 5 ≤ s) (hs2 : s ≤ 20) (ht : 1 ≤ t) (ht2 : t ≤ 99) : sqI (initSquadron (newS S a 6 0) a sn b (nI m) (nI s) (nI t) rd) a := by
  have hC := (nwSq_ch (b := b) (sn := sn) (mc := nI m) (sp := nI s) (tk := nI t) (rd := rd) fa).1
  unfold sqI
  rw [nwSq_machines, nwSq_state, nwSq_fuel, nwSq_tank, nwSq_x hb.1 fa, nwSq_y hb.1 fa, nwSq_speed, nwSq_base, nwSq_target]
  have h0 : 0 < nI t := by rw [← nI_0]; exact nI_lt (by omega) (by omega)
  refine ⟨⟨m, hm, rfl, Or.inl rfl⟩, h0, h0, hpl, ⟨s, hs, hs2, rfl⟩, ⟨b, rfl, hC.o hb, ?_⟩, Or.inl rfl⟩
  rw [hC.2.1 q_Place_x (by decide) b hb.1, hC.2.1 q_Place_y (by decide) b hb.1]; exact hpl

