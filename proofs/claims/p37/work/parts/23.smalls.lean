set_option maxHeartbeats 4000000 in
set_option maxRecDepth 100000 in
theorem k_pinit_Flight (e9 : Nat × Nat) (S : wPS) (a : Nat) (u v : Int32) (ha : a ∈ sL S ∧ sK S a = 0) : MVv e9 yX4_init cX4_init 3 none ({ frames := 1, cells := 0, slots := 0, locals := 12 }) S [.ref a, .int u, .int v] (fun S1 => S1 = pinitFlight S a u v) 0 0 := by
  refine stV_v (post := (fun S1 => S1 = pinitFlight S a u v)) (by decide) (Nat.le_of_ble_eq_true rfl) ⟨Nat.le_refl _, Nat.le_refl _⟩ rfl (fun κ hκ hz hnm hend => ?_)
  show Gj κ _ 0 [(0, .ref a), (1, .int u), (2, .int v)] []
  refine g_aload_n hκ 0 dX4_init_0 rfl rfl ?_
  refine g_objInit hκ qw_255 ⟨Nat.le_of_ble_eq_true rfl, Nat.le_of_ble_eq_true rfl⟩ dX4_init_1 ?_
  refine g_aload_n hκ 0 dX4_init_4 rfl rfl ?_
  refine g_iload_n hκ 1 dX4_init_5 rfl rfl ?_
  refine pt_Flight_x hκ ha qw_275 (Or.inl rfl) dX4_init_6 ?_
  refine g_aload_n hκ 0 dX4_init_9 rfl rfl ?_
  refine g_iload_n hκ 2 dX4_init_10 rfl rfl ?_
  refine pt_Flight_y hκ ha qw_299 (Or.inl rfl) dX4_init_11 ?_
  exact hend _ _ _ _ _ dX4_init_14 (rfl)
set_option maxHeartbeats 4000000 in
set_option maxRecDepth 100000 in
theorem k_pinit_Gun (e9 : Nat × Nat) (S : wPS) (a : Nat) (u v : Int32) (ha : a ∈ sL S ∧ sK S a = 1) : MVv e9 yX4_init cX4_init 3 none ({ frames := 1, cells := 0, slots := 0, locals := 12 }) S [.ref a, .int u, .int v] (fun S1 => S1 = pinitGun S a u v) 0 0 := by
  refine stV_v (post := (fun S1 => S1 = pinitGun S a u v)) (by decide) (Nat.le_of_ble_eq_true rfl) ⟨Nat.le_refl _, Nat.le_refl _⟩ rfl (fun κ hκ hz hnm hend => ?_)
  show Gj κ _ 0 [(0, .ref a), (1, .int u), (2, .int v)] []
  refine g_aload_n hκ 0 dX4_init_0 rfl rfl ?_
  refine g_objInit hκ qw_255 ⟨Nat.le_of_ble_eq_true rfl, Nat.le_of_ble_eq_true rfl⟩ dX4_init_1 ?_
  refine g_aload_n hκ 0 dX4_init_4 rfl rfl ?_
  refine g_iload_n hκ 1 dX4_init_5 rfl rfl ?_
  refine pt_Gun_x hκ ha qw_275 (Or.inl rfl) dX4_init_6 ?_
  refine g_aload_n hκ 0 dX4_init_9 rfl rfl ?_
  refine g_iload_n hκ 2 dX4_init_10 rfl rfl ?_
  refine pt_Gun_y hκ ha qw_299 (Or.inl rfl) dX4_init_11 ?_
  exact hend _ _ _ _ _ dX4_init_14 (rfl)
set_option maxHeartbeats 4000000 in
set_option maxRecDepth 100000 in
theorem k_pinit_Mast (e9 : Nat × Nat) (S : wPS) (a : Nat) (u v : Int32) (ha : a ∈ sL S ∧ sK S a = 3) : MVv e9 yX4_init cX4_init 3 none ({ frames := 1, cells := 0, slots := 0, locals := 12 }) S [.ref a, .int u, .int v] (fun S1 => S1 = pinitMast S a u v) 0 0 := by
  refine stV_v (post := (fun S1 => S1 = pinitMast S a u v)) (by decide) (Nat.le_of_ble_eq_true rfl) ⟨Nat.le_refl _, Nat.le_refl _⟩ rfl (fun κ hκ hz hnm hend => ?_)
  show Gj κ _ 0 [(0, .ref a), (1, .int u), (2, .int v)] []
  refine g_aload_n hκ 0 dX4_init_0 rfl rfl ?_
  refine g_objInit hκ qw_255 ⟨Nat.le_of_ble_eq_true rfl, Nat.le_of_ble_eq_true rfl⟩ dX4_init_1 ?_
  refine g_aload_n hκ 0 dX4_init_4 rfl rfl ?_
  refine g_iload_n hκ 1 dX4_init_5 rfl rfl ?_
  refine pt_Mast_x hκ ha qw_275 (Or.inl rfl) dX4_init_6 ?_
  refine g_aload_n hκ 0 dX4_init_9 rfl rfl ?_
  refine g_iload_n hκ 2 dX4_init_10 rfl rfl ?_
  refine pt_Mast_y hκ ha qw_299 (Or.inl rfl) dX4_init_11 ?_
  exact hend _ _ _ _ _ dX4_init_14 (rfl)
set_option maxHeartbeats 4000000 in
set_option maxRecDepth 100000 in
theorem k_pinit_Place (e9 : Nat × Nat) (S : wPS) (a : Nat) (u v : Int32) (ha : a ∈ sL S ∧ sK S a = 4) : MVv e9 yX4_init cX4_init 3 none ({ frames := 1, cells := 0, slots := 0, locals := 12 }) S [.ref a, .int u, .int v] (fun S1 => S1 = pinitPlace S a u v) 0 0 := by
  refine stV_v (post := (fun S1 => S1 = pinitPlace S a u v)) (by decide) (Nat.le_of_ble_eq_true rfl) ⟨Nat.le_refl _, Nat.le_refl _⟩ rfl (fun κ hκ hz hnm hend => ?_)
  show Gj κ _ 0 [(0, .ref a), (1, .int u), (2, .int v)] []
  refine g_aload_n hκ 0 dX4_init_0 rfl rfl ?_
  refine g_objInit hκ qw_255 ⟨Nat.le_of_ble_eq_true rfl, Nat.le_of_ble_eq_true rfl⟩ dX4_init_1 ?_
  refine g_aload_n hκ 0 dX4_init_4 rfl rfl ?_
  refine g_iload_n hκ 1 dX4_init_5 rfl rfl ?_
  refine pt_Place_x hκ ha qw_275 (Or.inl rfl) dX4_init_6 ?_
  refine g_aload_n hκ 0 dX4_init_9 rfl rfl ?_
  refine g_iload_n hκ 2 dX4_init_10 rfl rfl ?_
  refine pt_Place_y hκ ha qw_299 (Or.inl rfl) dX4_init_11 ?_
  exact hend _ _ _ _ _ dX4_init_14 (rfl)
set_option maxHeartbeats 4000000 in
set_option maxRecDepth 100000 in
theorem k_pinit_Plot (e9 : Nat × Nat) (S : wPS) (a : Nat) (u v : Int32) (ha : a ∈ sL S ∧ sK S a = 5) : MVv e9 yX4_init cX4_init 3 none ({ frames := 1, cells := 0, slots := 0, locals := 12 }) S [.ref a, .int u, .int v] (fun S1 => S1 = pinitPlot S a u v) 0 0 := by
  refine stV_v (post := (fun S1 => S1 = pinitPlot S a u v)) (by decide) (Nat.le_of_ble_eq_true rfl) ⟨Nat.le_refl _, Nat.le_refl _⟩ rfl (fun κ hκ hz hnm hend => ?_)
  show Gj κ _ 0 [(0, .ref a), (1, .int u), (2, .int v)] []
  refine g_aload_n hκ 0 dX4_init_0 rfl rfl ?_
  refine g_objInit hκ qw_255 ⟨Nat.le_of_ble_eq_true rfl, Nat.le_of_ble_eq_true rfl⟩ dX4_init_1 ?_
  refine g_aload_n hκ 0 dX4_init_4 rfl rfl ?_
  refine g_iload_n hκ 1 dX4_init_5 rfl rfl ?_
  refine pt_Plot_x hκ ha qw_275 (Or.inl rfl) dX4_init_6 ?_
  refine g_aload_n hκ 0 dX4_init_9 rfl rfl ?_
  refine g_iload_n hκ 2 dX4_init_10 rfl rfl ?_
  refine pt_Plot_y hκ ha qw_299 (Or.inl rfl) dX4_init_11 ?_
  exact hend _ _ _ _ _ dX4_init_14 (rfl)
set_option maxHeartbeats 4000000 in
set_option maxRecDepth 100000 in
theorem k_pinit_Squadron (e9 : Nat × Nat) (S : wPS) (a : Nat) (u v : Int32) (ha : a ∈ sL S ∧ sK S a = 6) : MVv e9 yX4_init cX4_init 3 none ({ frames := 1, cells := 0, slots := 0, locals := 12 }) S [.ref a, .int u, .int v] (fun S1 => S1 = pinitSquadron S a u v) 0 0 := by
  refine stV_v (post := (fun S1 => S1 = pinitSquadron S a u v)) (by decide) (Nat.le_of_ble_eq_true rfl) ⟨Nat.le_refl _, Nat.le_refl _⟩ rfl (fun κ hκ hz hnm hend => ?_)
  show Gj κ _ 0 [(0, .ref a), (1, .int u), (2, .int v)] []
  refine g_aload_n hκ 0 dX4_init_0 rfl rfl ?_
  refine g_objInit hκ qw_255 ⟨Nat.le_of_ble_eq_true rfl, Nat.le_of_ble_eq_true rfl⟩ dX4_init_1 ?_
  refine g_aload_n hκ 0 dX4_init_4 rfl rfl ?_
  refine g_iload_n hκ 1 dX4_init_5 rfl rfl ?_
  refine pt_Squadron_x hκ ha qw_275 (Or.inl rfl) dX4_init_6 ?_
  refine g_aload_n hκ 0 dX4_init_9 rfl rfl ?_
  refine g_iload_n hκ 2 dX4_init_10 rfl rfl ?_
  refine pt_Squadron_y hκ ha qw_299 (Or.inl rfl) dX4_init_11 ?_
  exact hend _ _ _ _ _ dX4_init_14 (rfl)
set_option maxHeartbeats 4000000 in
set_option maxRecDepth 100000 in
theorem k_pinit_Town (e9 : Nat × Nat) (S : wPS) (a : Nat) (u v : Int32) (ha : a ∈ sL S ∧ sK S a = 8) : MVv e9 yX4_init cX4_init 3 none ({ frames := 1, cells := 0, slots := 0, locals := 12 }) S [.ref a, .int u, .int v] (fun S1 => S1 = pinitTown S a u v) 0 0 := by
  refine stV_v (post := (fun S1 => S1 = pinitTown S a u v)) (by decide) (Nat.le_of_ble_eq_true rfl) ⟨Nat.le_refl _, Nat.le_refl _⟩ rfl (fun κ hκ hz hnm hend => ?_)
  show Gj κ _ 0 [(0, .ref a), (1, .int u), (2, .int v)] []
  refine g_aload_n hκ 0 dX4_init_0 rfl rfl ?_
  refine g_objInit hκ qw_255 ⟨Nat.le_of_ble_eq_true rfl, Nat.le_of_ble_eq_true rfl⟩ dX4_init_1 ?_
  refine g_aload_n hκ 0 dX4_init_4 rfl rfl ?_
  refine g_iload_n hκ 1 dX4_init_5 rfl rfl ?_
  refine pt_Town_x hκ ha qw_275 (Or.inl rfl) dX4_init_6 ?_
  refine g_aload_n hκ 0 dX4_init_9 rfl rfl ?_
  refine g_iload_n hκ 2 dX4_init_10 rfl rfl ?_
  refine pt_Town_y hκ ha qw_299 (Or.inl rfl) dX4_init_11 ?_
  exact hend _ _ _ _ _ dX4_init_14 (rfl)
set_option maxHeartbeats 4000000 in
set_option maxRecDepth 100000 in
theorem k_pinit_Track (e9 : Nat × Nat) (S : wPS) (a : Nat) (u v : Int32) (ha : a ∈ sL S ∧ sK S a = 9) : MVv e9 yX4_init cX4_init 3 none ({ frames := 1, cells := 0, slots := 0, locals := 12 }) S [.ref a, .int u, .int v] (fun S1 => S1 = pinitTrack S a u v) 0 0 := by
  refine stV_v (post := (fun S1 => S1 = pinitTrack S a u v)) (by decide) (Nat.le_of_ble_eq_true rfl) ⟨Nat.le_refl _, Nat.le_refl _⟩ rfl (fun κ hκ hz hnm hend => ?_)
  show Gj κ _ 0 [(0, .ref a), (1, .int u), (2, .int v)] []
  refine g_aload_n hκ 0 dX4_init_0 rfl rfl ?_
  refine g_objInit hκ qw_255 ⟨Nat.le_of_ble_eq_true rfl, Nat.le_of_ble_eq_true rfl⟩ dX4_init_1 ?_
  refine g_aload_n hκ 0 dX4_init_4 rfl rfl ?_
  refine g_iload_n hκ 1 dX4_init_5 rfl rfl ?_
  refine pt_Track_x hκ ha qw_275 (Or.inl rfl) dX4_init_6 ?_
  refine g_aload_n hκ 0 dX4_init_9 rfl rfl ?_
  refine g_iload_n hκ 2 dX4_init_10 rfl rfl ?_
  refine pt_Track_y hκ ha qw_299 (Or.inl rfl) dX4_init_11 ?_
  exact hend _ _ _ _ _ dX4_init_14 (rfl)
set_option maxHeartbeats 4000000 in
set_option maxRecDepth 100000 in
theorem k_init_Flight (e9 : Nat × Nat) (S : wPS) (a : Nat) (fo u v cx cy hh nn : Int32) (ha : a ∈ sL S ∧ sK S a = 0) (hzfo : fo = 0 ∨ fo = 1) : MVv e9 yX0_init cX0_init 8 none ({ frames := 2, cells := 0, slots := 0, locals := 34 }) S [.ref a, .int fo, .int u, .int v, .int cx, .int cy, .int hh, .int nn] (fun S1 => S1 = initFlight S a fo u v cx cy hh nn) 0 0 := by
  refine stV_v (post := (fun S1 => S1 = initFlight S a fo u v cx cy hh nn)) (by decide) (Nat.le_of_ble_eq_true rfl) ⟨Nat.le_refl _, Nat.le_refl _⟩ rfl (fun κ hκ hz hnm hend => ?_)
  show Gj κ _ 0 [(0, .ref a), (1, .int fo), (2, .int u), (3, .int v), (4, .int cx), (5, .int cy), (6, .int hh), (7, .int nn)] []
  refine g_aload_n hκ 0 dX0_init_0 rfl rfl ?_
  refine g_iload_n hκ 2 dX0_init_1 rfl rfl ?_
  refine g_iload_n hκ 3 dX0_init_2 rfl rfl ?_
  refine vI_v hκ hz [.int u, .int v] sd_X4_init qw_558 (k_pinit_Flight e9 S a u v ha) ⟨rfl, rfl, Nat.le_of_ble_eq_true rfl, Nat.le_of_ble_eq_true rfl⟩ rfl rfl (Nat.le_of_ble_eq_true rfl) dX0_init_3 (by omega) (by omega) (fun S2 hS2 => ?_)
  obtain rfl := hS2
  refine g_aload_n hκ 0 dX0_init_6 rfl rfl ?_
  refine g_iload_n hκ 1 dX0_init_7 rfl rfl ?_
  refine pt_Flight_isFoe hκ ha qw_559 (Or.inl rfl) hzfo hnm rfl dX0_init_8 ?_
  refine g_aload_n hκ 0 dX0_init_11 rfl rfl ?_
  refine g_iload hκ 4 dX0_init_12 rfl ?_
  refine pt_Flight_courseX hκ ha qw_563 (Or.inl rfl) dX0_init_14 ?_
  refine g_aload_n hκ 0 dX0_init_17 rfl rfl ?_
  refine g_iload hκ 5 dX0_init_18 rfl ?_
  refine pt_Flight_courseY hκ ha qw_564 (Or.inl rfl) dX0_init_20 ?_
  refine g_aload_n hκ 0 dX0_init_23 rfl rfl ?_
  refine g_iload hκ 6 dX0_init_24 rfl ?_
  refine pt_Flight_height hκ ha qw_561 (Or.inl rfl) hnm rfl dX0_init_26 ?_
  refine g_aload_n hκ 0 dX0_init_29 rfl rfl ?_
  refine g_iload hκ 7 dX0_init_30 rfl ?_
  refine pt_Flight_count hκ ha qw_565 (Or.inl rfl) dX0_init_32 ?_
  refine g_aload_n hκ 0 dX0_init_35 rfl rfl ?_
  refine g_iconst hκ (v := 1) dX0_init_36 (by decide) ?_
  refine pt_Flight_isUp hκ ha qw_567 (Or.inl rfl) (by decide) dX0_init_37 ?_
  exact hend _ _ _ _ _ dX0_init_40 (rfl)
set_option maxHeartbeats 4000000 in
set_option maxRecDepth 100000 in
theorem k_init_Gun (e9 : Nat × Nat) (S : wPS) (a : Nat) (u v w : Int32) (ha : a ∈ sL S ∧ sK S a = 1) : MVv e9 yX1_init cX1_init 4 none ({ frames := 2, cells := 0, slots := 0, locals := 34 }) S [.ref a, .int u, .int v, .int w] (fun S1 => S1 = initGun S a u v w) 0 0 := by
  refine stV_v (post := (fun S1 => S1 = initGun S a u v w)) (by decide) (Nat.le_of_ble_eq_true rfl) ⟨Nat.le_refl _, Nat.le_refl _⟩ rfl (fun κ hκ hz hnm hend => ?_)
  show Gj κ _ 0 [(0, .ref a), (1, .int u), (2, .int v), (3, .int w)] []
  refine g_aload_n hκ 0 dX1_init_0 rfl rfl ?_
  refine g_iload_n hκ 1 dX1_init_1 rfl rfl ?_
  refine g_iload_n hκ 2 dX1_init_2 rfl rfl ?_
  refine vI_v hκ hz [.int u, .int v] sd_X4_init qw_514 (k_pinit_Gun e9 S a u v ha) ⟨rfl, rfl, Nat.le_of_ble_eq_true rfl, Nat.le_of_ble_eq_true rfl⟩ rfl rfl (Nat.le_of_ble_eq_true rfl) dX1_init_3 (by omega) (by omega) (fun S2 hS2 => ?_)
  obtain rfl := hS2
  refine g_aload_n hκ 0 dX1_init_6 rfl rfl ?_
  refine g_iload_n hκ 3 dX1_init_7 rfl rfl ?_
  refine pt_Gun_radius hκ ha qw_515 (Or.inl rfl) hnm rfl dX1_init_8 ?_
  exact hend _ _ _ _ _ dX1_init_11 (rfl)
set_option maxHeartbeats 4000000 in
set_option maxRecDepth 100000 in
theorem k_init_Town (e9 : Nat × Nat) (S : wPS) (a : Nat) (u v w : Int32) (ha : a ∈ sL S ∧ sK S a = 8) : MVv e9 yX9_init cX9_init 4 none ({ frames := 2, cells := 0, slots := 0, locals := 34 }) S [.ref a, .int u, .int v, .int w] (fun S1 => S1 = initTown S a u v w) 0 0 := by
  refine stV_v (post := (fun S1 => S1 = initTown S a u v w)) (by decide) (Nat.le_of_ble_eq_true rfl) ⟨Nat.le_refl _, Nat.le_refl _⟩ rfl (fun κ hκ hz hnm hend => ?_)
  show Gj κ _ 0 [(0, .ref a), (1, .int u), (2, .int v), (3, .int w)] []
  refine g_aload_n hκ 0 dX9_init_0 rfl rfl ?_
  refine g_iload_n hκ 1 dX9_init_1 rfl rfl ?_
  refine g_iload_n hκ 2 dX9_init_2 rfl rfl ?_
  refine vI_v hκ hz [.int u, .int v] sd_X4_init qw_536 (k_pinit_Town e9 S a u v ha) ⟨rfl, rfl, Nat.le_of_ble_eq_true rfl, Nat.le_of_ble_eq_true rfl⟩ rfl rfl (Nat.le_of_ble_eq_true rfl) dX9_init_3 (by omega) (by omega) (fun S2 hS2 => ?_)
  obtain rfl := hS2
  refine g_aload_n hκ 0 dX9_init_6 rfl rfl ?_
  refine g_iload_n hκ 3 dX9_init_7 rfl rfl ?_
  refine pt_Town_people hκ ha qw_537 (Or.inl rfl) hnm rfl dX9_init_8 ?_
  exact hend _ _ _ _ _ dX9_init_11 (rfl)
set_option maxHeartbeats 4000000 in
set_option maxRecDepth 100000 in
theorem k_init_Mast (e9 : Nat × Nat) (S : wPS) (a : Nat) (u v rg bl sl lg : Int32) (ha : a ∈ sL S ∧ sK S a = 3) : MVv e9 yX3_init cX3_init 7 none ({ frames := 2, cells := 0, slots := 0, locals := 34 }) S [.ref a, .int u, .int v, .int rg, .int bl, .int sl, .int lg] (fun S1 => S1 = initMast S a u v rg bl sl lg) 0 0 := by
  refine stV_v (post := (fun S1 => S1 = initMast S a u v rg bl sl lg)) (by decide) (Nat.le_of_ble_eq_true rfl) ⟨Nat.le_refl _, Nat.le_refl _⟩ rfl (fun κ hκ hz hnm hend => ?_)
  show Gj κ _ 0 [(0, .ref a), (1, .int u), (2, .int v), (3, .int rg), (4, .int bl), (5, .int sl), (6, .int lg)] []
  refine g_aload_n hκ 0 dX3_init_0 rfl rfl ?_
  refine g_iload_n hκ 1 dX3_init_1 rfl rfl ?_
  refine g_iload_n hκ 2 dX3_init_2 rfl rfl ?_
  refine vI_v hκ hz [.int u, .int v] sd_X4_init qw_252 (k_pinit_Mast e9 S a u v ha) ⟨rfl, rfl, Nat.le_of_ble_eq_true rfl, Nat.le_of_ble_eq_true rfl⟩ rfl rfl (Nat.le_of_ble_eq_true rfl) dX3_init_3 (by omega) (by omega) (fun S2 hS2 => ?_)
  obtain rfl := hS2
  refine g_aload_n hκ 0 dX3_init_6 rfl rfl ?_
  refine g_iload_n hκ 3 dX3_init_7 rfl rfl ?_
  refine pt_Mast_range hκ ha qw_256 (Or.inl rfl) hnm rfl dX3_init_8 ?_
  refine g_aload_n hκ 0 dX3_init_11 rfl rfl ?_
  refine g_iload hκ 4 dX3_init_12 rfl ?_
  refine pt_Mast_blind hκ ha qw_257 (Or.inl rfl) hnm rfl dX3_init_14 ?_
  refine g_aload_n hκ 0 dX3_init_17 rfl rfl ?_
  refine g_iload hκ 5 dX3_init_18 rfl ?_
  refine pt_Mast_slip hκ ha qw_258 (Or.inl rfl) hnm rfl dX3_init_20 ?_
  refine g_aload_n hκ 0 dX3_init_23 rfl rfl ?_
  refine g_iload hκ 6 dX3_init_24 rfl ?_
  refine pt_Mast_lag hκ ha qw_260 (Or.inl rfl) hnm rfl dX3_init_26 ?_
  exact hend _ _ _ _ _ dX3_init_29 (rfl)
set_option maxHeartbeats 4000000 in
set_option maxRecDepth 100000 in
theorem k_init_Plot (e9 : Nat × Nat) (S : wPS) (a m : Nat) (ha : a ∈ sL S ∧ sK S a = 5) (hm : m ∈ sL S ∧ sK S m = 3) : MVv e9 yX6_init cX6_init 2 none ({ frames := 2, cells := 0, slots := 0, locals := 34 }) S [.ref a, .ref m] (fun S1 => S1 = initPlot S a m) 0 0 := by
  refine stV_v (post := (fun S1 => S1 = initPlot S a m)) (by decide) (Nat.le_of_ble_eq_true rfl) ⟨Nat.le_refl _, Nat.le_refl _⟩ rfl (fun κ hκ hz hnm hend => ?_)
  show Gj κ _ 0 [(0, .ref a), (1, .ref m)] []
  refine g_aload_n hκ 0 dX6_init_0 rfl rfl ?_
  refine g_aload_n hκ 1 dX6_init_1 rfl rfl ?_
  refine gt_Mast_x hκ (hdV hz) hm qw_271 (Or.inr qw_272) dX6_init_2 ?_
  refine g_aload_n hκ 1 dX6_init_5 rfl rfl ?_
  refine gt_Mast_y hκ (hdV hz) hm qw_295 (Or.inr qw_296) dX6_init_6 ?_
  refine vI_v hκ hz [.int (sI S q_Mast_x m), .int (sI S q_Mast_y m)] sd_X4_init qw_634 (k_pinit_Plot e9 S a (sI S q_Mast_x m) (sI S q_Mast_y m) ha) ⟨rfl, rfl, Nat.le_of_ble_eq_true rfl, Nat.le_of_ble_eq_true rfl⟩ rfl rfl (Nat.le_of_ble_eq_true rfl) dX6_init_9 (by omega) (by omega) (fun S2 hS2 => ?_)
  obtain rfl := hS2
  refine g_aload_n hκ 0 dX6_init_12 rfl rfl ?_
  refine g_aload_n hκ 1 dX6_init_13 rfl rfl ?_
  refine pt_Plot_mast (v := (some m)) hκ ha qw_635 (Or.inl rfl) dX6_init_14 ?_
  exact hend _ _ _ _ _ dX6_init_17 (rfl)
set_option maxHeartbeats 4000000 in
set_option maxRecDepth 100000 in
theorem k_init_Squadron (e9 : Nat × Nat) (S : wPS) (a : Nat) (sn : Int32) (b : Nat) (mc sp tk rd : Int32) (ha : a ∈ sL S ∧ sK S a = 6) (hb : b ∈ sL S ∧ sK S b = 4) : MVv e9 yX7_init cX7_init 7 none ({ frames := 2, cells := 0, slots := 0, locals := 34 }) S [.ref a, .int sn, .ref b, .int mc, .int sp, .int tk, .int rd] (fun S1 => S1 = initSquadron S a sn b mc sp tk rd) 0 0 := by
  refine stV_v (post := (fun S1 => S1 = initSquadron S a sn b mc sp tk rd)) (by decide) (Nat.le_of_ble_eq_true rfl) ⟨Nat.le_refl _, Nat.le_refl _⟩ rfl (fun κ hκ hz hnm hend => ?_)
  show Gj κ _ 0 [(0, .ref a), (1, .int sn), (2, .ref b), (3, .int mc), (4, .int sp), (5, .int tk), (6, .int rd)] []
  refine g_aload_n hκ 0 dX7_init_0 rfl rfl ?_
  refine g_aload_n hκ 2 dX7_init_1 rfl rfl ?_
  refine gt_Place_x hκ (hdV hz) hb qw_270 (Or.inl rfl) dX7_init_2 ?_
  refine g_aload_n hκ 2 dX7_init_5 rfl rfl ?_
  refine gt_Place_y hκ (hdV hz) hb qw_294 (Or.inl rfl) dX7_init_6 ?_
  refine vI_v hκ hz [.int (sI S q_Place_x b), .int (sI S q_Place_y b)] sd_X4_init qw_457 (k_pinit_Squadron e9 S a (sI S q_Place_x b) (sI S q_Place_y b) ha) ⟨rfl, rfl, Nat.le_of_ble_eq_true rfl, Nat.le_of_ble_eq_true rfl⟩ rfl rfl (Nat.le_of_ble_eq_true rfl) dX7_init_9 (by omega) (by omega) (fun S2 hS2 => ?_)
  obtain rfl := hS2
  refine g_aload_n hκ 0 dX7_init_12 rfl rfl ?_
  refine g_iload_n hκ 1 dX7_init_13 rfl rfl ?_
  refine pt_Squadron_stationNumber hκ ha qw_458 (Or.inl rfl) hnm rfl dX7_init_14 ?_
  refine g_aload_n hκ 0 dX7_init_17 rfl rfl ?_
  refine g_aload_n hκ 2 dX7_init_18 rfl rfl ?_
  refine pt_Squadron_base (v := (some b)) hκ ha qw_459 (Or.inl rfl) hnm rfl dX7_init_19 ?_
  refine g_aload_n hκ 0 dX7_init_22 rfl rfl ?_
  refine g_iload_n hκ 3 dX7_init_23 rfl rfl ?_
  refine pt_Squadron_machines hκ ha qw_466 (Or.inl rfl) dX7_init_24 ?_
  refine g_aload_n hκ 0 dX7_init_27 rfl rfl ?_
  refine g_iload hκ 4 dX7_init_28 rfl ?_
  refine pt_Squadron_speed hκ ha qw_461 (Or.inl rfl) hnm rfl dX7_init_30 ?_
  refine g_aload_n hκ 0 dX7_init_33 rfl rfl ?_
  refine g_iload hκ 5 dX7_init_34 rfl ?_
  refine pt_Squadron_tank hκ ha qw_462 (Or.inl rfl) hnm rfl dX7_init_36 ?_
  refine g_aload_n hκ 0 dX7_init_39 rfl rfl ?_
  refine g_iload hκ 6 dX7_init_40 rfl ?_
  refine pt_Squadron_ready hκ ha qw_464 (Or.inl rfl) hnm rfl dX7_init_42 ?_
  refine g_aload_n hκ 0 dX7_init_45 rfl rfl ?_
  refine g_iconst hκ (v := 0) dX7_init_46 (by decide) ?_
  refine pt_Squadron_state hκ ha qw_468 (Or.inl rfl) dX7_init_47 ?_
  refine g_aload_n hκ 0 dX7_init_50 rfl rfl ?_
  refine g_iload hκ 5 dX7_init_51 rfl ?_
  refine pt_Squadron_fuel hκ ha qw_470 (Or.inl rfl) dX7_init_53 ?_
  refine g_aload_n hκ 0 dX7_init_56 rfl rfl ?_
  refine g_iconst hκ (v := (-1)) dX7_init_57 (by decide) ?_
  refine pt_Squadron_due hκ ha qw_474 (Or.inl rfl) dX7_init_58 ?_
  exact hend _ _ _ _ _ dX7_init_61 (rfl)
set_option maxHeartbeats 4000000 in
set_option maxRecDepth 100000 in
theorem k_init_Track (e9 : Nat × Nat) (S : wPS) (a : Nat) (nu : Int32) (p : Nat) (ha : a ∈ sL S ∧ sK S a = 9) (hp : p ∈ sL S ∧ sK S p = 5) : MVv e9 yX10_init cX10_init 3 none ({ frames := 2, cells := 0, slots := 0, locals := 34 }) S [.ref a, .int nu, .ref p] (fun S1 => S1 = initTrack S a nu p) 0 0 := by
  refine stV_v (post := (fun S1 => S1 = initTrack S a nu p)) (by decide) (Nat.le_of_ble_eq_true rfl) ⟨Nat.le_refl _, Nat.le_refl _⟩ rfl (fun κ hκ hz hnm hend => ?_)
  show Gj κ _ 0 [(0, .ref a), (1, .int nu), (2, .ref p)] []
  refine g_aload_n hκ 0 dX10_init_0 rfl rfl ?_
  refine g_aload_n hκ 2 dX10_init_1 rfl rfl ?_
  refine gt_Plot_x hκ (hdV hz) hp qw_273 (Or.inr qw_274) dX10_init_2 ?_
  refine g_aload_n hκ 2 dX10_init_5 rfl rfl ?_
  refine gt_Plot_y hκ (hdV hz) hp qw_297 (Or.inr qw_298) dX10_init_6 ?_
  refine vI_v hκ hz [.int (sI S q_Plot_x p), .int (sI S q_Plot_y p)] sd_X4_init qw_704 (k_pinit_Track e9 S a (sI S q_Plot_x p) (sI S q_Plot_y p) ha) ⟨rfl, rfl, Nat.le_of_ble_eq_true rfl, Nat.le_of_ble_eq_true rfl⟩ rfl rfl (Nat.le_of_ble_eq_true rfl) dX10_init_9 (by omega) (by omega) (fun S2 hS2 => ?_)
  obtain rfl := hS2
  refine g_aload_n hκ 0 dX10_init_12 rfl rfl ?_
  refine g_iload_n hκ 1 dX10_init_13 rfl rfl ?_
  refine pt_Track_number hκ ha qw_705 (Or.inl rfl) hnm rfl dX10_init_14 ?_
  refine g_aload_n hκ 0 dX10_init_17 rfl rfl ?_
  refine g_aload_n hκ 2 dX10_init_18 rfl rfl ?_
  refine gtN_Plot_seenAt (host := "Plotroom") hκ (hdV hz) hp (by decide +kernel) (Or.inl rfl) dX10_init_19 ?_
  refine pt_Track_minute hκ ha qw_708 (Or.inl rfl) dX10_init_22 ?_
  refine g_aload_n hκ 0 dX10_init_25 rfl rfl ?_
  refine g_aload_n hκ 2 dX10_init_26 rfl rfl ?_
  refine gtN_Plot_guess (host := "Plotroom") hκ (hdV hz) hp (by decide +kernel) (Or.inl rfl) dX10_init_27 ?_
  refine pt_Track_guess hκ ha qw_714 (Or.inl rfl) dX10_init_30 ?_
  refine g_aload_n hκ 0 dX10_init_33 rfl rfl ?_
  refine g_iconst hκ (v := 1) dX10_init_34 (by decide) ?_
  refine pt_Track_hits hκ ha qw_715 (Or.inl rfl) dX10_init_35 ?_
  refine g_aload_n hκ 0 dX10_init_38 rfl rfl ?_
  refine g_iconst hκ (v := 1) dX10_init_39 (by decide) ?_
  refine pt_Track_isLive hκ ha qw_717 (Or.inl rfl) (by decide) dX10_init_40 ?_
  exact hend _ _ _ _ _ dX10_init_43 (rfl)
set_option maxHeartbeats 4000000 in
set_option maxRecDepth 100000 in
theorem k_init_Lots (e9 : Nat × Nat) (S : wPS) (a : Nat) (ha : a ∈ sL S ∧ sK S a = 2) : MVv e9 yX2_init cX2_init 1 none ({ frames := 1, cells := 0, slots := 0, locals := 12 }) S [.ref a] (fun S1 => S1 = initLots S a) 0 0 := by
  refine stV_v (post := (fun S1 => S1 = initLots S a)) (by decide) (Nat.le_of_ble_eq_true rfl) ⟨Nat.le_refl _, Nat.le_refl _⟩ rfl (fun κ hκ hz hnm hend => ?_)
  show Gj κ _ 0 [(0, .ref a)] []
  refine g_aload_n hκ 0 dX2_init_0 rfl rfl ?_
  refine g_objInit hκ qw_66 ⟨Nat.le_of_ble_eq_true rfl, Nat.le_of_ble_eq_true rfl⟩ dX2_init_1 ?_
  refine g_aload_n hκ 0 dX2_init_4 rfl rfl ?_
  refine g_bipush hκ (v := 11) dX2_init_5 (by decide) ?_
  refine pt_Lots_next hκ ha qw_67 (Or.inl rfl) dX2_init_7 ?_
  exact hend _ _ _ _ _ dX2_init_10 (rfl)
set_option maxHeartbeats 4000000 in
set_option maxRecDepth 100000 in
theorem k_init_Tally (e9 : Nat × Nat) (S : wPS) (a : Nat) (ha : a ∈ sL S ∧ sK S a = 7) : MVv e9 yX8_init cX8_init 1 none ({ frames := 1, cells := 0, slots := 0, locals := 12 }) S [.ref a] (fun S1 => S1 = initTally S a) 0 0 := by
  refine stV_v (post := (fun S1 => S1 = initTally S a)) (by decide) (Nat.le_of_ble_eq_true rfl) ⟨Nat.le_refl _, Nat.le_refl _⟩ rfl (fun κ hκ hz hnm hend => ?_)
  show Gj κ _ 0 [(0, .ref a)] []
  refine g_aload_n hκ 0 dX8_init_0 rfl rfl ?_
  refine g_objInit hκ qw_80 ⟨Nat.le_of_ble_eq_true rfl, Nat.le_of_ble_eq_true rfl⟩ dX8_init_1 ?_
  exact hend _ _ _ _ _ dX8_init_4 (rfl)
set_option maxHeartbeats 4000000 in
set_option maxRecDepth 100000 in
theorem k_init_AC (e9 : Nat × Nat) (S : wPS) (a : Nat) (ha : a ∈ sL S ∧ sK S a = 11) : MVv e9 yJxa1e45_init_da8c8 cJxa1e45_init_da8c8 1 none ({ frames := 1, cells := 0, slots := 0, locals := 12 }) S [.ref a] (fun S1 => S1 = initAC S a) 0 0 := by
  refine stV_v (post := (fun S1 => S1 = initAC S a)) (by decide) (Nat.le_of_ble_eq_true rfl) ⟨Nat.le_refl _, Nat.le_refl _⟩ rfl (fun κ hκ hz hnm hend => ?_)
  show Gj κ _ 0 [(0, .ref a)] []
  refine g_aload_n hκ 0 dJxa1e45_init_da8c8_0 rfl rfl ?_
  refine g_objInit hκ qw_46 ⟨Nat.le_of_ble_eq_true rfl, Nat.le_of_ble_eq_true rfl⟩ dJxa1e45_init_da8c8_1 ?_
  exact hend _ _ _ _ _ dJxa1e45_init_da8c8_4 (rfl)
set_option maxHeartbeats 4000000 in
set_option maxRecDepth 100000 in
theorem k_init_AL (e9 : Nat × Nat) (S : wPS) (a : Nat) (ha : a ∈ sL S ∧ sK S a = 11) : MVv e9 yJxc12de_init_da8c8 cJxc12de_init_da8c8 1 none ({ frames := 2, cells := 0, slots := 0, locals := 32 }) S [.ref a] (fun S1 => S1 = initAL S a) 0 0 := by
  refine stV_v (post := (fun S1 => S1 = initAL S a)) (by decide) (Nat.le_of_ble_eq_true rfl) ⟨Nat.le_refl _, Nat.le_refl _⟩ rfl (fun κ hκ hz hnm hend => ?_)
  show Gj κ _ 0 [(0, .ref a)] []
  refine g_aload_n hκ 0 dJxc12de_init_da8c8_0 rfl rfl ?_
  refine vI_v hκ hz [] sd_Jxa1e45_init_da8c8 qw_43 (k_init_AC e9 S a ha) ⟨rfl, rfl, Nat.le_of_ble_eq_true rfl, Nat.le_of_ble_eq_true rfl⟩ rfl rfl (Nat.le_of_ble_eq_true rfl) dJxc12de_init_da8c8_1 (by omega) (by omega) (fun S2 hS2 => ?_)
  obtain rfl := hS2
  refine g_aload_n hκ 0 dJxc12de_init_da8c8_4 rfl rfl ?_
  refine g_iconst hκ (v := 0) dJxc12de_init_da8c8_5 (by decide) ?_
  refine pt_List_modCount hκ ha qw_51 (Or.inl rfl) dJxc12de_init_da8c8_6 ?_
  exact hend _ _ _ _ _ dJxc12de_init_da8c8_9 (rfl)
set_option maxHeartbeats 4000000 in
set_option maxRecDepth 100000 in
theorem k_init_List (e9 : Nat × Nat) (S : wPS) (a : Nat) (ha : a ∈ sL S ∧ sK S a = 11) : MVv e9 yJx4a65c_init_da8c8 cJx4a65c_init_da8c8 1 none ({ frames := 3, cells := 0, slots := 0, locals := 52 }) S [.ref a] (fun S1 => S1 = initList S e9 a) 0 0 := by
  refine stV_v (post := (fun S1 => S1 = initList S e9 a)) (by decide) (Nat.le_of_ble_eq_true rfl) ⟨Nat.le_refl _, Nat.le_refl _⟩ rfl (fun κ hκ hz hnm hend => ?_)
  show Gj κ _ 0 [(0, .ref a)] []
  refine g_aload_n hκ 0 dJx4a65c_init_da8c8_0 rfl rfl ?_
  refine vI_v hκ hz [] sd_Jxc12de_init_da8c8 qw_40 (k_init_AL e9 S a ha) ⟨rfl, rfl, Nat.le_of_ble_eq_true rfl, Nat.le_of_ble_eq_true rfl⟩ rfl rfl (Nat.le_of_ble_eq_true rfl) dJx4a65c_init_da8c8_1 (by omega) (by omega) (fun S2 hS2 => ?_)
  obtain rfl := hS2
  refine g_aload_n hκ 0 dJx4a65c_init_da8c8_4 rfl rfl ?_
  refine ga_e0 hκ hz qw_47 dJx4a65c_init_da8c8_5 ?_
  refine pt_List_elementData (v := (some e9.1)) hκ ha qw_49 (Or.inl rfl) dJx4a65c_init_da8c8_8 ?_
  exact hend _ _ _ _ _ dJx4a65c_init_da8c8_11 (rfl)
set_option maxHeartbeats 4000000 in
set_option maxRecDepth 100000 in
theorem k_move (e9 : Nat × Nat) (S : wPS) (f : Nat) (hf : f ∈ sL S ∧ sK S f = 0) : MVv e9 yX0_move cX0_move 1 none ({ frames := 2, cells := 0, slots := 0, locals := 43 }) S [.ref f] (fun S1 => S1 = moveF S f) 0 0 := by
  refine stV_v (post := (fun S1 => S1 = moveF S f)) (by decide) (Nat.le_of_ble_eq_true rfl) ⟨Nat.le_refl _, Nat.le_refl _⟩ rfl (fun κ hκ hz hnm hend => ?_)
  show Gj κ _ 0 [(0, .ref f)] []
  refine g_aload_n hκ 0 dX0_move_0 rfl rfl ?_
  refine gt_Flight_isUp hκ (hdV hz) hf qw_567 (Or.inl rfl) dX0_move_1 ?_
  refine g_if_ne hκ 8 dX0_move_4 (by decide) (fun c1 => ?_) (fun c1 => ?_)
  · skip
    refine g_aload_n hκ 0 dX0_move_8 rfl rfl ?_
    refine gt_Flight_x hκ (hdV hz) hf qw_279 (Or.inr qw_280) dX0_move_9 ?_
    refine g_aload_n hκ 0 dX0_move_12 rfl rfl ?_
    refine gt_Flight_courseX hκ (hdV hz) hf qw_563 (Or.inl rfl) dX0_move_13 ?_
    refine g_iadd hκ dX0_move_16 ?_
    refine g_aload_n hκ 0 dX0_move_17 rfl rfl ?_
    refine gt_Flight_y hκ (hdV hz) hf qw_301 (Or.inr qw_302) dX0_move_18 ?_
    refine g_aload_n hκ 0 dX0_move_21 rfl rfl ?_
    refine gt_Flight_courseY hκ (hdV hz) hf qw_564 (Or.inl rfl) dX0_move_22 ?_
    refine g_iadd hκ dX0_move_25 ?_
    refine rSN_i (host := "Plotroom") hκ (hdV hz) [.int ((sI S q_Flight_x f) + (sI S q_Flight_courseX f)), .int ((sI S q_Flight_y f) + (sI S q_Flight_courseY f))] sd_X11_isPlace (by decide +kernel) (k_isPlace S ((sI S q_Flight_x f) + (sI S q_Flight_courseX f)) ((sI S q_Flight_y f) + (sI S q_Flight_courseY f))) ⟨rfl, rfl, Nat.le_of_ble_eq_true rfl, Nat.le_of_ble_eq_true rfl⟩ rfl rfl (Nat.le_of_ble_eq_true rfl) dX0_move_26 (fun r2 hr2 => ?_)
    obtain ⟨b3, rfl⟩ | ⟨b3, rfl⟩ := zb_cases hr2
    · skip
      refine g_if_eq hκ 61 dX0_move_29 (by decide) (fun z => absurd z (by decide)) (fun _ => ?_)
      refine g_aload_n hκ 0 dX0_move_32 rfl rfl ?_
      refine g_dup hκ dX0_move_33 rfl ?_
      refine gt_Flight_x hκ (hdV hz) hf qw_279 (Or.inr qw_280) dX0_move_34 ?_
      refine g_aload_n hκ 0 dX0_move_37 rfl rfl ?_
      refine gt_Flight_courseX hκ (hdV hz) hf qw_563 (Or.inl rfl) dX0_move_38 ?_
      refine g_iadd hκ dX0_move_41 ?_
      refine pt_Flight_x hκ hf qw_279 (Or.inr qw_280) dX0_move_42 ?_
      refine g_aload_n hκ 0 dX0_move_45 rfl rfl ?_
      refine g_dup hκ dX0_move_46 rfl ?_
      refine gt_Flight_y hκ (hdV hz) hf qw_301 (Or.inr qw_302) dX0_move_47 ?_
      refine g_aload_n hκ 0 dX0_move_50 rfl rfl ?_
      refine gt_Flight_courseY hκ (hdV hz) hf qw_564 (Or.inl rfl) dX0_move_51 ?_
      refine g_iadd hκ dX0_move_54 ?_
      refine pt_Flight_y hκ hf qw_301 (Or.inr qw_302) dX0_move_55 ?_
      refine g_goto hκ 66 dX0_move_58 (by decide) ?_
      exact hend _ _ _ _ _ dX0_move_66 (by unfold moveF; rw [if_neg c1, if_pos b3]; try rfl)
    · skip
      refine g_if_eq hκ 61 dX0_move_29 (by decide) (fun _ => ?_) (fun z => absurd z (by decide))
      refine g_aload_n hκ 0 dX0_move_61 rfl rfl ?_
      refine g_iconst hκ (v := 0) dX0_move_62 (by decide) ?_
      refine pt_Flight_isUp hκ hf qw_567 (Or.inl rfl) (by decide) dX0_move_63 ?_
      exact hend _ _ _ _ _ dX0_move_66 (by unfold moveF; rw [if_neg c1, if_neg (by rw [b3]; decide)]; try rfl)
  · skip
    exact hend _ _ _ _ _ dX0_move_7 (by unfold moveF; rw [if_pos c1])
set_option maxHeartbeats 4000000 in
set_option maxRecDepth 100000 in
theorem k_lose (e9 : Nat × Nat) (S : wPS) (f : Nat) (m : Int32) (hf : f ∈ sL S ∧ sK S f = 0) : MVv e9 yX0_lose cX0_lose 2 none ({ frames := 0, cells := 0, slots := 0, locals := 0 }) S [.ref f, .int m] (fun S1 => S1 = loseF S f m) 0 0 := by
  refine stV_v (post := (fun S1 => S1 = loseF S f m)) (by decide) (Nat.le_of_ble_eq_true rfl) ⟨Nat.le_refl _, Nat.le_refl _⟩ rfl (fun κ hκ hz hnm hend => ?_)
  show Gj κ _ 0 [(0, .ref f), (1, .int m)] []
  refine g_aload_n hκ 0 dX0_lose_0 rfl rfl ?_
  refine g_dup hκ dX0_lose_1 rfl ?_
  refine gt_Flight_count hκ (hdV hz) hf qw_565 (Or.inl rfl) dX0_lose_2 ?_
  refine g_iload_n hκ 1 dX0_lose_5 rfl rfl ?_
  refine g_isub hκ dX0_lose_6 ?_
  refine pt_Flight_count hκ hf qw_565 (Or.inl rfl) dX0_lose_7 ?_
  refine g_aload_n hκ 0 dX0_lose_10 rfl rfl ?_
  refine gt_Flight_count hκ (hdV hz) hf qw_565 (Or.inl rfl) dX0_lose_11 ?_
  refine g_if_gt hκ 22 dX0_lose_14 (by decide) (fun c1 => ?_) (fun c1 => ?_)
  · skip
    exact hend _ _ _ _ _ dX0_lose_22 (by have c9 := c1; rw [putI_at] at c9; unfold loseF; rw [if_pos c9])
  · skip
    refine g_aload_n hκ 0 dX0_lose_17 rfl rfl ?_
    refine g_iconst hκ (v := 0) dX0_lose_18 (by decide) ?_
    refine pt_Flight_isUp hκ hf qw_567 (Or.inl rfl) (by decide) dX0_lose_19 ?_
    exact hend _ _ _ _ _ dX0_lose_22 (by have c9 := c1; rw [putI_at] at c9; unfold loseF; rw [if_neg c9])
set_option maxHeartbeats 4000000 in
set_option maxRecDepth 100000 in
theorem k_draw (e9 : Nat × Nat) (S : wPS) (l : Nat) (hl : l ∈ sL S ∧ sK S l = 2) : MVi e9 yX2_draw cX2_draw 2 (some .int) ({ frames := 0, cells := 0, slots := 0, locals := 0 }) S [.ref l] (fun r S1 => r = drawFR S l ∧ S1 = drawF S l) 0 0 := by
  refine stV_i (post := (fun r S1 => r = drawFR S l ∧ S1 = drawF S l)) (by decide) (Nat.le_of_ble_eq_true rfl) ⟨Nat.le_refl _, Nat.le_refl _⟩ rfl (fun _ _ _ => rfl) (fun κ hκ hz hnm hend => ?_)
  show Gj κ _ 0 [(0, .ref l)] []
  refine g_aload_n hκ 0 dX2_draw_0 rfl rfl ?_
  refine gt_Lots_next hκ (hdV hz) hl qw_67 (Or.inl rfl) dX2_draw_1 ?_
  refine g_istore_n hκ [(1, .int (sI S q_Lots_next l)), (0, .ref l)] dX2_draw_4 rfl (by decide) rfl ?_
  refine g_aload_n hκ 1 dX2_draw_5 rfl rfl ?_
  refine g_bipush hκ (v := 53) dX2_draw_6 (by decide) ?_
  refine g_iload_n hκ 0 dX2_draw_8 rfl rfl ?_
  refine g_imul hκ dX2_draw_9 ?_
  refine g_bipush hκ (v := 29) dX2_draw_10 (by decide) ?_
  refine g_iadd hκ dX2_draw_12 ?_
  refine g_sipush hκ (v := 241) dX2_draw_13 (by decide) ?_
  refine g_irem hκ dX2_draw_16 (by decide) ?_
  refine pt_Lots_next hκ hl qw_67 (Or.inl rfl) dX2_draw_17 ?_
  refine g_aload_n hκ 1 dX2_draw_20 rfl rfl ?_
  refine g_dup hκ dX2_draw_21 rfl ?_
  refine gt_Lots_drawn hκ (hdV hz) hl qw_68 (Or.inl rfl) dX2_draw_22 ?_
  refine g_iconst hκ (v := 1) dX2_draw_25 (by decide) ?_
  refine g_iadd hκ dX2_draw_26 ?_
  refine pt_Lots_drawn hκ hl qw_68 (Or.inl rfl) dX2_draw_27 ?_
  refine g_iload_n hκ 0 dX2_draw_30 rfl rfl ?_
  exact hend _ _ _ _ _ _ dX2_draw_31 (⟨rfl, rfl⟩)
set_option maxHeartbeats 4000000 in
set_option maxRecDepth 100000 in
theorem k_slipOf (e9 : Nat × Nat) (S : wPS) (l : Nat) (sl : Int32) (hl : l ∈ sL S ∧ sK S l = 2) (hs9 : ¬ 2 * sl + 1 = 0) : MVi e9 yX2_slipOf cX2_slipOf 2 (some .int) ({ frames := 1, cells := 0, slots := 0, locals := 21 }) S [.ref l, .int sl] (fun r S1 => r = slipFR S l sl ∧ S1 = slipF S l sl) 0 0 := by
  refine stV_i (post := (fun r S1 => r = slipFR S l sl ∧ S1 = slipF S l sl)) (by decide) (Nat.le_of_ble_eq_true rfl) ⟨Nat.le_refl _, Nat.le_refl _⟩ rfl (fun _ _ _ => rfl) (fun κ hκ hz hnm hend => ?_)
  show Gj κ _ 0 [(0, .ref l), (1, .int sl)] []
  refine g_aload_n hκ 0 dX2_slipOf_0 rfl rfl ?_
  refine vV_i hκ hz [] sd_X2_draw qw_622 (fun D cO H s hK hP => rc_Lots hK hP hl) (k_draw e9 S l hl) ⟨rfl, rfl, Nat.le_of_ble_eq_true rfl, Nat.le_of_ble_eq_true rfl⟩ rfl rfl (Nat.le_of_ble_eq_true rfl) dX2_slipOf_1 (by omega) (by omega) (fun r1 S2 hS2 => ?_)
  obtain ⟨e_hS2, rfl⟩ := hS2
  refine g_eqi e_hS2 ?_
  refine g_iconst hκ (v := 2) dX2_slipOf_4 (by decide) ?_
  refine g_iload_n hκ 1 dX2_slipOf_5 rfl rfl ?_
  refine g_imul hκ dX2_slipOf_6 ?_
  refine g_iconst hκ (v := 1) dX2_slipOf_7 (by decide) ?_
  refine g_iadd hκ dX2_slipOf_8 ?_
  refine g_irem hκ dX2_slipOf_9 hs9 ?_
  refine g_iload_n hκ 1 dX2_slipOf_10 rfl rfl ?_
  refine g_isub hκ dX2_slipOf_11 ?_
  exact hend _ _ _ _ _ _ dX2_slipOf_12 (⟨rfl, rfl⟩)
set_option maxHeartbeats 4000000 in
set_option maxRecDepth 100000 in
theorem k_write (e9 : Nat × Nat) (S : wPS) (p m : Nat) (u v gs at_ : Int32) (hp : p ∈ sL S ∧ sK S p = 5) (hm : m ∈ sL S ∧ sK S m = 3) : MVv e9 yX6_write cX6_write 6 none ({ frames := 0, cells := 0, slots := 0, locals := 0 }) S [.ref p, .ref m, .int u, .int v, .int gs, .int at_] (fun S1 => S1 = writeF S p m u v gs at_) 0 0 := by
  refine stV_v (post := (fun S1 => S1 = writeF S p m u v gs at_)) (by decide) (Nat.le_of_ble_eq_true rfl) ⟨Nat.le_refl _, Nat.le_refl _⟩ rfl (fun κ hκ hz hnm hend => ?_)
  show Gj κ _ 0 [(0, .ref p), (1, .ref m), (2, .int u), (3, .int v), (4, .int gs), (5, .int at_)] []
  refine g_aload_n hκ 0 dX6_write_0 rfl rfl ?_
  refine g_aload_n hκ 1 dX6_write_1 rfl rfl ?_
  refine pt_Plot_mast (v := (some m)) hκ hp qw_635 (Or.inl rfl) dX6_write_2 ?_
  refine g_aload_n hκ 0 dX6_write_5 rfl rfl ?_
  refine g_iload_n hκ 2 dX6_write_6 rfl rfl ?_
  refine pt_Plot_x hκ hp qw_278 (Or.inr qw_274) dX6_write_7 ?_
  refine g_aload_n hκ 0 dX6_write_10 rfl rfl ?_
  refine g_iload_n hκ 3 dX6_write_11 rfl rfl ?_
  refine pt_Plot_y hκ hp qw_300 (Or.inr qw_298) dX6_write_12 ?_
  refine g_aload_n hκ 0 dX6_write_15 rfl rfl ?_
  refine g_iload hκ 4 dX6_write_16 rfl ?_
  refine pt_Plot_guess hκ hp qw_638 (Or.inl rfl) dX6_write_18 ?_
  refine g_aload_n hκ 0 dX6_write_21 rfl rfl ?_
  refine g_iload hκ 5 dX6_write_22 rfl ?_
  refine pt_Plot_seenAt hκ hp qw_640 (Or.inl rfl) dX6_write_24 ?_
  refine g_aload_n hκ 0 dX6_write_27 rfl rfl ?_
  refine g_iload hκ 5 dX6_write_28 rfl ?_
  refine g_aload_n hκ 1 dX6_write_30 rfl rfl ?_
  refine gtN_Mast_lag (host := "Plotroom") hκ (hdV hz) hm (by decide +kernel) (Or.inl rfl) dX6_write_31 ?_
  refine g_iadd hκ dX6_write_34 ?_
  refine pt_Plot_due hκ hp qw_642 (Or.inl rfl) dX6_write_35 ?_
  exact hend _ _ _ _ _ dX6_write_38 (rfl)
set_option maxHeartbeats 4000000 in
set_option maxRecDepth 100000 in
theorem k_order (e9 : Nat × Nat) (S : wPS) (q t : Nat) (w : Int32) (hq : q ∈ sL S ∧ sK S q = 6) (ht : t ∈ sL S ∧ sK S t = 9) : MVv e9 yX7_order cX7_order 3 none ({ frames := 0, cells := 0, slots := 0, locals := 0 }) S [.ref q, .ref t, .int w] (fun S1 => S1 = orderF S q t w) 0 0 := by
  refine stV_v (post := (fun S1 => S1 = orderF S q t w)) (by decide) (Nat.le_of_ble_eq_true rfl) ⟨Nat.le_refl _, Nat.le_refl _⟩ rfl (fun κ hκ hz hnm hend => ?_)
  show Gj κ _ 0 [(0, .ref q), (1, .ref t), (2, .int w)] []
  refine g_aload_n hκ 0 dX7_order_0 rfl rfl ?_
  refine g_iconst hκ (v := 1) dX7_order_1 (by decide) ?_
  refine pt_Squadron_state hκ hq qw_468 (Or.inl rfl) dX7_order_2 ?_
  refine g_aload_n hκ 0 dX7_order_5 rfl rfl ?_
  refine g_aload_n hκ 1 dX7_order_6 rfl rfl ?_
  refine pt_Squadron_target (v := (some t)) hκ hq qw_472 (Or.inl rfl) dX7_order_7 ?_
  refine g_aload_n hκ 0 dX7_order_10 rfl rfl ?_
  refine g_iload_n hκ 2 dX7_order_11 rfl rfl ?_
  refine pt_Squadron_due hκ hq qw_474 (Or.inl rfl) dX7_order_12 ?_
  exact hend _ _ _ _ _ dX7_order_15 (rfl)
set_option maxHeartbeats 4000000 in
set_option maxRecDepth 100000 in
theorem k_comeUp (e9 : Nat × Nat) (S : wPS) (q : Nat) (hq : q ∈ sL S ∧ sK S q = 6) : MVv e9 yX7_comeUp cX7_comeUp 1 none ({ frames := 0, cells := 0, slots := 0, locals := 0 }) S [.ref q] (fun S1 => S1 = comeUpF S q) 0 0 := by
  refine stV_v (post := (fun S1 => S1 = comeUpF S q)) (by decide) (Nat.le_of_ble_eq_true rfl) ⟨Nat.le_refl _, Nat.le_refl _⟩ rfl (fun κ hκ hz hnm hend => ?_)
  show Gj κ _ 0 [(0, .ref q)] []
  refine g_aload_n hκ 0 dX7_comeUp_0 rfl rfl ?_
  refine g_iconst hκ (v := 2) dX7_comeUp_1 (by decide) ?_
  refine pt_Squadron_state hκ hq qw_468 (Or.inl rfl) dX7_comeUp_2 ?_
  refine g_aload_n hκ 0 dX7_comeUp_5 rfl rfl ?_
  refine g_iconst hκ (v := (-1)) dX7_comeUp_6 (by decide) ?_
  refine pt_Squadron_due hκ hq qw_474 (Or.inl rfl) dX7_comeUp_7 ?_
  exact hend _ _ _ _ _ dX7_comeUp_10 (rfl)
set_option maxHeartbeats 4000000 in
set_option maxRecDepth 100000 in
theorem k_headHome (e9 : Nat × Nat) (S : wPS) (q : Nat) (hq : q ∈ sL S ∧ sK S q = 6) : MVv e9 yX7_headHome cX7_headHome 1 none ({ frames := 0, cells := 0, slots := 0, locals := 0 }) S [.ref q] (fun S1 => S1 = headHomeF S q) 0 0 := by
  refine stV_v (post := (fun S1 => S1 = headHomeF S q)) (by decide) (Nat.le_of_ble_eq_true rfl) ⟨Nat.le_refl _, Nat.le_refl _⟩ rfl (fun κ hκ hz hnm hend => ?_)
  show Gj κ _ 0 [(0, .ref q)] []
  refine g_aload_n hκ 0 dX7_headHome_0 rfl rfl ?_
  refine g_iconst hκ (v := 3) dX7_headHome_1 (by decide) ?_
  refine pt_Squadron_state hκ hq qw_468 (Or.inl rfl) dX7_headHome_2 ?_
  refine g_aload_n hκ 0 dX7_headHome_5 rfl rfl ?_
  refine g_null hκ dX7_headHome_6 ?_
  refine pt_Squadron_target (v := none) hκ hq qw_472 (Or.inl rfl) dX7_headHome_7 ?_
  exact hend _ _ _ _ _ dX7_headHome_10 (rfl)
set_option maxHeartbeats 4000000 in
set_option maxRecDepth 100000 in
theorem k_rest (e9 : Nat × Nat) (S : wPS) (q : Nat) (gs du : Int32) (b : Nat) (hq : q ∈ sL S ∧ sK S q = 6) (fb : sR S q_Squadron_base q = some b) (hb : b ∈ sL S ∧ sK S b = 4) : MVv e9 yX7_rest cX7_rest 3 none ({ frames := 0, cells := 0, slots := 0, locals := 0 }) S [.ref q, .int gs, .int du] (fun S1 => S1 = restF S q gs du b) 0 0 := by
  refine stV_v (post := (fun S1 => S1 = restF S q gs du b)) (by decide) (Nat.le_of_ble_eq_true rfl) ⟨Nat.le_refl _, Nat.le_refl _⟩ rfl (fun κ hκ hz hnm hend => ?_)
  show Gj κ _ 0 [(0, .ref q), (1, .int gs), (2, .int du)] []
  refine g_aload_n hκ 0 dX7_rest_0 rfl rfl ?_
  refine g_iload_n hκ 1 dX7_rest_1 rfl rfl ?_
  refine pt_Squadron_state hκ hq qw_468 (Or.inl rfl) dX7_rest_2 ?_
  refine g_aload_n hκ 0 dX7_rest_5 rfl rfl ?_
  refine g_iload_n hκ 2 dX7_rest_6 rfl rfl ?_
  refine pt_Squadron_due hκ hq qw_474 (Or.inl rfl) dX7_rest_7 ?_
  refine g_aload_n hκ 0 dX7_rest_10 rfl rfl ?_
  refine g_null hκ dX7_rest_11 ?_
  refine pt_Squadron_target (v := none) hκ hq qw_472 (Or.inl rfl) dX7_rest_12 ?_
  refine g_aload_n hκ 0 dX7_rest_15 rfl rfl ?_
  refine g_aload_n hκ 0 dX7_rest_16 rfl rfl ?_
  refine gt_Squadron_tank hκ (hdV hz) hq qw_462 (Or.inl rfl) dX7_rest_17 ?_
  refine pt_Squadron_fuel hκ hq qw_470 (Or.inl rfl) dX7_rest_20 ?_
  refine g_aload_n hκ 0 dX7_rest_23 rfl rfl ?_
  refine g_aload_n hκ 0 dX7_rest_24 rfl rfl ?_
  refine gt_Squadron_base hκ (hdV hz) hq qw_459 (Or.inl rfl) dX7_rest_25 ?_
  refine g_rf fb ?_
  refine gt_Place_x hκ (hdV hz) hb qw_270 (Or.inl rfl) dX7_rest_28 ?_
  refine pt_Squadron_x hκ hq qw_284 (Or.inr qw_285) dX7_rest_31 ?_
  refine g_aload_n hκ 0 dX7_rest_34 rfl rfl ?_
  refine g_aload_n hκ 0 dX7_rest_35 rfl rfl ?_
  refine gt_Squadron_base hκ (hdV hz) hq qw_459 (Or.inl rfl) dX7_rest_36 ?_
  refine g_rf fb ?_
  refine gt_Place_y hκ (hdV hz) hb qw_294 (Or.inl rfl) dX7_rest_39 ?_
  refine pt_Squadron_y hκ hq qw_308 (Or.inr qw_309) dX7_rest_42 ?_
  exact hend _ _ _ _ _ dX7_rest_45 (rfl)
set_option maxHeartbeats 4000000 in
set_option maxRecDepth 100000 in
theorem k_rootAbove (S : wPS) (q : Int32) : MR yX11_rootAbove cX11_rootAbove 2 (some .int) ({ frames := 0, cells := 0, slots := 0, locals := 0 }) S [.int q] (vp_Si (fun r => r = rootF q)) := by
  refine stR_i (post := (fun r => r = rootF q)) (by decide) (Nat.le_of_ble_eq_true rfl) rfl (fun _ _ => rfl) (fun κ hκ hend => ?_)
  show Gj κ _ 0 [(0, .int q)] []
  refine g_iconst hκ (v := 1) dX11_rootAbove_0 (by decide) ?_
  refine g_istore_n hκ [(1, .int 1), (0, .int q)] dX11_rootAbove_1 rfl (by decide) rfl ?_
  have loop2 : ∀ (d2 i2 : Nat) (x2 : Int32), i2 + d2 = 400 → x2 = nI i2 → rootF q = rtR d2 i2 q → Gj κ (PR κ S) 2 [(1, .int x2), (0, .int q)] [] := by
    intro d2
    induction d2 with
    | zero =>
      intro i2 x2 hi2 hx2 hF2
      subst hx2
      refine g_iload_n hκ 0 dX11_rootAbove_2 rfl rfl ?_
      refine g_sipush hκ (v := 400) dX11_rootAbove_3 (by decide) ?_
      refine g_icmp_ge hκ 22 dX11_rootAbove_6 (by decide) (fun _ => ?_) (fun z => absurd (nI_le (a := 400) (by omega) (by omega)) z)
      refine g_iload_n hκ 0 dX11_rootAbove_22 rfl rfl ?_
      exact hend _ _ _ dX11_rootAbove_23 (by rw [hF2]; simp [rtR, zb])
    | succ d2 ih2 =>
      intro i2 x2 hi2 hx2 hF2
      subst hx2
      refine g_iload_n hκ 0 dX11_rootAbove_2 rfl rfl ?_
      refine g_sipush hκ (v := 400) dX11_rootAbove_3 (by decide) ?_
      refine g_icmp_ge hκ 22 dX11_rootAbove_6 (by decide) (fun z => absurd z (nI_ge (b := 400) (by omega) (by decide))) (fun _ => ?_)
      refine g_iload_n hκ 0 dX11_rootAbove_9 rfl rfl ?_
      refine g_iload_n hκ 0 dX11_rootAbove_10 rfl rfl ?_
      refine g_imul hκ dX11_rootAbove_11 ?_
      refine g_iload_n hκ 1 dX11_rootAbove_12 rfl rfl ?_
      refine g_icmp_ge hκ 22 dX11_rootAbove_13 (by decide) (fun c1 => ?_) (fun c1 => ?_)
      · skip
        refine g_iload_n hκ 0 dX11_rootAbove_22 rfl rfl ?_
        exact hend _ _ _ dX11_rootAbove_23 (by rw [hF2]; simp [rtR, zb, c1, Int32.not_lt.mpr c1])
      · skip
        obtain ⟨v2, hv2⟩ : ∃ z : Int32, nI i2 + 1 = z := ⟨_, rfl⟩
        refine g_iinc hκ (k := 0) (v := v2) [(1, .int v2), (0, .int q)] dX11_rootAbove_16 rfl hv2 (by decide) rfl ?_
        refine g_goto hκ 2 dX11_rootAbove_19 (by decide) ?_
        refine g_lv [(1, .int v2), (0, .int q)] [0, 1] rfl ?_
        exact ih2 (i2 + 1) v2 (by omega) (lp_s rfl hv2) (by rw [hF2]; simp [rtR, c1, ← hv2, Int32.not_le.mp c1])
  exact loop2 399 1 1 (by omega) (by first | rfl | decide) (by first | rfl | decide)
set_option maxHeartbeats 4000000 in
set_option maxRecDepth 100000 in
theorem k_go (e9 : Nat × Nat) (S : wPS) (q : Nat) (tx ty : Int32) (hq : q ∈ sL S ∧ sK S q = 6) : MVv e9 yX7_go cX7_go 4 none ({ frames := 1, cells := 0, slots := 0, locals := 25 }) S [.ref q, .int tx, .int ty] (fun S1 => S1 = goF S q tx ty) 0 0 := by
  refine stV_v (post := (fun S1 => S1 = goF S q tx ty)) (by decide) (Nat.le_of_ble_eq_true rfl) ⟨Nat.le_refl _, Nat.le_refl _⟩ rfl (fun κ hκ hz hnm hend => ?_)
  show Gj κ _ 0 [(0, .ref q), (1, .int tx), (2, .int ty)] []
  refine g_aload_n hκ 0 dX7_go_0 rfl rfl ?_
  refine g_aload_n hκ 0 dX7_go_1 rfl rfl ?_
  refine gt_Squadron_speed hκ (hdV hz) hq qw_461 (Or.inl rfl) dX7_go_2 ?_
  refine g_iload_n hκ 1 dX7_go_5 rfl rfl ?_
  refine g_iload_n hκ 2 dX7_go_6 rfl rfl ?_
  refine rU_i hκ (hdV hz) [.int (sI S q_Squadron_speed q), .int tx, .int ty] (ud_X4_isWithin_Squadron) qw_758 (by decide +kernel) (fun D cO H s hK hP => rc_Squadron hK hP hq) (k_isWithin_Squadron S q (sI S q_Squadron_speed q) tx ty hq) ⟨rfl, rfl, Nat.le_of_ble_eq_true rfl, Nat.le_of_ble_eq_true rfl⟩ rfl rfl (Nat.le_of_ble_eq_true rfl) dX7_go_7 (fun r1 hr1 => ?_)
  obtain ⟨b2, rfl⟩ | ⟨b2, rfl⟩ := zb_cases hr1
  · skip
    refine g_if_eq hκ 24 dX7_go_10 (by decide) (fun z => absurd z (by decide)) (fun _ => ?_)
    refine g_aload_n hκ 0 dX7_go_13 rfl rfl ?_
    refine g_iload_n hκ 1 dX7_go_14 rfl rfl ?_
    refine pt_Squadron_x hκ hq qw_284 (Or.inr qw_285) dX7_go_15 ?_
    refine g_aload_n hκ 0 dX7_go_18 rfl rfl ?_
    refine g_iload_n hκ 2 dX7_go_19 rfl rfl ?_
    refine pt_Squadron_y hκ hq qw_308 (Or.inr qw_309) dX7_go_20 ?_
    exact hend _ _ _ _ _ dX7_go_23 (by unfold goF; rw [if_pos b2]; try rfl)
  · skip
    refine g_if_eq hκ 24 dX7_go_10 (by decide) (fun _ => ?_) (fun z => absurd z (by decide))
    refine g_aload_n hκ 0 dX7_go_24 rfl rfl ?_
    refine g_iload_n hκ 1 dX7_go_25 rfl rfl ?_
    refine g_iload_n hκ 2 dX7_go_26 rfl rfl ?_
    refine rU_i hκ (hdV hz) [.int tx, .int ty] (ud_X4_farFrom_Squadron) qw_765 (by decide +kernel) (fun D cO H s hK hP => rc_Squadron hK hP hq) (k_farFrom_Squadron S q tx ty hq) ⟨rfl, rfl, Nat.le_of_ble_eq_true rfl, Nat.le_of_ble_eq_true rfl⟩ rfl rfl (Nat.le_of_ble_eq_true rfl) dX7_go_27 (fun r3 hr3 => ?_)
    refine g_eqi hr3 ?_
    refine rSN_i (host := "Plotroom") hκ (hdV hz) [.int (farF (sI S q_Squadron_x q) (sI S q_Squadron_y q) tx ty)] sd_X11_rootAbove (by decide +kernel) (k_rootAbove S (farF (sI S q_Squadron_x q) (sI S q_Squadron_y q) tx ty)) ⟨rfl, rfl, Nat.le_of_ble_eq_true rfl, Nat.le_of_ble_eq_true rfl⟩ rfl rfl (Nat.le_of_ble_eq_true rfl) dX7_go_30 (fun r4 hr4 => ?_)
    refine g_eqi hr4 ?_
    refine g_istore_n hκ [(3, .int (rootF (farF (sI S q_Squadron_x q) (sI S q_Squadron_y q) tx ty))), (0, .ref q), (1, .int tx), (2, .int ty)] dX7_go_33 rfl (by decide) rfl ?_
    refine g_aload_n hκ 1 dX7_go_34 rfl rfl ?_
    refine g_dup hκ dX7_go_35 rfl ?_
    refine gt_Squadron_x hκ (hdV hz) hq qw_284 (Or.inr qw_285) dX7_go_36 ?_
    refine g_iload_n hκ 2 dX7_go_39 rfl rfl ?_
    refine g_aload_n hκ 1 dX7_go_40 rfl rfl ?_
    refine gt_Squadron_x hκ (hdV hz) hq qw_284 (Or.inr qw_285) dX7_go_41 ?_
    refine g_isub hκ dX7_go_44 ?_
    refine g_aload_n hκ 1 dX7_go_45 rfl rfl ?_
    refine gt_Squadron_speed hκ (hdV hz) hq qw_461 (Or.inl rfl) dX7_go_46 ?_
    refine g_imul hκ dX7_go_49 ?_
    refine g_iload_n hκ 0 dX7_go_50 rfl rfl ?_
    refine g_idiv hκ dX7_go_51 (root_ne _) ?_
    refine g_iadd hκ dX7_go_52 ?_
    refine pt_Squadron_x hκ hq qw_284 (Or.inr qw_285) dX7_go_53 ?_
    refine g_aload_n hκ 1 dX7_go_56 rfl rfl ?_
    refine g_dup hκ dX7_go_57 rfl ?_
    refine gt_Squadron_y hκ (hdV hz) hq qw_308 (Or.inr qw_309) dX7_go_58 ?_
    refine g_iload_n hκ 3 dX7_go_61 rfl rfl ?_
    refine g_aload_n hκ 1 dX7_go_62 rfl rfl ?_
    refine gt_Squadron_y hκ (hdV hz) hq qw_308 (Or.inr qw_309) dX7_go_63 ?_
    refine g_isub hκ dX7_go_66 ?_
    refine g_aload_n hκ 1 dX7_go_67 rfl rfl ?_
    refine gt_Squadron_speed hκ (hdV hz) hq qw_461 (Or.inl rfl) dX7_go_68 ?_
    refine g_imul hκ dX7_go_71 ?_
    refine g_iload_n hκ 0 dX7_go_72 rfl rfl ?_
    refine g_idiv hκ dX7_go_73 (root_ne _) ?_
    refine g_iadd hκ dX7_go_74 ?_
    refine pt_Squadron_y hκ hq qw_308 (Or.inr qw_309) dX7_go_75 ?_
    exact hend _ _ _ _ _ dX7_go_78 (by unfold goF; rw [if_neg (by rw [b2]; decide)]; try rfl)
