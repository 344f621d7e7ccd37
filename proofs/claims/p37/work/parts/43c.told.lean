set_option maxHeartbeats 4000000 in
set_option maxRecDepth 100000 in
theorem k_mast (e9 : Nat × Nat) (S : wPS) (x lo ta : Nat) (la : Nat → Nat) (M cnts : Nat) (told : Int32) (el : Nat → Nat → Nat) (sz cp : Nat → Nat) (pw ow dn : Nat) (u v rg bl lg : Int32) (sl : Nat) (hI : IV e9 x lo ta la M cnts told S el sz cp pw ow dn) (t1 : isPlaceB u v = true) (t2 : isInB rg 1 150 = true) (t3 : isInB bl 0 9 = true) (t4 : isInB (nI sl) 0 9 = true) (t5 : isInB lg 0 5 = true) (hsl : sl ≤ 9) (hs : sz 0 < 5) : MVi e9 yX11_mast cX11_mast 7 (some .int) ({ frames := 7, cells := 2, slots := 40, locals := 171 }) S [.ref x, .int u, .int v, .int rg, .int bl, .int (nI sl), .int lg] (fun r S1 => r = nI (sz 0) ∧ ∃ (el1 : Nat → Nat → Nat) (sz1 cp1 : Nat → Nat), IV e9 x lo ta la M cnts told S1 el1 sz1 cp1 pw ow dn ∧ GJ 0 el sz el1 sz1 ∧ Ch [q_List_size, q_List_modCount] [q_List_elementData] S S1) 2 40 := by
  refine stV_i (post := (fun r S1 => r = nI (sz 0) ∧ ∃ (el1 : Nat → Nat → Nat) (sz1 cp1 : Nat → Nat), IV e9 x lo ta la M cnts told S1 el1 sz1 cp1 pw ow dn ∧ GJ 0 el sz el1 sz1 ∧ Ch [q_List_size, q_List_modCount] [q_List_elementData] S S1)) (by decide) (Nat.le_of_ble_eq_true rfl) ⟨Nat.le_refl _, Nat.le_refl _⟩ rfl (fun _ _ _ => rfl) (fun κ hκ hz hnm hend => ?_)
  show Gj κ _ 0 [(0, .ref x), (1, .int u), (2, .int v), (3, .int rg), (4, .int bl), (5, .int (nI sl)), (6, .int lg)] []
  have hM := hI.1.rm
  have hMc := hM
  obtain ⟨hx, ⟨f0, L0⟩, ⟨f1, L1⟩, ⟨f2, L2⟩, ⟨f3, L3⟩, ⟨f4, L4⟩, ⟨f5, L5⟩, ⟨f6, L6⟩, ⟨f7, L7⟩, ⟨f8, L8⟩, ⟨flo, hlo⟩, ⟨fta, hta⟩⟩ := hMc
  have b0 := L0.2.2.1
  have b2 := L2.2.2.1
  have b3 := L3.2.2.1
  have b4 := L4.2.2.1
  have b5 := L5.2.2.1
  have b7 := L7.2.2.1
  have b8 := L8.2.2.1
  have hSQ := (hI.2.2.1).sq
  refine g_iload_n hκ 1 dX11_mast_0 rfl rfl ?_
  refine g_iload_n hκ 2 dX11_mast_1 rfl rfl ?_
  refine rS_i hκ (hdV hz) [.int u, .int v] sd_X11_isPlace qw_153 (k_isPlace S u v) ⟨rfl, rfl, Nat.le_of_ble_eq_true rfl, Nat.le_of_ble_eq_true rfl⟩ rfl rfl (Nat.le_of_ble_eq_true rfl) dX11_mast_2 (fun r1 hr1 => ?_)
  refine g_eqi (y := 1) (hr1.trans (congrArg zb t1)) ?_
  refine g_if_eq hκ 51 dX11_mast_5 (by decide) (fun z => absurd z (by decide)) (fun _ => ?_)
  refine g_iload_n hκ 3 dX11_mast_8 rfl rfl ?_
  refine g_iconst hκ (v := 1) dX11_mast_9 (by decide) ?_
  refine g_sipush hκ (v := 150) dX11_mast_10 (by decide) ?_
  refine rS_i hκ (hdV hz) [.int rg, .int 1, .int 150] sd_X11_isIn qw_156 (k_isIn S rg 1 150) ⟨rfl, rfl, Nat.le_of_ble_eq_true rfl, Nat.le_of_ble_eq_true rfl⟩ rfl rfl (Nat.le_of_ble_eq_true rfl) dX11_mast_13 (fun r2 hr2 => ?_)
  refine g_eqi (y := 1) (hr2.trans (congrArg zb t2)) ?_
  refine g_if_eq hκ 51 dX11_mast_16 (by decide) (fun z => absurd z (by decide)) (fun _ => ?_)
  refine g_iload hκ 4 dX11_mast_19 rfl ?_
  refine g_iconst hκ (v := 0) dX11_mast_21 (by decide) ?_
  refine g_bipush hκ (v := 9) dX11_mast_22 (by decide) ?_
  refine rS_i hκ (hdV hz) [.int bl, .int 0, .int 9] sd_X11_isIn qw_156 (k_isIn S bl 0 9) ⟨rfl, rfl, Nat.le_of_ble_eq_true rfl, Nat.le_of_ble_eq_true rfl⟩ rfl rfl (Nat.le_of_ble_eq_true rfl) dX11_mast_24 (fun r3 hr3 => ?_)
  refine g_eqi (y := 1) (hr3.trans (congrArg zb t3)) ?_
  refine g_if_eq hκ 51 dX11_mast_27 (by decide) (fun z => absurd z (by decide)) (fun _ => ?_)
  refine g_iload hκ 5 dX11_mast_30 rfl ?_
  refine g_iconst hκ (v := 0) dX11_mast_32 (by decide) ?_
  refine g_bipush hκ (v := 9) dX11_mast_33 (by decide) ?_
  refine rS_i hκ (hdV hz) [.int (nI sl), .int 0, .int 9] sd_X11_isIn qw_156 (k_isIn S (nI sl) 0 9) ⟨rfl, rfl, Nat.le_of_ble_eq_true rfl, Nat.le_of_ble_eq_true rfl⟩ rfl rfl (Nat.le_of_ble_eq_true rfl) dX11_mast_35 (fun r4 hr4 => ?_)
  refine g_eqi (y := 1) (hr4.trans (congrArg zb t4)) ?_
  refine g_if_eq hκ 51 dX11_mast_38 (by decide) (fun z => absurd z (by decide)) (fun _ => ?_)
  refine g_iload hκ 6 dX11_mast_41 rfl ?_
  refine g_iconst hκ (v := 0) dX11_mast_43 (by decide) ?_
  refine g_iconst hκ (v := 5) dX11_mast_44 (by decide) ?_
  refine rS_i hκ (hdV hz) [.int lg, .int 0, .int 5] sd_X11_isIn qw_156 (k_isIn S lg 0 5) ⟨rfl, rfl, Nat.le_of_ble_eq_true rfl, Nat.le_of_ble_eq_true rfl⟩ rfl rfl (Nat.le_of_ble_eq_true rfl) dX11_mast_45 (fun r5 hr5 => ?_)
  refine g_eqi (y := 1) (hr5.trans (congrArg zb t5)) ?_
  refine g_if_ne hκ 61 dX11_mast_48 (by decide) (fun _ => ?_) (fun z => absurd z (by decide))
  refine g_aload_n hκ 0 dX11_mast_61 rfl rfl ?_
  refine gt_Room_masts hκ (hdV hz) hx qw_106 (Or.inl rfl) dX11_mast_62 ?_
  refine g_rf f0 ?_
  refine rV_i hκ (hdV hz) [] sd_Jx4a65c_size_8abf5 qw_227 (fun D cO H s hK hP => rc_List hK hP L0.1) (k_sizeL S (la 0) 3 (sz 0) (el 0) L0) ⟨rfl, rfl, Nat.le_of_ble_eq_true rfl, Nat.le_of_ble_eq_true rfl⟩ rfl rfl (Nat.le_of_ble_eq_true rfl) dX11_mast_65 (fun r6 hr6 => ?_)
  refine g_eqi hr6 ?_
  refine g_iconst hκ (v := 5) dX11_mast_68 (by decide) ?_
  refine g_icmp_lt hκ 82 dX11_mast_69 (by decide) (fun _ => ?_) (fun z => absurd (show nI (sz 0) < 5 from nI_lt (b := 5) (by omega) (by decide)) z)
  refine g_aload_n hκ 0 dX11_mast_82 rfl rfl ?_
  refine gt_Room_masts hκ (hdV hz) hx qw_106 (Or.inl rfl) dX11_mast_83 ?_
  refine g_rf f0 ?_
  refine gn_Mast hκ hz qw_247 qw_248 qw_13 (by omega) (by omega) dX11_mast_86 (fun a7 fa7 => ?_)
  have hT15 := hI.1.ch (ch_new (cs := []) (rs := []) (kd := 3) (n := 0) fa7) (kw_new (kd := 3) (n := 0) fa7) (by decide) (fun c hc => absurd hc List.not_mem_nil)
  have hM := hT15.rm
  have hMc := hM
  obtain ⟨hx, ⟨f0, L0⟩, ⟨f1, L1⟩, ⟨f2, L2⟩, ⟨f3, L3⟩, ⟨f4, L4⟩, ⟨f5, L5⟩, ⟨f6, L6⟩, ⟨f7, L7⟩, ⟨f8, L8⟩, ⟨flo, hlo⟩, ⟨fta, hta⟩⟩ := hMc
  have b0 := L0.2.2.1
  have b2 := L2.2.2.1
  have b3 := L3.2.2.1
  have b4 := L4.2.2.1
  have b5 := L5.2.2.1
  have b7 := L7.2.2.1
  have b8 := L8.2.2.1
  refine g_dup hκ dX11_mast_89 rfl ?_
  refine g_iload_n hκ 1 dX11_mast_90 rfl rfl ?_
  refine g_iload_n hκ 2 dX11_mast_91 rfl rfl ?_
  refine g_iload_n hκ 3 dX11_mast_92 rfl rfl ?_
  refine g_iload hκ 4 dX11_mast_93 rfl ?_
  refine g_iload hκ 5 dX11_mast_95 rfl ?_
  refine g_iload hκ 6 dX11_mast_97 rfl ?_
  refine vI_v hκ hz [.int u, .int v, .int rg, .int bl, .int (nI sl), .int lg] sd_X3_init qw_249 (k_init_Mast e9 (newS S a7 3 0) a7 u v rg bl (nI sl) lg (nw_at fa7)) ⟨rfl, rfl, Nat.le_of_ble_eq_true rfl, Nat.le_of_ble_eq_true rfl⟩ rfl rfl (Nat.le_of_ble_eq_true rfl) dX11_mast_99 (by omega) (by omega) (fun S9 hS9 => ?_)
  obtain rfl := hS9
  obtain ⟨hC0, hK0, ha9⟩ := nwMast_ch (u := u) (v := v) (rg := rg) (bl := bl) (sl := nI sl) (lg := lg) fa7
  have hT2 := hI.1.ch hC0 hK0 (by decide) (fun c hc => absurd hc List.not_mem_nil)
  have hM := hT2.rm
  have hMc := hM
  obtain ⟨hx, ⟨f0, L0⟩, ⟨f1, L1⟩, ⟨f2, L2⟩, ⟨f3, L3⟩, ⟨f4, L4⟩, ⟨f5, L5⟩, ⟨f6, L6⟩, ⟨f7, L7⟩, ⟨f8, L8⟩, ⟨flo, hlo⟩, ⟨fta, hta⟩⟩ := hMc
  have b0 := L0.2.2.1
  have b2 := L2.2.2.1
  have b3 := L3.2.2.1
  have b4 := L4.2.2.1
  have b5 := L5.2.2.1
  have b7 := L7.2.2.1
  have b8 := L8.2.2.1
  refine vV_i hκ hz [.ref a7] sd_Jx4a65c_add_9ea2d qw_339 (fun D cO H s hK hP => rc_List hK hP L0.1) (k_addL e9 (initMast (newS S a7 3 0) a7 u v rg bl (nI sl) lg) (la 0) a7 (sz 0) (cp 0) (el 0) 3 "Plotroom$Mast" (hT2.ls (j := 0) (by decide)) (by omega) ha9 (fun S D cO H s a hK hP hO => rc_Mast hK hP hO) (by decide)) ⟨rfl, rfl, Nat.le_of_ble_eq_true rfl, Nat.le_of_ble_eq_true rfl⟩ rfl rfl (Nat.le_of_ble_eq_true rfl) dX11_mast_102 (by omega) (by unfold gN; omega) (fun r10 S11 hS11 => ?_)
  obtain ⟨e9r, hA9⟩ := hS11
  refine g_eqi e9r ?_
  obtain ⟨c1, hF9⟩ := IV_addMast hI hC0 hK0 fa7 ha9.1 hA9 nwMast_isCut nwMast_lost ⟨sl, hsl, nwMast_slip⟩ nwMast_made nwMast_came
  refine g_gen (P := fun Sz => ∃ (el1 : Nat → Nat → Nat) (sz1 cp1 : Nat → Nat), IV e9 x lo ta la M cnts told Sz el1 sz1 cp1 pw ow dn ∧ GJ 0 el sz el1 sz1 ∧ Ch [q_List_size, q_List_modCount] [q_List_elementData] S Sz) (⟨_, _, _, hF9, GJ_up, (hC0.weak (by decide) (by decide)).trans hA9.ch⟩) (fun S12 hP9 => ?_)
  obtain ⟨el1, sz1, cp1, hI9, hg9, hch9⟩ := hP9
  have hM := hI9.1.rm
  have hMc := hM
  obtain ⟨hx, ⟨f0, L0⟩, ⟨f1, L1⟩, ⟨f2, L2⟩, ⟨f3, L3⟩, ⟨f4, L4⟩, ⟨f5, L5⟩, ⟨f6, L6⟩, ⟨f7, L7⟩, ⟨f8, L8⟩, ⟨flo, hlo⟩, ⟨fta, hta⟩⟩ := hMc
  have b0 := L0.2.2.1
  have b2 := L2.2.2.1
  have b3 := L3.2.2.1
  have b4 := L4.2.2.1
  have b5 := L5.2.2.1
  have b7 := L7.2.2.1
  have b8 := L8.2.2.1
  have hSQ := (hI9.2.2.1).sq
  refine g_pop hκ dX11_mast_105 rfl ?_
  refine g_aload_n hκ 0 dX11_mast_106 rfl rfl ?_
  refine gt_Room_masts hκ (hdV hz) hx qw_106 (Or.inl rfl) dX11_mast_107 ?_
  refine g_rf f0 ?_
  refine rV_i hκ (hdV hz) [] sd_Jx4a65c_size_8abf5 qw_227 (fun D cO H s hK hP => rc_List hK hP L0.1) (k_sizeL S12 (la 0) 3 (sz1 0) (el1 0) L0) ⟨rfl, rfl, Nat.le_of_ble_eq_true rfl, Nat.le_of_ble_eq_true rfl⟩ rfl rfl (Nat.le_of_ble_eq_true rfl) dX11_mast_110 (fun r13 hr13 => ?_)
  refine g_eqi hr13 ?_
  refine g_iconst hκ (v := 1) dX11_mast_113 (by decide) ?_
  refine g_isub hκ dX11_mast_114 ?_
  refine g_eqi (y := nI (sz 0)) (by rw [hg9.2]; exact nI_pred _) ?_
  exact hend _ _ _ _ _ _ dX11_mast_115 (⟨rfl, el1, sz1, cp1, hI9, hg9, hch9⟩)
set_option maxHeartbeats 4000000 in
set_option maxRecDepth 100000 in
theorem k_station (e9 : Nat × Nat) (S : wPS) (x lo ta : Nat) (la : Nat → Nat) (M cnts : Nat) (told : Int32) (el : Nat → Nat → Nat) (sz cp : Nat → Nat) (pw ow dn : Nat) (u v : Int32) (hI : IV e9 x lo ta la M cnts told S el sz cp pw ow dn) (t1 : isPlaceB u v = true) (hs : sz 1 < 4) (hPL : PL1 S el sz) : MVi e9 yX11_station cX11_station 3 (some .int) ({ frames := 7, cells := 2, slots := 40, locals := 171 }) S [.ref x, .int u, .int v] (fun r S1 => r = nI (sz 1) ∧ ∃ (el1 : Nat → Nat → Nat) (sz1 cp1 : Nat → Nat), IV e9 x lo ta la M cnts told S1 el1 sz1 cp1 pw ow dn ∧ GJ 1 el sz el1 sz1 ∧ PL1 S1 el1 sz1 ∧ Ch [q_List_size, q_List_modCount] [q_List_elementData] S S1) 2 40 := by
  refine stV_i (post := (fun r S1 => r = nI (sz 1) ∧ ∃ (el1 : Nat → Nat → Nat) (sz1 cp1 : Nat → Nat), IV e9 x lo ta la M cnts told S1 el1 sz1 cp1 pw ow dn ∧ GJ 1 el sz el1 sz1 ∧ PL1 S1 el1 sz1 ∧ Ch [q_List_size, q_List_modCount] [q_List_elementData] S S1)) (by decide) (Nat.le_of_ble_eq_true rfl) ⟨Nat.le_refl _, Nat.le_refl _⟩ rfl (fun _ _ _ => rfl) (fun κ hκ hz hnm hend => ?_)
  show Gj κ _ 0 [(0, .ref x), (1, .int u), (2, .int v)] []
  have hM := hI.1.rm
  have hMc := hM
  obtain ⟨hx, ⟨f0, L0⟩, ⟨f1, L1⟩, ⟨f2, L2⟩, ⟨f3, L3⟩, ⟨f4, L4⟩, ⟨f5, L5⟩, ⟨f6, L6⟩, ⟨f7, L7⟩, ⟨f8, L8⟩, ⟨flo, hlo⟩, ⟨fta, hta⟩⟩ := hMc
  have b0 := L0.2.2.1
  have b2 := L2.2.2.1
  have b3 := L3.2.2.1
  have b4 := L4.2.2.1
  have b5 := L5.2.2.1
  have b7 := L7.2.2.1
  have b8 := L8.2.2.1
  have hSQ := (hI.2.2.1).sq
  refine g_iload_n hκ 1 dX11_station_0 rfl rfl ?_
  refine g_iload_n hκ 2 dX11_station_1 rfl rfl ?_
  refine rS_i hκ (hdV hz) [.int u, .int v] sd_X11_isPlace qw_153 (k_isPlace S u v) ⟨rfl, rfl, Nat.le_of_ble_eq_true rfl, Nat.le_of_ble_eq_true rfl⟩ rfl rfl (Nat.le_of_ble_eq_true rfl) dX11_station_2 (fun r1 hr1 => ?_)
  refine g_eqi (y := 1) (hr1.trans (congrArg zb t1)) ?_
  refine g_if_ne hκ 18 dX11_station_5 (by decide) (fun _ => ?_) (fun z => absurd z (by decide))
  refine g_aload_n hκ 0 dX11_station_18 rfl rfl ?_
  refine gt_Room_stations hκ (hdV hz) hx qw_107 (Or.inl rfl) dX11_station_19 ?_
  refine g_rf f1 ?_
  refine rV_i hκ (hdV hz) [] sd_Jx4a65c_size_8abf5 qw_227 (fun D cO H s hK hP => rc_List hK hP L1.1) (k_sizeL S (la 1) 4 (sz 1) (el 1) L1) ⟨rfl, rfl, Nat.le_of_ble_eq_true rfl, Nat.le_of_ble_eq_true rfl⟩ rfl rfl (Nat.le_of_ble_eq_true rfl) dX11_station_22 (fun r2 hr2 => ?_)
  refine g_eqi hr2 ?_
  refine g_iconst hκ (v := 4) dX11_station_25 (by decide) ?_
  refine g_icmp_lt hκ 39 dX11_station_26 (by decide) (fun _ => ?_) (fun z => absurd (show nI (sz 1) < 4 from nI_lt (b := 4) (by omega) (by decide)) z)
  refine g_aload_n hκ 0 dX11_station_39 rfl rfl ?_
  refine gt_Room_stations hκ (hdV hz) hx qw_107 (Or.inl rfl) dX11_station_40 ?_
  refine g_rf f1 ?_
  refine gn_Place hκ hz qw_407 qw_408 qw_12 (by omega) (by omega) dX11_station_43 (fun a3 fa3 => ?_)
  have hT15 := hI.1.ch (ch_new (cs := []) (rs := []) (kd := 4) (n := 0) fa3) (kw_new (kd := 4) (n := 0) fa3) (by decide) (fun c hc => absurd hc List.not_mem_nil)
  have hM := hT15.rm
  have hMc := hM
  obtain ⟨hx, ⟨f0, L0⟩, ⟨f1, L1⟩, ⟨f2, L2⟩, ⟨f3, L3⟩, ⟨f4, L4⟩, ⟨f5, L5⟩, ⟨f6, L6⟩, ⟨f7, L7⟩, ⟨f8, L8⟩, ⟨flo, hlo⟩, ⟨fta, hta⟩⟩ := hMc
  have b0 := L0.2.2.1
  have b2 := L2.2.2.1
  have b3 := L3.2.2.1
  have b4 := L4.2.2.1
  have b5 := L5.2.2.1
  have b7 := L7.2.2.1
  have b8 := L8.2.2.1
  refine g_dup hκ dX11_station_46 rfl ?_
  refine g_iload_n hκ 1 dX11_station_47 rfl rfl ?_
  refine g_iload_n hκ 2 dX11_station_48 rfl rfl ?_
  refine vI_v hκ hz [.int u, .int v] sd_X4_init qw_409 (k_pinit_Place e9 (newS S a3 4 0) a3 u v (nw_at fa3)) ⟨rfl, rfl, Nat.le_of_ble_eq_true rfl, Nat.le_of_ble_eq_true rfl⟩ rfl rfl (Nat.le_of_ble_eq_true rfl) dX11_station_49 (by omega) (by omega) (fun S5 hS5 => ?_)
  obtain rfl := hS5
  obtain ⟨hC0, hK0, ha9⟩ := nwPlace_ch (u := u) (v := v) fa3
  have hT2 := hI.1.ch hC0 hK0 (by decide) (fun c hc => absurd hc List.not_mem_nil)
  have hM := hT2.rm
  have hMc := hM
  obtain ⟨hx, ⟨f0, L0⟩, ⟨f1, L1⟩, ⟨f2, L2⟩, ⟨f3, L3⟩, ⟨f4, L4⟩, ⟨f5, L5⟩, ⟨f6, L6⟩, ⟨f7, L7⟩, ⟨f8, L8⟩, ⟨flo, hlo⟩, ⟨fta, hta⟩⟩ := hMc
  have b0 := L0.2.2.1
  have b2 := L2.2.2.1
  have b3 := L3.2.2.1
  have b4 := L4.2.2.1
  have b5 := L5.2.2.1
  have b7 := L7.2.2.1
  have b8 := L8.2.2.1
  refine vV_i hκ hz [.ref a3] sd_Jx4a65c_add_9ea2d qw_339 (fun D cO H s hK hP => rc_List hK hP L1.1) (k_addL e9 (pinitPlace (newS S a3 4 0) a3 u v) (la 1) a3 (sz 1) (cp 1) (el 1) 4 "Plotroom$Place" (hT2.ls (j := 1) (by decide)) (by omega) ha9 (fun S D cO H s a hK hP hO => rc_Place hK hP hO) (by decide)) ⟨rfl, rfl, Nat.le_of_ble_eq_true rfl, Nat.le_of_ble_eq_true rfl⟩ rfl rfl (Nat.le_of_ble_eq_true rfl) dX11_station_52 (by omega) (by unfold gN; omega) (fun r6 S7 hS7 => ?_)
  obtain ⟨e9r, hA9⟩ := hS7
  refine g_eqi e9r ?_
  obtain ⟨c1, hF9⟩ := IV_addInert (j := 1) hI (Or.inl rfl) hC0 hK0 fa3 ha9.1 hA9
  refine g_gen (P := fun Sz => ∃ (el1 : Nat → Nat → Nat) (sz1 cp1 : Nat → Nat), IV e9 x lo ta la M cnts told Sz el1 sz1 cp1 pw ow dn ∧ GJ 1 el sz el1 sz1 ∧ PL1 Sz el1 sz1 ∧ Ch [q_List_size, q_List_modCount] [q_List_elementData] S Sz) (⟨_, _, _, hF9, GJ_up, PL1_add hPL hI.1 hC0 hK0 fa3 ha9.1 hA9 (by rw [nwPlace_x, nwPlace_y]; exact t1), (hC0.weak (by decide) (by decide)).trans hA9.ch⟩) (fun S8 hP9 => ?_)
  obtain ⟨el1, sz1, cp1, hI9, hg9, hx9, hch9⟩ := hP9
  have hM := hI9.1.rm
  have hMc := hM
  obtain ⟨hx, ⟨f0, L0⟩, ⟨f1, L1⟩, ⟨f2, L2⟩, ⟨f3, L3⟩, ⟨f4, L4⟩, ⟨f5, L5⟩, ⟨f6, L6⟩, ⟨f7, L7⟩, ⟨f8, L8⟩, ⟨flo, hlo⟩, ⟨fta, hta⟩⟩ := hMc
  have b0 := L0.2.2.1
  have b2 := L2.2.2.1
  have b3 := L3.2.2.1
  have b4 := L4.2.2.1
  have b5 := L5.2.2.1
  have b7 := L7.2.2.1
  have b8 := L8.2.2.1
  have hSQ := (hI9.2.2.1).sq
  refine g_pop hκ dX11_station_55 rfl ?_
  refine g_aload_n hκ 0 dX11_station_56 rfl rfl ?_
  refine gt_Room_stations hκ (hdV hz) hx qw_107 (Or.inl rfl) dX11_station_57 ?_
  refine g_rf f1 ?_
  refine rV_i hκ (hdV hz) [] sd_Jx4a65c_size_8abf5 qw_227 (fun D cO H s hK hP => rc_List hK hP L1.1) (k_sizeL S8 (la 1) 4 (sz1 1) (el1 1) L1) ⟨rfl, rfl, Nat.le_of_ble_eq_true rfl, Nat.le_of_ble_eq_true rfl⟩ rfl rfl (Nat.le_of_ble_eq_true rfl) dX11_station_60 (fun r9 hr9 => ?_)
  refine g_eqi hr9 ?_
  refine g_iconst hκ (v := 1) dX11_station_63 (by decide) ?_
  refine g_isub hκ dX11_station_64 ?_
  refine g_eqi (y := nI (sz 1)) (by rw [hg9.2]; exact nI_pred _) ?_
  exact hend _ _ _ _ _ _ dX11_station_65 (⟨rfl, el1, sz1, cp1, hI9, hg9, hx9, hch9⟩)
set_option maxHeartbeats 4000000 in
set_option maxRecDepth 100000 in
theorem k_gun (e9 : Nat × Nat) (S : wPS) (x lo ta : Nat) (la : Nat → Nat) (M cnts : Nat) (told : Int32) (el : Nat → Nat → Nat) (sz cp : Nat → Nat) (pw ow dn : Nat) (u v w : Int32) (hI : IV e9 x lo ta la M cnts told S el sz cp pw ow dn) (t1 : isPlaceB u v = true) (t2 : isInB w 1 20 = true) (hs : sz 3 < 6) : MVi e9 yX11_gun cX11_gun 4 (some .int) ({ frames := 7, cells := 2, slots := 40, locals := 171 }) S [.ref x, .int u, .int v, .int w] (fun r S1 => r = nI (sz 3) ∧ ∃ (el1 : Nat → Nat → Nat) (sz1 cp1 : Nat → Nat), IV e9 x lo ta la M cnts told S1 el1 sz1 cp1 pw ow dn ∧ GJ 3 el sz el1 sz1 ∧ Ch [q_List_size, q_List_modCount] [q_List_elementData] S S1) 2 40 := by
  refine stV_i (post := (fun r S1 => r = nI (sz 3) ∧ ∃ (el1 : Nat → Nat → Nat) (sz1 cp1 : Nat → Nat), IV e9 x lo ta la M cnts told S1 el1 sz1 cp1 pw ow dn ∧ GJ 3 el sz el1 sz1 ∧ Ch [q_List_size, q_List_modCount] [q_List_elementData] S S1)) (by decide) (Nat.le_of_ble_eq_true rfl) ⟨Nat.le_refl _, Nat.le_refl _⟩ rfl (fun _ _ _ => rfl) (fun κ hκ hz hnm hend => ?_)
  show Gj κ _ 0 [(0, .ref x), (1, .int u), (2, .int v), (3, .int w)] []
  have hM := hI.1.rm
  have hMc := hM
  obtain ⟨hx, ⟨f0, L0⟩, ⟨f1, L1⟩, ⟨f2, L2⟩, ⟨f3, L3⟩, ⟨f4, L4⟩, ⟨f5, L5⟩, ⟨f6, L6⟩, ⟨f7, L7⟩, ⟨f8, L8⟩, ⟨flo, hlo⟩, ⟨fta, hta⟩⟩ := hMc
  have b0 := L0.2.2.1
  have b2 := L2.2.2.1
  have b3 := L3.2.2.1
  have b4 := L4.2.2.1
  have b5 := L5.2.2.1
  have b7 := L7.2.2.1
  have b8 := L8.2.2.1
  have hSQ := (hI.2.2.1).sq
  refine g_iload_n hκ 1 dX11_gun_0 rfl rfl ?_
  refine g_iload_n hκ 2 dX11_gun_1 rfl rfl ?_
  refine rS_i hκ (hdV hz) [.int u, .int v] sd_X11_isPlace qw_153 (k_isPlace S u v) ⟨rfl, rfl, Nat.le_of_ble_eq_true rfl, Nat.le_of_ble_eq_true rfl⟩ rfl rfl (Nat.le_of_ble_eq_true rfl) dX11_gun_2 (fun r1 hr1 => ?_)
  refine g_eqi (y := 1) (hr1.trans (congrArg zb t1)) ?_
  refine g_if_eq hκ 18 dX11_gun_5 (by decide) (fun z => absurd z (by decide)) (fun _ => ?_)
  refine g_iload_n hκ 3 dX11_gun_8 rfl rfl ?_
  refine g_iconst hκ (v := 1) dX11_gun_9 (by decide) ?_
  refine g_bipush hκ (v := 20) dX11_gun_10 (by decide) ?_
  refine rS_i hκ (hdV hz) [.int w, .int 1, .int 20] sd_X11_isIn qw_156 (k_isIn S w 1 20) ⟨rfl, rfl, Nat.le_of_ble_eq_true rfl, Nat.le_of_ble_eq_true rfl⟩ rfl rfl (Nat.le_of_ble_eq_true rfl) dX11_gun_12 (fun r2 hr2 => ?_)
  refine g_eqi (y := 1) (hr2.trans (congrArg zb t2)) ?_
  refine g_if_ne hκ 28 dX11_gun_15 (by decide) (fun _ => ?_) (fun z => absurd z (by decide))
  refine g_aload_n hκ 0 dX11_gun_28 rfl rfl ?_
  refine gt_Room_guns hκ (hdV hz) hx qw_109 (Or.inl rfl) dX11_gun_29 ?_
  refine g_rf f3 ?_
  refine rV_i hκ (hdV hz) [] sd_Jx4a65c_size_8abf5 qw_227 (fun D cO H s hK hP => rc_List hK hP L3.1) (k_sizeL S (la 3) 1 (sz 3) (el 3) L3) ⟨rfl, rfl, Nat.le_of_ble_eq_true rfl, Nat.le_of_ble_eq_true rfl⟩ rfl rfl (Nat.le_of_ble_eq_true rfl) dX11_gun_32 (fun r3 hr3 => ?_)
  refine g_eqi hr3 ?_
  refine g_bipush hκ (v := 6) dX11_gun_35 (by decide) ?_
  refine g_icmp_lt hκ 50 dX11_gun_37 (by decide) (fun _ => ?_) (fun z => absurd (show nI (sz 3) < 6 from nI_lt (b := 6) (by omega) (by decide)) z)
  refine g_aload_n hκ 0 dX11_gun_50 rfl rfl ?_
  refine gt_Room_guns hκ (hdV hz) hx qw_109 (Or.inl rfl) dX11_gun_51 ?_
  refine g_rf f3 ?_
  refine gn_Gun hκ hz qw_509 qw_510 qw_22 (by omega) (by omega) dX11_gun_54 (fun a4 fa4 => ?_)
  have hT15 := hI.1.ch (ch_new (cs := []) (rs := []) (kd := 1) (n := 0) fa4) (kw_new (kd := 1) (n := 0) fa4) (by decide) (fun c hc => absurd hc List.not_mem_nil)
  have hM := hT15.rm
  have hMc := hM
  obtain ⟨hx, ⟨f0, L0⟩, ⟨f1, L1⟩, ⟨f2, L2⟩, ⟨f3, L3⟩, ⟨f4, L4⟩, ⟨f5, L5⟩, ⟨f6, L6⟩, ⟨f7, L7⟩, ⟨f8, L8⟩, ⟨flo, hlo⟩, ⟨fta, hta⟩⟩ := hMc
  have b0 := L0.2.2.1
  have b2 := L2.2.2.1
  have b3 := L3.2.2.1
  have b4 := L4.2.2.1
  have b5 := L5.2.2.1
  have b7 := L7.2.2.1
  have b8 := L8.2.2.1
  refine g_dup hκ dX11_gun_57 rfl ?_
  refine g_iload_n hκ 1 dX11_gun_58 rfl rfl ?_
  refine g_iload_n hκ 2 dX11_gun_59 rfl rfl ?_
  refine g_iload_n hκ 3 dX11_gun_60 rfl rfl ?_
  refine vI_v hκ hz [.int u, .int v, .int w] sd_X1_init qw_511 (k_init_Gun e9 (newS S a4 1 0) a4 u v w (nw_at fa4)) ⟨rfl, rfl, Nat.le_of_ble_eq_true rfl, Nat.le_of_ble_eq_true rfl⟩ rfl rfl (Nat.le_of_ble_eq_true rfl) dX11_gun_61 (by omega) (by omega) (fun S6 hS6 => ?_)
  obtain rfl := hS6
  obtain ⟨hC0, hK0, ha9⟩ := nwGun_ch (u := u) (v := v) (w := w) fa4
  have hT2 := hI.1.ch hC0 hK0 (by decide) (fun c hc => absurd hc List.not_mem_nil)
  have hM := hT2.rm
  have hMc := hM
  obtain ⟨hx, ⟨f0, L0⟩, ⟨f1, L1⟩, ⟨f2, L2⟩, ⟨f3, L3⟩, ⟨f4, L4⟩, ⟨f5, L5⟩, ⟨f6, L6⟩, ⟨f7, L7⟩, ⟨f8, L8⟩, ⟨flo, hlo⟩, ⟨fta, hta⟩⟩ := hMc
  have b0 := L0.2.2.1
  have b2 := L2.2.2.1
  have b3 := L3.2.2.1
  have b4 := L4.2.2.1
  have b5 := L5.2.2.1
  have b7 := L7.2.2.1
  have b8 := L8.2.2.1
  refine vV_i hκ hz [.ref a4] sd_Jx4a65c_add_9ea2d qw_339 (fun D cO H s hK hP => rc_List hK hP L3.1) (k_addL e9 (initGun (newS S a4 1 0) a4 u v w) (la 3) a4 (sz 3) (cp 3) (el 3) 1 "Plotroom$Gun" (hT2.ls (j := 3) (by decide)) (by omega) ha9 (fun S D cO H s a hK hP hO => rc_Gun hK hP hO) (by decide)) ⟨rfl, rfl, Nat.le_of_ble_eq_true rfl, Nat.le_of_ble_eq_true rfl⟩ rfl rfl (Nat.le_of_ble_eq_true rfl) dX11_gun_64 (by omega) (by unfold gN; omega) (fun r7 S8 hS8 => ?_)
  obtain ⟨e9r, hA9⟩ := hS8
  refine g_eqi e9r ?_
  obtain ⟨c1, hF9⟩ := IV_addInert (j := 3) hI (Or.inr (Or.inl rfl)) hC0 hK0 fa4 ha9.1 hA9
  refine g_gen (P := fun Sz => ∃ (el1 : Nat → Nat → Nat) (sz1 cp1 : Nat → Nat), IV e9 x lo ta la M cnts told Sz el1 sz1 cp1 pw ow dn ∧ GJ 3 el sz el1 sz1 ∧ Ch [q_List_size, q_List_modCount] [q_List_elementData] S Sz) (⟨_, _, _, hF9, GJ_up, (hC0.weak (by decide) (by decide)).trans hA9.ch⟩) (fun S9 hP9 => ?_)
  obtain ⟨el1, sz1, cp1, hI9, hg9, hch9⟩ := hP9
  have hM := hI9.1.rm
  have hMc := hM
  obtain ⟨hx, ⟨f0, L0⟩, ⟨f1, L1⟩, ⟨f2, L2⟩, ⟨f3, L3⟩, ⟨f4, L4⟩, ⟨f5, L5⟩, ⟨f6, L6⟩, ⟨f7, L7⟩, ⟨f8, L8⟩, ⟨flo, hlo⟩, ⟨fta, hta⟩⟩ := hMc
  have b0 := L0.2.2.1
  have b2 := L2.2.2.1
  have b3 := L3.2.2.1
  have b4 := L4.2.2.1
  have b5 := L5.2.2.1
  have b7 := L7.2.2.1
  have b8 := L8.2.2.1
  have hSQ := (hI9.2.2.1).sq
  refine g_pop hκ dX11_gun_67 rfl ?_
  refine g_aload_n hκ 0 dX11_gun_68 rfl rfl ?_
  refine gt_Room_guns hκ (hdV hz) hx qw_109 (Or.inl rfl) dX11_gun_69 ?_
  refine g_rf f3 ?_
  refine rV_i hκ (hdV hz) [] sd_Jx4a65c_size_8abf5 qw_227 (fun D cO H s hK hP => rc_List hK hP L3.1) (k_sizeL S9 (la 3) 1 (sz1 3) (el1 3) L3) ⟨rfl, rfl, Nat.le_of_ble_eq_true rfl, Nat.le_of_ble_eq_true rfl⟩ rfl rfl (Nat.le_of_ble_eq_true rfl) dX11_gun_72 (fun r10 hr10 => ?_)
  refine g_eqi hr10 ?_
  refine g_iconst hκ (v := 1) dX11_gun_75 (by decide) ?_
  refine g_isub hκ dX11_gun_76 ?_
  refine g_eqi (y := nI (sz 3)) (by rw [hg9.2]; exact nI_pred _) ?_
  exact hend _ _ _ _ _ _ dX11_gun_77 (⟨rfl, el1, sz1, cp1, hI9, hg9, hch9⟩)
set_option maxHeartbeats 4000000 in
set_option maxRecDepth 100000 in
theorem k_town (e9 : Nat × Nat) (S : wPS) (x lo ta : Nat) (la : Nat → Nat) (M cnts : Nat) (told : Int32) (el : Nat → Nat → Nat) (sz cp : Nat → Nat) (pw ow dn : Nat) (u v w : Int32) (hI : IV e9 x lo ta la M cnts told S el sz cp pw ow dn) (t1 : isPlaceB u v = true) (t2 : isInB w 1 99 = true) (hs : sz 4 < 6) : MVi e9 yX11_town cX11_town 4 (some .int) ({ frames := 7, cells := 2, slots := 40, locals := 171 }) S [.ref x, .int u, .int v, .int w] (fun r S1 => r = nI (sz 4) ∧ ∃ (el1 : Nat → Nat → Nat) (sz1 cp1 : Nat → Nat), IV e9 x lo ta la M cnts told S1 el1 sz1 cp1 pw ow dn ∧ GJ 4 el sz el1 sz1 ∧ Ch [q_List_size, q_List_modCount] [q_List_elementData] S S1) 2 40 := by
  refine stV_i (post := (fun r S1 => r = nI (sz 4) ∧ ∃ (el1 : Nat → Nat → Nat) (sz1 cp1 : Nat → Nat), IV e9 x lo ta la M cnts told S1 el1 sz1 cp1 pw ow dn ∧ GJ 4 el sz el1 sz1 ∧ Ch [q_List_size, q_List_modCount] [q_List_elementData] S S1)) (by decide) (Nat.le_of_ble_eq_true rfl) ⟨Nat.le_refl _, Nat.le_refl _⟩ rfl (fun _ _ _ => rfl) (fun κ hκ hz hnm hend => ?_)
  show Gj κ _ 0 [(0, .ref x), (1, .int u), (2, .int v), (3, .int w)] []
  have hM := hI.1.rm
  have hMc := hM
  obtain ⟨hx, ⟨f0, L0⟩, ⟨f1, L1⟩, ⟨f2, L2⟩, ⟨f3, L3⟩, ⟨f4, L4⟩, ⟨f5, L5⟩, ⟨f6, L6⟩, ⟨f7, L7⟩, ⟨f8, L8⟩, ⟨flo, hlo⟩, ⟨fta, hta⟩⟩ := hMc
  have b0 := L0.2.2.1
  have b2 := L2.2.2.1
  have b3 := L3.2.2.1
  have b4 := L4.2.2.1
  have b5 := L5.2.2.1
  have b7 := L7.2.2.1
  have b8 := L8.2.2.1
  have hSQ := (hI.2.2.1).sq
  refine g_iload_n hκ 1 dX11_town_0 rfl rfl ?_
  refine g_iload_n hκ 2 dX11_town_1 rfl rfl ?_
  refine rS_i hκ (hdV hz) [.int u, .int v] sd_X11_isPlace qw_153 (k_isPlace S u v) ⟨rfl, rfl, Nat.le_of_ble_eq_true rfl, Nat.le_of_ble_eq_true rfl⟩ rfl rfl (Nat.le_of_ble_eq_true rfl) dX11_town_2 (fun r1 hr1 => ?_)
  refine g_eqi (y := 1) (hr1.trans (congrArg zb t1)) ?_
  refine g_if_eq hκ 18 dX11_town_5 (by decide) (fun z => absurd z (by decide)) (fun _ => ?_)
  refine g_iload_n hκ 3 dX11_town_8 rfl rfl ?_
  refine g_iconst hκ (v := 1) dX11_town_9 (by decide) ?_
  refine g_bipush hκ (v := 99) dX11_town_10 (by decide) ?_
  refine rS_i hκ (hdV hz) [.int w, .int 1, .int 99] sd_X11_isIn qw_156 (k_isIn S w 1 99) ⟨rfl, rfl, Nat.le_of_ble_eq_true rfl, Nat.le_of_ble_eq_true rfl⟩ rfl rfl (Nat.le_of_ble_eq_true rfl) dX11_town_12 (fun r2 hr2 => ?_)
  refine g_eqi (y := 1) (hr2.trans (congrArg zb t2)) ?_
  refine g_if_ne hκ 28 dX11_town_15 (by decide) (fun _ => ?_) (fun z => absurd z (by decide))
  refine g_aload_n hκ 0 dX11_town_28 rfl rfl ?_
  refine gt_Room_towns hκ (hdV hz) hx qw_110 (Or.inl rfl) dX11_town_29 ?_
  refine g_rf f4 ?_
  refine rV_i hκ (hdV hz) [] sd_Jx4a65c_size_8abf5 qw_227 (fun D cO H s hK hP => rc_List hK hP L4.1) (k_sizeL S (la 4) 8 (sz 4) (el 4) L4) ⟨rfl, rfl, Nat.le_of_ble_eq_true rfl, Nat.le_of_ble_eq_true rfl⟩ rfl rfl (Nat.le_of_ble_eq_true rfl) dX11_town_32 (fun r3 hr3 => ?_)
  refine g_eqi hr3 ?_
  refine g_bipush hκ (v := 6) dX11_town_35 (by decide) ?_
  refine g_icmp_lt hκ 50 dX11_town_37 (by decide) (fun _ => ?_) (fun z => absurd (show nI (sz 4) < 6 from nI_lt (b := 6) (by omega) (by decide)) z)
  refine g_aload_n hκ 0 dX11_town_50 rfl rfl ?_
  refine gt_Room_towns hκ (hdV hz) hx qw_110 (Or.inl rfl) dX11_town_51 ?_
  refine g_rf f4 ?_
  refine gn_Town hκ hz qw_531 qw_532 qw_23 (by omega) (by omega) dX11_town_54 (fun a4 fa4 => ?_)
  have hT15 := hI.1.ch (ch_new (cs := []) (rs := []) (kd := 8) (n := 0) fa4) (kw_new (kd := 8) (n := 0) fa4) (by decide) (fun c hc => absurd hc List.not_mem_nil)
  have hM := hT15.rm
  have hMc := hM
  obtain ⟨hx, ⟨f0, L0⟩, ⟨f1, L1⟩, ⟨f2, L2⟩, ⟨f3, L3⟩, ⟨f4, L4⟩, ⟨f5, L5⟩, ⟨f6, L6⟩, ⟨f7, L7⟩, ⟨f8, L8⟩, ⟨flo, hlo⟩, ⟨fta, hta⟩⟩ := hMc
  have b0 := L0.2.2.1
  have b2 := L2.2.2.1
  have b3 := L3.2.2.1
  have b4 := L4.2.2.1
  have b5 := L5.2.2.1
  have b7 := L7.2.2.1
  have b8 := L8.2.2.1
  refine g_dup hκ dX11_town_57 rfl ?_
  refine g_iload_n hκ 1 dX11_town_58 rfl rfl ?_
  refine g_iload_n hκ 2 dX11_town_59 rfl rfl ?_
  refine g_iload_n hκ 3 dX11_town_60 rfl rfl ?_
  refine vI_v hκ hz [.int u, .int v, .int w] sd_X9_init qw_533 (k_init_Town e9 (newS S a4 8 0) a4 u v w (nw_at fa4)) ⟨rfl, rfl, Nat.le_of_ble_eq_true rfl, Nat.le_of_ble_eq_true rfl⟩ rfl rfl (Nat.le_of_ble_eq_true rfl) dX11_town_61 (by omega) (by omega) (fun S6 hS6 => ?_)
  obtain rfl := hS6
  obtain ⟨hC0, hK0, ha9⟩ := nwTown_ch (u := u) (v := v) (w := w) fa4
  have hT2 := hI.1.ch hC0 hK0 (by decide) (fun c hc => absurd hc List.not_mem_nil)
  have hM := hT2.rm
  have hMc := hM
  obtain ⟨hx, ⟨f0, L0⟩, ⟨f1, L1⟩, ⟨f2, L2⟩, ⟨f3, L3⟩, ⟨f4, L4⟩, ⟨f5, L5⟩, ⟨f6, L6⟩, ⟨f7, L7⟩, ⟨f8, L8⟩, ⟨flo, hlo⟩, ⟨fta, hta⟩⟩ := hMc
  have b0 := L0.2.2.1
  have b2 := L2.2.2.1
  have b3 := L3.2.2.1
  have b4 := L4.2.2.1
  have b5 := L5.2.2.1
  have b7 := L7.2.2.1
  have b8 := L8.2.2.1
  refine vV_i hκ hz [.ref a4] sd_Jx4a65c_add_9ea2d qw_339 (fun D cO H s hK hP => rc_List hK hP L4.1) (k_addL e9 (initTown (newS S a4 8 0) a4 u v w) (la 4) a4 (sz 4) (cp 4) (el 4) 8 "Plotroom$Town" (hT2.ls (j := 4) (by decide)) (by omega) ha9 (fun S D cO H s a hK hP hO => rc_Town hK hP hO) (by decide)) ⟨rfl, rfl, Nat.le_of_ble_eq_true rfl, Nat.le_of_ble_eq_true rfl⟩ rfl rfl (Nat.le_of_ble_eq_true rfl) dX11_town_64 (by omega) (by unfold gN; omega) (fun r7 S8 hS8 => ?_)
  obtain ⟨e9r, hA9⟩ := hS8
  refine g_eqi e9r ?_
  obtain ⟨c1, hF9⟩ := IV_addInert (j := 4) hI (Or.inr (Or.inr rfl)) hC0 hK0 fa4 ha9.1 hA9
  refine g_gen (P := fun Sz => ∃ (el1 : Nat → Nat → Nat) (sz1 cp1 : Nat → Nat), IV e9 x lo ta la M cnts told Sz el1 sz1 cp1 pw ow dn ∧ GJ 4 el sz el1 sz1 ∧ Ch [q_List_size, q_List_modCount] [q_List_elementData] S Sz) (⟨_, _, _, hF9, GJ_up, (hC0.weak (by decide) (by decide)).trans hA9.ch⟩) (fun S9 hP9 => ?_)
  obtain ⟨el1, sz1, cp1, hI9, hg9, hch9⟩ := hP9
  have hM := hI9.1.rm
  have hMc := hM
  obtain ⟨hx, ⟨f0, L0⟩, ⟨f1, L1⟩, ⟨f2, L2⟩, ⟨f3, L3⟩, ⟨f4, L4⟩, ⟨f5, L5⟩, ⟨f6, L6⟩, ⟨f7, L7⟩, ⟨f8, L8⟩, ⟨flo, hlo⟩, ⟨fta, hta⟩⟩ := hMc
  have b0 := L0.2.2.1
  have b2 := L2.2.2.1
  have b3 := L3.2.2.1
  have b4 := L4.2.2.1
  have b5 := L5.2.2.1
  have b7 := L7.2.2.1
  have b8 := L8.2.2.1
  have hSQ := (hI9.2.2.1).sq
  refine g_pop hκ dX11_town_67 rfl ?_
  refine g_aload_n hκ 0 dX11_town_68 rfl rfl ?_
  refine gt_Room_towns hκ (hdV hz) hx qw_110 (Or.inl rfl) dX11_town_69 ?_
  refine g_rf f4 ?_
  refine rV_i hκ (hdV hz) [] sd_Jx4a65c_size_8abf5 qw_227 (fun D cO H s hK hP => rc_List hK hP L4.1) (k_sizeL S9 (la 4) 8 (sz1 4) (el1 4) L4) ⟨rfl, rfl, Nat.le_of_ble_eq_true rfl, Nat.le_of_ble_eq_true rfl⟩ rfl rfl (Nat.le_of_ble_eq_true rfl) dX11_town_72 (fun r10 hr10 => ?_)
  refine g_eqi hr10 ?_
  refine g_iconst hκ (v := 1) dX11_town_75 (by decide) ?_
  refine g_isub hκ dX11_town_76 ?_
  refine g_eqi (y := nI (sz 4)) (by rw [hg9.2]; exact nI_pred _) ?_
  exact hend _ _ _ _ _ _ dX11_town_77 (⟨rfl, el1, sz1, cp1, hI9, hg9, hch9⟩)
set_option maxHeartbeats 4000000 in
set_option maxRecDepth 100000 in
theorem k_flight (e9 : Nat × Nat) (S : wPS) (x lo ta : Nat) (la : Nat → Nat) (M cnts : Nat) (told : Int32) (el : Nat → Nat → Nat) (sz cp : Nat → Nat) (pw ow dn : Nat) (fo u v cx cy hh : Int32) (c : Nat) (hI : IV e9 x lo ta la M cnts told S el sz cp pw ow dn) (hzfo : fo = 0 ∨ fo = 1) (t1 : isPlaceB u v = true) (t2 : isCourseB cx cy = true) (t3 : isInB hh 1 9 = true) (t4 : isInB (nI c) 1 99 = true) (hc1 : 1 ≤ c) (hc2 : c ≤ 99) (hs : sz 5 < 12) : MVi e9 yX11_flight cX11_flight 8 (some .int) ({ frames := 7, cells := 2, slots := 40, locals := 171 }) S [.ref x, .int fo, .int u, .int v, .int cx, .int cy, .int hh, .int (nI c)] (fun r S1 => r = nI (sz 5) ∧ ∃ (el1 : Nat → Nat → Nat) (sz1 cp1 : Nat → Nat), IV e9 x lo ta la M (cnts + c) told S1 el1 sz1 cp1 pw ow dn ∧ GJ 5 el sz el1 sz1 ∧ Ch [q_List_size, q_List_modCount] [q_List_elementData] S S1) 2 40 := by
  refine stV_i (post := (fun r S1 => r = nI (sz 5) ∧ ∃ (el1 : Nat → Nat → Nat) (sz1 cp1 : Nat → Nat), IV e9 x lo ta la M (cnts + c) told S1 el1 sz1 cp1 pw ow dn ∧ GJ 5 el sz el1 sz1 ∧ Ch [q_List_size, q_List_modCount] [q_List_elementData] S S1)) (by decide) (Nat.le_of_ble_eq_true rfl) ⟨Nat.le_refl _, Nat.le_refl _⟩ rfl (fun _ _ _ => rfl) (fun κ hκ hz hnm hend => ?_)
  show Gj κ _ 0 [(0, .ref x), (1, .int fo), (2, .int u), (3, .int v), (4, .int cx), (5, .int cy), (6, .int hh), (7, .int (nI c))] []
  have hM := hI.1.rm
  have hMc := hM
  obtain ⟨hx, ⟨f0, L0⟩, ⟨f1, L1⟩, ⟨f2, L2⟩, ⟨f3, L3⟩, ⟨f4, L4⟩, ⟨f5, L5⟩, ⟨f6, L6⟩, ⟨f7, L7⟩, ⟨f8, L8⟩, ⟨flo, hlo⟩, ⟨fta, hta⟩⟩ := hMc
  have b0 := L0.2.2.1
  have b2 := L2.2.2.1
  have b3 := L3.2.2.1
  have b4 := L4.2.2.1
  have b5 := L5.2.2.1
  have b7 := L7.2.2.1
  have b8 := L8.2.2.1
  have hSQ := (hI.2.2.1).sq
  refine g_iload_n hκ 2 dX11_flight_0 rfl rfl ?_
  refine g_iload_n hκ 3 dX11_flight_1 rfl rfl ?_
  refine rS_i hκ (hdV hz) [.int u, .int v] sd_X11_isPlace qw_153 (k_isPlace S u v) ⟨rfl, rfl, Nat.le_of_ble_eq_true rfl, Nat.le_of_ble_eq_true rfl⟩ rfl rfl (Nat.le_of_ble_eq_true rfl) dX11_flight_2 (fun r1 hr1 => ?_)
  refine g_eqi (y := 1) (hr1.trans (congrArg zb t1)) ?_
  refine g_if_eq hκ 40 dX11_flight_5 (by decide) (fun z => absurd z (by decide)) (fun _ => ?_)
  refine g_iload hκ 4 dX11_flight_8 rfl ?_
  refine g_iload hκ 5 dX11_flight_10 rfl ?_
  refine rS_i hκ (hdV hz) [.int cx, .int cy] sd_X11_isCourse qw_548 (k_isCourse S cx cy) ⟨rfl, rfl, Nat.le_of_ble_eq_true rfl, Nat.le_of_ble_eq_true rfl⟩ rfl rfl (Nat.le_of_ble_eq_true rfl) dX11_flight_12 (fun r2 hr2 => ?_)
  refine g_eqi (y := 1) (hr2.trans (congrArg zb t2)) ?_
  refine g_if_eq hκ 40 dX11_flight_15 (by decide) (fun z => absurd z (by decide)) (fun _ => ?_)
  refine g_iload hκ 6 dX11_flight_18 rfl ?_
  refine g_iconst hκ (v := 1) dX11_flight_20 (by decide) ?_
  refine g_bipush hκ (v := 9) dX11_flight_21 (by decide) ?_
  refine rS_i hκ (hdV hz) [.int hh, .int 1, .int 9] sd_X11_isIn qw_156 (k_isIn S hh 1 9) ⟨rfl, rfl, Nat.le_of_ble_eq_true rfl, Nat.le_of_ble_eq_true rfl⟩ rfl rfl (Nat.le_of_ble_eq_true rfl) dX11_flight_23 (fun r3 hr3 => ?_)
  refine g_eqi (y := 1) (hr3.trans (congrArg zb t3)) ?_
  refine g_if_eq hκ 40 dX11_flight_26 (by decide) (fun z => absurd z (by decide)) (fun _ => ?_)
  refine g_iload hκ 7 dX11_flight_29 rfl ?_
  refine g_iconst hκ (v := 1) dX11_flight_31 (by decide) ?_
  refine g_bipush hκ (v := 99) dX11_flight_32 (by decide) ?_
  refine rS_i hκ (hdV hz) [.int (nI c), .int 1, .int 99] sd_X11_isIn qw_156 (k_isIn S (nI c) 1 99) ⟨rfl, rfl, Nat.le_of_ble_eq_true rfl, Nat.le_of_ble_eq_true rfl⟩ rfl rfl (Nat.le_of_ble_eq_true rfl) dX11_flight_34 (fun r4 hr4 => ?_)
  refine g_eqi (y := 1) (hr4.trans (congrArg zb t4)) ?_
  refine g_if_ne hκ 50 dX11_flight_37 (by decide) (fun _ => ?_) (fun z => absurd z (by decide))
  refine g_aload_n hκ 0 dX11_flight_50 rfl rfl ?_
  refine gt_Room_flights hκ (hdV hz) hx qw_111 (Or.inl rfl) dX11_flight_51 ?_
  refine g_rf f5 ?_
  refine rV_i hκ (hdV hz) [] sd_Jx4a65c_size_8abf5 qw_227 (fun D cO H s hK hP => rc_List hK hP L5.1) (k_sizeL S (la 5) 0 (sz 5) (el 5) L5) ⟨rfl, rfl, Nat.le_of_ble_eq_true rfl, Nat.le_of_ble_eq_true rfl⟩ rfl rfl (Nat.le_of_ble_eq_true rfl) dX11_flight_54 (fun r5 hr5 => ?_)
  refine g_eqi hr5 ?_
  refine g_bipush hκ (v := 12) dX11_flight_57 (by decide) ?_
  refine g_icmp_lt hκ 72 dX11_flight_59 (by decide) (fun _ => ?_) (fun z => absurd (show nI (sz 5) < 12 from nI_lt (b := 12) (by omega) (by decide)) z)
  refine g_aload_n hκ 0 dX11_flight_72 rfl rfl ?_
  refine gt_Room_flights hκ (hdV hz) hx qw_111 (Or.inl rfl) dX11_flight_73 ?_
  refine g_rf f5 ?_
  refine gn_Flight hκ hz qw_553 qw_554 qw_24 (by omega) (by omega) dX11_flight_76 (fun a6 fa6 => ?_)
  have hT15 := hI.1.ch (ch_new (cs := []) (rs := []) (kd := 0) (n := 0) fa6) (kw_new (kd := 0) (n := 0) fa6) (by decide) (fun c hc => absurd hc List.not_mem_nil)
  have hM := hT15.rm
  have hMc := hM
  obtain ⟨hx, ⟨f0, L0⟩, ⟨f1, L1⟩, ⟨f2, L2⟩, ⟨f3, L3⟩, ⟨f4, L4⟩, ⟨f5, L5⟩, ⟨f6, L6⟩, ⟨f7, L7⟩, ⟨f8, L8⟩, ⟨flo, hlo⟩, ⟨fta, hta⟩⟩ := hMc
  have b0 := L0.2.2.1
  have b2 := L2.2.2.1
  have b3 := L3.2.2.1
  have b4 := L4.2.2.1
  have b5 := L5.2.2.1
  have b7 := L7.2.2.1
  have b8 := L8.2.2.1
  refine g_dup hκ dX11_flight_79 rfl ?_
  refine g_iload_n hκ 1 dX11_flight_80 rfl rfl ?_
  refine g_iload_n hκ 2 dX11_flight_81 rfl rfl ?_
  refine g_iload_n hκ 3 dX11_flight_82 rfl rfl ?_
  refine g_iload hκ 4 dX11_flight_83 rfl ?_
  refine g_iload hκ 5 dX11_flight_85 rfl ?_
  refine g_iload hκ 6 dX11_flight_87 rfl ?_
  refine g_iload hκ 7 dX11_flight_89 rfl ?_
  refine vI_v hκ hz [.int fo, .int u, .int v, .int cx, .int cy, .int hh, .int (nI c)] sd_X0_init qw_555 (k_init_Flight e9 (newS S a6 0 0) a6 fo u v cx cy hh (nI c) (nw_at fa6) hzfo) ⟨rfl, rfl, Nat.le_of_ble_eq_true rfl, Nat.le_of_ble_eq_true rfl⟩ rfl rfl (Nat.le_of_ble_eq_true rfl) dX11_flight_91 (by omega) (by omega) (fun S8 hS8 => ?_)
  obtain rfl := hS8
  obtain ⟨hC0, hK0, ha9⟩ := nwFlight_ch (fo := fo) (u := u) (v := v) (cx := cx) (cy := cy) (hh := hh) (nn := nI c) fa6
  have hT2 := hI.1.ch hC0 hK0 (by decide) (fun c hc => absurd hc List.not_mem_nil)
  have hM := hT2.rm
  have hMc := hM
  obtain ⟨hx, ⟨f0, L0⟩, ⟨f1, L1⟩, ⟨f2, L2⟩, ⟨f3, L3⟩, ⟨f4, L4⟩, ⟨f5, L5⟩, ⟨f6, L6⟩, ⟨f7, L7⟩, ⟨f8, L8⟩, ⟨flo, hlo⟩, ⟨fta, hta⟩⟩ := hMc
  have b0 := L0.2.2.1
  have b2 := L2.2.2.1
  have b3 := L3.2.2.1
  have b4 := L4.2.2.1
  have b5 := L5.2.2.1
  have b7 := L7.2.2.1
  have b8 := L8.2.2.1
  refine vV_i hκ hz [.ref a6] sd_Jx4a65c_add_9ea2d qw_339 (fun D cO H s hK hP => rc_List hK hP L5.1) (k_addL e9 (initFlight (newS S a6 0 0) a6 fo u v cx cy hh (nI c)) (la 5) a6 (sz 5) (cp 5) (el 5) 0 "Plotroom$Flight" (hT2.ls (j := 5) (by decide)) (by omega) ha9 (fun S D cO H s a hK hP hO => rc_Flight hK hP hO) (by decide)) ⟨rfl, rfl, Nat.le_of_ble_eq_true rfl, Nat.le_of_ble_eq_true rfl⟩ rfl rfl (Nat.le_of_ble_eq_true rfl) dX11_flight_94 (by omega) (by unfold gN; omega) (fun r9 S10 hS10 => ?_)
  obtain ⟨e9r, hA9⟩ := hS10
  refine g_eqi e9r ?_
  obtain ⟨c1, hF9⟩ := IV_addFlight hI hC0 hK0 fa6 ha9.1 hA9 (by rw [nwFlight_x, nwFlight_y]; exact t1) nwFlight_count hc1 hc2
  refine g_gen (P := fun Sz => ∃ (el1 : Nat → Nat → Nat) (sz1 cp1 : Nat → Nat), IV e9 x lo ta la M (cnts + c) told Sz el1 sz1 cp1 pw ow dn ∧ GJ 5 el sz el1 sz1 ∧ Ch [q_List_size, q_List_modCount] [q_List_elementData] S Sz) (⟨_, _, _, hF9, GJ_up, (hC0.weak (by decide) (by decide)).trans hA9.ch⟩) (fun S11 hP9 => ?_)
  obtain ⟨el1, sz1, cp1, hI9, hg9, hch9⟩ := hP9
  have hM := hI9.1.rm
  have hMc := hM
  obtain ⟨hx, ⟨f0, L0⟩, ⟨f1, L1⟩, ⟨f2, L2⟩, ⟨f3, L3⟩, ⟨f4, L4⟩, ⟨f5, L5⟩, ⟨f6, L6⟩, ⟨f7, L7⟩, ⟨f8, L8⟩, ⟨flo, hlo⟩, ⟨fta, hta⟩⟩ := hMc
  have b0 := L0.2.2.1
  have b2 := L2.2.2.1
  have b3 := L3.2.2.1
  have b4 := L4.2.2.1
  have b5 := L5.2.2.1
  have b7 := L7.2.2.1
  have b8 := L8.2.2.1
  have hSQ := (hI9.2.2.1).sq
  refine g_pop hκ dX11_flight_97 rfl ?_
  refine g_aload_n hκ 0 dX11_flight_98 rfl rfl ?_
  refine gt_Room_flights hκ (hdV hz) hx qw_111 (Or.inl rfl) dX11_flight_99 ?_
  refine g_rf f5 ?_
  refine rV_i hκ (hdV hz) [] sd_Jx4a65c_size_8abf5 qw_227 (fun D cO H s hK hP => rc_List hK hP L5.1) (k_sizeL S11 (la 5) 0 (sz1 5) (el1 5) L5) ⟨rfl, rfl, Nat.le_of_ble_eq_true rfl, Nat.le_of_ble_eq_true rfl⟩ rfl rfl (Nat.le_of_ble_eq_true rfl) dX11_flight_102 (fun r12 hr12 => ?_)
  refine g_eqi hr12 ?_
  refine g_iconst hκ (v := 1) dX11_flight_105 (by decide) ?_
  refine g_isub hκ dX11_flight_106 ?_
  refine g_eqi (y := nI (sz 5)) (by rw [hg9.2]; exact nI_pred _) ?_
  exact hend _ _ _ _ _ _ dX11_flight_107 (⟨rfl, el1, sz1, cp1, hI9, hg9, hch9⟩)
set_option maxHeartbeats 4000000 in
set_option maxRecDepth 100000 in
theorem k_squadron (e9 : Nat × Nat) (S : wPS) (x lo ta : Nat) (la : Nat → Nat) (M cnts : Nat) (told : Int32) (el : Nat → Nat → Nat) (sz cp : Nat → Nat) (pw ow dn : Nat) (kb m sp tk : Nat) (rd : Int32) (hI : IV e9 x lo ta la M cnts told S el sz cp pw ow dn) (hkb : kb < sz 1) (t1 : isNumB (nI kb) (nI (sz 1)) = true) (t2 : isInB (nI m) 1 12 = true) (t3 : isInB (nI sp) 5 20 = true) (t4 : isInB (nI tk) 10 99 = true) (t5 : isInB rd 1 15 = true) (hm : m ≤ 12) (hsp : 5 ≤ sp) (hsp2 : sp ≤ 20) (htk : 1 ≤ tk) (htk2 : tk ≤ 99) (hs : sz 2 < 8) (hPL : PL1 S el sz) : MVi e9 yX11_squadron cX11_squadron 6 (some .int) ({ frames := 7, cells := 2, slots := 40, locals := 171 }) S [.ref x, .int (nI kb), .int (nI m), .int (nI sp), .int (nI tk), .int rd] (fun r S1 => r = nI (sz 2) ∧ ∃ (el1 : Nat → Nat → Nat) (sz1 cp1 : Nat → Nat), IV e9 x lo ta la M cnts (told + nI m) S1 el1 sz1 cp1 pw ow dn ∧ GJ 2 el sz el1 sz1 ∧ PL1 S1 el1 sz1 ∧ Ch [q_List_size, q_List_modCount] [q_List_elementData] S S1) 2 40 := by
  refine stV_i (post := (fun r S1 => r = nI (sz 2) ∧ ∃ (el1 : Nat → Nat → Nat) (sz1 cp1 : Nat → Nat), IV e9 x lo ta la M cnts (told + nI m) S1 el1 sz1 cp1 pw ow dn ∧ GJ 2 el sz el1 sz1 ∧ PL1 S1 el1 sz1 ∧ Ch [q_List_size, q_List_modCount] [q_List_elementData] S S1)) (by decide) (Nat.le_of_ble_eq_true rfl) ⟨Nat.le_refl _, Nat.le_refl _⟩ rfl (fun _ _ _ => rfl) (fun κ hκ hz hnm hend => ?_)
  show Gj κ _ 0 [(0, .ref x), (1, .int (nI kb)), (2, .int (nI m)), (3, .int (nI sp)), (4, .int (nI tk)), (5, .int rd)] []
  have hM := hI.1.rm
  have hMc := hM
  obtain ⟨hx, ⟨f0, L0⟩, ⟨f1, L1⟩, ⟨f2, L2⟩, ⟨f3, L3⟩, ⟨f4, L4⟩, ⟨f5, L5⟩, ⟨f6, L6⟩, ⟨f7, L7⟩, ⟨f8, L8⟩, ⟨flo, hlo⟩, ⟨fta, hta⟩⟩ := hMc
  have b0 := L0.2.2.1
  have b2 := L2.2.2.1
  have b3 := L3.2.2.1
  have b4 := L4.2.2.1
  have b5 := L5.2.2.1
  have b7 := L7.2.2.1
  have b8 := L8.2.2.1
  have hSQ := (hI.2.2.1).sq
  refine g_iload_n hκ 1 dX11_squadron_0 rfl rfl ?_
  refine g_aload_n hκ 0 dX11_squadron_1 rfl rfl ?_
  refine gt_Room_stations hκ (hdV hz) hx qw_107 (Or.inl rfl) dX11_squadron_2 ?_
  refine g_rf f1 ?_
  refine rV_i hκ (hdV hz) [] sd_Jx4a65c_size_8abf5 qw_227 (fun D cO H s hK hP => rc_List hK hP L1.1) (k_sizeL S (la 1) 4 (sz 1) (el 1) L1) ⟨rfl, rfl, Nat.le_of_ble_eq_true rfl, Nat.le_of_ble_eq_true rfl⟩ rfl rfl (Nat.le_of_ble_eq_true rfl) dX11_squadron_5 (fun r1 hr1 => ?_)
  refine g_eqi hr1 ?_
  refine rS_i hκ (hdV hz) [.int (nI kb), .int (nI (sz 1))] sd_X11_isNumber qw_417 (k_isNumber S (nI kb) (nI (sz 1))) ⟨rfl, rfl, Nat.le_of_ble_eq_true rfl, Nat.le_of_ble_eq_true rfl⟩ rfl rfl (Nat.le_of_ble_eq_true rfl) dX11_squadron_8 (fun r2 hr2 => ?_)
  refine g_eqi (y := 1) (hr2.trans (congrArg zb t1)) ?_
  refine g_if_ne hκ 24 dX11_squadron_11 (by decide) (fun _ => ?_) (fun z => absurd z (by decide))
  refine g_iload_n hκ 2 dX11_squadron_24 rfl rfl ?_
  refine g_iconst hκ (v := 1) dX11_squadron_25 (by decide) ?_
  refine g_bipush hκ (v := 12) dX11_squadron_26 (by decide) ?_
  refine rS_i hκ (hdV hz) [.int (nI m), .int 1, .int 12] sd_X11_isIn qw_156 (k_isIn S (nI m) 1 12) ⟨rfl, rfl, Nat.le_of_ble_eq_true rfl, Nat.le_of_ble_eq_true rfl⟩ rfl rfl (Nat.le_of_ble_eq_true rfl) dX11_squadron_28 (fun r3 hr3 => ?_)
  refine g_eqi (y := 1) (hr3.trans (congrArg zb t2)) ?_
  refine g_if_eq hκ 67 dX11_squadron_31 (by decide) (fun z => absurd z (by decide)) (fun _ => ?_)
  refine g_iload_n hκ 3 dX11_squadron_34 rfl rfl ?_
  refine g_iconst hκ (v := 5) dX11_squadron_35 (by decide) ?_
  refine g_bipush hκ (v := 20) dX11_squadron_36 (by decide) ?_
  refine rS_i hκ (hdV hz) [.int (nI sp), .int 5, .int 20] sd_X11_isIn qw_156 (k_isIn S (nI sp) 5 20) ⟨rfl, rfl, Nat.le_of_ble_eq_true rfl, Nat.le_of_ble_eq_true rfl⟩ rfl rfl (Nat.le_of_ble_eq_true rfl) dX11_squadron_38 (fun r4 hr4 => ?_)
  refine g_eqi (y := 1) (hr4.trans (congrArg zb t3)) ?_
  refine g_if_eq hκ 67 dX11_squadron_41 (by decide) (fun z => absurd z (by decide)) (fun _ => ?_)
  refine g_iload hκ 4 dX11_squadron_44 rfl ?_
  refine g_bipush hκ (v := 10) dX11_squadron_46 (by decide) ?_
  refine g_bipush hκ (v := 99) dX11_squadron_48 (by decide) ?_
  refine rS_i hκ (hdV hz) [.int (nI tk), .int 10, .int 99] sd_X11_isIn qw_156 (k_isIn S (nI tk) 10 99) ⟨rfl, rfl, Nat.le_of_ble_eq_true rfl, Nat.le_of_ble_eq_true rfl⟩ rfl rfl (Nat.le_of_ble_eq_true rfl) dX11_squadron_50 (fun r5 hr5 => ?_)
  refine g_eqi (y := 1) (hr5.trans (congrArg zb t4)) ?_
  refine g_if_eq hκ 67 dX11_squadron_53 (by decide) (fun z => absurd z (by decide)) (fun _ => ?_)
  refine g_iload hκ 5 dX11_squadron_56 rfl ?_
  refine g_iconst hκ (v := 1) dX11_squadron_58 (by decide) ?_
  refine g_bipush hκ (v := 15) dX11_squadron_59 (by decide) ?_
  refine rS_i hκ (hdV hz) [.int rd, .int 1, .int 15] sd_X11_isIn qw_156 (k_isIn S rd 1 15) ⟨rfl, rfl, Nat.le_of_ble_eq_true rfl, Nat.le_of_ble_eq_true rfl⟩ rfl rfl (Nat.le_of_ble_eq_true rfl) dX11_squadron_61 (fun r6 hr6 => ?_)
  refine g_eqi (y := 1) (hr6.trans (congrArg zb t5)) ?_
  refine g_if_ne hκ 77 dX11_squadron_64 (by decide) (fun _ => ?_) (fun z => absurd z (by decide))
  refine g_aload_n hκ 0 dX11_squadron_77 rfl rfl ?_
  refine gt_Room_squadrons hκ (hdV hz) hx qw_108 (Or.inl rfl) dX11_squadron_78 ?_
  refine g_rf f2 ?_
  refine rV_i hκ (hdV hz) [] sd_Jx4a65c_size_8abf5 qw_227 (fun D cO H s hK hP => rc_List hK hP L2.1) (k_sizeL S (la 2) 6 (sz 2) (el 2) L2) ⟨rfl, rfl, Nat.le_of_ble_eq_true rfl, Nat.le_of_ble_eq_true rfl⟩ rfl rfl (Nat.le_of_ble_eq_true rfl) dX11_squadron_81 (fun r7 hr7 => ?_)
  refine g_eqi hr7 ?_
  refine g_bipush hκ (v := 8) dX11_squadron_84 (by decide) ?_
  refine g_icmp_lt hκ 99 dX11_squadron_86 (by decide) (fun _ => ?_) (fun z => absurd (show nI (sz 2) < 8 from nI_lt (b := 8) (by omega) (by decide)) z)
  refine g_aload_n hκ 0 dX11_squadron_99 rfl rfl ?_
  refine gt_Room_squadrons hκ (hdV hz) hx qw_108 (Or.inl rfl) dX11_squadron_100 ?_
  refine g_rf f2 ?_
  refine gn_Squadron hκ hz qw_438 qw_439 qw_19 (by omega) (by omega) dX11_squadron_103 (fun a8 fa8 => ?_)
  have hT15 := hI.1.ch (ch_new (cs := []) (rs := []) (kd := 6) (n := 0) fa8) (kw_new (kd := 6) (n := 0) fa8) (by decide) (fun c hc => absurd hc List.not_mem_nil)
  have hM := hT15.rm
  have hMc := hM
  obtain ⟨hx, ⟨f0, L0⟩, ⟨f1, L1⟩, ⟨f2, L2⟩, ⟨f3, L3⟩, ⟨f4, L4⟩, ⟨f5, L5⟩, ⟨f6, L6⟩, ⟨f7, L7⟩, ⟨f8, L8⟩, ⟨flo, hlo⟩, ⟨fta, hta⟩⟩ := hMc
  have b0 := L0.2.2.1
  have b2 := L2.2.2.1
  have b3 := L3.2.2.1
  have b4 := L4.2.2.1
  have b5 := L5.2.2.1
  have b7 := L7.2.2.1
  have b8 := L8.2.2.1
  refine g_dup hκ dX11_squadron_106 rfl ?_
  refine g_iload_n hκ 1 dX11_squadron_107 rfl rfl ?_
  refine g_aload_n hκ 0 dX11_squadron_108 rfl rfl ?_
  refine gt_Room_stations hκ (hdV hz) hx qw_107 (Or.inl rfl) dX11_squadron_109 ?_
  refine g_rf f1 ?_
  refine g_iload_n hκ 1 dX11_squadron_112 rfl rfl ?_
  refine rV_q hκ (hdV hz) [.int (nI kb)] sd_Jx4a65c_get_915e3 qw_440 (fun D cO H s hK hP => rc_List hK hP L1.1) (k_get (newS S a8 6 0) (la 1) 4 (sz 1) kb (el 1) (nI kb) L1 rfl hkb) ⟨rfl, rfl, Nat.le_of_ble_eq_true rfl, Nat.le_of_ble_eq_true rfl⟩ rfl rfl (Nat.le_of_ble_eq_true rfl) dX11_squadron_113 (fun r9 hr9 => ?_)
  refine g_rf hr9 ?_
  refine gc_Place hκ (hdV hz) (L1.2.2.2.2 kb hkb) qw_407 dX11_squadron_116 ?_
  refine g_iload_n hκ 2 dX11_squadron_119 rfl rfl ?_
  refine g_iload_n hκ 3 dX11_squadron_120 rfl rfl ?_
  refine g_iload hκ 4 dX11_squadron_121 rfl ?_
  refine g_iload hκ 5 dX11_squadron_123 rfl ?_
  refine vI_v hκ hz [.int (nI kb), .ref (el 1 kb), .int (nI m), .int (nI sp), .int (nI tk), .int rd] sd_X7_init qw_454 (k_init_Squadron e9 (newS S a8 6 0) a8 (nI kb) (el 1 kb) (nI m) (nI sp) (nI tk) rd (nw_at fa8) (L1.2.2.2.2 kb hkb)) ⟨rfl, rfl, Nat.le_of_ble_eq_true rfl, Nat.le_of_ble_eq_true rfl⟩ rfl rfl (Nat.le_of_ble_eq_true rfl) dX11_squadron_125 (by omega) (by omega) (fun S11 hS11 => ?_)
  obtain rfl := hS11
  obtain ⟨hC0, hK0, ha9⟩ := nwSq_ch (b := el 1 kb) (sn := nI kb) (mc := nI m) (sp := nI sp) (tk := nI tk) (rd := rd) fa8
  have hT2 := hI.1.ch hC0 hK0 (by decide) (fun c hc => absurd hc List.not_mem_nil)
  have hM := hT2.rm
  have hMc := hM
  obtain ⟨hx, ⟨f0, L0⟩, ⟨f1, L1⟩, ⟨f2, L2⟩, ⟨f3, L3⟩, ⟨f4, L4⟩, ⟨f5, L5⟩, ⟨f6, L6⟩, ⟨f7, L7⟩, ⟨f8, L8⟩, ⟨flo, hlo⟩, ⟨fta, hta⟩⟩ := hMc
  have b0 := L0.2.2.1
  have b2 := L2.2.2.1
  have b3 := L3.2.2.1
  have b4 := L4.2.2.1
  have b5 := L5.2.2.1
  have b7 := L7.2.2.1
  have b8 := L8.2.2.1
  refine vV_i hκ hz [.ref a8] sd_Jx4a65c_add_9ea2d qw_339 (fun D cO H s hK hP => rc_List hK hP L2.1) (k_addL e9 (initSquadron (newS S a8 6 0) a8 (nI kb) (el 1 kb) (nI m) (nI sp) (nI tk) rd) (la 2) a8 (sz 2) (cp 2) (el 2) 6 "Plotroom$Squadron" (hT2.ls (j := 2) (by decide)) (by omega) ha9 (fun S D cO H s a hK hP hO => rc_Squadron hK hP hO) (by decide)) ⟨rfl, rfl, Nat.le_of_ble_eq_true rfl, Nat.le_of_ble_eq_true rfl⟩ rfl rfl (Nat.le_of_ble_eq_true rfl) dX11_squadron_128 (by omega) (by unfold gN; omega) (fun r12 S13 hS13 => ?_)
  obtain ⟨e9r, hA9⟩ := hS13
  refine g_eqi e9r ?_
  obtain ⟨c1, hF9⟩ := IV_addSq hI hC0 hK0 fa8 ha9.1 hA9 (nwSq_I fa8 (hI.1.ob (j := 1) (by decide) hkb) (hPL kb hkb) hm hsp hsp2 htk htk2) nwSq_machines nwSq_won nwSq_state
  refine g_gen (P := fun Sz => ∃ (el1 : Nat → Nat → Nat) (sz1 cp1 : Nat → Nat), IV e9 x lo ta la M cnts (told + nI m) Sz el1 sz1 cp1 pw ow dn ∧ GJ 2 el sz el1 sz1 ∧ PL1 Sz el1 sz1 ∧ Ch [q_List_size, q_List_modCount] [q_List_elementData] S Sz) (⟨_, _, _, hF9, GJ_up, PL1_sq hPL hI.1 hC0 hK0 fa8 ha9.1 hA9, (hC0.weak (by decide) (by decide)).trans hA9.ch⟩) (fun S14 hP9 => ?_)
  obtain ⟨el1, sz1, cp1, hI9, hg9, hx9, hch9⟩ := hP9
  have hM := hI9.1.rm
  have hMc := hM
  obtain ⟨hx, ⟨f0, L0⟩, ⟨f1, L1⟩, ⟨f2, L2⟩, ⟨f3, L3⟩, ⟨f4, L4⟩, ⟨f5, L5⟩, ⟨f6, L6⟩, ⟨f7, L7⟩, ⟨f8, L8⟩, ⟨flo, hlo⟩, ⟨fta, hta⟩⟩ := hMc
  have b0 := L0.2.2.1
  have b2 := L2.2.2.1
  have b3 := L3.2.2.1
  have b4 := L4.2.2.1
  have b5 := L5.2.2.1
  have b7 := L7.2.2.1
  have b8 := L8.2.2.1
  have hSQ := (hI9.2.2.1).sq
  refine g_pop hκ dX11_squadron_131 rfl ?_
  refine g_aload_n hκ 0 dX11_squadron_132 rfl rfl ?_
  refine gt_Room_squadrons hκ (hdV hz) hx qw_108 (Or.inl rfl) dX11_squadron_133 ?_
  refine g_rf f2 ?_
  refine rV_i hκ (hdV hz) [] sd_Jx4a65c_size_8abf5 qw_227 (fun D cO H s hK hP => rc_List hK hP L2.1) (k_sizeL S14 (la 2) 6 (sz1 2) (el1 2) L2) ⟨rfl, rfl, Nat.le_of_ble_eq_true rfl, Nat.le_of_ble_eq_true rfl⟩ rfl rfl (Nat.le_of_ble_eq_true rfl) dX11_squadron_136 (fun r15 hr15 => ?_)
  refine g_eqi hr15 ?_
  refine g_iconst hκ (v := 1) dX11_squadron_139 (by decide) ?_
  refine g_isub hκ dX11_squadron_140 ?_
  refine g_eqi (y := nI (sz 2)) (by rw [hg9.2]; exact nI_pred _) ?_
  exact hend _ _ _ _ _ _ dX11_squadron_141 (⟨rfl, el1, sz1, cp1, hI9, hg9, hx9, hch9⟩)
