set_option maxHeartbeats 4000000 in
set_option maxRecDepth 100000 in
theorem k_init_Room (e9 : Nat × Nat) (S : wPS) (x : Nat) (hx : x ∈ sL S ∧ sK S x = 10) (hm0 : sI S q_Room_minute x = 0) (hp0 : sI S q_Room_plotsOnWay x = 0) : MVv e9 yX11_init cX11_init 1 none ({ frames := 4, cells := 11, slots := 37, locals := 72 }) S [.ref x] (fun S1 => ∃ (lo ta : Nat) (la : Nat → Nat), IV e9 x lo ta la 0 0 0 S1 (fun _ _ => 0) (fun _ => 0) (fun _ => 0) 0 0 0 ∧ sI S1 q_Tally_machinesLost ta = 0) 11 37 := by
  refine stV_v (post := (fun S1 => ∃ (lo ta : Nat) (la : Nat → Nat), IV e9 x lo ta la 0 0 0 S1 (fun _ _ => 0) (fun _ => 0) (fun _ => 0) 0 0 0 ∧ sI S1 q_Tally_machinesLost ta = 0)) (by decide) (Nat.le_of_ble_eq_true rfl) ⟨Nat.le_refl _, Nat.le_refl _⟩ rfl (fun κ hκ hz hnm hend => ?_)
  show Gj κ _ 0 [(0, .ref x)] []
  obtain ⟨la, hR⟩ : ∃ la : Nat → Nat, RI e9 x la 0 S := ⟨fun _ => 0, hx, fun j hj => absurd hj (Nat.not_lt_zero j), fun j k hj => absurd hj (Nat.not_lt_zero j), hm0, hp0⟩
  refine g_aload_n hκ 0 dX11_init_0 rfl rfl ?_
  refine g_objInit hκ qw_32 ⟨Nat.le_of_ble_eq_true rfl, Nat.le_of_ble_eq_true rfl⟩ dX11_init_1 ?_
  refine g_aload_n hκ 0 dX11_init_4 rfl rfl ?_
  refine gn_List hκ hz qw_35 qw_36 qw_4 (by omega) (by omega) dX11_init_5 (fun a1 fa1 => ?_)
  refine g_dup hκ dX11_init_8 rfl ?_
  refine vI_v hκ hz [] sd_Jx4a65c_init_da8c8 qw_37 (k_init_List e9 (newS S a1 11 0) a1 (nw_at fa1)) ⟨rfl, rfl, Nat.le_of_ble_eq_true rfl, Nat.le_of_ble_eq_true rfl⟩ rfl rfl (Nat.le_of_ble_eq_true rfl) dX11_init_9 (by omega) (by omega) (fun S3 hS3 => ?_)
  obtain rfl := hS3
  refine pt_Room_masts (v := (some a1)) hκ (nw_old (n := 0) fa1 hx) qw_106 (Or.inl rfl) hnm rfl dX11_init_12 ?_
  refine g_gen (P := fun Sz => ∃ la : Nat → Nat, RI e9 x la 1 Sz) (⟨_, hR.step fa1 (by decide)⟩) (fun S4 hP9 => ?_)
  obtain ⟨la, hR⟩ := hP9
  refine g_aload_n hκ 0 dX11_init_15 rfl rfl ?_
  refine gn_List hκ hz qw_35 qw_36 qw_4 (by omega) (by omega) dX11_init_16 (fun a5 fa5 => ?_)
  refine g_dup hκ dX11_init_19 rfl ?_
  refine vI_v hκ hz [] sd_Jx4a65c_init_da8c8 qw_37 (k_init_List e9 (newS S4 a5 11 0) a5 (nw_at fa5)) ⟨rfl, rfl, Nat.le_of_ble_eq_true rfl, Nat.le_of_ble_eq_true rfl⟩ rfl rfl (Nat.le_of_ble_eq_true rfl) dX11_init_20 (by omega) (by omega) (fun S7 hS7 => ?_)
  obtain rfl := hS7
  refine pt_Room_stations (v := (some a5)) hκ (nw_old (n := 0) fa5 hR.1) qw_107 (Or.inl rfl) hnm rfl dX11_init_23 ?_
  refine g_gen (P := fun Sz => ∃ la : Nat → Nat, RI e9 x la 2 Sz) (⟨_, hR.step fa5 (by decide)⟩) (fun S8 hP9 => ?_)
  obtain ⟨la, hR⟩ := hP9
  refine g_aload_n hκ 0 dX11_init_26 rfl rfl ?_
  refine gn_List hκ hz qw_35 qw_36 qw_4 (by omega) (by omega) dX11_init_27 (fun a9 fa9 => ?_)
  refine g_dup hκ dX11_init_30 rfl ?_
  refine vI_v hκ hz [] sd_Jx4a65c_init_da8c8 qw_37 (k_init_List e9 (newS S8 a9 11 0) a9 (nw_at fa9)) ⟨rfl, rfl, Nat.le_of_ble_eq_true rfl, Nat.le_of_ble_eq_true rfl⟩ rfl rfl (Nat.le_of_ble_eq_true rfl) dX11_init_31 (by omega) (by omega) (fun S11 hS11 => ?_)
  obtain rfl := hS11
  refine pt_Room_squadrons (v := (some a9)) hκ (nw_old (n := 0) fa9 hR.1) qw_108 (Or.inl rfl) hnm rfl dX11_init_34 ?_
  refine g_gen (P := fun Sz => ∃ la : Nat → Nat, RI e9 x la 3 Sz) (⟨_, hR.step fa9 (by decide)⟩) (fun S12 hP9 => ?_)
  obtain ⟨la, hR⟩ := hP9
  refine g_aload_n hκ 0 dX11_init_37 rfl rfl ?_
  refine gn_List hκ hz qw_35 qw_36 qw_4 (by omega) (by omega) dX11_init_38 (fun a13 fa13 => ?_)
  refine g_dup hκ dX11_init_41 rfl ?_
  refine vI_v hκ hz [] sd_Jx4a65c_init_da8c8 qw_37 (k_init_List e9 (newS S12 a13 11 0) a13 (nw_at fa13)) ⟨rfl, rfl, Nat.le_of_ble_eq_true rfl, Nat.le_of_ble_eq_true rfl⟩ rfl rfl (Nat.le_of_ble_eq_true rfl) dX11_init_42 (by omega) (by omega) (fun S15 hS15 => ?_)
  obtain rfl := hS15
  refine pt_Room_guns (v := (some a13)) hκ (nw_old (n := 0) fa13 hR.1) qw_109 (Or.inl rfl) hnm rfl dX11_init_45 ?_
  refine g_gen (P := fun Sz => ∃ la : Nat → Nat, RI e9 x la 4 Sz) (⟨_, hR.step fa13 (by decide)⟩) (fun S16 hP9 => ?_)
  obtain ⟨la, hR⟩ := hP9
  refine g_aload_n hκ 0 dX11_init_48 rfl rfl ?_
  refine gn_List hκ hz qw_35 qw_36 qw_4 (by omega) (by omega) dX11_init_49 (fun a17 fa17 => ?_)
  refine g_dup hκ dX11_init_52 rfl ?_
  refine vI_v hκ hz [] sd_Jx4a65c_init_da8c8 qw_37 (k_init_List e9 (newS S16 a17 11 0) a17 (nw_at fa17)) ⟨rfl, rfl, Nat.le_of_ble_eq_true rfl, Nat.le_of_ble_eq_true rfl⟩ rfl rfl (Nat.le_of_ble_eq_true rfl) dX11_init_53 (by omega) (by omega) (fun S19 hS19 => ?_)
  obtain rfl := hS19
  refine pt_Room_towns (v := (some a17)) hκ (nw_old (n := 0) fa17 hR.1) qw_110 (Or.inl rfl) hnm rfl dX11_init_56 ?_
  refine g_gen (P := fun Sz => ∃ la : Nat → Nat, RI e9 x la 5 Sz) (⟨_, hR.step fa17 (by decide)⟩) (fun S20 hP9 => ?_)
  obtain ⟨la, hR⟩ := hP9
  refine g_aload_n hκ 0 dX11_init_59 rfl rfl ?_
  refine gn_List hκ hz qw_35 qw_36 qw_4 (by omega) (by omega) dX11_init_60 (fun a21 fa21 => ?_)
  refine g_dup hκ dX11_init_63 rfl ?_
  refine vI_v hκ hz [] sd_Jx4a65c_init_da8c8 qw_37 (k_init_List e9 (newS S20 a21 11 0) a21 (nw_at fa21)) ⟨rfl, rfl, Nat.le_of_ble_eq_true rfl, Nat.le_of_ble_eq_true rfl⟩ rfl rfl (Nat.le_of_ble_eq_true rfl) dX11_init_64 (by omega) (by omega) (fun S23 hS23 => ?_)
  obtain rfl := hS23
  refine pt_Room_flights (v := (some a21)) hκ (nw_old (n := 0) fa21 hR.1) qw_111 (Or.inl rfl) hnm rfl dX11_init_67 ?_
  refine g_gen (P := fun Sz => ∃ la : Nat → Nat, RI e9 x la 6 Sz) (⟨_, hR.step fa21 (by decide)⟩) (fun S24 hP9 => ?_)
  obtain ⟨la, hR⟩ := hP9
  refine g_aload_n hκ 0 dX11_init_70 rfl rfl ?_
  refine gn_List hκ hz qw_35 qw_36 qw_4 (by omega) (by omega) dX11_init_71 (fun a25 fa25 => ?_)
  refine g_dup hκ dX11_init_74 rfl ?_
  refine vI_v hκ hz [] sd_Jx4a65c_init_da8c8 qw_37 (k_init_List e9 (newS S24 a25 11 0) a25 (nw_at fa25)) ⟨rfl, rfl, Nat.le_of_ble_eq_true rfl, Nat.le_of_ble_eq_true rfl⟩ rfl rfl (Nat.le_of_ble_eq_true rfl) dX11_init_75 (by omega) (by omega) (fun S27 hS27 => ?_)
  obtain rfl := hS27
  refine pt_Room_plans (v := (some a25)) hκ (nw_old (n := 0) fa25 hR.1) qw_112 (Or.inl rfl) hnm rfl dX11_init_78 ?_
  refine g_gen (P := fun Sz => ∃ la : Nat → Nat, RI e9 x la 7 Sz) (⟨_, hR.step fa25 (by decide)⟩) (fun S28 hP9 => ?_)
  obtain ⟨la, hR⟩ := hP9
  refine g_aload_n hκ 0 dX11_init_81 rfl rfl ?_
  refine gn_List hκ hz qw_35 qw_36 qw_4 (by omega) (by omega) dX11_init_82 (fun a29 fa29 => ?_)
  refine g_dup hκ dX11_init_85 rfl ?_
  refine vI_v hκ hz [] sd_Jx4a65c_init_da8c8 qw_37 (k_init_List e9 (newS S28 a29 11 0) a29 (nw_at fa29)) ⟨rfl, rfl, Nat.le_of_ble_eq_true rfl, Nat.le_of_ble_eq_true rfl⟩ rfl rfl (Nat.le_of_ble_eq_true rfl) dX11_init_86 (by omega) (by omega) (fun S31 hS31 => ?_)
  obtain rfl := hS31
  refine pt_Room_tracks (v := (some a29)) hκ (nw_old (n := 0) fa29 hR.1) qw_113 (Or.inl rfl) hnm rfl dX11_init_89 ?_
  refine g_gen (P := fun Sz => ∃ la : Nat → Nat, RI e9 x la 8 Sz) (⟨_, hR.step fa29 (by decide)⟩) (fun S32 hP9 => ?_)
  obtain ⟨la, hR⟩ := hP9
  refine g_aload_n hκ 0 dX11_init_92 rfl rfl ?_
  refine gn_List hκ hz qw_35 qw_36 qw_4 (by omega) (by omega) dX11_init_93 (fun a33 fa33 => ?_)
  refine g_dup hκ dX11_init_96 rfl ?_
  refine vI_v hκ hz [] sd_Jx4a65c_init_da8c8 qw_37 (k_init_List e9 (newS S32 a33 11 0) a33 (nw_at fa33)) ⟨rfl, rfl, Nat.le_of_ble_eq_true rfl, Nat.le_of_ble_eq_true rfl⟩ rfl rfl (Nat.le_of_ble_eq_true rfl) dX11_init_97 (by omega) (by omega) (fun S35 hS35 => ?_)
  obtain rfl := hS35
  refine pt_Room_plots (v := (some a33)) hκ (nw_old (n := 0) fa33 hR.1) qw_114 (Or.inl rfl) hnm rfl dX11_init_100 ?_
  refine g_gen (P := fun Sz => ∃ la : Nat → Nat, RI e9 x la 9 Sz) (⟨_, hR.step fa33 (by decide)⟩) (fun S36 hP9 => ?_)
  obtain ⟨la, hR⟩ := hP9
  refine g_aload_n hκ 0 dX11_init_103 rfl rfl ?_
  refine gn_Lots hκ hz qw_61 qw_62 qw_5 (by omega) (by omega) dX11_init_104 (fun a37 fa37 => ?_)
  refine g_dup hκ dX11_init_107 rfl ?_
  refine vI_v hκ hz [] sd_X2_init qw_63 (k_init_Lots e9 (newS S36 a37 2 0) a37 (nw_at fa37)) ⟨rfl, rfl, Nat.le_of_ble_eq_true rfl, Nat.le_of_ble_eq_true rfl⟩ rfl rfl (Nat.le_of_ble_eq_true rfl) dX11_init_108 (by omega) (by omega) (fun S39 hS39 => ?_)
  obtain rfl := hS39
  refine pt_Room_lots (v := (some a37)) hκ (nw_old (n := 0) fa37 hR.1) qw_116 (Or.inl rfl) hnm rfl dX11_init_111 ?_
  refine g_gen (P := fun Sz => RI e9 x la 9 Sz ∧ RIl x a37 Sz) (hR.lots fa37) (fun S40 hP9 => ?_)
  obtain ⟨hR, hRl⟩ := hP9
  refine g_aload_n hκ 0 dX11_init_114 rfl rfl ?_
  refine gn_Tally hκ hz qw_75 qw_76 qw_6 (by omega) (by omega) dX11_init_115 (fun a41 fa41 => ?_)
  refine g_dup hκ dX11_init_118 rfl ?_
  refine vIN_v (host := "Plotroom") hκ hz [] sd_X8_init (by decide +kernel) (k_init_Tally e9 (newS S40 a41 7 0) a41 (nw_at fa41)) ⟨rfl, rfl, Nat.le_of_ble_eq_true rfl, Nat.le_of_ble_eq_true rfl⟩ rfl rfl (Nat.le_of_ble_eq_true rfl) dX11_init_119 (by omega) (by omega) (fun S43 hS43 => ?_)
  obtain rfl := hS43
  refine pt_Room_tally (v := (some a41)) hκ (nw_old (n := 0) fa41 hR.1) qw_117 (Or.inl rfl) hnm rfl dX11_init_122 ?_
  refine g_gen (P := fun Sz => RI e9 x la 9 Sz ∧ RIl x a37 Sz ∧ RIt x a41 Sz) (hR.tally hRl fa41) (fun S44 hP9 => ?_)
  obtain ⟨hR, hRl, hRt⟩ := hP9
  refine g_aload_n hκ 0 dX11_init_125 rfl rfl ?_
  refine g_bipush hκ (v := 12) dX11_init_126 (by decide) ?_
  refine pt_Room_gateRadius hκ hR.1 qw_119 (Or.inl rfl) dX11_init_128 ?_
  exact hend _ _ _ _ _ dX11_init_131 (⟨_, _, la, RI.iv (hR.ch (ch_I (cs := [q_Room_gateRadius]) (rs := []) (by decide)) (by decide) (fun c hc => absurd hc List.not_mem_nil)) (hRl.ch hR.1.1 (ch_I (cs := [q_Room_gateRadius]) (rs := []) (by decide)) (by decide) (by decide)) (hRt.ch hR.1.1 (ch_I (cs := [q_Room_gateRadius]) (rs := []) (by decide)) (by decide) (by decide)), (hRt.ch hR.1.1 (ch_I (cs := [q_Room_gateRadius]) (rs := []) (by decide)) (by decide) (by decide)).2.2.2.2.2⟩)
