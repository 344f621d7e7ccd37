set_option maxHeartbeats 4000000 in
set_option maxRecDepth 100000 in
theorem k_scramble (e9 : Nat × Nat) (S : wPS) (x lo ta : Nat) (la : Nat → Nat) (M cnts : Nat) (told : Int32) (el : Nat → Nat → Nat) (sz cp : Nat → Nat) (pw ow dn : Nat) (iq it : Nat) (hI : IV e9 x lo ta la M cnts told S el sz cp pw ow dn) (hiq : iq < sz 2) (hit : it < sz 7) : MXi e9 yX11_scramble cX11_scramble 5 (some .int) ({ frames := 6, cells := 1, slots := 6, locals := 86 }) S [.ref x, .int (nI iq), .int (nI it)] (fun _ S1 => ∃ dd : Int32, IV e9 x lo ta la M cnts (told + dd) S1 el sz cp pw ow dn ∧ sI S1 q_Squadron_machines (el 2 iq) = sI S q_Squadron_machines (el 2 iq) + dd) 1 6 := by
  refine stX_i (post := (fun _ S1 => ∃ dd : Int32, IV e9 x lo ta la M cnts (told + dd) S1 el sz cp pw ow dn ∧ sI S1 q_Squadron_machines (el 2 iq) = sI S q_Squadron_machines (el 2 iq) + dd)) (by decide) rfl (Nat.le_of_ble_eq_true rfl) ⟨Nat.le_refl _, Nat.le_refl _⟩ (Nat.le_of_ble_eq_true rfl) rfl (fun _ _ _ => rfl) (fun κ hκ hz hend hthr => ?_)
  show Gj κ _ 0 [(0, .ref x), (1, .int (nI iq)), (2, .int (nI it))] []
  have hM := hI.1.rm
  have hMc := hM
  obtain ⟨hx, ⟨f0, L0⟩, ⟨f1, L1⟩, ⟨f2, L2⟩, ⟨f3, L3⟩, ⟨f4, L4⟩, ⟨f5, L5⟩, ⟨f6, L6⟩, ⟨f7, L7⟩, ⟨f8, L8⟩, ⟨flo, hlo⟩, ⟨fta, hta⟩⟩ := hMc
  have b0 := L0.2.2.1
  have b2 := L2.2.2.1
  have b3 := L3.2.2.1
  have b4 := L4.2.2.1
  have b5 := L5.2.2.1
  have b7 := L7.2.2.1
  have b8 := L8.2.2.1
  have hSQ := (hI.2.2.1).sq
  refine g_iload_n hκ 1 dX11_scramble_0 rfl rfl ?_
  refine g_aload_n hκ 0 dX11_scramble_1 rfl rfl ?_
  refine gt_Room_squadrons hκ (hdV hz) hx qw_108 (Or.inl rfl) dX11_scramble_2 ?_
  refine g_rf f2 ?_
  refine rV_i hκ (hdV hz) [] sd_Jx4a65c_size_8abf5 qw_227 (fun D cO H s hK hP => rc_List hK hP L2.1) (k_sizeL S (la 2) 6 (sz 2) (el 2) L2) ⟨rfl, rfl, Nat.le_of_ble_eq_true rfl, Nat.le_of_ble_eq_true rfl⟩ rfl rfl (Nat.le_of_ble_eq_true rfl) dX11_scramble_5 (fun r1 hr1 => ?_)
  refine g_eqi hr1 ?_
  refine rS_i hκ (hdV hz) [.int (nI iq), .int (nI (sz 2))] sd_X11_isNumber qw_417 (k_isNumber S (nI iq) (nI (sz 2))) ⟨rfl, rfl, Nat.le_of_ble_eq_true rfl, Nat.le_of_ble_eq_true rfl⟩ rfl rfl (Nat.le_of_ble_eq_true rfl) dX11_scramble_8 (fun r2 hr2 => ?_)
  refine g_eqi (y := 1) (hr2.trans (congrArg zb (isNum_n hiq (by omega)))) ?_
  refine g_if_eq hκ 28 dX11_scramble_11 (by decide) (fun z => absurd z (by decide)) (fun _ => ?_)
  refine g_iload_n hκ 2 dX11_scramble_14 rfl rfl ?_
  refine g_aload_n hκ 0 dX11_scramble_15 rfl rfl ?_
  refine gt_Room_tracks hκ (hdV hz) hx qw_113 (Or.inl rfl) dX11_scramble_16 ?_
  refine g_rf f7 ?_
  refine rV_i hκ (hdV hz) [] sd_Jx4a65c_size_8abf5 qw_227 (fun D cO H s hK hP => rc_List hK hP L7.1) (k_sizeL S (la 7) 9 (sz 7) (el 7) L7) ⟨rfl, rfl, Nat.le_of_ble_eq_true rfl, Nat.le_of_ble_eq_true rfl⟩ rfl rfl (Nat.le_of_ble_eq_true rfl) dX11_scramble_19 (fun r3 hr3 => ?_)
  refine g_eqi hr3 ?_
  refine rS_i hκ (hdV hz) [.int (nI it), .int (nI (sz 7))] sd_X11_isNumber qw_417 (k_isNumber S (nI it) (nI (sz 7))) ⟨rfl, rfl, Nat.le_of_ble_eq_true rfl, Nat.le_of_ble_eq_true rfl⟩ rfl rfl (Nat.le_of_ble_eq_true rfl) dX11_scramble_22 (fun r4 hr4 => ?_)
  refine g_eqi (y := 1) (hr4.trans (congrArg zb (isNum_n hit (by omega)))) ?_
  refine g_if_ne hκ 38 dX11_scramble_25 (by decide) (fun _ => ?_) (fun z => absurd z (by decide))
  refine g_aload_n hκ 0 dX11_scramble_38 rfl rfl ?_
  refine gt_Room_squadrons hκ (hdV hz) hx qw_108 (Or.inl rfl) dX11_scramble_39 ?_
  refine g_rf f2 ?_
  refine g_iload_n hκ 1 dX11_scramble_42 rfl rfl ?_
  refine rV_q hκ (hdV hz) [.int (nI iq)] sd_Jx4a65c_get_915e3 qw_440 (fun D cO H s hK hP => rc_List hK hP L2.1) (k_get S (la 2) 6 (sz 2) iq (el 2) (nI iq) L2 rfl hiq) ⟨rfl, rfl, Nat.le_of_ble_eq_true rfl, Nat.le_of_ble_eq_true rfl⟩ rfl rfl (Nat.le_of_ble_eq_true rfl) dX11_scramble_43 (fun r5 hr5 => ?_)
  refine g_rf hr5 ?_
  refine gc_Squadron hκ (hdV hz) (L2.2.2.2.2 iq hiq) qw_438 dX11_scramble_46 ?_
  refine g_astore_n hκ [(3, .ref (el 2 iq)), (0, .ref x), (1, .int (nI iq)), (2, .int (nI it))] dX11_scramble_49 rfl (by decide) rfl ?_
  refine g_aload_n hκ 1 dX11_scramble_50 rfl rfl ?_
  refine gt_Room_tracks hκ (hdV hz) hx qw_113 (Or.inl rfl) dX11_scramble_51 ?_
  refine g_rf f7 ?_
  refine g_iload_n hκ 3 dX11_scramble_54 rfl rfl ?_
  refine rV_q hκ (hdV hz) [.int (nI it)] sd_Jx4a65c_get_915e3 qw_440 (fun D cO H s hK hP => rc_List hK hP L7.1) (k_get S (la 7) 9 (sz 7) it (el 7) (nI it) L7 rfl hit) ⟨rfl, rfl, Nat.le_of_ble_eq_true rfl, Nat.le_of_ble_eq_true rfl⟩ rfl rfl (Nat.le_of_ble_eq_true rfl) dX11_scramble_55 (fun r6 hr6 => ?_)
  refine g_rf hr6 ?_
  refine gc_Track hκ (hdV hz) (L7.2.2.2.2 it hit) qw_675 dX11_scramble_58 ?_
  refine g_astore hκ [(4, .ref (el 7 it)), (3, .ref (el 2 iq)), (0, .ref x), (1, .int (nI iq)), (2, .int (nI it))] dX11_scramble_61 (by decide) rfl ?_
  refine g_aload_n hκ 1 dX11_scramble_63 rfl rfl ?_
  refine rV_i hκ (hdV hz) [] sd_X7_canStart qw_935 (fun D cO H s hK hP => rc_Squadron hK hP (L2.2.2.2.2 iq hiq)) (k_canStart S (el 2 iq) (L2.2.2.2.2 iq hiq)) ⟨rfl, rfl, Nat.le_of_ble_eq_true rfl, Nat.le_of_ble_eq_true rfl⟩ rfl rfl (Nat.le_of_ble_eq_true rfl) dX11_scramble_64 (fun r7 hr7 => ?_)
  obtain ⟨b8, rfl⟩ | ⟨b8, rfl⟩ := zb_cases hr7
  · skip
    refine g_if_eq hκ 86 dX11_scramble_67 (by decide) (fun z => absurd z (by decide)) (fun _ => ?_)
    refine g_aload hκ 0 dX11_scramble_70 rfl ?_
    refine gtN_Track_isLive (host := "Plotroom") hκ (hdV hz) (L7.2.2.2.2 it hit) (by decide +kernel) (Or.inl rfl) dX11_scramble_72 ?_
    refine g_if_eq hκ 86 dX11_scramble_75 (by decide) (fun c9 => ?_) (fun c9 => ?_)
    · skip
      exact hthr _ _ "the squadron can not be scrambled to that" _ _ _ _ dX11_scramble_86 dX11_scramble_89 dX11_scramble_90 dX11_scramble_92 dX11_scramble_95 (by decide) (by omega) (by omega) (Nat.le_of_ble_eq_true rfl)
    · skip
      refine g_aload_n hκ 2 dX11_scramble_78 rfl rfl ?_
      refine rV_i hκ (hdV hz) [] sd_X11_countTalks qw_902 (fun D cO H s hK hP => rc_Room hK hP hx) (k_countTalks S x lo ta la el sz hM) ⟨rfl, rfl, Nat.le_of_ble_eq_true rfl, Nat.le_of_ble_eq_true rfl⟩ rfl rfl (Nat.le_of_ble_eq_true rfl) dX11_scramble_79 (fun r10 hr10 => ?_)
      refine g_eqi hr10 ?_
      refine g_iconst hκ (v := 3) dX11_scramble_82 (by decide) ?_
      refine g_icmp_lt hκ 96 dX11_scramble_83 (by decide) (fun c11 => ?_) (fun c11 => ?_)
      · skip
        refine g_aload_n hκ 1 dX11_scramble_96 rfl rfl ?_
        refine g_aload hκ 0 dX11_scramble_97 rfl ?_
        refine g_aload_n hκ 2 dX11_scramble_99 rfl rfl ?_
        refine gt_Room_minute hκ (hdV hz) hx qw_118 (Or.inl rfl) dX11_scramble_100 ?_
        refine g_aload_n hκ 1 dX11_scramble_103 rfl rfl ?_
        refine gtN_Squadron_ready (host := "Plotroom") hκ (hdV hz) (L2.2.2.2.2 iq hiq) (by decide +kernel) (Or.inl rfl) dX11_scramble_104 ?_
        refine g_iadd hκ dX11_scramble_107 ?_
        refine vV_v hκ hz [.ref (el 7 it), .int ((sI S q_Room_minute x) + (sI S q_Squadron_ready (el 2 iq)))] sd_X7_order qw_1043 (fun D cO H s hK hP => rc_Squadron hK hP (L2.2.2.2.2 iq hiq)) (k_order e9 S (el 2 iq) (el 7 it) ((sI S q_Room_minute x) + (sI S q_Squadron_ready (el 2 iq))) (L2.2.2.2.2 iq hiq) (L7.2.2.2.2 it hit)) ⟨rfl, rfl, Nat.le_of_ble_eq_true rfl, Nat.le_of_ble_eq_true rfl⟩ rfl rfl (Nat.le_of_ble_eq_true rfl) dX11_scramble_108 (by omega) (by omega) (fun S13 hS13 => ?_)
        obtain rfl := hS13
        have hF9 : IV e9 x lo ta la M cnts told (orderF S (el 2 iq) (el 7 it) ((sI S q_Room_minute x) + (sI S q_Squadron_ready (el 2 iq)))) el sz cp pw ow dn := IV_scr hI hiq b8 (L7.2.2.2.2 it hit) c11
        refine g_aload_n hκ 1 dX11_scramble_111 rfl rfl ?_
        refine gtN_Squadron_due (host := "Plotroom") hκ (hdV hz) (hF9.1.ob (j := 2) (by decide) hiq) (by decide +kernel) (Or.inl rfl) dX11_scramble_112 ?_
        exact hend _ _ _ _ _ _ dX11_scramble_115 (⟨0, by rw [Int32.add_zero]; exact hF9, by rw [Int32.add_zero]; exact od_i (by decide) (by decide)⟩)
      · skip
        exact hthr _ _ "the squadron can not be scrambled to that" _ _ _ _ dX11_scramble_86 dX11_scramble_89 dX11_scramble_90 dX11_scramble_92 dX11_scramble_95 (by decide) (by omega) (by omega) (Nat.le_of_ble_eq_true rfl)
  · skip
    refine g_if_eq hκ 86 dX11_scramble_67 (by decide) (fun _ => ?_) (fun z => absurd z (by decide))
    exact hthr _ _ "the squadron can not be scrambled to that" _ _ _ _ dX11_scramble_86 dX11_scramble_89 dX11_scramble_90 dX11_scramble_92 dX11_scramble_95 (by decide) (by omega) (by omega) (Nat.le_of_ble_eq_true rfl)
set_option maxHeartbeats 4000000 in
set_option maxRecDepth 100000 in
theorem k_lead (e9 : Nat × Nat) (S : wPS) (x lo ta : Nat) (la : Nat → Nat) (M cnts : Nat) (told : Int32) (el : Nat → Nat → Nat) (sz cp : Nat → Nat) (pw ow dn : Nat) (iq it : Nat) (hI : IV e9 x lo ta la M cnts told S el sz cp pw ow dn) (hiq : iq < sz 2) (hit : it < sz 7) : MXi e9 yX11_lead cX11_lead 6 (some .int) ({ frames := 6, cells := 1, slots := 6, locals := 82 }) S [.ref x, .int (nI iq), .int (nI it)] (fun _ S1 => ∃ dd : Int32, IV e9 x lo ta la M cnts (told + dd) S1 el sz cp pw ow dn ∧ sI S1 q_Squadron_machines (el 2 iq) = sI S q_Squadron_machines (el 2 iq) + dd) 1 6 := by
  refine stX_i (post := (fun _ S1 => ∃ dd : Int32, IV e9 x lo ta la M cnts (told + dd) S1 el sz cp pw ow dn ∧ sI S1 q_Squadron_machines (el 2 iq) = sI S q_Squadron_machines (el 2 iq) + dd)) (by decide) rfl (Nat.le_of_ble_eq_true rfl) ⟨Nat.le_refl _, Nat.le_refl _⟩ (Nat.le_of_ble_eq_true rfl) rfl (fun _ _ _ => rfl) (fun κ hκ hz hend hthr => ?_)
  show Gj κ _ 0 [(0, .ref x), (1, .int (nI iq)), (2, .int (nI it))] []
  have hM := hI.1.rm
  have hMc := hM
  obtain ⟨hx, ⟨f0, L0⟩, ⟨f1, L1⟩, ⟨f2, L2⟩, ⟨f3, L3⟩, ⟨f4, L4⟩, ⟨f5, L5⟩, ⟨f6, L6⟩, ⟨f7, L7⟩, ⟨f8, L8⟩, ⟨flo, hlo⟩, ⟨fta, hta⟩⟩ := hMc
  have b0 := L0.2.2.1
  have b2 := L2.2.2.1
  have b3 := L3.2.2.1
  have b4 := L4.2.2.1
  have b5 := L5.2.2.1
  have b7 := L7.2.2.1
  have b8 := L8.2.2.1
  have hSQ := (hI.2.2.1).sq
  refine g_iload_n hκ 1 dX11_lead_0 rfl rfl ?_
  refine g_aload_n hκ 0 dX11_lead_1 rfl rfl ?_
  refine gt_Room_squadrons hκ (hdV hz) hx qw_108 (Or.inl rfl) dX11_lead_2 ?_
  refine g_rf f2 ?_
  refine rV_i hκ (hdV hz) [] sd_Jx4a65c_size_8abf5 qw_227 (fun D cO H s hK hP => rc_List hK hP L2.1) (k_sizeL S (la 2) 6 (sz 2) (el 2) L2) ⟨rfl, rfl, Nat.le_of_ble_eq_true rfl, Nat.le_of_ble_eq_true rfl⟩ rfl rfl (Nat.le_of_ble_eq_true rfl) dX11_lead_5 (fun r1 hr1 => ?_)
  refine g_eqi hr1 ?_
  refine rS_i hκ (hdV hz) [.int (nI iq), .int (nI (sz 2))] sd_X11_isNumber qw_417 (k_isNumber S (nI iq) (nI (sz 2))) ⟨rfl, rfl, Nat.le_of_ble_eq_true rfl, Nat.le_of_ble_eq_true rfl⟩ rfl rfl (Nat.le_of_ble_eq_true rfl) dX11_lead_8 (fun r2 hr2 => ?_)
  refine g_eqi (y := 1) (hr2.trans (congrArg zb (isNum_n hiq (by omega)))) ?_
  refine g_if_eq hκ 28 dX11_lead_11 (by decide) (fun z => absurd z (by decide)) (fun _ => ?_)
  refine g_iload_n hκ 2 dX11_lead_14 rfl rfl ?_
  refine g_aload_n hκ 0 dX11_lead_15 rfl rfl ?_
  refine gt_Room_tracks hκ (hdV hz) hx qw_113 (Or.inl rfl) dX11_lead_16 ?_
  refine g_rf f7 ?_
  refine rV_i hκ (hdV hz) [] sd_Jx4a65c_size_8abf5 qw_227 (fun D cO H s hK hP => rc_List hK hP L7.1) (k_sizeL S (la 7) 9 (sz 7) (el 7) L7) ⟨rfl, rfl, Nat.le_of_ble_eq_true rfl, Nat.le_of_ble_eq_true rfl⟩ rfl rfl (Nat.le_of_ble_eq_true rfl) dX11_lead_19 (fun r3 hr3 => ?_)
  refine g_eqi hr3 ?_
  refine rS_i hκ (hdV hz) [.int (nI it), .int (nI (sz 7))] sd_X11_isNumber qw_417 (k_isNumber S (nI it) (nI (sz 7))) ⟨rfl, rfl, Nat.le_of_ble_eq_true rfl, Nat.le_of_ble_eq_true rfl⟩ rfl rfl (Nat.le_of_ble_eq_true rfl) dX11_lead_22 (fun r4 hr4 => ?_)
  refine g_eqi (y := 1) (hr4.trans (congrArg zb (isNum_n hit (by omega)))) ?_
  refine g_if_ne hκ 38 dX11_lead_25 (by decide) (fun _ => ?_) (fun z => absurd z (by decide))
  refine g_aload_n hκ 0 dX11_lead_38 rfl rfl ?_
  refine gt_Room_squadrons hκ (hdV hz) hx qw_108 (Or.inl rfl) dX11_lead_39 ?_
  refine g_rf f2 ?_
  refine g_iload_n hκ 1 dX11_lead_42 rfl rfl ?_
  refine rV_q hκ (hdV hz) [.int (nI iq)] sd_Jx4a65c_get_915e3 qw_440 (fun D cO H s hK hP => rc_List hK hP L2.1) (k_get S (la 2) 6 (sz 2) iq (el 2) (nI iq) L2 rfl hiq) ⟨rfl, rfl, Nat.le_of_ble_eq_true rfl, Nat.le_of_ble_eq_true rfl⟩ rfl rfl (Nat.le_of_ble_eq_true rfl) dX11_lead_43 (fun r5 hr5 => ?_)
  refine g_rf hr5 ?_
  refine gc_Squadron hκ (hdV hz) (L2.2.2.2.2 iq hiq) qw_438 dX11_lead_46 ?_
  refine g_astore_n hκ [(3, .ref (el 2 iq)), (0, .ref x), (1, .int (nI iq)), (2, .int (nI it))] dX11_lead_49 rfl (by decide) rfl ?_
  refine g_aload_n hκ 1 dX11_lead_50 rfl rfl ?_
  refine gt_Room_tracks hκ (hdV hz) hx qw_113 (Or.inl rfl) dX11_lead_51 ?_
  refine g_rf f7 ?_
  refine g_iload_n hκ 3 dX11_lead_54 rfl rfl ?_
  refine rV_q hκ (hdV hz) [.int (nI it)] sd_Jx4a65c_get_915e3 qw_440 (fun D cO H s hK hP => rc_List hK hP L7.1) (k_get S (la 7) 9 (sz 7) it (el 7) (nI it) L7 rfl hit) ⟨rfl, rfl, Nat.le_of_ble_eq_true rfl, Nat.le_of_ble_eq_true rfl⟩ rfl rfl (Nat.le_of_ble_eq_true rfl) dX11_lead_55 (fun r6 hr6 => ?_)
  refine g_rf hr6 ?_
  refine gc_Track hκ (hdV hz) (L7.2.2.2.2 it hit) qw_675 dX11_lead_58 ?_
  refine g_astore hκ [(4, .ref (el 7 it)), (3, .ref (el 2 iq)), (0, .ref x), (1, .int (nI iq)), (2, .int (nI it))] dX11_lead_61 (by decide) rfl ?_
  refine g_aload_n hκ 1 dX11_lead_63 rfl rfl ?_
  refine rV_i hκ (hdV hz) [] sd_X7_isTalkedTo qw_906 (fun D cO H s hK hP => rc_Squadron hK hP (L2.2.2.2.2 iq hiq)) (k_isTalkedTo S (el 2 iq) (L2.2.2.2.2 iq hiq)) ⟨rfl, rfl, Nat.le_of_ble_eq_true rfl, Nat.le_of_ble_eq_true rfl⟩ rfl rfl (Nat.le_of_ble_eq_true rfl) dX11_lead_64 (fun r7 hr7 => ?_)
  obtain ⟨b8, rfl⟩ | ⟨b8, rfl⟩ := zb_cases hr7
  · skip
    refine g_if_eq hκ 78 dX11_lead_67 (by decide) (fun z => absurd z (by decide)) (fun _ => ?_)
    refine g_aload hκ 0 dX11_lead_70 rfl ?_
    refine gtN_Track_isLive (host := "Plotroom") hκ (hdV hz) (L7.2.2.2.2 it hit) (by decide +kernel) (Or.inl rfl) dX11_lead_72 ?_
    refine g_if_ne hκ 88 dX11_lead_75 (by decide) (fun c9 => ?_) (fun c9 => ?_)
    · skip
      refine g_aload_n hκ 1 dX11_lead_88 rfl rfl ?_
      refine rV_i hκ (hdV hz) [] sd_X7_targetNumber qw_1014 (fun D cO H s hK hP => rc_Squadron hK hP (L2.2.2.2.2 iq hiq)) (k_targetNumber S (el 2 iq) (L2.2.2.2.2 iq hiq) (hSQ iq hiq).2) ⟨rfl, rfl, Nat.le_of_ble_eq_true rfl, Nat.le_of_ble_eq_true rfl⟩ rfl rfl (Nat.le_of_ble_eq_true rfl) dX11_lead_89 (fun r10 hr10 => ?_)
      refine g_eqi hr10 ?_
      refine g_istore hκ [(5, .int (tnF S (el 2 iq))), (4, .ref (el 7 it)), (3, .ref (el 2 iq)), (0, .ref x), (1, .int (nI iq)), (2, .int (nI it))] dX11_lead_92 (by decide) rfl ?_
      refine g_aload_n hκ 2 dX11_lead_94 rfl rfl ?_
      refine g_aload hκ 1 dX11_lead_95 rfl ?_
      refine ptN_Squadron_target (host := "Plotroom") (v := (some (el 7 it))) hκ (L2.2.2.2.2 iq hiq) (by decide +kernel) (Or.inl rfl) dX11_lead_97 ?_
      refine g_iload hκ 0 dX11_lead_100 rfl ?_
      exact hend _ _ _ _ _ _ dX11_lead_102 (⟨0, by rw [Int32.add_zero]; exact IV_lead hI hiq (hI.1.ob (j := 7) (by decide) hit), by rw [Int32.add_zero]; exact rfl⟩)
    · skip
      exact hthr _ _ "the squadron can not be led to that" _ _ _ _ dX11_lead_78 dX11_lead_81 dX11_lead_82 dX11_lead_84 dX11_lead_87 (by decide) (by omega) (by omega) (Nat.le_of_ble_eq_true rfl)
  · skip
    refine g_if_eq hκ 78 dX11_lead_67 (by decide) (fun _ => ?_) (fun z => absurd z (by decide))
    exact hthr _ _ "the squadron can not be led to that" _ _ _ _ dX11_lead_78 dX11_lead_81 dX11_lead_82 dX11_lead_84 dX11_lead_87 (by decide) (by omega) (by omega) (Nat.le_of_ble_eq_true rfl)
set_option maxHeartbeats 4000000 in
set_option maxRecDepth 100000 in
theorem k_back (e9 : Nat × Nat) (S : wPS) (x lo ta : Nat) (la : Nat → Nat) (M cnts : Nat) (told : Int32) (el : Nat → Nat → Nat) (sz cp : Nat → Nat) (pw ow dn : Nat) (iq : Nat) (hI : IV e9 x lo ta la M cnts told S el sz cp pw ow dn) (hiq : iq < sz 2) : MXi e9 yX11_back cX11_back 3 (some .int) ({ frames := 6, cells := 1, slots := 6, locals := 82 }) S [.ref x, .int (nI iq)] (fun _ S1 => ∃ dd : Int32, IV e9 x lo ta la M cnts (told + dd) S1 el sz cp pw ow dn ∧ sI S1 q_Squadron_machines (el 2 iq) = sI S q_Squadron_machines (el 2 iq) + dd) 1 6 := by
  refine stX_i (post := (fun _ S1 => ∃ dd : Int32, IV e9 x lo ta la M cnts (told + dd) S1 el sz cp pw ow dn ∧ sI S1 q_Squadron_machines (el 2 iq) = sI S q_Squadron_machines (el 2 iq) + dd)) (by decide) rfl (Nat.le_of_ble_eq_true rfl) ⟨Nat.le_refl _, Nat.le_refl _⟩ (Nat.le_of_ble_eq_true rfl) rfl (fun _ _ _ => rfl) (fun κ hκ hz hend hthr => ?_)
  show Gj κ _ 0 [(0, .ref x), (1, .int (nI iq))] []
  have hM := hI.1.rm
  have hMc := hM
  obtain ⟨hx, ⟨f0, L0⟩, ⟨f1, L1⟩, ⟨f2, L2⟩, ⟨f3, L3⟩, ⟨f4, L4⟩, ⟨f5, L5⟩, ⟨f6, L6⟩, ⟨f7, L7⟩, ⟨f8, L8⟩, ⟨flo, hlo⟩, ⟨fta, hta⟩⟩ := hMc
  have b0 := L0.2.2.1
  have b2 := L2.2.2.1
  have b3 := L3.2.2.1
  have b4 := L4.2.2.1
  have b5 := L5.2.2.1
  have b7 := L7.2.2.1
  have b8 := L8.2.2.1
  have hSQ := (hI.2.2.1).sq
  obtain ⟨⟨b, fb, hb⟩, -⟩ := hSQ iq hiq
  refine g_iload_n hκ 1 dX11_back_0 rfl rfl ?_
  refine g_aload_n hκ 0 dX11_back_1 rfl rfl ?_
  refine gt_Room_squadrons hκ (hdV hz) hx qw_108 (Or.inl rfl) dX11_back_2 ?_
  refine g_rf f2 ?_
  refine rV_i hκ (hdV hz) [] sd_Jx4a65c_size_8abf5 qw_227 (fun D cO H s hK hP => rc_List hK hP L2.1) (k_sizeL S (la 2) 6 (sz 2) (el 2) L2) ⟨rfl, rfl, Nat.le_of_ble_eq_true rfl, Nat.le_of_ble_eq_true rfl⟩ rfl rfl (Nat.le_of_ble_eq_true rfl) dX11_back_5 (fun r1 hr1 => ?_)
  refine g_eqi hr1 ?_
  refine rS_i hκ (hdV hz) [.int (nI iq), .int (nI (sz 2))] sd_X11_isNumber qw_417 (k_isNumber S (nI iq) (nI (sz 2))) ⟨rfl, rfl, Nat.le_of_ble_eq_true rfl, Nat.le_of_ble_eq_true rfl⟩ rfl rfl (Nat.le_of_ble_eq_true rfl) dX11_back_8 (fun r2 hr2 => ?_)
  refine g_eqi (y := 1) (hr2.trans (congrArg zb (isNum_n hiq (by omega)))) ?_
  refine g_if_ne hκ 24 dX11_back_11 (by decide) (fun _ => ?_) (fun z => absurd z (by decide))
  refine g_aload_n hκ 0 dX11_back_24 rfl rfl ?_
  refine gt_Room_squadrons hκ (hdV hz) hx qw_108 (Or.inl rfl) dX11_back_25 ?_
  refine g_rf f2 ?_
  refine g_iload_n hκ 1 dX11_back_28 rfl rfl ?_
  refine rV_q hκ (hdV hz) [.int (nI iq)] sd_Jx4a65c_get_915e3 qw_440 (fun D cO H s hK hP => rc_List hK hP L2.1) (k_get S (la 2) 6 (sz 2) iq (el 2) (nI iq) L2 rfl hiq) ⟨rfl, rfl, Nat.le_of_ble_eq_true rfl, Nat.le_of_ble_eq_true rfl⟩ rfl rfl (Nat.le_of_ble_eq_true rfl) dX11_back_29 (fun r3 hr3 => ?_)
  refine g_rf hr3 ?_
  refine gc_Squadron hκ (hdV hz) (L2.2.2.2.2 iq hiq) qw_438 dX11_back_32 ?_
  refine g_astore_n hκ [(2, .ref (el 2 iq)), (0, .ref x), (1, .int (nI iq))] dX11_back_35 rfl (by decide) rfl ?_
  refine g_aload_n hκ 0 dX11_back_36 rfl rfl ?_
  refine rV_i hκ (hdV hz) [] sd_X7_isTalkedTo qw_906 (fun D cO H s hK hP => rc_Squadron hK hP (L2.2.2.2.2 iq hiq)) (k_isTalkedTo S (el 2 iq) (L2.2.2.2.2 iq hiq)) ⟨rfl, rfl, Nat.le_of_ble_eq_true rfl, Nat.le_of_ble_eq_true rfl⟩ rfl rfl (Nat.le_of_ble_eq_true rfl) dX11_back_37 (fun r4 hr4 => ?_)
  obtain ⟨b5, rfl⟩ | ⟨b5, rfl⟩ := zb_cases hr4
  · skip
    refine g_if_ne hκ 53 dX11_back_40 (by decide) (fun _ => ?_) (fun z => absurd z (by decide))
    refine g_aload_n hκ 0 dX11_back_53 rfl rfl ?_
    refine gtN_Squadron_state (host := "Plotroom") hκ (hdV hz) (L2.2.2.2.2 iq hiq) (by decide +kernel) (Or.inl rfl) dX11_back_54 ?_
    refine g_iconst hκ (v := 1) dX11_back_57 (by decide) ?_
    refine g_icmp_ne hκ 70 dX11_back_58 (by decide) (fun c6 => ?_) (fun c6 => ?_)
    · skip
      refine g_aload_n hκ 0 dX11_back_70 rfl rfl ?_
      refine vV_v hκ hz [] sd_X7_headHome qw_771 (fun D cO H s hK hP => rc_Squadron hK hP (L2.2.2.2.2 iq hiq)) (k_headHome e9 S (el 2 iq) (L2.2.2.2.2 iq hiq)) ⟨rfl, rfl, Nat.le_of_ble_eq_true rfl, Nat.le_of_ble_eq_true rfl⟩ rfl rfl (Nat.le_of_ble_eq_true rfl) dX11_back_71 (by omega) (by omega) (fun S8 hS8 => ?_)
      obtain rfl := hS8
      have hF9 : IV e9 x lo ta la M cnts told (headHomeF S (el 2 iq)) el sz cp pw ow dn := IV_back2 hI hiq b5 c6
      refine g_aload_n hκ 0 dX11_back_74 rfl rfl ?_
      refine gtN_Squadron_state (host := "Plotroom") hκ (hdV hz) (hF9.1.ob (j := 2) (by decide) hiq) (by decide +kernel) (Or.inl rfl) dX11_back_75 ?_
      exact hend _ _ _ _ _ _ dX11_back_78 (⟨0, by rw [Int32.add_zero]; exact hF9, by rw [Int32.add_zero]; exact hh_i (by decide)⟩)
    · skip
      refine g_aload_n hκ 0 dX11_back_61 rfl rfl ?_
      refine g_iconst hκ (v := 0) dX11_back_62 (by decide) ?_
      refine g_iconst hκ (v := (-1)) dX11_back_63 (by decide) ?_
      refine vV_v hκ hz [.int 0, .int (-1)] sd_X7_rest qw_779 (fun D cO H s hK hP => rc_Squadron hK hP (L2.2.2.2.2 iq hiq)) (k_rest e9 S (el 2 iq) 0 (-1) b (L2.2.2.2.2 iq hiq) fb hb) ⟨rfl, rfl, Nat.le_of_ble_eq_true rfl, Nat.le_of_ble_eq_true rfl⟩ rfl rfl (Nat.le_of_ble_eq_true rfl) dX11_back_64 (by omega) (by omega) (fun S10 hS10 => ?_)
      obtain rfl := hS10
      have hF9 : IV e9 x lo ta la M cnts told (restF S (el 2 iq) 0 (-1) b) el sz cp pw ow dn := IV_back1 hI hiq fb
      refine g_goto hκ 74 dX11_back_67 (by decide) ?_
      refine g_aload_n hκ 0 dX11_back_74 rfl rfl ?_
      refine gtN_Squadron_state (host := "Plotroom") hκ (hdV hz) (hF9.1.ob (j := 2) (by decide) hiq) (by decide +kernel) (Or.inl rfl) dX11_back_75 ?_
      exact hend _ _ _ _ _ _ dX11_back_78 (⟨0, by rw [Int32.add_zero]; exact hF9, by rw [Int32.add_zero]; exact rest_mach⟩)
  · skip
    refine g_if_ne hκ 53 dX11_back_40 (by decide) (fun z => absurd z (by decide)) (fun _ => ?_)
    exact hthr _ _ "the squadron is neither ordered nor up" _ _ _ _ dX11_back_43 dX11_back_46 dX11_back_47 dX11_back_49 dX11_back_52 (by decide) (by omega) (by omega) (Nat.le_of_ble_eq_true rfl)
set_option maxHeartbeats 4000000 in
set_option maxRecDepth 100000 in
theorem k_reinforce (e9 : Nat × Nat) (S : wPS) (x lo ta : Nat) (la : Nat → Nat) (M cnts : Nat) (told : Int32) (el : Nat → Nat → Nat) (sz cp : Nat → Nat) (pw ow dn : Nat) (iq nn : Nat) (hI : IV e9 x lo ta la M cnts told S el sz cp pw ow dn) (hiq : iq < sz 2) (hn1 : 1 ≤ nn) (hn2 : nn ≤ 12) : MXi e9 yX11_reinforce cX11_reinforce 4 (some .int) ({ frames := 6, cells := 1, slots := 6, locals := 82 }) S [.ref x, .int (nI iq), .int (nI nn)] (fun _ S1 => ∃ dd : Int32, IV e9 x lo ta la M cnts (told + dd) S1 el sz cp pw ow dn ∧ sI S1 q_Squadron_machines (el 2 iq) = sI S q_Squadron_machines (el 2 iq) + dd) 1 6 := by
  refine stX_i (post := (fun _ S1 => ∃ dd : Int32, IV e9 x lo ta la M cnts (told + dd) S1 el sz cp pw ow dn ∧ sI S1 q_Squadron_machines (el 2 iq) = sI S q_Squadron_machines (el 2 iq) + dd)) (by decide) rfl (Nat.le_of_ble_eq_true rfl) ⟨Nat.le_refl _, Nat.le_refl _⟩ (Nat.le_of_ble_eq_true rfl) rfl (fun _ _ _ => rfl) (fun κ hκ hz hend hthr => ?_)
  show Gj κ _ 0 [(0, .ref x), (1, .int (nI iq)), (2, .int (nI nn))] []
  have hM := hI.1.rm
  have hMc := hM
  obtain ⟨hx, ⟨f0, L0⟩, ⟨f1, L1⟩, ⟨f2, L2⟩, ⟨f3, L3⟩, ⟨f4, L4⟩, ⟨f5, L5⟩, ⟨f6, L6⟩, ⟨f7, L7⟩, ⟨f8, L8⟩, ⟨flo, hlo⟩, ⟨fta, hta⟩⟩ := hMc
  have b0 := L0.2.2.1
  have b2 := L2.2.2.1
  have b3 := L3.2.2.1
  have b4 := L4.2.2.1
  have b5 := L5.2.2.1
  have b7 := L7.2.2.1
  have b8 := L8.2.2.1
  have hSQ := (hI.2.2.1).sq
  refine g_iload_n hκ 1 dX11_reinforce_0 rfl rfl ?_
  refine g_aload_n hκ 0 dX11_reinforce_1 rfl rfl ?_
  refine gt_Room_squadrons hκ (hdV hz) hx qw_108 (Or.inl rfl) dX11_reinforce_2 ?_
  refine g_rf f2 ?_
  refine rV_i hκ (hdV hz) [] sd_Jx4a65c_size_8abf5 qw_227 (fun D cO H s hK hP => rc_List hK hP L2.1) (k_sizeL S (la 2) 6 (sz 2) (el 2) L2) ⟨rfl, rfl, Nat.le_of_ble_eq_true rfl, Nat.le_of_ble_eq_true rfl⟩ rfl rfl (Nat.le_of_ble_eq_true rfl) dX11_reinforce_5 (fun r1 hr1 => ?_)
  refine g_eqi hr1 ?_
  refine rS_i hκ (hdV hz) [.int (nI iq), .int (nI (sz 2))] sd_X11_isNumber qw_417 (k_isNumber S (nI iq) (nI (sz 2))) ⟨rfl, rfl, Nat.le_of_ble_eq_true rfl, Nat.le_of_ble_eq_true rfl⟩ rfl rfl (Nat.le_of_ble_eq_true rfl) dX11_reinforce_8 (fun r2 hr2 => ?_)
  refine g_eqi (y := 1) (hr2.trans (congrArg zb (isNum_n hiq (by omega)))) ?_
  refine g_if_ne hκ 24 dX11_reinforce_11 (by decide) (fun _ => ?_) (fun z => absurd z (by decide))
  refine g_iload_n hκ 2 dX11_reinforce_24 rfl rfl ?_
  refine g_iconst hκ (v := 1) dX11_reinforce_25 (by decide) ?_
  refine g_bipush hκ (v := 12) dX11_reinforce_26 (by decide) ?_
  refine rS_i hκ (hdV hz) [.int (nI nn), .int 1, .int 12] sd_X11_isIn qw_156 (k_isIn S (nI nn) 1 12) ⟨rfl, rfl, Nat.le_of_ble_eq_true rfl, Nat.le_of_ble_eq_true rfl⟩ rfl rfl (Nat.le_of_ble_eq_true rfl) dX11_reinforce_28 (fun r3 hr3 => ?_)
  refine g_eqi (y := 1) (hr3.trans (isIn_t (a := 1) (b := 12) hn1 hn2 (by decide))) ?_
  refine g_if_ne hκ 44 dX11_reinforce_31 (by decide) (fun _ => ?_) (fun z => absurd z (by decide))
  refine g_aload_n hκ 0 dX11_reinforce_44 rfl rfl ?_
  refine gt_Room_squadrons hκ (hdV hz) hx qw_108 (Or.inl rfl) dX11_reinforce_45 ?_
  refine g_rf f2 ?_
  refine g_iload_n hκ 1 dX11_reinforce_48 rfl rfl ?_
  refine rV_q hκ (hdV hz) [.int (nI iq)] sd_Jx4a65c_get_915e3 qw_440 (fun D cO H s hK hP => rc_List hK hP L2.1) (k_get S (la 2) 6 (sz 2) iq (el 2) (nI iq) L2 rfl hiq) ⟨rfl, rfl, Nat.le_of_ble_eq_true rfl, Nat.le_of_ble_eq_true rfl⟩ rfl rfl (Nat.le_of_ble_eq_true rfl) dX11_reinforce_49 (fun r4 hr4 => ?_)
  refine g_rf hr4 ?_
  refine gc_Squadron hκ (hdV hz) (L2.2.2.2.2 iq hiq) qw_438 dX11_reinforce_52 ?_
  refine g_astore_n hκ [(3, .ref (el 2 iq)), (0, .ref x), (1, .int (nI iq)), (2, .int (nI nn))] dX11_reinforce_55 rfl (by decide) rfl ?_
  refine g_aload_n hκ 0 dX11_reinforce_56 rfl rfl ?_
  refine gtN_Squadron_state (host := "Plotroom") hκ (hdV hz) (L2.2.2.2.2 iq hiq) (by decide +kernel) (Or.inl rfl) dX11_reinforce_57 ?_
  refine g_if_eq hκ 73 dX11_reinforce_60 (by decide) (fun c5 => ?_) (fun c5 => ?_)
  · skip
    refine g_aload_n hκ 0 dX11_reinforce_73 rfl rfl ?_
    refine g_bipush hκ (v := 12) dX11_reinforce_74 (by decide) ?_
    refine g_aload_n hκ 0 dX11_reinforce_76 rfl rfl ?_
    refine gtN_Squadron_machines (host := "Plotroom") hκ (hdV hz) (L2.2.2.2.2 iq hiq) (by decide +kernel) (Or.inl rfl) dX11_reinforce_77 ?_
    obtain ⟨⟨m, hm12, hmm, -⟩, -⟩ := hI.2.2.1 iq hiq
    refine g_eqi hmm ?_
    refine g_iload_n hκ 3 dX11_reinforce_80 rfl rfl ?_
    refine g_iadd hκ dX11_reinforce_81 ?_
    refine g_min hκ (hdV hz) qw_802 ⟨Nat.le_of_ble_eq_true rfl, Nat.le_of_ble_eq_true rfl⟩ dX11_reinforce_82 ?_
    obtain ⟨r6, hr6, er6⟩ := min12 hm12 hn2
    refine g_eqi er6 ?_
    refine ptN_Squadron_machines (host := "Plotroom") hκ (L2.2.2.2.2 iq hiq) (by decide +kernel) (Or.inl rfl) dX11_reinforce_85 ?_
    refine g_aload_n hκ 0 dX11_reinforce_88 rfl rfl ?_
    refine gtN_Squadron_machines (host := "Plotroom") hκ (hdV hz) (L2.2.2.2.2 iq hiq) (by decide +kernel) (Or.inl rfl) dX11_reinforce_89 ?_
    exact hend _ _ _ _ _ _ dX11_reinforce_92 (⟨nI r6 - sI S q_Squadron_machines (el 2 iq), IV_reinf hI hiq hr6 c5, by rw [putI_at]; grind⟩)
  · skip
    exact hthr _ _ "the squadron is not grounded" _ _ _ _ dX11_reinforce_63 dX11_reinforce_66 dX11_reinforce_67 dX11_reinforce_69 dX11_reinforce_72 (by decide) (by omega) (by omega) (Nat.le_of_ble_eq_true rfl)
