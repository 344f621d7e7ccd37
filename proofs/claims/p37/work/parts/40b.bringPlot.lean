set_option maxHeartbeats 4000000 in
set_option maxRecDepth 100000 in
theorem k_bringPlot (e9 : Nat × Nat) (S : wPS) (x lo ta : Nat) (la : Nat → Nat) (M cnts : Nat) (told : Int32) (el : Nat → Nat → Nat) (sz cp : Nat → Nat) (pw ow dn : Nat) (i p r9 : Nat) (hI : IV e9 x lo ta la M cnts told S el sz cp pw (ow + 1) dn) (hi : i < pw) (hp : el 8 i = p) (hA1 : (trF (cameF S ((sR S q_Plot_mast p).getD 0)) x el sz p = none ∧ sz 7 < 16) → r9 = 1) (hA0 : ¬ (trF (cameF S ((sR S q_Plot_mast p).getD 0)) x el sz p = none ∧ sz 7 < 16) → r9 = 0) : MVv e9 yX11_bringPlot cX11_bringPlot 3 none ({ frames := 7, cells := (2 * r9), slots := (46 * r9), locals := 171 }) S [.ref x, .ref p] (fun S1 => ∃ (el1 : Nat → Nat → Nat) (sz1 cp1 : Nat → Nat), IV e9 x lo ta la M cnts told S1 el1 sz1 cp1 pw ow dn ∧ GR el sz el1 sz1 ∧ el1 8 = el 8 ∧ sz1 8 = sz 8 ∧ sz1 7 = sz 7 + r9) (2 * r9) (46 * r9) := by
  refine stV_v (post := (fun S1 => ∃ (el1 : Nat → Nat → Nat) (sz1 cp1 : Nat → Nat), IV e9 x lo ta la M cnts told S1 el1 sz1 cp1 pw ow dn ∧ GR el sz el1 sz1 ∧ el1 8 = el 8 ∧ sz1 8 = sz 8 ∧ sz1 7 = sz 7 + r9)) (by decide) (Nat.le_of_ble_eq_true rfl) ⟨Nat.le_refl _, Nat.le_refl _⟩ rfl (fun κ hκ hz hnm hend => ?_)
  show Gj κ _ 0 [(0, .ref x), (1, .ref p)] []
  have hM := hI.1.rm
  have hMc := hM
  obtain ⟨hx, ⟨f0, L0⟩, ⟨f1, L1⟩, ⟨f2, L2⟩, ⟨f3, L3⟩, ⟨f4, L4⟩, ⟨f5, L5⟩, ⟨f6, L6⟩, ⟨f7, L7⟩, ⟨f8, L8⟩, ⟨flo, hlo⟩, ⟨fta, hta⟩⟩ := hMc
  have b0 := L0.2.2.1
  have b2 := L2.2.2.1
  have b3 := L3.2.2.1
  have b4 := L4.2.2.1
  have b5 := L5.2.2.1
  have b7 := L7.2.2.1
  have b8 := L8.2.2.1
  have hSQ := (hI.2.2.1).sq
  obtain ⟨hpl, km, hkm, hmr⟩ := hI.plot hi hp
  have hpo := eo2 hp (hI.1.ob (j := 8) (by decide) (Nat.lt_of_lt_of_le hi hI.p8))
  rw [hmr] at hA1 hA0
  have hA1 : (trF (cameF S (el 0 km)) x el sz p = none ∧ sz 7 < 16) → r9 = 1 := hA1
  have hA0 : ¬ (trF (cameF S (el 0 km)) x el sz p = none ∧ sz 7 < 16) → r9 = 0 := hA0
  refine g_aload_n hκ 1 dX11_bringPlot_0 rfl rfl ?_
  refine gtN_Plot_mast (host := "Plotroom") hκ (hdV hz) (eo2 hp (hI.1.ob (j := 8) (by decide) (Nat.lt_of_lt_of_le hi hI.p8))) (by decide +kernel) (Or.inl rfl) dX11_bringPlot_1 ?_
  refine g_rf hmr ?_
  refine gtN_Mast_isCut (host := "Plotroom") hκ (hdV hz) (hI.1.ob (j := 0) (by decide) hkm) (by decide +kernel) (Or.inl rfl) dX11_bringPlot_4 ?_
  refine g_eqi (hI.cut hkm) ?_
  refine g_if_eq hκ 24 dX11_bringPlot_7 (by decide) (fun _ => ?_) (fun z => absurd z (by decide))
  refine g_aload_n hκ 1 dX11_bringPlot_24 rfl rfl ?_
  refine gtN_Plot_mast (host := "Plotroom") hκ (hdV hz) (eo2 hp (hI.1.ob (j := 8) (by decide) (Nat.lt_of_lt_of_le hi hI.p8))) (by decide +kernel) (Or.inl rfl) dX11_bringPlot_25 ?_
  refine g_rf hmr ?_
  refine g_dup hκ dX11_bringPlot_28 rfl ?_
  refine gtN_Mast_came (host := "Plotroom") hκ (hdV hz) (hI.1.ob (j := 0) (by decide) hkm) (by decide +kernel) (Or.inl rfl) dX11_bringPlot_29 ?_
  refine g_iconst hκ (v := 1) dX11_bringPlot_32 (by decide) ?_
  refine g_iadd hκ dX11_bringPlot_33 ?_
  refine ptN_Mast_came (host := "Plotroom") hκ (hI.1.ob (j := 0) (by decide) hkm) (by decide +kernel) (Or.inl rfl) dX11_bringPlot_34 ?_
  have hT1 : ST e9 x lo ta la (cameF S (el 0 km)) el sz cp := cameF_ST hI.1
  have hM := hT1.rm
  have hMc := hM
  obtain ⟨hx, ⟨f0, L0⟩, ⟨f1, L1⟩, ⟨f2, L2⟩, ⟨f3, L3⟩, ⟨f4, L4⟩, ⟨f5, L5⟩, ⟨f6, L6⟩, ⟨f7, L7⟩, ⟨f8, L8⟩, ⟨flo, hlo⟩, ⟨fta, hta⟩⟩ := hMc
  have b0 := L0.2.2.1
  have b2 := L2.2.2.1
  have b3 := L3.2.2.1
  have b4 := L4.2.2.1
  have b5 := L5.2.2.1
  have b7 := L7.2.2.1
  have b8 := L8.2.2.1
  refine g_aload_n hκ 0 dX11_bringPlot_37 rfl rfl ?_
  refine g_aload_n hκ 1 dX11_bringPlot_38 rfl rfl ?_
  refine rV_q hκ (hdV hz) [.ref p] sd_X11_trackFor qw_671 (fun D cO H s hK hP => rc_Room hK hP hx) (k_trackFor (cameF S (el 0 km)) x lo ta la el sz p hM (cameF_ch.o hpo)) ⟨rfl, rfl, Nat.le_of_ble_eq_true rfl, Nat.le_of_ble_eq_true rfl⟩ rfl rfl (Nat.le_of_ble_eq_true rfl) dX11_bringPlot_39 (fun r1 hr1 => ?_)
  rcases trF_in (S := cameF S (el 0 km)) (x := x) (el := el) (sz := sz) (p := p) with hn | ⟨kt, hkt, hn⟩
  · skip
    refine g_rn (hr1.trans hn) ?_
    refine g_astore_nN hκ [(2, .null), (0, .ref x), (1, .ref p)] dX11_bringPlot_42 rfl (by decide) rfl ?_
    refine g_aload_nN hκ 0 dX11_bringPlot_43 rfl rfl ?_
    refine g_ifnullN hκ 55 dX11_bringPlot_44 (by decide) ?_
    refine g_aload_n hκ 1 dX11_bringPlot_55 rfl rfl ?_
    refine gt_Room_tracks hκ (hdV hz) hx qw_113 (Or.inl rfl) dX11_bringPlot_56 ?_
    refine g_rf f7 ?_
    refine rV_i hκ (hdV hz) [] sd_Jx4a65c_size_8abf5 qw_227 (fun D cO H s hK hP => rc_List hK hP L7.1) (k_sizeL (cameF S (el 0 km)) (la 7) 9 (sz 7) (el 7) L7) ⟨rfl, rfl, Nat.le_of_ble_eq_true rfl, Nat.le_of_ble_eq_true rfl⟩ rfl rfl (Nat.le_of_ble_eq_true rfl) dX11_bringPlot_59 (fun r2 hr2 => ?_)
    refine g_eqi hr2 ?_
    refine g_bipush hκ (v := 16) dX11_bringPlot_62 (by decide) ?_
    refine g_icmp_ge hκ 93 dX11_bringPlot_64 (by decide) (fun c3 => ?_) (fun c3 => ?_)
    · skip
      have e9r := hA0 (fun z => absurd z.2 (t16' b7 c3))
      subst e9r
      refine g_aload_n hκ 1 dX11_bringPlot_93 rfl rfl ?_
      refine gt_Room_tally hκ (hdV hz) hx qw_117 (Or.inl rfl) dX11_bringPlot_94 ?_
      refine g_rf fta ?_
      refine g_dup hκ dX11_bringPlot_97 rfl ?_
      refine gtN_Tally_plotsWithoutTrack (host := "Plotroom") hκ (hdV hz) hta (by decide +kernel) (Or.inl rfl) dX11_bringPlot_98 ?_
      refine g_iconst hκ (v := 1) dX11_bringPlot_101 (by decide) ?_
      refine g_iadd hκ dX11_bringPlot_102 ?_
      refine ptN_Tally_plotsWithoutTrack (host := "Plotroom") hκ hta (by decide +kernel) (Or.inl rfl) dX11_bringPlot_103 ?_
      exact hend _ _ _ _ _ dX11_bringPlot_106 (⟨el, sz, cp, IV_without hI hkm, GR.refl, rfl, rfl, rfl⟩)
    · skip
      have h16 := t16 b7 c3
      have e9r := hA1 ⟨hn, h16⟩
      subst e9r
      refine g_aload_n hκ 1 dX11_bringPlot_67 rfl rfl ?_
      refine gt_Room_tracks hκ (hdV hz) hx qw_113 (Or.inl rfl) dX11_bringPlot_68 ?_
      refine g_rf f7 ?_
      refine gn_Track hκ hz qw_675 qw_698 qw_26 (by omega) (by omega) dX11_bringPlot_71 (fun a4 fa4 => ?_)
      have hT15 := hT1.ch (ch_new (cs := []) (rs := []) (kd := 9) (n := 0) fa4) (kw_new (kd := 9) (n := 0) fa4) (by decide) (fun c hc => absurd hc List.not_mem_nil)
      have hM := hT15.rm
      have hMc := hM
      obtain ⟨hx, ⟨f0, L0⟩, ⟨f1, L1⟩, ⟨f2, L2⟩, ⟨f3, L3⟩, ⟨f4, L4⟩, ⟨f5, L5⟩, ⟨f6, L6⟩, ⟨f7, L7⟩, ⟨f8, L8⟩, ⟨flo, hlo⟩, ⟨fta, hta⟩⟩ := hMc
      have b0 := L0.2.2.1
      have b2 := L2.2.2.1
      have b3 := L3.2.2.1
      have b4 := L4.2.2.1
      have b5 := L5.2.2.1
      have b7 := L7.2.2.1
      have b8 := L8.2.2.1
      refine g_dup hκ dX11_bringPlot_74 rfl ?_
      refine g_aload_n hκ 1 dX11_bringPlot_75 rfl rfl ?_
      refine gt_Room_tracks hκ (hdV hz) hx qw_113 (Or.inl rfl) dX11_bringPlot_76 ?_
      refine g_rf f7 ?_
      refine rV_i hκ (hdV hz) [] sd_Jx4a65c_size_8abf5 qw_227 (fun D cO H s hK hP => rc_List hK hP L7.1) (k_sizeL (newS (cameF S (el 0 km)) a4 9 0) (la 7) 9 (sz 7) (el 7) L7) ⟨rfl, rfl, Nat.le_of_ble_eq_true rfl, Nat.le_of_ble_eq_true rfl⟩ rfl rfl (Nat.le_of_ble_eq_true rfl) dX11_bringPlot_79 (fun r5 hr5 => ?_)
      refine g_eqi hr5 ?_
      refine g_aload_n hκ 2 dX11_bringPlot_82 rfl rfl ?_
      refine vI_v hκ hz [.int (nI (sz 7)), .ref p] sd_X10_init qw_701 (k_init_Track e9 (newS (cameF S (el 0 km)) a4 9 0) a4 (nI (sz 7)) p (nw_at fa4) (nw_old (n := 0) fa4 (cameF_ch.o hpo))) ⟨rfl, rfl, Nat.le_of_ble_eq_true rfl, Nat.le_of_ble_eq_true rfl⟩ rfl rfl (Nat.le_of_ble_eq_true rfl) dX11_bringPlot_83 (by omega) (by omega) (fun S7 hS7 => ?_)
      obtain rfl := hS7
      have hC9 := initTrack_ch (p := p) (nu := nI (sz 7)) fa4
      have hT2 := hT1.ch hC9.1 hC9.2 (by decide) (fun c hc => absurd hc List.not_mem_nil)
      have ha9 : a4 ∈ sL (initTrack (newS (cameF S (el 0 km)) a4 9 0) a4 (nI (sz 7)) p) ∧ sK (initTrack (newS (cameF S (el 0 km)) a4 9 0) a4 (nI (sz 7)) p) a4 = 9 := nw_at (n := 0) fa4
      have hM := hT2.rm
      have hMc := hM
      obtain ⟨hx, ⟨f0, L0⟩, ⟨f1, L1⟩, ⟨f2, L2⟩, ⟨f3, L3⟩, ⟨f4, L4⟩, ⟨f5, L5⟩, ⟨f6, L6⟩, ⟨f7, L7⟩, ⟨f8, L8⟩, ⟨flo, hlo⟩, ⟨fta, hta⟩⟩ := hMc
      have b0 := L0.2.2.1
      have b2 := L2.2.2.1
      have b3 := L3.2.2.1
      have b4 := L4.2.2.1
      have b5 := L5.2.2.1
      have b7 := L7.2.2.1
      have b8 := L8.2.2.1
      refine vV_i hκ hz [.ref a4] sd_Jx4a65c_add_9ea2d qw_339 (fun D cO H s hK hP => rc_List hK hP L7.1) (k_addL e9 (initTrack (newS (cameF S (el 0 km)) a4 9 0) a4 (nI (sz 7)) p) (la 7) a4 (sz 7) (cp 7) (el 7) 9 "Plotroom$Track" (hT2.ls (j := 7) (by decide)) (by omega) ha9 (fun S D cO H s a hK hP hO => rc_Track hK hP hO) (by decide)) ⟨rfl, rfl, Nat.le_of_ble_eq_true rfl, Nat.le_of_ble_eq_true rfl⟩ rfl rfl (Nat.le_of_ble_eq_true rfl) dX11_bringPlot_86 (by omega) (by unfold gN; omega) (fun r8 S9 hS9 => ?_)
      obtain ⟨e9r, hA9⟩ := hS9
      refine g_eqi e9r ?_
      obtain ⟨c1, hF9⟩ := IV_addTrack hI hkm hpo hpl fa4 hA9
      refine g_pop hκ dX11_bringPlot_89 rfl ?_
      refine g_goto hκ 106 dX11_bringPlot_90 (by decide) ?_
      exact hend _ _ _ _ _ dX11_bringPlot_106 (⟨_, _, _, hF9, GR_up7, if_neg (by decide), if_neg (by decide), if_pos rfl⟩)
  · skip
    refine g_rf (hr1.trans hn) ?_
    have e9r := hA0 (fun z => absurd (z.1.symm.trans hn) (fun z2 => by cases z2))
    subst e9r
    refine g_astore_n hκ [(2, .ref (el 7 kt)), (0, .ref x), (1, .ref p)] dX11_bringPlot_42 rfl (by decide) rfl ?_
    refine g_aload_n hκ 0 dX11_bringPlot_43 rfl rfl ?_
    refine g_ifnull hκ dX11_bringPlot_44 ?_
    refine g_aload_n hκ 0 dX11_bringPlot_47 rfl rfl ?_
    refine g_aload_n hκ 2 dX11_bringPlot_48 rfl rfl ?_
    refine vV_v hκ hz [.ref p] sd_X10_take qw_691 (fun D cO H s hK hP => rc_Track hK hP (hT1.ob (j := 7) (by decide) hkt)) (k_take e9 (cameF S (el 0 km)) (el 7 kt) p (hT1.ob (j := 7) (by decide) hkt) (cameF_ch.o hpo)) ⟨rfl, rfl, Nat.le_of_ble_eq_true rfl, Nat.le_of_ble_eq_true rfl⟩ rfl rfl (Nat.le_of_ble_eq_true rfl) dX11_bringPlot_49 (by omega) (by omega) (fun S11 hS11 => ?_)
    have hF9 : IV e9 x lo ta la M cnts told S11 el sz cp pw ow dn := IV_take hI hkm hkt hpl hS11
    refine g_goto hκ 106 dX11_bringPlot_52 (by decide) ?_
    exact hend _ _ _ _ _ dX11_bringPlot_106 (⟨el, sz, cp, hF9, GR.refl, rfl, rfl, rfl⟩)
