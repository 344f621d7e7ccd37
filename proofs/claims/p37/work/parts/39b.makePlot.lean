set_option maxHeartbeats 4000000 in
set_option maxRecDepth 100000 in
theorem k_makePlot (e9 : Nat × Nat) (S : wPS) (x lo ta : Nat) (la : Nat → Nat) (M cnts : Nat) (told : Int32) (el : Nat → Nat → Nat) (sz cp : Nat → Nat) (pw ow dn : Nat) (i k m f : Nat) (hI : IV e9 x lo ta la M cnts told S el sz cp pw ow dn) (hi : i < sz 0) (hk : k < sz 5) (hm : el 0 i = m) (hf : el 5 k = f) (hs8 : sz 8 ≤ 29000) : MVv e9 yX11_makePlot cX11_makePlot 6 none ({ frames := 7, cells := 2, slots := (gN (sz 8) + 16), locals := 171 }) S [.ref x, .ref m, .ref f] (fun S1 => ∃ (el1 : Nat → Nat → Nat) (sz1 cp1 : Nat → Nat), IV e9 x lo ta la M cnts told S1 el1 sz1 cp1 (pw + 1) (ow + 1) (dn + 1 + 1) ∧ GR el sz el1 sz1 ∧ sz1 7 = sz 7 ∧ sz1 8 ≤ sz 8 + 1) 2 (gN (sz 8) + 16) := by
  refine stV_v (post := (fun S1 => ∃ (el1 : Nat → Nat → Nat) (sz1 cp1 : Nat → Nat), IV e9 x lo ta la M cnts told S1 el1 sz1 cp1 (pw + 1) (ow + 1) (dn + 1 + 1) ∧ GR el sz el1 sz1 ∧ sz1 7 = sz 7 ∧ sz1 8 ≤ sz 8 + 1)) (by decide) (Nat.le_of_ble_eq_true rfl) ⟨Nat.le_refl _, Nat.le_refl _⟩ rfl (fun κ hκ hz hnm hend => ?_)
  show Gj κ _ 0 [(0, .ref x), (1, .ref m), (2, .ref f)] []
  have hM := hI.1.rm
  have hMc := hM
  obtain ⟨hx, ⟨f0, L0⟩, ⟨f1, L1⟩, ⟨f2, L2⟩, ⟨f3, L3⟩, ⟨f4, L4⟩, ⟨f5, L5⟩, ⟨f6, L6⟩, ⟨f7, L7⟩, ⟨f8, L8⟩, ⟨flo, hlo⟩, ⟨fta, hta⟩⟩ := hMc
  have b0 := L0.2.2.1
  have b2 := L2.2.2.1
  have b3 := L3.2.2.1
  have b4 := L4.2.2.1
  have b5 := L5.2.2.1
  have b7 := L7.2.2.1
  have b8 := L8.2.2.1
  have hSQ := (hI.2.2.1).sq
  refine g_aload_n hκ 2 dX11_makePlot_0 rfl rfl ?_
  refine gt_Flight_x hκ (hdV hz) (eo2 hf (hI.1.ob (j := 5) (by decide) hk)) qw_286 (Or.inr qw_280) dX11_makePlot_1 ?_
  refine g_aload_n hκ 0 dX11_makePlot_4 rfl rfl ?_
  refine gt_Room_lots hκ (hdV hz) hx qw_116 (Or.inl rfl) dX11_makePlot_5 ?_
  refine g_rf flo ?_
  refine g_aload_n hκ 1 dX11_makePlot_8 rfl rfl ?_
  refine gtN_Mast_slip (host := "Plotroom") hκ (hdV hz) (eo2 hm (hI.1.ob (j := 0) (by decide) hi)) (by decide +kernel) (Or.inl rfl) dX11_makePlot_9 ?_
  obtain ⟨s12, hs12, es12⟩ := hI.slip2 hi hm
  refine g_eqi es12 ?_
  refine vV_i hκ hz [.int (nI s12)] sd_X2_slipOf qw_618 (fun D cO H s hK hP => rc_Lots hK hP hlo) (k_slipOf e9 S lo (nI s12) hlo (slip_ne hs12)) ⟨rfl, rfl, Nat.le_of_ble_eq_true rfl, Nat.le_of_ble_eq_true rfl⟩ rfl rfl (Nat.le_of_ble_eq_true rfl) dX11_makePlot_12 (by omega) (by omega) (fun r1 S2 hS2 => ?_)
  obtain ⟨e9v, rfl⟩ := hS2
  refine g_eqi e9v ?_
  have hD1 := (IV_draw hI).1
  refine g_topi (fun z1 hz1 => ?_)
  refine g_gen (P := fun Sz => IV e9 x lo ta la M cnts told Sz el sz cp pw ow (dn + 1)) (hD1) (fun S3 hI1 => ?_)
  have hM := hI1.1.rm
  have hMc := hM
  obtain ⟨hx, ⟨f0, L0⟩, ⟨f1, L1⟩, ⟨f2, L2⟩, ⟨f3, L3⟩, ⟨f4, L4⟩, ⟨f5, L5⟩, ⟨f6, L6⟩, ⟨f7, L7⟩, ⟨f8, L8⟩, ⟨flo, hlo⟩, ⟨fta, hta⟩⟩ := hMc
  have b0 := L0.2.2.1
  have b2 := L2.2.2.1
  have b3 := L3.2.2.1
  have b4 := L4.2.2.1
  have b5 := L5.2.2.1
  have b7 := L7.2.2.1
  have b8 := L8.2.2.1
  have hSQ := (hI1.2.2.1).sq
  refine g_iadd hκ dX11_makePlot_15 ?_
  refine rS_i hκ (hdV hz) [.int ((sI S q_Flight_x f) + z1)] sd_X11_hold qw_626 (k_hold S3 ((sI S q_Flight_x f) + z1)) ⟨rfl, rfl, Nat.le_of_ble_eq_true rfl, Nat.le_of_ble_eq_true rfl⟩ rfl rfl (Nat.le_of_ble_eq_true rfl) dX11_makePlot_16 (fun r4 hr4 => ?_)
  refine g_eqi hr4 ?_
  refine g_istore_n hκ [(3, .int (holdF ((sI S q_Flight_x f) + z1))), (0, .ref x), (1, .ref m), (2, .ref f)] dX11_makePlot_19 rfl (by decide) rfl ?_
  refine g_aload_n hκ 3 dX11_makePlot_20 rfl rfl ?_
  refine gt_Flight_y hκ (hdV hz) (eo2 hf (hI1.1.ob (j := 5) (by decide) hk)) qw_310 (Or.inr qw_302) dX11_makePlot_21 ?_
  refine g_aload_n hκ 1 dX11_makePlot_24 rfl rfl ?_
  refine gt_Room_lots hκ (hdV hz) hx qw_116 (Or.inl rfl) dX11_makePlot_25 ?_
  refine g_rf flo ?_
  refine g_aload_n hκ 2 dX11_makePlot_28 rfl rfl ?_
  refine gtN_Mast_slip (host := "Plotroom") hκ (hdV hz) (eo2 hm (hI1.1.ob (j := 0) (by decide) hi)) (by decide +kernel) (Or.inl rfl) dX11_makePlot_29 ?_
  obtain ⟨s32, hs32, es32⟩ := hI1.slip2 hi hm
  refine g_eqi es32 ?_
  refine vV_i hκ hz [.int (nI s32)] sd_X2_slipOf qw_618 (fun D cO H s hK hP => rc_Lots hK hP hlo) (k_slipOf e9 S3 lo (nI s32) hlo (slip_ne hs32)) ⟨rfl, rfl, Nat.le_of_ble_eq_true rfl, Nat.le_of_ble_eq_true rfl⟩ rfl rfl (Nat.le_of_ble_eq_true rfl) dX11_makePlot_32 (by omega) (by omega) (fun r5 S6 hS6 => ?_)
  obtain ⟨e9v, rfl⟩ := hS6
  refine g_eqi e9v ?_
  have hD2 := (IV_draw hI1).1
  refine g_topi (fun z2 hz2 => ?_)
  refine g_gen (P := fun Sz => IV e9 x lo ta la M cnts told Sz el sz cp pw ow (dn + 1 + 1)) (hD2) (fun S7 hI2 => ?_)
  have hM := hI2.1.rm
  have hMc := hM
  obtain ⟨hx, ⟨f0, L0⟩, ⟨f1, L1⟩, ⟨f2, L2⟩, ⟨f3, L3⟩, ⟨f4, L4⟩, ⟨f5, L5⟩, ⟨f6, L6⟩, ⟨f7, L7⟩, ⟨f8, L8⟩, ⟨flo, hlo⟩, ⟨fta, hta⟩⟩ := hMc
  have b0 := L0.2.2.1
  have b2 := L2.2.2.1
  have b3 := L3.2.2.1
  have b4 := L4.2.2.1
  have b5 := L5.2.2.1
  have b7 := L7.2.2.1
  have b8 := L8.2.2.1
  have hSQ := (hI2.2.2.1).sq
  refine g_iadd hκ dX11_makePlot_35 ?_
  refine rS_i hκ (hdV hz) [.int ((sI S3 q_Flight_y f) + z2)] sd_X11_hold qw_626 (k_hold S7 ((sI S3 q_Flight_y f) + z2)) ⟨rfl, rfl, Nat.le_of_ble_eq_true rfl, Nat.le_of_ble_eq_true rfl⟩ rfl rfl (Nat.le_of_ble_eq_true rfl) dX11_makePlot_36 (fun r8 hr8 => ?_)
  refine g_eqi hr8 ?_
  refine g_istore hκ [(4, .int (holdF ((sI S3 q_Flight_y f) + z2))), (3, .int (holdF ((sI S q_Flight_x f) + z1))), (0, .ref x), (1, .ref m), (2, .ref f)] dX11_makePlot_39 (by decide) rfl ?_
  refine g_aload_n hκ 2 dX11_makePlot_41 rfl rfl ?_
  refine gt_Room_plotsOnWay hκ (hdV hz) hx qw_115 (Or.inl rfl) dX11_makePlot_42 ?_
  refine g_eqi hI2.pwv ?_
  refine g_aload_n hκ 2 dX11_makePlot_45 rfl rfl ?_
  refine gt_Room_plots hκ (hdV hz) hx qw_114 (Or.inl rfl) dX11_makePlot_46 ?_
  refine g_rf f8 ?_
  refine rV_i hκ (hdV hz) [] sd_Jx4a65c_size_8abf5 qw_227 (fun D cO H s hK hP => rc_List hK hP L8.1) (k_sizeL S7 (la 8) 5 (sz 8) (el 8) L8) ⟨rfl, rfl, Nat.le_of_ble_eq_true rfl, Nat.le_of_ble_eq_true rfl⟩ rfl rfl (Nat.le_of_ble_eq_true rfl) dX11_makePlot_49 (fun r9 hr9 => ?_)
  refine g_eqi hr9 ?_
  refine g_icmp_lt hκ 71 dX11_makePlot_52 (by decide) (fun c10 => ?_) (fun c10 => ?_)
  · skip
    refine g_gen (P := fun Sz => ∃ (el1 : Nat → Nat → Nat) (sz1 cp1 : Nat → Nat), IV e9 x lo ta la M cnts told Sz el1 sz1 cp1 pw ow (dn + 1 + 1) ∧ GR el sz el1 sz1 ∧ sz1 7 = sz 7 ∧ sz1 8 ≤ sz 8 + 1 ∧ pw < sz1 8) (⟨el, sz, cp, hI2, GR.refl, rfl, by omega, (nI_ltI (by have := hI2.p8; omega) (by omega)).mp c10⟩) (fun S11 hP4 => ?_)
    obtain ⟨el1, sz1, cp1, hI5, hg5, hq5, hr5, hp5⟩ := hP4
    have hM := hI5.1.rm
    have hMc := hM
    obtain ⟨hx, ⟨f0, L0⟩, ⟨f1, L1⟩, ⟨f2, L2⟩, ⟨f3, L3⟩, ⟨f4, L4⟩, ⟨f5, L5⟩, ⟨f6, L6⟩, ⟨f7, L7⟩, ⟨f8, L8⟩, ⟨flo, hlo⟩, ⟨fta, hta⟩⟩ := hMc
    have b0 := L0.2.2.1
    have b2 := L2.2.2.1
    have b3 := L3.2.2.1
    have b4 := L4.2.2.1
    have b5 := L5.2.2.1
    have b7 := L7.2.2.1
    have b8 := L8.2.2.1
    have hSQ := (hI5.2.2.1).sq
    have em0 := hg5.e (j := 0) (by decide) (by decide)
    have zm0 := hg5.z (j := 0) (by decide) (by decide)
    have em1 := hg5.e (j := 1) (by decide) (by decide)
    have zm1 := hg5.z (j := 1) (by decide) (by decide)
    have em2 := hg5.e (j := 2) (by decide) (by decide)
    have zm2 := hg5.z (j := 2) (by decide) (by decide)
    have em3 := hg5.e (j := 3) (by decide) (by decide)
    have zm3 := hg5.z (j := 3) (by decide) (by decide)
    have em4 := hg5.e (j := 4) (by decide) (by decide)
    have zm4 := hg5.z (j := 4) (by decide) (by decide)
    have em5 := hg5.e (j := 5) (by decide) (by decide)
    have zm5 := hg5.z (j := 5) (by decide) (by decide)
    refine g_aload_n hκ 2 dX11_makePlot_71 rfl rfl ?_
    refine gt_Room_plots hκ (hdV hz) hx qw_114 (Or.inl rfl) dX11_makePlot_72 ?_
    refine g_rf f8 ?_
    refine g_aload_n hκ 2 dX11_makePlot_75 rfl rfl ?_
    refine gt_Room_plotsOnWay hκ (hdV hz) hx qw_115 (Or.inl rfl) dX11_makePlot_76 ?_
    refine g_eqi hI5.pwv ?_
    refine rV_q hκ (hdV hz) [.int (nI pw)] sd_Jx4a65c_get_915e3 qw_440 (fun D cO H s hK hP => rc_List hK hP L8.1) (k_get S11 (la 8) 5 (sz1 8) pw (el1 8) (nI pw) L8 rfl hp5) ⟨rfl, rfl, Nat.le_of_ble_eq_true rfl, Nat.le_of_ble_eq_true rfl⟩ rfl rfl (Nat.le_of_ble_eq_true rfl) dX11_makePlot_79 (fun r12 hr12 => ?_)
    refine g_rf hr12 ?_
    refine gc_Plot hκ (hdV hz) (L8.2.2.2.2 pw hp5) qw_629 dX11_makePlot_82 ?_
    refine g_astore hκ [(5, .ref (el1 8 pw)), (4, .int (holdF ((sI S3 q_Flight_y f) + z2))), (3, .int (holdF ((sI S q_Flight_x f) + z1))), (0, .ref x), (1, .ref m), (2, .ref f)] dX11_makePlot_85 (by decide) rfl ?_
    refine g_aload hκ 0 dX11_makePlot_87 rfl ?_
    refine g_aload_n hκ 4 dX11_makePlot_89 rfl rfl ?_
    refine g_iload_n hκ 2 dX11_makePlot_90 rfl rfl ?_
    refine g_iload hκ 1 dX11_makePlot_91 rfl ?_
    refine g_aload_n hκ 5 dX11_makePlot_93 rfl rfl ?_
    refine rV_i hκ (hdV hz) [] sd_X0_guess qw_655 (fun D cO H s hK hP => rc_Flight hK hP (eo2 hf (eob em5 (hI5.1.ob (j := 5) (by decide) (by omega))))) (k_guess S11 f (eo2 hf (eob em5 (hI5.1.ob (j := 5) (by decide) (by omega))))) ⟨rfl, rfl, Nat.le_of_ble_eq_true rfl, Nat.le_of_ble_eq_true rfl⟩ rfl rfl (Nat.le_of_ble_eq_true rfl) dX11_makePlot_94 (fun r13 hr13 => ?_)
    refine g_eqi hr13 ?_
    refine g_aload_n hκ 3 dX11_makePlot_97 rfl rfl ?_
    refine gt_Room_minute hκ (hdV hz) hx qw_118 (Or.inl rfl) dX11_makePlot_98 ?_
    refine vV_v hκ hz [.ref m, .int (holdF ((sI S q_Flight_x f) + z1)), .int (holdF ((sI S3 q_Flight_y f) + z2)), .int (guessF (sI S11 q_Flight_count f)), .int (sI S11 q_Room_minute x)] sd_X6_write qw_659 (fun D cO H s hK hP => rc_Plot hK hP (L8.2.2.2.2 pw hp5)) (k_write e9 S11 (el1 8 pw) m (holdF ((sI S q_Flight_x f) + z1)) (holdF ((sI S3 q_Flight_y f) + z2)) (guessF (sI S11 q_Flight_count f)) (sI S11 q_Room_minute x) (L8.2.2.2.2 pw hp5) (eo2 hm (eob em0 (hI5.1.ob (j := 0) (by decide) (by omega))))) ⟨rfl, rfl, Nat.le_of_ble_eq_true rfl, Nat.le_of_ble_eq_true rfl⟩ rfl rfl (Nat.le_of_ble_eq_true rfl) dX11_makePlot_101 (by omega) (by omega) (fun S15 hS15 => ?_)
    obtain rfl := hS15
    have hW9 := IV_write2 (g := guessF (sI S11 q_Flight_count f)) (w := sI S11 q_Room_minute x) hI5 (by omega : i < sz1 0) ((congrFun em0 i).trans hm) rfl hp5 (show isPlaceB (holdF ((sI S q_Flight_x f) + z1)) (holdF ((sI S3 q_Flight_y f) + z2)) = true from hold_pl _ _)
    refine g_aload_n hκ 3 dX11_makePlot_104 rfl rfl ?_
    refine g_dup hκ dX11_makePlot_105 rfl ?_
    refine gt_Room_plotsOnWay hκ (hdV hz) hx qw_115 (Or.inl rfl) dX11_makePlot_106 ?_
    refine g_iconst hκ (v := 1) dX11_makePlot_109 (by decide) ?_
    refine g_iadd hκ dX11_makePlot_110 ?_
    refine pt_Room_plotsOnWay hκ hx qw_115 (Or.inl rfl) dX11_makePlot_111 ?_
    refine g_aload_n hκ 4 dX11_makePlot_114 rfl rfl ?_
    refine g_dup hκ dX11_makePlot_115 rfl ?_
    refine gtN_Mast_made (host := "Plotroom") hκ (hdV hz) (eo2 hm (eob em0 (hI5.1.ob (j := 0) (by decide) (by omega)))) (by decide +kernel) (Or.inl rfl) dX11_makePlot_116 ?_
    refine g_iconst hκ (v := 1) dX11_makePlot_119 (by decide) ?_
    refine g_iadd hκ dX11_makePlot_120 ?_
    refine ptN_Mast_made (host := "Plotroom") hκ (eo2 hm (eob em0 (hI5.1.ob (j := 0) (by decide) (by omega)))) (by decide +kernel) (Or.inl rfl) dX11_makePlot_121 ?_
    exact hend _ _ _ _ _ dX11_makePlot_124 (⟨el1, sz1, cp1, hW9, hg5, hq5, hr5⟩)
  · skip
    refine g_aload_n hκ 2 dX11_makePlot_55 rfl rfl ?_
    refine gt_Room_plots hκ (hdV hz) hx qw_114 (Or.inl rfl) dX11_makePlot_56 ?_
    refine g_rf f8 ?_
    refine gn_Plot hκ hz qw_629 qw_630 qw_25 (by omega) (by omega) dX11_makePlot_59 (fun a16 fa16 => ?_)
    refine g_dup hκ dX11_makePlot_62 rfl ?_
    refine g_aload_n hκ 3 dX11_makePlot_63 rfl rfl ?_
    refine vI_v hκ hz [.ref m] sd_X6_init qw_631 (k_init_Plot e9 (newS S7 a16 5 0) a16 m (nw_at fa16) (nw_old (n := 0) fa16 (eo2 hm (hI2.1.ob (j := 0) (by decide) hi)))) ⟨rfl, rfl, Nat.le_of_ble_eq_true rfl, Nat.le_of_ble_eq_true rfl⟩ rfl rfl (Nat.le_of_ble_eq_true rfl) dX11_makePlot_64 (by omega) (by omega) (fun S18 hS18 => ?_)
    obtain rfl := hS18
    have hN9 := newPlot_ch (m := m) fa16
    have hne9 : ∀ i0 : Nat, i0 < sz 8 → el 8 i0 ≠ a16 := fun i0 hi0 z9 => fa16 (z9 ▸ (hI2.1.ob (j := 8) (by decide) hi0).1)
    refine g_gen (P := fun Sz => IV e9 x lo ta la M cnts told Sz el sz cp pw ow (dn + 1 + 1) ∧ (a16 ∈ sL Sz ∧ sK Sz a16 = 5)) (⟨IV.ch hI2 hN9.1 hN9.2 (by decide) rfl, nw_at (n := 0) fa16⟩) (fun S19 hP3 => ?_)
    obtain ⟨hI3, ha3⟩ := hP3
    have hM := hI3.1.rm
    have hMc := hM
    obtain ⟨hx, ⟨f0, L0⟩, ⟨f1, L1⟩, ⟨f2, L2⟩, ⟨f3, L3⟩, ⟨f4, L4⟩, ⟨f5, L5⟩, ⟨f6, L6⟩, ⟨f7, L7⟩, ⟨f8, L8⟩, ⟨flo, hlo⟩, ⟨fta, hta⟩⟩ := hMc
    have b0 := L0.2.2.1
    have b2 := L2.2.2.1
    have b3 := L3.2.2.1
    have b4 := L4.2.2.1
    have b5 := L5.2.2.1
    have b7 := L7.2.2.1
    have b8 := L8.2.2.1
    have hSQ := (hI3.2.2.1).sq
    refine vV_i hκ hz [.ref a16] sd_Jx4a65c_add_9ea2d qw_339 (fun D cO H s hK hP => rc_List hK hP L8.1) (k_addL e9 S19 (la 8) a16 (sz 8) (cp 8) (el 8) 5 "Plotroom$Plot" (hI3.1.ls (j := 8) (by decide)) (by omega) ha3 (fun S D cO H s a hK hP hO => rc_Plot hK hP hO) (by decide)) ⟨rfl, rfl, Nat.le_of_ble_eq_true rfl, Nat.le_of_ble_eq_true rfl⟩ rfl rfl (Nat.le_of_ble_eq_true rfl) dX11_makePlot_67 (by omega) (by omega) (fun r20 S21 hS21 => ?_)
    obtain ⟨e9r, hA9⟩ := hS21
    refine g_eqi e9r ?_
    obtain ⟨c1, hI4⟩ := IV_addPlot hI3 hne9 hA9
    refine g_gen (P := fun Sz => ∃ (el1 : Nat → Nat → Nat) (sz1 cp1 : Nat → Nat), IV e9 x lo ta la M cnts told Sz el1 sz1 cp1 pw ow (dn + 1 + 1) ∧ GR el sz el1 sz1 ∧ sz1 7 = sz 7 ∧ sz1 8 ≤ sz 8 + 1 ∧ pw < sz1 8) (⟨_, _, _, hI4, GR_up8, if_neg (by decide), by rw [show va_up sz 8 (sz 8 + 1) 8 = sz 8 + 1 from if_pos rfl]; omega, by have hp9 := hI3.p8; show pw < va_up sz 8 (sz 8 + 1) 8; rw [show va_up sz 8 (sz 8 + 1) 8 = sz 8 + 1 from if_pos rfl]; omega⟩) (fun S22 hP4 => ?_)
    refine g_pop hκ dX11_makePlot_70 rfl ?_
    obtain ⟨el1, sz1, cp1, hI5, hg5, hq5, hr5, hp5⟩ := hP4
    have hM := hI5.1.rm
    have hMc := hM
    obtain ⟨hx, ⟨f0, L0⟩, ⟨f1, L1⟩, ⟨f2, L2⟩, ⟨f3, L3⟩, ⟨f4, L4⟩, ⟨f5, L5⟩, ⟨f6, L6⟩, ⟨f7, L7⟩, ⟨f8, L8⟩, ⟨flo, hlo⟩, ⟨fta, hta⟩⟩ := hMc
    have b0 := L0.2.2.1
    have b2 := L2.2.2.1
    have b3 := L3.2.2.1
    have b4 := L4.2.2.1
    have b5 := L5.2.2.1
    have b7 := L7.2.2.1
    have b8 := L8.2.2.1
    have hSQ := (hI5.2.2.1).sq
    have em0 := hg5.e (j := 0) (by decide) (by decide)
    have zm0 := hg5.z (j := 0) (by decide) (by decide)
    have em1 := hg5.e (j := 1) (by decide) (by decide)
    have zm1 := hg5.z (j := 1) (by decide) (by decide)
    have em2 := hg5.e (j := 2) (by decide) (by decide)
    have zm2 := hg5.z (j := 2) (by decide) (by decide)
    have em3 := hg5.e (j := 3) (by decide) (by decide)
    have zm3 := hg5.z (j := 3) (by decide) (by decide)
    have em4 := hg5.e (j := 4) (by decide) (by decide)
    have zm4 := hg5.z (j := 4) (by decide) (by decide)
    have em5 := hg5.e (j := 5) (by decide) (by decide)
    have zm5 := hg5.z (j := 5) (by decide) (by decide)
    refine g_aload_n hκ 2 dX11_makePlot_71 rfl rfl ?_
    refine gt_Room_plots hκ (hdV hz) hx qw_114 (Or.inl rfl) dX11_makePlot_72 ?_
    refine g_rf f8 ?_
    refine g_aload_n hκ 2 dX11_makePlot_75 rfl rfl ?_
    refine gt_Room_plotsOnWay hκ (hdV hz) hx qw_115 (Or.inl rfl) dX11_makePlot_76 ?_
    refine g_eqi hI5.pwv ?_
    refine rV_q hκ (hdV hz) [.int (nI pw)] sd_Jx4a65c_get_915e3 qw_440 (fun D cO H s hK hP => rc_List hK hP L8.1) (k_get S22 (la 8) 5 (sz1 8) pw (el1 8) (nI pw) L8 rfl hp5) ⟨rfl, rfl, Nat.le_of_ble_eq_true rfl, Nat.le_of_ble_eq_true rfl⟩ rfl rfl (Nat.le_of_ble_eq_true rfl) dX11_makePlot_79 (fun r23 hr23 => ?_)
    refine g_rf hr23 ?_
    refine gc_Plot hκ (hdV hz) (L8.2.2.2.2 pw hp5) qw_629 dX11_makePlot_82 ?_
    refine g_astore hκ [(5, .ref (el1 8 pw)), (4, .int (holdF ((sI S3 q_Flight_y f) + z2))), (3, .int (holdF ((sI S q_Flight_x f) + z1))), (0, .ref x), (1, .ref m), (2, .ref f)] dX11_makePlot_85 (by decide) rfl ?_
    refine g_aload hκ 0 dX11_makePlot_87 rfl ?_
    refine g_aload_n hκ 4 dX11_makePlot_89 rfl rfl ?_
    refine g_iload_n hκ 2 dX11_makePlot_90 rfl rfl ?_
    refine g_iload hκ 1 dX11_makePlot_91 rfl ?_
    refine g_aload_n hκ 5 dX11_makePlot_93 rfl rfl ?_
    refine rV_i hκ (hdV hz) [] sd_X0_guess qw_655 (fun D cO H s hK hP => rc_Flight hK hP (eo2 hf (eob em5 (hI5.1.ob (j := 5) (by decide) (by omega))))) (k_guess S22 f (eo2 hf (eob em5 (hI5.1.ob (j := 5) (by decide) (by omega))))) ⟨rfl, rfl, Nat.le_of_ble_eq_true rfl, Nat.le_of_ble_eq_true rfl⟩ rfl rfl (Nat.le_of_ble_eq_true rfl) dX11_makePlot_94 (fun r24 hr24 => ?_)
    refine g_eqi hr24 ?_
    refine g_aload_n hκ 3 dX11_makePlot_97 rfl rfl ?_
    refine gt_Room_minute hκ (hdV hz) hx qw_118 (Or.inl rfl) dX11_makePlot_98 ?_
    refine vV_v hκ hz [.ref m, .int (holdF ((sI S q_Flight_x f) + z1)), .int (holdF ((sI S3 q_Flight_y f) + z2)), .int (guessF (sI S22 q_Flight_count f)), .int (sI S22 q_Room_minute x)] sd_X6_write qw_659 (fun D cO H s hK hP => rc_Plot hK hP (L8.2.2.2.2 pw hp5)) (k_write e9 S22 (el1 8 pw) m (holdF ((sI S q_Flight_x f) + z1)) (holdF ((sI S3 q_Flight_y f) + z2)) (guessF (sI S22 q_Flight_count f)) (sI S22 q_Room_minute x) (L8.2.2.2.2 pw hp5) (eo2 hm (eob em0 (hI5.1.ob (j := 0) (by decide) (by omega))))) ⟨rfl, rfl, Nat.le_of_ble_eq_true rfl, Nat.le_of_ble_eq_true rfl⟩ rfl rfl (Nat.le_of_ble_eq_true rfl) dX11_makePlot_101 (by omega) (by omega) (fun S26 hS26 => ?_)
    obtain rfl := hS26
    have hW9 := IV_write2 (g := guessF (sI S22 q_Flight_count f)) (w := sI S22 q_Room_minute x) hI5 (by omega : i < sz1 0) ((congrFun em0 i).trans hm) rfl hp5 (show isPlaceB (holdF ((sI S q_Flight_x f) + z1)) (holdF ((sI S3 q_Flight_y f) + z2)) = true from hold_pl _ _)
    refine g_aload_n hκ 3 dX11_makePlot_104 rfl rfl ?_
    refine g_dup hκ dX11_makePlot_105 rfl ?_
    refine gt_Room_plotsOnWay hκ (hdV hz) hx qw_115 (Or.inl rfl) dX11_makePlot_106 ?_
    refine g_iconst hκ (v := 1) dX11_makePlot_109 (by decide) ?_
    refine g_iadd hκ dX11_makePlot_110 ?_
    refine pt_Room_plotsOnWay hκ hx qw_115 (Or.inl rfl) dX11_makePlot_111 ?_
    refine g_aload_n hκ 4 dX11_makePlot_114 rfl rfl ?_
    refine g_dup hκ dX11_makePlot_115 rfl ?_
    refine gtN_Mast_made (host := "Plotroom") hκ (hdV hz) (eo2 hm (eob em0 (hI5.1.ob (j := 0) (by decide) (by omega)))) (by decide +kernel) (Or.inl rfl) dX11_makePlot_116 ?_
    refine g_iconst hκ (v := 1) dX11_makePlot_119 (by decide) ?_
    refine g_iadd hκ dX11_makePlot_120 ?_
    refine ptN_Mast_made (host := "Plotroom") hκ (eo2 hm (eob em0 (hI5.1.ob (j := 0) (by decide) (by omega)))) (by decide +kernel) (Or.inl rfl) dX11_makePlot_121 ?_
    exact hend _ _ _ _ _ dX11_makePlot_124 (⟨el1, sz1, cp1, hW9, hg5, hq5, hr5⟩)
