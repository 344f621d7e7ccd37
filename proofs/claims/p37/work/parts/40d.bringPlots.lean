set_option maxHeartbeats 4000000 in
set_option maxRecDepth 100000 in
theorem k_bringPlots (e9 : Nat × Nat) (S : wPS) (x lo ta : Nat) (la : Nat → Nat) (M cnts : Nat) (told : Int32) (el : Nat → Nat → Nat) (sz cp : Nat → Nat) (pw dn : Nat) (hI : IV e9 x lo ta la M cnts told S el sz cp pw pw dn) (h16 : sz 7 ≤ 16) : MVv e9 yX11_bringPlots cX11_bringPlots 4 none ({ frames := 8, cells := 32, slots := 736, locals := 193 }) S [.ref x] (fun S1 => ∃ (el1 : Nat → Nat → Nat) (sz1 cp1 : Nat → Nat) (pw1 : Nat), IV e9 x lo ta la M cnts told S1 el1 sz1 cp1 pw1 pw1 dn ∧ GR el sz el1 sz1 ∧ sz1 8 = sz 8 ∧ sz1 7 ≤ 16) 32 736 := by
  refine stV_v (post := (fun S1 => ∃ (el1 : Nat → Nat → Nat) (sz1 cp1 : Nat → Nat) (pw1 : Nat), IV e9 x lo ta la M cnts told S1 el1 sz1 cp1 pw1 pw1 dn ∧ GR el sz el1 sz1 ∧ sz1 8 = sz 8 ∧ sz1 7 ≤ 16)) (by decide) (Nat.le_of_ble_eq_true rfl) ⟨Nat.le_refl _, Nat.le_refl _⟩ rfl (fun κ hκ hz hnm hend => ?_)
  show Gj κ _ 0 [(0, .ref x)] []
  have hM := hI.1.rm
  have hMc := hM
  obtain ⟨hx, ⟨f0, L0⟩, ⟨f1, L1⟩, ⟨f2, L2⟩, ⟨f3, L3⟩, ⟨f4, L4⟩, ⟨f5, L5⟩, ⟨f6, L6⟩, ⟨f7, L7⟩, ⟨f8, L8⟩, ⟨flo, hlo⟩, ⟨fta, hta⟩⟩ := hMc
  have b0 := L0.2.2.1
  have b2 := L2.2.2.1
  have b3 := L3.2.2.1
  have b4 := L4.2.2.1
  have b5 := L5.2.2.1
  have b7 := L7.2.2.1
  have b8 := L8.2.2.1
  have hSQ := (hI.2.2.1).sq
  have hp8 := hI.p8
  refine g_iconst hκ (v := 0) dX11_bringPlots_0 (by decide) ?_
  refine g_istore_n hκ [(1, .int 0), (0, .ref x)] dX11_bringPlots_1 rfl (by decide) rfl ?_
  refine g_iconst hκ (v := 0) dX11_bringPlots_2 (by decide) ?_
  refine g_istore_n hκ [(2, .int 0), (1, .int 0), (0, .ref x)] dX11_bringPlots_3 rfl (by decide) rfl ?_
  have loop4 : ∀ (d4 i4 : Nat) (x4 : Int32) (S : wPS) (elK : Nat → Nat → Nat) (szK : Nat → Nat) (cpK : Nat → Nat) (kp : Nat) (kx : Int32), i4 + d4 = pw → x4 = nI i4 → (IV e9 x lo ta la M cnts told S elK szK cpK pw (kp + d4) dn ∧ GR el sz elK szK ∧ szK 8 = sz 8 ∧ szK 7 ≤ 16 ∧ kp ≤ i4 ∧ kx = nI kp) → Gj κ (PV κ S (2 * (16 - szK 7)) (46 * (16 - szK 7))) 4 [(2, .int x4), (1, .int kx), (0, .ref x)] [] := by
    intro d4
    induction d4 with
    | zero =>
      intro i4 x4 S elK szK cpK kp kx hi4 hx4 hI
      subst hx4
      obtain ⟨hI, hg, h8, h7, hkp, hkx⟩ := hI
      subst hkx
      have hp8 := hI.p8
      have hM := hI.1.rm
      have hMc := hM
      obtain ⟨hx, ⟨f0, L0⟩, ⟨f1, L1⟩, ⟨f2, L2⟩, ⟨f3, L3⟩, ⟨f4, L4⟩, ⟨f5, L5⟩, ⟨f6, L6⟩, ⟨f7, L7⟩, ⟨f8, L8⟩, ⟨flo, hlo⟩, ⟨fta, hta⟩⟩ := hMc
      have b0 := L0.2.2.1
      have b2 := L2.2.2.1
      have b3 := L3.2.2.1
      have b4 := L4.2.2.1
      have b5 := L5.2.2.1
      have b7 := L7.2.2.1
      have b8 := L8.2.2.1
      have hSQ := (hI.2.2.1).sq
      refine g_iload_n hκ 0 dX11_bringPlots_4 rfl rfl ?_
      refine g_aload_n hκ 2 dX11_bringPlots_5 rfl rfl ?_
      refine gt_Room_plotsOnWay hκ (hdV hz) hx qw_115 (Or.inl rfl) dX11_bringPlots_6 ?_
      refine g_eqi hI.pwv ?_
      refine g_icmp_ge hκ 93 dX11_bringPlots_9 (by decide) (fun _ => ?_) (fun z => absurd (lp_ge rfl (by omega) (by omega)) z)
      refine g_aload_n hκ 2 dX11_bringPlots_93 rfl rfl ?_
      refine g_iload_n hκ 1 dX11_bringPlots_94 rfl rfl ?_
      refine pt_Room_plotsOnWay hκ hx qw_115 (Or.inl rfl) dX11_bringPlots_95 ?_
      exact hend _ _ _ _ _ dX11_bringPlots_98 (⟨elK, szK, cpK, kp, IV_kept hI (by omega), hg, h8, h7⟩)
    | succ d4 ih4 =>
      intro i4 x4 S elK szK cpK kp kx hi4 hx4 hI
      subst hx4
      obtain ⟨hI, hg, h8, h7, hkp, hkx⟩ := hI
      subst hkx
      have hp8 := hI.p8
      have hM := hI.1.rm
      have hMc := hM
      obtain ⟨hx, ⟨f0, L0⟩, ⟨f1, L1⟩, ⟨f2, L2⟩, ⟨f3, L3⟩, ⟨f4, L4⟩, ⟨f5, L5⟩, ⟨f6, L6⟩, ⟨f7, L7⟩, ⟨f8, L8⟩, ⟨flo, hlo⟩, ⟨fta, hta⟩⟩ := hMc
      have b0 := L0.2.2.1
      have b2 := L2.2.2.1
      have b3 := L3.2.2.1
      have b4 := L4.2.2.1
      have b5 := L5.2.2.1
      have b7 := L7.2.2.1
      have b8 := L8.2.2.1
      have hSQ := (hI.2.2.1).sq
      refine g_iload_n hκ 0 dX11_bringPlots_4 rfl rfl ?_
      refine g_aload_n hκ 2 dX11_bringPlots_5 rfl rfl ?_
      refine gt_Room_plotsOnWay hκ (hdV hz) hx qw_115 (Or.inl rfl) dX11_bringPlots_6 ?_
      refine g_eqi hI.pwv ?_
      refine g_icmp_ge hκ 93 dX11_bringPlots_9 (by decide) (fun z => absurd z (lp_nge rfl (by omega) (by omega))) (fun _ => ?_)
      refine g_iload_n hκ 0 dX11_bringPlots_12 rfl rfl ?_
      refine g_aload_n hκ 2 dX11_bringPlots_13 rfl rfl ?_
      refine gt_Room_plots hκ (hdV hz) hx qw_114 (Or.inl rfl) dX11_bringPlots_14 ?_
      refine g_rf f8 ?_
      refine rV_i hκ (hdV hz) [] sd_Jx4a65c_size_8abf5 qw_227 (fun D cO H s hK hP => rc_List hK hP L8.1) (k_sizeL S (la 8) 5 (szK 8) (elK 8) L8) ⟨rfl, rfl, Nat.le_of_ble_eq_true rfl, Nat.le_of_ble_eq_true rfl⟩ rfl rfl (Nat.le_of_ble_eq_true rfl) dX11_bringPlots_17 (fun r1 hr1 => ?_)
      refine g_eqi hr1 ?_
      refine g_icmp_ge hκ 93 dX11_bringPlots_20 (by decide) (fun z => absurd z (lp_nge rfl (by omega) (by omega))) (fun _ => ?_)
      refine g_aload_n hκ 2 dX11_bringPlots_23 rfl rfl ?_
      refine gt_Room_plots hκ (hdV hz) hx qw_114 (Or.inl rfl) dX11_bringPlots_24 ?_
      refine g_rf f8 ?_
      refine g_iload_n hκ 0 dX11_bringPlots_27 rfl rfl ?_
      refine rV_q hκ (hdV hz) [.int (nI i4)] sd_Jx4a65c_get_915e3 qw_440 (fun D cO H s hK hP => rc_List hK hP L8.1) (k_get S (la 8) 5 (szK 8) i4 (elK 8) (nI i4) L8 rfl (by omega)) ⟨rfl, rfl, Nat.le_of_ble_eq_true rfl, Nat.le_of_ble_eq_true rfl⟩ rfl rfl (Nat.le_of_ble_eq_true rfl) dX11_bringPlots_28 (fun r2 hr2 => ?_)
      refine g_rf hr2 ?_
      refine gc_Plot hκ (hdV hz) (L8.2.2.2.2 i4 (by omega)) qw_629 dX11_bringPlots_31 ?_
      refine g_astore_n hκ [(3, .ref (elK 8 i4)), (2, .int (nI i4)), (1, .int (nI kp)), (0, .ref x)] dX11_bringPlots_34 rfl (by decide) rfl ?_
      refine g_aload_n hκ 0 dX11_bringPlots_35 rfl rfl ?_
      refine gtN_Plot_due (host := "Plotroom") hκ (hdV hz) (L8.2.2.2.2 i4 (by omega)) (by decide +kernel) (Or.inl rfl) dX11_bringPlots_36 ?_
      refine g_aload_n hκ 3 dX11_bringPlots_39 rfl rfl ?_
      refine gt_Room_minute hκ (hdV hz) hx qw_118 (Or.inl rfl) dX11_bringPlots_40 ?_
      refine g_icmp_gt hκ 54 dX11_bringPlots_43 (by decide) (fun c3 => ?_) (fun c3 => ?_)
      · skip
        refine g_aload_n hκ 3 dX11_bringPlots_54 rfl rfl ?_
        refine gt_Room_plots hκ (hdV hz) hx qw_114 (Or.inl rfl) dX11_bringPlots_55 ?_
        refine g_rf f8 ?_
        refine g_iload_n hκ 1 dX11_bringPlots_58 rfl rfl ?_
        refine g_aload_n hκ 3 dX11_bringPlots_59 rfl rfl ?_
        refine gt_Room_plots hκ (hdV hz) hx qw_114 (Or.inl rfl) dX11_bringPlots_60 ?_
        refine g_rf f8 ?_
        refine g_iload_n hκ 2 dX11_bringPlots_63 rfl rfl ?_
        refine rV_q hκ (hdV hz) [.int (nI kp)] sd_Jx4a65c_get_915e3 qw_440 (fun D cO H s hK hP => rc_List hK hP L8.1) (k_get S (la 8) 5 (szK 8) kp (elK 8) (nI kp) L8 rfl (by omega)) ⟨rfl, rfl, Nat.le_of_ble_eq_true rfl, Nat.le_of_ble_eq_true rfl⟩ rfl rfl (Nat.le_of_ble_eq_true rfl) dX11_bringPlots_64 (fun r4 hr4 => ?_)
        refine g_rf hr4 ?_
        refine gc_Plot hκ (hdV hz) (L8.2.2.2.2 kp (by omega)) qw_629 dX11_bringPlots_67 ?_
        obtain ⟨r0, he0, hr0, hn0, hc0, hw0⟩ := L8.2.2.2.1 i4 (by omega)
        have hw1 := (hI.1.ls (j := 8) (by decide)).wat he0 (by omega : kp < szK 8)
        refine vV_q hκ hz [.int (nI i4), .ref (elK 8 kp)] sd_Jx4a65c_set_bcc79 qw_738 (fun D cO H s hK hP => rc_List hK hP L8.1) (k_set e9 S (la 8) r0 (szK 8) i4 (elK 8 i4) (elK 8 kp) 5 "Plotroom$Plot" (by omega) L8.1 he0 hr0 hn0 hc0 L8.2.1 hw0 (L8.2.2.2.2 kp (by omega)) (fun S D cO H s a hK hP hO => rc_Plot hK hP hO) (by decide)) ⟨rfl, rfl, Nat.le_of_ble_eq_true rfl, Nat.le_of_ble_eq_true rfl⟩ rfl rfl (Nat.le_of_ble_eq_true rfl) dX11_bringPlots_70 (by omega) (by omega) (fun r5 S6 hS6 => ?_)
        obtain ⟨rfl, rfl⟩ := hS6
        refine g_rf rfl ?_
        refine g_pop hκ dX11_bringPlots_73 rfl ?_
        refine g_aload_n hκ 3 dX11_bringPlots_74 rfl rfl ?_
        refine gt_Room_plots hκ (hdV hz) hx qw_114 (Or.inl rfl) dX11_bringPlots_75 ?_
        refine g_rf f8 ?_
        refine g_iload_n hκ 2 dX11_bringPlots_78 rfl rfl ?_
        refine g_aload_n hκ 0 dX11_bringPlots_79 rfl rfl ?_
        refine vV_q hκ hz [.int (nI kp), .ref (elK 8 i4)] sd_Jx4a65c_set_bcc79 qw_738 (fun D cO H s hK hP => rc_List hK hP L8.1) (k_set e9 (putW S r0 (va_up (sW S r0) (nI i4).toNatClampNeg (some (elK 8 kp)))) (la 8) r0 (szK 8) kp (elK 8 kp) (elK 8 i4) 5 "Plotroom$Plot" (by omega) L8.1 he0 hr0 hn0 hc0 L8.2.1 (set_y hw1 (nI_clamp (by omega))) (L8.2.2.2.2 i4 (by omega)) (fun S D cO H s a hK hP hO => rc_Plot hK hP hO) (by decide)) ⟨rfl, rfl, Nat.le_of_ble_eq_true rfl, Nat.le_of_ble_eq_true rfl⟩ rfl rfl (Nat.le_of_ble_eq_true rfl) dX11_bringPlots_80 (by omega) (by omega) (fun r7 S8 hS8 => ?_)
        obtain ⟨rfl, rfl⟩ := hS8
        refine g_rf rfl ?_
        refine g_gen (P := fun Sz => IV e9 x lo ta la M cnts told Sz (va_up elK 8 (swp (elK 8) i4 kp)) szK cpK pw (kp + (d4 + 1)) dn) (IV_swap hI (by omega) (by omega) he0 (sw_W (nI_clamp (by omega)) (nI_clamp (by omega))) (fun b hb => sw_Wb hb) rfl rfl rfl rfl rfl) (fun S9 hI5 => ?_)
        refine g_pop hκ dX11_bringPlots_83 rfl ?_
        refine g_iinc hκ (k := 2) (v := nI (kp + 1)) [(1, .int (nI (kp + 1))), (3, .ref (elK 8 i4)), (2, .int (nI i4)), (0, .ref x)] dX11_bringPlots_84 rfl (nI_1 kp) (by decide) rfl ?_
        obtain ⟨v10, hv10⟩ : ∃ z : Int32, nI i4 + 1 = z := ⟨_, rfl⟩
        refine g_iinc hκ (k := 2) (v := v10) [(2, .int v10), (1, .int (nI (kp + 1))), (3, .ref (elK 8 i4)), (0, .ref x)] dX11_bringPlots_87 rfl hv10 (by decide) rfl ?_
        refine g_goto hκ 4 dX11_bringPlots_90 (by decide) ?_
        refine g_lv [(2, .int v10), (1, .int (nI (kp + 1))), (0, .ref x)] [0, 1, 3] rfl ?_
        have e9k : kp + 1 + d4 = kp + (d4 + 1) := by omega
        refine g_wid (k2 := 2 * (16 - szK 7)) (n2 := 46 * (16 - szK 7)) (by omega) (by omega) ?_
        exact ih4 (i4 + 1) v10 S9 (va_up elK 8 (swp (elK 8) i4 kp)) szK cpK (kp + 1) (nI (kp + 1)) (by omega) (lp_s rfl hv10) (⟨(by rw [e9k]; exact hI5), hg.sw, h8, h7, by omega, rfl⟩)
      · skip
        refine g_aload_n hκ 3 dX11_bringPlots_46 rfl rfl ?_
        refine g_aload_n hκ 0 dX11_bringPlots_47 rfl rfl ?_
        obtain ⟨r9, hA1, hA0, hr9⟩ := ex_r (P := trF (cameF S ((sR S q_Plot_mast (elK 8 i4)).getD 0)) x elK szK (elK 8 i4) = none ∧ szK 7 < 16) (fun z => z.2) h7
        refine vV_v hκ hz [.ref (elK 8 i4)] sd_X11_bringPlot qw_667 (fun D cO H s hK hP => rc_Room hK hP hx) (k_bringPlot e9 S x lo ta la M cnts told elK szK cpK pw (kp + d4) dn i4 (elK 8 i4) r9 hI (by omega) rfl hA1 hA0) ⟨rfl, rfl, Nat.le_of_ble_eq_true rfl, Nat.le_of_ble_eq_true rfl⟩ rfl rfl (Nat.le_of_ble_eq_true rfl) dX11_bringPlots_48 (by omega) (by omega) (fun S12 hS12 => ?_)
        obtain ⟨elC, szC, cpC, hI3, hg3, hq3, hq8, hq7⟩ := hS12
        refine g_goto hκ 87 dX11_bringPlots_51 (by decide) ?_
        obtain ⟨v13, hv13⟩ : ∃ z : Int32, nI i4 + 1 = z := ⟨_, rfl⟩
        refine g_iinc hκ (k := 1) (v := v13) [(2, .int v13), (3, .ref (elK 8 i4)), (1, .int (nI kp)), (0, .ref x)] dX11_bringPlots_87 rfl hv13 (by decide) rfl ?_
        refine g_goto hκ 4 dX11_bringPlots_90 (by decide) ?_
        refine g_lv [(2, .int v13), (1, .int (nI kp)), (0, .ref x)] [0, 2, 3] rfl ?_
        refine g_wid (k2 := 2 * (16 - szC 7)) (n2 := 46 * (16 - szC 7)) (by omega) (by omega) ?_
        exact ih4 (i4 + 1) v13 S12 elC szC cpC kp (nI kp) (by omega) (lp_s rfl hv13) (⟨hI3, hg.trans hg3, hq8.trans h8, by omega, by omega, rfl⟩)
  refine g_wid (k2 := 2 * (16 - sz 7)) (n2 := 46 * (16 - sz 7)) (by omega) (by omega) ?_
  exact loop4 pw 0 0 S el sz cp 0 0 (by omega) (by first | rfl | decide) (⟨by rw [Nat.zero_add]; exact hI, GR.refl, rfl, h16, Nat.zero_le _, nI_0.symm⟩)
