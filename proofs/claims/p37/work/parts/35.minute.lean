set_option maxHeartbeats 4000000 in
set_option maxRecDepth 100000 in
theorem k_fightWith (e9 : Nat × Nat) (S : wPS) (x lo ta : Nat) (la : Nat → Nat) (M cnts : Nat) (told : Int32) (el : Nat → Nat → Nat) (sz cp : Nat → Nat) (pw ow dn : Nat) (i : Nat) (hI : IV e9 x lo ta la M cnts told S el sz cp pw ow dn) (hcn : cnts ≤ 1188) (hi : i < sz 2) : MVv e9 yX11_fightWith cX11_fightWith 5 none ({ frames := 4, cells := 0, slots := 0, locals := 90 }) S [.ref x, .ref (el 2 i)] (fun S1 => ∃ dn1 : Nat, dn ≤ dn1 ∧ dn1 ≤ dn + 2 ∧ IV e9 x lo ta la M cnts told S1 el sz cp pw ow dn1) 0 0 := by
  refine stV_v (post := (fun S1 => ∃ dn1 : Nat, dn ≤ dn1 ∧ dn1 ≤ dn + 2 ∧ IV e9 x lo ta la M cnts told S1 el sz cp pw ow dn1)) (by decide) (Nat.le_of_ble_eq_true rfl) ⟨Nat.le_refl _, Nat.le_refl _⟩ rfl (fun κ hκ hz hnm hend => ?_)
  show Gj κ _ 0 [(0, .ref x), (1, .ref (el 2 i))] []
  have hM := hI.1.rm
  have hMc := hM
  obtain ⟨hx, ⟨f0, L0⟩, ⟨f1, L1⟩, ⟨f2, L2⟩, ⟨f3, L3⟩, ⟨f4, L4⟩, ⟨f5, L5⟩, ⟨f6, L6⟩, ⟨f7, L7⟩, ⟨f8, L8⟩, ⟨flo, hlo⟩, ⟨fta, hta⟩⟩ := hMc
  have b0 := L0.2.2.1
  have b2 := L2.2.2.1
  have b3 := L3.2.2.1
  have b4 := L4.2.2.1
  have b5 := L5.2.2.1
  have b7 := L7.2.2.1
  have b8 := L8.2.2.1
  have hSQ := (hI.2.2.1).sq
  refine g_aload_n hκ 1 dX11_fightWith_0 rfl rfl ?_
  refine gtN_Squadron_state (host := "Plotroom") hκ (hdV hz) (hI.1.ob (j := 2) (by decide) hi) (by decide +kernel) (Or.inl rfl) dX11_fightWith_1 ?_
  refine g_iconst hκ (v := 2) dX11_fightWith_4 (by decide) ?_
  refine g_icmp_ne hκ 16 dX11_fightWith_5 (by decide) (fun c1 => ?_) (fun c1 => ?_)
  · skip
    refine g_null hκ dX11_fightWith_16 ?_
    refine g_astore_nN hκ [(2, .null), (0, .ref x), (1, .ref (el 2 i))] dX11_fightWith_17 rfl (by decide) rfl ?_
    refine g_aload_nN hκ 0 dX11_fightWith_18 rfl rfl ?_
    refine g_ifnonnullN hκ dX11_fightWith_19 ?_
    exact hend _ _ _ _ _ dX11_fightWith_22 (⟨dn, by omega, by omega, hI⟩)
  · skip
    refine g_aload_n hκ 0 dX11_fightWith_8 rfl rfl ?_
    refine g_aload_n hκ 1 dX11_fightWith_9 rfl rfl ?_
    refine rV_q hκ (hdV hz) [.ref (el 2 i)] sd_X11_foeNear qw_791 (fun D cO H s hK hP => rc_Room hK hP hx) (k_foeNear S x lo ta la el sz (el 2 i) hM (hI.1.ob (j := 2) (by decide) hi)) ⟨rfl, rfl, Nat.le_of_ble_eq_true rfl, Nat.le_of_ble_eq_true rfl⟩ rfl rfl (Nat.le_of_ble_eq_true rfl) dX11_fightWith_10 (fun r2 hr2 => ?_)
    rcases foF_in (S := S) (el := el) (sz := sz) (q := el 2 i) with hn | ⟨k, hk, hup, hn⟩
    · skip
      refine g_rn (hr2.trans hn) ?_
      refine g_goto hκ 17 dX11_fightWith_13 (by decide) ?_
      refine g_astore_nN hκ [(2, .null), (0, .ref x), (1, .ref (el 2 i))] dX11_fightWith_17 rfl (by decide) rfl ?_
      refine g_aload_nN hκ 0 dX11_fightWith_18 rfl rfl ?_
      refine g_ifnonnullN hκ dX11_fightWith_19 ?_
      exact hend _ _ _ _ _ dX11_fightWith_22 (⟨dn, by omega, by omega, hI⟩)
    · skip
      refine g_rf (hr2.trans hn) ?_
      refine g_goto hκ 17 dX11_fightWith_13 (by decide) ?_
      refine g_astore_n hκ [(2, .ref (el 5 k)), (0, .ref x), (1, .ref (el 2 i))] dX11_fightWith_17 rfl (by decide) rfl ?_
      refine g_aload_n hκ 0 dX11_fightWith_18 rfl rfl ?_
      refine g_ifnonnull hκ 23 dX11_fightWith_19 (by decide) ?_
      refine g_aload_n hκ 2 dX11_fightWith_23 rfl rfl ?_
      refine g_aload_n hκ 0 dX11_fightWith_24 rfl rfl ?_
      refine g_aload_n hκ 1 dX11_fightWith_25 rfl rfl ?_
      refine gt_Room_lots hκ (hdV hz) hx qw_116 (Or.inl rfl) dX11_fightWith_26 ?_
      refine g_rf flo ?_
      refine vV_i hκ hz [] sd_X2_draw qw_798 (fun D cO H s hK hP => rc_Lots hK hP hlo) (k_draw e9 S lo hlo) ⟨rfl, rfl, Nat.le_of_ble_eq_true rfl, Nat.le_of_ble_eq_true rfl⟩ rfl rfl (Nat.le_of_ble_eq_true rfl) dX11_fightWith_29 (by omega) (by omega) (fun r3 S4 hS4 => ?_)
      obtain ⟨e9r, rfl⟩ := hS4
      obtain ⟨hI1, t1, ht1, et1⟩ := IV_draw hI
      refine g_eqi (e9r.trans et1) ?_
      refine g_gen (P := fun Sz => IV e9 x lo ta la M cnts told Sz el sz cp pw ow (dn + 1)) (hI1) (fun S5 hI1 => ?_)
      have hM := hI1.1.rm
      have hMc := hM
      obtain ⟨hx, ⟨f0, L0⟩, ⟨f1, L1⟩, ⟨f2, L2⟩, ⟨f3, L3⟩, ⟨f4, L4⟩, ⟨f5, L5⟩, ⟨f6, L6⟩, ⟨f7, L7⟩, ⟨f8, L8⟩, ⟨flo, hlo⟩, ⟨fta, hta⟩⟩ := hMc
      have b0 := L0.2.2.1
      have b2 := L2.2.2.1
      have b3 := L3.2.2.1
      have b4 := L4.2.2.1
      have b5 := L5.2.2.1
      have b7 := L7.2.2.1
      have b8 := L8.2.2.1
      have hSQ := (hI1.2.2.1).sq
      refine rS_i hκ (hdV hz) [.ref (el 2 i), .ref (el 5 k), .int (nI t1)] sd_X11_winOf qw_799 (k_winOf S5 (el 2 i) (el 5 k) (nI t1) (hI1.1.ob (j := 2) (by decide) hi) (hI1.1.ob (j := 5) (by decide) hk)) ⟨rfl, rfl, Nat.le_of_ble_eq_true rfl, Nat.le_of_ble_eq_true rfl⟩ rfl rfl (Nat.le_of_ble_eq_true rfl) dX11_fightWith_32 (fun r6 hr6 => ?_)
      obtain ⟨⟨m, hm12, hmm, hmst⟩, -⟩ := hI1.2.2.1 i hi
      obtain ⟨c, hc2, hc⟩ := SM2.cnt hI1.2.2.2.2.2.2.2.2.1 hk
      obtain ⟨w, hw, ew⟩ := win_nI (q := el 2 i) (f := el 5 k) hm12 hmm hc (by omega) ht1
      refine g_eqi (hr6.trans ew) ?_
      refine g_istore_n hκ [(3, .int (nI w)), (2, .ref (el 5 k)), (0, .ref x), (1, .ref (el 2 i))] dX11_fightWith_35 rfl (by decide) rfl ?_
      refine g_aload_n hκ 1 dX11_fightWith_36 rfl rfl ?_
      refine g_iload_n hκ 0 dX11_fightWith_37 rfl rfl ?_
      refine vV_v hκ hz [.int (nI w)] sd_X0_lose qw_803 (fun D cO H s hK hP => rc_Flight hK hP (hI1.1.ob (j := 5) (by decide) hk)) (k_lose e9 S5 (el 5 k) (nI w) (hI1.1.ob (j := 5) (by decide) hk)) ⟨rfl, rfl, Nat.le_of_ble_eq_true rfl, Nat.le_of_ble_eq_true rfl⟩ rfl rfl (Nat.le_of_ble_eq_true rfl) dX11_fightWith_38 (by omega) (by omega) (fun S8 hS8 => ?_)
      obtain rfl := hS8
      have hL9 := (loseF_ch (S := S5) (f := el 5 k) (m := nI w)).1
      refine g_aload_n hκ 3 dX11_fightWith_41 rfl rfl ?_
      refine g_dup hκ dX11_fightWith_42 rfl ?_
      refine gtN_Squadron_won (host := "Plotroom") hκ (hdV hz) (hL9.o (hI1.1.ob (j := 2) (by decide) hi)) (by decide +kernel) (Or.inl rfl) dX11_fightWith_43 ?_
      refine g_iload_n hκ 0 dX11_fightWith_46 rfl rfl ?_
      refine g_iadd hκ dX11_fightWith_47 ?_
      refine ptN_Squadron_won (host := "Plotroom") hκ (hL9.o (hI1.1.ob (j := 2) (by decide) hi)) (by decide +kernel) (Or.inl rfl) dX11_fightWith_48 ?_
      refine g_aload_n hκ 2 dX11_fightWith_51 rfl rfl ?_
      refine gt_Room_tally hκ (hdV hz) (hL9.o hx) qw_117 (Or.inl rfl) dX11_fightWith_52 ?_
      refine g_rf ((hL9.2.2 q_Room_tally (by decide) _ hx.1).trans fta) ?_
      refine g_dup hκ dX11_fightWith_55 rfl ?_
      refine gtN_Tally_fights (host := "Plotroom") hκ (hdV hz) (hL9.o hta) (by decide +kernel) (Or.inl rfl) dX11_fightWith_56 ?_
      refine g_iconst hκ (v := 1) dX11_fightWith_59 (by decide) ?_
      refine g_iadd hκ dX11_fightWith_60 ?_
      refine ptN_Tally_fights (host := "Plotroom") hκ (hL9.o hta) (by decide +kernel) (Or.inl rfl) dX11_fightWith_61 ?_
      refine g_aload_n hκ 2 dX11_fightWith_64 rfl rfl ?_
      refine gt_Room_tally hκ (hdV hz) (hL9.o hx) qw_117 (Or.inl rfl) dX11_fightWith_65 ?_
      refine g_rf ((hL9.2.2 q_Room_tally (by decide) _ hx.1).trans fta) ?_
      refine g_dup hκ dX11_fightWith_68 rfl ?_
      refine gtN_Tally_claims (host := "Plotroom") hκ (hdV hz) (hL9.o hta) (by decide +kernel) (Or.inl rfl) dX11_fightWith_69 ?_
      refine g_iload_n hκ 0 dX11_fightWith_72 rfl rfl ?_
      refine g_iload_n hκ 0 dX11_fightWith_73 rfl rfl ?_
      refine g_iconst hκ (v := 2) dX11_fightWith_74 (by decide) ?_
      refine g_idiv hκ dX11_fightWith_75 (by decide) ?_
      refine g_iadd hκ dX11_fightWith_76 ?_
      refine g_iadd hκ dX11_fightWith_77 ?_
      refine ptN_Tally_claims (host := "Plotroom") hκ (hL9.o hta) (by decide +kernel) (Or.inl rfl) dX11_fightWith_78 ?_
      refine g_gen (P := fun Sz => IV e9 x lo ta la M cnts told Sz el sz cp pw ow (dn + 1)) (IV_win hI1 hi hk hcn hc hc2 hw) (fun S9 hI5 => ?_)
      have hM := hI5.1.rm
      have hMc := hM
      obtain ⟨hx, ⟨f0, L0⟩, ⟨f1, L1⟩, ⟨f2, L2⟩, ⟨f3, L3⟩, ⟨f4, L4⟩, ⟨f5, L5⟩, ⟨f6, L6⟩, ⟨f7, L7⟩, ⟨f8, L8⟩, ⟨flo, hlo⟩, ⟨fta, hta⟩⟩ := hMc
      have b0 := L0.2.2.1
      have b2 := L2.2.2.1
      have b3 := L3.2.2.1
      have b4 := L4.2.2.1
      have b5 := L5.2.2.1
      have b7 := L7.2.2.1
      have b8 := L8.2.2.1
      have hSQ := (hI5.2.2.1).sq
      obtain ⟨c5, hc52, hc5⟩ := SM2.cnt hI5.2.2.2.2.2.2.2.2.1 hk
      refine g_aload_n hκ 1 dX11_fightWith_81 rfl rfl ?_
      refine gtN_Flight_count (host := "Plotroom") hκ (hdV hz) (hI5.1.ob (j := 5) (by decide) hk) (by decide +kernel) (Or.inl rfl) dX11_fightWith_82 ?_
      refine g_if_le hκ 122 dX11_fightWith_85 (by decide) (fun c10 => ?_) (fun c10 => ?_)
      · skip
        exact hend _ _ _ _ _ dX11_fightWith_122 (⟨(dn + 1), by omega, by omega, hI5⟩)
      · skip
        refine g_aload_n hκ 1 dX11_fightWith_88 rfl rfl ?_
        refine gtN_Flight_count (host := "Plotroom") hκ (hdV hz) (hI5.1.ob (j := 5) (by decide) hk) (by decide +kernel) (Or.inl rfl) dX11_fightWith_89 ?_
        refine g_eqi hc5 ?_
        refine g_aload_n hκ 2 dX11_fightWith_92 rfl rfl ?_
        refine gt_Room_lots hκ (hdV hz) hx qw_116 (Or.inl rfl) dX11_fightWith_93 ?_
        refine g_rf flo ?_
        refine vV_i hκ hz [] sd_X2_draw qw_798 (fun D cO H s hK hP => rc_Lots hK hP hlo) (k_draw e9 S9 lo hlo) ⟨rfl, rfl, Nat.le_of_ble_eq_true rfl, Nat.le_of_ble_eq_true rfl⟩ rfl rfl (Nat.le_of_ble_eq_true rfl) dX11_fightWith_96 (by omega) (by omega) (fun r11 S12 hS12 => ?_)
        obtain ⟨e9r, rfl⟩ := hS12
        obtain ⟨hI2, t2, ht2, et2⟩ := IV_draw hI5
        refine g_eqi (e9r.trans et2) ?_
        refine g_gen (P := fun Sz => IV e9 x lo ta la M cnts told Sz el sz cp pw ow (dn + 2)) (hI2) (fun S13 hI2 => ?_)
        have hM := hI2.1.rm
        have hMc := hM
        obtain ⟨hx, ⟨f0, L0⟩, ⟨f1, L1⟩, ⟨f2, L2⟩, ⟨f3, L3⟩, ⟨f4, L4⟩, ⟨f5, L5⟩, ⟨f6, L6⟩, ⟨f7, L7⟩, ⟨f8, L8⟩, ⟨flo, hlo⟩, ⟨fta, hta⟩⟩ := hMc
        have b0 := L0.2.2.1
        have b2 := L2.2.2.1
        have b3 := L3.2.2.1
        have b4 := L4.2.2.1
        have b5 := L5.2.2.1
        have b7 := L7.2.2.1
        have b8 := L8.2.2.1
        have hSQ := (hI2.2.2.1).sq
        refine g_bipush hκ (v := 6) dX11_fightWith_99 (by decide) ?_
        refine g_irem hκ dX11_fightWith_101 (by decide) ?_
        refine g_imul hκ dX11_fightWith_102 ?_
        refine g_bipush hκ (v := 40) dX11_fightWith_103 (by decide) ?_
        refine g_idiv hκ dX11_fightWith_105 (by decide) ?_
        obtain ⟨l, hl9, el9⟩ := lost_nI (c := c5) (t := t2) (by omega) ht2
        refine g_eqi (y := nI l) el9 ?_
        refine g_istore hκ [(4, .int (nI l)), (3, .int (nI w)), (2, .ref (el 5 k)), (0, .ref x), (1, .ref (el 2 i))] dX11_fightWith_106 (by decide) rfl ?_
        refine g_aload_n hκ 3 dX11_fightWith_108 rfl rfl ?_
        refine g_aload_n hκ 4 dX11_fightWith_109 rfl rfl ?_
        refine g_aload_n hκ 4 dX11_fightWith_110 rfl rfl ?_
        refine gtN_Squadron_machines (host := "Plotroom") hκ (hdV hz) (hI2.1.ob (j := 2) (by decide) hi) (by decide +kernel) (Or.inl rfl) dX11_fightWith_111 ?_
        obtain ⟨⟨m6, hm6, hmm6, hmst6⟩, hr6⟩ := hI2.2.2.1 i hi
        refine g_eqi hmm6 ?_
        refine g_iload hκ 0 dX11_fightWith_114 rfl ?_
        refine g_min hκ (hdV hz) qw_802 ⟨Nat.le_of_ble_eq_true rfl, Nat.le_of_ble_eq_true rfl⟩ dX11_fightWith_116 ?_
        obtain ⟨r6, hr66, er6⟩ := min_nI (m := m6) (l := l) hm6 hl9
        refine g_eqi er6 ?_
        obtain ⟨b6, hB6⟩ := sqI.b (hI2.1.ob (j := 2) (by decide) hi) (hI2.2.2.1 i hi)
        refine vV_v hκ hz [.ref (el 2 i), .int (nI r6)] sd_X11_loseMachines qw_783 (fun D cO H s hK hP => rc_Room hK hP hx) (k_loseM e9 S13 x lo ta la el sz (el 2 i) (nI r6) b6 hM (hI2.1.ob (j := 2) (by decide) hi) hB6.2.2.2.1 hB6.2.2.2.2.1) ⟨rfl, rfl, Nat.le_of_ble_eq_true rfl, Nat.le_of_ble_eq_true rfl⟩ rfl rfl (Nat.le_of_ble_eq_true rfl) dX11_fightWith_119 (by omega) (by omega) (fun S15 hS15 => ?_)
        obtain rfl := hS15
        have TT9 := lm_TT (ta := ta) (l := r6) hB6 (Or.inl (hI2.2.2.1 i hi)) hm6 hmm6 hr66
        refine g_gen (P := fun Sz => IV e9 x lo ta la M cnts told Sz el sz cp pw ow (dn + 2)) (IV_sq hI2 hi TT9.1 TT9.2.1 TT9.2.2) (fun S16 hI8 => ?_)
        exact hend _ _ _ _ _ dX11_fightWith_122 (⟨(dn + 2), by omega, by omega, hI8⟩)
set_option maxHeartbeats 4000000 in
set_option maxRecDepth 100000 in
theorem k_fireGun (e9 : Nat × Nat) (S : wPS) (x lo ta : Nat) (la : Nat → Nat) (M cnts : Nat) (told : Int32) (el : Nat → Nat → Nat) (sz cp : Nat → Nat) (pw ow dn : Nat) (i : Nat) (hI : IV e9 x lo ta la M cnts told S el sz cp pw ow dn) (hcn : cnts ≤ 1188) (hi : i < sz 3) : MVv e9 yX11_fireGun cX11_fireGun 4 none ({ frames := 4, cells := 0, slots := 0, locals := 89 }) S [.ref x, .ref (el 3 i)] (fun S1 => ∃ dn1 : Nat, dn ≤ dn1 ∧ dn1 ≤ dn + sz 5 ∧ IV e9 x lo ta la M cnts told S1 el sz cp pw ow dn1) 0 0 := by
  refine stV_v (post := (fun S1 => ∃ dn1 : Nat, dn ≤ dn1 ∧ dn1 ≤ dn + sz 5 ∧ IV e9 x lo ta la M cnts told S1 el sz cp pw ow dn1)) (by decide) (Nat.le_of_ble_eq_true rfl) ⟨Nat.le_refl _, Nat.le_refl _⟩ rfl (fun κ hκ hz hnm hend => ?_)
  show Gj κ _ 0 [(0, .ref x), (1, .ref (el 3 i))] []
  have hM := hI.1.rm
  have hMc := hM
  obtain ⟨hx, ⟨f0, L0⟩, ⟨f1, L1⟩, ⟨f2, L2⟩, ⟨f3, L3⟩, ⟨f4, L4⟩, ⟨f5, L5⟩, ⟨f6, L6⟩, ⟨f7, L7⟩, ⟨f8, L8⟩, ⟨flo, hlo⟩, ⟨fta, hta⟩⟩ := hMc
  have b0 := L0.2.2.1
  have b2 := L2.2.2.1
  have b3 := L3.2.2.1
  have b4 := L4.2.2.1
  have b5 := L5.2.2.1
  have b7 := L7.2.2.1
  have b8 := L8.2.2.1
  have hSQ := (hI.2.2.1).sq
  refine g_aload_n hκ 1 dX11_fireGun_0 rfl rfl ?_
  refine gtN_Gun_isLent (host := "Plotroom") hκ (hdV hz) (hI.1.ob (j := 3) (by decide) hi) (by decide +kernel) (Or.inl rfl) dX11_fireGun_1 ?_
  refine g_if_ne hκ 26 dX11_fireGun_4 (by decide) (fun c1 => ?_) (fun c1 => ?_)
  · skip
    exact hend _ _ _ _ _ dX11_fireGun_26 (⟨dn, by omega, by omega, hI⟩)
  · skip
    refine g_aload_n hκ 0 dX11_fireGun_7 rfl rfl ?_
    refine g_aload_n hκ 1 dX11_fireGun_8 rfl rfl ?_
    refine gtN_Gun_radius (host := "Plotroom") hκ (hdV hz) (hI.1.ob (j := 3) (by decide) hi) (by decide +kernel) (Or.inl rfl) dX11_fireGun_9 ?_
    refine g_aload_n hκ 1 dX11_fireGun_12 rfl rfl ?_
    refine gt_Gun_x hκ (hdV hz) (hI.1.ob (j := 3) (by decide) hi) qw_289 (Or.inr qw_290) dX11_fireGun_13 ?_
    refine g_aload_n hκ 1 dX11_fireGun_16 rfl rfl ?_
    refine gt_Gun_y hκ (hdV hz) (hI.1.ob (j := 3) (by decide) hi) qw_313 (Or.inr qw_314) dX11_fireGun_17 ?_
    refine rV_i hκ (hdV hz) [.int (sI S q_Gun_radius (el 3 i)), .int (sI S q_Gun_x (el 3 i)), .int (sI S q_Gun_y (el 3 i))] sd_X11_isSquadronWithin qw_811 (fun D cO H s hK hP => rc_Room hK hP hx) (k_isSquadronWithin S x lo ta la el sz (sI S q_Gun_radius (el 3 i)) (sI S q_Gun_x (el 3 i)) (sI S q_Gun_y (el 3 i)) hM) ⟨rfl, rfl, Nat.le_of_ble_eq_true rfl, Nat.le_of_ble_eq_true rfl⟩ rfl rfl (Nat.le_of_ble_eq_true rfl) dX11_fireGun_20 (fun r2 hr2 => ?_)
    obtain ⟨b3, rfl⟩ | ⟨b3, rfl⟩ := zb_cases hr2
    · skip
      refine g_if_eq hκ 27 dX11_fireGun_23 (by decide) (fun z => absurd z (by decide)) (fun _ => ?_)
      exact hend _ _ _ _ _ dX11_fireGun_26 (⟨dn, by omega, by omega, hI⟩)
    · skip
      refine g_if_eq hκ 27 dX11_fireGun_23 (by decide) (fun _ => ?_) (fun z => absurd z (by decide))
      refine g_iconst hκ (v := 0) dX11_fireGun_27 (by decide) ?_
      refine g_istore_n hκ [(2, .int 0), (0, .ref x), (1, .ref (el 3 i))] dX11_fireGun_28 rfl (by decide) rfl ?_
      have loop29 : ∀ (d29 i29 : Nat) (x29 : Int32) (S : wPS) (dn0 : Nat), i29 + d29 = sz 5 → x29 = nI i29 → (IV e9 x lo ta la M cnts told S el sz cp pw ow dn0 ∧ dn ≤ dn0 ∧ dn0 ≤ dn + i29) → Gj κ (PV κ S (0) (0)) 29 [(2, .int x29), (0, .ref x), (1, .ref (el 3 i))] [] := by
        intro d29
        induction d29 with
        | zero =>
          intro i29 x29 S dn0 hi29 hx29 hI
          subst hx29
          obtain ⟨hI, hd1, hd2⟩ := hI
          have hM := hI.1.rm
          have hMc := hM
          obtain ⟨hx, ⟨f0, L0⟩, ⟨f1, L1⟩, ⟨f2, L2⟩, ⟨f3, L3⟩, ⟨f4, L4⟩, ⟨f5, L5⟩, ⟨f6, L6⟩, ⟨f7, L7⟩, ⟨f8, L8⟩, ⟨flo, hlo⟩, ⟨fta, hta⟩⟩ := hMc
          have b0 := L0.2.2.1
          have b2 := L2.2.2.1
          have b3 := L3.2.2.1
          have b4 := L4.2.2.1
          have b5 := L5.2.2.1
          have b7 := L7.2.2.1
          have b8 := L8.2.2.1
          have hSQ := (hI.2.2.1).sq
          refine g_iload_n hκ 0 dX11_fireGun_29 rfl rfl ?_
          refine g_aload_n hκ 1 dX11_fireGun_30 rfl rfl ?_
          refine gt_Room_flights hκ (hdV hz) hx qw_111 (Or.inl rfl) dX11_fireGun_31 ?_
          refine g_rf f5 ?_
          refine rV_i hκ (hdV hz) [] sd_Jx4a65c_size_8abf5 qw_227 (fun D cO H s hK hP => rc_List hK hP L5.1) (k_sizeL S (la 5) 0 (sz 5) (el 5) L5) ⟨rfl, rfl, Nat.le_of_ble_eq_true rfl, Nat.le_of_ble_eq_true rfl⟩ rfl rfl (Nat.le_of_ble_eq_true rfl) dX11_fireGun_34 (fun r4 hr4 => ?_)
          refine g_eqi hr4 ?_
          refine g_icmp_ge hκ 121 dX11_fireGun_37 (by decide) (fun _ => ?_) (fun z => absurd (lp_ge rfl (by omega) (by omega)) z)
          exact hend _ _ _ _ _ dX11_fireGun_121 (⟨dn0, by omega, by omega, hI⟩)
        | succ d29 ih29 =>
          intro i29 x29 S dn0 hi29 hx29 hI
          subst hx29
          obtain ⟨hI, hd1, hd2⟩ := hI
          have hM := hI.1.rm
          have hMc := hM
          obtain ⟨hx, ⟨f0, L0⟩, ⟨f1, L1⟩, ⟨f2, L2⟩, ⟨f3, L3⟩, ⟨f4, L4⟩, ⟨f5, L5⟩, ⟨f6, L6⟩, ⟨f7, L7⟩, ⟨f8, L8⟩, ⟨flo, hlo⟩, ⟨fta, hta⟩⟩ := hMc
          have b0 := L0.2.2.1
          have b2 := L2.2.2.1
          have b3 := L3.2.2.1
          have b4 := L4.2.2.1
          have b5 := L5.2.2.1
          have b7 := L7.2.2.1
          have b8 := L8.2.2.1
          have hSQ := (hI.2.2.1).sq
          refine g_iload_n hκ 0 dX11_fireGun_29 rfl rfl ?_
          refine g_aload_n hκ 1 dX11_fireGun_30 rfl rfl ?_
          refine gt_Room_flights hκ (hdV hz) hx qw_111 (Or.inl rfl) dX11_fireGun_31 ?_
          refine g_rf f5 ?_
          refine rV_i hκ (hdV hz) [] sd_Jx4a65c_size_8abf5 qw_227 (fun D cO H s hK hP => rc_List hK hP L5.1) (k_sizeL S (la 5) 0 (sz 5) (el 5) L5) ⟨rfl, rfl, Nat.le_of_ble_eq_true rfl, Nat.le_of_ble_eq_true rfl⟩ rfl rfl (Nat.le_of_ble_eq_true rfl) dX11_fireGun_34 (fun r5 hr5 => ?_)
          refine g_eqi hr5 ?_
          refine g_icmp_ge hκ 121 dX11_fireGun_37 (by decide) (fun z => absurd z (lp_nge rfl (by omega) (by omega))) (fun _ => ?_)
          refine g_aload_n hκ 1 dX11_fireGun_40 rfl rfl ?_
          refine gt_Room_flights hκ (hdV hz) hx qw_111 (Or.inl rfl) dX11_fireGun_41 ?_
          refine g_rf f5 ?_
          refine g_iload_n hκ 0 dX11_fireGun_44 rfl rfl ?_
          refine rV_q hκ (hdV hz) [.int (nI i29)] sd_Jx4a65c_get_915e3 qw_440 (fun D cO H s hK hP => rc_List hK hP L5.1) (k_get S (la 5) 0 (sz 5) i29 (el 5) (nI i29) L5 rfl (by omega)) ⟨rfl, rfl, Nat.le_of_ble_eq_true rfl, Nat.le_of_ble_eq_true rfl⟩ rfl rfl (Nat.le_of_ble_eq_true rfl) dX11_fireGun_45 (fun r6 hr6 => ?_)
          refine g_rf hr6 ?_
          refine gc_Flight hκ (hdV hz) (L5.2.2.2.2 i29 (by omega)) qw_553 dX11_fireGun_48 ?_
          refine g_astore_n hκ [(3, .ref (el 5 i29)), (2, .int (nI i29)), (0, .ref x), (1, .ref (el 3 i))] dX11_fireGun_51 rfl (by decide) rfl ?_
          refine g_aload_n hκ 0 dX11_fireGun_52 rfl rfl ?_
          refine gtN_Flight_isUp (host := "Plotroom") hκ (hdV hz) (L5.2.2.2.2 i29 (by omega)) (by decide +kernel) (Or.inl rfl) dX11_fireGun_53 ?_
          refine g_if_eq hκ 115 dX11_fireGun_56 (by decide) (fun c7 => ?_) (fun c7 => ?_)
          · skip
            obtain ⟨v8, hv8⟩ : ∃ z : Int32, nI i29 + 1 = z := ⟨_, rfl⟩
            refine g_iinc hκ (k := 1) (v := v8) [(2, .int v8), (3, .ref (el 5 i29)), (0, .ref x), (1, .ref (el 3 i))] dX11_fireGun_115 rfl hv8 (by decide) rfl ?_
            refine g_goto hκ 29 dX11_fireGun_118 (by decide) ?_
            refine g_lv [(2, .int v8), (0, .ref x), (1, .ref (el 3 i))] [0, 2, 3] rfl ?_
            refine g_wid (k2 := 0) (n2 := 0) (by omega) (by omega) ?_
            exact ih29 (i29 + 1) v8 S dn0 (by omega) (lp_s rfl hv8) (⟨hI, by omega, by omega⟩)
          · skip
            refine g_aload_n hκ 0 dX11_fireGun_59 rfl rfl ?_
            refine g_aload_n hκ 3 dX11_fireGun_60 rfl rfl ?_
            refine gtN_Gun_radius (host := "Plotroom") hκ (hdV hz) (hI.1.ob (j := 3) (by decide) hi) (by decide +kernel) (Or.inl rfl) dX11_fireGun_61 ?_
            refine g_aload_n hκ 3 dX11_fireGun_64 rfl rfl ?_
            refine gt_Gun_x hκ (hdV hz) (hI.1.ob (j := 3) (by decide) hi) qw_289 (Or.inr qw_290) dX11_fireGun_65 ?_
            refine g_aload_n hκ 3 dX11_fireGun_68 rfl rfl ?_
            refine gt_Gun_y hκ (hdV hz) (hI.1.ob (j := 3) (by decide) hi) qw_313 (Or.inr qw_314) dX11_fireGun_69 ?_
            refine rU_i hκ (hdV hz) [.int (sI S q_Gun_radius (el 3 i)), .int (sI S q_Gun_x (el 3 i)), .int (sI S q_Gun_y (el 3 i))] (ud_X4_isWithin_Flight) qw_820 (by decide +kernel) (fun D cO H s hK hP => rc_Flight hK hP (L5.2.2.2.2 i29 (by omega))) (k_isWithin_Flight S (el 5 i29) (sI S q_Gun_radius (el 3 i)) (sI S q_Gun_x (el 3 i)) (sI S q_Gun_y (el 3 i)) (L5.2.2.2.2 i29 (by omega))) ⟨rfl, rfl, Nat.le_of_ble_eq_true rfl, Nat.le_of_ble_eq_true rfl⟩ rfl rfl (Nat.le_of_ble_eq_true rfl) dX11_fireGun_72 (fun r9 hr9 => ?_)
            obtain ⟨b10, rfl⟩ | ⟨b10, rfl⟩ := zb_cases hr9
            · skip
              refine g_if_eq hκ 115 dX11_fireGun_75 (by decide) (fun z => absurd z (by decide)) (fun _ => ?_)
              refine g_aload_n hκ 2 dX11_fireGun_78 rfl rfl ?_
              refine gt_Room_lots hκ (hdV hz) hx qw_116 (Or.inl rfl) dX11_fireGun_79 ?_
              refine g_rf flo ?_
              refine vV_i hκ hz [] sd_X2_draw qw_798 (fun D cO H s hK hP => rc_Lots hK hP hlo) (k_draw e9 S lo hlo) ⟨rfl, rfl, Nat.le_of_ble_eq_true rfl, Nat.le_of_ble_eq_true rfl⟩ rfl rfl (Nat.le_of_ble_eq_true rfl) dX11_fireGun_82 (by omega) (by omega) (fun r11 S12 hS12 => ?_)
              obtain ⟨e9r, rfl⟩ := hS12
              obtain ⟨hI2, t13, ht13, et13⟩ := IV_draw hI
              refine g_eqi (e9r.trans et13) ?_
              refine g_gen (P := fun Sz => IV e9 x lo ta la M cnts told Sz el sz cp pw ow (dn0 + 1) ∧ ¬ sI Sz q_Flight_isUp (el 5 i29) = 0) (⟨hI2, by rw [drawF_ch.1.2.1 q_Flight_isUp (by decide) _ (hI.1.ob (j := 5) (by decide) (by omega : i29 < sz 5)).1]; exact c7⟩) (fun S14 hP2 => ?_)
              obtain ⟨hI2, hup2⟩ := hP2
              have hM := hI2.1.rm
              have hMc := hM
              obtain ⟨hx, ⟨f0, L0⟩, ⟨f1, L1⟩, ⟨f2, L2⟩, ⟨f3, L3⟩, ⟨f4, L4⟩, ⟨f5, L5⟩, ⟨f6, L6⟩, ⟨f7, L7⟩, ⟨f8, L8⟩, ⟨flo, hlo⟩, ⟨fta, hta⟩⟩ := hMc
              have b0 := L0.2.2.1
              have b2 := L2.2.2.1
              have b3 := L3.2.2.1
              have b4 := L4.2.2.1
              have b5 := L5.2.2.1
              have b7 := L7.2.2.1
              have b8 := L8.2.2.1
              have hSQ := (hI2.2.2.1).sq
              refine g_iconst hκ (v := 5) dX11_fireGun_85 (by decide) ?_
              refine g_irem hκ dX11_fireGun_86 (by decide) ?_
              refine g_if_ne hκ 115 dX11_fireGun_87 (by decide) (fun c15 => ?_) (fun c15 => ?_)
              · skip
                obtain ⟨v16, hv16⟩ : ∃ z : Int32, nI i29 + 1 = z := ⟨_, rfl⟩
                refine g_iinc hκ (k := 1) (v := v16) [(2, .int v16), (3, .ref (el 5 i29)), (0, .ref x), (1, .ref (el 3 i))] dX11_fireGun_115 rfl hv16 (by decide) rfl ?_
                refine g_goto hκ 29 dX11_fireGun_118 (by decide) ?_
                refine g_lv [(2, .int v16), (0, .ref x), (1, .ref (el 3 i))] [0, 2, 3] rfl ?_
                refine g_wid (k2 := 0) (n2 := 0) (by omega) (by omega) ?_
                exact ih29 (i29 + 1) v16 S14 (dn0 + 1) (by omega) (lp_s rfl hv16) (⟨hI2, by omega, by omega⟩)
              · skip
                refine g_aload_n hκ 0 dX11_fireGun_90 rfl rfl ?_
                refine g_iconst hκ (v := 1) dX11_fireGun_91 (by decide) ?_
                refine vV_v hκ hz [.int 1] sd_X0_lose qw_803 (fun D cO H s hK hP => rc_Flight hK hP (hI2.1.ob (j := 5) (by decide) (by omega : i29 < sz 5))) (k_lose e9 S14 (el 5 i29) 1 (hI2.1.ob (j := 5) (by decide) (by omega : i29 < sz 5))) ⟨rfl, rfl, Nat.le_of_ble_eq_true rfl, Nat.le_of_ble_eq_true rfl⟩ rfl rfl (Nat.le_of_ble_eq_true rfl) dX11_fireGun_92 (by omega) (by omega) (fun S18 hS18 => ?_)
                obtain rfl := hS18
                refine g_gen (P := fun Sz => IV e9 x lo ta la M cnts told Sz el sz cp pw ow (dn0 + 1)) (IV_lose hI2 (by omega : i29 < sz 5) hup2 hcn) (fun S19 hI3 => ?_)
                have hM := hI3.1.rm
                have hMc := hM
                obtain ⟨hx, ⟨f0, L0⟩, ⟨f1, L1⟩, ⟨f2, L2⟩, ⟨f3, L3⟩, ⟨f4, L4⟩, ⟨f5, L5⟩, ⟨f6, L6⟩, ⟨f7, L7⟩, ⟨f8, L8⟩, ⟨flo, hlo⟩, ⟨fta, hta⟩⟩ := hMc
                have b0 := L0.2.2.1
                have b2 := L2.2.2.1
                have b3 := L3.2.2.1
                have b4 := L4.2.2.1
                have b5 := L5.2.2.1
                have b7 := L7.2.2.1
                have b8 := L8.2.2.1
                have hSQ := (hI3.2.2.1).sq
                refine g_aload_n hκ 0 dX11_fireGun_95 rfl rfl ?_
                refine gtN_Flight_isFoe (host := "Plotroom") hκ (hdV hz) (hI3.1.ob (j := 5) (by decide) (by omega : i29 < sz 5)) (by decide +kernel) (Or.inl rfl) dX11_fireGun_96 ?_
                refine g_if_ne hκ 115 dX11_fireGun_99 (by decide) (fun c20 => ?_) (fun c20 => ?_)
                · skip
                  obtain ⟨v21, hv21⟩ : ∃ z : Int32, nI i29 + 1 = z := ⟨_, rfl⟩
                  refine g_iinc hκ (k := 1) (v := v21) [(2, .int v21), (3, .ref (el 5 i29)), (0, .ref x), (1, .ref (el 3 i))] dX11_fireGun_115 rfl hv21 (by decide) rfl ?_
                  refine g_goto hκ 29 dX11_fireGun_118 (by decide) ?_
                  refine g_lv [(2, .int v21), (0, .ref x), (1, .ref (el 3 i))] [0, 2, 3] rfl ?_
                  refine g_wid (k2 := 0) (n2 := 0) (by omega) (by omega) ?_
                  exact ih29 (i29 + 1) v21 S19 (dn0 + 1) (by omega) (lp_s rfl hv21) (⟨hI3, by omega, by omega⟩)
                · skip
                  refine g_aload_n hκ 2 dX11_fireGun_102 rfl rfl ?_
                  refine gt_Room_tally hκ (hdV hz) hx qw_117 (Or.inl rfl) dX11_fireGun_103 ?_
                  refine g_rf fta ?_
                  refine g_dup hκ dX11_fireGun_106 rfl ?_
                  refine gtN_Tally_shames (host := "Plotroom") hκ (hdV hz) hta (by decide +kernel) (Or.inl rfl) dX11_fireGun_107 ?_
                  refine g_iconst hκ (v := 1) dX11_fireGun_110 (by decide) ?_
                  refine g_iadd hκ dX11_fireGun_111 ?_
                  refine ptN_Tally_shames (host := "Plotroom") hκ hta (by decide +kernel) (Or.inl rfl) dX11_fireGun_112 ?_
                  refine g_gen (P := fun Sz => IV e9 x lo ta la M cnts told Sz el sz cp pw ow (dn0 + 1)) (IV.ch hI3 (ch_I (cs := [q_Tally_shames]) (rs := []) (by decide)) kw_I (by decide) rfl) (fun S22 hI4 => ?_)
                  have hM := hI4.1.rm
                  have hMc := hM
                  obtain ⟨hx, ⟨f0, L0⟩, ⟨f1, L1⟩, ⟨f2, L2⟩, ⟨f3, L3⟩, ⟨f4, L4⟩, ⟨f5, L5⟩, ⟨f6, L6⟩, ⟨f7, L7⟩, ⟨f8, L8⟩, ⟨flo, hlo⟩, ⟨fta, hta⟩⟩ := hMc
                  have b0 := L0.2.2.1
                  have b2 := L2.2.2.1
                  have b3 := L3.2.2.1
                  have b4 := L4.2.2.1
                  have b5 := L5.2.2.1
                  have b7 := L7.2.2.1
                  have b8 := L8.2.2.1
                  have hSQ := (hI4.2.2.1).sq
                  obtain ⟨v23, hv23⟩ : ∃ z : Int32, nI i29 + 1 = z := ⟨_, rfl⟩
                  refine g_iinc hκ (k := 1) (v := v23) [(2, .int v23), (3, .ref (el 5 i29)), (0, .ref x), (1, .ref (el 3 i))] dX11_fireGun_115 rfl hv23 (by decide) rfl ?_
                  refine g_goto hκ 29 dX11_fireGun_118 (by decide) ?_
                  refine g_lv [(2, .int v23), (0, .ref x), (1, .ref (el 3 i))] [0, 2, 3] rfl ?_
                  refine g_wid (k2 := 0) (n2 := 0) (by omega) (by omega) ?_
                  exact ih29 (i29 + 1) v23 S22 (dn0 + 1) (by omega) (lp_s rfl hv23) (⟨hI4, by omega, by omega⟩)
            · skip
              refine g_if_eq hκ 115 dX11_fireGun_75 (by decide) (fun _ => ?_) (fun z => absurd z (by decide))
              obtain ⟨v24, hv24⟩ : ∃ z : Int32, nI i29 + 1 = z := ⟨_, rfl⟩
              refine g_iinc hκ (k := 1) (v := v24) [(2, .int v24), (3, .ref (el 5 i29)), (0, .ref x), (1, .ref (el 3 i))] dX11_fireGun_115 rfl hv24 (by decide) rfl ?_
              refine g_goto hκ 29 dX11_fireGun_118 (by decide) ?_
              refine g_lv [(2, .int v24), (0, .ref x), (1, .ref (el 3 i))] [0, 2, 3] rfl ?_
              refine g_wid (k2 := 0) (n2 := 0) (by omega) (by omega) ?_
              exact ih29 (i29 + 1) v24 S dn0 (by omega) (lp_s rfl hv24) (⟨hI, by omega, by omega⟩)
      refine g_wid (k2 := 0) (n2 := 0) (by omega) (by omega) ?_
      exact loop29 (sz 5) 0 0 S dn (by omega) (by first | rfl | decide) (⟨hI, by omega, by omega⟩)
set_option maxHeartbeats 4000000 in
set_option maxRecDepth 100000 in
theorem k_loseTracks (e9 : Nat × Nat) (S : wPS) (x lo ta : Nat) (la : Nat → Nat) (M cnts : Nat) (told : Int32) (el : Nat → Nat → Nat) (sz cp : Nat → Nat) (pw ow dn : Nat) (hI : IV e9 x lo ta la M cnts told S el sz cp pw ow dn) (hcn : cnts ≤ 1188) : MVv e9 yX11_loseTracks cX11_loseTracks 3 none ({ frames := 3, cells := 0, slots := 0, locals := 64 }) S [.ref x] (fun S1 => IV e9 x lo ta la M cnts told S1 el sz cp pw ow dn ∧ AGA S1 x el sz) 0 0 := by
  refine stV_v (post := (fun S1 => IV e9 x lo ta la M cnts told S1 el sz cp pw ow dn ∧ AGA S1 x el sz)) (by decide) (Nat.le_of_ble_eq_true rfl) ⟨Nat.le_refl _, Nat.le_refl _⟩ rfl (fun κ hκ hz hnm hend => ?_)
  show Gj κ _ 0 [(0, .ref x)] []
  have hM := hI.1.rm
  have hMc := hM
  obtain ⟨hx, ⟨f0, L0⟩, ⟨f1, L1⟩, ⟨f2, L2⟩, ⟨f3, L3⟩, ⟨f4, L4⟩, ⟨f5, L5⟩, ⟨f6, L6⟩, ⟨f7, L7⟩, ⟨f8, L8⟩, ⟨flo, hlo⟩, ⟨fta, hta⟩⟩ := hMc
  have b0 := L0.2.2.1
  have b2 := L2.2.2.1
  have b3 := L3.2.2.1
  have b4 := L4.2.2.1
  have b5 := L5.2.2.1
  have b7 := L7.2.2.1
  have b8 := L8.2.2.1
  have hSQ := (hI.2.2.1).sq
  refine g_iconst hκ (v := 0) dX11_loseTracks_0 (by decide) ?_
  refine g_istore_n hκ [(1, .int 0), (0, .ref x)] dX11_loseTracks_1 rfl (by decide) rfl ?_
  have loop2 : ∀ (d2 i2 : Nat) (x2 : Int32) (S : wPS) , i2 + d2 = sz 7 → x2 = nI i2 → (IV e9 x lo ta la M cnts told S el sz cp pw ow dn ∧ ∀ k : Nat, k < i2 → AG S x (el 7 k)) → Gj κ (PV κ S (0) (0)) 2 [(1, .int x2), (0, .ref x)] [] := by
    intro d2
    induction d2 with
    | zero =>
      intro i2 x2 S  hi2 hx2 hI
      subst hx2
      obtain ⟨hI, hA⟩ := hI
      have hM := hI.1.rm
      have hMc := hM
      obtain ⟨hx, ⟨f0, L0⟩, ⟨f1, L1⟩, ⟨f2, L2⟩, ⟨f3, L3⟩, ⟨f4, L4⟩, ⟨f5, L5⟩, ⟨f6, L6⟩, ⟨f7, L7⟩, ⟨f8, L8⟩, ⟨flo, hlo⟩, ⟨fta, hta⟩⟩ := hMc
      have b0 := L0.2.2.1
      have b2 := L2.2.2.1
      have b3 := L3.2.2.1
      have b4 := L4.2.2.1
      have b5 := L5.2.2.1
      have b7 := L7.2.2.1
      have b8 := L8.2.2.1
      have hSQ := (hI.2.2.1).sq
      refine g_iload_n hκ 0 dX11_loseTracks_2 rfl rfl ?_
      refine g_aload_n hκ 1 dX11_loseTracks_3 rfl rfl ?_
      refine gt_Room_tracks hκ (hdV hz) hx qw_113 (Or.inl rfl) dX11_loseTracks_4 ?_
      refine g_rf f7 ?_
      refine rV_i hκ (hdV hz) [] sd_Jx4a65c_size_8abf5 qw_227 (fun D cO H s hK hP => rc_List hK hP L7.1) (k_sizeL S (la 7) 9 (sz 7) (el 7) L7) ⟨rfl, rfl, Nat.le_of_ble_eq_true rfl, Nat.le_of_ble_eq_true rfl⟩ rfl rfl (Nat.le_of_ble_eq_true rfl) dX11_loseTracks_7 (fun r1 hr1 => ?_)
      refine g_eqi hr1 ?_
      refine g_icmp_ge hκ 50 dX11_loseTracks_10 (by decide) (fun _ => ?_) (fun z => absurd (lp_ge rfl (by omega) (by omega)) z)
      exact hend _ _ _ _ _ dX11_loseTracks_50 (⟨hI, fun k hk => hA k (by omega)⟩)
    | succ d2 ih2 =>
      intro i2 x2 S  hi2 hx2 hI
      subst hx2
      obtain ⟨hI, hA⟩ := hI
      have hM := hI.1.rm
      have hMc := hM
      obtain ⟨hx, ⟨f0, L0⟩, ⟨f1, L1⟩, ⟨f2, L2⟩, ⟨f3, L3⟩, ⟨f4, L4⟩, ⟨f5, L5⟩, ⟨f6, L6⟩, ⟨f7, L7⟩, ⟨f8, L8⟩, ⟨flo, hlo⟩, ⟨fta, hta⟩⟩ := hMc
      have b0 := L0.2.2.1
      have b2 := L2.2.2.1
      have b3 := L3.2.2.1
      have b4 := L4.2.2.1
      have b5 := L5.2.2.1
      have b7 := L7.2.2.1
      have b8 := L8.2.2.1
      have hSQ := (hI.2.2.1).sq
      refine g_iload_n hκ 0 dX11_loseTracks_2 rfl rfl ?_
      refine g_aload_n hκ 1 dX11_loseTracks_3 rfl rfl ?_
      refine gt_Room_tracks hκ (hdV hz) hx qw_113 (Or.inl rfl) dX11_loseTracks_4 ?_
      refine g_rf f7 ?_
      refine rV_i hκ (hdV hz) [] sd_Jx4a65c_size_8abf5 qw_227 (fun D cO H s hK hP => rc_List hK hP L7.1) (k_sizeL S (la 7) 9 (sz 7) (el 7) L7) ⟨rfl, rfl, Nat.le_of_ble_eq_true rfl, Nat.le_of_ble_eq_true rfl⟩ rfl rfl (Nat.le_of_ble_eq_true rfl) dX11_loseTracks_7 (fun r2 hr2 => ?_)
      refine g_eqi hr2 ?_
      refine g_icmp_ge hκ 50 dX11_loseTracks_10 (by decide) (fun z => absurd z (lp_nge rfl (by omega) (by omega))) (fun _ => ?_)
      refine g_aload_n hκ 1 dX11_loseTracks_13 rfl rfl ?_
      refine gt_Room_tracks hκ (hdV hz) hx qw_113 (Or.inl rfl) dX11_loseTracks_14 ?_
      refine g_rf f7 ?_
      refine g_iload_n hκ 0 dX11_loseTracks_17 rfl rfl ?_
      refine rV_q hκ (hdV hz) [.int (nI i2)] sd_Jx4a65c_get_915e3 qw_440 (fun D cO H s hK hP => rc_List hK hP L7.1) (k_get S (la 7) 9 (sz 7) i2 (el 7) (nI i2) L7 rfl (by omega)) ⟨rfl, rfl, Nat.le_of_ble_eq_true rfl, Nat.le_of_ble_eq_true rfl⟩ rfl rfl (Nat.le_of_ble_eq_true rfl) dX11_loseTracks_18 (fun r3 hr3 => ?_)
      refine g_rf hr3 ?_
      refine gc_Track hκ (hdV hz) (L7.2.2.2.2 i2 (by omega)) qw_675 dX11_loseTracks_21 ?_
      refine g_astore_n hκ [(2, .ref (el 7 i2)), (1, .int (nI i2)), (0, .ref x)] dX11_loseTracks_24 rfl (by decide) rfl ?_
      refine g_aload_n hκ 2 dX11_loseTracks_25 rfl rfl ?_
      refine gt_Room_minute hκ (hdV hz) hx qw_118 (Or.inl rfl) dX11_loseTracks_26 ?_
      refine g_aload_n hκ 0 dX11_loseTracks_29 rfl rfl ?_
      refine gtN_Track_minute (host := "Plotroom") hκ (hdV hz) (L7.2.2.2.2 i2 (by omega)) (by decide +kernel) (Or.inl rfl) dX11_loseTracks_30 ?_
      refine g_isub hκ dX11_loseTracks_33 ?_
      refine g_bipush hκ (v := 6) dX11_loseTracks_34 (by decide) ?_
      refine g_icmp_le hκ 44 dX11_loseTracks_36 (by decide) (fun c4 => ?_) (fun c4 => ?_)
      · skip
        obtain ⟨v5, hv5⟩ : ∃ z : Int32, nI i2 + 1 = z := ⟨_, rfl⟩
        refine g_iinc hκ (k := 1) (v := v5) [(1, .int v5), (2, .ref (el 7 i2)), (0, .ref x)] dX11_loseTracks_44 rfl hv5 (by decide) rfl ?_
        refine g_goto hκ 2 dX11_loseTracks_47 (by decide) ?_
        refine g_lv [(1, .int v5), (0, .ref x)] [0, 2] rfl ?_
        refine g_wid (k2 := 0) (n2 := 0) (by omega) (by omega) ?_
        exact ih2 (i2 + 1) v5 S  (by omega) (lp_s rfl hv5) (⟨hI, fun k hk => lt_skip (by omega) hA (Int32.not_lt.mpr c4)⟩)
      · skip
        refine g_aload_n hκ 0 dX11_loseTracks_39 rfl rfl ?_
        refine g_iconst hκ (v := 0) dX11_loseTracks_40 (by decide) ?_
        refine ptN_Track_isLive (host := "Plotroom") hκ (L7.2.2.2.2 i2 (by omega)) (by decide +kernel) (Or.inl rfl) (by decide) dX11_loseTracks_41 ?_
        have hA2 : ∀ k : Nat, k < i2 + 1 → AG (putI S q_Track_isLive (el 7 i2) 0) x (el 7 k) := fun k hk => lt_put hI (by omega) (by omega) hA
        refine g_gen (P := fun Sz => IV e9 x lo ta la M cnts told Sz el sz cp pw ow dn ∧ ∀ k : Nat, k < i2 + 1 → AG Sz x (el 7 k)) (⟨IV.ch hI (ch_I (cs := [q_Track_isLive]) (rs := []) (by decide)) kw_I (by decide) rfl, hA2⟩) (fun S6 hP2 => ?_)
        obtain ⟨hI2, hA3⟩ := hP2
        obtain ⟨v7, hv7⟩ : ∃ z : Int32, nI i2 + 1 = z := ⟨_, rfl⟩
        refine g_iinc hκ (k := 1) (v := v7) [(1, .int v7), (2, .ref (el 7 i2)), (0, .ref x)] dX11_loseTracks_44 rfl hv7 (by decide) rfl ?_
        refine g_goto hκ 2 dX11_loseTracks_47 (by decide) ?_
        refine g_lv [(1, .int v7), (0, .ref x)] [0, 2] rfl ?_
        refine g_wid (k2 := 0) (n2 := 0) (by omega) (by omega) ?_
        exact ih2 (i2 + 1) v7 S6  (by omega) (lp_s rfl hv7) (⟨hI2, hA3⟩)
  refine g_wid (k2 := 0) (n2 := 0) (by omega) (by omega) ?_
  exact loop2 (sz 7) 0 0 S  (by omega) (by first | rfl | decide) (⟨hI, fun k hk => absurd hk (Nat.not_lt_zero k)⟩)
set_option maxHeartbeats 4000000 in
set_option maxRecDepth 100000 in
theorem k_countTown (e9 : Nat × Nat) (S : wPS) (x lo ta : Nat) (la : Nat → Nat) (M cnts : Nat) (told : Int32) (el : Nat → Nat → Nat) (sz cp : Nat → Nat) (pw ow dn : Nat) (i : Nat) (hI : IV e9 x lo ta la M cnts told S el sz cp pw ow dn) (hcn : cnts ≤ 1188) (hi : i < sz 4) (hA : AGA S x el sz) : MVv e9 yX11_countTown cX11_countTown 4 none ({ frames := 6, cells := 0, slots := 0, locals := 137 }) S [.ref x, .ref (el 4 i)] (fun S1 => IV e9 x lo ta la M cnts told S1 el sz cp pw ow dn ∧ AGA S1 x el sz) 0 0 := by
  refine stV_v (post := (fun S1 => IV e9 x lo ta la M cnts told S1 el sz cp pw ow dn ∧ AGA S1 x el sz)) (by decide) (Nat.le_of_ble_eq_true rfl) ⟨Nat.le_refl _, Nat.le_refl _⟩ rfl (fun κ hκ hz hnm hend => ?_)
  show Gj κ _ 0 [(0, .ref x), (1, .ref (el 4 i))] []
  have hM := hI.1.rm
  have hMc := hM
  obtain ⟨hx, ⟨f0, L0⟩, ⟨f1, L1⟩, ⟨f2, L2⟩, ⟨f3, L3⟩, ⟨f4, L4⟩, ⟨f5, L5⟩, ⟨f6, L6⟩, ⟨f7, L7⟩, ⟨f8, L8⟩, ⟨flo, hlo⟩, ⟨fta, hta⟩⟩ := hMc
  have b0 := L0.2.2.1
  have b2 := L2.2.2.1
  have b3 := L3.2.2.1
  have b4 := L4.2.2.1
  have b5 := L5.2.2.1
  have b7 := L7.2.2.1
  have b8 := L8.2.2.1
  have hSQ := (hI.2.2.1).sq
  refine g_aload_n hκ 0 dX11_countTown_0 rfl rfl ?_
  refine g_aload_n hκ 1 dX11_countTown_1 rfl rfl ?_
  refine g_bipush hκ (v := 8) dX11_countTown_2 (by decide) ?_
  refine rV_i hκ (hdV hz) [.ref (el 4 i), .int 8] sd_X11_minutesToThreat qw_831 (fun D cO H s hK hP => rc_Room hK hP hx) (k_minutesToThreat S x lo ta la el sz (el 4 i) 8 8 hM (hI.1.ob (j := 4) (by decide) hi) (by decide) (by decide)) ⟨rfl, rfl, Nat.le_of_ble_eq_true rfl, Nat.le_of_ble_eq_true rfl⟩ rfl rfl (Nat.le_of_ble_eq_true rfl) dX11_countTown_4 (fun r1 hr1 => ?_)
  refine g_eqi hr1 ?_
  refine g_iconst hκ (v := (-1)) dX11_countTown_7 (by decide) ?_
  refine g_icmp_eq hκ 28 dX11_countTown_8 (by decide) (fun c2 => ?_) (fun c2 => ?_)
  · skip
    refine g_iconst hκ (v := 0) dX11_countTown_28 (by decide) ?_
    refine g_istore_n hκ [(2, .int 0), (0, .ref x), (1, .ref (el 4 i))] dX11_countTown_29 rfl (by decide) rfl ?_
    have loop30 : ∀ (d30 i30 : Nat) (x30 : Int32) (S : wPS) , i30 + d30 = sz 5 → x30 = nI i30 → (IV e9 x lo ta la M cnts told S el sz cp pw ow dn ∧ AGA S x el sz) → Gj κ (PV κ S (0) (0)) 30 [(2, .int x30), (0, .ref x), (1, .ref (el 4 i))] [] := by
      intro d30
      induction d30 with
      | zero =>
        intro i30 x30 S  hi30 hx30 hI
        subst hx30
        obtain ⟨hI, hA⟩ := hI
        have hM := hI.1.rm
        have hMc := hM
        obtain ⟨hx, ⟨f0, L0⟩, ⟨f1, L1⟩, ⟨f2, L2⟩, ⟨f3, L3⟩, ⟨f4, L4⟩, ⟨f5, L5⟩, ⟨f6, L6⟩, ⟨f7, L7⟩, ⟨f8, L8⟩, ⟨flo, hlo⟩, ⟨fta, hta⟩⟩ := hMc
        have b0 := L0.2.2.1
        have b2 := L2.2.2.1
        have b3 := L3.2.2.1
        have b4 := L4.2.2.1
        have b5 := L5.2.2.1
        have b7 := L7.2.2.1
        have b8 := L8.2.2.1
        have hSQ := (hI.2.2.1).sq
        refine g_iload_n hκ 0 dX11_countTown_30 rfl rfl ?_
        refine g_aload_n hκ 1 dX11_countTown_31 rfl rfl ?_
        refine gt_Room_flights hκ (hdV hz) hx qw_111 (Or.inl rfl) dX11_countTown_32 ?_
        refine g_rf f5 ?_
        refine rV_i hκ (hdV hz) [] sd_Jx4a65c_size_8abf5 qw_227 (fun D cO H s hK hP => rc_List hK hP L5.1) (k_sizeL S (la 5) 0 (sz 5) (el 5) L5) ⟨rfl, rfl, Nat.le_of_ble_eq_true rfl, Nat.le_of_ble_eq_true rfl⟩ rfl rfl (Nat.le_of_ble_eq_true rfl) dX11_countTown_35 (fun r3 hr3 => ?_)
        refine g_eqi hr3 ?_
        refine g_icmp_ge hκ 105 dX11_countTown_38 (by decide) (fun _ => ?_) (fun z => absurd (lp_ge rfl (by omega) (by omega)) z)
        exact hend _ _ _ _ _ dX11_countTown_105 (⟨hI, hA⟩)
      | succ d30 ih30 =>
        intro i30 x30 S  hi30 hx30 hI
        subst hx30
        obtain ⟨hI, hA⟩ := hI
        have hM := hI.1.rm
        have hMc := hM
        obtain ⟨hx, ⟨f0, L0⟩, ⟨f1, L1⟩, ⟨f2, L2⟩, ⟨f3, L3⟩, ⟨f4, L4⟩, ⟨f5, L5⟩, ⟨f6, L6⟩, ⟨f7, L7⟩, ⟨f8, L8⟩, ⟨flo, hlo⟩, ⟨fta, hta⟩⟩ := hMc
        have b0 := L0.2.2.1
        have b2 := L2.2.2.1
        have b3 := L3.2.2.1
        have b4 := L4.2.2.1
        have b5 := L5.2.2.1
        have b7 := L7.2.2.1
        have b8 := L8.2.2.1
        have hSQ := (hI.2.2.1).sq
        refine g_iload_n hκ 0 dX11_countTown_30 rfl rfl ?_
        refine g_aload_n hκ 1 dX11_countTown_31 rfl rfl ?_
        refine gt_Room_flights hκ (hdV hz) hx qw_111 (Or.inl rfl) dX11_countTown_32 ?_
        refine g_rf f5 ?_
        refine rV_i hκ (hdV hz) [] sd_Jx4a65c_size_8abf5 qw_227 (fun D cO H s hK hP => rc_List hK hP L5.1) (k_sizeL S (la 5) 0 (sz 5) (el 5) L5) ⟨rfl, rfl, Nat.le_of_ble_eq_true rfl, Nat.le_of_ble_eq_true rfl⟩ rfl rfl (Nat.le_of_ble_eq_true rfl) dX11_countTown_35 (fun r4 hr4 => ?_)
        refine g_eqi hr4 ?_
        refine g_icmp_ge hκ 105 dX11_countTown_38 (by decide) (fun z => absurd z (lp_nge rfl (by omega) (by omega))) (fun _ => ?_)
        refine g_aload_n hκ 1 dX11_countTown_41 rfl rfl ?_
        refine gt_Room_flights hκ (hdV hz) hx qw_111 (Or.inl rfl) dX11_countTown_42 ?_
        refine g_rf f5 ?_
        refine g_iload_n hκ 0 dX11_countTown_45 rfl rfl ?_
        refine rV_q hκ (hdV hz) [.int (nI i30)] sd_Jx4a65c_get_915e3 qw_440 (fun D cO H s hK hP => rc_List hK hP L5.1) (k_get S (la 5) 0 (sz 5) i30 (el 5) (nI i30) L5 rfl (by omega)) ⟨rfl, rfl, Nat.le_of_ble_eq_true rfl, Nat.le_of_ble_eq_true rfl⟩ rfl rfl (Nat.le_of_ble_eq_true rfl) dX11_countTown_46 (fun r5 hr5 => ?_)
        refine g_rf hr5 ?_
        refine gc_Flight hκ (hdV hz) (L5.2.2.2.2 i30 (by omega)) qw_553 dX11_countTown_49 ?_
        refine g_astore_n hκ [(3, .ref (el 5 i30)), (2, .int (nI i30)), (0, .ref x), (1, .ref (el 4 i))] dX11_countTown_52 rfl (by decide) rfl ?_
        refine g_aload_n hκ 0 dX11_countTown_53 rfl rfl ?_
        refine gtN_Flight_isUp (host := "Plotroom") hκ (hdV hz) (L5.2.2.2.2 i30 (by omega)) (by decide +kernel) (Or.inl rfl) dX11_countTown_54 ?_
        refine g_if_eq hκ 99 dX11_countTown_57 (by decide) (fun c6 => ?_) (fun c6 => ?_)
        · skip
          obtain ⟨v7, hv7⟩ : ∃ z : Int32, nI i30 + 1 = z := ⟨_, rfl⟩
          refine g_iinc hκ (k := 1) (v := v7) [(2, .int v7), (3, .ref (el 5 i30)), (0, .ref x), (1, .ref (el 4 i))] dX11_countTown_99 rfl hv7 (by decide) rfl ?_
          refine g_goto hκ 30 dX11_countTown_102 (by decide) ?_
          refine g_lv [(2, .int v7), (0, .ref x), (1, .ref (el 4 i))] [0, 2, 3] rfl ?_
          refine g_wid (k2 := 0) (n2 := 0) (by omega) (by omega) ?_
          exact ih30 (i30 + 1) v7 S  (by omega) (lp_s rfl hv7) (⟨hI, hA⟩)
        · skip
          refine g_aload_n hκ 0 dX11_countTown_60 rfl rfl ?_
          refine gtN_Flight_isFoe (host := "Plotroom") hκ (hdV hz) (L5.2.2.2.2 i30 (by omega)) (by decide +kernel) (Or.inl rfl) dX11_countTown_61 ?_
          refine g_if_eq hκ 99 dX11_countTown_64 (by decide) (fun c8 => ?_) (fun c8 => ?_)
          · skip
            obtain ⟨v9, hv9⟩ : ∃ z : Int32, nI i30 + 1 = z := ⟨_, rfl⟩
            refine g_iinc hκ (k := 1) (v := v9) [(2, .int v9), (3, .ref (el 5 i30)), (0, .ref x), (1, .ref (el 4 i))] dX11_countTown_99 rfl hv9 (by decide) rfl ?_
            refine g_goto hκ 30 dX11_countTown_102 (by decide) ?_
            refine g_lv [(2, .int v9), (0, .ref x), (1, .ref (el 4 i))] [0, 2, 3] rfl ?_
            refine g_wid (k2 := 0) (n2 := 0) (by omega) (by omega) ?_
            exact ih30 (i30 + 1) v9 S  (by omega) (lp_s rfl hv9) (⟨hI, hA⟩)
          · skip
            refine g_aload_n hκ 0 dX11_countTown_67 rfl rfl ?_
            refine g_iconst hκ (v := 5) dX11_countTown_68 (by decide) ?_
            refine g_aload_n hκ 3 dX11_countTown_69 rfl rfl ?_
            refine gt_Town_x hκ (hdV hz) (hI.1.ob (j := 4) (by decide) hi) qw_291 (Or.inr qw_292) dX11_countTown_70 ?_
            refine g_aload_n hκ 3 dX11_countTown_73 rfl rfl ?_
            refine gt_Town_y hκ (hdV hz) (hI.1.ob (j := 4) (by decide) hi) qw_315 (Or.inr qw_316) dX11_countTown_74 ?_
            refine rU_i hκ (hdV hz) [.int 5, .int (sI S q_Town_x (el 4 i)), .int (sI S q_Town_y (el 4 i))] (ud_X4_isWithin_Flight) qw_820 (by decide +kernel) (fun D cO H s hK hP => rc_Flight hK hP (L5.2.2.2.2 i30 (by omega))) (k_isWithin_Flight S (el 5 i30) 5 (sI S q_Town_x (el 4 i)) (sI S q_Town_y (el 4 i)) (L5.2.2.2.2 i30 (by omega))) ⟨rfl, rfl, Nat.le_of_ble_eq_true rfl, Nat.le_of_ble_eq_true rfl⟩ rfl rfl (Nat.le_of_ble_eq_true rfl) dX11_countTown_77 (fun r10 hr10 => ?_)
            obtain ⟨b11, rfl⟩ | ⟨b11, rfl⟩ := zb_cases hr10
            · skip
              refine g_if_eq hκ 99 dX11_countTown_80 (by decide) (fun z => absurd z (by decide)) (fun _ => ?_)
              refine g_aload_n hκ 2 dX11_countTown_83 rfl rfl ?_
              refine gt_Room_tally hκ (hdV hz) hx qw_117 (Or.inl rfl) dX11_countTown_84 ?_
              refine g_rf fta ?_
              refine g_dup hκ dX11_countTown_87 rfl ?_
              refine gtN_Tally_lives (host := "Plotroom") hκ (hdV hz) hta (by decide +kernel) (Or.inl rfl) dX11_countTown_88 ?_
              refine g_aload_n hκ 0 dX11_countTown_91 rfl rfl ?_
              refine gtN_Flight_count (host := "Plotroom") hκ (hdV hz) (L5.2.2.2.2 i30 (by omega)) (by decide +kernel) (Or.inl rfl) dX11_countTown_92 ?_
              refine g_iadd hκ dX11_countTown_95 ?_
              refine ptN_Tally_lives (host := "Plotroom") hκ hta (by decide +kernel) (Or.inl rfl) dX11_countTown_96 ?_
              refine g_gen (P := fun Sz => IV e9 x lo ta la M cnts told Sz el sz cp pw ow dn ∧ AGA Sz x el sz) (⟨IV.ch hI (ch_I (cs := [q_Tally_lives]) (rs := []) (by decide)) kw_I (by decide) rfl, AGA.ch hA hI.1 (ch_I (cs := [q_Tally_lives]) (rs := []) (by decide)) (by decide)⟩) (fun S12 hP2 => ?_)
              obtain ⟨hI2, hA2⟩ := hP2
              obtain ⟨v13, hv13⟩ : ∃ z : Int32, nI i30 + 1 = z := ⟨_, rfl⟩
              refine g_iinc hκ (k := 1) (v := v13) [(2, .int v13), (3, .ref (el 5 i30)), (0, .ref x), (1, .ref (el 4 i))] dX11_countTown_99 rfl hv13 (by decide) rfl ?_
              refine g_goto hκ 30 dX11_countTown_102 (by decide) ?_
              refine g_lv [(2, .int v13), (0, .ref x), (1, .ref (el 4 i))] [0, 2, 3] rfl ?_
              refine g_wid (k2 := 0) (n2 := 0) (by omega) (by omega) ?_
              exact ih30 (i30 + 1) v13 S12  (by omega) (lp_s rfl hv13) (⟨hI2, hA2⟩)
            · skip
              refine g_if_eq hκ 99 dX11_countTown_80 (by decide) (fun _ => ?_) (fun z => absurd z (by decide))
              obtain ⟨v14, hv14⟩ : ∃ z : Int32, nI i30 + 1 = z := ⟨_, rfl⟩
              refine g_iinc hκ (k := 1) (v := v14) [(2, .int v14), (3, .ref (el 5 i30)), (0, .ref x), (1, .ref (el 4 i))] dX11_countTown_99 rfl hv14 (by decide) rfl ?_
              refine g_goto hκ 30 dX11_countTown_102 (by decide) ?_
              refine g_lv [(2, .int v14), (0, .ref x), (1, .ref (el 4 i))] [0, 2, 3] rfl ?_
              refine g_wid (k2 := 0) (n2 := 0) (by omega) (by omega) ?_
              exact ih30 (i30 + 1) v14 S  (by omega) (lp_s rfl hv14) (⟨hI, hA⟩)
    refine g_wid (k2 := 0) (n2 := 0) (by omega) (by omega) ?_
    exact loop30 (sz 5) 0 0 S  (by omega) (by first | rfl | decide) (⟨hI, hA⟩)
  · skip
    refine g_aload_n hκ 0 dX11_countTown_11 rfl rfl ?_
    refine gt_Room_tally hκ (hdV hz) hx qw_117 (Or.inl rfl) dX11_countTown_12 ?_
    refine g_rf fta ?_
    refine g_dup hκ dX11_countTown_15 rfl ?_
    refine gtN_Tally_work (host := "Plotroom") hκ (hdV hz) hta (by decide +kernel) (Or.inl rfl) dX11_countTown_16 ?_
    refine g_aload_n hκ 1 dX11_countTown_19 rfl rfl ?_
    refine gtN_Town_people (host := "Plotroom") hκ (hdV hz) (hI.1.ob (j := 4) (by decide) hi) (by decide +kernel) (Or.inl rfl) dX11_countTown_20 ?_
    refine g_iadd hκ dX11_countTown_23 ?_
    refine ptN_Tally_work (host := "Plotroom") hκ hta (by decide +kernel) (Or.inl rfl) dX11_countTown_24 ?_
    refine g_gen (P := fun Sz => IV e9 x lo ta la M cnts told Sz el sz cp pw ow dn ∧ AGA Sz x el sz) (⟨IV.ch hI (ch_I (cs := [q_Tally_work]) (rs := []) (by decide)) kw_I (by decide) rfl, AGA.ch hA hI.1 (ch_I (cs := [q_Tally_work]) (rs := []) (by decide)) (by decide)⟩) (fun S15 hP2 => ?_)
    obtain ⟨hI2, hA2⟩ := hP2
    exact hend _ _ _ _ _ dX11_countTown_27 (⟨hI2, hA2⟩)
