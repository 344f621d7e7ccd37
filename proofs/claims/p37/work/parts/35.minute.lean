set_option maxHeartbeats 4000000 in
set_option maxRecDepth 100000 in
theorem k_fightWith (e9 : Nat × Nat) (S : wPS) (x lo ta : Nat) (la : Nat → Nat) (M cnts : Nat) (told : Int32) (el : Nat → Nat → Nat) (sz cp : Nat → Nat) (pw ow dn : Nat) (i : Nat) (hI : IV e9 x lo ta la M cnts told S el sz cp pw ow dn) (hcn : cnts ≤ 1188) (hi : i < sz 2) : MVv e9 yX11_fightWith cX11_fightWith 5 none ({ frames := 4, cells := 0, slots := 0, locals := 90 }) S [.ref x, .ref (el 2 i)] (fun S1 => ∃ dn1 : Nat, dn ≤ dn1 ∧ dn1 ≤ dn + 2 ∧ IV e9 x lo ta la M cnts told S1 el sz cp pw ow dn1) 0 0 := by
  refine stV_v (post := (fun S1 => ∃ dn1 : Nat, dn ≤ dn1 ∧ dn1 ≤ dn + 2 ∧ IV e9 x lo ta la M cnts told S1 el sz cp pw ow dn1)) (by decide) (Nat.le_of_ble_eq_true rfl) ⟨Nat.le_refl _, Nat.le_refl _⟩ rfl (fun κ hκ hz hnm hend => ?_)
  show Gj κ _ 0 [(0, .ref x), (1, .ref (el 2 i))] []
  have hM := hI.1.rm
  have hMc := hM
  obtain ⟨hx, ⟨f0, L0⟩, ⟨f1, L1⟩, ⟨f2, L2⟩, ⟨f3, L3⟩, ⟨f4, L4⟩, ⟨f5, L5⟩, ⟨f6, L6⟩, ⟨f7, L7⟩, ⟨f8, L8⟩, ⟨flo, hlo⟩, ⟨fta, hta⟩⟩ := hMc
  have b0 := L0.2.2.1
  have b2 := L2.2.2.1
  have b3 := L3.2.2.1
  have b4 := L4.2.2.1
  have b5 := L5.2.2.1
  have b7 := L7.2.2.1
  have b8 := L8.2.2.1
  have hSQ := (hI.2.2.1).sq
  refine g_aload_n hκ 1 dX11_fightWith_0 rfl rfl ?_
  refine gtN_Squadron_state (host := "Plotroom") hκ (hdV hz) (hI.1.ob (j := 2) (by decide) hi) (by decide +kernel) (Or.inl rfl) dX11_fightWith_1 ?_
  refine g_iconst hκ (v := 2) dX11_fightWith_4 (by decide) ?_
  refine g_icmp_ne hκ 16 dX11_fightWith_5 (by decide) (fun c1 => ?_) (fun c1 => ?_)
  · skip
    refine g_null hκ dX11_fightWith_16 ?_
    refine g_astore_nN hκ [(2, .null), (0, .ref x), (1, .ref (el 2 i))] dX11_fightWith_17 rfl (by decide) rfl ?_
    refine g_aload_nN hκ 0 dX11_fightWith_18 rfl rfl ?_
    refine g_ifnonnullN hκ dX11_fightWith_19 ?_
    exact hend _ _ _ _ _ dX11_fightWith_22 (⟨dn, by omega, by omega, hI⟩)
  · skip
    refine g_aload_n hκ 0 dX11_fightWith_8 rfl rfl ?_
    refine g_aload_n hκ 1 dX11_fightWith_9 rfl rfl ?_
    refine rV_q hκ (hdV hz) [.ref (el 2 i)] sd_X11_foeNear qw_791 (fun D cO H s hK hP => rc_Room hK hP hx) (k_foeNear S x lo ta la el sz (el 2 i) hM (hI.1.ob (j := 2) (by decide) hi)) ⟨rfl, rfl, Nat.le_of_ble_eq_true rfl, Nat.le_of_ble_eq_true rfl⟩ rfl rfl (Nat.le_of_ble_eq_true rfl) dX11_fightWith_10 (fun r2 hr2 => ?_)
    rcases foF_in (S := S) (el := el) (sz := sz) (q := el 2 i) with hn | ⟨k, hk, hup, hn⟩
    · skip
      refine g_rn (hr2.trans hn) ?_
      refine g_goto hκ 17 dX11_fightWith_13 (by decide) ?_
      refine g_astore_nN hκ [(2, .null), (0, .ref x), (1, .ref (el 2 i))] dX11_fightWith_17 rfl (by decide) rfl ?_
      refine g_aload_nN hκ 0 dX11_fightWith_18 rfl rfl ?_
      refine g_ifnonnullN hκ dX11_fightWith_19 ?_
      exact hend _ _ _ _ _ dX11_fightWith_22 (⟨dn, by omega, by omega, hI⟩)
    · skip
      refine g_rf (hr2.trans hn) ?_
      refine g_goto hκ 17 dX11_fightWith_13 (by decide) ?_
      refine g_astore_n hκ [(2, .ref (el 5 k)), (0, .ref x), (1, .ref (el 2 i))] dX11_fightWith_17 rfl (by decide) rfl ?_
      refine g_aload_n hκ 0 dX11_fightWith_18 rfl rfl ?_
      refine g_ifnonnull hκ 23 dX11_fightWith_19 (by decide) ?_
      refine g_aload_n hκ 2 dX11_fightWith_23 rfl rfl ?_
      refine g_aload_n hκ 0 dX11_fightWith_24 rfl rfl ?_
      refine g_aload_n hκ 1 dX11_fightWith_25 rfl rfl ?_
      refine gt_Room_lots hκ (hdV hz) hx qw_116 (Or.inl rfl) dX11_fightWith_26 ?_
      refine g_rf flo ?_
      refine vV_i hκ hz [] sd_X2_draw qw_798 (fun D cO H s hK hP => rc_Lots hK hP hlo) (k_draw e9 S lo hlo) ⟨rfl, rfl, Nat.le_of_ble_eq_true rfl, Nat.le_of_ble_eq_true rfl⟩ rfl rfl (Nat.le_of_ble_eq_true rfl) dX11_fightWith_29 (by omega) (by omega) (fun r3 S4 hS4 => ?_)
      obtain ⟨e9r, rfl⟩ := hS4
      obtain ⟨hI1, t1, ht1, et1⟩ := IV_draw hI
      refine g_eqi (e9r.trans et1) ?_
      refine g_gen (P := fun Sz => IV e9 x lo ta la M cnts told Sz el sz cp pw ow (dn + 1)) (hI1) (fun S5 hI1 => ?_)
      have hM := hI1.1.rm
      have hMc := hM
      obtain ⟨hx, ⟨f0, L0⟩, ⟨f1, L1⟩, ⟨f2, L2⟩, ⟨f3, L3⟩, ⟨f4, L4⟩, ⟨f5, L5⟩, ⟨f6, L6⟩, ⟨f7, L7⟩, ⟨f8, L8⟩, ⟨flo, hlo⟩, ⟨fta, hta⟩⟩ := hMc
      have b0 := L0.2.2.1
      have b2 := L2.2.2.1
      have b3 := L3.2.2.1
      have b4 := L4.2.2.1
      have b5 := L5.2.2.1
      have b7 := L7.2.2.1
      have b8 := L8.2.2.1
      have hSQ := (hI1.2.2.1).sq
      refine rS_i hκ (hdV hz) [.ref (el 2 i), .ref (el 5 k), .int (nI t1)] sd_X11_winOf qw_799 (k_winOf S5 (el 2 i) (el 5 k) (nI t1) (hI1.1.ob (j := 2) (by decide) hi) (hI1.1.ob (j := 5) (by decide) hk)) ⟨rfl, rfl, Nat.le_of_ble_eq_true rfl, Nat.le_of_ble_eq_true rfl⟩ rfl rfl (Nat.le_of_ble_eq_true rfl) dX11_fightWith_32 (fun r6 hr6 => ?_)
      obtain ⟨⟨m, hm12, hmm, hmst⟩, -⟩ := hI1.2.2.1 i hi
      obtain ⟨c, hc2, hc⟩ := SM2.cnt hI1.2.2.2.2.2.2.2.2.1 hk
      obtain ⟨w, hw, ew⟩ := win_nI (q := el 2 i) (f := el 5 k) hm12 hmm hc (by omega) ht1
      refine g_eqi (hr6.trans ew) ?_
      refine g_istore_n hκ [(3, .int (nI w)), (2, .ref (el 5 k)), (0, .ref x), (1, .ref (el 2 i))] dX11_fightWith_35 rfl (by decide) rfl ?_
      refine g_aload_n hκ 1 dX11_fightWith_36 rfl rfl ?_
      refine g_iload_n hκ 0 dX11_fightWith_37 rfl rfl ?_
      refine vV_v hκ hz [.int (nI w)] sd_X0_lose qw_803 (fun D cO H s hK hP => rc_Flight hK hP (hI1.1.ob (j := 5) (by decide) hk)) (k_lose e9 S5 (el 5 k) (nI w) (hI1.1.ob (j := 5) (by decide) hk)) ⟨rfl, rfl, Nat.le_of_ble_eq_true rfl, Nat.le_of_ble_eq_true rfl⟩ rfl rfl (Nat.le_of_ble_eq_true rfl) dX11_fightWith_38 (by omega) (by omega) (fun S8 hS8 => ?_)
      obtain rfl := hS8
      have hL9 := (loseF_ch (S := S5) (f := el 5 k) (m := nI w)).1
      refine g_aload_n hκ 3 dX11_fightWith_41 rfl rfl ?_
      refine g_dup hκ dX11_fightWith_42 rfl ?_
      refine gtN_Squadron_won (host := "Plotroom") hκ (hdV hz) (hL9.o (hI1.1.ob (j := 2) (by decide) hi)) (by decide +kernel) (Or.inl rfl) dX11_fightWith_43 ?_
      refine g_iload_n hκ 0 dX11_fightWith_46 rfl rfl ?_
      refine g_iadd hκ dX11_fightWith_47 ?_
      refine ptN_Squadron_won (host := "Plotroom") hκ (hL9.o (hI1.1.ob (j := 2) (by decide) hi)) (by decide +kernel) (Or.inl rfl) dX11_fightWith_48 ?_
      refine g_aload_n hκ 2 dX11_fightWith_51 rfl rfl ?_
      refine gt_Room_tally hκ (hdV hz) (hL9.o hx) qw_117 (Or.inl rfl) dX11_fightWith_52 ?_
      refine g_rf ((hL9.2.2 q_Room_tally (by decide) _ hx.1).trans fta) ?_
      refine g_dup hκ dX11_fightWith_55 rfl ?_
      refine gtN_Tally_fights (host := "Plotroom") hκ (hdV hz) (hL9.o hta) (by decide +kernel) (Or.inl rfl) dX11_fightWith_56 ?_
      refine g_iconst hκ (v := 1) dX11_fightWith_59 (by decide) ?_
      refine g_iadd hκ dX11_fightWith_60 ?_
      refine ptN_Tally_fights (host := "Plotroom") hκ (hL9.o hta) (by decide +kernel) (Or.inl rfl) dX11_fightWith_61 ?_
      refine g_aload_n hκ 2 dX11_fightWith_64 rfl rfl ?_
      refine gt_Room_tally hκ (hdV hz) (hL9.o hx) qw_117 (Or.inl rfl) dX11_fightWith_65 ?_
      refine g_rf ((hL9.2.2 q_Room_tally (by decide) _ hx.1).trans fta) ?_
      refine g_dup hκ dX11_fightWith_68 rfl ?_
      refine gtN_Tally_claims (host := "Plotroom") hκ (hdV hz) (hL9.o hta) (by decide +kernel) (Or.inl rfl) dX11_fightWith_69 ?_
      refine g_iload_n hκ 0 dX11_fightWith_72 rfl rfl ?_
      refine g_iload_n hκ 0 dX11_fightWith_73 rfl rfl ?_
      refine g_iconst hκ (v := 2) dX11_fightWith_74 (by decide) ?_
      refine g_idiv hκ dX11_fightWith_75 (by decide) ?_
      refine g_iadd hκ dX11_fightWith_76 ?_
      refine g_iadd hκ dX11_fightWith_77 ?_
      refine ptN_Tally_claims (host := "Plotroom") hκ (hL9.o hta) (by decide +kernel) (Or.inl rfl) dX11_fightWith_78 ?_
      refine g_gen (P := fun Sz => IV e9 x lo ta la M cnts told Sz el sz cp pw ow (dn + 1)) (IV_win hI1 hi hk hcn hc hc2 hw) (fun S9 hI5 => ?_)
      have hM := hI5.1.rm
      have hMc := hM
      obtain ⟨hx, ⟨f0, L0⟩, ⟨f1, L1⟩, ⟨f2, L2⟩, ⟨f3, L3⟩, ⟨f4, L4⟩, ⟨f5, L5⟩, ⟨f6, L6⟩, ⟨f7, L7⟩, ⟨f8, L8⟩, ⟨flo, hlo⟩, ⟨fta, hta⟩⟩ := hMc
      have b0 := L0.2.2.1
      have b2 := L2.2.2.1
      have b3 := L3.2.2.1
      have b4 := L4.2.2.1
      have b5 := L5.2.2.1
      have b7 := L7.2.2.1
      have b8 := L8.2.2.1
      have hSQ := (hI5.2.2.1).sq
      obtain ⟨c5, hc52, hc5⟩ := SM2.cnt hI5.2.2.2.2.2.2.2.2.1 hk
      refine g_aload_n hκ 1 dX11_fightWith_81 rfl rfl ?_
      refine gtN_Flight_count (host := "Plotroom") hκ (hdV hz) (hI5.1.ob (j := 5) (by decide) hk) (by decide +kernel) (Or.inl rfl) dX11_fightWith_82 ?_
      refine g_if_le hκ 122 dX11_fightWith_85 (by decide) (fun c10 => ?_) (fun c10 => ?_)
      · skip
        exact hend _ _ _ _ _ dX11_fightWith_122 (⟨(dn + 1), by omega, by omega, hI5⟩)
      · skip
        refine g_aload_n hκ 1 dX11_fightWith_88 rfl rfl ?_
        refine gtN_Flight_count (host := "Plotroom") hκ (hdV hz) (hI5.1.ob (j := 5) (by decide) hk) (by decide +kernel) (Or.inl rfl) dX11_fightWith_89 ?_
        refine g_eqi hc5 ?_
        refine g_aload_n hκ 2 dX11_fightWith_92 rfl rfl ?_
        refine gt_Room_lots hκ (hdV hz) hx qw_116 (Or.inl rfl) dX11_fightWith_93 ?_
        refine g_rf flo ?_
        refine vV_i hκ hz [] sd_X2_draw qw_798 (fun D cO H s hK hP => rc_Lots hK hP hlo) (k_draw e9 S9 lo hlo) ⟨rfl, rfl, Nat.le_of_ble_eq_true rfl, Nat.le_of_ble_eq_true rfl⟩ rfl rfl (Nat.le_of_ble_eq_true rfl) dX11_fightWith_96 (by omega) (by omega) (fun r11 S12 hS12 => ?_)
        obtain ⟨e9r, rfl⟩ := hS12
        obtain ⟨hI2, t2, ht2, et2⟩ := IV_draw hI5
        refine g_eqi (e9r.trans et2) ?_
        refine g_gen (P := fun Sz => IV e9 x lo ta la M cnts told Sz el sz cp pw ow (dn + 2)) (hI2) (fun S13 hI2 => ?_)
        have hM := hI2.1.rm
        have hMc := hM
        obtain ⟨hx, ⟨f0, L0⟩, ⟨f1, L1⟩, ⟨f2, L2⟩, ⟨f3, L3⟩, ⟨f4, L4⟩, ⟨f5, L5⟩, ⟨f6, L6⟩, ⟨f7, L7⟩, ⟨f8, L8⟩, ⟨flo, hlo⟩, ⟨fta, hta⟩⟩ := hMc
        have b0 := L0.2.2.1
        have b2 := L2.2.2.1
        have b3 := L3.2.2.1
        have b4 := L4.2.2.1
        have b5 := L5.2.2.1
        have b7 := L7.2.2.1
        have b8 := L8.2.2.1
        have hSQ := (hI2.2.2.1).sq
        refine g_bipush hκ (v := 6) dX11_fightWith_99 (by decide) ?_
        refine g_irem hκ dX11_fightWith_101 (by decide) ?_
        refine g_imul hκ dX11_fightWith_102 ?_
        refine g_bipush hκ (v := 40) dX11_fightWith_103 (by decide) ?_
        refine g_idiv hκ dX11_fightWith_105 (by decide) ?_
        obtain ⟨l, hl9, el9⟩ := lost_nI (c := c5) (t := t2) (by omega) ht2
        refine g_eqi (y := nI l) el9 ?_
        refine g_istore hκ [(4, .int (nI l)), (3, .int (nI w)), (2, .ref (el 5 k)), (0, .ref x), (1, .ref (el 2 i))] dX11_fightWith_106 (by decide) rfl ?_
        refine g_aload_n hκ 3 dX11_fightWith_108 rfl rfl ?_
        refine g_aload_n hκ 4 dX11_fightWith_109 rfl rfl ?_
        refine g_aload_n hκ 4 dX11_fightWith_110 rfl rfl ?_
        refine gtN_Squadron_machines (host := "Plotroom") hκ (hdV hz) (hI2.1.ob (j := 2) (by decide) hi) (by decide +kernel) (Or.inl rfl) dX11_fightWith_111 ?_
        obtain ⟨⟨m6, hm6, hmm6, hmst6⟩, hr6⟩ := hI2.2.2.1 i hi
        refine g_eqi hmm6 ?_
        refine g_iload hκ 0 dX11_fightWith_114 rfl ?_
        refine g_min hκ (hdV hz) qw_802 ⟨Nat.le_of_ble_eq_true rfl, Nat.le_of_ble_eq_true rfl⟩ dX11_fightWith_116 ?_
        obtain ⟨r6, hr66, er6⟩ := min_nI (m := m6) (l := l) hm6 hl9
        refine g_eqi er6 ?_
        obtain ⟨b6, hB6⟩ := sqI.b (hI2.1.ob (j := 2) (by decide) hi) (hI2.2.2.1 i hi)
        refine vV_v hκ hz [.ref (el 2 i), .int (nI r6)] sd_X11_loseMachines qw_783 (fun D cO H s hK hP => rc_Room hK hP hx) (k_loseM e9 S13 x lo ta la el sz (el 2 i) (nI r6) b6 hM (hI2.1.ob (j := 2) (by decide) hi) hB6.2.2.2.1 hB6.2.2.2.2.1) ⟨rfl, rfl, Nat.le_of_ble_eq_true rfl, Nat.le_of_ble_eq_true rfl⟩ rfl rfl (Nat.le_of_ble_eq_true rfl) dX11_fightWith_119 (by omega) (by omega) (fun S15 hS15 => ?_)
        obtain rfl := hS15
        have TT9 := lm_TT (ta := ta) (l := r6) hB6 (Or.inl (hI2.2.2.1 i hi)) hm6 hmm6 hr66
        refine g_gen (P := fun Sz => IV e9 x lo ta la M cnts told Sz el sz cp pw ow (dn + 2)) (IV_sq hI2 hi TT9.1 TT9.2.1 TT9.2.2) (fun S16 hI8 => ?_)
        exact hend _ _ _ _ _ dX11_fightWith_122 (⟨(dn + 2), by omega, by omega, hI8⟩)
