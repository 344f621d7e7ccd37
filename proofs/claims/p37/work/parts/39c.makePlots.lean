set_option maxHeartbeats 4000000 in
set_option maxRecDepth 100000 in
theorem k_makePlots (e9 : Nat × Nat) (S : wPS) (x lo ta : Nat) (la : Nat → Nat) (M cnts : Nat) (told : Int32) (el : Nat → Nat → Nat) (sz cp : Nat → Nat) (pw dn : Nat) (w B : Nat) (hI : IV e9 x lo ta la M cnts told S el sz cp pw pw dn) (hz0 : sz 0 ≤ 2) (hz5 : sz 5 ≤ 12) (hB : sz 8 + 24 ≤ B) (hB2 : B ≤ 29000) (hw : gN B + 16 ≤ w) : MVv e9 yX11_makePlots cX11_makePlots 5 none ({ frames := 8, cells := 48, slots := (24 * w), locals := 196 }) S [.ref x] (fun S1 => ∃ (el1 : Nat → Nat → Nat) (sz1 cp1 : Nat → Nat) (pw1 dn1 : Nat), IV e9 x lo ta la M cnts told S1 el1 sz1 cp1 pw1 pw1 dn1 ∧ GR el sz el1 sz1 ∧ sz1 7 = sz 7 ∧ sz1 8 ≤ sz 8 + 24 ∧ dn ≤ dn1 ∧ dn1 ≤ dn + 48) 48 (24 * w) := by
  refine stV_v (post := (fun S1 => ∃ (el1 : Nat → Nat → Nat) (sz1 cp1 : Nat → Nat) (pw1 dn1 : Nat), IV e9 x lo ta la M cnts told S1 el1 sz1 cp1 pw1 pw1 dn1 ∧ GR el sz el1 sz1 ∧ sz1 7 = sz 7 ∧ sz1 8 ≤ sz 8 + 24 ∧ dn ≤ dn1 ∧ dn1 ≤ dn + 48)) (by decide) (Nat.le_of_ble_eq_true rfl) ⟨Nat.le_refl _, Nat.le_refl _⟩ rfl (fun κ hκ hz hnm hend => ?_)
  show Gj κ _ 0 [(0, .ref x)] []
  have hM := hI.1.rm
  have hMc := hM
  obtain ⟨hx, ⟨f0, L0⟩, ⟨f1, L1⟩, ⟨f2, L2⟩, ⟨f3, L3⟩, ⟨f4, L4⟩, ⟨f5, L5⟩, ⟨f6, L6⟩, ⟨f7, L7⟩, ⟨f8, L8⟩, ⟨flo, hlo⟩, ⟨fta, hta⟩⟩ := hMc
  have b0 := L0.2.2.1
  have b2 := L2.2.2.1
  have b3 := L3.2.2.1
  have b4 := L4.2.2.1
  have b5 := L5.2.2.1
  have b7 := L7.2.2.1
  have b8 := L8.2.2.1
  have hSQ := (hI.2.2.1).sq
  have hw0 := Nat.mul_le_mul_right (12 * w) hz0
  have hw5 := Nat.mul_le_mul_right w hz5
  refine g_iconst hκ (v := 0) dX11_makePlots_0 (by decide) ?_
  refine g_istore_n hκ [(1, .int 0), (0, .ref x)] dX11_makePlots_1 rfl (by decide) rfl ?_
  have loop2 : ∀ (d2 i2 : Nat) (x2 : Int32) (S : wPS) (elA : Nat → Nat → Nat) (szA : Nat → Nat) (cpA : Nat → Nat) (pwA : Nat) (dnA : Nat), i2 + d2 = sz 0 → x2 = nI i2 → (IV e9 x lo ta la M cnts told S elA szA cpA pwA pwA dnA ∧ GR el sz elA szA ∧ szA 7 = sz 7 ∧ szA 8 ≤ sz 8 + 12 * i2 ∧ dn ≤ dnA ∧ dnA ≤ dn + 24 * i2) → Gj κ (PV κ S (24 * d2) (d2 * (12 * w))) 2 [(1, .int x2), (0, .ref x)] [] := by
    intro d2
    induction d2 with
    | zero =>
      intro i2 x2 S elA szA cpA pwA dnA hi2 hx2 hI
      subst hx2
      obtain ⟨hI, hg, h7, h8, hd1, hd2⟩ := hI
      have hM := hI.1.rm
      have hMc := hM
      obtain ⟨hx, ⟨f0, L0⟩, ⟨f1, L1⟩, ⟨f2, L2⟩, ⟨f3, L3⟩, ⟨f4, L4⟩, ⟨f5, L5⟩, ⟨f6, L6⟩, ⟨f7, L7⟩, ⟨f8, L8⟩, ⟨flo, hlo⟩, ⟨fta, hta⟩⟩ := hMc
      have b0 := L0.2.2.1
      have b2 := L2.2.2.1
      have b3 := L3.2.2.1
      have b4 := L4.2.2.1
      have b5 := L5.2.2.1
      have b7 := L7.2.2.1
      have b8 := L8.2.2.1
      have hSQ := (hI.2.2.1).sq
      have em0 := hg.e (j := 0) (by decide) (by decide)
      have zm0 := hg.z (j := 0) (by decide) (by decide)
      have em1 := hg.e (j := 1) (by decide) (by decide)
      have zm1 := hg.z (j := 1) (by decide) (by decide)
      have em2 := hg.e (j := 2) (by decide) (by decide)
      have zm2 := hg.z (j := 2) (by decide) (by decide)
      have em3 := hg.e (j := 3) (by decide) (by decide)
      have zm3 := hg.z (j := 3) (by decide) (by decide)
      have em4 := hg.e (j := 4) (by decide) (by decide)
      have zm4 := hg.z (j := 4) (by decide) (by decide)
      have em5 := hg.e (j := 5) (by decide) (by decide)
      have zm5 := hg.z (j := 5) (by decide) (by decide)
      refine g_iload_n hκ 0 dX11_makePlots_2 rfl rfl ?_
      refine g_aload_n hκ 1 dX11_makePlots_3 rfl rfl ?_
      refine gt_Room_masts hκ (hdV hz) hx qw_106 (Or.inl rfl) dX11_makePlots_4 ?_
      refine g_rf f0 ?_
      refine rV_i hκ (hdV hz) [] sd_Jx4a65c_size_8abf5 qw_227 (fun D cO H s hK hP => rc_List hK hP L0.1) (k_sizeL S (la 0) 3 (szA 0) (elA 0) L0) ⟨rfl, rfl, Nat.le_of_ble_eq_true rfl, Nat.le_of_ble_eq_true rfl⟩ rfl rfl (Nat.le_of_ble_eq_true rfl) dX11_makePlots_7 (fun r1 hr1 => ?_)
      refine g_eqi (hr1.trans (congrArg nI zm0)) ?_
      refine g_icmp_ge hκ 79 dX11_makePlots_10 (by decide) (fun _ => ?_) (fun z => absurd (lp_ge rfl (by omega) (by omega)) z)
      exact hend _ _ _ _ _ dX11_makePlots_79 (⟨elA, szA, cpA, pwA, dnA, hI, hg, h7, by omega, hd1, by omega⟩)
    | succ d2 ih2 =>
      intro i2 x2 S elA szA cpA pwA dnA hi2 hx2 hI
      subst hx2
      have em9 := Nat.add_one_mul d2 (12 * w)
      obtain ⟨hI, hg, h7, h8, hd1, hd2⟩ := hI
      have hM := hI.1.rm
      have hMc := hM
      obtain ⟨hx, ⟨f0, L0⟩, ⟨f1, L1⟩, ⟨f2, L2⟩, ⟨f3, L3⟩, ⟨f4, L4⟩, ⟨f5, L5⟩, ⟨f6, L6⟩, ⟨f7, L7⟩, ⟨f8, L8⟩, ⟨flo, hlo⟩, ⟨fta, hta⟩⟩ := hMc
      have b0 := L0.2.2.1
      have b2 := L2.2.2.1
      have b3 := L3.2.2.1
      have b4 := L4.2.2.1
      have b5 := L5.2.2.1
      have b7 := L7.2.2.1
      have b8 := L8.2.2.1
      have hSQ := (hI.2.2.1).sq
      have em0 := hg.e (j := 0) (by decide) (by decide)
      have zm0 := hg.z (j := 0) (by decide) (by decide)
      have em1 := hg.e (j := 1) (by decide) (by decide)
      have zm1 := hg.z (j := 1) (by decide) (by decide)
      have em2 := hg.e (j := 2) (by decide) (by decide)
      have zm2 := hg.z (j := 2) (by decide) (by decide)
      have em3 := hg.e (j := 3) (by decide) (by decide)
      have zm3 := hg.z (j := 3) (by decide) (by decide)
      have em4 := hg.e (j := 4) (by decide) (by decide)
      have zm4 := hg.z (j := 4) (by decide) (by decide)
      have em5 := hg.e (j := 5) (by decide) (by decide)
      have zm5 := hg.z (j := 5) (by decide) (by decide)
      refine g_iload_n hκ 0 dX11_makePlots_2 rfl rfl ?_
      refine g_aload_n hκ 1 dX11_makePlots_3 rfl rfl ?_
      refine gt_Room_masts hκ (hdV hz) hx qw_106 (Or.inl rfl) dX11_makePlots_4 ?_
      refine g_rf f0 ?_
      refine rV_i hκ (hdV hz) [] sd_Jx4a65c_size_8abf5 qw_227 (fun D cO H s hK hP => rc_List hK hP L0.1) (k_sizeL S (la 0) 3 (szA 0) (elA 0) L0) ⟨rfl, rfl, Nat.le_of_ble_eq_true rfl, Nat.le_of_ble_eq_true rfl⟩ rfl rfl (Nat.le_of_ble_eq_true rfl) dX11_makePlots_7 (fun r2 hr2 => ?_)
      refine g_eqi (hr2.trans (congrArg nI zm0)) ?_
      refine g_icmp_ge hκ 79 dX11_makePlots_10 (by decide) (fun z => absurd z (lp_nge rfl (by omega) (by omega))) (fun _ => ?_)
      refine g_aload_n hκ 1 dX11_makePlots_13 rfl rfl ?_
      refine gt_Room_masts hκ (hdV hz) hx qw_106 (Or.inl rfl) dX11_makePlots_14 ?_
      refine g_rf f0 ?_
      refine g_iload_n hκ 0 dX11_makePlots_17 rfl rfl ?_
      refine rV_q hκ (hdV hz) [.int (nI i2)] sd_Jx4a65c_get_915e3 qw_440 (fun D cO H s hK hP => rc_List hK hP L0.1) (k_get S (la 0) 3 (szA 0) i2 (elA 0) (nI i2) L0 rfl (by omega)) ⟨rfl, rfl, Nat.le_of_ble_eq_true rfl, Nat.le_of_ble_eq_true rfl⟩ rfl rfl (Nat.le_of_ble_eq_true rfl) dX11_makePlots_18 (fun r3 hr3 => ?_)
      refine g_rf (hr3.trans (congrArg some (congrFun em0 i2))) ?_
      refine gc_Mast hκ (hdV hz) (eob em0 (L0.2.2.2.2 i2 (by omega))) qw_247 dX11_makePlots_21 ?_
      refine g_astore_n hκ [(2, .ref (el 0 i2)), (1, .int (nI i2)), (0, .ref x)] dX11_makePlots_24 rfl (by decide) rfl ?_
      refine g_iconst hκ (v := 0) dX11_makePlots_25 (by decide) ?_
      refine g_istore_n hκ [(3, .int 0), (2, .ref (el 0 i2)), (1, .int (nI i2)), (0, .ref x)] dX11_makePlots_26 rfl (by decide) rfl ?_
      have loop27 : ∀ (d27 i27 : Nat) (x27 : Int32) (S : wPS) (elB : Nat → Nat → Nat) (szB : Nat → Nat) (cpB : Nat → Nat) (pwB : Nat) (dnB : Nat), i27 + d27 = sz 5 → x27 = nI i27 → (IV e9 x lo ta la M cnts told S elB szB cpB pwB pwB dnB ∧ GR el sz elB szB ∧ szB 7 = sz 7 ∧ szB 8 ≤ sz 8 + 12 * i2 + i27 ∧ dn ≤ dnB ∧ dnB ≤ dn + 24 * i2 + 2 * i27) → Gj κ (PV κ S (24 * d2 + 2 * d27) (d2 * (12 * w) + d27 * w)) 27 [(3, .int x27), (2, .ref (el 0 i2)), (1, .int (nI i2)), (0, .ref x)] [] := by
        intro d27
        induction d27 with
        | zero =>
          intro i27 x27 S elB szB cpB pwB dnB hi27 hx27 hI
          subst hx27
          obtain ⟨hI, hg, h7, h8, hd1, hd2⟩ := hI
          have hM := hI.1.rm
          have hMc := hM
          obtain ⟨hx, ⟨f0, L0⟩, ⟨f1, L1⟩, ⟨f2, L2⟩, ⟨f3, L3⟩, ⟨f4, L4⟩, ⟨f5, L5⟩, ⟨f6, L6⟩, ⟨f7, L7⟩, ⟨f8, L8⟩, ⟨flo, hlo⟩, ⟨fta, hta⟩⟩ := hMc
          have b0 := L0.2.2.1
          have b2 := L2.2.2.1
          have b3 := L3.2.2.1
          have b4 := L4.2.2.1
          have b5 := L5.2.2.1
          have b7 := L7.2.2.1
          have b8 := L8.2.2.1
          have hSQ := (hI.2.2.1).sq
          have em0 := hg.e (j := 0) (by decide) (by decide)
          have zm0 := hg.z (j := 0) (by decide) (by decide)
          have em1 := hg.e (j := 1) (by decide) (by decide)
          have zm1 := hg.z (j := 1) (by decide) (by decide)
          have em2 := hg.e (j := 2) (by decide) (by decide)
          have zm2 := hg.z (j := 2) (by decide) (by decide)
          have em3 := hg.e (j := 3) (by decide) (by decide)
          have zm3 := hg.z (j := 3) (by decide) (by decide)
          have em4 := hg.e (j := 4) (by decide) (by decide)
          have zm4 := hg.z (j := 4) (by decide) (by decide)
          have em5 := hg.e (j := 5) (by decide) (by decide)
          have zm5 := hg.z (j := 5) (by decide) (by decide)
          refine g_iload_n hκ 0 dX11_makePlots_27 rfl rfl ?_
          refine g_aload_n hκ 3 dX11_makePlots_28 rfl rfl ?_
          refine gt_Room_flights hκ (hdV hz) hx qw_111 (Or.inl rfl) dX11_makePlots_29 ?_
          refine g_rf f5 ?_
          refine rV_i hκ (hdV hz) [] sd_Jx4a65c_size_8abf5 qw_227 (fun D cO H s hK hP => rc_List hK hP L5.1) (k_sizeL S (la 5) 0 (szB 5) (elB 5) L5) ⟨rfl, rfl, Nat.le_of_ble_eq_true rfl, Nat.le_of_ble_eq_true rfl⟩ rfl rfl (Nat.le_of_ble_eq_true rfl) dX11_makePlots_32 (fun r4 hr4 => ?_)
          refine g_eqi (hr4.trans (congrArg nI zm5)) ?_
          refine g_icmp_ge hκ 73 dX11_makePlots_35 (by decide) (fun _ => ?_) (fun z => absurd (lp_ge rfl (by omega) (by omega)) z)
          obtain ⟨v5, hv5⟩ : ∃ z : Int32, nI i2 + 1 = z := ⟨_, rfl⟩
          refine g_iinc hκ (k := 2) (v := v5) [(1, .int v5), (3, .int (nI i27)), (2, .ref (el 0 i2)), (0, .ref x)] dX11_makePlots_73 rfl hv5 (by decide) rfl ?_
          refine g_goto hκ 2 dX11_makePlots_76 (by decide) ?_
          refine g_lv [(1, .int v5), (0, .ref x)] [0, 3] rfl ?_
          refine g_wid (k2 := 24 * d2) (n2 := d2 * (12 * w)) (by omega) (by omega) ?_
          exact ih2 (i2 + 1) v5 S elB szB cpB pwB dnB (by omega) (lp_s rfl hv5) (⟨hI, hg, h7, by omega, hd1, by omega⟩)
        | succ d27 ih27 =>
          intro i27 x27 S elB szB cpB pwB dnB hi27 hx27 hI
          subst hx27
          have em8 := Nat.add_one_mul d27 w
          obtain ⟨hI, hg, h7, h8, hd1, hd2⟩ := hI
          have hM := hI.1.rm
          have hMc := hM
          obtain ⟨hx, ⟨f0, L0⟩, ⟨f1, L1⟩, ⟨f2, L2⟩, ⟨f3, L3⟩, ⟨f4, L4⟩, ⟨f5, L5⟩, ⟨f6, L6⟩, ⟨f7, L7⟩, ⟨f8, L8⟩, ⟨flo, hlo⟩, ⟨fta, hta⟩⟩ := hMc
          have b0 := L0.2.2.1
          have b2 := L2.2.2.1
          have b3 := L3.2.2.1
          have b4 := L4.2.2.1
          have b5 := L5.2.2.1
          have b7 := L7.2.2.1
          have b8 := L8.2.2.1
          have hSQ := (hI.2.2.1).sq
          have em0 := hg.e (j := 0) (by decide) (by decide)
          have zm0 := hg.z (j := 0) (by decide) (by decide)
          have em1 := hg.e (j := 1) (by decide) (by decide)
          have zm1 := hg.z (j := 1) (by decide) (by decide)
          have em2 := hg.e (j := 2) (by decide) (by decide)
          have zm2 := hg.z (j := 2) (by decide) (by decide)
          have em3 := hg.e (j := 3) (by decide) (by decide)
          have zm3 := hg.z (j := 3) (by decide) (by decide)
          have em4 := hg.e (j := 4) (by decide) (by decide)
          have zm4 := hg.z (j := 4) (by decide) (by decide)
          have em5 := hg.e (j := 5) (by decide) (by decide)
          have zm5 := hg.z (j := 5) (by decide) (by decide)
          refine g_iload_n hκ 0 dX11_makePlots_27 rfl rfl ?_
          refine g_aload_n hκ 3 dX11_makePlots_28 rfl rfl ?_
          refine gt_Room_flights hκ (hdV hz) hx qw_111 (Or.inl rfl) dX11_makePlots_29 ?_
          refine g_rf f5 ?_
          refine rV_i hκ (hdV hz) [] sd_Jx4a65c_size_8abf5 qw_227 (fun D cO H s hK hP => rc_List hK hP L5.1) (k_sizeL S (la 5) 0 (szB 5) (elB 5) L5) ⟨rfl, rfl, Nat.le_of_ble_eq_true rfl, Nat.le_of_ble_eq_true rfl⟩ rfl rfl (Nat.le_of_ble_eq_true rfl) dX11_makePlots_32 (fun r6 hr6 => ?_)
          refine g_eqi (hr6.trans (congrArg nI zm5)) ?_
          refine g_icmp_ge hκ 73 dX11_makePlots_35 (by decide) (fun z => absurd z (lp_nge rfl (by omega) (by omega))) (fun _ => ?_)
          refine g_aload_n hκ 3 dX11_makePlots_38 rfl rfl ?_
          refine gt_Room_flights hκ (hdV hz) hx qw_111 (Or.inl rfl) dX11_makePlots_39 ?_
          refine g_rf f5 ?_
          refine g_iload_n hκ 0 dX11_makePlots_42 rfl rfl ?_
          refine rV_q hκ (hdV hz) [.int (nI i27)] sd_Jx4a65c_get_915e3 qw_440 (fun D cO H s hK hP => rc_List hK hP L5.1) (k_get S (la 5) 0 (szB 5) i27 (elB 5) (nI i27) L5 rfl (by omega)) ⟨rfl, rfl, Nat.le_of_ble_eq_true rfl, Nat.le_of_ble_eq_true rfl⟩ rfl rfl (Nat.le_of_ble_eq_true rfl) dX11_makePlots_43 (fun r7 hr7 => ?_)
          refine g_rf (hr7.trans (congrArg some (congrFun em5 i27))) ?_
          refine gc_Flight hκ (hdV hz) (eob em5 (L5.2.2.2.2 i27 (by omega))) qw_553 dX11_makePlots_46 ?_
          refine g_astore hκ [(4, .ref (el 5 i27)), (3, .int (nI i27)), (2, .ref (el 0 i2)), (1, .int (nI i2)), (0, .ref x)] dX11_makePlots_49 (by decide) rfl ?_
          refine g_aload_n hκ 2 dX11_makePlots_51 rfl rfl ?_
          refine g_aload hκ 0 dX11_makePlots_52 rfl ?_
          refine rV_i hκ (hdV hz) [.ref (el 5 i27)] sd_X3_canSee qw_604 (fun D cO H s hK hP => rc_Mast hK hP (eob em0 (hI.1.ob (j := 0) (by decide) (by omega)))) (k_canSee S (el 0 i2) (el 5 i27) (eob em0 (hI.1.ob (j := 0) (by decide) (by omega))) (eob em5 (L5.2.2.2.2 i27 (by omega)))) ⟨rfl, rfl, Nat.le_of_ble_eq_true rfl, Nat.le_of_ble_eq_true rfl⟩ rfl rfl (Nat.le_of_ble_eq_true rfl) dX11_makePlots_54 (fun r8 hr8 => ?_)
          obtain ⟨b9, rfl⟩ | ⟨b9, rfl⟩ := zb_cases hr8
          · skip
            refine g_if_eq hκ 67 dX11_makePlots_57 (by decide) (fun z => absurd z (by decide)) (fun _ => ?_)
            refine g_aload_n hκ 4 dX11_makePlots_60 rfl rfl ?_
            refine g_aload_n hκ 2 dX11_makePlots_61 rfl rfl ?_
            refine g_aload hκ 0 dX11_makePlots_62 rfl ?_
            have hgm := gN_mono (show szB 8 ≤ B by omega)
            refine vV_v hκ hz [.ref (el 0 i2), .ref (el 5 i27)] sd_X11_makePlot qw_614 (fun D cO H s hK hP => rc_Room hK hP hx) (k_makePlot e9 S x lo ta la M cnts told elB szB cpB pwB pwB dnB i2 i27 (el 0 i2) (el 5 i27) hI (by omega) (by omega) (congrFun em0 i2) (congrFun em5 i27) (by omega)) ⟨rfl, rfl, Nat.le_of_ble_eq_true rfl, Nat.le_of_ble_eq_true rfl⟩ rfl rfl (Nat.le_of_ble_eq_true rfl) dX11_makePlots_64 (by omega) (by omega) (fun S11 hS11 => ?_)
            obtain ⟨elC, szC, cpC, hI3, hg3, h73, h83⟩ := hS11
            obtain ⟨v12, hv12⟩ : ∃ z : Int32, nI i27 + 1 = z := ⟨_, rfl⟩
            refine g_iinc hκ (k := 1) (v := v12) [(3, .int v12), (4, .ref (el 5 i27)), (2, .ref (el 0 i2)), (1, .int (nI i2)), (0, .ref x)] dX11_makePlots_67 rfl hv12 (by decide) rfl ?_
            refine g_goto hκ 27 dX11_makePlots_70 (by decide) ?_
            refine g_lv [(3, .int v12), (2, .ref (el 0 i2)), (1, .int (nI i2)), (0, .ref x)] [0, 2, 3, 4] rfl ?_
            refine g_wid (k2 := 24 * d2 + 2 * d27) (n2 := d2 * (12 * w) + d27 * w) (by omega) (by omega) ?_
            exact ih27 (i27 + 1) v12 S11 elC szC cpC (pwB + 1) (dnB + 1 + 1) (by omega) (lp_s rfl hv12) (⟨hI3, hg.trans hg3, h73.trans h7, by omega, by omega, by omega⟩)
          · skip
            refine g_if_eq hκ 67 dX11_makePlots_57 (by decide) (fun _ => ?_) (fun z => absurd z (by decide))
            obtain ⟨v13, hv13⟩ : ∃ z : Int32, nI i27 + 1 = z := ⟨_, rfl⟩
            refine g_iinc hκ (k := 1) (v := v13) [(3, .int v13), (4, .ref (el 5 i27)), (2, .ref (el 0 i2)), (1, .int (nI i2)), (0, .ref x)] dX11_makePlots_67 rfl hv13 (by decide) rfl ?_
            refine g_goto hκ 27 dX11_makePlots_70 (by decide) ?_
            refine g_lv [(3, .int v13), (2, .ref (el 0 i2)), (1, .int (nI i2)), (0, .ref x)] [0, 2, 3, 4] rfl ?_
            refine g_wid (k2 := 24 * d2 + 2 * d27) (n2 := d2 * (12 * w) + d27 * w) (by omega) (by omega) ?_
            exact ih27 (i27 + 1) v13 S elB szB cpB pwB dnB (by omega) (lp_s rfl hv13) (⟨hI, hg, h7, by omega, hd1, by omega⟩)
      refine g_wid (k2 := 24 * d2 + 2 * (sz 5)) (n2 := d2 * (12 * w) + (sz 5) * w) (by omega) (by omega) ?_
      exact loop27 (sz 5) 0 0 S elA szA cpA pwA dnA (by omega) (by first | rfl | decide) (⟨hI, hg, h7, by omega, hd1, by omega⟩)
  refine g_wid (k2 := 24 * (sz 0)) (n2 := (sz 0) * (12 * w)) (by omega) (by omega) ?_
  exact loop2 (sz 0) 0 0 S el sz cp pw dn (by omega) (by first | rfl | decide) (⟨hI, GR.refl, rfl, by omega, by omega, by omega⟩)
