set_option maxHeartbeats 4000000 in
set_option maxRecDepth 100000 in
theorem k_passOne (e9 : Nat × Nat) (S : wPS) (x lo ta : Nat) (la : Nat → Nat) (M cnts : Nat) (told : Int32) (el : Nat → Nat → Nat) (sz cp : Nat → Nat) (pw dn : Nat) (w B : Nat) (hI : IV e9 x lo ta la M cnts told S el sz cp pw pw dn) (hcn : cnts ≤ 1188) (hz0 : sz 0 ≤ 2) (hz2 : sz 2 ≤ 5) (hz3 : sz 3 ≤ 3) (hz5 : sz 5 ≤ 12) (h16 : sz 7 ≤ 16) (hB : sz 8 + 24 ≤ B) (hB2 : B ≤ 29000) (hw : gN B + 16 ≤ w) : MVv e9 yX11_passOne cX11_passOne 2 none ({ frames := 9, cells := 80, slots := (24 * w + 736), locals := 220 }) S [.ref x] (fun S1 => ∃ (el1 : Nat → Nat → Nat) (sz1 cp1 : Nat → Nat) (pw1 dn1 : Nat), IV e9 x lo ta la (M + 1) cnts told S1 el1 sz1 cp1 pw1 pw1 dn1 ∧ GR el sz el1 sz1 ∧ sz1 7 ≤ 16 ∧ sz1 8 ≤ sz 8 + 24 ∧ dn ≤ dn1 ∧ dn1 ≤ dn + 100 ∧ AGA S1 x el1 sz1) 80 (24 * w + 736) := by
  refine stV_v (post := (fun S1 => ∃ (el1 : Nat → Nat → Nat) (sz1 cp1 : Nat → Nat) (pw1 dn1 : Nat), IV e9 x lo ta la (M + 1) cnts told S1 el1 sz1 cp1 pw1 pw1 dn1 ∧ GR el sz el1 sz1 ∧ sz1 7 ≤ 16 ∧ sz1 8 ≤ sz 8 + 24 ∧ dn ≤ dn1 ∧ dn1 ≤ dn + 100 ∧ AGA S1 x el1 sz1)) (by decide) (Nat.le_of_ble_eq_true rfl) ⟨Nat.le_refl _, Nat.le_refl _⟩ rfl (fun κ hκ hz hnm hend => ?_)
  show Gj κ _ 0 [(0, .ref x)] []
  have hM := hI.1.rm
  have hMc := hM
  obtain ⟨hx, ⟨f0, L0⟩, ⟨f1, L1⟩, ⟨f2, L2⟩, ⟨f3, L3⟩, ⟨f4, L4⟩, ⟨f5, L5⟩, ⟨f6, L6⟩, ⟨f7, L7⟩, ⟨f8, L8⟩, ⟨flo, hlo⟩, ⟨fta, hta⟩⟩ := hMc
  have b0 := L0.2.2.1
  have b2 := L2.2.2.1
  have b3 := L3.2.2.1
  have b4 := L4.2.2.1
  have b5 := L5.2.2.1
  have b7 := L7.2.2.1
  have b8 := L8.2.2.1
  have hSQ := (hI.2.2.1).sq
  refine g_aload_n hκ 0 dX11_passOne_0 rfl rfl ?_
  refine g_dup hκ dX11_passOne_1 rfl ?_
  refine gt_Room_minute hκ (hdV hz) hx qw_118 (Or.inl rfl) dX11_passOne_2 ?_
  refine g_iconst hκ (v := 1) dX11_passOne_5 (by decide) ?_
  refine g_iadd hκ dX11_passOne_6 ?_
  refine pt_Room_minute hκ hx qw_118 (Or.inl rfl) dX11_passOne_7 ?_
  refine g_gen (P := fun Sz => IV e9 x lo ta la (M + 1) cnts told Sz el sz cp pw pw dn) (IV_minute hI) (fun S1 hI1 => ?_)
  have hM := hI1.1.rm
  have hMc := hM
  obtain ⟨hx, ⟨f0, L0⟩, ⟨f1, L1⟩, ⟨f2, L2⟩, ⟨f3, L3⟩, ⟨f4, L4⟩, ⟨f5, L5⟩, ⟨f6, L6⟩, ⟨f7, L7⟩, ⟨f8, L8⟩, ⟨flo, hlo⟩, ⟨fta, hta⟩⟩ := hMc
  have b0 := L0.2.2.1
  have b2 := L2.2.2.1
  have b3 := L3.2.2.1
  have b4 := L4.2.2.1
  have b5 := L5.2.2.1
  have b7 := L7.2.2.1
  have b8 := L8.2.2.1
  have hSQ := (hI1.2.2.1).sq
  refine g_iconst hκ (v := 0) dX11_passOne_10 (by decide) ?_
  refine g_istore_n hκ [(1, .int 0), (0, .ref x)] dX11_passOne_11 rfl (by decide) rfl ?_
  have loop12 : ∀ (d12 i12 : Nat) (x12 : Int32) (S : wPS) , i12 + d12 = sz 5 → x12 = nI i12 → (IV e9 x lo ta la (M + 1) cnts told S el sz cp pw pw dn) → Gj κ (PV κ S (80) (24 * w + 736)) 12 [(1, .int x12), (0, .ref x)] [] := by
    intro d12
    induction d12 with
    | zero =>
      intro i12 x12 S  hi12 hx12 hI
      subst hx12
      have hM := hI.1.rm
      have hMc := hM
      obtain ⟨hx, ⟨f0, L0⟩, ⟨f1, L1⟩, ⟨f2, L2⟩, ⟨f3, L3⟩, ⟨f4, L4⟩, ⟨f5, L5⟩, ⟨f6, L6⟩, ⟨f7, L7⟩, ⟨f8, L8⟩, ⟨flo, hlo⟩, ⟨fta, hta⟩⟩ := hMc
      have b0 := L0.2.2.1
      have b2 := L2.2.2.1
      have b3 := L3.2.2.1
      have b4 := L4.2.2.1
      have b5 := L5.2.2.1
      have b7 := L7.2.2.1
      have b8 := L8.2.2.1
      have hSQ := (hI.2.2.1).sq
      refine g_iload_n hκ 0 dX11_passOne_12 rfl rfl ?_
      refine g_aload_n hκ 1 dX11_passOne_13 rfl rfl ?_
      refine gt_Room_flights hκ (hdV hz) hx qw_111 (Or.inl rfl) dX11_passOne_14 ?_
      refine g_rf f5 ?_
      refine rV_i hκ (hdV hz) [] sd_Jx4a65c_size_8abf5 qw_227 (fun D cO H s hK hP => rc_List hK hP L5.1) (k_sizeL S (la 5) 0 (sz 5) (el 5) L5) ⟨rfl, rfl, Nat.le_of_ble_eq_true rfl, Nat.le_of_ble_eq_true rfl⟩ rfl rfl (Nat.le_of_ble_eq_true rfl) dX11_passOne_17 (fun r2 hr2 => ?_)
      refine g_eqi hr2 ?_
      refine g_icmp_ge hκ 43 dX11_passOne_20 (by decide) (fun _ => ?_) (fun z => absurd (lp_ge rfl (by omega) (by omega)) z)
      refine g_aload_n hκ 1 dX11_passOne_43 rfl rfl ?_
      refine vV_v hκ hz [] sd_X11_makePlots qw_600 (fun D cO H s hK hP => rc_Room hK hP hx) (k_makePlots e9 S x lo ta la (M + 1) cnts told el sz cp pw dn w B hI hz0 hz5 hB hB2 hw) ⟨rfl, rfl, Nat.le_of_ble_eq_true rfl, Nat.le_of_ble_eq_true rfl⟩ rfl rfl (Nat.le_of_ble_eq_true rfl) dX11_passOne_44 (by omega) (by omega) (fun S4 hS4 => ?_)
      obtain ⟨elA, szA, cpA, pwA, dnA, hIA, hgA, h7A, h8A, hdA, hdA2⟩ := hS4
      have hM := hIA.1.rm
      have hMc := hM
      obtain ⟨hx, ⟨f0, L0⟩, ⟨f1, L1⟩, ⟨f2, L2⟩, ⟨f3, L3⟩, ⟨f4, L4⟩, ⟨f5, L5⟩, ⟨f6, L6⟩, ⟨f7, L7⟩, ⟨f8, L8⟩, ⟨flo, hlo⟩, ⟨fta, hta⟩⟩ := hMc
      have b0 := L0.2.2.1
      have b2 := L2.2.2.1
      have b3 := L3.2.2.1
      have b4 := L4.2.2.1
      have b5 := L5.2.2.1
      have b7 := L7.2.2.1
      have b8 := L8.2.2.1
      have hSQ := (hIA.2.2.1).sq
      refine g_aload_n hκ 1 dX11_passOne_47 rfl rfl ?_
      refine vV_v hκ hz [] sd_X11_bringPlots qw_663 (fun D cO H s hK hP => rc_Room hK hP hx) (k_bringPlots e9 S4 x lo ta la (M + 1) cnts told elA szA cpA pwA dnA hIA (by omega)) ⟨rfl, rfl, Nat.le_of_ble_eq_true rfl, Nat.le_of_ble_eq_true rfl⟩ rfl rfl (Nat.le_of_ble_eq_true rfl) dX11_passOne_48 (by omega) (by omega) (fun S6 hS6 => ?_)
      obtain ⟨elB, szB, cpB, pwB, hIB, hgB, h8B, h7B⟩ := hS6
      have hgAB := hgA.trans hgB
      have zz2 := hgAB.z (j := 2) (by decide) (by decide)
      have zz3 := hgAB.z (j := 3) (by decide) (by decide)
      have zz4 := hgAB.z (j := 4) (by decide) (by decide)
      have zz5 := hgAB.z (j := 5) (by decide) (by decide)
      have hM := hIB.1.rm
      have hMc := hM
      obtain ⟨hx, ⟨f0, L0⟩, ⟨f1, L1⟩, ⟨f2, L2⟩, ⟨f3, L3⟩, ⟨f4, L4⟩, ⟨f5, L5⟩, ⟨f6, L6⟩, ⟨f7, L7⟩, ⟨f8, L8⟩, ⟨flo, hlo⟩, ⟨fta, hta⟩⟩ := hMc
      have b0 := L0.2.2.1
      have b2 := L2.2.2.1
      have b3 := L3.2.2.1
      have b4 := L4.2.2.1
      have b5 := L5.2.2.1
      have b7 := L7.2.2.1
      have b8 := L8.2.2.1
      have hSQ := (hIB.2.2.1).sq
      refine g_iconst hκ (v := 0) dX11_passOne_51 (by decide) ?_
      refine g_istore_n hκ [(1, .int 0), (0, .ref x)] dX11_passOne_52 rfl (by decide) rfl ?_
      have loop53 : ∀ (d53 i53 : Nat) (x53 : Int32) (S : wPS) , i53 + d53 = szB 2 → x53 = nI i53 → (IV e9 x lo ta la (M + 1) cnts told S elB szB cpB pwB pwB dnA) → Gj κ (PV κ S (0) (0)) 53 [(1, .int x53), (0, .ref x)] [] := by
        intro d53
        induction d53 with
        | zero =>
          intro i53 x53 S  hi53 hx53 hI
          subst hx53
          have hM := hI.1.rm
          have hMc := hM
          obtain ⟨hx, ⟨f0, L0⟩, ⟨f1, L1⟩, ⟨f2, L2⟩, ⟨f3, L3⟩, ⟨f4, L4⟩, ⟨f5, L5⟩, ⟨f6, L6⟩, ⟨f7, L7⟩, ⟨f8, L8⟩, ⟨flo, hlo⟩, ⟨fta, hta⟩⟩ := hMc
          have b0 := L0.2.2.1
          have b2 := L2.2.2.1
          have b3 := L3.2.2.1
          have b4 := L4.2.2.1
          have b5 := L5.2.2.1
          have b7 := L7.2.2.1
          have b8 := L8.2.2.1
          have hSQ := (hI.2.2.1).sq
          refine g_iload_n hκ 0 dX11_passOne_53 rfl rfl ?_
          refine g_aload_n hκ 1 dX11_passOne_54 rfl rfl ?_
          refine gt_Room_squadrons hκ (hdV hz) hx qw_108 (Or.inl rfl) dX11_passOne_55 ?_
          refine g_rf f2 ?_
          refine rV_i hκ (hdV hz) [] sd_Jx4a65c_size_8abf5 qw_227 (fun D cO H s hK hP => rc_List hK hP L2.1) (k_sizeL S (la 2) 6 (szB 2) (elB 2) L2) ⟨rfl, rfl, Nat.le_of_ble_eq_true rfl, Nat.le_of_ble_eq_true rfl⟩ rfl rfl (Nat.le_of_ble_eq_true rfl) dX11_passOne_58 (fun r7 hr7 => ?_)
          refine g_eqi hr7 ?_
          refine g_icmp_ge hκ 85 dX11_passOne_61 (by decide) (fun _ => ?_) (fun z => absurd (lp_ge rfl (by omega) (by omega)) z)
          refine g_iconst hκ (v := 0) dX11_passOne_85 (by decide) ?_
          refine g_istore_n hκ [(1, .int 0), (0, .ref x)] dX11_passOne_86 rfl (by decide) rfl ?_
          have loop87 : ∀ (d87 i87 : Nat) (x87 : Int32) (S : wPS) (dnB : Nat), i87 + d87 = szB 2 → x87 = nI i87 → (IV e9 x lo ta la (M + 1) cnts told S elB szB cpB pwB pwB dnB ∧ dn ≤ dnB ∧ dnB ≤ dnA + 2 * i87) → Gj κ (PV κ S (0) (0)) 87 [(1, .int x87), (0, .ref x)] [] := by
            intro d87
            induction d87 with
            | zero =>
              intro i87 x87 S dnB hi87 hx87 hI
              subst hx87
              obtain ⟨hI, hd1, hd2⟩ := hI
              have hM := hI.1.rm
              have hMc := hM
              obtain ⟨hx, ⟨f0, L0⟩, ⟨f1, L1⟩, ⟨f2, L2⟩, ⟨f3, L3⟩, ⟨f4, L4⟩, ⟨f5, L5⟩, ⟨f6, L6⟩, ⟨f7, L7⟩, ⟨f8, L8⟩, ⟨flo, hlo⟩, ⟨fta, hta⟩⟩ := hMc
              have b0 := L0.2.2.1
              have b2 := L2.2.2.1
              have b3 := L3.2.2.1
              have b4 := L4.2.2.1
              have b5 := L5.2.2.1
              have b7 := L7.2.2.1
              have b8 := L8.2.2.1
              have hSQ := (hI.2.2.1).sq
              refine g_iload_n hκ 0 dX11_passOne_87 rfl rfl ?_
              refine g_aload_n hκ 1 dX11_passOne_88 rfl rfl ?_
              refine gt_Room_squadrons hκ (hdV hz) hx qw_108 (Or.inl rfl) dX11_passOne_89 ?_
              refine g_rf f2 ?_
              refine rV_i hκ (hdV hz) [] sd_Jx4a65c_size_8abf5 qw_227 (fun D cO H s hK hP => rc_List hK hP L2.1) (k_sizeL S (la 2) 6 (szB 2) (elB 2) L2) ⟨rfl, rfl, Nat.le_of_ble_eq_true rfl, Nat.le_of_ble_eq_true rfl⟩ rfl rfl (Nat.le_of_ble_eq_true rfl) dX11_passOne_92 (fun r8 hr8 => ?_)
              refine g_eqi hr8 ?_
              refine g_icmp_ge hκ 119 dX11_passOne_95 (by decide) (fun _ => ?_) (fun z => absurd (lp_ge rfl (by omega) (by omega)) z)
              refine g_iconst hκ (v := 0) dX11_passOne_119 (by decide) ?_
              refine g_istore_n hκ [(1, .int 0), (0, .ref x)] dX11_passOne_120 rfl (by decide) rfl ?_
              have loop121 : ∀ (d121 i121 : Nat) (x121 : Int32) (S : wPS) (dnB : Nat), i121 + d121 = szB 3 → x121 = nI i121 → (IV e9 x lo ta la (M + 1) cnts told S elB szB cpB pwB pwB dnB ∧ dn ≤ dnB ∧ dnB ≤ dnA + 2 * szB 2 + 12 * i121) → Gj κ (PV κ S (0) (0)) 121 [(1, .int x121), (0, .ref x)] [] := by
                intro d121
                induction d121 with
                | zero =>
                  intro i121 x121 S dnB hi121 hx121 hI
                  subst hx121
                  obtain ⟨hI, hd1, hd2⟩ := hI
                  have hM := hI.1.rm
                  have hMc := hM
                  obtain ⟨hx, ⟨f0, L0⟩, ⟨f1, L1⟩, ⟨f2, L2⟩, ⟨f3, L3⟩, ⟨f4, L4⟩, ⟨f5, L5⟩, ⟨f6, L6⟩, ⟨f7, L7⟩, ⟨f8, L8⟩, ⟨flo, hlo⟩, ⟨fta, hta⟩⟩ := hMc
                  have b0 := L0.2.2.1
                  have b2 := L2.2.2.1
                  have b3 := L3.2.2.1
                  have b4 := L4.2.2.1
                  have b5 := L5.2.2.1
                  have b7 := L7.2.2.1
                  have b8 := L8.2.2.1
                  have hSQ := (hI.2.2.1).sq
                  refine g_iload_n hκ 0 dX11_passOne_121 rfl rfl ?_
                  refine g_aload_n hκ 1 dX11_passOne_122 rfl rfl ?_
                  refine gt_Room_guns hκ (hdV hz) hx qw_109 (Or.inl rfl) dX11_passOne_123 ?_
                  refine g_rf f3 ?_
                  refine rV_i hκ (hdV hz) [] sd_Jx4a65c_size_8abf5 qw_227 (fun D cO H s hK hP => rc_List hK hP L3.1) (k_sizeL S (la 3) 1 (szB 3) (elB 3) L3) ⟨rfl, rfl, Nat.le_of_ble_eq_true rfl, Nat.le_of_ble_eq_true rfl⟩ rfl rfl (Nat.le_of_ble_eq_true rfl) dX11_passOne_126 (fun r9 hr9 => ?_)
                  refine g_eqi hr9 ?_
                  refine g_icmp_ge hκ 153 dX11_passOne_129 (by decide) (fun _ => ?_) (fun z => absurd (lp_ge rfl (by omega) (by omega)) z)
                  refine g_aload_n hκ 1 dX11_passOne_153 rfl rfl ?_
                  refine vV_v hκ hz [] sd_X11_loseTracks qw_823 (fun D cO H s hK hP => rc_Room hK hP hx) (k_loseTracks e9 S x lo ta la (M + 1) cnts told elB szB cpB pwB pwB dnB hI hcn) ⟨rfl, rfl, Nat.le_of_ble_eq_true rfl, Nat.le_of_ble_eq_true rfl⟩ rfl rfl (Nat.le_of_ble_eq_true rfl) dX11_passOne_154 (by omega) (by omega) (fun S11 hS11 => ?_)
                  obtain ⟨hI7, hA7⟩ := hS11
                  have hM := hI7.1.rm
                  have hMc := hM
                  obtain ⟨hx, ⟨f0, L0⟩, ⟨f1, L1⟩, ⟨f2, L2⟩, ⟨f3, L3⟩, ⟨f4, L4⟩, ⟨f5, L5⟩, ⟨f6, L6⟩, ⟨f7, L7⟩, ⟨f8, L8⟩, ⟨flo, hlo⟩, ⟨fta, hta⟩⟩ := hMc
                  have b0 := L0.2.2.1
                  have b2 := L2.2.2.1
                  have b3 := L3.2.2.1
                  have b4 := L4.2.2.1
                  have b5 := L5.2.2.1
                  have b7 := L7.2.2.1
                  have b8 := L8.2.2.1
                  have hSQ := (hI7.2.2.1).sq
                  refine g_iconst hκ (v := 0) dX11_passOne_157 (by decide) ?_
                  refine g_istore_n hκ [(1, .int 0), (0, .ref x)] dX11_passOne_158 rfl (by decide) rfl ?_
                  have loop159 : ∀ (d159 i159 : Nat) (x159 : Int32) (S : wPS) , i159 + d159 = szB 4 → x159 = nI i159 → (IV e9 x lo ta la (M + 1) cnts told S elB szB cpB pwB pwB dnB ∧ AGA S x elB szB) → Gj κ (PV κ S (0) (0)) 159 [(1, .int x159), (0, .ref x)] [] := by
                    intro d159
                    induction d159 with
                    | zero =>
                      intro i159 x159 S  hi159 hx159 hI
                      subst hx159
                      obtain ⟨hI, hA⟩ := hI
                      have hM := hI.1.rm
                      have hMc := hM
                      obtain ⟨hx, ⟨f0, L0⟩, ⟨f1, L1⟩, ⟨f2, L2⟩, ⟨f3, L3⟩, ⟨f4, L4⟩, ⟨f5, L5⟩, ⟨f6, L6⟩, ⟨f7, L7⟩, ⟨f8, L8⟩, ⟨flo, hlo⟩, ⟨fta, hta⟩⟩ := hMc
                      have b0 := L0.2.2.1
                      have b2 := L2.2.2.1
                      have b3 := L3.2.2.1
                      have b4 := L4.2.2.1
                      have b5 := L5.2.2.1
                      have b7 := L7.2.2.1
                      have b8 := L8.2.2.1
                      have hSQ := (hI.2.2.1).sq
                      refine g_iload_n hκ 0 dX11_passOne_159 rfl rfl ?_
                      refine g_aload_n hκ 1 dX11_passOne_160 rfl rfl ?_
                      refine gt_Room_towns hκ (hdV hz) hx qw_110 (Or.inl rfl) dX11_passOne_161 ?_
                      refine g_rf f4 ?_
                      refine rV_i hκ (hdV hz) [] sd_Jx4a65c_size_8abf5 qw_227 (fun D cO H s hK hP => rc_List hK hP L4.1) (k_sizeL S (la 4) 8 (szB 4) (elB 4) L4) ⟨rfl, rfl, Nat.le_of_ble_eq_true rfl, Nat.le_of_ble_eq_true rfl⟩ rfl rfl (Nat.le_of_ble_eq_true rfl) dX11_passOne_164 (fun r12 hr12 => ?_)
                      refine g_eqi hr12 ?_
                      refine g_icmp_ge hκ 191 dX11_passOne_167 (by decide) (fun _ => ?_) (fun z => absurd (lp_ge rfl (by omega) (by omega)) z)
                      exact hend _ _ _ _ _ dX11_passOne_191 (⟨elB, szB, cpB, pwB, dnB, hI, hgAB, by omega, by omega, by omega, by omega, hA⟩)
                    | succ d159 ih159 =>
                      intro i159 x159 S  hi159 hx159 hI
                      subst hx159
                      obtain ⟨hI, hA⟩ := hI
                      have hM := hI.1.rm
                      have hMc := hM
                      obtain ⟨hx, ⟨f0, L0⟩, ⟨f1, L1⟩, ⟨f2, L2⟩, ⟨f3, L3⟩, ⟨f4, L4⟩, ⟨f5, L5⟩, ⟨f6, L6⟩, ⟨f7, L7⟩, ⟨f8, L8⟩, ⟨flo, hlo⟩, ⟨fta, hta⟩⟩ := hMc
                      have b0 := L0.2.2.1
                      have b2 := L2.2.2.1
                      have b3 := L3.2.2.1
                      have b4 := L4.2.2.1
                      have b5 := L5.2.2.1
                      have b7 := L7.2.2.1
                      have b8 := L8.2.2.1
                      have hSQ := (hI.2.2.1).sq
                      refine g_iload_n hκ 0 dX11_passOne_159 rfl rfl ?_
                      refine g_aload_n hκ 1 dX11_passOne_160 rfl rfl ?_
                      refine gt_Room_towns hκ (hdV hz) hx qw_110 (Or.inl rfl) dX11_passOne_161 ?_
                      refine g_rf f4 ?_
                      refine rV_i hκ (hdV hz) [] sd_Jx4a65c_size_8abf5 qw_227 (fun D cO H s hK hP => rc_List hK hP L4.1) (k_sizeL S (la 4) 8 (szB 4) (elB 4) L4) ⟨rfl, rfl, Nat.le_of_ble_eq_true rfl, Nat.le_of_ble_eq_true rfl⟩ rfl rfl (Nat.le_of_ble_eq_true rfl) dX11_passOne_164 (fun r13 hr13 => ?_)
                      refine g_eqi hr13 ?_
                      refine g_icmp_ge hκ 191 dX11_passOne_167 (by decide) (fun z => absurd z (lp_nge rfl (by omega) (by omega))) (fun _ => ?_)
                      refine g_aload_n hκ 1 dX11_passOne_170 rfl rfl ?_
                      refine g_aload_n hκ 1 dX11_passOne_171 rfl rfl ?_
                      refine gt_Room_towns hκ (hdV hz) hx qw_110 (Or.inl rfl) dX11_passOne_172 ?_
                      refine g_rf f4 ?_
                      refine g_iload_n hκ 0 dX11_passOne_175 rfl rfl ?_
                      refine rV_q hκ (hdV hz) [.int (nI i159)] sd_Jx4a65c_get_915e3 qw_440 (fun D cO H s hK hP => rc_List hK hP L4.1) (k_get S (la 4) 8 (szB 4) i159 (elB 4) (nI i159) L4 rfl (by omega)) ⟨rfl, rfl, Nat.le_of_ble_eq_true rfl, Nat.le_of_ble_eq_true rfl⟩ rfl rfl (Nat.le_of_ble_eq_true rfl) dX11_passOne_176 (fun r14 hr14 => ?_)
                      refine g_rf hr14 ?_
                      refine gc_Town hκ (hdV hz) (L4.2.2.2.2 i159 (by omega)) qw_531 dX11_passOne_179 ?_
                      refine vV_v hκ hz [.ref (elB 4 i159)] sd_X11_countTown qw_827 (fun D cO H s hK hP => rc_Room hK hP hx) (k_countTown e9 S x lo ta la (M + 1) cnts told elB szB cpB pwB pwB dnB i159 hI hcn (by omega) hA) ⟨rfl, rfl, Nat.le_of_ble_eq_true rfl, Nat.le_of_ble_eq_true rfl⟩ rfl rfl (Nat.le_of_ble_eq_true rfl) dX11_passOne_182 (by omega) (by omega) (fun S16 hS16 => ?_)
                      obtain ⟨hI2, hA2⟩ := hS16
                      obtain ⟨v17, hv17⟩ : ∃ z : Int32, nI i159 + 1 = z := ⟨_, rfl⟩
                      refine g_iinc hκ (k := 0) (v := v17) [(1, .int v17), (0, .ref x)] dX11_passOne_185 rfl hv17 (by decide) rfl ?_
                      refine g_goto hκ 159 dX11_passOne_188 (by decide) ?_
                      refine g_lv [(1, .int v17), (0, .ref x)] [0, 1] rfl ?_
                      refine g_wid (k2 := 0) (n2 := 0) (by omega) (by omega) ?_
                      exact ih159 (i159 + 1) v17 S16  (by omega) (lp_s rfl hv17) (⟨hI2, hA2⟩)
                  refine g_wid (k2 := 0) (n2 := 0) (by omega) (by omega) ?_
                  exact loop159 (szB 4) 0 0 S11  (by omega) (by first | rfl | decide) (⟨hI7, hA7⟩)
                | succ d121 ih121 =>
                  intro i121 x121 S dnB hi121 hx121 hI
                  subst hx121
                  obtain ⟨hI, hd1, hd2⟩ := hI
                  have hM := hI.1.rm
                  have hMc := hM
                  obtain ⟨hx, ⟨f0, L0⟩, ⟨f1, L1⟩, ⟨f2, L2⟩, ⟨f3, L3⟩, ⟨f4, L4⟩, ⟨f5, L5⟩, ⟨f6, L6⟩, ⟨f7, L7⟩, ⟨f8, L8⟩, ⟨flo, hlo⟩, ⟨fta, hta⟩⟩ := hMc
                  have b0 := L0.2.2.1
                  have b2 := L2.2.2.1
                  have b3 := L3.2.2.1
                  have b4 := L4.2.2.1
                  have b5 := L5.2.2.1
                  have b7 := L7.2.2.1
                  have b8 := L8.2.2.1
                  have hSQ := (hI.2.2.1).sq
                  refine g_iload_n hκ 0 dX11_passOne_121 rfl rfl ?_
                  refine g_aload_n hκ 1 dX11_passOne_122 rfl rfl ?_
                  refine gt_Room_guns hκ (hdV hz) hx qw_109 (Or.inl rfl) dX11_passOne_123 ?_
                  refine g_rf f3 ?_
                  refine rV_i hκ (hdV hz) [] sd_Jx4a65c_size_8abf5 qw_227 (fun D cO H s hK hP => rc_List hK hP L3.1) (k_sizeL S (la 3) 1 (szB 3) (elB 3) L3) ⟨rfl, rfl, Nat.le_of_ble_eq_true rfl, Nat.le_of_ble_eq_true rfl⟩ rfl rfl (Nat.le_of_ble_eq_true rfl) dX11_passOne_126 (fun r18 hr18 => ?_)
                  refine g_eqi hr18 ?_
                  refine g_icmp_ge hκ 153 dX11_passOne_129 (by decide) (fun z => absurd z (lp_nge rfl (by omega) (by omega))) (fun _ => ?_)
                  refine g_aload_n hκ 1 dX11_passOne_132 rfl rfl ?_
                  refine g_aload_n hκ 1 dX11_passOne_133 rfl rfl ?_
                  refine gt_Room_guns hκ (hdV hz) hx qw_109 (Or.inl rfl) dX11_passOne_134 ?_
                  refine g_rf f3 ?_
                  refine g_iload_n hκ 0 dX11_passOne_137 rfl rfl ?_
                  refine rV_q hκ (hdV hz) [.int (nI i121)] sd_Jx4a65c_get_915e3 qw_440 (fun D cO H s hK hP => rc_List hK hP L3.1) (k_get S (la 3) 1 (szB 3) i121 (elB 3) (nI i121) L3 rfl (by omega)) ⟨rfl, rfl, Nat.le_of_ble_eq_true rfl, Nat.le_of_ble_eq_true rfl⟩ rfl rfl (Nat.le_of_ble_eq_true rfl) dX11_passOne_138 (fun r19 hr19 => ?_)
                  refine g_rf hr19 ?_
                  refine gc_Gun hκ (hdV hz) (L3.2.2.2.2 i121 (by omega)) qw_509 dX11_passOne_141 ?_
                  refine vV_v hκ hz [.ref (elB 3 i121)] sd_X11_fireGun qw_807 (fun D cO H s hK hP => rc_Room hK hP hx) (k_fireGun e9 S x lo ta la (M + 1) cnts told elB szB cpB pwB pwB dnB i121 hI hcn (by omega)) ⟨rfl, rfl, Nat.le_of_ble_eq_true rfl, Nat.le_of_ble_eq_true rfl⟩ rfl rfl (Nat.le_of_ble_eq_true rfl) dX11_passOne_144 (by omega) (by omega) (fun S21 hS21 => ?_)
                  obtain ⟨dnC, hd3, hd4, hI2⟩ := hS21
                  obtain ⟨v22, hv22⟩ : ∃ z : Int32, nI i121 + 1 = z := ⟨_, rfl⟩
                  refine g_iinc hκ (k := 0) (v := v22) [(1, .int v22), (0, .ref x)] dX11_passOne_147 rfl hv22 (by decide) rfl ?_
                  refine g_goto hκ 121 dX11_passOne_150 (by decide) ?_
                  refine g_lv [(1, .int v22), (0, .ref x)] [0, 1] rfl ?_
                  refine g_wid (k2 := 0) (n2 := 0) (by omega) (by omega) ?_
                  exact ih121 (i121 + 1) v22 S21 dnC (by omega) (lp_s rfl hv22) (⟨hI2, by omega, by omega⟩)
              refine g_wid (k2 := 0) (n2 := 0) (by omega) (by omega) ?_
              exact loop121 (szB 3) 0 0 S dnB (by omega) (by first | rfl | decide) (⟨hI, by omega, by omega⟩)
            | succ d87 ih87 =>
              intro i87 x87 S dnB hi87 hx87 hI
              subst hx87
              obtain ⟨hI, hd1, hd2⟩ := hI
              have hM := hI.1.rm
              have hMc := hM
              obtain ⟨hx, ⟨f0, L0⟩, ⟨f1, L1⟩, ⟨f2, L2⟩, ⟨f3, L3⟩, ⟨f4, L4⟩, ⟨f5, L5⟩, ⟨f6, L6⟩, ⟨f7, L7⟩, ⟨f8, L8⟩, ⟨flo, hlo⟩, ⟨fta, hta⟩⟩ := hMc
              have b0 := L0.2.2.1
              have b2 := L2.2.2.1
              have b3 := L3.2.2.1
              have b4 := L4.2.2.1
              have b5 := L5.2.2.1
              have b7 := L7.2.2.1
              have b8 := L8.2.2.1
              have hSQ := (hI.2.2.1).sq
              refine g_iload_n hκ 0 dX11_passOne_87 rfl rfl ?_
              refine g_aload_n hκ 1 dX11_passOne_88 rfl rfl ?_
              refine gt_Room_squadrons hκ (hdV hz) hx qw_108 (Or.inl rfl) dX11_passOne_89 ?_
              refine g_rf f2 ?_
              refine rV_i hκ (hdV hz) [] sd_Jx4a65c_size_8abf5 qw_227 (fun D cO H s hK hP => rc_List hK hP L2.1) (k_sizeL S (la 2) 6 (szB 2) (elB 2) L2) ⟨rfl, rfl, Nat.le_of_ble_eq_true rfl, Nat.le_of_ble_eq_true rfl⟩ rfl rfl (Nat.le_of_ble_eq_true rfl) dX11_passOne_92 (fun r23 hr23 => ?_)
              refine g_eqi hr23 ?_
              refine g_icmp_ge hκ 119 dX11_passOne_95 (by decide) (fun z => absurd z (lp_nge rfl (by omega) (by omega))) (fun _ => ?_)
              refine g_aload_n hκ 1 dX11_passOne_98 rfl rfl ?_
              refine g_aload_n hκ 1 dX11_passOne_99 rfl rfl ?_
              refine gt_Room_squadrons hκ (hdV hz) hx qw_108 (Or.inl rfl) dX11_passOne_100 ?_
              refine g_rf f2 ?_
              refine g_iload_n hκ 0 dX11_passOne_103 rfl rfl ?_
              refine rV_q hκ (hdV hz) [.int (nI i87)] sd_Jx4a65c_get_915e3 qw_440 (fun D cO H s hK hP => rc_List hK hP L2.1) (k_get S (la 2) 6 (szB 2) i87 (elB 2) (nI i87) L2 rfl (by omega)) ⟨rfl, rfl, Nat.le_of_ble_eq_true rfl, Nat.le_of_ble_eq_true rfl⟩ rfl rfl (Nat.le_of_ble_eq_true rfl) dX11_passOne_104 (fun r24 hr24 => ?_)
              refine g_rf hr24 ?_
              refine gc_Squadron hκ (hdV hz) (L2.2.2.2.2 i87 (by omega)) qw_438 dX11_passOne_107 ?_
              refine vV_v hκ hz [.ref (elB 2 i87)] sd_X11_fightWith qw_787 (fun D cO H s hK hP => rc_Room hK hP hx) (k_fightWith e9 S x lo ta la (M + 1) cnts told elB szB cpB pwB pwB dnB i87 hI hcn (by omega)) ⟨rfl, rfl, Nat.le_of_ble_eq_true rfl, Nat.le_of_ble_eq_true rfl⟩ rfl rfl (Nat.le_of_ble_eq_true rfl) dX11_passOne_110 (by omega) (by omega) (fun S26 hS26 => ?_)
              obtain ⟨dnC, hd3, hd4, hI2⟩ := hS26
              obtain ⟨v27, hv27⟩ : ∃ z : Int32, nI i87 + 1 = z := ⟨_, rfl⟩
              refine g_iinc hκ (k := 0) (v := v27) [(1, .int v27), (0, .ref x)] dX11_passOne_113 rfl hv27 (by decide) rfl ?_
              refine g_goto hκ 87 dX11_passOne_116 (by decide) ?_
              refine g_lv [(1, .int v27), (0, .ref x)] [0, 1] rfl ?_
              refine g_wid (k2 := 0) (n2 := 0) (by omega) (by omega) ?_
              exact ih87 (i87 + 1) v27 S26 dnC (by omega) (lp_s rfl hv27) (⟨hI2, by omega, by omega⟩)
          refine g_wid (k2 := 0) (n2 := 0) (by omega) (by omega) ?_
          exact loop87 (szB 2) 0 0 S dnA (by omega) (by first | rfl | decide) (⟨hI, by omega, by omega⟩)
        | succ d53 ih53 =>
          intro i53 x53 S  hi53 hx53 hI
          subst hx53
          have hM := hI.1.rm
          have hMc := hM
          obtain ⟨hx, ⟨f0, L0⟩, ⟨f1, L1⟩, ⟨f2, L2⟩, ⟨f3, L3⟩, ⟨f4, L4⟩, ⟨f5, L5⟩, ⟨f6, L6⟩, ⟨f7, L7⟩, ⟨f8, L8⟩, ⟨flo, hlo⟩, ⟨fta, hta⟩⟩ := hMc
          have b0 := L0.2.2.1
          have b2 := L2.2.2.1
          have b3 := L3.2.2.1
          have b4 := L4.2.2.1
          have b5 := L5.2.2.1
          have b7 := L7.2.2.1
          have b8 := L8.2.2.1
          have hSQ := (hI.2.2.1).sq
          refine g_iload_n hκ 0 dX11_passOne_53 rfl rfl ?_
          refine g_aload_n hκ 1 dX11_passOne_54 rfl rfl ?_
          refine gt_Room_squadrons hκ (hdV hz) hx qw_108 (Or.inl rfl) dX11_passOne_55 ?_
          refine g_rf f2 ?_
          refine rV_i hκ (hdV hz) [] sd_Jx4a65c_size_8abf5 qw_227 (fun D cO H s hK hP => rc_List hK hP L2.1) (k_sizeL S (la 2) 6 (szB 2) (elB 2) L2) ⟨rfl, rfl, Nat.le_of_ble_eq_true rfl, Nat.le_of_ble_eq_true rfl⟩ rfl rfl (Nat.le_of_ble_eq_true rfl) dX11_passOne_58 (fun r28 hr28 => ?_)
          refine g_eqi hr28 ?_
          refine g_icmp_ge hκ 85 dX11_passOne_61 (by decide) (fun z => absurd z (lp_nge rfl (by omega) (by omega))) (fun _ => ?_)
          refine g_aload_n hκ 1 dX11_passOne_64 rfl rfl ?_
          refine g_aload_n hκ 1 dX11_passOne_65 rfl rfl ?_
          refine gt_Room_squadrons hκ (hdV hz) hx qw_108 (Or.inl rfl) dX11_passOne_66 ?_
          refine g_rf f2 ?_
          refine g_iload_n hκ 0 dX11_passOne_69 rfl rfl ?_
          refine rV_q hκ (hdV hz) [.int (nI i53)] sd_Jx4a65c_get_915e3 qw_440 (fun D cO H s hK hP => rc_List hK hP L2.1) (k_get S (la 2) 6 (szB 2) i53 (elB 2) (nI i53) L2 rfl (by omega)) ⟨rfl, rfl, Nat.le_of_ble_eq_true rfl, Nat.le_of_ble_eq_true rfl⟩ rfl rfl (Nat.le_of_ble_eq_true rfl) dX11_passOne_70 (fun r29 hr29 => ?_)
          refine g_rf hr29 ?_
          refine gc_Squadron hκ (hdV hz) (L2.2.2.2.2 i53 (by omega)) qw_438 dX11_passOne_73 ?_
          refine vV_v hκ hz [.ref (elB 2 i53)] sd_X11_takeTurn qw_742 (fun D cO H s hK hP => rc_Room hK hP hx) (k_takeTurn e9 S x lo ta la elB szB cpB (elB 2 i53) hI.1 (L2.2.2.2.2 i53 (by omega)) (hI.2.2.1 i53 (by omega))) ⟨rfl, rfl, Nat.le_of_ble_eq_true rfl, Nat.le_of_ble_eq_true rfl⟩ rfl rfl (Nat.le_of_ble_eq_true rfl) dX11_passOne_76 (by omega) (by omega) (fun S31 hS31 => ?_)
          have hI2 := IV_turn hI (by omega : i53 < szB 2) hS31
          obtain ⟨v32, hv32⟩ : ∃ z : Int32, nI i53 + 1 = z := ⟨_, rfl⟩
          refine g_iinc hκ (k := 0) (v := v32) [(1, .int v32), (0, .ref x)] dX11_passOne_79 rfl hv32 (by decide) rfl ?_
          refine g_goto hκ 53 dX11_passOne_82 (by decide) ?_
          refine g_lv [(1, .int v32), (0, .ref x)] [0, 1] rfl ?_
          refine g_wid (k2 := 0) (n2 := 0) (by omega) (by omega) ?_
          exact ih53 (i53 + 1) v32 S31  (by omega) (lp_s rfl hv32) hI2
      refine g_wid (k2 := 0) (n2 := 0) (by omega) (by omega) ?_
      exact loop53 (szB 2) 0 0 S6  (by omega) (by first | rfl | decide) hIB
    | succ d12 ih12 =>
      intro i12 x12 S  hi12 hx12 hI
      subst hx12
      have hM := hI.1.rm
      have hMc := hM
      obtain ⟨hx, ⟨f0, L0⟩, ⟨f1, L1⟩, ⟨f2, L2⟩, ⟨f3, L3⟩, ⟨f4, L4⟩, ⟨f5, L5⟩, ⟨f6, L6⟩, ⟨f7, L7⟩, ⟨f8, L8⟩, ⟨flo, hlo⟩, ⟨fta, hta⟩⟩ := hMc
      have b0 := L0.2.2.1
      have b2 := L2.2.2.1
      have b3 := L3.2.2.1
      have b4 := L4.2.2.1
      have b5 := L5.2.2.1
      have b7 := L7.2.2.1
      have b8 := L8.2.2.1
      have hSQ := (hI.2.2.1).sq
      refine g_iload_n hκ 0 dX11_passOne_12 rfl rfl ?_
      refine g_aload_n hκ 1 dX11_passOne_13 rfl rfl ?_
      refine gt_Room_flights hκ (hdV hz) hx qw_111 (Or.inl rfl) dX11_passOne_14 ?_
      refine g_rf f5 ?_
      refine rV_i hκ (hdV hz) [] sd_Jx4a65c_size_8abf5 qw_227 (fun D cO H s hK hP => rc_List hK hP L5.1) (k_sizeL S (la 5) 0 (sz 5) (el 5) L5) ⟨rfl, rfl, Nat.le_of_ble_eq_true rfl, Nat.le_of_ble_eq_true rfl⟩ rfl rfl (Nat.le_of_ble_eq_true rfl) dX11_passOne_17 (fun r33 hr33 => ?_)
      refine g_eqi hr33 ?_
      refine g_icmp_ge hκ 43 dX11_passOne_20 (by decide) (fun z => absurd z (lp_nge rfl (by omega) (by omega))) (fun _ => ?_)
      refine g_aload_n hκ 1 dX11_passOne_23 rfl rfl ?_
      refine gt_Room_flights hκ (hdV hz) hx qw_111 (Or.inl rfl) dX11_passOne_24 ?_
      refine g_rf f5 ?_
      refine g_iload_n hκ 0 dX11_passOne_27 rfl rfl ?_
      refine rV_q hκ (hdV hz) [.int (nI i12)] sd_Jx4a65c_get_915e3 qw_440 (fun D cO H s hK hP => rc_List hK hP L5.1) (k_get S (la 5) 0 (sz 5) i12 (el 5) (nI i12) L5 rfl (by omega)) ⟨rfl, rfl, Nat.le_of_ble_eq_true rfl, Nat.le_of_ble_eq_true rfl⟩ rfl rfl (Nat.le_of_ble_eq_true rfl) dX11_passOne_28 (fun r34 hr34 => ?_)
      refine g_rf hr34 ?_
      refine gc_Flight hκ (hdV hz) (L5.2.2.2.2 i12 (by omega)) qw_553 dX11_passOne_31 ?_
      refine vV_v hκ hz [] sd_X0_move qw_595 (fun D cO H s hK hP => rc_Flight hK hP (L5.2.2.2.2 i12 (by omega))) (k_move e9 S (el 5 i12) (L5.2.2.2.2 i12 (by omega))) ⟨rfl, rfl, Nat.le_of_ble_eq_true rfl, Nat.le_of_ble_eq_true rfl⟩ rfl rfl (Nat.le_of_ble_eq_true rfl) dX11_passOne_34 (by omega) (by omega) (fun S36 hS36 => ?_)
      obtain rfl := hS36
      have hI2 := IV_move hI (by omega : i12 < sz 5)
      obtain ⟨v37, hv37⟩ : ∃ z : Int32, nI i12 + 1 = z := ⟨_, rfl⟩
      refine g_iinc hκ (k := 0) (v := v37) [(1, .int v37), (0, .ref x)] dX11_passOne_37 rfl hv37 (by decide) rfl ?_
      refine g_goto hκ 12 dX11_passOne_40 (by decide) ?_
      refine g_lv [(1, .int v37), (0, .ref x)] [0, 1] rfl ?_
      refine g_wid (k2 := 80) (n2 := 24 * w + 736) (by omega) (by omega) ?_
      exact ih12 (i12 + 1) v37 (moveF S (el 5 i12))  (by omega) (lp_s rfl hv37) hI2
  refine g_wid (k2 := 80) (n2 := 24 * w + 736) (by omega) (by omega) ?_
  exact loop12 (sz 5) 0 0 S1  (by omega) (by first | rfl | decide) hI1
