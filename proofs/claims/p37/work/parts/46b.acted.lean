set_option maxHeartbeats 4000000 in
set_option maxRecDepth 100000 in
theorem k_below (S : wPS) (v : Int32) (N : Nat) (h0 : 0 < N) (hN : N < 2 ^ 31) : MR yL_below cL_below 2 (some .int) ({ frames := 0, cells := 0, slots := 0, locals := 0 }) S [.int v, .int (nI N)] (vp_Si (fun r => ∃ t : Nat, t < N ∧ r = nI t)) := by
  refine stR_i (post := (fun r => ∃ t : Nat, t < N ∧ r = nI t)) (by decide) (Nat.le_of_ble_eq_true rfl) rfl (fun _ _ => rfl) (fun κ hκ hend => ?_)
  show Gj κ _ 0 [(0, .int v), (1, .int (nI N))] []
  refine g_iload_n hκ 0 dL_below_0 rfl rfl ?_
  refine g_ldc hκ qw_1028 dL_below_1 ?_
  refine g_iand hκ dL_below_3 ?_
  refine g_iload_n hκ 1 dL_below_4 rfl rfl ?_
  refine g_irem hκ dL_below_5 (nI_ne0 h0 hN) ?_
  exact hend _ _ _ dL_below_6 (below_t v h0 hN)
set_option maxHeartbeats 4000000 in
set_option maxRecDepth 100000 in
theorem k_acted (e9 : Nat × Nat) (S : wPS) (x lo ta : Nat) (la : Nat → Nat) (M cnts : Nat) (told : Int32) (el : Nat → Nat → Nat) (sz cp : Nat → Nat) (pw ow dn : Nat) (act xx yy : Int32) (hI : IV e9 x lo ta la M cnts told S el sz cp pw ow dn) (hz2 : 5 ≤ sz 2) (h16 : sz 7 ≤ 16) : MWi e9 yL_acted cL_acted 8 (some .int) [(23, 110, 113, 96)] ({ frames := 7, cells := 1, slots := 6, locals := 110 }) S [.ref x, .int act, .int xx, .int yy] (fun r S1 => IV e9 x lo ta la M cnts (told + r) S1 el sz cp pw ow dn) 1 6 := by
  refine stW_i (post := (fun r S1 => IV e9 x lo ta la M cnts (told + r) S1 el sz cp pw ow dn)) (by decide) (Nat.le_of_ble_eq_true rfl) ⟨Nat.le_refl _, Nat.le_refl _⟩ rfl (fun _ _ _ => rfl) (fun κ hκ hz hX hTb hend => ?_)
  show Gj κ _ 0 [(0, .ref x), (1, .int act), (2, .int xx), (3, .int yy)] []
  have hM := hI.1.rm
  have hMc := hM
  obtain ⟨hx, ⟨f0, L0⟩, ⟨f1, L1⟩, ⟨f2, L2⟩, ⟨f3, L3⟩, ⟨f4, L4⟩, ⟨f5, L5⟩, ⟨f6, L6⟩, ⟨f7, L7⟩, ⟨f8, L8⟩, ⟨flo, hlo⟩, ⟨fta, hta⟩⟩ := hMc
  have b0 := L0.2.2.1
  have b2 := L2.2.2.1
  have b3 := L3.2.2.1
  have b4 := L4.2.2.1
  have b5 := L5.2.2.1
  have b7 := L7.2.2.1
  have b8 := L8.2.2.1
  have hSQ := (hI.2.2.1).sq
  refine g_iload_n hκ 3 dL_acted_0 rfl rfl ?_
  refine g_iconst hκ (v := 5) dL_acted_1 (by decide) ?_
  refine rS_i hκ (hdV hz) [.int yy, .int 5] sd_L_below qw_1025 (k_below S yy 5 (by decide) (by decide)) ⟨rfl, rfl, Nat.le_of_ble_eq_true rfl, Nat.le_of_ble_eq_true rfl⟩ rfl rfl (Nat.le_of_ble_eq_true rfl) dL_acted_2 (fun r1 hr1 => ?_)
  obtain ⟨t2, ht2, et2⟩ := hr1
  refine g_eqi et2 ?_
  refine g_istore hκ [(4, .int (nI t2)), (0, .ref x), (1, .int act), (2, .int xx), (3, .int yy)] dL_acted_5 (by decide) rfl ?_
  refine g_aload_n hκ 1 dL_acted_7 rfl rfl ?_
  refine g_iconst hκ (v := 4) dL_acted_8 (by decide) ?_
  refine rV_i hκ (hdV hz) [.int 4] sd_X11_room qw_873 (fun D cO H s hK hP => rc_Room hK hP hx) (p_room_4 S x lo ta la el sz hM) ⟨rfl, rfl, Nat.le_of_ble_eq_true rfl, Nat.le_of_ble_eq_true rfl⟩ rfl rfl (Nat.le_of_ble_eq_true rfl) dL_acted_9 (fun r3 hr3 => ?_)
  refine g_eqi (show r3 = nI (sz 7) from hr3) ?_
  refine g_istore hκ [(5, .int (nI (sz 7))), (4, .int (nI t2)), (0, .ref x), (1, .int act), (2, .int xx), (3, .int yy)] dL_acted_12 (by decide) rfl ?_
  refine g_aload_n hκ 2 dL_acted_14 rfl rfl ?_
  refine g_iload hκ 1 dL_acted_15 rfl ?_
  refine g_iconst hκ (v := 1) dL_acted_17 (by decide) ?_
  refine rV_i hκ (hdV hz) [.int (nI t2), .int 1] sd_X11_ofSquadron qw_858 (fun D cO H s hK hP => rc_Room hK hP hx) (p_ofSq_1 S x lo ta la el sz t2 (nI t2) hM rfl (by omega)) ⟨rfl, rfl, Nat.le_of_ble_eq_true rfl, Nat.le_of_ble_eq_true rfl⟩ rfl rfl (Nat.le_of_ble_eq_true rfl) dL_acted_18 (fun r4 hr4 => ?_)
  refine g_eqi (show r4 = sI S q_Squadron_machines (el 2 t2) from hr4) ?_
  refine g_istore hκ [(6, .int (sI S q_Squadron_machines (el 2 t2))), (5, .int (nI (sz 7))), (4, .int (nI t2)), (0, .ref x), (1, .int act), (2, .int xx), (3, .int yy)] dL_acted_21 (by decide) rfl ?_
  refine g_iload_n hκ 4 dL_acted_23 rfl rfl ?_
  refine g_iconst hκ (v := 3) dL_acted_24 (by decide) ?_
  refine g_icmp_ge hκ 49 dL_acted_25 (by decide) (fun c5 => ?_) (fun c5 => ?_)
  · skip
    refine g_iload_n hκ 4 dL_acted_49 rfl rfl ?_
    refine g_iconst hκ (v := 3) dL_acted_50 (by decide) ?_
    refine g_icmp_ne hκ 75 dL_acted_51 (by decide) (fun c6 => ?_) (fun c6 => ?_)
    · skip
      refine g_iload_n hκ 4 dL_acted_75 rfl rfl ?_
      refine g_iconst hκ (v := 4) dL_acted_76 (by decide) ?_
      refine g_icmp_ne hκ 90 dL_acted_77 (by decide) (fun c7 => ?_) (fun c7 => ?_)
      · skip
        refine g_iload_n hκ 4 dL_acted_90 rfl rfl ?_
        refine g_iconst hκ (v := 5) dL_acted_91 (by decide) ?_
        refine g_icmp_ne hκ 110 dL_acted_92 (by decide) (fun c8 => ?_) (fun c8 => ?_)
        · skip
          refine g_goto hκ 126 dL_acted_110 (by decide) ?_
          refine g_aload_n hκ 3 dL_acted_126 rfl rfl ?_
          refine g_iload hκ 2 dL_acted_127 rfl ?_
          refine g_iconst hκ (v := 1) dL_acted_129 (by decide) ?_
          refine rV_i hκ (hdV hz) [.int (nI t2), .int 1] sd_X11_ofSquadron qw_858 (fun D cO H s hK hP => rc_Room hK hP hx) (p_ofSq_1 S x lo ta la el sz t2 (nI t2) hM rfl (by omega)) ⟨rfl, rfl, Nat.le_of_ble_eq_true rfl, Nat.le_of_ble_eq_true rfl⟩ rfl rfl (Nat.le_of_ble_eq_true rfl) dL_acted_130 (fun r9 hr9 => ?_)
          refine g_eqi (show r9 = sI S q_Squadron_machines (el 2 t2) from hr9) ?_
          refine g_iload hκ 0 dL_acted_133 rfl ?_
          refine g_isub hκ dL_acted_135 ?_
          exact hend _ _ _ _ _ _ dL_acted_136 (by rw [Int32.sub_self, Int32.add_zero]; exact hI)
        · skip
          refine g_aload_n hκ 3 dL_acted_95 rfl rfl ?_
          refine g_iload hκ 2 dL_acted_96 rfl ?_
          refine g_iconst hκ (v := 1) dL_acted_98 (by decide) ?_
          refine g_iload_n hκ 5 dL_acted_99 rfl rfl ?_
          refine g_bipush hκ (v := 12) dL_acted_100 (by decide) ?_
          refine rS_i hκ (hdV hz) [.int xx, .int 12] sd_L_below qw_1025 (k_below S xx 12 (by decide) (by decide)) ⟨rfl, rfl, Nat.le_of_ble_eq_true rfl, Nat.le_of_ble_eq_true rfl⟩ rfl rfl (Nat.le_of_ble_eq_true rfl) dL_acted_102 (fun r10 hr10 => ?_)
          obtain ⟨t11, ht11, et11⟩ := hr10
          refine g_eqi et11 ?_
          refine g_iadd hκ dL_acted_105 ?_
          refine g_eqi (y := nI (1 + t11)) (nI_add 1 t11) ?_
          refine vX_i hκ hz hX [.int (nI t2), .int (nI (1 + t11))] sd_X11_reinforce qw_1057 (fun D cO H s hK hP => rc_Room hK hP hx) (k_reinforce e9 S x lo ta la M cnts told el sz cp pw ow dn t2 (1 + t11) hI (by omega) (by omega) (by omega)) ⟨rfl, rfl, Nat.le_of_ble_eq_true rfl, Nat.le_of_ble_eq_true rfl⟩ rfl rfl (Nat.le_of_ble_eq_true rfl) dL_acted_106 (by omega) (by omega) hTb (by decide +kernel) (by decide) qw_1036 (fun q14 => ?_) (fun r12 S13 hS13 => ?_)
          · skip
            refine g_astore hκ [(7, .ref q14), (6, .int (sI S q_Squadron_machines (el 2 t2))), (5, .int (nI (sz 7))), (4, .int (nI t2)), (0, .ref x), (1, .int act), (2, .int xx), (3, .int yy)] dL_acted_113 (by decide) rfl ?_
            refine g_aload_n hκ 4 dL_acted_115 rfl rfl ?_
            refine g_iload hκ 3 dL_acted_116 rfl ?_
            refine g_iconst hκ (v := 1) dL_acted_118 (by decide) ?_
            refine rV_i hκ (hdV hz) [.int (nI t2), .int 1] sd_X11_ofSquadron qw_858 (fun D cO H s hK hP => rc_Room hK hP hx) (p_ofSq_1 S x lo ta la el sz t2 (nI t2) hM rfl (by omega)) ⟨rfl, rfl, Nat.le_of_ble_eq_true rfl, Nat.le_of_ble_eq_true rfl⟩ rfl rfl (Nat.le_of_ble_eq_true rfl) dL_acted_119 (fun r15 hr15 => ?_)
            refine g_eqi (show r15 = sI S q_Squadron_machines (el 2 t2) from hr15) ?_
            refine g_iload hκ 1 dL_acted_122 rfl ?_
            refine g_isub hκ dL_acted_124 ?_
            exact hend _ _ _ _ _ _ dL_acted_125 (by rw [Int32.sub_self, Int32.add_zero]; exact hI)
          · skip
            obtain ⟨dd, hI2, hdd⟩ := hS13
            have hM := hI2.1.rm
            have hMc := hM
            obtain ⟨hx, ⟨f0, L0⟩, ⟨f1, L1⟩, ⟨f2, L2⟩, ⟨f3, L3⟩, ⟨f4, L4⟩, ⟨f5, L5⟩, ⟨f6, L6⟩, ⟨f7, L7⟩, ⟨f8, L8⟩, ⟨flo, hlo⟩, ⟨fta, hta⟩⟩ := hMc
            have b0 := L0.2.2.1
            have b2 := L2.2.2.1
            have b3 := L3.2.2.1
            have b4 := L4.2.2.1
            have b5 := L5.2.2.1
            have b7 := L7.2.2.1
            have b8 := L8.2.2.1
            have hSQ := (hI2.2.2.1).sq
            refine g_pop hκ dL_acted_109 rfl ?_
            refine g_goto hκ 126 dL_acted_110 (by decide) ?_
            refine g_aload_n hκ 3 dL_acted_126 rfl rfl ?_
            refine g_iload hκ 2 dL_acted_127 rfl ?_
            refine g_iconst hκ (v := 1) dL_acted_129 (by decide) ?_
            refine rV_i hκ (hdV hz) [.int (nI t2), .int 1] sd_X11_ofSquadron qw_858 (fun D cO H s hK hP => rc_Room hK hP hx) (p_ofSq_1 S13 x lo ta la el sz t2 (nI t2) hM rfl (by omega)) ⟨rfl, rfl, Nat.le_of_ble_eq_true rfl, Nat.le_of_ble_eq_true rfl⟩ rfl rfl (Nat.le_of_ble_eq_true rfl) dL_acted_130 (fun r16 hr16 => ?_)
            refine g_eqi (show r16 = sI S13 q_Squadron_machines (el 2 t2) from hr16) ?_
            refine g_iload hκ 0 dL_acted_133 rfl ?_
            refine g_isub hκ dL_acted_135 ?_
            exact hend _ _ _ _ _ _ dL_acted_136 (by rw [sub_dd hdd]; exact hI2)
      · skip
        refine g_aload_n hκ 3 dL_acted_80 rfl rfl ?_
        refine g_iload hκ 2 dL_acted_81 rfl ?_
        refine vX_i hκ hz hX [.int (nI t2)] sd_X11_back qw_1052 (fun D cO H s hK hP => rc_Room hK hP hx) (k_back e9 S x lo ta la M cnts told el sz cp pw ow dn t2 hI (by omega)) ⟨rfl, rfl, Nat.le_of_ble_eq_true rfl, Nat.le_of_ble_eq_true rfl⟩ rfl rfl (Nat.le_of_ble_eq_true rfl) dL_acted_83 (by omega) (by omega) hTb (by decide +kernel) (by decide) qw_1036 (fun q19 => ?_) (fun r17 S18 hS18 => ?_)
        · skip
          refine g_astore hκ [(7, .ref q19), (6, .int (sI S q_Squadron_machines (el 2 t2))), (5, .int (nI (sz 7))), (4, .int (nI t2)), (0, .ref x), (1, .int act), (2, .int xx), (3, .int yy)] dL_acted_113 (by decide) rfl ?_
          refine g_aload_n hκ 4 dL_acted_115 rfl rfl ?_
          refine g_iload hκ 3 dL_acted_116 rfl ?_
          refine g_iconst hκ (v := 1) dL_acted_118 (by decide) ?_
          refine rV_i hκ (hdV hz) [.int (nI t2), .int 1] sd_X11_ofSquadron qw_858 (fun D cO H s hK hP => rc_Room hK hP hx) (p_ofSq_1 S x lo ta la el sz t2 (nI t2) hM rfl (by omega)) ⟨rfl, rfl, Nat.le_of_ble_eq_true rfl, Nat.le_of_ble_eq_true rfl⟩ rfl rfl (Nat.le_of_ble_eq_true rfl) dL_acted_119 (fun r20 hr20 => ?_)
          refine g_eqi (show r20 = sI S q_Squadron_machines (el 2 t2) from hr20) ?_
          refine g_iload hκ 1 dL_acted_122 rfl ?_
          refine g_isub hκ dL_acted_124 ?_
          exact hend _ _ _ _ _ _ dL_acted_125 (by rw [Int32.sub_self, Int32.add_zero]; exact hI)
        · skip
          obtain ⟨dd, hI2, hdd⟩ := hS18
          have hM := hI2.1.rm
          have hMc := hM
          obtain ⟨hx, ⟨f0, L0⟩, ⟨f1, L1⟩, ⟨f2, L2⟩, ⟨f3, L3⟩, ⟨f4, L4⟩, ⟨f5, L5⟩, ⟨f6, L6⟩, ⟨f7, L7⟩, ⟨f8, L8⟩, ⟨flo, hlo⟩, ⟨fta, hta⟩⟩ := hMc
          have b0 := L0.2.2.1
          have b2 := L2.2.2.1
          have b3 := L3.2.2.1
          have b4 := L4.2.2.1
          have b5 := L5.2.2.1
          have b7 := L7.2.2.1
          have b8 := L8.2.2.1
          have hSQ := (hI2.2.2.1).sq
          refine g_pop hκ dL_acted_86 rfl ?_
          refine g_goto hκ 110 dL_acted_87 (by decide) ?_
          refine g_goto hκ 126 dL_acted_110 (by decide) ?_
          refine g_aload_n hκ 3 dL_acted_126 rfl rfl ?_
          refine g_iload hκ 2 dL_acted_127 rfl ?_
          refine g_iconst hκ (v := 1) dL_acted_129 (by decide) ?_
          refine rV_i hκ (hdV hz) [.int (nI t2), .int 1] sd_X11_ofSquadron qw_858 (fun D cO H s hK hP => rc_Room hK hP hx) (p_ofSq_1 S18 x lo ta la el sz t2 (nI t2) hM rfl (by omega)) ⟨rfl, rfl, Nat.le_of_ble_eq_true rfl, Nat.le_of_ble_eq_true rfl⟩ rfl rfl (Nat.le_of_ble_eq_true rfl) dL_acted_130 (fun r21 hr21 => ?_)
          refine g_eqi (show r21 = sI S18 q_Squadron_machines (el 2 t2) from hr21) ?_
          refine g_iload hκ 0 dL_acted_133 rfl ?_
          refine g_isub hκ dL_acted_135 ?_
          exact hend _ _ _ _ _ _ dL_acted_136 (by rw [sub_dd hdd]; exact hI2)
    · skip
      refine g_iload hκ 1 dL_acted_54 rfl ?_
      refine g_if_le hκ 75 dL_acted_56 (by decide) (fun c22 => ?_) (fun c22 => ?_)
      · skip
        refine g_iload_n hκ 4 dL_acted_75 rfl rfl ?_
        refine g_iconst hκ (v := 4) dL_acted_76 (by decide) ?_
        refine g_icmp_ne hκ 90 dL_acted_77 (by decide) (fun c23 => ?_) (fun c23 => ?_)
        · skip
          refine g_iload_n hκ 4 dL_acted_90 rfl rfl ?_
          refine g_iconst hκ (v := 5) dL_acted_91 (by decide) ?_
          refine g_icmp_ne hκ 110 dL_acted_92 (by decide) (fun c24 => ?_) (fun c24 => ?_)
          · skip
            refine g_goto hκ 126 dL_acted_110 (by decide) ?_
            refine g_aload_n hκ 3 dL_acted_126 rfl rfl ?_
            refine g_iload hκ 2 dL_acted_127 rfl ?_
            refine g_iconst hκ (v := 1) dL_acted_129 (by decide) ?_
            refine rV_i hκ (hdV hz) [.int (nI t2), .int 1] sd_X11_ofSquadron qw_858 (fun D cO H s hK hP => rc_Room hK hP hx) (p_ofSq_1 S x lo ta la el sz t2 (nI t2) hM rfl (by omega)) ⟨rfl, rfl, Nat.le_of_ble_eq_true rfl, Nat.le_of_ble_eq_true rfl⟩ rfl rfl (Nat.le_of_ble_eq_true rfl) dL_acted_130 (fun r25 hr25 => ?_)
            refine g_eqi (show r25 = sI S q_Squadron_machines (el 2 t2) from hr25) ?_
            refine g_iload hκ 0 dL_acted_133 rfl ?_
            refine g_isub hκ dL_acted_135 ?_
            exact hend _ _ _ _ _ _ dL_acted_136 (by rw [Int32.sub_self, Int32.add_zero]; exact hI)
          · skip
            refine g_aload_n hκ 3 dL_acted_95 rfl rfl ?_
            refine g_iload hκ 2 dL_acted_96 rfl ?_
            refine g_iconst hκ (v := 1) dL_acted_98 (by decide) ?_
            refine g_iload_n hκ 5 dL_acted_99 rfl rfl ?_
            refine g_bipush hκ (v := 12) dL_acted_100 (by decide) ?_
            refine rS_i hκ (hdV hz) [.int xx, .int 12] sd_L_below qw_1025 (k_below S xx 12 (by decide) (by decide)) ⟨rfl, rfl, Nat.le_of_ble_eq_true rfl, Nat.le_of_ble_eq_true rfl⟩ rfl rfl (Nat.le_of_ble_eq_true rfl) dL_acted_102 (fun r26 hr26 => ?_)
            obtain ⟨t27, ht27, et27⟩ := hr26
            refine g_eqi et27 ?_
            refine g_iadd hκ dL_acted_105 ?_
            refine g_eqi (y := nI (1 + t27)) (nI_add 1 t27) ?_
            refine vX_i hκ hz hX [.int (nI t2), .int (nI (1 + t27))] sd_X11_reinforce qw_1057 (fun D cO H s hK hP => rc_Room hK hP hx) (k_reinforce e9 S x lo ta la M cnts told el sz cp pw ow dn t2 (1 + t27) hI (by omega) (by omega) (by omega)) ⟨rfl, rfl, Nat.le_of_ble_eq_true rfl, Nat.le_of_ble_eq_true rfl⟩ rfl rfl (Nat.le_of_ble_eq_true rfl) dL_acted_106 (by omega) (by omega) hTb (by decide +kernel) (by decide) qw_1036 (fun q30 => ?_) (fun r28 S29 hS29 => ?_)
            · skip
              refine g_astore hκ [(7, .ref q30), (6, .int (sI S q_Squadron_machines (el 2 t2))), (5, .int (nI (sz 7))), (4, .int (nI t2)), (0, .ref x), (1, .int act), (2, .int xx), (3, .int yy)] dL_acted_113 (by decide) rfl ?_
              refine g_aload_n hκ 4 dL_acted_115 rfl rfl ?_
              refine g_iload hκ 3 dL_acted_116 rfl ?_
              refine g_iconst hκ (v := 1) dL_acted_118 (by decide) ?_
              refine rV_i hκ (hdV hz) [.int (nI t2), .int 1] sd_X11_ofSquadron qw_858 (fun D cO H s hK hP => rc_Room hK hP hx) (p_ofSq_1 S x lo ta la el sz t2 (nI t2) hM rfl (by omega)) ⟨rfl, rfl, Nat.le_of_ble_eq_true rfl, Nat.le_of_ble_eq_true rfl⟩ rfl rfl (Nat.le_of_ble_eq_true rfl) dL_acted_119 (fun r31 hr31 => ?_)
              refine g_eqi (show r31 = sI S q_Squadron_machines (el 2 t2) from hr31) ?_
              refine g_iload hκ 1 dL_acted_122 rfl ?_
              refine g_isub hκ dL_acted_124 ?_
              exact hend _ _ _ _ _ _ dL_acted_125 (by rw [Int32.sub_self, Int32.add_zero]; exact hI)
            · skip
              obtain ⟨dd, hI2, hdd⟩ := hS29
              have hM := hI2.1.rm
              have hMc := hM
              obtain ⟨hx, ⟨f0, L0⟩, ⟨f1, L1⟩, ⟨f2, L2⟩, ⟨f3, L3⟩, ⟨f4, L4⟩, ⟨f5, L5⟩, ⟨f6, L6⟩, ⟨f7, L7⟩, ⟨f8, L8⟩, ⟨flo, hlo⟩, ⟨fta, hta⟩⟩ := hMc
              have b0 := L0.2.2.1
              have b2 := L2.2.2.1
              have b3 := L3.2.2.1
              have b4 := L4.2.2.1
              have b5 := L5.2.2.1
              have b7 := L7.2.2.1
              have b8 := L8.2.2.1
              have hSQ := (hI2.2.2.1).sq
              refine g_pop hκ dL_acted_109 rfl ?_
              refine g_goto hκ 126 dL_acted_110 (by decide) ?_
              refine g_aload_n hκ 3 dL_acted_126 rfl rfl ?_
              refine g_iload hκ 2 dL_acted_127 rfl ?_
              refine g_iconst hκ (v := 1) dL_acted_129 (by decide) ?_
              refine rV_i hκ (hdV hz) [.int (nI t2), .int 1] sd_X11_ofSquadron qw_858 (fun D cO H s hK hP => rc_Room hK hP hx) (p_ofSq_1 S29 x lo ta la el sz t2 (nI t2) hM rfl (by omega)) ⟨rfl, rfl, Nat.le_of_ble_eq_true rfl, Nat.le_of_ble_eq_true rfl⟩ rfl rfl (Nat.le_of_ble_eq_true rfl) dL_acted_130 (fun r32 hr32 => ?_)
              refine g_eqi (show r32 = sI S29 q_Squadron_machines (el 2 t2) from hr32) ?_
              refine g_iload hκ 0 dL_acted_133 rfl ?_
              refine g_isub hκ dL_acted_135 ?_
              exact hend _ _ _ _ _ _ dL_acted_136 (by rw [sub_dd hdd]; exact hI2)
        · skip
          refine g_aload_n hκ 3 dL_acted_80 rfl rfl ?_
          refine g_iload hκ 2 dL_acted_81 rfl ?_
          refine vX_i hκ hz hX [.int (nI t2)] sd_X11_back qw_1052 (fun D cO H s hK hP => rc_Room hK hP hx) (k_back e9 S x lo ta la M cnts told el sz cp pw ow dn t2 hI (by omega)) ⟨rfl, rfl, Nat.le_of_ble_eq_true rfl, Nat.le_of_ble_eq_true rfl⟩ rfl rfl (Nat.le_of_ble_eq_true rfl) dL_acted_83 (by omega) (by omega) hTb (by decide +kernel) (by decide) qw_1036 (fun q35 => ?_) (fun r33 S34 hS34 => ?_)
          · skip
            refine g_astore hκ [(7, .ref q35), (6, .int (sI S q_Squadron_machines (el 2 t2))), (5, .int (nI (sz 7))), (4, .int (nI t2)), (0, .ref x), (1, .int act), (2, .int xx), (3, .int yy)] dL_acted_113 (by decide) rfl ?_
            refine g_aload_n hκ 4 dL_acted_115 rfl rfl ?_
            refine g_iload hκ 3 dL_acted_116 rfl ?_
            refine g_iconst hκ (v := 1) dL_acted_118 (by decide) ?_
            refine rV_i hκ (hdV hz) [.int (nI t2), .int 1] sd_X11_ofSquadron qw_858 (fun D cO H s hK hP => rc_Room hK hP hx) (p_ofSq_1 S x lo ta la el sz t2 (nI t2) hM rfl (by omega)) ⟨rfl, rfl, Nat.le_of_ble_eq_true rfl, Nat.le_of_ble_eq_true rfl⟩ rfl rfl (Nat.le_of_ble_eq_true rfl) dL_acted_119 (fun r36 hr36 => ?_)
            refine g_eqi (show r36 = sI S q_Squadron_machines (el 2 t2) from hr36) ?_
            refine g_iload hκ 1 dL_acted_122 rfl ?_
            refine g_isub hκ dL_acted_124 ?_
            exact hend _ _ _ _ _ _ dL_acted_125 (by rw [Int32.sub_self, Int32.add_zero]; exact hI)
          · skip
            obtain ⟨dd, hI2, hdd⟩ := hS34
            have hM := hI2.1.rm
            have hMc := hM
            obtain ⟨hx, ⟨f0, L0⟩, ⟨f1, L1⟩, ⟨f2, L2⟩, ⟨f3, L3⟩, ⟨f4, L4⟩, ⟨f5, L5⟩, ⟨f6, L6⟩, ⟨f7, L7⟩, ⟨f8, L8⟩, ⟨flo, hlo⟩, ⟨fta, hta⟩⟩ := hMc
            have b0 := L0.2.2.1
            have b2 := L2.2.2.1
            have b3 := L3.2.2.1
            have b4 := L4.2.2.1
            have b5 := L5.2.2.1
            have b7 := L7.2.2.1
            have b8 := L8.2.2.1
            have hSQ := (hI2.2.2.1).sq
            refine g_pop hκ dL_acted_86 rfl ?_
            refine g_goto hκ 110 dL_acted_87 (by decide) ?_
            refine g_goto hκ 126 dL_acted_110 (by decide) ?_
            refine g_aload_n hκ 3 dL_acted_126 rfl rfl ?_
            refine g_iload hκ 2 dL_acted_127 rfl ?_
            refine g_iconst hκ (v := 1) dL_acted_129 (by decide) ?_
            refine rV_i hκ (hdV hz) [.int (nI t2), .int 1] sd_X11_ofSquadron qw_858 (fun D cO H s hK hP => rc_Room hK hP hx) (p_ofSq_1 S34 x lo ta la el sz t2 (nI t2) hM rfl (by omega)) ⟨rfl, rfl, Nat.le_of_ble_eq_true rfl, Nat.le_of_ble_eq_true rfl⟩ rfl rfl (Nat.le_of_ble_eq_true rfl) dL_acted_130 (fun r37 hr37 => ?_)
            refine g_eqi (show r37 = sI S34 q_Squadron_machines (el 2 t2) from hr37) ?_
            refine g_iload hκ 0 dL_acted_133 rfl ?_
            refine g_isub hκ dL_acted_135 ?_
            exact hend _ _ _ _ _ _ dL_acted_136 (by rw [sub_dd hdd]; exact hI2)
      · skip
        have h0t := pos_of c22
        refine g_aload_n hκ 3 dL_acted_59 rfl rfl ?_
        refine g_iload hκ 2 dL_acted_60 rfl ?_
        refine g_iload_n hκ 5 dL_acted_62 rfl rfl ?_
        refine g_iload hκ 1 dL_acted_63 rfl ?_
        refine rS_i hκ (hdV hz) [.int xx, .int (nI (sz 7))] sd_L_below qw_1025 (k_below S xx (sz 7) h0t (by omega)) ⟨rfl, rfl, Nat.le_of_ble_eq_true rfl, Nat.le_of_ble_eq_true rfl⟩ rfl rfl (Nat.le_of_ble_eq_true rfl) dL_acted_65 (fun r38 hr38 => ?_)
        obtain ⟨t39, ht39, et39⟩ := hr38
        refine g_eqi et39 ?_
        refine vX_i hκ hz hX [.int (nI t2), .int (nI t39)] sd_X11_lead qw_1047 (fun D cO H s hK hP => rc_Room hK hP hx) (k_lead e9 S x lo ta la M cnts told el sz cp pw ow dn t2 t39 hI (by omega) (by omega)) ⟨rfl, rfl, Nat.le_of_ble_eq_true rfl, Nat.le_of_ble_eq_true rfl⟩ rfl rfl (Nat.le_of_ble_eq_true rfl) dL_acted_68 (by omega) (by omega) hTb (by decide +kernel) (by decide) qw_1036 (fun q42 => ?_) (fun r40 S41 hS41 => ?_)
        · skip
          refine g_astore hκ [(7, .ref q42), (6, .int (sI S q_Squadron_machines (el 2 t2))), (5, .int (nI (sz 7))), (4, .int (nI t2)), (0, .ref x), (1, .int act), (2, .int xx), (3, .int yy)] dL_acted_113 (by decide) rfl ?_
          refine g_aload_n hκ 4 dL_acted_115 rfl rfl ?_
          refine g_iload hκ 3 dL_acted_116 rfl ?_
          refine g_iconst hκ (v := 1) dL_acted_118 (by decide) ?_
          refine rV_i hκ (hdV hz) [.int (nI t2), .int 1] sd_X11_ofSquadron qw_858 (fun D cO H s hK hP => rc_Room hK hP hx) (p_ofSq_1 S x lo ta la el sz t2 (nI t2) hM rfl (by omega)) ⟨rfl, rfl, Nat.le_of_ble_eq_true rfl, Nat.le_of_ble_eq_true rfl⟩ rfl rfl (Nat.le_of_ble_eq_true rfl) dL_acted_119 (fun r43 hr43 => ?_)
          refine g_eqi (show r43 = sI S q_Squadron_machines (el 2 t2) from hr43) ?_
          refine g_iload hκ 1 dL_acted_122 rfl ?_
          refine g_isub hκ dL_acted_124 ?_
          exact hend _ _ _ _ _ _ dL_acted_125 (by rw [Int32.sub_self, Int32.add_zero]; exact hI)
        · skip
          obtain ⟨dd, hI2, hdd⟩ := hS41
          have hM := hI2.1.rm
          have hMc := hM
          obtain ⟨hx, ⟨f0, L0⟩, ⟨f1, L1⟩, ⟨f2, L2⟩, ⟨f3, L3⟩, ⟨f4, L4⟩, ⟨f5, L5⟩, ⟨f6, L6⟩, ⟨f7, L7⟩, ⟨f8, L8⟩, ⟨flo, hlo⟩, ⟨fta, hta⟩⟩ := hMc
          have b0 := L0.2.2.1
          have b2 := L2.2.2.1
          have b3 := L3.2.2.1
          have b4 := L4.2.2.1
          have b5 := L5.2.2.1
          have b7 := L7.2.2.1
          have b8 := L8.2.2.1
          have hSQ := (hI2.2.2.1).sq
          refine g_pop hκ dL_acted_71 rfl ?_
          refine g_goto hκ 110 dL_acted_72 (by decide) ?_
          refine g_goto hκ 126 dL_acted_110 (by decide) ?_
          refine g_aload_n hκ 3 dL_acted_126 rfl rfl ?_
          refine g_iload hκ 2 dL_acted_127 rfl ?_
          refine g_iconst hκ (v := 1) dL_acted_129 (by decide) ?_
          refine rV_i hκ (hdV hz) [.int (nI t2), .int 1] sd_X11_ofSquadron qw_858 (fun D cO H s hK hP => rc_Room hK hP hx) (p_ofSq_1 S41 x lo ta la el sz t2 (nI t2) hM rfl (by omega)) ⟨rfl, rfl, Nat.le_of_ble_eq_true rfl, Nat.le_of_ble_eq_true rfl⟩ rfl rfl (Nat.le_of_ble_eq_true rfl) dL_acted_130 (fun r44 hr44 => ?_)
          refine g_eqi (show r44 = sI S41 q_Squadron_machines (el 2 t2) from hr44) ?_
          refine g_iload hκ 0 dL_acted_133 rfl ?_
          refine g_isub hκ dL_acted_135 ?_
          exact hend _ _ _ _ _ _ dL_acted_136 (by rw [sub_dd hdd]; exact hI2)
  · skip
    refine g_iload hκ 1 dL_acted_28 rfl ?_
    refine g_if_le hκ 49 dL_acted_30 (by decide) (fun c45 => ?_) (fun c45 => ?_)
    · skip
      refine g_iload_n hκ 4 dL_acted_49 rfl rfl ?_
      refine g_iconst hκ (v := 3) dL_acted_50 (by decide) ?_
      refine g_icmp_ne hκ 75 dL_acted_51 (by decide) (fun c46 => ?_) (fun c46 => ?_)
      · skip
        refine g_iload_n hκ 4 dL_acted_75 rfl rfl ?_
        refine g_iconst hκ (v := 4) dL_acted_76 (by decide) ?_
        refine g_icmp_ne hκ 90 dL_acted_77 (by decide) (fun c47 => ?_) (fun c47 => ?_)
        · skip
          refine g_iload_n hκ 4 dL_acted_90 rfl rfl ?_
          refine g_iconst hκ (v := 5) dL_acted_91 (by decide) ?_
          refine g_icmp_ne hκ 110 dL_acted_92 (by decide) (fun c48 => ?_) (fun c48 => ?_)
          · skip
            refine g_goto hκ 126 dL_acted_110 (by decide) ?_
            refine g_aload_n hκ 3 dL_acted_126 rfl rfl ?_
            refine g_iload hκ 2 dL_acted_127 rfl ?_
            refine g_iconst hκ (v := 1) dL_acted_129 (by decide) ?_
            refine rV_i hκ (hdV hz) [.int (nI t2), .int 1] sd_X11_ofSquadron qw_858 (fun D cO H s hK hP => rc_Room hK hP hx) (p_ofSq_1 S x lo ta la el sz t2 (nI t2) hM rfl (by omega)) ⟨rfl, rfl, Nat.le_of_ble_eq_true rfl, Nat.le_of_ble_eq_true rfl⟩ rfl rfl (Nat.le_of_ble_eq_true rfl) dL_acted_130 (fun r49 hr49 => ?_)
            refine g_eqi (show r49 = sI S q_Squadron_machines (el 2 t2) from hr49) ?_
            refine g_iload hκ 0 dL_acted_133 rfl ?_
            refine g_isub hκ dL_acted_135 ?_
            exact hend _ _ _ _ _ _ dL_acted_136 (by rw [Int32.sub_self, Int32.add_zero]; exact hI)
          · skip
            refine g_aload_n hκ 3 dL_acted_95 rfl rfl ?_
            refine g_iload hκ 2 dL_acted_96 rfl ?_
            refine g_iconst hκ (v := 1) dL_acted_98 (by decide) ?_
            refine g_iload_n hκ 5 dL_acted_99 rfl rfl ?_
            refine g_bipush hκ (v := 12) dL_acted_100 (by decide) ?_
            refine rS_i hκ (hdV hz) [.int xx, .int 12] sd_L_below qw_1025 (k_below S xx 12 (by decide) (by decide)) ⟨rfl, rfl, Nat.le_of_ble_eq_true rfl, Nat.le_of_ble_eq_true rfl⟩ rfl rfl (Nat.le_of_ble_eq_true rfl) dL_acted_102 (fun r50 hr50 => ?_)
            obtain ⟨t51, ht51, et51⟩ := hr50
            refine g_eqi et51 ?_
            refine g_iadd hκ dL_acted_105 ?_
            refine g_eqi (y := nI (1 + t51)) (nI_add 1 t51) ?_
            refine vX_i hκ hz hX [.int (nI t2), .int (nI (1 + t51))] sd_X11_reinforce qw_1057 (fun D cO H s hK hP => rc_Room hK hP hx) (k_reinforce e9 S x lo ta la M cnts told el sz cp pw ow dn t2 (1 + t51) hI (by omega) (by omega) (by omega)) ⟨rfl, rfl, Nat.le_of_ble_eq_true rfl, Nat.le_of_ble_eq_true rfl⟩ rfl rfl (Nat.le_of_ble_eq_true rfl) dL_acted_106 (by omega) (by omega) hTb (by decide +kernel) (by decide) qw_1036 (fun q54 => ?_) (fun r52 S53 hS53 => ?_)
            · skip
              refine g_astore hκ [(7, .ref q54), (6, .int (sI S q_Squadron_machines (el 2 t2))), (5, .int (nI (sz 7))), (4, .int (nI t2)), (0, .ref x), (1, .int act), (2, .int xx), (3, .int yy)] dL_acted_113 (by decide) rfl ?_
              refine g_aload_n hκ 4 dL_acted_115 rfl rfl ?_
              refine g_iload hκ 3 dL_acted_116 rfl ?_
              refine g_iconst hκ (v := 1) dL_acted_118 (by decide) ?_
              refine rV_i hκ (hdV hz) [.int (nI t2), .int 1] sd_X11_ofSquadron qw_858 (fun D cO H s hK hP => rc_Room hK hP hx) (p_ofSq_1 S x lo ta la el sz t2 (nI t2) hM rfl (by omega)) ⟨rfl, rfl, Nat.le_of_ble_eq_true rfl, Nat.le_of_ble_eq_true rfl⟩ rfl rfl (Nat.le_of_ble_eq_true rfl) dL_acted_119 (fun r55 hr55 => ?_)
              refine g_eqi (show r55 = sI S q_Squadron_machines (el 2 t2) from hr55) ?_
              refine g_iload hκ 1 dL_acted_122 rfl ?_
              refine g_isub hκ dL_acted_124 ?_
              exact hend _ _ _ _ _ _ dL_acted_125 (by rw [Int32.sub_self, Int32.add_zero]; exact hI)
            · skip
              obtain ⟨dd, hI2, hdd⟩ := hS53
              have hM := hI2.1.rm
              have hMc := hM
              obtain ⟨hx, ⟨f0, L0⟩, ⟨f1, L1⟩, ⟨f2, L2⟩, ⟨f3, L3⟩, ⟨f4, L4⟩, ⟨f5, L5⟩, ⟨f6, L6⟩, ⟨f7, L7⟩, ⟨f8, L8⟩, ⟨flo, hlo⟩, ⟨fta, hta⟩⟩ := hMc
              have b0 := L0.2.2.1
              have b2 := L2.2.2.1
              have b3 := L3.2.2.1
              have b4 := L4.2.2.1
              have b5 := L5.2.2.1
              have b7 := L7.2.2.1
              have b8 := L8.2.2.1
              have hSQ := (hI2.2.2.1).sq
              refine g_pop hκ dL_acted_109 rfl ?_
              refine g_goto hκ 126 dL_acted_110 (by decide) ?_
              refine g_aload_n hκ 3 dL_acted_126 rfl rfl ?_
              refine g_iload hκ 2 dL_acted_127 rfl ?_
              refine g_iconst hκ (v := 1) dL_acted_129 (by decide) ?_
              refine rV_i hκ (hdV hz) [.int (nI t2), .int 1] sd_X11_ofSquadron qw_858 (fun D cO H s hK hP => rc_Room hK hP hx) (p_ofSq_1 S53 x lo ta la el sz t2 (nI t2) hM rfl (by omega)) ⟨rfl, rfl, Nat.le_of_ble_eq_true rfl, Nat.le_of_ble_eq_true rfl⟩ rfl rfl (Nat.le_of_ble_eq_true rfl) dL_acted_130 (fun r56 hr56 => ?_)
              refine g_eqi (show r56 = sI S53 q_Squadron_machines (el 2 t2) from hr56) ?_
              refine g_iload hκ 0 dL_acted_133 rfl ?_
              refine g_isub hκ dL_acted_135 ?_
              exact hend _ _ _ _ _ _ dL_acted_136 (by rw [sub_dd hdd]; exact hI2)
        · skip
          refine g_aload_n hκ 3 dL_acted_80 rfl rfl ?_
          refine g_iload hκ 2 dL_acted_81 rfl ?_
          refine vX_i hκ hz hX [.int (nI t2)] sd_X11_back qw_1052 (fun D cO H s hK hP => rc_Room hK hP hx) (k_back e9 S x lo ta la M cnts told el sz cp pw ow dn t2 hI (by omega)) ⟨rfl, rfl, Nat.le_of_ble_eq_true rfl, Nat.le_of_ble_eq_true rfl⟩ rfl rfl (Nat.le_of_ble_eq_true rfl) dL_acted_83 (by omega) (by omega) hTb (by decide +kernel) (by decide) qw_1036 (fun q59 => ?_) (fun r57 S58 hS58 => ?_)
          · skip
            refine g_astore hκ [(7, .ref q59), (6, .int (sI S q_Squadron_machines (el 2 t2))), (5, .int (nI (sz 7))), (4, .int (nI t2)), (0, .ref x), (1, .int act), (2, .int xx), (3, .int yy)] dL_acted_113 (by decide) rfl ?_
            refine g_aload_n hκ 4 dL_acted_115 rfl rfl ?_
            refine g_iload hκ 3 dL_acted_116 rfl ?_
            refine g_iconst hκ (v := 1) dL_acted_118 (by decide) ?_
            refine rV_i hκ (hdV hz) [.int (nI t2), .int 1] sd_X11_ofSquadron qw_858 (fun D cO H s hK hP => rc_Room hK hP hx) (p_ofSq_1 S x lo ta la el sz t2 (nI t2) hM rfl (by omega)) ⟨rfl, rfl, Nat.le_of_ble_eq_true rfl, Nat.le_of_ble_eq_true rfl⟩ rfl rfl (Nat.le_of_ble_eq_true rfl) dL_acted_119 (fun r60 hr60 => ?_)
            refine g_eqi (show r60 = sI S q_Squadron_machines (el 2 t2) from hr60) ?_
            refine g_iload hκ 1 dL_acted_122 rfl ?_
            refine g_isub hκ dL_acted_124 ?_
            exact hend _ _ _ _ _ _ dL_acted_125 (by rw [Int32.sub_self, Int32.add_zero]; exact hI)
          · skip
            obtain ⟨dd, hI2, hdd⟩ := hS58
            have hM := hI2.1.rm
            have hMc := hM
            obtain ⟨hx, ⟨f0, L0⟩, ⟨f1, L1⟩, ⟨f2, L2⟩, ⟨f3, L3⟩, ⟨f4, L4⟩, ⟨f5, L5⟩, ⟨f6, L6⟩, ⟨f7, L7⟩, ⟨f8, L8⟩, ⟨flo, hlo⟩, ⟨fta, hta⟩⟩ := hMc
            have b0 := L0.2.2.1
            have b2 := L2.2.2.1
            have b3 := L3.2.2.1
            have b4 := L4.2.2.1
            have b5 := L5.2.2.1
            have b7 := L7.2.2.1
            have b8 := L8.2.2.1
            have hSQ := (hI2.2.2.1).sq
            refine g_pop hκ dL_acted_86 rfl ?_
            refine g_goto hκ 110 dL_acted_87 (by decide) ?_
            refine g_goto hκ 126 dL_acted_110 (by decide) ?_
            refine g_aload_n hκ 3 dL_acted_126 rfl rfl ?_
            refine g_iload hκ 2 dL_acted_127 rfl ?_
            refine g_iconst hκ (v := 1) dL_acted_129 (by decide) ?_
            refine rV_i hκ (hdV hz) [.int (nI t2), .int 1] sd_X11_ofSquadron qw_858 (fun D cO H s hK hP => rc_Room hK hP hx) (p_ofSq_1 S58 x lo ta la el sz t2 (nI t2) hM rfl (by omega)) ⟨rfl, rfl, Nat.le_of_ble_eq_true rfl, Nat.le_of_ble_eq_true rfl⟩ rfl rfl (Nat.le_of_ble_eq_true rfl) dL_acted_130 (fun r61 hr61 => ?_)
            refine g_eqi (show r61 = sI S58 q_Squadron_machines (el 2 t2) from hr61) ?_
            refine g_iload hκ 0 dL_acted_133 rfl ?_
            refine g_isub hκ dL_acted_135 ?_
            exact hend _ _ _ _ _ _ dL_acted_136 (by rw [sub_dd hdd]; exact hI2)
      · skip
        refine g_iload hκ 1 dL_acted_54 rfl ?_
        refine g_if_le hκ 75 dL_acted_56 (by decide) (fun c62 => ?_) (fun c62 => ?_)
        · skip
          refine g_iload_n hκ 4 dL_acted_75 rfl rfl ?_
          refine g_iconst hκ (v := 4) dL_acted_76 (by decide) ?_
          refine g_icmp_ne hκ 90 dL_acted_77 (by decide) (fun c63 => ?_) (fun c63 => ?_)
          · skip
            refine g_iload_n hκ 4 dL_acted_90 rfl rfl ?_
            refine g_iconst hκ (v := 5) dL_acted_91 (by decide) ?_
            refine g_icmp_ne hκ 110 dL_acted_92 (by decide) (fun c64 => ?_) (fun c64 => ?_)
            · skip
              refine g_goto hκ 126 dL_acted_110 (by decide) ?_
              refine g_aload_n hκ 3 dL_acted_126 rfl rfl ?_
              refine g_iload hκ 2 dL_acted_127 rfl ?_
              refine g_iconst hκ (v := 1) dL_acted_129 (by decide) ?_
              refine rV_i hκ (hdV hz) [.int (nI t2), .int 1] sd_X11_ofSquadron qw_858 (fun D cO H s hK hP => rc_Room hK hP hx) (p_ofSq_1 S x lo ta la el sz t2 (nI t2) hM rfl (by omega)) ⟨rfl, rfl, Nat.le_of_ble_eq_true rfl, Nat.le_of_ble_eq_true rfl⟩ rfl rfl (Nat.le_of_ble_eq_true rfl) dL_acted_130 (fun r65 hr65 => ?_)
              refine g_eqi (show r65 = sI S q_Squadron_machines (el 2 t2) from hr65) ?_
              refine g_iload hκ 0 dL_acted_133 rfl ?_
              refine g_isub hκ dL_acted_135 ?_
              exact hend _ _ _ _ _ _ dL_acted_136 (by rw [Int32.sub_self, Int32.add_zero]; exact hI)
            · skip
              refine g_aload_n hκ 3 dL_acted_95 rfl rfl ?_
              refine g_iload hκ 2 dL_acted_96 rfl ?_
              refine g_iconst hκ (v := 1) dL_acted_98 (by decide) ?_
              refine g_iload_n hκ 5 dL_acted_99 rfl rfl ?_
              refine g_bipush hκ (v := 12) dL_acted_100 (by decide) ?_
              refine rS_i hκ (hdV hz) [.int xx, .int 12] sd_L_below qw_1025 (k_below S xx 12 (by decide) (by decide)) ⟨rfl, rfl, Nat.le_of_ble_eq_true rfl, Nat.le_of_ble_eq_true rfl⟩ rfl rfl (Nat.le_of_ble_eq_true rfl) dL_acted_102 (fun r66 hr66 => ?_)
              obtain ⟨t67, ht67, et67⟩ := hr66
              refine g_eqi et67 ?_
              refine g_iadd hκ dL_acted_105 ?_
              refine g_eqi (y := nI (1 + t67)) (nI_add 1 t67) ?_
              refine vX_i hκ hz hX [.int (nI t2), .int (nI (1 + t67))] sd_X11_reinforce qw_1057 (fun D cO H s hK hP => rc_Room hK hP hx) (k_reinforce e9 S x lo ta la M cnts told el sz cp pw ow dn t2 (1 + t67) hI (by omega) (by omega) (by omega)) ⟨rfl, rfl, Nat.le_of_ble_eq_true rfl, Nat.le_of_ble_eq_true rfl⟩ rfl rfl (Nat.le_of_ble_eq_true rfl) dL_acted_106 (by omega) (by omega) hTb (by decide +kernel) (by decide) qw_1036 (fun q70 => ?_) (fun r68 S69 hS69 => ?_)
              · skip
                refine g_astore hκ [(7, .ref q70), (6, .int (sI S q_Squadron_machines (el 2 t2))), (5, .int (nI (sz 7))), (4, .int (nI t2)), (0, .ref x), (1, .int act), (2, .int xx), (3, .int yy)] dL_acted_113 (by decide) rfl ?_
                refine g_aload_n hκ 4 dL_acted_115 rfl rfl ?_
                refine g_iload hκ 3 dL_acted_116 rfl ?_
                refine g_iconst hκ (v := 1) dL_acted_118 (by decide) ?_
                refine rV_i hκ (hdV hz) [.int (nI t2), .int 1] sd_X11_ofSquadron qw_858 (fun D cO H s hK hP => rc_Room hK hP hx) (p_ofSq_1 S x lo ta la el sz t2 (nI t2) hM rfl (by omega)) ⟨rfl, rfl, Nat.le_of_ble_eq_true rfl, Nat.le_of_ble_eq_true rfl⟩ rfl rfl (Nat.le_of_ble_eq_true rfl) dL_acted_119 (fun r71 hr71 => ?_)
                refine g_eqi (show r71 = sI S q_Squadron_machines (el 2 t2) from hr71) ?_
                refine g_iload hκ 1 dL_acted_122 rfl ?_
                refine g_isub hκ dL_acted_124 ?_
                exact hend _ _ _ _ _ _ dL_acted_125 (by rw [Int32.sub_self, Int32.add_zero]; exact hI)
              · skip
                obtain ⟨dd, hI2, hdd⟩ := hS69
                have hM := hI2.1.rm
                have hMc := hM
                obtain ⟨hx, ⟨f0, L0⟩, ⟨f1, L1⟩, ⟨f2, L2⟩, ⟨f3, L3⟩, ⟨f4, L4⟩, ⟨f5, L5⟩, ⟨f6, L6⟩, ⟨f7, L7⟩, ⟨f8, L8⟩, ⟨flo, hlo⟩, ⟨fta, hta⟩⟩ := hMc
                have b0 := L0.2.2.1
                have b2 := L2.2.2.1
                have b3 := L3.2.2.1
                have b4 := L4.2.2.1
                have b5 := L5.2.2.1
                have b7 := L7.2.2.1
                have b8 := L8.2.2.1
                have hSQ := (hI2.2.2.1).sq
                refine g_pop hκ dL_acted_109 rfl ?_
                refine g_goto hκ 126 dL_acted_110 (by decide) ?_
                refine g_aload_n hκ 3 dL_acted_126 rfl rfl ?_
                refine g_iload hκ 2 dL_acted_127 rfl ?_
                refine g_iconst hκ (v := 1) dL_acted_129 (by decide) ?_
                refine rV_i hκ (hdV hz) [.int (nI t2), .int 1] sd_X11_ofSquadron qw_858 (fun D cO H s hK hP => rc_Room hK hP hx) (p_ofSq_1 S69 x lo ta la el sz t2 (nI t2) hM rfl (by omega)) ⟨rfl, rfl, Nat.le_of_ble_eq_true rfl, Nat.le_of_ble_eq_true rfl⟩ rfl rfl (Nat.le_of_ble_eq_true rfl) dL_acted_130 (fun r72 hr72 => ?_)
                refine g_eqi (show r72 = sI S69 q_Squadron_machines (el 2 t2) from hr72) ?_
                refine g_iload hκ 0 dL_acted_133 rfl ?_
                refine g_isub hκ dL_acted_135 ?_
                exact hend _ _ _ _ _ _ dL_acted_136 (by rw [sub_dd hdd]; exact hI2)
          · skip
            refine g_aload_n hκ 3 dL_acted_80 rfl rfl ?_
            refine g_iload hκ 2 dL_acted_81 rfl ?_
            refine vX_i hκ hz hX [.int (nI t2)] sd_X11_back qw_1052 (fun D cO H s hK hP => rc_Room hK hP hx) (k_back e9 S x lo ta la M cnts told el sz cp pw ow dn t2 hI (by omega)) ⟨rfl, rfl, Nat.le_of_ble_eq_true rfl, Nat.le_of_ble_eq_true rfl⟩ rfl rfl (Nat.le_of_ble_eq_true rfl) dL_acted_83 (by omega) (by omega) hTb (by decide +kernel) (by decide) qw_1036 (fun q75 => ?_) (fun r73 S74 hS74 => ?_)
            · skip
              refine g_astore hκ [(7, .ref q75), (6, .int (sI S q_Squadron_machines (el 2 t2))), (5, .int (nI (sz 7))), (4, .int (nI t2)), (0, .ref x), (1, .int act), (2, .int xx), (3, .int yy)] dL_acted_113 (by decide) rfl ?_
              refine g_aload_n hκ 4 dL_acted_115 rfl rfl ?_
              refine g_iload hκ 3 dL_acted_116 rfl ?_
              refine g_iconst hκ (v := 1) dL_acted_118 (by decide) ?_
              refine rV_i hκ (hdV hz) [.int (nI t2), .int 1] sd_X11_ofSquadron qw_858 (fun D cO H s hK hP => rc_Room hK hP hx) (p_ofSq_1 S x lo ta la el sz t2 (nI t2) hM rfl (by omega)) ⟨rfl, rfl, Nat.le_of_ble_eq_true rfl, Nat.le_of_ble_eq_true rfl⟩ rfl rfl (Nat.le_of_ble_eq_true rfl) dL_acted_119 (fun r76 hr76 => ?_)
              refine g_eqi (show r76 = sI S q_Squadron_machines (el 2 t2) from hr76) ?_
              refine g_iload hκ 1 dL_acted_122 rfl ?_
              refine g_isub hκ dL_acted_124 ?_
              exact hend _ _ _ _ _ _ dL_acted_125 (by rw [Int32.sub_self, Int32.add_zero]; exact hI)
            · skip
              obtain ⟨dd, hI2, hdd⟩ := hS74
              have hM := hI2.1.rm
              have hMc := hM
              obtain ⟨hx, ⟨f0, L0⟩, ⟨f1, L1⟩, ⟨f2, L2⟩, ⟨f3, L3⟩, ⟨f4, L4⟩, ⟨f5, L5⟩, ⟨f6, L6⟩, ⟨f7, L7⟩, ⟨f8, L8⟩, ⟨flo, hlo⟩, ⟨fta, hta⟩⟩ := hMc
              have b0 := L0.2.2.1
              have b2 := L2.2.2.1
              have b3 := L3.2.2.1
              have b4 := L4.2.2.1
              have b5 := L5.2.2.1
              have b7 := L7.2.2.1
              have b8 := L8.2.2.1
              have hSQ := (hI2.2.2.1).sq
              refine g_pop hκ dL_acted_86 rfl ?_
              refine g_goto hκ 110 dL_acted_87 (by decide) ?_
              refine g_goto hκ 126 dL_acted_110 (by decide) ?_
              refine g_aload_n hκ 3 dL_acted_126 rfl rfl ?_
              refine g_iload hκ 2 dL_acted_127 rfl ?_
              refine g_iconst hκ (v := 1) dL_acted_129 (by decide) ?_
              refine rV_i hκ (hdV hz) [.int (nI t2), .int 1] sd_X11_ofSquadron qw_858 (fun D cO H s hK hP => rc_Room hK hP hx) (p_ofSq_1 S74 x lo ta la el sz t2 (nI t2) hM rfl (by omega)) ⟨rfl, rfl, Nat.le_of_ble_eq_true rfl, Nat.le_of_ble_eq_true rfl⟩ rfl rfl (Nat.le_of_ble_eq_true rfl) dL_acted_130 (fun r77 hr77 => ?_)
              refine g_eqi (show r77 = sI S74 q_Squadron_machines (el 2 t2) from hr77) ?_
              refine g_iload hκ 0 dL_acted_133 rfl ?_
              refine g_isub hκ dL_acted_135 ?_
              exact hend _ _ _ _ _ _ dL_acted_136 (by rw [sub_dd hdd]; exact hI2)
        · skip
          have h0t := pos_of c62
          refine g_aload_n hκ 3 dL_acted_59 rfl rfl ?_
          refine g_iload hκ 2 dL_acted_60 rfl ?_
          refine g_iload_n hκ 5 dL_acted_62 rfl rfl ?_
          refine g_iload hκ 1 dL_acted_63 rfl ?_
          refine rS_i hκ (hdV hz) [.int xx, .int (nI (sz 7))] sd_L_below qw_1025 (k_below S xx (sz 7) h0t (by omega)) ⟨rfl, rfl, Nat.le_of_ble_eq_true rfl, Nat.le_of_ble_eq_true rfl⟩ rfl rfl (Nat.le_of_ble_eq_true rfl) dL_acted_65 (fun r78 hr78 => ?_)
          obtain ⟨t79, ht79, et79⟩ := hr78
          refine g_eqi et79 ?_
          refine vX_i hκ hz hX [.int (nI t2), .int (nI t79)] sd_X11_lead qw_1047 (fun D cO H s hK hP => rc_Room hK hP hx) (k_lead e9 S x lo ta la M cnts told el sz cp pw ow dn t2 t79 hI (by omega) (by omega)) ⟨rfl, rfl, Nat.le_of_ble_eq_true rfl, Nat.le_of_ble_eq_true rfl⟩ rfl rfl (Nat.le_of_ble_eq_true rfl) dL_acted_68 (by omega) (by omega) hTb (by decide +kernel) (by decide) qw_1036 (fun q82 => ?_) (fun r80 S81 hS81 => ?_)
          · skip
            refine g_astore hκ [(7, .ref q82), (6, .int (sI S q_Squadron_machines (el 2 t2))), (5, .int (nI (sz 7))), (4, .int (nI t2)), (0, .ref x), (1, .int act), (2, .int xx), (3, .int yy)] dL_acted_113 (by decide) rfl ?_
            refine g_aload_n hκ 4 dL_acted_115 rfl rfl ?_
            refine g_iload hκ 3 dL_acted_116 rfl ?_
            refine g_iconst hκ (v := 1) dL_acted_118 (by decide) ?_
            refine rV_i hκ (hdV hz) [.int (nI t2), .int 1] sd_X11_ofSquadron qw_858 (fun D cO H s hK hP => rc_Room hK hP hx) (p_ofSq_1 S x lo ta la el sz t2 (nI t2) hM rfl (by omega)) ⟨rfl, rfl, Nat.le_of_ble_eq_true rfl, Nat.le_of_ble_eq_true rfl⟩ rfl rfl (Nat.le_of_ble_eq_true rfl) dL_acted_119 (fun r83 hr83 => ?_)
            refine g_eqi (show r83 = sI S q_Squadron_machines (el 2 t2) from hr83) ?_
            refine g_iload hκ 1 dL_acted_122 rfl ?_
            refine g_isub hκ dL_acted_124 ?_
            exact hend _ _ _ _ _ _ dL_acted_125 (by rw [Int32.sub_self, Int32.add_zero]; exact hI)
          · skip
            obtain ⟨dd, hI2, hdd⟩ := hS81
            have hM := hI2.1.rm
            have hMc := hM
            obtain ⟨hx, ⟨f0, L0⟩, ⟨f1, L1⟩, ⟨f2, L2⟩, ⟨f3, L3⟩, ⟨f4, L4⟩, ⟨f5, L5⟩, ⟨f6, L6⟩, ⟨f7, L7⟩, ⟨f8, L8⟩, ⟨flo, hlo⟩, ⟨fta, hta⟩⟩ := hMc
            have b0 := L0.2.2.1
            have b2 := L2.2.2.1
            have b3 := L3.2.2.1
            have b4 := L4.2.2.1
            have b5 := L5.2.2.1
            have b7 := L7.2.2.1
            have b8 := L8.2.2.1
            have hSQ := (hI2.2.2.1).sq
            refine g_pop hκ dL_acted_71 rfl ?_
            refine g_goto hκ 110 dL_acted_72 (by decide) ?_
            refine g_goto hκ 126 dL_acted_110 (by decide) ?_
            refine g_aload_n hκ 3 dL_acted_126 rfl rfl ?_
            refine g_iload hκ 2 dL_acted_127 rfl ?_
            refine g_iconst hκ (v := 1) dL_acted_129 (by decide) ?_
            refine rV_i hκ (hdV hz) [.int (nI t2), .int 1] sd_X11_ofSquadron qw_858 (fun D cO H s hK hP => rc_Room hK hP hx) (p_ofSq_1 S81 x lo ta la el sz t2 (nI t2) hM rfl (by omega)) ⟨rfl, rfl, Nat.le_of_ble_eq_true rfl, Nat.le_of_ble_eq_true rfl⟩ rfl rfl (Nat.le_of_ble_eq_true rfl) dL_acted_130 (fun r84 hr84 => ?_)
            refine g_eqi (show r84 = sI S81 q_Squadron_machines (el 2 t2) from hr84) ?_
            refine g_iload hκ 0 dL_acted_133 rfl ?_
            refine g_isub hκ dL_acted_135 ?_
            exact hend _ _ _ _ _ _ dL_acted_136 (by rw [sub_dd hdd]; exact hI2)
    · skip
      have h0t := pos_of c45
      refine g_aload_n hκ 3 dL_acted_33 rfl rfl ?_
      refine g_iload hκ 2 dL_acted_34 rfl ?_
      refine g_iload_n hκ 5 dL_acted_36 rfl rfl ?_
      refine g_iload hκ 1 dL_acted_37 rfl ?_
      refine rS_i hκ (hdV hz) [.int xx, .int (nI (sz 7))] sd_L_below qw_1025 (k_below S xx (sz 7) h0t (by omega)) ⟨rfl, rfl, Nat.le_of_ble_eq_true rfl, Nat.le_of_ble_eq_true rfl⟩ rfl rfl (Nat.le_of_ble_eq_true rfl) dL_acted_39 (fun r85 hr85 => ?_)
      obtain ⟨t86, ht86, et86⟩ := hr85
      refine g_eqi et86 ?_
      refine vX_i hκ hz hX [.int (nI t2), .int (nI t86)] sd_X11_scramble qw_1037 (fun D cO H s hK hP => rc_Room hK hP hx) (k_scramble e9 S x lo ta la M cnts told el sz cp pw ow dn t2 t86 hI (by omega) (by omega)) ⟨rfl, rfl, Nat.le_of_ble_eq_true rfl, Nat.le_of_ble_eq_true rfl⟩ rfl rfl (Nat.le_of_ble_eq_true rfl) dL_acted_42 (by omega) (by omega) hTb (by decide +kernel) (by decide) qw_1036 (fun q89 => ?_) (fun r87 S88 hS88 => ?_)
      · skip
        refine g_astore hκ [(7, .ref q89), (6, .int (sI S q_Squadron_machines (el 2 t2))), (5, .int (nI (sz 7))), (4, .int (nI t2)), (0, .ref x), (1, .int act), (2, .int xx), (3, .int yy)] dL_acted_113 (by decide) rfl ?_
        refine g_aload_n hκ 4 dL_acted_115 rfl rfl ?_
        refine g_iload hκ 3 dL_acted_116 rfl ?_
        refine g_iconst hκ (v := 1) dL_acted_118 (by decide) ?_
        refine rV_i hκ (hdV hz) [.int (nI t2), .int 1] sd_X11_ofSquadron qw_858 (fun D cO H s hK hP => rc_Room hK hP hx) (p_ofSq_1 S x lo ta la el sz t2 (nI t2) hM rfl (by omega)) ⟨rfl, rfl, Nat.le_of_ble_eq_true rfl, Nat.le_of_ble_eq_true rfl⟩ rfl rfl (Nat.le_of_ble_eq_true rfl) dL_acted_119 (fun r90 hr90 => ?_)
        refine g_eqi (show r90 = sI S q_Squadron_machines (el 2 t2) from hr90) ?_
        refine g_iload hκ 1 dL_acted_122 rfl ?_
        refine g_isub hκ dL_acted_124 ?_
        exact hend _ _ _ _ _ _ dL_acted_125 (by rw [Int32.sub_self, Int32.add_zero]; exact hI)
      · skip
        obtain ⟨dd, hI2, hdd⟩ := hS88
        have hM := hI2.1.rm
        have hMc := hM
        obtain ⟨hx, ⟨f0, L0⟩, ⟨f1, L1⟩, ⟨f2, L2⟩, ⟨f3, L3⟩, ⟨f4, L4⟩, ⟨f5, L5⟩, ⟨f6, L6⟩, ⟨f7, L7⟩, ⟨f8, L8⟩, ⟨flo, hlo⟩, ⟨fta, hta⟩⟩ := hMc
        have b0 := L0.2.2.1
        have b2 := L2.2.2.1
        have b3 := L3.2.2.1
        have b4 := L4.2.2.1
        have b5 := L5.2.2.1
        have b7 := L7.2.2.1
        have b8 := L8.2.2.1
        have hSQ := (hI2.2.2.1).sq
        refine g_pop hκ dL_acted_45 rfl ?_
        refine g_goto hκ 110 dL_acted_46 (by decide) ?_
        refine g_goto hκ 126 dL_acted_110 (by decide) ?_
        refine g_aload_n hκ 3 dL_acted_126 rfl rfl ?_
        refine g_iload hκ 2 dL_acted_127 rfl ?_
        refine g_iconst hκ (v := 1) dL_acted_129 (by decide) ?_
        refine rV_i hκ (hdV hz) [.int (nI t2), .int 1] sd_X11_ofSquadron qw_858 (fun D cO H s hK hP => rc_Room hK hP hx) (p_ofSq_1 S88 x lo ta la el sz t2 (nI t2) hM rfl (by omega)) ⟨rfl, rfl, Nat.le_of_ble_eq_true rfl, Nat.le_of_ble_eq_true rfl⟩ rfl rfl (Nat.le_of_ble_eq_true rfl) dL_acted_130 (fun r91 hr91 => ?_)
        refine g_eqi (show r91 = sI S88 q_Squadron_machines (el 2 t2) from hr91) ?_
        refine g_iload hκ 0 dL_acted_133 rfl ?_
        refine g_isub hκ dL_acted_135 ?_
        exact hend _ _ _ _ _ _ dL_acted_136 (by rw [sub_dd hdd]; exact hI2)
