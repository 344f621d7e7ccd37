set_option maxHeartbeats 4000000 in
set_option maxRecDepth 100000 in
theorem k_digestSky (S : wPS) (x lo ta : Nat) (la : Nat → Nat) (el : Nat → Nat → Nat) (sz : Nat → Nat) (g : Int64) (hM : RMx S x lo ta la el sz) : MR yX11_digestSky cX11_digestSky 7 (some .long) ({ frames := 3, cells := 0, slots := 0, locals := 64 }) S [.ref x, .long g] (vp_Sl (fun r => r = skyF S el sz g)) := by
  refine stR_l (post := (fun r => r = skyF S el sz g)) (by decide) (Nat.le_of_ble_eq_true rfl) rfl (fun κ hκ hend => ?_)
  show Gj κ _ 0 [(0, .ref x), (1, .long g)] []
  have hMc := hM
  obtain ⟨hx, ⟨f0, L0⟩, ⟨f1, L1⟩, ⟨f2, L2⟩, ⟨f3, L3⟩, ⟨f4, L4⟩, ⟨f5, L5⟩, ⟨f6, L6⟩, ⟨f7, L7⟩, ⟨f8, L8⟩, ⟨flo, hlo⟩, ⟨fta, hta⟩⟩ := hMc
  have b0 := L0.2.2.1
  have b2 := L2.2.2.1
  have b3 := L3.2.2.1
  have b4 := L4.2.2.1
  have b5 := L5.2.2.1
  have b7 := L7.2.2.1
  have b8 := L8.2.2.1
  refine g_lload_n hκ 1 dX11_digestSky_0 rfl rfl ?_
  refine g_lstore_n hκ [(3, .long g), (0, .ref x), (1, .long g)] dX11_digestSky_1 rfl (by decide) rfl ?_
  refine g_iconst hκ (v := 0) dX11_digestSky_2 (by decide) ?_
  refine g_istore hκ [(5, .int 0), (3, .long g), (0, .ref x), (1, .long g)] dX11_digestSky_3 (by decide) rfl ?_
  have loop5 : ∀ (d5 i5 : Nat) (x5 : Int32) (a5 : Int64), i5 + d5 = sz 5 → x5 = nI i5 → skyF S el sz g = skyM S el sz (fldR (fun i a => flF S (el 5 i) a) d5 i5 a5) → Gj κ (PR κ S) 5 [(5, .int x5), (3, .long a5), (0, .ref x), (1, .long g)] [] := by
    intro d5
    induction d5 with
    | zero =>
      intro i5 x5 a5 hi5 hx5 hF5
      subst hx5
      refine g_iload hκ 0 dX11_digestSky_5 rfl ?_
      refine g_aload_n hκ 2 dX11_digestSky_7 rfl rfl ?_
      refine gt_Room_flights hκ hdR hx qw_111 (Or.inl rfl) dX11_digestSky_8 ?_
      refine g_rf f5 ?_
      refine rV_i hκ hdR [] sd_Jx4a65c_size_8abf5 qw_227 (fun D cO H s hK hP => rc_List hK hP L5.1) (k_sizeL S (la 5) 0 (sz 5) (el 5) L5) ⟨rfl, rfl, Nat.le_of_ble_eq_true rfl, Nat.le_of_ble_eq_true rfl⟩ rfl rfl (Nat.le_of_ble_eq_true rfl) dX11_digestSky_11 (fun r1 hr1 => ?_)
      refine g_eqi hr1 ?_
      refine g_icmp_ge hκ 94 dX11_digestSky_14 (by decide) (fun _ => ?_) (fun z => absurd (lp_ge rfl (by omega) (by omega)) z)
      refine g_iconst hκ (v := 0) dX11_digestSky_94 (by decide) ?_
      refine g_istore hκ [(5, .int 0), (3, .long a5), (0, .ref x), (1, .long g)] dX11_digestSky_95 (by decide) rfl ?_
      have loop97 : ∀ (d97 i97 : Nat) (x97 : Int32) (a97 : Int64), i97 + d97 = sz 0 → x97 = nI i97 → skyF S el sz g = fldR (fun i a => dg (msF S (el 0 i)) 4 6 a) d97 i97 a97 → Gj κ (PR κ S) 97 [(5, .int x97), (3, .long a97), (0, .ref x), (1, .long g)] [] := by
        intro d97
        induction d97 with
        | zero =>
          intro i97 x97 a97 hi97 hx97 hF97
          subst hx97
          refine g_iload hκ 0 dX11_digestSky_97 rfl ?_
          refine g_aload_n hκ 2 dX11_digestSky_99 rfl rfl ?_
          refine gt_Room_masts hκ hdR hx qw_106 (Or.inl rfl) dX11_digestSky_100 ?_
          refine g_rf f0 ?_
          refine rV_i hκ hdR [] sd_Jx4a65c_size_8abf5 qw_227 (fun D cO H s hK hP => rc_List hK hP L0.1) (k_sizeL S (la 0) 3 (sz 0) (el 0) L0) ⟨rfl, rfl, Nat.le_of_ble_eq_true rfl, Nat.le_of_ble_eq_true rfl⟩ rfl rfl (Nat.le_of_ble_eq_true rfl) dX11_digestSky_103 (fun r2 hr2 => ?_)
          refine g_eqi hr2 ?_
          refine g_icmp_ge hκ 157 dX11_digestSky_106 (by decide) (fun _ => ?_) (fun z => absurd (lp_ge rfl (by omega) (by omega)) z)
          refine g_lload_n hκ 1 dX11_digestSky_157 rfl rfl ?_
          exact hend _ _ _ dX11_digestSky_158 (hF97.symm)
        | succ d97 ih97 =>
          intro i97 x97 a97 hi97 hx97 hF97
          subst hx97
          refine g_iload hκ 0 dX11_digestSky_97 rfl ?_
          refine g_aload_n hκ 2 dX11_digestSky_99 rfl rfl ?_
          refine gt_Room_masts hκ hdR hx qw_106 (Or.inl rfl) dX11_digestSky_100 ?_
          refine g_rf f0 ?_
          refine rV_i hκ hdR [] sd_Jx4a65c_size_8abf5 qw_227 (fun D cO H s hK hP => rc_List hK hP L0.1) (k_sizeL S (la 0) 3 (sz 0) (el 0) L0) ⟨rfl, rfl, Nat.le_of_ble_eq_true rfl, Nat.le_of_ble_eq_true rfl⟩ rfl rfl (Nat.le_of_ble_eq_true rfl) dX11_digestSky_103 (fun r3 hr3 => ?_)
          refine g_eqi hr3 ?_
          refine g_icmp_ge hκ 157 dX11_digestSky_106 (by decide) (fun z => absurd z (lp_nge rfl (by omega) (by omega))) (fun _ => ?_)
          refine g_bipush hκ (v := 6) dX11_digestSky_109 (by decide) ?_
          refine g_istore hκ [(6, .int 6), (5, .int (nI i97)), (3, .long a97), (0, .ref x), (1, .long g)] dX11_digestSky_111 (by decide) rfl ?_
          refine g_iload hκ 0 dX11_digestSky_113 rfl ?_
          refine g_bipush hκ (v := 9) dX11_digestSky_115 (by decide) ?_
          refine g_icmp_gt hκ 151 dX11_digestSky_117 (by decide) (fun z => absurd z (by decide)) (fun _ => ?_)
          refine g_lload_n hκ 2 dX11_digestSky_120 rfl rfl ?_
          refine g_ldc2 hκ qw_989 dX11_digestSky_121 ?_
          refine g_lmul hκ dX11_digestSky_124 ?_
          refine g_aload_n hκ 3 dX11_digestSky_125 rfl rfl ?_
          refine gt_Room_masts hκ hdR hx qw_106 (Or.inl rfl) dX11_digestSky_126 ?_
          refine g_rf f0 ?_
          refine g_iload hκ 1 dX11_digestSky_129 rfl ?_
          refine rV_q hκ hdR [.int (nI i97)] sd_Jx4a65c_get_915e3 qw_440 (fun D cO H s hK hP => rc_List hK hP L0.1) (k_get S (la 0) 3 (sz 0) i97 (el 0) (nI i97) L0 rfl (by omega)) ⟨rfl, rfl, Nat.le_of_ble_eq_true rfl, Nat.le_of_ble_eq_true rfl⟩ rfl rfl (Nat.le_of_ble_eq_true rfl) dX11_digestSky_131 (fun r4 hr4 => ?_)
          refine g_rf hr4 ?_
          refine gc_Mast hκ hdR (L0.2.2.2.2 i97 (by omega)) qw_247 dX11_digestSky_134 ?_
          refine g_iload hκ 0 dX11_digestSky_137 rfl ?_
          refine rV_i hκ hdR [.int 6] sd_X3_tell qw_998 (fun D cO H s hK hP => rc_Mast hK hP (L0.2.2.2.2 i97 (by omega))) (k_tellMast_6 S (el 0 i97) (L0.2.2.2.2 i97 (by omega))) ⟨rfl, rfl, Nat.le_of_ble_eq_true rfl, Nat.le_of_ble_eq_true rfl⟩ rfl rfl (Nat.le_of_ble_eq_true rfl) dX11_digestSky_139 (fun r5 hr5 => ?_)
          refine g_eqi hr5 ?_
          refine g_i2l hκ dX11_digestSky_142 ?_
          refine g_ladd hκ dX11_digestSky_143 ?_
          refine g_topl (fun y6 hy6 => ?_)
          refine g_lstore_n hκ [(3, .long y6), (6, .int 6), (5, .int (nI i97)), (0, .ref x), (1, .long g)] dX11_digestSky_144 rfl (by decide) rfl ?_
          refine g_iinc hκ (k := 1) (v := 7) [(6, .int 7), (3, .long y6), (5, .int (nI i97)), (0, .ref x), (1, .long g)] dX11_digestSky_145 rfl (by decide) (by decide) rfl ?_
          refine g_goto hκ 113 dX11_digestSky_148 (by decide) ?_
          refine g_iload hκ 0 dX11_digestSky_113 rfl ?_
          refine g_bipush hκ (v := 9) dX11_digestSky_115 (by decide) ?_
          refine g_icmp_gt hκ 151 dX11_digestSky_117 (by decide) (fun z => absurd z (by decide)) (fun _ => ?_)
          refine g_lload_n hκ 1 dX11_digestSky_120 rfl rfl ?_
          refine g_ldc2 hκ qw_989 dX11_digestSky_121 ?_
          refine g_lmul hκ dX11_digestSky_124 ?_
          refine g_aload_n hκ 3 dX11_digestSky_125 rfl rfl ?_
          refine gt_Room_masts hκ hdR hx qw_106 (Or.inl rfl) dX11_digestSky_126 ?_
          refine g_rf f0 ?_
          refine g_iload hκ 2 dX11_digestSky_129 rfl ?_
          refine rV_q hκ hdR [.int (nI i97)] sd_Jx4a65c_get_915e3 qw_440 (fun D cO H s hK hP => rc_List hK hP L0.1) (k_get S (la 0) 3 (sz 0) i97 (el 0) (nI i97) L0 rfl (by omega)) ⟨rfl, rfl, Nat.le_of_ble_eq_true rfl, Nat.le_of_ble_eq_true rfl⟩ rfl rfl (Nat.le_of_ble_eq_true rfl) dX11_digestSky_131 (fun r7 hr7 => ?_)
          refine g_rf hr7 ?_
          refine gc_Mast hκ hdR (L0.2.2.2.2 i97 (by omega)) qw_247 dX11_digestSky_134 ?_
          refine g_iload hκ 0 dX11_digestSky_137 rfl ?_
          refine rV_i hκ hdR [.int 7] sd_X3_tell qw_998 (fun D cO H s hK hP => rc_Mast hK hP (L0.2.2.2.2 i97 (by omega))) (k_tellMast_7 S (el 0 i97) (L0.2.2.2.2 i97 (by omega))) ⟨rfl, rfl, Nat.le_of_ble_eq_true rfl, Nat.le_of_ble_eq_true rfl⟩ rfl rfl (Nat.le_of_ble_eq_true rfl) dX11_digestSky_139 (fun r8 hr8 => ?_)
          refine g_eqi hr8 ?_
          refine g_i2l hκ dX11_digestSky_142 ?_
          refine g_ladd hκ dX11_digestSky_143 ?_
          refine g_topl (fun y9 hy9 => ?_)
          refine g_lstore_n hκ [(3, .long y9), (6, .int 7), (5, .int (nI i97)), (0, .ref x), (1, .long g)] dX11_digestSky_144 rfl (by decide) rfl ?_
          refine g_iinc hκ (k := 1) (v := 8) [(6, .int 8), (3, .long y9), (5, .int (nI i97)), (0, .ref x), (1, .long g)] dX11_digestSky_145 rfl (by decide) (by decide) rfl ?_
          refine g_goto hκ 113 dX11_digestSky_148 (by decide) ?_
          refine g_iload hκ 0 dX11_digestSky_113 rfl ?_
          refine g_bipush hκ (v := 9) dX11_digestSky_115 (by decide) ?_
          refine g_icmp_gt hκ 151 dX11_digestSky_117 (by decide) (fun z => absurd z (by decide)) (fun _ => ?_)
          refine g_lload_n hκ 1 dX11_digestSky_120 rfl rfl ?_
          refine g_ldc2 hκ qw_989 dX11_digestSky_121 ?_
          refine g_lmul hκ dX11_digestSky_124 ?_
          refine g_aload_n hκ 3 dX11_digestSky_125 rfl rfl ?_
          refine gt_Room_masts hκ hdR hx qw_106 (Or.inl rfl) dX11_digestSky_126 ?_
          refine g_rf f0 ?_
          refine g_iload hκ 2 dX11_digestSky_129 rfl ?_
          refine rV_q hκ hdR [.int (nI i97)] sd_Jx4a65c_get_915e3 qw_440 (fun D cO H s hK hP => rc_List hK hP L0.1) (k_get S (la 0) 3 (sz 0) i97 (el 0) (nI i97) L0 rfl (by omega)) ⟨rfl, rfl, Nat.le_of_ble_eq_true rfl, Nat.le_of_ble_eq_true rfl⟩ rfl rfl (Nat.le_of_ble_eq_true rfl) dX11_digestSky_131 (fun r10 hr10 => ?_)
          refine g_rf hr10 ?_
          refine gc_Mast hκ hdR (L0.2.2.2.2 i97 (by omega)) qw_247 dX11_digestSky_134 ?_
          refine g_iload hκ 0 dX11_digestSky_137 rfl ?_
          refine rV_i hκ hdR [.int 8] sd_X3_tell qw_998 (fun D cO H s hK hP => rc_Mast hK hP (L0.2.2.2.2 i97 (by omega))) (k_tellMast_8 S (el 0 i97) (L0.2.2.2.2 i97 (by omega))) ⟨rfl, rfl, Nat.le_of_ble_eq_true rfl, Nat.le_of_ble_eq_true rfl⟩ rfl rfl (Nat.le_of_ble_eq_true rfl) dX11_digestSky_139 (fun r11 hr11 => ?_)
          refine g_eqi hr11 ?_
          refine g_i2l hκ dX11_digestSky_142 ?_
          refine g_ladd hκ dX11_digestSky_143 ?_
          refine g_topl (fun y12 hy12 => ?_)
          refine g_lstore_n hκ [(3, .long y12), (6, .int 8), (5, .int (nI i97)), (0, .ref x), (1, .long g)] dX11_digestSky_144 rfl (by decide) rfl ?_
          refine g_iinc hκ (k := 1) (v := 9) [(6, .int 9), (3, .long y12), (5, .int (nI i97)), (0, .ref x), (1, .long g)] dX11_digestSky_145 rfl (by decide) (by decide) rfl ?_
          refine g_goto hκ 113 dX11_digestSky_148 (by decide) ?_
          refine g_iload hκ 0 dX11_digestSky_113 rfl ?_
          refine g_bipush hκ (v := 9) dX11_digestSky_115 (by decide) ?_
          refine g_icmp_gt hκ 151 dX11_digestSky_117 (by decide) (fun z => absurd z (by decide)) (fun _ => ?_)
          refine g_lload_n hκ 1 dX11_digestSky_120 rfl rfl ?_
          refine g_ldc2 hκ qw_989 dX11_digestSky_121 ?_
          refine g_lmul hκ dX11_digestSky_124 ?_
          refine g_aload_n hκ 3 dX11_digestSky_125 rfl rfl ?_
          refine gt_Room_masts hκ hdR hx qw_106 (Or.inl rfl) dX11_digestSky_126 ?_
          refine g_rf f0 ?_
          refine g_iload hκ 2 dX11_digestSky_129 rfl ?_
          refine rV_q hκ hdR [.int (nI i97)] sd_Jx4a65c_get_915e3 qw_440 (fun D cO H s hK hP => rc_List hK hP L0.1) (k_get S (la 0) 3 (sz 0) i97 (el 0) (nI i97) L0 rfl (by omega)) ⟨rfl, rfl, Nat.le_of_ble_eq_true rfl, Nat.le_of_ble_eq_true rfl⟩ rfl rfl (Nat.le_of_ble_eq_true rfl) dX11_digestSky_131 (fun r13 hr13 => ?_)
          refine g_rf hr13 ?_
          refine gc_Mast hκ hdR (L0.2.2.2.2 i97 (by omega)) qw_247 dX11_digestSky_134 ?_
          refine g_iload hκ 0 dX11_digestSky_137 rfl ?_
          refine rV_i hκ hdR [.int 9] sd_X3_tell qw_998 (fun D cO H s hK hP => rc_Mast hK hP (L0.2.2.2.2 i97 (by omega))) (k_tellMast_9 S (el 0 i97) (L0.2.2.2.2 i97 (by omega))) ⟨rfl, rfl, Nat.le_of_ble_eq_true rfl, Nat.le_of_ble_eq_true rfl⟩ rfl rfl (Nat.le_of_ble_eq_true rfl) dX11_digestSky_139 (fun r14 hr14 => ?_)
          refine g_eqi hr14 ?_
          refine g_i2l hκ dX11_digestSky_142 ?_
          refine g_ladd hκ dX11_digestSky_143 ?_
          refine g_topl (fun y15 hy15 => ?_)
          refine g_lstore_n hκ [(3, .long y15), (6, .int 9), (5, .int (nI i97)), (0, .ref x), (1, .long g)] dX11_digestSky_144 rfl (by decide) rfl ?_
          refine g_iinc hκ (k := 1) (v := 10) [(6, .int 10), (3, .long y15), (5, .int (nI i97)), (0, .ref x), (1, .long g)] dX11_digestSky_145 rfl (by decide) (by decide) rfl ?_
          refine g_goto hκ 113 dX11_digestSky_148 (by decide) ?_
          refine g_iload hκ 0 dX11_digestSky_113 rfl ?_
          refine g_bipush hκ (v := 9) dX11_digestSky_115 (by decide) ?_
          refine g_icmp_gt hκ 151 dX11_digestSky_117 (by decide) (fun _ => ?_) (fun z => absurd z (by decide))
          obtain ⟨v16, hv16⟩ : ∃ z : Int32, nI i97 + 1 = z := ⟨_, rfl⟩
          refine g_iinc hκ (k := 2) (v := v16) [(5, .int v16), (6, .int 10), (3, .long y15), (0, .ref x), (1, .long g)] dX11_digestSky_151 rfl hv16 (by decide) rfl ?_
          refine g_goto hκ 97 dX11_digestSky_154 (by decide) ?_
          refine g_lv [(5, .int v16), (3, .long y15), (0, .ref x), (1, .long g)] [0, 2, 3, 4] rfl ?_
          exact ih97 (i97 + 1) v16 y15 (by omega) (lp_s rfl hv16) (by subst hy15 hy12 hy9 hy6; exact hF97)
      exact loop97 (sz 0) 0 0 a5 (by omega) (by first | rfl | decide) (hF5)
    | succ d5 ih5 =>
      intro i5 x5 a5 hi5 hx5 hF5
      subst hx5
      refine g_iload hκ 0 dX11_digestSky_5 rfl ?_
      refine g_aload_n hκ 2 dX11_digestSky_7 rfl rfl ?_
      refine gt_Room_flights hκ hdR hx qw_111 (Or.inl rfl) dX11_digestSky_8 ?_
      refine g_rf f5 ?_
      refine rV_i hκ hdR [] sd_Jx4a65c_size_8abf5 qw_227 (fun D cO H s hK hP => rc_List hK hP L5.1) (k_sizeL S (la 5) 0 (sz 5) (el 5) L5) ⟨rfl, rfl, Nat.le_of_ble_eq_true rfl, Nat.le_of_ble_eq_true rfl⟩ rfl rfl (Nat.le_of_ble_eq_true rfl) dX11_digestSky_11 (fun r17 hr17 => ?_)
      refine g_eqi hr17 ?_
      refine g_icmp_ge hκ 94 dX11_digestSky_14 (by decide) (fun z => absurd z (lp_nge rfl (by omega) (by omega))) (fun _ => ?_)
      refine g_aload_n hκ 2 dX11_digestSky_17 rfl rfl ?_
      refine gt_Room_flights hκ hdR hx qw_111 (Or.inl rfl) dX11_digestSky_18 ?_
      refine g_rf f5 ?_
      refine g_iload hκ 0 dX11_digestSky_21 rfl ?_
      refine rV_q hκ hdR [.int (nI i5)] sd_Jx4a65c_get_915e3 qw_440 (fun D cO H s hK hP => rc_List hK hP L5.1) (k_get S (la 5) 0 (sz 5) i5 (el 5) (nI i5) L5 rfl (by omega)) ⟨rfl, rfl, Nat.le_of_ble_eq_true rfl, Nat.le_of_ble_eq_true rfl⟩ rfl rfl (Nat.le_of_ble_eq_true rfl) dX11_digestSky_23 (fun r18 hr18 => ?_)
      refine g_rf hr18 ?_
      refine gc_Flight hκ hdR (L5.2.2.2.2 i5 (by omega)) qw_553 dX11_digestSky_26 ?_
      refine g_astore hκ [(6, .ref (el 5 i5)), (5, .int (nI i5)), (3, .long a5), (0, .ref x), (1, .long g)] dX11_digestSky_29 (by decide) rfl ?_
      refine g_lload_n hκ 2 dX11_digestSky_31 rfl rfl ?_
      refine g_ldc2 hκ qw_989 dX11_digestSky_32 ?_
      refine g_lmul hκ dX11_digestSky_35 ?_
      refine g_aload hκ 0 dX11_digestSky_36 rfl ?_
      refine g_iconst hκ (v := 0) dX11_digestSky_38 (by decide) ?_
      refine rV_i hκ hdR [.int 0] sd_X0_tell qw_994 (fun D cO H s hK hP => rc_Flight hK hP (L5.2.2.2.2 i5 (by omega))) (k_tellFlight_0 S (el 5 i5) (L5.2.2.2.2 i5 (by omega))) ⟨rfl, rfl, Nat.le_of_ble_eq_true rfl, Nat.le_of_ble_eq_true rfl⟩ rfl rfl (Nat.le_of_ble_eq_true rfl) dX11_digestSky_39 (fun r19 hr19 => ?_)
      refine g_eqi hr19 ?_
      refine g_i2l hκ dX11_digestSky_42 ?_
      refine g_ladd hκ dX11_digestSky_43 ?_
      refine g_topl (fun y20 hy20 => ?_)
      refine g_lstore_n hκ [(3, .long y20), (6, .ref (el 5 i5)), (5, .int (nI i5)), (0, .ref x), (1, .long g)] dX11_digestSky_44 rfl (by decide) rfl ?_
      refine g_lload_n hκ 0 dX11_digestSky_45 rfl rfl ?_
      refine g_ldc2 hκ qw_989 dX11_digestSky_46 ?_
      refine g_lmul hκ dX11_digestSky_49 ?_
      refine g_aload hκ 1 dX11_digestSky_50 rfl ?_
      refine g_iconst hκ (v := 1) dX11_digestSky_52 (by decide) ?_
      refine rV_i hκ hdR [.int 1] sd_X0_tell qw_994 (fun D cO H s hK hP => rc_Flight hK hP (L5.2.2.2.2 i5 (by omega))) (k_tellFlight_1 S (el 5 i5) (L5.2.2.2.2 i5 (by omega))) ⟨rfl, rfl, Nat.le_of_ble_eq_true rfl, Nat.le_of_ble_eq_true rfl⟩ rfl rfl (Nat.le_of_ble_eq_true rfl) dX11_digestSky_53 (fun r21 hr21 => ?_)
      refine g_eqi hr21 ?_
      refine g_i2l hκ dX11_digestSky_56 ?_
      refine g_ladd hκ dX11_digestSky_57 ?_
      refine g_topl (fun y22 hy22 => ?_)
      refine g_lstore_n hκ [(3, .long y22), (6, .ref (el 5 i5)), (5, .int (nI i5)), (0, .ref x), (1, .long g)] dX11_digestSky_58 rfl (by decide) rfl ?_
      refine g_lload_n hκ 0 dX11_digestSky_59 rfl rfl ?_
      refine g_ldc2 hκ qw_989 dX11_digestSky_60 ?_
      refine g_lmul hκ dX11_digestSky_63 ?_
      refine g_aload hκ 1 dX11_digestSky_64 rfl ?_
      refine g_iconst hκ (v := 5) dX11_digestSky_66 (by decide) ?_
      refine rV_i hκ hdR [.int 5] sd_X0_tell qw_994 (fun D cO H s hK hP => rc_Flight hK hP (L5.2.2.2.2 i5 (by omega))) (k_tellFlight_5 S (el 5 i5) (L5.2.2.2.2 i5 (by omega))) ⟨rfl, rfl, Nat.le_of_ble_eq_true rfl, Nat.le_of_ble_eq_true rfl⟩ rfl rfl (Nat.le_of_ble_eq_true rfl) dX11_digestSky_67 (fun r23 hr23 => ?_)
      refine g_eqi hr23 ?_
      refine g_i2l hκ dX11_digestSky_70 ?_
      refine g_ladd hκ dX11_digestSky_71 ?_
      refine g_topl (fun y24 hy24 => ?_)
      refine g_lstore_n hκ [(3, .long y24), (6, .ref (el 5 i5)), (5, .int (nI i5)), (0, .ref x), (1, .long g)] dX11_digestSky_72 rfl (by decide) rfl ?_
      refine g_lload_n hκ 0 dX11_digestSky_73 rfl rfl ?_
      refine g_ldc2 hκ qw_989 dX11_digestSky_74 ?_
      refine g_lmul hκ dX11_digestSky_77 ?_
      refine g_aload hκ 1 dX11_digestSky_78 rfl ?_
      refine g_bipush hκ (v := 6) dX11_digestSky_80 (by decide) ?_
      refine rV_i hκ hdR [.int 6] sd_X0_tell qw_994 (fun D cO H s hK hP => rc_Flight hK hP (L5.2.2.2.2 i5 (by omega))) (k_tellFlight_6 S (el 5 i5) (L5.2.2.2.2 i5 (by omega))) ⟨rfl, rfl, Nat.le_of_ble_eq_true rfl, Nat.le_of_ble_eq_true rfl⟩ rfl rfl (Nat.le_of_ble_eq_true rfl) dX11_digestSky_82 (fun r25 hr25 => ?_)
      refine g_eqi hr25 ?_
      refine g_i2l hκ dX11_digestSky_85 ?_
      refine g_ladd hκ dX11_digestSky_86 ?_
      refine g_topl (fun y26 hy26 => ?_)
      refine g_lstore_n hκ [(3, .long y26), (6, .ref (el 5 i5)), (5, .int (nI i5)), (0, .ref x), (1, .long g)] dX11_digestSky_87 rfl (by decide) rfl ?_
      obtain ⟨v27, hv27⟩ : ∃ z : Int32, nI i5 + 1 = z := ⟨_, rfl⟩
      refine g_iinc hκ (k := 2) (v := v27) [(5, .int v27), (3, .long y26), (6, .ref (el 5 i5)), (0, .ref x), (1, .long g)] dX11_digestSky_88 rfl hv27 (by decide) rfl ?_
      refine g_goto hκ 5 dX11_digestSky_91 (by decide) ?_
      refine g_lv [(5, .int v27), (3, .long y26), (0, .ref x), (1, .long g)] [0, 1, 3, 4] rfl ?_
      exact ih5 (i5 + 1) v27 y26 (by omega) (lp_s rfl hv27) (by subst hy26 hy24 hy22 hy20; exact hF5)
  exact loop5 (sz 5) 0 0 g (by omega) (by first | rfl | decide) (by first | rfl | decide)
set_option maxHeartbeats 4000000 in
set_option maxRecDepth 100000 in
theorem k_digestTracks (S : wPS) (x lo ta : Nat) (la : Nat → Nat) (el : Nat → Nat → Nat) (sz : Nat → Nat) (g : Int64) (hM : RMx S x lo ta la el sz) (hSQ : SQx S el sz) : MR yX11_digestTracks cX11_digestTracks 7 (some .long) ({ frames := 6, cells := 0, slots := 0, locals := 133 }) S [.ref x, .long g] (vp_Sl (fun r => r = dtrF S x el sz g)) := by
  refine stR_l (post := (fun r => r = dtrF S x el sz g)) (by decide) (Nat.le_of_ble_eq_true rfl) rfl (fun κ hκ hend => ?_)
  show Gj κ _ 0 [(0, .ref x), (1, .long g)] []
  have hMc := hM
  obtain ⟨hx, ⟨f0, L0⟩, ⟨f1, L1⟩, ⟨f2, L2⟩, ⟨f3, L3⟩, ⟨f4, L4⟩, ⟨f5, L5⟩, ⟨f6, L6⟩, ⟨f7, L7⟩, ⟨f8, L8⟩, ⟨flo, hlo⟩, ⟨fta, hta⟩⟩ := hMc
  have b0 := L0.2.2.1
  have b2 := L2.2.2.1
  have b3 := L3.2.2.1
  have b4 := L4.2.2.1
  have b5 := L5.2.2.1
  have b7 := L7.2.2.1
  have b8 := L8.2.2.1
  refine g_lload_n hκ 1 dX11_digestTracks_0 rfl rfl ?_
  refine g_lstore_n hκ [(3, .long g), (0, .ref x), (1, .long g)] dX11_digestTracks_1 rfl (by decide) rfl ?_
  refine g_iconst hκ (v := 0) dX11_digestTracks_2 (by decide) ?_
  refine g_istore hκ [(5, .int 0), (3, .long g), (0, .ref x), (1, .long g)] dX11_digestTracks_3 (by decide) rfl ?_
  have loop5 : ∀ (d5 i5 : Nat) (x5 : Int32) (a5 : Int64), i5 + d5 = sz 7 → x5 = nI i5 → dtrF S x el sz g = fldR (fun i a => dg (ttF S x el sz (el 7 i)) 11 0 a * 31 + Int32.toInt64 (behF S x el sz (el 7 i))) d5 i5 a5 → Gj κ (PR κ S) 5 [(5, .int x5), (3, .long a5), (0, .ref x), (1, .long g)] [] := by
    intro d5
    induction d5 with
    | zero =>
      intro i5 x5 a5 hi5 hx5 hF5
      subst hx5
      refine g_iload hκ 0 dX11_digestTracks_5 rfl ?_
      refine g_aload_n hκ 2 dX11_digestTracks_7 rfl rfl ?_
      refine gt_Room_tracks hκ hdR hx qw_113 (Or.inl rfl) dX11_digestTracks_8 ?_
      refine g_rf f7 ?_
      refine rV_i hκ hdR [] sd_Jx4a65c_size_8abf5 qw_227 (fun D cO H s hK hP => rc_List hK hP L7.1) (k_sizeL S (la 7) 9 (sz 7) (el 7) L7) ⟨rfl, rfl, Nat.le_of_ble_eq_true rfl, Nat.le_of_ble_eq_true rfl⟩ rfl rfl (Nat.le_of_ble_eq_true rfl) dX11_digestTracks_11 (fun r1 hr1 => ?_)
      refine g_eqi hr1 ?_
      refine g_icmp_ge hκ 89 dX11_digestTracks_14 (by decide) (fun _ => ?_) (fun z => absurd (lp_ge rfl (by omega) (by omega)) z)
      refine g_lload_n hκ 1 dX11_digestTracks_89 rfl rfl ?_
      exact hend _ _ _ dX11_digestTracks_90 (hF5.symm)
    | succ d5 ih5 =>
      intro i5 x5 a5 hi5 hx5 hF5
      subst hx5
      refine g_iload hκ 0 dX11_digestTracks_5 rfl ?_
      refine g_aload_n hκ 2 dX11_digestTracks_7 rfl rfl ?_
      refine gt_Room_tracks hκ hdR hx qw_113 (Or.inl rfl) dX11_digestTracks_8 ?_
      refine g_rf f7 ?_
      refine rV_i hκ hdR [] sd_Jx4a65c_size_8abf5 qw_227 (fun D cO H s hK hP => rc_List hK hP L7.1) (k_sizeL S (la 7) 9 (sz 7) (el 7) L7) ⟨rfl, rfl, Nat.le_of_ble_eq_true rfl, Nat.le_of_ble_eq_true rfl⟩ rfl rfl (Nat.le_of_ble_eq_true rfl) dX11_digestTracks_11 (fun r2 hr2 => ?_)
      refine g_eqi hr2 ?_
      refine g_icmp_ge hκ 89 dX11_digestTracks_14 (by decide) (fun z => absurd z (lp_nge rfl (by omega) (by omega))) (fun _ => ?_)
      refine g_iconst hκ (v := 0) dX11_digestTracks_17 (by decide) ?_
      refine g_istore hκ [(6, .int 0), (5, .int (nI i5)), (3, .long a5), (0, .ref x), (1, .long g)] dX11_digestTracks_18 (by decide) rfl ?_
      refine g_iload hκ 0 dX11_digestTracks_20 rfl ?_
      refine g_bipush hκ (v := 10) dX11_digestTracks_22 (by decide) ?_
      refine g_icmp_gt hκ 59 dX11_digestTracks_24 (by decide) (fun z => absurd z (by decide)) (fun _ => ?_)
      refine g_lload_n hκ 2 dX11_digestTracks_27 rfl rfl ?_
      refine g_ldc2 hκ qw_989 dX11_digestTracks_28 ?_
      refine g_lmul hκ dX11_digestTracks_31 ?_
      refine g_aload_n hκ 3 dX11_digestTracks_32 rfl rfl ?_
      refine g_aload_n hκ 3 dX11_digestTracks_33 rfl rfl ?_
      refine gt_Room_tracks hκ hdR hx qw_113 (Or.inl rfl) dX11_digestTracks_34 ?_
      refine g_rf f7 ?_
      refine g_iload hκ 1 dX11_digestTracks_37 rfl ?_
      refine rV_q hκ hdR [.int (nI i5)] sd_Jx4a65c_get_915e3 qw_440 (fun D cO H s hK hP => rc_List hK hP L7.1) (k_get S (la 7) 9 (sz 7) i5 (el 7) (nI i5) L7 rfl (by omega)) ⟨rfl, rfl, Nat.le_of_ble_eq_true rfl, Nat.le_of_ble_eq_true rfl⟩ rfl rfl (Nat.le_of_ble_eq_true rfl) dX11_digestTracks_39 (fun r3 hr3 => ?_)
      refine g_rf hr3 ?_
      refine gc_Track hκ hdR (L7.2.2.2.2 i5 (by omega)) qw_675 dX11_digestTracks_42 ?_
      refine g_iload hκ 0 dX11_digestTracks_45 rfl ?_
      refine rV_i hκ hdR [.ref (el 7 i5), .int 0] sd_X11_tellTrack qw_1006 (fun D cO H s hK hP => rc_Room hK hP hx) (k_tt_0 S x lo ta la el sz (el 7 i5) hM (L7.2.2.2.2 i5 (by omega)) hSQ) ⟨rfl, rfl, Nat.le_of_ble_eq_true rfl, Nat.le_of_ble_eq_true rfl⟩ rfl rfl (Nat.le_of_ble_eq_true rfl) dX11_digestTracks_47 (fun r4 hr4 => ?_)
      refine g_eqi hr4 ?_
      refine g_i2l hκ dX11_digestTracks_50 ?_
      refine g_ladd hκ dX11_digestTracks_51 ?_
      refine g_topl (fun y5 hy5 => ?_)
      refine g_lstore_n hκ [(3, .long y5), (6, .int 0), (5, .int (nI i5)), (0, .ref x), (1, .long g)] dX11_digestTracks_52 rfl (by decide) rfl ?_
      refine g_iinc hκ (k := 1) (v := 1) [(6, .int 1), (3, .long y5), (5, .int (nI i5)), (0, .ref x), (1, .long g)] dX11_digestTracks_53 rfl (by decide) (by decide) rfl ?_
      refine g_goto hκ 20 dX11_digestTracks_56 (by decide) ?_
      refine g_iload hκ 0 dX11_digestTracks_20 rfl ?_
      refine g_bipush hκ (v := 10) dX11_digestTracks_22 (by decide) ?_
      refine g_icmp_gt hκ 59 dX11_digestTracks_24 (by decide) (fun z => absurd z (by decide)) (fun _ => ?_)
      refine g_lload_n hκ 1 dX11_digestTracks_27 rfl rfl ?_
      refine g_ldc2 hκ qw_989 dX11_digestTracks_28 ?_
      refine g_lmul hκ dX11_digestTracks_31 ?_
      refine g_aload_n hκ 3 dX11_digestTracks_32 rfl rfl ?_
      refine g_aload_n hκ 3 dX11_digestTracks_33 rfl rfl ?_
      refine gt_Room_tracks hκ hdR hx qw_113 (Or.inl rfl) dX11_digestTracks_34 ?_
      refine g_rf f7 ?_
      refine g_iload hκ 2 dX11_digestTracks_37 rfl ?_
      refine rV_q hκ hdR [.int (nI i5)] sd_Jx4a65c_get_915e3 qw_440 (fun D cO H s hK hP => rc_List hK hP L7.1) (k_get S (la 7) 9 (sz 7) i5 (el 7) (nI i5) L7 rfl (by omega)) ⟨rfl, rfl, Nat.le_of_ble_eq_true rfl, Nat.le_of_ble_eq_true rfl⟩ rfl rfl (Nat.le_of_ble_eq_true rfl) dX11_digestTracks_39 (fun r6 hr6 => ?_)
      refine g_rf hr6 ?_
      refine gc_Track hκ hdR (L7.2.2.2.2 i5 (by omega)) qw_675 dX11_digestTracks_42 ?_
      refine g_iload hκ 0 dX11_digestTracks_45 rfl ?_
      refine rV_i hκ hdR [.ref (el 7 i5), .int 1] sd_X11_tellTrack qw_1006 (fun D cO H s hK hP => rc_Room hK hP hx) (k_tt_1 S x lo ta la el sz (el 7 i5) hM (L7.2.2.2.2 i5 (by omega)) hSQ) ⟨rfl, rfl, Nat.le_of_ble_eq_true rfl, Nat.le_of_ble_eq_true rfl⟩ rfl rfl (Nat.le_of_ble_eq_true rfl) dX11_digestTracks_47 (fun r7 hr7 => ?_)
      refine g_eqi hr7 ?_
      refine g_i2l hκ dX11_digestTracks_50 ?_
      refine g_ladd hκ dX11_digestTracks_51 ?_
      refine g_topl (fun y8 hy8 => ?_)
      refine g_lstore_n hκ [(3, .long y8), (6, .int 1), (5, .int (nI i5)), (0, .ref x), (1, .long g)] dX11_digestTracks_52 rfl (by decide) rfl ?_
      refine g_iinc hκ (k := 1) (v := 2) [(6, .int 2), (3, .long y8), (5, .int (nI i5)), (0, .ref x), (1, .long g)] dX11_digestTracks_53 rfl (by decide) (by decide) rfl ?_
      refine g_goto hκ 20 dX11_digestTracks_56 (by decide) ?_
      refine g_iload hκ 0 dX11_digestTracks_20 rfl ?_
      refine g_bipush hκ (v := 10) dX11_digestTracks_22 (by decide) ?_
      refine g_icmp_gt hκ 59 dX11_digestTracks_24 (by decide) (fun z => absurd z (by decide)) (fun _ => ?_)
      refine g_lload_n hκ 1 dX11_digestTracks_27 rfl rfl ?_
      refine g_ldc2 hκ qw_989 dX11_digestTracks_28 ?_
      refine g_lmul hκ dX11_digestTracks_31 ?_
      refine g_aload_n hκ 3 dX11_digestTracks_32 rfl rfl ?_
      refine g_aload_n hκ 3 dX11_digestTracks_33 rfl rfl ?_
      refine gt_Room_tracks hκ hdR hx qw_113 (Or.inl rfl) dX11_digestTracks_34 ?_
      refine g_rf f7 ?_
      refine g_iload hκ 2 dX11_digestTracks_37 rfl ?_
      refine rV_q hκ hdR [.int (nI i5)] sd_Jx4a65c_get_915e3 qw_440 (fun D cO H s hK hP => rc_List hK hP L7.1) (k_get S (la 7) 9 (sz 7) i5 (el 7) (nI i5) L7 rfl (by omega)) ⟨rfl, rfl, Nat.le_of_ble_eq_true rfl, Nat.le_of_ble_eq_true rfl⟩ rfl rfl (Nat.le_of_ble_eq_true rfl) dX11_digestTracks_39 (fun r9 hr9 => ?_)
      refine g_rf hr9 ?_
      refine gc_Track hκ hdR (L7.2.2.2.2 i5 (by omega)) qw_675 dX11_digestTracks_42 ?_
      refine g_iload hκ 0 dX11_digestTracks_45 rfl ?_
      refine rV_i hκ hdR [.ref (el 7 i5), .int 2] sd_X11_tellTrack qw_1006 (fun D cO H s hK hP => rc_Room hK hP hx) (k_tt_2 S x lo ta la el sz (el 7 i5) hM (L7.2.2.2.2 i5 (by omega)) hSQ) ⟨rfl, rfl, Nat.le_of_ble_eq_true rfl, Nat.le_of_ble_eq_true rfl⟩ rfl rfl (Nat.le_of_ble_eq_true rfl) dX11_digestTracks_47 (fun r10 hr10 => ?_)
      refine g_eqi hr10 ?_
      refine g_i2l hκ dX11_digestTracks_50 ?_
      refine g_ladd hκ dX11_digestTracks_51 ?_
      refine g_topl (fun y11 hy11 => ?_)
      refine g_lstore_n hκ [(3, .long y11), (6, .int 2), (5, .int (nI i5)), (0, .ref x), (1, .long g)] dX11_digestTracks_52 rfl (by decide) rfl ?_
      refine g_iinc hκ (k := 1) (v := 3) [(6, .int 3), (3, .long y11), (5, .int (nI i5)), (0, .ref x), (1, .long g)] dX11_digestTracks_53 rfl (by decide) (by decide) rfl ?_
      refine g_goto hκ 20 dX11_digestTracks_56 (by decide) ?_
      refine g_iload hκ 0 dX11_digestTracks_20 rfl ?_
      refine g_bipush hκ (v := 10) dX11_digestTracks_22 (by decide) ?_
      refine g_icmp_gt hκ 59 dX11_digestTracks_24 (by decide) (fun z => absurd z (by decide)) (fun _ => ?_)
      refine g_lload_n hκ 1 dX11_digestTracks_27 rfl rfl ?_
      refine g_ldc2 hκ qw_989 dX11_digestTracks_28 ?_
      refine g_lmul hκ dX11_digestTracks_31 ?_
      refine g_aload_n hκ 3 dX11_digestTracks_32 rfl rfl ?_
      refine g_aload_n hκ 3 dX11_digestTracks_33 rfl rfl ?_
      refine gt_Room_tracks hκ hdR hx qw_113 (Or.inl rfl) dX11_digestTracks_34 ?_
      refine g_rf f7 ?_
      refine g_iload hκ 2 dX11_digestTracks_37 rfl ?_
      refine rV_q hκ hdR [.int (nI i5)] sd_Jx4a65c_get_915e3 qw_440 (fun D cO H s hK hP => rc_List hK hP L7.1) (k_get S (la 7) 9 (sz 7) i5 (el 7) (nI i5) L7 rfl (by omega)) ⟨rfl, rfl, Nat.le_of_ble_eq_true rfl, Nat.le_of_ble_eq_true rfl⟩ rfl rfl (Nat.le_of_ble_eq_true rfl) dX11_digestTracks_39 (fun r12 hr12 => ?_)
      refine g_rf hr12 ?_
      refine gc_Track hκ hdR (L7.2.2.2.2 i5 (by omega)) qw_675 dX11_digestTracks_42 ?_
      refine g_iload hκ 0 dX11_digestTracks_45 rfl ?_
      refine rV_i hκ hdR [.ref (el 7 i5), .int 3] sd_X11_tellTrack qw_1006 (fun D cO H s hK hP => rc_Room hK hP hx) (k_tt_3 S x lo ta la el sz (el 7 i5) hM (L7.2.2.2.2 i5 (by omega)) hSQ) ⟨rfl, rfl, Nat.le_of_ble_eq_true rfl, Nat.le_of_ble_eq_true rfl⟩ rfl rfl (Nat.le_of_ble_eq_true rfl) dX11_digestTracks_47 (fun r13 hr13 => ?_)
      refine g_eqi hr13 ?_
      refine g_i2l hκ dX11_digestTracks_50 ?_
      refine g_ladd hκ dX11_digestTracks_51 ?_
      refine g_topl (fun y14 hy14 => ?_)
      refine g_lstore_n hκ [(3, .long y14), (6, .int 3), (5, .int (nI i5)), (0, .ref x), (1, .long g)] dX11_digestTracks_52 rfl (by decide) rfl ?_
      refine g_iinc hκ (k := 1) (v := 4) [(6, .int 4), (3, .long y14), (5, .int (nI i5)), (0, .ref x), (1, .long g)] dX11_digestTracks_53 rfl (by decide) (by decide) rfl ?_
      refine g_goto hκ 20 dX11_digestTracks_56 (by decide) ?_
      refine g_iload hκ 0 dX11_digestTracks_20 rfl ?_
      refine g_bipush hκ (v := 10) dX11_digestTracks_22 (by decide) ?_
      refine g_icmp_gt hκ 59 dX11_digestTracks_24 (by decide) (fun z => absurd z (by decide)) (fun _ => ?_)
      refine g_lload_n hκ 1 dX11_digestTracks_27 rfl rfl ?_
      refine g_ldc2 hκ qw_989 dX11_digestTracks_28 ?_
      refine g_lmul hκ dX11_digestTracks_31 ?_
      refine g_aload_n hκ 3 dX11_digestTracks_32 rfl rfl ?_
      refine g_aload_n hκ 3 dX11_digestTracks_33 rfl rfl ?_
      refine gt_Room_tracks hκ hdR hx qw_113 (Or.inl rfl) dX11_digestTracks_34 ?_
      refine g_rf f7 ?_
      refine g_iload hκ 2 dX11_digestTracks_37 rfl ?_
      refine rV_q hκ hdR [.int (nI i5)] sd_Jx4a65c_get_915e3 qw_440 (fun D cO H s hK hP => rc_List hK hP L7.1) (k_get S (la 7) 9 (sz 7) i5 (el 7) (nI i5) L7 rfl (by omega)) ⟨rfl, rfl, Nat.le_of_ble_eq_true rfl, Nat.le_of_ble_eq_true rfl⟩ rfl rfl (Nat.le_of_ble_eq_true rfl) dX11_digestTracks_39 (fun r15 hr15 => ?_)
      refine g_rf hr15 ?_
      refine gc_Track hκ hdR (L7.2.2.2.2 i5 (by omega)) qw_675 dX11_digestTracks_42 ?_
      refine g_iload hκ 0 dX11_digestTracks_45 rfl ?_
      refine rV_i hκ hdR [.ref (el 7 i5), .int 4] sd_X11_tellTrack qw_1006 (fun D cO H s hK hP => rc_Room hK hP hx) (k_tt_4 S x lo ta la el sz (el 7 i5) hM (L7.2.2.2.2 i5 (by omega)) hSQ) ⟨rfl, rfl, Nat.le_of_ble_eq_true rfl, Nat.le_of_ble_eq_true rfl⟩ rfl rfl (Nat.le_of_ble_eq_true rfl) dX11_digestTracks_47 (fun r16 hr16 => ?_)
      refine g_eqi hr16 ?_
      refine g_i2l hκ dX11_digestTracks_50 ?_
      refine g_ladd hκ dX11_digestTracks_51 ?_
      refine g_topl (fun y17 hy17 => ?_)
      refine g_lstore_n hκ [(3, .long y17), (6, .int 4), (5, .int (nI i5)), (0, .ref x), (1, .long g)] dX11_digestTracks_52 rfl (by decide) rfl ?_
      refine g_iinc hκ (k := 1) (v := 5) [(6, .int 5), (3, .long y17), (5, .int (nI i5)), (0, .ref x), (1, .long g)] dX11_digestTracks_53 rfl (by decide) (by decide) rfl ?_
      refine g_goto hκ 20 dX11_digestTracks_56 (by decide) ?_
      refine g_iload hκ 0 dX11_digestTracks_20 rfl ?_
      refine g_bipush hκ (v := 10) dX11_digestTracks_22 (by decide) ?_
      refine g_icmp_gt hκ 59 dX11_digestTracks_24 (by decide) (fun z => absurd z (by decide)) (fun _ => ?_)
      refine g_lload_n hκ 1 dX11_digestTracks_27 rfl rfl ?_
      refine g_ldc2 hκ qw_989 dX11_digestTracks_28 ?_
      refine g_lmul hκ dX11_digestTracks_31 ?_
      refine g_aload_n hκ 3 dX11_digestTracks_32 rfl rfl ?_
      refine g_aload_n hκ 3 dX11_digestTracks_33 rfl rfl ?_
      refine gt_Room_tracks hκ hdR hx qw_113 (Or.inl rfl) dX11_digestTracks_34 ?_
      refine g_rf f7 ?_
      refine g_iload hκ 2 dX11_digestTracks_37 rfl ?_
      refine rV_q hκ hdR [.int (nI i5)] sd_Jx4a65c_get_915e3 qw_440 (fun D cO H s hK hP => rc_List hK hP L7.1) (k_get S (la 7) 9 (sz 7) i5 (el 7) (nI i5) L7 rfl (by omega)) ⟨rfl, rfl, Nat.le_of_ble_eq_true rfl, Nat.le_of_ble_eq_true rfl⟩ rfl rfl (Nat.le_of_ble_eq_true rfl) dX11_digestTracks_39 (fun r18 hr18 => ?_)
      refine g_rf hr18 ?_
      refine gc_Track hκ hdR (L7.2.2.2.2 i5 (by omega)) qw_675 dX11_digestTracks_42 ?_
      refine g_iload hκ 0 dX11_digestTracks_45 rfl ?_
      refine rV_i hκ hdR [.ref (el 7 i5), .int 5] sd_X11_tellTrack qw_1006 (fun D cO H s hK hP => rc_Room hK hP hx) (k_tt_5 S x lo ta la el sz (el 7 i5) hM (L7.2.2.2.2 i5 (by omega)) hSQ) ⟨rfl, rfl, Nat.le_of_ble_eq_true rfl, Nat.le_of_ble_eq_true rfl⟩ rfl rfl (Nat.le_of_ble_eq_true rfl) dX11_digestTracks_47 (fun r19 hr19 => ?_)
      refine g_eqi hr19 ?_
      refine g_i2l hκ dX11_digestTracks_50 ?_
      refine g_ladd hκ dX11_digestTracks_51 ?_
      refine g_topl (fun y20 hy20 => ?_)
      refine g_lstore_n hκ [(3, .long y20), (6, .int 5), (5, .int (nI i5)), (0, .ref x), (1, .long g)] dX11_digestTracks_52 rfl (by decide) rfl ?_
      refine g_iinc hκ (k := 1) (v := 6) [(6, .int 6), (3, .long y20), (5, .int (nI i5)), (0, .ref x), (1, .long g)] dX11_digestTracks_53 rfl (by decide) (by decide) rfl ?_
      refine g_goto hκ 20 dX11_digestTracks_56 (by decide) ?_
      refine g_iload hκ 0 dX11_digestTracks_20 rfl ?_
      refine g_bipush hκ (v := 10) dX11_digestTracks_22 (by decide) ?_
      refine g_icmp_gt hκ 59 dX11_digestTracks_24 (by decide) (fun z => absurd z (by decide)) (fun _ => ?_)
      refine g_lload_n hκ 1 dX11_digestTracks_27 rfl rfl ?_
      refine g_ldc2 hκ qw_989 dX11_digestTracks_28 ?_
      refine g_lmul hκ dX11_digestTracks_31 ?_
      refine g_aload_n hκ 3 dX11_digestTracks_32 rfl rfl ?_
      refine g_aload_n hκ 3 dX11_digestTracks_33 rfl rfl ?_
      refine gt_Room_tracks hκ hdR hx qw_113 (Or.inl rfl) dX11_digestTracks_34 ?_
      refine g_rf f7 ?_
      refine g_iload hκ 2 dX11_digestTracks_37 rfl ?_
      refine rV_q hκ hdR [.int (nI i5)] sd_Jx4a65c_get_915e3 qw_440 (fun D cO H s hK hP => rc_List hK hP L7.1) (k_get S (la 7) 9 (sz 7) i5 (el 7) (nI i5) L7 rfl (by omega)) ⟨rfl, rfl, Nat.le_of_ble_eq_true rfl, Nat.le_of_ble_eq_true rfl⟩ rfl rfl (Nat.le_of_ble_eq_true rfl) dX11_digestTracks_39 (fun r21 hr21 => ?_)
      refine g_rf hr21 ?_
      refine gc_Track hκ hdR (L7.2.2.2.2 i5 (by omega)) qw_675 dX11_digestTracks_42 ?_
      refine g_iload hκ 0 dX11_digestTracks_45 rfl ?_
      refine rV_i hκ hdR [.ref (el 7 i5), .int 6] sd_X11_tellTrack qw_1006 (fun D cO H s hK hP => rc_Room hK hP hx) (k_tt_6 S x lo ta la el sz (el 7 i5) hM (L7.2.2.2.2 i5 (by omega)) hSQ) ⟨rfl, rfl, Nat.le_of_ble_eq_true rfl, Nat.le_of_ble_eq_true rfl⟩ rfl rfl (Nat.le_of_ble_eq_true rfl) dX11_digestTracks_47 (fun r22 hr22 => ?_)
      refine g_eqi hr22 ?_
      refine g_i2l hκ dX11_digestTracks_50 ?_
      refine g_ladd hκ dX11_digestTracks_51 ?_
      refine g_topl (fun y23 hy23 => ?_)
      refine g_lstore_n hκ [(3, .long y23), (6, .int 6), (5, .int (nI i5)), (0, .ref x), (1, .long g)] dX11_digestTracks_52 rfl (by decide) rfl ?_
      refine g_iinc hκ (k := 1) (v := 7) [(6, .int 7), (3, .long y23), (5, .int (nI i5)), (0, .ref x), (1, .long g)] dX11_digestTracks_53 rfl (by decide) (by decide) rfl ?_
      refine g_goto hκ 20 dX11_digestTracks_56 (by decide) ?_
      refine g_iload hκ 0 dX11_digestTracks_20 rfl ?_
      refine g_bipush hκ (v := 10) dX11_digestTracks_22 (by decide) ?_
      refine g_icmp_gt hκ 59 dX11_digestTracks_24 (by decide) (fun z => absurd z (by decide)) (fun _ => ?_)
      refine g_lload_n hκ 1 dX11_digestTracks_27 rfl rfl ?_
      refine g_ldc2 hκ qw_989 dX11_digestTracks_28 ?_
      refine g_lmul hκ dX11_digestTracks_31 ?_
      refine g_aload_n hκ 3 dX11_digestTracks_32 rfl rfl ?_
      refine g_aload_n hκ 3 dX11_digestTracks_33 rfl rfl ?_
      refine gt_Room_tracks hκ hdR hx qw_113 (Or.inl rfl) dX11_digestTracks_34 ?_
      refine g_rf f7 ?_
      refine g_iload hκ 2 dX11_digestTracks_37 rfl ?_
      refine rV_q hκ hdR [.int (nI i5)] sd_Jx4a65c_get_915e3 qw_440 (fun D cO H s hK hP => rc_List hK hP L7.1) (k_get S (la 7) 9 (sz 7) i5 (el 7) (nI i5) L7 rfl (by omega)) ⟨rfl, rfl, Nat.le_of_ble_eq_true rfl, Nat.le_of_ble_eq_true rfl⟩ rfl rfl (Nat.le_of_ble_eq_true rfl) dX11_digestTracks_39 (fun r24 hr24 => ?_)
      refine g_rf hr24 ?_
      refine gc_Track hκ hdR (L7.2.2.2.2 i5 (by omega)) qw_675 dX11_digestTracks_42 ?_
      refine g_iload hκ 0 dX11_digestTracks_45 rfl ?_
      refine rV_i hκ hdR [.ref (el 7 i5), .int 7] sd_X11_tellTrack qw_1006 (fun D cO H s hK hP => rc_Room hK hP hx) (k_tt_7 S x lo ta la el sz (el 7 i5) hM (L7.2.2.2.2 i5 (by omega)) hSQ) ⟨rfl, rfl, Nat.le_of_ble_eq_true rfl, Nat.le_of_ble_eq_true rfl⟩ rfl rfl (Nat.le_of_ble_eq_true rfl) dX11_digestTracks_47 (fun r25 hr25 => ?_)
      refine g_eqi hr25 ?_
      refine g_i2l hκ dX11_digestTracks_50 ?_
      refine g_ladd hκ dX11_digestTracks_51 ?_
      refine g_topl (fun y26 hy26 => ?_)
      refine g_lstore_n hκ [(3, .long y26), (6, .int 7), (5, .int (nI i5)), (0, .ref x), (1, .long g)] dX11_digestTracks_52 rfl (by decide) rfl ?_
      refine g_iinc hκ (k := 1) (v := 8) [(6, .int 8), (3, .long y26), (5, .int (nI i5)), (0, .ref x), (1, .long g)] dX11_digestTracks_53 rfl (by decide) (by decide) rfl ?_
      refine g_goto hκ 20 dX11_digestTracks_56 (by decide) ?_
      refine g_iload hκ 0 dX11_digestTracks_20 rfl ?_
      refine g_bipush hκ (v := 10) dX11_digestTracks_22 (by decide) ?_
      refine g_icmp_gt hκ 59 dX11_digestTracks_24 (by decide) (fun z => absurd z (by decide)) (fun _ => ?_)
      refine g_lload_n hκ 1 dX11_digestTracks_27 rfl rfl ?_
      refine g_ldc2 hκ qw_989 dX11_digestTracks_28 ?_
      refine g_lmul hκ dX11_digestTracks_31 ?_
      refine g_aload_n hκ 3 dX11_digestTracks_32 rfl rfl ?_
      refine g_aload_n hκ 3 dX11_digestTracks_33 rfl rfl ?_
      refine gt_Room_tracks hκ hdR hx qw_113 (Or.inl rfl) dX11_digestTracks_34 ?_
      refine g_rf f7 ?_
      refine g_iload hκ 2 dX11_digestTracks_37 rfl ?_
      refine rV_q hκ hdR [.int (nI i5)] sd_Jx4a65c_get_915e3 qw_440 (fun D cO H s hK hP => rc_List hK hP L7.1) (k_get S (la 7) 9 (sz 7) i5 (el 7) (nI i5) L7 rfl (by omega)) ⟨rfl, rfl, Nat.le_of_ble_eq_true rfl, Nat.le_of_ble_eq_true rfl⟩ rfl rfl (Nat.le_of_ble_eq_true rfl) dX11_digestTracks_39 (fun r27 hr27 => ?_)
      refine g_rf hr27 ?_
      refine gc_Track hκ hdR (L7.2.2.2.2 i5 (by omega)) qw_675 dX11_digestTracks_42 ?_
      refine g_iload hκ 0 dX11_digestTracks_45 rfl ?_
      refine rV_i hκ hdR [.ref (el 7 i5), .int 8] sd_X11_tellTrack qw_1006 (fun D cO H s hK hP => rc_Room hK hP hx) (k_tt_8 S x lo ta la el sz (el 7 i5) hM (L7.2.2.2.2 i5 (by omega)) hSQ) ⟨rfl, rfl, Nat.le_of_ble_eq_true rfl, Nat.le_of_ble_eq_true rfl⟩ rfl rfl (Nat.le_of_ble_eq_true rfl) dX11_digestTracks_47 (fun r28 hr28 => ?_)
      refine g_eqi hr28 ?_
      refine g_i2l hκ dX11_digestTracks_50 ?_
      refine g_ladd hκ dX11_digestTracks_51 ?_
      refine g_topl (fun y29 hy29 => ?_)
      refine g_lstore_n hκ [(3, .long y29), (6, .int 8), (5, .int (nI i5)), (0, .ref x), (1, .long g)] dX11_digestTracks_52 rfl (by decide) rfl ?_
      refine g_iinc hκ (k := 1) (v := 9) [(6, .int 9), (3, .long y29), (5, .int (nI i5)), (0, .ref x), (1, .long g)] dX11_digestTracks_53 rfl (by decide) (by decide) rfl ?_
      refine g_goto hκ 20 dX11_digestTracks_56 (by decide) ?_
      refine g_iload hκ 0 dX11_digestTracks_20 rfl ?_
      refine g_bipush hκ (v := 10) dX11_digestTracks_22 (by decide) ?_
      refine g_icmp_gt hκ 59 dX11_digestTracks_24 (by decide) (fun z => absurd z (by decide)) (fun _ => ?_)
      refine g_lload_n hκ 1 dX11_digestTracks_27 rfl rfl ?_
      refine g_ldc2 hκ qw_989 dX11_digestTracks_28 ?_
      refine g_lmul hκ dX11_digestTracks_31 ?_
      refine g_aload_n hκ 3 dX11_digestTracks_32 rfl rfl ?_
      refine g_aload_n hκ 3 dX11_digestTracks_33 rfl rfl ?_
      refine gt_Room_tracks hκ hdR hx qw_113 (Or.inl rfl) dX11_digestTracks_34 ?_
      refine g_rf f7 ?_
      refine g_iload hκ 2 dX11_digestTracks_37 rfl ?_
      refine rV_q hκ hdR [.int (nI i5)] sd_Jx4a65c_get_915e3 qw_440 (fun D cO H s hK hP => rc_List hK hP L7.1) (k_get S (la 7) 9 (sz 7) i5 (el 7) (nI i5) L7 rfl (by omega)) ⟨rfl, rfl, Nat.le_of_ble_eq_true rfl, Nat.le_of_ble_eq_true rfl⟩ rfl rfl (Nat.le_of_ble_eq_true rfl) dX11_digestTracks_39 (fun r30 hr30 => ?_)
      refine g_rf hr30 ?_
      refine gc_Track hκ hdR (L7.2.2.2.2 i5 (by omega)) qw_675 dX11_digestTracks_42 ?_
      refine g_iload hκ 0 dX11_digestTracks_45 rfl ?_
      refine rV_i hκ hdR [.ref (el 7 i5), .int 9] sd_X11_tellTrack qw_1006 (fun D cO H s hK hP => rc_Room hK hP hx) (k_tt_9 S x lo ta la el sz (el 7 i5) hM (L7.2.2.2.2 i5 (by omega)) hSQ) ⟨rfl, rfl, Nat.le_of_ble_eq_true rfl, Nat.le_of_ble_eq_true rfl⟩ rfl rfl (Nat.le_of_ble_eq_true rfl) dX11_digestTracks_47 (fun r31 hr31 => ?_)
      refine g_eqi hr31 ?_
      refine g_i2l hκ dX11_digestTracks_50 ?_
      refine g_ladd hκ dX11_digestTracks_51 ?_
      refine g_topl (fun y32 hy32 => ?_)
      refine g_lstore_n hκ [(3, .long y32), (6, .int 9), (5, .int (nI i5)), (0, .ref x), (1, .long g)] dX11_digestTracks_52 rfl (by decide) rfl ?_
      refine g_iinc hκ (k := 1) (v := 10) [(6, .int 10), (3, .long y32), (5, .int (nI i5)), (0, .ref x), (1, .long g)] dX11_digestTracks_53 rfl (by decide) (by decide) rfl ?_
      refine g_goto hκ 20 dX11_digestTracks_56 (by decide) ?_
      refine g_iload hκ 0 dX11_digestTracks_20 rfl ?_
      refine g_bipush hκ (v := 10) dX11_digestTracks_22 (by decide) ?_
      refine g_icmp_gt hκ 59 dX11_digestTracks_24 (by decide) (fun z => absurd z (by decide)) (fun _ => ?_)
      refine g_lload_n hκ 1 dX11_digestTracks_27 rfl rfl ?_
      refine g_ldc2 hκ qw_989 dX11_digestTracks_28 ?_
      refine g_lmul hκ dX11_digestTracks_31 ?_
      refine g_aload_n hκ 3 dX11_digestTracks_32 rfl rfl ?_
      refine g_aload_n hκ 3 dX11_digestTracks_33 rfl rfl ?_
      refine gt_Room_tracks hκ hdR hx qw_113 (Or.inl rfl) dX11_digestTracks_34 ?_
      refine g_rf f7 ?_
      refine g_iload hκ 2 dX11_digestTracks_37 rfl ?_
      refine rV_q hκ hdR [.int (nI i5)] sd_Jx4a65c_get_915e3 qw_440 (fun D cO H s hK hP => rc_List hK hP L7.1) (k_get S (la 7) 9 (sz 7) i5 (el 7) (nI i5) L7 rfl (by omega)) ⟨rfl, rfl, Nat.le_of_ble_eq_true rfl, Nat.le_of_ble_eq_true rfl⟩ rfl rfl (Nat.le_of_ble_eq_true rfl) dX11_digestTracks_39 (fun r33 hr33 => ?_)
      refine g_rf hr33 ?_
      refine gc_Track hκ hdR (L7.2.2.2.2 i5 (by omega)) qw_675 dX11_digestTracks_42 ?_
      refine g_iload hκ 0 dX11_digestTracks_45 rfl ?_
      refine rV_i hκ hdR [.ref (el 7 i5), .int 10] sd_X11_tellTrack qw_1006 (fun D cO H s hK hP => rc_Room hK hP hx) (k_tt_10 S x lo ta la el sz (el 7 i5) hM (L7.2.2.2.2 i5 (by omega)) hSQ) ⟨rfl, rfl, Nat.le_of_ble_eq_true rfl, Nat.le_of_ble_eq_true rfl⟩ rfl rfl (Nat.le_of_ble_eq_true rfl) dX11_digestTracks_47 (fun r34 hr34 => ?_)
      refine g_eqi hr34 ?_
      refine g_i2l hκ dX11_digestTracks_50 ?_
      refine g_ladd hκ dX11_digestTracks_51 ?_
      refine g_topl (fun y35 hy35 => ?_)
      refine g_lstore_n hκ [(3, .long y35), (6, .int 10), (5, .int (nI i5)), (0, .ref x), (1, .long g)] dX11_digestTracks_52 rfl (by decide) rfl ?_
      refine g_iinc hκ (k := 1) (v := 11) [(6, .int 11), (3, .long y35), (5, .int (nI i5)), (0, .ref x), (1, .long g)] dX11_digestTracks_53 rfl (by decide) (by decide) rfl ?_
      refine g_goto hκ 20 dX11_digestTracks_56 (by decide) ?_
      refine g_iload hκ 0 dX11_digestTracks_20 rfl ?_
      refine g_bipush hκ (v := 10) dX11_digestTracks_22 (by decide) ?_
      refine g_icmp_gt hκ 59 dX11_digestTracks_24 (by decide) (fun _ => ?_) (fun z => absurd z (by decide))
      refine g_lload_n hκ 1 dX11_digestTracks_59 rfl rfl ?_
      refine g_ldc2 hκ qw_989 dX11_digestTracks_60 ?_
      refine g_lmul hκ dX11_digestTracks_63 ?_
      refine g_aload_n hκ 3 dX11_digestTracks_64 rfl rfl ?_
      refine g_aload_n hκ 3 dX11_digestTracks_65 rfl rfl ?_
      refine gt_Room_tracks hκ hdR hx qw_113 (Or.inl rfl) dX11_digestTracks_66 ?_
      refine g_rf f7 ?_
      refine g_iload hκ 2 dX11_digestTracks_69 rfl ?_
      refine rV_q hκ hdR [.int (nI i5)] sd_Jx4a65c_get_915e3 qw_440 (fun D cO H s hK hP => rc_List hK hP L7.1) (k_get S (la 7) 9 (sz 7) i5 (el 7) (nI i5) L7 rfl (by omega)) ⟨rfl, rfl, Nat.le_of_ble_eq_true rfl, Nat.le_of_ble_eq_true rfl⟩ rfl rfl (Nat.le_of_ble_eq_true rfl) dX11_digestTracks_71 (fun r36 hr36 => ?_)
      refine g_rf hr36 ?_
      refine gc_Track hκ hdR (L7.2.2.2.2 i5 (by omega)) qw_675 dX11_digestTracks_74 ?_
      refine rV_i hκ hdR [.ref (el 7 i5)] sd_X11_flightBehind qw_1019 (fun D cO H s hK hP => rc_Room hK hP hx) (k_flightBehind S x lo ta la el sz (el 7 i5) hM (L7.2.2.2.2 i5 (by omega))) ⟨rfl, rfl, Nat.le_of_ble_eq_true rfl, Nat.le_of_ble_eq_true rfl⟩ rfl rfl (Nat.le_of_ble_eq_true rfl) dX11_digestTracks_77 (fun r37 hr37 => ?_)
      refine g_eqi hr37 ?_
      refine g_i2l hκ dX11_digestTracks_80 ?_
      refine g_ladd hκ dX11_digestTracks_81 ?_
      refine g_topl (fun y38 hy38 => ?_)
      refine g_lstore_n hκ [(3, .long y38), (6, .int 11), (5, .int (nI i5)), (0, .ref x), (1, .long g)] dX11_digestTracks_82 rfl (by decide) rfl ?_
      obtain ⟨v39, hv39⟩ : ∃ z : Int32, nI i5 + 1 = z := ⟨_, rfl⟩
      refine g_iinc hκ (k := 2) (v := v39) [(5, .int v39), (3, .long y38), (6, .int 11), (0, .ref x), (1, .long g)] dX11_digestTracks_83 rfl hv39 (by decide) rfl ?_
      refine g_goto hκ 5 dX11_digestTracks_86 (by decide) ?_
      refine g_lv [(5, .int v39), (3, .long y38), (0, .ref x), (1, .long g)] [0, 1, 3, 4] rfl ?_
      exact ih5 (i5 + 1) v39 y38 (by omega) (lp_s rfl hv39) (by subst hy38 hy35 hy32 hy29 hy26 hy23 hy20 hy17 hy14 hy11 hy8 hy5; exact hF5)
  exact loop5 (sz 7) 0 0 g (by omega) (by first | rfl | decide) (by first | rfl | decide)
set_option maxHeartbeats 4000000 in
set_option maxRecDepth 100000 in
theorem k_digest (S : wPS) (x lo ta : Nat) (la : Nat → Nat) (el : Nat → Nat → Nat) (sz : Nat → Nat) (hM : RMx S x lo ta la el sz) (hSQ : SQx S el sz) (h12 : sz 5 ≤ 12) : MR yX11_digest cX11_digest 5 (some .long) ({ frames := 7, cells := 0, slots := 0, locals := 159 }) S [.ref x] (vp_Sl (fun r => r = digF S x lo ta el sz)) := by
  refine stR_l (post := (fun r => r = digF S x lo ta el sz)) (by decide) (Nat.le_of_ble_eq_true rfl) rfl (fun κ hκ hend => ?_)
  show Gj κ _ 0 [(0, .ref x)] []
  have hMc := hM
  obtain ⟨hx, ⟨f0, L0⟩, ⟨f1, L1⟩, ⟨f2, L2⟩, ⟨f3, L3⟩, ⟨f4, L4⟩, ⟨f5, L5⟩, ⟨f6, L6⟩, ⟨f7, L7⟩, ⟨f8, L8⟩, ⟨flo, hlo⟩, ⟨fta, hta⟩⟩ := hMc
  have b0 := L0.2.2.1
  have b2 := L2.2.2.1
  have b3 := L3.2.2.1
  have b4 := L4.2.2.1
  have b5 := L5.2.2.1
  have b7 := L7.2.2.1
  have b8 := L8.2.2.1
  refine g_ldc2 hκ qw_988 dX11_digest_0 ?_
  refine g_lstore_n hκ [(1, .long (7001 : Int64)), (0, .ref x)] dX11_digest_3 rfl (by decide) rfl ?_
  refine g_iconst hκ (v := 0) dX11_digest_4 (by decide) ?_
  refine g_istore_n hκ [(3, .int 0), (1, .long (7001 : Int64)), (0, .ref x)] dX11_digest_5 rfl (by decide) rfl ?_
  refine g_iload_n hκ 0 dX11_digest_6 rfl rfl ?_
  refine g_bipush hκ (v := 20) dX11_digest_7 (by decide) ?_
  refine g_icmp_gt hκ 31 dX11_digest_9 (by decide) (fun z => absurd z (by decide)) (fun _ => ?_)
  refine g_lload_n hκ 1 dX11_digest_12 rfl rfl ?_
  refine g_ldc2 hκ qw_989 dX11_digest_13 ?_
  refine g_lmul hκ dX11_digest_16 ?_
  refine g_aload_n hκ 2 dX11_digest_17 rfl rfl ?_
  refine g_iload_n hκ 0 dX11_digest_18 rfl rfl ?_
  refine rV_i hκ hdR [.int 0] sd_X11_tellRoom qw_878 (fun D cO H s hK hP => rc_Room hK hP hx) (k_rm_0 S x lo ta la el sz hM) ⟨rfl, rfl, Nat.le_of_ble_eq_true rfl, Nat.le_of_ble_eq_true rfl⟩ rfl rfl (Nat.le_of_ble_eq_true rfl) dX11_digest_19 (fun r1 hr1 => ?_)
  refine g_eqi hr1 ?_
  refine g_i2l hκ dX11_digest_22 ?_
  refine g_ladd hκ dX11_digest_23 ?_
  refine g_topl (fun y2 hy2 => ?_)
  refine g_lstore_n hκ [(1, .long y2), (3, .int 0), (0, .ref x)] dX11_digest_24 rfl (by decide) rfl ?_
  refine g_iinc hκ (k := 1) (v := 1) [(3, .int 1), (1, .long y2), (0, .ref x)] dX11_digest_25 rfl (by decide) (by decide) rfl ?_
  refine g_goto hκ 6 dX11_digest_28 (by decide) ?_
  refine g_iload_n hκ 0 dX11_digest_6 rfl rfl ?_
  refine g_bipush hκ (v := 20) dX11_digest_7 (by decide) ?_
  refine g_icmp_gt hκ 31 dX11_digest_9 (by decide) (fun z => absurd z (by decide)) (fun _ => ?_)
  refine g_lload_n hκ 1 dX11_digest_12 rfl rfl ?_
  refine g_ldc2 hκ qw_989 dX11_digest_13 ?_
  refine g_lmul hκ dX11_digest_16 ?_
  refine g_aload_n hκ 2 dX11_digest_17 rfl rfl ?_
  refine g_iload_n hκ 0 dX11_digest_18 rfl rfl ?_
  refine rV_i hκ hdR [.int 1] sd_X11_tellRoom qw_878 (fun D cO H s hK hP => rc_Room hK hP hx) (k_rm_1 S x lo ta la el sz hM) ⟨rfl, rfl, Nat.le_of_ble_eq_true rfl, Nat.le_of_ble_eq_true rfl⟩ rfl rfl (Nat.le_of_ble_eq_true rfl) dX11_digest_19 (fun r3 hr3 => ?_)
  refine g_eqi hr3 ?_
  refine g_i2l hκ dX11_digest_22 ?_
  refine g_ladd hκ dX11_digest_23 ?_
  refine g_topl (fun y4 hy4 => ?_)
  refine g_lstore_n hκ [(1, .long y4), (3, .int 1), (0, .ref x)] dX11_digest_24 rfl (by decide) rfl ?_
  refine g_iinc hκ (k := 1) (v := 2) [(3, .int 2), (1, .long y4), (0, .ref x)] dX11_digest_25 rfl (by decide) (by decide) rfl ?_
  refine g_goto hκ 6 dX11_digest_28 (by decide) ?_
  refine g_iload_n hκ 0 dX11_digest_6 rfl rfl ?_
  refine g_bipush hκ (v := 20) dX11_digest_7 (by decide) ?_
  refine g_icmp_gt hκ 31 dX11_digest_9 (by decide) (fun z => absurd z (by decide)) (fun _ => ?_)
  refine g_lload_n hκ 1 dX11_digest_12 rfl rfl ?_
  refine g_ldc2 hκ qw_989 dX11_digest_13 ?_
  refine g_lmul hκ dX11_digest_16 ?_
  refine g_aload_n hκ 2 dX11_digest_17 rfl rfl ?_
  refine g_iload_n hκ 0 dX11_digest_18 rfl rfl ?_
  refine rV_i hκ hdR [.int 2] sd_X11_tellRoom qw_878 (fun D cO H s hK hP => rc_Room hK hP hx) (k_rm_2 S x lo ta la el sz hM) ⟨rfl, rfl, Nat.le_of_ble_eq_true rfl, Nat.le_of_ble_eq_true rfl⟩ rfl rfl (Nat.le_of_ble_eq_true rfl) dX11_digest_19 (fun r5 hr5 => ?_)
  refine g_eqi hr5 ?_
  refine g_i2l hκ dX11_digest_22 ?_
  refine g_ladd hκ dX11_digest_23 ?_
  refine g_topl (fun y6 hy6 => ?_)
  refine g_lstore_n hκ [(1, .long y6), (3, .int 2), (0, .ref x)] dX11_digest_24 rfl (by decide) rfl ?_
  refine g_iinc hκ (k := 1) (v := 3) [(3, .int 3), (1, .long y6), (0, .ref x)] dX11_digest_25 rfl (by decide) (by decide) rfl ?_
  refine g_goto hκ 6 dX11_digest_28 (by decide) ?_
  refine g_iload_n hκ 0 dX11_digest_6 rfl rfl ?_
  refine g_bipush hκ (v := 20) dX11_digest_7 (by decide) ?_
  refine g_icmp_gt hκ 31 dX11_digest_9 (by decide) (fun z => absurd z (by decide)) (fun _ => ?_)
  refine g_lload_n hκ 1 dX11_digest_12 rfl rfl ?_
  refine g_ldc2 hκ qw_989 dX11_digest_13 ?_
  refine g_lmul hκ dX11_digest_16 ?_
  refine g_aload_n hκ 2 dX11_digest_17 rfl rfl ?_
  refine g_iload_n hκ 0 dX11_digest_18 rfl rfl ?_
  refine rV_i hκ hdR [.int 3] sd_X11_tellRoom qw_878 (fun D cO H s hK hP => rc_Room hK hP hx) (k_rm_3 S x lo ta la el sz hM) ⟨rfl, rfl, Nat.le_of_ble_eq_true rfl, Nat.le_of_ble_eq_true rfl⟩ rfl rfl (Nat.le_of_ble_eq_true rfl) dX11_digest_19 (fun r7 hr7 => ?_)
  refine g_eqi hr7 ?_
  refine g_i2l hκ dX11_digest_22 ?_
  refine g_ladd hκ dX11_digest_23 ?_
  refine g_topl (fun y8 hy8 => ?_)
  refine g_lstore_n hκ [(1, .long y8), (3, .int 3), (0, .ref x)] dX11_digest_24 rfl (by decide) rfl ?_
  refine g_iinc hκ (k := 1) (v := 4) [(3, .int 4), (1, .long y8), (0, .ref x)] dX11_digest_25 rfl (by decide) (by decide) rfl ?_
  refine g_goto hκ 6 dX11_digest_28 (by decide) ?_
  refine g_iload_n hκ 0 dX11_digest_6 rfl rfl ?_
  refine g_bipush hκ (v := 20) dX11_digest_7 (by decide) ?_
  refine g_icmp_gt hκ 31 dX11_digest_9 (by decide) (fun z => absurd z (by decide)) (fun _ => ?_)
  refine g_lload_n hκ 1 dX11_digest_12 rfl rfl ?_
  refine g_ldc2 hκ qw_989 dX11_digest_13 ?_
  refine g_lmul hκ dX11_digest_16 ?_
  refine g_aload_n hκ 2 dX11_digest_17 rfl rfl ?_
  refine g_iload_n hκ 0 dX11_digest_18 rfl rfl ?_
  refine rV_i hκ hdR [.int 4] sd_X11_tellRoom qw_878 (fun D cO H s hK hP => rc_Room hK hP hx) (k_rm_4 S x lo ta la el sz hM) ⟨rfl, rfl, Nat.le_of_ble_eq_true rfl, Nat.le_of_ble_eq_true rfl⟩ rfl rfl (Nat.le_of_ble_eq_true rfl) dX11_digest_19 (fun r9 hr9 => ?_)
  refine g_eqi hr9 ?_
  refine g_i2l hκ dX11_digest_22 ?_
  refine g_ladd hκ dX11_digest_23 ?_
  refine g_topl (fun y10 hy10 => ?_)
  refine g_lstore_n hκ [(1, .long y10), (3, .int 4), (0, .ref x)] dX11_digest_24 rfl (by decide) rfl ?_
  refine g_iinc hκ (k := 1) (v := 5) [(3, .int 5), (1, .long y10), (0, .ref x)] dX11_digest_25 rfl (by decide) (by decide) rfl ?_
  refine g_goto hκ 6 dX11_digest_28 (by decide) ?_
  refine g_iload_n hκ 0 dX11_digest_6 rfl rfl ?_
  refine g_bipush hκ (v := 20) dX11_digest_7 (by decide) ?_
  refine g_icmp_gt hκ 31 dX11_digest_9 (by decide) (fun z => absurd z (by decide)) (fun _ => ?_)
  refine g_lload_n hκ 1 dX11_digest_12 rfl rfl ?_
  refine g_ldc2 hκ qw_989 dX11_digest_13 ?_
  refine g_lmul hκ dX11_digest_16 ?_
  refine g_aload_n hκ 2 dX11_digest_17 rfl rfl ?_
  refine g_iload_n hκ 0 dX11_digest_18 rfl rfl ?_
  refine rV_i hκ hdR [.int 5] sd_X11_tellRoom qw_878 (fun D cO H s hK hP => rc_Room hK hP hx) (k_rm_5 S x lo ta la el sz hM) ⟨rfl, rfl, Nat.le_of_ble_eq_true rfl, Nat.le_of_ble_eq_true rfl⟩ rfl rfl (Nat.le_of_ble_eq_true rfl) dX11_digest_19 (fun r11 hr11 => ?_)
  refine g_eqi hr11 ?_
  refine g_i2l hκ dX11_digest_22 ?_
  refine g_ladd hκ dX11_digest_23 ?_
  refine g_topl (fun y12 hy12 => ?_)
  refine g_lstore_n hκ [(1, .long y12), (3, .int 5), (0, .ref x)] dX11_digest_24 rfl (by decide) rfl ?_
  refine g_iinc hκ (k := 1) (v := 6) [(3, .int 6), (1, .long y12), (0, .ref x)] dX11_digest_25 rfl (by decide) (by decide) rfl ?_
  refine g_goto hκ 6 dX11_digest_28 (by decide) ?_
  refine g_iload_n hκ 0 dX11_digest_6 rfl rfl ?_
  refine g_bipush hκ (v := 20) dX11_digest_7 (by decide) ?_
  refine g_icmp_gt hκ 31 dX11_digest_9 (by decide) (fun z => absurd z (by decide)) (fun _ => ?_)
  refine g_lload_n hκ 1 dX11_digest_12 rfl rfl ?_
  refine g_ldc2 hκ qw_989 dX11_digest_13 ?_
  refine g_lmul hκ dX11_digest_16 ?_
  refine g_aload_n hκ 2 dX11_digest_17 rfl rfl ?_
  refine g_iload_n hκ 0 dX11_digest_18 rfl rfl ?_
  refine rV_i hκ hdR [.int 6] sd_X11_tellRoom qw_878 (fun D cO H s hK hP => rc_Room hK hP hx) (k_rm_6 S x lo ta la el sz hM) ⟨rfl, rfl, Nat.le_of_ble_eq_true rfl, Nat.le_of_ble_eq_true rfl⟩ rfl rfl (Nat.le_of_ble_eq_true rfl) dX11_digest_19 (fun r13 hr13 => ?_)
  refine g_eqi hr13 ?_
  refine g_i2l hκ dX11_digest_22 ?_
  refine g_ladd hκ dX11_digest_23 ?_
  refine g_topl (fun y14 hy14 => ?_)
  refine g_lstore_n hκ [(1, .long y14), (3, .int 6), (0, .ref x)] dX11_digest_24 rfl (by decide) rfl ?_
  refine g_iinc hκ (k := 1) (v := 7) [(3, .int 7), (1, .long y14), (0, .ref x)] dX11_digest_25 rfl (by decide) (by decide) rfl ?_
  refine g_goto hκ 6 dX11_digest_28 (by decide) ?_
  refine g_iload_n hκ 0 dX11_digest_6 rfl rfl ?_
  refine g_bipush hκ (v := 20) dX11_digest_7 (by decide) ?_
  refine g_icmp_gt hκ 31 dX11_digest_9 (by decide) (fun z => absurd z (by decide)) (fun _ => ?_)
  refine g_lload_n hκ 1 dX11_digest_12 rfl rfl ?_
  refine g_ldc2 hκ qw_989 dX11_digest_13 ?_
  refine g_lmul hκ dX11_digest_16 ?_
  refine g_aload_n hκ 2 dX11_digest_17 rfl rfl ?_
  refine g_iload_n hκ 0 dX11_digest_18 rfl rfl ?_
  refine rV_i hκ hdR [.int 7] sd_X11_tellRoom qw_878 (fun D cO H s hK hP => rc_Room hK hP hx) (k_rm_7 S x lo ta la el sz hM) ⟨rfl, rfl, Nat.le_of_ble_eq_true rfl, Nat.le_of_ble_eq_true rfl⟩ rfl rfl (Nat.le_of_ble_eq_true rfl) dX11_digest_19 (fun r15 hr15 => ?_)
  refine g_eqi hr15 ?_
  refine g_i2l hκ dX11_digest_22 ?_
  refine g_ladd hκ dX11_digest_23 ?_
  refine g_topl (fun y16 hy16 => ?_)
  refine g_lstore_n hκ [(1, .long y16), (3, .int 7), (0, .ref x)] dX11_digest_24 rfl (by decide) rfl ?_
  refine g_iinc hκ (k := 1) (v := 8) [(3, .int 8), (1, .long y16), (0, .ref x)] dX11_digest_25 rfl (by decide) (by decide) rfl ?_
  refine g_goto hκ 6 dX11_digest_28 (by decide) ?_
  refine g_iload_n hκ 0 dX11_digest_6 rfl rfl ?_
  refine g_bipush hκ (v := 20) dX11_digest_7 (by decide) ?_
  refine g_icmp_gt hκ 31 dX11_digest_9 (by decide) (fun z => absurd z (by decide)) (fun _ => ?_)
  refine g_lload_n hκ 1 dX11_digest_12 rfl rfl ?_
  refine g_ldc2 hκ qw_989 dX11_digest_13 ?_
  refine g_lmul hκ dX11_digest_16 ?_
  refine g_aload_n hκ 2 dX11_digest_17 rfl rfl ?_
  refine g_iload_n hκ 0 dX11_digest_18 rfl rfl ?_
  refine rV_i hκ hdR [.int 8] sd_X11_tellRoom qw_878 (fun D cO H s hK hP => rc_Room hK hP hx) (k_rm_8 S x lo ta la el sz hM) ⟨rfl, rfl, Nat.le_of_ble_eq_true rfl, Nat.le_of_ble_eq_true rfl⟩ rfl rfl (Nat.le_of_ble_eq_true rfl) dX11_digest_19 (fun r17 hr17 => ?_)
  refine g_eqi hr17 ?_
  refine g_i2l hκ dX11_digest_22 ?_
  refine g_ladd hκ dX11_digest_23 ?_
  refine g_topl (fun y18 hy18 => ?_)
  refine g_lstore_n hκ [(1, .long y18), (3, .int 8), (0, .ref x)] dX11_digest_24 rfl (by decide) rfl ?_
  refine g_iinc hκ (k := 1) (v := 9) [(3, .int 9), (1, .long y18), (0, .ref x)] dX11_digest_25 rfl (by decide) (by decide) rfl ?_
  refine g_goto hκ 6 dX11_digest_28 (by decide) ?_
  refine g_iload_n hκ 0 dX11_digest_6 rfl rfl ?_
  refine g_bipush hκ (v := 20) dX11_digest_7 (by decide) ?_
  refine g_icmp_gt hκ 31 dX11_digest_9 (by decide) (fun z => absurd z (by decide)) (fun _ => ?_)
  refine g_lload_n hκ 1 dX11_digest_12 rfl rfl ?_
  refine g_ldc2 hκ qw_989 dX11_digest_13 ?_
  refine g_lmul hκ dX11_digest_16 ?_
  refine g_aload_n hκ 2 dX11_digest_17 rfl rfl ?_
  refine g_iload_n hκ 0 dX11_digest_18 rfl rfl ?_
  refine rV_i hκ hdR [.int 9] sd_X11_tellRoom qw_878 (fun D cO H s hK hP => rc_Room hK hP hx) (k_rm_9 S x lo ta la el sz hM) ⟨rfl, rfl, Nat.le_of_ble_eq_true rfl, Nat.le_of_ble_eq_true rfl⟩ rfl rfl (Nat.le_of_ble_eq_true rfl) dX11_digest_19 (fun r19 hr19 => ?_)
  refine g_eqi hr19 ?_
  refine g_i2l hκ dX11_digest_22 ?_
  refine g_ladd hκ dX11_digest_23 ?_
  refine g_topl (fun y20 hy20 => ?_)
  refine g_lstore_n hκ [(1, .long y20), (3, .int 9), (0, .ref x)] dX11_digest_24 rfl (by decide) rfl ?_
  refine g_iinc hκ (k := 1) (v := 10) [(3, .int 10), (1, .long y20), (0, .ref x)] dX11_digest_25 rfl (by decide) (by decide) rfl ?_
  refine g_goto hκ 6 dX11_digest_28 (by decide) ?_
  refine g_iload_n hκ 0 dX11_digest_6 rfl rfl ?_
  refine g_bipush hκ (v := 20) dX11_digest_7 (by decide) ?_
  refine g_icmp_gt hκ 31 dX11_digest_9 (by decide) (fun z => absurd z (by decide)) (fun _ => ?_)
  refine g_lload_n hκ 1 dX11_digest_12 rfl rfl ?_
  refine g_ldc2 hκ qw_989 dX11_digest_13 ?_
  refine g_lmul hκ dX11_digest_16 ?_
  refine g_aload_n hκ 2 dX11_digest_17 rfl rfl ?_
  refine g_iload_n hκ 0 dX11_digest_18 rfl rfl ?_
  refine rV_i hκ hdR [.int 10] sd_X11_tellRoom qw_878 (fun D cO H s hK hP => rc_Room hK hP hx) (k_rm_10 S x lo ta la el sz hM) ⟨rfl, rfl, Nat.le_of_ble_eq_true rfl, Nat.le_of_ble_eq_true rfl⟩ rfl rfl (Nat.le_of_ble_eq_true rfl) dX11_digest_19 (fun r21 hr21 => ?_)
  refine g_eqi hr21 ?_
  refine g_i2l hκ dX11_digest_22 ?_
  refine g_ladd hκ dX11_digest_23 ?_
  refine g_topl (fun y22 hy22 => ?_)
  refine g_lstore_n hκ [(1, .long y22), (3, .int 10), (0, .ref x)] dX11_digest_24 rfl (by decide) rfl ?_
  refine g_iinc hκ (k := 1) (v := 11) [(3, .int 11), (1, .long y22), (0, .ref x)] dX11_digest_25 rfl (by decide) (by decide) rfl ?_
  refine g_goto hκ 6 dX11_digest_28 (by decide) ?_
  refine g_iload_n hκ 0 dX11_digest_6 rfl rfl ?_
  refine g_bipush hκ (v := 20) dX11_digest_7 (by decide) ?_
  refine g_icmp_gt hκ 31 dX11_digest_9 (by decide) (fun z => absurd z (by decide)) (fun _ => ?_)
  refine g_lload_n hκ 1 dX11_digest_12 rfl rfl ?_
  refine g_ldc2 hκ qw_989 dX11_digest_13 ?_
  refine g_lmul hκ dX11_digest_16 ?_
  refine g_aload_n hκ 2 dX11_digest_17 rfl rfl ?_
  refine g_iload_n hκ 0 dX11_digest_18 rfl rfl ?_
  refine rV_i hκ hdR [.int 11] sd_X11_tellRoom qw_878 (fun D cO H s hK hP => rc_Room hK hP hx) (k_rm_11 S x lo ta la el sz hM) ⟨rfl, rfl, Nat.le_of_ble_eq_true rfl, Nat.le_of_ble_eq_true rfl⟩ rfl rfl (Nat.le_of_ble_eq_true rfl) dX11_digest_19 (fun r23 hr23 => ?_)
  refine g_eqi hr23 ?_
  refine g_i2l hκ dX11_digest_22 ?_
  refine g_ladd hκ dX11_digest_23 ?_
  refine g_topl (fun y24 hy24 => ?_)
  refine g_lstore_n hκ [(1, .long y24), (3, .int 11), (0, .ref x)] dX11_digest_24 rfl (by decide) rfl ?_
  refine g_iinc hκ (k := 1) (v := 12) [(3, .int 12), (1, .long y24), (0, .ref x)] dX11_digest_25 rfl (by decide) (by decide) rfl ?_
  refine g_goto hκ 6 dX11_digest_28 (by decide) ?_
  refine g_iload_n hκ 0 dX11_digest_6 rfl rfl ?_
  refine g_bipush hκ (v := 20) dX11_digest_7 (by decide) ?_
  refine g_icmp_gt hκ 31 dX11_digest_9 (by decide) (fun z => absurd z (by decide)) (fun _ => ?_)
  refine g_lload_n hκ 1 dX11_digest_12 rfl rfl ?_
  refine g_ldc2 hκ qw_989 dX11_digest_13 ?_
  refine g_lmul hκ dX11_digest_16 ?_
  refine g_aload_n hκ 2 dX11_digest_17 rfl rfl ?_
  refine g_iload_n hκ 0 dX11_digest_18 rfl rfl ?_
  refine rV_i hκ hdR [.int 12] sd_X11_tellRoom qw_878 (fun D cO H s hK hP => rc_Room hK hP hx) (k_rm_12 S x lo ta la el sz hM) ⟨rfl, rfl, Nat.le_of_ble_eq_true rfl, Nat.le_of_ble_eq_true rfl⟩ rfl rfl (Nat.le_of_ble_eq_true rfl) dX11_digest_19 (fun r25 hr25 => ?_)
  refine g_eqi hr25 ?_
  refine g_i2l hκ dX11_digest_22 ?_
  refine g_ladd hκ dX11_digest_23 ?_
  refine g_topl (fun y26 hy26 => ?_)
  refine g_lstore_n hκ [(1, .long y26), (3, .int 12), (0, .ref x)] dX11_digest_24 rfl (by decide) rfl ?_
  refine g_iinc hκ (k := 1) (v := 13) [(3, .int 13), (1, .long y26), (0, .ref x)] dX11_digest_25 rfl (by decide) (by decide) rfl ?_
  refine g_goto hκ 6 dX11_digest_28 (by decide) ?_
  refine g_iload_n hκ 0 dX11_digest_6 rfl rfl ?_
  refine g_bipush hκ (v := 20) dX11_digest_7 (by decide) ?_
  refine g_icmp_gt hκ 31 dX11_digest_9 (by decide) (fun z => absurd z (by decide)) (fun _ => ?_)
  refine g_lload_n hκ 1 dX11_digest_12 rfl rfl ?_
  refine g_ldc2 hκ qw_989 dX11_digest_13 ?_
  refine g_lmul hκ dX11_digest_16 ?_
  refine g_aload_n hκ 2 dX11_digest_17 rfl rfl ?_
  refine g_iload_n hκ 0 dX11_digest_18 rfl rfl ?_
  refine rV_i hκ hdR [.int 13] sd_X11_tellRoom qw_878 (fun D cO H s hK hP => rc_Room hK hP hx) (k_rm_13 S x lo ta la el sz hM) ⟨rfl, rfl, Nat.le_of_ble_eq_true rfl, Nat.le_of_ble_eq_true rfl⟩ rfl rfl (Nat.le_of_ble_eq_true rfl) dX11_digest_19 (fun r27 hr27 => ?_)
  refine g_eqi hr27 ?_
  refine g_i2l hκ dX11_digest_22 ?_
  refine g_ladd hκ dX11_digest_23 ?_
  refine g_topl (fun y28 hy28 => ?_)
  refine g_lstore_n hκ [(1, .long y28), (3, .int 13), (0, .ref x)] dX11_digest_24 rfl (by decide) rfl ?_
  refine g_iinc hκ (k := 1) (v := 14) [(3, .int 14), (1, .long y28), (0, .ref x)] dX11_digest_25 rfl (by decide) (by decide) rfl ?_
  refine g_goto hκ 6 dX11_digest_28 (by decide) ?_
  refine g_iload_n hκ 0 dX11_digest_6 rfl rfl ?_
  refine g_bipush hκ (v := 20) dX11_digest_7 (by decide) ?_
  refine g_icmp_gt hκ 31 dX11_digest_9 (by decide) (fun z => absurd z (by decide)) (fun _ => ?_)
  refine g_lload_n hκ 1 dX11_digest_12 rfl rfl ?_
  refine g_ldc2 hκ qw_989 dX11_digest_13 ?_
  refine g_lmul hκ dX11_digest_16 ?_
  refine g_aload_n hκ 2 dX11_digest_17 rfl rfl ?_
  refine g_iload_n hκ 0 dX11_digest_18 rfl rfl ?_
  refine rV_i hκ hdR [.int 14] sd_X11_tellRoom qw_878 (fun D cO H s hK hP => rc_Room hK hP hx) (k_rm_14 S x lo ta la el sz hM) ⟨rfl, rfl, Nat.le_of_ble_eq_true rfl, Nat.le_of_ble_eq_true rfl⟩ rfl rfl (Nat.le_of_ble_eq_true rfl) dX11_digest_19 (fun r29 hr29 => ?_)
  refine g_eqi hr29 ?_
  refine g_i2l hκ dX11_digest_22 ?_
  refine g_ladd hκ dX11_digest_23 ?_
  refine g_topl (fun y30 hy30 => ?_)
  refine g_lstore_n hκ [(1, .long y30), (3, .int 14), (0, .ref x)] dX11_digest_24 rfl (by decide) rfl ?_
  refine g_iinc hκ (k := 1) (v := 15) [(3, .int 15), (1, .long y30), (0, .ref x)] dX11_digest_25 rfl (by decide) (by decide) rfl ?_
  refine g_goto hκ 6 dX11_digest_28 (by decide) ?_
  refine g_iload_n hκ 0 dX11_digest_6 rfl rfl ?_
  refine g_bipush hκ (v := 20) dX11_digest_7 (by decide) ?_
  refine g_icmp_gt hκ 31 dX11_digest_9 (by decide) (fun z => absurd z (by decide)) (fun _ => ?_)
  refine g_lload_n hκ 1 dX11_digest_12 rfl rfl ?_
  refine g_ldc2 hκ qw_989 dX11_digest_13 ?_
  refine g_lmul hκ dX11_digest_16 ?_
  refine g_aload_n hκ 2 dX11_digest_17 rfl rfl ?_
  refine g_iload_n hκ 0 dX11_digest_18 rfl rfl ?_
  refine rV_i hκ hdR [.int 15] sd_X11_tellRoom qw_878 (fun D cO H s hK hP => rc_Room hK hP hx) (k_rm_15 S x lo ta la el sz hM) ⟨rfl, rfl, Nat.le_of_ble_eq_true rfl, Nat.le_of_ble_eq_true rfl⟩ rfl rfl (Nat.le_of_ble_eq_true rfl) dX11_digest_19 (fun r31 hr31 => ?_)
  refine g_eqi hr31 ?_
  refine g_i2l hκ dX11_digest_22 ?_
  refine g_ladd hκ dX11_digest_23 ?_
  refine g_topl (fun y32 hy32 => ?_)
  refine g_lstore_n hκ [(1, .long y32), (3, .int 15), (0, .ref x)] dX11_digest_24 rfl (by decide) rfl ?_
  refine g_iinc hκ (k := 1) (v := 16) [(3, .int 16), (1, .long y32), (0, .ref x)] dX11_digest_25 rfl (by decide) (by decide) rfl ?_
  refine g_goto hκ 6 dX11_digest_28 (by decide) ?_
  refine g_iload_n hκ 0 dX11_digest_6 rfl rfl ?_
  refine g_bipush hκ (v := 20) dX11_digest_7 (by decide) ?_
  refine g_icmp_gt hκ 31 dX11_digest_9 (by decide) (fun z => absurd z (by decide)) (fun _ => ?_)
  refine g_lload_n hκ 1 dX11_digest_12 rfl rfl ?_
  refine g_ldc2 hκ qw_989 dX11_digest_13 ?_
  refine g_lmul hκ dX11_digest_16 ?_
  refine g_aload_n hκ 2 dX11_digest_17 rfl rfl ?_
  refine g_iload_n hκ 0 dX11_digest_18 rfl rfl ?_
  refine rV_i hκ hdR [.int 16] sd_X11_tellRoom qw_878 (fun D cO H s hK hP => rc_Room hK hP hx) (k_rm_16 S x lo ta la el sz hM) ⟨rfl, rfl, Nat.le_of_ble_eq_true rfl, Nat.le_of_ble_eq_true rfl⟩ rfl rfl (Nat.le_of_ble_eq_true rfl) dX11_digest_19 (fun r33 hr33 => ?_)
  refine g_eqi hr33 ?_
  refine g_i2l hκ dX11_digest_22 ?_
  refine g_ladd hκ dX11_digest_23 ?_
  refine g_topl (fun y34 hy34 => ?_)
  refine g_lstore_n hκ [(1, .long y34), (3, .int 16), (0, .ref x)] dX11_digest_24 rfl (by decide) rfl ?_
  refine g_iinc hκ (k := 1) (v := 17) [(3, .int 17), (1, .long y34), (0, .ref x)] dX11_digest_25 rfl (by decide) (by decide) rfl ?_
  refine g_goto hκ 6 dX11_digest_28 (by decide) ?_
  refine g_iload_n hκ 0 dX11_digest_6 rfl rfl ?_
  refine g_bipush hκ (v := 20) dX11_digest_7 (by decide) ?_
  refine g_icmp_gt hκ 31 dX11_digest_9 (by decide) (fun z => absurd z (by decide)) (fun _ => ?_)
  refine g_lload_n hκ 1 dX11_digest_12 rfl rfl ?_
  refine g_ldc2 hκ qw_989 dX11_digest_13 ?_
  refine g_lmul hκ dX11_digest_16 ?_
  refine g_aload_n hκ 2 dX11_digest_17 rfl rfl ?_
  refine g_iload_n hκ 0 dX11_digest_18 rfl rfl ?_
  refine rV_i hκ hdR [.int 17] sd_X11_tellRoom qw_878 (fun D cO H s hK hP => rc_Room hK hP hx) (k_rm_17 S x lo ta la el sz hM) ⟨rfl, rfl, Nat.le_of_ble_eq_true rfl, Nat.le_of_ble_eq_true rfl⟩ rfl rfl (Nat.le_of_ble_eq_true rfl) dX11_digest_19 (fun r35 hr35 => ?_)
  refine g_eqi hr35 ?_
  refine g_i2l hκ dX11_digest_22 ?_
  refine g_ladd hκ dX11_digest_23 ?_
  refine g_topl (fun y36 hy36 => ?_)
  refine g_lstore_n hκ [(1, .long y36), (3, .int 17), (0, .ref x)] dX11_digest_24 rfl (by decide) rfl ?_
  refine g_iinc hκ (k := 1) (v := 18) [(3, .int 18), (1, .long y36), (0, .ref x)] dX11_digest_25 rfl (by decide) (by decide) rfl ?_
  refine g_goto hκ 6 dX11_digest_28 (by decide) ?_
  refine g_iload_n hκ 0 dX11_digest_6 rfl rfl ?_
  refine g_bipush hκ (v := 20) dX11_digest_7 (by decide) ?_
  refine g_icmp_gt hκ 31 dX11_digest_9 (by decide) (fun z => absurd z (by decide)) (fun _ => ?_)
  refine g_lload_n hκ 1 dX11_digest_12 rfl rfl ?_
  refine g_ldc2 hκ qw_989 dX11_digest_13 ?_
  refine g_lmul hκ dX11_digest_16 ?_
  refine g_aload_n hκ 2 dX11_digest_17 rfl rfl ?_
  refine g_iload_n hκ 0 dX11_digest_18 rfl rfl ?_
  refine rV_i hκ hdR [.int 18] sd_X11_tellRoom qw_878 (fun D cO H s hK hP => rc_Room hK hP hx) (k_rm_18 S x lo ta la el sz hM) ⟨rfl, rfl, Nat.le_of_ble_eq_true rfl, Nat.le_of_ble_eq_true rfl⟩ rfl rfl (Nat.le_of_ble_eq_true rfl) dX11_digest_19 (fun r37 hr37 => ?_)
  refine g_eqi hr37 ?_
  refine g_i2l hκ dX11_digest_22 ?_
  refine g_ladd hκ dX11_digest_23 ?_
  refine g_topl (fun y38 hy38 => ?_)
  refine g_lstore_n hκ [(1, .long y38), (3, .int 18), (0, .ref x)] dX11_digest_24 rfl (by decide) rfl ?_
  refine g_iinc hκ (k := 1) (v := 19) [(3, .int 19), (1, .long y38), (0, .ref x)] dX11_digest_25 rfl (by decide) (by decide) rfl ?_
  refine g_goto hκ 6 dX11_digest_28 (by decide) ?_
  refine g_iload_n hκ 0 dX11_digest_6 rfl rfl ?_
  refine g_bipush hκ (v := 20) dX11_digest_7 (by decide) ?_
  refine g_icmp_gt hκ 31 dX11_digest_9 (by decide) (fun z => absurd z (by decide)) (fun _ => ?_)
  refine g_lload_n hκ 1 dX11_digest_12 rfl rfl ?_
  refine g_ldc2 hκ qw_989 dX11_digest_13 ?_
  refine g_lmul hκ dX11_digest_16 ?_
  refine g_aload_n hκ 2 dX11_digest_17 rfl rfl ?_
  refine g_iload_n hκ 0 dX11_digest_18 rfl rfl ?_
  refine rV_i hκ hdR [.int 19] sd_X11_tellRoom qw_878 (fun D cO H s hK hP => rc_Room hK hP hx) (k_rm_19 S x lo ta la el sz hM) ⟨rfl, rfl, Nat.le_of_ble_eq_true rfl, Nat.le_of_ble_eq_true rfl⟩ rfl rfl (Nat.le_of_ble_eq_true rfl) dX11_digest_19 (fun r39 hr39 => ?_)
  refine g_eqi hr39 ?_
  refine g_i2l hκ dX11_digest_22 ?_
  refine g_ladd hκ dX11_digest_23 ?_
  refine g_topl (fun y40 hy40 => ?_)
  refine g_lstore_n hκ [(1, .long y40), (3, .int 19), (0, .ref x)] dX11_digest_24 rfl (by decide) rfl ?_
  refine g_iinc hκ (k := 1) (v := 20) [(3, .int 20), (1, .long y40), (0, .ref x)] dX11_digest_25 rfl (by decide) (by decide) rfl ?_
  refine g_goto hκ 6 dX11_digest_28 (by decide) ?_
  refine g_iload_n hκ 0 dX11_digest_6 rfl rfl ?_
  refine g_bipush hκ (v := 20) dX11_digest_7 (by decide) ?_
  refine g_icmp_gt hκ 31 dX11_digest_9 (by decide) (fun z => absurd z (by decide)) (fun _ => ?_)
  refine g_lload_n hκ 1 dX11_digest_12 rfl rfl ?_
  refine g_ldc2 hκ qw_989 dX11_digest_13 ?_
  refine g_lmul hκ dX11_digest_16 ?_
  refine g_aload_n hκ 2 dX11_digest_17 rfl rfl ?_
  refine g_iload_n hκ 0 dX11_digest_18 rfl rfl ?_
  refine rV_i hκ hdR [.int 20] sd_X11_tellRoom qw_878 (fun D cO H s hK hP => rc_Room hK hP hx) (k_rm_20 S x lo ta la el sz hM) ⟨rfl, rfl, Nat.le_of_ble_eq_true rfl, Nat.le_of_ble_eq_true rfl⟩ rfl rfl (Nat.le_of_ble_eq_true rfl) dX11_digest_19 (fun r41 hr41 => ?_)
  refine g_eqi hr41 ?_
  refine g_i2l hκ dX11_digest_22 ?_
  refine g_ladd hκ dX11_digest_23 ?_
  refine g_topl (fun y42 hy42 => ?_)
  refine g_lstore_n hκ [(1, .long y42), (3, .int 20), (0, .ref x)] dX11_digest_24 rfl (by decide) rfl ?_
  refine g_iinc hκ (k := 1) (v := 21) [(3, .int 21), (1, .long y42), (0, .ref x)] dX11_digest_25 rfl (by decide) (by decide) rfl ?_
  refine g_goto hκ 6 dX11_digest_28 (by decide) ?_
  refine g_iload_n hκ 0 dX11_digest_6 rfl rfl ?_
  refine g_bipush hκ (v := 20) dX11_digest_7 (by decide) ?_
  refine g_icmp_gt hκ 31 dX11_digest_9 (by decide) (fun _ => ?_) (fun z => absurd z (by decide))
  refine g_aload_n hκ 2 dX11_digest_31 rfl rfl ?_
  refine g_lload_n hκ 1 dX11_digest_32 rfl rfl ?_
  refine rV_l hκ hdR [.long y42] sd_X11_digestSky qw_990 (fun D cO H s hK hP => rc_Room hK hP hx) (k_digestSky S x lo ta la el sz y42 hM) ⟨rfl, rfl, Nat.le_of_ble_eq_true rfl, Nat.le_of_ble_eq_true rfl⟩ rfl rfl (Nat.le_of_ble_eq_true rfl) dX11_digest_33 (fun r43 hr43 => ?_)
  refine g_eql hr43 ?_
  refine g_lstore_n hκ [(1, .long (skyF S el sz y42)), (3, .int 21), (0, .ref x)] dX11_digest_36 rfl (by decide) rfl ?_
  refine g_aload_n hκ 2 dX11_digest_37 rfl rfl ?_
  refine g_lload_n hκ 0 dX11_digest_38 rfl rfl ?_
  refine rV_l hκ hdR [.long (skyF S el sz y42)] sd_X11_digestTracks qw_1002 (fun D cO H s hK hP => rc_Room hK hP hx) (k_digestTracks S x lo ta la el sz (skyF S el sz y42) hM hSQ) ⟨rfl, rfl, Nat.le_of_ble_eq_true rfl, Nat.le_of_ble_eq_true rfl⟩ rfl rfl (Nat.le_of_ble_eq_true rfl) dX11_digest_39 (fun r44 hr44 => ?_)
  refine g_eql hr44 ?_
  refine g_lstore_n hκ [(1, .long (dtrF S x el sz (skyF S el sz y42))), (3, .int 21), (0, .ref x)] dX11_digest_42 rfl (by decide) rfl ?_
  refine g_iconst hκ (v := 0) dX11_digest_43 (by decide) ?_
  refine g_istore_n hκ [(3, .int 0), (1, .long (dtrF S x el sz (skyF S el sz y42))), (0, .ref x)] dX11_digest_44 rfl (by decide) rfl ?_
  have loop45 : ∀ (d45 i45 : Nat) (x45 : Int32) (a45 : Int64), i45 + d45 = sz 2 → x45 = nI i45 → digF S x lo ta el sz = digK S x ta el sz (fldR (fun i a => dg (sqF S (el 2 i)) 9 1 a) d45 i45 a45) → Gj κ (PR κ S) 45 [(3, .int x45), (1, .long a45), (0, .ref x)] [] := by
    intro d45
    induction d45 with
    | zero =>
      intro i45 x45 a45 hi45 hx45 hF45
      subst hx45
      refine g_iload_n hκ 0 dX11_digest_45 rfl rfl ?_
      refine g_aload_n hκ 2 dX11_digest_46 rfl rfl ?_
      refine gt_Room_squadrons hκ hdR hx qw_108 (Or.inl rfl) dX11_digest_47 ?_
      refine g_rf f2 ?_
      refine rV_i hκ hdR [] sd_Jx4a65c_size_8abf5 qw_227 (fun D cO H s hK hP => rc_List hK hP L2.1) (k_sizeL S (la 2) 6 (sz 2) (el 2) L2) ⟨rfl, rfl, Nat.le_of_ble_eq_true rfl, Nat.le_of_ble_eq_true rfl⟩ rfl rfl (Nat.le_of_ble_eq_true rfl) dX11_digest_50 (fun r45 hr45 => ?_)
      refine g_eqi hr45 ?_
      refine g_icmp_ge hκ 102 dX11_digest_53 (by decide) (fun _ => ?_) (fun z => absurd (lp_ge rfl (by omega) (by omega)) z)
      refine g_iconst hκ (v := 0) dX11_digest_102 (by decide) ?_
      refine g_istore_n hκ [(3, .int 0), (1, .long a45), (0, .ref x)] dX11_digest_103 rfl (by decide) rfl ?_
      have loop104 : ∀ (d104 i104 : Nat) (x104 : Int32) (a104 : Int64), i104 + d104 = sz 7 → x104 = nI i104 → digF S x lo ta el sz = digT S x ta el sz (fldR (fun i a => a * 31 + Int32.toInt64 (bestF S x el sz (el 7 i))) d104 i104 a104) → Gj κ (PR κ S) 104 [(3, .int x104), (1, .long a104), (0, .ref x)] [] := by
        intro d104
        induction d104 with
        | zero =>
          intro i104 x104 a104 hi104 hx104 hF104
          subst hx104
          refine g_iload_n hκ 0 dX11_digest_104 rfl rfl ?_
          refine g_aload_n hκ 2 dX11_digest_105 rfl rfl ?_
          refine gt_Room_tracks hκ hdR hx qw_113 (Or.inl rfl) dX11_digest_106 ?_
          refine g_rf f7 ?_
          refine rV_i hκ hdR [] sd_Jx4a65c_size_8abf5 qw_227 (fun D cO H s hK hP => rc_List hK hP L7.1) (k_sizeL S (la 7) 9 (sz 7) (el 7) L7) ⟨rfl, rfl, Nat.le_of_ble_eq_true rfl, Nat.le_of_ble_eq_true rfl⟩ rfl rfl (Nat.le_of_ble_eq_true rfl) dX11_digest_109 (fun r46 hr46 => ?_)
          refine g_eqi hr46 ?_
          refine g_icmp_ge hκ 144 dX11_digest_112 (by decide) (fun _ => ?_) (fun z => absurd (lp_ge rfl (by omega) (by omega)) z)
          refine g_iconst hκ (v := 0) dX11_digest_144 (by decide) ?_
          refine g_istore_n hκ [(3, .int 0), (1, .long a104), (0, .ref x)] dX11_digest_145 rfl (by decide) rfl ?_
          have loop146 : ∀ (d146 i146 : Nat) (x146 : Int32) (a146 : Int64), i146 + d146 = sz 4 → x146 = nI i146 → digF S x lo ta el sz = digE S x ta el sz (fldR (fun i a => (a * 31 + Int32.toInt64 (if thrF S x el sz (el 4 i) 8 = -1 then 0 else 1)) * 31 + Int32.toInt64 (sirF S x el sz (el 4 i))) d146 i146 a146) → Gj κ (PR κ S) 146 [(3, .int x146), (1, .long a146), (0, .ref x)] [] := by
            intro d146
            induction d146 with
            | zero =>
              intro i146 x146 a146 hi146 hx146 hF146
              subst hx146
              refine g_iload_n hκ 0 dX11_digest_146 rfl rfl ?_
              refine g_aload_n hκ 2 dX11_digest_147 rfl rfl ?_
              refine gt_Room_towns hκ hdR hx qw_110 (Or.inl rfl) dX11_digest_148 ?_
              refine g_rf f4 ?_
              refine rV_i hκ hdR [] sd_Jx4a65c_size_8abf5 qw_227 (fun D cO H s hK hP => rc_List hK hP L4.1) (k_sizeL S (la 4) 8 (sz 4) (el 4) L4) ⟨rfl, rfl, Nat.le_of_ble_eq_true rfl, Nat.le_of_ble_eq_true rfl⟩ rfl rfl (Nat.le_of_ble_eq_true rfl) dX11_digest_151 (fun r47 hr47 => ?_)
              refine g_eqi hr47 ?_
              refine g_icmp_ge hκ 215 dX11_digest_154 (by decide) (fun _ => ?_) (fun z => absurd (lp_ge rfl (by omega) (by omega)) z)
              refine g_lload_n hκ 1 dX11_digest_215 rfl rfl ?_
              refine g_ldc2 hκ qw_989 dX11_digest_216 ?_
              refine g_lmul hκ dX11_digest_219 ?_
              refine g_ldc2d hκ qw_1023 dX11_digest_220 ?_
              refine g_aload_n hκ 2 dX11_digest_223 rfl rfl ?_
              refine rV_d hκ hdR [] sd_X11_partSeen qw_918 (fun D cO H s hK hP => rc_Room hK hP hx) (k_partSeen S x lo ta la el sz hM h12) ⟨rfl, rfl, Nat.le_of_ble_eq_true rfl, Nat.le_of_ble_eq_true rfl⟩ rfl rfl (Nat.le_of_ble_eq_true rfl) dX11_digest_224 (fun r48 hr48 => ?_)
              obtain rfl := hr48
              refine g_dmul hκ dX11_digest_227 (seen_m h12) ?_
              refine g_d2l hκ dX11_digest_228 ?_
              refine g_ladd hκ dX11_digest_229 ?_
              refine g_topl (fun y49 hy49 => ?_)
              refine g_lstore_n hκ [(1, .long y49), (3, .int (nI i146)), (0, .ref x)] dX11_digest_230 rfl (by decide) rfl ?_
              refine g_lload_n hκ 0 dX11_digest_231 rfl rfl ?_
              refine g_ldc2 hκ qw_989 dX11_digest_232 ?_
              refine g_lmul hκ dX11_digest_235 ?_
              refine g_aload_n hκ 2 dX11_digest_236 rfl rfl ?_
              refine rV_i hκ hdR [] sd_X11_isSound qw_1024 (fun D cO H s hK hP => rc_Room hK hP hx) (k_isSound S x lo ta la el sz hM) ⟨rfl, rfl, Nat.le_of_ble_eq_true rfl, Nat.le_of_ble_eq_true rfl⟩ rfl rfl (Nat.le_of_ble_eq_true rfl) dX11_digest_237 (fun r50 hr50 => ?_)
              obtain ⟨b51, rfl⟩ | ⟨b51, rfl⟩ := zb_cases hr50
              · skip
                refine g_if_eq hκ 247 dX11_digest_240 (by decide) (fun z => absurd z (by decide)) (fun _ => ?_)
                refine g_iconst hκ (v := 1) dX11_digest_243 (by decide) ?_
                refine g_goto hκ 248 dX11_digest_244 (by decide) ?_
                refine g_i2l hκ dX11_digest_248 ?_
                refine g_ladd hκ dX11_digest_249 ?_
                refine g_topl (fun y52 hy52 => ?_)
                exact hend _ _ _ dX11_digest_250 (by subst hy52 hy49; rw [hF146]; unfold digE; rw [b51]; rfl)
              · skip
                refine g_if_eq hκ 247 dX11_digest_240 (by decide) (fun _ => ?_) (fun z => absurd z (by decide))
                refine g_iconst hκ (v := 0) dX11_digest_247 (by decide) ?_
                refine g_i2l hκ dX11_digest_248 ?_
                refine g_ladd hκ dX11_digest_249 ?_
                refine g_topl (fun y53 hy53 => ?_)
                exact hend _ _ _ dX11_digest_250 (by subst hy53 hy49; rw [hF146]; unfold digE; rw [b51]; rfl)
            | succ d146 ih146 =>
              intro i146 x146 a146 hi146 hx146 hF146
              subst hx146
              refine g_iload_n hκ 0 dX11_digest_146 rfl rfl ?_
              refine g_aload_n hκ 2 dX11_digest_147 rfl rfl ?_
              refine gt_Room_towns hκ hdR hx qw_110 (Or.inl rfl) dX11_digest_148 ?_
              refine g_rf f4 ?_
              refine rV_i hκ hdR [] sd_Jx4a65c_size_8abf5 qw_227 (fun D cO H s hK hP => rc_List hK hP L4.1) (k_sizeL S (la 4) 8 (sz 4) (el 4) L4) ⟨rfl, rfl, Nat.le_of_ble_eq_true rfl, Nat.le_of_ble_eq_true rfl⟩ rfl rfl (Nat.le_of_ble_eq_true rfl) dX11_digest_151 (fun r54 hr54 => ?_)
              refine g_eqi hr54 ?_
              refine g_icmp_ge hκ 215 dX11_digest_154 (by decide) (fun z => absurd z (lp_nge rfl (by omega) (by omega))) (fun _ => ?_)
              refine g_aload_n hκ 2 dX11_digest_157 rfl rfl ?_
              refine gt_Room_towns hκ hdR hx qw_110 (Or.inl rfl) dX11_digest_158 ?_
              refine g_rf f4 ?_
              refine g_iload_n hκ 0 dX11_digest_161 rfl rfl ?_
              refine rV_q hκ hdR [.int (nI i146)] sd_Jx4a65c_get_915e3 qw_440 (fun D cO H s hK hP => rc_List hK hP L4.1) (k_get S (la 4) 8 (sz 4) i146 (el 4) (nI i146) L4 rfl (by omega)) ⟨rfl, rfl, Nat.le_of_ble_eq_true rfl, Nat.le_of_ble_eq_true rfl⟩ rfl rfl (Nat.le_of_ble_eq_true rfl) dX11_digest_162 (fun r55 hr55 => ?_)
              refine g_rf hr55 ?_
              refine gc_Town hκ hdR (L4.2.2.2.2 i146 (by omega)) qw_531 dX11_digest_165 ?_
              refine g_astore hκ [(4, .ref (el 4 i146)), (3, .int (nI i146)), (1, .long a146), (0, .ref x)] dX11_digest_168 (by decide) rfl ?_
              refine g_lload_n hκ 2 dX11_digest_170 rfl rfl ?_
              refine g_ldc2 hκ qw_989 dX11_digest_171 ?_
              refine g_lmul hκ dX11_digest_174 ?_
              refine g_aload_n hκ 3 dX11_digest_175 rfl rfl ?_
              refine g_aload hκ 0 dX11_digest_176 rfl ?_
              refine g_bipush hκ (v := 8) dX11_digest_178 (by decide) ?_
              refine rV_i hκ hdR [.ref (el 4 i146), .int 8] sd_X11_minutesToThreat qw_831 (fun D cO H s hK hP => rc_Room hK hP hx) (k_minutesToThreat S x lo ta la el sz (el 4 i146) 8 8 hM (L4.2.2.2.2 i146 (by omega)) (by decide) (by decide)) ⟨rfl, rfl, Nat.le_of_ble_eq_true rfl, Nat.le_of_ble_eq_true rfl⟩ rfl rfl (Nat.le_of_ble_eq_true rfl) dX11_digest_180 (fun r56 hr56 => ?_)
              refine g_eqi hr56 ?_
              refine g_iconst hκ (v := (-1)) dX11_digest_183 (by decide) ?_
              refine g_icmp_eq hκ 191 dX11_digest_184 (by decide) (fun c57 => ?_) (fun c57 => ?_)
              · skip
                refine g_iconst hκ (v := 0) dX11_digest_191 (by decide) ?_
                refine g_i2l hκ dX11_digest_192 ?_
                refine g_ladd hκ dX11_digest_193 ?_
                refine g_topl (fun y58 hy58 => ?_)
                refine g_lstore_n hκ [(1, .long y58), (4, .ref (el 4 i146)), (3, .int (nI i146)), (0, .ref x)] dX11_digest_194 rfl (by decide) rfl ?_
                refine g_lload_n hκ 0 dX11_digest_195 rfl rfl ?_
                refine g_ldc2 hκ qw_989 dX11_digest_196 ?_
                refine g_lmul hκ dX11_digest_199 ?_
                refine g_aload_n hκ 3 dX11_digest_200 rfl rfl ?_
                refine g_aload hκ 1 dX11_digest_201 rfl ?_
                refine rV_i hκ hdR [.ref (el 4 i146)] sd_X11_minutesToSiren qw_950 (fun D cO H s hK hP => rc_Room hK hP hx) (k_minutesToSiren S x lo ta la el sz (el 4 i146) hM (L4.2.2.2.2 i146 (by omega))) ⟨rfl, rfl, Nat.le_of_ble_eq_true rfl, Nat.le_of_ble_eq_true rfl⟩ rfl rfl (Nat.le_of_ble_eq_true rfl) dX11_digest_203 (fun r59 hr59 => ?_)
                refine g_eqi hr59 ?_
                refine g_i2l hκ dX11_digest_206 ?_
                refine g_ladd hκ dX11_digest_207 ?_
                refine g_topl (fun y60 hy60 => ?_)
                refine g_lstore_n hκ [(1, .long y60), (4, .ref (el 4 i146)), (3, .int (nI i146)), (0, .ref x)] dX11_digest_208 rfl (by decide) rfl ?_
                obtain ⟨v61, hv61⟩ : ∃ z : Int32, nI i146 + 1 = z := ⟨_, rfl⟩
                refine g_iinc hκ (k := 2) (v := v61) [(3, .int v61), (1, .long y60), (4, .ref (el 4 i146)), (0, .ref x)] dX11_digest_209 rfl hv61 (by decide) rfl ?_
                refine g_goto hκ 146 dX11_digest_212 (by decide) ?_
                refine g_lv [(3, .int v61), (1, .long y60), (0, .ref x)] [0, 1, 3] rfl ?_
                exact ih146 (i146 + 1) v61 y60 (by omega) (lp_s rfl hv61) (by subst hy60 hy58; rw [hF146]; exact congrArg (digE S x ta el sz) (fld_s (by simp only [if_pos c57])))
              · skip
                refine g_iconst hκ (v := 1) dX11_digest_187 (by decide) ?_
                refine g_goto hκ 192 dX11_digest_188 (by decide) ?_
                refine g_i2l hκ dX11_digest_192 ?_
                refine g_ladd hκ dX11_digest_193 ?_
                refine g_topl (fun y62 hy62 => ?_)
                refine g_lstore_n hκ [(1, .long y62), (4, .ref (el 4 i146)), (3, .int (nI i146)), (0, .ref x)] dX11_digest_194 rfl (by decide) rfl ?_
                refine g_lload_n hκ 0 dX11_digest_195 rfl rfl ?_
                refine g_ldc2 hκ qw_989 dX11_digest_196 ?_
                refine g_lmul hκ dX11_digest_199 ?_
                refine g_aload_n hκ 3 dX11_digest_200 rfl rfl ?_
                refine g_aload hκ 1 dX11_digest_201 rfl ?_
                refine rV_i hκ hdR [.ref (el 4 i146)] sd_X11_minutesToSiren qw_950 (fun D cO H s hK hP => rc_Room hK hP hx) (k_minutesToSiren S x lo ta la el sz (el 4 i146) hM (L4.2.2.2.2 i146 (by omega))) ⟨rfl, rfl, Nat.le_of_ble_eq_true rfl, Nat.le_of_ble_eq_true rfl⟩ rfl rfl (Nat.le_of_ble_eq_true rfl) dX11_digest_203 (fun r63 hr63 => ?_)
                refine g_eqi hr63 ?_
                refine g_i2l hκ dX11_digest_206 ?_
                refine g_ladd hκ dX11_digest_207 ?_
                refine g_topl (fun y64 hy64 => ?_)
                refine g_lstore_n hκ [(1, .long y64), (4, .ref (el 4 i146)), (3, .int (nI i146)), (0, .ref x)] dX11_digest_208 rfl (by decide) rfl ?_
                obtain ⟨v65, hv65⟩ : ∃ z : Int32, nI i146 + 1 = z := ⟨_, rfl⟩
                refine g_iinc hκ (k := 2) (v := v65) [(3, .int v65), (1, .long y64), (4, .ref (el 4 i146)), (0, .ref x)] dX11_digest_209 rfl hv65 (by decide) rfl ?_
                refine g_goto hκ 146 dX11_digest_212 (by decide) ?_
                refine g_lv [(3, .int v65), (1, .long y64), (0, .ref x)] [0, 1, 3] rfl ?_
                exact ih146 (i146 + 1) v65 y64 (by omega) (lp_s rfl hv65) (by subst hy64 hy62; rw [hF146]; exact congrArg (digE S x ta el sz) (fld_s (by simp only [if_neg c57])))
          exact loop146 (sz 4) 0 0 a104 (by omega) (by first | rfl | decide) (hF104)
        | succ d104 ih104 =>
          intro i104 x104 a104 hi104 hx104 hF104
          subst hx104
          refine g_iload_n hκ 0 dX11_digest_104 rfl rfl ?_
          refine g_aload_n hκ 2 dX11_digest_105 rfl rfl ?_
          refine gt_Room_tracks hκ hdR hx qw_113 (Or.inl rfl) dX11_digest_106 ?_
          refine g_rf f7 ?_
          refine rV_i hκ hdR [] sd_Jx4a65c_size_8abf5 qw_227 (fun D cO H s hK hP => rc_List hK hP L7.1) (k_sizeL S (la 7) 9 (sz 7) (el 7) L7) ⟨rfl, rfl, Nat.le_of_ble_eq_true rfl, Nat.le_of_ble_eq_true rfl⟩ rfl rfl (Nat.le_of_ble_eq_true rfl) dX11_digest_109 (fun r66 hr66 => ?_)
          refine g_eqi hr66 ?_
          refine g_icmp_ge hκ 144 dX11_digest_112 (by decide) (fun z => absurd z (lp_nge rfl (by omega) (by omega))) (fun _ => ?_)
          refine g_lload_n hκ 1 dX11_digest_115 rfl rfl ?_
          refine g_ldc2 hκ qw_989 dX11_digest_116 ?_
          refine g_lmul hκ dX11_digest_119 ?_
          refine g_aload_n hκ 2 dX11_digest_120 rfl rfl ?_
          refine g_aload_n hκ 2 dX11_digest_121 rfl rfl ?_
          refine gt_Room_tracks hκ hdR hx qw_113 (Or.inl rfl) dX11_digest_122 ?_
          refine g_rf f7 ?_
          refine g_iload_n hκ 0 dX11_digest_125 rfl rfl ?_
          refine rV_q hκ hdR [.int (nI i104)] sd_Jx4a65c_get_915e3 qw_440 (fun D cO H s hK hP => rc_List hK hP L7.1) (k_get S (la 7) 9 (sz 7) i104 (el 7) (nI i104) L7 rfl (by omega)) ⟨rfl, rfl, Nat.le_of_ble_eq_true rfl, Nat.le_of_ble_eq_true rfl⟩ rfl rfl (Nat.le_of_ble_eq_true rfl) dX11_digest_126 (fun r67 hr67 => ?_)
          refine g_rf hr67 ?_
          refine gc_Track hκ hdR (L7.2.2.2.2 i104 (by omega)) qw_675 dX11_digest_129 ?_
          refine rV_i hκ hdR [.ref (el 7 i104)] sd_X11_soonestSquadron qw_931 (fun D cO H s hK hP => rc_Room hK hP hx) (k_soonest S x lo ta la el sz (el 7 i104) hM (L7.2.2.2.2 i104 (by omega))) ⟨rfl, rfl, Nat.le_of_ble_eq_true rfl, Nat.le_of_ble_eq_true rfl⟩ rfl rfl (Nat.le_of_ble_eq_true rfl) dX11_digest_132 (fun r68 hr68 => ?_)
          refine g_eqi hr68 ?_
          refine g_i2l hκ dX11_digest_135 ?_
          refine g_ladd hκ dX11_digest_136 ?_
          refine g_topl (fun y69 hy69 => ?_)
          refine g_lstore_n hκ [(1, .long y69), (3, .int (nI i104)), (0, .ref x)] dX11_digest_137 rfl (by decide) rfl ?_
          obtain ⟨v70, hv70⟩ : ∃ z : Int32, nI i104 + 1 = z := ⟨_, rfl⟩
          refine g_iinc hκ (k := 1) (v := v70) [(3, .int v70), (1, .long y69), (0, .ref x)] dX11_digest_138 rfl hv70 (by decide) rfl ?_
          refine g_goto hκ 104 dX11_digest_141 (by decide) ?_
          refine g_lv [(3, .int v70), (1, .long y69), (0, .ref x)] [0, 1, 2] rfl ?_
          exact ih104 (i104 + 1) v70 y69 (by omega) (lp_s rfl hv70) (by subst hy69; exact hF104)
      exact loop104 (sz 7) 0 0 a45 (by omega) (by first | rfl | decide) (hF45)
    | succ d45 ih45 =>
      intro i45 x45 a45 hi45 hx45 hF45
      subst hx45
      refine g_iload_n hκ 0 dX11_digest_45 rfl rfl ?_
      refine g_aload_n hκ 2 dX11_digest_46 rfl rfl ?_
      refine gt_Room_squadrons hκ hdR hx qw_108 (Or.inl rfl) dX11_digest_47 ?_
      refine g_rf f2 ?_
      refine rV_i hκ hdR [] sd_Jx4a65c_size_8abf5 qw_227 (fun D cO H s hK hP => rc_List hK hP L2.1) (k_sizeL S (la 2) 6 (sz 2) (el 2) L2) ⟨rfl, rfl, Nat.le_of_ble_eq_true rfl, Nat.le_of_ble_eq_true rfl⟩ rfl rfl (Nat.le_of_ble_eq_true rfl) dX11_digest_50 (fun r71 hr71 => ?_)
      refine g_eqi hr71 ?_
      refine g_icmp_ge hκ 102 dX11_digest_53 (by decide) (fun z => absurd z (lp_nge rfl (by omega) (by omega))) (fun _ => ?_)
      refine g_iconst hκ (v := 1) dX11_digest_56 (by decide) ?_
      refine g_istore hκ [(4, .int 1), (3, .int (nI i45)), (1, .long a45), (0, .ref x)] dX11_digest_57 (by decide) rfl ?_
      refine g_iload hκ 0 dX11_digest_59 rfl ?_
      refine g_bipush hκ (v := 9) dX11_digest_61 (by decide) ?_
      refine g_icmp_gt hκ 96 dX11_digest_63 (by decide) (fun z => absurd z (by decide)) (fun _ => ?_)
      refine g_lload_n hκ 2 dX11_digest_66 rfl rfl ?_
      refine g_ldc2 hκ qw_989 dX11_digest_67 ?_
      refine g_lmul hκ dX11_digest_70 ?_
      refine g_aload_n hκ 3 dX11_digest_71 rfl rfl ?_
      refine gt_Room_squadrons hκ hdR hx qw_108 (Or.inl rfl) dX11_digest_72 ?_
      refine g_rf f2 ?_
      refine g_iload_n hκ 1 dX11_digest_75 rfl rfl ?_
      refine rV_q hκ hdR [.int (nI i45)] sd_Jx4a65c_get_915e3 qw_440 (fun D cO H s hK hP => rc_List hK hP L2.1) (k_get S (la 2) 6 (sz 2) i45 (el 2) (nI i45) L2 rfl (by omega)) ⟨rfl, rfl, Nat.le_of_ble_eq_true rfl, Nat.le_of_ble_eq_true rfl⟩ rfl rfl (Nat.le_of_ble_eq_true rfl) dX11_digest_76 (fun r72 hr72 => ?_)
      refine g_rf hr72 ?_
      refine gc_Squadron hκ hdR (L2.2.2.2.2 i45 (by omega)) qw_438 dX11_digest_79 ?_
      refine g_iload hκ 0 dX11_digest_82 rfl ?_
      refine rV_i hκ hdR [.int 1] sd_X7_tell qw_864 (fun D cO H s hK hP => rc_Squadron hK hP (L2.2.2.2.2 i45 (by omega))) (k_tellSq_1 S (el 2 i45) (L2.2.2.2.2 i45 (by omega))) ⟨rfl, rfl, Nat.le_of_ble_eq_true rfl, Nat.le_of_ble_eq_true rfl⟩ rfl rfl (Nat.le_of_ble_eq_true rfl) dX11_digest_84 (fun r73 hr73 => ?_)
      refine g_eqi hr73 ?_
      refine g_i2l hκ dX11_digest_87 ?_
      refine g_ladd hκ dX11_digest_88 ?_
      refine g_topl (fun y74 hy74 => ?_)
      refine g_lstore_n hκ [(1, .long y74), (4, .int 1), (3, .int (nI i45)), (0, .ref x)] dX11_digest_89 rfl (by decide) rfl ?_
      refine g_iinc hκ (k := 1) (v := 2) [(4, .int 2), (1, .long y74), (3, .int (nI i45)), (0, .ref x)] dX11_digest_90 rfl (by decide) (by decide) rfl ?_
      refine g_goto hκ 59 dX11_digest_93 (by decide) ?_
      refine g_iload hκ 0 dX11_digest_59 rfl ?_
      refine g_bipush hκ (v := 9) dX11_digest_61 (by decide) ?_
      refine g_icmp_gt hκ 96 dX11_digest_63 (by decide) (fun z => absurd z (by decide)) (fun _ => ?_)
      refine g_lload_n hκ 1 dX11_digest_66 rfl rfl ?_
      refine g_ldc2 hκ qw_989 dX11_digest_67 ?_
      refine g_lmul hκ dX11_digest_70 ?_
      refine g_aload_n hκ 3 dX11_digest_71 rfl rfl ?_
      refine gt_Room_squadrons hκ hdR hx qw_108 (Or.inl rfl) dX11_digest_72 ?_
      refine g_rf f2 ?_
      refine g_iload_n hκ 2 dX11_digest_75 rfl rfl ?_
      refine rV_q hκ hdR [.int (nI i45)] sd_Jx4a65c_get_915e3 qw_440 (fun D cO H s hK hP => rc_List hK hP L2.1) (k_get S (la 2) 6 (sz 2) i45 (el 2) (nI i45) L2 rfl (by omega)) ⟨rfl, rfl, Nat.le_of_ble_eq_true rfl, Nat.le_of_ble_eq_true rfl⟩ rfl rfl (Nat.le_of_ble_eq_true rfl) dX11_digest_76 (fun r75 hr75 => ?_)
      refine g_rf hr75 ?_
      refine gc_Squadron hκ hdR (L2.2.2.2.2 i45 (by omega)) qw_438 dX11_digest_79 ?_
      refine g_iload hκ 0 dX11_digest_82 rfl ?_
      refine rV_i hκ hdR [.int 2] sd_X7_tell qw_864 (fun D cO H s hK hP => rc_Squadron hK hP (L2.2.2.2.2 i45 (by omega))) (k_tellSq_2 S (el 2 i45) (L2.2.2.2.2 i45 (by omega))) ⟨rfl, rfl, Nat.le_of_ble_eq_true rfl, Nat.le_of_ble_eq_true rfl⟩ rfl rfl (Nat.le_of_ble_eq_true rfl) dX11_digest_84 (fun r76 hr76 => ?_)
      refine g_eqi hr76 ?_
      refine g_i2l hκ dX11_digest_87 ?_
      refine g_ladd hκ dX11_digest_88 ?_
      refine g_topl (fun y77 hy77 => ?_)
      refine g_lstore_n hκ [(1, .long y77), (4, .int 2), (3, .int (nI i45)), (0, .ref x)] dX11_digest_89 rfl (by decide) rfl ?_
      refine g_iinc hκ (k := 1) (v := 3) [(4, .int 3), (1, .long y77), (3, .int (nI i45)), (0, .ref x)] dX11_digest_90 rfl (by decide) (by decide) rfl ?_
      refine g_goto hκ 59 dX11_digest_93 (by decide) ?_
      refine g_iload hκ 0 dX11_digest_59 rfl ?_
      refine g_bipush hκ (v := 9) dX11_digest_61 (by decide) ?_
      refine g_icmp_gt hκ 96 dX11_digest_63 (by decide) (fun z => absurd z (by decide)) (fun _ => ?_)
      refine g_lload_n hκ 1 dX11_digest_66 rfl rfl ?_
      refine g_ldc2 hκ qw_989 dX11_digest_67 ?_
      refine g_lmul hκ dX11_digest_70 ?_
      refine g_aload_n hκ 3 dX11_digest_71 rfl rfl ?_
      refine gt_Room_squadrons hκ hdR hx qw_108 (Or.inl rfl) dX11_digest_72 ?_
      refine g_rf f2 ?_
      refine g_iload_n hκ 2 dX11_digest_75 rfl rfl ?_
      refine rV_q hκ hdR [.int (nI i45)] sd_Jx4a65c_get_915e3 qw_440 (fun D cO H s hK hP => rc_List hK hP L2.1) (k_get S (la 2) 6 (sz 2) i45 (el 2) (nI i45) L2 rfl (by omega)) ⟨rfl, rfl, Nat.le_of_ble_eq_true rfl, Nat.le_of_ble_eq_true rfl⟩ rfl rfl (Nat.le_of_ble_eq_true rfl) dX11_digest_76 (fun r78 hr78 => ?_)
      refine g_rf hr78 ?_
      refine gc_Squadron hκ hdR (L2.2.2.2.2 i45 (by omega)) qw_438 dX11_digest_79 ?_
      refine g_iload hκ 0 dX11_digest_82 rfl ?_
      refine rV_i hκ hdR [.int 3] sd_X7_tell qw_864 (fun D cO H s hK hP => rc_Squadron hK hP (L2.2.2.2.2 i45 (by omega))) (k_tellSq_3 S (el 2 i45) (L2.2.2.2.2 i45 (by omega))) ⟨rfl, rfl, Nat.le_of_ble_eq_true rfl, Nat.le_of_ble_eq_true rfl⟩ rfl rfl (Nat.le_of_ble_eq_true rfl) dX11_digest_84 (fun r79 hr79 => ?_)
      refine g_eqi hr79 ?_
      refine g_i2l hκ dX11_digest_87 ?_
      refine g_ladd hκ dX11_digest_88 ?_
      refine g_topl (fun y80 hy80 => ?_)
      refine g_lstore_n hκ [(1, .long y80), (4, .int 3), (3, .int (nI i45)), (0, .ref x)] dX11_digest_89 rfl (by decide) rfl ?_
      refine g_iinc hκ (k := 1) (v := 4) [(4, .int 4), (1, .long y80), (3, .int (nI i45)), (0, .ref x)] dX11_digest_90 rfl (by decide) (by decide) rfl ?_
      refine g_goto hκ 59 dX11_digest_93 (by decide) ?_
      refine g_iload hκ 0 dX11_digest_59 rfl ?_
      refine g_bipush hκ (v := 9) dX11_digest_61 (by decide) ?_
      refine g_icmp_gt hκ 96 dX11_digest_63 (by decide) (fun z => absurd z (by decide)) (fun _ => ?_)
      refine g_lload_n hκ 1 dX11_digest_66 rfl rfl ?_
      refine g_ldc2 hκ qw_989 dX11_digest_67 ?_
      refine g_lmul hκ dX11_digest_70 ?_
      refine g_aload_n hκ 3 dX11_digest_71 rfl rfl ?_
      refine gt_Room_squadrons hκ hdR hx qw_108 (Or.inl rfl) dX11_digest_72 ?_
      refine g_rf f2 ?_
      refine g_iload_n hκ 2 dX11_digest_75 rfl rfl ?_
      refine rV_q hκ hdR [.int (nI i45)] sd_Jx4a65c_get_915e3 qw_440 (fun D cO H s hK hP => rc_List hK hP L2.1) (k_get S (la 2) 6 (sz 2) i45 (el 2) (nI i45) L2 rfl (by omega)) ⟨rfl, rfl, Nat.le_of_ble_eq_true rfl, Nat.le_of_ble_eq_true rfl⟩ rfl rfl (Nat.le_of_ble_eq_true rfl) dX11_digest_76 (fun r81 hr81 => ?_)
      refine g_rf hr81 ?_
      refine gc_Squadron hκ hdR (L2.2.2.2.2 i45 (by omega)) qw_438 dX11_digest_79 ?_
      refine g_iload hκ 0 dX11_digest_82 rfl ?_
      refine rV_i hκ hdR [.int 4] sd_X7_tell qw_864 (fun D cO H s hK hP => rc_Squadron hK hP (L2.2.2.2.2 i45 (by omega))) (k_tellSq_4 S (el 2 i45) (L2.2.2.2.2 i45 (by omega))) ⟨rfl, rfl, Nat.le_of_ble_eq_true rfl, Nat.le_of_ble_eq_true rfl⟩ rfl rfl (Nat.le_of_ble_eq_true rfl) dX11_digest_84 (fun r82 hr82 => ?_)
      refine g_eqi hr82 ?_
      refine g_i2l hκ dX11_digest_87 ?_
      refine g_ladd hκ dX11_digest_88 ?_
      refine g_topl (fun y83 hy83 => ?_)
      refine g_lstore_n hκ [(1, .long y83), (4, .int 4), (3, .int (nI i45)), (0, .ref x)] dX11_digest_89 rfl (by decide) rfl ?_
      refine g_iinc hκ (k := 1) (v := 5) [(4, .int 5), (1, .long y83), (3, .int (nI i45)), (0, .ref x)] dX11_digest_90 rfl (by decide) (by decide) rfl ?_
      refine g_goto hκ 59 dX11_digest_93 (by decide) ?_
      refine g_iload hκ 0 dX11_digest_59 rfl ?_
      refine g_bipush hκ (v := 9) dX11_digest_61 (by decide) ?_
      refine g_icmp_gt hκ 96 dX11_digest_63 (by decide) (fun z => absurd z (by decide)) (fun _ => ?_)
      refine g_lload_n hκ 1 dX11_digest_66 rfl rfl ?_
      refine g_ldc2 hκ qw_989 dX11_digest_67 ?_
      refine g_lmul hκ dX11_digest_70 ?_
      refine g_aload_n hκ 3 dX11_digest_71 rfl rfl ?_
      refine gt_Room_squadrons hκ hdR hx qw_108 (Or.inl rfl) dX11_digest_72 ?_
      refine g_rf f2 ?_
      refine g_iload_n hκ 2 dX11_digest_75 rfl rfl ?_
      refine rV_q hκ hdR [.int (nI i45)] sd_Jx4a65c_get_915e3 qw_440 (fun D cO H s hK hP => rc_List hK hP L2.1) (k_get S (la 2) 6 (sz 2) i45 (el 2) (nI i45) L2 rfl (by omega)) ⟨rfl, rfl, Nat.le_of_ble_eq_true rfl, Nat.le_of_ble_eq_true rfl⟩ rfl rfl (Nat.le_of_ble_eq_true rfl) dX11_digest_76 (fun r84 hr84 => ?_)
      refine g_rf hr84 ?_
      refine gc_Squadron hκ hdR (L2.2.2.2.2 i45 (by omega)) qw_438 dX11_digest_79 ?_
      refine g_iload hκ 0 dX11_digest_82 rfl ?_
      refine rV_i hκ hdR [.int 5] sd_X7_tell qw_864 (fun D cO H s hK hP => rc_Squadron hK hP (L2.2.2.2.2 i45 (by omega))) (k_tellSq_5 S (el 2 i45) (L2.2.2.2.2 i45 (by omega))) ⟨rfl, rfl, Nat.le_of_ble_eq_true rfl, Nat.le_of_ble_eq_true rfl⟩ rfl rfl (Nat.le_of_ble_eq_true rfl) dX11_digest_84 (fun r85 hr85 => ?_)
      refine g_eqi hr85 ?_
      refine g_i2l hκ dX11_digest_87 ?_
      refine g_ladd hκ dX11_digest_88 ?_
      refine g_topl (fun y86 hy86 => ?_)
      refine g_lstore_n hκ [(1, .long y86), (4, .int 5), (3, .int (nI i45)), (0, .ref x)] dX11_digest_89 rfl (by decide) rfl ?_
      refine g_iinc hκ (k := 1) (v := 6) [(4, .int 6), (1, .long y86), (3, .int (nI i45)), (0, .ref x)] dX11_digest_90 rfl (by decide) (by decide) rfl ?_
      refine g_goto hκ 59 dX11_digest_93 (by decide) ?_
      refine g_iload hκ 0 dX11_digest_59 rfl ?_
      refine g_bipush hκ (v := 9) dX11_digest_61 (by decide) ?_
      refine g_icmp_gt hκ 96 dX11_digest_63 (by decide) (fun z => absurd z (by decide)) (fun _ => ?_)
      refine g_lload_n hκ 1 dX11_digest_66 rfl rfl ?_
      refine g_ldc2 hκ qw_989 dX11_digest_67 ?_
      refine g_lmul hκ dX11_digest_70 ?_
      refine g_aload_n hκ 3 dX11_digest_71 rfl rfl ?_
      refine gt_Room_squadrons hκ hdR hx qw_108 (Or.inl rfl) dX11_digest_72 ?_
      refine g_rf f2 ?_
      refine g_iload_n hκ 2 dX11_digest_75 rfl rfl ?_
      refine rV_q hκ hdR [.int (nI i45)] sd_Jx4a65c_get_915e3 qw_440 (fun D cO H s hK hP => rc_List hK hP L2.1) (k_get S (la 2) 6 (sz 2) i45 (el 2) (nI i45) L2 rfl (by omega)) ⟨rfl, rfl, Nat.le_of_ble_eq_true rfl, Nat.le_of_ble_eq_true rfl⟩ rfl rfl (Nat.le_of_ble_eq_true rfl) dX11_digest_76 (fun r87 hr87 => ?_)
      refine g_rf hr87 ?_
      refine gc_Squadron hκ hdR (L2.2.2.2.2 i45 (by omega)) qw_438 dX11_digest_79 ?_
      refine g_iload hκ 0 dX11_digest_82 rfl ?_
      refine rV_i hκ hdR [.int 6] sd_X7_tell qw_864 (fun D cO H s hK hP => rc_Squadron hK hP (L2.2.2.2.2 i45 (by omega))) (k_tellSq_6 S (el 2 i45) (L2.2.2.2.2 i45 (by omega)) (hSQ i45 (by omega)).2) ⟨rfl, rfl, Nat.le_of_ble_eq_true rfl, Nat.le_of_ble_eq_true rfl⟩ rfl rfl (Nat.le_of_ble_eq_true rfl) dX11_digest_84 (fun r88 hr88 => ?_)
      refine g_eqi hr88 ?_
      refine g_i2l hκ dX11_digest_87 ?_
      refine g_ladd hκ dX11_digest_88 ?_
      refine g_topl (fun y89 hy89 => ?_)
      refine g_lstore_n hκ [(1, .long y89), (4, .int 6), (3, .int (nI i45)), (0, .ref x)] dX11_digest_89 rfl (by decide) rfl ?_
      refine g_iinc hκ (k := 1) (v := 7) [(4, .int 7), (1, .long y89), (3, .int (nI i45)), (0, .ref x)] dX11_digest_90 rfl (by decide) (by decide) rfl ?_
      refine g_goto hκ 59 dX11_digest_93 (by decide) ?_
      refine g_iload hκ 0 dX11_digest_59 rfl ?_
      refine g_bipush hκ (v := 9) dX11_digest_61 (by decide) ?_
      refine g_icmp_gt hκ 96 dX11_digest_63 (by decide) (fun z => absurd z (by decide)) (fun _ => ?_)
      refine g_lload_n hκ 1 dX11_digest_66 rfl rfl ?_
      refine g_ldc2 hκ qw_989 dX11_digest_67 ?_
      refine g_lmul hκ dX11_digest_70 ?_
      refine g_aload_n hκ 3 dX11_digest_71 rfl rfl ?_
      refine gt_Room_squadrons hκ hdR hx qw_108 (Or.inl rfl) dX11_digest_72 ?_
      refine g_rf f2 ?_
      refine g_iload_n hκ 2 dX11_digest_75 rfl rfl ?_
      refine rV_q hκ hdR [.int (nI i45)] sd_Jx4a65c_get_915e3 qw_440 (fun D cO H s hK hP => rc_List hK hP L2.1) (k_get S (la 2) 6 (sz 2) i45 (el 2) (nI i45) L2 rfl (by omega)) ⟨rfl, rfl, Nat.le_of_ble_eq_true rfl, Nat.le_of_ble_eq_true rfl⟩ rfl rfl (Nat.le_of_ble_eq_true rfl) dX11_digest_76 (fun r90 hr90 => ?_)
      refine g_rf hr90 ?_
      refine gc_Squadron hκ hdR (L2.2.2.2.2 i45 (by omega)) qw_438 dX11_digest_79 ?_
      refine g_iload hκ 0 dX11_digest_82 rfl ?_
      refine rV_i hκ hdR [.int 7] sd_X7_tell qw_864 (fun D cO H s hK hP => rc_Squadron hK hP (L2.2.2.2.2 i45 (by omega))) (k_tellSq_7 S (el 2 i45) (L2.2.2.2.2 i45 (by omega))) ⟨rfl, rfl, Nat.le_of_ble_eq_true rfl, Nat.le_of_ble_eq_true rfl⟩ rfl rfl (Nat.le_of_ble_eq_true rfl) dX11_digest_84 (fun r91 hr91 => ?_)
      refine g_eqi hr91 ?_
      refine g_i2l hκ dX11_digest_87 ?_
      refine g_ladd hκ dX11_digest_88 ?_
      refine g_topl (fun y92 hy92 => ?_)
      refine g_lstore_n hκ [(1, .long y92), (4, .int 7), (3, .int (nI i45)), (0, .ref x)] dX11_digest_89 rfl (by decide) rfl ?_
      refine g_iinc hκ (k := 1) (v := 8) [(4, .int 8), (1, .long y92), (3, .int (nI i45)), (0, .ref x)] dX11_digest_90 rfl (by decide) (by decide) rfl ?_
      refine g_goto hκ 59 dX11_digest_93 (by decide) ?_
      refine g_iload hκ 0 dX11_digest_59 rfl ?_
      refine g_bipush hκ (v := 9) dX11_digest_61 (by decide) ?_
      refine g_icmp_gt hκ 96 dX11_digest_63 (by decide) (fun z => absurd z (by decide)) (fun _ => ?_)
      refine g_lload_n hκ 1 dX11_digest_66 rfl rfl ?_
      refine g_ldc2 hκ qw_989 dX11_digest_67 ?_
      refine g_lmul hκ dX11_digest_70 ?_
      refine g_aload_n hκ 3 dX11_digest_71 rfl rfl ?_
      refine gt_Room_squadrons hκ hdR hx qw_108 (Or.inl rfl) dX11_digest_72 ?_
      refine g_rf f2 ?_
      refine g_iload_n hκ 2 dX11_digest_75 rfl rfl ?_
      refine rV_q hκ hdR [.int (nI i45)] sd_Jx4a65c_get_915e3 qw_440 (fun D cO H s hK hP => rc_List hK hP L2.1) (k_get S (la 2) 6 (sz 2) i45 (el 2) (nI i45) L2 rfl (by omega)) ⟨rfl, rfl, Nat.le_of_ble_eq_true rfl, Nat.le_of_ble_eq_true rfl⟩ rfl rfl (Nat.le_of_ble_eq_true rfl) dX11_digest_76 (fun r93 hr93 => ?_)
      refine g_rf hr93 ?_
      refine gc_Squadron hκ hdR (L2.2.2.2.2 i45 (by omega)) qw_438 dX11_digest_79 ?_
      refine g_iload hκ 0 dX11_digest_82 rfl ?_
      refine rV_i hκ hdR [.int 8] sd_X7_tell qw_864 (fun D cO H s hK hP => rc_Squadron hK hP (L2.2.2.2.2 i45 (by omega))) (k_tellSq_8 S (el 2 i45) (bsF S (el 2 i45)) (L2.2.2.2.2 i45 (by omega)) (hSQ.bs (i := i45) (by omega)).1 (hSQ.bs (i := i45) (by omega)).2) ⟨rfl, rfl, Nat.le_of_ble_eq_true rfl, Nat.le_of_ble_eq_true rfl⟩ rfl rfl (Nat.le_of_ble_eq_true rfl) dX11_digest_84 (fun r94 hr94 => ?_)
      refine g_eqi hr94 ?_
      refine g_i2l hκ dX11_digest_87 ?_
      refine g_ladd hκ dX11_digest_88 ?_
      refine g_topl (fun y95 hy95 => ?_)
      refine g_lstore_n hκ [(1, .long y95), (4, .int 8), (3, .int (nI i45)), (0, .ref x)] dX11_digest_89 rfl (by decide) rfl ?_
      refine g_iinc hκ (k := 1) (v := 9) [(4, .int 9), (1, .long y95), (3, .int (nI i45)), (0, .ref x)] dX11_digest_90 rfl (by decide) (by decide) rfl ?_
      refine g_goto hκ 59 dX11_digest_93 (by decide) ?_
      refine g_iload hκ 0 dX11_digest_59 rfl ?_
      refine g_bipush hκ (v := 9) dX11_digest_61 (by decide) ?_
      refine g_icmp_gt hκ 96 dX11_digest_63 (by decide) (fun z => absurd z (by decide)) (fun _ => ?_)
      refine g_lload_n hκ 1 dX11_digest_66 rfl rfl ?_
      refine g_ldc2 hκ qw_989 dX11_digest_67 ?_
      refine g_lmul hκ dX11_digest_70 ?_
      refine g_aload_n hκ 3 dX11_digest_71 rfl rfl ?_
      refine gt_Room_squadrons hκ hdR hx qw_108 (Or.inl rfl) dX11_digest_72 ?_
      refine g_rf f2 ?_
      refine g_iload_n hκ 2 dX11_digest_75 rfl rfl ?_
      refine rV_q hκ hdR [.int (nI i45)] sd_Jx4a65c_get_915e3 qw_440 (fun D cO H s hK hP => rc_List hK hP L2.1) (k_get S (la 2) 6 (sz 2) i45 (el 2) (nI i45) L2 rfl (by omega)) ⟨rfl, rfl, Nat.le_of_ble_eq_true rfl, Nat.le_of_ble_eq_true rfl⟩ rfl rfl (Nat.le_of_ble_eq_true rfl) dX11_digest_76 (fun r96 hr96 => ?_)
      refine g_rf hr96 ?_
      refine gc_Squadron hκ hdR (L2.2.2.2.2 i45 (by omega)) qw_438 dX11_digest_79 ?_
      refine g_iload hκ 0 dX11_digest_82 rfl ?_
      refine rV_i hκ hdR [.int 9] sd_X7_tell qw_864 (fun D cO H s hK hP => rc_Squadron hK hP (L2.2.2.2.2 i45 (by omega))) (k_tellSq_9 S (el 2 i45) (L2.2.2.2.2 i45 (by omega))) ⟨rfl, rfl, Nat.le_of_ble_eq_true rfl, Nat.le_of_ble_eq_true rfl⟩ rfl rfl (Nat.le_of_ble_eq_true rfl) dX11_digest_84 (fun r97 hr97 => ?_)
      refine g_eqi hr97 ?_
      refine g_i2l hκ dX11_digest_87 ?_
      refine g_ladd hκ dX11_digest_88 ?_
      refine g_topl (fun y98 hy98 => ?_)
      refine g_lstore_n hκ [(1, .long y98), (4, .int 9), (3, .int (nI i45)), (0, .ref x)] dX11_digest_89 rfl (by decide) rfl ?_
      refine g_iinc hκ (k := 1) (v := 10) [(4, .int 10), (1, .long y98), (3, .int (nI i45)), (0, .ref x)] dX11_digest_90 rfl (by decide) (by decide) rfl ?_
      refine g_goto hκ 59 dX11_digest_93 (by decide) ?_
      refine g_iload hκ 0 dX11_digest_59 rfl ?_
      refine g_bipush hκ (v := 9) dX11_digest_61 (by decide) ?_
      refine g_icmp_gt hκ 96 dX11_digest_63 (by decide) (fun _ => ?_) (fun z => absurd z (by decide))
      obtain ⟨v99, hv99⟩ : ∃ z : Int32, nI i45 + 1 = z := ⟨_, rfl⟩
      refine g_iinc hκ (k := 2) (v := v99) [(3, .int v99), (4, .int 10), (1, .long y98), (0, .ref x)] dX11_digest_96 rfl hv99 (by decide) rfl ?_
      refine g_goto hκ 45 dX11_digest_99 (by decide) ?_
      refine g_lv [(3, .int v99), (1, .long y98), (0, .ref x)] [0, 2, 3] rfl ?_
      exact ih45 (i45 + 1) v99 y98 (by omega) (lp_s rfl hv99) (by subst hy98 hy95 hy92 hy89 hy86 hy83 hy80 hy77 hy74; exact hF45)
  exact loop45 (sz 2) 0 0 (dtrF S x el sz (skyF S el sz y42)) (by omega) (by first | rfl | decide) (by subst hy42 hy40 hy38 hy36 hy34 hy32 hy30 hy28 hy26 hy24 hy22 hy20 hy18 hy16 hy14 hy12 hy10 hy8 hy6 hy4 hy2; rfl)
