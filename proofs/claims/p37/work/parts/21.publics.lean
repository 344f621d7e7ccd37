set_option maxHeartbeats 4000000 in
set_option maxRecDepth 100000 in
theorem p_room_0 (S : wPS) (x lo ta : Nat) (la : Nat → Nat) (el : Nat → Nat → Nat) (sz : Nat → Nat) (hM : RMx S x lo ta la el sz) : MR yX11_room cX11_room 2 (some .int) ({ frames := 1, cells := 0, slots := 0, locals := 22 }) S [.ref x, .int 0] (vp_Si (fun r => r = rmF S x lo ta el sz 0)) := by
  refine stR_i (post := (fun r => r = rmF S x lo ta el sz 0)) (by decide) (Nat.le_of_ble_eq_true rfl) rfl (fun _ _ => rfl) (fun κ hκ hend => ?_)
  show Gj κ _ 0 [(0, .ref x), (1, .int 0)] []
  have hMc := hM
  obtain ⟨hx, ⟨f0, L0⟩, ⟨f1, L1⟩, ⟨f2, L2⟩, ⟨f3, L3⟩, ⟨f4, L4⟩, ⟨f5, L5⟩, ⟨f6, L6⟩, ⟨f7, L7⟩, ⟨f8, L8⟩, ⟨flo, hlo⟩, ⟨fta, hta⟩⟩ := hMc
  have b0 := L0.2.2.1
  have b2 := L2.2.2.1
  have b3 := L3.2.2.1
  have b4 := L4.2.2.1
  have b5 := L5.2.2.1
  have b7 := L7.2.2.1
  have b8 := L8.2.2.1
  refine g_iload_n hκ 1 dX11_room_0 rfl rfl ?_
  refine g_iconst hκ (v := 0) dX11_room_1 (by decide) ?_
  refine g_bipush hκ (v := 20) dX11_room_2 (by decide) ?_
  refine rS_i hκ hdR [.int 0, .int 0, .int 20] sd_X11_isIn qw_156 (k_isIn S 0 0 20) ⟨rfl, rfl, Nat.le_of_ble_eq_true rfl, Nat.le_of_ble_eq_true rfl⟩ rfl rfl (Nat.le_of_ble_eq_true rfl) dX11_room_4 (fun r1 hr1 => ?_)
  refine g_eqi (y := 1) (hr1.trans (by decide)) ?_
  refine g_if_ne hκ 21 dX11_room_7 (by decide) (fun _ => ?_) (fun z => absurd z (by decide))
  refine g_aload_n hκ 0 dX11_room_21 rfl rfl ?_
  refine g_iload_n hκ 1 dX11_room_22 rfl rfl ?_
  refine rV_i hκ hdR [.int 0] sd_X11_tellRoom qw_878 (fun D cO H s hK hP => rc_Room hK hP hx) (k_rm_0 S x lo ta la el sz hM) ⟨rfl, rfl, Nat.le_of_ble_eq_true rfl, Nat.le_of_ble_eq_true rfl⟩ rfl rfl (Nat.le_of_ble_eq_true rfl) dX11_room_23 (fun r2 hr2 => ?_)
  refine g_eqi hr2 ?_
  exact hend _ _ _ dX11_room_26 (rfl)
set_option maxHeartbeats 4000000 in
set_option maxRecDepth 100000 in
theorem p_room_1 (S : wPS) (x lo ta : Nat) (la : Nat → Nat) (el : Nat → Nat → Nat) (sz : Nat → Nat) (hM : RMx S x lo ta la el sz) : MR yX11_room cX11_room 2 (some .int) ({ frames := 5, cells := 0, slots := 0, locals := 109 }) S [.ref x, .int 1] (vp_Si (fun r => r = rmF S x lo ta el sz 1)) := by
  refine stR_i (post := (fun r => r = rmF S x lo ta el sz 1)) (by decide) (Nat.le_of_ble_eq_true rfl) rfl (fun _ _ => rfl) (fun κ hκ hend => ?_)
  show Gj κ _ 0 [(0, .ref x), (1, .int 1)] []
  have hMc := hM
  obtain ⟨hx, ⟨f0, L0⟩, ⟨f1, L1⟩, ⟨f2, L2⟩, ⟨f3, L3⟩, ⟨f4, L4⟩, ⟨f5, L5⟩, ⟨f6, L6⟩, ⟨f7, L7⟩, ⟨f8, L8⟩, ⟨flo, hlo⟩, ⟨fta, hta⟩⟩ := hMc
  have b0 := L0.2.2.1
  have b2 := L2.2.2.1
  have b3 := L3.2.2.1
  have b4 := L4.2.2.1
  have b5 := L5.2.2.1
  have b7 := L7.2.2.1
  have b8 := L8.2.2.1
  refine g_iload_n hκ 1 dX11_room_0 rfl rfl ?_
  refine g_iconst hκ (v := 0) dX11_room_1 (by decide) ?_
  refine g_bipush hκ (v := 20) dX11_room_2 (by decide) ?_
  refine rS_i hκ hdR [.int 1, .int 0, .int 20] sd_X11_isIn qw_156 (k_isIn S 1 0 20) ⟨rfl, rfl, Nat.le_of_ble_eq_true rfl, Nat.le_of_ble_eq_true rfl⟩ rfl rfl (Nat.le_of_ble_eq_true rfl) dX11_room_4 (fun r1 hr1 => ?_)
  refine g_eqi (y := 1) (hr1.trans (by decide)) ?_
  refine g_if_ne hκ 21 dX11_room_7 (by decide) (fun _ => ?_) (fun z => absurd z (by decide))
  refine g_aload_n hκ 0 dX11_room_21 rfl rfl ?_
  refine g_iload_n hκ 1 dX11_room_22 rfl rfl ?_
  refine rV_i hκ hdR [.int 1] sd_X11_tellRoom qw_878 (fun D cO H s hK hP => rc_Room hK hP hx) (k_rm_1 S x lo ta la el sz hM) ⟨rfl, rfl, Nat.le_of_ble_eq_true rfl, Nat.le_of_ble_eq_true rfl⟩ rfl rfl (Nat.le_of_ble_eq_true rfl) dX11_room_23 (fun r2 hr2 => ?_)
  refine g_eqi hr2 ?_
  exact hend _ _ _ dX11_room_26 (rfl)
set_option maxHeartbeats 4000000 in
set_option maxRecDepth 100000 in
theorem p_room_2 (S : wPS) (x lo ta : Nat) (la : Nat → Nat) (el : Nat → Nat → Nat) (sz : Nat → Nat) (hM : RMx S x lo ta la el sz) : MR yX11_room cX11_room 2 (some .int) ({ frames := 5, cells := 0, slots := 0, locals := 109 }) S [.ref x, .int 2] (vp_Si (fun r => r = rmF S x lo ta el sz 2)) := by
  refine stR_i (post := (fun r => r = rmF S x lo ta el sz 2)) (by decide) (Nat.le_of_ble_eq_true rfl) rfl (fun _ _ => rfl) (fun κ hκ hend => ?_)
  show Gj κ _ 0 [(0, .ref x), (1, .int 2)] []
  have hMc := hM
  obtain ⟨hx, ⟨f0, L0⟩, ⟨f1, L1⟩, ⟨f2, L2⟩, ⟨f3, L3⟩, ⟨f4, L4⟩, ⟨f5, L5⟩, ⟨f6, L6⟩, ⟨f7, L7⟩, ⟨f8, L8⟩, ⟨flo, hlo⟩, ⟨fta, hta⟩⟩ := hMc
  have b0 := L0.2.2.1
  have b2 := L2.2.2.1
  have b3 := L3.2.2.1
  have b4 := L4.2.2.1
  have b5 := L5.2.2.1
  have b7 := L7.2.2.1
  have b8 := L8.2.2.1
  refine g_iload_n hκ 1 dX11_room_0 rfl rfl ?_
  refine g_iconst hκ (v := 0) dX11_room_1 (by decide) ?_
  refine g_bipush hκ (v := 20) dX11_room_2 (by decide) ?_
  refine rS_i hκ hdR [.int 2, .int 0, .int 20] sd_X11_isIn qw_156 (k_isIn S 2 0 20) ⟨rfl, rfl, Nat.le_of_ble_eq_true rfl, Nat.le_of_ble_eq_true rfl⟩ rfl rfl (Nat.le_of_ble_eq_true rfl) dX11_room_4 (fun r1 hr1 => ?_)
  refine g_eqi (y := 1) (hr1.trans (by decide)) ?_
  refine g_if_ne hκ 21 dX11_room_7 (by decide) (fun _ => ?_) (fun z => absurd z (by decide))
  refine g_aload_n hκ 0 dX11_room_21 rfl rfl ?_
  refine g_iload_n hκ 1 dX11_room_22 rfl rfl ?_
  refine rV_i hκ hdR [.int 2] sd_X11_tellRoom qw_878 (fun D cO H s hK hP => rc_Room hK hP hx) (k_rm_2 S x lo ta la el sz hM) ⟨rfl, rfl, Nat.le_of_ble_eq_true rfl, Nat.le_of_ble_eq_true rfl⟩ rfl rfl (Nat.le_of_ble_eq_true rfl) dX11_room_23 (fun r2 hr2 => ?_)
  refine g_eqi hr2 ?_
  exact hend _ _ _ dX11_room_26 (rfl)
set_option maxHeartbeats 4000000 in
set_option maxRecDepth 100000 in
theorem p_room_4 (S : wPS) (x lo ta : Nat) (la : Nat → Nat) (el : Nat → Nat → Nat) (sz : Nat → Nat) (hM : RMx S x lo ta la el sz) : MR yX11_room cX11_room 2 (some .int) ({ frames := 2, cells := 0, slots := 0, locals := 41 }) S [.ref x, .int 4] (vp_Si (fun r => r = rmF S x lo ta el sz 4)) := by
  refine stR_i (post := (fun r => r = rmF S x lo ta el sz 4)) (by decide) (Nat.le_of_ble_eq_true rfl) rfl (fun _ _ => rfl) (fun κ hκ hend => ?_)
  show Gj κ _ 0 [(0, .ref x), (1, .int 4)] []
  have hMc := hM
  obtain ⟨hx, ⟨f0, L0⟩, ⟨f1, L1⟩, ⟨f2, L2⟩, ⟨f3, L3⟩, ⟨f4, L4⟩, ⟨f5, L5⟩, ⟨f6, L6⟩, ⟨f7, L7⟩, ⟨f8, L8⟩, ⟨flo, hlo⟩, ⟨fta, hta⟩⟩ := hMc
  have b0 := L0.2.2.1
  have b2 := L2.2.2.1
  have b3 := L3.2.2.1
  have b4 := L4.2.2.1
  have b5 := L5.2.2.1
  have b7 := L7.2.2.1
  have b8 := L8.2.2.1
  refine g_iload_n hκ 1 dX11_room_0 rfl rfl ?_
  refine g_iconst hκ (v := 0) dX11_room_1 (by decide) ?_
  refine g_bipush hκ (v := 20) dX11_room_2 (by decide) ?_
  refine rS_i hκ hdR [.int 4, .int 0, .int 20] sd_X11_isIn qw_156 (k_isIn S 4 0 20) ⟨rfl, rfl, Nat.le_of_ble_eq_true rfl, Nat.le_of_ble_eq_true rfl⟩ rfl rfl (Nat.le_of_ble_eq_true rfl) dX11_room_4 (fun r1 hr1 => ?_)
  refine g_eqi (y := 1) (hr1.trans (by decide)) ?_
  refine g_if_ne hκ 21 dX11_room_7 (by decide) (fun _ => ?_) (fun z => absurd z (by decide))
  refine g_aload_n hκ 0 dX11_room_21 rfl rfl ?_
  refine g_iload_n hκ 1 dX11_room_22 rfl rfl ?_
  refine rV_i hκ hdR [.int 4] sd_X11_tellRoom qw_878 (fun D cO H s hK hP => rc_Room hK hP hx) (k_rm_4 S x lo ta la el sz hM) ⟨rfl, rfl, Nat.le_of_ble_eq_true rfl, Nat.le_of_ble_eq_true rfl⟩ rfl rfl (Nat.le_of_ble_eq_true rfl) dX11_room_23 (fun r2 hr2 => ?_)
  refine g_eqi hr2 ?_
  exact hend _ _ _ dX11_room_26 (rfl)
set_option maxHeartbeats 4000000 in
set_option maxRecDepth 100000 in
theorem p_room_5 (S : wPS) (x lo ta : Nat) (la : Nat → Nat) (el : Nat → Nat → Nat) (sz : Nat → Nat) (hM : RMx S x lo ta la el sz) : MR yX11_room cX11_room 2 (some .int) ({ frames := 5, cells := 0, slots := 0, locals := 107 }) S [.ref x, .int 5] (vp_Si (fun r => r = rmF S x lo ta el sz 5)) := by
  refine stR_i (post := (fun r => r = rmF S x lo ta el sz 5)) (by decide) (Nat.le_of_ble_eq_true rfl) rfl (fun _ _ => rfl) (fun κ hκ hend => ?_)
  show Gj κ _ 0 [(0, .ref x), (1, .int 5)] []
  have hMc := hM
  obtain ⟨hx, ⟨f0, L0⟩, ⟨f1, L1⟩, ⟨f2, L2⟩, ⟨f3, L3⟩, ⟨f4, L4⟩, ⟨f5, L5⟩, ⟨f6, L6⟩, ⟨f7, L7⟩, ⟨f8, L8⟩, ⟨flo, hlo⟩, ⟨fta, hta⟩⟩ := hMc
  have b0 := L0.2.2.1
  have b2 := L2.2.2.1
  have b3 := L3.2.2.1
  have b4 := L4.2.2.1
  have b5 := L5.2.2.1
  have b7 := L7.2.2.1
  have b8 := L8.2.2.1
  refine g_iload_n hκ 1 dX11_room_0 rfl rfl ?_
  refine g_iconst hκ (v := 0) dX11_room_1 (by decide) ?_
  refine g_bipush hκ (v := 20) dX11_room_2 (by decide) ?_
  refine rS_i hκ hdR [.int 5, .int 0, .int 20] sd_X11_isIn qw_156 (k_isIn S 5 0 20) ⟨rfl, rfl, Nat.le_of_ble_eq_true rfl, Nat.le_of_ble_eq_true rfl⟩ rfl rfl (Nat.le_of_ble_eq_true rfl) dX11_room_4 (fun r1 hr1 => ?_)
  refine g_eqi (y := 1) (hr1.trans (by decide)) ?_
  refine g_if_ne hκ 21 dX11_room_7 (by decide) (fun _ => ?_) (fun z => absurd z (by decide))
  refine g_aload_n hκ 0 dX11_room_21 rfl rfl ?_
  refine g_iload_n hκ 1 dX11_room_22 rfl rfl ?_
  refine rV_i hκ hdR [.int 5] sd_X11_tellRoom qw_878 (fun D cO H s hK hP => rc_Room hK hP hx) (k_rm_5 S x lo ta la el sz hM) ⟨rfl, rfl, Nat.le_of_ble_eq_true rfl, Nat.le_of_ble_eq_true rfl⟩ rfl rfl (Nat.le_of_ble_eq_true rfl) dX11_room_23 (fun r2 hr2 => ?_)
  refine g_eqi hr2 ?_
  exact hend _ _ _ dX11_room_26 (rfl)
set_option maxHeartbeats 4000000 in
set_option maxRecDepth 100000 in
theorem p_room_6 (S : wPS) (x lo ta : Nat) (la : Nat → Nat) (el : Nat → Nat → Nat) (sz : Nat → Nat) (hM : RMx S x lo ta la el sz) : MR yX11_room cX11_room 2 (some .int) ({ frames := 7, cells := 0, slots := 0, locals := 156 }) S [.ref x, .int 6] (vp_Si (fun r => r = rmF S x lo ta el sz 6)) := by
  refine stR_i (post := (fun r => r = rmF S x lo ta el sz 6)) (by decide) (Nat.le_of_ble_eq_true rfl) rfl (fun _ _ => rfl) (fun κ hκ hend => ?_)
  show Gj κ _ 0 [(0, .ref x), (1, .int 6)] []
  have hMc := hM
  obtain ⟨hx, ⟨f0, L0⟩, ⟨f1, L1⟩, ⟨f2, L2⟩, ⟨f3, L3⟩, ⟨f4, L4⟩, ⟨f5, L5⟩, ⟨f6, L6⟩, ⟨f7, L7⟩, ⟨f8, L8⟩, ⟨flo, hlo⟩, ⟨fta, hta⟩⟩ := hMc
  have b0 := L0.2.2.1
  have b2 := L2.2.2.1
  have b3 := L3.2.2.1
  have b4 := L4.2.2.1
  have b5 := L5.2.2.1
  have b7 := L7.2.2.1
  have b8 := L8.2.2.1
  refine g_iload_n hκ 1 dX11_room_0 rfl rfl ?_
  refine g_iconst hκ (v := 0) dX11_room_1 (by decide) ?_
  refine g_bipush hκ (v := 20) dX11_room_2 (by decide) ?_
  refine rS_i hκ hdR [.int 6, .int 0, .int 20] sd_X11_isIn qw_156 (k_isIn S 6 0 20) ⟨rfl, rfl, Nat.le_of_ble_eq_true rfl, Nat.le_of_ble_eq_true rfl⟩ rfl rfl (Nat.le_of_ble_eq_true rfl) dX11_room_4 (fun r1 hr1 => ?_)
  refine g_eqi (y := 1) (hr1.trans (by decide)) ?_
  refine g_if_ne hκ 21 dX11_room_7 (by decide) (fun _ => ?_) (fun z => absurd z (by decide))
  refine g_aload_n hκ 0 dX11_room_21 rfl rfl ?_
  refine g_iload_n hκ 1 dX11_room_22 rfl rfl ?_
  refine rV_i hκ hdR [.int 6] sd_X11_tellRoom qw_878 (fun D cO H s hK hP => rc_Room hK hP hx) (k_rm_6 S x lo ta la el sz hM) ⟨rfl, rfl, Nat.le_of_ble_eq_true rfl, Nat.le_of_ble_eq_true rfl⟩ rfl rfl (Nat.le_of_ble_eq_true rfl) dX11_room_23 (fun r2 hr2 => ?_)
  refine g_eqi hr2 ?_
  exact hend _ _ _ dX11_room_26 (rfl)
set_option maxHeartbeats 4000000 in
set_option maxRecDepth 100000 in
theorem p_room_7 (S : wPS) (x lo ta : Nat) (la : Nat → Nat) (el : Nat → Nat → Nat) (sz : Nat → Nat) (hM : RMx S x lo ta la el sz) : MR yX11_room cX11_room 2 (some .int) ({ frames := 7, cells := 0, slots := 0, locals := 156 }) S [.ref x, .int 7] (vp_Si (fun r => r = rmF S x lo ta el sz 7)) := by
  refine stR_i (post := (fun r => r = rmF S x lo ta el sz 7)) (by decide) (Nat.le_of_ble_eq_true rfl) rfl (fun _ _ => rfl) (fun κ hκ hend => ?_)
  show Gj κ _ 0 [(0, .ref x), (1, .int 7)] []
  have hMc := hM
  obtain ⟨hx, ⟨f0, L0⟩, ⟨f1, L1⟩, ⟨f2, L2⟩, ⟨f3, L3⟩, ⟨f4, L4⟩, ⟨f5, L5⟩, ⟨f6, L6⟩, ⟨f7, L7⟩, ⟨f8, L8⟩, ⟨flo, hlo⟩, ⟨fta, hta⟩⟩ := hMc
  have b0 := L0.2.2.1
  have b2 := L2.2.2.1
  have b3 := L3.2.2.1
  have b4 := L4.2.2.1
  have b5 := L5.2.2.1
  have b7 := L7.2.2.1
  have b8 := L8.2.2.1
  refine g_iload_n hκ 1 dX11_room_0 rfl rfl ?_
  refine g_iconst hκ (v := 0) dX11_room_1 (by decide) ?_
  refine g_bipush hκ (v := 20) dX11_room_2 (by decide) ?_
  refine rS_i hκ hdR [.int 7, .int 0, .int 20] sd_X11_isIn qw_156 (k_isIn S 7 0 20) ⟨rfl, rfl, Nat.le_of_ble_eq_true rfl, Nat.le_of_ble_eq_true rfl⟩ rfl rfl (Nat.le_of_ble_eq_true rfl) dX11_room_4 (fun r1 hr1 => ?_)
  refine g_eqi (y := 1) (hr1.trans (by decide)) ?_
  refine g_if_ne hκ 21 dX11_room_7 (by decide) (fun _ => ?_) (fun z => absurd z (by decide))
  refine g_aload_n hκ 0 dX11_room_21 rfl rfl ?_
  refine g_iload_n hκ 1 dX11_room_22 rfl rfl ?_
  refine rV_i hκ hdR [.int 7] sd_X11_tellRoom qw_878 (fun D cO H s hK hP => rc_Room hK hP hx) (k_rm_7 S x lo ta la el sz hM) ⟨rfl, rfl, Nat.le_of_ble_eq_true rfl, Nat.le_of_ble_eq_true rfl⟩ rfl rfl (Nat.le_of_ble_eq_true rfl) dX11_room_23 (fun r2 hr2 => ?_)
  refine g_eqi hr2 ?_
  exact hend _ _ _ dX11_room_26 (rfl)
set_option maxHeartbeats 4000000 in
set_option maxRecDepth 100000 in
theorem p_room_8 (S : wPS) (x lo ta : Nat) (la : Nat → Nat) (el : Nat → Nat → Nat) (sz : Nat → Nat) (hM : RMx S x lo ta la el sz) : MR yX11_room cX11_room 2 (some .int) ({ frames := 1, cells := 0, slots := 0, locals := 22 }) S [.ref x, .int 8] (vp_Si (fun r => r = rmF S x lo ta el sz 8)) := by
  refine stR_i (post := (fun r => r = rmF S x lo ta el sz 8)) (by decide) (Nat.le_of_ble_eq_true rfl) rfl (fun _ _ => rfl) (fun κ hκ hend => ?_)
  show Gj κ _ 0 [(0, .ref x), (1, .int 8)] []
  have hMc := hM
  obtain ⟨hx, ⟨f0, L0⟩, ⟨f1, L1⟩, ⟨f2, L2⟩, ⟨f3, L3⟩, ⟨f4, L4⟩, ⟨f5, L5⟩, ⟨f6, L6⟩, ⟨f7, L7⟩, ⟨f8, L8⟩, ⟨flo, hlo⟩, ⟨fta, hta⟩⟩ := hMc
  have b0 := L0.2.2.1
  have b2 := L2.2.2.1
  have b3 := L3.2.2.1
  have b4 := L4.2.2.1
  have b5 := L5.2.2.1
  have b7 := L7.2.2.1
  have b8 := L8.2.2.1
  refine g_iload_n hκ 1 dX11_room_0 rfl rfl ?_
  refine g_iconst hκ (v := 0) dX11_room_1 (by decide) ?_
  refine g_bipush hκ (v := 20) dX11_room_2 (by decide) ?_
  refine rS_i hκ hdR [.int 8, .int 0, .int 20] sd_X11_isIn qw_156 (k_isIn S 8 0 20) ⟨rfl, rfl, Nat.le_of_ble_eq_true rfl, Nat.le_of_ble_eq_true rfl⟩ rfl rfl (Nat.le_of_ble_eq_true rfl) dX11_room_4 (fun r1 hr1 => ?_)
  refine g_eqi (y := 1) (hr1.trans (by decide)) ?_
  refine g_if_ne hκ 21 dX11_room_7 (by decide) (fun _ => ?_) (fun z => absurd z (by decide))
  refine g_aload_n hκ 0 dX11_room_21 rfl rfl ?_
  refine g_iload_n hκ 1 dX11_room_22 rfl rfl ?_
  refine rV_i hκ hdR [.int 8] sd_X11_tellRoom qw_878 (fun D cO H s hK hP => rc_Room hK hP hx) (k_rm_8 S x lo ta la el sz hM) ⟨rfl, rfl, Nat.le_of_ble_eq_true rfl, Nat.le_of_ble_eq_true rfl⟩ rfl rfl (Nat.le_of_ble_eq_true rfl) dX11_room_23 (fun r2 hr2 => ?_)
  refine g_eqi hr2 ?_
  exact hend _ _ _ dX11_room_26 (rfl)
set_option maxHeartbeats 4000000 in
set_option maxRecDepth 100000 in
theorem p_room_9 (S : wPS) (x lo ta : Nat) (la : Nat → Nat) (el : Nat → Nat → Nat) (sz : Nat → Nat) (hM : RMx S x lo ta la el sz) : MR yX11_room cX11_room 2 (some .int) ({ frames := 1, cells := 0, slots := 0, locals := 22 }) S [.ref x, .int 9] (vp_Si (fun r => r = rmF S x lo ta el sz 9)) := by
  refine stR_i (post := (fun r => r = rmF S x lo ta el sz 9)) (by decide) (Nat.le_of_ble_eq_true rfl) rfl (fun _ _ => rfl) (fun κ hκ hend => ?_)
  show Gj κ _ 0 [(0, .ref x), (1, .int 9)] []
  have hMc := hM
  obtain ⟨hx, ⟨f0, L0⟩, ⟨f1, L1⟩, ⟨f2, L2⟩, ⟨f3, L3⟩, ⟨f4, L4⟩, ⟨f5, L5⟩, ⟨f6, L6⟩, ⟨f7, L7⟩, ⟨f8, L8⟩, ⟨flo, hlo⟩, ⟨fta, hta⟩⟩ := hMc
  have b0 := L0.2.2.1
  have b2 := L2.2.2.1
  have b3 := L3.2.2.1
  have b4 := L4.2.2.1
  have b5 := L5.2.2.1
  have b7 := L7.2.2.1
  have b8 := L8.2.2.1
  refine g_iload_n hκ 1 dX11_room_0 rfl rfl ?_
  refine g_iconst hκ (v := 0) dX11_room_1 (by decide) ?_
  refine g_bipush hκ (v := 20) dX11_room_2 (by decide) ?_
  refine rS_i hκ hdR [.int 9, .int 0, .int 20] sd_X11_isIn qw_156 (k_isIn S 9 0 20) ⟨rfl, rfl, Nat.le_of_ble_eq_true rfl, Nat.le_of_ble_eq_true rfl⟩ rfl rfl (Nat.le_of_ble_eq_true rfl) dX11_room_4 (fun r1 hr1 => ?_)
  refine g_eqi (y := 1) (hr1.trans (by decide)) ?_
  refine g_if_ne hκ 21 dX11_room_7 (by decide) (fun _ => ?_) (fun z => absurd z (by decide))
  refine g_aload_n hκ 0 dX11_room_21 rfl rfl ?_
  refine g_iload_n hκ 1 dX11_room_22 rfl rfl ?_
  refine rV_i hκ hdR [.int 9] sd_X11_tellRoom qw_878 (fun D cO H s hK hP => rc_Room hK hP hx) (k_rm_9 S x lo ta la el sz hM) ⟨rfl, rfl, Nat.le_of_ble_eq_true rfl, Nat.le_of_ble_eq_true rfl⟩ rfl rfl (Nat.le_of_ble_eq_true rfl) dX11_room_23 (fun r2 hr2 => ?_)
  refine g_eqi hr2 ?_
  exact hend _ _ _ dX11_room_26 (rfl)
set_option maxHeartbeats 4000000 in
set_option maxRecDepth 100000 in
theorem p_room_11 (S : wPS) (x lo ta : Nat) (la : Nat → Nat) (el : Nat → Nat → Nat) (sz : Nat → Nat) (hM : RMx S x lo ta la el sz) : MR yX11_room cX11_room 2 (some .int) ({ frames := 5, cells := 0, slots := 0, locals := 107 }) S [.ref x, .int 11] (vp_Si (fun r => r = rmF S x lo ta el sz 11)) := by
  refine stR_i (post := (fun r => r = rmF S x lo ta el sz 11)) (by decide) (Nat.le_of_ble_eq_true rfl) rfl (fun _ _ => rfl) (fun κ hκ hend => ?_)
  show Gj κ _ 0 [(0, .ref x), (1, .int 11)] []
  have hMc := hM
  obtain ⟨hx, ⟨f0, L0⟩, ⟨f1, L1⟩, ⟨f2, L2⟩, ⟨f3, L3⟩, ⟨f4, L4⟩, ⟨f5, L5⟩, ⟨f6, L6⟩, ⟨f7, L7⟩, ⟨f8, L8⟩, ⟨flo, hlo⟩, ⟨fta, hta⟩⟩ := hMc
  have b0 := L0.2.2.1
  have b2 := L2.2.2.1
  have b3 := L3.2.2.1
  have b4 := L4.2.2.1
  have b5 := L5.2.2.1
  have b7 := L7.2.2.1
  have b8 := L8.2.2.1
  refine g_iload_n hκ 1 dX11_room_0 rfl rfl ?_
  refine g_iconst hκ (v := 0) dX11_room_1 (by decide) ?_
  refine g_bipush hκ (v := 20) dX11_room_2 (by decide) ?_
  refine rS_i hκ hdR [.int 11, .int 0, .int 20] sd_X11_isIn qw_156 (k_isIn S 11 0 20) ⟨rfl, rfl, Nat.le_of_ble_eq_true rfl, Nat.le_of_ble_eq_true rfl⟩ rfl rfl (Nat.le_of_ble_eq_true rfl) dX11_room_4 (fun r1 hr1 => ?_)
  refine g_eqi (y := 1) (hr1.trans (by decide)) ?_
  refine g_if_ne hκ 21 dX11_room_7 (by decide) (fun _ => ?_) (fun z => absurd z (by decide))
  refine g_aload_n hκ 0 dX11_room_21 rfl rfl ?_
  refine g_iload_n hκ 1 dX11_room_22 rfl rfl ?_
  refine rV_i hκ hdR [.int 11] sd_X11_tellRoom qw_878 (fun D cO H s hK hP => rc_Room hK hP hx) (k_rm_11 S x lo ta la el sz hM) ⟨rfl, rfl, Nat.le_of_ble_eq_true rfl, Nat.le_of_ble_eq_true rfl⟩ rfl rfl (Nat.le_of_ble_eq_true rfl) dX11_room_23 (fun r2 hr2 => ?_)
  refine g_eqi hr2 ?_
  exact hend _ _ _ dX11_room_26 (rfl)
set_option maxHeartbeats 4000000 in
set_option maxRecDepth 100000 in
theorem p_room_13 (S : wPS) (x lo ta : Nat) (la : Nat → Nat) (el : Nat → Nat → Nat) (sz : Nat → Nat) (hM : RMx S x lo ta la el sz) : MR yX11_room cX11_room 2 (some .int) ({ frames := 5, cells := 0, slots := 0, locals := 107 }) S [.ref x, .int 13] (vp_Si (fun r => r = rmF S x lo ta el sz 13)) := by
  refine stR_i (post := (fun r => r = rmF S x lo ta el sz 13)) (by decide) (Nat.le_of_ble_eq_true rfl) rfl (fun _ _ => rfl) (fun κ hκ hend => ?_)
  show Gj κ _ 0 [(0, .ref x), (1, .int 13)] []
  have hMc := hM
  obtain ⟨hx, ⟨f0, L0⟩, ⟨f1, L1⟩, ⟨f2, L2⟩, ⟨f3, L3⟩, ⟨f4, L4⟩, ⟨f5, L5⟩, ⟨f6, L6⟩, ⟨f7, L7⟩, ⟨f8, L8⟩, ⟨flo, hlo⟩, ⟨fta, hta⟩⟩ := hMc
  have b0 := L0.2.2.1
  have b2 := L2.2.2.1
  have b3 := L3.2.2.1
  have b4 := L4.2.2.1
  have b5 := L5.2.2.1
  have b7 := L7.2.2.1
  have b8 := L8.2.2.1
  refine g_iload_n hκ 1 dX11_room_0 rfl rfl ?_
  refine g_iconst hκ (v := 0) dX11_room_1 (by decide) ?_
  refine g_bipush hκ (v := 20) dX11_room_2 (by decide) ?_
  refine rS_i hκ hdR [.int 13, .int 0, .int 20] sd_X11_isIn qw_156 (k_isIn S 13 0 20) ⟨rfl, rfl, Nat.le_of_ble_eq_true rfl, Nat.le_of_ble_eq_true rfl⟩ rfl rfl (Nat.le_of_ble_eq_true rfl) dX11_room_4 (fun r1 hr1 => ?_)
  refine g_eqi (y := 1) (hr1.trans (by decide)) ?_
  refine g_if_ne hκ 21 dX11_room_7 (by decide) (fun _ => ?_) (fun z => absurd z (by decide))
  refine g_aload_n hκ 0 dX11_room_21 rfl rfl ?_
  refine g_iload_n hκ 1 dX11_room_22 rfl rfl ?_
  refine rV_i hκ hdR [.int 13] sd_X11_tellRoom qw_878 (fun D cO H s hK hP => rc_Room hK hP hx) (k_rm_13 S x lo ta la el sz hM) ⟨rfl, rfl, Nat.le_of_ble_eq_true rfl, Nat.le_of_ble_eq_true rfl⟩ rfl rfl (Nat.le_of_ble_eq_true rfl) dX11_room_23 (fun r2 hr2 => ?_)
  refine g_eqi hr2 ?_
  exact hend _ _ _ dX11_room_26 (rfl)
set_option maxHeartbeats 4000000 in
set_option maxRecDepth 100000 in
theorem p_room_14 (S : wPS) (x lo ta : Nat) (la : Nat → Nat) (el : Nat → Nat → Nat) (sz : Nat → Nat) (hM : RMx S x lo ta la el sz) : MR yX11_room cX11_room 2 (some .int) ({ frames := 1, cells := 0, slots := 0, locals := 22 }) S [.ref x, .int 14] (vp_Si (fun r => r = rmF S x lo ta el sz 14)) := by
  refine stR_i (post := (fun r => r = rmF S x lo ta el sz 14)) (by decide) (Nat.le_of_ble_eq_true rfl) rfl (fun _ _ => rfl) (fun κ hκ hend => ?_)
  show Gj κ _ 0 [(0, .ref x), (1, .int 14)] []
  have hMc := hM
  obtain ⟨hx, ⟨f0, L0⟩, ⟨f1, L1⟩, ⟨f2, L2⟩, ⟨f3, L3⟩, ⟨f4, L4⟩, ⟨f5, L5⟩, ⟨f6, L6⟩, ⟨f7, L7⟩, ⟨f8, L8⟩, ⟨flo, hlo⟩, ⟨fta, hta⟩⟩ := hMc
  have b0 := L0.2.2.1
  have b2 := L2.2.2.1
  have b3 := L3.2.2.1
  have b4 := L4.2.2.1
  have b5 := L5.2.2.1
  have b7 := L7.2.2.1
  have b8 := L8.2.2.1
  refine g_iload_n hκ 1 dX11_room_0 rfl rfl ?_
  refine g_iconst hκ (v := 0) dX11_room_1 (by decide) ?_
  refine g_bipush hκ (v := 20) dX11_room_2 (by decide) ?_
  refine rS_i hκ hdR [.int 14, .int 0, .int 20] sd_X11_isIn qw_156 (k_isIn S 14 0 20) ⟨rfl, rfl, Nat.le_of_ble_eq_true rfl, Nat.le_of_ble_eq_true rfl⟩ rfl rfl (Nat.le_of_ble_eq_true rfl) dX11_room_4 (fun r1 hr1 => ?_)
  refine g_eqi (y := 1) (hr1.trans (by decide)) ?_
  refine g_if_ne hκ 21 dX11_room_7 (by decide) (fun _ => ?_) (fun z => absurd z (by decide))
  refine g_aload_n hκ 0 dX11_room_21 rfl rfl ?_
  refine g_iload_n hκ 1 dX11_room_22 rfl rfl ?_
  refine rV_i hκ hdR [.int 14] sd_X11_tellRoom qw_878 (fun D cO H s hK hP => rc_Room hK hP hx) (k_rm_14 S x lo ta la el sz hM) ⟨rfl, rfl, Nat.le_of_ble_eq_true rfl, Nat.le_of_ble_eq_true rfl⟩ rfl rfl (Nat.le_of_ble_eq_true rfl) dX11_room_23 (fun r2 hr2 => ?_)
  refine g_eqi hr2 ?_
  exact hend _ _ _ dX11_room_26 (rfl)
set_option maxHeartbeats 4000000 in
set_option maxRecDepth 100000 in
theorem p_room_15 (S : wPS) (x lo ta : Nat) (la : Nat → Nat) (el : Nat → Nat → Nat) (sz : Nat → Nat) (hM : RMx S x lo ta la el sz) : MR yX11_room cX11_room 2 (some .int) ({ frames := 1, cells := 0, slots := 0, locals := 22 }) S [.ref x, .int 15] (vp_Si (fun r => r = rmF S x lo ta el sz 15)) := by
  refine stR_i (post := (fun r => r = rmF S x lo ta el sz 15)) (by decide) (Nat.le_of_ble_eq_true rfl) rfl (fun _ _ => rfl) (fun κ hκ hend => ?_)
  show Gj κ _ 0 [(0, .ref x), (1, .int 15)] []
  have hMc := hM
  obtain ⟨hx, ⟨f0, L0⟩, ⟨f1, L1⟩, ⟨f2, L2⟩, ⟨f3, L3⟩, ⟨f4, L4⟩, ⟨f5, L5⟩, ⟨f6, L6⟩, ⟨f7, L7⟩, ⟨f8, L8⟩, ⟨flo, hlo⟩, ⟨fta, hta⟩⟩ := hMc
  have b0 := L0.2.2.1
  have b2 := L2.2.2.1
  have b3 := L3.2.2.1
  have b4 := L4.2.2.1
  have b5 := L5.2.2.1
  have b7 := L7.2.2.1
  have b8 := L8.2.2.1
  refine g_iload_n hκ 1 dX11_room_0 rfl rfl ?_
  refine g_iconst hκ (v := 0) dX11_room_1 (by decide) ?_
  refine g_bipush hκ (v := 20) dX11_room_2 (by decide) ?_
  refine rS_i hκ hdR [.int 15, .int 0, .int 20] sd_X11_isIn qw_156 (k_isIn S 15 0 20) ⟨rfl, rfl, Nat.le_of_ble_eq_true rfl, Nat.le_of_ble_eq_true rfl⟩ rfl rfl (Nat.le_of_ble_eq_true rfl) dX11_room_4 (fun r1 hr1 => ?_)
  refine g_eqi (y := 1) (hr1.trans (by decide)) ?_
  refine g_if_ne hκ 21 dX11_room_7 (by decide) (fun _ => ?_) (fun z => absurd z (by decide))
  refine g_aload_n hκ 0 dX11_room_21 rfl rfl ?_
  refine g_iload_n hκ 1 dX11_room_22 rfl rfl ?_
  refine rV_i hκ hdR [.int 15] sd_X11_tellRoom qw_878 (fun D cO H s hK hP => rc_Room hK hP hx) (k_rm_15 S x lo ta la el sz hM) ⟨rfl, rfl, Nat.le_of_ble_eq_true rfl, Nat.le_of_ble_eq_true rfl⟩ rfl rfl (Nat.le_of_ble_eq_true rfl) dX11_room_23 (fun r2 hr2 => ?_)
  refine g_eqi hr2 ?_
  exact hend _ _ _ dX11_room_26 (rfl)
set_option maxHeartbeats 4000000 in
set_option maxRecDepth 100000 in
theorem p_room_19 (S : wPS) (x lo ta : Nat) (la : Nat → Nat) (el : Nat → Nat → Nat) (sz : Nat → Nat) (hM : RMx S x lo ta la el sz) : MR yX11_room cX11_room 2 (some .int) ({ frames := 1, cells := 0, slots := 0, locals := 22 }) S [.ref x, .int 19] (vp_Si (fun r => r = rmF S x lo ta el sz 19)) := by
  refine stR_i (post := (fun r => r = rmF S x lo ta el sz 19)) (by decide) (Nat.le_of_ble_eq_true rfl) rfl (fun _ _ => rfl) (fun κ hκ hend => ?_)
  show Gj κ _ 0 [(0, .ref x), (1, .int 19)] []
  have hMc := hM
  obtain ⟨hx, ⟨f0, L0⟩, ⟨f1, L1⟩, ⟨f2, L2⟩, ⟨f3, L3⟩, ⟨f4, L4⟩, ⟨f5, L5⟩, ⟨f6, L6⟩, ⟨f7, L7⟩, ⟨f8, L8⟩, ⟨flo, hlo⟩, ⟨fta, hta⟩⟩ := hMc
  have b0 := L0.2.2.1
  have b2 := L2.2.2.1
  have b3 := L3.2.2.1
  have b4 := L4.2.2.1
  have b5 := L5.2.2.1
  have b7 := L7.2.2.1
  have b8 := L8.2.2.1
  refine g_iload_n hκ 1 dX11_room_0 rfl rfl ?_
  refine g_iconst hκ (v := 0) dX11_room_1 (by decide) ?_
  refine g_bipush hκ (v := 20) dX11_room_2 (by decide) ?_
  refine rS_i hκ hdR [.int 19, .int 0, .int 20] sd_X11_isIn qw_156 (k_isIn S 19 0 20) ⟨rfl, rfl, Nat.le_of_ble_eq_true rfl, Nat.le_of_ble_eq_true rfl⟩ rfl rfl (Nat.le_of_ble_eq_true rfl) dX11_room_4 (fun r1 hr1 => ?_)
  refine g_eqi (y := 1) (hr1.trans (by decide)) ?_
  refine g_if_ne hκ 21 dX11_room_7 (by decide) (fun _ => ?_) (fun z => absurd z (by decide))
  refine g_aload_n hκ 0 dX11_room_21 rfl rfl ?_
  refine g_iload_n hκ 1 dX11_room_22 rfl rfl ?_
  refine rV_i hκ hdR [.int 19] sd_X11_tellRoom qw_878 (fun D cO H s hK hP => rc_Room hK hP hx) (k_rm_19 S x lo ta la el sz hM) ⟨rfl, rfl, Nat.le_of_ble_eq_true rfl, Nat.le_of_ble_eq_true rfl⟩ rfl rfl (Nat.le_of_ble_eq_true rfl) dX11_room_23 (fun r2 hr2 => ?_)
  refine g_eqi hr2 ?_
  exact hend _ _ _ dX11_room_26 (rfl)
set_option maxHeartbeats 4000000 in
set_option maxRecDepth 100000 in
theorem p_ofFlight_5 (S : wPS) (x lo ta : Nat) (la : Nat → Nat) (el : Nat → Nat → Nat) (sz : Nat → Nat) (k : Nat) (w : Int32) (hM : RMx S x lo ta la el sz) (hw : w = nI k) (hk : k < sz 5) : MR yX11_ofFlight cX11_ofFlight 3 (some .int) ({ frames := 3, cells := 0, slots := 0, locals := 64 }) S [.ref x, .int w, .int 5] (vp_Si (fun r => r = sI S q_Flight_count (el 5 k))) := by
  refine stR_i (post := (fun r => r = sI S q_Flight_count (el 5 k))) (by decide) (Nat.le_of_ble_eq_true rfl) rfl (fun _ _ => rfl) (fun κ hκ hend => ?_)
  show Gj κ _ 0 [(0, .ref x), (1, .int w), (2, .int 5)] []
  have hMc := hM
  obtain ⟨hx, ⟨f0, L0⟩, ⟨f1, L1⟩, ⟨f2, L2⟩, ⟨f3, L3⟩, ⟨f4, L4⟩, ⟨f5, L5⟩, ⟨f6, L6⟩, ⟨f7, L7⟩, ⟨f8, L8⟩, ⟨flo, hlo⟩, ⟨fta, hta⟩⟩ := hMc
  have b0 := L0.2.2.1
  have b2 := L2.2.2.1
  have b3 := L3.2.2.1
  have b4 := L4.2.2.1
  have b5 := L5.2.2.1
  have b7 := L7.2.2.1
  have b8 := L8.2.2.1
  refine g_iload_n hκ 1 dX11_ofFlight_0 rfl rfl ?_
  refine g_aload_n hκ 0 dX11_ofFlight_1 rfl rfl ?_
  refine gt_Room_flights hκ hdR hx qw_111 (Or.inl rfl) dX11_ofFlight_2 ?_
  refine g_rf f5 ?_
  refine rV_i hκ hdR [] sd_Jx4a65c_size_8abf5 qw_227 (fun D cO H s hK hP => rc_List hK hP L5.1) (k_sizeL S (la 5) 0 (sz 5) (el 5) L5) ⟨rfl, rfl, Nat.le_of_ble_eq_true rfl, Nat.le_of_ble_eq_true rfl⟩ rfl rfl (Nat.le_of_ble_eq_true rfl) dX11_ofFlight_5 (fun r1 hr1 => ?_)
  refine g_eqi hr1 ?_
  refine rS_i hκ hdR [.int w, .int (nI (sz 5))] sd_X11_isNumber qw_417 (k_isNumber S w (nI (sz 5))) ⟨rfl, rfl, Nat.le_of_ble_eq_true rfl, Nat.le_of_ble_eq_true rfl⟩ rfl rfl (Nat.le_of_ble_eq_true rfl) dX11_ofFlight_8 (fun r2 hr2 => ?_)
  refine g_eqi (y := 1) (hr2.trans (by rw [isNum_t hw hk b5]; rfl)) ?_
  refine g_if_ne hκ 24 dX11_ofFlight_11 (by decide) (fun _ => ?_) (fun z => absurd z (by decide))
  refine g_iload_n hκ 2 dX11_ofFlight_24 rfl rfl ?_
  refine g_iconst hκ (v := 0) dX11_ofFlight_25 (by decide) ?_
  refine g_bipush hκ (v := 7) dX11_ofFlight_26 (by decide) ?_
  refine rS_i hκ hdR [.int 5, .int 0, .int 7] sd_X11_isIn qw_156 (k_isIn S 5 0 7) ⟨rfl, rfl, Nat.le_of_ble_eq_true rfl, Nat.le_of_ble_eq_true rfl⟩ rfl rfl (Nat.le_of_ble_eq_true rfl) dX11_ofFlight_28 (fun r3 hr3 => ?_)
  refine g_eqi (y := 1) (hr3.trans (by decide)) ?_
  refine g_if_ne hκ 45 dX11_ofFlight_31 (by decide) (fun _ => ?_) (fun z => absurd z (by decide))
  refine g_aload_n hκ 0 dX11_ofFlight_45 rfl rfl ?_
  refine gt_Room_flights hκ hdR hx qw_111 (Or.inl rfl) dX11_ofFlight_46 ?_
  refine g_rf f5 ?_
  refine g_iload_n hκ 1 dX11_ofFlight_49 rfl rfl ?_
  refine rV_q hκ hdR [.int w] sd_Jx4a65c_get_915e3 qw_440 (fun D cO H s hK hP => rc_List hK hP L5.1) (k_get S (la 5) 0 (sz 5) k (el 5) w L5 hw hk) ⟨rfl, rfl, Nat.le_of_ble_eq_true rfl, Nat.le_of_ble_eq_true rfl⟩ rfl rfl (Nat.le_of_ble_eq_true rfl) dX11_ofFlight_50 (fun r4 hr4 => ?_)
  refine g_rf hr4 ?_
  refine gc_Flight hκ hdR (L5.2.2.2.2 k hk) qw_553 dX11_ofFlight_53 ?_
  refine g_iload_n hκ 2 dX11_ofFlight_56 rfl rfl ?_
  refine rV_i hκ hdR [.int 5] sd_X0_tell qw_994 (fun D cO H s hK hP => rc_Flight hK hP (L5.2.2.2.2 k hk)) (k_tellFlight_5 S (el 5 k) (L5.2.2.2.2 k hk)) ⟨rfl, rfl, Nat.le_of_ble_eq_true rfl, Nat.le_of_ble_eq_true rfl⟩ rfl rfl (Nat.le_of_ble_eq_true rfl) dX11_ofFlight_57 (fun r5 hr5 => ?_)
  refine g_eqi hr5 ?_
  exact hend _ _ _ dX11_ofFlight_60 (rfl)
set_option maxHeartbeats 4000000 in
set_option maxRecDepth 100000 in
theorem p_ofMast_7 (S : wPS) (x lo ta : Nat) (la : Nat → Nat) (el : Nat → Nat → Nat) (sz : Nat → Nat) (k : Nat) (w : Int32) (hM : RMx S x lo ta la el sz) (hw : w = nI k) (hk : k < sz 0) : MR yX11_ofMast cX11_ofMast 3 (some .int) ({ frames := 3, cells := 0, slots := 0, locals := 64 }) S [.ref x, .int w, .int 7] (vp_Si (fun r => r = msF S (el 0 k) 7)) := by
  refine stR_i (post := (fun r => r = msF S (el 0 k) 7)) (by decide) (Nat.le_of_ble_eq_true rfl) rfl (fun _ _ => rfl) (fun κ hκ hend => ?_)
  show Gj κ _ 0 [(0, .ref x), (1, .int w), (2, .int 7)] []
  have hMc := hM
  obtain ⟨hx, ⟨f0, L0⟩, ⟨f1, L1⟩, ⟨f2, L2⟩, ⟨f3, L3⟩, ⟨f4, L4⟩, ⟨f5, L5⟩, ⟨f6, L6⟩, ⟨f7, L7⟩, ⟨f8, L8⟩, ⟨flo, hlo⟩, ⟨fta, hta⟩⟩ := hMc
  have b0 := L0.2.2.1
  have b2 := L2.2.2.1
  have b3 := L3.2.2.1
  have b4 := L4.2.2.1
  have b5 := L5.2.2.1
  have b7 := L7.2.2.1
  have b8 := L8.2.2.1
  refine g_iload_n hκ 1 dX11_ofMast_0 rfl rfl ?_
  refine g_aload_n hκ 0 dX11_ofMast_1 rfl rfl ?_
  refine gt_Room_masts hκ hdR hx qw_106 (Or.inl rfl) dX11_ofMast_2 ?_
  refine g_rf f0 ?_
  refine rV_i hκ hdR [] sd_Jx4a65c_size_8abf5 qw_227 (fun D cO H s hK hP => rc_List hK hP L0.1) (k_sizeL S (la 0) 3 (sz 0) (el 0) L0) ⟨rfl, rfl, Nat.le_of_ble_eq_true rfl, Nat.le_of_ble_eq_true rfl⟩ rfl rfl (Nat.le_of_ble_eq_true rfl) dX11_ofMast_5 (fun r1 hr1 => ?_)
  refine g_eqi hr1 ?_
  refine rS_i hκ hdR [.int w, .int (nI (sz 0))] sd_X11_isNumber qw_417 (k_isNumber S w (nI (sz 0))) ⟨rfl, rfl, Nat.le_of_ble_eq_true rfl, Nat.le_of_ble_eq_true rfl⟩ rfl rfl (Nat.le_of_ble_eq_true rfl) dX11_ofMast_8 (fun r2 hr2 => ?_)
  refine g_eqi (y := 1) (hr2.trans (by rw [isNum_t hw hk b0]; rfl)) ?_
  refine g_if_ne hκ 24 dX11_ofMast_11 (by decide) (fun _ => ?_) (fun z => absurd z (by decide))
  refine g_iload_n hκ 2 dX11_ofMast_24 rfl rfl ?_
  refine g_iconst hκ (v := 0) dX11_ofMast_25 (by decide) ?_
  refine g_bipush hκ (v := 9) dX11_ofMast_26 (by decide) ?_
  refine rS_i hκ hdR [.int 7, .int 0, .int 9] sd_X11_isIn qw_156 (k_isIn S 7 0 9) ⟨rfl, rfl, Nat.le_of_ble_eq_true rfl, Nat.le_of_ble_eq_true rfl⟩ rfl rfl (Nat.le_of_ble_eq_true rfl) dX11_ofMast_28 (fun r3 hr3 => ?_)
  refine g_eqi (y := 1) (hr3.trans (by decide)) ?_
  refine g_if_ne hκ 45 dX11_ofMast_31 (by decide) (fun _ => ?_) (fun z => absurd z (by decide))
  refine g_aload_n hκ 0 dX11_ofMast_45 rfl rfl ?_
  refine gt_Room_masts hκ hdR hx qw_106 (Or.inl rfl) dX11_ofMast_46 ?_
  refine g_rf f0 ?_
  refine g_iload_n hκ 1 dX11_ofMast_49 rfl rfl ?_
  refine rV_q hκ hdR [.int w] sd_Jx4a65c_get_915e3 qw_440 (fun D cO H s hK hP => rc_List hK hP L0.1) (k_get S (la 0) 3 (sz 0) k (el 0) w L0 hw hk) ⟨rfl, rfl, Nat.le_of_ble_eq_true rfl, Nat.le_of_ble_eq_true rfl⟩ rfl rfl (Nat.le_of_ble_eq_true rfl) dX11_ofMast_50 (fun r4 hr4 => ?_)
  refine g_rf hr4 ?_
  refine gc_Mast hκ hdR (L0.2.2.2.2 k hk) qw_247 dX11_ofMast_53 ?_
  refine g_iload_n hκ 2 dX11_ofMast_56 rfl rfl ?_
  refine rV_i hκ hdR [.int 7] sd_X3_tell qw_998 (fun D cO H s hK hP => rc_Mast hK hP (L0.2.2.2.2 k hk)) (k_tellMast_7 S (el 0 k) (L0.2.2.2.2 k hk)) ⟨rfl, rfl, Nat.le_of_ble_eq_true rfl, Nat.le_of_ble_eq_true rfl⟩ rfl rfl (Nat.le_of_ble_eq_true rfl) dX11_ofMast_57 (fun r5 hr5 => ?_)
  refine g_eqi hr5 ?_
  exact hend _ _ _ dX11_ofMast_60 (rfl)
set_option maxHeartbeats 4000000 in
set_option maxRecDepth 100000 in
theorem p_ofMast_8 (S : wPS) (x lo ta : Nat) (la : Nat → Nat) (el : Nat → Nat → Nat) (sz : Nat → Nat) (k : Nat) (w : Int32) (hM : RMx S x lo ta la el sz) (hw : w = nI k) (hk : k < sz 0) : MR yX11_ofMast cX11_ofMast 3 (some .int) ({ frames := 3, cells := 0, slots := 0, locals := 64 }) S [.ref x, .int w, .int 8] (vp_Si (fun r => r = msF S (el 0 k) 8)) := by
  refine stR_i (post := (fun r => r = msF S (el 0 k) 8)) (by decide) (Nat.le_of_ble_eq_true rfl) rfl (fun _ _ => rfl) (fun κ hκ hend => ?_)
  show Gj κ _ 0 [(0, .ref x), (1, .int w), (2, .int 8)] []
  have hMc := hM
  obtain ⟨hx, ⟨f0, L0⟩, ⟨f1, L1⟩, ⟨f2, L2⟩, ⟨f3, L3⟩, ⟨f4, L4⟩, ⟨f5, L5⟩, ⟨f6, L6⟩, ⟨f7, L7⟩, ⟨f8, L8⟩, ⟨flo, hlo⟩, ⟨fta, hta⟩⟩ := hMc
  have b0 := L0.2.2.1
  have b2 := L2.2.2.1
  have b3 := L3.2.2.1
  have b4 := L4.2.2.1
  have b5 := L5.2.2.1
  have b7 := L7.2.2.1
  have b8 := L8.2.2.1
  refine g_iload_n hκ 1 dX11_ofMast_0 rfl rfl ?_
  refine g_aload_n hκ 0 dX11_ofMast_1 rfl rfl ?_
  refine gt_Room_masts hκ hdR hx qw_106 (Or.inl rfl) dX11_ofMast_2 ?_
  refine g_rf f0 ?_
  refine rV_i hκ hdR [] sd_Jx4a65c_size_8abf5 qw_227 (fun D cO H s hK hP => rc_List hK hP L0.1) (k_sizeL S (la 0) 3 (sz 0) (el 0) L0) ⟨rfl, rfl, Nat.le_of_ble_eq_true rfl, Nat.le_of_ble_eq_true rfl⟩ rfl rfl (Nat.le_of_ble_eq_true rfl) dX11_ofMast_5 (fun r1 hr1 => ?_)
  refine g_eqi hr1 ?_
  refine rS_i hκ hdR [.int w, .int (nI (sz 0))] sd_X11_isNumber qw_417 (k_isNumber S w (nI (sz 0))) ⟨rfl, rfl, Nat.le_of_ble_eq_true rfl, Nat.le_of_ble_eq_true rfl⟩ rfl rfl (Nat.le_of_ble_eq_true rfl) dX11_ofMast_8 (fun r2 hr2 => ?_)
  refine g_eqi (y := 1) (hr2.trans (by rw [isNum_t hw hk b0]; rfl)) ?_
  refine g_if_ne hκ 24 dX11_ofMast_11 (by decide) (fun _ => ?_) (fun z => absurd z (by decide))
  refine g_iload_n hκ 2 dX11_ofMast_24 rfl rfl ?_
  refine g_iconst hκ (v := 0) dX11_ofMast_25 (by decide) ?_
  refine g_bipush hκ (v := 9) dX11_ofMast_26 (by decide) ?_
  refine rS_i hκ hdR [.int 8, .int 0, .int 9] sd_X11_isIn qw_156 (k_isIn S 8 0 9) ⟨rfl, rfl, Nat.le_of_ble_eq_true rfl, Nat.le_of_ble_eq_true rfl⟩ rfl rfl (Nat.le_of_ble_eq_true rfl) dX11_ofMast_28 (fun r3 hr3 => ?_)
  refine g_eqi (y := 1) (hr3.trans (by decide)) ?_
  refine g_if_ne hκ 45 dX11_ofMast_31 (by decide) (fun _ => ?_) (fun z => absurd z (by decide))
  refine g_aload_n hκ 0 dX11_ofMast_45 rfl rfl ?_
  refine gt_Room_masts hκ hdR hx qw_106 (Or.inl rfl) dX11_ofMast_46 ?_
  refine g_rf f0 ?_
  refine g_iload_n hκ 1 dX11_ofMast_49 rfl rfl ?_
  refine rV_q hκ hdR [.int w] sd_Jx4a65c_get_915e3 qw_440 (fun D cO H s hK hP => rc_List hK hP L0.1) (k_get S (la 0) 3 (sz 0) k (el 0) w L0 hw hk) ⟨rfl, rfl, Nat.le_of_ble_eq_true rfl, Nat.le_of_ble_eq_true rfl⟩ rfl rfl (Nat.le_of_ble_eq_true rfl) dX11_ofMast_50 (fun r4 hr4 => ?_)
  refine g_rf hr4 ?_
  refine gc_Mast hκ hdR (L0.2.2.2.2 k hk) qw_247 dX11_ofMast_53 ?_
  refine g_iload_n hκ 2 dX11_ofMast_56 rfl rfl ?_
  refine rV_i hκ hdR [.int 8] sd_X3_tell qw_998 (fun D cO H s hK hP => rc_Mast hK hP (L0.2.2.2.2 k hk)) (k_tellMast_8 S (el 0 k) (L0.2.2.2.2 k hk)) ⟨rfl, rfl, Nat.le_of_ble_eq_true rfl, Nat.le_of_ble_eq_true rfl⟩ rfl rfl (Nat.le_of_ble_eq_true rfl) dX11_ofMast_57 (fun r5 hr5 => ?_)
  refine g_eqi hr5 ?_
  exact hend _ _ _ dX11_ofMast_60 (rfl)
set_option maxHeartbeats 4000000 in
set_option maxRecDepth 100000 in
theorem p_ofMast_9 (S : wPS) (x lo ta : Nat) (la : Nat → Nat) (el : Nat → Nat → Nat) (sz : Nat → Nat) (k : Nat) (w : Int32) (hM : RMx S x lo ta la el sz) (hw : w = nI k) (hk : k < sz 0) : MR yX11_ofMast cX11_ofMast 3 (some .int) ({ frames := 3, cells := 0, slots := 0, locals := 64 }) S [.ref x, .int w, .int 9] (vp_Si (fun r => r = msF S (el 0 k) 9)) := by
  refine stR_i (post := (fun r => r = msF S (el 0 k) 9)) (by decide) (Nat.le_of_ble_eq_true rfl) rfl (fun _ _ => rfl) (fun κ hκ hend => ?_)
  show Gj κ _ 0 [(0, .ref x), (1, .int w), (2, .int 9)] []
  have hMc := hM
  obtain ⟨hx, ⟨f0, L0⟩, ⟨f1, L1⟩, ⟨f2, L2⟩, ⟨f3, L3⟩, ⟨f4, L4⟩, ⟨f5, L5⟩, ⟨f6, L6⟩, ⟨f7, L7⟩, ⟨f8, L8⟩, ⟨flo, hlo⟩, ⟨fta, hta⟩⟩ := hMc
  have b0 := L0.2.2.1
  have b2 := L2.2.2.1
  have b3 := L3.2.2.1
  have b4 := L4.2.2.1
  have b5 := L5.2.2.1
  have b7 := L7.2.2.1
  have b8 := L8.2.2.1
  refine g_iload_n hκ 1 dX11_ofMast_0 rfl rfl ?_
  refine g_aload_n hκ 0 dX11_ofMast_1 rfl rfl ?_
  refine gt_Room_masts hκ hdR hx qw_106 (Or.inl rfl) dX11_ofMast_2 ?_
  refine g_rf f0 ?_
  refine rV_i hκ hdR [] sd_Jx4a65c_size_8abf5 qw_227 (fun D cO H s hK hP => rc_List hK hP L0.1) (k_sizeL S (la 0) 3 (sz 0) (el 0) L0) ⟨rfl, rfl, Nat.le_of_ble_eq_true rfl, Nat.le_of_ble_eq_true rfl⟩ rfl rfl (Nat.le_of_ble_eq_true rfl) dX11_ofMast_5 (fun r1 hr1 => ?_)
  refine g_eqi hr1 ?_
  refine rS_i hκ hdR [.int w, .int (nI (sz 0))] sd_X11_isNumber qw_417 (k_isNumber S w (nI (sz 0))) ⟨rfl, rfl, Nat.le_of_ble_eq_true rfl, Nat.le_of_ble_eq_true rfl⟩ rfl rfl (Nat.le_of_ble_eq_true rfl) dX11_ofMast_8 (fun r2 hr2 => ?_)
  refine g_eqi (y := 1) (hr2.trans (by rw [isNum_t hw hk b0]; rfl)) ?_
  refine g_if_ne hκ 24 dX11_ofMast_11 (by decide) (fun _ => ?_) (fun z => absurd z (by decide))
  refine g_iload_n hκ 2 dX11_ofMast_24 rfl rfl ?_
  refine g_iconst hκ (v := 0) dX11_ofMast_25 (by decide) ?_
  refine g_bipush hκ (v := 9) dX11_ofMast_26 (by decide) ?_
  refine rS_i hκ hdR [.int 9, .int 0, .int 9] sd_X11_isIn qw_156 (k_isIn S 9 0 9) ⟨rfl, rfl, Nat.le_of_ble_eq_true rfl, Nat.le_of_ble_eq_true rfl⟩ rfl rfl (Nat.le_of_ble_eq_true rfl) dX11_ofMast_28 (fun r3 hr3 => ?_)
  refine g_eqi (y := 1) (hr3.trans (by decide)) ?_
  refine g_if_ne hκ 45 dX11_ofMast_31 (by decide) (fun _ => ?_) (fun z => absurd z (by decide))
  refine g_aload_n hκ 0 dX11_ofMast_45 rfl rfl ?_
  refine gt_Room_masts hκ hdR hx qw_106 (Or.inl rfl) dX11_ofMast_46 ?_
  refine g_rf f0 ?_
  refine g_iload_n hκ 1 dX11_ofMast_49 rfl rfl ?_
  refine rV_q hκ hdR [.int w] sd_Jx4a65c_get_915e3 qw_440 (fun D cO H s hK hP => rc_List hK hP L0.1) (k_get S (la 0) 3 (sz 0) k (el 0) w L0 hw hk) ⟨rfl, rfl, Nat.le_of_ble_eq_true rfl, Nat.le_of_ble_eq_true rfl⟩ rfl rfl (Nat.le_of_ble_eq_true rfl) dX11_ofMast_50 (fun r4 hr4 => ?_)
  refine g_rf hr4 ?_
  refine gc_Mast hκ hdR (L0.2.2.2.2 k hk) qw_247 dX11_ofMast_53 ?_
  refine g_iload_n hκ 2 dX11_ofMast_56 rfl rfl ?_
  refine rV_i hκ hdR [.int 9] sd_X3_tell qw_998 (fun D cO H s hK hP => rc_Mast hK hP (L0.2.2.2.2 k hk)) (k_tellMast_9 S (el 0 k) (L0.2.2.2.2 k hk)) ⟨rfl, rfl, Nat.le_of_ble_eq_true rfl, Nat.le_of_ble_eq_true rfl⟩ rfl rfl (Nat.le_of_ble_eq_true rfl) dX11_ofMast_57 (fun r5 hr5 => ?_)
  refine g_eqi hr5 ?_
  exact hend _ _ _ dX11_ofMast_60 (rfl)
set_option maxHeartbeats 4000000 in
set_option maxRecDepth 100000 in
theorem p_ofSq_1 (S : wPS) (x lo ta : Nat) (la : Nat → Nat) (el : Nat → Nat → Nat) (sz : Nat → Nat) (k : Nat) (w : Int32) (hM : RMx S x lo ta la el sz) (hw : w = nI k) (hk : k < sz 2) : MR yX11_ofSquadron cX11_ofSquadron 3 (some .int) ({ frames := 3, cells := 0, slots := 0, locals := 64 }) S [.ref x, .int w, .int 1] (vp_Si (fun r => r = sqF S (el 2 k) 1)) := by
  refine stR_i (post := (fun r => r = sqF S (el 2 k) 1)) (by decide) (Nat.le_of_ble_eq_true rfl) rfl (fun _ _ => rfl) (fun κ hκ hend => ?_)
  show Gj κ _ 0 [(0, .ref x), (1, .int w), (2, .int 1)] []
  have hMc := hM
  obtain ⟨hx, ⟨f0, L0⟩, ⟨f1, L1⟩, ⟨f2, L2⟩, ⟨f3, L3⟩, ⟨f4, L4⟩, ⟨f5, L5⟩, ⟨f6, L6⟩, ⟨f7, L7⟩, ⟨f8, L8⟩, ⟨flo, hlo⟩, ⟨fta, hta⟩⟩ := hMc
  have b0 := L0.2.2.1
  have b2 := L2.2.2.1
  have b3 := L3.2.2.1
  have b4 := L4.2.2.1
  have b5 := L5.2.2.1
  have b7 := L7.2.2.1
  have b8 := L8.2.2.1
  refine g_iload_n hκ 1 dX11_ofSquadron_0 rfl rfl ?_
  refine g_aload_n hκ 0 dX11_ofSquadron_1 rfl rfl ?_
  refine gt_Room_squadrons hκ hdR hx qw_108 (Or.inl rfl) dX11_ofSquadron_2 ?_
  refine g_rf f2 ?_
  refine rV_i hκ hdR [] sd_Jx4a65c_size_8abf5 qw_227 (fun D cO H s hK hP => rc_List hK hP L2.1) (k_sizeL S (la 2) 6 (sz 2) (el 2) L2) ⟨rfl, rfl, Nat.le_of_ble_eq_true rfl, Nat.le_of_ble_eq_true rfl⟩ rfl rfl (Nat.le_of_ble_eq_true rfl) dX11_ofSquadron_5 (fun r1 hr1 => ?_)
  refine g_eqi hr1 ?_
  refine rS_i hκ hdR [.int w, .int (nI (sz 2))] sd_X11_isNumber qw_417 (k_isNumber S w (nI (sz 2))) ⟨rfl, rfl, Nat.le_of_ble_eq_true rfl, Nat.le_of_ble_eq_true rfl⟩ rfl rfl (Nat.le_of_ble_eq_true rfl) dX11_ofSquadron_8 (fun r2 hr2 => ?_)
  refine g_eqi (y := 1) (hr2.trans (by rw [isNum_t hw hk b2]; rfl)) ?_
  refine g_if_ne hκ 24 dX11_ofSquadron_11 (by decide) (fun _ => ?_) (fun z => absurd z (by decide))
  refine g_iload_n hκ 2 dX11_ofSquadron_24 rfl rfl ?_
  refine g_iconst hκ (v := 0) dX11_ofSquadron_25 (by decide) ?_
  refine g_bipush hκ (v := 9) dX11_ofSquadron_26 (by decide) ?_
  refine rS_i hκ hdR [.int 1, .int 0, .int 9] sd_X11_isIn qw_156 (k_isIn S 1 0 9) ⟨rfl, rfl, Nat.le_of_ble_eq_true rfl, Nat.le_of_ble_eq_true rfl⟩ rfl rfl (Nat.le_of_ble_eq_true rfl) dX11_ofSquadron_28 (fun r3 hr3 => ?_)
  refine g_eqi (y := 1) (hr3.trans (by decide)) ?_
  refine g_if_ne hκ 45 dX11_ofSquadron_31 (by decide) (fun _ => ?_) (fun z => absurd z (by decide))
  refine g_aload_n hκ 0 dX11_ofSquadron_45 rfl rfl ?_
  refine gt_Room_squadrons hκ hdR hx qw_108 (Or.inl rfl) dX11_ofSquadron_46 ?_
  refine g_rf f2 ?_
  refine g_iload_n hκ 1 dX11_ofSquadron_49 rfl rfl ?_
  refine rV_q hκ hdR [.int w] sd_Jx4a65c_get_915e3 qw_440 (fun D cO H s hK hP => rc_List hK hP L2.1) (k_get S (la 2) 6 (sz 2) k (el 2) w L2 hw hk) ⟨rfl, rfl, Nat.le_of_ble_eq_true rfl, Nat.le_of_ble_eq_true rfl⟩ rfl rfl (Nat.le_of_ble_eq_true rfl) dX11_ofSquadron_50 (fun r4 hr4 => ?_)
  refine g_rf hr4 ?_
  refine gc_Squadron hκ hdR (L2.2.2.2.2 k hk) qw_438 dX11_ofSquadron_53 ?_
  refine g_iload_n hκ 2 dX11_ofSquadron_56 rfl rfl ?_
  refine rV_i hκ hdR [.int 1] sd_X7_tell qw_864 (fun D cO H s hK hP => rc_Squadron hK hP (L2.2.2.2.2 k hk)) (k_tellSq_1 S (el 2 k) (L2.2.2.2.2 k hk)) ⟨rfl, rfl, Nat.le_of_ble_eq_true rfl, Nat.le_of_ble_eq_true rfl⟩ rfl rfl (Nat.le_of_ble_eq_true rfl) dX11_ofSquadron_57 (fun r5 hr5 => ?_)
  refine g_eqi hr5 ?_
  exact hend _ _ _ dX11_ofSquadron_60 (rfl)
set_option maxHeartbeats 4000000 in
set_option maxRecDepth 100000 in
theorem p_ofSq_9 (S : wPS) (x lo ta : Nat) (la : Nat → Nat) (el : Nat → Nat → Nat) (sz : Nat → Nat) (k : Nat) (w : Int32) (hM : RMx S x lo ta la el sz) (hw : w = nI k) (hk : k < sz 2) : MR yX11_ofSquadron cX11_ofSquadron 3 (some .int) ({ frames := 3, cells := 0, slots := 0, locals := 64 }) S [.ref x, .int w, .int 9] (vp_Si (fun r => r = sqF S (el 2 k) 9)) := by
  refine stR_i (post := (fun r => r = sqF S (el 2 k) 9)) (by decide) (Nat.le_of_ble_eq_true rfl) rfl (fun _ _ => rfl) (fun κ hκ hend => ?_)
  show Gj κ _ 0 [(0, .ref x), (1, .int w), (2, .int 9)] []
  have hMc := hM
  obtain ⟨hx, ⟨f0, L0⟩, ⟨f1, L1⟩, ⟨f2, L2⟩, ⟨f3, L3⟩, ⟨f4, L4⟩, ⟨f5, L5⟩, ⟨f6, L6⟩, ⟨f7, L7⟩, ⟨f8, L8⟩, ⟨flo, hlo⟩, ⟨fta, hta⟩⟩ := hMc
  have b0 := L0.2.2.1
  have b2 := L2.2.2.1
  have b3 := L3.2.2.1
  have b4 := L4.2.2.1
  have b5 := L5.2.2.1
  have b7 := L7.2.2.1
  have b8 := L8.2.2.1
  refine g_iload_n hκ 1 dX11_ofSquadron_0 rfl rfl ?_
  refine g_aload_n hκ 0 dX11_ofSquadron_1 rfl rfl ?_
  refine gt_Room_squadrons hκ hdR hx qw_108 (Or.inl rfl) dX11_ofSquadron_2 ?_
  refine g_rf f2 ?_
  refine rV_i hκ hdR [] sd_Jx4a65c_size_8abf5 qw_227 (fun D cO H s hK hP => rc_List hK hP L2.1) (k_sizeL S (la 2) 6 (sz 2) (el 2) L2) ⟨rfl, rfl, Nat.le_of_ble_eq_true rfl, Nat.le_of_ble_eq_true rfl⟩ rfl rfl (Nat.le_of_ble_eq_true rfl) dX11_ofSquadron_5 (fun r1 hr1 => ?_)
  refine g_eqi hr1 ?_
  refine rS_i hκ hdR [.int w, .int (nI (sz 2))] sd_X11_isNumber qw_417 (k_isNumber S w (nI (sz 2))) ⟨rfl, rfl, Nat.le_of_ble_eq_true rfl, Nat.le_of_ble_eq_true rfl⟩ rfl rfl (Nat.le_of_ble_eq_true rfl) dX11_ofSquadron_8 (fun r2 hr2 => ?_)
  refine g_eqi (y := 1) (hr2.trans (by rw [isNum_t hw hk b2]; rfl)) ?_
  refine g_if_ne hκ 24 dX11_ofSquadron_11 (by decide) (fun _ => ?_) (fun z => absurd z (by decide))
  refine g_iload_n hκ 2 dX11_ofSquadron_24 rfl rfl ?_
  refine g_iconst hκ (v := 0) dX11_ofSquadron_25 (by decide) ?_
  refine g_bipush hκ (v := 9) dX11_ofSquadron_26 (by decide) ?_
  refine rS_i hκ hdR [.int 9, .int 0, .int 9] sd_X11_isIn qw_156 (k_isIn S 9 0 9) ⟨rfl, rfl, Nat.le_of_ble_eq_true rfl, Nat.le_of_ble_eq_true rfl⟩ rfl rfl (Nat.le_of_ble_eq_true rfl) dX11_ofSquadron_28 (fun r3 hr3 => ?_)
  refine g_eqi (y := 1) (hr3.trans (by decide)) ?_
  refine g_if_ne hκ 45 dX11_ofSquadron_31 (by decide) (fun _ => ?_) (fun z => absurd z (by decide))
  refine g_aload_n hκ 0 dX11_ofSquadron_45 rfl rfl ?_
  refine gt_Room_squadrons hκ hdR hx qw_108 (Or.inl rfl) dX11_ofSquadron_46 ?_
  refine g_rf f2 ?_
  refine g_iload_n hκ 1 dX11_ofSquadron_49 rfl rfl ?_
  refine rV_q hκ hdR [.int w] sd_Jx4a65c_get_915e3 qw_440 (fun D cO H s hK hP => rc_List hK hP L2.1) (k_get S (la 2) 6 (sz 2) k (el 2) w L2 hw hk) ⟨rfl, rfl, Nat.le_of_ble_eq_true rfl, Nat.le_of_ble_eq_true rfl⟩ rfl rfl (Nat.le_of_ble_eq_true rfl) dX11_ofSquadron_50 (fun r4 hr4 => ?_)
  refine g_rf hr4 ?_
  refine gc_Squadron hκ hdR (L2.2.2.2.2 k hk) qw_438 dX11_ofSquadron_53 ?_
  refine g_iload_n hκ 2 dX11_ofSquadron_56 rfl rfl ?_
  refine rV_i hκ hdR [.int 9] sd_X7_tell qw_864 (fun D cO H s hK hP => rc_Squadron hK hP (L2.2.2.2.2 k hk)) (k_tellSq_9 S (el 2 k) (L2.2.2.2.2 k hk)) ⟨rfl, rfl, Nat.le_of_ble_eq_true rfl, Nat.le_of_ble_eq_true rfl⟩ rfl rfl (Nat.le_of_ble_eq_true rfl) dX11_ofSquadron_57 (fun r5 hr5 => ?_)
  refine g_eqi hr5 ?_
  exact hend _ _ _ dX11_ofSquadron_60 (rfl)
set_option maxHeartbeats 4000000 in
set_option maxRecDepth 100000 in
theorem p_ofTrack_0 (S : wPS) (x lo ta : Nat) (la : Nat → Nat) (el : Nat → Nat → Nat) (sz : Nat → Nat) (k : Nat) (w : Int32) (hM : RMx S x lo ta la el sz) (hw : w = nI k) (hk : k < sz 7) (hSQ : SQx S el sz) : MR yX11_ofTrack cX11_ofTrack 3 (some .int) ({ frames := 3, cells := 0, slots := 0, locals := 64 }) S [.ref x, .int w, .int 0] (vp_Si (fun r => r = ttF S x el sz (el 7 k) 0)) := by
  refine stR_i (post := (fun r => r = ttF S x el sz (el 7 k) 0)) (by decide) (Nat.le_of_ble_eq_true rfl) rfl (fun _ _ => rfl) (fun κ hκ hend => ?_)
  show Gj κ _ 0 [(0, .ref x), (1, .int w), (2, .int 0)] []
  have hMc := hM
  obtain ⟨hx, ⟨f0, L0⟩, ⟨f1, L1⟩, ⟨f2, L2⟩, ⟨f3, L3⟩, ⟨f4, L4⟩, ⟨f5, L5⟩, ⟨f6, L6⟩, ⟨f7, L7⟩, ⟨f8, L8⟩, ⟨flo, hlo⟩, ⟨fta, hta⟩⟩ := hMc
  have b0 := L0.2.2.1
  have b2 := L2.2.2.1
  have b3 := L3.2.2.1
  have b4 := L4.2.2.1
  have b5 := L5.2.2.1
  have b7 := L7.2.2.1
  have b8 := L8.2.2.1
  refine g_iload_n hκ 1 dX11_ofTrack_0 rfl rfl ?_
  refine g_aload_n hκ 0 dX11_ofTrack_1 rfl rfl ?_
  refine gt_Room_tracks hκ hdR hx qw_113 (Or.inl rfl) dX11_ofTrack_2 ?_
  refine g_rf f7 ?_
  refine rV_i hκ hdR [] sd_Jx4a65c_size_8abf5 qw_227 (fun D cO H s hK hP => rc_List hK hP L7.1) (k_sizeL S (la 7) 9 (sz 7) (el 7) L7) ⟨rfl, rfl, Nat.le_of_ble_eq_true rfl, Nat.le_of_ble_eq_true rfl⟩ rfl rfl (Nat.le_of_ble_eq_true rfl) dX11_ofTrack_5 (fun r1 hr1 => ?_)
  refine g_eqi hr1 ?_
  refine rS_i hκ hdR [.int w, .int (nI (sz 7))] sd_X11_isNumber qw_417 (k_isNumber S w (nI (sz 7))) ⟨rfl, rfl, Nat.le_of_ble_eq_true rfl, Nat.le_of_ble_eq_true rfl⟩ rfl rfl (Nat.le_of_ble_eq_true rfl) dX11_ofTrack_8 (fun r2 hr2 => ?_)
  refine g_eqi (y := 1) (hr2.trans (by rw [isNum_t hw hk b7]; rfl)) ?_
  refine g_if_ne hκ 25 dX11_ofTrack_11 (by decide) (fun _ => ?_) (fun z => absurd z (by decide))
  refine g_iload_n hκ 2 dX11_ofTrack_25 rfl rfl ?_
  refine g_iconst hκ (v := 0) dX11_ofTrack_26 (by decide) ?_
  refine g_bipush hκ (v := 10) dX11_ofTrack_27 (by decide) ?_
  refine rS_i hκ hdR [.int 0, .int 0, .int 10] sd_X11_isIn qw_156 (k_isIn S 0 0 10) ⟨rfl, rfl, Nat.le_of_ble_eq_true rfl, Nat.le_of_ble_eq_true rfl⟩ rfl rfl (Nat.le_of_ble_eq_true rfl) dX11_ofTrack_29 (fun r3 hr3 => ?_)
  refine g_eqi (y := 1) (hr3.trans (by decide)) ?_
  refine g_if_ne hκ 46 dX11_ofTrack_32 (by decide) (fun _ => ?_) (fun z => absurd z (by decide))
  refine g_aload_n hκ 0 dX11_ofTrack_46 rfl rfl ?_
  refine g_aload_n hκ 0 dX11_ofTrack_47 rfl rfl ?_
  refine gt_Room_tracks hκ hdR hx qw_113 (Or.inl rfl) dX11_ofTrack_48 ?_
  refine g_rf f7 ?_
  refine g_iload_n hκ 1 dX11_ofTrack_51 rfl rfl ?_
  refine rV_q hκ hdR [.int w] sd_Jx4a65c_get_915e3 qw_440 (fun D cO H s hK hP => rc_List hK hP L7.1) (k_get S (la 7) 9 (sz 7) k (el 7) w L7 hw hk) ⟨rfl, rfl, Nat.le_of_ble_eq_true rfl, Nat.le_of_ble_eq_true rfl⟩ rfl rfl (Nat.le_of_ble_eq_true rfl) dX11_ofTrack_52 (fun r4 hr4 => ?_)
  refine g_rf hr4 ?_
  refine gc_Track hκ hdR (L7.2.2.2.2 k hk) qw_675 dX11_ofTrack_55 ?_
  refine g_iload_n hκ 2 dX11_ofTrack_58 rfl rfl ?_
  refine rV_i hκ hdR [.ref (el 7 k), .int 0] sd_X11_tellTrack qw_1006 (fun D cO H s hK hP => rc_Room hK hP hx) (k_tt_0 S x lo ta la el sz (el 7 k) hM (L7.2.2.2.2 k hk) hSQ) ⟨rfl, rfl, Nat.le_of_ble_eq_true rfl, Nat.le_of_ble_eq_true rfl⟩ rfl rfl (Nat.le_of_ble_eq_true rfl) dX11_ofTrack_59 (fun r5 hr5 => ?_)
  refine g_eqi hr5 ?_
  exact hend _ _ _ dX11_ofTrack_62 (rfl)
set_option maxHeartbeats 4000000 in
set_option maxRecDepth 100000 in
theorem p_ofTrack_1 (S : wPS) (x lo ta : Nat) (la : Nat → Nat) (el : Nat → Nat → Nat) (sz : Nat → Nat) (k : Nat) (w : Int32) (hM : RMx S x lo ta la el sz) (hw : w = nI k) (hk : k < sz 7) (hSQ : SQx S el sz) : MR yX11_ofTrack cX11_ofTrack 3 (some .int) ({ frames := 3, cells := 0, slots := 0, locals := 64 }) S [.ref x, .int w, .int 1] (vp_Si (fun r => r = ttF S x el sz (el 7 k) 1)) := by
  refine stR_i (post := (fun r => r = ttF S x el sz (el 7 k) 1)) (by decide) (Nat.le_of_ble_eq_true rfl) rfl (fun _ _ => rfl) (fun κ hκ hend => ?_)
  show Gj κ _ 0 [(0, .ref x), (1, .int w), (2, .int 1)] []
  have hMc := hM
  obtain ⟨hx, ⟨f0, L0⟩, ⟨f1, L1⟩, ⟨f2, L2⟩, ⟨f3, L3⟩, ⟨f4, L4⟩, ⟨f5, L5⟩, ⟨f6, L6⟩, ⟨f7, L7⟩, ⟨f8, L8⟩, ⟨flo, hlo⟩, ⟨fta, hta⟩⟩ := hMc
  have b0 := L0.2.2.1
  have b2 := L2.2.2.1
  have b3 := L3.2.2.1
  have b4 := L4.2.2.1
  have b5 := L5.2.2.1
  have b7 := L7.2.2.1
  have b8 := L8.2.2.1
  refine g_iload_n hκ 1 dX11_ofTrack_0 rfl rfl ?_
  refine g_aload_n hκ 0 dX11_ofTrack_1 rfl rfl ?_
  refine gt_Room_tracks hκ hdR hx qw_113 (Or.inl rfl) dX11_ofTrack_2 ?_
  refine g_rf f7 ?_
  refine rV_i hκ hdR [] sd_Jx4a65c_size_8abf5 qw_227 (fun D cO H s hK hP => rc_List hK hP L7.1) (k_sizeL S (la 7) 9 (sz 7) (el 7) L7) ⟨rfl, rfl, Nat.le_of_ble_eq_true rfl, Nat.le_of_ble_eq_true rfl⟩ rfl rfl (Nat.le_of_ble_eq_true rfl) dX11_ofTrack_5 (fun r1 hr1 => ?_)
  refine g_eqi hr1 ?_
  refine rS_i hκ hdR [.int w, .int (nI (sz 7))] sd_X11_isNumber qw_417 (k_isNumber S w (nI (sz 7))) ⟨rfl, rfl, Nat.le_of_ble_eq_true rfl, Nat.le_of_ble_eq_true rfl⟩ rfl rfl (Nat.le_of_ble_eq_true rfl) dX11_ofTrack_8 (fun r2 hr2 => ?_)
  refine g_eqi (y := 1) (hr2.trans (by rw [isNum_t hw hk b7]; rfl)) ?_
  refine g_if_ne hκ 25 dX11_ofTrack_11 (by decide) (fun _ => ?_) (fun z => absurd z (by decide))
  refine g_iload_n hκ 2 dX11_ofTrack_25 rfl rfl ?_
  refine g_iconst hκ (v := 0) dX11_ofTrack_26 (by decide) ?_
  refine g_bipush hκ (v := 10) dX11_ofTrack_27 (by decide) ?_
  refine rS_i hκ hdR [.int 1, .int 0, .int 10] sd_X11_isIn qw_156 (k_isIn S 1 0 10) ⟨rfl, rfl, Nat.le_of_ble_eq_true rfl, Nat.le_of_ble_eq_true rfl⟩ rfl rfl (Nat.le_of_ble_eq_true rfl) dX11_ofTrack_29 (fun r3 hr3 => ?_)
  refine g_eqi (y := 1) (hr3.trans (by decide)) ?_
  refine g_if_ne hκ 46 dX11_ofTrack_32 (by decide) (fun _ => ?_) (fun z => absurd z (by decide))
  refine g_aload_n hκ 0 dX11_ofTrack_46 rfl rfl ?_
  refine g_aload_n hκ 0 dX11_ofTrack_47 rfl rfl ?_
  refine gt_Room_tracks hκ hdR hx qw_113 (Or.inl rfl) dX11_ofTrack_48 ?_
  refine g_rf f7 ?_
  refine g_iload_n hκ 1 dX11_ofTrack_51 rfl rfl ?_
  refine rV_q hκ hdR [.int w] sd_Jx4a65c_get_915e3 qw_440 (fun D cO H s hK hP => rc_List hK hP L7.1) (k_get S (la 7) 9 (sz 7) k (el 7) w L7 hw hk) ⟨rfl, rfl, Nat.le_of_ble_eq_true rfl, Nat.le_of_ble_eq_true rfl⟩ rfl rfl (Nat.le_of_ble_eq_true rfl) dX11_ofTrack_52 (fun r4 hr4 => ?_)
  refine g_rf hr4 ?_
  refine gc_Track hκ hdR (L7.2.2.2.2 k hk) qw_675 dX11_ofTrack_55 ?_
  refine g_iload_n hκ 2 dX11_ofTrack_58 rfl rfl ?_
  refine rV_i hκ hdR [.ref (el 7 k), .int 1] sd_X11_tellTrack qw_1006 (fun D cO H s hK hP => rc_Room hK hP hx) (k_tt_1 S x lo ta la el sz (el 7 k) hM (L7.2.2.2.2 k hk) hSQ) ⟨rfl, rfl, Nat.le_of_ble_eq_true rfl, Nat.le_of_ble_eq_true rfl⟩ rfl rfl (Nat.le_of_ble_eq_true rfl) dX11_ofTrack_59 (fun r5 hr5 => ?_)
  refine g_eqi hr5 ?_
  exact hend _ _ _ dX11_ofTrack_62 (rfl)
set_option maxHeartbeats 4000000 in
set_option maxRecDepth 100000 in
theorem p_ofTrack_6 (S : wPS) (x lo ta : Nat) (la : Nat → Nat) (el : Nat → Nat → Nat) (sz : Nat → Nat) (k : Nat) (w : Int32) (hM : RMx S x lo ta la el sz) (hw : w = nI k) (hk : k < sz 7) (hSQ : SQx S el sz) : MR yX11_ofTrack cX11_ofTrack 3 (some .int) ({ frames := 3, cells := 0, slots := 0, locals := 64 }) S [.ref x, .int w, .int 6] (vp_Si (fun r => r = ttF S x el sz (el 7 k) 6)) := by
  refine stR_i (post := (fun r => r = ttF S x el sz (el 7 k) 6)) (by decide) (Nat.le_of_ble_eq_true rfl) rfl (fun _ _ => rfl) (fun κ hκ hend => ?_)
  show Gj κ _ 0 [(0, .ref x), (1, .int w), (2, .int 6)] []
  have hMc := hM
  obtain ⟨hx, ⟨f0, L0⟩, ⟨f1, L1⟩, ⟨f2, L2⟩, ⟨f3, L3⟩, ⟨f4, L4⟩, ⟨f5, L5⟩, ⟨f6, L6⟩, ⟨f7, L7⟩, ⟨f8, L8⟩, ⟨flo, hlo⟩, ⟨fta, hta⟩⟩ := hMc
  have b0 := L0.2.2.1
  have b2 := L2.2.2.1
  have b3 := L3.2.2.1
  have b4 := L4.2.2.1
  have b5 := L5.2.2.1
  have b7 := L7.2.2.1
  have b8 := L8.2.2.1
  refine g_iload_n hκ 1 dX11_ofTrack_0 rfl rfl ?_
  refine g_aload_n hκ 0 dX11_ofTrack_1 rfl rfl ?_
  refine gt_Room_tracks hκ hdR hx qw_113 (Or.inl rfl) dX11_ofTrack_2 ?_
  refine g_rf f7 ?_
  refine rV_i hκ hdR [] sd_Jx4a65c_size_8abf5 qw_227 (fun D cO H s hK hP => rc_List hK hP L7.1) (k_sizeL S (la 7) 9 (sz 7) (el 7) L7) ⟨rfl, rfl, Nat.le_of_ble_eq_true rfl, Nat.le_of_ble_eq_true rfl⟩ rfl rfl (Nat.le_of_ble_eq_true rfl) dX11_ofTrack_5 (fun r1 hr1 => ?_)
  refine g_eqi hr1 ?_
  refine rS_i hκ hdR [.int w, .int (nI (sz 7))] sd_X11_isNumber qw_417 (k_isNumber S w (nI (sz 7))) ⟨rfl, rfl, Nat.le_of_ble_eq_true rfl, Nat.le_of_ble_eq_true rfl⟩ rfl rfl (Nat.le_of_ble_eq_true rfl) dX11_ofTrack_8 (fun r2 hr2 => ?_)
  refine g_eqi (y := 1) (hr2.trans (by rw [isNum_t hw hk b7]; rfl)) ?_
  refine g_if_ne hκ 25 dX11_ofTrack_11 (by decide) (fun _ => ?_) (fun z => absurd z (by decide))
  refine g_iload_n hκ 2 dX11_ofTrack_25 rfl rfl ?_
  refine g_iconst hκ (v := 0) dX11_ofTrack_26 (by decide) ?_
  refine g_bipush hκ (v := 10) dX11_ofTrack_27 (by decide) ?_
  refine rS_i hκ hdR [.int 6, .int 0, .int 10] sd_X11_isIn qw_156 (k_isIn S 6 0 10) ⟨rfl, rfl, Nat.le_of_ble_eq_true rfl, Nat.le_of_ble_eq_true rfl⟩ rfl rfl (Nat.le_of_ble_eq_true rfl) dX11_ofTrack_29 (fun r3 hr3 => ?_)
  refine g_eqi (y := 1) (hr3.trans (by decide)) ?_
  refine g_if_ne hκ 46 dX11_ofTrack_32 (by decide) (fun _ => ?_) (fun z => absurd z (by decide))
  refine g_aload_n hκ 0 dX11_ofTrack_46 rfl rfl ?_
  refine g_aload_n hκ 0 dX11_ofTrack_47 rfl rfl ?_
  refine gt_Room_tracks hκ hdR hx qw_113 (Or.inl rfl) dX11_ofTrack_48 ?_
  refine g_rf f7 ?_
  refine g_iload_n hκ 1 dX11_ofTrack_51 rfl rfl ?_
  refine rV_q hκ hdR [.int w] sd_Jx4a65c_get_915e3 qw_440 (fun D cO H s hK hP => rc_List hK hP L7.1) (k_get S (la 7) 9 (sz 7) k (el 7) w L7 hw hk) ⟨rfl, rfl, Nat.le_of_ble_eq_true rfl, Nat.le_of_ble_eq_true rfl⟩ rfl rfl (Nat.le_of_ble_eq_true rfl) dX11_ofTrack_52 (fun r4 hr4 => ?_)
  refine g_rf hr4 ?_
  refine gc_Track hκ hdR (L7.2.2.2.2 k hk) qw_675 dX11_ofTrack_55 ?_
  refine g_iload_n hκ 2 dX11_ofTrack_58 rfl rfl ?_
  refine rV_i hκ hdR [.ref (el 7 k), .int 6] sd_X11_tellTrack qw_1006 (fun D cO H s hK hP => rc_Room hK hP hx) (k_tt_6 S x lo ta la el sz (el 7 k) hM (L7.2.2.2.2 k hk) hSQ) ⟨rfl, rfl, Nat.le_of_ble_eq_true rfl, Nat.le_of_ble_eq_true rfl⟩ rfl rfl (Nat.le_of_ble_eq_true rfl) dX11_ofTrack_59 (fun r5 hr5 => ?_)
  refine g_eqi hr5 ?_
  exact hend _ _ _ dX11_ofTrack_62 (rfl)
set_option maxHeartbeats 4000000 in
set_option maxRecDepth 100000 in
theorem p_ofTrack_7 (S : wPS) (x lo ta : Nat) (la : Nat → Nat) (el : Nat → Nat → Nat) (sz : Nat → Nat) (k : Nat) (w : Int32) (hM : RMx S x lo ta la el sz) (hw : w = nI k) (hk : k < sz 7) (hSQ : SQx S el sz) : MR yX11_ofTrack cX11_ofTrack 3 (some .int) ({ frames := 3, cells := 0, slots := 0, locals := 64 }) S [.ref x, .int w, .int 7] (vp_Si (fun r => r = ttF S x el sz (el 7 k) 7)) := by
  refine stR_i (post := (fun r => r = ttF S x el sz (el 7 k) 7)) (by decide) (Nat.le_of_ble_eq_true rfl) rfl (fun _ _ => rfl) (fun κ hκ hend => ?_)
  show Gj κ _ 0 [(0, .ref x), (1, .int w), (2, .int 7)] []
  have hMc := hM
  obtain ⟨hx, ⟨f0, L0⟩, ⟨f1, L1⟩, ⟨f2, L2⟩, ⟨f3, L3⟩, ⟨f4, L4⟩, ⟨f5, L5⟩, ⟨f6, L6⟩, ⟨f7, L7⟩, ⟨f8, L8⟩, ⟨flo, hlo⟩, ⟨fta, hta⟩⟩ := hMc
  have b0 := L0.2.2.1
  have b2 := L2.2.2.1
  have b3 := L3.2.2.1
  have b4 := L4.2.2.1
  have b5 := L5.2.2.1
  have b7 := L7.2.2.1
  have b8 := L8.2.2.1
  refine g_iload_n hκ 1 dX11_ofTrack_0 rfl rfl ?_
  refine g_aload_n hκ 0 dX11_ofTrack_1 rfl rfl ?_
  refine gt_Room_tracks hκ hdR hx qw_113 (Or.inl rfl) dX11_ofTrack_2 ?_
  refine g_rf f7 ?_
  refine rV_i hκ hdR [] sd_Jx4a65c_size_8abf5 qw_227 (fun D cO H s hK hP => rc_List hK hP L7.1) (k_sizeL S (la 7) 9 (sz 7) (el 7) L7) ⟨rfl, rfl, Nat.le_of_ble_eq_true rfl, Nat.le_of_ble_eq_true rfl⟩ rfl rfl (Nat.le_of_ble_eq_true rfl) dX11_ofTrack_5 (fun r1 hr1 => ?_)
  refine g_eqi hr1 ?_
  refine rS_i hκ hdR [.int w, .int (nI (sz 7))] sd_X11_isNumber qw_417 (k_isNumber S w (nI (sz 7))) ⟨rfl, rfl, Nat.le_of_ble_eq_true rfl, Nat.le_of_ble_eq_true rfl⟩ rfl rfl (Nat.le_of_ble_eq_true rfl) dX11_ofTrack_8 (fun r2 hr2 => ?_)
  refine g_eqi (y := 1) (hr2.trans (by rw [isNum_t hw hk b7]; rfl)) ?_
  refine g_if_ne hκ 25 dX11_ofTrack_11 (by decide) (fun _ => ?_) (fun z => absurd z (by decide))
  refine g_iload_n hκ 2 dX11_ofTrack_25 rfl rfl ?_
  refine g_iconst hκ (v := 0) dX11_ofTrack_26 (by decide) ?_
  refine g_bipush hκ (v := 10) dX11_ofTrack_27 (by decide) ?_
  refine rS_i hκ hdR [.int 7, .int 0, .int 10] sd_X11_isIn qw_156 (k_isIn S 7 0 10) ⟨rfl, rfl, Nat.le_of_ble_eq_true rfl, Nat.le_of_ble_eq_true rfl⟩ rfl rfl (Nat.le_of_ble_eq_true rfl) dX11_ofTrack_29 (fun r3 hr3 => ?_)
  refine g_eqi (y := 1) (hr3.trans (by decide)) ?_
  refine g_if_ne hκ 46 dX11_ofTrack_32 (by decide) (fun _ => ?_) (fun z => absurd z (by decide))
  refine g_aload_n hκ 0 dX11_ofTrack_46 rfl rfl ?_
  refine g_aload_n hκ 0 dX11_ofTrack_47 rfl rfl ?_
  refine gt_Room_tracks hκ hdR hx qw_113 (Or.inl rfl) dX11_ofTrack_48 ?_
  refine g_rf f7 ?_
  refine g_iload_n hκ 1 dX11_ofTrack_51 rfl rfl ?_
  refine rV_q hκ hdR [.int w] sd_Jx4a65c_get_915e3 qw_440 (fun D cO H s hK hP => rc_List hK hP L7.1) (k_get S (la 7) 9 (sz 7) k (el 7) w L7 hw hk) ⟨rfl, rfl, Nat.le_of_ble_eq_true rfl, Nat.le_of_ble_eq_true rfl⟩ rfl rfl (Nat.le_of_ble_eq_true rfl) dX11_ofTrack_52 (fun r4 hr4 => ?_)
  refine g_rf hr4 ?_
  refine gc_Track hκ hdR (L7.2.2.2.2 k hk) qw_675 dX11_ofTrack_55 ?_
  refine g_iload_n hκ 2 dX11_ofTrack_58 rfl rfl ?_
  refine rV_i hκ hdR [.ref (el 7 k), .int 7] sd_X11_tellTrack qw_1006 (fun D cO H s hK hP => rc_Room hK hP hx) (k_tt_7 S x lo ta la el sz (el 7 k) hM (L7.2.2.2.2 k hk) hSQ) ⟨rfl, rfl, Nat.le_of_ble_eq_true rfl, Nat.le_of_ble_eq_true rfl⟩ rfl rfl (Nat.le_of_ble_eq_true rfl) dX11_ofTrack_59 (fun r5 hr5 => ?_)
  refine g_eqi hr5 ?_
  exact hend _ _ _ dX11_ofTrack_62 (rfl)
set_option maxHeartbeats 4000000 in
set_option maxRecDepth 100000 in
theorem p_ofTrack_9 (S : wPS) (x lo ta : Nat) (la : Nat → Nat) (el : Nat → Nat → Nat) (sz : Nat → Nat) (k : Nat) (w : Int32) (hM : RMx S x lo ta la el sz) (hw : w = nI k) (hk : k < sz 7) (hSQ : SQx S el sz) : MR yX11_ofTrack cX11_ofTrack 3 (some .int) ({ frames := 3, cells := 0, slots := 0, locals := 64 }) S [.ref x, .int w, .int 9] (vp_Si (fun r => r = ttF S x el sz (el 7 k) 9)) := by
  refine stR_i (post := (fun r => r = ttF S x el sz (el 7 k) 9)) (by decide) (Nat.le_of_ble_eq_true rfl) rfl (fun _ _ => rfl) (fun κ hκ hend => ?_)
  show Gj κ _ 0 [(0, .ref x), (1, .int w), (2, .int 9)] []
  have hMc := hM
  obtain ⟨hx, ⟨f0, L0⟩, ⟨f1, L1⟩, ⟨f2, L2⟩, ⟨f3, L3⟩, ⟨f4, L4⟩, ⟨f5, L5⟩, ⟨f6, L6⟩, ⟨f7, L7⟩, ⟨f8, L8⟩, ⟨flo, hlo⟩, ⟨fta, hta⟩⟩ := hMc
  have b0 := L0.2.2.1
  have b2 := L2.2.2.1
  have b3 := L3.2.2.1
  have b4 := L4.2.2.1
  have b5 := L5.2.2.1
  have b7 := L7.2.2.1
  have b8 := L8.2.2.1
  refine g_iload_n hκ 1 dX11_ofTrack_0 rfl rfl ?_
  refine g_aload_n hκ 0 dX11_ofTrack_1 rfl rfl ?_
  refine gt_Room_tracks hκ hdR hx qw_113 (Or.inl rfl) dX11_ofTrack_2 ?_
  refine g_rf f7 ?_
  refine rV_i hκ hdR [] sd_Jx4a65c_size_8abf5 qw_227 (fun D cO H s hK hP => rc_List hK hP L7.1) (k_sizeL S (la 7) 9 (sz 7) (el 7) L7) ⟨rfl, rfl, Nat.le_of_ble_eq_true rfl, Nat.le_of_ble_eq_true rfl⟩ rfl rfl (Nat.le_of_ble_eq_true rfl) dX11_ofTrack_5 (fun r1 hr1 => ?_)
  refine g_eqi hr1 ?_
  refine rS_i hκ hdR [.int w, .int (nI (sz 7))] sd_X11_isNumber qw_417 (k_isNumber S w (nI (sz 7))) ⟨rfl, rfl, Nat.le_of_ble_eq_true rfl, Nat.le_of_ble_eq_true rfl⟩ rfl rfl (Nat.le_of_ble_eq_true rfl) dX11_ofTrack_8 (fun r2 hr2 => ?_)
  refine g_eqi (y := 1) (hr2.trans (by rw [isNum_t hw hk b7]; rfl)) ?_
  refine g_if_ne hκ 25 dX11_ofTrack_11 (by decide) (fun _ => ?_) (fun z => absurd z (by decide))
  refine g_iload_n hκ 2 dX11_ofTrack_25 rfl rfl ?_
  refine g_iconst hκ (v := 0) dX11_ofTrack_26 (by decide) ?_
  refine g_bipush hκ (v := 10) dX11_ofTrack_27 (by decide) ?_
  refine rS_i hκ hdR [.int 9, .int 0, .int 10] sd_X11_isIn qw_156 (k_isIn S 9 0 10) ⟨rfl, rfl, Nat.le_of_ble_eq_true rfl, Nat.le_of_ble_eq_true rfl⟩ rfl rfl (Nat.le_of_ble_eq_true rfl) dX11_ofTrack_29 (fun r3 hr3 => ?_)
  refine g_eqi (y := 1) (hr3.trans (by decide)) ?_
  refine g_if_ne hκ 46 dX11_ofTrack_32 (by decide) (fun _ => ?_) (fun z => absurd z (by decide))
  refine g_aload_n hκ 0 dX11_ofTrack_46 rfl rfl ?_
  refine g_aload_n hκ 0 dX11_ofTrack_47 rfl rfl ?_
  refine gt_Room_tracks hκ hdR hx qw_113 (Or.inl rfl) dX11_ofTrack_48 ?_
  refine g_rf f7 ?_
  refine g_iload_n hκ 1 dX11_ofTrack_51 rfl rfl ?_
  refine rV_q hκ hdR [.int w] sd_Jx4a65c_get_915e3 qw_440 (fun D cO H s hK hP => rc_List hK hP L7.1) (k_get S (la 7) 9 (sz 7) k (el 7) w L7 hw hk) ⟨rfl, rfl, Nat.le_of_ble_eq_true rfl, Nat.le_of_ble_eq_true rfl⟩ rfl rfl (Nat.le_of_ble_eq_true rfl) dX11_ofTrack_52 (fun r4 hr4 => ?_)
  refine g_rf hr4 ?_
  refine gc_Track hκ hdR (L7.2.2.2.2 k hk) qw_675 dX11_ofTrack_55 ?_
  refine g_iload_n hκ 2 dX11_ofTrack_58 rfl rfl ?_
  refine rV_i hκ hdR [.ref (el 7 k), .int 9] sd_X11_tellTrack qw_1006 (fun D cO H s hK hP => rc_Room hK hP hx) (k_tt_9 S x lo ta la el sz (el 7 k) hM (L7.2.2.2.2 k hk) hSQ) ⟨rfl, rfl, Nat.le_of_ble_eq_true rfl, Nat.le_of_ble_eq_true rfl⟩ rfl rfl (Nat.le_of_ble_eq_true rfl) dX11_ofTrack_59 (fun r5 hr5 => ?_)
  refine g_eqi hr5 ?_
  exact hend _ _ _ dX11_ofTrack_62 (rfl)
set_option maxHeartbeats 4000000 in
set_option maxRecDepth 100000 in
theorem p_best (S : wPS) (x lo ta : Nat) (la : Nat → Nat) (el : Nat → Nat → Nat) (sz : Nat → Nat) (k : Nat) (w : Int32) (hM : RMx S x lo ta la el sz) (hw : w = nI k) (hk : k < sz 7) : MR yX11_best cX11_best 2 (some .int) ({ frames := 4, cells := 0, slots := 0, locals := 92 }) S [.ref x, .int w] (vp_Si (fun r => r = bestF S x el sz (el 7 k))) := by
  refine stR_i (post := (fun r => r = bestF S x el sz (el 7 k))) (by decide) (Nat.le_of_ble_eq_true rfl) rfl (fun _ _ => rfl) (fun κ hκ hend => ?_)
  show Gj κ _ 0 [(0, .ref x), (1, .int w)] []
  have hMc := hM
  obtain ⟨hx, ⟨f0, L0⟩, ⟨f1, L1⟩, ⟨f2, L2⟩, ⟨f3, L3⟩, ⟨f4, L4⟩, ⟨f5, L5⟩, ⟨f6, L6⟩, ⟨f7, L7⟩, ⟨f8, L8⟩, ⟨flo, hlo⟩, ⟨fta, hta⟩⟩ := hMc
  have b0 := L0.2.2.1
  have b2 := L2.2.2.1
  have b3 := L3.2.2.1
  have b4 := L4.2.2.1
  have b5 := L5.2.2.1
  have b7 := L7.2.2.1
  have b8 := L8.2.2.1
  refine g_iload_n hκ 1 dX11_best_0 rfl rfl ?_
  refine g_aload_n hκ 0 dX11_best_1 rfl rfl ?_
  refine gt_Room_tracks hκ hdR hx qw_113 (Or.inl rfl) dX11_best_2 ?_
  refine g_rf f7 ?_
  refine rV_i hκ hdR [] sd_Jx4a65c_size_8abf5 qw_227 (fun D cO H s hK hP => rc_List hK hP L7.1) (k_sizeL S (la 7) 9 (sz 7) (el 7) L7) ⟨rfl, rfl, Nat.le_of_ble_eq_true rfl, Nat.le_of_ble_eq_true rfl⟩ rfl rfl (Nat.le_of_ble_eq_true rfl) dX11_best_5 (fun r1 hr1 => ?_)
  refine g_eqi hr1 ?_
  refine rS_i hκ hdR [.int w, .int (nI (sz 7))] sd_X11_isNumber qw_417 (k_isNumber S w (nI (sz 7))) ⟨rfl, rfl, Nat.le_of_ble_eq_true rfl, Nat.le_of_ble_eq_true rfl⟩ rfl rfl (Nat.le_of_ble_eq_true rfl) dX11_best_8 (fun r2 hr2 => ?_)
  refine g_eqi (y := 1) (hr2.trans (by rw [isNum_t hw hk b7]; rfl)) ?_
  refine g_if_ne hκ 25 dX11_best_11 (by decide) (fun _ => ?_) (fun z => absurd z (by decide))
  refine g_aload_n hκ 0 dX11_best_25 rfl rfl ?_
  refine g_aload_n hκ 0 dX11_best_26 rfl rfl ?_
  refine gt_Room_tracks hκ hdR hx qw_113 (Or.inl rfl) dX11_best_27 ?_
  refine g_rf f7 ?_
  refine g_iload_n hκ 1 dX11_best_30 rfl rfl ?_
  refine rV_q hκ hdR [.int w] sd_Jx4a65c_get_915e3 qw_440 (fun D cO H s hK hP => rc_List hK hP L7.1) (k_get S (la 7) 9 (sz 7) k (el 7) w L7 hw hk) ⟨rfl, rfl, Nat.le_of_ble_eq_true rfl, Nat.le_of_ble_eq_true rfl⟩ rfl rfl (Nat.le_of_ble_eq_true rfl) dX11_best_31 (fun r3 hr3 => ?_)
  refine g_rf hr3 ?_
  refine gc_Track hκ hdR (L7.2.2.2.2 k hk) qw_675 dX11_best_34 ?_
  refine rV_i hκ hdR [.ref (el 7 k)] sd_X11_soonestSquadron qw_931 (fun D cO H s hK hP => rc_Room hK hP hx) (k_soonest S x lo ta la el sz (el 7 k) hM (L7.2.2.2.2 k hk)) ⟨rfl, rfl, Nat.le_of_ble_eq_true rfl, Nat.le_of_ble_eq_true rfl⟩ rfl rfl (Nat.le_of_ble_eq_true rfl) dX11_best_37 (fun r4 hr4 => ?_)
  refine g_eqi hr4 ?_
  exact hend _ _ _ dX11_best_40 (rfl)
set_option maxHeartbeats 4000000 in
set_option maxRecDepth 100000 in
theorem p_wouldSound (S : wPS) (x lo ta : Nat) (la : Nat → Nat) (el : Nat → Nat → Nat) (sz : Nat → Nat) (k : Nat) (w : Int32) (hM : RMx S x lo ta la el sz) (hw : w = nI k) (hk : k < sz 4) : MR yX11_wouldSound cX11_wouldSound 2 (some .int) ({ frames := 7, cells := 0, slots := 0, locals := 159 }) S [.ref x, .int w] (vp_Si (fun r => r = sirF S x el sz (el 4 k))) := by
  refine stR_i (post := (fun r => r = sirF S x el sz (el 4 k))) (by decide) (Nat.le_of_ble_eq_true rfl) rfl (fun _ _ => rfl) (fun κ hκ hend => ?_)
  show Gj κ _ 0 [(0, .ref x), (1, .int w)] []
  have hMc := hM
  obtain ⟨hx, ⟨f0, L0⟩, ⟨f1, L1⟩, ⟨f2, L2⟩, ⟨f3, L3⟩, ⟨f4, L4⟩, ⟨f5, L5⟩, ⟨f6, L6⟩, ⟨f7, L7⟩, ⟨f8, L8⟩, ⟨flo, hlo⟩, ⟨fta, hta⟩⟩ := hMc
  have b0 := L0.2.2.1
  have b2 := L2.2.2.1
  have b3 := L3.2.2.1
  have b4 := L4.2.2.1
  have b5 := L5.2.2.1
  have b7 := L7.2.2.1
  have b8 := L8.2.2.1
  refine g_iload_n hκ 1 dX11_wouldSound_0 rfl rfl ?_
  refine g_aload_n hκ 0 dX11_wouldSound_1 rfl rfl ?_
  refine gt_Room_towns hκ hdR hx qw_110 (Or.inl rfl) dX11_wouldSound_2 ?_
  refine g_rf f4 ?_
  refine rV_i hκ hdR [] sd_Jx4a65c_size_8abf5 qw_227 (fun D cO H s hK hP => rc_List hK hP L4.1) (k_sizeL S (la 4) 8 (sz 4) (el 4) L4) ⟨rfl, rfl, Nat.le_of_ble_eq_true rfl, Nat.le_of_ble_eq_true rfl⟩ rfl rfl (Nat.le_of_ble_eq_true rfl) dX11_wouldSound_5 (fun r1 hr1 => ?_)
  refine g_eqi hr1 ?_
  refine rS_i hκ hdR [.int w, .int (nI (sz 4))] sd_X11_isNumber qw_417 (k_isNumber S w (nI (sz 4))) ⟨rfl, rfl, Nat.le_of_ble_eq_true rfl, Nat.le_of_ble_eq_true rfl⟩ rfl rfl (Nat.le_of_ble_eq_true rfl) dX11_wouldSound_8 (fun r2 hr2 => ?_)
  refine g_eqi (y := 1) (hr2.trans (by rw [isNum_t hw hk b4]; rfl)) ?_
  refine g_if_ne hκ 25 dX11_wouldSound_11 (by decide) (fun _ => ?_) (fun z => absurd z (by decide))
  refine g_aload_n hκ 0 dX11_wouldSound_25 rfl rfl ?_
  refine g_aload_n hκ 0 dX11_wouldSound_26 rfl rfl ?_
  refine gt_Room_towns hκ hdR hx qw_110 (Or.inl rfl) dX11_wouldSound_27 ?_
  refine g_rf f4 ?_
  refine g_iload_n hκ 1 dX11_wouldSound_30 rfl rfl ?_
  refine rV_q hκ hdR [.int w] sd_Jx4a65c_get_915e3 qw_440 (fun D cO H s hK hP => rc_List hK hP L4.1) (k_get S (la 4) 8 (sz 4) k (el 4) w L4 hw hk) ⟨rfl, rfl, Nat.le_of_ble_eq_true rfl, Nat.le_of_ble_eq_true rfl⟩ rfl rfl (Nat.le_of_ble_eq_true rfl) dX11_wouldSound_31 (fun r3 hr3 => ?_)
  refine g_rf hr3 ?_
  refine gc_Town hκ hdR (L4.2.2.2.2 k hk) qw_531 dX11_wouldSound_34 ?_
  refine rV_i hκ hdR [.ref (el 4 k)] sd_X11_minutesToSiren qw_950 (fun D cO H s hK hP => rc_Room hK hP hx) (k_minutesToSiren S x lo ta la el sz (el 4 k) hM (L4.2.2.2.2 k hk)) ⟨rfl, rfl, Nat.le_of_ble_eq_true rfl, Nat.le_of_ble_eq_true rfl⟩ rfl rfl (Nat.le_of_ble_eq_true rfl) dX11_wouldSound_37 (fun r4 hr4 => ?_)
  refine g_eqi hr4 ?_
  exact hend _ _ _ dX11_wouldSound_40 (rfl)
set_option maxHeartbeats 4000000 in
set_option maxRecDepth 100000 in
theorem p_seen (S : wPS) (x lo ta : Nat) (la : Nat → Nat) (el : Nat → Nat → Nat) (sz : Nat → Nat) (hM : RMx S x lo ta la el sz) (h12 : sz 5 ≤ 12) : MR yX11_seen cX11_seen 1 (some .double) ({ frames := 5, cells := 0, slots := 0, locals := 112 }) S [.ref x] (vp_Sd (fun r => r = seenF S x el sz)) := by
  refine stR_d (post := (fun r => r = seenF S x el sz)) (by decide) (Nat.le_of_ble_eq_true rfl) rfl (fun κ hκ hend => ?_)
  show Gj κ _ 0 [(0, .ref x)] []
  have hMc := hM
  obtain ⟨hx, ⟨f0, L0⟩, ⟨f1, L1⟩, ⟨f2, L2⟩, ⟨f3, L3⟩, ⟨f4, L4⟩, ⟨f5, L5⟩, ⟨f6, L6⟩, ⟨f7, L7⟩, ⟨f8, L8⟩, ⟨flo, hlo⟩, ⟨fta, hta⟩⟩ := hMc
  have b0 := L0.2.2.1
  have b2 := L2.2.2.1
  have b3 := L3.2.2.1
  have b4 := L4.2.2.1
  have b5 := L5.2.2.1
  have b7 := L7.2.2.1
  have b8 := L8.2.2.1
  refine g_aload_n hκ 0 dX11_seen_0 rfl rfl ?_
  refine rV_d hκ hdR [] sd_X11_partSeen qw_918 (fun D cO H s hK hP => rc_Room hK hP hx) (k_partSeen S x lo ta la el sz hM h12) ⟨rfl, rfl, Nat.le_of_ble_eq_true rfl, Nat.le_of_ble_eq_true rfl⟩ rfl rfl (Nat.le_of_ble_eq_true rfl) dX11_seen_1 (fun r1 hr1 => ?_)
  obtain rfl := hr1
  exact hend _ _ _ dX11_seen_4 (rfl)
