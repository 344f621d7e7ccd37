set_option maxHeartbeats 4000000 in
set_option maxRecDepth 100000 in
theorem k_isIn (S : wPS) (v a b : Int32) : MR yX11_isIn cX11_isIn 3 (some .boolean) ({ frames := 0, cells := 0, slots := 0, locals := 0 }) S [.int v, .int a, .int b] (vp_Si (fun r => r = zb (isInB v a b))) := by
  refine stR_i (post := (fun r => r = zb (isInB v a b))) (by decide) (Nat.le_of_ble_eq_true rfl) rfl (fun v hv => by subst hv; exact zb_nar _) (fun κ hκ hend => ?_)
  show Gj κ _ 0 [(0, .int v), (1, .int a), (2, .int b)] []
  refine g_iload_n hκ 0 dX11_isIn_0 rfl rfl ?_
  refine g_iload_n hκ 1 dX11_isIn_1 rfl rfl ?_
  refine g_icmp_lt hκ 14 dX11_isIn_2 (by decide) (fun c1 => ?_) (fun c1 => ?_)
  · skip
    refine g_iconst hκ (v := 0) dX11_isIn_14 (by decide) ?_
    exact hend _ _ _ dX11_isIn_15 (by simp [isInB, zb, c1])
  · skip
    refine g_iload_n hκ 0 dX11_isIn_5 rfl rfl ?_
    refine g_iload_n hκ 2 dX11_isIn_6 rfl rfl ?_
    refine g_icmp_gt hκ 14 dX11_isIn_7 (by decide) (fun c2 => ?_) (fun c2 => ?_)
    · skip
      refine g_iconst hκ (v := 0) dX11_isIn_14 (by decide) ?_
      exact hend _ _ _ dX11_isIn_15 (by simp [isInB, zb, c1, c2])
    · skip
      refine g_iconst hκ (v := 1) dX11_isIn_10 (by decide) ?_
      refine g_goto hκ 15 dX11_isIn_11 (by decide) ?_
      exact hend _ _ _ dX11_isIn_15 (by simp [isInB, zb, c1, c2])
set_option maxHeartbeats 4000000 in
set_option maxRecDepth 100000 in
theorem k_isPlace (S : wPS) (x y : Int32) : MR yX11_isPlace cX11_isPlace 2 (some .boolean) ({ frames := 1, cells := 0, slots := 0, locals := 22 }) S [.int x, .int y] (vp_Si (fun r => r = zb (isPlaceB x y))) := by
  refine stR_i (post := (fun r => r = zb (isPlaceB x y))) (by decide) (Nat.le_of_ble_eq_true rfl) rfl (fun v hv => by subst hv; exact zb_nar _) (fun κ hκ hend => ?_)
  show Gj κ _ 0 [(0, .int x), (1, .int y)] []
  refine g_iload_n hκ 0 dX11_isPlace_0 rfl rfl ?_
  refine g_iconst hκ (v := 0) dX11_isPlace_1 (by decide) ?_
  refine g_sipush hκ (v := 199) dX11_isPlace_2 (by decide) ?_
  refine rS_i hκ hdR [.int x, .int 0, .int 199] sd_X11_isIn qw_156 (k_isIn S x 0 199) ⟨rfl, rfl, Nat.le_of_ble_eq_true rfl, Nat.le_of_ble_eq_true rfl⟩ rfl rfl (Nat.le_of_ble_eq_true rfl) dX11_isPlace_5 (fun r1 hr1 => ?_)
  obtain ⟨b2, rfl⟩ | ⟨b2, rfl⟩ := zb_cases hr1
  · skip
    refine g_if_eq hκ 26 dX11_isPlace_8 (by decide) (fun z => absurd z (by decide)) (fun _ => ?_)
    refine g_iload_n hκ 1 dX11_isPlace_11 rfl rfl ?_
    refine g_iconst hκ (v := 0) dX11_isPlace_12 (by decide) ?_
    refine g_sipush hκ (v := 199) dX11_isPlace_13 (by decide) ?_
    refine rS_i hκ hdR [.int y, .int 0, .int 199] sd_X11_isIn qw_156 (k_isIn S y 0 199) ⟨rfl, rfl, Nat.le_of_ble_eq_true rfl, Nat.le_of_ble_eq_true rfl⟩ rfl rfl (Nat.le_of_ble_eq_true rfl) dX11_isPlace_16 (fun r3 hr3 => ?_)
    obtain ⟨b4, rfl⟩ | ⟨b4, rfl⟩ := zb_cases hr3
    · skip
      refine g_if_eq hκ 26 dX11_isPlace_19 (by decide) (fun z => absurd z (by decide)) (fun _ => ?_)
      refine g_iconst hκ (v := 1) dX11_isPlace_22 (by decide) ?_
      refine g_goto hκ 27 dX11_isPlace_23 (by decide) ?_
      exact hend _ _ _ dX11_isPlace_27 (by simp [isPlaceB, zb, b2, b4])
    · skip
      refine g_if_eq hκ 26 dX11_isPlace_19 (by decide) (fun _ => ?_) (fun z => absurd z (by decide))
      refine g_iconst hκ (v := 0) dX11_isPlace_26 (by decide) ?_
      exact hend _ _ _ dX11_isPlace_27 (by simp [isPlaceB, zb, b2, b4])
  · skip
    refine g_if_eq hκ 26 dX11_isPlace_8 (by decide) (fun _ => ?_) (fun z => absurd z (by decide))
    refine g_iconst hκ (v := 0) dX11_isPlace_26 (by decide) ?_
    exact hend _ _ _ dX11_isPlace_27 (by simp [isPlaceB, zb, b2])
set_option maxHeartbeats 4000000 in
set_option maxRecDepth 100000 in
theorem k_isCourse (S : wPS) (x y : Int32) : MR yX11_isCourse cX11_isCourse 2 (some .boolean) ({ frames := 1, cells := 0, slots := 0, locals := 22 }) S [.int x, .int y] (vp_Si (fun r => r = zb (isCourseB x y))) := by
  refine stR_i (post := (fun r => r = zb (isCourseB x y))) (by decide) (Nat.le_of_ble_eq_true rfl) rfl (fun v hv => by subst hv; exact zb_nar _) (fun κ hκ hend => ?_)
  show Gj κ _ 0 [(0, .int x), (1, .int y)] []
  refine g_iload_n hκ 0 dX11_isCourse_0 rfl rfl ?_
  refine g_bipush hκ (v := (-9)) dX11_isCourse_1 (by decide) ?_
  refine g_bipush hκ (v := 9) dX11_isCourse_3 (by decide) ?_
  refine rS_i hκ hdR [.int x, .int (-9), .int 9] sd_X11_isIn qw_156 (k_isIn S x (-9) 9) ⟨rfl, rfl, Nat.le_of_ble_eq_true rfl, Nat.le_of_ble_eq_true rfl⟩ rfl rfl (Nat.le_of_ble_eq_true rfl) dX11_isCourse_5 (fun r1 hr1 => ?_)
  obtain ⟨b2, rfl⟩ | ⟨b2, rfl⟩ := zb_cases hr1
  · skip
    refine g_if_eq hκ 26 dX11_isCourse_8 (by decide) (fun z => absurd z (by decide)) (fun _ => ?_)
    refine g_iload_n hκ 1 dX11_isCourse_11 rfl rfl ?_
    refine g_bipush hκ (v := (-9)) dX11_isCourse_12 (by decide) ?_
    refine g_bipush hκ (v := 9) dX11_isCourse_14 (by decide) ?_
    refine rS_i hκ hdR [.int y, .int (-9), .int 9] sd_X11_isIn qw_156 (k_isIn S y (-9) 9) ⟨rfl, rfl, Nat.le_of_ble_eq_true rfl, Nat.le_of_ble_eq_true rfl⟩ rfl rfl (Nat.le_of_ble_eq_true rfl) dX11_isCourse_16 (fun r3 hr3 => ?_)
    obtain ⟨b4, rfl⟩ | ⟨b4, rfl⟩ := zb_cases hr3
    · skip
      refine g_if_eq hκ 26 dX11_isCourse_19 (by decide) (fun z => absurd z (by decide)) (fun _ => ?_)
      refine g_iconst hκ (v := 1) dX11_isCourse_22 (by decide) ?_
      refine g_goto hκ 27 dX11_isCourse_23 (by decide) ?_
      exact hend _ _ _ dX11_isCourse_27 (by simp [isCourseB, zb, b2, b4])
    · skip
      refine g_if_eq hκ 26 dX11_isCourse_19 (by decide) (fun _ => ?_) (fun z => absurd z (by decide))
      refine g_iconst hκ (v := 0) dX11_isCourse_26 (by decide) ?_
      exact hend _ _ _ dX11_isCourse_27 (by simp [isCourseB, zb, b2, b4])
  · skip
    refine g_if_eq hκ 26 dX11_isCourse_8 (by decide) (fun _ => ?_) (fun z => absurd z (by decide))
    refine g_iconst hκ (v := 0) dX11_isCourse_26 (by decide) ?_
    exact hend _ _ _ dX11_isCourse_27 (by simp [isCourseB, zb, b2])
set_option maxHeartbeats 4000000 in
set_option maxRecDepth 100000 in
theorem k_isNumber (S : wPS) (n z : Int32) : MR yX11_isNumber cX11_isNumber 2 (some .boolean) ({ frames := 0, cells := 0, slots := 0, locals := 0 }) S [.int n, .int z] (vp_Si (fun r => r = zb (isNumB n z))) := by
  refine stR_i (post := (fun r => r = zb (isNumB n z))) (by decide) (Nat.le_of_ble_eq_true rfl) rfl (fun v hv => by subst hv; exact zb_nar _) (fun κ hκ hend => ?_)
  show Gj κ _ 0 [(0, .int n), (1, .int z)] []
  refine g_iload_n hκ 0 dX11_isNumber_0 rfl rfl ?_
  refine g_if_lt hκ 13 dX11_isNumber_1 (by decide) (fun c1 => ?_) (fun c1 => ?_)
  · skip
    refine g_iconst hκ (v := 0) dX11_isNumber_13 (by decide) ?_
    exact hend _ _ _ dX11_isNumber_14 (by simp [isNumB, zb, c1])
  · skip
    refine g_iload_n hκ 0 dX11_isNumber_4 rfl rfl ?_
    refine g_iload_n hκ 1 dX11_isNumber_5 rfl rfl ?_
    refine g_icmp_ge hκ 13 dX11_isNumber_6 (by decide) (fun c2 => ?_) (fun c2 => ?_)
    · skip
      refine g_iconst hκ (v := 0) dX11_isNumber_13 (by decide) ?_
      exact hend _ _ _ dX11_isNumber_14 (by simp [isNumB, zb, c1, c2])
    · skip
      refine g_iconst hκ (v := 1) dX11_isNumber_9 (by decide) ?_
      refine g_goto hκ 14 dX11_isNumber_10 (by decide) ?_
      exact hend _ _ _ dX11_isNumber_14 (by simp [isNumB, zb, c1, c2])
set_option maxHeartbeats 4000000 in
set_option maxRecDepth 100000 in
theorem k_hold (S : wPS) (v : Int32) : MR yX11_hold cX11_hold 1 (some .int) ({ frames := 0, cells := 0, slots := 0, locals := 0 }) S [.int v] (vp_Si (fun r => r = holdF v)) := by
  refine stR_i (post := (fun r => r = holdF v)) (by decide) (Nat.le_of_ble_eq_true rfl) rfl (fun _ _ => rfl) (fun κ hκ hend => ?_)
  show Gj κ _ 0 [(0, .int v)] []
  refine g_iload_n hκ 0 dX11_hold_0 rfl rfl ?_
  refine g_if_ge hκ 6 dX11_hold_1 (by decide) (fun c1 => ?_) (fun c1 => ?_)
  · skip
    refine g_iload_n hκ 0 dX11_hold_6 rfl rfl ?_
    refine g_sipush hκ (v := 199) dX11_hold_7 (by decide) ?_
    refine g_icmp_le hκ 19 dX11_hold_10 (by decide) (fun c2 => ?_) (fun c2 => ?_)
    · skip
      refine g_iload_n hκ 0 dX11_hold_19 rfl rfl ?_
      exact hend _ _ _ dX11_hold_20 (by simp [holdF, c1, c2])
    · skip
      refine g_sipush hκ (v := 199) dX11_hold_13 (by decide) ?_
      refine g_goto hκ 20 dX11_hold_16 (by decide) ?_
      exact hend _ _ _ dX11_hold_20 (by simp [holdF, c1, c2])
  · skip
    refine g_iconst hκ (v := 0) dX11_hold_4 (by decide) ?_
    exact hend _ _ _ dX11_hold_5 (by simp [holdF, c1])
set_option maxHeartbeats 4000000 in
set_option maxRecDepth 100000 in
theorem k_isWithin_Flight (S : wPS) (a : Nat) (r0 u v : Int32) (ha : a ∈ sL S ∧ sK S a = 0) : MR yX4_isWithin cX4_isWithin 6 (some .boolean) ({ frames := 0, cells := 0, slots := 0, locals := 0 }) S [.ref a, .int r0, .int u, .int v] (vp_Si (fun r => r = zb (withinB (sI S q_Flight_x a) (sI S q_Flight_y a) r0 u v))) := by
  refine stR_i (post := (fun r => r = zb (withinB (sI S q_Flight_x a) (sI S q_Flight_y a) r0 u v))) (by decide) (Nat.le_of_ble_eq_true rfl) rfl (fun v hv => by subst hv; exact zb_nar _) (fun κ hκ hend => ?_)
  show Gj κ _ 0 [(0, .ref a), (1, .int r0), (2, .int u), (3, .int v)] []
  refine g_aload_n hκ 0 dX4_isWithin_0 rfl rfl ?_
  refine gt_Flight_x hκ hdR ha qw_275 (Or.inl rfl) dX4_isWithin_1 ?_
  refine g_iload_n hκ 2 dX4_isWithin_4 rfl rfl ?_
  refine g_isub hκ dX4_isWithin_5 ?_
  refine g_istore hκ [(4, .int ((sI S q_Flight_x a) - u)), (0, .ref a), (1, .int r0), (2, .int u), (3, .int v)] dX4_isWithin_6 (by decide) rfl ?_
  refine g_aload_n hκ 1 dX4_isWithin_8 rfl rfl ?_
  refine gt_Flight_y hκ hdR ha qw_299 (Or.inl rfl) dX4_isWithin_9 ?_
  refine g_iload_n hκ 4 dX4_isWithin_12 rfl rfl ?_
  refine g_isub hκ dX4_isWithin_13 ?_
  refine g_istore hκ [(5, .int ((sI S q_Flight_y a) - v)), (4, .int ((sI S q_Flight_x a) - u)), (0, .ref a), (1, .int r0), (2, .int u), (3, .int v)] dX4_isWithin_14 (by decide) rfl ?_
  refine g_iload hκ 1 dX4_isWithin_16 rfl ?_
  refine g_iload hκ 1 dX4_isWithin_18 rfl ?_
  refine g_imul hκ dX4_isWithin_20 ?_
  refine g_iload hκ 0 dX4_isWithin_21 rfl ?_
  refine g_iload hκ 0 dX4_isWithin_23 rfl ?_
  refine g_imul hκ dX4_isWithin_25 ?_
  refine g_iadd hκ dX4_isWithin_26 ?_
  refine g_iload_n hκ 3 dX4_isWithin_27 rfl rfl ?_
  refine g_iload_n hκ 3 dX4_isWithin_28 rfl rfl ?_
  refine g_imul hκ dX4_isWithin_29 ?_
  refine g_icmp_gt hκ 37 dX4_isWithin_30 (by decide) (fun c1 => ?_) (fun c1 => ?_)
  · skip
    refine g_iconst hκ (v := 0) dX4_isWithin_37 (by decide) ?_
    exact hend _ _ _ dX4_isWithin_38 (by simp [withinB, farF, zb, c1])
  · skip
    refine g_iconst hκ (v := 1) dX4_isWithin_33 (by decide) ?_
    refine g_goto hκ 38 dX4_isWithin_34 (by decide) ?_
    exact hend _ _ _ dX4_isWithin_38 (by simp [withinB, farF, zb, c1])
set_option maxHeartbeats 4000000 in
set_option maxRecDepth 100000 in
theorem k_isWithin_Squadron (S : wPS) (a : Nat) (r0 u v : Int32) (ha : a ∈ sL S ∧ sK S a = 6) : MR yX4_isWithin cX4_isWithin 6 (some .boolean) ({ frames := 0, cells := 0, slots := 0, locals := 0 }) S [.ref a, .int r0, .int u, .int v] (vp_Si (fun r => r = zb (withinB (sI S q_Squadron_x a) (sI S q_Squadron_y a) r0 u v))) := by
  refine stR_i (post := (fun r => r = zb (withinB (sI S q_Squadron_x a) (sI S q_Squadron_y a) r0 u v))) (by decide) (Nat.le_of_ble_eq_true rfl) rfl (fun v hv => by subst hv; exact zb_nar _) (fun κ hκ hend => ?_)
  show Gj κ _ 0 [(0, .ref a), (1, .int r0), (2, .int u), (3, .int v)] []
  refine g_aload_n hκ 0 dX4_isWithin_0 rfl rfl ?_
  refine gt_Squadron_x hκ hdR ha qw_275 (Or.inl rfl) dX4_isWithin_1 ?_
  refine g_iload_n hκ 2 dX4_isWithin_4 rfl rfl ?_
  refine g_isub hκ dX4_isWithin_5 ?_
  refine g_istore hκ [(4, .int ((sI S q_Squadron_x a) - u)), (0, .ref a), (1, .int r0), (2, .int u), (3, .int v)] dX4_isWithin_6 (by decide) rfl ?_
  refine g_aload_n hκ 1 dX4_isWithin_8 rfl rfl ?_
  refine gt_Squadron_y hκ hdR ha qw_299 (Or.inl rfl) dX4_isWithin_9 ?_
  refine g_iload_n hκ 4 dX4_isWithin_12 rfl rfl ?_
  refine g_isub hκ dX4_isWithin_13 ?_
  refine g_istore hκ [(5, .int ((sI S q_Squadron_y a) - v)), (4, .int ((sI S q_Squadron_x a) - u)), (0, .ref a), (1, .int r0), (2, .int u), (3, .int v)] dX4_isWithin_14 (by decide) rfl ?_
  refine g_iload hκ 1 dX4_isWithin_16 rfl ?_
  refine g_iload hκ 1 dX4_isWithin_18 rfl ?_
  refine g_imul hκ dX4_isWithin_20 ?_
  refine g_iload hκ 0 dX4_isWithin_21 rfl ?_
  refine g_iload hκ 0 dX4_isWithin_23 rfl ?_
  refine g_imul hκ dX4_isWithin_25 ?_
  refine g_iadd hκ dX4_isWithin_26 ?_
  refine g_iload_n hκ 3 dX4_isWithin_27 rfl rfl ?_
  refine g_iload_n hκ 3 dX4_isWithin_28 rfl rfl ?_
  refine g_imul hκ dX4_isWithin_29 ?_
  refine g_icmp_gt hκ 37 dX4_isWithin_30 (by decide) (fun c1 => ?_) (fun c1 => ?_)
  · skip
    refine g_iconst hκ (v := 0) dX4_isWithin_37 (by decide) ?_
    exact hend _ _ _ dX4_isWithin_38 (by simp [withinB, farF, zb, c1])
  · skip
    refine g_iconst hκ (v := 1) dX4_isWithin_33 (by decide) ?_
    refine g_goto hκ 38 dX4_isWithin_34 (by decide) ?_
    exact hend _ _ _ dX4_isWithin_38 (by simp [withinB, farF, zb, c1])
set_option maxHeartbeats 4000000 in
set_option maxRecDepth 100000 in
theorem k_isWithin_Town (S : wPS) (a : Nat) (r0 u v : Int32) (ha : a ∈ sL S ∧ sK S a = 8) : MR yX4_isWithin cX4_isWithin 6 (some .boolean) ({ frames := 0, cells := 0, slots := 0, locals := 0 }) S [.ref a, .int r0, .int u, .int v] (vp_Si (fun r => r = zb (withinB (sI S q_Town_x a) (sI S q_Town_y a) r0 u v))) := by
  refine stR_i (post := (fun r => r = zb (withinB (sI S q_Town_x a) (sI S q_Town_y a) r0 u v))) (by decide) (Nat.le_of_ble_eq_true rfl) rfl (fun v hv => by subst hv; exact zb_nar _) (fun κ hκ hend => ?_)
  show Gj κ _ 0 [(0, .ref a), (1, .int r0), (2, .int u), (3, .int v)] []
  refine g_aload_n hκ 0 dX4_isWithin_0 rfl rfl ?_
  refine gt_Town_x hκ hdR ha qw_275 (Or.inl rfl) dX4_isWithin_1 ?_
  refine g_iload_n hκ 2 dX4_isWithin_4 rfl rfl ?_
  refine g_isub hκ dX4_isWithin_5 ?_
  refine g_istore hκ [(4, .int ((sI S q_Town_x a) - u)), (0, .ref a), (1, .int r0), (2, .int u), (3, .int v)] dX4_isWithin_6 (by decide) rfl ?_
  refine g_aload_n hκ 1 dX4_isWithin_8 rfl rfl ?_
  refine gt_Town_y hκ hdR ha qw_299 (Or.inl rfl) dX4_isWithin_9 ?_
  refine g_iload_n hκ 4 dX4_isWithin_12 rfl rfl ?_
  refine g_isub hκ dX4_isWithin_13 ?_
  refine g_istore hκ [(5, .int ((sI S q_Town_y a) - v)), (4, .int ((sI S q_Town_x a) - u)), (0, .ref a), (1, .int r0), (2, .int u), (3, .int v)] dX4_isWithin_14 (by decide) rfl ?_
  refine g_iload hκ 1 dX4_isWithin_16 rfl ?_
  refine g_iload hκ 1 dX4_isWithin_18 rfl ?_
  refine g_imul hκ dX4_isWithin_20 ?_
  refine g_iload hκ 0 dX4_isWithin_21 rfl ?_
  refine g_iload hκ 0 dX4_isWithin_23 rfl ?_
  refine g_imul hκ dX4_isWithin_25 ?_
  refine g_iadd hκ dX4_isWithin_26 ?_
  refine g_iload_n hκ 3 dX4_isWithin_27 rfl rfl ?_
  refine g_iload_n hκ 3 dX4_isWithin_28 rfl rfl ?_
  refine g_imul hκ dX4_isWithin_29 ?_
  refine g_icmp_gt hκ 37 dX4_isWithin_30 (by decide) (fun c1 => ?_) (fun c1 => ?_)
  · skip
    refine g_iconst hκ (v := 0) dX4_isWithin_37 (by decide) ?_
    exact hend _ _ _ dX4_isWithin_38 (by simp [withinB, farF, zb, c1])
  · skip
    refine g_iconst hκ (v := 1) dX4_isWithin_33 (by decide) ?_
    refine g_goto hκ 38 dX4_isWithin_34 (by decide) ?_
    exact hend _ _ _ dX4_isWithin_38 (by simp [withinB, farF, zb, c1])
set_option maxHeartbeats 4000000 in
set_option maxRecDepth 100000 in
theorem k_isWithin_Mast (S : wPS) (a : Nat) (r0 u v : Int32) (ha : a ∈ sL S ∧ sK S a = 3) : MR yX4_isWithin cX4_isWithin 6 (some .boolean) ({ frames := 0, cells := 0, slots := 0, locals := 0 }) S [.ref a, .int r0, .int u, .int v] (vp_Si (fun r => r = zb (withinB (sI S q_Mast_x a) (sI S q_Mast_y a) r0 u v))) := by
  refine stR_i (post := (fun r => r = zb (withinB (sI S q_Mast_x a) (sI S q_Mast_y a) r0 u v))) (by decide) (Nat.le_of_ble_eq_true rfl) rfl (fun v hv => by subst hv; exact zb_nar _) (fun κ hκ hend => ?_)
  show Gj κ _ 0 [(0, .ref a), (1, .int r0), (2, .int u), (3, .int v)] []
  refine g_aload_n hκ 0 dX4_isWithin_0 rfl rfl ?_
  refine gt_Mast_x hκ hdR ha qw_275 (Or.inl rfl) dX4_isWithin_1 ?_
  refine g_iload_n hκ 2 dX4_isWithin_4 rfl rfl ?_
  refine g_isub hκ dX4_isWithin_5 ?_
  refine g_istore hκ [(4, .int ((sI S q_Mast_x a) - u)), (0, .ref a), (1, .int r0), (2, .int u), (3, .int v)] dX4_isWithin_6 (by decide) rfl ?_
  refine g_aload_n hκ 1 dX4_isWithin_8 rfl rfl ?_
  refine gt_Mast_y hκ hdR ha qw_299 (Or.inl rfl) dX4_isWithin_9 ?_
  refine g_iload_n hκ 4 dX4_isWithin_12 rfl rfl ?_
  refine g_isub hκ dX4_isWithin_13 ?_
  refine g_istore hκ [(5, .int ((sI S q_Mast_y a) - v)), (4, .int ((sI S q_Mast_x a) - u)), (0, .ref a), (1, .int r0), (2, .int u), (3, .int v)] dX4_isWithin_14 (by decide) rfl ?_
  refine g_iload hκ 1 dX4_isWithin_16 rfl ?_
  refine g_iload hκ 1 dX4_isWithin_18 rfl ?_
  refine g_imul hκ dX4_isWithin_20 ?_
  refine g_iload hκ 0 dX4_isWithin_21 rfl ?_
  refine g_iload hκ 0 dX4_isWithin_23 rfl ?_
  refine g_imul hκ dX4_isWithin_25 ?_
  refine g_iadd hκ dX4_isWithin_26 ?_
  refine g_iload_n hκ 3 dX4_isWithin_27 rfl rfl ?_
  refine g_iload_n hκ 3 dX4_isWithin_28 rfl rfl ?_
  refine g_imul hκ dX4_isWithin_29 ?_
  refine g_icmp_gt hκ 37 dX4_isWithin_30 (by decide) (fun c1 => ?_) (fun c1 => ?_)
  · skip
    refine g_iconst hκ (v := 0) dX4_isWithin_37 (by decide) ?_
    exact hend _ _ _ dX4_isWithin_38 (by simp [withinB, farF, zb, c1])
  · skip
    refine g_iconst hκ (v := 1) dX4_isWithin_33 (by decide) ?_
    refine g_goto hκ 38 dX4_isWithin_34 (by decide) ?_
    exact hend _ _ _ dX4_isWithin_38 (by simp [withinB, farF, zb, c1])
set_option maxHeartbeats 4000000 in
set_option maxRecDepth 100000 in
theorem k_farFrom_Flight (S : wPS) (a : Nat) (u v : Int32) (ha : a ∈ sL S ∧ sK S a = 0) : MR yX4_farFrom cX4_farFrom 5 (some .int) ({ frames := 0, cells := 0, slots := 0, locals := 0 }) S [.ref a, .int u, .int v] (vp_Si (fun r => r = farF (sI S q_Flight_x a) (sI S q_Flight_y a) u v)) := by
  refine stR_i (post := (fun r => r = farF (sI S q_Flight_x a) (sI S q_Flight_y a) u v)) (by decide) (Nat.le_of_ble_eq_true rfl) rfl (fun _ _ => rfl) (fun κ hκ hend => ?_)
  show Gj κ _ 0 [(0, .ref a), (1, .int u), (2, .int v)] []
  refine g_aload_n hκ 0 dX4_farFrom_0 rfl rfl ?_
  refine gt_Flight_x hκ hdR ha qw_275 (Or.inl rfl) dX4_farFrom_1 ?_
  refine g_iload_n hκ 1 dX4_farFrom_4 rfl rfl ?_
  refine g_isub hκ dX4_farFrom_5 ?_
  refine g_istore_n hκ [(3, .int ((sI S q_Flight_x a) - u)), (0, .ref a), (1, .int u), (2, .int v)] dX4_farFrom_6 rfl (by decide) rfl ?_
  refine g_aload_n hκ 1 dX4_farFrom_7 rfl rfl ?_
  refine gt_Flight_y hκ hdR ha qw_299 (Or.inl rfl) dX4_farFrom_8 ?_
  refine g_iload_n hκ 3 dX4_farFrom_11 rfl rfl ?_
  refine g_isub hκ dX4_farFrom_12 ?_
  refine g_istore hκ [(4, .int ((sI S q_Flight_y a) - v)), (3, .int ((sI S q_Flight_x a) - u)), (0, .ref a), (1, .int u), (2, .int v)] dX4_farFrom_13 (by decide) rfl ?_
  refine g_iload_n hκ 1 dX4_farFrom_15 rfl rfl ?_
  refine g_iload_n hκ 1 dX4_farFrom_16 rfl rfl ?_
  refine g_imul hκ dX4_farFrom_17 ?_
  refine g_iload hκ 0 dX4_farFrom_18 rfl ?_
  refine g_iload hκ 0 dX4_farFrom_20 rfl ?_
  refine g_imul hκ dX4_farFrom_22 ?_
  refine g_iadd hκ dX4_farFrom_23 ?_
  exact hend _ _ _ dX4_farFrom_24 (rfl)
set_option maxHeartbeats 4000000 in
set_option maxRecDepth 100000 in
theorem k_farFrom_Squadron (S : wPS) (a : Nat) (u v : Int32) (ha : a ∈ sL S ∧ sK S a = 6) : MR yX4_farFrom cX4_farFrom 5 (some .int) ({ frames := 0, cells := 0, slots := 0, locals := 0 }) S [.ref a, .int u, .int v] (vp_Si (fun r => r = farF (sI S q_Squadron_x a) (sI S q_Squadron_y a) u v)) := by
  refine stR_i (post := (fun r => r = farF (sI S q_Squadron_x a) (sI S q_Squadron_y a) u v)) (by decide) (Nat.le_of_ble_eq_true rfl) rfl (fun _ _ => rfl) (fun κ hκ hend => ?_)
  show Gj κ _ 0 [(0, .ref a), (1, .int u), (2, .int v)] []
  refine g_aload_n hκ 0 dX4_farFrom_0 rfl rfl ?_
  refine gt_Squadron_x hκ hdR ha qw_275 (Or.inl rfl) dX4_farFrom_1 ?_
  refine g_iload_n hκ 1 dX4_farFrom_4 rfl rfl ?_
  refine g_isub hκ dX4_farFrom_5 ?_
  refine g_istore_n hκ [(3, .int ((sI S q_Squadron_x a) - u)), (0, .ref a), (1, .int u), (2, .int v)] dX4_farFrom_6 rfl (by decide) rfl ?_
  refine g_aload_n hκ 1 dX4_farFrom_7 rfl rfl ?_
  refine gt_Squadron_y hκ hdR ha qw_299 (Or.inl rfl) dX4_farFrom_8 ?_
  refine g_iload_n hκ 3 dX4_farFrom_11 rfl rfl ?_
  refine g_isub hκ dX4_farFrom_12 ?_
  refine g_istore hκ [(4, .int ((sI S q_Squadron_y a) - v)), (3, .int ((sI S q_Squadron_x a) - u)), (0, .ref a), (1, .int u), (2, .int v)] dX4_farFrom_13 (by decide) rfl ?_
  refine g_iload_n hκ 1 dX4_farFrom_15 rfl rfl ?_
  refine g_iload_n hκ 1 dX4_farFrom_16 rfl rfl ?_
  refine g_imul hκ dX4_farFrom_17 ?_
  refine g_iload hκ 0 dX4_farFrom_18 rfl ?_
  refine g_iload hκ 0 dX4_farFrom_20 rfl ?_
  refine g_imul hκ dX4_farFrom_22 ?_
  refine g_iadd hκ dX4_farFrom_23 ?_
  exact hend _ _ _ dX4_farFrom_24 (rfl)
set_option maxHeartbeats 4000000 in
set_option maxRecDepth 100000 in
theorem k_farFrom_Plot (S : wPS) (a : Nat) (u v : Int32) (ha : a ∈ sL S ∧ sK S a = 5) : MR yX4_farFrom cX4_farFrom 5 (some .int) ({ frames := 0, cells := 0, slots := 0, locals := 0 }) S [.ref a, .int u, .int v] (vp_Si (fun r => r = farF (sI S q_Plot_x a) (sI S q_Plot_y a) u v)) := by
  refine stR_i (post := (fun r => r = farF (sI S q_Plot_x a) (sI S q_Plot_y a) u v)) (by decide) (Nat.le_of_ble_eq_true rfl) rfl (fun _ _ => rfl) (fun κ hκ hend => ?_)
  show Gj κ _ 0 [(0, .ref a), (1, .int u), (2, .int v)] []
  refine g_aload_n hκ 0 dX4_farFrom_0 rfl rfl ?_
  refine gt_Plot_x hκ hdR ha qw_275 (Or.inl rfl) dX4_farFrom_1 ?_
  refine g_iload_n hκ 1 dX4_farFrom_4 rfl rfl ?_
  refine g_isub hκ dX4_farFrom_5 ?_
  refine g_istore_n hκ [(3, .int ((sI S q_Plot_x a) - u)), (0, .ref a), (1, .int u), (2, .int v)] dX4_farFrom_6 rfl (by decide) rfl ?_
  refine g_aload_n hκ 1 dX4_farFrom_7 rfl rfl ?_
  refine gt_Plot_y hκ hdR ha qw_299 (Or.inl rfl) dX4_farFrom_8 ?_
  refine g_iload_n hκ 3 dX4_farFrom_11 rfl rfl ?_
  refine g_isub hκ dX4_farFrom_12 ?_
  refine g_istore hκ [(4, .int ((sI S q_Plot_y a) - v)), (3, .int ((sI S q_Plot_x a) - u)), (0, .ref a), (1, .int u), (2, .int v)] dX4_farFrom_13 (by decide) rfl ?_
  refine g_iload_n hκ 1 dX4_farFrom_15 rfl rfl ?_
  refine g_iload_n hκ 1 dX4_farFrom_16 rfl rfl ?_
  refine g_imul hκ dX4_farFrom_17 ?_
  refine g_iload hκ 0 dX4_farFrom_18 rfl ?_
  refine g_iload hκ 0 dX4_farFrom_20 rfl ?_
  refine g_imul hκ dX4_farFrom_22 ?_
  refine g_iadd hκ dX4_farFrom_23 ?_
  exact hend _ _ _ dX4_farFrom_24 (rfl)
set_option maxHeartbeats 4000000 in
set_option maxRecDepth 100000 in
theorem k_isOnMap_Flight (S : wPS) (a : Nat) (ha : a ∈ sL S ∧ sK S a = 0) : MR yX4_isOnMap cX4_isOnMap 1 (some .boolean) ({ frames := 2, cells := 0, slots := 0, locals := 43 }) S [.ref a] (vp_Si (fun r => r = zb (isPlaceB (sI S q_Flight_x a) (sI S q_Flight_y a)))) := by
  refine stR_i (post := (fun r => r = zb (isPlaceB (sI S q_Flight_x a) (sI S q_Flight_y a)))) (by decide) (Nat.le_of_ble_eq_true rfl) rfl (fun v hv => by subst hv; exact zb_nar _) (fun κ hκ hend => ?_)
  show Gj κ _ 0 [(0, .ref a)] []
  refine g_aload_n hκ 0 dX4_isOnMap_0 rfl rfl ?_
  refine gt_Flight_x hκ hdR ha qw_275 (Or.inl rfl) dX4_isOnMap_1 ?_
  refine g_aload_n hκ 0 dX4_isOnMap_4 rfl rfl ?_
  refine gt_Flight_y hκ hdR ha qw_299 (Or.inl rfl) dX4_isOnMap_5 ?_
  refine rSN_i (host := "Plotroom") hκ hdR [.int (sI S q_Flight_x a), .int (sI S q_Flight_y a)] sd_X11_isPlace (by decide +kernel) (k_isPlace S (sI S q_Flight_x a) (sI S q_Flight_y a)) ⟨rfl, rfl, Nat.le_of_ble_eq_true rfl, Nat.le_of_ble_eq_true rfl⟩ rfl rfl (Nat.le_of_ble_eq_true rfl) dX4_isOnMap_8 (fun r1 hr1 => ?_)
  obtain ⟨b2, rfl⟩ | ⟨b2, rfl⟩ := zb_cases hr1
  · skip
    exact hend _ _ _ dX4_isOnMap_11 (by simp [zb, b2])
  · skip
    exact hend _ _ _ dX4_isOnMap_11 (by simp [zb, b2])
set_option maxHeartbeats 4000000 in
set_option maxRecDepth 100000 in
theorem k_isOnMap_Squadron (S : wPS) (a : Nat) (ha : a ∈ sL S ∧ sK S a = 6) : MR yX4_isOnMap cX4_isOnMap 1 (some .boolean) ({ frames := 2, cells := 0, slots := 0, locals := 43 }) S [.ref a] (vp_Si (fun r => r = zb (isPlaceB (sI S q_Squadron_x a) (sI S q_Squadron_y a)))) := by
  refine stR_i (post := (fun r => r = zb (isPlaceB (sI S q_Squadron_x a) (sI S q_Squadron_y a)))) (by decide) (Nat.le_of_ble_eq_true rfl) rfl (fun v hv => by subst hv; exact zb_nar _) (fun κ hκ hend => ?_)
  show Gj κ _ 0 [(0, .ref a)] []
  refine g_aload_n hκ 0 dX4_isOnMap_0 rfl rfl ?_
  refine gt_Squadron_x hκ hdR ha qw_275 (Or.inl rfl) dX4_isOnMap_1 ?_
  refine g_aload_n hκ 0 dX4_isOnMap_4 rfl rfl ?_
  refine gt_Squadron_y hκ hdR ha qw_299 (Or.inl rfl) dX4_isOnMap_5 ?_
  refine rSN_i (host := "Plotroom") hκ hdR [.int (sI S q_Squadron_x a), .int (sI S q_Squadron_y a)] sd_X11_isPlace (by decide +kernel) (k_isPlace S (sI S q_Squadron_x a) (sI S q_Squadron_y a)) ⟨rfl, rfl, Nat.le_of_ble_eq_true rfl, Nat.le_of_ble_eq_true rfl⟩ rfl rfl (Nat.le_of_ble_eq_true rfl) dX4_isOnMap_8 (fun r1 hr1 => ?_)
  obtain ⟨b2, rfl⟩ | ⟨b2, rfl⟩ := zb_cases hr1
  · skip
    exact hend _ _ _ dX4_isOnMap_11 (by simp [zb, b2])
  · skip
    exact hend _ _ _ dX4_isOnMap_11 (by simp [zb, b2])
set_option maxHeartbeats 4000000 in
set_option maxRecDepth 100000 in
theorem k_isOnMap_Track (S : wPS) (a : Nat) (ha : a ∈ sL S ∧ sK S a = 9) : MR yX4_isOnMap cX4_isOnMap 1 (some .boolean) ({ frames := 2, cells := 0, slots := 0, locals := 43 }) S [.ref a] (vp_Si (fun r => r = zb (isPlaceB (sI S q_Track_x a) (sI S q_Track_y a)))) := by
  refine stR_i (post := (fun r => r = zb (isPlaceB (sI S q_Track_x a) (sI S q_Track_y a)))) (by decide) (Nat.le_of_ble_eq_true rfl) rfl (fun v hv => by subst hv; exact zb_nar _) (fun κ hκ hend => ?_)
  show Gj κ _ 0 [(0, .ref a)] []
  refine g_aload_n hκ 0 dX4_isOnMap_0 rfl rfl ?_
  refine gt_Track_x hκ hdR ha qw_275 (Or.inl rfl) dX4_isOnMap_1 ?_
  refine g_aload_n hκ 0 dX4_isOnMap_4 rfl rfl ?_
  refine gt_Track_y hκ hdR ha qw_299 (Or.inl rfl) dX4_isOnMap_5 ?_
  refine rSN_i (host := "Plotroom") hκ hdR [.int (sI S q_Track_x a), .int (sI S q_Track_y a)] sd_X11_isPlace (by decide +kernel) (k_isPlace S (sI S q_Track_x a) (sI S q_Track_y a)) ⟨rfl, rfl, Nat.le_of_ble_eq_true rfl, Nat.le_of_ble_eq_true rfl⟩ rfl rfl (Nat.le_of_ble_eq_true rfl) dX4_isOnMap_8 (fun r1 hr1 => ?_)
  obtain ⟨b2, rfl⟩ | ⟨b2, rfl⟩ := zb_cases hr1
  · skip
    exact hend _ _ _ dX4_isOnMap_11 (by simp [zb, b2])
  · skip
    exact hend _ _ _ dX4_isOnMap_11 (by simp [zb, b2])
set_option maxHeartbeats 4000000 in
set_option maxRecDepth 100000 in
theorem k_canSee (S : wPS) (m f : Nat) (hm : m ∈ sL S ∧ sK S m = 3) (hf : f ∈ sL S ∧ sK S f = 0) : MR yX3_canSee cX3_canSee 2 (some .boolean) ({ frames := 1, cells := 0, slots := 0, locals := 25 }) S [.ref m, .ref f] (vp_Si (fun r => r = zb (canSeeB S m f))) := by
  refine stR_i (post := (fun r => r = zb (canSeeB S m f))) (by decide) (Nat.le_of_ble_eq_true rfl) rfl (fun v hv => by subst hv; exact zb_nar _) (fun κ hκ hend => ?_)
  show Gj κ _ 0 [(0, .ref m), (1, .ref f)] []
  refine g_aload_n hκ 1 dX3_canSee_0 rfl rfl ?_
  refine gtN_Flight_isUp (host := "Plotroom") hκ hdR hf (by decide +kernel) (Or.inl rfl) dX3_canSee_1 ?_
  refine g_if_eq hκ 41 dX3_canSee_4 (by decide) (fun c1 => ?_) (fun c1 => ?_)
  · skip
    refine g_iconst hκ (v := 0) dX3_canSee_41 (by decide) ?_
    exact hend _ _ _ dX3_canSee_42 (by simp [canSeeB, zb, c1])
  · skip
    refine g_aload_n hκ 1 dX3_canSee_7 rfl rfl ?_
    refine gtN_Flight_height (host := "Plotroom") hκ hdR hf (by decide +kernel) (Or.inl rfl) dX3_canSee_8 ?_
    refine g_aload_n hκ 0 dX3_canSee_11 rfl rfl ?_
    refine gt_Mast_blind hκ hdR hm qw_257 (Or.inl rfl) dX3_canSee_12 ?_
    refine g_icmp_le hκ 41 dX3_canSee_15 (by decide) (fun c2 => ?_) (fun c2 => ?_)
    · skip
      refine g_iconst hκ (v := 0) dX3_canSee_41 (by decide) ?_
      exact hend _ _ _ dX3_canSee_42 (by simp [canSeeB, zb, c1, c2])
    · skip
      refine g_aload_n hκ 0 dX3_canSee_18 rfl rfl ?_
      refine g_aload_n hκ 0 dX3_canSee_19 rfl rfl ?_
      refine gt_Mast_range hκ hdR hm qw_256 (Or.inl rfl) dX3_canSee_20 ?_
      refine g_aload_n hκ 1 dX3_canSee_23 rfl rfl ?_
      refine gt_Flight_x hκ hdR hf qw_282 (Or.inr qw_280) dX3_canSee_24 ?_
      refine g_aload_n hκ 1 dX3_canSee_27 rfl rfl ?_
      refine gt_Flight_y hκ hdR hf qw_305 (Or.inr qw_302) dX3_canSee_28 ?_
      refine rU_i hκ hdR [.int (sI S q_Mast_range m), .int (sI S q_Flight_x f), .int (sI S q_Flight_y f)] (ud_X4_isWithin_Mast) qw_608 (by decide +kernel) (fun D cO H s hK hP => rc_Mast hK hP hm) (k_isWithin_Mast S m (sI S q_Mast_range m) (sI S q_Flight_x f) (sI S q_Flight_y f) hm) ⟨rfl, rfl, Nat.le_of_ble_eq_true rfl, Nat.le_of_ble_eq_true rfl⟩ rfl rfl (Nat.le_of_ble_eq_true rfl) dX3_canSee_31 (fun r3 hr3 => ?_)
      obtain ⟨b4, rfl⟩ | ⟨b4, rfl⟩ := zb_cases hr3
      · skip
        refine g_if_eq hκ 41 dX3_canSee_34 (by decide) (fun z => absurd z (by decide)) (fun _ => ?_)
        refine g_iconst hκ (v := 1) dX3_canSee_37 (by decide) ?_
        refine g_goto hκ 42 dX3_canSee_38 (by decide) ?_
        exact hend _ _ _ dX3_canSee_42 (by simp [canSeeB, zb, c1, c2, b4])
      · skip
        refine g_if_eq hκ 41 dX3_canSee_34 (by decide) (fun _ => ?_) (fun z => absurd z (by decide))
        refine g_iconst hκ (v := 0) dX3_canSee_41 (by decide) ?_
        exact hend _ _ _ dX3_canSee_42 (by simp [canSeeB, zb, c1, c2, b4])
set_option maxHeartbeats 4000000 in
set_option maxRecDepth 100000 in
theorem k_guess (S : wPS) (f : Nat) (hf : f ∈ sL S ∧ sK S f = 0) : MR yX0_guess cX0_guess 1 (some .int) ({ frames := 0, cells := 0, slots := 0, locals := 0 }) S [.ref f] (vp_Si (fun r => r = guessF (sI S q_Flight_count f))) := by
  refine stR_i (post := (fun r => r = guessF (sI S q_Flight_count f))) (by decide) (Nat.le_of_ble_eq_true rfl) rfl (fun _ _ => rfl) (fun κ hκ hend => ?_)
  show Gj κ _ 0 [(0, .ref f)] []
  refine g_aload_n hκ 0 dX0_guess_0 rfl rfl ?_
  refine gt_Flight_count hκ hdR hf qw_565 (Or.inl rfl) dX0_guess_1 ?_
  refine g_bipush hκ (v := 9) dX0_guess_4 (by decide) ?_
  refine g_icmp_gt hκ 16 dX0_guess_6 (by decide) (fun c1 => ?_) (fun c1 => ?_)
  · skip
    refine g_aload_n hκ 0 dX0_guess_16 rfl rfl ?_
    refine gt_Flight_count hκ hdR hf qw_565 (Or.inl rfl) dX0_guess_17 ?_
    refine g_bipush hκ (v := 10) dX0_guess_20 (by decide) ?_
    refine g_idiv hκ dX0_guess_22 (by decide) ?_
    refine g_bipush hκ (v := 10) dX0_guess_23 (by decide) ?_
    refine g_imul hκ dX0_guess_25 ?_
    exact hend _ _ _ dX0_guess_26 (by simp [guessF, c1])
  · skip
    refine g_aload_n hκ 0 dX0_guess_9 rfl rfl ?_
    refine gt_Flight_count hκ hdR hf qw_565 (Or.inl rfl) dX0_guess_10 ?_
    refine g_goto hκ 26 dX0_guess_13 (by decide) ?_
    exact hend _ _ _ dX0_guess_26 (by simp [guessF, c1])
set_option maxHeartbeats 4000000 in
set_option maxRecDepth 100000 in
theorem k_xAt (S : wPS) (t : Nat) (w : Int32) (ht : t ∈ sL S ∧ sK S t = 9) : MR yX10_xAt cX10_xAt 2 (some .int) ({ frames := 1, cells := 0, slots := 0, locals := 20 }) S [.ref t, .int w] (vp_Si (fun r => r = xAtF S t w)) := by
  refine stR_i (post := (fun r => r = xAtF S t w)) (by decide) (Nat.le_of_ble_eq_true rfl) rfl (fun _ _ => rfl) (fun κ hκ hend => ?_)
  show Gj κ _ 0 [(0, .ref t), (1, .int w)] []
  refine g_aload_n hκ 0 dX10_xAt_0 rfl rfl ?_
  refine gt_Track_x hκ hdR ht qw_276 (Or.inr qw_277) dX10_xAt_1 ?_
  refine g_aload_n hκ 0 dX10_xAt_4 rfl rfl ?_
  refine gt_Track_courseX hκ hdR ht qw_711 (Or.inl rfl) dX10_xAt_5 ?_
  refine g_iload_n hκ 1 dX10_xAt_8 rfl rfl ?_
  refine g_aload_n hκ 0 dX10_xAt_9 rfl rfl ?_
  refine gt_Track_minute hκ hdR ht qw_708 (Or.inl rfl) dX10_xAt_10 ?_
  refine g_isub hκ dX10_xAt_13 ?_
  refine g_imul hκ dX10_xAt_14 ?_
  refine g_bipush hκ (v := 10) dX10_xAt_15 (by decide) ?_
  refine g_idiv hκ dX10_xAt_17 (by decide) ?_
  refine g_iadd hκ dX10_xAt_18 ?_
  refine rSN_i (host := "Plotroom") hκ hdR [.int ((sI S q_Track_x t) + (((sI S q_Track_courseX t) * (w - (sI S q_Track_minute t))) / 10))] sd_X11_hold (by decide +kernel) (k_hold S ((sI S q_Track_x t) + (((sI S q_Track_courseX t) * (w - (sI S q_Track_minute t))) / 10))) ⟨rfl, rfl, Nat.le_of_ble_eq_true rfl, Nat.le_of_ble_eq_true rfl⟩ rfl rfl (Nat.le_of_ble_eq_true rfl) dX10_xAt_19 (fun r1 hr1 => ?_)
  refine g_eqi hr1 ?_
  exact hend _ _ _ dX10_xAt_22 (rfl)
set_option maxHeartbeats 4000000 in
set_option maxRecDepth 100000 in
theorem k_yAt (S : wPS) (t : Nat) (w : Int32) (ht : t ∈ sL S ∧ sK S t = 9) : MR yX10_yAt cX10_yAt 2 (some .int) ({ frames := 1, cells := 0, slots := 0, locals := 20 }) S [.ref t, .int w] (vp_Si (fun r => r = yAtF S t w)) := by
  refine stR_i (post := (fun r => r = yAtF S t w)) (by decide) (Nat.le_of_ble_eq_true rfl) rfl (fun _ _ => rfl) (fun κ hκ hend => ?_)
  show Gj κ _ 0 [(0, .ref t), (1, .int w)] []
  refine g_aload_n hκ 0 dX10_yAt_0 rfl rfl ?_
  refine gt_Track_y hκ hdR ht qw_306 (Or.inr qw_304) dX10_yAt_1 ?_
  refine g_aload_n hκ 0 dX10_yAt_4 rfl rfl ?_
  refine gt_Track_courseY hκ hdR ht qw_712 (Or.inl rfl) dX10_yAt_5 ?_
  refine g_iload_n hκ 1 dX10_yAt_8 rfl rfl ?_
  refine g_aload_n hκ 0 dX10_yAt_9 rfl rfl ?_
  refine gt_Track_minute hκ hdR ht qw_708 (Or.inl rfl) dX10_yAt_10 ?_
  refine g_isub hκ dX10_yAt_13 ?_
  refine g_imul hκ dX10_yAt_14 ?_
  refine g_bipush hκ (v := 10) dX10_yAt_15 (by decide) ?_
  refine g_idiv hκ dX10_yAt_17 (by decide) ?_
  refine g_iadd hκ dX10_yAt_18 ?_
  refine rSN_i (host := "Plotroom") hκ hdR [.int ((sI S q_Track_y t) + (((sI S q_Track_courseY t) * (w - (sI S q_Track_minute t))) / 10))] sd_X11_hold (by decide +kernel) (k_hold S ((sI S q_Track_y t) + (((sI S q_Track_courseY t) * (w - (sI S q_Track_minute t))) / 10))) ⟨rfl, rfl, Nat.le_of_ble_eq_true rfl, Nat.le_of_ble_eq_true rfl⟩ rfl rfl (Nat.le_of_ble_eq_true rfl) dX10_yAt_19 (fun r1 hr1 => ?_)
  refine g_eqi hr1 ?_
  exact hend _ _ _ dX10_yAt_22 (rfl)
set_option maxHeartbeats 4000000 in
set_option maxRecDepth 100000 in
theorem k_canStart (S : wPS) (q : Nat) (hq : q ∈ sL S ∧ sK S q = 6) : MR yX7_canStart cX7_canStart 1 (some .boolean) ({ frames := 0, cells := 0, slots := 0, locals := 0 }) S [.ref q] (vp_Si (fun r => r = zb (canStartB S q))) := by
  refine stR_i (post := (fun r => r = zb (canStartB S q))) (by decide) (Nat.le_of_ble_eq_true rfl) rfl (fun v hv => by subst hv; exact zb_nar _) (fun κ hκ hend => ?_)
  show Gj κ _ 0 [(0, .ref q)] []
  refine g_aload_n hκ 0 dX7_canStart_0 rfl rfl ?_
  refine gt_Squadron_state hκ hdR hq qw_468 (Or.inl rfl) dX7_canStart_1 ?_
  refine g_if_ne hκ 18 dX7_canStart_4 (by decide) (fun c1 => ?_) (fun c1 => ?_)
  · skip
    refine g_iconst hκ (v := 0) dX7_canStart_18 (by decide) ?_
    exact hend _ _ _ dX7_canStart_19 (by simp [canStartB, zb, c1])
  · skip
    refine g_aload_n hκ 0 dX7_canStart_7 rfl rfl ?_
    refine gt_Squadron_machines hκ hdR hq qw_466 (Or.inl rfl) dX7_canStart_8 ?_
    refine g_if_le hκ 18 dX7_canStart_11 (by decide) (fun c2 => ?_) (fun c2 => ?_)
    · skip
      refine g_iconst hκ (v := 0) dX7_canStart_18 (by decide) ?_
      exact hend _ _ _ dX7_canStart_19 (by simp [canStartB, zb, c1, c2])
    · skip
      refine g_iconst hκ (v := 1) dX7_canStart_14 (by decide) ?_
      refine g_goto hκ 19 dX7_canStart_15 (by decide) ?_
      exact hend _ _ _ dX7_canStart_19 (by simp [canStartB, zb, c1, c2])
set_option maxHeartbeats 4000000 in
set_option maxRecDepth 100000 in
theorem k_isInAir (S : wPS) (q : Nat) (hq : q ∈ sL S ∧ sK S q = 6) : MR yX7_isInAir cX7_isInAir 1 (some .boolean) ({ frames := 0, cells := 0, slots := 0, locals := 0 }) S [.ref q] (vp_Si (fun r => r = zb (inAirB S q))) := by
  refine stR_i (post := (fun r => r = zb (inAirB S q))) (by decide) (Nat.le_of_ble_eq_true rfl) rfl (fun v hv => by subst hv; exact zb_nar _) (fun κ hκ hend => ?_)
  show Gj κ _ 0 [(0, .ref q)] []
  refine g_aload_n hκ 0 dX7_isInAir_0 rfl rfl ?_
  refine gt_Squadron_state hκ hdR hq qw_468 (Or.inl rfl) dX7_isInAir_1 ?_
  refine g_iconst hκ (v := 2) dX7_isInAir_4 (by decide) ?_
  refine g_icmp_eq hκ 16 dX7_isInAir_5 (by decide) (fun c1 => ?_) (fun c1 => ?_)
  · skip
    refine g_iconst hκ (v := 1) dX7_isInAir_16 (by decide) ?_
    refine g_goto hκ 21 dX7_isInAir_17 (by decide) ?_
    exact hend _ _ _ dX7_isInAir_21 (by simp [inAirB, zb, c1])
  · skip
    refine g_aload_n hκ 0 dX7_isInAir_8 rfl rfl ?_
    refine gt_Squadron_state hκ hdR hq qw_468 (Or.inl rfl) dX7_isInAir_9 ?_
    refine g_iconst hκ (v := 3) dX7_isInAir_12 (by decide) ?_
    refine g_icmp_ne hκ 20 dX7_isInAir_13 (by decide) (fun c2 => ?_) (fun c2 => ?_)
    · skip
      refine g_iconst hκ (v := 0) dX7_isInAir_20 (by decide) ?_
      exact hend _ _ _ dX7_isInAir_21 (by simp [inAirB, zb, c1, c2])
    · skip
      refine g_iconst hκ (v := 1) dX7_isInAir_16 (by decide) ?_
      refine g_goto hκ 21 dX7_isInAir_17 (by decide) ?_
      exact hend _ _ _ dX7_isInAir_21 (by simp [inAirB, zb, c1, c2])
set_option maxHeartbeats 4000000 in
set_option maxRecDepth 100000 in
theorem k_isTalkedTo (S : wPS) (q : Nat) (hq : q ∈ sL S ∧ sK S q = 6) : MR yX7_isTalkedTo cX7_isTalkedTo 1 (some .boolean) ({ frames := 0, cells := 0, slots := 0, locals := 0 }) S [.ref q] (vp_Si (fun r => r = zb (talkB S q))) := by
  refine stR_i (post := (fun r => r = zb (talkB S q))) (by decide) (Nat.le_of_ble_eq_true rfl) rfl (fun v hv => by subst hv; exact zb_nar _) (fun κ hκ hend => ?_)
  show Gj κ _ 0 [(0, .ref q)] []
  refine g_aload_n hκ 0 dX7_isTalkedTo_0 rfl rfl ?_
  refine gt_Squadron_state hκ hdR hq qw_468 (Or.inl rfl) dX7_isTalkedTo_1 ?_
  refine g_iconst hκ (v := 1) dX7_isTalkedTo_4 (by decide) ?_
  refine g_icmp_eq hκ 16 dX7_isTalkedTo_5 (by decide) (fun c1 => ?_) (fun c1 => ?_)
  · skip
    refine g_iconst hκ (v := 1) dX7_isTalkedTo_16 (by decide) ?_
    refine g_goto hκ 21 dX7_isTalkedTo_17 (by decide) ?_
    exact hend _ _ _ dX7_isTalkedTo_21 (by simp [talkB, zb, c1])
  · skip
    refine g_aload_n hκ 0 dX7_isTalkedTo_8 rfl rfl ?_
    refine gt_Squadron_state hκ hdR hq qw_468 (Or.inl rfl) dX7_isTalkedTo_9 ?_
    refine g_iconst hκ (v := 2) dX7_isTalkedTo_12 (by decide) ?_
    refine g_icmp_ne hκ 20 dX7_isTalkedTo_13 (by decide) (fun c2 => ?_) (fun c2 => ?_)
    · skip
      refine g_iconst hκ (v := 0) dX7_isTalkedTo_20 (by decide) ?_
      exact hend _ _ _ dX7_isTalkedTo_21 (by simp [talkB, zb, c1, c2])
    · skip
      refine g_iconst hκ (v := 1) dX7_isTalkedTo_16 (by decide) ?_
      refine g_goto hκ 21 dX7_isTalkedTo_17 (by decide) ?_
      exact hend _ _ _ dX7_isTalkedTo_21 (by simp [talkB, zb, c1, c2])
set_option maxHeartbeats 4000000 in
set_option maxRecDepth 100000 in
theorem k_courseBy (S : wPS) (t : Nat) (a b : Int32) (ht : t ∈ sL S ∧ sK S t = 9) : MR yX10_courseBy cX10_courseBy 3 (some .int) ({ frames := 0, cells := 0, slots := 0, locals := 0 }) S [.ref t, .int a, .int b] (vp_Si (fun r => r = if sI S q_Track_hasCourse t = 0 then b else (b + a) / 2)) := by
  refine stR_i (post := (fun r => r = if sI S q_Track_hasCourse t = 0 then b else (b + a) / 2)) (by decide) (Nat.le_of_ble_eq_true rfl) rfl (fun _ _ => rfl) (fun κ hκ hend => ?_)
  show Gj κ _ 0 [(0, .ref t), (1, .int a), (2, .int b)] []
  refine g_aload_n hκ 0 dX10_courseBy_0 rfl rfl ?_
  refine gt_Track_hasCourse hκ hdR ht qw_713 (Or.inl rfl) dX10_courseBy_1 ?_
  refine g_if_eq hκ 15 dX10_courseBy_4 (by decide) (fun c1 => ?_) (fun c1 => ?_)
  · skip
    refine g_iload_n hκ 2 dX10_courseBy_15 rfl rfl ?_
    exact hend _ _ _ dX10_courseBy_16 (by simp [c1])
  · skip
    refine g_iload_n hκ 2 dX10_courseBy_7 rfl rfl ?_
    refine g_iload_n hκ 1 dX10_courseBy_8 rfl rfl ?_
    refine g_iadd hκ dX10_courseBy_9 ?_
    refine g_iconst hκ (v := 2) dX10_courseBy_10 (by decide) ?_
    refine g_idiv hκ dX10_courseBy_11 (by decide) ?_
    refine g_goto hκ 16 dX10_courseBy_12 (by decide) ?_
    exact hend _ _ _ dX10_courseBy_16 (by simp [c1])
set_option maxHeartbeats 4000000 in
set_option maxRecDepth 100000 in
theorem k_winOf (S : wPS) (q f : Nat) (lot : Int32) (hq : q ∈ sL S ∧ sK S q = 6) (hf : f ∈ sL S ∧ sK S f = 0) : MR yX11_winOf cX11_winOf 3 (some .int) ({ frames := 1, cells := 0, slots := 0, locals := 13 }) S [.ref q, .ref f, .int lot] (vp_Si (fun r => r = winF S q f lot)) := by
  refine stR_i (post := (fun r => r = winF S q f lot)) (by decide) (Nat.le_of_ble_eq_true rfl) rfl (fun _ _ => rfl) (fun κ hκ hend => ?_)
  show Gj κ _ 0 [(0, .ref q), (1, .ref f), (2, .int lot)] []
  refine g_aload_n hκ 1 dX11_winOf_0 rfl rfl ?_
  refine gtN_Flight_count (host := "Plotroom") hκ hdR hf (by decide +kernel) (Or.inl rfl) dX11_winOf_1 ?_
  refine g_aload_n hκ 0 dX11_winOf_4 rfl rfl ?_
  refine gtN_Squadron_machines (host := "Plotroom") hκ hdR hq (by decide +kernel) (Or.inl rfl) dX11_winOf_5 ?_
  refine g_iconst hκ (v := 2) dX11_winOf_8 (by decide) ?_
  refine g_iload_n hκ 2 dX11_winOf_9 rfl rfl ?_
  refine g_bipush hκ (v := 6) dX11_winOf_10 (by decide) ?_
  refine g_irem hκ dX11_winOf_12 (by decide) ?_
  refine g_iadd hκ dX11_winOf_13 ?_
  refine g_imul hκ dX11_winOf_14 ?_
  refine g_bipush hκ (v := 8) dX11_winOf_15 (by decide) ?_
  refine g_idiv hκ dX11_winOf_17 (by decide) ?_
  refine g_min hκ hdR qw_802 ⟨Nat.le_of_ble_eq_true rfl, Nat.le_of_ble_eq_true rfl⟩ dX11_winOf_18 ?_
  exact hend _ _ _ dX11_winOf_21 (rfl)
set_option maxHeartbeats 4000000 in
set_option maxRecDepth 100000 in
theorem k_size (S : wPS) (a : Nat) (ha : a ∈ sL S ∧ sK S a = 11) : MR yJx4a65c_size_8abf5 cJx4a65c_size_8abf5 1 (some .int) ({ frames := 0, cells := 0, slots := 0, locals := 0 }) S [.ref a] (vp_Si (fun r => r = sI S q_List_size a)) := by
  refine stR_i (post := (fun r => r = sI S q_List_size a)) (by decide) (Nat.le_of_ble_eq_true rfl) rfl (fun _ _ => rfl) (fun κ hκ hend => ?_)
  show Gj κ _ 0 [(0, .ref a)] []
  refine g_aload_n hκ 0 dJx4a65c_size_8abf5_0 rfl rfl ?_
  refine gt_List_size hκ hdR ha qw_50 (Or.inl rfl) dJx4a65c_size_8abf5_1 ?_
  exact hend _ _ _ dJx4a65c_size_8abf5_4 (rfl)
