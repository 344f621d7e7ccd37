set_option maxHeartbeats 4000000 in
set_option maxRecDepth 100000 in
theorem k_pcheck (S : wPS) (i n : Int32) (h0 : ¬ i < 0) (h1 : i < n) : MR yJ3_checkIndex_8e157 cJ3_checkIndex_8e157 3 (some .int) ({ frames := 0, cells := 0, slots := 0, locals := 0 }) S [.int i, .int n, .null] (vp_Si (fun r => r = i)) := by
  refine stR_i (post := (fun r => r = i)) (by decide) (Nat.le_of_ble_eq_true rfl) rfl (fun _ _ => rfl) (fun κ hκ hend => ?_)
  show Gj κ _ 0 [(0, .int i), (1, .int n), (2, .null)] []
  refine g_iload_n hκ 0 dJ3_checkIndex_8e157_0 rfl rfl ?_
  refine g_if_lt hκ 9 dJ3_checkIndex_8e157_1 (by decide) (fun z => absurd z h0) (fun _ => ?_)
  refine g_iload_n hκ 0 dJ3_checkIndex_8e157_4 rfl rfl ?_
  refine g_iload_n hκ 1 dJ3_checkIndex_8e157_5 rfl rfl ?_
  refine g_icmp_lt hκ 16 dJ3_checkIndex_8e157_6 (by decide) (fun _ => ?_) (fun z => absurd h1 z)
  refine g_iload_n hκ 0 dJ3_checkIndex_8e157_16 rfl rfl ?_
  exact hend _ _ _ dJ3_checkIndex_8e157_17 (rfl)
set_option maxHeartbeats 4000000 in
set_option maxRecDepth 100000 in
theorem k_check (S : wPS) (i n : Int32) (h0 : ¬ i < 0) (h1 : i < n) : MR yJ15_checkIndex_7cf53 cJ15_checkIndex_7cf53 2 (some .int) ({ frames := 1, cells := 0, slots := 0, locals := 22 }) S [.int i, .int n] (vp_Si (fun r => r = i)) := by
  refine stR_i (post := (fun r => r = i)) (by decide) (Nat.le_of_ble_eq_true rfl) rfl (fun _ _ => rfl) (fun κ hκ hend => ?_)
  show Gj κ _ 0 [(0, .int i), (1, .int n)] []
  refine g_iload_n hκ 0 dJ15_checkIndex_7cf53_0 rfl rfl ?_
  refine g_iload_n hκ 1 dJ15_checkIndex_7cf53_1 rfl rfl ?_
  refine g_null hκ dJ15_checkIndex_7cf53_2 ?_
  refine rS_i hκ hdR [.int i, .int n, .null] sd_J3_checkIndex_8e157 qw_447 (k_pcheck S i n h0 h1) ⟨rfl, rfl, Nat.le_of_ble_eq_true rfl, Nat.le_of_ble_eq_true rfl⟩ rfl rfl (Nat.le_of_ble_eq_true rfl) dJ15_checkIndex_7cf53_3 (fun r1 hr1 => ?_)
  refine g_eqi hr1 ?_
  exact hend _ _ _ dJ15_checkIndex_7cf53_6 (rfl)
set_option maxHeartbeats 4000000 in
set_option maxRecDepth 100000 in
theorem k_elem (S : wPS) (l r1 v : Nat) (i : Int32) (hl : l ∈ sL S ∧ sK S l = 11) (he : sR S q_List_elementData l = some r1) (hr1 : r1 ∈ sL S ∧ sK S r1 = 12) (hin : vp_in i (sN S r1)) (hv : sW S r1 i.toNatClampNeg = some v) : MR yJx4a65c_elementData_915e3 cJx4a65c_elementData_915e3 2 (some (.object "java/lang/Object")) ({ frames := 0, cells := 0, slots := 0, locals := 0 }) S [.ref l, .int i] (va_Sq (fun r => r = some v)) := by
  refine stR_q (post := (fun r => r = some v)) (by decide) (Nat.le_of_ble_eq_true rfl) rfl (by first | exact Or.inl ⟨_, rfl⟩ | exact Or.inr ⟨_, rfl⟩) (fun κ hκ hend => ?_)
  show Gj κ _ 0 [(0, .ref l), (1, .int i)] []
  refine g_aload_n hκ 0 dJx4a65c_elementData_915e3_0 rfl rfl ?_
  refine gt_List_elementData hκ hdR hl qw_49 (Or.inl rfl) dJx4a65c_elementData_915e3_1 ?_
  refine g_rf he ?_
  refine g_iload_n hκ 1 dJx4a65c_elementData_915e3_4 rfl rfl ?_
  refine ga_ald hκ hdR hr1 hin dJx4a65c_elementData_915e3_5 ?_
  refine g_rf hv ?_
  exact hend _ _ (some v) dJx4a65c_elementData_915e3_6 (rfl)
set_option maxHeartbeats 4000000 in
set_option maxRecDepth 100000 in
theorem k_get (S : wPS) (l kd n j : Nat) (e : Nat → Nat) (x : Int32) (hL : isL S l kd e n) (hx : x = nI j) (hi : j < n) : MR yJx4a65c_get_915e3 cJx4a65c_get_915e3 2 (some (.object "java/lang/Object")) ({ frames := 2, cells := 0, slots := 0, locals := 43 }) S [.ref l, .int x] (va_Sq (fun r => r = some (e j))) := by
  refine stR_q (post := (fun r => r = some (e j))) (by decide) (Nat.le_of_ble_eq_true rfl) rfl (by first | exact Or.inl ⟨_, rfl⟩ | exact Or.inr ⟨_, rfl⟩) (fun κ hκ hend => ?_)
  show Gj κ _ 0 [(0, .ref l), (1, .int x)] []
  obtain ⟨aR, he, haR, hn1, hn2, hv⟩ := hL.2.2.2.1 j hi
  have hb9 := hL.2.2.1
  refine g_iload_n hκ 1 dJx4a65c_get_915e3_0 rfl rfl ?_
  refine g_aload_n hκ 0 dJx4a65c_get_915e3_1 rfl rfl ?_
  refine gt_List_size hκ hdR hL.1 qw_50 (Or.inl rfl) dJx4a65c_get_915e3_2 ?_
  refine g_eqi hL.2.1 ?_
  refine rS_i hκ hdR [.int x, .int (nI n)] sd_J15_checkIndex_7cf53 qw_444 (k_check S x (nI n) (by rw [hx]; exact nI_pos (by have := hL.2.2.1; omega)) (by rw [hx]; exact nI_lt hi (by have := hL.2.2.1; omega))) ⟨rfl, rfl, Nat.le_of_ble_eq_true rfl, Nat.le_of_ble_eq_true rfl⟩ rfl rfl (Nat.le_of_ble_eq_true rfl) dJx4a65c_get_915e3_5 (fun r1 hr1 => ?_)
  refine g_eqi hr1 ?_
  refine g_pop hκ dJx4a65c_get_915e3_8 rfl ?_
  refine g_aload_n hκ 0 dJx4a65c_get_915e3_9 rfl rfl ?_
  refine g_iload_n hκ 1 dJx4a65c_get_915e3_10 rfl rfl ?_
  refine rV_q hκ hdR [.int x] sd_Jx4a65c_elementData_915e3 qw_450 (fun D cO H s hK hP => rc_List hK hP hL.1) (k_elem S l aR (e j) x hL.1 he haR (by rw [hx]; exact vp_in_nI (by omega) (by omega)) (by rw [hx, nI_clamp (by omega)]; exact hv)) ⟨rfl, rfl, Nat.le_of_ble_eq_true rfl, Nat.le_of_ble_eq_true rfl⟩ rfl rfl (Nat.le_of_ble_eq_true rfl) dJx4a65c_get_915e3_11 (fun r2 hr2 => ?_)
  refine g_rf hr2 ?_
  exact hend _ _ (some (e j)) dJx4a65c_get_915e3_14 (rfl)
set_option maxHeartbeats 4000000 in
set_option maxRecDepth 100000 in
theorem k_sizeL (S : wPS) (l kd n : Nat) (e : Nat → Nat) (hL : isL S l kd e n) : MR yJx4a65c_size_8abf5 cJx4a65c_size_8abf5 1 (some .int) ({ frames := 0, cells := 0, slots := 0, locals := 0 }) S [.ref l] (vp_Si (fun r => r = nI n)) := by
  refine stR_i (post := (fun r => r = nI n)) (by decide) (Nat.le_of_ble_eq_true rfl) rfl (fun _ _ => rfl) (fun κ hκ hend => ?_)
  show Gj κ _ 0 [(0, .ref l)] []
  refine g_aload_n hκ 0 dJx4a65c_size_8abf5_0 rfl rfl ?_
  refine gt_List_size hκ hdR hL.1 qw_50 (Or.inl rfl) dJx4a65c_size_8abf5_1 ?_
  exact hend _ _ _ dJx4a65c_size_8abf5_4 (hL.2.1)
set_option maxHeartbeats 4000000 in
set_option maxRecDepth 100000 in
theorem k_isSquadronWithin (S : wPS) (x lo ta : Nat) (la : Nat → Nat) (el : Nat → Nat → Nat) (sz : Nat → Nat) (r0 u v : Int32) (hM : RMx S x lo ta la el sz) : MR yX11_isSquadronWithin cX11_isSquadronWithin 6 (some .boolean) ({ frames := 3, cells := 0, slots := 0, locals := 64 }) S [.ref x, .int r0, .int u, .int v] (vp_Si (fun r => r = zb (withinSqB S el sz r0 u v))) := by
  refine stR_i (post := (fun r => r = zb (withinSqB S el sz r0 u v))) (by decide) (Nat.le_of_ble_eq_true rfl) rfl (fun v hv => by subst hv; exact zb_nar _) (fun κ hκ hend => ?_)
  show Gj κ _ 0 [(0, .ref x), (1, .int r0), (2, .int u), (3, .int v)] []
  have hMc := hM
  obtain ⟨hx, ⟨f0, L0⟩, ⟨f1, L1⟩, ⟨f2, L2⟩, ⟨f3, L3⟩, ⟨f4, L4⟩, ⟨f5, L5⟩, ⟨f6, L6⟩, ⟨f7, L7⟩, ⟨f8, L8⟩, ⟨flo, hlo⟩, ⟨fta, hta⟩⟩ := hMc
  have b0 := L0.2.2.1
  have b2 := L2.2.2.1
  have b3 := L3.2.2.1
  have b4 := L4.2.2.1
  have b5 := L5.2.2.1
  have b7 := L7.2.2.1
  have b8 := L8.2.2.1
  refine g_iconst hκ (v := 0) dX11_isSquadronWithin_0 (by decide) ?_
  refine g_istore hκ [(4, .int 0), (0, .ref x), (1, .int r0), (2, .int u), (3, .int v)] dX11_isSquadronWithin_1 (by decide) rfl ?_
  have loop3 : ∀ (d3 i3 : Nat) (x3 : Int32), i3 + d3 = sz 2 → x3 = nI i3 → withinSqB S el sz r0 u v = anyR (fun i => inAirB S (el 2 i) && withinB (sI S q_Squadron_x (el 2 i)) (sI S q_Squadron_y (el 2 i)) r0 u v) d3 i3 → Gj κ (PR κ S) 3 [(4, .int x3), (0, .ref x), (1, .int r0), (2, .int u), (3, .int v)] [] := by
    intro d3
    induction d3 with
    | zero =>
      intro i3 x3 hi3 hx3 hF3
      subst hx3
      refine g_iload hκ 0 dX11_isSquadronWithin_3 rfl ?_
      refine g_aload_n hκ 1 dX11_isSquadronWithin_5 rfl rfl ?_
      refine gt_Room_squadrons hκ hdR hx qw_108 (Or.inl rfl) dX11_isSquadronWithin_6 ?_
      refine g_rf f2 ?_
      refine rV_i hκ hdR [] sd_Jx4a65c_size_8abf5 qw_227 (fun D cO H s hK hP => rc_List hK hP L2.1) (k_sizeL S (la 2) 6 (sz 2) (el 2) L2) ⟨rfl, rfl, Nat.le_of_ble_eq_true rfl, Nat.le_of_ble_eq_true rfl⟩ rfl rfl (Nat.le_of_ble_eq_true rfl) dX11_isSquadronWithin_9 (fun r1 hr1 => ?_)
      refine g_eqi hr1 ?_
      refine g_icmp_ge hκ 56 dX11_isSquadronWithin_12 (by decide) (fun _ => ?_) (fun z => absurd (lp_ge rfl (by omega) (by omega)) z)
      refine g_iconst hκ (v := 0) dX11_isSquadronWithin_56 (by decide) ?_
      exact hend _ _ _ dX11_isSquadronWithin_57 (by rw [hF3]; simp [anyR, zb])
    | succ d3 ih3 =>
      intro i3 x3 hi3 hx3 hF3
      subst hx3
      refine g_iload hκ 0 dX11_isSquadronWithin_3 rfl ?_
      refine g_aload_n hκ 1 dX11_isSquadronWithin_5 rfl rfl ?_
      refine gt_Room_squadrons hκ hdR hx qw_108 (Or.inl rfl) dX11_isSquadronWithin_6 ?_
      refine g_rf f2 ?_
      refine rV_i hκ hdR [] sd_Jx4a65c_size_8abf5 qw_227 (fun D cO H s hK hP => rc_List hK hP L2.1) (k_sizeL S (la 2) 6 (sz 2) (el 2) L2) ⟨rfl, rfl, Nat.le_of_ble_eq_true rfl, Nat.le_of_ble_eq_true rfl⟩ rfl rfl (Nat.le_of_ble_eq_true rfl) dX11_isSquadronWithin_9 (fun r2 hr2 => ?_)
      refine g_eqi hr2 ?_
      refine g_icmp_ge hκ 56 dX11_isSquadronWithin_12 (by decide) (fun z => absurd z (lp_nge rfl (by omega) (by omega))) (fun _ => ?_)
      refine g_aload_n hκ 1 dX11_isSquadronWithin_15 rfl rfl ?_
      refine gt_Room_squadrons hκ hdR hx qw_108 (Or.inl rfl) dX11_isSquadronWithin_16 ?_
      refine g_rf f2 ?_
      refine g_iload hκ 0 dX11_isSquadronWithin_19 rfl ?_
      refine rV_q hκ hdR [.int (nI i3)] sd_Jx4a65c_get_915e3 qw_440 (fun D cO H s hK hP => rc_List hK hP L2.1) (k_get S (la 2) 6 (sz 2) i3 (el 2) (nI i3) L2 rfl (by omega)) ⟨rfl, rfl, Nat.le_of_ble_eq_true rfl, Nat.le_of_ble_eq_true rfl⟩ rfl rfl (Nat.le_of_ble_eq_true rfl) dX11_isSquadronWithin_21 (fun r3 hr3 => ?_)
      refine g_rf hr3 ?_
      refine gc_Squadron hκ hdR (L2.2.2.2.2 i3 (by omega)) qw_438 dX11_isSquadronWithin_24 ?_
      refine g_astore hκ [(5, .ref (el 2 i3)), (4, .int (nI i3)), (0, .ref x), (1, .int r0), (2, .int u), (3, .int v)] dX11_isSquadronWithin_27 (by decide) rfl ?_
      refine g_aload hκ 0 dX11_isSquadronWithin_29 rfl ?_
      refine rV_i hκ hdR [] sd_X7_isInAir qw_815 (fun D cO H s hK hP => rc_Squadron hK hP (L2.2.2.2.2 i3 (by omega))) (k_isInAir S (el 2 i3) (L2.2.2.2.2 i3 (by omega))) ⟨rfl, rfl, Nat.le_of_ble_eq_true rfl, Nat.le_of_ble_eq_true rfl⟩ rfl rfl (Nat.le_of_ble_eq_true rfl) dX11_isSquadronWithin_31 (fun r4 hr4 => ?_)
      obtain ⟨b5, rfl⟩ | ⟨b5, rfl⟩ := zb_cases hr4
      · skip
        refine g_if_eq hκ 50 dX11_isSquadronWithin_34 (by decide) (fun z => absurd z (by decide)) (fun _ => ?_)
        refine g_aload hκ 0 dX11_isSquadronWithin_37 rfl ?_
        refine g_iload_n hκ 3 dX11_isSquadronWithin_39 rfl rfl ?_
        refine g_iload_n hκ 4 dX11_isSquadronWithin_40 rfl rfl ?_
        refine g_iload_n hκ 5 dX11_isSquadronWithin_41 rfl rfl ?_
        refine rU_i hκ hdR [.int r0, .int u, .int v] (ud_X4_isWithin_Squadron) qw_819 (by decide +kernel) (fun D cO H s hK hP => rc_Squadron hK hP (L2.2.2.2.2 i3 (by omega))) (k_isWithin_Squadron S (el 2 i3) r0 u v (L2.2.2.2.2 i3 (by omega))) ⟨rfl, rfl, Nat.le_of_ble_eq_true rfl, Nat.le_of_ble_eq_true rfl⟩ rfl rfl (Nat.le_of_ble_eq_true rfl) dX11_isSquadronWithin_42 (fun r6 hr6 => ?_)
        obtain ⟨b7, rfl⟩ | ⟨b7, rfl⟩ := zb_cases hr6
        · skip
          refine g_if_eq hκ 50 dX11_isSquadronWithin_45 (by decide) (fun z => absurd z (by decide)) (fun _ => ?_)
          refine g_iconst hκ (v := 1) dX11_isSquadronWithin_48 (by decide) ?_
          exact hend _ _ _ dX11_isSquadronWithin_49 (by rw [hF3]; simp [anyR, zb, b5, b7])
        · skip
          refine g_if_eq hκ 50 dX11_isSquadronWithin_45 (by decide) (fun _ => ?_) (fun z => absurd z (by decide))
          obtain ⟨v8, hv8⟩ : ∃ z : Int32, nI i3 + 1 = z := ⟨_, rfl⟩
          refine g_iinc hκ (k := 1) (v := v8) [(4, .int v8), (5, .ref (el 2 i3)), (0, .ref x), (1, .int r0), (2, .int u), (3, .int v)] dX11_isSquadronWithin_50 rfl hv8 (by decide) rfl ?_
          refine g_goto hκ 3 dX11_isSquadronWithin_53 (by decide) ?_
          refine g_lv [(4, .int v8), (0, .ref x), (1, .int r0), (2, .int u), (3, .int v)] [0, 2, 3, 4, 5] rfl ?_
          exact ih3 (i3 + 1) v8 (by omega) (lp_s rfl hv8) (by rw [hF3]; simp [anyR, b5, b7, ← hv8])
      · skip
        refine g_if_eq hκ 50 dX11_isSquadronWithin_34 (by decide) (fun _ => ?_) (fun z => absurd z (by decide))
        obtain ⟨v9, hv9⟩ : ∃ z : Int32, nI i3 + 1 = z := ⟨_, rfl⟩
        refine g_iinc hκ (k := 1) (v := v9) [(4, .int v9), (5, .ref (el 2 i3)), (0, .ref x), (1, .int r0), (2, .int u), (3, .int v)] dX11_isSquadronWithin_50 rfl hv9 (by decide) rfl ?_
        refine g_goto hκ 3 dX11_isSquadronWithin_53 (by decide) ?_
        refine g_lv [(4, .int v9), (0, .ref x), (1, .int r0), (2, .int u), (3, .int v)] [0, 2, 3, 4, 5] rfl ?_
        exact ih3 (i3 + 1) v9 (by omega) (lp_s rfl hv9) (by rw [hF3]; simp [anyR, b5, ← hv9])
  exact loop3 (sz 2) 0 0 (by omega) (by first | rfl | decide) (by first | rfl | decide)
set_option maxHeartbeats 4000000 in
set_option maxRecDepth 100000 in
theorem k_kindOf (S : wPS) (x lo ta : Nat) (la : Nat → Nat) (el : Nat → Nat → Nat) (sz : Nat → Nat) (t : Nat) (hM : RMx S x lo ta la el sz) (ht : t ∈ sL S ∧ sK S t = 9) : MR yX11_kindOf cX11_kindOf 3 (some .int) ({ frames := 4, cells := 0, slots := 0, locals := 89 }) S [.ref x, .ref t] (vp_Si (fun r => r = kindF S el sz t)) := by
  refine stR_i (post := (fun r => r = kindF S el sz t)) (by decide) (Nat.le_of_ble_eq_true rfl) rfl (fun _ _ => rfl) (fun κ hκ hend => ?_)
  show Gj κ _ 0 [(0, .ref x), (1, .ref t)] []
  have hMc := hM
  obtain ⟨hx, ⟨f0, L0⟩, ⟨f1, L1⟩, ⟨f2, L2⟩, ⟨f3, L3⟩, ⟨f4, L4⟩, ⟨f5, L5⟩, ⟨f6, L6⟩, ⟨f7, L7⟩, ⟨f8, L8⟩, ⟨flo, hlo⟩, ⟨fta, hta⟩⟩ := hMc
  have b0 := L0.2.2.1
  have b2 := L2.2.2.1
  have b3 := L3.2.2.1
  have b4 := L4.2.2.1
  have b5 := L5.2.2.1
  have b7 := L7.2.2.1
  have b8 := L8.2.2.1
  refine g_iconst hκ (v := 0) dX11_kindOf_0 (by decide) ?_
  refine g_istore_n hκ [(2, .int 0), (0, .ref x), (1, .ref t)] dX11_kindOf_1 rfl (by decide) rfl ?_
  refine g_iload_n hκ 0 dX11_kindOf_2 rfl rfl ?_
  refine g_aload_n hκ 1 dX11_kindOf_3 rfl rfl ?_
  refine gt_Room_plans hκ hdR hx qw_112 (Or.inl rfl) dX11_kindOf_4 ?_
  refine g_rf f6 ?_
  refine rV_i hκ hdR [] sd_Jx4a65c_size_8abf5 qw_227 (fun D cO H s hK hP => rc_List hK hP L6.1) (k_sizeL S (la 6) 4 0 (el 6) L6) ⟨rfl, rfl, Nat.le_of_ble_eq_true rfl, Nat.le_of_ble_eq_true rfl⟩ rfl rfl (Nat.le_of_ble_eq_true rfl) dX11_kindOf_7 (fun r1 hr1 => ?_)
  obtain rfl := hr1
  refine g_eqi (y := 0) (by decide) ?_
  refine g_icmp_ge hκ 39 dX11_kindOf_10 (by decide) (fun _ => ?_) (fun z => absurd z (by decide))
  refine g_aload_n hκ 1 dX11_kindOf_39 rfl rfl ?_
  refine g_bipush hκ (v := 8) dX11_kindOf_40 (by decide) ?_
  refine g_aload_n hκ 2 dX11_kindOf_42 rfl rfl ?_
  refine gt_Track_x hκ hdR ht qw_293 (Or.inr qw_277) dX11_kindOf_43 ?_
  refine g_aload_n hκ 2 dX11_kindOf_46 rfl rfl ?_
  refine gt_Track_y hκ hdR ht qw_317 (Or.inr qw_304) dX11_kindOf_47 ?_
  refine rV_i hκ hdR [.int 8, .int (sI S q_Track_x t), .int (sI S q_Track_y t)] sd_X11_isSquadronWithin qw_811 (fun D cO H s hK hP => rc_Room hK hP hx) (k_isSquadronWithin S x lo ta la el sz 8 (sI S q_Track_x t) (sI S q_Track_y t) hM ) ⟨rfl, rfl, Nat.le_of_ble_eq_true rfl, Nat.le_of_ble_eq_true rfl⟩ rfl rfl (Nat.le_of_ble_eq_true rfl) dX11_kindOf_50 (fun r2 hr2 => ?_)
  obtain ⟨b3, rfl⟩ | ⟨b3, rfl⟩ := zb_cases hr2
  · skip
    refine g_if_eq hκ 58 dX11_kindOf_53 (by decide) (fun z => absurd z (by decide)) (fun _ => ?_)
    refine g_iconst hκ (v := 0) dX11_kindOf_56 (by decide) ?_
    exact hend _ _ _ dX11_kindOf_57 (by simp [kindF, b3])
  · skip
    refine g_if_eq hκ 58 dX11_kindOf_53 (by decide) (fun _ => ?_) (fun z => absurd z (by decide))
    refine g_aload_n hκ 2 dX11_kindOf_58 rfl rfl ?_
    refine gtN_Track_hits (host := "Plotroom") hκ hdR ht (by decide +kernel) (Or.inl rfl) dX11_kindOf_59 ?_
    refine g_iconst hκ (v := 2) dX11_kindOf_62 (by decide) ?_
    refine g_icmp_gt hκ 70 dX11_kindOf_63 (by decide) (fun c4 => ?_) (fun c4 => ?_)
    · skip
      refine g_iconst hκ (v := 2) dX11_kindOf_70 (by decide) ?_
      exact hend _ _ _ dX11_kindOf_71 (by simp [kindF, b3, c4])
    · skip
      refine g_iconst hκ (v := 1) dX11_kindOf_66 (by decide) ?_
      refine g_goto hκ 71 dX11_kindOf_67 (by decide) ?_
      exact hend _ _ _ dX11_kindOf_71 (by simp [kindF, b3, c4])
set_option maxHeartbeats 4000000 in
set_option maxRecDepth 100000 in
theorem k_countUp (S : wPS) (x lo ta : Nat) (la : Nat → Nat) (el : Nat → Nat → Nat) (sz : Nat → Nat) (b : Int32) (hM : RMx S x lo ta la el sz) : MR yX11_countUp cX11_countUp 5 (some .int) ({ frames := 3, cells := 0, slots := 0, locals := 64 }) S [.ref x, .int b] (vp_Si (fun r => r = countUpF S el sz b)) := by
  refine stR_i (post := (fun r => r = countUpF S el sz b)) (by decide) (Nat.le_of_ble_eq_true rfl) rfl (fun _ _ => rfl) (fun κ hκ hend => ?_)
  show Gj κ _ 0 [(0, .ref x), (1, .int b)] []
  have hMc := hM
  obtain ⟨hx, ⟨f0, L0⟩, ⟨f1, L1⟩, ⟨f2, L2⟩, ⟨f3, L3⟩, ⟨f4, L4⟩, ⟨f5, L5⟩, ⟨f6, L6⟩, ⟨f7, L7⟩, ⟨f8, L8⟩, ⟨flo, hlo⟩, ⟨fta, hta⟩⟩ := hMc
  have b0 := L0.2.2.1
  have b2 := L2.2.2.1
  have b3 := L3.2.2.1
  have b4 := L4.2.2.1
  have b5 := L5.2.2.1
  have b7 := L7.2.2.1
  have b8 := L8.2.2.1
  refine g_iconst hκ (v := 0) dX11_countUp_0 (by decide) ?_
  refine g_istore_n hκ [(2, .int 0), (0, .ref x), (1, .int b)] dX11_countUp_1 rfl (by decide) rfl ?_
  refine g_iconst hκ (v := 0) dX11_countUp_2 (by decide) ?_
  refine g_istore_n hκ [(3, .int 0), (2, .int 0), (0, .ref x), (1, .int b)] dX11_countUp_3 rfl (by decide) rfl ?_
  have loop4 : ∀ (d4 i4 : Nat) (x4 : Int32) (a4 : Int32), i4 + d4 = sz 5 → x4 = nI i4 → countUpF S el sz b = cntR (fun i => upB S b (el 5 i)) d4 i4 a4 → Gj κ (PR κ S) 4 [(3, .int x4), (2, .int a4), (0, .ref x), (1, .int b)] [] := by
    intro d4
    induction d4 with
    | zero =>
      intro i4 x4 a4 hi4 hx4 hF4
      subst hx4
      refine g_iload_n hκ 0 dX11_countUp_4 rfl rfl ?_
      refine g_aload_n hκ 2 dX11_countUp_5 rfl rfl ?_
      refine gt_Room_flights hκ hdR hx qw_111 (Or.inl rfl) dX11_countUp_6 ?_
      refine g_rf f5 ?_
      refine rV_i hκ hdR [] sd_Jx4a65c_size_8abf5 qw_227 (fun D cO H s hK hP => rc_List hK hP L5.1) (k_sizeL S (la 5) 0 (sz 5) (el 5) L5) ⟨rfl, rfl, Nat.le_of_ble_eq_true rfl, Nat.le_of_ble_eq_true rfl⟩ rfl rfl (Nat.le_of_ble_eq_true rfl) dX11_countUp_9 (fun r1 hr1 => ?_)
      refine g_eqi hr1 ?_
      refine g_icmp_ge hκ 57 dX11_countUp_12 (by decide) (fun _ => ?_) (fun z => absurd (lp_ge rfl (by omega) (by omega)) z)
      refine g_iload_n hκ 1 dX11_countUp_57 rfl rfl ?_
      exact hend _ _ _ dX11_countUp_58 (by rw [hF4]; rfl)
    | succ d4 ih4 =>
      intro i4 x4 a4 hi4 hx4 hF4
      subst hx4
      refine g_iload_n hκ 0 dX11_countUp_4 rfl rfl ?_
      refine g_aload_n hκ 2 dX11_countUp_5 rfl rfl ?_
      refine gt_Room_flights hκ hdR hx qw_111 (Or.inl rfl) dX11_countUp_6 ?_
      refine g_rf f5 ?_
      refine rV_i hκ hdR [] sd_Jx4a65c_size_8abf5 qw_227 (fun D cO H s hK hP => rc_List hK hP L5.1) (k_sizeL S (la 5) 0 (sz 5) (el 5) L5) ⟨rfl, rfl, Nat.le_of_ble_eq_true rfl, Nat.le_of_ble_eq_true rfl⟩ rfl rfl (Nat.le_of_ble_eq_true rfl) dX11_countUp_9 (fun r2 hr2 => ?_)
      refine g_eqi hr2 ?_
      refine g_icmp_ge hκ 57 dX11_countUp_12 (by decide) (fun z => absurd z (lp_nge rfl (by omega) (by omega))) (fun _ => ?_)
      refine g_aload_n hκ 2 dX11_countUp_15 rfl rfl ?_
      refine gt_Room_flights hκ hdR hx qw_111 (Or.inl rfl) dX11_countUp_16 ?_
      refine g_rf f5 ?_
      refine g_iload_n hκ 0 dX11_countUp_19 rfl rfl ?_
      refine rV_q hκ hdR [.int (nI i4)] sd_Jx4a65c_get_915e3 qw_440 (fun D cO H s hK hP => rc_List hK hP L5.1) (k_get S (la 5) 0 (sz 5) i4 (el 5) (nI i4) L5 rfl (by omega)) ⟨rfl, rfl, Nat.le_of_ble_eq_true rfl, Nat.le_of_ble_eq_true rfl⟩ rfl rfl (Nat.le_of_ble_eq_true rfl) dX11_countUp_20 (fun r3 hr3 => ?_)
      refine g_rf hr3 ?_
      refine gc_Flight hκ hdR (L5.2.2.2.2 i4 (by omega)) qw_553 dX11_countUp_23 ?_
      refine g_astore hκ [(4, .ref (el 5 i4)), (3, .int (nI i4)), (2, .int a4), (0, .ref x), (1, .int b)] dX11_countUp_26 (by decide) rfl ?_
      refine g_aload hκ 0 dX11_countUp_28 rfl ?_
      refine gtN_Flight_isUp (host := "Plotroom") hκ hdR (L5.2.2.2.2 i4 (by omega)) (by decide +kernel) (Or.inl rfl) dX11_countUp_30 ?_
      refine g_if_eq hκ 51 dX11_countUp_33 (by decide) (fun c4 => ?_) (fun c4 => ?_)
      · skip
        obtain ⟨v5, hv5⟩ : ∃ z : Int32, nI i4 + 1 = z := ⟨_, rfl⟩
        refine g_iinc hκ (k := 1) (v := v5) [(3, .int v5), (4, .ref (el 5 i4)), (2, .int a4), (0, .ref x), (1, .int b)] dX11_countUp_51 rfl hv5 (by decide) rfl ?_
        refine g_goto hκ 4 dX11_countUp_54 (by decide) ?_
        refine g_lv [(3, .int v5), (2, .int a4), (0, .ref x), (1, .int b)] [0, 2, 3, 4] rfl ?_
        exact ih4 (i4 + 1) v5 a4 (by omega) (lp_s rfl hv5) (by rw [hF4]; simp [cntR, upB, c4, ← hv5])
      · skip
        refine g_aload hκ 0 dX11_countUp_36 rfl ?_
        refine gtN_Flight_isFoe (host := "Plotroom") hκ hdR (L5.2.2.2.2 i4 (by omega)) (by decide +kernel) (Or.inl rfl) dX11_countUp_38 ?_
        refine g_if_ne hκ 48 dX11_countUp_41 (by decide) (fun c6 => ?_) (fun c6 => ?_)
        · skip
          obtain ⟨v7, hv7⟩ : ∃ z : Int32, a4 + 1 = z := ⟨_, rfl⟩
          refine g_iinc hκ (k := 2) (v := v7) [(2, .int v7), (4, .ref (el 5 i4)), (3, .int (nI i4)), (0, .ref x), (1, .int b)] dX11_countUp_48 rfl hv7 (by decide) rfl ?_
          obtain ⟨v8, hv8⟩ : ∃ z : Int32, nI i4 + 1 = z := ⟨_, rfl⟩
          refine g_iinc hκ (k := 2) (v := v8) [(3, .int v8), (2, .int v7), (4, .ref (el 5 i4)), (0, .ref x), (1, .int b)] dX11_countUp_51 rfl hv8 (by decide) rfl ?_
          refine g_goto hκ 4 dX11_countUp_54 (by decide) ?_
          refine g_lv [(3, .int v8), (2, .int v7), (0, .ref x), (1, .int b)] [0, 1, 3, 4] rfl ?_
          exact ih4 (i4 + 1) v8 v7 (by omega) (lp_s rfl hv8) (by rw [hF4]; simp [cntR, upB, c4, c6, ← hv7, ← hv8])
        · skip
          refine g_iload_n hκ 4 dX11_countUp_44 rfl rfl ?_
          refine g_if_ne hκ 51 dX11_countUp_45 (by decide) (fun c9 => ?_) (fun c9 => ?_)
          · skip
            obtain ⟨v10, hv10⟩ : ∃ z : Int32, nI i4 + 1 = z := ⟨_, rfl⟩
            refine g_iinc hκ (k := 1) (v := v10) [(3, .int v10), (4, .ref (el 5 i4)), (2, .int a4), (0, .ref x), (1, .int b)] dX11_countUp_51 rfl hv10 (by decide) rfl ?_
            refine g_goto hκ 4 dX11_countUp_54 (by decide) ?_
            refine g_lv [(3, .int v10), (2, .int a4), (0, .ref x), (1, .int b)] [0, 2, 3, 4] rfl ?_
            exact ih4 (i4 + 1) v10 a4 (by omega) (lp_s rfl hv10) (by rw [hF4]; simp [cntR, upB, c4, c6, c9, ← hv10])
          · skip
            obtain ⟨v11, hv11⟩ : ∃ z : Int32, a4 + 1 = z := ⟨_, rfl⟩
            refine g_iinc hκ (k := 2) (v := v11) [(2, .int v11), (4, .ref (el 5 i4)), (3, .int (nI i4)), (0, .ref x), (1, .int b)] dX11_countUp_48 rfl hv11 (by decide) rfl ?_
            obtain ⟨v12, hv12⟩ : ∃ z : Int32, nI i4 + 1 = z := ⟨_, rfl⟩
            refine g_iinc hκ (k := 2) (v := v12) [(3, .int v12), (2, .int v11), (4, .ref (el 5 i4)), (0, .ref x), (1, .int b)] dX11_countUp_51 rfl hv12 (by decide) rfl ?_
            refine g_goto hκ 4 dX11_countUp_54 (by decide) ?_
            refine g_lv [(3, .int v12), (2, .int v11), (0, .ref x), (1, .int b)] [0, 1, 3, 4] rfl ?_
            exact ih4 (i4 + 1) v12 v11 (by omega) (lp_s rfl hv12) (by rw [hF4]; simp [cntR, upB, c4, c6, c9, ← hv11, ← hv12])
  exact loop4 (sz 5) 0 0 0 (by omega) (by first | rfl | decide) (by first | rfl | decide)
set_option maxHeartbeats 4000000 in
set_option maxRecDepth 100000 in
theorem k_countLive (S : wPS) (x lo ta : Nat) (la : Nat → Nat) (el : Nat → Nat → Nat) (sz : Nat → Nat) (hM : RMx S x lo ta la el sz) : MR yX11_countLive cX11_countLive 3 (some .int) ({ frames := 3, cells := 0, slots := 0, locals := 64 }) S [.ref x] (vp_Si (fun r => r = countLiveF S el sz)) := by
  refine stR_i (post := (fun r => r = countLiveF S el sz)) (by decide) (Nat.le_of_ble_eq_true rfl) rfl (fun _ _ => rfl) (fun κ hκ hend => ?_)
  show Gj κ _ 0 [(0, .ref x)] []
  have hMc := hM
  obtain ⟨hx, ⟨f0, L0⟩, ⟨f1, L1⟩, ⟨f2, L2⟩, ⟨f3, L3⟩, ⟨f4, L4⟩, ⟨f5, L5⟩, ⟨f6, L6⟩, ⟨f7, L7⟩, ⟨f8, L8⟩, ⟨flo, hlo⟩, ⟨fta, hta⟩⟩ := hMc
  have b0 := L0.2.2.1
  have b2 := L2.2.2.1
  have b3 := L3.2.2.1
  have b4 := L4.2.2.1
  have b5 := L5.2.2.1
  have b7 := L7.2.2.1
  have b8 := L8.2.2.1
  refine g_iconst hκ (v := 0) dX11_countLive_0 (by decide) ?_
  refine g_istore_n hκ [(1, .int 0), (0, .ref x)] dX11_countLive_1 rfl (by decide) rfl ?_
  refine g_iconst hκ (v := 0) dX11_countLive_2 (by decide) ?_
  refine g_istore_n hκ [(2, .int 0), (1, .int 0), (0, .ref x)] dX11_countLive_3 rfl (by decide) rfl ?_
  have loop4 : ∀ (d4 i4 : Nat) (x4 : Int32) (a4 : Int32), i4 + d4 = sz 7 → x4 = nI i4 → countLiveF S el sz = cntR (fun i => liveB S (el 7 i)) d4 i4 a4 → Gj κ (PR κ S) 4 [(2, .int x4), (1, .int a4), (0, .ref x)] [] := by
    intro d4
    induction d4 with
    | zero =>
      intro i4 x4 a4 hi4 hx4 hF4
      subst hx4
      refine g_iload_n hκ 0 dX11_countLive_4 rfl rfl ?_
      refine g_aload_n hκ 2 dX11_countLive_5 rfl rfl ?_
      refine gt_Room_tracks hκ hdR hx qw_113 (Or.inl rfl) dX11_countLive_6 ?_
      refine g_rf f7 ?_
      refine rV_i hκ hdR [] sd_Jx4a65c_size_8abf5 qw_227 (fun D cO H s hK hP => rc_List hK hP L7.1) (k_sizeL S (la 7) 9 (sz 7) (el 7) L7) ⟨rfl, rfl, Nat.le_of_ble_eq_true rfl, Nat.le_of_ble_eq_true rfl⟩ rfl rfl (Nat.le_of_ble_eq_true rfl) dX11_countLive_9 (fun r1 hr1 => ?_)
      refine g_eqi hr1 ?_
      refine g_icmp_ge hκ 41 dX11_countLive_12 (by decide) (fun _ => ?_) (fun z => absurd (lp_ge rfl (by omega) (by omega)) z)
      refine g_iload_n hκ 1 dX11_countLive_41 rfl rfl ?_
      exact hend _ _ _ dX11_countLive_42 (by rw [hF4]; rfl)
    | succ d4 ih4 =>
      intro i4 x4 a4 hi4 hx4 hF4
      subst hx4
      refine g_iload_n hκ 0 dX11_countLive_4 rfl rfl ?_
      refine g_aload_n hκ 2 dX11_countLive_5 rfl rfl ?_
      refine gt_Room_tracks hκ hdR hx qw_113 (Or.inl rfl) dX11_countLive_6 ?_
      refine g_rf f7 ?_
      refine rV_i hκ hdR [] sd_Jx4a65c_size_8abf5 qw_227 (fun D cO H s hK hP => rc_List hK hP L7.1) (k_sizeL S (la 7) 9 (sz 7) (el 7) L7) ⟨rfl, rfl, Nat.le_of_ble_eq_true rfl, Nat.le_of_ble_eq_true rfl⟩ rfl rfl (Nat.le_of_ble_eq_true rfl) dX11_countLive_9 (fun r2 hr2 => ?_)
      refine g_eqi hr2 ?_
      refine g_icmp_ge hκ 41 dX11_countLive_12 (by decide) (fun z => absurd z (lp_nge rfl (by omega) (by omega))) (fun _ => ?_)
      refine g_aload_n hκ 2 dX11_countLive_15 rfl rfl ?_
      refine gt_Room_tracks hκ hdR hx qw_113 (Or.inl rfl) dX11_countLive_16 ?_
      refine g_rf f7 ?_
      refine g_iload_n hκ 0 dX11_countLive_19 rfl rfl ?_
      refine rV_q hκ hdR [.int (nI i4)] sd_Jx4a65c_get_915e3 qw_440 (fun D cO H s hK hP => rc_List hK hP L7.1) (k_get S (la 7) 9 (sz 7) i4 (el 7) (nI i4) L7 rfl (by omega)) ⟨rfl, rfl, Nat.le_of_ble_eq_true rfl, Nat.le_of_ble_eq_true rfl⟩ rfl rfl (Nat.le_of_ble_eq_true rfl) dX11_countLive_20 (fun r3 hr3 => ?_)
      refine g_rf hr3 ?_
      refine gc_Track hκ hdR (L7.2.2.2.2 i4 (by omega)) qw_675 dX11_countLive_23 ?_
      refine gtN_Track_isLive (host := "Plotroom") hκ hdR (L7.2.2.2.2 i4 (by omega)) (by decide +kernel) (Or.inl rfl) dX11_countLive_26 ?_
      refine g_if_eq hκ 35 dX11_countLive_29 (by decide) (fun c4 => ?_) (fun c4 => ?_)
      · skip
        obtain ⟨v5, hv5⟩ : ∃ z : Int32, nI i4 + 1 = z := ⟨_, rfl⟩
        refine g_iinc hκ (k := 0) (v := v5) [(2, .int v5), (1, .int a4), (0, .ref x)] dX11_countLive_35 rfl hv5 (by decide) rfl ?_
        refine g_goto hκ 4 dX11_countLive_38 (by decide) ?_
        refine g_lv [(2, .int v5), (1, .int a4), (0, .ref x)] [0, 1, 2] rfl ?_
        exact ih4 (i4 + 1) v5 a4 (by omega) (lp_s rfl hv5) (by rw [hF4]; simp [cntR, liveB, c4, ← hv5])
      · skip
        obtain ⟨v6, hv6⟩ : ∃ z : Int32, a4 + 1 = z := ⟨_, rfl⟩
        refine g_iinc hκ (k := 1) (v := v6) [(1, .int v6), (2, .int (nI i4)), (0, .ref x)] dX11_countLive_32 rfl hv6 (by decide) rfl ?_
        obtain ⟨v7, hv7⟩ : ∃ z : Int32, nI i4 + 1 = z := ⟨_, rfl⟩
        refine g_iinc hκ (k := 1) (v := v7) [(2, .int v7), (1, .int v6), (0, .ref x)] dX11_countLive_35 rfl hv7 (by decide) rfl ?_
        refine g_goto hκ 4 dX11_countLive_38 (by decide) ?_
        refine g_lv [(2, .int v7), (1, .int v6), (0, .ref x)] [0, 1, 2] rfl ?_
        exact ih4 (i4 + 1) v7 v6 (by omega) (lp_s rfl hv7) (by rw [hF4]; simp [cntR, liveB, c4, ← hv6, ← hv7])
  exact loop4 (sz 7) 0 0 0 (by omega) (by first | rfl | decide) (by first | rfl | decide)
set_option maxHeartbeats 4000000 in
set_option maxRecDepth 100000 in
theorem k_countLiveOfKind (S : wPS) (x lo ta : Nat) (la : Nat → Nat) (el : Nat → Nat → Nat) (sz : Nat → Nat) (k : Int32) (hM : RMx S x lo ta la el sz) : MR yX11_countLiveOfKind cX11_countLiveOfKind 5 (some .int) ({ frames := 5, cells := 0, slots := 0, locals := 111 }) S [.ref x, .int k] (vp_Si (fun r => r = countKindF S el sz k)) := by
  refine stR_i (post := (fun r => r = countKindF S el sz k)) (by decide) (Nat.le_of_ble_eq_true rfl) rfl (fun _ _ => rfl) (fun κ hκ hend => ?_)
  show Gj κ _ 0 [(0, .ref x), (1, .int k)] []
  have hMc := hM
  obtain ⟨hx, ⟨f0, L0⟩, ⟨f1, L1⟩, ⟨f2, L2⟩, ⟨f3, L3⟩, ⟨f4, L4⟩, ⟨f5, L5⟩, ⟨f6, L6⟩, ⟨f7, L7⟩, ⟨f8, L8⟩, ⟨flo, hlo⟩, ⟨fta, hta⟩⟩ := hMc
  have b0 := L0.2.2.1
  have b2 := L2.2.2.1
  have b3 := L3.2.2.1
  have b4 := L4.2.2.1
  have b5 := L5.2.2.1
  have b7 := L7.2.2.1
  have b8 := L8.2.2.1
  refine g_iconst hκ (v := 0) dX11_countLiveOfKind_0 (by decide) ?_
  refine g_istore_n hκ [(2, .int 0), (0, .ref x), (1, .int k)] dX11_countLiveOfKind_1 rfl (by decide) rfl ?_
  refine g_iconst hκ (v := 0) dX11_countLiveOfKind_2 (by decide) ?_
  refine g_istore_n hκ [(3, .int 0), (2, .int 0), (0, .ref x), (1, .int k)] dX11_countLiveOfKind_3 rfl (by decide) rfl ?_
  have loop4 : ∀ (d4 i4 : Nat) (x4 : Int32) (a4 : Int32), i4 + d4 = sz 7 → x4 = nI i4 → countKindF S el sz k = cntR (fun i => liveB S (el 7 i) && decide (kindF S el sz (el 7 i) = k)) d4 i4 a4 → Gj κ (PR κ S) 4 [(3, .int x4), (2, .int a4), (0, .ref x), (1, .int k)] [] := by
    intro d4
    induction d4 with
    | zero =>
      intro i4 x4 a4 hi4 hx4 hF4
      subst hx4
      refine g_iload_n hκ 0 dX11_countLiveOfKind_4 rfl rfl ?_
      refine g_aload_n hκ 2 dX11_countLiveOfKind_5 rfl rfl ?_
      refine gt_Room_tracks hκ hdR hx qw_113 (Or.inl rfl) dX11_countLiveOfKind_6 ?_
      refine g_rf f7 ?_
      refine rV_i hκ hdR [] sd_Jx4a65c_size_8abf5 qw_227 (fun D cO H s hK hP => rc_List hK hP L7.1) (k_sizeL S (la 7) 9 (sz 7) (el 7) L7) ⟨rfl, rfl, Nat.le_of_ble_eq_true rfl, Nat.le_of_ble_eq_true rfl⟩ rfl rfl (Nat.le_of_ble_eq_true rfl) dX11_countLiveOfKind_9 (fun r1 hr1 => ?_)
      refine g_eqi hr1 ?_
      refine g_icmp_ge hκ 55 dX11_countLiveOfKind_12 (by decide) (fun _ => ?_) (fun z => absurd (lp_ge rfl (by omega) (by omega)) z)
      refine g_iload_n hκ 1 dX11_countLiveOfKind_55 rfl rfl ?_
      exact hend _ _ _ dX11_countLiveOfKind_56 (by rw [hF4]; rfl)
    | succ d4 ih4 =>
      intro i4 x4 a4 hi4 hx4 hF4
      subst hx4
      refine g_iload_n hκ 0 dX11_countLiveOfKind_4 rfl rfl ?_
      refine g_aload_n hκ 2 dX11_countLiveOfKind_5 rfl rfl ?_
      refine gt_Room_tracks hκ hdR hx qw_113 (Or.inl rfl) dX11_countLiveOfKind_6 ?_
      refine g_rf f7 ?_
      refine rV_i hκ hdR [] sd_Jx4a65c_size_8abf5 qw_227 (fun D cO H s hK hP => rc_List hK hP L7.1) (k_sizeL S (la 7) 9 (sz 7) (el 7) L7) ⟨rfl, rfl, Nat.le_of_ble_eq_true rfl, Nat.le_of_ble_eq_true rfl⟩ rfl rfl (Nat.le_of_ble_eq_true rfl) dX11_countLiveOfKind_9 (fun r2 hr2 => ?_)
      refine g_eqi hr2 ?_
      refine g_icmp_ge hκ 55 dX11_countLiveOfKind_12 (by decide) (fun z => absurd z (lp_nge rfl (by omega) (by omega))) (fun _ => ?_)
      refine g_aload_n hκ 2 dX11_countLiveOfKind_15 rfl rfl ?_
      refine gt_Room_tracks hκ hdR hx qw_113 (Or.inl rfl) dX11_countLiveOfKind_16 ?_
      refine g_rf f7 ?_
      refine g_iload_n hκ 0 dX11_countLiveOfKind_19 rfl rfl ?_
      refine rV_q hκ hdR [.int (nI i4)] sd_Jx4a65c_get_915e3 qw_440 (fun D cO H s hK hP => rc_List hK hP L7.1) (k_get S (la 7) 9 (sz 7) i4 (el 7) (nI i4) L7 rfl (by omega)) ⟨rfl, rfl, Nat.le_of_ble_eq_true rfl, Nat.le_of_ble_eq_true rfl⟩ rfl rfl (Nat.le_of_ble_eq_true rfl) dX11_countLiveOfKind_20 (fun r3 hr3 => ?_)
      refine g_rf hr3 ?_
      refine gc_Track hκ hdR (L7.2.2.2.2 i4 (by omega)) qw_675 dX11_countLiveOfKind_23 ?_
      refine g_astore hκ [(4, .ref (el 7 i4)), (3, .int (nI i4)), (2, .int a4), (0, .ref x), (1, .int k)] dX11_countLiveOfKind_26 (by decide) rfl ?_
      refine g_aload hκ 0 dX11_countLiveOfKind_28 rfl ?_
      refine gtN_Track_isLive (host := "Plotroom") hκ hdR (L7.2.2.2.2 i4 (by omega)) (by decide +kernel) (Or.inl rfl) dX11_countLiveOfKind_30 ?_
      refine g_if_eq hκ 49 dX11_countLiveOfKind_33 (by decide) (fun c4 => ?_) (fun c4 => ?_)
      · skip
        obtain ⟨v5, hv5⟩ : ∃ z : Int32, nI i4 + 1 = z := ⟨_, rfl⟩
        refine g_iinc hκ (k := 1) (v := v5) [(3, .int v5), (4, .ref (el 7 i4)), (2, .int a4), (0, .ref x), (1, .int k)] dX11_countLiveOfKind_49 rfl hv5 (by decide) rfl ?_
        refine g_goto hκ 4 dX11_countLiveOfKind_52 (by decide) ?_
        refine g_lv [(3, .int v5), (2, .int a4), (0, .ref x), (1, .int k)] [0, 2, 3, 4] rfl ?_
        exact ih4 (i4 + 1) v5 a4 (by omega) (lp_s rfl hv5) (by rw [hF4]; simp [cntR, liveB, c4, ← hv5])
      · skip
        refine g_aload_n hκ 3 dX11_countLiveOfKind_36 rfl rfl ?_
        refine g_aload hκ 0 dX11_countLiveOfKind_37 rfl ?_
        refine rV_i hκ hdR [.ref (el 7 i4)] sd_X11_kindOf qw_835 (fun D cO H s hK hP => rc_Room hK hP hx) (k_kindOf S x lo ta la el sz (el 7 i4) hM (L7.2.2.2.2 i4 (by omega))) ⟨rfl, rfl, Nat.le_of_ble_eq_true rfl, Nat.le_of_ble_eq_true rfl⟩ rfl rfl (Nat.le_of_ble_eq_true rfl) dX11_countLiveOfKind_39 (fun r6 hr6 => ?_)
        refine g_eqi hr6 ?_
        refine g_iload_n hκ 4 dX11_countLiveOfKind_42 rfl rfl ?_
        refine g_icmp_ne hκ 49 dX11_countLiveOfKind_43 (by decide) (fun c7 => ?_) (fun c7 => ?_)
        · skip
          obtain ⟨v8, hv8⟩ : ∃ z : Int32, nI i4 + 1 = z := ⟨_, rfl⟩
          refine g_iinc hκ (k := 1) (v := v8) [(3, .int v8), (4, .ref (el 7 i4)), (2, .int a4), (0, .ref x), (1, .int k)] dX11_countLiveOfKind_49 rfl hv8 (by decide) rfl ?_
          refine g_goto hκ 4 dX11_countLiveOfKind_52 (by decide) ?_
          refine g_lv [(3, .int v8), (2, .int a4), (0, .ref x), (1, .int k)] [0, 2, 3, 4] rfl ?_
          exact ih4 (i4 + 1) v8 a4 (by omega) (lp_s rfl hv8) (by rw [hF4]; simp [cntR, liveB, c4, c7, ← hv8])
        · skip
          obtain ⟨v9, hv9⟩ : ∃ z : Int32, a4 + 1 = z := ⟨_, rfl⟩
          refine g_iinc hκ (k := 2) (v := v9) [(2, .int v9), (4, .ref (el 7 i4)), (3, .int (nI i4)), (0, .ref x), (1, .int k)] dX11_countLiveOfKind_46 rfl hv9 (by decide) rfl ?_
          obtain ⟨v10, hv10⟩ : ∃ z : Int32, nI i4 + 1 = z := ⟨_, rfl⟩
          refine g_iinc hκ (k := 2) (v := v10) [(3, .int v10), (2, .int v9), (4, .ref (el 7 i4)), (0, .ref x), (1, .int k)] dX11_countLiveOfKind_49 rfl hv10 (by decide) rfl ?_
          refine g_goto hκ 4 dX11_countLiveOfKind_52 (by decide) ?_
          refine g_lv [(3, .int v10), (2, .int v9), (0, .ref x), (1, .int k)] [0, 1, 3, 4] rfl ?_
          exact ih4 (i4 + 1) v10 v9 (by omega) (lp_s rfl hv10) (by rw [hF4]; simp [cntR, liveB, c4, c7, ← hv9, ← hv10])
  exact loop4 (sz 7) 0 0 0 (by omega) (by first | rfl | decide) (by first | rfl | decide)
set_option maxHeartbeats 4000000 in
set_option maxRecDepth 100000 in
theorem k_countInAir (S : wPS) (x lo ta : Nat) (la : Nat → Nat) (el : Nat → Nat → Nat) (sz : Nat → Nat) (hM : RMx S x lo ta la el sz) : MR yX11_countInAir cX11_countInAir 3 (some .int) ({ frames := 3, cells := 0, slots := 0, locals := 64 }) S [.ref x] (vp_Si (fun r => r = countAirF S el sz)) := by
  refine stR_i (post := (fun r => r = countAirF S el sz)) (by decide) (Nat.le_of_ble_eq_true rfl) rfl (fun _ _ => rfl) (fun κ hκ hend => ?_)
  show Gj κ _ 0 [(0, .ref x)] []
  have hMc := hM
  obtain ⟨hx, ⟨f0, L0⟩, ⟨f1, L1⟩, ⟨f2, L2⟩, ⟨f3, L3⟩, ⟨f4, L4⟩, ⟨f5, L5⟩, ⟨f6, L6⟩, ⟨f7, L7⟩, ⟨f8, L8⟩, ⟨flo, hlo⟩, ⟨fta, hta⟩⟩ := hMc
  have b0 := L0.2.2.1
  have b2 := L2.2.2.1
  have b3 := L3.2.2.1
  have b4 := L4.2.2.1
  have b5 := L5.2.2.1
  have b7 := L7.2.2.1
  have b8 := L8.2.2.1
  refine g_iconst hκ (v := 0) dX11_countInAir_0 (by decide) ?_
  refine g_istore_n hκ [(1, .int 0), (0, .ref x)] dX11_countInAir_1 rfl (by decide) rfl ?_
  refine g_iconst hκ (v := 0) dX11_countInAir_2 (by decide) ?_
  refine g_istore_n hκ [(2, .int 0), (1, .int 0), (0, .ref x)] dX11_countInAir_3 rfl (by decide) rfl ?_
  have loop4 : ∀ (d4 i4 : Nat) (x4 : Int32) (a4 : Int32), i4 + d4 = sz 2 → x4 = nI i4 → countAirF S el sz = cntR (fun i => inAirB S (el 2 i)) d4 i4 a4 → Gj κ (PR κ S) 4 [(2, .int x4), (1, .int a4), (0, .ref x)] [] := by
    intro d4
    induction d4 with
    | zero =>
      intro i4 x4 a4 hi4 hx4 hF4
      subst hx4
      refine g_iload_n hκ 0 dX11_countInAir_4 rfl rfl ?_
      refine g_aload_n hκ 2 dX11_countInAir_5 rfl rfl ?_
      refine gt_Room_squadrons hκ hdR hx qw_108 (Or.inl rfl) dX11_countInAir_6 ?_
      refine g_rf f2 ?_
      refine rV_i hκ hdR [] sd_Jx4a65c_size_8abf5 qw_227 (fun D cO H s hK hP => rc_List hK hP L2.1) (k_sizeL S (la 2) 6 (sz 2) (el 2) L2) ⟨rfl, rfl, Nat.le_of_ble_eq_true rfl, Nat.le_of_ble_eq_true rfl⟩ rfl rfl (Nat.le_of_ble_eq_true rfl) dX11_countInAir_9 (fun r1 hr1 => ?_)
      refine g_eqi hr1 ?_
      refine g_icmp_ge hκ 41 dX11_countInAir_12 (by decide) (fun _ => ?_) (fun z => absurd (lp_ge rfl (by omega) (by omega)) z)
      refine g_iload_n hκ 1 dX11_countInAir_41 rfl rfl ?_
      exact hend _ _ _ dX11_countInAir_42 (by rw [hF4]; rfl)
    | succ d4 ih4 =>
      intro i4 x4 a4 hi4 hx4 hF4
      subst hx4
      refine g_iload_n hκ 0 dX11_countInAir_4 rfl rfl ?_
      refine g_aload_n hκ 2 dX11_countInAir_5 rfl rfl ?_
      refine gt_Room_squadrons hκ hdR hx qw_108 (Or.inl rfl) dX11_countInAir_6 ?_
      refine g_rf f2 ?_
      refine rV_i hκ hdR [] sd_Jx4a65c_size_8abf5 qw_227 (fun D cO H s hK hP => rc_List hK hP L2.1) (k_sizeL S (la 2) 6 (sz 2) (el 2) L2) ⟨rfl, rfl, Nat.le_of_ble_eq_true rfl, Nat.le_of_ble_eq_true rfl⟩ rfl rfl (Nat.le_of_ble_eq_true rfl) dX11_countInAir_9 (fun r2 hr2 => ?_)
      refine g_eqi hr2 ?_
      refine g_icmp_ge hκ 41 dX11_countInAir_12 (by decide) (fun z => absurd z (lp_nge rfl (by omega) (by omega))) (fun _ => ?_)
      refine g_aload_n hκ 2 dX11_countInAir_15 rfl rfl ?_
      refine gt_Room_squadrons hκ hdR hx qw_108 (Or.inl rfl) dX11_countInAir_16 ?_
      refine g_rf f2 ?_
      refine g_iload_n hκ 0 dX11_countInAir_19 rfl rfl ?_
      refine rV_q hκ hdR [.int (nI i4)] sd_Jx4a65c_get_915e3 qw_440 (fun D cO H s hK hP => rc_List hK hP L2.1) (k_get S (la 2) 6 (sz 2) i4 (el 2) (nI i4) L2 rfl (by omega)) ⟨rfl, rfl, Nat.le_of_ble_eq_true rfl, Nat.le_of_ble_eq_true rfl⟩ rfl rfl (Nat.le_of_ble_eq_true rfl) dX11_countInAir_20 (fun r3 hr3 => ?_)
      refine g_rf hr3 ?_
      refine gc_Squadron hκ hdR (L2.2.2.2.2 i4 (by omega)) qw_438 dX11_countInAir_23 ?_
      refine rV_i hκ hdR [] sd_X7_isInAir qw_815 (fun D cO H s hK hP => rc_Squadron hK hP (L2.2.2.2.2 i4 (by omega))) (k_isInAir S (el 2 i4) (L2.2.2.2.2 i4 (by omega))) ⟨rfl, rfl, Nat.le_of_ble_eq_true rfl, Nat.le_of_ble_eq_true rfl⟩ rfl rfl (Nat.le_of_ble_eq_true rfl) dX11_countInAir_26 (fun r4 hr4 => ?_)
      obtain ⟨b5, rfl⟩ | ⟨b5, rfl⟩ := zb_cases hr4
      · skip
        refine g_if_eq hκ 35 dX11_countInAir_29 (by decide) (fun z => absurd z (by decide)) (fun _ => ?_)
        obtain ⟨v6, hv6⟩ : ∃ z : Int32, a4 + 1 = z := ⟨_, rfl⟩
        refine g_iinc hκ (k := 1) (v := v6) [(1, .int v6), (2, .int (nI i4)), (0, .ref x)] dX11_countInAir_32 rfl hv6 (by decide) rfl ?_
        obtain ⟨v7, hv7⟩ : ∃ z : Int32, nI i4 + 1 = z := ⟨_, rfl⟩
        refine g_iinc hκ (k := 1) (v := v7) [(2, .int v7), (1, .int v6), (0, .ref x)] dX11_countInAir_35 rfl hv7 (by decide) rfl ?_
        refine g_goto hκ 4 dX11_countInAir_38 (by decide) ?_
        refine g_lv [(2, .int v7), (1, .int v6), (0, .ref x)] [0, 1, 2] rfl ?_
        exact ih4 (i4 + 1) v7 v6 (by omega) (lp_s rfl hv7) (by rw [hF4]; simp [cntR, b5, ← hv6, ← hv7])
      · skip
        refine g_if_eq hκ 35 dX11_countInAir_29 (by decide) (fun _ => ?_) (fun z => absurd z (by decide))
        obtain ⟨v8, hv8⟩ : ∃ z : Int32, nI i4 + 1 = z := ⟨_, rfl⟩
        refine g_iinc hκ (k := 0) (v := v8) [(2, .int v8), (1, .int a4), (0, .ref x)] dX11_countInAir_35 rfl hv8 (by decide) rfl ?_
        refine g_goto hκ 4 dX11_countInAir_38 (by decide) ?_
        refine g_lv [(2, .int v8), (1, .int a4), (0, .ref x)] [0, 1, 2] rfl ?_
        exact ih4 (i4 + 1) v8 a4 (by omega) (lp_s rfl hv8) (by rw [hF4]; simp [cntR, b5, ← hv8])
  exact loop4 (sz 2) 0 0 0 (by omega) (by first | rfl | decide) (by first | rfl | decide)
set_option maxHeartbeats 4000000 in
set_option maxRecDepth 100000 in
theorem k_countTalks (S : wPS) (x lo ta : Nat) (la : Nat → Nat) (el : Nat → Nat → Nat) (sz : Nat → Nat) (hM : RMx S x lo ta la el sz) : MR yX11_countTalks cX11_countTalks 3 (some .int) ({ frames := 3, cells := 0, slots := 0, locals := 64 }) S [.ref x] (vp_Si (fun r => r = countTalksF S el sz)) := by
  refine stR_i (post := (fun r => r = countTalksF S el sz)) (by decide) (Nat.le_of_ble_eq_true rfl) rfl (fun _ _ => rfl) (fun κ hκ hend => ?_)
  show Gj κ _ 0 [(0, .ref x)] []
  have hMc := hM
  obtain ⟨hx, ⟨f0, L0⟩, ⟨f1, L1⟩, ⟨f2, L2⟩, ⟨f3, L3⟩, ⟨f4, L4⟩, ⟨f5, L5⟩, ⟨f6, L6⟩, ⟨f7, L7⟩, ⟨f8, L8⟩, ⟨flo, hlo⟩, ⟨fta, hta⟩⟩ := hMc
  have b0 := L0.2.2.1
  have b2 := L2.2.2.1
  have b3 := L3.2.2.1
  have b4 := L4.2.2.1
  have b5 := L5.2.2.1
  have b7 := L7.2.2.1
  have b8 := L8.2.2.1
  refine g_iconst hκ (v := 0) dX11_countTalks_0 (by decide) ?_
  refine g_istore_n hκ [(1, .int 0), (0, .ref x)] dX11_countTalks_1 rfl (by decide) rfl ?_
  refine g_iconst hκ (v := 0) dX11_countTalks_2 (by decide) ?_
  refine g_istore_n hκ [(2, .int 0), (1, .int 0), (0, .ref x)] dX11_countTalks_3 rfl (by decide) rfl ?_
  have loop4 : ∀ (d4 i4 : Nat) (x4 : Int32) (a4 : Int32), i4 + d4 = sz 2 → x4 = nI i4 → countTalksF S el sz = cntR (fun i => talkB S (el 2 i)) d4 i4 a4 → Gj κ (PR κ S) 4 [(2, .int x4), (1, .int a4), (0, .ref x)] [] := by
    intro d4
    induction d4 with
    | zero =>
      intro i4 x4 a4 hi4 hx4 hF4
      subst hx4
      refine g_iload_n hκ 0 dX11_countTalks_4 rfl rfl ?_
      refine g_aload_n hκ 2 dX11_countTalks_5 rfl rfl ?_
      refine gt_Room_squadrons hκ hdR hx qw_108 (Or.inl rfl) dX11_countTalks_6 ?_
      refine g_rf f2 ?_
      refine rV_i hκ hdR [] sd_Jx4a65c_size_8abf5 qw_227 (fun D cO H s hK hP => rc_List hK hP L2.1) (k_sizeL S (la 2) 6 (sz 2) (el 2) L2) ⟨rfl, rfl, Nat.le_of_ble_eq_true rfl, Nat.le_of_ble_eq_true rfl⟩ rfl rfl (Nat.le_of_ble_eq_true rfl) dX11_countTalks_9 (fun r1 hr1 => ?_)
      refine g_eqi hr1 ?_
      refine g_icmp_ge hκ 41 dX11_countTalks_12 (by decide) (fun _ => ?_) (fun z => absurd (lp_ge rfl (by omega) (by omega)) z)
      refine g_iload_n hκ 1 dX11_countTalks_41 rfl rfl ?_
      exact hend _ _ _ dX11_countTalks_42 (by rw [hF4]; rfl)
    | succ d4 ih4 =>
      intro i4 x4 a4 hi4 hx4 hF4
      subst hx4
      refine g_iload_n hκ 0 dX11_countTalks_4 rfl rfl ?_
      refine g_aload_n hκ 2 dX11_countTalks_5 rfl rfl ?_
      refine gt_Room_squadrons hκ hdR hx qw_108 (Or.inl rfl) dX11_countTalks_6 ?_
      refine g_rf f2 ?_
      refine rV_i hκ hdR [] sd_Jx4a65c_size_8abf5 qw_227 (fun D cO H s hK hP => rc_List hK hP L2.1) (k_sizeL S (la 2) 6 (sz 2) (el 2) L2) ⟨rfl, rfl, Nat.le_of_ble_eq_true rfl, Nat.le_of_ble_eq_true rfl⟩ rfl rfl (Nat.le_of_ble_eq_true rfl) dX11_countTalks_9 (fun r2 hr2 => ?_)
      refine g_eqi hr2 ?_
      refine g_icmp_ge hκ 41 dX11_countTalks_12 (by decide) (fun z => absurd z (lp_nge rfl (by omega) (by omega))) (fun _ => ?_)
      refine g_aload_n hκ 2 dX11_countTalks_15 rfl rfl ?_
      refine gt_Room_squadrons hκ hdR hx qw_108 (Or.inl rfl) dX11_countTalks_16 ?_
      refine g_rf f2 ?_
      refine g_iload_n hκ 0 dX11_countTalks_19 rfl rfl ?_
      refine rV_q hκ hdR [.int (nI i4)] sd_Jx4a65c_get_915e3 qw_440 (fun D cO H s hK hP => rc_List hK hP L2.1) (k_get S (la 2) 6 (sz 2) i4 (el 2) (nI i4) L2 rfl (by omega)) ⟨rfl, rfl, Nat.le_of_ble_eq_true rfl, Nat.le_of_ble_eq_true rfl⟩ rfl rfl (Nat.le_of_ble_eq_true rfl) dX11_countTalks_20 (fun r3 hr3 => ?_)
      refine g_rf hr3 ?_
      refine gc_Squadron hκ hdR (L2.2.2.2.2 i4 (by omega)) qw_438 dX11_countTalks_23 ?_
      refine rV_i hκ hdR [] sd_X7_isTalkedTo qw_906 (fun D cO H s hK hP => rc_Squadron hK hP (L2.2.2.2.2 i4 (by omega))) (k_isTalkedTo S (el 2 i4) (L2.2.2.2.2 i4 (by omega))) ⟨rfl, rfl, Nat.le_of_ble_eq_true rfl, Nat.le_of_ble_eq_true rfl⟩ rfl rfl (Nat.le_of_ble_eq_true rfl) dX11_countTalks_26 (fun r4 hr4 => ?_)
      obtain ⟨b5, rfl⟩ | ⟨b5, rfl⟩ := zb_cases hr4
      · skip
        refine g_if_eq hκ 35 dX11_countTalks_29 (by decide) (fun z => absurd z (by decide)) (fun _ => ?_)
        obtain ⟨v6, hv6⟩ : ∃ z : Int32, a4 + 1 = z := ⟨_, rfl⟩
        refine g_iinc hκ (k := 1) (v := v6) [(1, .int v6), (2, .int (nI i4)), (0, .ref x)] dX11_countTalks_32 rfl hv6 (by decide) rfl ?_
        obtain ⟨v7, hv7⟩ : ∃ z : Int32, nI i4 + 1 = z := ⟨_, rfl⟩
        refine g_iinc hκ (k := 1) (v := v7) [(2, .int v7), (1, .int v6), (0, .ref x)] dX11_countTalks_35 rfl hv7 (by decide) rfl ?_
        refine g_goto hκ 4 dX11_countTalks_38 (by decide) ?_
        refine g_lv [(2, .int v7), (1, .int v6), (0, .ref x)] [0, 1, 2] rfl ?_
        exact ih4 (i4 + 1) v7 v6 (by omega) (lp_s rfl hv7) (by rw [hF4]; simp [cntR, b5, ← hv6, ← hv7])
      · skip
        refine g_if_eq hκ 35 dX11_countTalks_29 (by decide) (fun _ => ?_) (fun z => absurd z (by decide))
        obtain ⟨v8, hv8⟩ : ∃ z : Int32, nI i4 + 1 = z := ⟨_, rfl⟩
        refine g_iinc hκ (k := 0) (v := v8) [(2, .int v8), (1, .int a4), (0, .ref x)] dX11_countTalks_35 rfl hv8 (by decide) rfl ?_
        refine g_goto hκ 4 dX11_countTalks_38 (by decide) ?_
        refine g_lv [(2, .int v8), (1, .int a4), (0, .ref x)] [0, 1, 2] rfl ?_
        exact ih4 (i4 + 1) v8 a4 (by omega) (lp_s rfl hv8) (by rw [hF4]; simp [cntR, b5, ← hv8])
  exact loop4 (sz 2) 0 0 0 (by omega) (by first | rfl | decide) (by first | rfl | decide)
