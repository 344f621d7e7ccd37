set_option maxHeartbeats 4000000 in
set_option maxRecDepth 100000 in
theorem k_countFoe (S : wPS) (x lo ta : Nat) (la : Nat → Nat) (el : Nat → Nat → Nat) (sz : Nat → Nat) (hM : RMx S x lo ta la el sz) : MR yX11_countFoeMachines cX11_countFoeMachines 4 (some .int) ({ frames := 3, cells := 0, slots := 0, locals := 64 }) S [.ref x] (vp_Si (fun r => r = countFoeF S el sz)) := by
  refine stR_i (post := (fun r => r = countFoeF S el sz)) (by decide) (Nat.le_of_ble_eq_true rfl) rfl (fun _ _ => rfl) (fun κ hκ hend => ?_)
  show Gj κ _ 0 [(0, .ref x)] []
  have hMc := hM
  obtain ⟨hx, ⟨f0, L0⟩, ⟨f1, L1⟩, ⟨f2, L2⟩, ⟨f3, L3⟩, ⟨f4, L4⟩, ⟨f5, L5⟩, ⟨f6, L6⟩, ⟨f7, L7⟩, ⟨f8, L8⟩, ⟨flo, hlo⟩, ⟨fta, hta⟩⟩ := hMc
  have b0 := L0.2.2.1
  have b2 := L2.2.2.1
  have b3 := L3.2.2.1
  have b4 := L4.2.2.1
  have b5 := L5.2.2.1
  have b7 := L7.2.2.1
  have b8 := L8.2.2.1
  refine g_iconst hκ (v := 0) dX11_countFoeMachines_0 (by decide) ?_
  refine g_istore_n hκ [(1, .int 0), (0, .ref x)] dX11_countFoeMachines_1 rfl (by decide) rfl ?_
  refine g_iconst hκ (v := 0) dX11_countFoeMachines_2 (by decide) ?_
  refine g_istore_n hκ [(2, .int 0), (1, .int 0), (0, .ref x)] dX11_countFoeMachines_3 rfl (by decide) rfl ?_
  have loop4 : ∀ (d4 i4 : Nat) (x4 : Int32) (a4 : Int32), i4 + d4 = sz 5 → x4 = nI i4 → countFoeF S el sz = sumR (fun i => if upB S 1 (el 5 i) then sI S q_Flight_count (el 5 i) else 0) d4 i4 a4 → Gj κ (PR κ S) 4 [(2, .int x4), (1, .int a4), (0, .ref x)] [] := by
    intro d4
    induction d4 with
    | zero =>
      intro i4 x4 a4 hi4 hx4 hF4
      subst hx4
      refine g_iload_n hκ 0 dX11_countFoeMachines_4 rfl rfl ?_
      refine g_aload_n hκ 2 dX11_countFoeMachines_5 rfl rfl ?_
      refine gt_Room_flights hκ hdR hx qw_111 (Or.inl rfl) dX11_countFoeMachines_6 ?_
      refine g_rf f5 ?_
      refine rV_i hκ hdR [] sd_Jx4a65c_size_8abf5 qw_227 (fun D cO H s hK hP => rc_List hK hP L5.1) (k_sizeL S (la 5) 0 (sz 5) (el 5) L5) ⟨rfl, rfl, Nat.le_of_ble_eq_true rfl, Nat.le_of_ble_eq_true rfl⟩ rfl rfl (Nat.le_of_ble_eq_true rfl) dX11_countFoeMachines_9 (fun r1 hr1 => ?_)
      refine g_eqi hr1 ?_
      refine g_icmp_ge hκ 54 dX11_countFoeMachines_12 (by decide) (fun _ => ?_) (fun z => absurd (lp_ge rfl (by omega) (by omega)) z)
      refine g_iload_n hκ 1 dX11_countFoeMachines_54 rfl rfl ?_
      exact hend _ _ _ dX11_countFoeMachines_55 (by rw [hF4]; rfl)
    | succ d4 ih4 =>
      intro i4 x4 a4 hi4 hx4 hF4
      subst hx4
      refine g_iload_n hκ 0 dX11_countFoeMachines_4 rfl rfl ?_
      refine g_aload_n hκ 2 dX11_countFoeMachines_5 rfl rfl ?_
      refine gt_Room_flights hκ hdR hx qw_111 (Or.inl rfl) dX11_countFoeMachines_6 ?_
      refine g_rf f5 ?_
      refine rV_i hκ hdR [] sd_Jx4a65c_size_8abf5 qw_227 (fun D cO H s hK hP => rc_List hK hP L5.1) (k_sizeL S (la 5) 0 (sz 5) (el 5) L5) ⟨rfl, rfl, Nat.le_of_ble_eq_true rfl, Nat.le_of_ble_eq_true rfl⟩ rfl rfl (Nat.le_of_ble_eq_true rfl) dX11_countFoeMachines_9 (fun r2 hr2 => ?_)
      refine g_eqi hr2 ?_
      refine g_icmp_ge hκ 54 dX11_countFoeMachines_12 (by decide) (fun z => absurd z (lp_nge rfl (by omega) (by omega))) (fun _ => ?_)
      refine g_aload_n hκ 2 dX11_countFoeMachines_15 rfl rfl ?_
      refine gt_Room_flights hκ hdR hx qw_111 (Or.inl rfl) dX11_countFoeMachines_16 ?_
      refine g_rf f5 ?_
      refine g_iload_n hκ 0 dX11_countFoeMachines_19 rfl rfl ?_
      refine rV_q hκ hdR [.int (nI i4)] sd_Jx4a65c_get_915e3 qw_440 (fun D cO H s hK hP => rc_List hK hP L5.1) (k_get S (la 5) 0 (sz 5) i4 (el 5) (nI i4) L5 rfl (by omega)) ⟨rfl, rfl, Nat.le_of_ble_eq_true rfl, Nat.le_of_ble_eq_true rfl⟩ rfl rfl (Nat.le_of_ble_eq_true rfl) dX11_countFoeMachines_20 (fun r3 hr3 => ?_)
      refine g_rf hr3 ?_
      refine gc_Flight hκ hdR (L5.2.2.2.2 i4 (by omega)) qw_553 dX11_countFoeMachines_23 ?_
      refine g_astore_n hκ [(3, .ref (el 5 i4)), (2, .int (nI i4)), (1, .int a4), (0, .ref x)] dX11_countFoeMachines_26 rfl (by decide) rfl ?_
      refine g_aload_n hκ 0 dX11_countFoeMachines_27 rfl rfl ?_
      refine gtN_Flight_isUp (host := "Plotroom") hκ hdR (L5.2.2.2.2 i4 (by omega)) (by decide +kernel) (Or.inl rfl) dX11_countFoeMachines_28 ?_
      refine g_if_eq hκ 48 dX11_countFoeMachines_31 (by decide) (fun c4 => ?_) (fun c4 => ?_)
      · skip
        obtain ⟨v5, hv5⟩ : ∃ z : Int32, nI i4 + 1 = z := ⟨_, rfl⟩
        refine g_iinc hκ (k := 1) (v := v5) [(2, .int v5), (3, .ref (el 5 i4)), (1, .int a4), (0, .ref x)] dX11_countFoeMachines_48 rfl hv5 (by decide) rfl ?_
        refine g_goto hκ 4 dX11_countFoeMachines_51 (by decide) ?_
        refine g_lv [(2, .int v5), (1, .int a4), (0, .ref x)] [0, 2, 3] rfl ?_
        exact ih4 (i4 + 1) v5 a4 (by omega) (lp_s rfl hv5) (by rw [hF4]; simp [sumR, upB, c4, ← hv5])
      · skip
        refine g_aload_n hκ 0 dX11_countFoeMachines_34 rfl rfl ?_
        refine gtN_Flight_isFoe (host := "Plotroom") hκ hdR (L5.2.2.2.2 i4 (by omega)) (by decide +kernel) (Or.inl rfl) dX11_countFoeMachines_35 ?_
        refine g_if_eq hκ 48 dX11_countFoeMachines_38 (by decide) (fun c6 => ?_) (fun c6 => ?_)
        · skip
          obtain ⟨v7, hv7⟩ : ∃ z : Int32, nI i4 + 1 = z := ⟨_, rfl⟩
          refine g_iinc hκ (k := 1) (v := v7) [(2, .int v7), (3, .ref (el 5 i4)), (1, .int a4), (0, .ref x)] dX11_countFoeMachines_48 rfl hv7 (by decide) rfl ?_
          refine g_goto hκ 4 dX11_countFoeMachines_51 (by decide) ?_
          refine g_lv [(2, .int v7), (1, .int a4), (0, .ref x)] [0, 2, 3] rfl ?_
          exact ih4 (i4 + 1) v7 a4 (by omega) (lp_s rfl hv7) (by rw [hF4]; simp [sumR, upB, c4, c6, ← hv7])
        · skip
          refine g_iload_n hκ 2 dX11_countFoeMachines_41 rfl rfl ?_
          refine g_aload_n hκ 0 dX11_countFoeMachines_42 rfl rfl ?_
          refine gtN_Flight_count (host := "Plotroom") hκ hdR (L5.2.2.2.2 i4 (by omega)) (by decide +kernel) (Or.inl rfl) dX11_countFoeMachines_43 ?_
          refine g_iadd hκ dX11_countFoeMachines_46 ?_
          refine g_istore_n hκ [(1, .int (a4 + (sI S q_Flight_count (el 5 i4)))), (3, .ref (el 5 i4)), (2, .int (nI i4)), (0, .ref x)] dX11_countFoeMachines_47 rfl (by decide) rfl ?_
          obtain ⟨v8, hv8⟩ : ∃ z : Int32, nI i4 + 1 = z := ⟨_, rfl⟩
          refine g_iinc hκ (k := 2) (v := v8) [(2, .int v8), (1, .int (a4 + (sI S q_Flight_count (el 5 i4)))), (3, .ref (el 5 i4)), (0, .ref x)] dX11_countFoeMachines_48 rfl hv8 (by decide) rfl ?_
          refine g_goto hκ 4 dX11_countFoeMachines_51 (by decide) ?_
          refine g_lv [(2, .int v8), (1, .int (a4 + (sI S q_Flight_count (el 5 i4)))), (0, .ref x)] [0, 1, 3] rfl ?_
          exact ih4 (i4 + 1) v8 (a4 + (sI S q_Flight_count (el 5 i4))) (by omega) (lp_s rfl hv8) (by rw [hF4]; simp [sumR, upB, c4, c6, ← hv8])
  exact loop4 (sz 5) 0 0 0 (by omega) (by first | rfl | decide) (by first | rfl | decide)
set_option maxHeartbeats 4000000 in
set_option maxRecDepth 100000 in
theorem k_countWon (S : wPS) (x lo ta : Nat) (la : Nat → Nat) (el : Nat → Nat → Nat) (sz : Nat → Nat) (hM : RMx S x lo ta la el sz) : MR yX11_countWon cX11_countWon 3 (some .int) ({ frames := 3, cells := 0, slots := 0, locals := 64 }) S [.ref x] (vp_Si (fun r => r = countWonF S el sz)) := by
  refine stR_i (post := (fun r => r = countWonF S el sz)) (by decide) (Nat.le_of_ble_eq_true rfl) rfl (fun _ _ => rfl) (fun κ hκ hend => ?_)
  show Gj κ _ 0 [(0, .ref x)] []
  have hMc := hM
  obtain ⟨hx, ⟨f0, L0⟩, ⟨f1, L1⟩, ⟨f2, L2⟩, ⟨f3, L3⟩, ⟨f4, L4⟩, ⟨f5, L5⟩, ⟨f6, L6⟩, ⟨f7, L7⟩, ⟨f8, L8⟩, ⟨flo, hlo⟩, ⟨fta, hta⟩⟩ := hMc
  have b0 := L0.2.2.1
  have b2 := L2.2.2.1
  have b3 := L3.2.2.1
  have b4 := L4.2.2.1
  have b5 := L5.2.2.1
  have b7 := L7.2.2.1
  have b8 := L8.2.2.1
  refine g_iconst hκ (v := 0) dX11_countWon_0 (by decide) ?_
  refine g_istore_n hκ [(1, .int 0), (0, .ref x)] dX11_countWon_1 rfl (by decide) rfl ?_
  refine g_iconst hκ (v := 0) dX11_countWon_2 (by decide) ?_
  refine g_istore_n hκ [(2, .int 0), (1, .int 0), (0, .ref x)] dX11_countWon_3 rfl (by decide) rfl ?_
  have loop4 : ∀ (d4 i4 : Nat) (x4 : Int32) (a4 : Int32), i4 + d4 = sz 2 → x4 = nI i4 → countWonF S el sz = sumR (fun i => sI S q_Squadron_won (el 2 i)) d4 i4 a4 → Gj κ (PR κ S) 4 [(2, .int x4), (1, .int a4), (0, .ref x)] [] := by
    intro d4
    induction d4 with
    | zero =>
      intro i4 x4 a4 hi4 hx4 hF4
      subst hx4
      refine g_iload_n hκ 0 dX11_countWon_4 rfl rfl ?_
      refine g_aload_n hκ 2 dX11_countWon_5 rfl rfl ?_
      refine gt_Room_squadrons hκ hdR hx qw_108 (Or.inl rfl) dX11_countWon_6 ?_
      refine g_rf f2 ?_
      refine rV_i hκ hdR [] sd_Jx4a65c_size_8abf5 qw_227 (fun D cO H s hK hP => rc_List hK hP L2.1) (k_sizeL S (la 2) 6 (sz 2) (el 2) L2) ⟨rfl, rfl, Nat.le_of_ble_eq_true rfl, Nat.le_of_ble_eq_true rfl⟩ rfl rfl (Nat.le_of_ble_eq_true rfl) dX11_countWon_9 (fun r1 hr1 => ?_)
      refine g_eqi hr1 ?_
      refine g_icmp_ge hκ 38 dX11_countWon_12 (by decide) (fun _ => ?_) (fun z => absurd (lp_ge rfl (by omega) (by omega)) z)
      refine g_iload_n hκ 1 dX11_countWon_38 rfl rfl ?_
      exact hend _ _ _ dX11_countWon_39 (by rw [hF4]; rfl)
    | succ d4 ih4 =>
      intro i4 x4 a4 hi4 hx4 hF4
      subst hx4
      refine g_iload_n hκ 0 dX11_countWon_4 rfl rfl ?_
      refine g_aload_n hκ 2 dX11_countWon_5 rfl rfl ?_
      refine gt_Room_squadrons hκ hdR hx qw_108 (Or.inl rfl) dX11_countWon_6 ?_
      refine g_rf f2 ?_
      refine rV_i hκ hdR [] sd_Jx4a65c_size_8abf5 qw_227 (fun D cO H s hK hP => rc_List hK hP L2.1) (k_sizeL S (la 2) 6 (sz 2) (el 2) L2) ⟨rfl, rfl, Nat.le_of_ble_eq_true rfl, Nat.le_of_ble_eq_true rfl⟩ rfl rfl (Nat.le_of_ble_eq_true rfl) dX11_countWon_9 (fun r2 hr2 => ?_)
      refine g_eqi hr2 ?_
      refine g_icmp_ge hκ 38 dX11_countWon_12 (by decide) (fun z => absurd z (lp_nge rfl (by omega) (by omega))) (fun _ => ?_)
      refine g_iload_n hκ 1 dX11_countWon_15 rfl rfl ?_
      refine g_aload_n hκ 2 dX11_countWon_16 rfl rfl ?_
      refine gt_Room_squadrons hκ hdR hx qw_108 (Or.inl rfl) dX11_countWon_17 ?_
      refine g_rf f2 ?_
      refine g_iload_n hκ 0 dX11_countWon_20 rfl rfl ?_
      refine rV_q hκ hdR [.int (nI i4)] sd_Jx4a65c_get_915e3 qw_440 (fun D cO H s hK hP => rc_List hK hP L2.1) (k_get S (la 2) 6 (sz 2) i4 (el 2) (nI i4) L2 rfl (by omega)) ⟨rfl, rfl, Nat.le_of_ble_eq_true rfl, Nat.le_of_ble_eq_true rfl⟩ rfl rfl (Nat.le_of_ble_eq_true rfl) dX11_countWon_21 (fun r3 hr3 => ?_)
      refine g_rf hr3 ?_
      refine gc_Squadron hκ hdR (L2.2.2.2.2 i4 (by omega)) qw_438 dX11_countWon_24 ?_
      refine gtN_Squadron_won (host := "Plotroom") hκ hdR (L2.2.2.2.2 i4 (by omega)) (by decide +kernel) (Or.inl rfl) dX11_countWon_27 ?_
      refine g_iadd hκ dX11_countWon_30 ?_
      refine g_istore_n hκ [(1, .int (a4 + (sI S q_Squadron_won (el 2 i4)))), (2, .int (nI i4)), (0, .ref x)] dX11_countWon_31 rfl (by decide) rfl ?_
      obtain ⟨v4, hv4⟩ : ∃ z : Int32, nI i4 + 1 = z := ⟨_, rfl⟩
      refine g_iinc hκ (k := 1) (v := v4) [(2, .int v4), (1, .int (a4 + (sI S q_Squadron_won (el 2 i4)))), (0, .ref x)] dX11_countWon_32 rfl hv4 (by decide) rfl ?_
      refine g_goto hκ 4 dX11_countWon_35 (by decide) ?_
      refine g_lv [(2, .int v4), (1, .int (a4 + (sI S q_Squadron_won (el 2 i4)))), (0, .ref x)] [0, 1, 2] rfl ?_
      exact ih4 (i4 + 1) v4 (a4 + (sI S q_Squadron_won (el 2 i4))) (by omega) (lp_s rfl hv4) (by rw [hF4]; simp [sumR, ← hv4])
  exact loop4 (sz 2) 0 0 0 (by omega) (by first | rfl | decide) (by first | rfl | decide)
set_option maxHeartbeats 4000000 in
set_option maxRecDepth 100000 in
theorem k_targetNumber (S : wPS) (q : Nat) (hq : q ∈ sL S ∧ sK S q = 6) (ht : sR S q_Squadron_target q = none ∨ ∃ t : Nat, sR S q_Squadron_target q = some t ∧ t ∈ sL S ∧ sK S t = 9) : MR yX7_targetNumber cX7_targetNumber 1 (some .int) ({ frames := 0, cells := 0, slots := 0, locals := 0 }) S [.ref q] (vp_Si (fun r => r = tnF S q)) := by
  refine stR_i (post := (fun r => r = tnF S q)) (by decide) (Nat.le_of_ble_eq_true rfl) rfl (fun _ _ => rfl) (fun κ hκ hend => ?_)
  show Gj κ _ 0 [(0, .ref q)] []
  rcases ht with ht | ⟨t, ht, ho⟩
  · skip
    refine g_aload_n hκ 0 dX7_targetNumber_0 rfl rfl ?_
    refine gt_Squadron_target hκ hdR hq qw_472 (Or.inl rfl) dX7_targetNumber_1 ?_
    refine g_rn ht ?_
    refine g_ifnonnullN hκ dX7_targetNumber_4 ?_
    refine g_iconst hκ (v := (-1)) dX7_targetNumber_7 (by decide) ?_
    refine g_goto hκ 18 dX7_targetNumber_8 (by decide) ?_
    exact hend _ _ _ dX7_targetNumber_18 (by simp [tnF, ht])
  · skip
    refine g_aload_n hκ 0 dX7_targetNumber_0 rfl rfl ?_
    refine gt_Squadron_target hκ hdR hq qw_472 (Or.inl rfl) dX7_targetNumber_1 ?_
    refine g_rf ht ?_
    refine g_ifnonnull hκ 11 dX7_targetNumber_4 (by decide) ?_
    refine g_aload_n hκ 0 dX7_targetNumber_11 rfl rfl ?_
    refine gt_Squadron_target hκ hdR hq qw_472 (Or.inl rfl) dX7_targetNumber_12 ?_
    refine g_rf ht ?_
    refine gtN_Track_number (host := "Plotroom") hκ hdR ho (by decide +kernel) (Or.inl rfl) dX7_targetNumber_15 ?_
    exact hend _ _ _ dX7_targetNumber_18 (by simp [tnF, ht])
set_option maxHeartbeats 4000000 in
set_option maxRecDepth 100000 in
theorem k_minutesBack (S : wPS) (q b : Nat) (hq : q ∈ sL S ∧ sK S q = 6) (fb : sR S q_Squadron_base q = some b) (hb : b ∈ sL S ∧ sK S b = 4) : MR yX7_minutesBack cX7_minutesBack 2 (some .int) ({ frames := 1, cells := 0, slots := 0, locals := 25 }) S [.ref q] (vp_Si (fun r => r = mbF S q b)) := by
  refine stR_i (post := (fun r => r = mbF S q b)) (by decide) (Nat.le_of_ble_eq_true rfl) rfl (fun _ _ => rfl) (fun κ hκ hend => ?_)
  show Gj κ _ 0 [(0, .ref q)] []
  refine g_iconst hκ (v := 0) dX7_minutesBack_0 (by decide) ?_
  refine g_istore_n hκ [(1, .int 0), (0, .ref q)] dX7_minutesBack_1 rfl (by decide) rfl ?_
  have loop2 : ∀ (d2 i2 : Nat) (x2 : Int32), i2 + d2 = 100 → x2 = nI i2 → mbF S q b = mbR (fun i => withinB (sI S q_Squadron_x q) (sI S q_Squadron_y q) (sI S q_Squadron_speed q * nI i) (sI S q_Place_x b) (sI S q_Place_y b)) d2 i2 → Gj κ (PR κ S) 2 [(1, .int x2), (0, .ref q)] [] := by
    intro d2
    induction d2 with
    | zero =>
      intro i2 x2 hi2 hx2 hF2
      subst hx2
      refine g_iload_n hκ 0 dX7_minutesBack_2 rfl rfl ?_
      refine g_bipush hκ (v := 100) dX7_minutesBack_3 (by decide) ?_
      refine g_icmp_ge hκ 41 dX7_minutesBack_5 (by decide) (fun _ => ?_) (fun z => absurd (show (100 : Int32) ≤ nI i2 from nI_le (a := 100) (by omega) (by omega)) z)
      refine g_iload_n hκ 0 dX7_minutesBack_41 rfl rfl ?_
      refine g_iconst hκ (v := 3) dX7_minutesBack_42 (by decide) ?_
      refine g_iadd hκ dX7_minutesBack_43 ?_
      exact hend _ _ _ dX7_minutesBack_44 (by rw [hF2]; simp [cntR, sumR, anyR, allR, fstR, mbR, thrR, zb])
    | succ d2 ih2 =>
      intro i2 x2 hi2 hx2 hF2
      subst hx2
      refine g_iload_n hκ 0 dX7_minutesBack_2 rfl rfl ?_
      refine g_bipush hκ (v := 100) dX7_minutesBack_3 (by decide) ?_
      refine g_icmp_ge hκ 41 dX7_minutesBack_5 (by decide) (fun z => absurd z (show ¬ (100 : Int32) ≤ nI i2 from nI_ge (b := 100) (by omega) (by decide))) (fun _ => ?_)
      refine g_aload_n hκ 1 dX7_minutesBack_8 rfl rfl ?_
      refine g_aload_n hκ 1 dX7_minutesBack_9 rfl rfl ?_
      refine gt_Squadron_speed hκ hdR hq qw_461 (Or.inl rfl) dX7_minutesBack_10 ?_
      refine g_iload_n hκ 0 dX7_minutesBack_13 rfl rfl ?_
      refine g_imul hκ dX7_minutesBack_14 ?_
      refine g_aload_n hκ 1 dX7_minutesBack_15 rfl rfl ?_
      refine gt_Squadron_base hκ hdR hq qw_459 (Or.inl rfl) dX7_minutesBack_16 ?_
      refine g_rf fb ?_
      refine gt_Place_x hκ hdR hb qw_270 (Or.inl rfl) dX7_minutesBack_19 ?_
      refine g_aload_n hκ 1 dX7_minutesBack_22 rfl rfl ?_
      refine gt_Squadron_base hκ hdR hq qw_459 (Or.inl rfl) dX7_minutesBack_23 ?_
      refine g_rf fb ?_
      refine gt_Place_y hκ hdR hb qw_294 (Or.inl rfl) dX7_minutesBack_26 ?_
      refine rU_i hκ hdR [.int ((sI S q_Squadron_speed q) * (nI i2)), .int (sI S q_Place_x b), .int (sI S q_Place_y b)] (ud_X4_isWithin_Squadron) qw_758 (by decide +kernel) (fun D cO H s hK hP => rc_Squadron hK hP hq) (k_isWithin_Squadron S q ((sI S q_Squadron_speed q) * (nI i2)) (sI S q_Place_x b) (sI S q_Place_y b) hq) ⟨rfl, rfl, Nat.le_of_ble_eq_true rfl, Nat.le_of_ble_eq_true rfl⟩ rfl rfl (Nat.le_of_ble_eq_true rfl) dX7_minutesBack_29 (fun r1 hr1 => ?_)
      obtain ⟨b2, rfl⟩ | ⟨b2, rfl⟩ := zb_cases hr1
      · skip
        refine g_if_ne hκ 41 dX7_minutesBack_32 (by decide) (fun _ => ?_) (fun z => absurd z (by decide))
        refine g_iload_n hκ 0 dX7_minutesBack_41 rfl rfl ?_
        refine g_iconst hκ (v := 3) dX7_minutesBack_42 (by decide) ?_
        refine g_iadd hκ dX7_minutesBack_43 ?_
        exact hend _ _ _ dX7_minutesBack_44 (by rw [hF2]; simp [cntR, sumR, anyR, allR, fstR, mbR, thrR, zb, b2])
      · skip
        refine g_if_ne hκ 41 dX7_minutesBack_32 (by decide) (fun z => absurd z (by decide)) (fun _ => ?_)
        obtain ⟨v3, hv3⟩ : ∃ z : Int32, nI i2 + 1 = z := ⟨_, rfl⟩
        refine g_iinc hκ (k := 0) (v := v3) [(1, .int v3), (0, .ref q)] dX7_minutesBack_35 rfl hv3 (by decide) rfl ?_
        refine g_goto hκ 2 dX7_minutesBack_38 (by decide) ?_
        refine g_lv [(1, .int v3), (0, .ref q)] [0, 1] rfl ?_
        exact ih2 (i2 + 1) v3 (by omega) (lp_s rfl hv3) (by rw [hF2]; simp [mbR, b2, ← hv3])
  exact loop2 100 0 0 (by omega) (by first | rfl | decide) (by first | rfl | decide)
set_option maxHeartbeats 4000000 in
set_option maxRecDepth 100000 in
theorem k_minutesToMeet (S : wPS) (q t : Nat) (w : Int32) (hq : q ∈ sL S ∧ sK S q = 6) (ht : t ∈ sL S ∧ sK S t = 9) : MR yX7_minutesToMeet cX7_minutesToMeet 4 (some .int) ({ frames := 2, cells := 0, slots := 0, locals := 41 }) S [.ref q, .ref t, .int w] (vp_Si (fun r => r = mtmF S q t w)) := by
  refine stR_i (post := (fun r => r = mtmF S q t w)) (by decide) (Nat.le_of_ble_eq_true rfl) rfl (fun _ _ => rfl) (fun κ hκ hend => ?_)
  show Gj κ _ 0 [(0, .ref q), (1, .ref t), (2, .int w)] []
  refine g_iconst hκ (v := 0) dX7_minutesToMeet_0 (by decide) ?_
  refine g_istore_n hκ [(3, .int 0), (0, .ref q), (1, .ref t), (2, .int w)] dX7_minutesToMeet_1 rfl (by decide) rfl ?_
  have loop2 : ∀ (d2 i2 : Nat) (x2 : Int32), i2 + d2 = 31 → x2 = nI i2 → mtmF S q t w = fstR (fun i => withinB (sI S q_Squadron_x q) (sI S q_Squadron_y q) (sI S q_Squadron_speed q * nI i) (xAtF S t (w + nI i)) (yAtF S t (w + nI i))) d2 i2 → Gj κ (PR κ S) 2 [(3, .int x2), (0, .ref q), (1, .ref t), (2, .int w)] [] := by
    intro d2
    induction d2 with
    | zero =>
      intro i2 x2 hi2 hx2 hF2
      subst hx2
      refine g_iload_n hκ 0 dX7_minutesToMeet_2 rfl rfl ?_
      refine g_bipush hκ (v := 30) dX7_minutesToMeet_3 (by decide) ?_
      refine g_icmp_gt hκ 43 dX7_minutesToMeet_5 (by decide) (fun _ => ?_) (fun z => absurd (show (30 : Int32) < nI i2 from nI_lt (a := 30) (by omega) (by omega)) z)
      refine g_iconst hκ (v := (-1)) dX7_minutesToMeet_43 (by decide) ?_
      exact hend _ _ _ dX7_minutesToMeet_44 (by rw [hF2]; simp [cntR, sumR, anyR, allR, fstR, mbR, thrR, zb])
    | succ d2 ih2 =>
      intro i2 x2 hi2 hx2 hF2
      subst hx2
      refine g_iload_n hκ 0 dX7_minutesToMeet_2 rfl rfl ?_
      refine g_bipush hκ (v := 30) dX7_minutesToMeet_3 (by decide) ?_
      refine g_icmp_gt hκ 43 dX7_minutesToMeet_5 (by decide) (fun z => absurd z (show ¬ (30 : Int32) < nI i2 from nI_nlt (a := 30) (by omega) (by decide))) (fun _ => ?_)
      refine g_aload_n hκ 1 dX7_minutesToMeet_8 rfl rfl ?_
      refine g_aload_n hκ 1 dX7_minutesToMeet_9 rfl rfl ?_
      refine gt_Squadron_speed hκ hdR hq qw_461 (Or.inl rfl) dX7_minutesToMeet_10 ?_
      refine g_iload_n hκ 0 dX7_minutesToMeet_13 rfl rfl ?_
      refine g_imul hκ dX7_minutesToMeet_14 ?_
      refine g_aload_n hκ 2 dX7_minutesToMeet_15 rfl rfl ?_
      refine g_iload_n hκ 3 dX7_minutesToMeet_16 rfl rfl ?_
      refine g_iload_n hκ 0 dX7_minutesToMeet_17 rfl rfl ?_
      refine g_iadd hκ dX7_minutesToMeet_18 ?_
      refine rV_i hκ hdR [.int (w + (nI i2))] sd_X10_xAt qw_943 (fun D cO H s hK hP => rc_Track hK hP ht) (k_xAt S t (w + (nI i2)) ht) ⟨rfl, rfl, Nat.le_of_ble_eq_true rfl, Nat.le_of_ble_eq_true rfl⟩ rfl rfl (Nat.le_of_ble_eq_true rfl) dX7_minutesToMeet_19 (fun r1 hr1 => ?_)
      refine g_eqi hr1 ?_
      refine g_aload_n hκ 2 dX7_minutesToMeet_22 rfl rfl ?_
      refine g_iload_n hκ 3 dX7_minutesToMeet_23 rfl rfl ?_
      refine g_iload_n hκ 0 dX7_minutesToMeet_24 rfl rfl ?_
      refine g_iadd hκ dX7_minutesToMeet_25 ?_
      refine rV_i hκ hdR [.int (w + (nI i2))] sd_X10_yAt qw_944 (fun D cO H s hK hP => rc_Track hK hP ht) (k_yAt S t (w + (nI i2)) ht) ⟨rfl, rfl, Nat.le_of_ble_eq_true rfl, Nat.le_of_ble_eq_true rfl⟩ rfl rfl (Nat.le_of_ble_eq_true rfl) dX7_minutesToMeet_26 (fun r2 hr2 => ?_)
      refine g_eqi hr2 ?_
      refine rU_i hκ hdR [.int ((sI S q_Squadron_speed q) * (nI i2)), .int (xAtF S t (w + (nI i2))), .int (yAtF S t (w + (nI i2)))] (ud_X4_isWithin_Squadron) qw_758 (by decide +kernel) (fun D cO H s hK hP => rc_Squadron hK hP hq) (k_isWithin_Squadron S q ((sI S q_Squadron_speed q) * (nI i2)) (xAtF S t (w + (nI i2))) (yAtF S t (w + (nI i2))) hq) ⟨rfl, rfl, Nat.le_of_ble_eq_true rfl, Nat.le_of_ble_eq_true rfl⟩ rfl rfl (Nat.le_of_ble_eq_true rfl) dX7_minutesToMeet_29 (fun r3 hr3 => ?_)
      obtain ⟨b4, rfl⟩ | ⟨b4, rfl⟩ := zb_cases hr3
      · skip
        refine g_if_eq hκ 37 dX7_minutesToMeet_32 (by decide) (fun z => absurd z (by decide)) (fun _ => ?_)
        refine g_iload_n hκ 0 dX7_minutesToMeet_35 rfl rfl ?_
        exact hend _ _ _ dX7_minutesToMeet_36 (by rw [hF2]; simp [cntR, sumR, anyR, allR, fstR, mbR, thrR, zb, b4])
      · skip
        refine g_if_eq hκ 37 dX7_minutesToMeet_32 (by decide) (fun _ => ?_) (fun z => absurd z (by decide))
        obtain ⟨v5, hv5⟩ : ∃ z : Int32, nI i2 + 1 = z := ⟨_, rfl⟩
        refine g_iinc hκ (k := 0) (v := v5) [(3, .int v5), (0, .ref q), (1, .ref t), (2, .int w)] dX7_minutesToMeet_37 rfl hv5 (by decide) rfl ?_
        refine g_goto hκ 2 dX7_minutesToMeet_40 (by decide) ?_
        refine g_lv [(3, .int v5), (0, .ref q), (1, .ref t), (2, .int w)] [0, 1, 2, 3] rfl ?_
        exact ih2 (i2 + 1) v5 (by omega) (lp_s rfl hv5) (by rw [hF2]; simp [fstR, b4, ← hv5])
  exact loop2 31 0 0 (by omega) (by first | rfl | decide) (by first | rfl | decide)
set_option maxHeartbeats 4000000 in
set_option maxRecDepth 100000 in
theorem k_isAtBase (S : wPS) (q b : Nat) (hq : q ∈ sL S ∧ sK S q = 6) (fb : sR S q_Squadron_base q = some b) (hb : b ∈ sL S ∧ sK S b = 4) : MR yX7_isAtBase cX7_isAtBase 1 (some .boolean) ({ frames := 0, cells := 0, slots := 0, locals := 0 }) S [.ref q] (vp_Si (fun r => r = zb (decide (sI S q_Squadron_x q = sI S q_Place_x b) && decide (sI S q_Squadron_y q = sI S q_Place_y b)))) := by
  refine stR_i (post := (fun r => r = zb (decide (sI S q_Squadron_x q = sI S q_Place_x b) && decide (sI S q_Squadron_y q = sI S q_Place_y b)))) (by decide) (Nat.le_of_ble_eq_true rfl) rfl (fun v hv => by subst hv; exact zb_nar _) (fun κ hκ hend => ?_)
  show Gj κ _ 0 [(0, .ref q)] []
  refine g_aload_n hκ 0 dX7_isAtBase_0 rfl rfl ?_
  refine gt_Squadron_x hκ hdR hq qw_284 (Or.inr qw_285) dX7_isAtBase_1 ?_
  refine g_aload_n hκ 0 dX7_isAtBase_4 rfl rfl ?_
  refine gt_Squadron_base hκ hdR hq qw_459 (Or.inl rfl) dX7_isAtBase_5 ?_
  refine g_rf fb ?_
  refine gt_Place_x hκ hdR hb qw_270 (Or.inl rfl) dX7_isAtBase_8 ?_
  refine g_icmp_ne hκ 32 dX7_isAtBase_11 (by decide) (fun c1 => ?_) (fun c1 => ?_)
  · skip
    refine g_iconst hκ (v := 0) dX7_isAtBase_32 (by decide) ?_
    exact hend _ _ _ dX7_isAtBase_33 (by simp [zb, c1])
  · skip
    refine g_aload_n hκ 0 dX7_isAtBase_14 rfl rfl ?_
    refine gt_Squadron_y hκ hdR hq qw_308 (Or.inr qw_309) dX7_isAtBase_15 ?_
    refine g_aload_n hκ 0 dX7_isAtBase_18 rfl rfl ?_
    refine gt_Squadron_base hκ hdR hq qw_459 (Or.inl rfl) dX7_isAtBase_19 ?_
    refine g_rf fb ?_
    refine gt_Place_y hκ hdR hb qw_294 (Or.inl rfl) dX7_isAtBase_22 ?_
    refine g_icmp_ne hκ 32 dX7_isAtBase_25 (by decide) (fun c2 => ?_) (fun c2 => ?_)
    · skip
      refine g_iconst hκ (v := 0) dX7_isAtBase_32 (by decide) ?_
      exact hend _ _ _ dX7_isAtBase_33 (by simp [zb, c1, c2])
    · skip
      refine g_iconst hκ (v := 1) dX7_isAtBase_28 (by decide) ?_
      refine g_goto hκ 33 dX7_isAtBase_29 (by decide) ?_
      exact hend _ _ _ dX7_isAtBase_33 (by simp [zb, c1, c2])
set_option maxHeartbeats 4000000 in
set_option maxRecDepth 100000 in
theorem k_tellFlight_0 (S : wPS) (f : Nat) (hf : f ∈ sL S ∧ sK S f = 0) : MR yX0_tell cX0_tell 2 (some .int) ({ frames := 0, cells := 0, slots := 0, locals := 0 }) S [.ref f, .int 0] (vp_Si (fun r => r = sI S q_Flight_x f)) := by
  refine stR_i (post := (fun r => r = sI S q_Flight_x f)) (by decide) (Nat.le_of_ble_eq_true rfl) rfl (fun _ _ => rfl) (fun κ hκ hend => ?_)
  show Gj κ _ 0 [(0, .ref f), (1, .int 0)] []
  refine g_iload_n hκ 1 dX0_tell_0 rfl rfl ?_
  refine g_tableIn (off := 43) hκ 44 dX0_tell_1 (by decide) (by decide) (by decide) (by decide) ?_
  refine g_aload_n hκ 0 dX0_tell_44 rfl rfl ?_
  refine gt_Flight_x hκ hdR hf qw_279 (Or.inr qw_280) dX0_tell_45 ?_
  exact hend _ _ _ dX0_tell_48 (rfl)
set_option maxHeartbeats 4000000 in
set_option maxRecDepth 100000 in
theorem k_tellFlight_1 (S : wPS) (f : Nat) (hf : f ∈ sL S ∧ sK S f = 0) : MR yX0_tell cX0_tell 2 (some .int) ({ frames := 0, cells := 0, slots := 0, locals := 0 }) S [.ref f, .int 1] (vp_Si (fun r => r = sI S q_Flight_y f)) := by
  refine stR_i (post := (fun r => r = sI S q_Flight_y f)) (by decide) (Nat.le_of_ble_eq_true rfl) rfl (fun _ _ => rfl) (fun κ hκ hend => ?_)
  show Gj κ _ 0 [(0, .ref f), (1, .int 1)] []
  refine g_iload_n hκ 1 dX0_tell_0 rfl rfl ?_
  refine g_tableIn (off := 48) hκ 49 dX0_tell_1 (by decide) (by decide) (by decide) (by decide) ?_
  refine g_aload_n hκ 0 dX0_tell_49 rfl rfl ?_
  refine gt_Flight_y hκ hdR hf qw_301 (Or.inr qw_302) dX0_tell_50 ?_
  exact hend _ _ _ dX0_tell_53 (rfl)
set_option maxHeartbeats 4000000 in
set_option maxRecDepth 100000 in
theorem k_tellFlight_5 (S : wPS) (f : Nat) (hf : f ∈ sL S ∧ sK S f = 0) : MR yX0_tell cX0_tell 2 (some .int) ({ frames := 0, cells := 0, slots := 0, locals := 0 }) S [.ref f, .int 5] (vp_Si (fun r => r = sI S q_Flight_count f)) := by
  refine stR_i (post := (fun r => r = sI S q_Flight_count f)) (by decide) (Nat.le_of_ble_eq_true rfl) rfl (fun _ _ => rfl) (fun κ hκ hend => ?_)
  show Gj κ _ 0 [(0, .ref f), (1, .int 5)] []
  refine g_iload_n hκ 1 dX0_tell_0 rfl rfl ?_
  refine g_tableIn (off := 68) hκ 69 dX0_tell_1 (by decide) (by decide) (by decide) (by decide) ?_
  refine g_aload_n hκ 0 dX0_tell_69 rfl rfl ?_
  refine gt_Flight_count hκ hdR hf qw_565 (Or.inl rfl) dX0_tell_70 ?_
  exact hend _ _ _ dX0_tell_73 (rfl)
set_option maxHeartbeats 4000000 in
set_option maxRecDepth 100000 in
theorem k_tellFlight_6 (S : wPS) (f : Nat) (hf : f ∈ sL S ∧ sK S f = 0) : MR yX0_tell cX0_tell 2 (some .int) ({ frames := 0, cells := 0, slots := 0, locals := 0 }) S [.ref f, .int 6] (vp_Si (fun r => r = zb (!decide (sI S q_Flight_isUp f = 0)))) := by
  refine stR_i (post := (fun r => r = zb (!decide (sI S q_Flight_isUp f = 0)))) (by decide) (Nat.le_of_ble_eq_true rfl) rfl (fun _ _ => rfl) (fun κ hκ hend => ?_)
  show Gj κ _ 0 [(0, .ref f), (1, .int 6)] []
  refine g_iload_n hκ 1 dX0_tell_0 rfl rfl ?_
  refine g_tableIn (off := 73) hκ 74 dX0_tell_1 (by decide) (by decide) (by decide) (by decide) ?_
  refine g_aload_n hκ 0 dX0_tell_74 rfl rfl ?_
  refine gt_Flight_isUp hκ hdR hf qw_567 (Or.inl rfl) dX0_tell_75 ?_
  refine g_if_eq hκ 85 dX0_tell_78 (by decide) (fun c1 => ?_) (fun c1 => ?_)
  · skip
    refine g_iconst hκ (v := 0) dX0_tell_85 (by decide) ?_
    exact hend _ _ _ dX0_tell_86 (by simp [zb, c1])
  · skip
    refine g_iconst hκ (v := 1) dX0_tell_81 (by decide) ?_
    refine g_goto hκ 86 dX0_tell_82 (by decide) ?_
    exact hend _ _ _ dX0_tell_86 (by simp [zb, c1])
set_option maxHeartbeats 4000000 in
set_option maxRecDepth 100000 in
theorem k_tellMast_6 (S : wPS) (m : Nat) (hm : m ∈ sL S ∧ sK S m = 3) : MR yX3_tell cX3_tell 2 (some .int) ({ frames := 0, cells := 0, slots := 0, locals := 0 }) S [.ref m, .int 6] (vp_Si (fun r => r = zb (!decide (sI S q_Mast_isCut m = 0)))) := by
  refine stR_i (post := (fun r => r = zb (!decide (sI S q_Mast_isCut m = 0)))) (by decide) (Nat.le_of_ble_eq_true rfl) rfl (fun _ _ => rfl) (fun κ hκ hend => ?_)
  show Gj κ _ 0 [(0, .ref m), (1, .int 6)] []
  refine g_iload_n hκ 1 dX3_tell_0 rfl rfl ?_
  refine g_tableIn (off := 81) hκ 82 dX3_tell_1 (by decide) (by decide) (by decide) (by decide) ?_
  refine g_aload_n hκ 0 dX3_tell_82 rfl rfl ?_
  refine gt_Mast_isCut hκ hdR hm qw_262 (Or.inl rfl) dX3_tell_83 ?_
  refine g_if_eq hκ 93 dX3_tell_86 (by decide) (fun c1 => ?_) (fun c1 => ?_)
  · skip
    refine g_iconst hκ (v := 0) dX3_tell_93 (by decide) ?_
    exact hend _ _ _ dX3_tell_94 (by simp [zb, c1])
  · skip
    refine g_iconst hκ (v := 1) dX3_tell_89 (by decide) ?_
    refine g_goto hκ 94 dX3_tell_90 (by decide) ?_
    exact hend _ _ _ dX3_tell_94 (by simp [zb, c1])
set_option maxHeartbeats 4000000 in
set_option maxRecDepth 100000 in
theorem k_tellMast_7 (S : wPS) (m : Nat) (hm : m ∈ sL S ∧ sK S m = 3) : MR yX3_tell cX3_tell 2 (some .int) ({ frames := 0, cells := 0, slots := 0, locals := 0 }) S [.ref m, .int 7] (vp_Si (fun r => r = sI S q_Mast_made m)) := by
  refine stR_i (post := (fun r => r = sI S q_Mast_made m)) (by decide) (Nat.le_of_ble_eq_true rfl) rfl (fun _ _ => rfl) (fun κ hκ hend => ?_)
  show Gj κ _ 0 [(0, .ref m), (1, .int 7)] []
  refine g_iload_n hκ 1 dX3_tell_0 rfl rfl ?_
  refine g_tableIn (off := 94) hκ 95 dX3_tell_1 (by decide) (by decide) (by decide) (by decide) ?_
  refine g_aload_n hκ 0 dX3_tell_95 rfl rfl ?_
  refine gt_Mast_made hκ hdR hm qw_264 (Or.inl rfl) dX3_tell_96 ?_
  exact hend _ _ _ dX3_tell_99 (rfl)
set_option maxHeartbeats 4000000 in
set_option maxRecDepth 100000 in
theorem k_tellMast_8 (S : wPS) (m : Nat) (hm : m ∈ sL S ∧ sK S m = 3) : MR yX3_tell cX3_tell 2 (some .int) ({ frames := 0, cells := 0, slots := 0, locals := 0 }) S [.ref m, .int 8] (vp_Si (fun r => r = sI S q_Mast_came m)) := by
  refine stR_i (post := (fun r => r = sI S q_Mast_came m)) (by decide) (Nat.le_of_ble_eq_true rfl) rfl (fun _ _ => rfl) (fun κ hκ hend => ?_)
  show Gj κ _ 0 [(0, .ref m), (1, .int 8)] []
  refine g_iload_n hκ 1 dX3_tell_0 rfl rfl ?_
  refine g_tableIn (off := 99) hκ 100 dX3_tell_1 (by decide) (by decide) (by decide) (by decide) ?_
  refine g_aload_n hκ 0 dX3_tell_100 rfl rfl ?_
  refine gt_Mast_came hκ hdR hm qw_266 (Or.inl rfl) dX3_tell_101 ?_
  exact hend _ _ _ dX3_tell_104 (rfl)
set_option maxHeartbeats 4000000 in
set_option maxRecDepth 100000 in
theorem k_tellMast_9 (S : wPS) (m : Nat) (hm : m ∈ sL S ∧ sK S m = 3) : MR yX3_tell cX3_tell 2 (some .int) ({ frames := 0, cells := 0, slots := 0, locals := 0 }) S [.ref m, .int 9] (vp_Si (fun r => r = sI S q_Mast_lost m)) := by
  refine stR_i (post := (fun r => r = sI S q_Mast_lost m)) (by decide) (Nat.le_of_ble_eq_true rfl) rfl (fun _ _ => rfl) (fun κ hκ hend => ?_)
  show Gj κ _ 0 [(0, .ref m), (1, .int 9)] []
  refine g_iload_n hκ 1 dX3_tell_0 rfl rfl ?_
  refine g_tableOut hκ 105 dX3_tell_1 (by decide) (by decide) ?_
  refine g_aload_n hκ 0 dX3_tell_105 rfl rfl ?_
  refine gt_Mast_lost hκ hdR hm qw_268 (Or.inl rfl) dX3_tell_106 ?_
  exact hend _ _ _ dX3_tell_109 (rfl)
set_option maxHeartbeats 4000000 in
set_option maxRecDepth 100000 in
theorem k_tellTr_0 (S : wPS) (t : Nat) (ht : t ∈ sL S ∧ sK S t = 9) : MR yX10_tell cX10_tell 2 (some .int) ({ frames := 0, cells := 0, slots := 0, locals := 0 }) S [.ref t, .int 0] (vp_Si (fun r => r = sI S q_Track_x t)) := by
  refine stR_i (post := (fun r => r = sI S q_Track_x t)) (by decide) (Nat.le_of_ble_eq_true rfl) rfl (fun _ _ => rfl) (fun κ hκ hend => ?_)
  show Gj κ _ 0 [(0, .ref t), (1, .int 0)] []
  refine g_iload_n hκ 1 dX10_tell_0 rfl rfl ?_
  refine g_tableIn (off := 43) hκ 44 dX10_tell_1 (by decide) (by decide) (by decide) (by decide) ?_
  refine g_aload_n hκ 0 dX10_tell_44 rfl rfl ?_
  refine gt_Track_x hκ hdR ht qw_276 (Or.inr qw_277) dX10_tell_45 ?_
  exact hend _ _ _ dX10_tell_48 (rfl)
set_option maxHeartbeats 4000000 in
set_option maxRecDepth 100000 in
theorem k_tellTr_1 (S : wPS) (t : Nat) (ht : t ∈ sL S ∧ sK S t = 9) : MR yX10_tell cX10_tell 2 (some .int) ({ frames := 0, cells := 0, slots := 0, locals := 0 }) S [.ref t, .int 1] (vp_Si (fun r => r = sI S q_Track_y t)) := by
  refine stR_i (post := (fun r => r = sI S q_Track_y t)) (by decide) (Nat.le_of_ble_eq_true rfl) rfl (fun _ _ => rfl) (fun κ hκ hend => ?_)
  show Gj κ _ 0 [(0, .ref t), (1, .int 1)] []
  refine g_iload_n hκ 1 dX10_tell_0 rfl rfl ?_
  refine g_tableIn (off := 48) hκ 49 dX10_tell_1 (by decide) (by decide) (by decide) (by decide) ?_
  refine g_aload_n hκ 0 dX10_tell_49 rfl rfl ?_
  refine gt_Track_y hκ hdR ht qw_306 (Or.inr qw_304) dX10_tell_50 ?_
  exact hend _ _ _ dX10_tell_53 (rfl)
set_option maxHeartbeats 4000000 in
set_option maxRecDepth 100000 in
theorem k_tellTr_2 (S : wPS) (t : Nat) (ht : t ∈ sL S ∧ sK S t = 9) : MR yX10_tell cX10_tell 2 (some .int) ({ frames := 0, cells := 0, slots := 0, locals := 0 }) S [.ref t, .int 2] (vp_Si (fun r => r = sI S q_Track_minute t)) := by
  refine stR_i (post := (fun r => r = sI S q_Track_minute t)) (by decide) (Nat.le_of_ble_eq_true rfl) rfl (fun _ _ => rfl) (fun κ hκ hend => ?_)
  show Gj κ _ 0 [(0, .ref t), (1, .int 2)] []
  refine g_iload_n hκ 1 dX10_tell_0 rfl rfl ?_
  refine g_tableIn (off := 53) hκ 54 dX10_tell_1 (by decide) (by decide) (by decide) (by decide) ?_
  refine g_aload_n hκ 0 dX10_tell_54 rfl rfl ?_
  refine gt_Track_minute hκ hdR ht qw_708 (Or.inl rfl) dX10_tell_55 ?_
  exact hend _ _ _ dX10_tell_58 (rfl)
set_option maxHeartbeats 4000000 in
set_option maxRecDepth 100000 in
theorem k_tellTr_3 (S : wPS) (t : Nat) (ht : t ∈ sL S ∧ sK S t = 9) : MR yX10_tell cX10_tell 2 (some .int) ({ frames := 0, cells := 0, slots := 0, locals := 0 }) S [.ref t, .int 3] (vp_Si (fun r => r = sI S q_Track_courseX t)) := by
  refine stR_i (post := (fun r => r = sI S q_Track_courseX t)) (by decide) (Nat.le_of_ble_eq_true rfl) rfl (fun _ _ => rfl) (fun κ hκ hend => ?_)
  show Gj κ _ 0 [(0, .ref t), (1, .int 3)] []
  refine g_iload_n hκ 1 dX10_tell_0 rfl rfl ?_
  refine g_tableIn (off := 58) hκ 59 dX10_tell_1 (by decide) (by decide) (by decide) (by decide) ?_
  refine g_aload_n hκ 0 dX10_tell_59 rfl rfl ?_
  refine gt_Track_courseX hκ hdR ht qw_711 (Or.inl rfl) dX10_tell_60 ?_
  exact hend _ _ _ dX10_tell_63 (rfl)
set_option maxHeartbeats 4000000 in
set_option maxRecDepth 100000 in
theorem k_tellTr_4 (S : wPS) (t : Nat) (ht : t ∈ sL S ∧ sK S t = 9) : MR yX10_tell cX10_tell 2 (some .int) ({ frames := 0, cells := 0, slots := 0, locals := 0 }) S [.ref t, .int 4] (vp_Si (fun r => r = sI S q_Track_courseY t)) := by
  refine stR_i (post := (fun r => r = sI S q_Track_courseY t)) (by decide) (Nat.le_of_ble_eq_true rfl) rfl (fun _ _ => rfl) (fun κ hκ hend => ?_)
  show Gj κ _ 0 [(0, .ref t), (1, .int 4)] []
  refine g_iload_n hκ 1 dX10_tell_0 rfl rfl ?_
  refine g_tableIn (off := 63) hκ 64 dX10_tell_1 (by decide) (by decide) (by decide) (by decide) ?_
  refine g_aload_n hκ 0 dX10_tell_64 rfl rfl ?_
  refine gt_Track_courseY hκ hdR ht qw_712 (Or.inl rfl) dX10_tell_65 ?_
  exact hend _ _ _ dX10_tell_68 (rfl)
set_option maxHeartbeats 4000000 in
set_option maxRecDepth 100000 in
theorem k_tellTr_5 (S : wPS) (t : Nat) (ht : t ∈ sL S ∧ sK S t = 9) : MR yX10_tell cX10_tell 2 (some .int) ({ frames := 0, cells := 0, slots := 0, locals := 0 }) S [.ref t, .int 5] (vp_Si (fun r => r = sI S q_Track_guess t)) := by
  refine stR_i (post := (fun r => r = sI S q_Track_guess t)) (by decide) (Nat.le_of_ble_eq_true rfl) rfl (fun _ _ => rfl) (fun κ hκ hend => ?_)
  show Gj κ _ 0 [(0, .ref t), (1, .int 5)] []
  refine g_iload_n hκ 1 dX10_tell_0 rfl rfl ?_
  refine g_tableIn (off := 68) hκ 69 dX10_tell_1 (by decide) (by decide) (by decide) (by decide) ?_
  refine g_aload_n hκ 0 dX10_tell_69 rfl rfl ?_
  refine gt_Track_guess hκ hdR ht qw_714 (Or.inl rfl) dX10_tell_70 ?_
  exact hend _ _ _ dX10_tell_73 (rfl)
set_option maxHeartbeats 4000000 in
set_option maxRecDepth 100000 in
theorem k_tellTr_6 (S : wPS) (t : Nat) (ht : t ∈ sL S ∧ sK S t = 9) : MR yX10_tell cX10_tell 2 (some .int) ({ frames := 0, cells := 0, slots := 0, locals := 0 }) S [.ref t, .int 6] (vp_Si (fun r => r = sI S q_Track_hits t)) := by
  refine stR_i (post := (fun r => r = sI S q_Track_hits t)) (by decide) (Nat.le_of_ble_eq_true rfl) rfl (fun _ _ => rfl) (fun κ hκ hend => ?_)
  show Gj κ _ 0 [(0, .ref t), (1, .int 6)] []
  refine g_iload_n hκ 1 dX10_tell_0 rfl rfl ?_
  refine g_tableIn (off := 73) hκ 74 dX10_tell_1 (by decide) (by decide) (by decide) (by decide) ?_
  refine g_aload_n hκ 0 dX10_tell_74 rfl rfl ?_
  refine gt_Track_hits hκ hdR ht qw_715 (Or.inl rfl) dX10_tell_75 ?_
  exact hend _ _ _ dX10_tell_78 (rfl)
set_option maxHeartbeats 4000000 in
set_option maxRecDepth 100000 in
theorem k_tellTr_7 (S : wPS) (t : Nat) (ht : t ∈ sL S ∧ sK S t = 9) : MR yX10_tell cX10_tell 2 (some .int) ({ frames := 0, cells := 0, slots := 0, locals := 0 }) S [.ref t, .int 7] (vp_Si (fun r => r = zb (!decide (sI S q_Track_isLive t = 0)))) := by
  refine stR_i (post := (fun r => r = zb (!decide (sI S q_Track_isLive t = 0)))) (by decide) (Nat.le_of_ble_eq_true rfl) rfl (fun _ _ => rfl) (fun κ hκ hend => ?_)
  show Gj κ _ 0 [(0, .ref t), (1, .int 7)] []
  refine g_iload_n hκ 1 dX10_tell_0 rfl rfl ?_
  refine g_tableOut hκ 79 dX10_tell_1 (by decide) (by decide) ?_
  refine g_aload_n hκ 0 dX10_tell_79 rfl rfl ?_
  refine gt_Track_isLive hκ hdR ht qw_717 (Or.inl rfl) dX10_tell_80 ?_
  refine g_if_eq hκ 90 dX10_tell_83 (by decide) (fun c1 => ?_) (fun c1 => ?_)
  · skip
    refine g_iconst hκ (v := 0) dX10_tell_90 (by decide) ?_
    exact hend _ _ _ dX10_tell_91 (by simp [zb, c1])
  · skip
    refine g_iconst hκ (v := 1) dX10_tell_86 (by decide) ?_
    refine g_goto hκ 91 dX10_tell_87 (by decide) ?_
    exact hend _ _ _ dX10_tell_91 (by simp [zb, c1])
set_option maxHeartbeats 4000000 in
set_option maxRecDepth 100000 in
theorem k_tellSq_1 (S : wPS) (q : Nat) (hq : q ∈ sL S ∧ sK S q = 6) : MR yX7_tell cX7_tell 2 (some .int) ({ frames := 0, cells := 0, slots := 0, locals := 0 }) S [.ref q, .int 1] (vp_Si (fun r => r = sI S q_Squadron_machines q)) := by
  refine stR_i (post := (fun r => r = sI S q_Squadron_machines q)) (by decide) (Nat.le_of_ble_eq_true rfl) rfl (fun _ _ => rfl) (fun κ hκ hend => ?_)
  show Gj κ _ 0 [(0, .ref q), (1, .int 1)] []
  refine g_iload_n hκ 1 dX7_tell_0 rfl rfl ?_
  refine g_tableIn (off := 56) hκ 57 dX7_tell_1 (by decide) (by decide) (by decide) (by decide) ?_
  refine g_aload_n hκ 0 dX7_tell_57 rfl rfl ?_
  refine gt_Squadron_machines hκ hdR hq qw_466 (Or.inl rfl) dX7_tell_58 ?_
  exact hend _ _ _ dX7_tell_61 (rfl)
set_option maxHeartbeats 4000000 in
set_option maxRecDepth 100000 in
theorem k_tellSq_2 (S : wPS) (q : Nat) (hq : q ∈ sL S ∧ sK S q = 6) : MR yX7_tell cX7_tell 2 (some .int) ({ frames := 0, cells := 0, slots := 0, locals := 0 }) S [.ref q, .int 2] (vp_Si (fun r => r = sI S q_Squadron_state q)) := by
  refine stR_i (post := (fun r => r = sI S q_Squadron_state q)) (by decide) (Nat.le_of_ble_eq_true rfl) rfl (fun _ _ => rfl) (fun κ hκ hend => ?_)
  show Gj κ _ 0 [(0, .ref q), (1, .int 2)] []
  refine g_iload_n hκ 1 dX7_tell_0 rfl rfl ?_
  refine g_tableIn (off := 61) hκ 62 dX7_tell_1 (by decide) (by decide) (by decide) (by decide) ?_
  refine g_aload_n hκ 0 dX7_tell_62 rfl rfl ?_
  refine gt_Squadron_state hκ hdR hq qw_468 (Or.inl rfl) dX7_tell_63 ?_
  exact hend _ _ _ dX7_tell_66 (rfl)
set_option maxHeartbeats 4000000 in
set_option maxRecDepth 100000 in
theorem k_tellSq_3 (S : wPS) (q : Nat) (hq : q ∈ sL S ∧ sK S q = 6) : MR yX7_tell cX7_tell 2 (some .int) ({ frames := 0, cells := 0, slots := 0, locals := 0 }) S [.ref q, .int 3] (vp_Si (fun r => r = sI S q_Squadron_x q)) := by
  refine stR_i (post := (fun r => r = sI S q_Squadron_x q)) (by decide) (Nat.le_of_ble_eq_true rfl) rfl (fun _ _ => rfl) (fun κ hκ hend => ?_)
  show Gj κ _ 0 [(0, .ref q), (1, .int 3)] []
  refine g_iload_n hκ 1 dX7_tell_0 rfl rfl ?_
  refine g_tableIn (off := 66) hκ 67 dX7_tell_1 (by decide) (by decide) (by decide) (by decide) ?_
  refine g_aload_n hκ 0 dX7_tell_67 rfl rfl ?_
  refine gt_Squadron_x hκ hdR hq qw_284 (Or.inr qw_285) dX7_tell_68 ?_
  exact hend _ _ _ dX7_tell_71 (rfl)
set_option maxHeartbeats 4000000 in
set_option maxRecDepth 100000 in
theorem k_tellSq_4 (S : wPS) (q : Nat) (hq : q ∈ sL S ∧ sK S q = 6) : MR yX7_tell cX7_tell 2 (some .int) ({ frames := 0, cells := 0, slots := 0, locals := 0 }) S [.ref q, .int 4] (vp_Si (fun r => r = sI S q_Squadron_y q)) := by
  refine stR_i (post := (fun r => r = sI S q_Squadron_y q)) (by decide) (Nat.le_of_ble_eq_true rfl) rfl (fun _ _ => rfl) (fun κ hκ hend => ?_)
  show Gj κ _ 0 [(0, .ref q), (1, .int 4)] []
  refine g_iload_n hκ 1 dX7_tell_0 rfl rfl ?_
  refine g_tableIn (off := 71) hκ 72 dX7_tell_1 (by decide) (by decide) (by decide) (by decide) ?_
  refine g_aload_n hκ 0 dX7_tell_72 rfl rfl ?_
  refine gt_Squadron_y hκ hdR hq qw_308 (Or.inr qw_309) dX7_tell_73 ?_
  exact hend _ _ _ dX7_tell_76 (rfl)
set_option maxHeartbeats 4000000 in
set_option maxRecDepth 100000 in
theorem k_tellSq_5 (S : wPS) (q : Nat) (hq : q ∈ sL S ∧ sK S q = 6) : MR yX7_tell cX7_tell 2 (some .int) ({ frames := 0, cells := 0, slots := 0, locals := 0 }) S [.ref q, .int 5] (vp_Si (fun r => r = sI S q_Squadron_fuel q)) := by
  refine stR_i (post := (fun r => r = sI S q_Squadron_fuel q)) (by decide) (Nat.le_of_ble_eq_true rfl) rfl (fun _ _ => rfl) (fun κ hκ hend => ?_)
  show Gj κ _ 0 [(0, .ref q), (1, .int 5)] []
  refine g_iload_n hκ 1 dX7_tell_0 rfl rfl ?_
  refine g_tableIn (off := 76) hκ 77 dX7_tell_1 (by decide) (by decide) (by decide) (by decide) ?_
  refine g_aload_n hκ 0 dX7_tell_77 rfl rfl ?_
  refine gt_Squadron_fuel hκ hdR hq qw_470 (Or.inl rfl) dX7_tell_78 ?_
  exact hend _ _ _ dX7_tell_81 (rfl)
set_option maxHeartbeats 4000000 in
set_option maxRecDepth 100000 in
theorem k_tellSq_6 (S : wPS) (q : Nat) (hq : q ∈ sL S ∧ sK S q = 6) (ht : sR S q_Squadron_target q = none ∨ ∃ t : Nat, sR S q_Squadron_target q = some t ∧ t ∈ sL S ∧ sK S t = 9) : MR yX7_tell cX7_tell 2 (some .int) ({ frames := 1, cells := 0, slots := 0, locals := 20 }) S [.ref q, .int 6] (vp_Si (fun r => r = tnF S q)) := by
  refine stR_i (post := (fun r => r = tnF S q)) (by decide) (Nat.le_of_ble_eq_true rfl) rfl (fun _ _ => rfl) (fun κ hκ hend => ?_)
  show Gj κ _ 0 [(0, .ref q), (1, .int 6)] []
  refine g_iload_n hκ 1 dX7_tell_0 rfl rfl ?_
  refine g_tableIn (off := 81) hκ 82 dX7_tell_1 (by decide) (by decide) (by decide) (by decide) ?_
  refine g_aload_n hκ 0 dX7_tell_82 rfl rfl ?_
  refine rV_i hκ hdR [] sd_X7_targetNumber qw_868 (fun D cO H s hK hP => rc_Squadron hK hP hq) (k_targetNumber S q hq ht) ⟨rfl, rfl, Nat.le_of_ble_eq_true rfl, Nat.le_of_ble_eq_true rfl⟩ rfl rfl (Nat.le_of_ble_eq_true rfl) dX7_tell_83 (fun r1 hr1 => ?_)
  refine g_eqi hr1 ?_
  exact hend _ _ _ dX7_tell_86 (rfl)
set_option maxHeartbeats 4000000 in
set_option maxRecDepth 100000 in
theorem k_tellSq_7 (S : wPS) (q : Nat) (hq : q ∈ sL S ∧ sK S q = 6) : MR yX7_tell cX7_tell 2 (some .int) ({ frames := 0, cells := 0, slots := 0, locals := 0 }) S [.ref q, .int 7] (vp_Si (fun r => r = sI S q_Squadron_due q)) := by
  refine stR_i (post := (fun r => r = sI S q_Squadron_due q)) (by decide) (Nat.le_of_ble_eq_true rfl) rfl (fun _ _ => rfl) (fun κ hκ hend => ?_)
  show Gj κ _ 0 [(0, .ref q), (1, .int 7)] []
  refine g_iload_n hκ 1 dX7_tell_0 rfl rfl ?_
  refine g_tableIn (off := 86) hκ 87 dX7_tell_1 (by decide) (by decide) (by decide) (by decide) ?_
  refine g_aload_n hκ 0 dX7_tell_87 rfl rfl ?_
  refine gt_Squadron_due hκ hdR hq qw_474 (Or.inl rfl) dX7_tell_88 ?_
  exact hend _ _ _ dX7_tell_91 (rfl)
set_option maxHeartbeats 4000000 in
set_option maxRecDepth 100000 in
theorem k_tellSq_8 (S : wPS) (q b : Nat) (hq : q ∈ sL S ∧ sK S q = 6) (fb : sR S q_Squadron_base q = some b) (hb : b ∈ sL S ∧ sK S b = 4) : MR yX7_tell cX7_tell 2 (some .int) ({ frames := 2, cells := 0, slots := 0, locals := 46 }) S [.ref q, .int 8] (vp_Si (fun r => r = mbF S q b)) := by
  refine stR_i (post := (fun r => r = mbF S q b)) (by decide) (Nat.le_of_ble_eq_true rfl) rfl (fun _ _ => rfl) (fun κ hκ hend => ?_)
  show Gj κ _ 0 [(0, .ref q), (1, .int 8)] []
  refine g_iload_n hκ 1 dX7_tell_0 rfl rfl ?_
  refine g_tableIn (off := 91) hκ 92 dX7_tell_1 (by decide) (by decide) (by decide) (by decide) ?_
  refine g_aload_n hκ 0 dX7_tell_92 rfl rfl ?_
  refine rV_i hκ hdR [] sd_X7_minutesBack qw_872 (fun D cO H s hK hP => rc_Squadron hK hP hq) (k_minutesBack S q b hq fb hb) ⟨rfl, rfl, Nat.le_of_ble_eq_true rfl, Nat.le_of_ble_eq_true rfl⟩ rfl rfl (Nat.le_of_ble_eq_true rfl) dX7_tell_93 (fun r1 hr1 => ?_)
  refine g_eqi hr1 ?_
  exact hend _ _ _ dX7_tell_96 (rfl)
set_option maxHeartbeats 4000000 in
set_option maxRecDepth 100000 in
theorem k_tellSq_9 (S : wPS) (q : Nat) (hq : q ∈ sL S ∧ sK S q = 6) : MR yX7_tell cX7_tell 2 (some .int) ({ frames := 0, cells := 0, slots := 0, locals := 0 }) S [.ref q, .int 9] (vp_Si (fun r => r = sI S q_Squadron_won q)) := by
  refine stR_i (post := (fun r => r = sI S q_Squadron_won q)) (by decide) (Nat.le_of_ble_eq_true rfl) rfl (fun _ _ => rfl) (fun κ hκ hend => ?_)
  show Gj κ _ 0 [(0, .ref q), (1, .int 9)] []
  refine g_iload_n hκ 1 dX7_tell_0 rfl rfl ?_
  refine g_tableOut hκ 97 dX7_tell_1 (by decide) (by decide) ?_
  refine g_aload_n hκ 0 dX7_tell_97 rfl rfl ?_
  refine gt_Squadron_won hκ hdR hq qw_476 (Or.inl rfl) dX7_tell_98 ?_
  exact hend _ _ _ dX7_tell_101 (rfl)
