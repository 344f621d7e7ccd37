set_option maxHeartbeats 4000000 in
set_option maxRecDepth 100000 in
theorem k_isOnTable (S : wPS) (x lo ta : Nat) (la : Nat → Nat) (el : Nat → Nat → Nat) (sz : Nat → Nat) (f : Nat) (hM : RMx S x lo ta la el sz) (hf : f ∈ sL S ∧ sK S f = 0) : MR yX11_isOnTable cX11_isOnTable 4 (some .boolean) ({ frames := 3, cells := 0, slots := 0, locals := 64 }) S [.ref x, .ref f] (vp_Si (fun r => r = zb (onTabB S x el sz f))) := by
  refine stR_i (post := (fun r => r = zb (onTabB S x el sz f))) (by decide) (Nat.le_of_ble_eq_true rfl) rfl (fun v hv => by subst hv; exact zb_nar _) (fun κ hκ hend => ?_)
  show Gj κ _ 0 [(0, .ref x), (1, .ref f)] []
  have hMc := hM
  obtain ⟨hx, ⟨f0, L0⟩, ⟨f1, L1⟩, ⟨f2, L2⟩, ⟨f3, L3⟩, ⟨f4, L4⟩, ⟨f5, L5⟩, ⟨f6, L6⟩, ⟨f7, L7⟩, ⟨f8, L8⟩, ⟨flo, hlo⟩, ⟨fta, hta⟩⟩ := hMc
  have b0 := L0.2.2.1
  have b2 := L2.2.2.1
  have b3 := L3.2.2.1
  have b4 := L4.2.2.1
  have b5 := L5.2.2.1
  have b7 := L7.2.2.1
  have b8 := L8.2.2.1
  refine g_iconst hκ (v := 0) dX11_isOnTable_0 (by decide) ?_
  refine g_istore_n hκ [(2, .int 0), (0, .ref x), (1, .ref f)] dX11_isOnTable_1 rfl (by decide) rfl ?_
  have loop2 : ∀ (d2 i2 : Nat) (x2 : Int32), i2 + d2 = sz 7 → x2 = nI i2 → onTabB S x el sz f = anyR (fun i => liveB S (el 7 i) && withinB (sI S q_Flight_x f) (sI S q_Flight_y f) 20 (xAtF S (el 7 i) (sI S q_Room_minute x)) (yAtF S (el 7 i) (sI S q_Room_minute x))) d2 i2 → Gj κ (PR κ S) 2 [(2, .int x2), (0, .ref x), (1, .ref f)] [] := by
    intro d2
    induction d2 with
    | zero =>
      intro i2 x2 hi2 hx2 hF2
      subst hx2
      refine g_iload_n hκ 0 dX11_isOnTable_2 rfl rfl ?_
      refine g_aload_n hκ 1 dX11_isOnTable_3 rfl rfl ?_
      refine gt_Room_tracks hκ hdR hx qw_113 (Or.inl rfl) dX11_isOnTable_4 ?_
      refine g_rf f7 ?_
      refine rV_i hκ hdR [] sd_Jx4a65c_size_8abf5 qw_227 (fun D cO H s hK hP => rc_List hK hP L7.1) (k_sizeL S (la 7) 9 (sz 7) (el 7) L7) ⟨rfl, rfl, Nat.le_of_ble_eq_true rfl, Nat.le_of_ble_eq_true rfl⟩ rfl rfl (Nat.le_of_ble_eq_true rfl) dX11_isOnTable_7 (fun r1 hr1 => ?_)
      refine g_eqi hr1 ?_
      refine g_icmp_ge hκ 65 dX11_isOnTable_10 (by decide) (fun _ => ?_) (fun z => absurd (lp_ge rfl (by omega) (by omega)) z)
      refine g_iconst hκ (v := 0) dX11_isOnTable_65 (by decide) ?_
      exact hend _ _ _ dX11_isOnTable_66 (by rw [hF2]; simp [anyR, liveB, zb])
    | succ d2 ih2 =>
      intro i2 x2 hi2 hx2 hF2
      subst hx2
      refine g_iload_n hκ 0 dX11_isOnTable_2 rfl rfl ?_
      refine g_aload_n hκ 1 dX11_isOnTable_3 rfl rfl ?_
      refine gt_Room_tracks hκ hdR hx qw_113 (Or.inl rfl) dX11_isOnTable_4 ?_
      refine g_rf f7 ?_
      refine rV_i hκ hdR [] sd_Jx4a65c_size_8abf5 qw_227 (fun D cO H s hK hP => rc_List hK hP L7.1) (k_sizeL S (la 7) 9 (sz 7) (el 7) L7) ⟨rfl, rfl, Nat.le_of_ble_eq_true rfl, Nat.le_of_ble_eq_true rfl⟩ rfl rfl (Nat.le_of_ble_eq_true rfl) dX11_isOnTable_7 (fun r2 hr2 => ?_)
      refine g_eqi hr2 ?_
      refine g_icmp_ge hκ 65 dX11_isOnTable_10 (by decide) (fun z => absurd z (lp_nge rfl (by omega) (by omega))) (fun _ => ?_)
      refine g_aload_n hκ 1 dX11_isOnTable_13 rfl rfl ?_
      refine gt_Room_tracks hκ hdR hx qw_113 (Or.inl rfl) dX11_isOnTable_14 ?_
      refine g_rf f7 ?_
      refine g_iload_n hκ 0 dX11_isOnTable_17 rfl rfl ?_
      refine rV_q hκ hdR [.int (nI i2)] sd_Jx4a65c_get_915e3 qw_440 (fun D cO H s hK hP => rc_List hK hP L7.1) (k_get S (la 7) 9 (sz 7) i2 (el 7) (nI i2) L7 rfl (by omega)) ⟨rfl, rfl, Nat.le_of_ble_eq_true rfl, Nat.le_of_ble_eq_true rfl⟩ rfl rfl (Nat.le_of_ble_eq_true rfl) dX11_isOnTable_18 (fun r3 hr3 => ?_)
      refine g_rf hr3 ?_
      refine gc_Track hκ hdR (L7.2.2.2.2 i2 (by omega)) qw_675 dX11_isOnTable_21 ?_
      refine g_astore_n hκ [(3, .ref (el 7 i2)), (2, .int (nI i2)), (0, .ref x), (1, .ref f)] dX11_isOnTable_24 rfl (by decide) rfl ?_
      refine g_aload_n hκ 0 dX11_isOnTable_25 rfl rfl ?_
      refine gtN_Track_isLive (host := "Plotroom") hκ hdR (L7.2.2.2.2 i2 (by omega)) (by decide +kernel) (Or.inl rfl) dX11_isOnTable_26 ?_
      refine g_if_eq hκ 59 dX11_isOnTable_29 (by decide) (fun c4 => ?_) (fun c4 => ?_)
      · skip
        obtain ⟨v5, hv5⟩ : ∃ z : Int32, nI i2 + 1 = z := ⟨_, rfl⟩
        refine g_iinc hκ (k := 1) (v := v5) [(2, .int v5), (3, .ref (el 7 i2)), (0, .ref x), (1, .ref f)] dX11_isOnTable_59 rfl hv5 (by decide) rfl ?_
        refine g_goto hκ 2 dX11_isOnTable_62 (by decide) ?_
        refine g_lv [(2, .int v5), (0, .ref x), (1, .ref f)] [0, 2, 3] rfl ?_
        exact ih2 (i2 + 1) v5 (by omega) (lp_s rfl hv5) (by rw [hF2]; simp [anyR, liveB, c4, ← hv5])
      · skip
        refine g_aload_n hκ 3 dX11_isOnTable_32 rfl rfl ?_
        refine g_bipush hκ (v := 20) dX11_isOnTable_33 (by decide) ?_
        refine g_aload_n hκ 0 dX11_isOnTable_35 rfl rfl ?_
        refine g_aload_n hκ 2 dX11_isOnTable_36 rfl rfl ?_
        refine gt_Room_minute hκ hdR hx qw_118 (Or.inl rfl) dX11_isOnTable_37 ?_
        refine rV_i hκ hdR [.int (sI S q_Room_minute x)] sd_X10_xAt qw_676 (fun D cO H s hK hP => rc_Track hK hP (L7.2.2.2.2 i2 (by omega))) (k_xAt S (el 7 i2) (sI S q_Room_minute x) (L7.2.2.2.2 i2 (by omega))) ⟨rfl, rfl, Nat.le_of_ble_eq_true rfl, Nat.le_of_ble_eq_true rfl⟩ rfl rfl (Nat.le_of_ble_eq_true rfl) dX11_isOnTable_40 (fun r6 hr6 => ?_)
        refine g_eqi hr6 ?_
        refine g_aload_n hκ 0 dX11_isOnTable_43 rfl rfl ?_
        refine g_aload_n hκ 2 dX11_isOnTable_44 rfl rfl ?_
        refine gt_Room_minute hκ hdR hx qw_118 (Or.inl rfl) dX11_isOnTable_45 ?_
        refine rV_i hκ hdR [.int (sI S q_Room_minute x)] sd_X10_yAt qw_681 (fun D cO H s hK hP => rc_Track hK hP (L7.2.2.2.2 i2 (by omega))) (k_yAt S (el 7 i2) (sI S q_Room_minute x) (L7.2.2.2.2 i2 (by omega))) ⟨rfl, rfl, Nat.le_of_ble_eq_true rfl, Nat.le_of_ble_eq_true rfl⟩ rfl rfl (Nat.le_of_ble_eq_true rfl) dX11_isOnTable_48 (fun r7 hr7 => ?_)
        refine g_eqi hr7 ?_
        refine rU_i hκ hdR [.int 20, .int (xAtF S (el 7 i2) (sI S q_Room_minute x)), .int (yAtF S (el 7 i2) (sI S q_Room_minute x))] (ud_X4_isWithin_Flight) qw_820 (by decide +kernel) (fun D cO H s hK hP => rc_Flight hK hP hf) (k_isWithin_Flight S f 20 (xAtF S (el 7 i2) (sI S q_Room_minute x)) (yAtF S (el 7 i2) (sI S q_Room_minute x)) hf) ⟨rfl, rfl, Nat.le_of_ble_eq_true rfl, Nat.le_of_ble_eq_true rfl⟩ rfl rfl (Nat.le_of_ble_eq_true rfl) dX11_isOnTable_51 (fun r8 hr8 => ?_)
        obtain ⟨b9, rfl⟩ | ⟨b9, rfl⟩ := zb_cases hr8
        · skip
          refine g_if_eq hκ 59 dX11_isOnTable_54 (by decide) (fun z => absurd z (by decide)) (fun _ => ?_)
          refine g_iconst hκ (v := 1) dX11_isOnTable_57 (by decide) ?_
          exact hend _ _ _ dX11_isOnTable_58 (by rw [hF2]; simp [anyR, liveB, zb, c4, b9])
        · skip
          refine g_if_eq hκ 59 dX11_isOnTable_54 (by decide) (fun _ => ?_) (fun z => absurd z (by decide))
          obtain ⟨v10, hv10⟩ : ∃ z : Int32, nI i2 + 1 = z := ⟨_, rfl⟩
          refine g_iinc hκ (k := 1) (v := v10) [(2, .int v10), (3, .ref (el 7 i2)), (0, .ref x), (1, .ref f)] dX11_isOnTable_59 rfl hv10 (by decide) rfl ?_
          refine g_goto hκ 2 dX11_isOnTable_62 (by decide) ?_
          refine g_lv [(2, .int v10), (0, .ref x), (1, .ref f)] [0, 2, 3] rfl ?_
          exact ih2 (i2 + 1) v10 (by omega) (lp_s rfl hv10) (by rw [hF2]; simp [anyR, liveB, c4, b9, ← hv10])
  exact loop2 (sz 7) 0 0 (by omega) (by first | rfl | decide) (by first | rfl | decide)
set_option maxHeartbeats 4000000 in
set_option maxRecDepth 100000 in
theorem k_partSeen (S : wPS) (x lo ta : Nat) (la : Nat → Nat) (el : Nat → Nat → Nat) (sz : Nat → Nat) (hM : RMx S x lo ta la el sz) (h12 : sz 5 ≤ 12) : MR yX11_partSeen cX11_partSeen 5 (some .double) ({ frames := 4, cells := 0, slots := 0, locals := 88 }) S [.ref x] (vp_Sd (fun r => r = seenF S x el sz)) := by
  refine stR_d (post := (fun r => r = seenF S x el sz)) (by decide) (Nat.le_of_ble_eq_true rfl) rfl (fun κ hκ hend => ?_)
  show Gj κ _ 0 [(0, .ref x)] []
  have hMc := hM
  obtain ⟨hx, ⟨f0, L0⟩, ⟨f1, L1⟩, ⟨f2, L2⟩, ⟨f3, L3⟩, ⟨f4, L4⟩, ⟨f5, L5⟩, ⟨f6, L6⟩, ⟨f7, L7⟩, ⟨f8, L8⟩, ⟨flo, hlo⟩, ⟨fta, hta⟩⟩ := hMc
  have b0 := L0.2.2.1
  have b2 := L2.2.2.1
  have b3 := L3.2.2.1
  have b4 := L4.2.2.1
  have b5 := L5.2.2.1
  have b7 := L7.2.2.1
  have b8 := L8.2.2.1
  refine g_aload_n hκ 0 dX11_partSeen_0 rfl rfl ?_
  refine g_iconst hκ (v := 0) dX11_partSeen_1 (by decide) ?_
  refine rV_i hκ hdR [.int 0] sd_X11_countUp qw_882 (fun D cO H s hK hP => rc_Room hK hP hx) (k_countUp S x lo ta la el sz 0 hM) ⟨rfl, rfl, Nat.le_of_ble_eq_true rfl, Nat.le_of_ble_eq_true rfl⟩ rfl rfl (Nat.le_of_ble_eq_true rfl) dX11_partSeen_2 (fun r1 hr1 => ?_)
  refine g_eqi hr1 ?_
  refine g_istore_n hκ [(1, .int (countUpF S el sz 0)), (0, .ref x)] dX11_partSeen_5 rfl (by decide) rfl ?_
  refine g_iload_n hκ 0 dX11_partSeen_6 rfl rfl ?_
  refine g_if_ne hκ 12 dX11_partSeen_7 (by decide) (fun c2 => ?_) (fun c2 => ?_)
  · skip
    refine g_iconst hκ (v := 0) dX11_partSeen_12 (by decide) ?_
    refine g_istore_n hκ [(2, .int 0), (1, .int (countUpF S el sz 0)), (0, .ref x)] dX11_partSeen_13 rfl (by decide) rfl ?_
    refine g_iconst hκ (v := 0) dX11_partSeen_14 (by decide) ?_
    refine g_istore_n hκ [(3, .int 0), (2, .int 0), (1, .int (countUpF S el sz 0)), (0, .ref x)] dX11_partSeen_15 rfl (by decide) rfl ?_
    have loop16 : ∀ (d16 i16 : Nat) (x16 : Int32) (a4 : Int32), i16 + d16 = sz 5 → x16 = nI i16 → knownF S x el sz = cntR (fun i => !decide (sI S q_Flight_isUp (el 5 i) = 0) && onTabB S x el sz (el 5 i)) d16 i16 a4 → Gj κ (PR κ S) 16 [(3, .int x16), (2, .int a4), (1, .int (countUpF S el sz 0)), (0, .ref x)] [] := by
      intro d16
      induction d16 with
      | zero =>
        intro i16 x16 a4 hi16 hx16 hF16
        subst hx16
        refine g_iload_n hκ 0 dX11_partSeen_16 rfl rfl ?_
        refine g_aload_n hκ 3 dX11_partSeen_17 rfl rfl ?_
        refine gt_Room_flights hκ hdR hx qw_111 (Or.inl rfl) dX11_partSeen_18 ?_
        refine g_rf f5 ?_
        refine rV_i hκ hdR [] sd_Jx4a65c_size_8abf5 qw_227 (fun D cO H s hK hP => rc_List hK hP L5.1) (k_sizeL S (la 5) 0 (sz 5) (el 5) L5) ⟨rfl, rfl, Nat.le_of_ble_eq_true rfl, Nat.le_of_ble_eq_true rfl⟩ rfl rfl (Nat.le_of_ble_eq_true rfl) dX11_partSeen_21 (fun r3 hr3 => ?_)
        refine g_eqi hr3 ?_
        refine g_icmp_ge hκ 66 dX11_partSeen_24 (by decide) (fun _ => ?_) (fun z => absurd (lp_ge rfl (by omega) (by omega)) z)
        refine g_iload_n hκ 1 dX11_partSeen_66 rfl rfl ?_
        refine g_i2d hκ dX11_partSeen_67 ?_
        refine g_iload_n hκ 2 dX11_partSeen_68 rfl rfl ?_
        refine g_i2d hκ dX11_partSeen_69 ?_
        refine g_ddiv hκ dX11_partSeen_70 (by have h9 := seen_n (x := x) h12 c2; rw [hF16] at h9; exact h9) ?_
        exact hend _ _ _ dX11_partSeen_71 (by unfold seenF; rw [if_neg c2, hF16]; rfl)
      | succ d16 ih16 =>
        intro i16 x16 a4 hi16 hx16 hF16
        subst hx16
        refine g_iload_n hκ 0 dX11_partSeen_16 rfl rfl ?_
        refine g_aload_n hκ 3 dX11_partSeen_17 rfl rfl ?_
        refine gt_Room_flights hκ hdR hx qw_111 (Or.inl rfl) dX11_partSeen_18 ?_
        refine g_rf f5 ?_
        refine rV_i hκ hdR [] sd_Jx4a65c_size_8abf5 qw_227 (fun D cO H s hK hP => rc_List hK hP L5.1) (k_sizeL S (la 5) 0 (sz 5) (el 5) L5) ⟨rfl, rfl, Nat.le_of_ble_eq_true rfl, Nat.le_of_ble_eq_true rfl⟩ rfl rfl (Nat.le_of_ble_eq_true rfl) dX11_partSeen_21 (fun r4 hr4 => ?_)
        refine g_eqi hr4 ?_
        refine g_icmp_ge hκ 66 dX11_partSeen_24 (by decide) (fun z => absurd z (lp_nge rfl (by omega) (by omega))) (fun _ => ?_)
        refine g_aload_n hκ 3 dX11_partSeen_27 rfl rfl ?_
        refine gt_Room_flights hκ hdR hx qw_111 (Or.inl rfl) dX11_partSeen_28 ?_
        refine g_rf f5 ?_
        refine g_iload_n hκ 0 dX11_partSeen_31 rfl rfl ?_
        refine rV_q hκ hdR [.int (nI i16)] sd_Jx4a65c_get_915e3 qw_440 (fun D cO H s hK hP => rc_List hK hP L5.1) (k_get S (la 5) 0 (sz 5) i16 (el 5) (nI i16) L5 rfl (by omega)) ⟨rfl, rfl, Nat.le_of_ble_eq_true rfl, Nat.le_of_ble_eq_true rfl⟩ rfl rfl (Nat.le_of_ble_eq_true rfl) dX11_partSeen_32 (fun r5 hr5 => ?_)
        refine g_rf hr5 ?_
        refine gc_Flight hκ hdR (L5.2.2.2.2 i16 (by omega)) qw_553 dX11_partSeen_35 ?_
        refine g_astore hκ [(4, .ref (el 5 i16)), (3, .int (nI i16)), (2, .int a4), (1, .int (countUpF S el sz 0)), (0, .ref x)] dX11_partSeen_38 (by decide) rfl ?_
        refine g_aload hκ 0 dX11_partSeen_40 rfl ?_
        refine gtN_Flight_isUp (host := "Plotroom") hκ hdR (L5.2.2.2.2 i16 (by omega)) (by decide +kernel) (Or.inl rfl) dX11_partSeen_42 ?_
        refine g_if_eq hκ 60 dX11_partSeen_45 (by decide) (fun c6 => ?_) (fun c6 => ?_)
        · skip
          obtain ⟨v7, hv7⟩ : ∃ z : Int32, nI i16 + 1 = z := ⟨_, rfl⟩
          refine g_iinc hκ (k := 1) (v := v7) [(3, .int v7), (4, .ref (el 5 i16)), (2, .int a4), (1, .int (countUpF S el sz 0)), (0, .ref x)] dX11_partSeen_60 rfl hv7 (by decide) rfl ?_
          refine g_goto hκ 16 dX11_partSeen_63 (by decide) ?_
          refine g_lv [(3, .int v7), (2, .int a4), (1, .int (countUpF S el sz 0)), (0, .ref x)] [0, 2, 3, 4] rfl ?_
          exact ih16 (i16 + 1) v7 a4 (by omega) (lp_s rfl hv7) (by rw [hF16]; simp [cntR, c2, c6, ← hv7])
        · skip
          refine g_aload_n hκ 4 dX11_partSeen_48 rfl rfl ?_
          refine g_aload hκ 0 dX11_partSeen_49 rfl ?_
          refine rV_i hκ hdR [.ref (el 5 i16)] sd_X11_isOnTable qw_922 (fun D cO H s hK hP => rc_Room hK hP hx) (k_isOnTable S x lo ta la el sz (el 5 i16) hM (L5.2.2.2.2 i16 (by omega))) ⟨rfl, rfl, Nat.le_of_ble_eq_true rfl, Nat.le_of_ble_eq_true rfl⟩ rfl rfl (Nat.le_of_ble_eq_true rfl) dX11_partSeen_51 (fun r8 hr8 => ?_)
          obtain ⟨b9, rfl⟩ | ⟨b9, rfl⟩ := zb_cases hr8
          · skip
            refine g_if_eq hκ 60 dX11_partSeen_54 (by decide) (fun z => absurd z (by decide)) (fun _ => ?_)
            obtain ⟨v10, hv10⟩ : ∃ z : Int32, a4 + 1 = z := ⟨_, rfl⟩
            refine g_iinc hκ (k := 2) (v := v10) [(2, .int v10), (4, .ref (el 5 i16)), (3, .int (nI i16)), (1, .int (countUpF S el sz 0)), (0, .ref x)] dX11_partSeen_57 rfl hv10 (by decide) rfl ?_
            obtain ⟨v11, hv11⟩ : ∃ z : Int32, nI i16 + 1 = z := ⟨_, rfl⟩
            refine g_iinc hκ (k := 2) (v := v11) [(3, .int v11), (2, .int v10), (4, .ref (el 5 i16)), (1, .int (countUpF S el sz 0)), (0, .ref x)] dX11_partSeen_60 rfl hv11 (by decide) rfl ?_
            refine g_goto hκ 16 dX11_partSeen_63 (by decide) ?_
            refine g_lv [(3, .int v11), (2, .int v10), (1, .int (countUpF S el sz 0)), (0, .ref x)] [0, 1, 3, 4] rfl ?_
            exact ih16 (i16 + 1) v11 v10 (by omega) (lp_s rfl hv11) (by rw [hF16]; simp [cntR, c2, c6, b9, ← hv10, ← hv11])
          · skip
            refine g_if_eq hκ 60 dX11_partSeen_54 (by decide) (fun _ => ?_) (fun z => absurd z (by decide))
            obtain ⟨v12, hv12⟩ : ∃ z : Int32, nI i16 + 1 = z := ⟨_, rfl⟩
            refine g_iinc hκ (k := 1) (v := v12) [(3, .int v12), (4, .ref (el 5 i16)), (2, .int a4), (1, .int (countUpF S el sz 0)), (0, .ref x)] dX11_partSeen_60 rfl hv12 (by decide) rfl ?_
            refine g_goto hκ 16 dX11_partSeen_63 (by decide) ?_
            refine g_lv [(3, .int v12), (2, .int a4), (1, .int (countUpF S el sz 0)), (0, .ref x)] [0, 2, 3, 4] rfl ?_
            exact ih16 (i16 + 1) v12 a4 (by omega) (lp_s rfl hv12) (by rw [hF16]; simp [cntR, c2, c6, b9, ← hv12])
    exact loop16 (sz 5) 0 0 0 (by omega) (by first | rfl | decide) (by first | rfl | decide)
  · skip
    refine g_dconst1 hκ dX11_partSeen_10 ?_
    exact hend _ _ _ dX11_partSeen_11 (by unfold seenF; rw [if_pos c2])
set_option maxHeartbeats 4000000 in
set_option maxRecDepth 100000 in
theorem k_minutesToNear (S : wPS) (x T t m : Nat) (w : Int32) (hx : x ∈ sL S ∧ sK S x = 10) (hT : T ∈ sL S ∧ sK S T = 8) (ht : t ∈ sL S ∧ sK S t = 9) (hw : w = nI m) (hm : m ≤ 100) : MR yX11_minutesToNear cX11_minutesToNear 5 (some .int) ({ frames := 2, cells := 0, slots := 0, locals := 41 }) S [.ref x, .ref T, .ref t, .int w] (vp_Si (fun r => r = nearF S x T t m)) := by
  refine stR_i (post := (fun r => r = nearF S x T t m)) (by decide) (Nat.le_of_ble_eq_true rfl) rfl (fun _ _ => rfl) (fun κ hκ hend => ?_)
  show Gj κ _ 0 [(0, .ref x), (1, .ref T), (2, .ref t), (3, .int w)] []
  refine g_iconst hκ (v := 0) dX11_minutesToNear_0 (by decide) ?_
  refine g_istore hκ [(4, .int 0), (0, .ref x), (1, .ref T), (2, .ref t), (3, .int w)] dX11_minutesToNear_1 (by decide) rfl ?_
  have loop3 : ∀ (d3 i3 : Nat) (x3 : Int32), i3 + d3 = (m + 1) → x3 = nI i3 → nearF S x T t m = fstR (fun i => withinB (sI S q_Town_x T) (sI S q_Town_y T) 10 (xAtF S t (sI S q_Room_minute x + nI i)) (yAtF S t (sI S q_Room_minute x + nI i))) d3 i3 → Gj κ (PR κ S) 3 [(4, .int x3), (0, .ref x), (1, .ref T), (2, .ref t), (3, .int w)] [] := by
    intro d3
    induction d3 with
    | zero =>
      intro i3 x3 hi3 hx3 hF3
      subst hx3
      refine g_iload hκ 0 dX11_minutesToNear_3 rfl ?_
      refine g_iload_n hκ 4 dX11_minutesToNear_5 rfl rfl ?_
      refine g_icmp_gt hκ 49 dX11_minutesToNear_6 (by decide) (fun _ => ?_) (fun z => absurd (show w < nI i3 by rw [hw]; exact nI_lt (a := m) (by omega) (by omega)) z)
      refine g_iconst hκ (v := (-1)) dX11_minutesToNear_49 (by decide) ?_
      exact hend _ _ _ dX11_minutesToNear_50 (by rw [hF3]; simp [cntR, sumR, anyR, allR, fstR, mbR, thrR, zb])
    | succ d3 ih3 =>
      intro i3 x3 hi3 hx3 hF3
      subst hx3
      refine g_iload hκ 0 dX11_minutesToNear_3 rfl ?_
      refine g_iload_n hκ 4 dX11_minutesToNear_5 rfl rfl ?_
      refine g_icmp_gt hκ 49 dX11_minutesToNear_6 (by decide) (fun z => absurd z (show ¬ w < nI i3 by rw [hw]; exact nI_nlt (a := m) (by omega) (by omega))) (fun _ => ?_)
      refine g_aload_n hκ 2 dX11_minutesToNear_9 rfl rfl ?_
      refine g_bipush hκ (v := 10) dX11_minutesToNear_10 (by decide) ?_
      refine g_aload_n hκ 3 dX11_minutesToNear_12 rfl rfl ?_
      refine g_aload_n hκ 1 dX11_minutesToNear_13 rfl rfl ?_
      refine gt_Room_minute hκ hdR hx qw_118 (Or.inl rfl) dX11_minutesToNear_14 ?_
      refine g_iload hκ 0 dX11_minutesToNear_17 rfl ?_
      refine g_iadd hκ dX11_minutesToNear_19 ?_
      refine rV_i hκ hdR [.int ((sI S q_Room_minute x) + (nI i3))] sd_X10_xAt qw_676 (fun D cO H s hK hP => rc_Track hK hP ht) (k_xAt S t ((sI S q_Room_minute x) + (nI i3)) ht) ⟨rfl, rfl, Nat.le_of_ble_eq_true rfl, Nat.le_of_ble_eq_true rfl⟩ rfl rfl (Nat.le_of_ble_eq_true rfl) dX11_minutesToNear_20 (fun r1 hr1 => ?_)
      refine g_eqi hr1 ?_
      refine g_aload_n hκ 3 dX11_minutesToNear_23 rfl rfl ?_
      refine g_aload_n hκ 1 dX11_minutesToNear_24 rfl rfl ?_
      refine gt_Room_minute hκ hdR hx qw_118 (Or.inl rfl) dX11_minutesToNear_25 ?_
      refine g_iload hκ 0 dX11_minutesToNear_28 rfl ?_
      refine g_iadd hκ dX11_minutesToNear_30 ?_
      refine rV_i hκ hdR [.int ((sI S q_Room_minute x) + (nI i3))] sd_X10_yAt qw_681 (fun D cO H s hK hP => rc_Track hK hP ht) (k_yAt S t ((sI S q_Room_minute x) + (nI i3)) ht) ⟨rfl, rfl, Nat.le_of_ble_eq_true rfl, Nat.le_of_ble_eq_true rfl⟩ rfl rfl (Nat.le_of_ble_eq_true rfl) dX11_minutesToNear_31 (fun r2 hr2 => ?_)
      refine g_eqi hr2 ?_
      refine rU_i hκ hdR [.int 10, .int (xAtF S t ((sI S q_Room_minute x) + (nI i3))), .int (yAtF S t ((sI S q_Room_minute x) + (nI i3)))] (ud_X4_isWithin_Town) qw_851 (by decide +kernel) (fun D cO H s hK hP => rc_Town hK hP hT) (k_isWithin_Town S T 10 (xAtF S t ((sI S q_Room_minute x) + (nI i3))) (yAtF S t ((sI S q_Room_minute x) + (nI i3))) hT) ⟨rfl, rfl, Nat.le_of_ble_eq_true rfl, Nat.le_of_ble_eq_true rfl⟩ rfl rfl (Nat.le_of_ble_eq_true rfl) dX11_minutesToNear_34 (fun r3 hr3 => ?_)
      obtain ⟨b4, rfl⟩ | ⟨b4, rfl⟩ := zb_cases hr3
      · skip
        refine g_if_eq hκ 43 dX11_minutesToNear_37 (by decide) (fun z => absurd z (by decide)) (fun _ => ?_)
        refine g_iload hκ 0 dX11_minutesToNear_40 rfl ?_
        exact hend _ _ _ dX11_minutesToNear_42 (by rw [hF3]; simp [cntR, sumR, anyR, allR, fstR, mbR, thrR, zb, b4])
      · skip
        refine g_if_eq hκ 43 dX11_minutesToNear_37 (by decide) (fun _ => ?_) (fun z => absurd z (by decide))
        obtain ⟨v5, hv5⟩ : ∃ z : Int32, nI i3 + 1 = z := ⟨_, rfl⟩
        refine g_iinc hκ (k := 0) (v := v5) [(4, .int v5), (0, .ref x), (1, .ref T), (2, .ref t), (3, .int w)] dX11_minutesToNear_43 rfl hv5 (by decide) rfl ?_
        refine g_goto hκ 3 dX11_minutesToNear_46 (by decide) ?_
        refine g_lv [(4, .int v5), (0, .ref x), (1, .ref T), (2, .ref t), (3, .int w)] [0, 1, 2, 3, 4] rfl ?_
        exact ih3 (i3 + 1) v5 (by omega) (lp_s rfl hv5) (by rw [hF3]; simp [fstR, b4, ← hv5])
  exact loop3 (m + 1) 0 0 (by omega) (by first | rfl | decide) (by first | rfl | decide)
set_option maxHeartbeats 4000000 in
set_option maxRecDepth 100000 in
theorem k_minutesToThreat (S : wPS) (x lo ta : Nat) (la : Nat → Nat) (el : Nat → Nat → Nat) (sz : Nat → Nat) (T m : Nat) (w : Int32) (hM : RMx S x lo ta la el sz) (hT : T ∈ sL S ∧ sK S T = 8) (hw : w = nI m) (hm : m ≤ 100) : MR yX11_minutesToThreat cX11_minutesToThreat 7 (some .int) ({ frames := 5, cells := 0, slots := 0, locals := 111 }) S [.ref x, .ref T, .int w] (vp_Si (fun r => r = thrF S x el sz T m)) := by
  refine stR_i (post := (fun r => r = thrF S x el sz T m)) (by decide) (Nat.le_of_ble_eq_true rfl) rfl (fun _ _ => rfl) (fun κ hκ hend => ?_)
  show Gj κ _ 0 [(0, .ref x), (1, .ref T), (2, .int w)] []
  have hMc := hM
  obtain ⟨hx, ⟨f0, L0⟩, ⟨f1, L1⟩, ⟨f2, L2⟩, ⟨f3, L3⟩, ⟨f4, L4⟩, ⟨f5, L5⟩, ⟨f6, L6⟩, ⟨f7, L7⟩, ⟨f8, L8⟩, ⟨flo, hlo⟩, ⟨fta, hta⟩⟩ := hMc
  have b0 := L0.2.2.1
  have b2 := L2.2.2.1
  have b3 := L3.2.2.1
  have b4 := L4.2.2.1
  have b5 := L5.2.2.1
  have b7 := L7.2.2.1
  have b8 := L8.2.2.1
  refine g_iconst hκ (v := (-1)) dX11_minutesToThreat_0 (by decide) ?_
  refine g_istore_n hκ [(3, .int (-1)), (0, .ref x), (1, .ref T), (2, .int w)] dX11_minutesToThreat_1 rfl (by decide) rfl ?_
  refine g_iconst hκ (v := 0) dX11_minutesToThreat_2 (by decide) ?_
  refine g_istore hκ [(4, .int 0), (3, .int (-1)), (0, .ref x), (1, .ref T), (2, .int w)] dX11_minutesToThreat_3 (by decide) rfl ?_
  have loop5 : ∀ (d5 i5 : Nat) (x5 : Int32) (a4 : Int32), i5 + d5 = sz 7 → x5 = nI i5 → thrF S x el sz T m = thrR (fun i => liveB S (el 7 i) && decide (kindF S el sz (el 7 i) = 2)) (fun i => nearF S x T (el 7 i) m) d5 i5 a4 → Gj κ (PR κ S) 5 [(4, .int x5), (3, .int a4), (0, .ref x), (1, .ref T), (2, .int w)] [] := by
    intro d5
    induction d5 with
    | zero =>
      intro i5 x5 a4 hi5 hx5 hF5
      subst hx5
      refine g_iload hκ 0 dX11_minutesToThreat_5 rfl ?_
      refine g_aload_n hκ 2 dX11_minutesToThreat_7 rfl rfl ?_
      refine gt_Room_tracks hκ hdR hx qw_113 (Or.inl rfl) dX11_minutesToThreat_8 ?_
      refine g_rf f7 ?_
      refine rV_i hκ hdR [] sd_Jx4a65c_size_8abf5 qw_227 (fun D cO H s hK hP => rc_List hK hP L7.1) (k_sizeL S (la 7) 9 (sz 7) (el 7) L7) ⟨rfl, rfl, Nat.le_of_ble_eq_true rfl, Nat.le_of_ble_eq_true rfl⟩ rfl rfl (Nat.le_of_ble_eq_true rfl) dX11_minutesToThreat_11 (fun r1 hr1 => ?_)
      refine g_eqi hr1 ?_
      refine g_icmp_ge hκ 85 dX11_minutesToThreat_14 (by decide) (fun _ => ?_) (fun z => absurd (lp_ge rfl (by omega) (by omega)) z)
      refine g_iload_n hκ 1 dX11_minutesToThreat_85 rfl rfl ?_
      exact hend _ _ _ dX11_minutesToThreat_86 (by rw [hF5]; rfl)
    | succ d5 ih5 =>
      intro i5 x5 a4 hi5 hx5 hF5
      subst hx5
      refine g_iload hκ 0 dX11_minutesToThreat_5 rfl ?_
      refine g_aload_n hκ 2 dX11_minutesToThreat_7 rfl rfl ?_
      refine gt_Room_tracks hκ hdR hx qw_113 (Or.inl rfl) dX11_minutesToThreat_8 ?_
      refine g_rf f7 ?_
      refine rV_i hκ hdR [] sd_Jx4a65c_size_8abf5 qw_227 (fun D cO H s hK hP => rc_List hK hP L7.1) (k_sizeL S (la 7) 9 (sz 7) (el 7) L7) ⟨rfl, rfl, Nat.le_of_ble_eq_true rfl, Nat.le_of_ble_eq_true rfl⟩ rfl rfl (Nat.le_of_ble_eq_true rfl) dX11_minutesToThreat_11 (fun r2 hr2 => ?_)
      refine g_eqi hr2 ?_
      refine g_icmp_ge hκ 85 dX11_minutesToThreat_14 (by decide) (fun z => absurd z (lp_nge rfl (by omega) (by omega))) (fun _ => ?_)
      refine g_aload_n hκ 2 dX11_minutesToThreat_17 rfl rfl ?_
      refine gt_Room_tracks hκ hdR hx qw_113 (Or.inl rfl) dX11_minutesToThreat_18 ?_
      refine g_rf f7 ?_
      refine g_iload hκ 0 dX11_minutesToThreat_21 rfl ?_
      refine rV_q hκ hdR [.int (nI i5)] sd_Jx4a65c_get_915e3 qw_440 (fun D cO H s hK hP => rc_List hK hP L7.1) (k_get S (la 7) 9 (sz 7) i5 (el 7) (nI i5) L7 rfl (by omega)) ⟨rfl, rfl, Nat.le_of_ble_eq_true rfl, Nat.le_of_ble_eq_true rfl⟩ rfl rfl (Nat.le_of_ble_eq_true rfl) dX11_minutesToThreat_23 (fun r3 hr3 => ?_)
      refine g_rf hr3 ?_
      refine gc_Track hκ hdR (L7.2.2.2.2 i5 (by omega)) qw_675 dX11_minutesToThreat_26 ?_
      refine g_astore hκ [(5, .ref (el 7 i5)), (4, .int (nI i5)), (3, .int a4), (0, .ref x), (1, .ref T), (2, .int w)] dX11_minutesToThreat_29 (by decide) rfl ?_
      refine g_aload hκ 0 dX11_minutesToThreat_31 rfl ?_
      refine gtN_Track_isLive (host := "Plotroom") hκ hdR (L7.2.2.2.2 i5 (by omega)) (by decide +kernel) (Or.inl rfl) dX11_minutesToThreat_33 ?_
      refine g_if_eq hκ 79 dX11_minutesToThreat_36 (by decide) (fun c4 => ?_) (fun c4 => ?_)
      · skip
        obtain ⟨v5, hv5⟩ : ∃ z : Int32, nI i5 + 1 = z := ⟨_, rfl⟩
        refine g_iinc hκ (k := 1) (v := v5) [(4, .int v5), (5, .ref (el 7 i5)), (3, .int a4), (0, .ref x), (1, .ref T), (2, .int w)] dX11_minutesToThreat_79 rfl hv5 (by decide) rfl ?_
        refine g_goto hκ 5 dX11_minutesToThreat_82 (by decide) ?_
        refine g_lv [(4, .int v5), (3, .int a4), (0, .ref x), (1, .ref T), (2, .int w)] [0, 2, 3, 4, 5] rfl ?_
        exact ih5 (i5 + 1) v5 a4 (by omega) (lp_s rfl hv5) (by rw [hF5]; simp [thrR, liveB, c4, ← hv5])
      · skip
        refine g_aload_n hκ 3 dX11_minutesToThreat_39 rfl rfl ?_
        refine g_aload hκ 0 dX11_minutesToThreat_40 rfl ?_
        refine rV_i hκ hdR [.ref (el 7 i5)] sd_X11_kindOf qw_835 (fun D cO H s hK hP => rc_Room hK hP hx) (k_kindOf S x lo ta la el sz (el 7 i5) hM (L7.2.2.2.2 i5 (by omega))) ⟨rfl, rfl, Nat.le_of_ble_eq_true rfl, Nat.le_of_ble_eq_true rfl⟩ rfl rfl (Nat.le_of_ble_eq_true rfl) dX11_minutesToThreat_42 (fun r6 hr6 => ?_)
        refine g_eqi hr6 ?_
        refine g_iconst hκ (v := 2) dX11_minutesToThreat_45 (by decide) ?_
        refine g_icmp_ne hκ 79 dX11_minutesToThreat_46 (by decide) (fun c7 => ?_) (fun c7 => ?_)
        · skip
          obtain ⟨v8, hv8⟩ : ∃ z : Int32, nI i5 + 1 = z := ⟨_, rfl⟩
          refine g_iinc hκ (k := 1) (v := v8) [(4, .int v8), (5, .ref (el 7 i5)), (3, .int a4), (0, .ref x), (1, .ref T), (2, .int w)] dX11_minutesToThreat_79 rfl hv8 (by decide) rfl ?_
          refine g_goto hκ 5 dX11_minutesToThreat_82 (by decide) ?_
          refine g_lv [(4, .int v8), (3, .int a4), (0, .ref x), (1, .ref T), (2, .int w)] [0, 2, 3, 4, 5] rfl ?_
          exact ih5 (i5 + 1) v8 a4 (by omega) (lp_s rfl hv8) (by rw [hF5]; simp [thrR, liveB, c4, c7, ← hv8])
        · skip
          refine g_aload_n hκ 3 dX11_minutesToThreat_49 rfl rfl ?_
          refine g_aload_n hκ 4 dX11_minutesToThreat_50 rfl rfl ?_
          refine g_aload hκ 0 dX11_minutesToThreat_51 rfl ?_
          refine g_iload_n hκ 5 dX11_minutesToThreat_53 rfl rfl ?_
          refine rV_i hκ hdR [.ref T, .ref (el 7 i5), .int w] sd_X11_minutesToNear qw_847 (fun D cO H s hK hP => rc_Room hK hP hx) (k_minutesToNear S x T (el 7 i5) m w hx hT (L7.2.2.2.2 i5 (by omega)) hw hm) ⟨rfl, rfl, Nat.le_of_ble_eq_true rfl, Nat.le_of_ble_eq_true rfl⟩ rfl rfl (Nat.le_of_ble_eq_true rfl) dX11_minutesToThreat_54 (fun r9 hr9 => ?_)
          refine g_eqi hr9 ?_
          refine g_istore hκ [(6, .int (nearF S x T (el 7 i5) m)), (5, .ref (el 7 i5)), (4, .int (nI i5)), (3, .int a4), (0, .ref x), (1, .ref T), (2, .int w)] dX11_minutesToThreat_57 (by decide) rfl ?_
          refine g_iload hκ 0 dX11_minutesToThreat_59 rfl ?_
          refine g_iconst hκ (v := (-1)) dX11_minutesToThreat_61 (by decide) ?_
          refine g_icmp_eq hκ 79 dX11_minutesToThreat_62 (by decide) (fun c10 => ?_) (fun c10 => ?_)
          · skip
            obtain ⟨v11, hv11⟩ : ∃ z : Int32, nI i5 + 1 = z := ⟨_, rfl⟩
            refine g_iinc hκ (k := 2) (v := v11) [(4, .int v11), (6, .int (nearF S x T (el 7 i5) m)), (5, .ref (el 7 i5)), (3, .int a4), (0, .ref x), (1, .ref T), (2, .int w)] dX11_minutesToThreat_79 rfl hv11 (by decide) rfl ?_
            refine g_goto hκ 5 dX11_minutesToThreat_82 (by decide) ?_
            refine g_lv [(4, .int v11), (3, .int a4), (0, .ref x), (1, .ref T), (2, .int w)] [0, 3, 4, 5, 6] rfl ?_
            exact ih5 (i5 + 1) v11 a4 (by omega) (lp_s rfl hv11) (by rw [hF5]; simp [thrR, liveB, c4, c7, c10, ← hv11])
          · skip
            refine g_iload_n hκ 3 dX11_minutesToThreat_65 rfl rfl ?_
            refine g_iconst hκ (v := (-1)) dX11_minutesToThreat_66 (by decide) ?_
            refine g_icmp_eq hκ 76 dX11_minutesToThreat_67 (by decide) (fun c12 => ?_) (fun c12 => ?_)
            · skip
              refine g_iload hκ 0 dX11_minutesToThreat_76 rfl ?_
              refine g_istore_n hκ [(3, .int (nearF S x T (el 7 i5) m)), (6, .int (nearF S x T (el 7 i5) m)), (5, .ref (el 7 i5)), (4, .int (nI i5)), (0, .ref x), (1, .ref T), (2, .int w)] dX11_minutesToThreat_78 rfl (by decide) rfl ?_
              obtain ⟨v13, hv13⟩ : ∃ z : Int32, nI i5 + 1 = z := ⟨_, rfl⟩
              refine g_iinc hκ (k := 3) (v := v13) [(4, .int v13), (3, .int (nearF S x T (el 7 i5) m)), (6, .int (nearF S x T (el 7 i5) m)), (5, .ref (el 7 i5)), (0, .ref x), (1, .ref T), (2, .int w)] dX11_minutesToThreat_79 rfl hv13 (by decide) rfl ?_
              refine g_goto hκ 5 dX11_minutesToThreat_82 (by decide) ?_
              refine g_lv [(4, .int v13), (3, .int (nearF S x T (el 7 i5) m)), (0, .ref x), (1, .ref T), (2, .int w)] [0, 1, 4, 5, 6] rfl ?_
              exact ih5 (i5 + 1) v13 (nearF S x T (el 7 i5) m) (by omega) (lp_s rfl hv13) (by rw [hF5]; simp [thrR, liveB, c4, c7, c10, c12, ← hv13])
            · skip
              refine g_iload hκ 0 dX11_minutesToThreat_70 rfl ?_
              refine g_iload_n hκ 3 dX11_minutesToThreat_72 rfl rfl ?_
              refine g_icmp_ge hκ 79 dX11_minutesToThreat_73 (by decide) (fun c14 => ?_) (fun c14 => ?_)
              · skip
                obtain ⟨v15, hv15⟩ : ∃ z : Int32, nI i5 + 1 = z := ⟨_, rfl⟩
                refine g_iinc hκ (k := 2) (v := v15) [(4, .int v15), (6, .int (nearF S x T (el 7 i5) m)), (5, .ref (el 7 i5)), (3, .int a4), (0, .ref x), (1, .ref T), (2, .int w)] dX11_minutesToThreat_79 rfl hv15 (by decide) rfl ?_
                refine g_goto hκ 5 dX11_minutesToThreat_82 (by decide) ?_
                refine g_lv [(4, .int v15), (3, .int a4), (0, .ref x), (1, .ref T), (2, .int w)] [0, 3, 4, 5, 6] rfl ?_
                exact ih5 (i5 + 1) v15 a4 (by omega) (lp_s rfl hv15) (by rw [hF5]; simp [thrR, liveB, c4, c7, c10, c12, c14, ← hv15, Int32.not_lt.mpr c14])
              · skip
                refine g_iload hκ 0 dX11_minutesToThreat_76 rfl ?_
                refine g_istore_n hκ [(3, .int (nearF S x T (el 7 i5) m)), (6, .int (nearF S x T (el 7 i5) m)), (5, .ref (el 7 i5)), (4, .int (nI i5)), (0, .ref x), (1, .ref T), (2, .int w)] dX11_minutesToThreat_78 rfl (by decide) rfl ?_
                obtain ⟨v16, hv16⟩ : ∃ z : Int32, nI i5 + 1 = z := ⟨_, rfl⟩
                refine g_iinc hκ (k := 3) (v := v16) [(4, .int v16), (3, .int (nearF S x T (el 7 i5) m)), (6, .int (nearF S x T (el 7 i5) m)), (5, .ref (el 7 i5)), (0, .ref x), (1, .ref T), (2, .int w)] dX11_minutesToThreat_79 rfl hv16 (by decide) rfl ?_
                refine g_goto hκ 5 dX11_minutesToThreat_82 (by decide) ?_
                refine g_lv [(4, .int v16), (3, .int (nearF S x T (el 7 i5) m)), (0, .ref x), (1, .ref T), (2, .int w)] [0, 1, 4, 5, 6] rfl ?_
                exact ih5 (i5 + 1) v16 (nearF S x T (el 7 i5) m) (by omega) (lp_s rfl hv16) (by rw [hF5]; simp [thrR, liveB, c4, c7, c10, c12, c14, ← hv16, Int32.not_le.mp c14])
  exact loop5 (sz 7) 0 0 (-1) (by omega) (by first | rfl | decide) (by first | rfl | decide)
set_option maxHeartbeats 4000000 in
set_option maxRecDepth 100000 in
theorem k_minutesToSiren (S : wPS) (x lo ta : Nat) (la : Nat → Nat) (el : Nat → Nat → Nat) (sz : Nat → Nat) (T : Nat) (hM : RMx S x lo ta la el sz) (hT : T ∈ sL S ∧ sK S T = 8) : MR yX11_minutesToSiren cX11_minutesToSiren 3 (some .int) ({ frames := 6, cells := 0, slots := 0, locals := 137 }) S [.ref x, .ref T] (vp_Si (fun r => r = sirF S x el sz T)) := by
  refine stR_i (post := (fun r => r = sirF S x el sz T)) (by decide) (Nat.le_of_ble_eq_true rfl) rfl (fun _ _ => rfl) (fun κ hκ hend => ?_)
  show Gj κ _ 0 [(0, .ref x), (1, .ref T)] []
  have hMc := hM
  obtain ⟨hx, ⟨f0, L0⟩, ⟨f1, L1⟩, ⟨f2, L2⟩, ⟨f3, L3⟩, ⟨f4, L4⟩, ⟨f5, L5⟩, ⟨f6, L6⟩, ⟨f7, L7⟩, ⟨f8, L8⟩, ⟨flo, hlo⟩, ⟨fta, hta⟩⟩ := hMc
  have b0 := L0.2.2.1
  have b2 := L2.2.2.1
  have b3 := L3.2.2.1
  have b4 := L4.2.2.1
  have b5 := L5.2.2.1
  have b7 := L7.2.2.1
  have b8 := L8.2.2.1
  refine g_aload_n hκ 0 dX11_minutesToSiren_0 rfl rfl ?_
  refine g_aload_n hκ 1 dX11_minutesToSiren_1 rfl rfl ?_
  refine g_bipush hκ (v := 38) dX11_minutesToSiren_2 (by decide) ?_
  refine rV_i hκ hdR [.ref T, .int 38] sd_X11_minutesToThreat qw_831 (fun D cO H s hK hP => rc_Room hK hP hx) (k_minutesToThreat S x lo ta la el sz T 38 38 hM hT (by decide) (by decide)) ⟨rfl, rfl, Nat.le_of_ble_eq_true rfl, Nat.le_of_ble_eq_true rfl⟩ rfl rfl (Nat.le_of_ble_eq_true rfl) dX11_minutesToSiren_4 (fun r1 hr1 => ?_)
  refine g_eqi hr1 ?_
  refine g_istore_n hκ [(2, .int (thrF S x el sz T 38)), (0, .ref x), (1, .ref T)] dX11_minutesToSiren_7 rfl (by decide) rfl ?_
  refine g_iload_n hκ 0 dX11_minutesToSiren_8 rfl rfl ?_
  refine g_iconst hκ (v := (-1)) dX11_minutesToSiren_9 (by decide) ?_
  refine g_icmp_ne hκ 17 dX11_minutesToSiren_10 (by decide) (fun c2 => ?_) (fun c2 => ?_)
  · skip
    refine g_iconst hκ (v := 0) dX11_minutesToSiren_17 (by decide) ?_
    refine g_iload_n hκ 0 dX11_minutesToSiren_18 rfl rfl ?_
    refine g_bipush hκ (v := 8) dX11_minutesToSiren_19 (by decide) ?_
    refine g_isub hκ dX11_minutesToSiren_21 ?_
    refine g_max hκ hdR qw_954 ⟨Nat.le_of_ble_eq_true rfl, Nat.le_of_ble_eq_true rfl⟩ dX11_minutesToSiren_22 ?_
    exact hend _ _ _ dX11_minutesToSiren_25 (by unfold sirF; rw [if_neg c2])
  · skip
    refine g_iconst hκ (v := (-1)) dX11_minutesToSiren_13 (by decide) ?_
    refine g_goto hκ 25 dX11_minutesToSiren_14 (by decide) ?_
    exact hend _ _ _ dX11_minutesToSiren_25 (by unfold sirF; rw [if_pos c2])
set_option maxHeartbeats 4000000 in
set_option maxRecDepth 100000 in
theorem k_flightBehind (S : wPS) (x lo ta : Nat) (la : Nat → Nat) (el : Nat → Nat → Nat) (sz : Nat → Nat) (t : Nat) (hM : RMx S x lo ta la el sz) (ht : t ∈ sL S ∧ sK S t = 9) : MR yX11_flightBehind cX11_flightBehind 7 (some .int) ({ frames := 3, cells := 0, slots := 0, locals := 64 }) S [.ref x, .ref t] (vp_Si (fun r => r = behF S x el sz t)) := by
  refine stR_i (post := (fun r => r = behF S x el sz t)) (by decide) (Nat.le_of_ble_eq_true rfl) rfl (fun _ _ => rfl) (fun κ hκ hend => ?_)
  show Gj κ _ 0 [(0, .ref x), (1, .ref t)] []
  have hMc := hM
  obtain ⟨hx, ⟨f0, L0⟩, ⟨f1, L1⟩, ⟨f2, L2⟩, ⟨f3, L3⟩, ⟨f4, L4⟩, ⟨f5, L5⟩, ⟨f6, L6⟩, ⟨f7, L7⟩, ⟨f8, L8⟩, ⟨flo, hlo⟩, ⟨fta, hta⟩⟩ := hMc
  have b0 := L0.2.2.1
  have b2 := L2.2.2.1
  have b3 := L3.2.2.1
  have b4 := L4.2.2.1
  have b5 := L5.2.2.1
  have b7 := L7.2.2.1
  have b8 := L8.2.2.1
  refine g_iconst hκ (v := (-1)) dX11_flightBehind_0 (by decide) ?_
  refine g_istore_n hκ [(2, .int (-1)), (0, .ref x), (1, .ref t)] dX11_flightBehind_1 rfl (by decide) rfl ?_
  refine g_iconst hκ (v := 0) dX11_flightBehind_2 (by decide) ?_
  refine g_istore_n hκ [(3, .int 0), (2, .int (-1)), (0, .ref x), (1, .ref t)] dX11_flightBehind_3 rfl (by decide) rfl ?_
  refine g_iconst hκ (v := 0) dX11_flightBehind_4 (by decide) ?_
  refine g_istore hκ [(4, .int 0), (3, .int 0), (2, .int (-1)), (0, .ref x), (1, .ref t)] dX11_flightBehind_5 (by decide) rfl ?_
  have loop7 : ∀ (d7 i7 : Nat) (x7 : Int32) (a4 : Int32) (a5 : Int32), i7 + d7 = sz 5 → x7 = nI i7 → behF S x el sz t = behR (fun i => !decide (sI S q_Flight_isUp (el 5 i) = 0)) (fun i => farF (sI S q_Flight_x (el 5 i)) (sI S q_Flight_y (el 5 i)) (xAtF S t (sI S q_Room_minute x)) (yAtF S t (sI S q_Room_minute x))) d7 i7 a4 a5 → Gj κ (PR κ S) 7 [(4, .int x7), (3, .int a5), (2, .int a4), (0, .ref x), (1, .ref t)] [] := by
    intro d7
    induction d7 with
    | zero =>
      intro i7 x7 a4 a5 hi7 hx7 hF7
      subst hx7
      refine g_iload hκ 0 dX11_flightBehind_7 rfl ?_
      refine g_aload_n hκ 3 dX11_flightBehind_9 rfl rfl ?_
      refine gt_Room_flights hκ hdR hx qw_111 (Or.inl rfl) dX11_flightBehind_10 ?_
      refine g_rf f5 ?_
      refine rV_i hκ hdR [] sd_Jx4a65c_size_8abf5 qw_227 (fun D cO H s hK hP => rc_List hK hP L5.1) (k_sizeL S (la 5) 0 (sz 5) (el 5) L5) ⟨rfl, rfl, Nat.le_of_ble_eq_true rfl, Nat.le_of_ble_eq_true rfl⟩ rfl rfl (Nat.le_of_ble_eq_true rfl) dX11_flightBehind_13 (fun r1 hr1 => ?_)
      refine g_eqi hr1 ?_
      refine g_icmp_ge hκ 87 dX11_flightBehind_16 (by decide) (fun _ => ?_) (fun z => absurd (lp_ge rfl (by omega) (by omega)) z)
      refine g_iload_n hκ 2 dX11_flightBehind_87 rfl rfl ?_
      exact hend _ _ _ dX11_flightBehind_88 (by rw [hF7]; rfl)
    | succ d7 ih7 =>
      intro i7 x7 a4 a5 hi7 hx7 hF7
      subst hx7
      refine g_iload hκ 0 dX11_flightBehind_7 rfl ?_
      refine g_aload_n hκ 3 dX11_flightBehind_9 rfl rfl ?_
      refine gt_Room_flights hκ hdR hx qw_111 (Or.inl rfl) dX11_flightBehind_10 ?_
      refine g_rf f5 ?_
      refine rV_i hκ hdR [] sd_Jx4a65c_size_8abf5 qw_227 (fun D cO H s hK hP => rc_List hK hP L5.1) (k_sizeL S (la 5) 0 (sz 5) (el 5) L5) ⟨rfl, rfl, Nat.le_of_ble_eq_true rfl, Nat.le_of_ble_eq_true rfl⟩ rfl rfl (Nat.le_of_ble_eq_true rfl) dX11_flightBehind_13 (fun r2 hr2 => ?_)
      refine g_eqi hr2 ?_
      refine g_icmp_ge hκ 87 dX11_flightBehind_16 (by decide) (fun z => absurd z (lp_nge rfl (by omega) (by omega))) (fun _ => ?_)
      refine g_aload_n hκ 3 dX11_flightBehind_19 rfl rfl ?_
      refine gt_Room_flights hκ hdR hx qw_111 (Or.inl rfl) dX11_flightBehind_20 ?_
      refine g_rf f5 ?_
      refine g_iload hκ 0 dX11_flightBehind_23 rfl ?_
      refine rV_q hκ hdR [.int (nI i7)] sd_Jx4a65c_get_915e3 qw_440 (fun D cO H s hK hP => rc_List hK hP L5.1) (k_get S (la 5) 0 (sz 5) i7 (el 5) (nI i7) L5 rfl (by omega)) ⟨rfl, rfl, Nat.le_of_ble_eq_true rfl, Nat.le_of_ble_eq_true rfl⟩ rfl rfl (Nat.le_of_ble_eq_true rfl) dX11_flightBehind_25 (fun r3 hr3 => ?_)
      refine g_rf hr3 ?_
      refine gc_Flight hκ hdR (L5.2.2.2.2 i7 (by omega)) qw_553 dX11_flightBehind_28 ?_
      refine g_astore hκ [(5, .ref (el 5 i7)), (4, .int (nI i7)), (3, .int a5), (2, .int a4), (0, .ref x), (1, .ref t)] dX11_flightBehind_31 (by decide) rfl ?_
      refine g_aload hκ 0 dX11_flightBehind_33 rfl ?_
      refine gtN_Flight_isUp (host := "Plotroom") hκ hdR (L5.2.2.2.2 i7 (by omega)) (by decide +kernel) (Or.inl rfl) dX11_flightBehind_35 ?_
      refine g_if_eq hκ 81 dX11_flightBehind_38 (by decide) (fun c4 => ?_) (fun c4 => ?_)
      · skip
        obtain ⟨v5, hv5⟩ : ∃ z : Int32, nI i7 + 1 = z := ⟨_, rfl⟩
        refine g_iinc hκ (k := 1) (v := v5) [(4, .int v5), (5, .ref (el 5 i7)), (3, .int a5), (2, .int a4), (0, .ref x), (1, .ref t)] dX11_flightBehind_81 rfl hv5 (by decide) rfl ?_
        refine g_goto hκ 7 dX11_flightBehind_84 (by decide) ?_
        refine g_lv [(4, .int v5), (3, .int a5), (2, .int a4), (0, .ref x), (1, .ref t)] [0, 2, 3, 4, 5] rfl ?_
        exact ih7 (i7 + 1) v5 a4 a5 (by omega) (lp_s rfl hv5) (by rw [hF7]; simp [behR, c4, ← hv5])
      · skip
        refine g_aload hκ 0 dX11_flightBehind_41 rfl ?_
        refine g_aload_n hκ 5 dX11_flightBehind_43 rfl rfl ?_
        refine g_aload_n hκ 4 dX11_flightBehind_44 rfl rfl ?_
        refine gt_Room_minute hκ hdR hx qw_118 (Or.inl rfl) dX11_flightBehind_45 ?_
        refine rV_i hκ hdR [.int (sI S q_Room_minute x)] sd_X10_xAt qw_676 (fun D cO H s hK hP => rc_Track hK hP ht) (k_xAt S t (sI S q_Room_minute x) ht) ⟨rfl, rfl, Nat.le_of_ble_eq_true rfl, Nat.le_of_ble_eq_true rfl⟩ rfl rfl (Nat.le_of_ble_eq_true rfl) dX11_flightBehind_48 (fun r6 hr6 => ?_)
        refine g_eqi hr6 ?_
        refine g_aload_n hκ 5 dX11_flightBehind_51 rfl rfl ?_
        refine g_aload_n hκ 4 dX11_flightBehind_52 rfl rfl ?_
        refine gt_Room_minute hκ hdR hx qw_118 (Or.inl rfl) dX11_flightBehind_53 ?_
        refine rV_i hκ hdR [.int (sI S q_Room_minute x)] sd_X10_yAt qw_681 (fun D cO H s hK hP => rc_Track hK hP ht) (k_yAt S t (sI S q_Room_minute x) ht) ⟨rfl, rfl, Nat.le_of_ble_eq_true rfl, Nat.le_of_ble_eq_true rfl⟩ rfl rfl (Nat.le_of_ble_eq_true rfl) dX11_flightBehind_56 (fun r7 hr7 => ?_)
        refine g_eqi hr7 ?_
        refine rU_i hκ hdR [.int (xAtF S t (sI S q_Room_minute x)), .int (yAtF S t (sI S q_Room_minute x))] (ud_X4_farFrom_Flight) qw_795 (by decide +kernel) (fun D cO H s hK hP => rc_Flight hK hP (L5.2.2.2.2 i7 (by omega))) (k_farFrom_Flight S (el 5 i7) (xAtF S t (sI S q_Room_minute x)) (yAtF S t (sI S q_Room_minute x)) (L5.2.2.2.2 i7 (by omega))) ⟨rfl, rfl, Nat.le_of_ble_eq_true rfl, Nat.le_of_ble_eq_true rfl⟩ rfl rfl (Nat.le_of_ble_eq_true rfl) dX11_flightBehind_59 (fun r8 hr8 => ?_)
        refine g_eqi hr8 ?_
        refine g_istore hκ [(6, .int (farF (sI S q_Flight_x (el 5 i7)) (sI S q_Flight_y (el 5 i7)) (xAtF S t (sI S q_Room_minute x)) (yAtF S t (sI S q_Room_minute x)))), (5, .ref (el 5 i7)), (4, .int (nI i7)), (3, .int a5), (2, .int a4), (0, .ref x), (1, .ref t)] dX11_flightBehind_62 (by decide) rfl ?_
        refine g_iload_n hκ 4 dX11_flightBehind_64 rfl rfl ?_
        refine g_iconst hκ (v := (-1)) dX11_flightBehind_65 (by decide) ?_
        refine g_icmp_eq hκ 75 dX11_flightBehind_66 (by decide) (fun c9 => ?_) (fun c9 => ?_)
        · skip
          refine g_iload hκ 2 dX11_flightBehind_75 rfl ?_
          refine g_istore_n hκ [(2, .int (nI i7)), (6, .int (farF (sI S q_Flight_x (el 5 i7)) (sI S q_Flight_y (el 5 i7)) (xAtF S t (sI S q_Room_minute x)) (yAtF S t (sI S q_Room_minute x)))), (5, .ref (el 5 i7)), (4, .int (nI i7)), (3, .int a5), (0, .ref x), (1, .ref t)] dX11_flightBehind_77 rfl (by decide) rfl ?_
          refine g_iload hκ 1 dX11_flightBehind_78 rfl ?_
          refine g_istore_n hκ [(3, .int (farF (sI S q_Flight_x (el 5 i7)) (sI S q_Flight_y (el 5 i7)) (xAtF S t (sI S q_Room_minute x)) (yAtF S t (sI S q_Room_minute x)))), (2, .int (nI i7)), (6, .int (farF (sI S q_Flight_x (el 5 i7)) (sI S q_Flight_y (el 5 i7)) (xAtF S t (sI S q_Room_minute x)) (yAtF S t (sI S q_Room_minute x)))), (5, .ref (el 5 i7)), (4, .int (nI i7)), (0, .ref x), (1, .ref t)] dX11_flightBehind_80 rfl (by decide) rfl ?_
          obtain ⟨v10, hv10⟩ : ∃ z : Int32, nI i7 + 1 = z := ⟨_, rfl⟩
          refine g_iinc hκ (k := 4) (v := v10) [(4, .int v10), (3, .int (farF (sI S q_Flight_x (el 5 i7)) (sI S q_Flight_y (el 5 i7)) (xAtF S t (sI S q_Room_minute x)) (yAtF S t (sI S q_Room_minute x)))), (2, .int (nI i7)), (6, .int (farF (sI S q_Flight_x (el 5 i7)) (sI S q_Flight_y (el 5 i7)) (xAtF S t (sI S q_Room_minute x)) (yAtF S t (sI S q_Room_minute x)))), (5, .ref (el 5 i7)), (0, .ref x), (1, .ref t)] dX11_flightBehind_81 rfl hv10 (by decide) rfl ?_
          refine g_goto hκ 7 dX11_flightBehind_84 (by decide) ?_
          refine g_lv [(4, .int v10), (3, .int (farF (sI S q_Flight_x (el 5 i7)) (sI S q_Flight_y (el 5 i7)) (xAtF S t (sI S q_Room_minute x)) (yAtF S t (sI S q_Room_minute x)))), (2, .int (nI i7)), (0, .ref x), (1, .ref t)] [0, 1, 2, 5, 6] rfl ?_
          exact ih7 (i7 + 1) v10 (nI i7) (farF (sI S q_Flight_x (el 5 i7)) (sI S q_Flight_y (el 5 i7)) (xAtF S t (sI S q_Room_minute x)) (yAtF S t (sI S q_Room_minute x))) (by omega) (lp_s rfl hv10) (by rw [hF7]; simp [behR, c4, c9, ← hv10])
        · skip
          refine g_iload hκ 0 dX11_flightBehind_69 rfl ?_
          refine g_iload_n hκ 3 dX11_flightBehind_71 rfl rfl ?_
          refine g_icmp_ge hκ 81 dX11_flightBehind_72 (by decide) (fun c11 => ?_) (fun c11 => ?_)
          · skip
            obtain ⟨v12, hv12⟩ : ∃ z : Int32, nI i7 + 1 = z := ⟨_, rfl⟩
            refine g_iinc hκ (k := 2) (v := v12) [(4, .int v12), (6, .int (farF (sI S q_Flight_x (el 5 i7)) (sI S q_Flight_y (el 5 i7)) (xAtF S t (sI S q_Room_minute x)) (yAtF S t (sI S q_Room_minute x)))), (5, .ref (el 5 i7)), (3, .int a5), (2, .int a4), (0, .ref x), (1, .ref t)] dX11_flightBehind_81 rfl hv12 (by decide) rfl ?_
            refine g_goto hκ 7 dX11_flightBehind_84 (by decide) ?_
            refine g_lv [(4, .int v12), (3, .int a5), (2, .int a4), (0, .ref x), (1, .ref t)] [0, 3, 4, 5, 6] rfl ?_
            exact ih7 (i7 + 1) v12 a4 a5 (by omega) (lp_s rfl hv12) (by rw [hF7]; simp [behR, c4, c9, c11, ← hv12, Int32.not_lt.mpr c11])
          · skip
            refine g_iload hκ 2 dX11_flightBehind_75 rfl ?_
            refine g_istore_n hκ [(2, .int (nI i7)), (6, .int (farF (sI S q_Flight_x (el 5 i7)) (sI S q_Flight_y (el 5 i7)) (xAtF S t (sI S q_Room_minute x)) (yAtF S t (sI S q_Room_minute x)))), (5, .ref (el 5 i7)), (4, .int (nI i7)), (3, .int a5), (0, .ref x), (1, .ref t)] dX11_flightBehind_77 rfl (by decide) rfl ?_
            refine g_iload hκ 1 dX11_flightBehind_78 rfl ?_
            refine g_istore_n hκ [(3, .int (farF (sI S q_Flight_x (el 5 i7)) (sI S q_Flight_y (el 5 i7)) (xAtF S t (sI S q_Room_minute x)) (yAtF S t (sI S q_Room_minute x)))), (2, .int (nI i7)), (6, .int (farF (sI S q_Flight_x (el 5 i7)) (sI S q_Flight_y (el 5 i7)) (xAtF S t (sI S q_Room_minute x)) (yAtF S t (sI S q_Room_minute x)))), (5, .ref (el 5 i7)), (4, .int (nI i7)), (0, .ref x), (1, .ref t)] dX11_flightBehind_80 rfl (by decide) rfl ?_
            obtain ⟨v13, hv13⟩ : ∃ z : Int32, nI i7 + 1 = z := ⟨_, rfl⟩
            refine g_iinc hκ (k := 4) (v := v13) [(4, .int v13), (3, .int (farF (sI S q_Flight_x (el 5 i7)) (sI S q_Flight_y (el 5 i7)) (xAtF S t (sI S q_Room_minute x)) (yAtF S t (sI S q_Room_minute x)))), (2, .int (nI i7)), (6, .int (farF (sI S q_Flight_x (el 5 i7)) (sI S q_Flight_y (el 5 i7)) (xAtF S t (sI S q_Room_minute x)) (yAtF S t (sI S q_Room_minute x)))), (5, .ref (el 5 i7)), (0, .ref x), (1, .ref t)] dX11_flightBehind_81 rfl hv13 (by decide) rfl ?_
            refine g_goto hκ 7 dX11_flightBehind_84 (by decide) ?_
            refine g_lv [(4, .int v13), (3, .int (farF (sI S q_Flight_x (el 5 i7)) (sI S q_Flight_y (el 5 i7)) (xAtF S t (sI S q_Room_minute x)) (yAtF S t (sI S q_Room_minute x)))), (2, .int (nI i7)), (0, .ref x), (1, .ref t)] [0, 1, 2, 5, 6] rfl ?_
            exact ih7 (i7 + 1) v13 (nI i7) (farF (sI S q_Flight_x (el 5 i7)) (sI S q_Flight_y (el 5 i7)) (xAtF S t (sI S q_Room_minute x)) (yAtF S t (sI S q_Room_minute x))) (by omega) (lp_s rfl hv13) (by rw [hF7]; simp [behR, c4, c9, c11, ← hv13, Int32.not_le.mp c11])
  exact loop7 (sz 5) 0 0 (-1) 0 (by omega) (by first | rfl | decide) (by first | rfl | decide)
set_option maxHeartbeats 4000000 in
set_option maxRecDepth 100000 in
theorem k_countSentTo (S : wPS) (x lo ta : Nat) (la : Nat → Nat) (el : Nat → Nat → Nat) (sz : Nat → Nat) (t : Nat) (hM : RMx S x lo ta la el sz) (ht : t ∈ sL S ∧ sK S t = 9) (hSQ : SQx S el sz) : MR yX11_countSentTo cX11_countSentTo 5 (some .int) ({ frames := 3, cells := 0, slots := 0, locals := 64 }) S [.ref x, .ref t] (vp_Si (fun r => r = countSentF S el sz t)) := by
  refine stR_i (post := (fun r => r = countSentF S el sz t)) (by decide) (Nat.le_of_ble_eq_true rfl) rfl (fun _ _ => rfl) (fun κ hκ hend => ?_)
  show Gj κ _ 0 [(0, .ref x), (1, .ref t)] []
  have hMc := hM
  obtain ⟨hx, ⟨f0, L0⟩, ⟨f1, L1⟩, ⟨f2, L2⟩, ⟨f3, L3⟩, ⟨f4, L4⟩, ⟨f5, L5⟩, ⟨f6, L6⟩, ⟨f7, L7⟩, ⟨f8, L8⟩, ⟨flo, hlo⟩, ⟨fta, hta⟩⟩ := hMc
  have b0 := L0.2.2.1
  have b2 := L2.2.2.1
  have b3 := L3.2.2.1
  have b4 := L4.2.2.1
  have b5 := L5.2.2.1
  have b7 := L7.2.2.1
  have b8 := L8.2.2.1
  refine g_iconst hκ (v := 0) dX11_countSentTo_0 (by decide) ?_
  refine g_istore_n hκ [(2, .int 0), (0, .ref x), (1, .ref t)] dX11_countSentTo_1 rfl (by decide) rfl ?_
  refine g_iconst hκ (v := 0) dX11_countSentTo_2 (by decide) ?_
  refine g_istore_n hκ [(3, .int 0), (2, .int 0), (0, .ref x), (1, .ref t)] dX11_countSentTo_3 rfl (by decide) rfl ?_
  have loop4 : ∀ (d4 i4 : Nat) (x4 : Int32) (a4 : Int32), i4 + d4 = sz 2 → x4 = nI i4 → countSentF S el sz t = cntR (fun i => talkB S (el 2 i) && decide (tnF S (el 2 i) = sI S q_Track_number t)) d4 i4 a4 → Gj κ (PR κ S) 4 [(3, .int x4), (2, .int a4), (0, .ref x), (1, .ref t)] [] := by
    intro d4
    induction d4 with
    | zero =>
      intro i4 x4 a4 hi4 hx4 hF4
      subst hx4
      refine g_iload_n hκ 0 dX11_countSentTo_4 rfl rfl ?_
      refine g_aload_n hκ 2 dX11_countSentTo_5 rfl rfl ?_
      refine gt_Room_squadrons hκ hdR hx qw_108 (Or.inl rfl) dX11_countSentTo_6 ?_
      refine g_rf f2 ?_
      refine rV_i hκ hdR [] sd_Jx4a65c_size_8abf5 qw_227 (fun D cO H s hK hP => rc_List hK hP L2.1) (k_sizeL S (la 2) 6 (sz 2) (el 2) L2) ⟨rfl, rfl, Nat.le_of_ble_eq_true rfl, Nat.le_of_ble_eq_true rfl⟩ rfl rfl (Nat.le_of_ble_eq_true rfl) dX11_countSentTo_9 (fun r1 hr1 => ?_)
      refine g_eqi hr1 ?_
      refine g_icmp_ge hκ 57 dX11_countSentTo_12 (by decide) (fun _ => ?_) (fun z => absurd (lp_ge rfl (by omega) (by omega)) z)
      refine g_iload_n hκ 1 dX11_countSentTo_57 rfl rfl ?_
      exact hend _ _ _ dX11_countSentTo_58 (by rw [hF4]; rfl)
    | succ d4 ih4 =>
      intro i4 x4 a4 hi4 hx4 hF4
      subst hx4
      refine g_iload_n hκ 0 dX11_countSentTo_4 rfl rfl ?_
      refine g_aload_n hκ 2 dX11_countSentTo_5 rfl rfl ?_
      refine gt_Room_squadrons hκ hdR hx qw_108 (Or.inl rfl) dX11_countSentTo_6 ?_
      refine g_rf f2 ?_
      refine rV_i hκ hdR [] sd_Jx4a65c_size_8abf5 qw_227 (fun D cO H s hK hP => rc_List hK hP L2.1) (k_sizeL S (la 2) 6 (sz 2) (el 2) L2) ⟨rfl, rfl, Nat.le_of_ble_eq_true rfl, Nat.le_of_ble_eq_true rfl⟩ rfl rfl (Nat.le_of_ble_eq_true rfl) dX11_countSentTo_9 (fun r2 hr2 => ?_)
      refine g_eqi hr2 ?_
      refine g_icmp_ge hκ 57 dX11_countSentTo_12 (by decide) (fun z => absurd z (lp_nge rfl (by omega) (by omega))) (fun _ => ?_)
      refine g_aload_n hκ 2 dX11_countSentTo_15 rfl rfl ?_
      refine gt_Room_squadrons hκ hdR hx qw_108 (Or.inl rfl) dX11_countSentTo_16 ?_
      refine g_rf f2 ?_
      refine g_iload_n hκ 0 dX11_countSentTo_19 rfl rfl ?_
      refine rV_q hκ hdR [.int (nI i4)] sd_Jx4a65c_get_915e3 qw_440 (fun D cO H s hK hP => rc_List hK hP L2.1) (k_get S (la 2) 6 (sz 2) i4 (el 2) (nI i4) L2 rfl (by omega)) ⟨rfl, rfl, Nat.le_of_ble_eq_true rfl, Nat.le_of_ble_eq_true rfl⟩ rfl rfl (Nat.le_of_ble_eq_true rfl) dX11_countSentTo_20 (fun r3 hr3 => ?_)
      refine g_rf hr3 ?_
      refine gc_Squadron hκ hdR (L2.2.2.2.2 i4 (by omega)) qw_438 dX11_countSentTo_23 ?_
      refine g_astore hκ [(4, .ref (el 2 i4)), (3, .int (nI i4)), (2, .int a4), (0, .ref x), (1, .ref t)] dX11_countSentTo_26 (by decide) rfl ?_
      refine g_aload hκ 0 dX11_countSentTo_28 rfl ?_
      refine rV_i hκ hdR [] sd_X7_isTalkedTo qw_906 (fun D cO H s hK hP => rc_Squadron hK hP (L2.2.2.2.2 i4 (by omega))) (k_isTalkedTo S (el 2 i4) (L2.2.2.2.2 i4 (by omega))) ⟨rfl, rfl, Nat.le_of_ble_eq_true rfl, Nat.le_of_ble_eq_true rfl⟩ rfl rfl (Nat.le_of_ble_eq_true rfl) dX11_countSentTo_30 (fun r4 hr4 => ?_)
      obtain ⟨b5, rfl⟩ | ⟨b5, rfl⟩ := zb_cases hr4
      · skip
        refine g_if_eq hκ 51 dX11_countSentTo_33 (by decide) (fun z => absurd z (by decide)) (fun _ => ?_)
        refine g_aload hκ 0 dX11_countSentTo_36 rfl ?_
        refine rV_i hκ hdR [] sd_X7_targetNumber qw_1014 (fun D cO H s hK hP => rc_Squadron hK hP (L2.2.2.2.2 i4 (by omega))) (k_targetNumber S (el 2 i4) (L2.2.2.2.2 i4 (by omega)) (hSQ i4 (by omega)).2) ⟨rfl, rfl, Nat.le_of_ble_eq_true rfl, Nat.le_of_ble_eq_true rfl⟩ rfl rfl (Nat.le_of_ble_eq_true rfl) dX11_countSentTo_38 (fun r6 hr6 => ?_)
        refine g_eqi hr6 ?_
        refine g_aload_n hκ 4 dX11_countSentTo_41 rfl rfl ?_
        refine gtN_Track_number (host := "Plotroom") hκ hdR ht (by decide +kernel) (Or.inl rfl) dX11_countSentTo_42 ?_
        refine g_icmp_ne hκ 51 dX11_countSentTo_45 (by decide) (fun c7 => ?_) (fun c7 => ?_)
        · skip
          obtain ⟨v8, hv8⟩ : ∃ z : Int32, nI i4 + 1 = z := ⟨_, rfl⟩
          refine g_iinc hκ (k := 1) (v := v8) [(3, .int v8), (4, .ref (el 2 i4)), (2, .int a4), (0, .ref x), (1, .ref t)] dX11_countSentTo_51 rfl hv8 (by decide) rfl ?_
          refine g_goto hκ 4 dX11_countSentTo_54 (by decide) ?_
          refine g_lv [(3, .int v8), (2, .int a4), (0, .ref x), (1, .ref t)] [0, 2, 3, 4] rfl ?_
          exact ih4 (i4 + 1) v8 a4 (by omega) (lp_s rfl hv8) (by rw [hF4]; simp [cntR, b5, c7, ← hv8])
        · skip
          obtain ⟨v9, hv9⟩ : ∃ z : Int32, a4 + 1 = z := ⟨_, rfl⟩
          refine g_iinc hκ (k := 2) (v := v9) [(2, .int v9), (4, .ref (el 2 i4)), (3, .int (nI i4)), (0, .ref x), (1, .ref t)] dX11_countSentTo_48 rfl hv9 (by decide) rfl ?_
          obtain ⟨v10, hv10⟩ : ∃ z : Int32, nI i4 + 1 = z := ⟨_, rfl⟩
          refine g_iinc hκ (k := 2) (v := v10) [(3, .int v10), (2, .int v9), (4, .ref (el 2 i4)), (0, .ref x), (1, .ref t)] dX11_countSentTo_51 rfl hv10 (by decide) rfl ?_
          refine g_goto hκ 4 dX11_countSentTo_54 (by decide) ?_
          refine g_lv [(3, .int v10), (2, .int v9), (0, .ref x), (1, .ref t)] [0, 1, 3, 4] rfl ?_
          exact ih4 (i4 + 1) v10 v9 (by omega) (lp_s rfl hv10) (by rw [hF4]; simp [cntR, b5, c7, ← hv9, ← hv10])
      · skip
        refine g_if_eq hκ 51 dX11_countSentTo_33 (by decide) (fun _ => ?_) (fun z => absurd z (by decide))
        obtain ⟨v11, hv11⟩ : ∃ z : Int32, nI i4 + 1 = z := ⟨_, rfl⟩
        refine g_iinc hκ (k := 1) (v := v11) [(3, .int v11), (4, .ref (el 2 i4)), (2, .int a4), (0, .ref x), (1, .ref t)] dX11_countSentTo_51 rfl hv11 (by decide) rfl ?_
        refine g_goto hκ 4 dX11_countSentTo_54 (by decide) ?_
        refine g_lv [(3, .int v11), (2, .int a4), (0, .ref x), (1, .ref t)] [0, 2, 3, 4] rfl ?_
        exact ih4 (i4 + 1) v11 a4 (by omega) (lp_s rfl hv11) (by rw [hF4]; simp [cntR, b5, ← hv11])
  exact loop4 (sz 2) 0 0 0 (by omega) (by first | rfl | decide) (by first | rfl | decide)
set_option maxHeartbeats 4000000 in
set_option maxRecDepth 100000 in
theorem k_soonest (S : wPS) (x lo ta : Nat) (la : Nat → Nat) (el : Nat → Nat → Nat) (sz : Nat → Nat) (t : Nat) (hM : RMx S x lo ta la el sz) (ht : t ∈ sL S ∧ sK S t = 9) : MR yX11_soonestSquadron cX11_soonestSquadron 9 (some .int) ({ frames := 3, cells := 0, slots := 0, locals := 64 }) S [.ref x, .ref t] (vp_Si (fun r => r = bestF S x el sz t)) := by
  refine stR_i (post := (fun r => r = bestF S x el sz t)) (by decide) (Nat.le_of_ble_eq_true rfl) rfl (fun _ _ => rfl) (fun κ hκ hend => ?_)
  show Gj κ _ 0 [(0, .ref x), (1, .ref t)] []
  have hMc := hM
  obtain ⟨hx, ⟨f0, L0⟩, ⟨f1, L1⟩, ⟨f2, L2⟩, ⟨f3, L3⟩, ⟨f4, L4⟩, ⟨f5, L5⟩, ⟨f6, L6⟩, ⟨f7, L7⟩, ⟨f8, L8⟩, ⟨flo, hlo⟩, ⟨fta, hta⟩⟩ := hMc
  have b0 := L0.2.2.1
  have b2 := L2.2.2.1
  have b3 := L3.2.2.1
  have b4 := L4.2.2.1
  have b5 := L5.2.2.1
  have b7 := L7.2.2.1
  have b8 := L8.2.2.1
  refine g_iconst hκ (v := (-1)) dX11_soonestSquadron_0 (by decide) ?_
  refine g_istore_n hκ [(2, .int (-1)), (0, .ref x), (1, .ref t)] dX11_soonestSquadron_1 rfl (by decide) rfl ?_
  refine g_iconst hκ (v := 0) dX11_soonestSquadron_2 (by decide) ?_
  refine g_istore_n hκ [(3, .int 0), (2, .int (-1)), (0, .ref x), (1, .ref t)] dX11_soonestSquadron_3 rfl (by decide) rfl ?_
  refine g_iconst hκ (v := 0) dX11_soonestSquadron_4 (by decide) ?_
  refine g_istore hκ [(4, .int 0), (3, .int 0), (2, .int (-1)), (0, .ref x), (1, .ref t)] dX11_soonestSquadron_5 (by decide) rfl ?_
  refine g_iconst hκ (v := 0) dX11_soonestSquadron_7 (by decide) ?_
  refine g_istore hκ [(5, .int 0), (4, .int 0), (3, .int 0), (2, .int (-1)), (0, .ref x), (1, .ref t)] dX11_soonestSquadron_8 (by decide) rfl ?_
  have loop10 : ∀ (d10 i10 : Nat) (x10 : Int32) (a4 : Int32) (a5 : Int32) (a6 : Int32), i10 + d10 = sz 2 → x10 = nI i10 → bestF S x el sz t = bestR (fun i => flownF S x (el 2 i) t) (fun i => sI S q_Squadron_ready (el 2 i) + flownF S x (el 2 i) t) (fun i => sI S q_Squadron_machines (el 2 i)) (fun i => decide (2 * flownF S x (el 2 i) t ≤ sI S q_Squadron_tank (el 2 i) - 3)) d10 i10 a4 a5 a6 → Gj κ (PR κ S) 10 [(5, .int x10), (4, .int a6), (3, .int a5), (2, .int a4), (0, .ref x), (1, .ref t)] [] := by
    intro d10
    induction d10 with
    | zero =>
      intro i10 x10 a4 a5 a6 hi10 hx10 hF10
      subst hx10
      refine g_iload hκ 0 dX11_soonestSquadron_10 rfl ?_
      refine g_aload_n hκ 4 dX11_soonestSquadron_12 rfl rfl ?_
      refine gt_Room_squadrons hκ hdR hx qw_108 (Or.inl rfl) dX11_soonestSquadron_13 ?_
      refine g_rf f2 ?_
      refine rV_i hκ hdR [] sd_Jx4a65c_size_8abf5 qw_227 (fun D cO H s hK hP => rc_List hK hP L2.1) (k_sizeL S (la 2) 6 (sz 2) (el 2) L2) ⟨rfl, rfl, Nat.le_of_ble_eq_true rfl, Nat.le_of_ble_eq_true rfl⟩ rfl rfl (Nat.le_of_ble_eq_true rfl) dX11_soonestSquadron_16 (fun r1 hr1 => ?_)
      refine g_eqi hr1 ?_
      refine g_icmp_ge hκ 145 dX11_soonestSquadron_19 (by decide) (fun _ => ?_) (fun z => absurd (lp_ge rfl (by omega) (by omega)) z)
      refine g_iload_n hκ 3 dX11_soonestSquadron_145 rfl rfl ?_
      exact hend _ _ _ dX11_soonestSquadron_146 (by rw [hF10]; rfl)
    | succ d10 ih10 =>
      intro i10 x10 a4 a5 a6 hi10 hx10 hF10
      subst hx10
      refine g_iload hκ 0 dX11_soonestSquadron_10 rfl ?_
      refine g_aload_n hκ 4 dX11_soonestSquadron_12 rfl rfl ?_
      refine gt_Room_squadrons hκ hdR hx qw_108 (Or.inl rfl) dX11_soonestSquadron_13 ?_
      refine g_rf f2 ?_
      refine rV_i hκ hdR [] sd_Jx4a65c_size_8abf5 qw_227 (fun D cO H s hK hP => rc_List hK hP L2.1) (k_sizeL S (la 2) 6 (sz 2) (el 2) L2) ⟨rfl, rfl, Nat.le_of_ble_eq_true rfl, Nat.le_of_ble_eq_true rfl⟩ rfl rfl (Nat.le_of_ble_eq_true rfl) dX11_soonestSquadron_16 (fun r2 hr2 => ?_)
      refine g_eqi hr2 ?_
      refine g_icmp_ge hκ 145 dX11_soonestSquadron_19 (by decide) (fun z => absurd z (lp_nge rfl (by omega) (by omega))) (fun _ => ?_)
      refine g_aload_n hκ 4 dX11_soonestSquadron_22 rfl rfl ?_
      refine gt_Room_squadrons hκ hdR hx qw_108 (Or.inl rfl) dX11_soonestSquadron_23 ?_
      refine g_rf f2 ?_
      refine g_iload hκ 0 dX11_soonestSquadron_26 rfl ?_
      refine rV_q hκ hdR [.int (nI i10)] sd_Jx4a65c_get_915e3 qw_440 (fun D cO H s hK hP => rc_List hK hP L2.1) (k_get S (la 2) 6 (sz 2) i10 (el 2) (nI i10) L2 rfl (by omega)) ⟨rfl, rfl, Nat.le_of_ble_eq_true rfl, Nat.le_of_ble_eq_true rfl⟩ rfl rfl (Nat.le_of_ble_eq_true rfl) dX11_soonestSquadron_28 (fun r3 hr3 => ?_)
      refine g_rf hr3 ?_
      refine gc_Squadron hκ hdR (L2.2.2.2.2 i10 (by omega)) qw_438 dX11_soonestSquadron_31 ?_
      refine g_astore hκ [(6, .ref (el 2 i10)), (5, .int (nI i10)), (4, .int a6), (3, .int a5), (2, .int a4), (0, .ref x), (1, .ref t)] dX11_soonestSquadron_34 (by decide) rfl ?_
      refine g_aload hκ 0 dX11_soonestSquadron_36 rfl ?_
      refine rV_i hκ hdR [] sd_X7_canStart qw_935 (fun D cO H s hK hP => rc_Squadron hK hP (L2.2.2.2.2 i10 (by omega))) (k_canStart S (el 2 i10) (L2.2.2.2.2 i10 (by omega))) ⟨rfl, rfl, Nat.le_of_ble_eq_true rfl, Nat.le_of_ble_eq_true rfl⟩ rfl rfl (Nat.le_of_ble_eq_true rfl) dX11_soonestSquadron_38 (fun r4 hr4 => ?_)
      obtain ⟨b5, rfl⟩ | ⟨b5, rfl⟩ := zb_cases hr4
      · skip
        refine g_if_eq hκ 63 dX11_soonestSquadron_41 (by decide) (fun z => absurd z (by decide)) (fun _ => ?_)
        refine g_aload hκ 0 dX11_soonestSquadron_44 rfl ?_
        refine g_aload_n hκ 6 dX11_soonestSquadron_46 rfl rfl ?_
        refine g_aload_n hκ 5 dX11_soonestSquadron_47 rfl rfl ?_
        refine gt_Room_minute hκ hdR hx qw_118 (Or.inl rfl) dX11_soonestSquadron_48 ?_
        refine g_aload hκ 0 dX11_soonestSquadron_51 rfl ?_
        refine gtN_Squadron_ready (host := "Plotroom") hκ hdR (L2.2.2.2.2 i10 (by omega)) (by decide +kernel) (Or.inl rfl) dX11_soonestSquadron_53 ?_
        refine g_iadd hκ dX11_soonestSquadron_56 ?_
        refine rV_i hκ hdR [.ref t, .int ((sI S q_Room_minute x) + (sI S q_Squadron_ready (el 2 i10)))] sd_X7_minutesToMeet qw_939 (fun D cO H s hK hP => rc_Squadron hK hP (L2.2.2.2.2 i10 (by omega))) (k_minutesToMeet S (el 2 i10) t ((sI S q_Room_minute x) + (sI S q_Squadron_ready (el 2 i10))) (L2.2.2.2.2 i10 (by omega)) ht) ⟨rfl, rfl, Nat.le_of_ble_eq_true rfl, Nat.le_of_ble_eq_true rfl⟩ rfl rfl (Nat.le_of_ble_eq_true rfl) dX11_soonestSquadron_57 (fun r6 hr6 => ?_)
        refine g_eqi hr6 ?_
        refine g_goto hκ 64 dX11_soonestSquadron_60 (by decide) ?_
        refine g_istore hκ [(7, .int (mtmF S (el 2 i10) t ((sI S q_Room_minute x) + (sI S q_Squadron_ready (el 2 i10))))), (6, .ref (el 2 i10)), (5, .int (nI i10)), (4, .int a6), (3, .int a5), (2, .int a4), (0, .ref x), (1, .ref t)] dX11_soonestSquadron_64 (by decide) rfl ?_
        refine g_iload hκ 0 dX11_soonestSquadron_66 rfl ?_
        refine g_iconst hκ (v := (-1)) dX11_soonestSquadron_68 (by decide) ?_
        refine g_icmp_eq hκ 139 dX11_soonestSquadron_69 (by decide) (fun c7 => ?_) (fun c7 => ?_)
        · skip
          obtain ⟨v8, hv8⟩ : ∃ z : Int32, nI i10 + 1 = z := ⟨_, rfl⟩
          refine g_iinc hκ (k := 2) (v := v8) [(5, .int v8), (7, .int (mtmF S (el 2 i10) t ((sI S q_Room_minute x) + (sI S q_Squadron_ready (el 2 i10))))), (6, .ref (el 2 i10)), (4, .int a6), (3, .int a5), (2, .int a4), (0, .ref x), (1, .ref t)] dX11_soonestSquadron_139 rfl hv8 (by decide) rfl ?_
          refine g_goto hκ 10 dX11_soonestSquadron_142 (by decide) ?_
          refine g_lv [(5, .int v8), (4, .int a6), (3, .int a5), (2, .int a4), (0, .ref x), (1, .ref t)] [0, 3, 4, 5, 6, 7] rfl ?_
          exact ih10 (i10 + 1) v8 a4 a5 a6 (by omega) (lp_s rfl hv8) (by rw [hF10]; simp [bestR, flownF, b5, c7, ← hv8])
        · skip
          refine g_iconst hκ (v := 2) dX11_soonestSquadron_72 (by decide) ?_
          refine g_iload hκ 0 dX11_soonestSquadron_73 rfl ?_
          refine g_imul hκ dX11_soonestSquadron_75 ?_
          refine g_aload hκ 1 dX11_soonestSquadron_76 rfl ?_
          refine gtN_Squadron_tank (host := "Plotroom") hκ hdR (L2.2.2.2.2 i10 (by omega)) (by decide +kernel) (Or.inl rfl) dX11_soonestSquadron_78 ?_
          refine g_iconst hκ (v := 3) dX11_soonestSquadron_81 (by decide) ?_
          refine g_isub hκ dX11_soonestSquadron_82 ?_
          refine g_icmp_le hκ 89 dX11_soonestSquadron_83 (by decide) (fun c9 => ?_) (fun c9 => ?_)
          · skip
            refine g_aload hκ 1 dX11_soonestSquadron_89 rfl ?_
            refine gtN_Squadron_ready (host := "Plotroom") hκ hdR (L2.2.2.2.2 i10 (by omega)) (by decide +kernel) (Or.inl rfl) dX11_soonestSquadron_91 ?_
            refine g_iload hκ 0 dX11_soonestSquadron_94 rfl ?_
            refine g_iadd hκ dX11_soonestSquadron_96 ?_
            refine g_istore hκ [(8, .int ((sI S q_Squadron_ready (el 2 i10)) + (mtmF S (el 2 i10) t ((sI S q_Room_minute x) + (sI S q_Squadron_ready (el 2 i10)))))), (7, .int (mtmF S (el 2 i10) t ((sI S q_Room_minute x) + (sI S q_Squadron_ready (el 2 i10))))), (6, .ref (el 2 i10)), (5, .int (nI i10)), (4, .int a6), (3, .int a5), (2, .int a4), (0, .ref x), (1, .ref t)] dX11_soonestSquadron_97 (by decide) rfl ?_
            refine g_iload_n hκ 6 dX11_soonestSquadron_99 rfl rfl ?_
            refine g_iconst hκ (v := (-1)) dX11_soonestSquadron_100 (by decide) ?_
            refine g_icmp_eq hκ 126 dX11_soonestSquadron_101 (by decide) (fun c10 => ?_) (fun c10 => ?_)
            · skip
              refine g_iload hκ 3 dX11_soonestSquadron_126 rfl ?_
              refine g_istore_n hκ [(2, .int (nI i10)), (8, .int ((sI S q_Squadron_ready (el 2 i10)) + (mtmF S (el 2 i10) t ((sI S q_Room_minute x) + (sI S q_Squadron_ready (el 2 i10)))))), (7, .int (mtmF S (el 2 i10) t ((sI S q_Room_minute x) + (sI S q_Squadron_ready (el 2 i10))))), (6, .ref (el 2 i10)), (5, .int (nI i10)), (4, .int a6), (3, .int a5), (0, .ref x), (1, .ref t)] dX11_soonestSquadron_128 rfl (by decide) rfl ?_
              refine g_iload hκ 1 dX11_soonestSquadron_129 rfl ?_
              refine g_istore_n hκ [(3, .int ((sI S q_Squadron_ready (el 2 i10)) + (mtmF S (el 2 i10) t ((sI S q_Room_minute x) + (sI S q_Squadron_ready (el 2 i10)))))), (2, .int (nI i10)), (8, .int ((sI S q_Squadron_ready (el 2 i10)) + (mtmF S (el 2 i10) t ((sI S q_Room_minute x) + (sI S q_Squadron_ready (el 2 i10)))))), (7, .int (mtmF S (el 2 i10) t ((sI S q_Room_minute x) + (sI S q_Squadron_ready (el 2 i10))))), (6, .ref (el 2 i10)), (5, .int (nI i10)), (4, .int a6), (0, .ref x), (1, .ref t)] dX11_soonestSquadron_131 rfl (by decide) rfl ?_
              refine g_aload hκ 4 dX11_soonestSquadron_132 rfl ?_
              refine gtN_Squadron_machines (host := "Plotroom") hκ hdR (L2.2.2.2.2 i10 (by omega)) (by decide +kernel) (Or.inl rfl) dX11_soonestSquadron_134 ?_
              refine g_istore hκ [(4, .int (sI S q_Squadron_machines (el 2 i10))), (3, .int ((sI S q_Squadron_ready (el 2 i10)) + (mtmF S (el 2 i10) t ((sI S q_Room_minute x) + (sI S q_Squadron_ready (el 2 i10)))))), (2, .int (nI i10)), (8, .int ((sI S q_Squadron_ready (el 2 i10)) + (mtmF S (el 2 i10) t ((sI S q_Room_minute x) + (sI S q_Squadron_ready (el 2 i10)))))), (7, .int (mtmF S (el 2 i10) t ((sI S q_Room_minute x) + (sI S q_Squadron_ready (el 2 i10))))), (6, .ref (el 2 i10)), (5, .int (nI i10)), (0, .ref x), (1, .ref t)] dX11_soonestSquadron_137 (by decide) rfl ?_
              obtain ⟨v11, hv11⟩ : ∃ z : Int32, nI i10 + 1 = z := ⟨_, rfl⟩
              refine g_iinc hκ (k := 6) (v := v11) [(5, .int v11), (4, .int (sI S q_Squadron_machines (el 2 i10))), (3, .int ((sI S q_Squadron_ready (el 2 i10)) + (mtmF S (el 2 i10) t ((sI S q_Room_minute x) + (sI S q_Squadron_ready (el 2 i10)))))), (2, .int (nI i10)), (8, .int ((sI S q_Squadron_ready (el 2 i10)) + (mtmF S (el 2 i10) t ((sI S q_Room_minute x) + (sI S q_Squadron_ready (el 2 i10)))))), (7, .int (mtmF S (el 2 i10) t ((sI S q_Room_minute x) + (sI S q_Squadron_ready (el 2 i10))))), (6, .ref (el 2 i10)), (0, .ref x), (1, .ref t)] dX11_soonestSquadron_139 rfl hv11 (by decide) rfl ?_
              refine g_goto hκ 10 dX11_soonestSquadron_142 (by decide) ?_
              refine g_lv [(5, .int v11), (4, .int (sI S q_Squadron_machines (el 2 i10))), (3, .int ((sI S q_Squadron_ready (el 2 i10)) + (mtmF S (el 2 i10) t ((sI S q_Room_minute x) + (sI S q_Squadron_ready (el 2 i10)))))), (2, .int (nI i10)), (0, .ref x), (1, .ref t)] [0, 1, 2, 3, 7, 8] rfl ?_
              exact ih10 (i10 + 1) v11 (nI i10) ((sI S q_Squadron_ready (el 2 i10)) + (mtmF S (el 2 i10) t ((sI S q_Room_minute x) + (sI S q_Squadron_ready (el 2 i10))))) (sI S q_Squadron_machines (el 2 i10)) (by omega) (lp_s rfl hv11) (by rw [hF10]; simp [bestR, flownF, b5, c7, c9, c10, ← hv11, Int32.not_lt.mpr c9])
            · skip
              refine g_iload hκ 0 dX11_soonestSquadron_104 rfl ?_
              refine g_iload_n hκ 5 dX11_soonestSquadron_106 rfl rfl ?_
              refine g_icmp_lt hκ 126 dX11_soonestSquadron_107 (by decide) (fun c12 => ?_) (fun c12 => ?_)
              · skip
                refine g_iload hκ 3 dX11_soonestSquadron_126 rfl ?_
                refine g_istore_n hκ [(2, .int (nI i10)), (8, .int ((sI S q_Squadron_ready (el 2 i10)) + (mtmF S (el 2 i10) t ((sI S q_Room_minute x) + (sI S q_Squadron_ready (el 2 i10)))))), (7, .int (mtmF S (el 2 i10) t ((sI S q_Room_minute x) + (sI S q_Squadron_ready (el 2 i10))))), (6, .ref (el 2 i10)), (5, .int (nI i10)), (4, .int a6), (3, .int a5), (0, .ref x), (1, .ref t)] dX11_soonestSquadron_128 rfl (by decide) rfl ?_
                refine g_iload hκ 1 dX11_soonestSquadron_129 rfl ?_
                refine g_istore_n hκ [(3, .int ((sI S q_Squadron_ready (el 2 i10)) + (mtmF S (el 2 i10) t ((sI S q_Room_minute x) + (sI S q_Squadron_ready (el 2 i10)))))), (2, .int (nI i10)), (8, .int ((sI S q_Squadron_ready (el 2 i10)) + (mtmF S (el 2 i10) t ((sI S q_Room_minute x) + (sI S q_Squadron_ready (el 2 i10)))))), (7, .int (mtmF S (el 2 i10) t ((sI S q_Room_minute x) + (sI S q_Squadron_ready (el 2 i10))))), (6, .ref (el 2 i10)), (5, .int (nI i10)), (4, .int a6), (0, .ref x), (1, .ref t)] dX11_soonestSquadron_131 rfl (by decide) rfl ?_
                refine g_aload hκ 4 dX11_soonestSquadron_132 rfl ?_
                refine gtN_Squadron_machines (host := "Plotroom") hκ hdR (L2.2.2.2.2 i10 (by omega)) (by decide +kernel) (Or.inl rfl) dX11_soonestSquadron_134 ?_
                refine g_istore hκ [(4, .int (sI S q_Squadron_machines (el 2 i10))), (3, .int ((sI S q_Squadron_ready (el 2 i10)) + (mtmF S (el 2 i10) t ((sI S q_Room_minute x) + (sI S q_Squadron_ready (el 2 i10)))))), (2, .int (nI i10)), (8, .int ((sI S q_Squadron_ready (el 2 i10)) + (mtmF S (el 2 i10) t ((sI S q_Room_minute x) + (sI S q_Squadron_ready (el 2 i10)))))), (7, .int (mtmF S (el 2 i10) t ((sI S q_Room_minute x) + (sI S q_Squadron_ready (el 2 i10))))), (6, .ref (el 2 i10)), (5, .int (nI i10)), (0, .ref x), (1, .ref t)] dX11_soonestSquadron_137 (by decide) rfl ?_
                obtain ⟨v13, hv13⟩ : ∃ z : Int32, nI i10 + 1 = z := ⟨_, rfl⟩
                refine g_iinc hκ (k := 6) (v := v13) [(5, .int v13), (4, .int (sI S q_Squadron_machines (el 2 i10))), (3, .int ((sI S q_Squadron_ready (el 2 i10)) + (mtmF S (el 2 i10) t ((sI S q_Room_minute x) + (sI S q_Squadron_ready (el 2 i10)))))), (2, .int (nI i10)), (8, .int ((sI S q_Squadron_ready (el 2 i10)) + (mtmF S (el 2 i10) t ((sI S q_Room_minute x) + (sI S q_Squadron_ready (el 2 i10)))))), (7, .int (mtmF S (el 2 i10) t ((sI S q_Room_minute x) + (sI S q_Squadron_ready (el 2 i10))))), (6, .ref (el 2 i10)), (0, .ref x), (1, .ref t)] dX11_soonestSquadron_139 rfl hv13 (by decide) rfl ?_
                refine g_goto hκ 10 dX11_soonestSquadron_142 (by decide) ?_
                refine g_lv [(5, .int v13), (4, .int (sI S q_Squadron_machines (el 2 i10))), (3, .int ((sI S q_Squadron_ready (el 2 i10)) + (mtmF S (el 2 i10) t ((sI S q_Room_minute x) + (sI S q_Squadron_ready (el 2 i10)))))), (2, .int (nI i10)), (0, .ref x), (1, .ref t)] [0, 1, 2, 3, 7, 8] rfl ?_
                exact ih10 (i10 + 1) v13 (nI i10) ((sI S q_Squadron_ready (el 2 i10)) + (mtmF S (el 2 i10) t ((sI S q_Room_minute x) + (sI S q_Squadron_ready (el 2 i10))))) (sI S q_Squadron_machines (el 2 i10)) (by omega) (lp_s rfl hv13) (by rw [hF10]; simp [bestR, flownF, b5, c7, c9, c10, c12, ← hv13, Int32.not_lt.mpr c9])
              · skip
                refine g_iload hκ 0 dX11_soonestSquadron_110 rfl ?_
                refine g_iload_n hκ 5 dX11_soonestSquadron_112 rfl rfl ?_
                refine g_icmp_ne hκ 139 dX11_soonestSquadron_113 (by decide) (fun c14 => ?_) (fun c14 => ?_)
                · skip
                  obtain ⟨v15, hv15⟩ : ∃ z : Int32, nI i10 + 1 = z := ⟨_, rfl⟩
                  refine g_iinc hκ (k := 3) (v := v15) [(5, .int v15), (8, .int ((sI S q_Squadron_ready (el 2 i10)) + (mtmF S (el 2 i10) t ((sI S q_Room_minute x) + (sI S q_Squadron_ready (el 2 i10)))))), (7, .int (mtmF S (el 2 i10) t ((sI S q_Room_minute x) + (sI S q_Squadron_ready (el 2 i10))))), (6, .ref (el 2 i10)), (4, .int a6), (3, .int a5), (2, .int a4), (0, .ref x), (1, .ref t)] dX11_soonestSquadron_139 rfl hv15 (by decide) rfl ?_
                  refine g_goto hκ 10 dX11_soonestSquadron_142 (by decide) ?_
                  refine g_lv [(5, .int v15), (4, .int a6), (3, .int a5), (2, .int a4), (0, .ref x), (1, .ref t)] [0, 4, 5, 6, 7, 8] rfl ?_
                  exact ih10 (i10 + 1) v15 a4 a5 a6 (by omega) (lp_s rfl hv15) (by rw [hF10]; simp [bestR, flownF, b5, c7, c9, c10, c12, c14, ← hv15, Int32.not_lt.mpr c9, Int32.not_lt.mp c12])
                · skip
                  refine g_aload hκ 2 dX11_soonestSquadron_116 rfl ?_
                  refine gtN_Squadron_machines (host := "Plotroom") hκ hdR (L2.2.2.2.2 i10 (by omega)) (by decide +kernel) (Or.inl rfl) dX11_soonestSquadron_118 ?_
                  refine g_iload hκ 4 dX11_soonestSquadron_121 rfl ?_
                  refine g_icmp_le hκ 139 dX11_soonestSquadron_123 (by decide) (fun c16 => ?_) (fun c16 => ?_)
                  · skip
                    obtain ⟨v17, hv17⟩ : ∃ z : Int32, nI i10 + 1 = z := ⟨_, rfl⟩
                    refine g_iinc hκ (k := 3) (v := v17) [(5, .int v17), (8, .int ((sI S q_Squadron_ready (el 2 i10)) + (mtmF S (el 2 i10) t ((sI S q_Room_minute x) + (sI S q_Squadron_ready (el 2 i10)))))), (7, .int (mtmF S (el 2 i10) t ((sI S q_Room_minute x) + (sI S q_Squadron_ready (el 2 i10))))), (6, .ref (el 2 i10)), (4, .int a6), (3, .int a5), (2, .int a4), (0, .ref x), (1, .ref t)] dX11_soonestSquadron_139 rfl hv17 (by decide) rfl ?_
                    refine g_goto hκ 10 dX11_soonestSquadron_142 (by decide) ?_
                    refine g_lv [(5, .int v17), (4, .int a6), (3, .int a5), (2, .int a4), (0, .ref x), (1, .ref t)] [0, 4, 5, 6, 7, 8] rfl ?_
                    exact ih10 (i10 + 1) v17 a4 a5 a6 (by omega) (lp_s rfl hv17) (by rw [hF10]; simp [bestR, flownF, b5, c7, c9, c10, c12, c14, c16, ← hv17, Int32.not_lt.mpr c9, Int32.not_lt.mp c12, Int32.not_lt.mpr c16])
                  · skip
                    refine g_iload hκ 3 dX11_soonestSquadron_126 rfl ?_
                    refine g_istore_n hκ [(2, .int (nI i10)), (8, .int ((sI S q_Squadron_ready (el 2 i10)) + (mtmF S (el 2 i10) t ((sI S q_Room_minute x) + (sI S q_Squadron_ready (el 2 i10)))))), (7, .int (mtmF S (el 2 i10) t ((sI S q_Room_minute x) + (sI S q_Squadron_ready (el 2 i10))))), (6, .ref (el 2 i10)), (5, .int (nI i10)), (4, .int a6), (3, .int a5), (0, .ref x), (1, .ref t)] dX11_soonestSquadron_128 rfl (by decide) rfl ?_
                    refine g_iload hκ 1 dX11_soonestSquadron_129 rfl ?_
                    refine g_istore_n hκ [(3, .int ((sI S q_Squadron_ready (el 2 i10)) + (mtmF S (el 2 i10) t ((sI S q_Room_minute x) + (sI S q_Squadron_ready (el 2 i10)))))), (2, .int (nI i10)), (8, .int ((sI S q_Squadron_ready (el 2 i10)) + (mtmF S (el 2 i10) t ((sI S q_Room_minute x) + (sI S q_Squadron_ready (el 2 i10)))))), (7, .int (mtmF S (el 2 i10) t ((sI S q_Room_minute x) + (sI S q_Squadron_ready (el 2 i10))))), (6, .ref (el 2 i10)), (5, .int (nI i10)), (4, .int a6), (0, .ref x), (1, .ref t)] dX11_soonestSquadron_131 rfl (by decide) rfl ?_
                    refine g_aload hκ 4 dX11_soonestSquadron_132 rfl ?_
                    refine gtN_Squadron_machines (host := "Plotroom") hκ hdR (L2.2.2.2.2 i10 (by omega)) (by decide +kernel) (Or.inl rfl) dX11_soonestSquadron_134 ?_
                    refine g_istore hκ [(4, .int (sI S q_Squadron_machines (el 2 i10))), (3, .int ((sI S q_Squadron_ready (el 2 i10)) + (mtmF S (el 2 i10) t ((sI S q_Room_minute x) + (sI S q_Squadron_ready (el 2 i10)))))), (2, .int (nI i10)), (8, .int ((sI S q_Squadron_ready (el 2 i10)) + (mtmF S (el 2 i10) t ((sI S q_Room_minute x) + (sI S q_Squadron_ready (el 2 i10)))))), (7, .int (mtmF S (el 2 i10) t ((sI S q_Room_minute x) + (sI S q_Squadron_ready (el 2 i10))))), (6, .ref (el 2 i10)), (5, .int (nI i10)), (0, .ref x), (1, .ref t)] dX11_soonestSquadron_137 (by decide) rfl ?_
                    obtain ⟨v18, hv18⟩ : ∃ z : Int32, nI i10 + 1 = z := ⟨_, rfl⟩
                    refine g_iinc hκ (k := 6) (v := v18) [(5, .int v18), (4, .int (sI S q_Squadron_machines (el 2 i10))), (3, .int ((sI S q_Squadron_ready (el 2 i10)) + (mtmF S (el 2 i10) t ((sI S q_Room_minute x) + (sI S q_Squadron_ready (el 2 i10)))))), (2, .int (nI i10)), (8, .int ((sI S q_Squadron_ready (el 2 i10)) + (mtmF S (el 2 i10) t ((sI S q_Room_minute x) + (sI S q_Squadron_ready (el 2 i10)))))), (7, .int (mtmF S (el 2 i10) t ((sI S q_Room_minute x) + (sI S q_Squadron_ready (el 2 i10))))), (6, .ref (el 2 i10)), (0, .ref x), (1, .ref t)] dX11_soonestSquadron_139 rfl hv18 (by decide) rfl ?_
                    refine g_goto hκ 10 dX11_soonestSquadron_142 (by decide) ?_
                    refine g_lv [(5, .int v18), (4, .int (sI S q_Squadron_machines (el 2 i10))), (3, .int ((sI S q_Squadron_ready (el 2 i10)) + (mtmF S (el 2 i10) t ((sI S q_Room_minute x) + (sI S q_Squadron_ready (el 2 i10)))))), (2, .int (nI i10)), (0, .ref x), (1, .ref t)] [0, 1, 2, 3, 7, 8] rfl ?_
                    exact ih10 (i10 + 1) v18 (nI i10) ((sI S q_Squadron_ready (el 2 i10)) + (mtmF S (el 2 i10) t ((sI S q_Room_minute x) + (sI S q_Squadron_ready (el 2 i10))))) (sI S q_Squadron_machines (el 2 i10)) (by omega) (lp_s rfl hv18) (by rw [hF10]; simp [bestR, flownF, b5, c7, c9, c10, c12, c14, c16, ← hv18, Int32.not_lt.mpr c9, Int32.not_lt.mp c12, Int32.not_le.mp c16])
          · skip
            refine g_goto hκ 139 dX11_soonestSquadron_86 (by decide) ?_
            obtain ⟨v19, hv19⟩ : ∃ z : Int32, nI i10 + 1 = z := ⟨_, rfl⟩
            refine g_iinc hκ (k := 2) (v := v19) [(5, .int v19), (7, .int (mtmF S (el 2 i10) t ((sI S q_Room_minute x) + (sI S q_Squadron_ready (el 2 i10))))), (6, .ref (el 2 i10)), (4, .int a6), (3, .int a5), (2, .int a4), (0, .ref x), (1, .ref t)] dX11_soonestSquadron_139 rfl hv19 (by decide) rfl ?_
            refine g_goto hκ 10 dX11_soonestSquadron_142 (by decide) ?_
            refine g_lv [(5, .int v19), (4, .int a6), (3, .int a5), (2, .int a4), (0, .ref x), (1, .ref t)] [0, 3, 4, 5, 6, 7] rfl ?_
            exact ih10 (i10 + 1) v19 a4 a5 a6 (by omega) (lp_s rfl hv19) (by rw [hF10]; simp [bestR, flownF, b5, c7, c9, ← hv19, Int32.not_le.mp c9])
      · skip
        refine g_if_eq hκ 63 dX11_soonestSquadron_41 (by decide) (fun _ => ?_) (fun z => absurd z (by decide))
        refine g_iconst hκ (v := (-1)) dX11_soonestSquadron_63 (by decide) ?_
        refine g_istore hκ [(7, .int (-1)), (6, .ref (el 2 i10)), (5, .int (nI i10)), (4, .int a6), (3, .int a5), (2, .int a4), (0, .ref x), (1, .ref t)] dX11_soonestSquadron_64 (by decide) rfl ?_
        refine g_iload hκ 0 dX11_soonestSquadron_66 rfl ?_
        refine g_iconst hκ (v := (-1)) dX11_soonestSquadron_68 (by decide) ?_
        refine g_icmp_eq hκ 139 dX11_soonestSquadron_69 (by decide) (fun _ => ?_) (fun z => absurd z (by decide))
        obtain ⟨v20, hv20⟩ : ∃ z : Int32, nI i10 + 1 = z := ⟨_, rfl⟩
        refine g_iinc hκ (k := 2) (v := v20) [(5, .int v20), (7, .int (-1)), (6, .ref (el 2 i10)), (4, .int a6), (3, .int a5), (2, .int a4), (0, .ref x), (1, .ref t)] dX11_soonestSquadron_139 rfl hv20 (by decide) rfl ?_
        refine g_goto hκ 10 dX11_soonestSquadron_142 (by decide) ?_
        refine g_lv [(5, .int v20), (4, .int a6), (3, .int a5), (2, .int a4), (0, .ref x), (1, .ref t)] [0, 3, 4, 5, 6, 7] rfl ?_
        exact ih10 (i10 + 1) v20 a4 a5 a6 (by omega) (lp_s rfl hv20) (by rw [hF10]; simp [bestR, flownF, b5, ← hv20])
  exact loop10 (sz 2) 0 0 (-1) 0 0 (by omega) (by first | rfl | decide) (by first | rfl | decide)
set_option maxHeartbeats 4000000 in
set_option maxRecDepth 100000 in
theorem k_sqSound (S : wPS) (x lo ta : Nat) (la : Nat → Nat) (el : Nat → Nat → Nat) (sz : Nat → Nat) (hM : RMx S x lo ta la el sz) : MR yX11_areSquadronsSound cX11_areSquadronsSound 3 (some .boolean) ({ frames := 4, cells := 0, slots := 0, locals := 86 }) S [.ref x] (vp_Si (fun r => r = zb (sqSoundB S el sz))) := by
  refine stR_i (post := (fun r => r = zb (sqSoundB S el sz))) (by decide) (Nat.le_of_ble_eq_true rfl) rfl (fun v hv => by subst hv; exact zb_nar _) (fun κ hκ hend => ?_)
  show Gj κ _ 0 [(0, .ref x)] []
  have hMc := hM
  obtain ⟨hx, ⟨f0, L0⟩, ⟨f1, L1⟩, ⟨f2, L2⟩, ⟨f3, L3⟩, ⟨f4, L4⟩, ⟨f5, L5⟩, ⟨f6, L6⟩, ⟨f7, L7⟩, ⟨f8, L8⟩, ⟨flo, hlo⟩, ⟨fta, hta⟩⟩ := hMc
  have b0 := L0.2.2.1
  have b2 := L2.2.2.1
  have b3 := L3.2.2.1
  have b4 := L4.2.2.1
  have b5 := L5.2.2.1
  have b7 := L7.2.2.1
  have b8 := L8.2.2.1
  refine g_aload_n hκ 0 dX11_areSquadronsSound_0 rfl rfl ?_
  refine rV_i hκ hdR [] sd_X11_countTalks qw_902 (fun D cO H s hK hP => rc_Room hK hP hx) (k_countTalks S x lo ta la el sz hM) ⟨rfl, rfl, Nat.le_of_ble_eq_true rfl, Nat.le_of_ble_eq_true rfl⟩ rfl rfl (Nat.le_of_ble_eq_true rfl) dX11_areSquadronsSound_1 (fun r1 hr1 => ?_)
  refine g_eqi hr1 ?_
  refine g_iconst hκ (v := 3) dX11_areSquadronsSound_4 (by decide) ?_
  refine g_icmp_le hκ 10 dX11_areSquadronsSound_5 (by decide) (fun c2 => ?_) (fun c2 => ?_)
  · skip
    refine g_iconst hκ (v := 0) dX11_areSquadronsSound_10 (by decide) ?_
    refine g_istore_n hκ [(1, .int 0), (0, .ref x)] dX11_areSquadronsSound_11 rfl (by decide) rfl ?_
    have loop12 : ∀ (d12 i12 : Nat) (x12 : Int32), i12 + d12 = sz 2 → x12 = nI i12 → sqSoundB S el sz = allR (fun i => !inAirB S (el 2 i) || (!decide (sI S q_Squadron_machines (el 2 i) ≤ 0) && decide (0 < sI S q_Squadron_fuel (el 2 i)))) d12 i12 → Gj κ (PR κ S) 12 [(1, .int x12), (0, .ref x)] [] := by
      intro d12
      induction d12 with
      | zero =>
        intro i12 x12 hi12 hx12 hF12
        subst hx12
        refine g_iload_n hκ 0 dX11_areSquadronsSound_12 rfl rfl ?_
        refine g_aload_n hκ 1 dX11_areSquadronsSound_13 rfl rfl ?_
        refine gt_Room_squadrons hκ hdR hx qw_108 (Or.inl rfl) dX11_areSquadronsSound_14 ?_
        refine g_rf f2 ?_
        refine rV_i hκ hdR [] sd_Jx4a65c_size_8abf5 qw_227 (fun D cO H s hK hP => rc_List hK hP L2.1) (k_sizeL S (la 2) 6 (sz 2) (el 2) L2) ⟨rfl, rfl, Nat.le_of_ble_eq_true rfl, Nat.le_of_ble_eq_true rfl⟩ rfl rfl (Nat.le_of_ble_eq_true rfl) dX11_areSquadronsSound_17 (fun r3 hr3 => ?_)
        refine g_eqi hr3 ?_
        refine g_icmp_ge hκ 64 dX11_areSquadronsSound_20 (by decide) (fun _ => ?_) (fun z => absurd (lp_ge rfl (by omega) (by omega)) z)
        refine g_iconst hκ (v := 1) dX11_areSquadronsSound_64 (by decide) ?_
        exact hend _ _ _ dX11_areSquadronsSound_65 (by rw [hF12]; simp [allR, sqSoundB, zb, c2, Int32.not_lt.mpr c2])
      | succ d12 ih12 =>
        intro i12 x12 hi12 hx12 hF12
        subst hx12
        refine g_iload_n hκ 0 dX11_areSquadronsSound_12 rfl rfl ?_
        refine g_aload_n hκ 1 dX11_areSquadronsSound_13 rfl rfl ?_
        refine gt_Room_squadrons hκ hdR hx qw_108 (Or.inl rfl) dX11_areSquadronsSound_14 ?_
        refine g_rf f2 ?_
        refine rV_i hκ hdR [] sd_Jx4a65c_size_8abf5 qw_227 (fun D cO H s hK hP => rc_List hK hP L2.1) (k_sizeL S (la 2) 6 (sz 2) (el 2) L2) ⟨rfl, rfl, Nat.le_of_ble_eq_true rfl, Nat.le_of_ble_eq_true rfl⟩ rfl rfl (Nat.le_of_ble_eq_true rfl) dX11_areSquadronsSound_17 (fun r4 hr4 => ?_)
        refine g_eqi hr4 ?_
        refine g_icmp_ge hκ 64 dX11_areSquadronsSound_20 (by decide) (fun z => absurd z (lp_nge rfl (by omega) (by omega))) (fun _ => ?_)
        refine g_aload_n hκ 1 dX11_areSquadronsSound_23 rfl rfl ?_
        refine gt_Room_squadrons hκ hdR hx qw_108 (Or.inl rfl) dX11_areSquadronsSound_24 ?_
        refine g_rf f2 ?_
        refine g_iload_n hκ 0 dX11_areSquadronsSound_27 rfl rfl ?_
        refine rV_q hκ hdR [.int (nI i12)] sd_Jx4a65c_get_915e3 qw_440 (fun D cO H s hK hP => rc_List hK hP L2.1) (k_get S (la 2) 6 (sz 2) i12 (el 2) (nI i12) L2 rfl (by omega)) ⟨rfl, rfl, Nat.le_of_ble_eq_true rfl, Nat.le_of_ble_eq_true rfl⟩ rfl rfl (Nat.le_of_ble_eq_true rfl) dX11_areSquadronsSound_28 (fun r5 hr5 => ?_)
        refine g_rf hr5 ?_
        refine gc_Squadron hκ hdR (L2.2.2.2.2 i12 (by omega)) qw_438 dX11_areSquadronsSound_31 ?_
        refine g_astore_n hκ [(2, .ref (el 2 i12)), (1, .int (nI i12)), (0, .ref x)] dX11_areSquadronsSound_34 rfl (by decide) rfl ?_
        refine g_aload_n hκ 0 dX11_areSquadronsSound_35 rfl rfl ?_
        refine rV_i hκ hdR [] sd_X7_isInAir qw_815 (fun D cO H s hK hP => rc_Squadron hK hP (L2.2.2.2.2 i12 (by omega))) (k_isInAir S (el 2 i12) (L2.2.2.2.2 i12 (by omega))) ⟨rfl, rfl, Nat.le_of_ble_eq_true rfl, Nat.le_of_ble_eq_true rfl⟩ rfl rfl (Nat.le_of_ble_eq_true rfl) dX11_areSquadronsSound_36 (fun r6 hr6 => ?_)
        obtain ⟨b7, rfl⟩ | ⟨b7, rfl⟩ := zb_cases hr6
        · skip
          refine g_if_eq hκ 58 dX11_areSquadronsSound_39 (by decide) (fun z => absurd z (by decide)) (fun _ => ?_)
          refine g_aload_n hκ 0 dX11_areSquadronsSound_42 rfl rfl ?_
          refine gtN_Squadron_machines (host := "Plotroom") hκ hdR (L2.2.2.2.2 i12 (by omega)) (by decide +kernel) (Or.inl rfl) dX11_areSquadronsSound_43 ?_
          refine g_if_le hκ 56 dX11_areSquadronsSound_46 (by decide) (fun c8 => ?_) (fun c8 => ?_)
          · skip
            refine g_iconst hκ (v := 0) dX11_areSquadronsSound_56 (by decide) ?_
            exact hend _ _ _ dX11_areSquadronsSound_57 (by rw [hF12]; simp [allR, sqSoundB, zb, c2, b7, c8, Int32.not_lt.mpr c2, Int32.not_lt.mpr c8])
          · skip
            refine g_aload_n hκ 0 dX11_areSquadronsSound_49 rfl rfl ?_
            refine gtN_Squadron_fuel (host := "Plotroom") hκ hdR (L2.2.2.2.2 i12 (by omega)) (by decide +kernel) (Or.inl rfl) dX11_areSquadronsSound_50 ?_
            refine g_if_gt hκ 58 dX11_areSquadronsSound_53 (by decide) (fun c9 => ?_) (fun c9 => ?_)
            · skip
              obtain ⟨v10, hv10⟩ : ∃ z : Int32, nI i12 + 1 = z := ⟨_, rfl⟩
              refine g_iinc hκ (k := 1) (v := v10) [(1, .int v10), (2, .ref (el 2 i12)), (0, .ref x)] dX11_areSquadronsSound_58 rfl hv10 (by decide) rfl ?_
              refine g_goto hκ 12 dX11_areSquadronsSound_61 (by decide) ?_
              refine g_lv [(1, .int v10), (0, .ref x)] [0, 2] rfl ?_
              exact ih12 (i12 + 1) v10 (by omega) (lp_s rfl hv10) (by rw [hF12]; simp [allR, c2, b7, c8, c9, ← hv10, Int32.not_lt.mpr c2, Int32.not_le.mp c8])
            · skip
              refine g_iconst hκ (v := 0) dX11_areSquadronsSound_56 (by decide) ?_
              exact hend _ _ _ dX11_areSquadronsSound_57 (by rw [hF12]; simp [allR, sqSoundB, zb, c2, b7, c8, c9, Int32.not_lt.mpr c2, Int32.not_le.mp c8, Int32.not_lt.mp c9])
        · skip
          refine g_if_eq hκ 58 dX11_areSquadronsSound_39 (by decide) (fun _ => ?_) (fun z => absurd z (by decide))
          obtain ⟨v11, hv11⟩ : ∃ z : Int32, nI i12 + 1 = z := ⟨_, rfl⟩
          refine g_iinc hκ (k := 1) (v := v11) [(1, .int v11), (2, .ref (el 2 i12)), (0, .ref x)] dX11_areSquadronsSound_58 rfl hv11 (by decide) rfl ?_
          refine g_goto hκ 12 dX11_areSquadronsSound_61 (by decide) ?_
          refine g_lv [(1, .int v11), (0, .ref x)] [0, 2] rfl ?_
          exact ih12 (i12 + 1) v11 (by omega) (lp_s rfl hv11) (by rw [hF12]; simp [allR, c2, b7, ← hv11, Int32.not_lt.mpr c2])
    exact loop12 (sz 2) 0 0 (by omega) (by first | rfl | decide) (by simp [sqSoundB, c2])
  · skip
    refine g_iconst hκ (v := 0) dX11_areSquadronsSound_8 (by decide) ?_
    exact hend _ _ _ dX11_areSquadronsSound_9 (by simp [allR, sqSoundB, zb, c2, Int32.not_le.mp c2])
set_option maxHeartbeats 4000000 in
set_option maxRecDepth 100000 in
theorem k_plSound (S : wPS) (x lo ta : Nat) (la : Nat → Nat) (el : Nat → Nat → Nat) (sz : Nat → Nat) (hM : RMx S x lo ta la el sz) : MR yX11_arePlotsSound cX11_arePlotsSound 6 (some .boolean) ({ frames := 3, cells := 0, slots := 0, locals := 64 }) S [.ref x] (vp_Si (fun r => r = zb (plSoundB S x ta el sz))) := by
  refine stR_i (post := (fun r => r = zb (plSoundB S x ta el sz))) (by decide) (Nat.le_of_ble_eq_true rfl) rfl (fun v hv => by subst hv; exact zb_nar _) (fun κ hκ hend => ?_)
  show Gj κ _ 0 [(0, .ref x)] []
  have hMc := hM
  obtain ⟨hx, ⟨f0, L0⟩, ⟨f1, L1⟩, ⟨f2, L2⟩, ⟨f3, L3⟩, ⟨f4, L4⟩, ⟨f5, L5⟩, ⟨f6, L6⟩, ⟨f7, L7⟩, ⟨f8, L8⟩, ⟨flo, hlo⟩, ⟨fta, hta⟩⟩ := hMc
  have b0 := L0.2.2.1
  have b2 := L2.2.2.1
  have b3 := L3.2.2.1
  have b4 := L4.2.2.1
  have b5 := L5.2.2.1
  have b7 := L7.2.2.1
  have b8 := L8.2.2.1
  refine g_iconst hκ (v := 0) dX11_arePlotsSound_0 (by decide) ?_
  refine g_istore_n hκ [(1, .int 0), (0, .ref x)] dX11_arePlotsSound_1 rfl (by decide) rfl ?_
  refine g_iconst hκ (v := 0) dX11_arePlotsSound_2 (by decide) ?_
  refine g_istore_n hκ [(2, .int 0), (1, .int 0), (0, .ref x)] dX11_arePlotsSound_3 rfl (by decide) rfl ?_
  refine g_iconst hκ (v := 0) dX11_arePlotsSound_4 (by decide) ?_
  refine g_istore_n hκ [(3, .int 0), (2, .int 0), (1, .int 0), (0, .ref x)] dX11_arePlotsSound_5 rfl (by decide) rfl ?_
  refine g_iconst hκ (v := 0) dX11_arePlotsSound_6 (by decide) ?_
  refine g_istore hκ [(4, .int 0), (3, .int 0), (2, .int 0), (1, .int 0), (0, .ref x)] dX11_arePlotsSound_7 (by decide) rfl ?_
  have loop9 : ∀ (d9 i9 : Nat) (x9 : Int32) (a1 : Int32) (a2 : Int32) (a3 : Int32), i9 + d9 = sz 0 → x9 = nI i9 → (sumR (fun i => sI S q_Mast_made (el 0 i)) (sz 0) 0 0, sumR (fun i => sI S q_Mast_came (el 0 i)) (sz 0) 0 0, sumR (fun i => sI S q_Mast_lost (el 0 i)) (sz 0) 0 0) = (sumR (fun i => sI S q_Mast_made (el 0 i)) d9 i9 a1, sumR (fun i => sI S q_Mast_came (el 0 i)) d9 i9 a2, sumR (fun i => sI S q_Mast_lost (el 0 i)) d9 i9 a3) → Gj κ (PR κ S) 9 [(4, .int x9), (3, .int a3), (2, .int a2), (1, .int a1), (0, .ref x)] [] := by
    intro d9
    induction d9 with
    | zero =>
      intro i9 x9 a1 a2 a3 hi9 hx9 hF9
      subst hx9
      refine g_iload hκ 0 dX11_arePlotsSound_9 rfl ?_
      refine g_aload_n hκ 4 dX11_arePlotsSound_11 rfl rfl ?_
      refine gt_Room_masts hκ hdR hx qw_106 (Or.inl rfl) dX11_arePlotsSound_12 ?_
      refine g_rf f0 ?_
      refine rV_i hκ hdR [] sd_Jx4a65c_size_8abf5 qw_227 (fun D cO H s hK hP => rc_List hK hP L0.1) (k_sizeL S (la 0) 3 (sz 0) (el 0) L0) ⟨rfl, rfl, Nat.le_of_ble_eq_true rfl, Nat.le_of_ble_eq_true rfl⟩ rfl rfl (Nat.le_of_ble_eq_true rfl) dX11_arePlotsSound_15 (fun r1 hr1 => ?_)
      refine g_eqi hr1 ?_
      refine g_icmp_ge hκ 81 dX11_arePlotsSound_18 (by decide) (fun _ => ?_) (fun z => absurd (lp_ge rfl (by omega) (by omega)) z)
      refine g_iconst hκ (v := 0) dX11_arePlotsSound_81 (by decide) ?_
      refine g_istore hκ [(4, .int 0), (3, .int a3), (2, .int a2), (1, .int a1), (0, .ref x)] dX11_arePlotsSound_82 (by decide) rfl ?_
      refine g_iconst hκ (v := 0) dX11_arePlotsSound_84 (by decide) ?_
      refine g_istore hκ [(5, .int 0), (4, .int 0), (3, .int a3), (2, .int a2), (1, .int a1), (0, .ref x)] dX11_arePlotsSound_85 (by decide) rfl ?_
      have loop87 : ∀ (d87 i87 : Nat) (x87 : Int32) (a4 : Int32), i87 + d87 = sz 7 → x87 = nI i87 → sumR (fun i => sI S q_Track_hits (el 7 i)) (sz 7) 0 0 = sumR (fun i => sI S q_Track_hits (el 7 i)) d87 i87 a4 → Gj κ (PR κ S) 87 [(5, .int x87), (4, .int a4), (3, .int a3), (2, .int a2), (1, .int a1), (0, .ref x)] [] := by
        intro d87
        induction d87 with
        | zero =>
          intro i87 x87 a4 hi87 hx87 hF87
          subst hx87
          refine g_iload hκ 0 dX11_arePlotsSound_87 rfl ?_
          refine g_aload_n hκ 5 dX11_arePlotsSound_89 rfl rfl ?_
          refine gt_Room_tracks hκ hdR hx qw_113 (Or.inl rfl) dX11_arePlotsSound_90 ?_
          refine g_rf f7 ?_
          refine rV_i hκ hdR [] sd_Jx4a65c_size_8abf5 qw_227 (fun D cO H s hK hP => rc_List hK hP L7.1) (k_sizeL S (la 7) 9 (sz 7) (el 7) L7) ⟨rfl, rfl, Nat.le_of_ble_eq_true rfl, Nat.le_of_ble_eq_true rfl⟩ rfl rfl (Nat.le_of_ble_eq_true rfl) dX11_arePlotsSound_93 (fun r2 hr2 => ?_)
          refine g_eqi hr2 ?_
          refine g_icmp_ge hκ 125 dX11_arePlotsSound_96 (by decide) (fun _ => ?_) (fun z => absurd (lp_ge rfl (by omega) (by omega)) z)
          refine g_iload_n hκ 4 dX11_arePlotsSound_125 rfl rfl ?_
          refine g_iload_n hκ 3 dX11_arePlotsSound_126 rfl rfl ?_
          refine g_iload_n hκ 2 dX11_arePlotsSound_127 rfl rfl ?_
          refine g_iadd hκ dX11_arePlotsSound_128 ?_
          refine g_aload_n hκ 5 dX11_arePlotsSound_129 rfl rfl ?_
          refine gt_Room_plotsOnWay hκ hdR hx qw_115 (Or.inl rfl) dX11_arePlotsSound_130 ?_
          refine g_iadd hκ dX11_arePlotsSound_133 ?_
          refine g_icmp_ne hκ 155 dX11_arePlotsSound_134 (by decide) (fun c3 => ?_) (fun c3 => ?_)
          · skip
            refine g_iconst hκ (v := 0) dX11_arePlotsSound_155 (by decide) ?_
            exact hend _ _ _ dX11_arePlotsSound_156 (by have e1 := congrArg (fun z => z.1) hF9; have e2 := congrArg (fun z => z.2.1) hF9; have e3 := congrArg (fun z => z.2.2) hF9; have e4 := hF87; simp only [sumR] at e1 e2 e3 e4; simp [zb, plSoundB, e1, e2, e3, e4, c3])
          · skip
            refine g_iload_n hκ 3 dX11_arePlotsSound_137 rfl rfl ?_
            refine g_iload hκ 1 dX11_arePlotsSound_138 rfl ?_
            refine g_aload_n hκ 5 dX11_arePlotsSound_140 rfl rfl ?_
            refine gt_Room_tally hκ hdR hx qw_117 (Or.inl rfl) dX11_arePlotsSound_141 ?_
            refine g_rf fta ?_
            refine gtN_Tally_plotsWithoutTrack (host := "Plotroom") hκ hdR hta (by decide +kernel) (Or.inl rfl) dX11_arePlotsSound_144 ?_
            refine g_iadd hκ dX11_arePlotsSound_147 ?_
            refine g_icmp_ne hκ 155 dX11_arePlotsSound_148 (by decide) (fun c4 => ?_) (fun c4 => ?_)
            · skip
              refine g_iconst hκ (v := 0) dX11_arePlotsSound_155 (by decide) ?_
              exact hend _ _ _ dX11_arePlotsSound_156 (by have e1 := congrArg (fun z => z.1) hF9; have e2 := congrArg (fun z => z.2.1) hF9; have e3 := congrArg (fun z => z.2.2) hF9; have e4 := hF87; simp only [sumR] at e1 e2 e3 e4; simp [zb, plSoundB, e1, e2, e3, e4, c3, c4])
            · skip
              refine g_iconst hκ (v := 1) dX11_arePlotsSound_151 (by decide) ?_
              refine g_goto hκ 156 dX11_arePlotsSound_152 (by decide) ?_
              exact hend _ _ _ dX11_arePlotsSound_156 (by have e1 := congrArg (fun z => z.1) hF9; have e2 := congrArg (fun z => z.2.1) hF9; have e3 := congrArg (fun z => z.2.2) hF9; have e4 := hF87; simp only [sumR] at e1 e2 e3 e4; simp [zb, plSoundB, e1, e2, e3, e4, c3, c4])
        | succ d87 ih87 =>
          intro i87 x87 a4 hi87 hx87 hF87
          subst hx87
          refine g_iload hκ 0 dX11_arePlotsSound_87 rfl ?_
          refine g_aload_n hκ 5 dX11_arePlotsSound_89 rfl rfl ?_
          refine gt_Room_tracks hκ hdR hx qw_113 (Or.inl rfl) dX11_arePlotsSound_90 ?_
          refine g_rf f7 ?_
          refine rV_i hκ hdR [] sd_Jx4a65c_size_8abf5 qw_227 (fun D cO H s hK hP => rc_List hK hP L7.1) (k_sizeL S (la 7) 9 (sz 7) (el 7) L7) ⟨rfl, rfl, Nat.le_of_ble_eq_true rfl, Nat.le_of_ble_eq_true rfl⟩ rfl rfl (Nat.le_of_ble_eq_true rfl) dX11_arePlotsSound_93 (fun r5 hr5 => ?_)
          refine g_eqi hr5 ?_
          refine g_icmp_ge hκ 125 dX11_arePlotsSound_96 (by decide) (fun z => absurd z (lp_nge rfl (by omega) (by omega))) (fun _ => ?_)
          refine g_iload hκ 1 dX11_arePlotsSound_99 rfl ?_
          refine g_aload_n hκ 5 dX11_arePlotsSound_101 rfl rfl ?_
          refine gt_Room_tracks hκ hdR hx qw_113 (Or.inl rfl) dX11_arePlotsSound_102 ?_
          refine g_rf f7 ?_
          refine g_iload hκ 0 dX11_arePlotsSound_105 rfl ?_
          refine rV_q hκ hdR [.int (nI i87)] sd_Jx4a65c_get_915e3 qw_440 (fun D cO H s hK hP => rc_List hK hP L7.1) (k_get S (la 7) 9 (sz 7) i87 (el 7) (nI i87) L7 rfl (by omega)) ⟨rfl, rfl, Nat.le_of_ble_eq_true rfl, Nat.le_of_ble_eq_true rfl⟩ rfl rfl (Nat.le_of_ble_eq_true rfl) dX11_arePlotsSound_107 (fun r6 hr6 => ?_)
          refine g_rf hr6 ?_
          refine gc_Track hκ hdR (L7.2.2.2.2 i87 (by omega)) qw_675 dX11_arePlotsSound_110 ?_
          refine gtN_Track_hits (host := "Plotroom") hκ hdR (L7.2.2.2.2 i87 (by omega)) (by decide +kernel) (Or.inl rfl) dX11_arePlotsSound_113 ?_
          refine g_iadd hκ dX11_arePlotsSound_116 ?_
          refine g_istore hκ [(4, .int (a4 + (sI S q_Track_hits (el 7 i87)))), (5, .int (nI i87)), (3, .int a3), (2, .int a2), (1, .int a1), (0, .ref x)] dX11_arePlotsSound_117 (by decide) rfl ?_
          obtain ⟨v7, hv7⟩ : ∃ z : Int32, nI i87 + 1 = z := ⟨_, rfl⟩
          refine g_iinc hκ (k := 1) (v := v7) [(5, .int v7), (4, .int (a4 + (sI S q_Track_hits (el 7 i87)))), (3, .int a3), (2, .int a2), (1, .int a1), (0, .ref x)] dX11_arePlotsSound_119 rfl hv7 (by decide) rfl ?_
          refine g_goto hκ 87 dX11_arePlotsSound_122 (by decide) ?_
          refine g_lv [(5, .int v7), (4, .int (a4 + (sI S q_Track_hits (el 7 i87)))), (3, .int a3), (2, .int a2), (1, .int a1), (0, .ref x)] [0, 1, 2, 3, 4, 5] rfl ?_
          exact ih87 (i87 + 1) v7 (a4 + (sI S q_Track_hits (el 7 i87))) (by omega) (lp_s rfl hv7) (by exact hF87)
      exact loop87 (sz 7) 0 0 0 (by omega) (by first | rfl | decide) (by first | rfl | decide)
    | succ d9 ih9 =>
      intro i9 x9 a1 a2 a3 hi9 hx9 hF9
      subst hx9
      refine g_iload hκ 0 dX11_arePlotsSound_9 rfl ?_
      refine g_aload_n hκ 4 dX11_arePlotsSound_11 rfl rfl ?_
      refine gt_Room_masts hκ hdR hx qw_106 (Or.inl rfl) dX11_arePlotsSound_12 ?_
      refine g_rf f0 ?_
      refine rV_i hκ hdR [] sd_Jx4a65c_size_8abf5 qw_227 (fun D cO H s hK hP => rc_List hK hP L0.1) (k_sizeL S (la 0) 3 (sz 0) (el 0) L0) ⟨rfl, rfl, Nat.le_of_ble_eq_true rfl, Nat.le_of_ble_eq_true rfl⟩ rfl rfl (Nat.le_of_ble_eq_true rfl) dX11_arePlotsSound_15 (fun r8 hr8 => ?_)
      refine g_eqi hr8 ?_
      refine g_icmp_ge hκ 81 dX11_arePlotsSound_18 (by decide) (fun z => absurd z (lp_nge rfl (by omega) (by omega))) (fun _ => ?_)
      refine g_iload_n hκ 3 dX11_arePlotsSound_21 rfl rfl ?_
      refine g_aload_n hκ 4 dX11_arePlotsSound_22 rfl rfl ?_
      refine gt_Room_masts hκ hdR hx qw_106 (Or.inl rfl) dX11_arePlotsSound_23 ?_
      refine g_rf f0 ?_
      refine g_iload hκ 0 dX11_arePlotsSound_26 rfl ?_
      refine rV_q hκ hdR [.int (nI i9)] sd_Jx4a65c_get_915e3 qw_440 (fun D cO H s hK hP => rc_List hK hP L0.1) (k_get S (la 0) 3 (sz 0) i9 (el 0) (nI i9) L0 rfl (by omega)) ⟨rfl, rfl, Nat.le_of_ble_eq_true rfl, Nat.le_of_ble_eq_true rfl⟩ rfl rfl (Nat.le_of_ble_eq_true rfl) dX11_arePlotsSound_28 (fun r9 hr9 => ?_)
      refine g_rf hr9 ?_
      refine gc_Mast hκ hdR (L0.2.2.2.2 i9 (by omega)) qw_247 dX11_arePlotsSound_31 ?_
      refine gtN_Mast_made (host := "Plotroom") hκ hdR (L0.2.2.2.2 i9 (by omega)) (by decide +kernel) (Or.inl rfl) dX11_arePlotsSound_34 ?_
      refine g_iadd hκ dX11_arePlotsSound_37 ?_
      refine g_istore_n hκ [(1, .int (a1 + (sI S q_Mast_made (el 0 i9)))), (4, .int (nI i9)), (3, .int a3), (2, .int a2), (0, .ref x)] dX11_arePlotsSound_38 rfl (by decide) rfl ?_
      refine g_iload_n hκ 3 dX11_arePlotsSound_39 rfl rfl ?_
      refine g_aload_n hκ 4 dX11_arePlotsSound_40 rfl rfl ?_
      refine gt_Room_masts hκ hdR hx qw_106 (Or.inl rfl) dX11_arePlotsSound_41 ?_
      refine g_rf f0 ?_
      refine g_iload hκ 1 dX11_arePlotsSound_44 rfl ?_
      refine rV_q hκ hdR [.int (nI i9)] sd_Jx4a65c_get_915e3 qw_440 (fun D cO H s hK hP => rc_List hK hP L0.1) (k_get S (la 0) 3 (sz 0) i9 (el 0) (nI i9) L0 rfl (by omega)) ⟨rfl, rfl, Nat.le_of_ble_eq_true rfl, Nat.le_of_ble_eq_true rfl⟩ rfl rfl (Nat.le_of_ble_eq_true rfl) dX11_arePlotsSound_46 (fun r10 hr10 => ?_)
      refine g_rf hr10 ?_
      refine gc_Mast hκ hdR (L0.2.2.2.2 i9 (by omega)) qw_247 dX11_arePlotsSound_49 ?_
      refine gtN_Mast_came (host := "Plotroom") hκ hdR (L0.2.2.2.2 i9 (by omega)) (by decide +kernel) (Or.inl rfl) dX11_arePlotsSound_52 ?_
      refine g_iadd hκ dX11_arePlotsSound_55 ?_
      refine g_istore_n hκ [(2, .int (a2 + (sI S q_Mast_came (el 0 i9)))), (1, .int (a1 + (sI S q_Mast_made (el 0 i9)))), (4, .int (nI i9)), (3, .int a3), (0, .ref x)] dX11_arePlotsSound_56 rfl (by decide) rfl ?_
      refine g_iload_n hκ 3 dX11_arePlotsSound_57 rfl rfl ?_
      refine g_aload_n hκ 4 dX11_arePlotsSound_58 rfl rfl ?_
      refine gt_Room_masts hκ hdR hx qw_106 (Or.inl rfl) dX11_arePlotsSound_59 ?_
      refine g_rf f0 ?_
      refine g_iload hκ 2 dX11_arePlotsSound_62 rfl ?_
      refine rV_q hκ hdR [.int (nI i9)] sd_Jx4a65c_get_915e3 qw_440 (fun D cO H s hK hP => rc_List hK hP L0.1) (k_get S (la 0) 3 (sz 0) i9 (el 0) (nI i9) L0 rfl (by omega)) ⟨rfl, rfl, Nat.le_of_ble_eq_true rfl, Nat.le_of_ble_eq_true rfl⟩ rfl rfl (Nat.le_of_ble_eq_true rfl) dX11_arePlotsSound_64 (fun r11 hr11 => ?_)
      refine g_rf hr11 ?_
      refine gc_Mast hκ hdR (L0.2.2.2.2 i9 (by omega)) qw_247 dX11_arePlotsSound_67 ?_
      refine gtN_Mast_lost (host := "Plotroom") hκ hdR (L0.2.2.2.2 i9 (by omega)) (by decide +kernel) (Or.inl rfl) dX11_arePlotsSound_70 ?_
      refine g_iadd hκ dX11_arePlotsSound_73 ?_
      refine g_istore_n hκ [(3, .int (a3 + (sI S q_Mast_lost (el 0 i9)))), (2, .int (a2 + (sI S q_Mast_came (el 0 i9)))), (1, .int (a1 + (sI S q_Mast_made (el 0 i9)))), (4, .int (nI i9)), (0, .ref x)] dX11_arePlotsSound_74 rfl (by decide) rfl ?_
      obtain ⟨v12, hv12⟩ : ∃ z : Int32, nI i9 + 1 = z := ⟨_, rfl⟩
      refine g_iinc hκ (k := 3) (v := v12) [(4, .int v12), (3, .int (a3 + (sI S q_Mast_lost (el 0 i9)))), (2, .int (a2 + (sI S q_Mast_came (el 0 i9)))), (1, .int (a1 + (sI S q_Mast_made (el 0 i9)))), (0, .ref x)] dX11_arePlotsSound_75 rfl hv12 (by decide) rfl ?_
      refine g_goto hκ 9 dX11_arePlotsSound_78 (by decide) ?_
      refine g_lv [(4, .int v12), (3, .int (a3 + (sI S q_Mast_lost (el 0 i9)))), (2, .int (a2 + (sI S q_Mast_came (el 0 i9)))), (1, .int (a1 + (sI S q_Mast_made (el 0 i9)))), (0, .ref x)] [0, 1, 2, 3, 4] rfl ?_
      exact ih9 (i9 + 1) v12 (a1 + (sI S q_Mast_made (el 0 i9))) (a2 + (sI S q_Mast_came (el 0 i9))) (a3 + (sI S q_Mast_lost (el 0 i9))) (by omega) (lp_s rfl hv12) (by exact hF9)
  exact loop9 (sz 0) 0 0 0 0 0 (by omega) (by first | rfl | decide) (by first | rfl | decide)
set_option maxHeartbeats 4000000 in
set_option maxRecDepth 100000 in
theorem k_plcSound (S : wPS) (x lo ta : Nat) (la : Nat → Nat) (el : Nat → Nat → Nat) (sz : Nat → Nat) (hM : RMx S x lo ta la el sz) : MR yX11_arePlacesSound cX11_arePlacesSound 2 (some .boolean) ({ frames := 3, cells := 0, slots := 0, locals := 64 }) S [.ref x] (vp_Si (fun r => r = zb (plcSoundB S el sz))) := by
  refine stR_i (post := (fun r => r = zb (plcSoundB S el sz))) (by decide) (Nat.le_of_ble_eq_true rfl) rfl (fun v hv => by subst hv; exact zb_nar _) (fun κ hκ hend => ?_)
  show Gj κ _ 0 [(0, .ref x)] []
  have hMc := hM
  obtain ⟨hx, ⟨f0, L0⟩, ⟨f1, L1⟩, ⟨f2, L2⟩, ⟨f3, L3⟩, ⟨f4, L4⟩, ⟨f5, L5⟩, ⟨f6, L6⟩, ⟨f7, L7⟩, ⟨f8, L8⟩, ⟨flo, hlo⟩, ⟨fta, hta⟩⟩ := hMc
  have b0 := L0.2.2.1
  have b2 := L2.2.2.1
  have b3 := L3.2.2.1
  have b4 := L4.2.2.1
  have b5 := L5.2.2.1
  have b7 := L7.2.2.1
  have b8 := L8.2.2.1
  refine g_iconst hκ (v := 0) dX11_arePlacesSound_0 (by decide) ?_
  refine g_istore_n hκ [(1, .int 0), (0, .ref x)] dX11_arePlacesSound_1 rfl (by decide) rfl ?_
  have loop2 : ∀ (d2 i2 : Nat) (x2 : Int32), i2 + d2 = sz 5 → x2 = nI i2 → plcSoundB S el sz = (allR (fun i => isPlaceB (sI S q_Flight_x (el 5 i)) (sI S q_Flight_y (el 5 i))) d2 i2 && allR (fun i => isPlaceB (sI S q_Track_x (el 7 i)) (sI S q_Track_y (el 7 i))) (sz 7) 0 && allR (fun i => isPlaceB (sI S q_Squadron_x (el 2 i)) (sI S q_Squadron_y (el 2 i))) (sz 2) 0) → Gj κ (PR κ S) 2 [(1, .int x2), (0, .ref x)] [] := by
    intro d2
    induction d2 with
    | zero =>
      intro i2 x2 hi2 hx2 hF2
      subst hx2
      refine g_iload_n hκ 0 dX11_arePlacesSound_2 rfl rfl ?_
      refine g_aload_n hκ 1 dX11_arePlacesSound_3 rfl rfl ?_
      refine gt_Room_flights hκ hdR hx qw_111 (Or.inl rfl) dX11_arePlacesSound_4 ?_
      refine g_rf f5 ?_
      refine rV_i hκ hdR [] sd_Jx4a65c_size_8abf5 qw_227 (fun D cO H s hK hP => rc_List hK hP L5.1) (k_sizeL S (la 5) 0 (sz 5) (el 5) L5) ⟨rfl, rfl, Nat.le_of_ble_eq_true rfl, Nat.le_of_ble_eq_true rfl⟩ rfl rfl (Nat.le_of_ble_eq_true rfl) dX11_arePlacesSound_7 (fun r1 hr1 => ?_)
      refine g_eqi hr1 ?_
      refine g_icmp_ge hκ 38 dX11_arePlacesSound_10 (by decide) (fun _ => ?_) (fun z => absurd (lp_ge rfl (by omega) (by omega)) z)
      refine g_iconst hκ (v := 0) dX11_arePlacesSound_38 (by decide) ?_
      refine g_istore_n hκ [(1, .int 0), (0, .ref x)] dX11_arePlacesSound_39 rfl (by decide) rfl ?_
      have loop40 : ∀ (d40 i40 : Nat) (x40 : Int32), i40 + d40 = sz 7 → x40 = nI i40 → plcSoundB S el sz = (allR (fun i => isPlaceB (sI S q_Track_x (el 7 i)) (sI S q_Track_y (el 7 i))) d40 i40 && allR (fun i => isPlaceB (sI S q_Squadron_x (el 2 i)) (sI S q_Squadron_y (el 2 i))) (sz 2) 0) → Gj κ (PR κ S) 40 [(1, .int x40), (0, .ref x)] [] := by
        intro d40
        induction d40 with
        | zero =>
          intro i40 x40 hi40 hx40 hF40
          subst hx40
          refine g_iload_n hκ 0 dX11_arePlacesSound_40 rfl rfl ?_
          refine g_aload_n hκ 1 dX11_arePlacesSound_41 rfl rfl ?_
          refine gt_Room_tracks hκ hdR hx qw_113 (Or.inl rfl) dX11_arePlacesSound_42 ?_
          refine g_rf f7 ?_
          refine rV_i hκ hdR [] sd_Jx4a65c_size_8abf5 qw_227 (fun D cO H s hK hP => rc_List hK hP L7.1) (k_sizeL S (la 7) 9 (sz 7) (el 7) L7) ⟨rfl, rfl, Nat.le_of_ble_eq_true rfl, Nat.le_of_ble_eq_true rfl⟩ rfl rfl (Nat.le_of_ble_eq_true rfl) dX11_arePlacesSound_45 (fun r2 hr2 => ?_)
          refine g_eqi hr2 ?_
          refine g_icmp_ge hκ 76 dX11_arePlacesSound_48 (by decide) (fun _ => ?_) (fun z => absurd (lp_ge rfl (by omega) (by omega)) z)
          refine g_iconst hκ (v := 0) dX11_arePlacesSound_76 (by decide) ?_
          refine g_istore_n hκ [(1, .int 0), (0, .ref x)] dX11_arePlacesSound_77 rfl (by decide) rfl ?_
          have loop78 : ∀ (d78 i78 : Nat) (x78 : Int32), i78 + d78 = sz 2 → x78 = nI i78 → plcSoundB S el sz = (allR (fun i => isPlaceB (sI S q_Squadron_x (el 2 i)) (sI S q_Squadron_y (el 2 i))) d78 i78) → Gj κ (PR κ S) 78 [(1, .int x78), (0, .ref x)] [] := by
            intro d78
            induction d78 with
            | zero =>
              intro i78 x78 hi78 hx78 hF78
              subst hx78
              refine g_iload_n hκ 0 dX11_arePlacesSound_78 rfl rfl ?_
              refine g_aload_n hκ 1 dX11_arePlacesSound_79 rfl rfl ?_
              refine gt_Room_squadrons hκ hdR hx qw_108 (Or.inl rfl) dX11_arePlacesSound_80 ?_
              refine g_rf f2 ?_
              refine rV_i hκ hdR [] sd_Jx4a65c_size_8abf5 qw_227 (fun D cO H s hK hP => rc_List hK hP L2.1) (k_sizeL S (la 2) 6 (sz 2) (el 2) L2) ⟨rfl, rfl, Nat.le_of_ble_eq_true rfl, Nat.le_of_ble_eq_true rfl⟩ rfl rfl (Nat.le_of_ble_eq_true rfl) dX11_arePlacesSound_83 (fun r3 hr3 => ?_)
              refine g_eqi hr3 ?_
              refine g_icmp_ge hκ 114 dX11_arePlacesSound_86 (by decide) (fun _ => ?_) (fun z => absurd (lp_ge rfl (by omega) (by omega)) z)
              refine g_iconst hκ (v := 1) dX11_arePlacesSound_114 (by decide) ?_
              exact hend _ _ _ dX11_arePlacesSound_115 (by rw [hF78]; simp [allR, zb])
            | succ d78 ih78 =>
              intro i78 x78 hi78 hx78 hF78
              subst hx78
              refine g_iload_n hκ 0 dX11_arePlacesSound_78 rfl rfl ?_
              refine g_aload_n hκ 1 dX11_arePlacesSound_79 rfl rfl ?_
              refine gt_Room_squadrons hκ hdR hx qw_108 (Or.inl rfl) dX11_arePlacesSound_80 ?_
              refine g_rf f2 ?_
              refine rV_i hκ hdR [] sd_Jx4a65c_size_8abf5 qw_227 (fun D cO H s hK hP => rc_List hK hP L2.1) (k_sizeL S (la 2) 6 (sz 2) (el 2) L2) ⟨rfl, rfl, Nat.le_of_ble_eq_true rfl, Nat.le_of_ble_eq_true rfl⟩ rfl rfl (Nat.le_of_ble_eq_true rfl) dX11_arePlacesSound_83 (fun r4 hr4 => ?_)
              refine g_eqi hr4 ?_
              refine g_icmp_ge hκ 114 dX11_arePlacesSound_86 (by decide) (fun z => absurd z (lp_nge rfl (by omega) (by omega))) (fun _ => ?_)
              refine g_aload_n hκ 1 dX11_arePlacesSound_89 rfl rfl ?_
              refine gt_Room_squadrons hκ hdR hx qw_108 (Or.inl rfl) dX11_arePlacesSound_90 ?_
              refine g_rf f2 ?_
              refine g_iload_n hκ 0 dX11_arePlacesSound_93 rfl rfl ?_
              refine rV_q hκ hdR [.int (nI i78)] sd_Jx4a65c_get_915e3 qw_440 (fun D cO H s hK hP => rc_List hK hP L2.1) (k_get S (la 2) 6 (sz 2) i78 (el 2) (nI i78) L2 rfl (by omega)) ⟨rfl, rfl, Nat.le_of_ble_eq_true rfl, Nat.le_of_ble_eq_true rfl⟩ rfl rfl (Nat.le_of_ble_eq_true rfl) dX11_arePlacesSound_94 (fun r5 hr5 => ?_)
              refine g_rf hr5 ?_
              refine gc_Squadron hκ hdR (L2.2.2.2.2 i78 (by omega)) qw_438 dX11_arePlacesSound_97 ?_
              refine rU_i hκ hdR [] (ud_X4_isOnMap_Squadron) qw_981 (by decide +kernel) (fun D cO H s hK hP => rc_Squadron hK hP (L2.2.2.2.2 i78 (by omega))) (k_isOnMap_Squadron S (el 2 i78) (L2.2.2.2.2 i78 (by omega))) ⟨rfl, rfl, Nat.le_of_ble_eq_true rfl, Nat.le_of_ble_eq_true rfl⟩ rfl rfl (Nat.le_of_ble_eq_true rfl) dX11_arePlacesSound_100 (fun r6 hr6 => ?_)
              obtain ⟨b7, rfl⟩ | ⟨b7, rfl⟩ := zb_cases hr6
              · skip
                refine g_if_ne hκ 108 dX11_arePlacesSound_103 (by decide) (fun _ => ?_) (fun z => absurd z (by decide))
                obtain ⟨v8, hv8⟩ : ∃ z : Int32, nI i78 + 1 = z := ⟨_, rfl⟩
                refine g_iinc hκ (k := 0) (v := v8) [(1, .int v8), (0, .ref x)] dX11_arePlacesSound_108 rfl hv8 (by decide) rfl ?_
                refine g_goto hκ 78 dX11_arePlacesSound_111 (by decide) ?_
                refine g_lv [(1, .int v8), (0, .ref x)] [0, 1] rfl ?_
                exact ih78 (i78 + 1) v8 (by omega) (lp_s rfl hv8) (by rw [hF78]; simp [allR, hF2, hF40, b7, ← hv8])
              · skip
                refine g_if_ne hκ 108 dX11_arePlacesSound_103 (by decide) (fun z => absurd z (by decide)) (fun _ => ?_)
                refine g_iconst hκ (v := 0) dX11_arePlacesSound_106 (by decide) ?_
                exact hend _ _ _ dX11_arePlacesSound_107 (by rw [hF78]; simp [allR, zb, b7])
          exact loop78 (sz 2) 0 0 (by omega) (by first | rfl | decide) (by rw [hF40]; rfl)
        | succ d40 ih40 =>
          intro i40 x40 hi40 hx40 hF40
          subst hx40
          refine g_iload_n hκ 0 dX11_arePlacesSound_40 rfl rfl ?_
          refine g_aload_n hκ 1 dX11_arePlacesSound_41 rfl rfl ?_
          refine gt_Room_tracks hκ hdR hx qw_113 (Or.inl rfl) dX11_arePlacesSound_42 ?_
          refine g_rf f7 ?_
          refine rV_i hκ hdR [] sd_Jx4a65c_size_8abf5 qw_227 (fun D cO H s hK hP => rc_List hK hP L7.1) (k_sizeL S (la 7) 9 (sz 7) (el 7) L7) ⟨rfl, rfl, Nat.le_of_ble_eq_true rfl, Nat.le_of_ble_eq_true rfl⟩ rfl rfl (Nat.le_of_ble_eq_true rfl) dX11_arePlacesSound_45 (fun r9 hr9 => ?_)
          refine g_eqi hr9 ?_
          refine g_icmp_ge hκ 76 dX11_arePlacesSound_48 (by decide) (fun z => absurd z (lp_nge rfl (by omega) (by omega))) (fun _ => ?_)
          refine g_aload_n hκ 1 dX11_arePlacesSound_51 rfl rfl ?_
          refine gt_Room_tracks hκ hdR hx qw_113 (Or.inl rfl) dX11_arePlacesSound_52 ?_
          refine g_rf f7 ?_
          refine g_iload_n hκ 0 dX11_arePlacesSound_55 rfl rfl ?_
          refine rV_q hκ hdR [.int (nI i40)] sd_Jx4a65c_get_915e3 qw_440 (fun D cO H s hK hP => rc_List hK hP L7.1) (k_get S (la 7) 9 (sz 7) i40 (el 7) (nI i40) L7 rfl (by omega)) ⟨rfl, rfl, Nat.le_of_ble_eq_true rfl, Nat.le_of_ble_eq_true rfl⟩ rfl rfl (Nat.le_of_ble_eq_true rfl) dX11_arePlacesSound_56 (fun r10 hr10 => ?_)
          refine g_rf hr10 ?_
          refine gc_Track hκ hdR (L7.2.2.2.2 i40 (by omega)) qw_675 dX11_arePlacesSound_59 ?_
          refine rU_i hκ hdR [] (ud_X4_isOnMap_Track) qw_978 (by decide +kernel) (fun D cO H s hK hP => rc_Track hK hP (L7.2.2.2.2 i40 (by omega))) (k_isOnMap_Track S (el 7 i40) (L7.2.2.2.2 i40 (by omega))) ⟨rfl, rfl, Nat.le_of_ble_eq_true rfl, Nat.le_of_ble_eq_true rfl⟩ rfl rfl (Nat.le_of_ble_eq_true rfl) dX11_arePlacesSound_62 (fun r11 hr11 => ?_)
          obtain ⟨b12, rfl⟩ | ⟨b12, rfl⟩ := zb_cases hr11
          · skip
            refine g_if_ne hκ 70 dX11_arePlacesSound_65 (by decide) (fun _ => ?_) (fun z => absurd z (by decide))
            obtain ⟨v13, hv13⟩ : ∃ z : Int32, nI i40 + 1 = z := ⟨_, rfl⟩
            refine g_iinc hκ (k := 0) (v := v13) [(1, .int v13), (0, .ref x)] dX11_arePlacesSound_70 rfl hv13 (by decide) rfl ?_
            refine g_goto hκ 40 dX11_arePlacesSound_73 (by decide) ?_
            refine g_lv [(1, .int v13), (0, .ref x)] [0, 1] rfl ?_
            exact ih40 (i40 + 1) v13 (by omega) (lp_s rfl hv13) (by rw [hF40]; simp [allR, hF2, b12, ← hv13])
          · skip
            refine g_if_ne hκ 70 dX11_arePlacesSound_65 (by decide) (fun z => absurd z (by decide)) (fun _ => ?_)
            refine g_iconst hκ (v := 0) dX11_arePlacesSound_68 (by decide) ?_
            exact hend _ _ _ dX11_arePlacesSound_69 (by rw [hF40]; simp [allR, zb, b12])
      exact loop40 (sz 7) 0 0 (by omega) (by first | rfl | decide) (by rw [hF2]; rfl)
    | succ d2 ih2 =>
      intro i2 x2 hi2 hx2 hF2
      subst hx2
      refine g_iload_n hκ 0 dX11_arePlacesSound_2 rfl rfl ?_
      refine g_aload_n hκ 1 dX11_arePlacesSound_3 rfl rfl ?_
      refine gt_Room_flights hκ hdR hx qw_111 (Or.inl rfl) dX11_arePlacesSound_4 ?_
      refine g_rf f5 ?_
      refine rV_i hκ hdR [] sd_Jx4a65c_size_8abf5 qw_227 (fun D cO H s hK hP => rc_List hK hP L5.1) (k_sizeL S (la 5) 0 (sz 5) (el 5) L5) ⟨rfl, rfl, Nat.le_of_ble_eq_true rfl, Nat.le_of_ble_eq_true rfl⟩ rfl rfl (Nat.le_of_ble_eq_true rfl) dX11_arePlacesSound_7 (fun r14 hr14 => ?_)
      refine g_eqi hr14 ?_
      refine g_icmp_ge hκ 38 dX11_arePlacesSound_10 (by decide) (fun z => absurd z (lp_nge rfl (by omega) (by omega))) (fun _ => ?_)
      refine g_aload_n hκ 1 dX11_arePlacesSound_13 rfl rfl ?_
      refine gt_Room_flights hκ hdR hx qw_111 (Or.inl rfl) dX11_arePlacesSound_14 ?_
      refine g_rf f5 ?_
      refine g_iload_n hκ 0 dX11_arePlacesSound_17 rfl rfl ?_
      refine rV_q hκ hdR [.int (nI i2)] sd_Jx4a65c_get_915e3 qw_440 (fun D cO H s hK hP => rc_List hK hP L5.1) (k_get S (la 5) 0 (sz 5) i2 (el 5) (nI i2) L5 rfl (by omega)) ⟨rfl, rfl, Nat.le_of_ble_eq_true rfl, Nat.le_of_ble_eq_true rfl⟩ rfl rfl (Nat.le_of_ble_eq_true rfl) dX11_arePlacesSound_18 (fun r15 hr15 => ?_)
      refine g_rf hr15 ?_
      refine gc_Flight hκ hdR (L5.2.2.2.2 i2 (by omega)) qw_553 dX11_arePlacesSound_21 ?_
      refine rU_i hκ hdR [] (ud_X4_isOnMap_Flight) qw_971 (by decide +kernel) (fun D cO H s hK hP => rc_Flight hK hP (L5.2.2.2.2 i2 (by omega))) (k_isOnMap_Flight S (el 5 i2) (L5.2.2.2.2 i2 (by omega))) ⟨rfl, rfl, Nat.le_of_ble_eq_true rfl, Nat.le_of_ble_eq_true rfl⟩ rfl rfl (Nat.le_of_ble_eq_true rfl) dX11_arePlacesSound_24 (fun r16 hr16 => ?_)
      obtain ⟨b17, rfl⟩ | ⟨b17, rfl⟩ := zb_cases hr16
      · skip
        refine g_if_ne hκ 32 dX11_arePlacesSound_27 (by decide) (fun _ => ?_) (fun z => absurd z (by decide))
        obtain ⟨v18, hv18⟩ : ∃ z : Int32, nI i2 + 1 = z := ⟨_, rfl⟩
        refine g_iinc hκ (k := 0) (v := v18) [(1, .int v18), (0, .ref x)] dX11_arePlacesSound_32 rfl hv18 (by decide) rfl ?_
        refine g_goto hκ 2 dX11_arePlacesSound_35 (by decide) ?_
        refine g_lv [(1, .int v18), (0, .ref x)] [0, 1] rfl ?_
        exact ih2 (i2 + 1) v18 (by omega) (lp_s rfl hv18) (by rw [hF2]; simp [allR, b17, ← hv18])
      · skip
        refine g_if_ne hκ 32 dX11_arePlacesSound_27 (by decide) (fun z => absurd z (by decide)) (fun _ => ?_)
        refine g_iconst hκ (v := 0) dX11_arePlacesSound_30 (by decide) ?_
        exact hend _ _ _ dX11_arePlacesSound_31 (by rw [hF2]; simp [allR, zb, b17])
  exact loop2 (sz 5) 0 0 (by omega) (by first | rfl | decide) (by first | rfl | decide)
set_option maxHeartbeats 4000000 in
set_option maxRecDepth 100000 in
theorem k_isSound (S : wPS) (x lo ta : Nat) (la : Nat → Nat) (el : Nat → Nat → Nat) (sz : Nat → Nat) (hM : RMx S x lo ta la el sz) : MR yX11_isSound cX11_isSound 1 (some .boolean) ({ frames := 5, cells := 0, slots := 0, locals := 108 }) S [.ref x] (vp_Si (fun r => r = zb (soundB S x ta el sz))) := by
  refine stR_i (post := (fun r => r = zb (soundB S x ta el sz))) (by decide) (Nat.le_of_ble_eq_true rfl) rfl (fun v hv => by subst hv; exact zb_nar _) (fun κ hκ hend => ?_)
  show Gj κ _ 0 [(0, .ref x)] []
  have hMc := hM
  obtain ⟨hx, ⟨f0, L0⟩, ⟨f1, L1⟩, ⟨f2, L2⟩, ⟨f3, L3⟩, ⟨f4, L4⟩, ⟨f5, L5⟩, ⟨f6, L6⟩, ⟨f7, L7⟩, ⟨f8, L8⟩, ⟨flo, hlo⟩, ⟨fta, hta⟩⟩ := hMc
  have b0 := L0.2.2.1
  have b2 := L2.2.2.1
  have b3 := L3.2.2.1
  have b4 := L4.2.2.1
  have b5 := L5.2.2.1
  have b7 := L7.2.2.1
  have b8 := L8.2.2.1
  refine g_aload_n hκ 0 dX11_isSound_0 rfl rfl ?_
  refine rV_i hκ hdR [] sd_X11_areSquadronsSound qw_959 (fun D cO H s hK hP => rc_Room hK hP hx) (k_sqSound S x lo ta la el sz hM ) ⟨rfl, rfl, Nat.le_of_ble_eq_true rfl, Nat.le_of_ble_eq_true rfl⟩ rfl rfl (Nat.le_of_ble_eq_true rfl) dX11_isSound_1 (fun r1 hr1 => ?_)
  obtain ⟨b2, rfl⟩ | ⟨b2, rfl⟩ := zb_cases hr1
  · skip
    refine g_if_eq hκ 39 dX11_isSound_4 (by decide) (fun z => absurd z (by decide)) (fun _ => ?_)
    refine g_aload_n hκ 0 dX11_isSound_7 rfl rfl ?_
    refine rV_i hκ hdR [] sd_X11_arePlotsSound qw_963 (fun D cO H s hK hP => rc_Room hK hP hx) (k_plSound S x lo ta la el sz hM ) ⟨rfl, rfl, Nat.le_of_ble_eq_true rfl, Nat.le_of_ble_eq_true rfl⟩ rfl rfl (Nat.le_of_ble_eq_true rfl) dX11_isSound_8 (fun r3 hr3 => ?_)
    obtain ⟨b4, rfl⟩ | ⟨b4, rfl⟩ := zb_cases hr3
    · skip
      refine g_if_eq hκ 39 dX11_isSound_11 (by decide) (fun z => absurd z (by decide)) (fun _ => ?_)
      refine g_aload_n hκ 0 dX11_isSound_14 rfl rfl ?_
      refine gt_Room_tally hκ hdR hx qw_117 (Or.inl rfl) dX11_isSound_15 ?_
      refine g_rf fta ?_
      refine gtN_Tally_claims (host := "Plotroom") hκ hdR hta (by decide +kernel) (Or.inl rfl) dX11_isSound_18 ?_
      refine g_aload_n hκ 0 dX11_isSound_21 rfl rfl ?_
      refine rV_i hκ hdR [] sd_X11_countWon qw_910 (fun D cO H s hK hP => rc_Room hK hP hx) (k_countWon S x lo ta la el sz hM) ⟨rfl, rfl, Nat.le_of_ble_eq_true rfl, Nat.le_of_ble_eq_true rfl⟩ rfl rfl (Nat.le_of_ble_eq_true rfl) dX11_isSound_22 (fun r5 hr5 => ?_)
      refine g_eqi hr5 ?_
      refine g_icmp_lt hκ 39 dX11_isSound_25 (by decide) (fun c6 => ?_) (fun c6 => ?_)
      · skip
        refine g_iconst hκ (v := 0) dX11_isSound_39 (by decide) ?_
        exact hend _ _ _ dX11_isSound_40 (by simp [soundB, zb, b2, b4, c6])
      · skip
        refine g_aload_n hκ 0 dX11_isSound_28 rfl rfl ?_
        refine rV_i hκ hdR [] sd_X11_arePlacesSound qw_967 (fun D cO H s hK hP => rc_Room hK hP hx) (k_plcSound S x lo ta la el sz hM ) ⟨rfl, rfl, Nat.le_of_ble_eq_true rfl, Nat.le_of_ble_eq_true rfl⟩ rfl rfl (Nat.le_of_ble_eq_true rfl) dX11_isSound_29 (fun r7 hr7 => ?_)
        obtain ⟨b8, rfl⟩ | ⟨b8, rfl⟩ := zb_cases hr7
        · skip
          refine g_if_eq hκ 39 dX11_isSound_32 (by decide) (fun z => absurd z (by decide)) (fun _ => ?_)
          refine g_iconst hκ (v := 1) dX11_isSound_35 (by decide) ?_
          refine g_goto hκ 40 dX11_isSound_36 (by decide) ?_
          exact hend _ _ _ dX11_isSound_40 (by simp [soundB, zb, b2, b4, c6, b8, Int32.not_lt.mp c6])
        · skip
          refine g_if_eq hκ 39 dX11_isSound_32 (by decide) (fun _ => ?_) (fun z => absurd z (by decide))
          refine g_iconst hκ (v := 0) dX11_isSound_39 (by decide) ?_
          exact hend _ _ _ dX11_isSound_40 (by simp [soundB, zb, b2, b4, c6, b8, Int32.not_lt.mp c6])
    · skip
      refine g_if_eq hκ 39 dX11_isSound_11 (by decide) (fun _ => ?_) (fun z => absurd z (by decide))
      refine g_iconst hκ (v := 0) dX11_isSound_39 (by decide) ?_
      exact hend _ _ _ dX11_isSound_40 (by simp [soundB, zb, b2, b4])
  · skip
    refine g_if_eq hκ 39 dX11_isSound_4 (by decide) (fun _ => ?_) (fun z => absurd z (by decide))
    refine g_iconst hκ (v := 0) dX11_isSound_39 (by decide) ?_
    exact hend _ _ _ dX11_isSound_40 (by simp [soundB, zb, b2])
set_option maxHeartbeats 4000000 in
set_option maxRecDepth 100000 in
theorem k_tt_0 (S : wPS) (x lo ta : Nat) (la : Nat → Nat) (el : Nat → Nat → Nat) (sz : Nat → Nat) (t : Nat) (hM : RMx S x lo ta la el sz) (ht : t ∈ sL S ∧ sK S t = 9) (hSQ : SQx S el sz) : MR yX11_tellTrack cX11_tellTrack 3 (some .int) ({ frames := 1, cells := 0, slots := 0, locals := 21 }) S [.ref x, .ref t, .int 0] (vp_Si (fun r => r = ttF S x el sz t 0)) := by
  refine stR_i (post := (fun r => r = ttF S x el sz t 0)) (by decide) (Nat.le_of_ble_eq_true rfl) rfl (fun _ _ => rfl) (fun κ hκ hend => ?_)
  show Gj κ _ 0 [(0, .ref x), (1, .ref t), (2, .int 0)] []
  have hMc := hM
  obtain ⟨hx, ⟨f0, L0⟩, ⟨f1, L1⟩, ⟨f2, L2⟩, ⟨f3, L3⟩, ⟨f4, L4⟩, ⟨f5, L5⟩, ⟨f6, L6⟩, ⟨f7, L7⟩, ⟨f8, L8⟩, ⟨flo, hlo⟩, ⟨fta, hta⟩⟩ := hMc
  have b0 := L0.2.2.1
  have b2 := L2.2.2.1
  have b3 := L3.2.2.1
  have b4 := L4.2.2.1
  have b5 := L5.2.2.1
  have b7 := L7.2.2.1
  have b8 := L8.2.2.1
  refine g_iload_n hκ 2 dX11_tellTrack_0 rfl rfl ?_
  refine g_tableOut hκ 50 dX11_tellTrack_1 (by decide) (by decide) ?_
  refine g_aload_n hκ 1 dX11_tellTrack_50 rfl rfl ?_
  refine g_iload_n hκ 2 dX11_tellTrack_51 rfl rfl ?_
  refine rV_i hκ hdR [.int 0] sd_X10_tell qw_1015 (fun D cO H s hK hP => rc_Track hK hP ht) (k_tellTr_0 S t ht) ⟨rfl, rfl, Nat.le_of_ble_eq_true rfl, Nat.le_of_ble_eq_true rfl⟩ rfl rfl (Nat.le_of_ble_eq_true rfl) dX11_tellTrack_52 (fun r1 hr1 => ?_)
  refine g_eqi hr1 ?_
  exact hend _ _ _ dX11_tellTrack_55 (rfl)
set_option maxHeartbeats 4000000 in
set_option maxRecDepth 100000 in
theorem k_tt_1 (S : wPS) (x lo ta : Nat) (la : Nat → Nat) (el : Nat → Nat → Nat) (sz : Nat → Nat) (t : Nat) (hM : RMx S x lo ta la el sz) (ht : t ∈ sL S ∧ sK S t = 9) (hSQ : SQx S el sz) : MR yX11_tellTrack cX11_tellTrack 3 (some .int) ({ frames := 1, cells := 0, slots := 0, locals := 21 }) S [.ref x, .ref t, .int 1] (vp_Si (fun r => r = ttF S x el sz t 1)) := by
  refine stR_i (post := (fun r => r = ttF S x el sz t 1)) (by decide) (Nat.le_of_ble_eq_true rfl) rfl (fun _ _ => rfl) (fun κ hκ hend => ?_)
  show Gj κ _ 0 [(0, .ref x), (1, .ref t), (2, .int 1)] []
  have hMc := hM
  obtain ⟨hx, ⟨f0, L0⟩, ⟨f1, L1⟩, ⟨f2, L2⟩, ⟨f3, L3⟩, ⟨f4, L4⟩, ⟨f5, L5⟩, ⟨f6, L6⟩, ⟨f7, L7⟩, ⟨f8, L8⟩, ⟨flo, hlo⟩, ⟨fta, hta⟩⟩ := hMc
  have b0 := L0.2.2.1
  have b2 := L2.2.2.1
  have b3 := L3.2.2.1
  have b4 := L4.2.2.1
  have b5 := L5.2.2.1
  have b7 := L7.2.2.1
  have b8 := L8.2.2.1
  refine g_iload_n hκ 2 dX11_tellTrack_0 rfl rfl ?_
  refine g_tableOut hκ 50 dX11_tellTrack_1 (by decide) (by decide) ?_
  refine g_aload_n hκ 1 dX11_tellTrack_50 rfl rfl ?_
  refine g_iload_n hκ 2 dX11_tellTrack_51 rfl rfl ?_
  refine rV_i hκ hdR [.int 1] sd_X10_tell qw_1015 (fun D cO H s hK hP => rc_Track hK hP ht) (k_tellTr_1 S t ht) ⟨rfl, rfl, Nat.le_of_ble_eq_true rfl, Nat.le_of_ble_eq_true rfl⟩ rfl rfl (Nat.le_of_ble_eq_true rfl) dX11_tellTrack_52 (fun r1 hr1 => ?_)
  refine g_eqi hr1 ?_
  exact hend _ _ _ dX11_tellTrack_55 (rfl)
set_option maxHeartbeats 4000000 in
set_option maxRecDepth 100000 in
theorem k_tt_2 (S : wPS) (x lo ta : Nat) (la : Nat → Nat) (el : Nat → Nat → Nat) (sz : Nat → Nat) (t : Nat) (hM : RMx S x lo ta la el sz) (ht : t ∈ sL S ∧ sK S t = 9) (hSQ : SQx S el sz) : MR yX11_tellTrack cX11_tellTrack 3 (some .int) ({ frames := 1, cells := 0, slots := 0, locals := 21 }) S [.ref x, .ref t, .int 2] (vp_Si (fun r => r = ttF S x el sz t 2)) := by
  refine stR_i (post := (fun r => r = ttF S x el sz t 2)) (by decide) (Nat.le_of_ble_eq_true rfl) rfl (fun _ _ => rfl) (fun κ hκ hend => ?_)
  show Gj κ _ 0 [(0, .ref x), (1, .ref t), (2, .int 2)] []
  have hMc := hM
  obtain ⟨hx, ⟨f0, L0⟩, ⟨f1, L1⟩, ⟨f2, L2⟩, ⟨f3, L3⟩, ⟨f4, L4⟩, ⟨f5, L5⟩, ⟨f6, L6⟩, ⟨f7, L7⟩, ⟨f8, L8⟩, ⟨flo, hlo⟩, ⟨fta, hta⟩⟩ := hMc
  have b0 := L0.2.2.1
  have b2 := L2.2.2.1
  have b3 := L3.2.2.1
  have b4 := L4.2.2.1
  have b5 := L5.2.2.1
  have b7 := L7.2.2.1
  have b8 := L8.2.2.1
  refine g_iload_n hκ 2 dX11_tellTrack_0 rfl rfl ?_
  refine g_tableOut hκ 50 dX11_tellTrack_1 (by decide) (by decide) ?_
  refine g_aload_n hκ 1 dX11_tellTrack_50 rfl rfl ?_
  refine g_iload_n hκ 2 dX11_tellTrack_51 rfl rfl ?_
  refine rV_i hκ hdR [.int 2] sd_X10_tell qw_1015 (fun D cO H s hK hP => rc_Track hK hP ht) (k_tellTr_2 S t ht) ⟨rfl, rfl, Nat.le_of_ble_eq_true rfl, Nat.le_of_ble_eq_true rfl⟩ rfl rfl (Nat.le_of_ble_eq_true rfl) dX11_tellTrack_52 (fun r1 hr1 => ?_)
  refine g_eqi hr1 ?_
  exact hend _ _ _ dX11_tellTrack_55 (rfl)
set_option maxHeartbeats 4000000 in
set_option maxRecDepth 100000 in
theorem k_tt_3 (S : wPS) (x lo ta : Nat) (la : Nat → Nat) (el : Nat → Nat → Nat) (sz : Nat → Nat) (t : Nat) (hM : RMx S x lo ta la el sz) (ht : t ∈ sL S ∧ sK S t = 9) (hSQ : SQx S el sz) : MR yX11_tellTrack cX11_tellTrack 3 (some .int) ({ frames := 1, cells := 0, slots := 0, locals := 21 }) S [.ref x, .ref t, .int 3] (vp_Si (fun r => r = ttF S x el sz t 3)) := by
  refine stR_i (post := (fun r => r = ttF S x el sz t 3)) (by decide) (Nat.le_of_ble_eq_true rfl) rfl (fun _ _ => rfl) (fun κ hκ hend => ?_)
  show Gj κ _ 0 [(0, .ref x), (1, .ref t), (2, .int 3)] []
  have hMc := hM
  obtain ⟨hx, ⟨f0, L0⟩, ⟨f1, L1⟩, ⟨f2, L2⟩, ⟨f3, L3⟩, ⟨f4, L4⟩, ⟨f5, L5⟩, ⟨f6, L6⟩, ⟨f7, L7⟩, ⟨f8, L8⟩, ⟨flo, hlo⟩, ⟨fta, hta⟩⟩ := hMc
  have b0 := L0.2.2.1
  have b2 := L2.2.2.1
  have b3 := L3.2.2.1
  have b4 := L4.2.2.1
  have b5 := L5.2.2.1
  have b7 := L7.2.2.1
  have b8 := L8.2.2.1
  refine g_iload_n hκ 2 dX11_tellTrack_0 rfl rfl ?_
  refine g_tableOut hκ 50 dX11_tellTrack_1 (by decide) (by decide) ?_
  refine g_aload_n hκ 1 dX11_tellTrack_50 rfl rfl ?_
  refine g_iload_n hκ 2 dX11_tellTrack_51 rfl rfl ?_
  refine rV_i hκ hdR [.int 3] sd_X10_tell qw_1015 (fun D cO H s hK hP => rc_Track hK hP ht) (k_tellTr_3 S t ht) ⟨rfl, rfl, Nat.le_of_ble_eq_true rfl, Nat.le_of_ble_eq_true rfl⟩ rfl rfl (Nat.le_of_ble_eq_true rfl) dX11_tellTrack_52 (fun r1 hr1 => ?_)
  refine g_eqi hr1 ?_
  exact hend _ _ _ dX11_tellTrack_55 (rfl)
set_option maxHeartbeats 4000000 in
set_option maxRecDepth 100000 in
theorem k_tt_4 (S : wPS) (x lo ta : Nat) (la : Nat → Nat) (el : Nat → Nat → Nat) (sz : Nat → Nat) (t : Nat) (hM : RMx S x lo ta la el sz) (ht : t ∈ sL S ∧ sK S t = 9) (hSQ : SQx S el sz) : MR yX11_tellTrack cX11_tellTrack 3 (some .int) ({ frames := 1, cells := 0, slots := 0, locals := 21 }) S [.ref x, .ref t, .int 4] (vp_Si (fun r => r = ttF S x el sz t 4)) := by
  refine stR_i (post := (fun r => r = ttF S x el sz t 4)) (by decide) (Nat.le_of_ble_eq_true rfl) rfl (fun _ _ => rfl) (fun κ hκ hend => ?_)
  show Gj κ _ 0 [(0, .ref x), (1, .ref t), (2, .int 4)] []
  have hMc := hM
  obtain ⟨hx, ⟨f0, L0⟩, ⟨f1, L1⟩, ⟨f2, L2⟩, ⟨f3, L3⟩, ⟨f4, L4⟩, ⟨f5, L5⟩, ⟨f6, L6⟩, ⟨f7, L7⟩, ⟨f8, L8⟩, ⟨flo, hlo⟩, ⟨fta, hta⟩⟩ := hMc
  have b0 := L0.2.2.1
  have b2 := L2.2.2.1
  have b3 := L3.2.2.1
  have b4 := L4.2.2.1
  have b5 := L5.2.2.1
  have b7 := L7.2.2.1
  have b8 := L8.2.2.1
  refine g_iload_n hκ 2 dX11_tellTrack_0 rfl rfl ?_
  refine g_tableOut hκ 50 dX11_tellTrack_1 (by decide) (by decide) ?_
  refine g_aload_n hκ 1 dX11_tellTrack_50 rfl rfl ?_
  refine g_iload_n hκ 2 dX11_tellTrack_51 rfl rfl ?_
  refine rV_i hκ hdR [.int 4] sd_X10_tell qw_1015 (fun D cO H s hK hP => rc_Track hK hP ht) (k_tellTr_4 S t ht) ⟨rfl, rfl, Nat.le_of_ble_eq_true rfl, Nat.le_of_ble_eq_true rfl⟩ rfl rfl (Nat.le_of_ble_eq_true rfl) dX11_tellTrack_52 (fun r1 hr1 => ?_)
  refine g_eqi hr1 ?_
  exact hend _ _ _ dX11_tellTrack_55 (rfl)
set_option maxHeartbeats 4000000 in
set_option maxRecDepth 100000 in
theorem k_tt_5 (S : wPS) (x lo ta : Nat) (la : Nat → Nat) (el : Nat → Nat → Nat) (sz : Nat → Nat) (t : Nat) (hM : RMx S x lo ta la el sz) (ht : t ∈ sL S ∧ sK S t = 9) (hSQ : SQx S el sz) : MR yX11_tellTrack cX11_tellTrack 3 (some .int) ({ frames := 1, cells := 0, slots := 0, locals := 21 }) S [.ref x, .ref t, .int 5] (vp_Si (fun r => r = ttF S x el sz t 5)) := by
  refine stR_i (post := (fun r => r = ttF S x el sz t 5)) (by decide) (Nat.le_of_ble_eq_true rfl) rfl (fun _ _ => rfl) (fun κ hκ hend => ?_)
  show Gj κ _ 0 [(0, .ref x), (1, .ref t), (2, .int 5)] []
  have hMc := hM
  obtain ⟨hx, ⟨f0, L0⟩, ⟨f1, L1⟩, ⟨f2, L2⟩, ⟨f3, L3⟩, ⟨f4, L4⟩, ⟨f5, L5⟩, ⟨f6, L6⟩, ⟨f7, L7⟩, ⟨f8, L8⟩, ⟨flo, hlo⟩, ⟨fta, hta⟩⟩ := hMc
  have b0 := L0.2.2.1
  have b2 := L2.2.2.1
  have b3 := L3.2.2.1
  have b4 := L4.2.2.1
  have b5 := L5.2.2.1
  have b7 := L7.2.2.1
  have b8 := L8.2.2.1
  refine g_iload_n hκ 2 dX11_tellTrack_0 rfl rfl ?_
  refine g_tableOut hκ 50 dX11_tellTrack_1 (by decide) (by decide) ?_
  refine g_aload_n hκ 1 dX11_tellTrack_50 rfl rfl ?_
  refine g_iload_n hκ 2 dX11_tellTrack_51 rfl rfl ?_
  refine rV_i hκ hdR [.int 5] sd_X10_tell qw_1015 (fun D cO H s hK hP => rc_Track hK hP ht) (k_tellTr_5 S t ht) ⟨rfl, rfl, Nat.le_of_ble_eq_true rfl, Nat.le_of_ble_eq_true rfl⟩ rfl rfl (Nat.le_of_ble_eq_true rfl) dX11_tellTrack_52 (fun r1 hr1 => ?_)
  refine g_eqi hr1 ?_
  exact hend _ _ _ dX11_tellTrack_55 (rfl)
set_option maxHeartbeats 4000000 in
set_option maxRecDepth 100000 in
theorem k_tt_6 (S : wPS) (x lo ta : Nat) (la : Nat → Nat) (el : Nat → Nat → Nat) (sz : Nat → Nat) (t : Nat) (hM : RMx S x lo ta la el sz) (ht : t ∈ sL S ∧ sK S t = 9) (hSQ : SQx S el sz) : MR yX11_tellTrack cX11_tellTrack 3 (some .int) ({ frames := 1, cells := 0, slots := 0, locals := 21 }) S [.ref x, .ref t, .int 6] (vp_Si (fun r => r = ttF S x el sz t 6)) := by
  refine stR_i (post := (fun r => r = ttF S x el sz t 6)) (by decide) (Nat.le_of_ble_eq_true rfl) rfl (fun _ _ => rfl) (fun κ hκ hend => ?_)
  show Gj κ _ 0 [(0, .ref x), (1, .ref t), (2, .int 6)] []
  have hMc := hM
  obtain ⟨hx, ⟨f0, L0⟩, ⟨f1, L1⟩, ⟨f2, L2⟩, ⟨f3, L3⟩, ⟨f4, L4⟩, ⟨f5, L5⟩, ⟨f6, L6⟩, ⟨f7, L7⟩, ⟨f8, L8⟩, ⟨flo, hlo⟩, ⟨fta, hta⟩⟩ := hMc
  have b0 := L0.2.2.1
  have b2 := L2.2.2.1
  have b3 := L3.2.2.1
  have b4 := L4.2.2.1
  have b5 := L5.2.2.1
  have b7 := L7.2.2.1
  have b8 := L8.2.2.1
  refine g_iload_n hκ 2 dX11_tellTrack_0 rfl rfl ?_
  refine g_tableOut hκ 50 dX11_tellTrack_1 (by decide) (by decide) ?_
  refine g_aload_n hκ 1 dX11_tellTrack_50 rfl rfl ?_
  refine g_iload_n hκ 2 dX11_tellTrack_51 rfl rfl ?_
  refine rV_i hκ hdR [.int 6] sd_X10_tell qw_1015 (fun D cO H s hK hP => rc_Track hK hP ht) (k_tellTr_6 S t ht) ⟨rfl, rfl, Nat.le_of_ble_eq_true rfl, Nat.le_of_ble_eq_true rfl⟩ rfl rfl (Nat.le_of_ble_eq_true rfl) dX11_tellTrack_52 (fun r1 hr1 => ?_)
  refine g_eqi hr1 ?_
  exact hend _ _ _ dX11_tellTrack_55 (rfl)
set_option maxHeartbeats 4000000 in
set_option maxRecDepth 100000 in
theorem k_tt_7 (S : wPS) (x lo ta : Nat) (la : Nat → Nat) (el : Nat → Nat → Nat) (sz : Nat → Nat) (t : Nat) (hM : RMx S x lo ta la el sz) (ht : t ∈ sL S ∧ sK S t = 9) (hSQ : SQx S el sz) : MR yX11_tellTrack cX11_tellTrack 3 (some .int) ({ frames := 1, cells := 0, slots := 0, locals := 21 }) S [.ref x, .ref t, .int 7] (vp_Si (fun r => r = ttF S x el sz t 7)) := by
  refine stR_i (post := (fun r => r = ttF S x el sz t 7)) (by decide) (Nat.le_of_ble_eq_true rfl) rfl (fun _ _ => rfl) (fun κ hκ hend => ?_)
  show Gj κ _ 0 [(0, .ref x), (1, .ref t), (2, .int 7)] []
  have hMc := hM
  obtain ⟨hx, ⟨f0, L0⟩, ⟨f1, L1⟩, ⟨f2, L2⟩, ⟨f3, L3⟩, ⟨f4, L4⟩, ⟨f5, L5⟩, ⟨f6, L6⟩, ⟨f7, L7⟩, ⟨f8, L8⟩, ⟨flo, hlo⟩, ⟨fta, hta⟩⟩ := hMc
  have b0 := L0.2.2.1
  have b2 := L2.2.2.1
  have b3 := L3.2.2.1
  have b4 := L4.2.2.1
  have b5 := L5.2.2.1
  have b7 := L7.2.2.1
  have b8 := L8.2.2.1
  refine g_iload_n hκ 2 dX11_tellTrack_0 rfl rfl ?_
  refine g_tableOut hκ 50 dX11_tellTrack_1 (by decide) (by decide) ?_
  refine g_aload_n hκ 1 dX11_tellTrack_50 rfl rfl ?_
  refine g_iload_n hκ 2 dX11_tellTrack_51 rfl rfl ?_
  refine rV_i hκ hdR [.int 7] sd_X10_tell qw_1015 (fun D cO H s hK hP => rc_Track hK hP ht) (k_tellTr_7 S t ht) ⟨rfl, rfl, Nat.le_of_ble_eq_true rfl, Nat.le_of_ble_eq_true rfl⟩ rfl rfl (Nat.le_of_ble_eq_true rfl) dX11_tellTrack_52 (fun r1 hr1 => ?_)
  refine g_eqi hr1 ?_
  exact hend _ _ _ dX11_tellTrack_55 (rfl)
set_option maxHeartbeats 4000000 in
set_option maxRecDepth 100000 in
theorem k_tt_8 (S : wPS) (x lo ta : Nat) (la : Nat → Nat) (el : Nat → Nat → Nat) (sz : Nat → Nat) (t : Nat) (hM : RMx S x lo ta la el sz) (ht : t ∈ sL S ∧ sK S t = 9) (hSQ : SQx S el sz) : MR yX11_tellTrack cX11_tellTrack 3 (some .int) ({ frames := 5, cells := 0, slots := 0, locals := 111 }) S [.ref x, .ref t, .int 8] (vp_Si (fun r => r = ttF S x el sz t 8)) := by
  refine stR_i (post := (fun r => r = ttF S x el sz t 8)) (by decide) (Nat.le_of_ble_eq_true rfl) rfl (fun _ _ => rfl) (fun κ hκ hend => ?_)
  show Gj κ _ 0 [(0, .ref x), (1, .ref t), (2, .int 8)] []
  have hMc := hM
  obtain ⟨hx, ⟨f0, L0⟩, ⟨f1, L1⟩, ⟨f2, L2⟩, ⟨f3, L3⟩, ⟨f4, L4⟩, ⟨f5, L5⟩, ⟨f6, L6⟩, ⟨f7, L7⟩, ⟨f8, L8⟩, ⟨flo, hlo⟩, ⟨fta, hta⟩⟩ := hMc
  have b0 := L0.2.2.1
  have b2 := L2.2.2.1
  have b3 := L3.2.2.1
  have b4 := L4.2.2.1
  have b5 := L5.2.2.1
  have b7 := L7.2.2.1
  have b8 := L8.2.2.1
  refine g_iload_n hκ 2 dX11_tellTrack_0 rfl rfl ?_
  refine g_tableIn (off := 27) hκ 28 dX11_tellTrack_1 (by decide) (by decide) (by decide) (by decide) ?_
  refine g_aload_n hκ 0 dX11_tellTrack_28 rfl rfl ?_
  refine g_aload_n hκ 1 dX11_tellTrack_29 rfl rfl ?_
  refine rV_i hκ hdR [.ref t] sd_X11_kindOf qw_835 (fun D cO H s hK hP => rc_Room hK hP hx) (k_kindOf S x lo ta la el sz t hM ht) ⟨rfl, rfl, Nat.le_of_ble_eq_true rfl, Nat.le_of_ble_eq_true rfl⟩ rfl rfl (Nat.le_of_ble_eq_true rfl) dX11_tellTrack_30 (fun r1 hr1 => ?_)
  refine g_eqi hr1 ?_
  exact hend _ _ _ dX11_tellTrack_33 (rfl)
set_option maxHeartbeats 4000000 in
set_option maxRecDepth 100000 in
theorem k_tt_9 (S : wPS) (x lo ta : Nat) (la : Nat → Nat) (el : Nat → Nat → Nat) (sz : Nat → Nat) (t : Nat) (hM : RMx S x lo ta la el sz) (ht : t ∈ sL S ∧ sK S t = 9) (hSQ : SQx S el sz) : MR yX11_tellTrack cX11_tellTrack 3 (some .int) ({ frames := 0, cells := 0, slots := 0, locals := 0 }) S [.ref x, .ref t, .int 9] (vp_Si (fun r => r = ttF S x el sz t 9)) := by
  refine stR_i (post := (fun r => r = ttF S x el sz t 9)) (by decide) (Nat.le_of_ble_eq_true rfl) rfl (fun _ _ => rfl) (fun κ hκ hend => ?_)
  show Gj κ _ 0 [(0, .ref x), (1, .ref t), (2, .int 9)] []
  have hMc := hM
  obtain ⟨hx, ⟨f0, L0⟩, ⟨f1, L1⟩, ⟨f2, L2⟩, ⟨f3, L3⟩, ⟨f4, L4⟩, ⟨f5, L5⟩, ⟨f6, L6⟩, ⟨f7, L7⟩, ⟨f8, L8⟩, ⟨flo, hlo⟩, ⟨fta, hta⟩⟩ := hMc
  have b0 := L0.2.2.1
  have b2 := L2.2.2.1
  have b3 := L3.2.2.1
  have b4 := L4.2.2.1
  have b5 := L5.2.2.1
  have b7 := L7.2.2.1
  have b8 := L8.2.2.1
  refine g_iload_n hκ 2 dX11_tellTrack_0 rfl rfl ?_
  refine g_tableIn (off := 33) hκ 34 dX11_tellTrack_1 (by decide) (by decide) (by decide) (by decide) ?_
  refine g_aload_n hκ 0 dX11_tellTrack_34 rfl rfl ?_
  refine gt_Room_minute hκ hdR hx qw_118 (Or.inl rfl) dX11_tellTrack_35 ?_
  refine g_aload_n hκ 1 dX11_tellTrack_38 rfl rfl ?_
  refine gtN_Track_minute (host := "Plotroom") hκ hdR ht (by decide +kernel) (Or.inl rfl) dX11_tellTrack_39 ?_
  refine g_isub hκ dX11_tellTrack_42 ?_
  exact hend _ _ _ dX11_tellTrack_43 (rfl)
set_option maxHeartbeats 4000000 in
set_option maxRecDepth 100000 in
theorem k_tt_10 (S : wPS) (x lo ta : Nat) (la : Nat → Nat) (el : Nat → Nat → Nat) (sz : Nat → Nat) (t : Nat) (hM : RMx S x lo ta la el sz) (ht : t ∈ sL S ∧ sK S t = 9) (hSQ : SQx S el sz) : MR yX11_tellTrack cX11_tellTrack 3 (some .int) ({ frames := 4, cells := 0, slots := 0, locals := 88 }) S [.ref x, .ref t, .int 10] (vp_Si (fun r => r = ttF S x el sz t 10)) := by
  refine stR_i (post := (fun r => r = ttF S x el sz t 10)) (by decide) (Nat.le_of_ble_eq_true rfl) rfl (fun _ _ => rfl) (fun κ hκ hend => ?_)
  show Gj κ _ 0 [(0, .ref x), (1, .ref t), (2, .int 10)] []
  have hMc := hM
  obtain ⟨hx, ⟨f0, L0⟩, ⟨f1, L1⟩, ⟨f2, L2⟩, ⟨f3, L3⟩, ⟨f4, L4⟩, ⟨f5, L5⟩, ⟨f6, L6⟩, ⟨f7, L7⟩, ⟨f8, L8⟩, ⟨flo, hlo⟩, ⟨fta, hta⟩⟩ := hMc
  have b0 := L0.2.2.1
  have b2 := L2.2.2.1
  have b3 := L3.2.2.1
  have b4 := L4.2.2.1
  have b5 := L5.2.2.1
  have b7 := L7.2.2.1
  have b8 := L8.2.2.1
  refine g_iload_n hκ 2 dX11_tellTrack_0 rfl rfl ?_
  refine g_tableIn (off := 43) hκ 44 dX11_tellTrack_1 (by decide) (by decide) (by decide) (by decide) ?_
  refine g_aload_n hκ 0 dX11_tellTrack_44 rfl rfl ?_
  refine g_aload_n hκ 1 dX11_tellTrack_45 rfl rfl ?_
  refine rV_i hκ hdR [.ref t] sd_X11_countSentTo qw_1010 (fun D cO H s hK hP => rc_Room hK hP hx) (k_countSentTo S x lo ta la el sz t hM ht hSQ) ⟨rfl, rfl, Nat.le_of_ble_eq_true rfl, Nat.le_of_ble_eq_true rfl⟩ rfl rfl (Nat.le_of_ble_eq_true rfl) dX11_tellTrack_46 (fun r1 hr1 => ?_)
  refine g_eqi hr1 ?_
  exact hend _ _ _ dX11_tellTrack_49 (rfl)
set_option maxHeartbeats 4000000 in
set_option maxRecDepth 100000 in
theorem k_rm_0 (S : wPS) (x lo ta : Nat) (la : Nat → Nat) (el : Nat → Nat → Nat) (sz : Nat → Nat) (hM : RMx S x lo ta la el sz) : MR yX11_tellRoom cX11_tellRoom 2 (some .int) ({ frames := 0, cells := 0, slots := 0, locals := 0 }) S [.ref x, .int 0] (vp_Si (fun r => r = rmF S x lo ta el sz 0)) := by
  refine stR_i (post := (fun r => r = rmF S x lo ta el sz 0)) (by decide) (Nat.le_of_ble_eq_true rfl) rfl (fun _ _ => rfl) (fun κ hκ hend => ?_)
  show Gj κ _ 0 [(0, .ref x), (1, .int 0)] []
  have hMc := hM
  obtain ⟨hx, ⟨f0, L0⟩, ⟨f1, L1⟩, ⟨f2, L2⟩, ⟨f3, L3⟩, ⟨f4, L4⟩, ⟨f5, L5⟩, ⟨f6, L6⟩, ⟨f7, L7⟩, ⟨f8, L8⟩, ⟨flo, hlo⟩, ⟨fta, hta⟩⟩ := hMc
  have b0 := L0.2.2.1
  have b2 := L2.2.2.1
  have b3 := L3.2.2.1
  have b4 := L4.2.2.1
  have b5 := L5.2.2.1
  have b7 := L7.2.2.1
  have b8 := L8.2.2.1
  refine g_iload_n hκ 1 dX11_tellRoom_0 rfl rfl ?_
  refine g_tableIn (off := 95) hκ 96 dX11_tellRoom_1 (by decide) (by decide) (by decide) (by decide) ?_
  refine g_aload_n hκ 0 dX11_tellRoom_96 rfl rfl ?_
  refine gt_Room_minute hκ hdR hx qw_118 (Or.inl rfl) dX11_tellRoom_97 ?_
  exact hend _ _ _ dX11_tellRoom_100 (rfl)
set_option maxHeartbeats 4000000 in
set_option maxRecDepth 100000 in
theorem k_rm_1 (S : wPS) (x lo ta : Nat) (la : Nat → Nat) (el : Nat → Nat → Nat) (sz : Nat → Nat) (hM : RMx S x lo ta la el sz) : MR yX11_tellRoom cX11_tellRoom 2 (some .int) ({ frames := 4, cells := 0, slots := 0, locals := 88 }) S [.ref x, .int 1] (vp_Si (fun r => r = rmF S x lo ta el sz 1)) := by
  refine stR_i (post := (fun r => r = rmF S x lo ta el sz 1)) (by decide) (Nat.le_of_ble_eq_true rfl) rfl (fun _ _ => rfl) (fun κ hκ hend => ?_)
  show Gj κ _ 0 [(0, .ref x), (1, .int 1)] []
  have hMc := hM
  obtain ⟨hx, ⟨f0, L0⟩, ⟨f1, L1⟩, ⟨f2, L2⟩, ⟨f3, L3⟩, ⟨f4, L4⟩, ⟨f5, L5⟩, ⟨f6, L6⟩, ⟨f7, L7⟩, ⟨f8, L8⟩, ⟨flo, hlo⟩, ⟨fta, hta⟩⟩ := hMc
  have b0 := L0.2.2.1
  have b2 := L2.2.2.1
  have b3 := L3.2.2.1
  have b4 := L4.2.2.1
  have b5 := L5.2.2.1
  have b7 := L7.2.2.1
  have b8 := L8.2.2.1
  refine g_iload_n hκ 1 dX11_tellRoom_0 rfl rfl ?_
  refine g_tableIn (off := 100) hκ 101 dX11_tellRoom_1 (by decide) (by decide) (by decide) (by decide) ?_
  refine g_aload_n hκ 0 dX11_tellRoom_101 rfl rfl ?_
  refine g_iconst hκ (v := 0) dX11_tellRoom_102 (by decide) ?_
  refine rV_i hκ hdR [.int 0] sd_X11_countUp qw_882 (fun D cO H s hK hP => rc_Room hK hP hx) (k_countUp S x lo ta la el sz 0 hM) ⟨rfl, rfl, Nat.le_of_ble_eq_true rfl, Nat.le_of_ble_eq_true rfl⟩ rfl rfl (Nat.le_of_ble_eq_true rfl) dX11_tellRoom_103 (fun r1 hr1 => ?_)
  refine g_eqi hr1 ?_
  exact hend _ _ _ dX11_tellRoom_106 (rfl)
set_option maxHeartbeats 4000000 in
set_option maxRecDepth 100000 in
theorem k_rm_2 (S : wPS) (x lo ta : Nat) (la : Nat → Nat) (el : Nat → Nat → Nat) (sz : Nat → Nat) (hM : RMx S x lo ta la el sz) : MR yX11_tellRoom cX11_tellRoom 2 (some .int) ({ frames := 4, cells := 0, slots := 0, locals := 88 }) S [.ref x, .int 2] (vp_Si (fun r => r = rmF S x lo ta el sz 2)) := by
  refine stR_i (post := (fun r => r = rmF S x lo ta el sz 2)) (by decide) (Nat.le_of_ble_eq_true rfl) rfl (fun _ _ => rfl) (fun κ hκ hend => ?_)
  show Gj κ _ 0 [(0, .ref x), (1, .int 2)] []
  have hMc := hM
  obtain ⟨hx, ⟨f0, L0⟩, ⟨f1, L1⟩, ⟨f2, L2⟩, ⟨f3, L3⟩, ⟨f4, L4⟩, ⟨f5, L5⟩, ⟨f6, L6⟩, ⟨f7, L7⟩, ⟨f8, L8⟩, ⟨flo, hlo⟩, ⟨fta, hta⟩⟩ := hMc
  have b0 := L0.2.2.1
  have b2 := L2.2.2.1
  have b3 := L3.2.2.1
  have b4 := L4.2.2.1
  have b5 := L5.2.2.1
  have b7 := L7.2.2.1
  have b8 := L8.2.2.1
  refine g_iload_n hκ 1 dX11_tellRoom_0 rfl rfl ?_
  refine g_tableIn (off := 106) hκ 107 dX11_tellRoom_1 (by decide) (by decide) (by decide) (by decide) ?_
  refine g_aload_n hκ 0 dX11_tellRoom_107 rfl rfl ?_
  refine g_iconst hκ (v := 1) dX11_tellRoom_108 (by decide) ?_
  refine rV_i hκ hdR [.int 1] sd_X11_countUp qw_882 (fun D cO H s hK hP => rc_Room hK hP hx) (k_countUp S x lo ta la el sz 1 hM) ⟨rfl, rfl, Nat.le_of_ble_eq_true rfl, Nat.le_of_ble_eq_true rfl⟩ rfl rfl (Nat.le_of_ble_eq_true rfl) dX11_tellRoom_109 (fun r1 hr1 => ?_)
  refine g_eqi hr1 ?_
  exact hend _ _ _ dX11_tellRoom_112 (rfl)
set_option maxHeartbeats 4000000 in
set_option maxRecDepth 100000 in
theorem k_rm_3 (S : wPS) (x lo ta : Nat) (la : Nat → Nat) (el : Nat → Nat → Nat) (sz : Nat → Nat) (hM : RMx S x lo ta la el sz) : MR yX11_tellRoom cX11_tellRoom 2 (some .int) ({ frames := 4, cells := 0, slots := 0, locals := 87 }) S [.ref x, .int 3] (vp_Si (fun r => r = rmF S x lo ta el sz 3)) := by
  refine stR_i (post := (fun r => r = rmF S x lo ta el sz 3)) (by decide) (Nat.le_of_ble_eq_true rfl) rfl (fun _ _ => rfl) (fun κ hκ hend => ?_)
  show Gj κ _ 0 [(0, .ref x), (1, .int 3)] []
  have hMc := hM
  obtain ⟨hx, ⟨f0, L0⟩, ⟨f1, L1⟩, ⟨f2, L2⟩, ⟨f3, L3⟩, ⟨f4, L4⟩, ⟨f5, L5⟩, ⟨f6, L6⟩, ⟨f7, L7⟩, ⟨f8, L8⟩, ⟨flo, hlo⟩, ⟨fta, hta⟩⟩ := hMc
  have b0 := L0.2.2.1
  have b2 := L2.2.2.1
  have b3 := L3.2.2.1
  have b4 := L4.2.2.1
  have b5 := L5.2.2.1
  have b7 := L7.2.2.1
  have b8 := L8.2.2.1
  refine g_iload_n hκ 1 dX11_tellRoom_0 rfl rfl ?_
  refine g_tableIn (off := 112) hκ 113 dX11_tellRoom_1 (by decide) (by decide) (by decide) (by decide) ?_
  refine g_aload_n hκ 0 dX11_tellRoom_113 rfl rfl ?_
  refine rV_i hκ hdR [] sd_X11_countFoeMachines qw_886 (fun D cO H s hK hP => rc_Room hK hP hx) (k_countFoe S x lo ta la el sz hM) ⟨rfl, rfl, Nat.le_of_ble_eq_true rfl, Nat.le_of_ble_eq_true rfl⟩ rfl rfl (Nat.le_of_ble_eq_true rfl) dX11_tellRoom_114 (fun r1 hr1 => ?_)
  refine g_eqi hr1 ?_
  exact hend _ _ _ dX11_tellRoom_117 (rfl)
set_option maxHeartbeats 4000000 in
set_option maxRecDepth 100000 in
theorem k_rm_4 (S : wPS) (x lo ta : Nat) (la : Nat → Nat) (el : Nat → Nat → Nat) (sz : Nat → Nat) (hM : RMx S x lo ta la el sz) : MR yX11_tellRoom cX11_tellRoom 2 (some .int) ({ frames := 1, cells := 0, slots := 0, locals := 20 }) S [.ref x, .int 4] (vp_Si (fun r => r = rmF S x lo ta el sz 4)) := by
  refine stR_i (post := (fun r => r = rmF S x lo ta el sz 4)) (by decide) (Nat.le_of_ble_eq_true rfl) rfl (fun _ _ => rfl) (fun κ hκ hend => ?_)
  show Gj κ _ 0 [(0, .ref x), (1, .int 4)] []
  have hMc := hM
  obtain ⟨hx, ⟨f0, L0⟩, ⟨f1, L1⟩, ⟨f2, L2⟩, ⟨f3, L3⟩, ⟨f4, L4⟩, ⟨f5, L5⟩, ⟨f6, L6⟩, ⟨f7, L7⟩, ⟨f8, L8⟩, ⟨flo, hlo⟩, ⟨fta, hta⟩⟩ := hMc
  have b0 := L0.2.2.1
  have b2 := L2.2.2.1
  have b3 := L3.2.2.1
  have b4 := L4.2.2.1
  have b5 := L5.2.2.1
  have b7 := L7.2.2.1
  have b8 := L8.2.2.1
  refine g_iload_n hκ 1 dX11_tellRoom_0 rfl rfl ?_
  refine g_tableIn (off := 117) hκ 118 dX11_tellRoom_1 (by decide) (by decide) (by decide) (by decide) ?_
  refine g_aload_n hκ 0 dX11_tellRoom_118 rfl rfl ?_
  refine gt_Room_tracks hκ hdR hx qw_113 (Or.inl rfl) dX11_tellRoom_119 ?_
  refine g_rf f7 ?_
  refine rV_i hκ hdR [] sd_Jx4a65c_size_8abf5 qw_227 (fun D cO H s hK hP => rc_List hK hP L7.1) (k_sizeL S (la 7) 9 (sz 7) (el 7) L7) ⟨rfl, rfl, Nat.le_of_ble_eq_true rfl, Nat.le_of_ble_eq_true rfl⟩ rfl rfl (Nat.le_of_ble_eq_true rfl) dX11_tellRoom_122 (fun r1 hr1 => ?_)
  refine g_eqi hr1 ?_
  exact hend _ _ _ dX11_tellRoom_125 (rfl)
set_option maxHeartbeats 4000000 in
set_option maxRecDepth 100000 in
theorem k_rm_5 (S : wPS) (x lo ta : Nat) (la : Nat → Nat) (el : Nat → Nat → Nat) (sz : Nat → Nat) (hM : RMx S x lo ta la el sz) : MR yX11_tellRoom cX11_tellRoom 2 (some .int) ({ frames := 4, cells := 0, slots := 0, locals := 86 }) S [.ref x, .int 5] (vp_Si (fun r => r = rmF S x lo ta el sz 5)) := by
  refine stR_i (post := (fun r => r = rmF S x lo ta el sz 5)) (by decide) (Nat.le_of_ble_eq_true rfl) rfl (fun _ _ => rfl) (fun κ hκ hend => ?_)
  show Gj κ _ 0 [(0, .ref x), (1, .int 5)] []
  have hMc := hM
  obtain ⟨hx, ⟨f0, L0⟩, ⟨f1, L1⟩, ⟨f2, L2⟩, ⟨f3, L3⟩, ⟨f4, L4⟩, ⟨f5, L5⟩, ⟨f6, L6⟩, ⟨f7, L7⟩, ⟨f8, L8⟩, ⟨flo, hlo⟩, ⟨fta, hta⟩⟩ := hMc
  have b0 := L0.2.2.1
  have b2 := L2.2.2.1
  have b3 := L3.2.2.1
  have b4 := L4.2.2.1
  have b5 := L5.2.2.1
  have b7 := L7.2.2.1
  have b8 := L8.2.2.1
  refine g_iload_n hκ 1 dX11_tellRoom_0 rfl rfl ?_
  refine g_tableIn (off := 125) hκ 126 dX11_tellRoom_1 (by decide) (by decide) (by decide) (by decide) ?_
  refine g_aload_n hκ 0 dX11_tellRoom_126 rfl rfl ?_
  refine rV_i hκ hdR [] sd_X11_countLive qw_890 (fun D cO H s hK hP => rc_Room hK hP hx) (k_countLive S x lo ta la el sz hM) ⟨rfl, rfl, Nat.le_of_ble_eq_true rfl, Nat.le_of_ble_eq_true rfl⟩ rfl rfl (Nat.le_of_ble_eq_true rfl) dX11_tellRoom_127 (fun r1 hr1 => ?_)
  refine g_eqi hr1 ?_
  exact hend _ _ _ dX11_tellRoom_130 (rfl)
set_option maxHeartbeats 4000000 in
set_option maxRecDepth 100000 in
theorem k_rm_6 (S : wPS) (x lo ta : Nat) (la : Nat → Nat) (el : Nat → Nat → Nat) (sz : Nat → Nat) (hM : RMx S x lo ta la el sz) : MR yX11_tellRoom cX11_tellRoom 2 (some .int) ({ frames := 6, cells := 0, slots := 0, locals := 135 }) S [.ref x, .int 6] (vp_Si (fun r => r = rmF S x lo ta el sz 6)) := by
  refine stR_i (post := (fun r => r = rmF S x lo ta el sz 6)) (by decide) (Nat.le_of_ble_eq_true rfl) rfl (fun _ _ => rfl) (fun κ hκ hend => ?_)
  show Gj κ _ 0 [(0, .ref x), (1, .int 6)] []
  have hMc := hM
  obtain ⟨hx, ⟨f0, L0⟩, ⟨f1, L1⟩, ⟨f2, L2⟩, ⟨f3, L3⟩, ⟨f4, L4⟩, ⟨f5, L5⟩, ⟨f6, L6⟩, ⟨f7, L7⟩, ⟨f8, L8⟩, ⟨flo, hlo⟩, ⟨fta, hta⟩⟩ := hMc
  have b0 := L0.2.2.1
  have b2 := L2.2.2.1
  have b3 := L3.2.2.1
  have b4 := L4.2.2.1
  have b5 := L5.2.2.1
  have b7 := L7.2.2.1
  have b8 := L8.2.2.1
  refine g_iload_n hκ 1 dX11_tellRoom_0 rfl rfl ?_
  refine g_tableIn (off := 130) hκ 131 dX11_tellRoom_1 (by decide) (by decide) (by decide) (by decide) ?_
  refine g_aload_n hκ 0 dX11_tellRoom_131 rfl rfl ?_
  refine g_iconst hκ (v := 0) dX11_tellRoom_132 (by decide) ?_
  refine rV_i hκ hdR [.int 0] sd_X11_countLiveOfKind qw_894 (fun D cO H s hK hP => rc_Room hK hP hx) (k_countLiveOfKind S x lo ta la el sz 0 hM) ⟨rfl, rfl, Nat.le_of_ble_eq_true rfl, Nat.le_of_ble_eq_true rfl⟩ rfl rfl (Nat.le_of_ble_eq_true rfl) dX11_tellRoom_133 (fun r1 hr1 => ?_)
  refine g_eqi hr1 ?_
  exact hend _ _ _ dX11_tellRoom_136 (rfl)
set_option maxHeartbeats 4000000 in
set_option maxRecDepth 100000 in
theorem k_rm_7 (S : wPS) (x lo ta : Nat) (la : Nat → Nat) (el : Nat → Nat → Nat) (sz : Nat → Nat) (hM : RMx S x lo ta la el sz) : MR yX11_tellRoom cX11_tellRoom 2 (some .int) ({ frames := 6, cells := 0, slots := 0, locals := 135 }) S [.ref x, .int 7] (vp_Si (fun r => r = rmF S x lo ta el sz 7)) := by
  refine stR_i (post := (fun r => r = rmF S x lo ta el sz 7)) (by decide) (Nat.le_of_ble_eq_true rfl) rfl (fun _ _ => rfl) (fun κ hκ hend => ?_)
  show Gj κ _ 0 [(0, .ref x), (1, .int 7)] []
  have hMc := hM
  obtain ⟨hx, ⟨f0, L0⟩, ⟨f1, L1⟩, ⟨f2, L2⟩, ⟨f3, L3⟩, ⟨f4, L4⟩, ⟨f5, L5⟩, ⟨f6, L6⟩, ⟨f7, L7⟩, ⟨f8, L8⟩, ⟨flo, hlo⟩, ⟨fta, hta⟩⟩ := hMc
  have b0 := L0.2.2.1
  have b2 := L2.2.2.1
  have b3 := L3.2.2.1
  have b4 := L4.2.2.1
  have b5 := L5.2.2.1
  have b7 := L7.2.2.1
  have b8 := L8.2.2.1
  refine g_iload_n hκ 1 dX11_tellRoom_0 rfl rfl ?_
  refine g_tableIn (off := 136) hκ 137 dX11_tellRoom_1 (by decide) (by decide) (by decide) (by decide) ?_
  refine g_aload_n hκ 0 dX11_tellRoom_137 rfl rfl ?_
  refine g_iconst hκ (v := 2) dX11_tellRoom_138 (by decide) ?_
  refine rV_i hκ hdR [.int 2] sd_X11_countLiveOfKind qw_894 (fun D cO H s hK hP => rc_Room hK hP hx) (k_countLiveOfKind S x lo ta la el sz 2 hM) ⟨rfl, rfl, Nat.le_of_ble_eq_true rfl, Nat.le_of_ble_eq_true rfl⟩ rfl rfl (Nat.le_of_ble_eq_true rfl) dX11_tellRoom_139 (fun r1 hr1 => ?_)
  refine g_eqi hr1 ?_
  exact hend _ _ _ dX11_tellRoom_142 (rfl)
set_option maxHeartbeats 4000000 in
set_option maxRecDepth 100000 in
theorem k_rm_8 (S : wPS) (x lo ta : Nat) (la : Nat → Nat) (el : Nat → Nat → Nat) (sz : Nat → Nat) (hM : RMx S x lo ta la el sz) : MR yX11_tellRoom cX11_tellRoom 2 (some .int) ({ frames := 0, cells := 0, slots := 0, locals := 0 }) S [.ref x, .int 8] (vp_Si (fun r => r = rmF S x lo ta el sz 8)) := by
  refine stR_i (post := (fun r => r = rmF S x lo ta el sz 8)) (by decide) (Nat.le_of_ble_eq_true rfl) rfl (fun _ _ => rfl) (fun κ hκ hend => ?_)
  show Gj κ _ 0 [(0, .ref x), (1, .int 8)] []
  have hMc := hM
  obtain ⟨hx, ⟨f0, L0⟩, ⟨f1, L1⟩, ⟨f2, L2⟩, ⟨f3, L3⟩, ⟨f4, L4⟩, ⟨f5, L5⟩, ⟨f6, L6⟩, ⟨f7, L7⟩, ⟨f8, L8⟩, ⟨flo, hlo⟩, ⟨fta, hta⟩⟩ := hMc
  have b0 := L0.2.2.1
  have b2 := L2.2.2.1
  have b3 := L3.2.2.1
  have b4 := L4.2.2.1
  have b5 := L5.2.2.1
  have b7 := L7.2.2.1
  have b8 := L8.2.2.1
  refine g_iload_n hκ 1 dX11_tellRoom_0 rfl rfl ?_
  refine g_tableIn (off := 142) hκ 143 dX11_tellRoom_1 (by decide) (by decide) (by decide) (by decide) ?_
  refine g_aload_n hκ 0 dX11_tellRoom_143 rfl rfl ?_
  refine gt_Room_plotsOnWay hκ hdR hx qw_115 (Or.inl rfl) dX11_tellRoom_144 ?_
  exact hend _ _ _ dX11_tellRoom_147 (rfl)
set_option maxHeartbeats 4000000 in
set_option maxRecDepth 100000 in
theorem k_rm_9 (S : wPS) (x lo ta : Nat) (la : Nat → Nat) (el : Nat → Nat → Nat) (sz : Nat → Nat) (hM : RMx S x lo ta la el sz) : MR yX11_tellRoom cX11_tellRoom 2 (some .int) ({ frames := 0, cells := 0, slots := 0, locals := 0 }) S [.ref x, .int 9] (vp_Si (fun r => r = rmF S x lo ta el sz 9)) := by
  refine stR_i (post := (fun r => r = rmF S x lo ta el sz 9)) (by decide) (Nat.le_of_ble_eq_true rfl) rfl (fun _ _ => rfl) (fun κ hκ hend => ?_)
  show Gj κ _ 0 [(0, .ref x), (1, .int 9)] []
  have hMc := hM
  obtain ⟨hx, ⟨f0, L0⟩, ⟨f1, L1⟩, ⟨f2, L2⟩, ⟨f3, L3⟩, ⟨f4, L4⟩, ⟨f5, L5⟩, ⟨f6, L6⟩, ⟨f7, L7⟩, ⟨f8, L8⟩, ⟨flo, hlo⟩, ⟨fta, hta⟩⟩ := hMc
  have b0 := L0.2.2.1
  have b2 := L2.2.2.1
  have b3 := L3.2.2.1
  have b4 := L4.2.2.1
  have b5 := L5.2.2.1
  have b7 := L7.2.2.1
  have b8 := L8.2.2.1
  refine g_iload_n hκ 1 dX11_tellRoom_0 rfl rfl ?_
  refine g_tableIn (off := 147) hκ 148 dX11_tellRoom_1 (by decide) (by decide) (by decide) (by decide) ?_
  refine g_aload_n hκ 0 dX11_tellRoom_148 rfl rfl ?_
  refine gt_Room_tally hκ hdR hx qw_117 (Or.inl rfl) dX11_tellRoom_149 ?_
  refine g_rf fta ?_
  refine gtN_Tally_plotsWithoutTrack (host := "Plotroom") hκ hdR hta (by decide +kernel) (Or.inl rfl) dX11_tellRoom_152 ?_
  exact hend _ _ _ dX11_tellRoom_155 (rfl)
set_option maxHeartbeats 4000000 in
set_option maxRecDepth 100000 in
theorem k_rm_10 (S : wPS) (x lo ta : Nat) (la : Nat → Nat) (el : Nat → Nat → Nat) (sz : Nat → Nat) (hM : RMx S x lo ta la el sz) : MR yX11_tellRoom cX11_tellRoom 2 (some .int) ({ frames := 4, cells := 0, slots := 0, locals := 86 }) S [.ref x, .int 10] (vp_Si (fun r => r = rmF S x lo ta el sz 10)) := by
  refine stR_i (post := (fun r => r = rmF S x lo ta el sz 10)) (by decide) (Nat.le_of_ble_eq_true rfl) rfl (fun _ _ => rfl) (fun κ hκ hend => ?_)
  show Gj κ _ 0 [(0, .ref x), (1, .int 10)] []
  have hMc := hM
  obtain ⟨hx, ⟨f0, L0⟩, ⟨f1, L1⟩, ⟨f2, L2⟩, ⟨f3, L3⟩, ⟨f4, L4⟩, ⟨f5, L5⟩, ⟨f6, L6⟩, ⟨f7, L7⟩, ⟨f8, L8⟩, ⟨flo, hlo⟩, ⟨fta, hta⟩⟩ := hMc
  have b0 := L0.2.2.1
  have b2 := L2.2.2.1
  have b3 := L3.2.2.1
  have b4 := L4.2.2.1
  have b5 := L5.2.2.1
  have b7 := L7.2.2.1
  have b8 := L8.2.2.1
  refine g_iload_n hκ 1 dX11_tellRoom_0 rfl rfl ?_
  refine g_tableIn (off := 155) hκ 156 dX11_tellRoom_1 (by decide) (by decide) (by decide) (by decide) ?_
  refine g_aload_n hκ 0 dX11_tellRoom_156 rfl rfl ?_
  refine rV_i hκ hdR [] sd_X11_countInAir qw_898 (fun D cO H s hK hP => rc_Room hK hP hx) (k_countInAir S x lo ta la el sz hM) ⟨rfl, rfl, Nat.le_of_ble_eq_true rfl, Nat.le_of_ble_eq_true rfl⟩ rfl rfl (Nat.le_of_ble_eq_true rfl) dX11_tellRoom_157 (fun r1 hr1 => ?_)
  refine g_eqi hr1 ?_
  exact hend _ _ _ dX11_tellRoom_160 (rfl)
set_option maxHeartbeats 4000000 in
set_option maxRecDepth 100000 in
theorem k_rm_11 (S : wPS) (x lo ta : Nat) (la : Nat → Nat) (el : Nat → Nat → Nat) (sz : Nat → Nat) (hM : RMx S x lo ta la el sz) : MR yX11_tellRoom cX11_tellRoom 2 (some .int) ({ frames := 4, cells := 0, slots := 0, locals := 86 }) S [.ref x, .int 11] (vp_Si (fun r => r = rmF S x lo ta el sz 11)) := by
  refine stR_i (post := (fun r => r = rmF S x lo ta el sz 11)) (by decide) (Nat.le_of_ble_eq_true rfl) rfl (fun _ _ => rfl) (fun κ hκ hend => ?_)
  show Gj κ _ 0 [(0, .ref x), (1, .int 11)] []
  have hMc := hM
  obtain ⟨hx, ⟨f0, L0⟩, ⟨f1, L1⟩, ⟨f2, L2⟩, ⟨f3, L3⟩, ⟨f4, L4⟩, ⟨f5, L5⟩, ⟨f6, L6⟩, ⟨f7, L7⟩, ⟨f8, L8⟩, ⟨flo, hlo⟩, ⟨fta, hta⟩⟩ := hMc
  have b0 := L0.2.2.1
  have b2 := L2.2.2.1
  have b3 := L3.2.2.1
  have b4 := L4.2.2.1
  have b5 := L5.2.2.1
  have b7 := L7.2.2.1
  have b8 := L8.2.2.1
  refine g_iload_n hκ 1 dX11_tellRoom_0 rfl rfl ?_
  refine g_tableIn (off := 160) hκ 161 dX11_tellRoom_1 (by decide) (by decide) (by decide) (by decide) ?_
  refine g_aload_n hκ 0 dX11_tellRoom_161 rfl rfl ?_
  refine rV_i hκ hdR [] sd_X11_countTalks qw_902 (fun D cO H s hK hP => rc_Room hK hP hx) (k_countTalks S x lo ta la el sz hM) ⟨rfl, rfl, Nat.le_of_ble_eq_true rfl, Nat.le_of_ble_eq_true rfl⟩ rfl rfl (Nat.le_of_ble_eq_true rfl) dX11_tellRoom_162 (fun r1 hr1 => ?_)
  refine g_eqi hr1 ?_
  exact hend _ _ _ dX11_tellRoom_165 (rfl)
set_option maxHeartbeats 4000000 in
set_option maxRecDepth 100000 in
theorem k_rm_12 (S : wPS) (x lo ta : Nat) (la : Nat → Nat) (el : Nat → Nat → Nat) (sz : Nat → Nat) (hM : RMx S x lo ta la el sz) : MR yX11_tellRoom cX11_tellRoom 2 (some .int) ({ frames := 0, cells := 0, slots := 0, locals := 0 }) S [.ref x, .int 12] (vp_Si (fun r => r = rmF S x lo ta el sz 12)) := by
  refine stR_i (post := (fun r => r = rmF S x lo ta el sz 12)) (by decide) (Nat.le_of_ble_eq_true rfl) rfl (fun _ _ => rfl) (fun κ hκ hend => ?_)
  show Gj κ _ 0 [(0, .ref x), (1, .int 12)] []
  have hMc := hM
  obtain ⟨hx, ⟨f0, L0⟩, ⟨f1, L1⟩, ⟨f2, L2⟩, ⟨f3, L3⟩, ⟨f4, L4⟩, ⟨f5, L5⟩, ⟨f6, L6⟩, ⟨f7, L7⟩, ⟨f8, L8⟩, ⟨flo, hlo⟩, ⟨fta, hta⟩⟩ := hMc
  have b0 := L0.2.2.1
  have b2 := L2.2.2.1
  have b3 := L3.2.2.1
  have b4 := L4.2.2.1
  have b5 := L5.2.2.1
  have b7 := L7.2.2.1
  have b8 := L8.2.2.1
  refine g_iload_n hκ 1 dX11_tellRoom_0 rfl rfl ?_
  refine g_tableIn (off := 165) hκ 166 dX11_tellRoom_1 (by decide) (by decide) (by decide) (by decide) ?_
  refine g_aload_n hκ 0 dX11_tellRoom_166 rfl rfl ?_
  refine gt_Room_tally hκ hdR hx qw_117 (Or.inl rfl) dX11_tellRoom_167 ?_
  refine g_rf fta ?_
  refine gtN_Tally_fights (host := "Plotroom") hκ hdR hta (by decide +kernel) (Or.inl rfl) dX11_tellRoom_170 ?_
  exact hend _ _ _ dX11_tellRoom_173 (rfl)
set_option maxHeartbeats 4000000 in
set_option maxRecDepth 100000 in
theorem k_rm_13 (S : wPS) (x lo ta : Nat) (la : Nat → Nat) (el : Nat → Nat → Nat) (sz : Nat → Nat) (hM : RMx S x lo ta la el sz) : MR yX11_tellRoom cX11_tellRoom 2 (some .int) ({ frames := 4, cells := 0, slots := 0, locals := 86 }) S [.ref x, .int 13] (vp_Si (fun r => r = rmF S x lo ta el sz 13)) := by
  refine stR_i (post := (fun r => r = rmF S x lo ta el sz 13)) (by decide) (Nat.le_of_ble_eq_true rfl) rfl (fun _ _ => rfl) (fun κ hκ hend => ?_)
  show Gj κ _ 0 [(0, .ref x), (1, .int 13)] []
  have hMc := hM
  obtain ⟨hx, ⟨f0, L0⟩, ⟨f1, L1⟩, ⟨f2, L2⟩, ⟨f3, L3⟩, ⟨f4, L4⟩, ⟨f5, L5⟩, ⟨f6, L6⟩, ⟨f7, L7⟩, ⟨f8, L8⟩, ⟨flo, hlo⟩, ⟨fta, hta⟩⟩ := hMc
  have b0 := L0.2.2.1
  have b2 := L2.2.2.1
  have b3 := L3.2.2.1
  have b4 := L4.2.2.1
  have b5 := L5.2.2.1
  have b7 := L7.2.2.1
  have b8 := L8.2.2.1
  refine g_iload_n hκ 1 dX11_tellRoom_0 rfl rfl ?_
  refine g_tableIn (off := 173) hκ 174 dX11_tellRoom_1 (by decide) (by decide) (by decide) (by decide) ?_
  refine g_aload_n hκ 0 dX11_tellRoom_174 rfl rfl ?_
  refine rV_i hκ hdR [] sd_X11_countWon qw_910 (fun D cO H s hK hP => rc_Room hK hP hx) (k_countWon S x lo ta la el sz hM) ⟨rfl, rfl, Nat.le_of_ble_eq_true rfl, Nat.le_of_ble_eq_true rfl⟩ rfl rfl (Nat.le_of_ble_eq_true rfl) dX11_tellRoom_175 (fun r1 hr1 => ?_)
  refine g_eqi hr1 ?_
  exact hend _ _ _ dX11_tellRoom_178 (rfl)
set_option maxHeartbeats 4000000 in
set_option maxRecDepth 100000 in
theorem k_rm_14 (S : wPS) (x lo ta : Nat) (la : Nat → Nat) (el : Nat → Nat → Nat) (sz : Nat → Nat) (hM : RMx S x lo ta la el sz) : MR yX11_tellRoom cX11_tellRoom 2 (some .int) ({ frames := 0, cells := 0, slots := 0, locals := 0 }) S [.ref x, .int 14] (vp_Si (fun r => r = rmF S x lo ta el sz 14)) := by
  refine stR_i (post := (fun r => r = rmF S x lo ta el sz 14)) (by decide) (Nat.le_of_ble_eq_true rfl) rfl (fun _ _ => rfl) (fun κ hκ hend => ?_)
  show Gj κ _ 0 [(0, .ref x), (1, .int 14)] []
  have hMc := hM
  obtain ⟨hx, ⟨f0, L0⟩, ⟨f1, L1⟩, ⟨f2, L2⟩, ⟨f3, L3⟩, ⟨f4, L4⟩, ⟨f5, L5⟩, ⟨f6, L6⟩, ⟨f7, L7⟩, ⟨f8, L8⟩, ⟨flo, hlo⟩, ⟨fta, hta⟩⟩ := hMc
  have b0 := L0.2.2.1
  have b2 := L2.2.2.1
  have b3 := L3.2.2.1
  have b4 := L4.2.2.1
  have b5 := L5.2.2.1
  have b7 := L7.2.2.1
  have b8 := L8.2.2.1
  refine g_iload_n hκ 1 dX11_tellRoom_0 rfl rfl ?_
  refine g_tableIn (off := 178) hκ 179 dX11_tellRoom_1 (by decide) (by decide) (by decide) (by decide) ?_
  refine g_aload_n hκ 0 dX11_tellRoom_179 rfl rfl ?_
  refine gt_Room_tally hκ hdR hx qw_117 (Or.inl rfl) dX11_tellRoom_180 ?_
  refine g_rf fta ?_
  refine gtN_Tally_claims (host := "Plotroom") hκ hdR hta (by decide +kernel) (Or.inl rfl) dX11_tellRoom_183 ?_
  exact hend _ _ _ dX11_tellRoom_186 (rfl)
set_option maxHeartbeats 4000000 in
set_option maxRecDepth 100000 in
theorem k_rm_15 (S : wPS) (x lo ta : Nat) (la : Nat → Nat) (el : Nat → Nat → Nat) (sz : Nat → Nat) (hM : RMx S x lo ta la el sz) : MR yX11_tellRoom cX11_tellRoom 2 (some .int) ({ frames := 0, cells := 0, slots := 0, locals := 0 }) S [.ref x, .int 15] (vp_Si (fun r => r = rmF S x lo ta el sz 15)) := by
  refine stR_i (post := (fun r => r = rmF S x lo ta el sz 15)) (by decide) (Nat.le_of_ble_eq_true rfl) rfl (fun _ _ => rfl) (fun κ hκ hend => ?_)
  show Gj κ _ 0 [(0, .ref x), (1, .int 15)] []
  have hMc := hM
  obtain ⟨hx, ⟨f0, L0⟩, ⟨f1, L1⟩, ⟨f2, L2⟩, ⟨f3, L3⟩, ⟨f4, L4⟩, ⟨f5, L5⟩, ⟨f6, L6⟩, ⟨f7, L7⟩, ⟨f8, L8⟩, ⟨flo, hlo⟩, ⟨fta, hta⟩⟩ := hMc
  have b0 := L0.2.2.1
  have b2 := L2.2.2.1
  have b3 := L3.2.2.1
  have b4 := L4.2.2.1
  have b5 := L5.2.2.1
  have b7 := L7.2.2.1
  have b8 := L8.2.2.1
  refine g_iload_n hκ 1 dX11_tellRoom_0 rfl rfl ?_
  refine g_tableIn (off := 186) hκ 187 dX11_tellRoom_1 (by decide) (by decide) (by decide) (by decide) ?_
  refine g_aload_n hκ 0 dX11_tellRoom_187 rfl rfl ?_
  refine gt_Room_tally hκ hdR hx qw_117 (Or.inl rfl) dX11_tellRoom_188 ?_
  refine g_rf fta ?_
  refine gtN_Tally_machinesLost (host := "Plotroom") hκ hdR hta (by decide +kernel) (Or.inl rfl) dX11_tellRoom_191 ?_
  exact hend _ _ _ dX11_tellRoom_194 (rfl)
set_option maxHeartbeats 4000000 in
set_option maxRecDepth 100000 in
theorem k_rm_16 (S : wPS) (x lo ta : Nat) (la : Nat → Nat) (el : Nat → Nat → Nat) (sz : Nat → Nat) (hM : RMx S x lo ta la el sz) : MR yX11_tellRoom cX11_tellRoom 2 (some .int) ({ frames := 0, cells := 0, slots := 0, locals := 0 }) S [.ref x, .int 16] (vp_Si (fun r => r = rmF S x lo ta el sz 16)) := by
  refine stR_i (post := (fun r => r = rmF S x lo ta el sz 16)) (by decide) (Nat.le_of_ble_eq_true rfl) rfl (fun _ _ => rfl) (fun κ hκ hend => ?_)
  show Gj κ _ 0 [(0, .ref x), (1, .int 16)] []
  have hMc := hM
  obtain ⟨hx, ⟨f0, L0⟩, ⟨f1, L1⟩, ⟨f2, L2⟩, ⟨f3, L3⟩, ⟨f4, L4⟩, ⟨f5, L5⟩, ⟨f6, L6⟩, ⟨f7, L7⟩, ⟨f8, L8⟩, ⟨flo, hlo⟩, ⟨fta, hta⟩⟩ := hMc
  have b0 := L0.2.2.1
  have b2 := L2.2.2.1
  have b3 := L3.2.2.1
  have b4 := L4.2.2.1
  have b5 := L5.2.2.1
  have b7 := L7.2.2.1
  have b8 := L8.2.2.1
  refine g_iload_n hκ 1 dX11_tellRoom_0 rfl rfl ?_
  refine g_tableIn (off := 194) hκ 195 dX11_tellRoom_1 (by decide) (by decide) (by decide) (by decide) ?_
  refine g_aload_n hκ 0 dX11_tellRoom_195 rfl rfl ?_
  refine gt_Room_tally hκ hdR hx qw_117 (Or.inl rfl) dX11_tellRoom_196 ?_
  refine g_rf fta ?_
  refine gtN_Tally_shames (host := "Plotroom") hκ hdR hta (by decide +kernel) (Or.inl rfl) dX11_tellRoom_199 ?_
  exact hend _ _ _ dX11_tellRoom_202 (rfl)
set_option maxHeartbeats 4000000 in
set_option maxRecDepth 100000 in
theorem k_rm_17 (S : wPS) (x lo ta : Nat) (la : Nat → Nat) (el : Nat → Nat → Nat) (sz : Nat → Nat) (hM : RMx S x lo ta la el sz) : MR yX11_tellRoom cX11_tellRoom 2 (some .int) ({ frames := 0, cells := 0, slots := 0, locals := 0 }) S [.ref x, .int 17] (vp_Si (fun r => r = rmF S x lo ta el sz 17)) := by
  refine stR_i (post := (fun r => r = rmF S x lo ta el sz 17)) (by decide) (Nat.le_of_ble_eq_true rfl) rfl (fun _ _ => rfl) (fun κ hκ hend => ?_)
  show Gj κ _ 0 [(0, .ref x), (1, .int 17)] []
  have hMc := hM
  obtain ⟨hx, ⟨f0, L0⟩, ⟨f1, L1⟩, ⟨f2, L2⟩, ⟨f3, L3⟩, ⟨f4, L4⟩, ⟨f5, L5⟩, ⟨f6, L6⟩, ⟨f7, L7⟩, ⟨f8, L8⟩, ⟨flo, hlo⟩, ⟨fta, hta⟩⟩ := hMc
  have b0 := L0.2.2.1
  have b2 := L2.2.2.1
  have b3 := L3.2.2.1
  have b4 := L4.2.2.1
  have b5 := L5.2.2.1
  have b7 := L7.2.2.1
  have b8 := L8.2.2.1
  refine g_iload_n hκ 1 dX11_tellRoom_0 rfl rfl ?_
  refine g_tableIn (off := 202) hκ 203 dX11_tellRoom_1 (by decide) (by decide) (by decide) (by decide) ?_
  refine g_aload_n hκ 0 dX11_tellRoom_203 rfl rfl ?_
  refine gt_Room_tally hκ hdR hx qw_117 (Or.inl rfl) dX11_tellRoom_204 ?_
  refine g_rf fta ?_
  refine gtN_Tally_work (host := "Plotroom") hκ hdR hta (by decide +kernel) (Or.inl rfl) dX11_tellRoom_207 ?_
  exact hend _ _ _ dX11_tellRoom_210 (rfl)
set_option maxHeartbeats 4000000 in
set_option maxRecDepth 100000 in
theorem k_rm_18 (S : wPS) (x lo ta : Nat) (la : Nat → Nat) (el : Nat → Nat → Nat) (sz : Nat → Nat) (hM : RMx S x lo ta la el sz) : MR yX11_tellRoom cX11_tellRoom 2 (some .int) ({ frames := 0, cells := 0, slots := 0, locals := 0 }) S [.ref x, .int 18] (vp_Si (fun r => r = rmF S x lo ta el sz 18)) := by
  refine stR_i (post := (fun r => r = rmF S x lo ta el sz 18)) (by decide) (Nat.le_of_ble_eq_true rfl) rfl (fun _ _ => rfl) (fun κ hκ hend => ?_)
  show Gj κ _ 0 [(0, .ref x), (1, .int 18)] []
  have hMc := hM
  obtain ⟨hx, ⟨f0, L0⟩, ⟨f1, L1⟩, ⟨f2, L2⟩, ⟨f3, L3⟩, ⟨f4, L4⟩, ⟨f5, L5⟩, ⟨f6, L6⟩, ⟨f7, L7⟩, ⟨f8, L8⟩, ⟨flo, hlo⟩, ⟨fta, hta⟩⟩ := hMc
  have b0 := L0.2.2.1
  have b2 := L2.2.2.1
  have b3 := L3.2.2.1
  have b4 := L4.2.2.1
  have b5 := L5.2.2.1
  have b7 := L7.2.2.1
  have b8 := L8.2.2.1
  refine g_iload_n hκ 1 dX11_tellRoom_0 rfl rfl ?_
  refine g_tableIn (off := 210) hκ 211 dX11_tellRoom_1 (by decide) (by decide) (by decide) (by decide) ?_
  refine g_aload_n hκ 0 dX11_tellRoom_211 rfl rfl ?_
  refine gt_Room_tally hκ hdR hx qw_117 (Or.inl rfl) dX11_tellRoom_212 ?_
  refine g_rf fta ?_
  refine gtN_Tally_lives (host := "Plotroom") hκ hdR hta (by decide +kernel) (Or.inl rfl) dX11_tellRoom_215 ?_
  exact hend _ _ _ dX11_tellRoom_218 (rfl)
set_option maxHeartbeats 4000000 in
set_option maxRecDepth 100000 in
theorem k_rm_19 (S : wPS) (x lo ta : Nat) (la : Nat → Nat) (el : Nat → Nat → Nat) (sz : Nat → Nat) (hM : RMx S x lo ta la el sz) : MR yX11_tellRoom cX11_tellRoom 2 (some .int) ({ frames := 0, cells := 0, slots := 0, locals := 0 }) S [.ref x, .int 19] (vp_Si (fun r => r = rmF S x lo ta el sz 19)) := by
  refine stR_i (post := (fun r => r = rmF S x lo ta el sz 19)) (by decide) (Nat.le_of_ble_eq_true rfl) rfl (fun _ _ => rfl) (fun κ hκ hend => ?_)
  show Gj κ _ 0 [(0, .ref x), (1, .int 19)] []
  have hMc := hM
  obtain ⟨hx, ⟨f0, L0⟩, ⟨f1, L1⟩, ⟨f2, L2⟩, ⟨f3, L3⟩, ⟨f4, L4⟩, ⟨f5, L5⟩, ⟨f6, L6⟩, ⟨f7, L7⟩, ⟨f8, L8⟩, ⟨flo, hlo⟩, ⟨fta, hta⟩⟩ := hMc
  have b0 := L0.2.2.1
  have b2 := L2.2.2.1
  have b3 := L3.2.2.1
  have b4 := L4.2.2.1
  have b5 := L5.2.2.1
  have b7 := L7.2.2.1
  have b8 := L8.2.2.1
  refine g_iload_n hκ 1 dX11_tellRoom_0 rfl rfl ?_
  refine g_tableIn (off := 218) hκ 219 dX11_tellRoom_1 (by decide) (by decide) (by decide) (by decide) ?_
  refine g_aload_n hκ 0 dX11_tellRoom_219 rfl rfl ?_
  refine gt_Room_lots hκ hdR hx qw_116 (Or.inl rfl) dX11_tellRoom_220 ?_
  refine g_rf flo ?_
  refine gtN_Lots_drawn (host := "Plotroom") hκ hdR hlo (by decide +kernel) (Or.inl rfl) dX11_tellRoom_223 ?_
  exact hend _ _ _ dX11_tellRoom_226 (rfl)
set_option maxHeartbeats 4000000 in
set_option maxRecDepth 100000 in
theorem k_rm_20 (S : wPS) (x lo ta : Nat) (la : Nat → Nat) (el : Nat → Nat → Nat) (sz : Nat → Nat) (hM : RMx S x lo ta la el sz) : MR yX11_tellRoom cX11_tellRoom 2 (some .int) ({ frames := 0, cells := 0, slots := 0, locals := 0 }) S [.ref x, .int 20] (vp_Si (fun r => r = rmF S x lo ta el sz 20)) := by
  refine stR_i (post := (fun r => r = rmF S x lo ta el sz 20)) (by decide) (Nat.le_of_ble_eq_true rfl) rfl (fun _ _ => rfl) (fun κ hκ hend => ?_)
  show Gj κ _ 0 [(0, .ref x), (1, .int 20)] []
  have hMc := hM
  obtain ⟨hx, ⟨f0, L0⟩, ⟨f1, L1⟩, ⟨f2, L2⟩, ⟨f3, L3⟩, ⟨f4, L4⟩, ⟨f5, L5⟩, ⟨f6, L6⟩, ⟨f7, L7⟩, ⟨f8, L8⟩, ⟨flo, hlo⟩, ⟨fta, hta⟩⟩ := hMc
  have b0 := L0.2.2.1
  have b2 := L2.2.2.1
  have b3 := L3.2.2.1
  have b4 := L4.2.2.1
  have b5 := L5.2.2.1
  have b7 := L7.2.2.1
  have b8 := L8.2.2.1
  refine g_iload_n hκ 1 dX11_tellRoom_0 rfl rfl ?_
  refine g_tableOut hκ 227 dX11_tellRoom_1 (by decide) (by decide) ?_
  refine g_aload_n hκ 0 dX11_tellRoom_227 rfl rfl ?_
  refine gt_Room_tally hκ hdR hx qw_117 (Or.inl rfl) dX11_tellRoom_228 ?_
  refine g_rf fta ?_
  refine gtN_Tally_refused (host := "Plotroom") hκ hdR hta (by decide +kernel) (Or.inl rfl) dX11_tellRoom_231 ?_
  exact hend _ _ _ dX11_tellRoom_234 (rfl)
