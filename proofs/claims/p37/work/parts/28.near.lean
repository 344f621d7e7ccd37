set_option maxHeartbeats 4000000 in
set_option maxRecDepth 100000 in
theorem k_foeNear (S : wPS) (x lo ta : Nat) (la : Nat → Nat) (el : Nat → Nat → Nat) (sz : Nat → Nat) (q : Nat) (hM : RMx S x lo ta la el sz) (hq : q ∈ sL S ∧ sK S q = 6) : MR yX11_foeNear cX11_foeNear 7 (some (.object "Plotroom$Flight")) ({ frames := 3, cells := 0, slots := 0, locals := 64 }) S [.ref x, .ref q] (va_Sq (fun r => r = foF S el sz q)) := by
  refine stR_q (post := (fun r => r = foF S el sz q)) (by decide) (Nat.le_of_ble_eq_true rfl) rfl (by first | exact Or.inl ⟨_, rfl⟩ | exact Or.inr ⟨_, rfl⟩) (fun κ hκ hend => ?_)
  show Gj κ _ 0 [(0, .ref x), (1, .ref q)] []
  have hMc := hM
  obtain ⟨hx, ⟨f0, L0⟩, ⟨f1, L1⟩, ⟨f2, L2⟩, ⟨f3, L3⟩, ⟨f4, L4⟩, ⟨f5, L5⟩, ⟨f6, L6⟩, ⟨f7, L7⟩, ⟨f8, L8⟩, ⟨flo, hlo⟩, ⟨fta, hta⟩⟩ := hMc
  have b0 := L0.2.2.1
  have b2 := L2.2.2.1
  have b3 := L3.2.2.1
  have b4 := L4.2.2.1
  have b5 := L5.2.2.1
  have b7 := L7.2.2.1
  have b8 := L8.2.2.1
  refine g_null hκ dX11_foeNear_0 ?_
  refine g_astore_nN hκ [(2, .null), (0, .ref x), (1, .ref q)] dX11_foeNear_1 rfl (by decide) rfl ?_
  refine g_iconst hκ (v := 0) dX11_foeNear_2 (by decide) ?_
  refine g_istore_n hκ [(3, .int 0), (2, .null), (0, .ref x), (1, .ref q)] dX11_foeNear_3 rfl (by decide) rfl ?_
  refine g_iconst hκ (v := 0) dX11_foeNear_4 (by decide) ?_
  refine g_istore hκ [(4, .int 0), (3, .int 0), (2, .null), (0, .ref x), (1, .ref q)] dX11_foeNear_5 (by decide) rfl ?_
  have loop7 : ∀ (d7 i7 : Nat) (x7 : Int32) (r2 : Option Nat) (a3 : Int32), i7 + d7 = sz 5 → x7 = nI i7 → foP S el sz q = tfR (fun i => !decide (sI S q_Flight_isUp (el 5 i) = 0) && !decide (sI S q_Flight_isFoe (el 5 i) = 0)) (fun i => farF (sI S q_Flight_x (el 5 i)) (sI S q_Flight_y (el 5 i)) (sI S q_Squadron_x q) (sI S q_Squadron_y q)) (el 5) d7 i7 r2 a3 → Gj κ (PR κ S) 7 [(4, .int x7), (3, .int a3), (2, va_rf r2), (0, .ref x), (1, .ref q)] [] := by
    intro d7
    induction d7 with
    | zero =>
      intro i7 x7 r2 a3 hi7 hx7 hF7
      subst hx7
      refine g_iload hκ 0 dX11_foeNear_7 rfl ?_
      refine g_aload_n hκ 3 dX11_foeNear_9 rfl rfl ?_
      refine gt_Room_flights hκ hdR hx qw_111 (Or.inl rfl) dX11_foeNear_10 ?_
      refine g_rf f5 ?_
      refine rV_i hκ hdR [] sd_Jx4a65c_size_8abf5 qw_227 (fun D cO H s hK hP => rc_List hK hP L5.1) (k_sizeL S (la 5) 0 (sz 5) (el 5) L5) ⟨rfl, rfl, Nat.le_of_ble_eq_true rfl, Nat.le_of_ble_eq_true rfl⟩ rfl rfl (Nat.le_of_ble_eq_true rfl) dX11_foeNear_13 (fun r1 hr1 => ?_)
      refine g_eqi hr1 ?_
      refine g_icmp_ge hκ 86 dX11_foeNear_16 (by decide) (fun _ => ?_) (fun z => absurd (lp_ge rfl (by omega) (by omega)) z)
      refine g_iload_n hκ 1 dX11_foeNear_86 rfl rfl ?_
      refine g_bipush hκ (v := 36) dX11_foeNear_87 (by decide) ?_
      refine g_icmp_gt hκ 96 dX11_foeNear_89 (by decide) (fun c2 => ?_) (fun c2 => ?_)
      · skip
        refine g_null hκ dX11_foeNear_96 ?_
        exact hend _ _ none dX11_foeNear_97 (by unfold foF; rw [hF7]; exact (if_pos c2).symm)
      · skip
        refine g_aload_nO hκ 2 dX11_foeNear_92 rfl rfl ?_
        refine g_goto hκ 97 dX11_foeNear_93 (by decide) ?_
        exact hend _ _ r2 dX11_foeNear_97 (by unfold foF; rw [hF7]; exact (if_neg c2).symm)
    | succ d7 ih7 =>
      intro i7 x7 r2 a3 hi7 hx7 hF7
      subst hx7
      refine g_iload hκ 0 dX11_foeNear_7 rfl ?_
      refine g_aload_n hκ 3 dX11_foeNear_9 rfl rfl ?_
      refine gt_Room_flights hκ hdR hx qw_111 (Or.inl rfl) dX11_foeNear_10 ?_
      refine g_rf f5 ?_
      refine rV_i hκ hdR [] sd_Jx4a65c_size_8abf5 qw_227 (fun D cO H s hK hP => rc_List hK hP L5.1) (k_sizeL S (la 5) 0 (sz 5) (el 5) L5) ⟨rfl, rfl, Nat.le_of_ble_eq_true rfl, Nat.le_of_ble_eq_true rfl⟩ rfl rfl (Nat.le_of_ble_eq_true rfl) dX11_foeNear_13 (fun r3 hr3 => ?_)
      refine g_eqi hr3 ?_
      refine g_icmp_ge hκ 86 dX11_foeNear_16 (by decide) (fun z => absurd z (lp_nge rfl (by omega) (by omega))) (fun _ => ?_)
      refine g_aload_n hκ 3 dX11_foeNear_19 rfl rfl ?_
      refine gt_Room_flights hκ hdR hx qw_111 (Or.inl rfl) dX11_foeNear_20 ?_
      refine g_rf f5 ?_
      refine g_iload hκ 0 dX11_foeNear_23 rfl ?_
      refine rV_q hκ hdR [.int (nI i7)] sd_Jx4a65c_get_915e3 qw_440 (fun D cO H s hK hP => rc_List hK hP L5.1) (k_get S (la 5) 0 (sz 5) i7 (el 5) (nI i7) L5 rfl (by omega)) ⟨rfl, rfl, Nat.le_of_ble_eq_true rfl, Nat.le_of_ble_eq_true rfl⟩ rfl rfl (Nat.le_of_ble_eq_true rfl) dX11_foeNear_25 (fun r4 hr4 => ?_)
      refine g_rf hr4 ?_
      refine gc_Flight hκ hdR (L5.2.2.2.2 i7 (by omega)) qw_553 dX11_foeNear_28 ?_
      refine g_astore hκ [(5, .ref (el 5 i7)), (4, .int (nI i7)), (3, .int a3), (2, va_rf r2), (0, .ref x), (1, .ref q)] dX11_foeNear_31 (by decide) rfl ?_
      refine g_aload hκ 0 dX11_foeNear_33 rfl ?_
      refine gtN_Flight_isUp (host := "Plotroom") hκ hdR (L5.2.2.2.2 i7 (by omega)) (by decide +kernel) (Or.inl rfl) dX11_foeNear_35 ?_
      refine g_if_eq hκ 80 dX11_foeNear_38 (by decide) (fun c5 => ?_) (fun c5 => ?_)
      · skip
        obtain ⟨v6, hv6⟩ : ∃ z : Int32, nI i7 + 1 = z := ⟨_, rfl⟩
        refine g_iinc hκ (k := 1) (v := v6) [(4, .int v6), (5, .ref (el 5 i7)), (3, .int a3), (2, va_rf r2), (0, .ref x), (1, .ref q)] dX11_foeNear_80 rfl hv6 (by decide) rfl ?_
        refine g_goto hκ 7 dX11_foeNear_83 (by decide) ?_
        refine g_lv [(4, .int v6), (3, .int a3), (2, va_rf r2), (0, .ref x), (1, .ref q)] [0, 2, 3, 4, 5] rfl ?_
        exact ih7 (i7 + 1) v6 r2 a3 (by omega) (lp_s rfl hv6) (by rw [hF7]; simp [tfR, c5, ← hv6])
      · skip
        refine g_aload hκ 0 dX11_foeNear_41 rfl ?_
        refine gtN_Flight_isFoe (host := "Plotroom") hκ hdR (L5.2.2.2.2 i7 (by omega)) (by decide +kernel) (Or.inl rfl) dX11_foeNear_43 ?_
        refine g_if_eq hκ 80 dX11_foeNear_46 (by decide) (fun c7 => ?_) (fun c7 => ?_)
        · skip
          obtain ⟨v8, hv8⟩ : ∃ z : Int32, nI i7 + 1 = z := ⟨_, rfl⟩
          refine g_iinc hκ (k := 1) (v := v8) [(4, .int v8), (5, .ref (el 5 i7)), (3, .int a3), (2, va_rf r2), (0, .ref x), (1, .ref q)] dX11_foeNear_80 rfl hv8 (by decide) rfl ?_
          refine g_goto hκ 7 dX11_foeNear_83 (by decide) ?_
          refine g_lv [(4, .int v8), (3, .int a3), (2, va_rf r2), (0, .ref x), (1, .ref q)] [0, 2, 3, 4, 5] rfl ?_
          exact ih7 (i7 + 1) v8 r2 a3 (by omega) (lp_s rfl hv8) (by rw [hF7]; simp [tfR, c5, c7, ← hv8])
        · skip
          refine g_aload hκ 0 dX11_foeNear_49 rfl ?_
          refine g_aload_n hκ 5 dX11_foeNear_51 rfl rfl ?_
          refine gt_Squadron_x hκ hdR hq qw_288 (Or.inr qw_285) dX11_foeNear_52 ?_
          refine g_aload_n hκ 5 dX11_foeNear_55 rfl rfl ?_
          refine gt_Squadron_y hκ hdR hq qw_312 (Or.inr qw_309) dX11_foeNear_56 ?_
          refine rU_i hκ hdR [.int (sI S q_Squadron_x q), .int (sI S q_Squadron_y q)] (ud_X4_farFrom_Flight) qw_795 (by decide +kernel) (fun D cO H s hK hP => rc_Flight hK hP (L5.2.2.2.2 i7 (by omega))) (k_farFrom_Flight S (el 5 i7) (sI S q_Squadron_x q) (sI S q_Squadron_y q) (L5.2.2.2.2 i7 (by omega))) ⟨rfl, rfl, Nat.le_of_ble_eq_true rfl, Nat.le_of_ble_eq_true rfl⟩ rfl rfl (Nat.le_of_ble_eq_true rfl) dX11_foeNear_59 (fun r9 hr9 => ?_)
          refine g_eqi hr9 ?_
          refine g_istore hκ [(6, .int (farF (sI S q_Flight_x (el 5 i7)) (sI S q_Flight_y (el 5 i7)) (sI S q_Squadron_x q) (sI S q_Squadron_y q))), (5, .ref (el 5 i7)), (4, .int (nI i7)), (3, .int a3), (2, va_rf r2), (0, .ref x), (1, .ref q)] dX11_foeNear_62 (by decide) rfl ?_
          refine g_aload_nO hκ 4 dX11_foeNear_64 rfl rfl ?_
          rcases r2 with _ | z10
          · skip
            refine g_ifnullN hκ 74 dX11_foeNear_65 (by decide) ?_
            refine g_aload hκ 1 dX11_foeNear_74 rfl ?_
            refine g_astore_n hκ [(2, .ref (el 5 i7)), (6, .int (farF (sI S q_Flight_x (el 5 i7)) (sI S q_Flight_y (el 5 i7)) (sI S q_Squadron_x q) (sI S q_Squadron_y q))), (5, .ref (el 5 i7)), (4, .int (nI i7)), (3, .int a3), (0, .ref x), (1, .ref q)] dX11_foeNear_76 rfl (by decide) rfl ?_
            refine g_iload hκ 1 dX11_foeNear_77 rfl ?_
            refine g_istore_n hκ [(3, .int (farF (sI S q_Flight_x (el 5 i7)) (sI S q_Flight_y (el 5 i7)) (sI S q_Squadron_x q) (sI S q_Squadron_y q))), (2, .ref (el 5 i7)), (6, .int (farF (sI S q_Flight_x (el 5 i7)) (sI S q_Flight_y (el 5 i7)) (sI S q_Squadron_x q) (sI S q_Squadron_y q))), (5, .ref (el 5 i7)), (4, .int (nI i7)), (0, .ref x), (1, .ref q)] dX11_foeNear_79 rfl (by decide) rfl ?_
            obtain ⟨v11, hv11⟩ : ∃ z : Int32, nI i7 + 1 = z := ⟨_, rfl⟩
            refine g_iinc hκ (k := 4) (v := v11) [(4, .int v11), (3, .int (farF (sI S q_Flight_x (el 5 i7)) (sI S q_Flight_y (el 5 i7)) (sI S q_Squadron_x q) (sI S q_Squadron_y q))), (2, .ref (el 5 i7)), (6, .int (farF (sI S q_Flight_x (el 5 i7)) (sI S q_Flight_y (el 5 i7)) (sI S q_Squadron_x q) (sI S q_Squadron_y q))), (5, .ref (el 5 i7)), (0, .ref x), (1, .ref q)] dX11_foeNear_80 rfl hv11 (by decide) rfl ?_
            refine g_goto hκ 7 dX11_foeNear_83 (by decide) ?_
            refine g_lv [(4, .int v11), (3, .int (farF (sI S q_Flight_x (el 5 i7)) (sI S q_Flight_y (el 5 i7)) (sI S q_Squadron_x q) (sI S q_Squadron_y q))), (2, .ref (el 5 i7)), (0, .ref x), (1, .ref q)] [0, 1, 2, 5, 6] rfl ?_
            exact ih7 (i7 + 1) v11 (some (el 5 i7)) (farF (sI S q_Flight_x (el 5 i7)) (sI S q_Flight_y (el 5 i7)) (sI S q_Squadron_x q) (sI S q_Squadron_y q)) (by omega) (lp_s rfl hv11) (by rw [hF7]; simp [tfR, c5, c7, ← hv11])
          · skip
            refine g_ifnull hκ dX11_foeNear_65 ?_
            refine g_iload hκ 0 dX11_foeNear_68 rfl ?_
            refine g_iload_n hκ 3 dX11_foeNear_70 rfl rfl ?_
            refine g_icmp_ge hκ 80 dX11_foeNear_71 (by decide) (fun c12 => ?_) (fun c12 => ?_)
            · skip
              obtain ⟨v13, hv13⟩ : ∃ z : Int32, nI i7 + 1 = z := ⟨_, rfl⟩
              refine g_iinc hκ (k := 2) (v := v13) [(4, .int v13), (6, .int (farF (sI S q_Flight_x (el 5 i7)) (sI S q_Flight_y (el 5 i7)) (sI S q_Squadron_x q) (sI S q_Squadron_y q))), (5, .ref (el 5 i7)), (3, .int a3), (2, .ref z10), (0, .ref x), (1, .ref q)] dX11_foeNear_80 rfl hv13 (by decide) rfl ?_
              refine g_goto hκ 7 dX11_foeNear_83 (by decide) ?_
              refine g_lv [(4, .int v13), (3, .int a3), (2, .ref z10), (0, .ref x), (1, .ref q)] [0, 3, 4, 5, 6] rfl ?_
              exact ih7 (i7 + 1) v13 (some z10) a3 (by omega) (lp_s rfl hv13) (by rw [hF7]; simp [tfR, c5, c7, c12, ← hv13, Int32.not_lt.mpr c12])
            · skip
              refine g_aload hκ 1 dX11_foeNear_74 rfl ?_
              refine g_astore_n hκ [(2, .ref (el 5 i7)), (6, .int (farF (sI S q_Flight_x (el 5 i7)) (sI S q_Flight_y (el 5 i7)) (sI S q_Squadron_x q) (sI S q_Squadron_y q))), (5, .ref (el 5 i7)), (4, .int (nI i7)), (3, .int a3), (0, .ref x), (1, .ref q)] dX11_foeNear_76 rfl (by decide) rfl ?_
              refine g_iload hκ 1 dX11_foeNear_77 rfl ?_
              refine g_istore_n hκ [(3, .int (farF (sI S q_Flight_x (el 5 i7)) (sI S q_Flight_y (el 5 i7)) (sI S q_Squadron_x q) (sI S q_Squadron_y q))), (2, .ref (el 5 i7)), (6, .int (farF (sI S q_Flight_x (el 5 i7)) (sI S q_Flight_y (el 5 i7)) (sI S q_Squadron_x q) (sI S q_Squadron_y q))), (5, .ref (el 5 i7)), (4, .int (nI i7)), (0, .ref x), (1, .ref q)] dX11_foeNear_79 rfl (by decide) rfl ?_
              obtain ⟨v14, hv14⟩ : ∃ z : Int32, nI i7 + 1 = z := ⟨_, rfl⟩
              refine g_iinc hκ (k := 4) (v := v14) [(4, .int v14), (3, .int (farF (sI S q_Flight_x (el 5 i7)) (sI S q_Flight_y (el 5 i7)) (sI S q_Squadron_x q) (sI S q_Squadron_y q))), (2, .ref (el 5 i7)), (6, .int (farF (sI S q_Flight_x (el 5 i7)) (sI S q_Flight_y (el 5 i7)) (sI S q_Squadron_x q) (sI S q_Squadron_y q))), (5, .ref (el 5 i7)), (0, .ref x), (1, .ref q)] dX11_foeNear_80 rfl hv14 (by decide) rfl ?_
              refine g_goto hκ 7 dX11_foeNear_83 (by decide) ?_
              refine g_lv [(4, .int v14), (3, .int (farF (sI S q_Flight_x (el 5 i7)) (sI S q_Flight_y (el 5 i7)) (sI S q_Squadron_x q) (sI S q_Squadron_y q))), (2, .ref (el 5 i7)), (0, .ref x), (1, .ref q)] [0, 1, 2, 5, 6] rfl ?_
              exact ih7 (i7 + 1) v14 (some (el 5 i7)) (farF (sI S q_Flight_x (el 5 i7)) (sI S q_Flight_y (el 5 i7)) (sI S q_Squadron_x q) (sI S q_Squadron_y q)) (by omega) (lp_s rfl hv14) (by rw [hF7]; simp [tfR, c5, c7, c12, ← hv14, Int32.not_le.mp c12])
  exact loop7 (sz 5) 0 0 none 0 (by omega) (by first | rfl | decide) (by first | rfl | decide)
set_option maxHeartbeats 4000000 in
set_option maxRecDepth 100000 in
theorem k_trackFor (S : wPS) (x lo ta : Nat) (la : Nat → Nat) (el : Nat → Nat → Nat) (sz : Nat → Nat) (p : Nat) (hM : RMx S x lo ta la el sz) (hp : p ∈ sL S ∧ sK S p = 5) : MR yX11_trackFor cX11_trackFor 7 (some (.object "Plotroom$Track")) ({ frames := 3, cells := 0, slots := 0, locals := 64 }) S [.ref x, .ref p] (va_Sq (fun r => r = trF S x el sz p)) := by
  refine stR_q (post := (fun r => r = trF S x el sz p)) (by decide) (Nat.le_of_ble_eq_true rfl) rfl (by first | exact Or.inl ⟨_, rfl⟩ | exact Or.inr ⟨_, rfl⟩) (fun κ hκ hend => ?_)
  show Gj κ _ 0 [(0, .ref x), (1, .ref p)] []
  have hMc := hM
  obtain ⟨hx, ⟨f0, L0⟩, ⟨f1, L1⟩, ⟨f2, L2⟩, ⟨f3, L3⟩, ⟨f4, L4⟩, ⟨f5, L5⟩, ⟨f6, L6⟩, ⟨f7, L7⟩, ⟨f8, L8⟩, ⟨flo, hlo⟩, ⟨fta, hta⟩⟩ := hMc
  have b0 := L0.2.2.1
  have b2 := L2.2.2.1
  have b3 := L3.2.2.1
  have b4 := L4.2.2.1
  have b5 := L5.2.2.1
  have b7 := L7.2.2.1
  have b8 := L8.2.2.1
  refine g_null hκ dX11_trackFor_0 ?_
  refine g_astore_nN hκ [(2, .null), (0, .ref x), (1, .ref p)] dX11_trackFor_1 rfl (by decide) rfl ?_
  refine g_iconst hκ (v := 0) dX11_trackFor_2 (by decide) ?_
  refine g_istore_n hκ [(3, .int 0), (2, .null), (0, .ref x), (1, .ref p)] dX11_trackFor_3 rfl (by decide) rfl ?_
  refine g_iconst hκ (v := 0) dX11_trackFor_4 (by decide) ?_
  refine g_istore hκ [(4, .int 0), (3, .int 0), (2, .null), (0, .ref x), (1, .ref p)] dX11_trackFor_5 (by decide) rfl ?_
  have loop7 : ∀ (d7 i7 : Nat) (x7 : Int32) (r2 : Option Nat) (a3 : Int32), i7 + d7 = sz 7 → x7 = nI i7 → trP S el sz p = tfR (fun i => liveB S (el 7 i) && !decide (sI S q_Plot_seenAt p < sI S q_Track_minute (el 7 i))) (fun i => farF (sI S q_Plot_x p) (sI S q_Plot_y p) (xAtF S (el 7 i) (sI S q_Plot_seenAt p)) (yAtF S (el 7 i) (sI S q_Plot_seenAt p))) (el 7) d7 i7 r2 a3 → Gj κ (PR κ S) 7 [(4, .int x7), (3, .int a3), (2, va_rf r2), (0, .ref x), (1, .ref p)] [] := by
    intro d7
    induction d7 with
    | zero =>
      intro i7 x7 r2 a3 hi7 hx7 hF7
      subst hx7
      refine g_iload hκ 0 dX11_trackFor_7 rfl ?_
      refine g_aload_n hκ 3 dX11_trackFor_9 rfl rfl ?_
      refine gt_Room_tracks hκ hdR hx qw_113 (Or.inl rfl) dX11_trackFor_10 ?_
      refine g_rf f7 ?_
      refine rV_i hκ hdR [] sd_Jx4a65c_size_8abf5 qw_227 (fun D cO H s hK hP => rc_List hK hP L7.1) (k_sizeL S (la 7) 9 (sz 7) (el 7) L7) ⟨rfl, rfl, Nat.le_of_ble_eq_true rfl, Nat.le_of_ble_eq_true rfl⟩ rfl rfl (Nat.le_of_ble_eq_true rfl) dX11_trackFor_13 (fun r1 hr1 => ?_)
      refine g_eqi hr1 ?_
      refine g_icmp_ge hκ 99 dX11_trackFor_16 (by decide) (fun _ => ?_) (fun z => absurd (lp_ge rfl (by omega) (by omega)) z)
      refine g_iload_n hκ 1 dX11_trackFor_99 rfl rfl ?_
      refine g_aload_n hκ 3 dX11_trackFor_100 rfl rfl ?_
      refine gt_Room_gateRadius hκ hdR hx qw_119 (Or.inl rfl) dX11_trackFor_101 ?_
      refine g_aload_n hκ 3 dX11_trackFor_104 rfl rfl ?_
      refine gt_Room_gateRadius hκ hdR hx qw_119 (Or.inl rfl) dX11_trackFor_105 ?_
      refine g_imul hκ dX11_trackFor_108 ?_
      refine g_icmp_gt hκ 116 dX11_trackFor_109 (by decide) (fun c2 => ?_) (fun c2 => ?_)
      · skip
        refine g_null hκ dX11_trackFor_116 ?_
        exact hend _ _ none dX11_trackFor_117 (by unfold trF; rw [hF7]; exact (if_pos c2).symm)
      · skip
        refine g_aload_nO hκ 2 dX11_trackFor_112 rfl rfl ?_
        refine g_goto hκ 117 dX11_trackFor_113 (by decide) ?_
        exact hend _ _ r2 dX11_trackFor_117 (by unfold trF; rw [hF7]; exact (if_neg c2).symm)
    | succ d7 ih7 =>
      intro i7 x7 r2 a3 hi7 hx7 hF7
      subst hx7
      refine g_iload hκ 0 dX11_trackFor_7 rfl ?_
      refine g_aload_n hκ 3 dX11_trackFor_9 rfl rfl ?_
      refine gt_Room_tracks hκ hdR hx qw_113 (Or.inl rfl) dX11_trackFor_10 ?_
      refine g_rf f7 ?_
      refine rV_i hκ hdR [] sd_Jx4a65c_size_8abf5 qw_227 (fun D cO H s hK hP => rc_List hK hP L7.1) (k_sizeL S (la 7) 9 (sz 7) (el 7) L7) ⟨rfl, rfl, Nat.le_of_ble_eq_true rfl, Nat.le_of_ble_eq_true rfl⟩ rfl rfl (Nat.le_of_ble_eq_true rfl) dX11_trackFor_13 (fun r3 hr3 => ?_)
      refine g_eqi hr3 ?_
      refine g_icmp_ge hκ 99 dX11_trackFor_16 (by decide) (fun z => absurd z (lp_nge rfl (by omega) (by omega))) (fun _ => ?_)
      refine g_aload_n hκ 3 dX11_trackFor_19 rfl rfl ?_
      refine gt_Room_tracks hκ hdR hx qw_113 (Or.inl rfl) dX11_trackFor_20 ?_
      refine g_rf f7 ?_
      refine g_iload hκ 0 dX11_trackFor_23 rfl ?_
      refine rV_q hκ hdR [.int (nI i7)] sd_Jx4a65c_get_915e3 qw_440 (fun D cO H s hK hP => rc_List hK hP L7.1) (k_get S (la 7) 9 (sz 7) i7 (el 7) (nI i7) L7 rfl (by omega)) ⟨rfl, rfl, Nat.le_of_ble_eq_true rfl, Nat.le_of_ble_eq_true rfl⟩ rfl rfl (Nat.le_of_ble_eq_true rfl) dX11_trackFor_25 (fun r4 hr4 => ?_)
      refine g_rf hr4 ?_
      refine gc_Track hκ hdR (L7.2.2.2.2 i7 (by omega)) qw_675 dX11_trackFor_28 ?_
      refine g_astore hκ [(5, .ref (el 7 i7)), (4, .int (nI i7)), (3, .int a3), (2, va_rf r2), (0, .ref x), (1, .ref p)] dX11_trackFor_31 (by decide) rfl ?_
      refine g_aload hκ 0 dX11_trackFor_33 rfl ?_
      refine gtN_Track_isLive (host := "Plotroom") hκ hdR (L7.2.2.2.2 i7 (by omega)) (by decide +kernel) (Or.inl rfl) dX11_trackFor_35 ?_
      refine g_if_eq hκ 93 dX11_trackFor_38 (by decide) (fun c5 => ?_) (fun c5 => ?_)
      · skip
        obtain ⟨v6, hv6⟩ : ∃ z : Int32, nI i7 + 1 = z := ⟨_, rfl⟩
        refine g_iinc hκ (k := 1) (v := v6) [(4, .int v6), (5, .ref (el 7 i7)), (3, .int a3), (2, va_rf r2), (0, .ref x), (1, .ref p)] dX11_trackFor_93 rfl hv6 (by decide) rfl ?_
        refine g_goto hκ 7 dX11_trackFor_96 (by decide) ?_
        refine g_lv [(4, .int v6), (3, .int a3), (2, va_rf r2), (0, .ref x), (1, .ref p)] [0, 2, 3, 4, 5] rfl ?_
        exact ih7 (i7 + 1) v6 r2 a3 (by omega) (lp_s rfl hv6) (by rw [hF7]; simp [tfR, liveB, c5, ← hv6])
      · skip
        refine g_aload hκ 0 dX11_trackFor_41 rfl ?_
        refine gtN_Track_minute (host := "Plotroom") hκ hdR (L7.2.2.2.2 i7 (by omega)) (by decide +kernel) (Or.inl rfl) dX11_trackFor_43 ?_
        refine g_aload_n hκ 5 dX11_trackFor_46 rfl rfl ?_
        refine gtN_Plot_seenAt (host := "Plotroom") hκ hdR hp (by decide +kernel) (Or.inl rfl) dX11_trackFor_47 ?_
        refine g_icmp_gt hκ 93 dX11_trackFor_50 (by decide) (fun c7 => ?_) (fun c7 => ?_)
        · skip
          obtain ⟨v8, hv8⟩ : ∃ z : Int32, nI i7 + 1 = z := ⟨_, rfl⟩
          refine g_iinc hκ (k := 1) (v := v8) [(4, .int v8), (5, .ref (el 7 i7)), (3, .int a3), (2, va_rf r2), (0, .ref x), (1, .ref p)] dX11_trackFor_93 rfl hv8 (by decide) rfl ?_
          refine g_goto hκ 7 dX11_trackFor_96 (by decide) ?_
          refine g_lv [(4, .int v8), (3, .int a3), (2, va_rf r2), (0, .ref x), (1, .ref p)] [0, 2, 3, 4, 5] rfl ?_
          exact ih7 (i7 + 1) v8 r2 a3 (by omega) (lp_s rfl hv8) (by rw [hF7]; simp [tfR, liveB, c5, c7, ← hv8])
        · skip
          refine g_aload_n hκ 5 dX11_trackFor_53 rfl rfl ?_
          refine g_aload hκ 0 dX11_trackFor_54 rfl ?_
          refine g_aload_n hκ 5 dX11_trackFor_56 rfl rfl ?_
          refine gtN_Plot_seenAt (host := "Plotroom") hκ hdR hp (by decide +kernel) (Or.inl rfl) dX11_trackFor_57 ?_
          refine rV_i hκ hdR [.int (sI S q_Plot_seenAt p)] sd_X10_xAt qw_676 (fun D cO H s hK hP => rc_Track hK hP (L7.2.2.2.2 i7 (by omega))) (k_xAt S (el 7 i7) (sI S q_Plot_seenAt p) (L7.2.2.2.2 i7 (by omega))) ⟨rfl, rfl, Nat.le_of_ble_eq_true rfl, Nat.le_of_ble_eq_true rfl⟩ rfl rfl (Nat.le_of_ble_eq_true rfl) dX11_trackFor_60 (fun r9 hr9 => ?_)
          refine g_eqi hr9 ?_
          refine g_aload hκ 0 dX11_trackFor_63 rfl ?_
          refine g_aload_n hκ 5 dX11_trackFor_65 rfl rfl ?_
          refine gtN_Plot_seenAt (host := "Plotroom") hκ hdR hp (by decide +kernel) (Or.inl rfl) dX11_trackFor_66 ?_
          refine rV_i hκ hdR [.int (sI S q_Plot_seenAt p)] sd_X10_yAt qw_681 (fun D cO H s hK hP => rc_Track hK hP (L7.2.2.2.2 i7 (by omega))) (k_yAt S (el 7 i7) (sI S q_Plot_seenAt p) (L7.2.2.2.2 i7 (by omega))) ⟨rfl, rfl, Nat.le_of_ble_eq_true rfl, Nat.le_of_ble_eq_true rfl⟩ rfl rfl (Nat.le_of_ble_eq_true rfl) dX11_trackFor_69 (fun r10 hr10 => ?_)
          refine g_eqi hr10 ?_
          refine rU_i hκ hdR [.int (xAtF S (el 7 i7) (sI S q_Plot_seenAt p)), .int (yAtF S (el 7 i7) (sI S q_Plot_seenAt p))] (ud_X4_farFrom_Plot) qw_685 (by decide +kernel) (fun D cO H s hK hP => rc_Plot hK hP hp) (k_farFrom_Plot S p (xAtF S (el 7 i7) (sI S q_Plot_seenAt p)) (yAtF S (el 7 i7) (sI S q_Plot_seenAt p)) hp) ⟨rfl, rfl, Nat.le_of_ble_eq_true rfl, Nat.le_of_ble_eq_true rfl⟩ rfl rfl (Nat.le_of_ble_eq_true rfl) dX11_trackFor_72 (fun r11 hr11 => ?_)
          refine g_eqi hr11 ?_
          refine g_istore hκ [(6, .int (farF (sI S q_Plot_x p) (sI S q_Plot_y p) (xAtF S (el 7 i7) (sI S q_Plot_seenAt p)) (yAtF S (el 7 i7) (sI S q_Plot_seenAt p)))), (5, .ref (el 7 i7)), (4, .int (nI i7)), (3, .int a3), (2, va_rf r2), (0, .ref x), (1, .ref p)] dX11_trackFor_75 (by decide) rfl ?_
          refine g_aload_nO hκ 4 dX11_trackFor_77 rfl rfl ?_
          rcases r2 with _ | z12
          · skip
            refine g_ifnullN hκ 87 dX11_trackFor_78 (by decide) ?_
            refine g_aload hκ 1 dX11_trackFor_87 rfl ?_
            refine g_astore_n hκ [(2, .ref (el 7 i7)), (6, .int (farF (sI S q_Plot_x p) (sI S q_Plot_y p) (xAtF S (el 7 i7) (sI S q_Plot_seenAt p)) (yAtF S (el 7 i7) (sI S q_Plot_seenAt p)))), (5, .ref (el 7 i7)), (4, .int (nI i7)), (3, .int a3), (0, .ref x), (1, .ref p)] dX11_trackFor_89 rfl (by decide) rfl ?_
            refine g_iload hκ 1 dX11_trackFor_90 rfl ?_
            refine g_istore_n hκ [(3, .int (farF (sI S q_Plot_x p) (sI S q_Plot_y p) (xAtF S (el 7 i7) (sI S q_Plot_seenAt p)) (yAtF S (el 7 i7) (sI S q_Plot_seenAt p)))), (2, .ref (el 7 i7)), (6, .int (farF (sI S q_Plot_x p) (sI S q_Plot_y p) (xAtF S (el 7 i7) (sI S q_Plot_seenAt p)) (yAtF S (el 7 i7) (sI S q_Plot_seenAt p)))), (5, .ref (el 7 i7)), (4, .int (nI i7)), (0, .ref x), (1, .ref p)] dX11_trackFor_92 rfl (by decide) rfl ?_
            obtain ⟨v13, hv13⟩ : ∃ z : Int32, nI i7 + 1 = z := ⟨_, rfl⟩
            refine g_iinc hκ (k := 4) (v := v13) [(4, .int v13), (3, .int (farF (sI S q_Plot_x p) (sI S q_Plot_y p) (xAtF S (el 7 i7) (sI S q_Plot_seenAt p)) (yAtF S (el 7 i7) (sI S q_Plot_seenAt p)))), (2, .ref (el 7 i7)), (6, .int (farF (sI S q_Plot_x p) (sI S q_Plot_y p) (xAtF S (el 7 i7) (sI S q_Plot_seenAt p)) (yAtF S (el 7 i7) (sI S q_Plot_seenAt p)))), (5, .ref (el 7 i7)), (0, .ref x), (1, .ref p)] dX11_trackFor_93 rfl hv13 (by decide) rfl ?_
            refine g_goto hκ 7 dX11_trackFor_96 (by decide) ?_
            refine g_lv [(4, .int v13), (3, .int (farF (sI S q_Plot_x p) (sI S q_Plot_y p) (xAtF S (el 7 i7) (sI S q_Plot_seenAt p)) (yAtF S (el 7 i7) (sI S q_Plot_seenAt p)))), (2, .ref (el 7 i7)), (0, .ref x), (1, .ref p)] [0, 1, 2, 5, 6] rfl ?_
            exact ih7 (i7 + 1) v13 (some (el 7 i7)) (farF (sI S q_Plot_x p) (sI S q_Plot_y p) (xAtF S (el 7 i7) (sI S q_Plot_seenAt p)) (yAtF S (el 7 i7) (sI S q_Plot_seenAt p))) (by omega) (lp_s rfl hv13) (by rw [hF7]; simp [tfR, liveB, c5, c7, ← hv13, Int32.not_lt.mp c7])
          · skip
            refine g_ifnull hκ dX11_trackFor_78 ?_
            refine g_iload hκ 0 dX11_trackFor_81 rfl ?_
            refine g_iload_n hκ 3 dX11_trackFor_83 rfl rfl ?_
            refine g_icmp_ge hκ 93 dX11_trackFor_84 (by decide) (fun c14 => ?_) (fun c14 => ?_)
            · skip
              obtain ⟨v15, hv15⟩ : ∃ z : Int32, nI i7 + 1 = z := ⟨_, rfl⟩
              refine g_iinc hκ (k := 2) (v := v15) [(4, .int v15), (6, .int (farF (sI S q_Plot_x p) (sI S q_Plot_y p) (xAtF S (el 7 i7) (sI S q_Plot_seenAt p)) (yAtF S (el 7 i7) (sI S q_Plot_seenAt p)))), (5, .ref (el 7 i7)), (3, .int a3), (2, .ref z12), (0, .ref x), (1, .ref p)] dX11_trackFor_93 rfl hv15 (by decide) rfl ?_
              refine g_goto hκ 7 dX11_trackFor_96 (by decide) ?_
              refine g_lv [(4, .int v15), (3, .int a3), (2, .ref z12), (0, .ref x), (1, .ref p)] [0, 3, 4, 5, 6] rfl ?_
              exact ih7 (i7 + 1) v15 (some z12) a3 (by omega) (lp_s rfl hv15) (by rw [hF7]; simp [tfR, liveB, c5, c7, c14, ← hv15, Int32.not_lt.mp c7, Int32.not_lt.mpr c14])
            · skip
              refine g_aload hκ 1 dX11_trackFor_87 rfl ?_
              refine g_astore_n hκ [(2, .ref (el 7 i7)), (6, .int (farF (sI S q_Plot_x p) (sI S q_Plot_y p) (xAtF S (el 7 i7) (sI S q_Plot_seenAt p)) (yAtF S (el 7 i7) (sI S q_Plot_seenAt p)))), (5, .ref (el 7 i7)), (4, .int (nI i7)), (3, .int a3), (0, .ref x), (1, .ref p)] dX11_trackFor_89 rfl (by decide) rfl ?_
              refine g_iload hκ 1 dX11_trackFor_90 rfl ?_
              refine g_istore_n hκ [(3, .int (farF (sI S q_Plot_x p) (sI S q_Plot_y p) (xAtF S (el 7 i7) (sI S q_Plot_seenAt p)) (yAtF S (el 7 i7) (sI S q_Plot_seenAt p)))), (2, .ref (el 7 i7)), (6, .int (farF (sI S q_Plot_x p) (sI S q_Plot_y p) (xAtF S (el 7 i7) (sI S q_Plot_seenAt p)) (yAtF S (el 7 i7) (sI S q_Plot_seenAt p)))), (5, .ref (el 7 i7)), (4, .int (nI i7)), (0, .ref x), (1, .ref p)] dX11_trackFor_92 rfl (by decide) rfl ?_
              obtain ⟨v16, hv16⟩ : ∃ z : Int32, nI i7 + 1 = z := ⟨_, rfl⟩
              refine g_iinc hκ (k := 4) (v := v16) [(4, .int v16), (3, .int (farF (sI S q_Plot_x p) (sI S q_Plot_y p) (xAtF S (el 7 i7) (sI S q_Plot_seenAt p)) (yAtF S (el 7 i7) (sI S q_Plot_seenAt p)))), (2, .ref (el 7 i7)), (6, .int (farF (sI S q_Plot_x p) (sI S q_Plot_y p) (xAtF S (el 7 i7) (sI S q_Plot_seenAt p)) (yAtF S (el 7 i7) (sI S q_Plot_seenAt p)))), (5, .ref (el 7 i7)), (0, .ref x), (1, .ref p)] dX11_trackFor_93 rfl hv16 (by decide) rfl ?_
              refine g_goto hκ 7 dX11_trackFor_96 (by decide) ?_
              refine g_lv [(4, .int v16), (3, .int (farF (sI S q_Plot_x p) (sI S q_Plot_y p) (xAtF S (el 7 i7) (sI S q_Plot_seenAt p)) (yAtF S (el 7 i7) (sI S q_Plot_seenAt p)))), (2, .ref (el 7 i7)), (0, .ref x), (1, .ref p)] [0, 1, 2, 5, 6] rfl ?_
              exact ih7 (i7 + 1) v16 (some (el 7 i7)) (farF (sI S q_Plot_x p) (sI S q_Plot_y p) (xAtF S (el 7 i7) (sI S q_Plot_seenAt p)) (yAtF S (el 7 i7) (sI S q_Plot_seenAt p))) (by omega) (lp_s rfl hv16) (by rw [hF7]; simp [tfR, liveB, c5, c7, c14, ← hv16, Int32.not_lt.mp c7, Int32.not_le.mp c14])
  exact loop7 (sz 7) 0 0 none 0 (by omega) (by first | rfl | decide) (by first | rfl | decide)
