set_option maxHeartbeats 4000000 in
set_option maxRecDepth 100000 in
theorem L_tail {κ : KX} {e9 : Nat × Nat} {b L : Nat} {xs : Nat → Int32} (hκ : Cx cL_law 11 RL room_1 κ) (hz : Vz e9 κ) (hX : XZ κ) (hs9 : Scr b L xs κ) (hL : L ≤ 260) (hend : LE cL_law κ) (S : wPS) (x lo ta : Nat) (la : Nat → Nat) (M cnts : Nat) (told : Int32) (el : Nat → Nat → Nat) (sz cp : Nat → Nat) (pw dn : Nat) (hI : IV e9 x lo ta la M cnts told S el sz cp pw pw dn) (hz4 : sz 4 = 3) (hz5 : sz 5 ≤ 12) (hcn : cnts ≤ 1188) : Gj κ (PV κ S (0) (0)) 615 [(1, .ref x)] [] := by
  show Gj κ _ 615 [(1, .ref x)] []
  have hM := hI.1.rm
  have hMc := hM
  obtain ⟨hx, ⟨f0, L0⟩, ⟨f1, L1⟩, ⟨f2, L2⟩, ⟨f3, L3⟩, ⟨f4, L4⟩, ⟨f5, L5⟩, ⟨f6, L6⟩, ⟨f7, L7⟩, ⟨f8, L8⟩, ⟨flo, hlo⟩, ⟨fta, hta⟩⟩ := hMc
  have b0 := L0.2.2.1
  have b2 := L2.2.2.1
  have b3 := L3.2.2.1
  have b4 := L4.2.2.1
  have b5 := L5.2.2.1
  have b7 := L7.2.2.1
  have b8 := L8.2.2.1
  have hSQ := (hI.2.2.1).sq
  refine g_aload_n hκ 0 dL_law_615 rfl rfl ?_
  refine rV_l hκ (hdV hz) [] sd_X11_digest qw_984 (fun D cO H s hK hP => rc_Room hK hP hx) (k_digest S x lo ta la el sz hM hSQ (by omega)) ⟨rfl, rfl, Nat.le_of_ble_eq_true rfl, Nat.le_of_ble_eq_true rfl⟩ rfl rfl (Nat.le_of_ble_eq_true rfl) dL_law_616 (fun r1 hr1 => ?_)
  refine g_eql hr1 ?_
  refine g_lstore hκ [(5, .long (digF S x lo ta el sz)), (1, .ref x)] dL_law_619 (by decide) rfl ?_
  refine g_aload_n hκ 1 dL_law_621 rfl rfl ?_
  refine rV_d hκ (hdV hz) [] sd_X11_seen qw_914 (fun D cO H s hK hP => rc_Room hK hP hx) (p_seen S x lo ta la el sz hM (by omega)) ⟨rfl, rfl, Nat.le_of_ble_eq_true rfl, Nat.le_of_ble_eq_true rfl⟩ rfl rfl (Nat.le_of_ble_eq_true rfl) dL_law_622 (fun r2 hr2 => ?_)
  obtain rfl := hr2
  refine g_dconst0 hκ dL_law_625 ?_
  refine g_dcmp hκ dL_law_626 ?_
  refine g_if_lt hκ 675 dL_law_627 (by decide) (fun z => absurd z (seen_b (by omega)).1) (fun _ => ?_)
  refine g_aload_n hκ 1 dL_law_630 rfl rfl ?_
  refine rV_d hκ (hdV hz) [] sd_X11_seen qw_914 (fun D cO H s hK hP => rc_Room hK hP hx) (p_seen S x lo ta la el sz hM (by omega)) ⟨rfl, rfl, Nat.le_of_ble_eq_true rfl, Nat.le_of_ble_eq_true rfl⟩ rfl rfl (Nat.le_of_ble_eq_true rfl) dL_law_631 (fun r3 hr3 => ?_)
  obtain rfl := hr3
  refine g_dconst1 hκ dL_law_634 ?_
  refine g_dcmp hκ dL_law_635 ?_
  refine g_if_gt hκ 675 dL_law_636 (by decide) (fun z => absurd z (seen_b (by omega)).2) (fun _ => ?_)
  refine g_aload_n hκ 1 dL_law_639 rfl rfl ?_
  refine g_iconst hκ (v := 4) dL_law_640 (by decide) ?_
  refine rV_i hκ (hdV hz) [.int 4] sd_X11_room qw_873 (fun D cO H s hK hP => rc_Room hK hP hx) (p_room_4 S x lo ta la el sz hM) ⟨rfl, rfl, Nat.le_of_ble_eq_true rfl, Nat.le_of_ble_eq_true rfl⟩ rfl rfl (Nat.le_of_ble_eq_true rfl) dL_law_641 (fun r4 hr4 => ?_)
  refine g_eqi (show r4 = nI (sz 7) from hr4) ?_
  refine g_if_le hκ 656 dL_law_644 (by decide) (fun c5 => ?_) (fun c5 => ?_)
  · skip
    refine g_aload_n hκ 1 dL_law_656 rfl rfl ?_
    refine g_iconst hκ (v := 0) dL_law_657 (by decide) ?_
    refine rV_i hκ (hdV hz) [.int 0] sd_X11_wouldSound qw_945 (fun D cO H s hK hP => rc_Room hK hP hx) (p_wouldSound S x lo ta la el sz 0 0 hM nI_0.symm (by omega)) ⟨rfl, rfl, Nat.le_of_ble_eq_true rfl, Nat.le_of_ble_eq_true rfl⟩ rfl rfl (Nat.le_of_ble_eq_true rfl) dL_law_658 (fun r6 hr6 => ?_)
    refine g_eqi hr6 ?_
    refine g_iconst hκ (v := (-1)) dL_law_661 (by decide) ?_
    refine g_icmp_lt hκ 675 dL_law_662 (by decide) (fun z => absurd z sir_ge) (fun _ => ?_)
    refine g_aload_n hκ 1 dL_law_665 rfl rfl ?_
    refine rV_l hκ (hdV hz) [] sd_X11_digest qw_984 (fun D cO H s hK hP => rc_Room hK hP hx) (k_digest S x lo ta la el sz hM hSQ (by omega)) ⟨rfl, rfl, Nat.le_of_ble_eq_true rfl, Nat.le_of_ble_eq_true rfl⟩ rfl rfl (Nat.le_of_ble_eq_true rfl) dL_law_666 (fun r7 hr7 => ?_)
    refine g_eql hr7 ?_
    refine g_lload hκ 0 dL_law_669 rfl ?_
    refine g_lcmp hκ dL_law_671 ?_
    refine g_eqi (lg_self _) ?_
    refine g_if_eq hκ 677 dL_law_672 (by decide) (fun _ => ?_) (fun z => absurd z (by decide))
    refine g_aload_n hκ 1 dL_law_677 rfl rfl ?_
    refine vV_i hκ hz [] sd_X11_call qw_854 (fun D cO H s hK hP => rc_Room hK hP hx) (k_call e9 S x lo ta la M cnts told el sz cp pw pw dn hI) ⟨rfl, rfl, Nat.le_of_ble_eq_true rfl, Nat.le_of_ble_eq_true rfl⟩ rfl rfl (Nat.le_of_ble_eq_true rfl) dL_law_678 (by omega) (by omega) (fun r8 S9 hS9 => ?_)
    obtain ⟨e9r, rfl⟩ := hS9
    refine g_eqi e9r ?_
    obtain ⟨hsn, hT9⟩ := refused_sound (v := 1) hI (by omega)
    have hM := hT9.rm
    refine g_iconst hκ (v := 1) dL_law_681 (by decide) ?_
    refine g_icmp_ne hκ 696 dL_law_682 (by decide) (fun z => absurd z (by decide)) (fun _ => ?_)
    refine g_aload_n hκ 1 dL_law_685 rfl rfl ?_
    refine rV_i hκ (hdV hz) [] sd_X11_isSound qw_955 (fun D cO H s hK hP => rc_Room hK hP hT9.1) (k_isSound (putI S q_Tally_refused ta 1) x lo ta la el sz hM) ⟨rfl, rfl, Nat.le_of_ble_eq_true rfl, Nat.le_of_ble_eq_true rfl⟩ rfl rfl (Nat.le_of_ble_eq_true rfl) dL_law_686 (fun r10 hr10 => ?_)
    refine g_eqi (y := 1) (hr10.trans (congrArg zb hsn)) ?_
    refine g_if_eq hκ 696 dL_law_689 (by decide) (fun z => absurd z (by decide)) (fun _ => ?_)
    refine g_iconst hκ (v := 1) dL_law_692 (by decide) ?_
    refine g_goto hκ 697 dL_law_693 (by decide) ?_
    exact hend _ _ _ _ _ dL_law_697
  · skip
    have hp9 := pos_of c5
    refine g_aload_n hκ 1 dL_law_647 rfl rfl ?_
    refine g_iconst hκ (v := 0) dL_law_648 (by decide) ?_
    refine rV_i hκ (hdV hz) [.int 0] sd_X11_best qw_926 (fun D cO H s hK hP => rc_Room hK hP hx) (p_best S x lo ta la el sz 0 0 hM nI_0.symm hp9) ⟨rfl, rfl, Nat.le_of_ble_eq_true rfl, Nat.le_of_ble_eq_true rfl⟩ rfl rfl (Nat.le_of_ble_eq_true rfl) dL_law_649 (fun r11 hr11 => ?_)
    refine g_eqi hr11 ?_
    refine g_iconst hκ (v := (-1)) dL_law_652 (by decide) ?_
    refine g_icmp_lt hκ 675 dL_law_653 (by decide) (fun z => absurd z (best_ge b2)) (fun _ => ?_)
    refine g_aload_n hκ 1 dL_law_656 rfl rfl ?_
    refine g_iconst hκ (v := 0) dL_law_657 (by decide) ?_
    refine rV_i hκ (hdV hz) [.int 0] sd_X11_wouldSound qw_945 (fun D cO H s hK hP => rc_Room hK hP hx) (p_wouldSound S x lo ta la el sz 0 0 hM nI_0.symm (by omega)) ⟨rfl, rfl, Nat.le_of_ble_eq_true rfl, Nat.le_of_ble_eq_true rfl⟩ rfl rfl (Nat.le_of_ble_eq_true rfl) dL_law_658 (fun r12 hr12 => ?_)
    refine g_eqi hr12 ?_
    refine g_iconst hκ (v := (-1)) dL_law_661 (by decide) ?_
    refine g_icmp_lt hκ 675 dL_law_662 (by decide) (fun z => absurd z sir_ge) (fun _ => ?_)
    refine g_aload_n hκ 1 dL_law_665 rfl rfl ?_
    refine rV_l hκ (hdV hz) [] sd_X11_digest qw_984 (fun D cO H s hK hP => rc_Room hK hP hx) (k_digest S x lo ta la el sz hM hSQ (by omega)) ⟨rfl, rfl, Nat.le_of_ble_eq_true rfl, Nat.le_of_ble_eq_true rfl⟩ rfl rfl (Nat.le_of_ble_eq_true rfl) dL_law_666 (fun r13 hr13 => ?_)
    refine g_eql hr13 ?_
    refine g_lload hκ 0 dL_law_669 rfl ?_
    refine g_lcmp hκ dL_law_671 ?_
    refine g_eqi (lg_self _) ?_
    refine g_if_eq hκ 677 dL_law_672 (by decide) (fun _ => ?_) (fun z => absurd z (by decide))
    refine g_aload_n hκ 1 dL_law_677 rfl rfl ?_
    refine vV_i hκ hz [] sd_X11_call qw_854 (fun D cO H s hK hP => rc_Room hK hP hx) (k_call e9 S x lo ta la M cnts told el sz cp pw pw dn hI) ⟨rfl, rfl, Nat.le_of_ble_eq_true rfl, Nat.le_of_ble_eq_true rfl⟩ rfl rfl (Nat.le_of_ble_eq_true rfl) dL_law_678 (by omega) (by omega) (fun r14 S15 hS15 => ?_)
    obtain ⟨e9r, rfl⟩ := hS15
    refine g_eqi e9r ?_
    obtain ⟨hsn, hT9⟩ := refused_sound (v := 1) hI (by omega)
    have hM := hT9.rm
    refine g_iconst hκ (v := 1) dL_law_681 (by decide) ?_
    refine g_icmp_ne hκ 696 dL_law_682 (by decide) (fun z => absurd z (by decide)) (fun _ => ?_)
    refine g_aload_n hκ 1 dL_law_685 rfl rfl ?_
    refine rV_i hκ (hdV hz) [] sd_X11_isSound qw_955 (fun D cO H s hK hP => rc_Room hK hP hT9.1) (k_isSound (putI S q_Tally_refused ta 1) x lo ta la el sz hM) ⟨rfl, rfl, Nat.le_of_ble_eq_true rfl, Nat.le_of_ble_eq_true rfl⟩ rfl rfl (Nat.le_of_ble_eq_true rfl) dL_law_686 (fun r16 hr16 => ?_)
    refine g_eqi (y := 1) (hr16.trans (congrArg zb hsn)) ?_
    refine g_if_eq hκ 696 dL_law_689 (by decide) (fun z => absurd z (by decide)) (fun _ => ?_)
    refine g_iconst hκ (v := 1) dL_law_692 (by decide) ?_
    refine g_goto hκ 697 dL_law_693 (by decide) ?_
    exact hend _ _ _ _ _ dL_law_697
