set_option maxHeartbeats 4000000 in
set_option maxRecDepth 100000 in
theorem k_loseM (e9 : Nat × Nat) (S : wPS) (x lo ta : Nat) (la : Nat → Nat) (el : Nat → Nat → Nat) (sz : Nat → Nat) (q : Nat) (l : Int32) (b : Nat) (hM : RMx S x lo ta la el sz) (hq : q ∈ sL S ∧ sK S q = 6) (fb : sR S q_Squadron_base q = some b) (hb : b ∈ sL S ∧ sK S b = 4) : MVv e9 yX11_loseMachines cX11_loseMachines 3 none ({ frames := 1, cells := 0, slots := 0, locals := 22 }) S [.ref x, .ref q, .int l] (fun S1 => S1 = lmF S q ta l b) 0 0 := by
  refine stV_v (post := (fun S1 => S1 = lmF S q ta l b)) (by decide) (Nat.le_of_ble_eq_true rfl) ⟨Nat.le_refl _, Nat.le_refl _⟩ rfl (fun κ hκ hz hnm hend => ?_)
  show Gj κ _ 0 [(0, .ref x), (1, .ref q), (2, .int l)] []
  have hMc := hM
  obtain ⟨hx, ⟨f0, L0⟩, ⟨f1, L1⟩, ⟨f2, L2⟩, ⟨f3, L3⟩, ⟨f4, L4⟩, ⟨f5, L5⟩, ⟨f6, L6⟩, ⟨f7, L7⟩, ⟨f8, L8⟩, ⟨flo, hlo⟩, ⟨fta, hta⟩⟩ := hMc
  have b0 := L0.2.2.1
  have b2 := L2.2.2.1
  have b3 := L3.2.2.1
  have b4 := L4.2.2.1
  have b5 := L5.2.2.1
  have b7 := L7.2.2.1
  have b8 := L8.2.2.1
  refine g_aload_n hκ 1 dX11_loseMachines_0 rfl rfl ?_
  refine g_dup hκ dX11_loseMachines_1 rfl ?_
  refine gtN_Squadron_machines (host := "Plotroom") hκ (hdV hz) hq (by decide +kernel) (Or.inl rfl) dX11_loseMachines_2 ?_
  refine g_iload_n hκ 2 dX11_loseMachines_5 rfl rfl ?_
  refine g_isub hκ dX11_loseMachines_6 ?_
  refine ptN_Squadron_machines (host := "Plotroom") hκ hq (by decide +kernel) (Or.inl rfl) dX11_loseMachines_7 ?_
  refine g_aload_n hκ 0 dX11_loseMachines_10 rfl rfl ?_
  refine gt_Room_tally hκ (hdV hz) hx qw_117 (Or.inl rfl) dX11_loseMachines_11 ?_
  refine g_rf fta ?_
  refine g_dup hκ dX11_loseMachines_14 rfl ?_
  refine gtN_Tally_machinesLost (host := "Plotroom") hκ (hdV hz) hta (by decide +kernel) (Or.inl rfl) dX11_loseMachines_15 ?_
  refine g_iload_n hκ 2 dX11_loseMachines_18 rfl rfl ?_
  refine g_iadd hκ dX11_loseMachines_19 ?_
  refine ptN_Tally_machinesLost (host := "Plotroom") hκ hta (by decide +kernel) (Or.inl rfl) dX11_loseMachines_20 ?_
  refine g_aload_n hκ 1 dX11_loseMachines_23 rfl rfl ?_
  refine gtN_Squadron_machines (host := "Plotroom") hκ (hdV hz) hq (by decide +kernel) (Or.inl rfl) dX11_loseMachines_24 ?_
  refine g_if_gt hκ 36 dX11_loseMachines_27 (by decide) (fun c1 => ?_) (fun c1 => ?_)
  · skip
    exact hend _ _ _ _ _ dX11_loseMachines_36 (by have c9 : 0 < sI (lmS S q ta l) q_Squadron_machines q := c1; unfold lmS at c9; rw [putI_col q_Squadron_machines q (Or.inl (by decide)), putI_at] at c9; unfold lmF; rw [if_pos c9]; rfl)
  · skip
    refine g_aload_n hκ 1 dX11_loseMachines_30 rfl rfl ?_
    refine g_iconst hκ (v := 0) dX11_loseMachines_31 (by decide) ?_
    refine g_iconst hκ (v := (-1)) dX11_loseMachines_32 (by decide) ?_
    refine vV_v hκ hz [.int 0, .int (-1)] sd_X7_rest qw_779 (fun D cO H s hK hP => rc_Squadron hK hP hq) (k_rest e9 (putI (putI S q_Squadron_machines q ((sI S q_Squadron_machines q) - l)) q_Tally_machinesLost ta ((sI (putI S q_Squadron_machines q ((sI S q_Squadron_machines q) - l)) q_Tally_machinesLost ta) + l)) q 0 (-1) b hq fb hb) ⟨rfl, rfl, Nat.le_of_ble_eq_true rfl, Nat.le_of_ble_eq_true rfl⟩ rfl rfl (Nat.le_of_ble_eq_true rfl) dX11_loseMachines_33 (by omega) (by omega) (fun S3 hS3 => ?_)
    obtain rfl := hS3
    exact hend _ _ _ _ _ dX11_loseMachines_36 (by unfold lmF; rw [if_neg (fun z => absurd z (fun z => c1 (by show 0 < sI (lmS S q ta l) q_Squadron_machines q; unfold lmS; rw [putI_col q_Squadron_machines q (Or.inl (by decide)), putI_at]; exact z)))]; rfl)
set_option maxHeartbeats 4000000 in
set_option maxRecDepth 100000 in
theorem k_fly (e9 : Nat × Nat) (S : wPS) (x lo ta : Nat) (la : Nat → Nat) (el : Nat → Nat → Nat) (sz cp : Nat → Nat) (q : Nat) (hT : ST e9 x lo ta la S el sz cp) (hq : q ∈ sL S ∧ sK S q = 6) (hqI : sqI S q) (hst : sI S q_Squadron_state q = 2 ∨ sI S q_Squadron_state q = 3) : MVv e9 yX11_fly cX11_fly 3 none ({ frames := 2, cells := 0, slots := 0, locals := 48 }) S [.ref x, .ref q] (fun S1 => TT q ta S S1) 0 0 := by
  refine stV_v (post := (fun S1 => TT q ta S S1)) (by decide) (Nat.le_of_ble_eq_true rfl) ⟨Nat.le_refl _, Nat.le_refl _⟩ rfl (fun κ hκ hz hnm hend => ?_)
  show Gj κ _ 0 [(0, .ref x), (1, .ref q)] []
  have hM := hT.rm
  have hMc := hM
  obtain ⟨hx, ⟨f0, L0⟩, ⟨f1, L1⟩, ⟨f2, L2⟩, ⟨f3, L3⟩, ⟨f4, L4⟩, ⟨f5, L5⟩, ⟨f6, L6⟩, ⟨f7, L7⟩, ⟨f8, L8⟩, ⟨flo, hlo⟩, ⟨fta, hta⟩⟩ := hMc
  have b0 := L0.2.2.1
  have b2 := L2.2.2.1
  have b3 := L3.2.2.1
  have b4 := L4.2.2.1
  have b5 := L5.2.2.1
  have b7 := L7.2.2.1
  have b8 := L8.2.2.1
  obtain ⟨b, hB⟩ := sqI.b hq hqI
  have fb := hB.2.2.2.1
  have hb := hB.2.2.2.2.1
  obtain ⟨⟨m, hm12, hmm, hmst⟩, hfu, htank, hpl, ⟨s, hs5, hs20, hsp⟩, -, htg⟩ := hqI
  have hm0 : 0 < m := sq_m0 hmst hst
  rcases htg with ht | ⟨t, ht, ho⟩
  · skip
    refine g_aload_n hκ 1 dX11_fly_0 rfl rfl ?_
    refine gtN_Squadron_target (host := "Plotroom") hκ (hdV hz) hq (by decide +kernel) (Or.inl rfl) dX11_fly_1 ?_
    refine g_rn ht ?_
    refine g_astore_nN hκ [(2, .null), (0, .ref x), (1, .ref q)] dX11_fly_4 rfl (by decide) rfl ?_
    refine g_aload_nN hκ 0 dX11_fly_5 rfl rfl ?_
    refine g_ifnullN hκ 50 dX11_fly_6 (by decide) ?_
    refine g_aload_n hκ 2 dX11_fly_50 rfl rfl ?_
    refine vV_v hκ hz [] sd_X7_headHome qw_771 (fun D cO H s hK hP => rc_Squadron hK hP hq) (k_headHome e9 S q hq) ⟨rfl, rfl, Nat.le_of_ble_eq_true rfl, Nat.le_of_ble_eq_true rfl⟩ rfl rfl (Nat.le_of_ble_eq_true rfl) dX11_fly_51 (by omega) (by omega) (fun S2 hS2 => ?_)
    obtain rfl := hS2
    refine g_aload_n hκ 2 dX11_fly_54 rfl rfl ?_
    refine g_aload_n hκ 2 dX11_fly_55 rfl rfl ?_
    refine gtN_Squadron_base (host := "Plotroom") hκ (hdV hz) ((SqS.hh (ta := ta) (S := S) (q := q)).1.o hq) (by decide +kernel) (Or.inl rfl) dX11_fly_56 ?_
    refine g_rf (((SqS.hh (ta := ta) (S := S) (q := q)).1.2.2 q_Squadron_base (by decide) _ hq.1).trans fb) ?_
    refine gt_Place_x hκ (hdV hz) ((SqS.hh (ta := ta) (S := S) (q := q)).1.o hb) qw_287 (Or.inl rfl) dX11_fly_59 ?_
    refine g_aload_n hκ 2 dX11_fly_62 rfl rfl ?_
    refine gtN_Squadron_base (host := "Plotroom") hκ (hdV hz) ((SqS.hh (ta := ta) (S := S) (q := q)).1.o hq) (by decide +kernel) (Or.inl rfl) dX11_fly_63 ?_
    refine g_rf (((SqS.hh (ta := ta) (S := S) (q := q)).1.2.2 q_Squadron_base (by decide) _ hq.1).trans fb) ?_
    refine gt_Place_y hκ (hdV hz) ((SqS.hh (ta := ta) (S := S) (q := q)).1.o hb) qw_311 (Or.inl rfl) dX11_fly_66 ?_
    refine vV_v hκ hz [.int (sI (headHomeF S q) q_Place_x b), .int (sI (headHomeF S q) q_Place_y b)] sd_X7_go qw_761 (fun D cO H s hK hP => rc_Squadron hK hP ((SqS.hh (ta := ta) (S := S) (q := q)).1.o hq)) (k_go e9 (headHomeF S q) q (sI (headHomeF S q) q_Place_x b) (sI (headHomeF S q) q_Place_y b) ((SqS.hh (ta := ta) (S := S) (q := q)).1.o hq)) ⟨rfl, rfl, Nat.le_of_ble_eq_true rfl, Nat.le_of_ble_eq_true rfl⟩ rfl rfl (Nat.le_of_ble_eq_true rfl) dX11_fly_69 (by omega) (by omega) (fun S4 hS4 => ?_)
    obtain rfl := hS4
    have hs1 : SqS q ta S (goF (headHomeF S q) q (sI (headHomeF S q) q_Place_x b) (sI (headHomeF S q) q_Place_y b)) := SqS.hh.trans SqS.go
    have hm1 : sI (goF (headHomeF S q) q (sI (headHomeF S q) q_Place_x b) (sI (headHomeF S q) q_Place_y b)) q_Squadron_machines q = nI m := (goF_ch.1.2.1 q_Squadron_machines (by decide) _ ((SqS.hh (ta := ta)).1.o hq).1).trans ((hh_i (by decide)).trans hmm)
    have hst1 : sI (goF (headHomeF S q) q (sI (headHomeF S q) q_Place_x b) (sI (headHomeF S q) q_Place_y b)) q_Squadron_state q = 3 := (goF_ch.1.2.1 q_Squadron_state (by decide) _ ((SqS.hh (ta := ta)).1.o hq).1).trans hh_st
    have hpl1 := go_pl (S := headHomeF S q) (q := q) (tx := sI (headHomeF S q) q_Place_x b) (ty := sI (headHomeF S q) q_Place_y b) (by rw [hh_i (by decide), hh_i (by decide)]; exact hpl) hs5 hs20 ((hh_i (by decide)).trans hsp) (hB.st (ta := ta) SqS.hh).2.2.2.2.2
    have htg1 : sR (goF (headHomeF S q) q (sI (headHomeF S q) q_Place_x b) (sI (headHomeF S q) q_Place_y b)) q_Squadron_target q = none ∨ ∃ tz : Nat, sR (goF (headHomeF S q) q (sI (headHomeF S q) q_Place_x b) (sI (headHomeF S q) q_Place_y b)) q_Squadron_target q = some tz ∧ tz ∈ sL (goF (headHomeF S q) q (sI (headHomeF S q) q_Place_x b) (sI (headHomeF S q) q_Place_y b)) ∧ sK (goF (headHomeF S q) q (sI (headHomeF S q) q_Place_x b) (sI (headHomeF S q) q_Place_y b)) tz = 9 := Or.inl ((goF_ch.1.2.2 q_Squadron_target (by decide) _ ((SqS.hh (ta := ta)).1.o hq).1).trans hh_tg)
    have htk1 : talkB (goF (headHomeF S q) q (sI (headHomeF S q) q_Place_x b) (sI (headHomeF S q) q_Place_y b)) q = true → talkB S q = true := fun z => absurd z (fun z => talk3 hst1 z)
    have hst9 : sI (goF (headHomeF S q) q (sI (headHomeF S q) q_Place_x b) (sI (headHomeF S q) q_Place_y b)) q_Squadron_state q = 1 ∨ sI (goF (headHomeF S q) q (sI (headHomeF S q) q_Place_x b) (sI (headHomeF S q) q_Place_y b)) q_Squadron_state q = 2 ∨ sI (goF (headHomeF S q) q (sI (headHomeF S q) q_Place_x b) (sI (headHomeF S q) q_Place_y b)) q_Squadron_state q = 3 := Or.inr (Or.inr hst1)
    refine g_aload_n hκ 2 dX11_fly_72 rfl rfl ?_
    refine g_dup hκ dX11_fly_73 rfl ?_
    refine gtN_Squadron_fuel (host := "Plotroom") hκ (hdV hz) (hs1.1.o hq) (by decide +kernel) (Or.inl rfl) dX11_fly_74 ?_
    refine g_iconst hκ (v := 1) dX11_fly_77 (by decide) ?_
    refine g_isub hκ dX11_fly_78 ?_
    refine ptN_Squadron_fuel (host := "Plotroom") hκ (hs1.1.o hq) (by decide +kernel) (Or.inl rfl) dX11_fly_79 ?_
    have hs2 : SqS q ta S (putI (goF (headHomeF S q) q (sI (headHomeF S q) q_Place_x b) (sI (headHomeF S q) q_Place_y b)) q_Squadron_fuel q ((sI (goF (headHomeF S q) q (sI (headHomeF S q) q_Place_x b) (sI (headHomeF S q) q_Place_y b)) q_Squadron_fuel q) - 1)) := hs1.trans (SqS.i (by decide))
    have hm2 : sI (putI (goF (headHomeF S q) q (sI (headHomeF S q) q_Place_x b) (sI (headHomeF S q) q_Place_y b)) q_Squadron_fuel q ((sI (goF (headHomeF S q) q (sI (headHomeF S q) q_Place_x b) (sI (headHomeF S q) q_Place_y b)) q_Squadron_fuel q) - 1)) q_Squadron_machines q = nI m := (fuel_i (by decide)).trans hm1
    have hst2 : sI (putI (goF (headHomeF S q) q (sI (headHomeF S q) q_Place_x b) (sI (headHomeF S q) q_Place_y b)) q_Squadron_fuel q ((sI (goF (headHomeF S q) q (sI (headHomeF S q) q_Place_x b) (sI (headHomeF S q) q_Place_y b)) q_Squadron_fuel q) - 1)) q_Squadron_state q = 1 ∨ sI (putI (goF (headHomeF S q) q (sI (headHomeF S q) q_Place_x b) (sI (headHomeF S q) q_Place_y b)) q_Squadron_fuel q ((sI (goF (headHomeF S q) q (sI (headHomeF S q) q_Place_x b) (sI (headHomeF S q) q_Place_y b)) q_Squadron_fuel q) - 1)) q_Squadron_state q = 2 ∨ sI (putI (goF (headHomeF S q) q (sI (headHomeF S q) q_Place_x b) (sI (headHomeF S q) q_Place_y b)) q_Squadron_fuel q ((sI (goF (headHomeF S q) q (sI (headHomeF S q) q_Place_x b) (sI (headHomeF S q) q_Place_y b)) q_Squadron_fuel q) - 1)) q_Squadron_state q = 3 := by rw [fuel_i (by decide)]; exact hst9
    have htk2 : talkB (putI (goF (headHomeF S q) q (sI (headHomeF S q) q_Place_x b) (sI (headHomeF S q) q_Place_y b)) q_Squadron_fuel q ((sI (goF (headHomeF S q) q (sI (headHomeF S q) q_Place_x b) (sI (headHomeF S q) q_Place_y b)) q_Squadron_fuel q) - 1)) q = true → talkB S q = true := fun z => htk1 (by unfold talkB at z ⊢; rw [fuel_i (by decide)] at z; exact z)
    have hpl2 : isPlaceB (sI (putI (goF (headHomeF S q) q (sI (headHomeF S q) q_Place_x b) (sI (headHomeF S q) q_Place_y b)) q_Squadron_fuel q ((sI (goF (headHomeF S q) q (sI (headHomeF S q) q_Place_x b) (sI (headHomeF S q) q_Place_y b)) q_Squadron_fuel q) - 1)) q_Squadron_x q) (sI (putI (goF (headHomeF S q) q (sI (headHomeF S q) q_Place_x b) (sI (headHomeF S q) q_Place_y b)) q_Squadron_fuel q ((sI (goF (headHomeF S q) q (sI (headHomeF S q) q_Place_x b) (sI (headHomeF S q) q_Place_y b)) q_Squadron_fuel q) - 1)) q_Squadron_y q) = true := by rw [fuel_i (by decide), fuel_i (by decide)]; exact hpl1
    have htg2 : sR (putI (goF (headHomeF S q) q (sI (headHomeF S q) q_Place_x b) (sI (headHomeF S q) q_Place_y b)) q_Squadron_fuel q ((sI (goF (headHomeF S q) q (sI (headHomeF S q) q_Place_x b) (sI (headHomeF S q) q_Place_y b)) q_Squadron_fuel q) - 1)) q_Squadron_target q = none ∨ ∃ tz : Nat, sR (putI (goF (headHomeF S q) q (sI (headHomeF S q) q_Place_x b) (sI (headHomeF S q) q_Place_y b)) q_Squadron_fuel q ((sI (goF (headHomeF S q) q (sI (headHomeF S q) q_Place_x b) (sI (headHomeF S q) q_Place_y b)) q_Squadron_fuel q) - 1)) q_Squadron_target q = some tz ∧ tz ∈ sL (putI (goF (headHomeF S q) q (sI (headHomeF S q) q_Place_x b) (sI (headHomeF S q) q_Place_y b)) q_Squadron_fuel q ((sI (goF (headHomeF S q) q (sI (headHomeF S q) q_Place_x b) (sI (headHomeF S q) q_Place_y b)) q_Squadron_fuel q) - 1)) ∧ sK (putI (goF (headHomeF S q) q (sI (headHomeF S q) q_Place_x b) (sI (headHomeF S q) q_Place_y b)) q_Squadron_fuel q ((sI (goF (headHomeF S q) q (sI (headHomeF S q) q_Place_x b) (sI (headHomeF S q) q_Place_y b)) q_Squadron_fuel q) - 1)) tz = 9 := htg1
    have hB2 := hB.st hs2
    refine g_aload_n hκ 2 dX11_fly_82 rfl rfl ?_
    refine gtN_Squadron_state (host := "Plotroom") hκ (hdV hz) (hs2.1.o hq) (by decide +kernel) (Or.inl rfl) dX11_fly_83 ?_
    refine g_iconst hκ (v := 3) dX11_fly_86 (by decide) ?_
    refine g_icmp_ne hκ 112 dX11_fly_87 (by decide) (fun c5 => ?_) (fun c5 => ?_)
    · skip
      refine g_aload_n hκ 2 dX11_fly_112 rfl rfl ?_
      refine gtN_Squadron_fuel (host := "Plotroom") hκ (hdV hz) (hs2.1.o hq) (by decide +kernel) (Or.inl rfl) dX11_fly_113 ?_
      refine g_if_gt hκ 128 dX11_fly_116 (by decide) (fun c6 => ?_) (fun c6 => ?_)
      · skip
        exact hend _ _ _ _ _ dX11_fly_128 (⟨hs2, sq_mk hB2 hm12 hm2 hm0 hst2 c6 hpl2 htg2, htk2⟩)
      · skip
        refine g_aload_n hκ 1 dX11_fly_119 rfl rfl ?_
        refine g_aload_n hκ 2 dX11_fly_120 rfl rfl ?_
        refine g_aload_n hκ 2 dX11_fly_121 rfl rfl ?_
        refine gtN_Squadron_machines (host := "Plotroom") hκ (hdV hz) (hs2.1.o hq) (by decide +kernel) (Or.inl rfl) dX11_fly_122 ?_
        refine vV_v hκ hz [.ref q, .int (sI (putI (goF (headHomeF S q) q (sI (headHomeF S q) q_Place_x b) (sI (headHomeF S q) q_Place_y b)) q_Squadron_fuel q ((sI (goF (headHomeF S q) q (sI (headHomeF S q) q_Place_x b) (sI (headHomeF S q) q_Place_y b)) q_Squadron_fuel q) - 1)) q_Squadron_machines q)] sd_X11_loseMachines qw_783 (fun D cO H s hK hP => rc_Room hK hP (hs2.1.o hx)) (k_loseM e9 (putI (goF (headHomeF S q) q (sI (headHomeF S q) q_Place_x b) (sI (headHomeF S q) q_Place_y b)) q_Squadron_fuel q ((sI (goF (headHomeF S q) q (sI (headHomeF S q) q_Place_x b) (sI (headHomeF S q) q_Place_y b)) q_Squadron_fuel q) - 1)) x lo ta la el sz q (sI (putI (goF (headHomeF S q) q (sI (headHomeF S q) q_Place_x b) (sI (headHomeF S q) q_Place_y b)) q_Squadron_fuel q ((sI (goF (headHomeF S q) q (sI (headHomeF S q) q_Place_x b) (sI (headHomeF S q) q_Place_y b)) q_Squadron_fuel q) - 1)) q_Squadron_machines q) b (hT.sq hs2).rm (hs2.1.o hq) ((hs2.1.2.2 q_Squadron_base (by decide) _ hq.1).trans fb) (hs2.1.o hb)) ⟨rfl, rfl, Nat.le_of_ble_eq_true rfl, Nat.le_of_ble_eq_true rfl⟩ rfl rfl (Nat.le_of_ble_eq_true rfl) dX11_fly_125 (by omega) (by omega) (fun S8 hS8 => ?_)
        obtain rfl := hS8
        exact hend _ _ _ _ _ dX11_fly_128 (by rw [hm2]; have e9z := lm_TT (ta := ta) (l := m) hB2 (Or.inr rfl) hm12 hm2 (Nat.le_refl m); exact ⟨hs2.trans e9z.1, e9z.2.1, fun z => htk2 (e9z.2.2 z)⟩)
    · skip
      refine g_aload_n hκ 2 dX11_fly_90 rfl rfl ?_
      refine rV_i hκ (hdV hz) [] sd_X7_isAtBase qw_775 (fun D cO H s hK hP => rc_Squadron hK hP (hs2.1.o hq)) (k_isAtBase (putI (goF (headHomeF S q) q (sI (headHomeF S q) q_Place_x b) (sI (headHomeF S q) q_Place_y b)) q_Squadron_fuel q ((sI (goF (headHomeF S q) q (sI (headHomeF S q) q_Place_x b) (sI (headHomeF S q) q_Place_y b)) q_Squadron_fuel q) - 1)) q b (hs2.1.o hq) ((hs2.1.2.2 q_Squadron_base (by decide) _ hq.1).trans fb) (hs2.1.o hb)) ⟨rfl, rfl, Nat.le_of_ble_eq_true rfl, Nat.le_of_ble_eq_true rfl⟩ rfl rfl (Nat.le_of_ble_eq_true rfl) dX11_fly_91 (fun r9 hr9 => ?_)
      obtain ⟨b10, rfl⟩ | ⟨b10, rfl⟩ := zb_cases hr9
      · skip
        refine g_if_eq hκ 112 dX11_fly_94 (by decide) (fun z => absurd z (by decide)) (fun _ => ?_)
        refine g_aload_n hκ 2 dX11_fly_97 rfl rfl ?_
        refine g_iconst hκ (v := 4) dX11_fly_98 (by decide) ?_
        refine g_aload_n hκ 1 dX11_fly_99 rfl rfl ?_
        refine gt_Room_minute hκ (hdV hz) (hs2.1.o hx) qw_118 (Or.inl rfl) dX11_fly_100 ?_
        refine g_bipush hκ (v := 12) dX11_fly_103 (by decide) ?_
        refine g_iadd hκ dX11_fly_105 ?_
        refine vV_v hκ hz [.int 4, .int ((sI (putI (goF (headHomeF S q) q (sI (headHomeF S q) q_Place_x b) (sI (headHomeF S q) q_Place_y b)) q_Squadron_fuel q ((sI (goF (headHomeF S q) q (sI (headHomeF S q) q_Place_x b) (sI (headHomeF S q) q_Place_y b)) q_Squadron_fuel q) - 1)) q_Room_minute x) + 12)] sd_X7_rest qw_779 (fun D cO H s hK hP => rc_Squadron hK hP (hs2.1.o hq)) (k_rest e9 (putI (goF (headHomeF S q) q (sI (headHomeF S q) q_Place_x b) (sI (headHomeF S q) q_Place_y b)) q_Squadron_fuel q ((sI (goF (headHomeF S q) q (sI (headHomeF S q) q_Place_x b) (sI (headHomeF S q) q_Place_y b)) q_Squadron_fuel q) - 1)) q 4 ((sI (putI (goF (headHomeF S q) q (sI (headHomeF S q) q_Place_x b) (sI (headHomeF S q) q_Place_y b)) q_Squadron_fuel q ((sI (goF (headHomeF S q) q (sI (headHomeF S q) q_Place_x b) (sI (headHomeF S q) q_Place_y b)) q_Squadron_fuel q) - 1)) q_Room_minute x) + 12) b (hs2.1.o hq) ((hs2.1.2.2 q_Squadron_base (by decide) _ hq.1).trans fb) (hs2.1.o hb)) ⟨rfl, rfl, Nat.le_of_ble_eq_true rfl, Nat.le_of_ble_eq_true rfl⟩ rfl rfl (Nat.le_of_ble_eq_true rfl) dX11_fly_106 (by omega) (by omega) (fun S12 hS12 => ?_)
        obtain rfl := hS12
        refine g_goto hκ 128 dX11_fly_109 (by decide) ?_
        exact hend _ _ _ _ _ dX11_fly_128 (⟨hs2.trans SqS.rest, rest_sq hB2 hm12 hm2 (Or.inr rfl), fun z => absurd z (fun z => rest_talk (Or.inr rfl) z)⟩)
      · skip
        refine g_if_eq hκ 112 dX11_fly_94 (by decide) (fun _ => ?_) (fun z => absurd z (by decide))
        refine g_aload_n hκ 2 dX11_fly_112 rfl rfl ?_
        refine gtN_Squadron_fuel (host := "Plotroom") hκ (hdV hz) (hs2.1.o hq) (by decide +kernel) (Or.inl rfl) dX11_fly_113 ?_
        refine g_if_gt hκ 128 dX11_fly_116 (by decide) (fun c13 => ?_) (fun c13 => ?_)
        · skip
          exact hend _ _ _ _ _ dX11_fly_128 (⟨hs2, sq_mk hB2 hm12 hm2 hm0 hst2 c13 hpl2 htg2, htk2⟩)
        · skip
          refine g_aload_n hκ 1 dX11_fly_119 rfl rfl ?_
          refine g_aload_n hκ 2 dX11_fly_120 rfl rfl ?_
          refine g_aload_n hκ 2 dX11_fly_121 rfl rfl ?_
          refine gtN_Squadron_machines (host := "Plotroom") hκ (hdV hz) (hs2.1.o hq) (by decide +kernel) (Or.inl rfl) dX11_fly_122 ?_
          refine vV_v hκ hz [.ref q, .int (sI (putI (goF (headHomeF S q) q (sI (headHomeF S q) q_Place_x b) (sI (headHomeF S q) q_Place_y b)) q_Squadron_fuel q ((sI (goF (headHomeF S q) q (sI (headHomeF S q) q_Place_x b) (sI (headHomeF S q) q_Place_y b)) q_Squadron_fuel q) - 1)) q_Squadron_machines q)] sd_X11_loseMachines qw_783 (fun D cO H s hK hP => rc_Room hK hP (hs2.1.o hx)) (k_loseM e9 (putI (goF (headHomeF S q) q (sI (headHomeF S q) q_Place_x b) (sI (headHomeF S q) q_Place_y b)) q_Squadron_fuel q ((sI (goF (headHomeF S q) q (sI (headHomeF S q) q_Place_x b) (sI (headHomeF S q) q_Place_y b)) q_Squadron_fuel q) - 1)) x lo ta la el sz q (sI (putI (goF (headHomeF S q) q (sI (headHomeF S q) q_Place_x b) (sI (headHomeF S q) q_Place_y b)) q_Squadron_fuel q ((sI (goF (headHomeF S q) q (sI (headHomeF S q) q_Place_x b) (sI (headHomeF S q) q_Place_y b)) q_Squadron_fuel q) - 1)) q_Squadron_machines q) b (hT.sq hs2).rm (hs2.1.o hq) ((hs2.1.2.2 q_Squadron_base (by decide) _ hq.1).trans fb) (hs2.1.o hb)) ⟨rfl, rfl, Nat.le_of_ble_eq_true rfl, Nat.le_of_ble_eq_true rfl⟩ rfl rfl (Nat.le_of_ble_eq_true rfl) dX11_fly_125 (by omega) (by omega) (fun S15 hS15 => ?_)
          obtain rfl := hS15
          exact hend _ _ _ _ _ dX11_fly_128 (by rw [hm2]; have e9z := lm_TT (ta := ta) (l := m) hB2 (Or.inr rfl) hm12 hm2 (Nat.le_refl m); exact ⟨hs2.trans e9z.1, e9z.2.1, fun z => htk2 (e9z.2.2 z)⟩)
  · skip
    refine g_aload_n hκ 1 dX11_fly_0 rfl rfl ?_
    refine gtN_Squadron_target (host := "Plotroom") hκ (hdV hz) hq (by decide +kernel) (Or.inl rfl) dX11_fly_1 ?_
    refine g_rf ht ?_
    refine g_astore_n hκ [(2, .ref t), (0, .ref x), (1, .ref q)] dX11_fly_4 rfl (by decide) rfl ?_
    refine g_aload_n hκ 0 dX11_fly_5 rfl rfl ?_
    refine g_ifnull hκ dX11_fly_6 ?_
    refine g_aload_n hκ 0 dX11_fly_9 rfl rfl ?_
    refine gtN_Track_isLive (host := "Plotroom") hκ (hdV hz) ho (by decide +kernel) (Or.inl rfl) dX11_fly_10 ?_
    refine g_if_eq hκ 50 dX11_fly_13 (by decide) (fun c16 => ?_) (fun c16 => ?_)
    · skip
      refine g_aload_n hκ 2 dX11_fly_50 rfl rfl ?_
      refine vV_v hκ hz [] sd_X7_headHome qw_771 (fun D cO H s hK hP => rc_Squadron hK hP hq) (k_headHome e9 S q hq) ⟨rfl, rfl, Nat.le_of_ble_eq_true rfl, Nat.le_of_ble_eq_true rfl⟩ rfl rfl (Nat.le_of_ble_eq_true rfl) dX11_fly_51 (by omega) (by omega) (fun S18 hS18 => ?_)
      obtain rfl := hS18
      refine g_aload_n hκ 2 dX11_fly_54 rfl rfl ?_
      refine g_aload_n hκ 2 dX11_fly_55 rfl rfl ?_
      refine gtN_Squadron_base (host := "Plotroom") hκ (hdV hz) ((SqS.hh (ta := ta) (S := S) (q := q)).1.o hq) (by decide +kernel) (Or.inl rfl) dX11_fly_56 ?_
      refine g_rf (((SqS.hh (ta := ta) (S := S) (q := q)).1.2.2 q_Squadron_base (by decide) _ hq.1).trans fb) ?_
      refine gt_Place_x hκ (hdV hz) ((SqS.hh (ta := ta) (S := S) (q := q)).1.o hb) qw_287 (Or.inl rfl) dX11_fly_59 ?_
      refine g_aload_n hκ 2 dX11_fly_62 rfl rfl ?_
      refine gtN_Squadron_base (host := "Plotroom") hκ (hdV hz) ((SqS.hh (ta := ta) (S := S) (q := q)).1.o hq) (by decide +kernel) (Or.inl rfl) dX11_fly_63 ?_
      refine g_rf (((SqS.hh (ta := ta) (S := S) (q := q)).1.2.2 q_Squadron_base (by decide) _ hq.1).trans fb) ?_
      refine gt_Place_y hκ (hdV hz) ((SqS.hh (ta := ta) (S := S) (q := q)).1.o hb) qw_311 (Or.inl rfl) dX11_fly_66 ?_
      refine vV_v hκ hz [.int (sI (headHomeF S q) q_Place_x b), .int (sI (headHomeF S q) q_Place_y b)] sd_X7_go qw_761 (fun D cO H s hK hP => rc_Squadron hK hP ((SqS.hh (ta := ta) (S := S) (q := q)).1.o hq)) (k_go e9 (headHomeF S q) q (sI (headHomeF S q) q_Place_x b) (sI (headHomeF S q) q_Place_y b) ((SqS.hh (ta := ta) (S := S) (q := q)).1.o hq)) ⟨rfl, rfl, Nat.le_of_ble_eq_true rfl, Nat.le_of_ble_eq_true rfl⟩ rfl rfl (Nat.le_of_ble_eq_true rfl) dX11_fly_69 (by omega) (by omega) (fun S20 hS20 => ?_)
      obtain rfl := hS20
      have hs1 : SqS q ta S (goF (headHomeF S q) q (sI (headHomeF S q) q_Place_x b) (sI (headHomeF S q) q_Place_y b)) := SqS.hh.trans SqS.go
      have hm1 : sI (goF (headHomeF S q) q (sI (headHomeF S q) q_Place_x b) (sI (headHomeF S q) q_Place_y b)) q_Squadron_machines q = nI m := (goF_ch.1.2.1 q_Squadron_machines (by decide) _ ((SqS.hh (ta := ta)).1.o hq).1).trans ((hh_i (by decide)).trans hmm)
      have hst1 : sI (goF (headHomeF S q) q (sI (headHomeF S q) q_Place_x b) (sI (headHomeF S q) q_Place_y b)) q_Squadron_state q = 3 := (goF_ch.1.2.1 q_Squadron_state (by decide) _ ((SqS.hh (ta := ta)).1.o hq).1).trans hh_st
      have hpl1 := go_pl (S := headHomeF S q) (q := q) (tx := sI (headHomeF S q) q_Place_x b) (ty := sI (headHomeF S q) q_Place_y b) (by rw [hh_i (by decide), hh_i (by decide)]; exact hpl) hs5 hs20 ((hh_i (by decide)).trans hsp) (hB.st (ta := ta) SqS.hh).2.2.2.2.2
      have htg1 : sR (goF (headHomeF S q) q (sI (headHomeF S q) q_Place_x b) (sI (headHomeF S q) q_Place_y b)) q_Squadron_target q = none ∨ ∃ tz : Nat, sR (goF (headHomeF S q) q (sI (headHomeF S q) q_Place_x b) (sI (headHomeF S q) q_Place_y b)) q_Squadron_target q = some tz ∧ tz ∈ sL (goF (headHomeF S q) q (sI (headHomeF S q) q_Place_x b) (sI (headHomeF S q) q_Place_y b)) ∧ sK (goF (headHomeF S q) q (sI (headHomeF S q) q_Place_x b) (sI (headHomeF S q) q_Place_y b)) tz = 9 := Or.inl ((goF_ch.1.2.2 q_Squadron_target (by decide) _ ((SqS.hh (ta := ta)).1.o hq).1).trans hh_tg)
      have htk1 : talkB (goF (headHomeF S q) q (sI (headHomeF S q) q_Place_x b) (sI (headHomeF S q) q_Place_y b)) q = true → talkB S q = true := fun z => absurd z (fun z => talk3 hst1 z)
      have hst9 : sI (goF (headHomeF S q) q (sI (headHomeF S q) q_Place_x b) (sI (headHomeF S q) q_Place_y b)) q_Squadron_state q = 1 ∨ sI (goF (headHomeF S q) q (sI (headHomeF S q) q_Place_x b) (sI (headHomeF S q) q_Place_y b)) q_Squadron_state q = 2 ∨ sI (goF (headHomeF S q) q (sI (headHomeF S q) q_Place_x b) (sI (headHomeF S q) q_Place_y b)) q_Squadron_state q = 3 := Or.inr (Or.inr hst1)
      refine g_aload_n hκ 2 dX11_fly_72 rfl rfl ?_
      refine g_dup hκ dX11_fly_73 rfl ?_
      refine gtN_Squadron_fuel (host := "Plotroom") hκ (hdV hz) (hs1.1.o hq) (by decide +kernel) (Or.inl rfl) dX11_fly_74 ?_
      refine g_iconst hκ (v := 1) dX11_fly_77 (by decide) ?_
      refine g_isub hκ dX11_fly_78 ?_
      refine ptN_Squadron_fuel (host := "Plotroom") hκ (hs1.1.o hq) (by decide +kernel) (Or.inl rfl) dX11_fly_79 ?_
      have hs2 : SqS q ta S (putI (goF (headHomeF S q) q (sI (headHomeF S q) q_Place_x b) (sI (headHomeF S q) q_Place_y b)) q_Squadron_fuel q ((sI (goF (headHomeF S q) q (sI (headHomeF S q) q_Place_x b) (sI (headHomeF S q) q_Place_y b)) q_Squadron_fuel q) - 1)) := hs1.trans (SqS.i (by decide))
      have hm2 : sI (putI (goF (headHomeF S q) q (sI (headHomeF S q) q_Place_x b) (sI (headHomeF S q) q_Place_y b)) q_Squadron_fuel q ((sI (goF (headHomeF S q) q (sI (headHomeF S q) q_Place_x b) (sI (headHomeF S q) q_Place_y b)) q_Squadron_fuel q) - 1)) q_Squadron_machines q = nI m := (fuel_i (by decide)).trans hm1
      have hst2 : sI (putI (goF (headHomeF S q) q (sI (headHomeF S q) q_Place_x b) (sI (headHomeF S q) q_Place_y b)) q_Squadron_fuel q ((sI (goF (headHomeF S q) q (sI (headHomeF S q) q_Place_x b) (sI (headHomeF S q) q_Place_y b)) q_Squadron_fuel q) - 1)) q_Squadron_state q = 1 ∨ sI (putI (goF (headHomeF S q) q (sI (headHomeF S q) q_Place_x b) (sI (headHomeF S q) q_Place_y b)) q_Squadron_fuel q ((sI (goF (headHomeF S q) q (sI (headHomeF S q) q_Place_x b) (sI (headHomeF S q) q_Place_y b)) q_Squadron_fuel q) - 1)) q_Squadron_state q = 2 ∨ sI (putI (goF (headHomeF S q) q (sI (headHomeF S q) q_Place_x b) (sI (headHomeF S q) q_Place_y b)) q_Squadron_fuel q ((sI (goF (headHomeF S q) q (sI (headHomeF S q) q_Place_x b) (sI (headHomeF S q) q_Place_y b)) q_Squadron_fuel q) - 1)) q_Squadron_state q = 3 := by rw [fuel_i (by decide)]; exact hst9
      have htk2 : talkB (putI (goF (headHomeF S q) q (sI (headHomeF S q) q_Place_x b) (sI (headHomeF S q) q_Place_y b)) q_Squadron_fuel q ((sI (goF (headHomeF S q) q (sI (headHomeF S q) q_Place_x b) (sI (headHomeF S q) q_Place_y b)) q_Squadron_fuel q) - 1)) q = true → talkB S q = true := fun z => htk1 (by unfold talkB at z ⊢; rw [fuel_i (by decide)] at z; exact z)
      have hpl2 : isPlaceB (sI (putI (goF (headHomeF S q) q (sI (headHomeF S q) q_Place_x b) (sI (headHomeF S q) q_Place_y b)) q_Squadron_fuel q ((sI (goF (headHomeF S q) q (sI (headHomeF S q) q_Place_x b) (sI (headHomeF S q) q_Place_y b)) q_Squadron_fuel q) - 1)) q_Squadron_x q) (sI (putI (goF (headHomeF S q) q (sI (headHomeF S q) q_Place_x b) (sI (headHomeF S q) q_Place_y b)) q_Squadron_fuel q ((sI (goF (headHomeF S q) q (sI (headHomeF S q) q_Place_x b) (sI (headHomeF S q) q_Place_y b)) q_Squadron_fuel q) - 1)) q_Squadron_y q) = true := by rw [fuel_i (by decide), fuel_i (by decide)]; exact hpl1
      have htg2 : sR (putI (goF (headHomeF S q) q (sI (headHomeF S q) q_Place_x b) (sI (headHomeF S q) q_Place_y b)) q_Squadron_fuel q ((sI (goF (headHomeF S q) q (sI (headHomeF S q) q_Place_x b) (sI (headHomeF S q) q_Place_y b)) q_Squadron_fuel q) - 1)) q_Squadron_target q = none ∨ ∃ tz : Nat, sR (putI (goF (headHomeF S q) q (sI (headHomeF S q) q_Place_x b) (sI (headHomeF S q) q_Place_y b)) q_Squadron_fuel q ((sI (goF (headHomeF S q) q (sI (headHomeF S q) q_Place_x b) (sI (headHomeF S q) q_Place_y b)) q_Squadron_fuel q) - 1)) q_Squadron_target q = some tz ∧ tz ∈ sL (putI (goF (headHomeF S q) q (sI (headHomeF S q) q_Place_x b) (sI (headHomeF S q) q_Place_y b)) q_Squadron_fuel q ((sI (goF (headHomeF S q) q (sI (headHomeF S q) q_Place_x b) (sI (headHomeF S q) q_Place_y b)) q_Squadron_fuel q) - 1)) ∧ sK (putI (goF (headHomeF S q) q (sI (headHomeF S q) q_Place_x b) (sI (headHomeF S q) q_Place_y b)) q_Squadron_fuel q ((sI (goF (headHomeF S q) q (sI (headHomeF S q) q_Place_x b) (sI (headHomeF S q) q_Place_y b)) q_Squadron_fuel q) - 1)) tz = 9 := htg1
      have hB2 := hB.st hs2
      refine g_aload_n hκ 2 dX11_fly_82 rfl rfl ?_
      refine gtN_Squadron_state (host := "Plotroom") hκ (hdV hz) (hs2.1.o hq) (by decide +kernel) (Or.inl rfl) dX11_fly_83 ?_
      refine g_iconst hκ (v := 3) dX11_fly_86 (by decide) ?_
      refine g_icmp_ne hκ 112 dX11_fly_87 (by decide) (fun c21 => ?_) (fun c21 => ?_)
      · skip
        refine g_aload_n hκ 2 dX11_fly_112 rfl rfl ?_
        refine gtN_Squadron_fuel (host := "Plotroom") hκ (hdV hz) (hs2.1.o hq) (by decide +kernel) (Or.inl rfl) dX11_fly_113 ?_
        refine g_if_gt hκ 128 dX11_fly_116 (by decide) (fun c22 => ?_) (fun c22 => ?_)
        · skip
          exact hend _ _ _ _ _ dX11_fly_128 (⟨hs2, sq_mk hB2 hm12 hm2 hm0 hst2 c22 hpl2 htg2, htk2⟩)
        · skip
          refine g_aload_n hκ 1 dX11_fly_119 rfl rfl ?_
          refine g_aload_n hκ 2 dX11_fly_120 rfl rfl ?_
          refine g_aload_n hκ 2 dX11_fly_121 rfl rfl ?_
          refine gtN_Squadron_machines (host := "Plotroom") hκ (hdV hz) (hs2.1.o hq) (by decide +kernel) (Or.inl rfl) dX11_fly_122 ?_
          refine vV_v hκ hz [.ref q, .int (sI (putI (goF (headHomeF S q) q (sI (headHomeF S q) q_Place_x b) (sI (headHomeF S q) q_Place_y b)) q_Squadron_fuel q ((sI (goF (headHomeF S q) q (sI (headHomeF S q) q_Place_x b) (sI (headHomeF S q) q_Place_y b)) q_Squadron_fuel q) - 1)) q_Squadron_machines q)] sd_X11_loseMachines qw_783 (fun D cO H s hK hP => rc_Room hK hP (hs2.1.o hx)) (k_loseM e9 (putI (goF (headHomeF S q) q (sI (headHomeF S q) q_Place_x b) (sI (headHomeF S q) q_Place_y b)) q_Squadron_fuel q ((sI (goF (headHomeF S q) q (sI (headHomeF S q) q_Place_x b) (sI (headHomeF S q) q_Place_y b)) q_Squadron_fuel q) - 1)) x lo ta la el sz q (sI (putI (goF (headHomeF S q) q (sI (headHomeF S q) q_Place_x b) (sI (headHomeF S q) q_Place_y b)) q_Squadron_fuel q ((sI (goF (headHomeF S q) q (sI (headHomeF S q) q_Place_x b) (sI (headHomeF S q) q_Place_y b)) q_Squadron_fuel q) - 1)) q_Squadron_machines q) b (hT.sq hs2).rm (hs2.1.o hq) ((hs2.1.2.2 q_Squadron_base (by decide) _ hq.1).trans fb) (hs2.1.o hb)) ⟨rfl, rfl, Nat.le_of_ble_eq_true rfl, Nat.le_of_ble_eq_true rfl⟩ rfl rfl (Nat.le_of_ble_eq_true rfl) dX11_fly_125 (by omega) (by omega) (fun S24 hS24 => ?_)
          obtain rfl := hS24
          exact hend _ _ _ _ _ dX11_fly_128 (by rw [hm2]; have e9z := lm_TT (ta := ta) (l := m) hB2 (Or.inr rfl) hm12 hm2 (Nat.le_refl m); exact ⟨hs2.trans e9z.1, e9z.2.1, fun z => htk2 (e9z.2.2 z)⟩)
      · skip
        refine g_aload_n hκ 2 dX11_fly_90 rfl rfl ?_
        refine rV_i hκ (hdV hz) [] sd_X7_isAtBase qw_775 (fun D cO H s hK hP => rc_Squadron hK hP (hs2.1.o hq)) (k_isAtBase (putI (goF (headHomeF S q) q (sI (headHomeF S q) q_Place_x b) (sI (headHomeF S q) q_Place_y b)) q_Squadron_fuel q ((sI (goF (headHomeF S q) q (sI (headHomeF S q) q_Place_x b) (sI (headHomeF S q) q_Place_y b)) q_Squadron_fuel q) - 1)) q b (hs2.1.o hq) ((hs2.1.2.2 q_Squadron_base (by decide) _ hq.1).trans fb) (hs2.1.o hb)) ⟨rfl, rfl, Nat.le_of_ble_eq_true rfl, Nat.le_of_ble_eq_true rfl⟩ rfl rfl (Nat.le_of_ble_eq_true rfl) dX11_fly_91 (fun r25 hr25 => ?_)
        obtain ⟨b26, rfl⟩ | ⟨b26, rfl⟩ := zb_cases hr25
        · skip
          refine g_if_eq hκ 112 dX11_fly_94 (by decide) (fun z => absurd z (by decide)) (fun _ => ?_)
          refine g_aload_n hκ 2 dX11_fly_97 rfl rfl ?_
          refine g_iconst hκ (v := 4) dX11_fly_98 (by decide) ?_
          refine g_aload_n hκ 1 dX11_fly_99 rfl rfl ?_
          refine gt_Room_minute hκ (hdV hz) (hs2.1.o hx) qw_118 (Or.inl rfl) dX11_fly_100 ?_
          refine g_bipush hκ (v := 12) dX11_fly_103 (by decide) ?_
          refine g_iadd hκ dX11_fly_105 ?_
          refine vV_v hκ hz [.int 4, .int ((sI (putI (goF (headHomeF S q) q (sI (headHomeF S q) q_Place_x b) (sI (headHomeF S q) q_Place_y b)) q_Squadron_fuel q ((sI (goF (headHomeF S q) q (sI (headHomeF S q) q_Place_x b) (sI (headHomeF S q) q_Place_y b)) q_Squadron_fuel q) - 1)) q_Room_minute x) + 12)] sd_X7_rest qw_779 (fun D cO H s hK hP => rc_Squadron hK hP (hs2.1.o hq)) (k_rest e9 (putI (goF (headHomeF S q) q (sI (headHomeF S q) q_Place_x b) (sI (headHomeF S q) q_Place_y b)) q_Squadron_fuel q ((sI (goF (headHomeF S q) q (sI (headHomeF S q) q_Place_x b) (sI (headHomeF S q) q_Place_y b)) q_Squadron_fuel q) - 1)) q 4 ((sI (putI (goF (headHomeF S q) q (sI (headHomeF S q) q_Place_x b) (sI (headHomeF S q) q_Place_y b)) q_Squadron_fuel q ((sI (goF (headHomeF S q) q (sI (headHomeF S q) q_Place_x b) (sI (headHomeF S q) q_Place_y b)) q_Squadron_fuel q) - 1)) q_Room_minute x) + 12) b (hs2.1.o hq) ((hs2.1.2.2 q_Squadron_base (by decide) _ hq.1).trans fb) (hs2.1.o hb)) ⟨rfl, rfl, Nat.le_of_ble_eq_true rfl, Nat.le_of_ble_eq_true rfl⟩ rfl rfl (Nat.le_of_ble_eq_true rfl) dX11_fly_106 (by omega) (by omega) (fun S28 hS28 => ?_)
          obtain rfl := hS28
          refine g_goto hκ 128 dX11_fly_109 (by decide) ?_
          exact hend _ _ _ _ _ dX11_fly_128 (⟨hs2.trans SqS.rest, rest_sq hB2 hm12 hm2 (Or.inr rfl), fun z => absurd z (fun z => rest_talk (Or.inr rfl) z)⟩)
        · skip
          refine g_if_eq hκ 112 dX11_fly_94 (by decide) (fun _ => ?_) (fun z => absurd z (by decide))
          refine g_aload_n hκ 2 dX11_fly_112 rfl rfl ?_
          refine gtN_Squadron_fuel (host := "Plotroom") hκ (hdV hz) (hs2.1.o hq) (by decide +kernel) (Or.inl rfl) dX11_fly_113 ?_
          refine g_if_gt hκ 128 dX11_fly_116 (by decide) (fun c29 => ?_) (fun c29 => ?_)
          · skip
            exact hend _ _ _ _ _ dX11_fly_128 (⟨hs2, sq_mk hB2 hm12 hm2 hm0 hst2 c29 hpl2 htg2, htk2⟩)
          · skip
            refine g_aload_n hκ 1 dX11_fly_119 rfl rfl ?_
            refine g_aload_n hκ 2 dX11_fly_120 rfl rfl ?_
            refine g_aload_n hκ 2 dX11_fly_121 rfl rfl ?_
            refine gtN_Squadron_machines (host := "Plotroom") hκ (hdV hz) (hs2.1.o hq) (by decide +kernel) (Or.inl rfl) dX11_fly_122 ?_
            refine vV_v hκ hz [.ref q, .int (sI (putI (goF (headHomeF S q) q (sI (headHomeF S q) q_Place_x b) (sI (headHomeF S q) q_Place_y b)) q_Squadron_fuel q ((sI (goF (headHomeF S q) q (sI (headHomeF S q) q_Place_x b) (sI (headHomeF S q) q_Place_y b)) q_Squadron_fuel q) - 1)) q_Squadron_machines q)] sd_X11_loseMachines qw_783 (fun D cO H s hK hP => rc_Room hK hP (hs2.1.o hx)) (k_loseM e9 (putI (goF (headHomeF S q) q (sI (headHomeF S q) q_Place_x b) (sI (headHomeF S q) q_Place_y b)) q_Squadron_fuel q ((sI (goF (headHomeF S q) q (sI (headHomeF S q) q_Place_x b) (sI (headHomeF S q) q_Place_y b)) q_Squadron_fuel q) - 1)) x lo ta la el sz q (sI (putI (goF (headHomeF S q) q (sI (headHomeF S q) q_Place_x b) (sI (headHomeF S q) q_Place_y b)) q_Squadron_fuel q ((sI (goF (headHomeF S q) q (sI (headHomeF S q) q_Place_x b) (sI (headHomeF S q) q_Place_y b)) q_Squadron_fuel q) - 1)) q_Squadron_machines q) b (hT.sq hs2).rm (hs2.1.o hq) ((hs2.1.2.2 q_Squadron_base (by decide) _ hq.1).trans fb) (hs2.1.o hb)) ⟨rfl, rfl, Nat.le_of_ble_eq_true rfl, Nat.le_of_ble_eq_true rfl⟩ rfl rfl (Nat.le_of_ble_eq_true rfl) dX11_fly_125 (by omega) (by omega) (fun S31 hS31 => ?_)
            obtain rfl := hS31
            exact hend _ _ _ _ _ dX11_fly_128 (by rw [hm2]; have e9z := lm_TT (ta := ta) (l := m) hB2 (Or.inr rfl) hm12 hm2 (Nat.le_refl m); exact ⟨hs2.trans e9z.1, e9z.2.1, fun z => htk2 (e9z.2.2 z)⟩)
    · skip
      refine g_aload_n hκ 2 dX11_fly_16 rfl rfl ?_
      refine gtN_Squadron_fuel (host := "Plotroom") hκ (hdV hz) hq (by decide +kernel) (Or.inl rfl) dX11_fly_17 ?_
      refine g_aload_n hκ 2 dX11_fly_20 rfl rfl ?_
      refine rV_i hκ (hdV hz) [] sd_X7_minutesBack qw_754 (fun D cO H s hK hP => rc_Squadron hK hP hq) (k_minutesBack S q b hq fb hb) ⟨rfl, rfl, Nat.le_of_ble_eq_true rfl, Nat.le_of_ble_eq_true rfl⟩ rfl rfl (Nat.le_of_ble_eq_true rfl) dX11_fly_21 (fun r32 hr32 => ?_)
      refine g_eqi hr32 ?_
      refine g_icmp_le hκ 50 dX11_fly_24 (by decide) (fun c33 => ?_) (fun c33 => ?_)
      · skip
        refine g_aload_n hκ 2 dX11_fly_50 rfl rfl ?_
        refine vV_v hκ hz [] sd_X7_headHome qw_771 (fun D cO H s hK hP => rc_Squadron hK hP hq) (k_headHome e9 S q hq) ⟨rfl, rfl, Nat.le_of_ble_eq_true rfl, Nat.le_of_ble_eq_true rfl⟩ rfl rfl (Nat.le_of_ble_eq_true rfl) dX11_fly_51 (by omega) (by omega) (fun S35 hS35 => ?_)
        obtain rfl := hS35
        refine g_aload_n hκ 2 dX11_fly_54 rfl rfl ?_
        refine g_aload_n hκ 2 dX11_fly_55 rfl rfl ?_
        refine gtN_Squadron_base (host := "Plotroom") hκ (hdV hz) ((SqS.hh (ta := ta) (S := S) (q := q)).1.o hq) (by decide +kernel) (Or.inl rfl) dX11_fly_56 ?_
        refine g_rf (((SqS.hh (ta := ta) (S := S) (q := q)).1.2.2 q_Squadron_base (by decide) _ hq.1).trans fb) ?_
        refine gt_Place_x hκ (hdV hz) ((SqS.hh (ta := ta) (S := S) (q := q)).1.o hb) qw_287 (Or.inl rfl) dX11_fly_59 ?_
        refine g_aload_n hκ 2 dX11_fly_62 rfl rfl ?_
        refine gtN_Squadron_base (host := "Plotroom") hκ (hdV hz) ((SqS.hh (ta := ta) (S := S) (q := q)).1.o hq) (by decide +kernel) (Or.inl rfl) dX11_fly_63 ?_
        refine g_rf (((SqS.hh (ta := ta) (S := S) (q := q)).1.2.2 q_Squadron_base (by decide) _ hq.1).trans fb) ?_
        refine gt_Place_y hκ (hdV hz) ((SqS.hh (ta := ta) (S := S) (q := q)).1.o hb) qw_311 (Or.inl rfl) dX11_fly_66 ?_
        refine vV_v hκ hz [.int (sI (headHomeF S q) q_Place_x b), .int (sI (headHomeF S q) q_Place_y b)] sd_X7_go qw_761 (fun D cO H s hK hP => rc_Squadron hK hP ((SqS.hh (ta := ta) (S := S) (q := q)).1.o hq)) (k_go e9 (headHomeF S q) q (sI (headHomeF S q) q_Place_x b) (sI (headHomeF S q) q_Place_y b) ((SqS.hh (ta := ta) (S := S) (q := q)).1.o hq)) ⟨rfl, rfl, Nat.le_of_ble_eq_true rfl, Nat.le_of_ble_eq_true rfl⟩ rfl rfl (Nat.le_of_ble_eq_true rfl) dX11_fly_69 (by omega) (by omega) (fun S37 hS37 => ?_)
        obtain rfl := hS37
        have hs1 : SqS q ta S (goF (headHomeF S q) q (sI (headHomeF S q) q_Place_x b) (sI (headHomeF S q) q_Place_y b)) := SqS.hh.trans SqS.go
        have hm1 : sI (goF (headHomeF S q) q (sI (headHomeF S q) q_Place_x b) (sI (headHomeF S q) q_Place_y b)) q_Squadron_machines q = nI m := (goF_ch.1.2.1 q_Squadron_machines (by decide) _ ((SqS.hh (ta := ta)).1.o hq).1).trans ((hh_i (by decide)).trans hmm)
        have hst1 : sI (goF (headHomeF S q) q (sI (headHomeF S q) q_Place_x b) (sI (headHomeF S q) q_Place_y b)) q_Squadron_state q = 3 := (goF_ch.1.2.1 q_Squadron_state (by decide) _ ((SqS.hh (ta := ta)).1.o hq).1).trans hh_st
        have hpl1 := go_pl (S := headHomeF S q) (q := q) (tx := sI (headHomeF S q) q_Place_x b) (ty := sI (headHomeF S q) q_Place_y b) (by rw [hh_i (by decide), hh_i (by decide)]; exact hpl) hs5 hs20 ((hh_i (by decide)).trans hsp) (hB.st (ta := ta) SqS.hh).2.2.2.2.2
        have htg1 : sR (goF (headHomeF S q) q (sI (headHomeF S q) q_Place_x b) (sI (headHomeF S q) q_Place_y b)) q_Squadron_target q = none ∨ ∃ tz : Nat, sR (goF (headHomeF S q) q (sI (headHomeF S q) q_Place_x b) (sI (headHomeF S q) q_Place_y b)) q_Squadron_target q = some tz ∧ tz ∈ sL (goF (headHomeF S q) q (sI (headHomeF S q) q_Place_x b) (sI (headHomeF S q) q_Place_y b)) ∧ sK (goF (headHomeF S q) q (sI (headHomeF S q) q_Place_x b) (sI (headHomeF S q) q_Place_y b)) tz = 9 := Or.inl ((goF_ch.1.2.2 q_Squadron_target (by decide) _ ((SqS.hh (ta := ta)).1.o hq).1).trans hh_tg)
        have htk1 : talkB (goF (headHomeF S q) q (sI (headHomeF S q) q_Place_x b) (sI (headHomeF S q) q_Place_y b)) q = true → talkB S q = true := fun z => absurd z (fun z => talk3 hst1 z)
        have hst9 : sI (goF (headHomeF S q) q (sI (headHomeF S q) q_Place_x b) (sI (headHomeF S q) q_Place_y b)) q_Squadron_state q = 1 ∨ sI (goF (headHomeF S q) q (sI (headHomeF S q) q_Place_x b) (sI (headHomeF S q) q_Place_y b)) q_Squadron_state q = 2 ∨ sI (goF (headHomeF S q) q (sI (headHomeF S q) q_Place_x b) (sI (headHomeF S q) q_Place_y b)) q_Squadron_state q = 3 := Or.inr (Or.inr hst1)
        refine g_aload_n hκ 2 dX11_fly_72 rfl rfl ?_
        refine g_dup hκ dX11_fly_73 rfl ?_
        refine gtN_Squadron_fuel (host := "Plotroom") hκ (hdV hz) (hs1.1.o hq) (by decide +kernel) (Or.inl rfl) dX11_fly_74 ?_
        refine g_iconst hκ (v := 1) dX11_fly_77 (by decide) ?_
        refine g_isub hκ dX11_fly_78 ?_
        refine ptN_Squadron_fuel (host := "Plotroom") hκ (hs1.1.o hq) (by decide +kernel) (Or.inl rfl) dX11_fly_79 ?_
        have hs2 : SqS q ta S (putI (goF (headHomeF S q) q (sI (headHomeF S q) q_Place_x b) (sI (headHomeF S q) q_Place_y b)) q_Squadron_fuel q ((sI (goF (headHomeF S q) q (sI (headHomeF S q) q_Place_x b) (sI (headHomeF S q) q_Place_y b)) q_Squadron_fuel q) - 1)) := hs1.trans (SqS.i (by decide))
        have hm2 : sI (putI (goF (headHomeF S q) q (sI (headHomeF S q) q_Place_x b) (sI (headHomeF S q) q_Place_y b)) q_Squadron_fuel q ((sI (goF (headHomeF S q) q (sI (headHomeF S q) q_Place_x b) (sI (headHomeF S q) q_Place_y b)) q_Squadron_fuel q) - 1)) q_Squadron_machines q = nI m := (fuel_i (by decide)).trans hm1
        have hst2 : sI (putI (goF (headHomeF S q) q (sI (headHomeF S q) q_Place_x b) (sI (headHomeF S q) q_Place_y b)) q_Squadron_fuel q ((sI (goF (headHomeF S q) q (sI (headHomeF S q) q_Place_x b) (sI (headHomeF S q) q_Place_y b)) q_Squadron_fuel q) - 1)) q_Squadron_state q = 1 ∨ sI (putI (goF (headHomeF S q) q (sI (headHomeF S q) q_Place_x b) (sI (headHomeF S q) q_Place_y b)) q_Squadron_fuel q ((sI (goF (headHomeF S q) q (sI (headHomeF S q) q_Place_x b) (sI (headHomeF S q) q_Place_y b)) q_Squadron_fuel q) - 1)) q_Squadron_state q = 2 ∨ sI (putI (goF (headHomeF S q) q (sI (headHomeF S q) q_Place_x b) (sI (headHomeF S q) q_Place_y b)) q_Squadron_fuel q ((sI (goF (headHomeF S q) q (sI (headHomeF S q) q_Place_x b) (sI (headHomeF S q) q_Place_y b)) q_Squadron_fuel q) - 1)) q_Squadron_state q = 3 := by rw [fuel_i (by decide)]; exact hst9
        have htk2 : talkB (putI (goF (headHomeF S q) q (sI (headHomeF S q) q_Place_x b) (sI (headHomeF S q) q_Place_y b)) q_Squadron_fuel q ((sI (goF (headHomeF S q) q (sI (headHomeF S q) q_Place_x b) (sI (headHomeF S q) q_Place_y b)) q_Squadron_fuel q) - 1)) q = true → talkB S q = true := fun z => htk1 (by unfold talkB at z ⊢; rw [fuel_i (by decide)] at z; exact z)
        have hpl2 : isPlaceB (sI (putI (goF (headHomeF S q) q (sI (headHomeF S q) q_Place_x b) (sI (headHomeF S q) q_Place_y b)) q_Squadron_fuel q ((sI (goF (headHomeF S q) q (sI (headHomeF S q) q_Place_x b) (sI (headHomeF S q) q_Place_y b)) q_Squadron_fuel q) - 1)) q_Squadron_x q) (sI (putI (goF (headHomeF S q) q (sI (headHomeF S q) q_Place_x b) (sI (headHomeF S q) q_Place_y b)) q_Squadron_fuel q ((sI (goF (headHomeF S q) q (sI (headHomeF S q) q_Place_x b) (sI (headHomeF S q) q_Place_y b)) q_Squadron_fuel q) - 1)) q_Squadron_y q) = true := by rw [fuel_i (by decide), fuel_i (by decide)]; exact hpl1
        have htg2 : sR (putI (goF (headHomeF S q) q (sI (headHomeF S q) q_Place_x b) (sI (headHomeF S q) q_Place_y b)) q_Squadron_fuel q ((sI (goF (headHomeF S q) q (sI (headHomeF S q) q_Place_x b) (sI (headHomeF S q) q_Place_y b)) q_Squadron_fuel q) - 1)) q_Squadron_target q = none ∨ ∃ tz : Nat, sR (putI (goF (headHomeF S q) q (sI (headHomeF S q) q_Place_x b) (sI (headHomeF S q) q_Place_y b)) q_Squadron_fuel q ((sI (goF (headHomeF S q) q (sI (headHomeF S q) q_Place_x b) (sI (headHomeF S q) q_Place_y b)) q_Squadron_fuel q) - 1)) q_Squadron_target q = some tz ∧ tz ∈ sL (putI (goF (headHomeF S q) q (sI (headHomeF S q) q_Place_x b) (sI (headHomeF S q) q_Place_y b)) q_Squadron_fuel q ((sI (goF (headHomeF S q) q (sI (headHomeF S q) q_Place_x b) (sI (headHomeF S q) q_Place_y b)) q_Squadron_fuel q) - 1)) ∧ sK (putI (goF (headHomeF S q) q (sI (headHomeF S q) q_Place_x b) (sI (headHomeF S q) q_Place_y b)) q_Squadron_fuel q ((sI (goF (headHomeF S q) q (sI (headHomeF S q) q_Place_x b) (sI (headHomeF S q) q_Place_y b)) q_Squadron_fuel q) - 1)) tz = 9 := htg1
        have hB2 := hB.st hs2
        refine g_aload_n hκ 2 dX11_fly_82 rfl rfl ?_
        refine gtN_Squadron_state (host := "Plotroom") hκ (hdV hz) (hs2.1.o hq) (by decide +kernel) (Or.inl rfl) dX11_fly_83 ?_
        refine g_iconst hκ (v := 3) dX11_fly_86 (by decide) ?_
        refine g_icmp_ne hκ 112 dX11_fly_87 (by decide) (fun c38 => ?_) (fun c38 => ?_)
        · skip
          refine g_aload_n hκ 2 dX11_fly_112 rfl rfl ?_
          refine gtN_Squadron_fuel (host := "Plotroom") hκ (hdV hz) (hs2.1.o hq) (by decide +kernel) (Or.inl rfl) dX11_fly_113 ?_
          refine g_if_gt hκ 128 dX11_fly_116 (by decide) (fun c39 => ?_) (fun c39 => ?_)
          · skip
            exact hend _ _ _ _ _ dX11_fly_128 (⟨hs2, sq_mk hB2 hm12 hm2 hm0 hst2 c39 hpl2 htg2, htk2⟩)
          · skip
            refine g_aload_n hκ 1 dX11_fly_119 rfl rfl ?_
            refine g_aload_n hκ 2 dX11_fly_120 rfl rfl ?_
            refine g_aload_n hκ 2 dX11_fly_121 rfl rfl ?_
            refine gtN_Squadron_machines (host := "Plotroom") hκ (hdV hz) (hs2.1.o hq) (by decide +kernel) (Or.inl rfl) dX11_fly_122 ?_
            refine vV_v hκ hz [.ref q, .int (sI (putI (goF (headHomeF S q) q (sI (headHomeF S q) q_Place_x b) (sI (headHomeF S q) q_Place_y b)) q_Squadron_fuel q ((sI (goF (headHomeF S q) q (sI (headHomeF S q) q_Place_x b) (sI (headHomeF S q) q_Place_y b)) q_Squadron_fuel q) - 1)) q_Squadron_machines q)] sd_X11_loseMachines qw_783 (fun D cO H s hK hP => rc_Room hK hP (hs2.1.o hx)) (k_loseM e9 (putI (goF (headHomeF S q) q (sI (headHomeF S q) q_Place_x b) (sI (headHomeF S q) q_Place_y b)) q_Squadron_fuel q ((sI (goF (headHomeF S q) q (sI (headHomeF S q) q_Place_x b) (sI (headHomeF S q) q_Place_y b)) q_Squadron_fuel q) - 1)) x lo ta la el sz q (sI (putI (goF (headHomeF S q) q (sI (headHomeF S q) q_Place_x b) (sI (headHomeF S q) q_Place_y b)) q_Squadron_fuel q ((sI (goF (headHomeF S q) q (sI (headHomeF S q) q_Place_x b) (sI (headHomeF S q) q_Place_y b)) q_Squadron_fuel q) - 1)) q_Squadron_machines q) b (hT.sq hs2).rm (hs2.1.o hq) ((hs2.1.2.2 q_Squadron_base (by decide) _ hq.1).trans fb) (hs2.1.o hb)) ⟨rfl, rfl, Nat.le_of_ble_eq_true rfl, Nat.le_of_ble_eq_true rfl⟩ rfl rfl (Nat.le_of_ble_eq_true rfl) dX11_fly_125 (by omega) (by omega) (fun S41 hS41 => ?_)
            obtain rfl := hS41
            exact hend _ _ _ _ _ dX11_fly_128 (by rw [hm2]; have e9z := lm_TT (ta := ta) (l := m) hB2 (Or.inr rfl) hm12 hm2 (Nat.le_refl m); exact ⟨hs2.trans e9z.1, e9z.2.1, fun z => htk2 (e9z.2.2 z)⟩)
        · skip
          refine g_aload_n hκ 2 dX11_fly_90 rfl rfl ?_
          refine rV_i hκ (hdV hz) [] sd_X7_isAtBase qw_775 (fun D cO H s hK hP => rc_Squadron hK hP (hs2.1.o hq)) (k_isAtBase (putI (goF (headHomeF S q) q (sI (headHomeF S q) q_Place_x b) (sI (headHomeF S q) q_Place_y b)) q_Squadron_fuel q ((sI (goF (headHomeF S q) q (sI (headHomeF S q) q_Place_x b) (sI (headHomeF S q) q_Place_y b)) q_Squadron_fuel q) - 1)) q b (hs2.1.o hq) ((hs2.1.2.2 q_Squadron_base (by decide) _ hq.1).trans fb) (hs2.1.o hb)) ⟨rfl, rfl, Nat.le_of_ble_eq_true rfl, Nat.le_of_ble_eq_true rfl⟩ rfl rfl (Nat.le_of_ble_eq_true rfl) dX11_fly_91 (fun r42 hr42 => ?_)
          obtain ⟨b43, rfl⟩ | ⟨b43, rfl⟩ := zb_cases hr42
          · skip
            refine g_if_eq hκ 112 dX11_fly_94 (by decide) (fun z => absurd z (by decide)) (fun _ => ?_)
            refine g_aload_n hκ 2 dX11_fly_97 rfl rfl ?_
            refine g_iconst hκ (v := 4) dX11_fly_98 (by decide) ?_
            refine g_aload_n hκ 1 dX11_fly_99 rfl rfl ?_
            refine gt_Room_minute hκ (hdV hz) (hs2.1.o hx) qw_118 (Or.inl rfl) dX11_fly_100 ?_
            refine g_bipush hκ (v := 12) dX11_fly_103 (by decide) ?_
            refine g_iadd hκ dX11_fly_105 ?_
            refine vV_v hκ hz [.int 4, .int ((sI (putI (goF (headHomeF S q) q (sI (headHomeF S q) q_Place_x b) (sI (headHomeF S q) q_Place_y b)) q_Squadron_fuel q ((sI (goF (headHomeF S q) q (sI (headHomeF S q) q_Place_x b) (sI (headHomeF S q) q_Place_y b)) q_Squadron_fuel q) - 1)) q_Room_minute x) + 12)] sd_X7_rest qw_779 (fun D cO H s hK hP => rc_Squadron hK hP (hs2.1.o hq)) (k_rest e9 (putI (goF (headHomeF S q) q (sI (headHomeF S q) q_Place_x b) (sI (headHomeF S q) q_Place_y b)) q_Squadron_fuel q ((sI (goF (headHomeF S q) q (sI (headHomeF S q) q_Place_x b) (sI (headHomeF S q) q_Place_y b)) q_Squadron_fuel q) - 1)) q 4 ((sI (putI (goF (headHomeF S q) q (sI (headHomeF S q) q_Place_x b) (sI (headHomeF S q) q_Place_y b)) q_Squadron_fuel q ((sI (goF (headHomeF S q) q (sI (headHomeF S q) q_Place_x b) (sI (headHomeF S q) q_Place_y b)) q_Squadron_fuel q) - 1)) q_Room_minute x) + 12) b (hs2.1.o hq) ((hs2.1.2.2 q_Squadron_base (by decide) _ hq.1).trans fb) (hs2.1.o hb)) ⟨rfl, rfl, Nat.le_of_ble_eq_true rfl, Nat.le_of_ble_eq_true rfl⟩ rfl rfl (Nat.le_of_ble_eq_true rfl) dX11_fly_106 (by omega) (by omega) (fun S45 hS45 => ?_)
            obtain rfl := hS45
            refine g_goto hκ 128 dX11_fly_109 (by decide) ?_
            exact hend _ _ _ _ _ dX11_fly_128 (⟨hs2.trans SqS.rest, rest_sq hB2 hm12 hm2 (Or.inr rfl), fun z => absurd z (fun z => rest_talk (Or.inr rfl) z)⟩)
          · skip
            refine g_if_eq hκ 112 dX11_fly_94 (by decide) (fun _ => ?_) (fun z => absurd z (by decide))
            refine g_aload_n hκ 2 dX11_fly_112 rfl rfl ?_
            refine gtN_Squadron_fuel (host := "Plotroom") hκ (hdV hz) (hs2.1.o hq) (by decide +kernel) (Or.inl rfl) dX11_fly_113 ?_
            refine g_if_gt hκ 128 dX11_fly_116 (by decide) (fun c46 => ?_) (fun c46 => ?_)
            · skip
              exact hend _ _ _ _ _ dX11_fly_128 (⟨hs2, sq_mk hB2 hm12 hm2 hm0 hst2 c46 hpl2 htg2, htk2⟩)
            · skip
              refine g_aload_n hκ 1 dX11_fly_119 rfl rfl ?_
              refine g_aload_n hκ 2 dX11_fly_120 rfl rfl ?_
              refine g_aload_n hκ 2 dX11_fly_121 rfl rfl ?_
              refine gtN_Squadron_machines (host := "Plotroom") hκ (hdV hz) (hs2.1.o hq) (by decide +kernel) (Or.inl rfl) dX11_fly_122 ?_
              refine vV_v hκ hz [.ref q, .int (sI (putI (goF (headHomeF S q) q (sI (headHomeF S q) q_Place_x b) (sI (headHomeF S q) q_Place_y b)) q_Squadron_fuel q ((sI (goF (headHomeF S q) q (sI (headHomeF S q) q_Place_x b) (sI (headHomeF S q) q_Place_y b)) q_Squadron_fuel q) - 1)) q_Squadron_machines q)] sd_X11_loseMachines qw_783 (fun D cO H s hK hP => rc_Room hK hP (hs2.1.o hx)) (k_loseM e9 (putI (goF (headHomeF S q) q (sI (headHomeF S q) q_Place_x b) (sI (headHomeF S q) q_Place_y b)) q_Squadron_fuel q ((sI (goF (headHomeF S q) q (sI (headHomeF S q) q_Place_x b) (sI (headHomeF S q) q_Place_y b)) q_Squadron_fuel q) - 1)) x lo ta la el sz q (sI (putI (goF (headHomeF S q) q (sI (headHomeF S q) q_Place_x b) (sI (headHomeF S q) q_Place_y b)) q_Squadron_fuel q ((sI (goF (headHomeF S q) q (sI (headHomeF S q) q_Place_x b) (sI (headHomeF S q) q_Place_y b)) q_Squadron_fuel q) - 1)) q_Squadron_machines q) b (hT.sq hs2).rm (hs2.1.o hq) ((hs2.1.2.2 q_Squadron_base (by decide) _ hq.1).trans fb) (hs2.1.o hb)) ⟨rfl, rfl, Nat.le_of_ble_eq_true rfl, Nat.le_of_ble_eq_true rfl⟩ rfl rfl (Nat.le_of_ble_eq_true rfl) dX11_fly_125 (by omega) (by omega) (fun S48 hS48 => ?_)
              obtain rfl := hS48
              exact hend _ _ _ _ _ dX11_fly_128 (by rw [hm2]; have e9z := lm_TT (ta := ta) (l := m) hB2 (Or.inr rfl) hm12 hm2 (Nat.le_refl m); exact ⟨hs2.trans e9z.1, e9z.2.1, fun z => htk2 (e9z.2.2 z)⟩)
      · skip
        refine g_aload_n hκ 2 dX11_fly_27 rfl rfl ?_
        refine g_aload_n hκ 0 dX11_fly_28 rfl rfl ?_
        refine g_aload_n hκ 1 dX11_fly_29 rfl rfl ?_
        refine gt_Room_minute hκ (hdV hz) hx qw_118 (Or.inl rfl) dX11_fly_30 ?_
        refine rV_i hκ (hdV hz) [.int (sI S q_Room_minute x)] sd_X10_xAt qw_676 (fun D cO H s hK hP => rc_Track hK hP ho) (k_xAt S t (sI S q_Room_minute x) ho) ⟨rfl, rfl, Nat.le_of_ble_eq_true rfl, Nat.le_of_ble_eq_true rfl⟩ rfl rfl (Nat.le_of_ble_eq_true rfl) dX11_fly_33 (fun r49 hr49 => ?_)
        refine g_eqi hr49 ?_
        refine g_aload_n hκ 0 dX11_fly_36 rfl rfl ?_
        refine g_aload_n hκ 1 dX11_fly_37 rfl rfl ?_
        refine gt_Room_minute hκ (hdV hz) hx qw_118 (Or.inl rfl) dX11_fly_38 ?_
        refine rV_i hκ (hdV hz) [.int (sI S q_Room_minute x)] sd_X10_yAt qw_681 (fun D cO H s hK hP => rc_Track hK hP ho) (k_yAt S t (sI S q_Room_minute x) ho) ⟨rfl, rfl, Nat.le_of_ble_eq_true rfl, Nat.le_of_ble_eq_true rfl⟩ rfl rfl (Nat.le_of_ble_eq_true rfl) dX11_fly_41 (fun r50 hr50 => ?_)
        refine g_eqi hr50 ?_
        refine vV_v hκ hz [.int (xAtF S t (sI S q_Room_minute x)), .int (yAtF S t (sI S q_Room_minute x))] sd_X7_go qw_761 (fun D cO H s hK hP => rc_Squadron hK hP hq) (k_go e9 S q (xAtF S t (sI S q_Room_minute x)) (yAtF S t (sI S q_Room_minute x)) hq) ⟨rfl, rfl, Nat.le_of_ble_eq_true rfl, Nat.le_of_ble_eq_true rfl⟩ rfl rfl (Nat.le_of_ble_eq_true rfl) dX11_fly_44 (by omega) (by omega) (fun S52 hS52 => ?_)
        obtain rfl := hS52
        have hs1 : SqS q ta S (goF S q (xAtF S t (sI S q_Room_minute x)) (yAtF S t (sI S q_Room_minute x))) := SqS.go
        have hm1 : sI (goF S q (xAtF S t (sI S q_Room_minute x)) (yAtF S t (sI S q_Room_minute x))) q_Squadron_machines q = nI m := (goF_ch.1.2.1 q_Squadron_machines (by decide) _ hq.1).trans hmm
        have hst1 : sI (goF S q (xAtF S t (sI S q_Room_minute x)) (yAtF S t (sI S q_Room_minute x))) q_Squadron_state q = sI S q_Squadron_state q := goF_ch.1.2.1 q_Squadron_state (by decide) _ hq.1
        have hpl1 := go_pl hpl hs5 hs20 hsp (show isPlaceB (xAtF S t (sI S q_Room_minute x)) (yAtF S t (sI S q_Room_minute x)) = true from hold_pl _ _)
        have htg1 : sR (goF S q (xAtF S t (sI S q_Room_minute x)) (yAtF S t (sI S q_Room_minute x))) q_Squadron_target q = none ∨ ∃ tz : Nat, sR (goF S q (xAtF S t (sI S q_Room_minute x)) (yAtF S t (sI S q_Room_minute x))) q_Squadron_target q = some tz ∧ tz ∈ sL (goF S q (xAtF S t (sI S q_Room_minute x)) (yAtF S t (sI S q_Room_minute x))) ∧ sK (goF S q (xAtF S t (sI S q_Room_minute x)) (yAtF S t (sI S q_Room_minute x))) tz = 9 := Or.inr ⟨t, (goF_ch.1.2.2 q_Squadron_target (by decide) _ hq.1).trans ht, goF_ch.1.o ho⟩
        have htk1 : talkB (goF S q (xAtF S t (sI S q_Room_minute x)) (yAtF S t (sI S q_Room_minute x))) q = true → talkB S q = true := fun z => by unfold talkB at z ⊢; rw [hst1] at z; exact z
        have hst9 : sI (goF S q (xAtF S t (sI S q_Room_minute x)) (yAtF S t (sI S q_Room_minute x))) q_Squadron_state q = 1 ∨ sI (goF S q (xAtF S t (sI S q_Room_minute x)) (yAtF S t (sI S q_Room_minute x))) q_Squadron_state q = 2 ∨ sI (goF S q (xAtF S t (sI S q_Room_minute x)) (yAtF S t (sI S q_Room_minute x))) q_Squadron_state q = 3 := by rw [hst1]; exact Or.inr hst
        refine g_goto hκ 72 dX11_fly_47 (by decide) ?_
        refine g_aload_n hκ 2 dX11_fly_72 rfl rfl ?_
        refine g_dup hκ dX11_fly_73 rfl ?_
        refine gtN_Squadron_fuel (host := "Plotroom") hκ (hdV hz) (hs1.1.o hq) (by decide +kernel) (Or.inl rfl) dX11_fly_74 ?_
        refine g_iconst hκ (v := 1) dX11_fly_77 (by decide) ?_
        refine g_isub hκ dX11_fly_78 ?_
        refine ptN_Squadron_fuel (host := "Plotroom") hκ (hs1.1.o hq) (by decide +kernel) (Or.inl rfl) dX11_fly_79 ?_
        have hs2 : SqS q ta S (putI (goF S q (xAtF S t (sI S q_Room_minute x)) (yAtF S t (sI S q_Room_minute x))) q_Squadron_fuel q ((sI (goF S q (xAtF S t (sI S q_Room_minute x)) (yAtF S t (sI S q_Room_minute x))) q_Squadron_fuel q) - 1)) := hs1.trans (SqS.i (by decide))
        have hm2 : sI (putI (goF S q (xAtF S t (sI S q_Room_minute x)) (yAtF S t (sI S q_Room_minute x))) q_Squadron_fuel q ((sI (goF S q (xAtF S t (sI S q_Room_minute x)) (yAtF S t (sI S q_Room_minute x))) q_Squadron_fuel q) - 1)) q_Squadron_machines q = nI m := (fuel_i (by decide)).trans hm1
        have hst2 : sI (putI (goF S q (xAtF S t (sI S q_Room_minute x)) (yAtF S t (sI S q_Room_minute x))) q_Squadron_fuel q ((sI (goF S q (xAtF S t (sI S q_Room_minute x)) (yAtF S t (sI S q_Room_minute x))) q_Squadron_fuel q) - 1)) q_Squadron_state q = 1 ∨ sI (putI (goF S q (xAtF S t (sI S q_Room_minute x)) (yAtF S t (sI S q_Room_minute x))) q_Squadron_fuel q ((sI (goF S q (xAtF S t (sI S q_Room_minute x)) (yAtF S t (sI S q_Room_minute x))) q_Squadron_fuel q) - 1)) q_Squadron_state q = 2 ∨ sI (putI (goF S q (xAtF S t (sI S q_Room_minute x)) (yAtF S t (sI S q_Room_minute x))) q_Squadron_fuel q ((sI (goF S q (xAtF S t (sI S q_Room_minute x)) (yAtF S t (sI S q_Room_minute x))) q_Squadron_fuel q) - 1)) q_Squadron_state q = 3 := by rw [fuel_i (by decide)]; exact hst9
        have htk2 : talkB (putI (goF S q (xAtF S t (sI S q_Room_minute x)) (yAtF S t (sI S q_Room_minute x))) q_Squadron_fuel q ((sI (goF S q (xAtF S t (sI S q_Room_minute x)) (yAtF S t (sI S q_Room_minute x))) q_Squadron_fuel q) - 1)) q = true → talkB S q = true := fun z => htk1 (by unfold talkB at z ⊢; rw [fuel_i (by decide)] at z; exact z)
        have hpl2 : isPlaceB (sI (putI (goF S q (xAtF S t (sI S q_Room_minute x)) (yAtF S t (sI S q_Room_minute x))) q_Squadron_fuel q ((sI (goF S q (xAtF S t (sI S q_Room_minute x)) (yAtF S t (sI S q_Room_minute x))) q_Squadron_fuel q) - 1)) q_Squadron_x q) (sI (putI (goF S q (xAtF S t (sI S q_Room_minute x)) (yAtF S t (sI S q_Room_minute x))) q_Squadron_fuel q ((sI (goF S q (xAtF S t (sI S q_Room_minute x)) (yAtF S t (sI S q_Room_minute x))) q_Squadron_fuel q) - 1)) q_Squadron_y q) = true := by rw [fuel_i (by decide), fuel_i (by decide)]; exact hpl1
        have htg2 : sR (putI (goF S q (xAtF S t (sI S q_Room_minute x)) (yAtF S t (sI S q_Room_minute x))) q_Squadron_fuel q ((sI (goF S q (xAtF S t (sI S q_Room_minute x)) (yAtF S t (sI S q_Room_minute x))) q_Squadron_fuel q) - 1)) q_Squadron_target q = none ∨ ∃ tz : Nat, sR (putI (goF S q (xAtF S t (sI S q_Room_minute x)) (yAtF S t (sI S q_Room_minute x))) q_Squadron_fuel q ((sI (goF S q (xAtF S t (sI S q_Room_minute x)) (yAtF S t (sI S q_Room_minute x))) q_Squadron_fuel q) - 1)) q_Squadron_target q = some tz ∧ tz ∈ sL (putI (goF S q (xAtF S t (sI S q_Room_minute x)) (yAtF S t (sI S q_Room_minute x))) q_Squadron_fuel q ((sI (goF S q (xAtF S t (sI S q_Room_minute x)) (yAtF S t (sI S q_Room_minute x))) q_Squadron_fuel q) - 1)) ∧ sK (putI (goF S q (xAtF S t (sI S q_Room_minute x)) (yAtF S t (sI S q_Room_minute x))) q_Squadron_fuel q ((sI (goF S q (xAtF S t (sI S q_Room_minute x)) (yAtF S t (sI S q_Room_minute x))) q_Squadron_fuel q) - 1)) tz = 9 := htg1
        have hB2 := hB.st hs2
        refine g_aload_n hκ 2 dX11_fly_82 rfl rfl ?_
        refine gtN_Squadron_state (host := "Plotroom") hκ (hdV hz) (hs2.1.o hq) (by decide +kernel) (Or.inl rfl) dX11_fly_83 ?_
        refine g_iconst hκ (v := 3) dX11_fly_86 (by decide) ?_
        refine g_icmp_ne hκ 112 dX11_fly_87 (by decide) (fun c53 => ?_) (fun c53 => ?_)
        · skip
          refine g_aload_n hκ 2 dX11_fly_112 rfl rfl ?_
          refine gtN_Squadron_fuel (host := "Plotroom") hκ (hdV hz) (hs2.1.o hq) (by decide +kernel) (Or.inl rfl) dX11_fly_113 ?_
          refine g_if_gt hκ 128 dX11_fly_116 (by decide) (fun c54 => ?_) (fun c54 => ?_)
          · skip
            exact hend _ _ _ _ _ dX11_fly_128 (⟨hs2, sq_mk hB2 hm12 hm2 hm0 hst2 c54 hpl2 htg2, htk2⟩)
          · skip
            refine g_aload_n hκ 1 dX11_fly_119 rfl rfl ?_
            refine g_aload_n hκ 2 dX11_fly_120 rfl rfl ?_
            refine g_aload_n hκ 2 dX11_fly_121 rfl rfl ?_
            refine gtN_Squadron_machines (host := "Plotroom") hκ (hdV hz) (hs2.1.o hq) (by decide +kernel) (Or.inl rfl) dX11_fly_122 ?_
            refine vV_v hκ hz [.ref q, .int (sI (putI (goF S q (xAtF S t (sI S q_Room_minute x)) (yAtF S t (sI S q_Room_minute x))) q_Squadron_fuel q ((sI (goF S q (xAtF S t (sI S q_Room_minute x)) (yAtF S t (sI S q_Room_minute x))) q_Squadron_fuel q) - 1)) q_Squadron_machines q)] sd_X11_loseMachines qw_783 (fun D cO H s hK hP => rc_Room hK hP (hs2.1.o hx)) (k_loseM e9 (putI (goF S q (xAtF S t (sI S q_Room_minute x)) (yAtF S t (sI S q_Room_minute x))) q_Squadron_fuel q ((sI (goF S q (xAtF S t (sI S q_Room_minute x)) (yAtF S t (sI S q_Room_minute x))) q_Squadron_fuel q) - 1)) x lo ta la el sz q (sI (putI (goF S q (xAtF S t (sI S q_Room_minute x)) (yAtF S t (sI S q_Room_minute x))) q_Squadron_fuel q ((sI (goF S q (xAtF S t (sI S q_Room_minute x)) (yAtF S t (sI S q_Room_minute x))) q_Squadron_fuel q) - 1)) q_Squadron_machines q) b (hT.sq hs2).rm (hs2.1.o hq) ((hs2.1.2.2 q_Squadron_base (by decide) _ hq.1).trans fb) (hs2.1.o hb)) ⟨rfl, rfl, Nat.le_of_ble_eq_true rfl, Nat.le_of_ble_eq_true rfl⟩ rfl rfl (Nat.le_of_ble_eq_true rfl) dX11_fly_125 (by omega) (by omega) (fun S56 hS56 => ?_)
            obtain rfl := hS56
            exact hend _ _ _ _ _ dX11_fly_128 (by rw [hm2]; have e9z := lm_TT (ta := ta) (l := m) hB2 (Or.inr rfl) hm12 hm2 (Nat.le_refl m); exact ⟨hs2.trans e9z.1, e9z.2.1, fun z => htk2 (e9z.2.2 z)⟩)
        · skip
          refine g_aload_n hκ 2 dX11_fly_90 rfl rfl ?_
          refine rV_i hκ (hdV hz) [] sd_X7_isAtBase qw_775 (fun D cO H s hK hP => rc_Squadron hK hP (hs2.1.o hq)) (k_isAtBase (putI (goF S q (xAtF S t (sI S q_Room_minute x)) (yAtF S t (sI S q_Room_minute x))) q_Squadron_fuel q ((sI (goF S q (xAtF S t (sI S q_Room_minute x)) (yAtF S t (sI S q_Room_minute x))) q_Squadron_fuel q) - 1)) q b (hs2.1.o hq) ((hs2.1.2.2 q_Squadron_base (by decide) _ hq.1).trans fb) (hs2.1.o hb)) ⟨rfl, rfl, Nat.le_of_ble_eq_true rfl, Nat.le_of_ble_eq_true rfl⟩ rfl rfl (Nat.le_of_ble_eq_true rfl) dX11_fly_91 (fun r57 hr57 => ?_)
          obtain ⟨b58, rfl⟩ | ⟨b58, rfl⟩ := zb_cases hr57
          · skip
            refine g_if_eq hκ 112 dX11_fly_94 (by decide) (fun z => absurd z (by decide)) (fun _ => ?_)
            refine g_aload_n hκ 2 dX11_fly_97 rfl rfl ?_
            refine g_iconst hκ (v := 4) dX11_fly_98 (by decide) ?_
            refine g_aload_n hκ 1 dX11_fly_99 rfl rfl ?_
            refine gt_Room_minute hκ (hdV hz) (hs2.1.o hx) qw_118 (Or.inl rfl) dX11_fly_100 ?_
            refine g_bipush hκ (v := 12) dX11_fly_103 (by decide) ?_
            refine g_iadd hκ dX11_fly_105 ?_
            refine vV_v hκ hz [.int 4, .int ((sI (putI (goF S q (xAtF S t (sI S q_Room_minute x)) (yAtF S t (sI S q_Room_minute x))) q_Squadron_fuel q ((sI (goF S q (xAtF S t (sI S q_Room_minute x)) (yAtF S t (sI S q_Room_minute x))) q_Squadron_fuel q) - 1)) q_Room_minute x) + 12)] sd_X7_rest qw_779 (fun D cO H s hK hP => rc_Squadron hK hP (hs2.1.o hq)) (k_rest e9 (putI (goF S q (xAtF S t (sI S q_Room_minute x)) (yAtF S t (sI S q_Room_minute x))) q_Squadron_fuel q ((sI (goF S q (xAtF S t (sI S q_Room_minute x)) (yAtF S t (sI S q_Room_minute x))) q_Squadron_fuel q) - 1)) q 4 ((sI (putI (goF S q (xAtF S t (sI S q_Room_minute x)) (yAtF S t (sI S q_Room_minute x))) q_Squadron_fuel q ((sI (goF S q (xAtF S t (sI S q_Room_minute x)) (yAtF S t (sI S q_Room_minute x))) q_Squadron_fuel q) - 1)) q_Room_minute x) + 12) b (hs2.1.o hq) ((hs2.1.2.2 q_Squadron_base (by decide) _ hq.1).trans fb) (hs2.1.o hb)) ⟨rfl, rfl, Nat.le_of_ble_eq_true rfl, Nat.le_of_ble_eq_true rfl⟩ rfl rfl (Nat.le_of_ble_eq_true rfl) dX11_fly_106 (by omega) (by omega) (fun S60 hS60 => ?_)
            obtain rfl := hS60
            refine g_goto hκ 128 dX11_fly_109 (by decide) ?_
            exact hend _ _ _ _ _ dX11_fly_128 (⟨hs2.trans SqS.rest, rest_sq hB2 hm12 hm2 (Or.inr rfl), fun z => absurd z (fun z => rest_talk (Or.inr rfl) z)⟩)
          · skip
            refine g_if_eq hκ 112 dX11_fly_94 (by decide) (fun _ => ?_) (fun z => absurd z (by decide))
            refine g_aload_n hκ 2 dX11_fly_112 rfl rfl ?_
            refine gtN_Squadron_fuel (host := "Plotroom") hκ (hdV hz) (hs2.1.o hq) (by decide +kernel) (Or.inl rfl) dX11_fly_113 ?_
            refine g_if_gt hκ 128 dX11_fly_116 (by decide) (fun c61 => ?_) (fun c61 => ?_)
            · skip
              exact hend _ _ _ _ _ dX11_fly_128 (⟨hs2, sq_mk hB2 hm12 hm2 hm0 hst2 c61 hpl2 htg2, htk2⟩)
            · skip
              refine g_aload_n hκ 1 dX11_fly_119 rfl rfl ?_
              refine g_aload_n hκ 2 dX11_fly_120 rfl rfl ?_
              refine g_aload_n hκ 2 dX11_fly_121 rfl rfl ?_
              refine gtN_Squadron_machines (host := "Plotroom") hκ (hdV hz) (hs2.1.o hq) (by decide +kernel) (Or.inl rfl) dX11_fly_122 ?_
              refine vV_v hκ hz [.ref q, .int (sI (putI (goF S q (xAtF S t (sI S q_Room_minute x)) (yAtF S t (sI S q_Room_minute x))) q_Squadron_fuel q ((sI (goF S q (xAtF S t (sI S q_Room_minute x)) (yAtF S t (sI S q_Room_minute x))) q_Squadron_fuel q) - 1)) q_Squadron_machines q)] sd_X11_loseMachines qw_783 (fun D cO H s hK hP => rc_Room hK hP (hs2.1.o hx)) (k_loseM e9 (putI (goF S q (xAtF S t (sI S q_Room_minute x)) (yAtF S t (sI S q_Room_minute x))) q_Squadron_fuel q ((sI (goF S q (xAtF S t (sI S q_Room_minute x)) (yAtF S t (sI S q_Room_minute x))) q_Squadron_fuel q) - 1)) x lo ta la el sz q (sI (putI (goF S q (xAtF S t (sI S q_Room_minute x)) (yAtF S t (sI S q_Room_minute x))) q_Squadron_fuel q ((sI (goF S q (xAtF S t (sI S q_Room_minute x)) (yAtF S t (sI S q_Room_minute x))) q_Squadron_fuel q) - 1)) q_Squadron_machines q) b (hT.sq hs2).rm (hs2.1.o hq) ((hs2.1.2.2 q_Squadron_base (by decide) _ hq.1).trans fb) (hs2.1.o hb)) ⟨rfl, rfl, Nat.le_of_ble_eq_true rfl, Nat.le_of_ble_eq_true rfl⟩ rfl rfl (Nat.le_of_ble_eq_true rfl) dX11_fly_125 (by omega) (by omega) (fun S63 hS63 => ?_)
              obtain rfl := hS63
              exact hend _ _ _ _ _ dX11_fly_128 (by rw [hm2]; have e9z := lm_TT (ta := ta) (l := m) hB2 (Or.inr rfl) hm12 hm2 (Nat.le_refl m); exact ⟨hs2.trans e9z.1, e9z.2.1, fun z => htk2 (e9z.2.2 z)⟩)
set_option maxHeartbeats 4000000 in
set_option maxRecDepth 100000 in
theorem k_takeTurn (e9 : Nat × Nat) (S : wPS) (x lo ta : Nat) (la : Nat → Nat) (el : Nat → Nat → Nat) (sz cp : Nat → Nat) (q : Nat) (hT : ST e9 x lo ta la S el sz cp) (hq : q ∈ sL S ∧ sK S q = 6) (hqI : sqI S q) : MVv e9 yX11_takeTurn cX11_takeTurn 2 none ({ frames := 3, cells := 0, slots := 0, locals := 70 }) S [.ref x, .ref q] (fun S1 => TT q ta S S1) 0 0 := by
  refine stV_v (post := (fun S1 => TT q ta S S1)) (by decide) (Nat.le_of_ble_eq_true rfl) ⟨Nat.le_refl _, Nat.le_refl _⟩ rfl (fun κ hκ hz hnm hend => ?_)
  show Gj κ _ 0 [(0, .ref x), (1, .ref q)] []
  have hM := hT.rm
  have hMc := hM
  obtain ⟨hx, ⟨f0, L0⟩, ⟨f1, L1⟩, ⟨f2, L2⟩, ⟨f3, L3⟩, ⟨f4, L4⟩, ⟨f5, L5⟩, ⟨f6, L6⟩, ⟨f7, L7⟩, ⟨f8, L8⟩, ⟨flo, hlo⟩, ⟨fta, hta⟩⟩ := hMc
  have b0 := L0.2.2.1
  have b2 := L2.2.2.1
  have b3 := L3.2.2.1
  have b4 := L4.2.2.1
  have b5 := L5.2.2.1
  have b7 := L7.2.2.1
  have b8 := L8.2.2.1
  have hqI9 := hqI
  obtain ⟨b, hB⟩ := sqI.b hq hqI
  have fb := hB.2.2.2.1
  have hb := hB.2.2.2.2.1
  obtain ⟨⟨m, hm12, hmm, hmst⟩, hfu, htank, hpl, ⟨s, hs5, hs20, hsp⟩, -, htg⟩ := hqI9
  have hst5 : sI S q_Squadron_state q = 0 ∨ sI S q_Squadron_state q = 4 ∨ sI S q_Squadron_state q = 1 ∨ sI S q_Squadron_state q = 2 ∨ sI S q_Squadron_state q = 3 := st5 hmst
  rcases hst5 with hsk | hsk | hsk | hsk | hsk
  · skip
    refine g_aload_n hκ 1 dX11_takeTurn_0 rfl rfl ?_
    refine gtN_Squadron_state (host := "Plotroom") hκ (hdV hz) hq (by decide +kernel) (Or.inl rfl) dX11_takeTurn_1 ?_
    refine g_eqi (y := 0) hsk ?_
    refine g_tableOut hκ 82 dX11_takeTurn_4 (by decide) (by decide) ?_
    exact hend _ _ _ _ _ dX11_takeTurn_82 (⟨SqS.refl S, hqI, fun z => z⟩)
  · skip
    refine g_aload_n hκ 1 dX11_takeTurn_0 rfl rfl ?_
    refine gtN_Squadron_state (host := "Plotroom") hκ (hdV hz) hq (by decide +kernel) (Or.inl rfl) dX11_takeTurn_1 ?_
    refine g_eqi (y := 4) hsk ?_
    refine g_tableIn (off := 58) hκ 62 dX11_takeTurn_4 (by decide) (by decide) (by decide) (by decide) ?_
    refine g_aload_n hκ 1 dX11_takeTurn_62 rfl rfl ?_
    refine gtN_Squadron_due (host := "Plotroom") hκ (hdV hz) hq (by decide +kernel) (Or.inl rfl) dX11_takeTurn_63 ?_
    refine g_aload_n hκ 0 dX11_takeTurn_66 rfl rfl ?_
    refine gt_Room_minute hκ (hdV hz) hx qw_118 (Or.inl rfl) dX11_takeTurn_67 ?_
    refine g_icmp_gt hκ 82 dX11_takeTurn_70 (by decide) (fun c1 => ?_) (fun c1 => ?_)
    · skip
      exact hend _ _ _ _ _ dX11_takeTurn_82 (⟨SqS.refl S, hqI, fun z => z⟩)
    · skip
      refine g_aload_n hκ 1 dX11_takeTurn_73 rfl rfl ?_
      refine g_iconst hκ (v := 0) dX11_takeTurn_74 (by decide) ?_
      refine g_iconst hκ (v := (-1)) dX11_takeTurn_75 (by decide) ?_
      refine vV_v hκ hz [.int 0, .int (-1)] sd_X7_rest qw_779 (fun D cO H s hK hP => rc_Squadron hK hP hq) (k_rest e9 S q 0 (-1) b hq fb hb) ⟨rfl, rfl, Nat.le_of_ble_eq_true rfl, Nat.le_of_ble_eq_true rfl⟩ rfl rfl (Nat.le_of_ble_eq_true rfl) dX11_takeTurn_76 (by omega) (by omega) (fun S3 hS3 => ?_)
      obtain rfl := hS3
      refine g_goto hκ 82 dX11_takeTurn_79 (by decide) ?_
      exact hend _ _ _ _ _ dX11_takeTurn_82 (⟨SqS.rest, rest_sq hB hm12 hmm (Or.inl rfl), fun z => absurd z (fun z => rest_talk (Or.inl rfl) z)⟩)
  · skip
    refine g_aload_n hκ 1 dX11_takeTurn_0 rfl rfl ?_
    refine gtN_Squadron_state (host := "Plotroom") hκ (hdV hz) hq (by decide +kernel) (Or.inl rfl) dX11_takeTurn_1 ?_
    refine g_eqi (y := 1) hsk ?_
    refine g_tableIn (off := 32) hκ 36 dX11_takeTurn_4 (by decide) (by decide) (by decide) (by decide) ?_
    refine g_aload_n hκ 1 dX11_takeTurn_36 rfl rfl ?_
    refine gtN_Squadron_due (host := "Plotroom") hκ (hdV hz) hq (by decide +kernel) (Or.inl rfl) dX11_takeTurn_37 ?_
    refine g_aload_n hκ 0 dX11_takeTurn_40 rfl rfl ?_
    refine gt_Room_minute hκ (hdV hz) hx qw_118 (Or.inl rfl) dX11_takeTurn_41 ?_
    refine g_icmp_gt hκ 82 dX11_takeTurn_44 (by decide) (fun c4 => ?_) (fun c4 => ?_)
    · skip
      exact hend _ _ _ _ _ dX11_takeTurn_82 (⟨SqS.refl S, hqI, fun z => z⟩)
    · skip
      refine g_aload_n hκ 1 dX11_takeTurn_47 rfl rfl ?_
      refine vV_v hκ hz [] sd_X7_comeUp qw_746 (fun D cO H s hK hP => rc_Squadron hK hP hq) (k_comeUp e9 S q hq) ⟨rfl, rfl, Nat.le_of_ble_eq_true rfl, Nat.le_of_ble_eq_true rfl⟩ rfl rfl (Nat.le_of_ble_eq_true rfl) dX11_takeTurn_48 (by omega) (by omega) (fun S6 hS6 => ?_)
      obtain rfl := hS6
      refine g_goto hκ 82 dX11_takeTurn_51 (by decide) ?_
      exact hend _ _ _ _ _ dX11_takeTurn_82 (cu_TT hq hqI hsk)
  · skip
    refine g_aload_n hκ 1 dX11_takeTurn_0 rfl rfl ?_
    refine gtN_Squadron_state (host := "Plotroom") hκ (hdV hz) hq (by decide +kernel) (Or.inl rfl) dX11_takeTurn_1 ?_
    refine g_eqi (y := 2) hsk ?_
    refine g_tableIn (off := 50) hκ 54 dX11_takeTurn_4 (by decide) (by decide) (by decide) (by decide) ?_
    refine g_aload_n hκ 0 dX11_takeTurn_54 rfl rfl ?_
    refine g_aload_n hκ 1 dX11_takeTurn_55 rfl rfl ?_
    refine vV_v hκ hz [.ref q] sd_X11_fly qw_750 (fun D cO H s hK hP => rc_Room hK hP hx) (k_fly e9 S x lo ta la el sz cp q hT hq hqI (Or.inl hsk)) ⟨rfl, rfl, Nat.le_of_ble_eq_true rfl, Nat.le_of_ble_eq_true rfl⟩ rfl rfl (Nat.le_of_ble_eq_true rfl) dX11_takeTurn_56 (by omega) (by omega) (fun S8 hS8 => ?_)
    refine g_goto hκ 82 dX11_takeTurn_59 (by decide) ?_
    exact hend _ _ _ _ _ dX11_takeTurn_82 (hS8)
  · skip
    refine g_aload_n hκ 1 dX11_takeTurn_0 rfl rfl ?_
    refine gtN_Squadron_state (host := "Plotroom") hκ (hdV hz) hq (by decide +kernel) (Or.inl rfl) dX11_takeTurn_1 ?_
    refine g_eqi (y := 3) hsk ?_
    refine g_tableIn (off := 50) hκ 54 dX11_takeTurn_4 (by decide) (by decide) (by decide) (by decide) ?_
    refine g_aload_n hκ 0 dX11_takeTurn_54 rfl rfl ?_
    refine g_aload_n hκ 1 dX11_takeTurn_55 rfl rfl ?_
    refine vV_v hκ hz [.ref q] sd_X11_fly qw_750 (fun D cO H s hK hP => rc_Room hK hP hx) (k_fly e9 S x lo ta la el sz cp q hT hq hqI (Or.inr hsk)) ⟨rfl, rfl, Nat.le_of_ble_eq_true rfl, Nat.le_of_ble_eq_true rfl⟩ rfl rfl (Nat.le_of_ble_eq_true rfl) dX11_takeTurn_56 (by omega) (by omega) (fun S10 hS10 => ?_)
    refine g_goto hκ 82 dX11_takeTurn_59 (by decide) ?_
    exact hend _ _ _ _ _ dX11_takeTurn_82 (hS10)
