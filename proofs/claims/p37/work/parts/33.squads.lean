set_option maxHeartbeats 4000000 in
set_option maxRecDepth 100000 in
theorem k_loseM (e9 : Nat × Nat) (S : wPS) (x lo ta : Nat) (la : Nat → Nat) (el : Nat → Nat → Nat) (sz : Nat → Nat) (q : Nat) (l : Int32) (b : Nat) (hM : RMx S x lo ta la el sz) (hq : q ∈ sL S ∧ sK S q = 6) (fb : sR S q_Squadron_base q = some b) (hb : b ∈ sL S ∧ sK S b = 4) : MVv e9 yX11_loseMachines cX11_loseMachines 3 none ({ frames := 1, cells := 0, slots := 0, locals := 22 }) S [.ref x, .ref q, .int l] (fun S1 => S1 = lmF S q ta l b) 0 0 := by
  refine stV_v (post := (fun S1 => S1 = lmF S q ta l b)) (by decide) (Nat.le_of_ble_eq_true rfl) ⟨Nat.le_refl _, Nat.le_refl _⟩ rfl (fun κ hκ hz hnm hend => ?_)
  show Gj κ _ 0 [(0, .ref x), (1, .ref q), (2, .int l)] []
  have hMc := hM
  obtain ⟨hx, ⟨f0, L0⟩, ⟨f1, L1⟩, ⟨f2, L2⟩, ⟨f3, L3⟩, ⟨f4, L4⟩, ⟨f5, L5⟩, ⟨f6, L6⟩, ⟨f7, L7⟩, ⟨f8, L8⟩, ⟨flo, hlo⟩, ⟨fta, hta⟩⟩ := hMc
  have b0 := L0.2.2.1
  have b2 := L2.2.2.1
  have b3 := L3.2.2.1
  have b4 := L4.2.2.1
  have b5 := L5.2.2.1
  have b7 := L7.2.2.1
  have b8 := L8.2.2.1
  refine g_aload_n hκ 1 dX11_loseMachines_0 rfl rfl ?_
  refine g_dup hκ dX11_loseMachines_1 rfl ?_
  refine gtN_Squadron_machines (host := "Plotroom") hκ (hdV hz) hq (by decide +kernel) (Or.inl rfl) dX11_loseMachines_2 ?_
  refine g_iload_n hκ 2 dX11_loseMachines_5 rfl rfl ?_
  refine g_isub hκ dX11_loseMachines_6 ?_
  refine ptN_Squadron_machines (host := "Plotroom") hκ hq (by decide +kernel) (Or.inl rfl) dX11_loseMachines_7 ?_
  refine g_aload_n hκ 0 dX11_loseMachines_10 rfl rfl ?_
  refine gt_Room_tally hκ (hdV hz) hx qw_117 (Or.inl rfl) dX11_loseMachines_11 ?_
  refine g_rf fta ?_
  refine g_dup hκ dX11_loseMachines_14 rfl ?_
  refine gtN_Tally_machinesLost (host := "Plotroom") hκ (hdV hz) hta (by decide +kernel) (Or.inl rfl) dX11_loseMachines_15 ?_
  refine g_iload_n hκ 2 dX11_loseMachines_18 rfl rfl ?_
  refine g_iadd hκ dX11_loseMachines_19 ?_
  refine ptN_Tally_machinesLost (host := "Plotroom") hκ hta (by decide +kernel) (Or.inl rfl) dX11_loseMachines_20 ?_
  refine g_aload_n hκ 1 dX11_loseMachines_23 rfl rfl ?_
  refine gtN_Squadron_machines (host := "Plotroom") hκ (hdV hz) hq (by decide +kernel) (Or.inl rfl) dX11_loseMachines_24 ?_
  refine g_if_gt hκ 36 dX11_loseMachines_27 (by decide) (fun c1 => ?_) (fun c1 => ?_)
  · skip
    exact hend _ _ _ _ _ dX11_loseMachines_36 (by have c9 : 0 < sI (lmS S q ta l) q_Squadron_machines q := c1; unfold lmS at c9; rw [putI_col q_Squadron_machines q (Or.inl (by decide)), putI_at] at c9; unfold lmF; rw [if_pos c9]; rfl)
  · skip
    refine g_aload_n hκ 1 dX11_loseMachines_30 rfl rfl ?_
    refine g_iconst hκ (v := 0) dX11_loseMachines_31 (by decide) ?_
    refine g_iconst hκ (v := (-1)) dX11_loseMachines_32 (by decide) ?_
    refine vV_v hκ hz [.int 0, .int (-1)] sd_X7_rest qw_779 (fun D cO H s hK hP => rc_Squadron hK hP hq) (k_rest e9 (putI (putI S q_Squadron_machines q ((sI S q_Squadron_machines q) - l)) q_Tally_machinesLost ta ((sI (putI S q_Squadron_machines q ((sI S q_Squadron_machines q) - l)) q_Tally_machinesLost ta) + l)) q 0 (-1) b hq fb hb) ⟨rfl, rfl, Nat.le_of_ble_eq_true rfl, Nat.le_of_ble_eq_true rfl⟩ rfl rfl (Nat.le_of_ble_eq_true rfl) dX11_loseMachines_33 (by omega) (by omega) (fun S3 hS3 => ?_)
    obtain rfl := hS3
    exact hend _ _ _ _ _ dX11_loseMachines_36 (by unfold lmF; rw [if_neg (fun z => absurd z (fun z => c1 (by show 0 < sI (lmS S q ta l) q_Squadron_machines q; unfold lmS; rw [putI_col q_Squadron_machines q (Or.inl (by decide)), putI_at]; exact z)))]; rfl)
