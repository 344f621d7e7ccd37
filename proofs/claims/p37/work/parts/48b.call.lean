set_option maxHeartbeats 4000000 in
set_option maxRecDepth 100000 in
theorem k_call (e9 : Nat × Nat) (S : wPS) (x lo ta : Nat) (la : Nat → Nat) (M cnts : Nat) (told : Int32) (el : Nat → Nat → Nat) (sz cp : Nat → Nat) (pw ow dn : Nat) (hI : IV e9 x lo ta la M cnts told S el sz cp pw ow dn) : MVi e9 yX11_call cX11_call 1 (some .int) ({ frames := 0, cells := 0, slots := 0, locals := 0 }) S [.ref x] (fun r S1 => r = 1 ∧ S1 = putI S q_Tally_refused ta 1) 0 0 := by
  refine stV_i (post := (fun r S1 => r = 1 ∧ S1 = putI S q_Tally_refused ta 1)) (by decide) (Nat.le_of_ble_eq_true rfl) ⟨Nat.le_refl _, Nat.le_refl _⟩ rfl (fun _ _ _ => rfl) (fun κ hκ hz hnm hend => ?_)
  show Gj κ _ 0 [(0, .ref x)] []
  have hM := hI.1.rm
  have hMc := hM
  obtain ⟨hx, ⟨f0, L0⟩, ⟨f1, L1⟩, ⟨f2, L2⟩, ⟨f3, L3⟩, ⟨f4, L4⟩, ⟨f5, L5⟩, ⟨f6, L6⟩, ⟨f7, L7⟩, ⟨f8, L8⟩, ⟨flo, hlo⟩, ⟨fta, hta⟩⟩ := hMc
  have b0 := L0.2.2.1
  have b2 := L2.2.2.1
  have b3 := L3.2.2.1
  have b4 := L4.2.2.1
  have b5 := L5.2.2.1
  have b7 := L7.2.2.1
  have b8 := L8.2.2.1
  have hSQ := (hI.2.2.1).sq
  refine g_aload_n hκ 0 dX11_call_0 rfl rfl ?_
  refine gt_Room_tally hκ (hdV hz) hx qw_117 (Or.inl rfl) dX11_call_1 ?_
  refine g_rf fta ?_
  refine g_dup hκ dX11_call_4 rfl ?_
  refine gtN_Tally_refused (host := "Plotroom") hκ (hdV hz) hta (by decide +kernel) (Or.inl rfl) dX11_call_5 ?_
  refine g_eqi (y := 0) hI.2.2.2.2.2.2.1.2.2.2.2 ?_
  refine g_iconst hκ (v := 1) dX11_call_8 (by decide) ?_
  refine g_iadd hκ dX11_call_9 ?_
  refine g_eqi (y := 1) (by decide) ?_
  refine ptN_Tally_refused (host := "Plotroom") hκ hta (by decide +kernel) (Or.inl rfl) dX11_call_10 ?_
  refine g_aload_n hκ 0 dX11_call_13 rfl rfl ?_
  refine gt_Room_tally hκ (hdV hz) hx qw_117 (Or.inl rfl) dX11_call_14 ?_
  refine g_rf fta ?_
  refine gtN_Tally_refused (host := "Plotroom") hκ (hdV hz) hta (by decide +kernel) (Or.inl rfl) dX11_call_17 ?_
  refine g_eqi (y := 1) putI_at ?_
  exact hend _ _ _ _ _ _ dX11_call_20 (⟨rfl, rfl⟩)
