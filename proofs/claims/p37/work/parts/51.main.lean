set_option maxHeartbeats 4000000 in
set_option maxRecDepth 100000 in
theorem L_main {κ : KX} {e9 : Nat × Nat} {b L : Nat} {xs : Nat → Int32} (hκ : Cx cL_law 11 RL room_1 κ) (hz : Vz e9 κ) (hX : XZ κ) (hs9 : Scr b L xs κ) (hL : L ≤ 260) (hend : LE cL_law κ) (S : wPS) (x lo ta : Nat) (la : Nat → Nat) (M cnts : Nat) (told : Int32) (el : Nat → Nat → Nat) (sz cp : Nat → Nat) (pw dn : Nat) (fl : Nat) (hI : IV e9 x lo ta la M cnts told S el sz cp pw pw dn) (z0 : sz 0 = 2) (z2 : sz 2 = 5) (z3 : sz 3 = 3) (z4 : sz 4 = 3) (z5 : sz 5 = fl) (z12 : fl ≤ 12) (z7 : sz 7 ≤ 16) (z8 : sz 8 ≤ 24 * M) (hM0 : M = 0) (hd0 : dn = 0) (hc9 : cnts ≤ 99 * fl) : Gj κ (PV κ S (300 * 40) (nnR 40)) 362 [(5, .int 0), (2, .int (nI fl)), (3, .int (nI cnts)), (4, .int told), (0, .ref b), (1, .ref x)] [] := by
  show Gj κ _ 362 [(5, .int 0), (2, .int (nI fl)), (3, .int (nI cnts)), (4, .int told), (0, .ref b), (1, .ref x)] []
  have loop362 : ∀ (d362 i362 : Nat) (x362 : Int32) (S : wPS) (el : Nat → Nat → Nat) (sz : Nat → Nat) (cp : Nat → Nat) (pw : Nat) (dn : Nat) (M : Nat) (cnts : Nat) (fl : Nat) (told : Int32) (f2 : Int32) (c3 : Int32), i362 + d362 = 40 → x362 = nI i362 → (IV e9 x lo ta la M cnts told S el sz cp pw pw dn ∧ sz 0 = 2 ∧ sz 2 = 5 ∧ sz 3 = 3 ∧ sz 4 = 3 ∧ sz 5 = fl ∧ fl ≤ 12 ∧ sz 7 ≤ 16 ∧ sz 8 ≤ 24 * M ∧ M ≤ 3 * i362 ∧ dn ≤ 300 * i362 ∧ cnts ≤ 99 * fl ∧ f2 = nI fl ∧ c3 = nI cnts) → Gj κ (PV κ S (300 * d362) (nnR d362)) 362 [(5, .int x362), (2, .int f2), (3, .int c3), (4, .int told), (0, .ref b), (1, .ref x)] [] := by
    intro d362
    induction d362 with
    | zero =>
      intro i362 x362 S el sz cp pw dn M cnts fl told f2 c3 hi362 hx362 hI
      subst hx362
      obtain ⟨hI, z0, z2, z3, z4, z5, z12, z7, z8, hM3, hd3, hc9, hf2, hc3⟩ := hI
      subst hf2
      subst hc3
      have hM := hI.1.rm
      have hMc := hM
      obtain ⟨hx, ⟨f0, L0⟩, ⟨f1, L1⟩, ⟨f2, L2⟩, ⟨f3, L3⟩, ⟨f4, L4⟩, ⟨f5, L5⟩, ⟨f6, L6⟩, ⟨f7, L7⟩, ⟨f8, L8⟩, ⟨flo, hlo⟩, ⟨fta, hta⟩⟩ := hMc
      have b0 := L0.2.2.1
      have b2 := L2.2.2.1
      have b3 := L3.2.2.1
      have b4 := L4.2.2.1
      have b5 := L5.2.2.1
      have b7 := L7.2.2.1
      have b8 := L8.2.2.1
      have hSQ := (hI.2.2.1).sq
      refine g_iload hκ 0 dL_law_362 rfl ?_
      refine g_bipush hκ (v := 40) dL_law_364 (by decide) ?_
      refine g_icmp_ge hκ 615 dL_law_366 (by decide) (fun _ => ?_) (fun z => absurd (show (40 : Int32) ≤ nI i362 from nI_le (a := 40) (by omega) (by omega)) z)
      refine g_lv [(1, .ref x)] [5] rfl ?_
      refine g_wid (k2 := 0) (n2 := 0) (by omega) (by omega) ?_
      exact L_tail hκ hz hX hs9 hL hend S x lo ta la M cnts told el sz cp pw dn hI z4 (by omega) (by omega)
    | succ d362 ih362 =>
      intro i362 x362 S el sz cp pw dn M cnts fl told f2 c3 hi362 hx362 hI
      subst hx362
      have em9 : nnR (d362 + 1) = nnR d362 + (7776 * (39 - d362) + 11250) := rfl
      obtain ⟨hI, z0, z2, z3, z4, z5, z12, z7, z8, hM3, hd3, hc9, hf2, hc3⟩ := hI
      subst hf2
      subst hc3
      have hM := hI.1.rm
      have hMc := hM
      obtain ⟨hx, ⟨f0, L0⟩, ⟨f1, L1⟩, ⟨f2, L2⟩, ⟨f3, L3⟩, ⟨f4, L4⟩, ⟨f5, L5⟩, ⟨f6, L6⟩, ⟨f7, L7⟩, ⟨f8, L8⟩, ⟨flo, hlo⟩, ⟨fta, hta⟩⟩ := hMc
      have b0 := L0.2.2.1
      have b2 := L2.2.2.1
      have b3 := L3.2.2.1
      have b4 := L4.2.2.1
      have b5 := L5.2.2.1
      have b7 := L7.2.2.1
      have b8 := L8.2.2.1
      have hSQ := (hI.2.2.1).sq
      refine g_iload hκ 0 dL_law_362 rfl ?_
      refine g_bipush hκ (v := 40) dL_law_364 (by decide) ?_
      refine g_icmp_ge hκ 615 dL_law_366 (by decide) (fun z => absurd z (show ¬ (40 : Int32) ≤ nI i362 from nI_ge (b := 40) (by omega) (by decide))) (fun _ => ?_)
      refine g_aload_n hκ 4 dL_law_369 rfl rfl ?_
      refine g_iload hκ 0 dL_law_370 rfl ?_
      refine g_bipush hκ (v := 16) dL_law_372 (by decide) ?_
      refine g_irem hκ dL_law_374 (by decide) ?_
      refine g_eqi (y := nI (i362 % 16)) (pk_rem (d := 16) (by omega) (by decide) (by decide)) ?_
      refine g_cell hκ hz hs9 (j := (i362 % 16)) (by omega) hL qw_1029 ⟨rfl, rfl, Nat.le_of_ble_eq_true rfl, Nat.le_of_ble_eq_true rfl⟩ (Nat.le_of_ble_eq_true rfl) dL_law_375 (fun r1 => ?_)
      refine g_bipush hκ (v := 31) dL_law_378 (by decide) ?_
      refine g_iload hκ 0 dL_law_380 rfl ?_
      refine g_imul hκ dL_law_382 ?_
      refine g_iadd hκ dL_law_383 ?_
      refine g_eqi (y := r1 + (31 * (nI i362))) rfl ?_
      refine g_topi (fun xv hxv => ?_)
      refine g_istore hκ [(6, .int xv), (5, .int (nI i362)), (2, .int (nI fl)), (3, .int (nI cnts)), (4, .int told), (0, .ref b), (1, .ref x)] dL_law_384 (by decide) rfl ?_
      refine g_aload_n hκ 5 dL_law_386 rfl rfl ?_
      refine g_bipush hκ (v := 7) dL_law_387 (by decide) ?_
      refine g_iload hκ 1 dL_law_389 rfl ?_
      refine g_imul hκ dL_law_391 ?_
      refine g_eqi (y := nI (7 * i362)) (pk_mul 7 i362) ?_
      refine g_iconst hκ (v := 3) dL_law_392 (by decide) ?_
      refine g_iadd hκ dL_law_393 ?_
      refine g_eqi (y := nI ((7 * i362) + 3)) (nI_add (7 * i362) 3) ?_
      refine g_bipush hκ (v := 16) dL_law_394 (by decide) ?_
      refine g_irem hκ dL_law_396 (by decide) ?_
      refine g_eqi (y := nI ((7 * i362 + 3) % 16)) (pk_rem (d := 16) (by omega) (by decide) (by decide)) ?_
      refine g_cell hκ hz hs9 (j := ((7 * i362 + 3) % 16)) (by omega) hL qw_1029 ⟨rfl, rfl, Nat.le_of_ble_eq_true rfl, Nat.le_of_ble_eq_true rfl⟩ (Nat.le_of_ble_eq_true rfl) dL_law_397 (fun r2 => ?_)
      refine g_iconst hκ (v := 5) dL_law_400 (by decide) ?_
      refine g_iload hκ 1 dL_law_401 rfl ?_
      refine g_imul hκ dL_law_403 ?_
      refine g_iadd hκ dL_law_404 ?_
      refine g_eqi (y := r2 + (5 * (nI i362))) rfl ?_
      refine g_topi (fun yv hyv => ?_)
      have J : ∀ (S1 : wPS) (el1 : Nat → Nat → Nat) (sz1 cp1 : Nat → Nat) (cnts1 fl1 : Nat) (told1 : Int32), IV e9 x lo ta la M cnts1 told1 S1 el1 sz1 cp1 pw pw dn ∧ sz1 0 = 2 ∧ sz1 2 = 5 ∧ sz1 3 = 3 ∧ sz1 4 = 3 ∧ sz1 5 = fl1 ∧ fl1 ≤ 12 ∧ sz1 7 ≤ 16 ∧ sz1 8 ≤ 24 * M ∧ cnts1 ≤ 99 * fl1 → Gj κ (PV κ S1 (300 * d362 + 260) (nnR d362 + (7776 * (39 - d362) + 11210))) 546 [(5, .int (nI i362)), (7, .int yv), (2, .int (nI fl1)), (3, .int (nI cnts1)), (4, .int told1), (0, .ref b), (1, .ref x)] [] := by
        intro S1 el1 sz1 cp1 cnts1 fl1 told1 hJ
        obtain ⟨hI, z0, z2, z3, z4, z5, z12, z7, z8, hc9⟩ := hJ
        have hM := hI.1.rm
        have hMc := hM
        obtain ⟨hx, ⟨f0, L0⟩, ⟨f1, L1⟩, ⟨f2, L2⟩, ⟨f3, L3⟩, ⟨f4, L4⟩, ⟨f5, L5⟩, ⟨f6, L6⟩, ⟨f7, L7⟩, ⟨f8, L8⟩, ⟨flo, hlo⟩, ⟨fta, hta⟩⟩ := hMc
        have b0 := L0.2.2.1
        have b2 := L2.2.2.1
        have b3 := L3.2.2.1
        have b4 := L4.2.2.1
        have b5 := L5.2.2.1
        have b7 := L7.2.2.1
        have b8 := L8.2.2.1
        have hSQ := (hI.2.2.1).sq
        refine g_aload_n hκ 6 dL_law_546 rfl rfl ?_
        refine g_iconst hκ (v := 0) dL_law_547 (by decide) ?_
        refine rV_i hκ (hdV hz) [.int 0] sd_X11_room qw_873 (fun D cO H s hK hP => rc_Room hK hP hx) (p_room_0 S1 x lo ta la el1 sz1 hM) ⟨rfl, rfl, Nat.le_of_ble_eq_true rfl, Nat.le_of_ble_eq_true rfl⟩ rfl rfl (Nat.le_of_ble_eq_true rfl) dL_law_548 (fun r3 hr3 => ?_)
        refine g_eqi (hr3.trans hI.mnv) ?_
        refine g_istore hκ [(8, .int (nI M)), (5, .int (nI i362)), (7, .int yv), (2, .int (nI fl1)), (3, .int (nI cnts1)), (4, .int told1), (0, .ref b), (1, .ref x)] dL_law_551 (by decide) rfl ?_
        refine g_aload_n hκ 7 dL_law_553 rfl rfl ?_
        refine g_bipush hκ (v := 19) dL_law_554 (by decide) ?_
        refine rV_i hκ (hdV hz) [.int 19] sd_X11_room qw_873 (fun D cO H s hK hP => rc_Room hK hP hx) (p_room_19 S1 x lo ta la el1 sz1 hM) ⟨rfl, rfl, Nat.le_of_ble_eq_true rfl, Nat.le_of_ble_eq_true rfl⟩ rfl rfl (Nat.le_of_ble_eq_true rfl) dL_law_556 (fun r4 hr4 => ?_)
        refine g_eqi (hr4.trans hI.dnv) ?_
        refine g_istore hκ [(9, .int (nI dn)), (8, .int (nI M)), (5, .int (nI i362)), (7, .int yv), (2, .int (nI fl1)), (3, .int (nI cnts1)), (4, .int told1), (0, .ref b), (1, .ref x)] dL_law_559 (by decide) rfl ?_
        refine g_iconst hκ (v := 1) dL_law_561 (by decide) ?_
        refine g_iload hκ 3 dL_law_562 rfl ?_
        refine g_iconst hκ (v := 3) dL_law_564 (by decide) ?_
        refine rS_i hκ (hdV hz) [.int yv, .int 3] sd_L_below qw_1025 (k_below S1 yv 3 (by decide) (by decide)) ⟨rfl, rfl, Nat.le_of_ble_eq_true rfl, Nat.le_of_ble_eq_true rfl⟩ rfl rfl (Nat.le_of_ble_eq_true rfl) dL_law_565 (fun r5 hr5 => ?_)
        obtain ⟨t6, ht6, et6⟩ := hr5
        refine g_eqi et6 ?_
        refine g_iadd hκ dL_law_568 ?_
        refine g_eqi (y := nI (1 + t6)) (nI_add 1 t6) ?_
        refine g_istore hκ [(10, .int (nI (1 + t6))), (9, .int (nI dn)), (8, .int (nI M)), (5, .int (nI i362)), (7, .int yv), (2, .int (nI fl1)), (3, .int (nI cnts1)), (4, .int told1), (0, .ref b), (1, .ref x)] dL_law_569 (by decide) rfl ?_
        refine g_aload_n hκ 9 dL_law_571 rfl rfl ?_
        refine g_iload hκ 0 dL_law_572 rfl ?_
        have hgw : gN (sz1 8 + 72) ≤ 108 * i362 + 109 := by unfold gN; omega
        refine vV_i hκ hz [.int (nI (1 + t6))] sd_X11_pass qw_585 (fun D cO H s hK hP => rc_Room hK hP hx) (k_pass e9 S1 x lo ta la M cnts1 told1 el1 sz1 cp1 pw dn (gN (sz1 8 + 72) + 16) (sz1 8 + 72) (1 + t6) hI (by omega) (by omega) (by omega) (by omega) (by omega) z7 (Nat.le_refl _) (by omega) (Nat.le_refl _) (by omega) (by omega) (by omega)) ⟨rfl, rfl, Nat.le_of_ble_eq_true rfl, Nat.le_of_ble_eq_true rfl⟩ rfl rfl (Nat.le_of_ble_eq_true rfl) dL_law_574 (by omega) (by omega) (fun r7 S8 hS8 => ?_)
        obtain ⟨e9r, el2, sz2, cp2, pw2, dn2, hI2, hg2, y7, y8, hd4, hd5, hA2⟩ := hS8
        have y0 := hg2.z (j := 0) (by decide) (by decide)
        have y2 := hg2.z (j := 2) (by decide) (by decide)
        have y3 := hg2.z (j := 3) (by decide) (by decide)
        have y4 := hg2.z (j := 4) (by decide) (by decide)
        have y5 := hg2.z (j := 5) (by decide) (by decide)
        refine g_eqi e9r ?_
        have hM := hI2.1.rm
        have hMc := hM
        obtain ⟨hx, ⟨f0, L0⟩, ⟨f1, L1⟩, ⟨f2, L2⟩, ⟨f3, L3⟩, ⟨f4, L4⟩, ⟨f5, L5⟩, ⟨f6, L6⟩, ⟨f7, L7⟩, ⟨f8, L8⟩, ⟨flo, hlo⟩, ⟨fta, hta⟩⟩ := hMc
        have b0 := L0.2.2.1
        have b2 := L2.2.2.1
        have b3 := L3.2.2.1
        have b4 := L4.2.2.1
        have b5 := L5.2.2.1
        have b7 := L7.2.2.1
        have b8 := L8.2.2.1
        have hSQ := (hI2.2.2.1).sq
        refine g_iload hκ 2 dL_law_577 rfl ?_
        refine g_iload hκ 0 dL_law_579 rfl ?_
        refine g_iadd hκ dL_law_581 ?_
        refine g_eqi (y := nI (M + (1 + t6))) (nI_add M (1 + t6)) ?_
        refine g_icmp_ne hκ 607 dL_law_582 (by decide) (fun z => absurd rfl z) (fun _ => ?_)
        refine g_aload_n hκ 9 dL_law_585 rfl rfl ?_
        refine g_bipush hκ (v := 19) dL_law_586 (by decide) ?_
        refine rV_i hκ (hdV hz) [.int 19] sd_X11_room qw_873 (fun D cO H s hK hP => rc_Room hK hP hx) (p_room_19 S8 x lo ta la el2 sz2 hM) ⟨rfl, rfl, Nat.le_of_ble_eq_true rfl, Nat.le_of_ble_eq_true rfl⟩ rfl rfl (Nat.le_of_ble_eq_true rfl) dL_law_588 (fun r9 hr9 => ?_)
        refine g_eqi (hr9.trans hI2.dnv) ?_
        refine g_iload hκ 1 dL_law_591 rfl ?_
        refine g_icmp_lt hκ 607 dL_law_593 (by decide) (fun z => absurd z (nI_nlt (by omega) (by omega))) (fun _ => ?_)
        refine g_aload_n hκ 9 dL_law_596 rfl rfl ?_
        refine g_iload_n hκ 5 dL_law_597 rfl rfl ?_
        refine g_iload_n hκ 6 dL_law_598 rfl rfl ?_
        refine g_iload hκ 7 dL_law_599 rfl ?_
        refine rS_i hκ (hdV hz) [.ref x, .int (nI fl1), .int (nI cnts1), .int told1] sd_L_isWell qw_1063 (k_isWell S8 e9 x lo ta la (M + (1 + t6)) cnts1 told1 el2 sz2 cp2 pw2 dn2 fl1 hI2 hA2 (by omega) (by omega) (by omega) (by omega)) ⟨rfl, rfl, Nat.le_of_ble_eq_true rfl, Nat.le_of_ble_eq_true rfl⟩ rfl rfl (Nat.le_of_ble_eq_true rfl) dL_law_601 (fun r10 hr10 => ?_)
        refine g_eqi (y := 1) hr10 ?_
        refine g_if_ne hκ 609 dL_law_604 (by decide) (fun _ => ?_) (fun z => absurd z (by decide))
        obtain ⟨v11, hv11⟩ : ∃ z : Int32, nI i362 + 1 = z := ⟨_, rfl⟩
        refine g_iinc hκ (k := 3) (v := v11) [(5, .int v11), (10, .int (nI (1 + t6))), (9, .int (nI dn)), (8, .int (nI M)), (7, .int yv), (2, .int (nI fl1)), (3, .int (nI cnts1)), (4, .int told1), (0, .ref b), (1, .ref x)] dL_law_609 rfl hv11 (by decide) rfl ?_
        refine g_goto hκ 362 dL_law_612 (by decide) ?_
        refine g_lv [(5, .int v11), (2, .int (nI fl1)), (3, .int (nI cnts1)), (4, .int told1), (0, .ref b), (1, .ref x)] [0, 5, 6, 7, 8, 9] rfl ?_
        refine g_wid (k2 := 300 * d362) (n2 := nnR d362) (by omega) (by omega) ?_
        exact ih362 (i362 + 1) v11 S8 el2 sz2 cp2 pw2 dn2 (M + (1 + t6)) cnts1 fl1 told1 (nI fl1) (nI cnts1) (by omega) (lp_s rfl hv11) (⟨hI2, by omega, by omega, by omega, by omega, by omega, by omega, by omega, by omega, by omega, by omega, by omega, rfl, rfl⟩)
      refine g_istore hκ [(7, .int yv), (6, .int xv), (5, .int (nI i362)), (2, .int (nI fl)), (3, .int (nI cnts)), (4, .int told), (0, .ref b), (1, .ref x)] dL_law_405 (by decide) rfl ?_
      refine g_iload hκ 1 dL_law_407 rfl ?_
      refine g_iconst hκ (v := 4) dL_law_409 (by decide) ?_
      refine rS_i hκ (hdV hz) [.int xv, .int 4] sd_L_below qw_1025 (k_below S xv 4 (by decide) (by decide)) ⟨rfl, rfl, Nat.le_of_ble_eq_true rfl, Nat.le_of_ble_eq_true rfl⟩ rfl rfl (Nat.le_of_ble_eq_true rfl) dL_law_410 (fun r12 hr12 => ?_)
      obtain ⟨t13, ht13, et13⟩ := hr12
      refine g_eqi et13 ?_
      refine g_if_ne hκ 523 dL_law_413 (by decide) (fun c14 => ?_) (fun c14 => ?_)
      · skip
        refine g_iload hκ 5 dL_law_523 rfl ?_
        refine g_aload_n hκ 7 dL_law_525 rfl rfl ?_
        refine g_iload hκ 1 dL_law_526 rfl ?_
        refine g_bipush hκ (v := 6) dL_law_528 (by decide) ?_
        refine rS_i hκ (hdV hz) [.int xv, .int 6] sd_L_below qw_1025 (k_below S xv 6 (by decide) (by decide)) ⟨rfl, rfl, Nat.le_of_ble_eq_true rfl, Nat.le_of_ble_eq_true rfl⟩ rfl rfl (Nat.le_of_ble_eq_true rfl) dL_law_530 (fun r15 hr15 => ?_)
        obtain ⟨t16, ht16, et16⟩ := hr15
        refine g_eqi et16 ?_
        refine g_iload hκ 1 dL_law_533 rfl ?_
        refine g_bipush hκ (v := 6) dL_law_535 (by decide) ?_
        refine g_idiv hκ dL_law_537 (by decide) ?_
        refine g_iload hκ 0 dL_law_538 rfl ?_
        refine vSW_i (nA := 4) hκ hz hX [.ref x, .int (nI t16), .int (xv / 6), .int yv] qw_1034 qw_0 qw_1035 (by decide +kernel) qw_1033 (k_acted e9 S x lo ta la M cnts told el sz cp pw pw dn (nI t16) (xv / 6) yv hI (by omega) (by omega)) ⟨rfl, rfl, Nat.le_of_ble_eq_true rfl, Nat.le_of_ble_eq_true rfl⟩ rfl rfl (Nat.le_of_ble_eq_true rfl) dL_law_540 (by omega) (by omega) (fun r17 S18 hS18 => ?_)
        refine g_iadd hκ dL_law_543 ?_
        refine g_eqi (y := told + r17) rfl ?_
        refine g_istore hκ [(4, .int (told + r17)), (7, .int yv), (6, .int xv), (5, .int (nI i362)), (2, .int (nI fl)), (3, .int (nI cnts)), (0, .ref b), (1, .ref x)] dL_law_544 (by decide) rfl ?_
        refine g_lv [(5, .int (nI i362)), (7, .int yv), (2, .int (nI fl)), (3, .int (nI cnts)), (4, .int (told + r17)), (0, .ref b), (1, .ref x)] [3, 1, 4, 5, 0, 6, 7] rfl ?_
        refine g_wid (k2 := 300 * d362 + 260) (n2 := nnR d362 + (7776 * (39 - d362) + 11210)) (by omega) (by omega) ?_
        exact J S18 el sz cp cnts fl (told + r17) ⟨hS18, z0, z2, z3, z4, z5, z12, z7, z8, hc9⟩
      · skip
        refine g_iload_n hκ 3 dL_law_416 rfl rfl ?_
        refine g_bipush hκ (v := 12) dL_law_417 (by decide) ?_
        refine g_icmp_ge hκ 523 dL_law_419 (by decide) (fun c19 => ?_) (fun c19 => ?_)
        · skip
          refine g_iload hκ 5 dL_law_523 rfl ?_
          refine g_aload_n hκ 7 dL_law_525 rfl rfl ?_
          refine g_iload hκ 1 dL_law_526 rfl ?_
          refine g_bipush hκ (v := 6) dL_law_528 (by decide) ?_
          refine rS_i hκ (hdV hz) [.int xv, .int 6] sd_L_below qw_1025 (k_below S xv 6 (by decide) (by decide)) ⟨rfl, rfl, Nat.le_of_ble_eq_true rfl, Nat.le_of_ble_eq_true rfl⟩ rfl rfl (Nat.le_of_ble_eq_true rfl) dL_law_530 (fun r20 hr20 => ?_)
          obtain ⟨t21, ht21, et21⟩ := hr20
          refine g_eqi et21 ?_
          refine g_iload hκ 1 dL_law_533 rfl ?_
          refine g_bipush hκ (v := 6) dL_law_535 (by decide) ?_
          refine g_idiv hκ dL_law_537 (by decide) ?_
          refine g_iload hκ 0 dL_law_538 rfl ?_
          refine vSW_i (nA := 4) hκ hz hX [.ref x, .int (nI t21), .int (xv / 6), .int yv] qw_1034 qw_0 qw_1035 (by decide +kernel) qw_1033 (k_acted e9 S x lo ta la M cnts told el sz cp pw pw dn (nI t21) (xv / 6) yv hI (by omega) (by omega)) ⟨rfl, rfl, Nat.le_of_ble_eq_true rfl, Nat.le_of_ble_eq_true rfl⟩ rfl rfl (Nat.le_of_ble_eq_true rfl) dL_law_540 (by omega) (by omega) (fun r22 S23 hS23 => ?_)
          refine g_iadd hκ dL_law_543 ?_
          refine g_eqi (y := told + r22) rfl ?_
          refine g_istore hκ [(4, .int (told + r22)), (7, .int yv), (6, .int xv), (5, .int (nI i362)), (2, .int (nI fl)), (3, .int (nI cnts)), (0, .ref b), (1, .ref x)] dL_law_544 (by decide) rfl ?_
          refine g_lv [(5, .int (nI i362)), (7, .int yv), (2, .int (nI fl)), (3, .int (nI cnts)), (4, .int (told + r22)), (0, .ref b), (1, .ref x)] [3, 1, 4, 5, 0, 6, 7] rfl ?_
          refine g_wid (k2 := 300 * d362 + 260) (n2 := nnR d362 + (7776 * (39 - d362) + 11210)) (by omega) (by omega) ?_
          exact J S23 el sz cp cnts fl (told + r22) ⟨hS23, z0, z2, z3, z4, z5, z12, z7, z8, hc9⟩
        · skip
          have hf12 := lt12 (by omega) c19
          refine g_iconst hκ (v := 1) dL_law_422 (by decide) ?_
          refine g_iload hκ 0 dL_law_423 rfl ?_
          refine g_bipush hκ (v := 99) dL_law_425 (by decide) ?_
          refine rS_i hκ (hdV hz) [.int yv, .int 99] sd_L_below qw_1025 (k_below S yv 99 (by decide) (by decide)) ⟨rfl, rfl, Nat.le_of_ble_eq_true rfl, Nat.le_of_ble_eq_true rfl⟩ rfl rfl (Nat.le_of_ble_eq_true rfl) dL_law_427 (fun r24 hr24 => ?_)
          obtain ⟨t25, ht25, et25⟩ := hr24
          refine g_eqi et25 ?_
          refine g_iadd hκ dL_law_430 ?_
          refine g_eqi (y := nI (1 + t25)) (nI_add 1 t25) ?_
          refine g_istore hκ [(8, .int (nI (1 + t25))), (7, .int yv), (6, .int xv), (5, .int (nI i362)), (2, .int (nI fl)), (3, .int (nI cnts)), (4, .int told), (0, .ref b), (1, .ref x)] dL_law_431 (by decide) rfl ?_
          refine g_aload_n hκ 8 dL_law_433 rfl rfl ?_
          refine g_iload hκ 1 dL_law_434 rfl ?_
          refine g_iconst hκ (v := 4) dL_law_436 (by decide) ?_
          refine rS_i hκ (hdV hz) [.int yv, .int 4] sd_L_below qw_1025 (k_below S yv 4 (by decide) (by decide)) ⟨rfl, rfl, Nat.le_of_ble_eq_true rfl, Nat.le_of_ble_eq_true rfl⟩ rfl rfl (Nat.le_of_ble_eq_true rfl) dL_law_437 (fun r26 hr26 => ?_)
          obtain ⟨t27, ht27, et27⟩ := hr26
          refine g_eqi et27 ?_
          have J2 : ∀ fo : Int32, (fo = 0 ∨ fo = 1) → Gj κ (PV κ S (300 * (d362 + 1)) (nnR (d362 + 1))) 448 [(8, .int (nI (1 + t25))), (7, .int yv), (6, .int xv), (5, .int (nI i362)), (2, .int (nI fl)), (3, .int (nI cnts)), (4, .int told), (0, .ref b), (1, .ref x)] (.int fo :: [.ref x]) := by
            intro fo hzfo
            refine g_bipush hκ (v := 40) dL_law_448 (by decide) ?_
            refine g_iload hκ 2 dL_law_450 rfl ?_
            refine g_bipush hκ (v := 120) dL_law_452 (by decide) ?_
            refine rS_i hκ (hdV hz) [.int xv, .int 120] sd_L_below qw_1025 (k_below S xv 120 (by decide) (by decide)) ⟨rfl, rfl, Nat.le_of_ble_eq_true rfl, Nat.le_of_ble_eq_true rfl⟩ rfl rfl (Nat.le_of_ble_eq_true rfl) dL_law_454 (fun r28 hr28 => ?_)
            obtain ⟨t29, ht29, et29⟩ := hr28
            refine g_eqi et29 ?_
            refine g_iadd hκ dL_law_457 ?_
            refine g_eqi (y := nI (40 + t29)) (nI_add 40 t29) ?_
            refine g_bipush hκ (v := 40) dL_law_458 (by decide) ?_
            refine g_iload hκ 1 dL_law_460 rfl ?_
            refine g_bipush hκ (v := 120) dL_law_462 (by decide) ?_
            refine rS_i hκ (hdV hz) [.int yv, .int 120] sd_L_below qw_1025 (k_below S yv 120 (by decide) (by decide)) ⟨rfl, rfl, Nat.le_of_ble_eq_true rfl, Nat.le_of_ble_eq_true rfl⟩ rfl rfl (Nat.le_of_ble_eq_true rfl) dL_law_464 (fun r30 hr30 => ?_)
            obtain ⟨t31, ht31, et31⟩ := hr30
            refine g_eqi et31 ?_
            refine g_iadd hκ dL_law_467 ?_
            refine g_eqi (y := nI (40 + t31)) (nI_add 40 t31) ?_
            refine g_iload hκ 2 dL_law_468 rfl ?_
            refine g_bipush hκ (v := 120) dL_law_470 (by decide) ?_
            refine g_idiv hκ dL_law_472 (by decide) ?_
            refine g_bipush hκ (v := 11) dL_law_473 (by decide) ?_
            refine rS_i hκ (hdV hz) [.int (xv / 120), .int 11] sd_L_below qw_1025 (k_below S (xv / 120) 11 (by decide) (by decide)) ⟨rfl, rfl, Nat.le_of_ble_eq_true rfl, Nat.le_of_ble_eq_true rfl⟩ rfl rfl (Nat.le_of_ble_eq_true rfl) dL_law_475 (fun r32 hr32 => ?_)
            obtain ⟨t33, ht33, et33⟩ := hr32
            refine g_eqi et33 ?_
            refine g_iconst hκ (v := 5) dL_law_478 (by decide) ?_
            refine g_isub hκ dL_law_479 ?_
            refine g_iload hκ 1 dL_law_480 rfl ?_
            refine g_bipush hκ (v := 120) dL_law_482 (by decide) ?_
            refine g_idiv hκ dL_law_484 (by decide) ?_
            refine g_bipush hκ (v := 11) dL_law_485 (by decide) ?_
            refine rS_i hκ (hdV hz) [.int (yv / 120), .int 11] sd_L_below qw_1025 (k_below S (yv / 120) 11 (by decide) (by decide)) ⟨rfl, rfl, Nat.le_of_ble_eq_true rfl, Nat.le_of_ble_eq_true rfl⟩ rfl rfl (Nat.le_of_ble_eq_true rfl) dL_law_487 (fun r34 hr34 => ?_)
            obtain ⟨t35, ht35, et35⟩ := hr34
            refine g_eqi et35 ?_
            refine g_iconst hκ (v := 5) dL_law_490 (by decide) ?_
            refine g_isub hκ dL_law_491 ?_
            refine g_iconst hκ (v := 1) dL_law_492 (by decide) ?_
            refine g_iload hκ 2 dL_law_493 rfl ?_
            refine g_bipush hκ (v := 9) dL_law_495 (by decide) ?_
            refine rS_i hκ (hdV hz) [.int xv, .int 9] sd_L_below qw_1025 (k_below S xv 9 (by decide) (by decide)) ⟨rfl, rfl, Nat.le_of_ble_eq_true rfl, Nat.le_of_ble_eq_true rfl⟩ rfl rfl (Nat.le_of_ble_eq_true rfl) dL_law_497 (fun r36 hr36 => ?_)
            obtain ⟨t37, ht37, et37⟩ := hr36
            refine g_eqi et37 ?_
            refine g_iadd hκ dL_law_500 ?_
            refine g_eqi (y := nI (1 + t37)) (nI_add 1 t37) ?_
            refine g_iload hκ 0 dL_law_501 rfl ?_
            have hs12 : sz 5 < 12 := by omega
            refine vV_i hκ hz [.int fo, .int (nI (40 + t29)), .int (nI (40 + t31)), .int ((nI t33) - 5), .int ((nI t35) - 5), .int (nI (1 + t37)), .int (nI (1 + t25))] sd_X11_flight qw_544 (fun D cO H s hK hP => rc_Room hK hP hx) (k_flight e9 S x lo ta la M cnts told el sz cp pw pw dn fo (nI (40 + t29)) (nI (40 + t31)) ((nI t33) - 5) ((nI t35) - 5) (nI (1 + t37)) (1 + t25) hI hzfo (pl_mk (by omega) (by omega)) (course_t ht33 ht35) (isIn_b (a := 1) (b := 9) (by omega) (by omega) (by decide)) (isIn_b (a := 1) (b := 99) (by omega) (by omega) (by decide)) (by omega) (by omega) hs12) ⟨rfl, rfl, Nat.le_of_ble_eq_true rfl, Nat.le_of_ble_eq_true rfl⟩ rfl rfl (Nat.le_of_ble_eq_true rfl) dL_law_503 (by omega) (by omega) (fun r38 S39 hS39 => ?_)
            obtain ⟨e9r, el1, sz1, cp1, hI9, hg9, -⟩ := hS39
            refine g_eqi (e9r.trans (congrArg nI z5)) ?_
            have q5 := hg9.2
            have q0 := (hg9.1 0 (by decide)).2
            have q2 := (hg9.1 2 (by decide)).2
            have q3 := (hg9.1 3 (by decide)).2
            have q4 := (hg9.1 4 (by decide)).2
            have q7 := (hg9.1 7 (by decide)).2
            have q8 := (hg9.1 8 (by decide)).2
            refine g_iload_n hκ 4 dL_law_506 rfl rfl ?_
            refine g_icmp_eq hκ 512 dL_law_507 (by decide) (fun _ => ?_) (fun z => absurd rfl z)
            refine g_iinc hκ (k := 4) (v := nI (fl + 1)) [(2, .int (nI (fl + 1))), (8, .int (nI (1 + t25))), (7, .int yv), (6, .int xv), (5, .int (nI i362)), (3, .int (nI cnts)), (4, .int told), (0, .ref b), (1, .ref x)] dL_law_512 rfl (nI_1 fl) (by decide) rfl ?_
            refine g_iload_n hκ 5 dL_law_515 rfl rfl ?_
            refine g_iload hκ 1 dL_law_516 rfl ?_
            refine g_iadd hκ dL_law_518 ?_
            refine g_eqi (y := nI (cnts + (1 + t25))) (nI_add cnts (1 + t25)) ?_
            refine g_istore_n hκ [(3, .int (nI (cnts + (1 + t25)))), (2, .int (nI (fl + 1))), (8, .int (nI (1 + t25))), (7, .int yv), (6, .int xv), (5, .int (nI i362)), (4, .int told), (0, .ref b), (1, .ref x)] dL_law_519 rfl (by decide) rfl ?_
            refine g_goto hκ 546 dL_law_520 (by decide) ?_
            refine g_lv [(5, .int (nI i362)), (7, .int yv), (2, .int (nI (fl + 1))), (3, .int (nI (cnts + (1 + t25)))), (4, .int told), (0, .ref b), (1, .ref x)] [5, 3, 1, 0, 6, 7, 8] rfl ?_
            refine g_wid (k2 := 300 * d362 + 260) (n2 := nnR d362 + (7776 * (39 - d362) + 11210)) (by omega) (by omega) ?_
            exact J S39 el1 sz1 cp1 (cnts + ((1 + t25))) (fl + 1) told ⟨hI9, by omega, by omega, by omega, by omega, by omega, by omega, by omega, by omega, by omega⟩
          refine g_if_le hκ 447 dL_law_440 (by decide) (fun c40 => ?_) (fun c40 => ?_)
          · skip
            refine g_iconst hκ (v := 0) dL_law_447 (by decide) ?_
            exact J2 0 (Or.inl rfl)
          · skip
            refine g_iconst hκ (v := 1) dL_law_443 (by decide) ?_
            refine g_goto hκ 448 dL_law_444 (by decide) ?_
            exact J2 1 (Or.inr rfl)
  refine g_wid (k2 := 300 * 40) (n2 := nnR 40) (by omega) (by omega) ?_
  exact loop362 40 0 0 S el sz cp pw dn M cnts fl told (nI fl) (nI cnts) (by omega) (by first | rfl | decide) (⟨hI, z0, z2, z3, z4, z5, z12, z7, z8, by omega, by omega, by omega, rfl, rfl⟩)
