set_option maxHeartbeats 4000000 in
set_option maxRecDepth 100000 in
theorem L_new {κ : KX} {e9 : Nat × Nat} {b L : Nat} {xs : Nat → Int32} (hκ : Cx cL_law 11 RL room_1 κ) (hz : Vz e9 κ) (hX : XZ κ) (hs9 : Scr b L xs κ) (hL : L ≤ 260) (hend : LE cL_law κ) : Gj κ (PV κ ([], fun _ => 0, fun _ _ => 0, fun _ _ => none, fun _ => 0, fun _ _ => none) 600064 7301640) 0 [(0, .ref b)] [] := by
  refine gn_Room hκ hz qw_27 qw_28 qw_1 (by omega) (by omega) dL_law_0 (fun a1 fa1 => ?_)
  refine g_dup hκ dL_law_3 rfl ?_
  refine vI_v hκ hz [] sd_X11_init qw_29 (k_init_Room e9 (newS ([], fun _ => 0, fun _ _ => 0, fun _ _ => none, fun _ => 0, fun _ _ => none) a1 10 0) a1 (nw_at fa1) (if_pos rfl) (if_pos rfl)) ⟨rfl, rfl, Nat.le_of_ble_eq_true rfl, Nat.le_of_ble_eq_true rfl⟩ rfl rfl (Nat.le_of_ble_eq_true rfl) dL_law_4 (by omega) (by omega) (fun S3 hS3 => ?_)
  obtain ⟨lo, ta, la, hI, hlo9⟩ := hS3
  obtain ⟨el, sz, cp, hI0, z0, z1, z2, z3, z4, z5, z7, z8⟩ : ∃ (el : Nat → Nat → Nat) (sz cp : Nat → Nat), IV e9 a1 lo ta la 0 0 0 S3 el sz cp 0 0 0 ∧ sz 0 = 0 ∧ sz 1 = 0 ∧ sz 2 = 0 ∧ sz 3 = 0 ∧ sz 4 = 0 ∧ sz 5 = 0 ∧ sz 7 = 0 ∧ sz 8 = 0 := ⟨_, _, _, hI, rfl, rfl, rfl, rfl, rfl, rfl, rfl, rfl⟩
  have hM := hI0.1.rm
  have hMc := hM
  obtain ⟨hx, ⟨f0, L0⟩, ⟨f1, L1⟩, ⟨f2, L2⟩, ⟨f3, L3⟩, ⟨f4, L4⟩, ⟨f5, L5⟩, ⟨f6, L6⟩, ⟨f7, L7⟩, ⟨f8, L8⟩, ⟨flo, hlo⟩, ⟨fta, hta⟩⟩ := hMc
  have b0 := L0.2.2.1
  have b2 := L2.2.2.1
  have b3 := L3.2.2.1
  have b4 := L4.2.2.1
  have b5 := L5.2.2.1
  have b7 := L7.2.2.1
  have b8 := L8.2.2.1
  refine g_astore_n hκ [(1, .ref a1), (0, .ref b)] dL_law_7 rfl (by decide) rfl ?_
  refine g_aload_n hκ 0 dL_law_8 rfl rfl ?_
  refine g_bipush hκ (v := 100) dL_law_9 (by decide) ?_
  refine g_bipush hκ (v := 100) dL_law_11 (by decide) ?_
  refine g_bipush hκ (v := 100) dL_law_13 (by decide) ?_
  refine g_aload_n hκ 1 dL_law_15 rfl rfl ?_
  refine g_iconst hκ (v := 0) dL_law_16 (by decide) ?_
  refine g_cell hκ hz hs9 (j := 0) (by omega) hL qw_1029 ⟨rfl, rfl, Nat.le_of_ble_eq_true rfl, Nat.le_of_ble_eq_true rfl⟩ (Nat.le_of_ble_eq_true rfl) dL_law_17 (fun r4 => ?_)
  refine g_iconst hκ (v := 5) dL_law_20 (by decide) ?_
  refine rS_i hκ (hdV hz) [.int r4, .int 5] sd_L_below qw_1025 (k_below S3 r4 5 (by decide) (by decide)) ⟨rfl, rfl, Nat.le_of_ble_eq_true rfl, Nat.le_of_ble_eq_true rfl⟩ rfl rfl (Nat.le_of_ble_eq_true rfl) dL_law_21 (fun r5 hr5 => ?_)
  obtain ⟨t6, ht6, et6⟩ := hr5
  refine g_eqi et6 ?_
  refine g_aload_n hκ 1 dL_law_24 rfl rfl ?_
  refine g_iconst hκ (v := 1) dL_law_25 (by decide) ?_
  refine g_cell hκ hz hs9 (j := 1) (by omega) hL qw_1029 ⟨rfl, rfl, Nat.le_of_ble_eq_true rfl, Nat.le_of_ble_eq_true rfl⟩ (Nat.le_of_ble_eq_true rfl) dL_law_26 (fun r7 => ?_)
  refine g_bipush hκ (v := 10) dL_law_29 (by decide) ?_
  refine rS_i hκ (hdV hz) [.int r7, .int 10] sd_L_below qw_1025 (k_below S3 r7 10 (by decide) (by decide)) ⟨rfl, rfl, Nat.le_of_ble_eq_true rfl, Nat.le_of_ble_eq_true rfl⟩ rfl rfl (Nat.le_of_ble_eq_true rfl) dL_law_31 (fun r8 hr8 => ?_)
  obtain ⟨t9, ht9, et9⟩ := hr8
  refine g_eqi et9 ?_
  refine g_aload_n hκ 1 dL_law_34 rfl rfl ?_
  refine g_iconst hκ (v := 2) dL_law_35 (by decide) ?_
  refine g_cell hκ hz hs9 (j := 2) (by omega) hL qw_1029 ⟨rfl, rfl, Nat.le_of_ble_eq_true rfl, Nat.le_of_ble_eq_true rfl⟩ (Nat.le_of_ble_eq_true rfl) dL_law_36 (fun r10 => ?_)
  refine g_bipush hκ (v := 6) dL_law_39 (by decide) ?_
  refine rS_i hκ (hdV hz) [.int r10, .int 6] sd_L_below qw_1025 (k_below S3 r10 6 (by decide) (by decide)) ⟨rfl, rfl, Nat.le_of_ble_eq_true rfl, Nat.le_of_ble_eq_true rfl⟩ rfl rfl (Nat.le_of_ble_eq_true rfl) dL_law_41 (fun r11 hr11 => ?_)
  obtain ⟨t12, ht12, et12⟩ := hr11
  refine g_eqi et12 ?_
  refine vV_i hκ hz [.int 100, .int 100, .int 100, .int (nI t6), .int (nI t9), .int (nI t12)] sd_X11_mast qw_149 (fun D cO H s hK hP => rc_Room hK hP hx) (k_mast e9 S3 a1 lo ta la 0 0 0 el sz cp 0 0 0 100 100 100 (nI t6) (nI t12) t9 hI0 (by decide) (by decide) (isIn_b (a := 0) (b := 9) (by omega) (by omega) (by decide)) (isIn_b (a := 0) (b := 9) (by omega) (by omega) (by decide)) (isIn_b (a := 0) (b := 5) (by omega) (by omega) (by decide)) (by omega) (by omega)) ⟨rfl, rfl, Nat.le_of_ble_eq_true rfl, Nat.le_of_ble_eq_true rfl⟩ rfl rfl (Nat.le_of_ble_eq_true rfl) dL_law_44 (by omega) (by omega) (fun r13 S14 hS14 => ?_)
  obtain ⟨e9r, el1, sz1, cp1, hI1, hg9, hch9⟩ := hS14
  have hlo1 := lost_ch hch9 hI0.1.ta_ob.1 hlo9
  have z10 := hg9.2
  have z11 := (hg9.1 1 (by decide)).2
  have z12 := (hg9.1 2 (by decide)).2
  have z13 := (hg9.1 3 (by decide)).2
  have z14 := (hg9.1 4 (by decide)).2
  have z15 := (hg9.1 5 (by decide)).2
  have z17 := (hg9.1 7 (by decide)).2
  have z18 := (hg9.1 8 (by decide)).2
  have hM := hI1.1.rm
  have hMc := hM
  obtain ⟨hx, ⟨f0, L0⟩, ⟨f1, L1⟩, ⟨f2, L2⟩, ⟨f3, L3⟩, ⟨f4, L4⟩, ⟨f5, L5⟩, ⟨f6, L6⟩, ⟨f7, L7⟩, ⟨f8, L8⟩, ⟨flo, hlo⟩, ⟨fta, hta⟩⟩ := hMc
  have b0 := L0.2.2.1
  have b2 := L2.2.2.1
  have b3 := L3.2.2.1
  have b4 := L4.2.2.1
  have b5 := L5.2.2.1
  have b7 := L7.2.2.1
  have b8 := L8.2.2.1
  refine g_eqi e9r ?_
  refine g_pop hκ dL_law_47 rfl ?_
  refine g_aload_n hκ 0 dL_law_48 rfl rfl ?_
  refine g_bipush hκ (v := 60) dL_law_49 (by decide) ?_
  refine g_bipush hκ (v := 60) dL_law_51 (by decide) ?_
  refine g_bipush hκ (v := 90) dL_law_53 (by decide) ?_
  refine g_iconst hκ (v := 0) dL_law_55 (by decide) ?_
  refine g_aload_n hκ 1 dL_law_56 rfl rfl ?_
  refine g_iconst hκ (v := 3) dL_law_57 (by decide) ?_
  refine g_cell hκ hz hs9 (j := 3) (by omega) hL qw_1029 ⟨rfl, rfl, Nat.le_of_ble_eq_true rfl, Nat.le_of_ble_eq_true rfl⟩ (Nat.le_of_ble_eq_true rfl) dL_law_58 (fun r15 => ?_)
  refine g_bipush hκ (v := 10) dL_law_61 (by decide) ?_
  refine rS_i hκ (hdV hz) [.int r15, .int 10] sd_L_below qw_1025 (k_below S14 r15 10 (by decide) (by decide)) ⟨rfl, rfl, Nat.le_of_ble_eq_true rfl, Nat.le_of_ble_eq_true rfl⟩ rfl rfl (Nat.le_of_ble_eq_true rfl) dL_law_63 (fun r16 hr16 => ?_)
  obtain ⟨t17, ht17, et17⟩ := hr16
  refine g_eqi et17 ?_
  refine g_aload_n hκ 1 dL_law_66 rfl rfl ?_
  refine g_iconst hκ (v := 4) dL_law_67 (by decide) ?_
  refine g_cell hκ hz hs9 (j := 4) (by omega) hL qw_1029 ⟨rfl, rfl, Nat.le_of_ble_eq_true rfl, Nat.le_of_ble_eq_true rfl⟩ (Nat.le_of_ble_eq_true rfl) dL_law_68 (fun r18 => ?_)
  refine g_bipush hκ (v := 6) dL_law_71 (by decide) ?_
  refine rS_i hκ (hdV hz) [.int r18, .int 6] sd_L_below qw_1025 (k_below S14 r18 6 (by decide) (by decide)) ⟨rfl, rfl, Nat.le_of_ble_eq_true rfl, Nat.le_of_ble_eq_true rfl⟩ rfl rfl (Nat.le_of_ble_eq_true rfl) dL_law_73 (fun r19 hr19 => ?_)
  obtain ⟨t20, ht20, et20⟩ := hr19
  refine g_eqi et20 ?_
  refine vV_i hκ hz [.int 60, .int 60, .int 90, .int 0, .int (nI t17), .int (nI t20)] sd_X11_mast qw_149 (fun D cO H s hK hP => rc_Room hK hP hx) (k_mast e9 S14 a1 lo ta la 0 0 0 el1 sz1 cp1 0 0 0 60 60 90 0 (nI t20) t17 hI1 (by decide) (by decide) (by decide) (isIn_b (a := 0) (b := 9) (by omega) (by omega) (by decide)) (isIn_b (a := 0) (b := 5) (by omega) (by omega) (by decide)) (by omega) (by omega)) ⟨rfl, rfl, Nat.le_of_ble_eq_true rfl, Nat.le_of_ble_eq_true rfl⟩ rfl rfl (Nat.le_of_ble_eq_true rfl) dL_law_76 (by omega) (by omega) (fun r21 S22 hS22 => ?_)
  obtain ⟨e9r, el2, sz2, cp2, hI2, hg9, hch9⟩ := hS22
  have hlo2 := lost_ch hch9 hI1.1.ta_ob.1 hlo1
  have z20 := hg9.2
  have z21 := (hg9.1 1 (by decide)).2
  have z22 := (hg9.1 2 (by decide)).2
  have z23 := (hg9.1 3 (by decide)).2
  have z24 := (hg9.1 4 (by decide)).2
  have z25 := (hg9.1 5 (by decide)).2
  have z27 := (hg9.1 7 (by decide)).2
  have z28 := (hg9.1 8 (by decide)).2
  have hM := hI2.1.rm
  have hMc := hM
  obtain ⟨hx, ⟨f0, L0⟩, ⟨f1, L1⟩, ⟨f2, L2⟩, ⟨f3, L3⟩, ⟨f4, L4⟩, ⟨f5, L5⟩, ⟨f6, L6⟩, ⟨f7, L7⟩, ⟨f8, L8⟩, ⟨flo, hlo⟩, ⟨fta, hta⟩⟩ := hMc
  have b0 := L0.2.2.1
  have b2 := L2.2.2.1
  have b3 := L3.2.2.1
  have b4 := L4.2.2.1
  have b5 := L5.2.2.1
  have b7 := L7.2.2.1
  have b8 := L8.2.2.1
  refine g_eqi e9r ?_
  refine g_pop hκ dL_law_79 rfl ?_
  refine g_aload_n hκ 0 dL_law_80 rfl rfl ?_
  refine g_bipush hκ (v := 100) dL_law_81 (by decide) ?_
  refine g_bipush hκ (v := 100) dL_law_83 (by decide) ?_
  refine vV_i hκ hz [.int 100, .int 100] sd_X11_station qw_401 (fun D cO H s hK hP => rc_Room hK hP hx) (k_station e9 S22 a1 lo ta la 0 0 0 el2 sz2 cp2 0 0 0 100 100 hI2 (by decide) (by omega) (fun i hi => absurd hi (by omega))) ⟨rfl, rfl, Nat.le_of_ble_eq_true rfl, Nat.le_of_ble_eq_true rfl⟩ rfl rfl (Nat.le_of_ble_eq_true rfl) dL_law_85 (by omega) (by omega) (fun r23 S24 hS24 => ?_)
  obtain ⟨e9r, el3, sz3, cp3, hI3, hg9, hPL3, hch9⟩ := hS24
  have hlo3 := lost_ch hch9 hI2.1.ta_ob.1 hlo2
  have z30 := (hg9.1 0 (by decide)).2
  have z31 := hg9.2
  have z32 := (hg9.1 2 (by decide)).2
  have z33 := (hg9.1 3 (by decide)).2
  have z34 := (hg9.1 4 (by decide)).2
  have z35 := (hg9.1 5 (by decide)).2
  have z37 := (hg9.1 7 (by decide)).2
  have z38 := (hg9.1 8 (by decide)).2
  have hM := hI3.1.rm
  have hMc := hM
  obtain ⟨hx, ⟨f0, L0⟩, ⟨f1, L1⟩, ⟨f2, L2⟩, ⟨f3, L3⟩, ⟨f4, L4⟩, ⟨f5, L5⟩, ⟨f6, L6⟩, ⟨f7, L7⟩, ⟨f8, L8⟩, ⟨flo, hlo⟩, ⟨fta, hta⟩⟩ := hMc
  have b0 := L0.2.2.1
  have b2 := L2.2.2.1
  have b3 := L3.2.2.1
  have b4 := L4.2.2.1
  have b5 := L5.2.2.1
  have b7 := L7.2.2.1
  have b8 := L8.2.2.1
  refine g_eqi e9r ?_
  refine g_pop hκ dL_law_88 rfl ?_
  refine g_aload_n hκ 0 dL_law_89 rfl rfl ?_
  refine g_bipush hκ (v := 60) dL_law_90 (by decide) ?_
  refine g_aload_n hκ 1 dL_law_92 rfl rfl ?_
  refine g_iconst hκ (v := 5) dL_law_93 (by decide) ?_
  refine g_cell hκ hz hs9 (j := 5) (by omega) hL qw_1029 ⟨rfl, rfl, Nat.le_of_ble_eq_true rfl, Nat.le_of_ble_eq_true rfl⟩ (Nat.le_of_ble_eq_true rfl) dL_law_94 (fun r25 => ?_)
  refine g_bipush hκ (v := 90) dL_law_97 (by decide) ?_
  refine rS_i hκ (hdV hz) [.int r25, .int 90] sd_L_below qw_1025 (k_below S24 r25 90 (by decide) (by decide)) ⟨rfl, rfl, Nat.le_of_ble_eq_true rfl, Nat.le_of_ble_eq_true rfl⟩ rfl rfl (Nat.le_of_ble_eq_true rfl) dL_law_99 (fun r26 hr26 => ?_)
  obtain ⟨t27, ht27, et27⟩ := hr26
  refine g_eqi et27 ?_
  refine g_iadd hκ dL_law_102 ?_
  refine g_eqi (y := nI (60 + t27)) (nI_add 60 t27) ?_
  refine g_bipush hκ (v := 60) dL_law_103 (by decide) ?_
  refine g_aload_n hκ 1 dL_law_105 rfl rfl ?_
  refine g_bipush hκ (v := 6) dL_law_106 (by decide) ?_
  refine g_cell hκ hz hs9 (j := 6) (by omega) hL qw_1029 ⟨rfl, rfl, Nat.le_of_ble_eq_true rfl, Nat.le_of_ble_eq_true rfl⟩ (Nat.le_of_ble_eq_true rfl) dL_law_108 (fun r28 => ?_)
  refine g_bipush hκ (v := 90) dL_law_111 (by decide) ?_
  refine rS_i hκ (hdV hz) [.int r28, .int 90] sd_L_below qw_1025 (k_below S24 r28 90 (by decide) (by decide)) ⟨rfl, rfl, Nat.le_of_ble_eq_true rfl, Nat.le_of_ble_eq_true rfl⟩ rfl rfl (Nat.le_of_ble_eq_true rfl) dL_law_113 (fun r29 hr29 => ?_)
  obtain ⟨t30, ht30, et30⟩ := hr29
  refine g_eqi et30 ?_
  refine g_iadd hκ dL_law_116 ?_
  refine g_eqi (y := nI (60 + t30)) (nI_add 60 t30) ?_
  refine vV_i hκ hz [.int (nI (60 + t27)), .int (nI (60 + t30))] sd_X11_station qw_401 (fun D cO H s hK hP => rc_Room hK hP hx) (k_station e9 S24 a1 lo ta la 0 0 0 el3 sz3 cp3 0 0 0 (nI (60 + t27)) (nI (60 + t30)) hI3 (pl_mk (by omega) (by omega)) (by omega) hPL3) ⟨rfl, rfl, Nat.le_of_ble_eq_true rfl, Nat.le_of_ble_eq_true rfl⟩ rfl rfl (Nat.le_of_ble_eq_true rfl) dL_law_117 (by omega) (by omega) (fun r31 S32 hS32 => ?_)
  obtain ⟨e9r, el4, sz4, cp4, hI4, hg9, hPL4, hch9⟩ := hS32
  have hlo4 := lost_ch hch9 hI3.1.ta_ob.1 hlo3
  have z40 := (hg9.1 0 (by decide)).2
  have z41 := hg9.2
  have z42 := (hg9.1 2 (by decide)).2
  have z43 := (hg9.1 3 (by decide)).2
  have z44 := (hg9.1 4 (by decide)).2
  have z45 := (hg9.1 5 (by decide)).2
  have z47 := (hg9.1 7 (by decide)).2
  have z48 := (hg9.1 8 (by decide)).2
  have hM := hI4.1.rm
  have hMc := hM
  obtain ⟨hx, ⟨f0, L0⟩, ⟨f1, L1⟩, ⟨f2, L2⟩, ⟨f3, L3⟩, ⟨f4, L4⟩, ⟨f5, L5⟩, ⟨f6, L6⟩, ⟨f7, L7⟩, ⟨f8, L8⟩, ⟨flo, hlo⟩, ⟨fta, hta⟩⟩ := hMc
  have b0 := L0.2.2.1
  have b2 := L2.2.2.1
  have b3 := L3.2.2.1
  have b4 := L4.2.2.1
  have b5 := L5.2.2.1
  have b7 := L7.2.2.1
  have b8 := L8.2.2.1
  refine g_eqi e9r ?_
  refine g_pop hκ dL_law_120 rfl ?_
  refine g_lv [(0, .ref b), (1, .ref a1)] [1, 0] rfl ?_
  refine g_wid (k2 := 12110) (n2 := 6516200) (by omega) (by omega) ?_
  exact L_sqs hκ hz hX hs9 hL hend S32 a1 lo ta la 0 el4 sz4 cp4 hI4 hlo4 hPL4 (by omega) (by omega) (by omega) (by omega) (by omega) (by omega) (by omega) (by omega)
/-- from the entry, for every script of at most 260 ints, the law comes to its end with true -/
theorem whole_start {p : Program} {e : Env} {s : State} {m : MethodId} {below : List Frame} {meth : Method} {c : Code} (l : Launch) (hflags : l.flags = flags0) {b L : Nat} {xs : Nat → Int32} (hL : L ≤ 260) (C0 : lw_At p s m meth c b L xs) : W p l e room_1 s m #[Value.ref b] below meth c s.heap [] 0 0 (lw_Z below #[Value.ref b] s) (entryFrame m ([Value.ref b] : List Value).toArray 11) :=
  law_start l hflags hL C0 (fun κ e9 hκ hz hX hs9 hend => L_new hκ hz hX hs9 hL hend)
