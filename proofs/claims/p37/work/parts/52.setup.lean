set_option maxHeartbeats 4000000 in
set_option maxRecDepth 100000 in
theorem L_told {κ : KX} {e9 : Nat × Nat} {b L : Nat} {xs : Nat → Int32} (hκ : Cx cL_law 11 RL room_1 κ) (hz : Vz e9 κ) (hX : XZ κ) (hs9 : Scr b L xs κ) (hL : L ≤ 260) (hend : LE cL_law κ) (S : wPS) (x lo ta : Nat) (la : Nat → Nat) (told : Int32) (el : Nat → Nat → Nat) (sz cp : Nat → Nat) (hI : IV e9 x lo ta la 0 0 told S el sz cp 0 0 0) (hlo9 : sI S q_Tally_machinesLost ta = 0) (z0 : sz 0 = 2) (z2 : sz 2 = 5) (z3 : sz 3 = 3) (z4 : sz 4 = 3) (z5 : sz 5 = 0) (z7 : sz 7 = 0) (z8 : sz 8 = 0) : Gj κ (PV κ S (300 * 40) (nnR 40)) 325 [(0, .ref b), (1, .ref x)] [] := by
  show Gj κ _ 325 [(0, .ref b), (1, .ref x)] []
  refine g_iconst hκ (v := 0) dL_law_325 (by decide) ?_
  refine g_istore_n hκ [(2, .int 0), (0, .ref b), (1, .ref x)] dL_law_326 rfl (by decide) rfl ?_
  refine g_iconst hκ (v := 0) dL_law_327 (by decide) ?_
  refine g_istore_n hκ [(3, .int 0), (2, .int 0), (0, .ref b), (1, .ref x)] dL_law_328 rfl (by decide) rfl ?_
  refine g_iconst hκ (v := 0) dL_law_329 (by decide) ?_
  refine g_istore hκ [(4, .int 0), (3, .int 0), (2, .int 0), (0, .ref b), (1, .ref x)] dL_law_330 (by decide) rfl ?_
  refine g_iconst hκ (v := 0) dL_law_332 (by decide) ?_
  refine g_istore hκ [(5, .int 0), (4, .int 0), (3, .int 0), (2, .int 0), (0, .ref b), (1, .ref x)] dL_law_333 (by decide) rfl ?_
  have loop335 : ∀ (d335 i335 : Nat) (x335 : Int32) (S : wPS) (a4 : Int32), i335 + d335 = 5 → x335 = nI i335 → (IV e9 x lo ta la 0 0 told S el sz cp 0 0 0 ∧ sI S q_Tally_machinesLost ta = 0 ∧ a4 = sumR (fun i => sI S q_Squadron_machines (el 2 i)) i335 0 0) → Gj κ (PV κ S (300 * 40) (nnR 40)) 335 [(5, .int x335), (4, .int a4), (3, .int 0), (2, .int 0), (0, .ref b), (1, .ref x)] [] := by
    intro d335
    induction d335 with
    | zero =>
      intro i335 x335 S a4 hi335 hx335 hI
      subst hx335
      obtain ⟨hI, hlo9, ha4⟩ := hI
      have hM := hI.1.rm
      have hMc := hM
      obtain ⟨hx, ⟨f0, L0⟩, ⟨f1, L1⟩, ⟨f2, L2⟩, ⟨f3, L3⟩, ⟨f4, L4⟩, ⟨f5, L5⟩, ⟨f6, L6⟩, ⟨f7, L7⟩, ⟨f8, L8⟩, ⟨flo, hlo⟩, ⟨fta, hta⟩⟩ := hMc
      have b0 := L0.2.2.1
      have b2 := L2.2.2.1
      have b3 := L3.2.2.1
      have b4 := L4.2.2.1
      have b5 := L5.2.2.1
      have b7 := L7.2.2.1
      have b8 := L8.2.2.1
      have hSQ := (hI.2.2.1).sq
      refine g_iload hκ 0 dL_law_335 rfl ?_
      refine g_iconst hκ (v := 5) dL_law_337 (by decide) ?_
      refine g_icmp_ge hκ 359 dL_law_338 (by decide) (fun _ => ?_) (fun z => absurd (show (5 : Int32) ≤ nI i335 from nI_le (a := 5) (by omega) (by omega)) z)
      refine g_iconst hκ (v := 0) dL_law_359 (by decide) ?_
      refine g_istore hκ [(5, .int 0), (4, .int a4), (3, .int 0), (2, .int 0), (0, .ref b), (1, .ref x)] dL_law_360 (by decide) rfl ?_
      have e5 : i335 = 5 := by omega
      have eT := told_eq (a := a4) hI.2.2.2.2.2.2.2.2.2.1 hlo9 z2 (by rw [ha4, e5])
      have hI9 : IV e9 x lo ta la 0 0 a4 S el sz cp 0 0 0 := by rw [eT]; exact hI
      refine g_lv [(5, .int 0), (2, .int (nI 0)), (3, .int (nI 0)), (4, .int a4), (0, .ref b), (1, .ref x)] [0, 3, 2, 1, 4, 5] rfl ?_
      exact L_main hκ hz hX hs9 hL hend S x lo ta la 0 0 a4 el sz cp 0 0 0 hI9 z0 z2 z3 z4 z5 (by omega) (by omega) (by omega) rfl rfl (by omega)
    | succ d335 ih335 =>
      intro i335 x335 S a4 hi335 hx335 hI
      subst hx335
      obtain ⟨hI, hlo9, ha4⟩ := hI
      have hM := hI.1.rm
      have hMc := hM
      obtain ⟨hx, ⟨f0, L0⟩, ⟨f1, L1⟩, ⟨f2, L2⟩, ⟨f3, L3⟩, ⟨f4, L4⟩, ⟨f5, L5⟩, ⟨f6, L6⟩, ⟨f7, L7⟩, ⟨f8, L8⟩, ⟨flo, hlo⟩, ⟨fta, hta⟩⟩ := hMc
      have b0 := L0.2.2.1
      have b2 := L2.2.2.1
      have b3 := L3.2.2.1
      have b4 := L4.2.2.1
      have b5 := L5.2.2.1
      have b7 := L7.2.2.1
      have b8 := L8.2.2.1
      have hSQ := (hI.2.2.1).sq
      refine g_iload hκ 0 dL_law_335 rfl ?_
      refine g_iconst hκ (v := 5) dL_law_337 (by decide) ?_
      refine g_icmp_ge hκ 359 dL_law_338 (by decide) (fun z => absurd z (show ¬ (5 : Int32) ≤ nI i335 from nI_ge (b := 5) (by omega) (by decide))) (fun _ => ?_)
      refine g_iload hκ 1 dL_law_341 rfl ?_
      refine g_aload_n hκ 5 dL_law_343 rfl rfl ?_
      refine g_iload hκ 0 dL_law_344 rfl ?_
      refine g_iconst hκ (v := 1) dL_law_346 (by decide) ?_
      refine rV_i hκ (hdV hz) [.int (nI i335), .int 1] sd_X11_ofSquadron qw_858 (fun D cO H s hK hP => rc_Room hK hP hx) (p_ofSq_1 S x lo ta la el sz i335 (nI i335) hM rfl (by omega)) ⟨rfl, rfl, Nat.le_of_ble_eq_true rfl, Nat.le_of_ble_eq_true rfl⟩ rfl rfl (Nat.le_of_ble_eq_true rfl) dL_law_347 (fun r1 hr1 => ?_)
      refine g_eqi (show r1 = sI S q_Squadron_machines (el 2 i335) from hr1) ?_
      refine g_iadd hκ dL_law_350 ?_
      refine g_eqi (y := a4 + (sI S q_Squadron_machines (el 2 i335))) rfl ?_
      refine g_istore hκ [(4, .int (a4 + (sI S q_Squadron_machines (el 2 i335)))), (5, .int (nI i335)), (3, .int 0), (2, .int 0), (0, .ref b), (1, .ref x)] dL_law_351 (by decide) rfl ?_
      obtain ⟨v2, hv2⟩ : ∃ z : Int32, nI i335 + 1 = z := ⟨_, rfl⟩
      refine g_iinc hκ (k := 1) (v := v2) [(5, .int v2), (4, .int (a4 + (sI S q_Squadron_machines (el 2 i335)))), (3, .int 0), (2, .int 0), (0, .ref b), (1, .ref x)] dL_law_353 rfl hv2 (by decide) rfl ?_
      refine g_goto hκ 335 dL_law_356 (by decide) ?_
      refine g_lv [(5, .int v2), (4, .int (a4 + (sI S q_Squadron_machines (el 2 i335)))), (3, .int 0), (2, .int 0), (0, .ref b), (1, .ref x)] [0, 1, 2, 3, 4, 5] rfl ?_
      refine g_wid (k2 := 300 * 40) (n2 := nnR 40) (by omega) (by omega) ?_
      exact ih335 (i335 + 1) v2 S (a4 + (sI S q_Squadron_machines (el 2 i335))) (by omega) (lp_s rfl hv2) (⟨hI, hlo9, by rw [sumR_sn, Nat.zero_add, ← ha4]⟩)
  refine g_wid (k2 := 300 * 40) (n2 := nnR 40) (by omega) (by omega) ?_
  exact loop335 5 0 0 S 0 (by omega) (by first | rfl | decide) (⟨hI, hlo9, rfl⟩)
set_option maxHeartbeats 4000000 in
set_option maxRecDepth 100000 in
theorem L_guns {κ : KX} {e9 : Nat × Nat} {b L : Nat} {xs : Nat → Int32} (hκ : Cx cL_law 11 RL room_1 κ) (hz : Vz e9 κ) (hX : XZ κ) (hs9 : Scr b L xs κ) (hL : L ≤ 260) (hend : LE cL_law κ) (S : wPS) (x lo ta : Nat) (la : Nat → Nat) (told : Int32) (el : Nat → Nat → Nat) (sz cp : Nat → Nat) (hI : IV e9 x lo ta la 0 0 told S el sz cp 0 0 0) (hlo9 : sI S q_Tally_machinesLost ta = 0) (z0 : sz 0 = 2) (z2 : sz 2 = 5) (z3 : sz 3 = 0) (z4 : sz 4 = 0) (z5 : sz 5 = 0) (z7 : sz 7 = 0) (z8 : sz 8 = 0) : Gj κ (PV κ S (12012) (6515520)) 202 [(0, .ref b), (1, .ref x)] [] := by
  show Gj κ _ 202 [(0, .ref b), (1, .ref x)] []
  refine g_iconst hκ (v := 0) dL_law_202 (by decide) ?_
  refine g_istore_n hκ [(2, .int 0), (0, .ref b), (1, .ref x)] dL_law_203 rfl (by decide) rfl ?_
  have loop204 : ∀ (d204 i204 : Nat) (x204 : Int32) (S : wPS) (el : Nat → Nat → Nat) (sz : Nat → Nat) (cp : Nat → Nat), i204 + d204 = 3 → x204 = nI i204 → (IV e9 x lo ta la 0 0 told S el sz cp 0 0 0 ∧ sI S q_Tally_machinesLost ta = 0 ∧ sz 0 = 2 ∧ sz 2 = 5 ∧ sz 3 = i204 ∧ sz 4 = i204 ∧ sz 5 = 0 ∧ sz 7 = 0 ∧ sz 8 = 0) → Gj κ (PV κ S (12000 + 4 * d204) (6515280 + 80 * d204)) 204 [(2, .int x204), (0, .ref b), (1, .ref x)] [] := by
    intro d204
    induction d204 with
    | zero =>
      intro i204 x204 S el sz cp hi204 hx204 hI
      subst hx204
      obtain ⟨hI, hlo9, z0, z2, z3, z4, z5, z7, z8⟩ := hI
      have hM := hI.1.rm
      have hMc := hM
      obtain ⟨hx, ⟨f0, L0⟩, ⟨f1, L1⟩, ⟨f2, L2⟩, ⟨f3, L3⟩, ⟨f4, L4⟩, ⟨f5, L5⟩, ⟨f6, L6⟩, ⟨f7, L7⟩, ⟨f8, L8⟩, ⟨flo, hlo⟩, ⟨fta, hta⟩⟩ := hMc
      have b0 := L0.2.2.1
      have b2 := L2.2.2.1
      have b3 := L3.2.2.1
      have b4 := L4.2.2.1
      have b5 := L5.2.2.1
      have b7 := L7.2.2.1
      have b8 := L8.2.2.1
      have hSQ := (hI.2.2.1).sq
      refine g_iload_n hκ 0 dL_law_204 rfl rfl ?_
      refine g_iconst hκ (v := 3) dL_law_205 (by decide) ?_
      refine g_icmp_ge hκ 325 dL_law_206 (by decide) (fun _ => ?_) (fun z => absurd (show (3 : Int32) ≤ nI i204 from nI_le (a := 3) (by omega) (by omega)) z)
      refine g_lv [(0, .ref b), (1, .ref x)] [1, 2] rfl ?_
      have h40 := nnR_40
      refine g_wid (k2 := 300 * 40) (n2 := nnR 40) (by omega) (by omega) ?_
      exact L_told hκ hz hX hs9 hL hend S x lo ta la told el sz cp hI hlo9 z0 z2 (by omega) (by omega) z5 z7 z8
    | succ d204 ih204 =>
      intro i204 x204 S el sz cp hi204 hx204 hI
      subst hx204
      obtain ⟨hI, hlo9, z0, z2, z3, z4, z5, z7, z8⟩ := hI
      have hM := hI.1.rm
      have hMc := hM
      obtain ⟨hx, ⟨f0, L0⟩, ⟨f1, L1⟩, ⟨f2, L2⟩, ⟨f3, L3⟩, ⟨f4, L4⟩, ⟨f5, L5⟩, ⟨f6, L6⟩, ⟨f7, L7⟩, ⟨f8, L8⟩, ⟨flo, hlo⟩, ⟨fta, hta⟩⟩ := hMc
      have b0 := L0.2.2.1
      have b2 := L2.2.2.1
      have b3 := L3.2.2.1
      have b4 := L4.2.2.1
      have b5 := L5.2.2.1
      have b7 := L7.2.2.1
      have b8 := L8.2.2.1
      have hSQ := (hI.2.2.1).sq
      refine g_iload_n hκ 0 dL_law_204 rfl rfl ?_
      refine g_iconst hκ (v := 3) dL_law_205 (by decide) ?_
      refine g_icmp_ge hκ 325 dL_law_206 (by decide) (fun z => absurd z (show ¬ (3 : Int32) ≤ nI i204 from nI_ge (b := 3) (by omega) (by decide))) (fun _ => ?_)
      refine g_aload_n hκ 2 dL_law_209 rfl rfl ?_
      refine g_bipush hκ (v := 70) dL_law_210 (by decide) ?_
      refine g_aload_n hκ 1 dL_law_212 rfl rfl ?_
      refine g_iload_n hκ 0 dL_law_213 rfl rfl ?_
      refine g_bipush hκ (v := 7) dL_law_214 (by decide) ?_
      refine g_iadd hκ dL_law_216 ?_
      refine g_eqi (y := nI (i204 + 7)) (nI_add i204 7) ?_
      refine g_cell hκ hz hs9 (j := (i204 + 7)) (by omega) hL qw_1029 ⟨rfl, rfl, Nat.le_of_ble_eq_true rfl, Nat.le_of_ble_eq_true rfl⟩ (Nat.le_of_ble_eq_true rfl) dL_law_217 (fun r1 => ?_)
      refine g_bipush hκ (v := 60) dL_law_220 (by decide) ?_
      refine rS_i hκ (hdV hz) [.int r1, .int 60] sd_L_below qw_1025 (k_below S r1 60 (by decide) (by decide)) ⟨rfl, rfl, Nat.le_of_ble_eq_true rfl, Nat.le_of_ble_eq_true rfl⟩ rfl rfl (Nat.le_of_ble_eq_true rfl) dL_law_222 (fun r2 hr2 => ?_)
      obtain ⟨t3, ht3, et3⟩ := hr2
      refine g_eqi et3 ?_
      refine g_iadd hκ dL_law_225 ?_
      refine g_eqi (y := nI (70 + t3)) (nI_add 70 t3) ?_
      refine g_bipush hκ (v := 70) dL_law_226 (by decide) ?_
      refine g_aload_n hκ 1 dL_law_228 rfl rfl ?_
      refine g_iload_n hκ 0 dL_law_229 rfl rfl ?_
      refine g_bipush hκ (v := 9) dL_law_230 (by decide) ?_
      refine g_iadd hκ dL_law_232 ?_
      refine g_eqi (y := nI (i204 + 9)) (nI_add i204 9) ?_
      refine g_cell hκ hz hs9 (j := (i204 + 9)) (by omega) hL qw_1029 ⟨rfl, rfl, Nat.le_of_ble_eq_true rfl, Nat.le_of_ble_eq_true rfl⟩ (Nat.le_of_ble_eq_true rfl) dL_law_233 (fun r4 => ?_)
      refine g_bipush hκ (v := 60) dL_law_236 (by decide) ?_
      refine rS_i hκ (hdV hz) [.int r4, .int 60] sd_L_below qw_1025 (k_below S r4 60 (by decide) (by decide)) ⟨rfl, rfl, Nat.le_of_ble_eq_true rfl, Nat.le_of_ble_eq_true rfl⟩ rfl rfl (Nat.le_of_ble_eq_true rfl) dL_law_238 (fun r5 hr5 => ?_)
      obtain ⟨t6, ht6, et6⟩ := hr5
      refine g_eqi et6 ?_
      refine g_iadd hκ dL_law_241 ?_
      refine g_eqi (y := nI (70 + t6)) (nI_add 70 t6) ?_
      refine g_iconst hκ (v := 1) dL_law_242 (by decide) ?_
      refine g_aload_n hκ 1 dL_law_243 rfl rfl ?_
      refine g_iload_n hκ 0 dL_law_244 rfl rfl ?_
      refine g_iconst hκ (v := 1) dL_law_245 (by decide) ?_
      refine g_iadd hκ dL_law_246 ?_
      refine g_eqi (y := nI (i204 + 1)) (nI_add i204 1) ?_
      refine g_cell hκ hz hs9 (j := (i204 + 1)) (by omega) hL qw_1029 ⟨rfl, rfl, Nat.le_of_ble_eq_true rfl, Nat.le_of_ble_eq_true rfl⟩ (Nat.le_of_ble_eq_true rfl) dL_law_247 (fun r7 => ?_)
      refine g_bipush hκ (v := 20) dL_law_250 (by decide) ?_
      refine rS_i hκ (hdV hz) [.int r7, .int 20] sd_L_below qw_1025 (k_below S r7 20 (by decide) (by decide)) ⟨rfl, rfl, Nat.le_of_ble_eq_true rfl, Nat.le_of_ble_eq_true rfl⟩ rfl rfl (Nat.le_of_ble_eq_true rfl) dL_law_252 (fun r8 hr8 => ?_)
      obtain ⟨t9, ht9, et9⟩ := hr8
      refine g_eqi et9 ?_
      refine g_iadd hκ dL_law_255 ?_
      refine g_eqi (y := nI (1 + t9)) (nI_add 1 t9) ?_
      refine vV_i hκ hz [.int (nI (70 + t3)), .int (nI (70 + t6)), .int (nI (1 + t9))] sd_X11_gun qw_503 (fun D cO H s hK hP => rc_Room hK hP hx) (k_gun e9 S x lo ta la 0 0 told el sz cp 0 0 0 (nI (70 + t3)) (nI (70 + t6)) (nI (1 + t9)) hI (pl_mk (by omega) (by omega)) (isIn_b (a := 1) (b := 20) (by omega) (by omega) (by decide)) (by omega)) ⟨rfl, rfl, Nat.le_of_ble_eq_true rfl, Nat.le_of_ble_eq_true rfl⟩ rfl rfl (Nat.le_of_ble_eq_true rfl) dL_law_256 (by omega) (by omega) (fun r10 S11 hS11 => ?_)
      obtain ⟨e9r, elG, szG, cpG, hIG, hg9, hch9⟩ := hS11
      have hloG := lost_ch hch9 hI.1.ta_ob.1 hlo9
      have g0 := (hg9.1 0 (by decide)).2
      have g2 := (hg9.1 2 (by decide)).2
      have g3 := hg9.2
      have g4 := (hg9.1 4 (by decide)).2
      have g5 := (hg9.1 5 (by decide)).2
      have g7 := (hg9.1 7 (by decide)).2
      have g8 := (hg9.1 8 (by decide)).2
      refine g_eqi (e9r.trans (congrArg nI (by omega : sz 3 = i204))) ?_
      have hM := hIG.1.rm
      have hMc := hM
      obtain ⟨hx, ⟨f0, L0⟩, ⟨f1, L1⟩, ⟨f2, L2⟩, ⟨f3, L3⟩, ⟨f4, L4⟩, ⟨f5, L5⟩, ⟨f6, L6⟩, ⟨f7, L7⟩, ⟨f8, L8⟩, ⟨flo, hlo⟩, ⟨fta, hta⟩⟩ := hMc
      have b0 := L0.2.2.1
      have b2 := L2.2.2.1
      have b3 := L3.2.2.1
      have b4 := L4.2.2.1
      have b5 := L5.2.2.1
      have b7 := L7.2.2.1
      have b8 := L8.2.2.1
      have hSQ := (hIG.2.2.1).sq
      refine g_iload_n hκ 0 dL_law_259 rfl rfl ?_
      refine g_icmp_ne hκ 317 dL_law_260 (by decide) (fun z => absurd rfl z) (fun _ => ?_)
      refine g_aload_n hκ 2 dL_law_263 rfl rfl ?_
      refine g_bipush hκ (v := 70) dL_law_264 (by decide) ?_
      refine g_aload_n hκ 1 dL_law_266 rfl rfl ?_
      refine g_iload_n hκ 0 dL_law_267 rfl rfl ?_
      refine g_bipush hκ (v := 8) dL_law_268 (by decide) ?_
      refine g_iadd hκ dL_law_270 ?_
      refine g_eqi (y := nI (i204 + 8)) (nI_add i204 8) ?_
      refine g_cell hκ hz hs9 (j := (i204 + 8)) (by omega) hL qw_1029 ⟨rfl, rfl, Nat.le_of_ble_eq_true rfl, Nat.le_of_ble_eq_true rfl⟩ (Nat.le_of_ble_eq_true rfl) dL_law_271 (fun r12 => ?_)
      refine g_bipush hκ (v := 60) dL_law_274 (by decide) ?_
      refine rS_i hκ (hdV hz) [.int r12, .int 60] sd_L_below qw_1025 (k_below S11 r12 60 (by decide) (by decide)) ⟨rfl, rfl, Nat.le_of_ble_eq_true rfl, Nat.le_of_ble_eq_true rfl⟩ rfl rfl (Nat.le_of_ble_eq_true rfl) dL_law_276 (fun r13 hr13 => ?_)
      obtain ⟨t14, ht14, et14⟩ := hr13
      refine g_eqi et14 ?_
      refine g_iadd hκ dL_law_279 ?_
      refine g_eqi (y := nI (70 + t14)) (nI_add 70 t14) ?_
      refine g_bipush hκ (v := 70) dL_law_280 (by decide) ?_
      refine g_aload_n hκ 1 dL_law_282 rfl rfl ?_
      refine g_iload_n hκ 0 dL_law_283 rfl rfl ?_
      refine g_bipush hκ (v := 10) dL_law_284 (by decide) ?_
      refine g_iadd hκ dL_law_286 ?_
      refine g_eqi (y := nI (i204 + 10)) (nI_add i204 10) ?_
      refine g_cell hκ hz hs9 (j := (i204 + 10)) (by omega) hL qw_1029 ⟨rfl, rfl, Nat.le_of_ble_eq_true rfl, Nat.le_of_ble_eq_true rfl⟩ (Nat.le_of_ble_eq_true rfl) dL_law_287 (fun r15 => ?_)
      refine g_bipush hκ (v := 60) dL_law_290 (by decide) ?_
      refine rS_i hκ (hdV hz) [.int r15, .int 60] sd_L_below qw_1025 (k_below S11 r15 60 (by decide) (by decide)) ⟨rfl, rfl, Nat.le_of_ble_eq_true rfl, Nat.le_of_ble_eq_true rfl⟩ rfl rfl (Nat.le_of_ble_eq_true rfl) dL_law_292 (fun r16 hr16 => ?_)
      obtain ⟨t17, ht17, et17⟩ := hr16
      refine g_eqi et17 ?_
      refine g_iadd hκ dL_law_295 ?_
      refine g_eqi (y := nI (70 + t17)) (nI_add 70 t17) ?_
      refine g_iconst hκ (v := 1) dL_law_296 (by decide) ?_
      refine g_aload_n hκ 1 dL_law_297 rfl rfl ?_
      refine g_iload_n hκ 0 dL_law_298 rfl rfl ?_
      refine g_iconst hκ (v := 2) dL_law_299 (by decide) ?_
      refine g_iadd hκ dL_law_300 ?_
      refine g_eqi (y := nI (i204 + 2)) (nI_add i204 2) ?_
      refine g_cell hκ hz hs9 (j := (i204 + 2)) (by omega) hL qw_1029 ⟨rfl, rfl, Nat.le_of_ble_eq_true rfl, Nat.le_of_ble_eq_true rfl⟩ (Nat.le_of_ble_eq_true rfl) dL_law_301 (fun r18 => ?_)
      refine g_bipush hκ (v := 99) dL_law_304 (by decide) ?_
      refine rS_i hκ (hdV hz) [.int r18, .int 99] sd_L_below qw_1025 (k_below S11 r18 99 (by decide) (by decide)) ⟨rfl, rfl, Nat.le_of_ble_eq_true rfl, Nat.le_of_ble_eq_true rfl⟩ rfl rfl (Nat.le_of_ble_eq_true rfl) dL_law_306 (fun r19 hr19 => ?_)
      obtain ⟨t20, ht20, et20⟩ := hr19
      refine g_eqi et20 ?_
      refine g_iadd hκ dL_law_309 ?_
      refine g_eqi (y := nI (1 + t20)) (nI_add 1 t20) ?_
      refine vV_i hκ hz [.int (nI (70 + t14)), .int (nI (70 + t17)), .int (nI (1 + t20))] sd_X11_town qw_525 (fun D cO H s hK hP => rc_Room hK hP hx) (k_town e9 S11 x lo ta la 0 0 told elG szG cpG 0 0 0 (nI (70 + t14)) (nI (70 + t17)) (nI (1 + t20)) hIG (pl_mk (by omega) (by omega)) (isIn_b (a := 1) (b := 99) (by omega) (by omega) (by decide)) (by omega)) ⟨rfl, rfl, Nat.le_of_ble_eq_true rfl, Nat.le_of_ble_eq_true rfl⟩ rfl rfl (Nat.le_of_ble_eq_true rfl) dL_law_310 (by omega) (by omega) (fun r21 S22 hS22 => ?_)
      obtain ⟨e9r, elT, szT, cpT, hIT, hg9, hch9⟩ := hS22
      have hloT := lost_ch hch9 hIG.1.ta_ob.1 hloG
      have t0 := (hg9.1 0 (by decide)).2
      have t2 := (hg9.1 2 (by decide)).2
      have t3 := (hg9.1 3 (by decide)).2
      have t4 := hg9.2
      have t5 := (hg9.1 5 (by decide)).2
      have t7 := (hg9.1 7 (by decide)).2
      have t8 := (hg9.1 8 (by decide)).2
      refine g_eqi (e9r.trans (congrArg nI (by omega : szG 4 = i204))) ?_
      have hM := hIT.1.rm
      have hMc := hM
      obtain ⟨hx, ⟨f0, L0⟩, ⟨f1, L1⟩, ⟨f2, L2⟩, ⟨f3, L3⟩, ⟨f4, L4⟩, ⟨f5, L5⟩, ⟨f6, L6⟩, ⟨f7, L7⟩, ⟨f8, L8⟩, ⟨flo, hlo⟩, ⟨fta, hta⟩⟩ := hMc
      have b0 := L0.2.2.1
      have b2 := L2.2.2.1
      have b3 := L3.2.2.1
      have b4 := L4.2.2.1
      have b5 := L5.2.2.1
      have b7 := L7.2.2.1
      have b8 := L8.2.2.1
      have hSQ := (hIT.2.2.1).sq
      refine g_iload_n hκ 0 dL_law_313 rfl rfl ?_
      refine g_icmp_eq hκ 319 dL_law_314 (by decide) (fun _ => ?_) (fun z => absurd rfl z)
      obtain ⟨v23, hv23⟩ : ∃ z : Int32, nI i204 + 1 = z := ⟨_, rfl⟩
      refine g_iinc hκ (k := 0) (v := v23) [(2, .int v23), (0, .ref b), (1, .ref x)] dL_law_319 rfl hv23 (by decide) rfl ?_
      refine g_goto hκ 204 dL_law_322 (by decide) ?_
      refine g_lv [(2, .int v23), (0, .ref b), (1, .ref x)] [0, 1, 2] rfl ?_
      refine g_wid (k2 := 12000 + 4 * d204) (n2 := 6515280 + 80 * d204) (by omega) (by omega) ?_
      exact ih204 (i204 + 1) v23 S22 elT szT cpT (by omega) (lp_s rfl hv23) (⟨hIT, hloT, by omega, by omega, by omega, by omega, by omega, by omega, by omega⟩)
  refine g_wid (k2 := 12000 + 4 * 3) (n2 := 6515280 + 80 * 3) (by omega) (by omega) ?_
  exact loop204 3 0 0 S el sz cp (by omega) (by first | rfl | decide) (⟨hI, hlo9, z0, z2, z3, z4, z5, z7, z8⟩)
set_option maxHeartbeats 4000000 in
set_option maxRecDepth 100000 in
theorem L_sqs {κ : KX} {e9 : Nat × Nat} {b L : Nat} {xs : Nat → Int32} (hκ : Cx cL_law 11 RL room_1 κ) (hz : Vz e9 κ) (hX : XZ κ) (hs9 : Scr b L xs κ) (hL : L ≤ 260) (hend : LE cL_law κ) (S : wPS) (x lo ta : Nat) (la : Nat → Nat) (told : Int32) (el : Nat → Nat → Nat) (sz cp : Nat → Nat) (hI : IV e9 x lo ta la 0 0 told S el sz cp 0 0 0) (hlo9 : sI S q_Tally_machinesLost ta = 0) (hPL : PL1 S el sz) (z0 : sz 0 = 2) (z1 : sz 1 = 2) (z2 : sz 2 = 0) (z3 : sz 3 = 0) (z4 : sz 4 = 0) (z5 : sz 5 = 0) (z7 : sz 7 = 0) (z8 : sz 8 = 0) : Gj κ (PV κ S (12110) (6516200)) 121 [(0, .ref b), (1, .ref x)] [] := by
  show Gj κ _ 121 [(0, .ref b), (1, .ref x)] []
  refine g_iconst hκ (v := 0) dL_law_121 (by decide) ?_
  refine g_istore_n hκ [(2, .int 0), (0, .ref b), (1, .ref x)] dL_law_122 rfl (by decide) rfl ?_
  have loop123 : ∀ (d123 i123 : Nat) (x123 : Int32) (S : wPS) (el : Nat → Nat → Nat) (sz : Nat → Nat) (cp : Nat → Nat) (told : Int32), i123 + d123 = 5 → x123 = nI i123 → (IV e9 x lo ta la 0 0 told S el sz cp 0 0 0 ∧ sI S q_Tally_machinesLost ta = 0 ∧ PL1 S el sz ∧ sz 0 = 2 ∧ sz 1 = 2 ∧ sz 2 = i123 ∧ sz 3 = 0 ∧ sz 4 = 0 ∧ sz 5 = 0 ∧ sz 7 = 0 ∧ sz 8 = 0) → Gj κ (PV κ S (12100 + 2 * d123) (6516000 + 40 * d123)) 123 [(2, .int x123), (0, .ref b), (1, .ref x)] [] := by
    intro d123
    induction d123 with
    | zero =>
      intro i123 x123 S el sz cp told hi123 hx123 hI
      subst hx123
      obtain ⟨hI, hlo9, hPL, z0, z1, z2, z3, z4, z5, z7, z8⟩ := hI
      have hM := hI.1.rm
      have hMc := hM
      obtain ⟨hx, ⟨f0, L0⟩, ⟨f1, L1⟩, ⟨f2, L2⟩, ⟨f3, L3⟩, ⟨f4, L4⟩, ⟨f5, L5⟩, ⟨f6, L6⟩, ⟨f7, L7⟩, ⟨f8, L8⟩, ⟨flo, hlo⟩, ⟨fta, hta⟩⟩ := hMc
      have b0 := L0.2.2.1
      have b2 := L2.2.2.1
      have b3 := L3.2.2.1
      have b4 := L4.2.2.1
      have b5 := L5.2.2.1
      have b7 := L7.2.2.1
      have b8 := L8.2.2.1
      have hSQ := (hI.2.2.1).sq
      refine g_iload_n hκ 0 dL_law_123 rfl rfl ?_
      refine g_iconst hκ (v := 5) dL_law_124 (by decide) ?_
      refine g_icmp_ge hκ 202 dL_law_125 (by decide) (fun _ => ?_) (fun z => absurd (show (5 : Int32) ≤ nI i123 from nI_le (a := 5) (by omega) (by omega)) z)
      refine g_lv [(0, .ref b), (1, .ref x)] [1, 2] rfl ?_
      refine g_wid (k2 := 12012) (n2 := 6515520) (by omega) (by omega) ?_
      exact L_guns hκ hz hX hs9 hL hend S x lo ta la told el sz cp hI hlo9 z0 (by omega) z3 z4 z5 z7 z8
    | succ d123 ih123 =>
      intro i123 x123 S el sz cp told hi123 hx123 hI
      subst hx123
      obtain ⟨hI, hlo9, hPL, z0, z1, z2, z3, z4, z5, z7, z8⟩ := hI
      have hM := hI.1.rm
      have hMc := hM
      obtain ⟨hx, ⟨f0, L0⟩, ⟨f1, L1⟩, ⟨f2, L2⟩, ⟨f3, L3⟩, ⟨f4, L4⟩, ⟨f5, L5⟩, ⟨f6, L6⟩, ⟨f7, L7⟩, ⟨f8, L8⟩, ⟨flo, hlo⟩, ⟨fta, hta⟩⟩ := hMc
      have b0 := L0.2.2.1
      have b2 := L2.2.2.1
      have b3 := L3.2.2.1
      have b4 := L4.2.2.1
      have b5 := L5.2.2.1
      have b7 := L7.2.2.1
      have b8 := L8.2.2.1
      have hSQ := (hI.2.2.1).sq
      refine g_iload_n hκ 0 dL_law_123 rfl rfl ?_
      refine g_iconst hκ (v := 5) dL_law_124 (by decide) ?_
      refine g_icmp_ge hκ 202 dL_law_125 (by decide) (fun z => absurd z (show ¬ (5 : Int32) ≤ nI i123 from nI_ge (b := 5) (by omega) (by decide))) (fun _ => ?_)
      refine g_aload_n hκ 2 dL_law_128 rfl rfl ?_
      refine g_iload_n hκ 0 dL_law_129 rfl rfl ?_
      refine g_iconst hκ (v := 2) dL_law_130 (by decide) ?_
      refine g_irem hκ dL_law_131 (by decide) ?_
      refine g_eqi (y := nI (i123 % 2)) (pk_rem (d := 2) (by omega) (by decide) (by decide)) ?_
      refine g_iconst hκ (v := 1) dL_law_132 (by decide) ?_
      refine g_aload_n hκ 1 dL_law_133 rfl rfl ?_
      refine g_iload_n hκ 0 dL_law_134 rfl rfl ?_
      refine g_cell hκ hz hs9 (j := i123) (by omega) hL qw_1029 ⟨rfl, rfl, Nat.le_of_ble_eq_true rfl, Nat.le_of_ble_eq_true rfl⟩ (Nat.le_of_ble_eq_true rfl) dL_law_135 (fun r1 => ?_)
      refine g_bipush hκ (v := 12) dL_law_138 (by decide) ?_
      refine rS_i hκ (hdV hz) [.int r1, .int 12] sd_L_below qw_1025 (k_below S r1 12 (by decide) (by decide)) ⟨rfl, rfl, Nat.le_of_ble_eq_true rfl, Nat.le_of_ble_eq_true rfl⟩ rfl rfl (Nat.le_of_ble_eq_true rfl) dL_law_140 (fun r2 hr2 => ?_)
      obtain ⟨t3, ht3, et3⟩ := hr2
      refine g_eqi et3 ?_
      refine g_iadd hκ dL_law_143 ?_
      refine g_eqi (y := nI (1 + t3)) (nI_add 1 t3) ?_
      refine g_iconst hκ (v := 5) dL_law_144 (by decide) ?_
      refine g_aload_n hκ 1 dL_law_145 rfl rfl ?_
      refine g_iload_n hκ 0 dL_law_146 rfl rfl ?_
      refine g_iconst hκ (v := 2) dL_law_147 (by decide) ?_
      refine g_iadd hκ dL_law_148 ?_
      refine g_eqi (y := nI (i123 + 2)) (nI_add i123 2) ?_
      refine g_cell hκ hz hs9 (j := (i123 + 2)) (by omega) hL qw_1029 ⟨rfl, rfl, Nat.le_of_ble_eq_true rfl, Nat.le_of_ble_eq_true rfl⟩ (Nat.le_of_ble_eq_true rfl) dL_law_149 (fun r4 => ?_)
      refine g_bipush hκ (v := 16) dL_law_152 (by decide) ?_
      refine rS_i hκ (hdV hz) [.int r4, .int 16] sd_L_below qw_1025 (k_below S r4 16 (by decide) (by decide)) ⟨rfl, rfl, Nat.le_of_ble_eq_true rfl, Nat.le_of_ble_eq_true rfl⟩ rfl rfl (Nat.le_of_ble_eq_true rfl) dL_law_154 (fun r5 hr5 => ?_)
      obtain ⟨t6, ht6, et6⟩ := hr5
      refine g_eqi et6 ?_
      refine g_iadd hκ dL_law_157 ?_
      refine g_eqi (y := nI (5 + t6)) (nI_add 5 t6) ?_
      refine g_bipush hκ (v := 10) dL_law_158 (by decide) ?_
      refine g_aload_n hκ 1 dL_law_160 rfl rfl ?_
      refine g_iload_n hκ 0 dL_law_161 rfl rfl ?_
      refine g_iconst hκ (v := 4) dL_law_162 (by decide) ?_
      refine g_iadd hκ dL_law_163 ?_
      refine g_eqi (y := nI (i123 + 4)) (nI_add i123 4) ?_
      refine g_cell hκ hz hs9 (j := (i123 + 4)) (by omega) hL qw_1029 ⟨rfl, rfl, Nat.le_of_ble_eq_true rfl, Nat.le_of_ble_eq_true rfl⟩ (Nat.le_of_ble_eq_true rfl) dL_law_164 (fun r7 => ?_)
      refine g_bipush hκ (v := 60) dL_law_167 (by decide) ?_
      refine rS_i hκ (hdV hz) [.int r7, .int 60] sd_L_below qw_1025 (k_below S r7 60 (by decide) (by decide)) ⟨rfl, rfl, Nat.le_of_ble_eq_true rfl, Nat.le_of_ble_eq_true rfl⟩ rfl rfl (Nat.le_of_ble_eq_true rfl) dL_law_169 (fun r8 hr8 => ?_)
      obtain ⟨t9, ht9, et9⟩ := hr8
      refine g_eqi et9 ?_
      refine g_iadd hκ dL_law_172 ?_
      refine g_eqi (y := nI (10 + t9)) (nI_add 10 t9) ?_
      refine g_iconst hκ (v := 1) dL_law_173 (by decide) ?_
      refine g_aload_n hκ 1 dL_law_174 rfl rfl ?_
      refine g_iload_n hκ 0 dL_law_175 rfl rfl ?_
      refine g_bipush hκ (v := 6) dL_law_176 (by decide) ?_
      refine g_iadd hκ dL_law_178 ?_
      refine g_eqi (y := nI (i123 + 6)) (nI_add i123 6) ?_
      refine g_cell hκ hz hs9 (j := (i123 + 6)) (by omega) hL qw_1029 ⟨rfl, rfl, Nat.le_of_ble_eq_true rfl, Nat.le_of_ble_eq_true rfl⟩ (Nat.le_of_ble_eq_true rfl) dL_law_179 (fun r10 => ?_)
      refine g_iconst hκ (v := 5) dL_law_182 (by decide) ?_
      refine rS_i hκ (hdV hz) [.int r10, .int 5] sd_L_below qw_1025 (k_below S r10 5 (by decide) (by decide)) ⟨rfl, rfl, Nat.le_of_ble_eq_true rfl, Nat.le_of_ble_eq_true rfl⟩ rfl rfl (Nat.le_of_ble_eq_true rfl) dL_law_183 (fun r11 hr11 => ?_)
      obtain ⟨t12, ht12, et12⟩ := hr11
      refine g_eqi et12 ?_
      refine g_iadd hκ dL_law_186 ?_
      refine g_eqi (y := nI (1 + t12)) (nI_add 1 t12) ?_
      refine vV_i hκ hz [.int (nI (i123 % 2)), .int (nI (1 + t3)), .int (nI (5 + t6)), .int (nI (10 + t9)), .int (nI (1 + t12))] sd_X11_squadron qw_413 (fun D cO H s hK hP => rc_Room hK hP hx) (k_squadron e9 S x lo ta la 0 0 told el sz cp 0 0 0 (i123 % 2) (1 + t3) (5 + t6) (10 + t9) (nI (1 + t12)) hI (by omega) (isNum_n (by omega) (by omega)) (isIn_b (a := 1) (b := 12) (by omega) (by omega) (by decide)) (isIn_b (a := 5) (b := 20) (by omega) (by omega) (by decide)) (isIn_b (a := 10) (b := 99) (by omega) (by omega) (by decide)) (isIn_b (a := 1) (b := 15) (by omega) (by omega) (by decide)) (by omega) (by omega) (by omega) (by omega) (by omega) (by omega) hPL) ⟨rfl, rfl, Nat.le_of_ble_eq_true rfl, Nat.le_of_ble_eq_true rfl⟩ rfl rfl (Nat.le_of_ble_eq_true rfl) dL_law_187 (by omega) (by omega) (fun r13 S14 hS14 => ?_)
      obtain ⟨e9r, el1, sz1, cp1, hI1, hg9, hPL1, hch9⟩ := hS14
      have hlo1 := lost_ch hch9 hI.1.ta_ob.1 hlo9
      have q0 := (hg9.1 0 (by decide)).2
      have q1 := (hg9.1 1 (by decide)).2
      have q2 := hg9.2
      have q3 := (hg9.1 3 (by decide)).2
      have q4 := (hg9.1 4 (by decide)).2
      have q5 := (hg9.1 5 (by decide)).2
      have q7 := (hg9.1 7 (by decide)).2
      have q8 := (hg9.1 8 (by decide)).2
      refine g_eqi (e9r.trans (congrArg nI z2)) ?_
      refine g_iload_n hκ 0 dL_law_190 rfl rfl ?_
      refine g_icmp_eq hκ 196 dL_law_191 (by decide) (fun _ => ?_) (fun z => absurd rfl z)
      obtain ⟨v15, hv15⟩ : ∃ z : Int32, nI i123 + 1 = z := ⟨_, rfl⟩
      refine g_iinc hκ (k := 0) (v := v15) [(2, .int v15), (0, .ref b), (1, .ref x)] dL_law_196 rfl hv15 (by decide) rfl ?_
      refine g_goto hκ 123 dL_law_199 (by decide) ?_
      refine g_lv [(2, .int v15), (0, .ref b), (1, .ref x)] [0, 1, 2] rfl ?_
      refine g_wid (k2 := 12100 + 2 * d123) (n2 := 6516000 + 40 * d123) (by omega) (by omega) ?_
      exact ih123 (i123 + 1) v15 S14 el1 sz1 cp1 (told + nI (1 + t3)) (by omega) (lp_s rfl hv15) (⟨hI1, hlo1, hPL1, by omega, by omega, by omega, by omega, by omega, by omega, by omega, by omega⟩)
  refine g_wid (k2 := 12100 + 2 * 5) (n2 := 6516000 + 40 * 5) (by omega) (by omega) ?_
  exact loop123 5 0 0 S el sz cp told (by omega) (by first | rfl | decide) (⟨hI, hlo9, hPL, z0, z1, z2, z3, z4, z5, z7, z8⟩)
