set_option maxHeartbeats 4000000 in
set_option maxRecDepth 100000 in
theorem k_isWell (S : wPS) (e9 : Nat × Nat) (x lo ta : Nat) (la : Nat → Nat) (M cnts : Nat) (told : Int32) (el : Nat → Nat → Nat) (sz cp : Nat → Nat) (pw dn : Nat) (fl : Nat) (hI : IV e9 x lo ta la M cnts told S el sz cp pw pw dn) (hA : AGA S x el sz) (hz0 : sz 0 = 2) (hz2 : sz 2 = 5) (hfl : sz 5 = fl) (hcn : cnts ≤ 1188) : MR yL_isWell cL_isWell 12 (some .boolean) ({ frames := 8, cells := 0, slots := 0, locals := 177 }) S [.ref x, .int (nI fl), .int (nI cnts), .int told] (vp_Si (fun r => r = 1)) := by
  refine stR_i (post := (fun r => r = 1)) (by decide) (Nat.le_of_ble_eq_true rfl) rfl (fun v hv => by subst hv; rfl) (fun κ hκ hend => ?_)
  show Gj κ _ 0 [(0, .ref x), (1, .int (nI fl)), (2, .int (nI cnts)), (3, .int told)] []
  have hM := hI.1.rm
  have hMc := hM
  obtain ⟨hx, ⟨f0, L0⟩, ⟨f1, L1⟩, ⟨f2, L2⟩, ⟨f3, L3⟩, ⟨f4, L4⟩, ⟨f5, L5⟩, ⟨f6, L6⟩, ⟨f7, L7⟩, ⟨f8, L8⟩, ⟨flo, hlo⟩, ⟨fta, hta⟩⟩ := hMc
  have b0 := L0.2.2.1
  have b2 := L2.2.2.1
  have b3 := L3.2.2.1
  have b4 := L4.2.2.1
  have b5 := L5.2.2.1
  have b7 := L7.2.2.1
  have b8 := L8.2.2.1
  have hSQ := (hI.2.2.1).sq
  refine g_iconst hκ (v := 0) dL_isWell_0 (by decide) ?_
  refine g_istore hκ [(4, .int 0), (0, .ref x), (1, .int (nI fl)), (2, .int (nI cnts)), (3, .int told)] dL_isWell_1 (by decide) rfl ?_
  refine g_iconst hκ (v := 0) dL_isWell_3 (by decide) ?_
  refine g_istore hκ [(5, .int 0), (4, .int 0), (0, .ref x), (1, .int (nI fl)), (2, .int (nI cnts)), (3, .int told)] dL_isWell_4 (by decide) rfl ?_
  refine g_iconst hκ (v := 0) dL_isWell_6 (by decide) ?_
  refine g_istore hκ [(6, .int 0), (5, .int 0), (4, .int 0), (0, .ref x), (1, .int (nI fl)), (2, .int (nI cnts)), (3, .int told)] dL_isWell_7 (by decide) rfl ?_
  refine g_iconst hκ (v := 0) dL_isWell_9 (by decide) ?_
  refine g_istore hκ [(7, .int 0), (6, .int 0), (5, .int 0), (4, .int 0), (0, .ref x), (1, .int (nI fl)), (2, .int (nI cnts)), (3, .int told)] dL_isWell_10 (by decide) rfl ?_
  have loop12 : ∀ (d12 i12 : Nat) (x12 : Int32) (a4 : Int32) (a5 : Int32) (a6 : Int32), i12 + d12 = 2 → x12 = nI i12 → (sumR (fun i => sI S q_Mast_made (el 0 i)) 2 0 0, sumR (fun i => sI S q_Mast_came (el 0 i)) 2 0 0, sumR (fun i => sI S q_Mast_lost (el 0 i)) 2 0 0) = (sumR (fun i => sI S q_Mast_made (el 0 i)) d12 i12 a4, sumR (fun i => sI S q_Mast_came (el 0 i)) d12 i12 a5, sumR (fun i => sI S q_Mast_lost (el 0 i)) d12 i12 a6) → Gj κ (PR κ S) 12 [(7, .int x12), (6, .int a6), (5, .int a5), (4, .int a4), (0, .ref x), (1, .int (nI fl)), (2, .int (nI cnts)), (3, .int told)] [] := by
    intro d12
    induction d12 with
    | zero =>
      intro i12 x12 a4 a5 a6 hi12 hx12 hF12
      subst hx12
      have eM : sumR (fun i => sI S q_Mast_made (el 0 i)) (sz 0) 0 0 = a4 := by rw [hz0]; exact congrArg (fun z => z.1) hF12
      have eC : sumR (fun i => sI S q_Mast_came (el 0 i)) (sz 0) 0 0 = a5 := by rw [hz0]; exact congrArg (fun z => z.2.1) hF12
      have eL : a6 = 0 := (show sumR (fun i => sI S q_Mast_lost (el 0 i)) 2 0 0 = a6 from congrArg (fun z => z.2.2) hF12).symm.trans (sumR_zero 2 0 (fun k _ hk => (hI.2.2.2.2.1 k (by omega)).2.1))
      refine g_iload hκ 0 dL_isWell_12 rfl ?_
      refine g_iconst hκ (v := 2) dL_isWell_14 (by decide) ?_
      refine g_icmp_ge hκ 63 dL_isWell_15 (by decide) (fun _ => ?_) (fun z => absurd (show (2 : Int32) ≤ nI i12 from nI_le (a := 2) (by omega) (by omega)) z)
      refine g_iconst hκ (v := 0) dL_isWell_63 (by decide) ?_
      refine g_istore hκ [(7, .int 0), (6, .int a6), (5, .int a5), (4, .int a4), (0, .ref x), (1, .int (nI fl)), (2, .int (nI cnts)), (3, .int told)] dL_isWell_64 (by decide) rfl ?_
      refine g_iconst hκ (v := 0) dL_isWell_66 (by decide) ?_
      refine g_istore hκ [(8, .int 0), (7, .int 0), (6, .int a6), (5, .int a5), (4, .int a4), (0, .ref x), (1, .int (nI fl)), (2, .int (nI cnts)), (3, .int told)] dL_isWell_67 (by decide) rfl ?_
      have loop69 : ∀ (d69 i69 : Nat) (x69 : Int32) (a7 : Int32), i69 + d69 = sz 7 → x69 = nI i69 → sumR (fun i => sI S q_Track_hits (el 7 i)) (sz 7) 0 0 = sumR (fun i => sI S q_Track_hits (el 7 i)) d69 i69 a7 → Gj κ (PR κ S) 69 [(8, .int x69), (7, .int a7), (6, .int a6), (5, .int a5), (4, .int a4), (0, .ref x), (1, .int (nI fl)), (2, .int (nI cnts)), (3, .int told)] [] := by
        intro d69
        induction d69 with
        | zero =>
          intro i69 x69 a7 hi69 hx69 hF69
          subst hx69
          have eH : sumR (fun i => sI S q_Track_hits (el 7 i)) (sz 7) 0 0 = a7 := hF69
          refine g_iload hκ 0 dL_isWell_69 rfl ?_
          refine g_aload_n hκ 5 dL_isWell_71 rfl rfl ?_
          refine g_iconst hκ (v := 4) dL_isWell_72 (by decide) ?_
          refine rV_i hκ hdR [.int 4] sd_X11_room qw_873 (fun D cO H s hK hP => rc_Room hK hP hx) (p_room_4 S x lo ta la el sz hM) ⟨rfl, rfl, Nat.le_of_ble_eq_true rfl, Nat.le_of_ble_eq_true rfl⟩ rfl rfl (Nat.le_of_ble_eq_true rfl) dL_isWell_73 (fun r1 hr1 => ?_)
          refine g_eqi (show r1 = nI (sz 7) from hr1) ?_
          refine g_icmp_ge hκ 171 dL_isWell_76 (by decide) (fun _ => ?_) (fun z => absurd (lp_ge rfl (by omega) (by omega)) z)
          refine g_iconst hκ (v := 0) dL_isWell_171 (by decide) ?_
          refine g_istore hκ [(8, .int 0), (7, .int a7), (6, .int a6), (5, .int a5), (4, .int a4), (0, .ref x), (1, .int (nI fl)), (2, .int (nI cnts)), (3, .int told)] dL_isWell_172 (by decide) rfl ?_
          refine g_iconst hκ (v := 0) dL_isWell_174 (by decide) ?_
          refine g_istore hκ [(9, .int 0), (8, .int 0), (7, .int a7), (6, .int a6), (5, .int a5), (4, .int a4), (0, .ref x), (1, .int (nI fl)), (2, .int (nI cnts)), (3, .int told)] dL_isWell_175 (by decide) rfl ?_
          have loop177 : ∀ (d177 i177 : Nat) (x177 : Int32) (a8 : Int32), i177 + d177 = fl → x177 = nI i177 → sumR (fun i => sI S q_Flight_count (el 5 i)) fl 0 0 = sumR (fun i => sI S q_Flight_count (el 5 i)) d177 i177 a8 → Gj κ (PR κ S) 177 [(9, .int x177), (8, .int a8), (7, .int a7), (6, .int a6), (5, .int a5), (4, .int a4), (0, .ref x), (1, .int (nI fl)), (2, .int (nI cnts)), (3, .int told)] [] := by
            intro d177
            induction d177 with
            | zero =>
              intro i177 x177 a8 hi177 hx177 hF177
              subst hx177
              have eF : sumR (fun i => sI S q_Flight_count (el 5 i)) (sz 5) 0 0 = a8 := by rw [hfl]; exact hF177
              refine g_iload hκ 0 dL_isWell_177 rfl ?_
              refine g_iload_n hκ 7 dL_isWell_179 rfl rfl ?_
              refine g_icmp_ge hκ 201 dL_isWell_180 (by decide) (fun _ => ?_) (fun z => absurd (lp_ge rfl (by omega) (by omega)) z)
              refine g_iconst hκ (v := 0) dL_isWell_201 (by decide) ?_
              refine g_istore hκ [(9, .int 0), (8, .int a8), (7, .int a7), (6, .int a6), (5, .int a5), (4, .int a4), (0, .ref x), (1, .int (nI fl)), (2, .int (nI cnts)), (3, .int told)] dL_isWell_202 (by decide) rfl ?_
              refine g_iconst hκ (v := 0) dL_isWell_204 (by decide) ?_
              refine g_istore hκ [(10, .int 0), (9, .int 0), (8, .int a8), (7, .int a7), (6, .int a6), (5, .int a5), (4, .int a4), (0, .ref x), (1, .int (nI fl)), (2, .int (nI cnts)), (3, .int told)] dL_isWell_205 (by decide) rfl ?_
              refine g_iconst hκ (v := 0) dL_isWell_207 (by decide) ?_
              refine g_istore hκ [(11, .int 0), (10, .int 0), (9, .int 0), (8, .int a8), (7, .int a7), (6, .int a6), (5, .int a5), (4, .int a4), (0, .ref x), (1, .int (nI fl)), (2, .int (nI cnts)), (3, .int told)] dL_isWell_208 (by decide) rfl ?_
              have loop210 : ∀ (d210 i210 : Nat) (x210 : Int32) (a9 : Int32) (a10 : Int32), i210 + d210 = 5 → x210 = nI i210 → (sumR (fun i => sI S q_Squadron_machines (el 2 i)) 5 0 0, sumR (fun i => sI S q_Squadron_won (el 2 i)) 5 0 0) = (sumR (fun i => sI S q_Squadron_machines (el 2 i)) d210 i210 a9, sumR (fun i => sI S q_Squadron_won (el 2 i)) d210 i210 a10) → Gj κ (PR κ S) 210 [(11, .int x210), (10, .int a10), (9, .int a9), (8, .int a8), (7, .int a7), (6, .int a6), (5, .int a5), (4, .int a4), (0, .ref x), (1, .int (nI fl)), (2, .int (nI cnts)), (3, .int told)] [] := by
                intro d210
                induction d210 with
                | zero =>
                  intro i210 x210 a9 a10 hi210 hx210 hF210
                  subst hx210
                  have eQ : sumR (fun i => sI S q_Squadron_machines (el 2 i)) (sz 2) 0 0 = a9 := by rw [hz2]; exact congrArg (fun z => z.1) hF210
                  have eW : countWonF S el sz = a10 := by unfold countWonF; rw [hz2]; exact congrArg (fun z => z.2) hF210
                  obtain ⟨Lf, Wf, cn, s1, s2, s3, s4, s5, s6⟩ := SM2.sums hI.2.2.2.2.2.2.2.2.1
                  have g1 : a9 = told - sI S q_Tally_machinesLost ta := by have e := hI.2.2.2.2.2.2.2.2.2.1; unfold SM3 at e; rw [eQ] at e; rw [← e]; grind
                  have g3 : ¬ sI S q_Tally_claims ta < a10 := by rw [← eW, s2, s3]; exact nI_nlt s5 (by omega)
                  have g4 : ¬ nI cnts - a10 < a8 := by rw [← eW, ← eF, s1, s2, sub_nI (by omega)]; exact nI_nlt (by omega) (by omega)
                  obtain ⟨s7, s8⟩ := hI.2.2.2.2.2.2.2.1
                  have g5 : a4 = a5 + a6 + sI S q_Room_plotsOnWay x := by rw [← eM, ← eC, eL, Int32.add_zero, s7, hI.pwv]
                  have g6 : a5 = a7 + sI S q_Tally_plotsWithoutTrack ta := by rw [← eC, ← eH, s8]
                  have g7 := talks_le hI.2.2.2.2.2.2.2.2.2.2.1
                  have g8 := up_le (S := S) (el := el) b5
                  have g9 := kinds_le (S := S) (el := el) b7
                  refine g_iload hκ 0 dL_isWell_210 rfl ?_
                  refine g_iconst hκ (v := 5) dL_isWell_212 (by decide) ?_
                  refine g_icmp_ge hκ 247 dL_isWell_213 (by decide) (fun _ => ?_) (fun z => absurd (show (5 : Int32) ≤ nI i210 from nI_le (a := 5) (by omega) (by omega)) z)
                  refine g_iload hκ 2 dL_isWell_247 rfl ?_
                  refine g_iload_n hκ 11 dL_isWell_249 rfl rfl ?_
                  refine g_aload_n hκ 8 dL_isWell_250 rfl rfl ?_
                  refine g_bipush hκ (v := 15) dL_isWell_251 (by decide) ?_
                  refine rV_i hκ hdR [.int 15] sd_X11_room qw_873 (fun D cO H s hK hP => rc_Room hK hP hx) (p_room_15 S x lo ta la el sz hM) ⟨rfl, rfl, Nat.le_of_ble_eq_true rfl, Nat.le_of_ble_eq_true rfl⟩ rfl rfl (Nat.le_of_ble_eq_true rfl) dL_isWell_253 (fun r2 hr2 => ?_)
                  refine g_eqi (show r2 = sI S q_Tally_machinesLost ta from hr2) ?_
                  refine g_isub hκ dL_isWell_256 ?_
                  refine g_icmp_ne hκ 295 dL_isWell_257 (by decide) (fun z => absurd g1 z) (fun _ => ?_)
                  refine g_iload hκ 1 dL_isWell_260 rfl ?_
                  refine g_aload_n hκ 8 dL_isWell_262 rfl rfl ?_
                  refine g_bipush hκ (v := 13) dL_isWell_263 (by decide) ?_
                  refine rV_i hκ hdR [.int 13] sd_X11_room qw_873 (fun D cO H s hK hP => rc_Room hK hP hx) (p_room_13 S x lo ta la el sz hM) ⟨rfl, rfl, Nat.le_of_ble_eq_true rfl, Nat.le_of_ble_eq_true rfl⟩ rfl rfl (Nat.le_of_ble_eq_true rfl) dL_isWell_265 (fun r3 hr3 => ?_)
                  refine g_eqi (show r3 = countWonF S el sz from hr3) ?_
                  refine g_icmp_ne hκ 295 dL_isWell_268 (by decide) (fun z => absurd eW.symm z) (fun _ => ?_)
                  refine g_aload_n hκ 8 dL_isWell_271 rfl rfl ?_
                  refine g_bipush hκ (v := 14) dL_isWell_272 (by decide) ?_
                  refine rV_i hκ hdR [.int 14] sd_X11_room qw_873 (fun D cO H s hK hP => rc_Room hK hP hx) (p_room_14 S x lo ta la el sz hM) ⟨rfl, rfl, Nat.le_of_ble_eq_true rfl, Nat.le_of_ble_eq_true rfl⟩ rfl rfl (Nat.le_of_ble_eq_true rfl) dL_isWell_274 (fun r4 hr4 => ?_)
                  refine g_eqi (show r4 = sI S q_Tally_claims ta from hr4) ?_
                  refine g_iload hκ 1 dL_isWell_277 rfl ?_
                  refine g_icmp_lt hκ 295 dL_isWell_279 (by decide) (fun z => absurd z g3) (fun _ => ?_)
                  refine g_iload hκ 3 dL_isWell_282 rfl ?_
                  refine g_iload_n hκ 10 dL_isWell_284 rfl rfl ?_
                  refine g_iload hκ 1 dL_isWell_285 rfl ?_
                  refine g_isub hκ dL_isWell_287 ?_
                  refine g_icmp_gt hκ 295 dL_isWell_288 (by decide) (fun z => absurd z g4) (fun _ => ?_)
                  refine g_iconst hκ (v := 1) dL_isWell_291 (by decide) ?_
                  refine g_goto hκ 296 dL_isWell_292 (by decide) ?_
                  refine g_istore hκ [(11, .int 1), (10, .int a10), (9, .int a9), (8, .int a8), (7, .int a7), (6, .int a6), (5, .int a5), (4, .int a4), (0, .ref x), (1, .int (nI fl)), (2, .int (nI cnts)), (3, .int told)] dL_isWell_296 (by decide) rfl ?_
                  refine g_iload hκ 0 dL_isWell_298 rfl ?_
                  refine g_if_eq hκ 387 dL_isWell_300 (by decide) (fun z => absurd z (by decide)) (fun _ => ?_)
                  refine g_iload hκ 7 dL_isWell_303 rfl ?_
                  refine g_iload hκ 6 dL_isWell_305 rfl ?_
                  refine g_iload hκ 5 dL_isWell_307 rfl ?_
                  refine g_iadd hκ dL_isWell_309 ?_
                  refine g_aload_n hκ 8 dL_isWell_310 rfl rfl ?_
                  refine g_bipush hκ (v := 8) dL_isWell_311 (by decide) ?_
                  refine rV_i hκ hdR [.int 8] sd_X11_room qw_873 (fun D cO H s hK hP => rc_Room hK hP hx) (p_room_8 S x lo ta la el sz hM) ⟨rfl, rfl, Nat.le_of_ble_eq_true rfl, Nat.le_of_ble_eq_true rfl⟩ rfl rfl (Nat.le_of_ble_eq_true rfl) dL_isWell_313 (fun r5 hr5 => ?_)
                  refine g_eqi (show r5 = sI S q_Room_plotsOnWay x from hr5) ?_
                  refine g_iadd hκ dL_isWell_316 ?_
                  refine g_icmp_ne hκ 387 dL_isWell_317 (by decide) (fun z => absurd g5 z) (fun _ => ?_)
                  refine g_iload hκ 6 dL_isWell_320 rfl ?_
                  refine g_iload hκ 4 dL_isWell_322 rfl ?_
                  refine g_aload_n hκ 8 dL_isWell_324 rfl rfl ?_
                  refine g_bipush hκ (v := 9) dL_isWell_325 (by decide) ?_
                  refine rV_i hκ hdR [.int 9] sd_X11_room qw_873 (fun D cO H s hK hP => rc_Room hK hP hx) (p_room_9 S x lo ta la el sz hM) ⟨rfl, rfl, Nat.le_of_ble_eq_true rfl, Nat.le_of_ble_eq_true rfl⟩ rfl rfl (Nat.le_of_ble_eq_true rfl) dL_isWell_327 (fun r6 hr6 => ?_)
                  refine g_eqi (show r6 = sI S q_Tally_plotsWithoutTrack ta from hr6) ?_
                  refine g_iadd hκ dL_isWell_330 ?_
                  refine g_icmp_ne hκ 387 dL_isWell_331 (by decide) (fun z => absurd g6 z) (fun _ => ?_)
                  refine g_iload hκ 5 dL_isWell_334 rfl ?_
                  refine g_if_ne hκ 387 dL_isWell_336 (by decide) (fun z => absurd eL z) (fun _ => ?_)
                  refine g_aload_n hκ 8 dL_isWell_339 rfl rfl ?_
                  refine g_bipush hκ (v := 11) dL_isWell_340 (by decide) ?_
                  refine rV_i hκ hdR [.int 11] sd_X11_room qw_873 (fun D cO H s hK hP => rc_Room hK hP hx) (p_room_11 S x lo ta la el sz hM) ⟨rfl, rfl, Nat.le_of_ble_eq_true rfl, Nat.le_of_ble_eq_true rfl⟩ rfl rfl (Nat.le_of_ble_eq_true rfl) dL_isWell_342 (fun r7 hr7 => ?_)
                  refine g_eqi (show r7 = countTalksF S el sz from hr7) ?_
                  refine g_iconst hκ (v := 3) dL_isWell_345 (by decide) ?_
                  refine g_icmp_gt hκ 387 dL_isWell_346 (by decide) (fun z => absurd z g7) (fun _ => ?_)
                  refine g_aload_n hκ 8 dL_isWell_349 rfl rfl ?_
                  refine g_iconst hκ (v := 2) dL_isWell_350 (by decide) ?_
                  refine rV_i hκ hdR [.int 2] sd_X11_room qw_873 (fun D cO H s hK hP => rc_Room hK hP hx) (p_room_2 S x lo ta la el sz hM) ⟨rfl, rfl, Nat.le_of_ble_eq_true rfl, Nat.le_of_ble_eq_true rfl⟩ rfl rfl (Nat.le_of_ble_eq_true rfl) dL_isWell_351 (fun r8 hr8 => ?_)
                  refine g_eqi (show r8 = countUpF S el sz 1 from hr8) ?_
                  refine g_aload_n hκ 8 dL_isWell_354 rfl rfl ?_
                  refine g_iconst hκ (v := 1) dL_isWell_355 (by decide) ?_
                  refine rV_i hκ hdR [.int 1] sd_X11_room qw_873 (fun D cO H s hK hP => rc_Room hK hP hx) (p_room_1 S x lo ta la el sz hM) ⟨rfl, rfl, Nat.le_of_ble_eq_true rfl, Nat.le_of_ble_eq_true rfl⟩ rfl rfl (Nat.le_of_ble_eq_true rfl) dL_isWell_356 (fun r9 hr9 => ?_)
                  refine g_eqi (show r9 = countUpF S el sz 0 from hr9) ?_
                  refine g_icmp_gt hκ 387 dL_isWell_359 (by decide) (fun z => absurd z g8) (fun _ => ?_)
                  refine g_aload_n hκ 8 dL_isWell_362 rfl rfl ?_
                  refine g_bipush hκ (v := 6) dL_isWell_363 (by decide) ?_
                  refine rV_i hκ hdR [.int 6] sd_X11_room qw_873 (fun D cO H s hK hP => rc_Room hK hP hx) (p_room_6 S x lo ta la el sz hM) ⟨rfl, rfl, Nat.le_of_ble_eq_true rfl, Nat.le_of_ble_eq_true rfl⟩ rfl rfl (Nat.le_of_ble_eq_true rfl) dL_isWell_365 (fun r10 hr10 => ?_)
                  refine g_eqi (show r10 = countKindF S el sz 0 from hr10) ?_
                  refine g_aload_n hκ 8 dL_isWell_368 rfl rfl ?_
                  refine g_bipush hκ (v := 7) dL_isWell_369 (by decide) ?_
                  refine rV_i hκ hdR [.int 7] sd_X11_room qw_873 (fun D cO H s hK hP => rc_Room hK hP hx) (p_room_7 S x lo ta la el sz hM) ⟨rfl, rfl, Nat.le_of_ble_eq_true rfl, Nat.le_of_ble_eq_true rfl⟩ rfl rfl (Nat.le_of_ble_eq_true rfl) dL_isWell_371 (fun r11 hr11 => ?_)
                  refine g_eqi (show r11 = countKindF S el sz 2 from hr11) ?_
                  refine g_iadd hκ dL_isWell_374 ?_
                  refine g_aload_n hκ 8 dL_isWell_375 rfl rfl ?_
                  refine g_iconst hκ (v := 5) dL_isWell_376 (by decide) ?_
                  refine rV_i hκ hdR [.int 5] sd_X11_room qw_873 (fun D cO H s hK hP => rc_Room hK hP hx) (p_room_5 S x lo ta la el sz hM) ⟨rfl, rfl, Nat.le_of_ble_eq_true rfl, Nat.le_of_ble_eq_true rfl⟩ rfl rfl (Nat.le_of_ble_eq_true rfl) dL_isWell_377 (fun r12 hr12 => ?_)
                  refine g_eqi (show r12 = countLiveF S el sz from hr12) ?_
                  refine g_icmp_gt hκ 387 dL_isWell_380 (by decide) (fun z => absurd z g9) (fun _ => ?_)
                  refine g_iconst hκ (v := 1) dL_isWell_383 (by decide) ?_
                  refine g_goto hκ 388 dL_isWell_384 (by decide) ?_
                  exact hend _ _ _ dL_isWell_388 (rfl)
                | succ d210 ih210 =>
                  intro i210 x210 a9 a10 hi210 hx210 hF210
                  subst hx210
                  refine g_iload hκ 0 dL_isWell_210 rfl ?_
                  refine g_iconst hκ (v := 5) dL_isWell_212 (by decide) ?_
                  refine g_icmp_ge hκ 247 dL_isWell_213 (by decide) (fun z => absurd z (show ¬ (5 : Int32) ≤ nI i210 from nI_ge (b := 5) (by omega) (by decide))) (fun _ => ?_)
                  refine g_iload hκ 2 dL_isWell_216 rfl ?_
                  refine g_aload_n hκ 8 dL_isWell_218 rfl rfl ?_
                  refine g_iload hκ 0 dL_isWell_219 rfl ?_
                  refine g_iconst hκ (v := 1) dL_isWell_221 (by decide) ?_
                  refine rV_i hκ hdR [.int (nI i210), .int 1] sd_X11_ofSquadron qw_858 (fun D cO H s hK hP => rc_Room hK hP hx) (p_ofSq_1 S x lo ta la el sz i210 (nI i210) hM rfl (by omega)) ⟨rfl, rfl, Nat.le_of_ble_eq_true rfl, Nat.le_of_ble_eq_true rfl⟩ rfl rfl (Nat.le_of_ble_eq_true rfl) dL_isWell_222 (fun r13 hr13 => ?_)
                  refine g_eqi (show r13 = sI S q_Squadron_machines (el 2 i210) from hr13) ?_
                  refine g_iadd hκ dL_isWell_225 ?_
                  refine g_istore hκ [(9, .int (a9 + (sI S q_Squadron_machines (el 2 i210)))), (11, .int (nI i210)), (10, .int a10), (8, .int a8), (7, .int a7), (6, .int a6), (5, .int a5), (4, .int a4), (0, .ref x), (1, .int (nI fl)), (2, .int (nI cnts)), (3, .int told)] dL_isWell_226 (by decide) rfl ?_
                  refine g_iload hκ 2 dL_isWell_228 rfl ?_
                  refine g_aload_n hκ 8 dL_isWell_230 rfl rfl ?_
                  refine g_iload hκ 1 dL_isWell_231 rfl ?_
                  refine g_bipush hκ (v := 9) dL_isWell_233 (by decide) ?_
                  refine rV_i hκ hdR [.int (nI i210), .int 9] sd_X11_ofSquadron qw_858 (fun D cO H s hK hP => rc_Room hK hP hx) (p_ofSq_9 S x lo ta la el sz i210 (nI i210) hM rfl (by omega)) ⟨rfl, rfl, Nat.le_of_ble_eq_true rfl, Nat.le_of_ble_eq_true rfl⟩ rfl rfl (Nat.le_of_ble_eq_true rfl) dL_isWell_235 (fun r14 hr14 => ?_)
                  refine g_eqi (show r14 = sI S q_Squadron_won (el 2 i210) from hr14) ?_
                  refine g_iadd hκ dL_isWell_238 ?_
                  refine g_istore hκ [(10, .int (a10 + (sI S q_Squadron_won (el 2 i210)))), (9, .int (a9 + (sI S q_Squadron_machines (el 2 i210)))), (11, .int (nI i210)), (8, .int a8), (7, .int a7), (6, .int a6), (5, .int a5), (4, .int a4), (0, .ref x), (1, .int (nI fl)), (2, .int (nI cnts)), (3, .int told)] dL_isWell_239 (by decide) rfl ?_
                  obtain ⟨v15, hv15⟩ : ∃ z : Int32, nI i210 + 1 = z := ⟨_, rfl⟩
                  refine g_iinc hκ (k := 2) (v := v15) [(11, .int v15), (10, .int (a10 + (sI S q_Squadron_won (el 2 i210)))), (9, .int (a9 + (sI S q_Squadron_machines (el 2 i210)))), (8, .int a8), (7, .int a7), (6, .int a6), (5, .int a5), (4, .int a4), (0, .ref x), (1, .int (nI fl)), (2, .int (nI cnts)), (3, .int told)] dL_isWell_241 rfl hv15 (by decide) rfl ?_
                  refine g_goto hκ 210 dL_isWell_244 (by decide) ?_
                  refine g_lv [(11, .int v15), (10, .int (a10 + (sI S q_Squadron_won (el 2 i210)))), (9, .int (a9 + (sI S q_Squadron_machines (el 2 i210)))), (8, .int a8), (7, .int a7), (6, .int a6), (5, .int a5), (4, .int a4), (0, .ref x), (1, .int (nI fl)), (2, .int (nI cnts)), (3, .int told)] [0, 1, 2, 3, 4, 5, 6, 7, 8, 9, 10, 11] rfl ?_
                  exact ih210 (i210 + 1) v15 (a9 + (sI S q_Squadron_machines (el 2 i210))) (a10 + (sI S q_Squadron_won (el 2 i210))) (by omega) (lp_s rfl hv15) (by exact hF210)
              exact loop210 5 0 0 0 0 (by omega) (by first | rfl | decide) (by first | rfl | decide)
            | succ d177 ih177 =>
              intro i177 x177 a8 hi177 hx177 hF177
              subst hx177
              refine g_iload hκ 0 dL_isWell_177 rfl ?_
              refine g_iload_n hκ 7 dL_isWell_179 rfl rfl ?_
              refine g_icmp_ge hκ 201 dL_isWell_180 (by decide) (fun z => absurd z (lp_nge rfl (by omega) (by omega))) (fun _ => ?_)
              refine g_iload hκ 1 dL_isWell_183 rfl ?_
              refine g_aload_n hκ 6 dL_isWell_185 rfl rfl ?_
              refine g_iload hκ 0 dL_isWell_186 rfl ?_
              refine g_iconst hκ (v := 5) dL_isWell_188 (by decide) ?_
              refine rV_i hκ hdR [.int (nI i177), .int 5] sd_X11_ofFlight qw_1077 (fun D cO H s hK hP => rc_Room hK hP hx) (p_ofFlight_5 S x lo ta la el sz i177 (nI i177) hM rfl (by omega)) ⟨rfl, rfl, Nat.le_of_ble_eq_true rfl, Nat.le_of_ble_eq_true rfl⟩ rfl rfl (Nat.le_of_ble_eq_true rfl) dL_isWell_189 (fun r16 hr16 => ?_)
              refine g_eqi (show r16 = sI S q_Flight_count (el 5 i177) from hr16) ?_
              refine g_iadd hκ dL_isWell_192 ?_
              refine g_istore hκ [(8, .int (a8 + (sI S q_Flight_count (el 5 i177)))), (9, .int (nI i177)), (7, .int a7), (6, .int a6), (5, .int a5), (4, .int a4), (0, .ref x), (1, .int (nI fl)), (2, .int (nI cnts)), (3, .int told)] dL_isWell_193 (by decide) rfl ?_
              obtain ⟨v17, hv17⟩ : ∃ z : Int32, nI i177 + 1 = z := ⟨_, rfl⟩
              refine g_iinc hκ (k := 1) (v := v17) [(9, .int v17), (8, .int (a8 + (sI S q_Flight_count (el 5 i177)))), (7, .int a7), (6, .int a6), (5, .int a5), (4, .int a4), (0, .ref x), (1, .int (nI fl)), (2, .int (nI cnts)), (3, .int told)] dL_isWell_195 rfl hv17 (by decide) rfl ?_
              refine g_goto hκ 177 dL_isWell_198 (by decide) ?_
              refine g_lv [(9, .int v17), (8, .int (a8 + (sI S q_Flight_count (el 5 i177)))), (7, .int a7), (6, .int a6), (5, .int a5), (4, .int a4), (0, .ref x), (1, .int (nI fl)), (2, .int (nI cnts)), (3, .int told)] [0, 1, 2, 3, 4, 5, 6, 7, 8, 9] rfl ?_
              exact ih177 (i177 + 1) v17 (a8 + (sI S q_Flight_count (el 5 i177))) (by omega) (lp_s rfl hv17) (by exact hF177)
          exact loop177 fl 0 0 0 (by omega) (by first | rfl | decide) (by first | rfl | decide)
        | succ d69 ih69 =>
          intro i69 x69 a7 hi69 hx69 hF69
          subst hx69
          refine g_iload hκ 0 dL_isWell_69 rfl ?_
          refine g_aload_n hκ 5 dL_isWell_71 rfl rfl ?_
          refine g_iconst hκ (v := 4) dL_isWell_72 (by decide) ?_
          refine rV_i hκ hdR [.int 4] sd_X11_room qw_873 (fun D cO H s hK hP => rc_Room hK hP hx) (p_room_4 S x lo ta la el sz hM) ⟨rfl, rfl, Nat.le_of_ble_eq_true rfl, Nat.le_of_ble_eq_true rfl⟩ rfl rfl (Nat.le_of_ble_eq_true rfl) dL_isWell_73 (fun r18 hr18 => ?_)
          refine g_eqi (show r18 = nI (sz 7) from hr18) ?_
          refine g_icmp_ge hκ 171 dL_isWell_76 (by decide) (fun z => absurd z (lp_nge rfl (by omega) (by omega))) (fun _ => ?_)
          refine g_iload hκ 1 dL_isWell_79 rfl ?_
          refine g_aload_n hκ 5 dL_isWell_81 rfl rfl ?_
          refine g_iload hκ 0 dL_isWell_82 rfl ?_
          refine g_bipush hκ (v := 6) dL_isWell_84 (by decide) ?_
          refine rV_i hκ hdR [.int (nI i69), .int 6] sd_X11_ofTrack qw_1072 (fun D cO H s hK hP => rc_Room hK hP hx) (p_ofTrack_6 S x lo ta la el sz i69 (nI i69) hM rfl (by omega) hSQ) ⟨rfl, rfl, Nat.le_of_ble_eq_true rfl, Nat.le_of_ble_eq_true rfl⟩ rfl rfl (Nat.le_of_ble_eq_true rfl) dL_isWell_86 (fun r19 hr19 => ?_)
          refine g_eqi (show r19 = sI S q_Track_hits (el 7 i69) from hr19) ?_
          refine g_iadd hκ dL_isWell_89 ?_
          refine g_istore hκ [(7, .int (a7 + (sI S q_Track_hits (el 7 i69)))), (8, .int (nI i69)), (6, .int a6), (5, .int a5), (4, .int a4), (0, .ref x), (1, .int (nI fl)), (2, .int (nI cnts)), (3, .int told)] dL_isWell_90 (by decide) rfl ?_
          refine g_aload_n hκ 5 dL_isWell_92 rfl rfl ?_
          refine g_iload hκ 1 dL_isWell_93 rfl ?_
          refine g_iconst hκ (v := 0) dL_isWell_95 (by decide) ?_
          refine rV_i hκ hdR [.int (nI i69), .int 0] sd_X11_ofTrack qw_1072 (fun D cO H s hK hP => rc_Room hK hP hx) (p_ofTrack_0 S x lo ta la el sz i69 (nI i69) hM rfl (by omega) hSQ) ⟨rfl, rfl, Nat.le_of_ble_eq_true rfl, Nat.le_of_ble_eq_true rfl⟩ rfl rfl (Nat.le_of_ble_eq_true rfl) dL_isWell_96 (fun r20 hr20 => ?_)
          refine g_eqi (show r20 = sI S q_Track_x (el 7 i69) from hr20) ?_
          refine g_if_lt hκ 163 dL_isWell_99 (by decide) (fun z => absurd z (pl_b (hI.2.2.2.1 i69 (by omega))).1) (fun _ => ?_)
          refine g_aload_n hκ 5 dL_isWell_102 rfl rfl ?_
          refine g_iload hκ 1 dL_isWell_103 rfl ?_
          refine g_iconst hκ (v := 0) dL_isWell_105 (by decide) ?_
          refine rV_i hκ hdR [.int (nI i69), .int 0] sd_X11_ofTrack qw_1072 (fun D cO H s hK hP => rc_Room hK hP hx) (p_ofTrack_0 S x lo ta la el sz i69 (nI i69) hM rfl (by omega) hSQ) ⟨rfl, rfl, Nat.le_of_ble_eq_true rfl, Nat.le_of_ble_eq_true rfl⟩ rfl rfl (Nat.le_of_ble_eq_true rfl) dL_isWell_106 (fun r21 hr21 => ?_)
          refine g_eqi (show r21 = sI S q_Track_x (el 7 i69) from hr21) ?_
          refine g_sipush hκ (v := 199) dL_isWell_109 (by decide) ?_
          refine g_icmp_gt hκ 163 dL_isWell_112 (by decide) (fun z => absurd z (pl_b (hI.2.2.2.1 i69 (by omega))).2.1) (fun _ => ?_)
          refine g_aload_n hκ 5 dL_isWell_115 rfl rfl ?_
          refine g_iload hκ 1 dL_isWell_116 rfl ?_
          refine g_iconst hκ (v := 1) dL_isWell_118 (by decide) ?_
          refine rV_i hκ hdR [.int (nI i69), .int 1] sd_X11_ofTrack qw_1072 (fun D cO H s hK hP => rc_Room hK hP hx) (p_ofTrack_1 S x lo ta la el sz i69 (nI i69) hM rfl (by omega) hSQ) ⟨rfl, rfl, Nat.le_of_ble_eq_true rfl, Nat.le_of_ble_eq_true rfl⟩ rfl rfl (Nat.le_of_ble_eq_true rfl) dL_isWell_119 (fun r22 hr22 => ?_)
          refine g_eqi (show r22 = sI S q_Track_y (el 7 i69) from hr22) ?_
          refine g_if_lt hκ 163 dL_isWell_122 (by decide) (fun z => absurd z (pl_b (hI.2.2.2.1 i69 (by omega))).2.2.1) (fun _ => ?_)
          refine g_aload_n hκ 5 dL_isWell_125 rfl rfl ?_
          refine g_iload hκ 1 dL_isWell_126 rfl ?_
          refine g_iconst hκ (v := 1) dL_isWell_128 (by decide) ?_
          refine rV_i hκ hdR [.int (nI i69), .int 1] sd_X11_ofTrack qw_1072 (fun D cO H s hK hP => rc_Room hK hP hx) (p_ofTrack_1 S x lo ta la el sz i69 (nI i69) hM rfl (by omega) hSQ) ⟨rfl, rfl, Nat.le_of_ble_eq_true rfl, Nat.le_of_ble_eq_true rfl⟩ rfl rfl (Nat.le_of_ble_eq_true rfl) dL_isWell_129 (fun r23 hr23 => ?_)
          refine g_eqi (show r23 = sI S q_Track_y (el 7 i69) from hr23) ?_
          refine g_sipush hκ (v := 199) dL_isWell_132 (by decide) ?_
          refine g_icmp_gt hκ 163 dL_isWell_135 (by decide) (fun z => absurd z (pl_b (hI.2.2.2.1 i69 (by omega))).2.2.2) (fun _ => ?_)
          refine g_aload_n hκ 5 dL_isWell_138 rfl rfl ?_
          refine g_iload hκ 1 dL_isWell_139 rfl ?_
          refine g_bipush hκ (v := 9) dL_isWell_141 (by decide) ?_
          refine rV_i hκ hdR [.int (nI i69), .int 9] sd_X11_ofTrack qw_1072 (fun D cO H s hK hP => rc_Room hK hP hx) (p_ofTrack_9 S x lo ta la el sz i69 (nI i69) hM rfl (by omega) hSQ) ⟨rfl, rfl, Nat.le_of_ble_eq_true rfl, Nat.le_of_ble_eq_true rfl⟩ rfl rfl (Nat.le_of_ble_eq_true rfl) dL_isWell_143 (fun r24 hr24 => ?_)
          refine g_eqi (show r24 = sI S q_Room_minute x - sI S q_Track_minute (el 7 i69) from hr24) ?_
          refine g_bipush hκ (v := 6) dL_isWell_146 (by decide) ?_
          refine g_icmp_le hκ 165 dL_isWell_148 (by decide) (fun c25 => ?_) (fun c25 => ?_)
          · skip
            obtain ⟨v26, hv26⟩ : ∃ z : Int32, nI i69 + 1 = z := ⟨_, rfl⟩
            refine g_iinc hκ (k := 1) (v := v26) [(8, .int v26), (7, .int (a7 + (sI S q_Track_hits (el 7 i69)))), (6, .int a6), (5, .int a5), (4, .int a4), (0, .ref x), (1, .int (nI fl)), (2, .int (nI cnts)), (3, .int told)] dL_isWell_165 rfl hv26 (by decide) rfl ?_
            refine g_goto hκ 69 dL_isWell_168 (by decide) ?_
            refine g_lv [(8, .int v26), (7, .int (a7 + (sI S q_Track_hits (el 7 i69)))), (6, .int a6), (5, .int a5), (4, .int a4), (0, .ref x), (1, .int (nI fl)), (2, .int (nI cnts)), (3, .int told)] [0, 1, 2, 3, 4, 5, 6, 7, 8] rfl ?_
            exact ih69 (i69 + 1) v26 (a7 + (sI S q_Track_hits (el 7 i69))) (by omega) (lp_s rfl hv26) (by exact hF69)
          · skip
            refine g_aload_n hκ 5 dL_isWell_151 rfl rfl ?_
            refine g_iload hκ 1 dL_isWell_152 rfl ?_
            refine g_bipush hκ (v := 7) dL_isWell_154 (by decide) ?_
            refine rV_i hκ hdR [.int (nI i69), .int 7] sd_X11_ofTrack qw_1072 (fun D cO H s hK hP => rc_Room hK hP hx) (p_ofTrack_7 S x lo ta la el sz i69 (nI i69) hM rfl (by omega) hSQ) ⟨rfl, rfl, Nat.le_of_ble_eq_true rfl, Nat.le_of_ble_eq_true rfl⟩ rfl rfl (Nat.le_of_ble_eq_true rfl) dL_isWell_156 (fun r27 hr27 => ?_)
            refine g_eqi (y := 0) ((show r27 = zb (!decide (sI S q_Track_isLive (el 7 i69) = 0)) from hr27).trans (ag0 (hA i69 (by omega)) c25)) ?_
            refine g_iconst hκ (v := 1) dL_isWell_159 (by decide) ?_
            refine g_icmp_ne hκ 165 dL_isWell_160 (by decide) (fun _ => ?_) (fun z => absurd z (by decide))
            obtain ⟨v28, hv28⟩ : ∃ z : Int32, nI i69 + 1 = z := ⟨_, rfl⟩
            refine g_iinc hκ (k := 1) (v := v28) [(8, .int v28), (7, .int (a7 + (sI S q_Track_hits (el 7 i69)))), (6, .int a6), (5, .int a5), (4, .int a4), (0, .ref x), (1, .int (nI fl)), (2, .int (nI cnts)), (3, .int told)] dL_isWell_165 rfl hv28 (by decide) rfl ?_
            refine g_goto hκ 69 dL_isWell_168 (by decide) ?_
            refine g_lv [(8, .int v28), (7, .int (a7 + (sI S q_Track_hits (el 7 i69)))), (6, .int a6), (5, .int a5), (4, .int a4), (0, .ref x), (1, .int (nI fl)), (2, .int (nI cnts)), (3, .int told)] [0, 1, 2, 3, 4, 5, 6, 7, 8] rfl ?_
            exact ih69 (i69 + 1) v28 (a7 + (sI S q_Track_hits (el 7 i69))) (by omega) (lp_s rfl hv28) (by exact hF69)
      exact loop69 (sz 7) 0 0 0 (by omega) (by first | rfl | decide) (by first | rfl | decide)
    | succ d12 ih12 =>
      intro i12 x12 a4 a5 a6 hi12 hx12 hF12
      subst hx12
      refine g_iload hκ 0 dL_isWell_12 rfl ?_
      refine g_iconst hκ (v := 2) dL_isWell_14 (by decide) ?_
      refine g_icmp_ge hκ 63 dL_isWell_15 (by decide) (fun z => absurd z (show ¬ (2 : Int32) ≤ nI i12 from nI_ge (b := 2) (by omega) (by decide))) (fun _ => ?_)
      refine g_iload hκ 3 dL_isWell_18 rfl ?_
      refine g_aload_n hκ 4 dL_isWell_20 rfl rfl ?_
      refine g_iload hκ 0 dL_isWell_21 rfl ?_
      refine g_bipush hκ (v := 7) dL_isWell_23 (by decide) ?_
      refine rV_i hκ hdR [.int (nI i12), .int 7] sd_X11_ofMast qw_1066 (fun D cO H s hK hP => rc_Room hK hP hx) (p_ofMast_7 S x lo ta la el sz i12 (nI i12) hM rfl (by omega)) ⟨rfl, rfl, Nat.le_of_ble_eq_true rfl, Nat.le_of_ble_eq_true rfl⟩ rfl rfl (Nat.le_of_ble_eq_true rfl) dL_isWell_25 (fun r29 hr29 => ?_)
      refine g_eqi (show r29 = sI S q_Mast_made (el 0 i12) from hr29) ?_
      refine g_iadd hκ dL_isWell_28 ?_
      refine g_istore hκ [(4, .int (a4 + (sI S q_Mast_made (el 0 i12)))), (7, .int (nI i12)), (6, .int a6), (5, .int a5), (0, .ref x), (1, .int (nI fl)), (2, .int (nI cnts)), (3, .int told)] dL_isWell_29 (by decide) rfl ?_
      refine g_iload hκ 3 dL_isWell_31 rfl ?_
      refine g_aload_n hκ 4 dL_isWell_33 rfl rfl ?_
      refine g_iload hκ 1 dL_isWell_34 rfl ?_
      refine g_bipush hκ (v := 8) dL_isWell_36 (by decide) ?_
      refine rV_i hκ hdR [.int (nI i12), .int 8] sd_X11_ofMast qw_1066 (fun D cO H s hK hP => rc_Room hK hP hx) (p_ofMast_8 S x lo ta la el sz i12 (nI i12) hM rfl (by omega)) ⟨rfl, rfl, Nat.le_of_ble_eq_true rfl, Nat.le_of_ble_eq_true rfl⟩ rfl rfl (Nat.le_of_ble_eq_true rfl) dL_isWell_38 (fun r30 hr30 => ?_)
      refine g_eqi (show r30 = sI S q_Mast_came (el 0 i12) from hr30) ?_
      refine g_iadd hκ dL_isWell_41 ?_
      refine g_istore hκ [(5, .int (a5 + (sI S q_Mast_came (el 0 i12)))), (4, .int (a4 + (sI S q_Mast_made (el 0 i12)))), (7, .int (nI i12)), (6, .int a6), (0, .ref x), (1, .int (nI fl)), (2, .int (nI cnts)), (3, .int told)] dL_isWell_42 (by decide) rfl ?_
      refine g_iload hκ 3 dL_isWell_44 rfl ?_
      refine g_aload_n hκ 4 dL_isWell_46 rfl rfl ?_
      refine g_iload hκ 2 dL_isWell_47 rfl ?_
      refine g_bipush hκ (v := 9) dL_isWell_49 (by decide) ?_
      refine rV_i hκ hdR [.int (nI i12), .int 9] sd_X11_ofMast qw_1066 (fun D cO H s hK hP => rc_Room hK hP hx) (p_ofMast_9 S x lo ta la el sz i12 (nI i12) hM rfl (by omega)) ⟨rfl, rfl, Nat.le_of_ble_eq_true rfl, Nat.le_of_ble_eq_true rfl⟩ rfl rfl (Nat.le_of_ble_eq_true rfl) dL_isWell_51 (fun r31 hr31 => ?_)
      refine g_eqi (show r31 = sI S q_Mast_lost (el 0 i12) from hr31) ?_
      refine g_iadd hκ dL_isWell_54 ?_
      refine g_istore hκ [(6, .int (a6 + (sI S q_Mast_lost (el 0 i12)))), (5, .int (a5 + (sI S q_Mast_came (el 0 i12)))), (4, .int (a4 + (sI S q_Mast_made (el 0 i12)))), (7, .int (nI i12)), (0, .ref x), (1, .int (nI fl)), (2, .int (nI cnts)), (3, .int told)] dL_isWell_55 (by decide) rfl ?_
      obtain ⟨v32, hv32⟩ : ∃ z : Int32, nI i12 + 1 = z := ⟨_, rfl⟩
      refine g_iinc hκ (k := 3) (v := v32) [(7, .int v32), (6, .int (a6 + (sI S q_Mast_lost (el 0 i12)))), (5, .int (a5 + (sI S q_Mast_came (el 0 i12)))), (4, .int (a4 + (sI S q_Mast_made (el 0 i12)))), (0, .ref x), (1, .int (nI fl)), (2, .int (nI cnts)), (3, .int told)] dL_isWell_57 rfl hv32 (by decide) rfl ?_
      refine g_goto hκ 12 dL_isWell_60 (by decide) ?_
      refine g_lv [(7, .int v32), (6, .int (a6 + (sI S q_Mast_lost (el 0 i12)))), (5, .int (a5 + (sI S q_Mast_came (el 0 i12)))), (4, .int (a4 + (sI S q_Mast_made (el 0 i12)))), (0, .ref x), (1, .int (nI fl)), (2, .int (nI cnts)), (3, .int told)] [0, 1, 2, 3, 4, 5, 6, 7] rfl ?_
      exact ih12 (i12 + 1) v32 (a4 + (sI S q_Mast_made (el 0 i12))) (a5 + (sI S q_Mast_came (el 0 i12))) (a6 + (sI S q_Mast_lost (el 0 i12))) (by omega) (lp_s rfl hv32) (by exact hF12)
  exact loop12 2 0 0 0 0 0 (by omega) (by first | rfl | decide) (by first | rfl | decide)
