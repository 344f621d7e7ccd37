set_option maxHeartbeats 4000000 in
set_option maxRecDepth 100000 in
theorem k_pass (e9 : Nat × Nat) (S : wPS) (x lo ta : Nat) (la : Nat → Nat) (M cnts : Nat) (told : Int32) (el : Nat → Nat → Nat) (sz cp : Nat → Nat) (pw dn : Nat) (w B n : Nat) (hI : IV e9 x lo ta la M cnts told S el sz cp pw pw dn) (hcn : cnts ≤ 1188) (hz0 : sz 0 ≤ 2) (hz2 : sz 2 ≤ 5) (hz3 : sz 3 ≤ 3) (hz5 : sz 5 ≤ 12) (h16 : sz 7 ≤ 16) (hB : sz 8 + 72 ≤ B) (hB2 : B ≤ 29000) (hw : gN B + 16 ≤ w) (hn1 : 1 ≤ n) (hn3 : n ≤ 3) (hM9 : M ≤ 900) : MVi e9 yX11_pass cX11_pass 3 (some .int) ({ frames := 10, cells := 240, slots := (72 * w + 2208), locals := 241 }) S [.ref x, .int (nI n)] (fun r S1 => r = nI (M + n) ∧ ∃ (el1 : Nat → Nat → Nat) (sz1 cp1 : Nat → Nat) (pw1 dn1 : Nat), IV e9 x lo ta la (M + n) cnts told S1 el1 sz1 cp1 pw1 pw1 dn1 ∧ GR el sz el1 sz1 ∧ sz1 7 ≤ 16 ∧ sz1 8 ≤ sz 8 + 24 * n ∧ dn ≤ dn1 ∧ dn1 ≤ dn + 300 ∧ AGA S1 x el1 sz1) 240 (72 * w + 2208) := by
  refine stV_i (post := (fun r S1 => r = nI (M + n) ∧ ∃ (el1 : Nat → Nat → Nat) (sz1 cp1 : Nat → Nat) (pw1 dn1 : Nat), IV e9 x lo ta la (M + n) cnts told S1 el1 sz1 cp1 pw1 pw1 dn1 ∧ GR el sz el1 sz1 ∧ sz1 7 ≤ 16 ∧ sz1 8 ≤ sz 8 + 24 * n ∧ dn ≤ dn1 ∧ dn1 ≤ dn + 300 ∧ AGA S1 x el1 sz1)) (by decide) (Nat.le_of_ble_eq_true rfl) ⟨Nat.le_refl _, Nat.le_refl _⟩ rfl (fun _ _ _ => rfl) (fun κ hκ hz hnm hend => ?_)
  show Gj κ _ 0 [(0, .ref x), (1, .int (nI n))] []
  have hM := hI.1.rm
  have hMc := hM
  obtain ⟨hx, ⟨f0, L0⟩, ⟨f1, L1⟩, ⟨f2, L2⟩, ⟨f3, L3⟩, ⟨f4, L4⟩, ⟨f5, L5⟩, ⟨f6, L6⟩, ⟨f7, L7⟩, ⟨f8, L8⟩, ⟨flo, hlo⟩, ⟨fta, hta⟩⟩ := hMc
  have b0 := L0.2.2.1
  have b2 := L2.2.2.1
  have b3 := L3.2.2.1
  have b4 := L4.2.2.1
  have b5 := L5.2.2.1
  have b7 := L7.2.2.1
  have b8 := L8.2.2.1
  have hSQ := (hI.2.2.1).sq
  have hw3 := Nat.mul_le_mul_right (24 * w + 736) hn3
  refine g_iload_n hκ 1 dX11_pass_0 rfl rfl ?_
  refine g_iconst hκ (v := 1) dX11_pass_1 (by decide) ?_
  refine g_bipush hκ (v := 60) dX11_pass_2 (by decide) ?_
  refine rS_i hκ (hdV hz) [.int (nI n), .int 1, .int 60] sd_X11_isIn qw_156 (k_isIn S (nI n) 1 60) ⟨rfl, rfl, Nat.le_of_ble_eq_true rfl, Nat.le_of_ble_eq_true rfl⟩ rfl rfl (Nat.le_of_ble_eq_true rfl) dX11_pass_4 (fun r1 hr1 => ?_)
  refine g_eqi (y := 1) (hr1.trans (isIn_t (a := 1) (b := 60) hn1 (by omega) (by decide))) ?_
  refine g_if_ne hκ 21 dX11_pass_7 (by decide) (fun _ => ?_) (fun z => absurd z (by decide))
  refine g_aload_n hκ 0 dX11_pass_21 rfl rfl ?_
  refine gt_Room_minute hκ (hdV hz) hx qw_118 (Or.inl rfl) dX11_pass_22 ?_
  refine g_eqi hI.mnv ?_
  refine g_iload_n hκ 1 dX11_pass_25 rfl rfl ?_
  refine g_iadd hκ dX11_pass_26 ?_
  refine g_eqi (y := nI (M + n)) (nI_add M n) ?_
  refine g_sipush hκ (v := 1000) dX11_pass_27 (by decide) ?_
  refine g_icmp_le hκ 44 dX11_pass_30 (by decide) (fun _ => ?_) (fun z => absurd (show nI (M + n) ≤ 1000 from nI_le (b := 1000) (by omega) (by decide)) z)
  refine g_iconst hκ (v := 0) dX11_pass_44 (by decide) ?_
  refine g_istore_n hκ [(2, .int 0), (0, .ref x), (1, .int (nI n))] dX11_pass_45 rfl (by decide) rfl ?_
  have loop46 : ∀ (d46 i46 : Nat) (x46 : Int32) (S : wPS) (elA : Nat → Nat → Nat) (szA : Nat → Nat) (cpA : Nat → Nat) (pwA : Nat) (dnA : Nat), i46 + d46 = n → x46 = nI i46 → (IV e9 x lo ta la (M + i46) cnts told S elA szA cpA pwA pwA dnA ∧ GR el sz elA szA ∧ szA 7 ≤ 16 ∧ szA 8 ≤ sz 8 + 24 * i46 ∧ dn ≤ dnA ∧ dnA ≤ dn + 100 * i46 ∧ (0 < i46 → AGA S x elA szA)) → Gj κ (PV κ S (80 * d46) (d46 * (24 * w + 736))) 46 [(2, .int x46), (0, .ref x), (1, .int (nI n))] [] := by
    intro d46
    induction d46 with
    | zero =>
      intro i46 x46 S elA szA cpA pwA dnA hi46 hx46 hI
      subst hx46
      obtain ⟨hI, hg, h7, h8, hd1, hd2, hA⟩ := hI
      have zz0 := hg.z (j := 0) (by decide) (by decide)
      have zz2 := hg.z (j := 2) (by decide) (by decide)
      have zz3 := hg.z (j := 3) (by decide) (by decide)
      have zz5 := hg.z (j := 5) (by decide) (by decide)
      have hM := hI.1.rm
      have hMc := hM
      obtain ⟨hx, ⟨f0, L0⟩, ⟨f1, L1⟩, ⟨f2, L2⟩, ⟨f3, L3⟩, ⟨f4, L4⟩, ⟨f5, L5⟩, ⟨f6, L6⟩, ⟨f7, L7⟩, ⟨f8, L8⟩, ⟨flo, hlo⟩, ⟨fta, hta⟩⟩ := hMc
      have b0 := L0.2.2.1
      have b2 := L2.2.2.1
      have b3 := L3.2.2.1
      have b4 := L4.2.2.1
      have b5 := L5.2.2.1
      have b7 := L7.2.2.1
      have b8 := L8.2.2.1
      have hSQ := (hI.2.2.1).sq
      refine g_iload_n hκ 0 dX11_pass_46 rfl rfl ?_
      refine g_iload_n hκ 2 dX11_pass_47 rfl rfl ?_
      refine g_icmp_ge hκ 61 dX11_pass_48 (by decide) (fun _ => ?_) (fun z => absurd (lp_ge rfl (by omega) (by omega)) z)
      refine g_aload_n hκ 1 dX11_pass_61 rfl rfl ?_
      refine gt_Room_minute hκ (hdV hz) hx qw_118 (Or.inl rfl) dX11_pass_62 ?_
      refine g_eqi hI.mnv ?_
      exact hend _ _ _ _ _ _ dX11_pass_65 (by have hin : i46 = n := (by omega); rw [← hin]; exact ⟨rfl, elA, szA, cpA, pwA, dnA, hI, hg, h7, by omega, hd1, by omega, hA (by omega)⟩)
    | succ d46 ih46 =>
      intro i46 x46 S elA szA cpA pwA dnA hi46 hx46 hI
      subst hx46
      have em9 := Nat.add_one_mul d46 (24 * w + 736)
      obtain ⟨hI, hg, h7, h8, hd1, hd2, hA⟩ := hI
      have zz0 := hg.z (j := 0) (by decide) (by decide)
      have zz2 := hg.z (j := 2) (by decide) (by decide)
      have zz3 := hg.z (j := 3) (by decide) (by decide)
      have zz5 := hg.z (j := 5) (by decide) (by decide)
      have hM := hI.1.rm
      have hMc := hM
      obtain ⟨hx, ⟨f0, L0⟩, ⟨f1, L1⟩, ⟨f2, L2⟩, ⟨f3, L3⟩, ⟨f4, L4⟩, ⟨f5, L5⟩, ⟨f6, L6⟩, ⟨f7, L7⟩, ⟨f8, L8⟩, ⟨flo, hlo⟩, ⟨fta, hta⟩⟩ := hMc
      have b0 := L0.2.2.1
      have b2 := L2.2.2.1
      have b3 := L3.2.2.1
      have b4 := L4.2.2.1
      have b5 := L5.2.2.1
      have b7 := L7.2.2.1
      have b8 := L8.2.2.1
      have hSQ := (hI.2.2.1).sq
      refine g_iload_n hκ 0 dX11_pass_46 rfl rfl ?_
      refine g_iload_n hκ 2 dX11_pass_47 rfl rfl ?_
      refine g_icmp_ge hκ 61 dX11_pass_48 (by decide) (fun z => absurd z (lp_nge rfl (by omega) (by omega))) (fun _ => ?_)
      refine g_aload_n hκ 1 dX11_pass_51 rfl rfl ?_
      refine vV_v hκ hz [] sd_X11_passOne qw_591 (fun D cO H s hK hP => rc_Room hK hP hx) (k_passOne e9 S x lo ta la (M + i46) cnts told elA szA cpA pwA dnA w B hI hcn (by omega) (by omega) (by omega) (by omega) h7 (by omega) hB2 hw) ⟨rfl, rfl, Nat.le_of_ble_eq_true rfl, Nat.le_of_ble_eq_true rfl⟩ rfl rfl (Nat.le_of_ble_eq_true rfl) dX11_pass_52 (by omega) (by omega) (fun S3 hS3 => ?_)
      obtain ⟨elB, szB, cpB, pwB, dnB, hIB, hgB, h7B, h8B, hdB, hdB2, hAB⟩ := hS3
      obtain ⟨v4, hv4⟩ : ∃ z : Int32, nI i46 + 1 = z := ⟨_, rfl⟩
      refine g_iinc hκ (k := 0) (v := v4) [(2, .int v4), (0, .ref x), (1, .int (nI n))] dX11_pass_55 rfl hv4 (by decide) rfl ?_
      refine g_goto hκ 46 dX11_pass_58 (by decide) ?_
      refine g_lv [(2, .int v4), (0, .ref x), (1, .int (nI n))] [0, 1, 2] rfl ?_
      refine g_wid (k2 := 80 * d46) (n2 := d46 * (24 * w + 736)) (by omega) (by omega) ?_
      exact ih46 (i46 + 1) v4 S3 elB szB cpB pwB dnB (by omega) (lp_s rfl hv4) (⟨hIB, hg.trans hgB, h7B, by omega, by omega, by omega, fun _ => hAB⟩)
  refine g_wid (k2 := 80 * n) (n2 := n * (24 * w + 736)) (by omega) (by omega) ?_
  exact loop46 n 0 0 S el sz cp pw dn (by omega) (by first | rfl | decide) (⟨hI, GR.refl, h16, by omega, by omega, by omega, fun z => absurd z (Nat.not_lt_zero 0)⟩)
