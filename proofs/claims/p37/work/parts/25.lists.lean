set_option maxHeartbeats 4000000 in
set_option maxRecDepth 100000 in
theorem k_newLength (S : wPS) (o g h : Nat) (hb9 : o + max g h ≤ 200000) (hg : 1 ≤ g) : MR yJ8_newLength_cabcc cJ8_newLength_cabcc 4 (some .int) ({ frames := 1, cells := 0, slots := 0, locals := 14 }) S [.int (nI o), .int (nI g), .int (nI h)] (vp_Si (fun r => r = nI (o + max g h))) := by
  refine stR_i (post := (fun r => r = nI (o + max g h))) (by decide) (Nat.le_of_ble_eq_true rfl) rfl (fun _ _ => rfl) (fun κ hκ hend => ?_)
  show Gj κ _ 0 [(0, .int (nI o)), (1, .int (nI g)), (2, .int (nI h))] []
  refine g_iload_n hκ 0 dJ8_newLength_cabcc_0 rfl rfl ?_
  refine g_iload_n hκ 1 dJ8_newLength_cabcc_1 rfl rfl ?_
  refine g_iload_n hκ 2 dJ8_newLength_cabcc_2 rfl rfl ?_
  refine g_max hκ hdR qw_358 ⟨Nat.le_of_ble_eq_true rfl, Nat.le_of_ble_eq_true rfl⟩ dJ8_newLength_cabcc_3 ?_
  refine g_eqi (mx_nI (by omega) (by omega)) ?_
  refine g_iadd hκ dJ8_newLength_cabcc_6 ?_
  refine g_eqi (y := nI (o + max g h)) (nI_add _ _) ?_
  refine g_istore_n hκ [(3, .int (nI (o + max g h))), (0, .int (nI o)), (1, .int (nI g)), (2, .int (nI h))] dJ8_newLength_cabcc_7 rfl (by decide) rfl ?_
  refine g_iconst hκ (v := 0) dJ8_newLength_cabcc_8 (by decide) ?_
  refine g_iload_n hκ 0 dJ8_newLength_cabcc_9 rfl rfl ?_
  refine g_icmp_ge hκ 21 dJ8_newLength_cabcc_10 (by decide) (fun z => absurd z (nI_nle (by omega) (by omega))) (fun _ => ?_)
  refine g_iload_n hκ 0 dJ8_newLength_cabcc_13 rfl rfl ?_
  refine g_ldc hκ qw_361 dJ8_newLength_cabcc_14 ?_
  refine g_icmp_gt hκ 21 dJ8_newLength_cabcc_16 (by decide) (fun z => absurd z (smax hb9)) (fun _ => ?_)
  refine g_iload_n hκ 0 dJ8_newLength_cabcc_19 rfl rfl ?_
  exact hend _ _ _ dJ8_newLength_cabcc_20 (rfl)
set_option maxHeartbeats 4000000 in
set_option maxRecDepth 100000 in
theorem k_copyOf6 (e9 : Nat × Nat) (S : wPS) (a0 N : Nat) (w : Int32) (kd : Nat) (C : String) (ha0 : a0 ∈ sL S ∧ sK S a0 = 12) (hw : w = nI N) (hN : sN S a0 ≤ N) (hN2 : N ≤ 100000) (hel : ∀ i y : Nat, i < sN S a0 → sW S a0 i = some y → y ∈ sL S ∧ sK S y = kd) (hRc : RcK kd C) (hCa : C ∈ castO) : MVq e9 yJ7_copyOf_6403c cJ7_copyOf_6403c 4 (some (.array (.object "java/lang/Object"))) ({ frames := 1, cells := 1, slots := N, locals := 40 }) S [.ref a0, .int w, .ref e9.2] (fun r S1 => ∃ a : Nat, a ∉ sL S ∧ a ≠ e9.1 ∧ r = some a ∧ S1 = putW (newS S a 12 N) a (va_cpy (sW S a0) (fun _ => none) 0 0 (sN S a0))) 1 N := by
  refine stV_q (post := (fun r S1 => ∃ a : Nat, a ∉ sL S ∧ a ≠ e9.1 ∧ r = some a ∧ S1 = putW (newS S a 12 N) a (va_cpy (sW S a0) (fun _ => none) 0 0 (sN S a0)))) (by decide) (Nat.le_of_ble_eq_true rfl) ⟨Nat.le_refl _, Nat.le_refl _⟩ rfl (by first | exact Or.inl ⟨_, rfl⟩ | exact Or.inr ⟨_, rfl⟩) (fun κ hκ hz hnm hend => ?_)
  show Gj κ _ 0 [(0, .ref a0), (1, .int w), (2, .ref e9.2)] []
  refine g_aload_n hκ 2 dJ7_copyOf_6403c_0 rfl rfl ?_
  refine g_ldcM hκ hz qw_390 dJ7_copyOf_6403c_1 ?_
  refine g_acmp_ne (rx := some e9.2) (ry := some e9.2) hκ 13 dJ7_copyOf_6403c_3 (by decide) (fun z => absurd rfl z) (fun _ => ?_)
  refine g_iload_n hκ 1 dJ7_copyOf_6403c_6 rfl rfl ?_
  refine ga_new hκ hz (N := N) qw_392 (by rw [hw]; exact nI_pos (by omega)) (by rw [hw]; exact nI_clamp (by omega)) (hN2) (by omega) (by omega) dJ7_copyOf_6403c_7 (fun a1 fa1 => ?_)
  refine g_e0out hκ hz (fun hoa1 => ?_)
  have nea1 := nw_ne hoa1
  refine g_goto hκ 24 dJ7_copyOf_6403c_10 (by decide) ?_
  refine g_astore_n hκ [(3, .ref a1), (0, .ref a0), (1, .int w), (2, .ref e9.2)] dJ7_copyOf_6403c_24 rfl (by decide) rfl ?_
  refine g_aload_n hκ 1 dJ7_copyOf_6403c_25 rfl rfl ?_
  refine g_iconst hκ (v := 0) dJ7_copyOf_6403c_26 (by decide) ?_
  refine g_aload_n hκ 0 dJ7_copyOf_6403c_27 rfl rfl ?_
  refine g_iconst hκ (v := 0) dJ7_copyOf_6403c_28 (by decide) ?_
  refine g_aload_n hκ 1 dJ7_copyOf_6403c_29 rfl rfl ?_
  refine ga_len hκ (hdV hz) (nw_old fa1 ha0) dJ7_copyOf_6403c_30 ?_
  rw [show Int32.ofNat (sN (newS S a1 12 N) a0) = nI (sN S a0) from congrArg nI (nw_Nb fa1 ha0.1)]
  refine g_iload_n hκ 2 dJ7_copyOf_6403c_31 rfl rfl ?_
  refine g_min hκ (hdV hz) qw_393 ⟨Nat.le_of_ble_eq_true rfl, Nat.le_of_ble_eq_true rfl⟩ dJ7_copyOf_6403c_32 ?_
  rw [hw]
  refine g_eqi (mn_nI hN (by omega)) ?_
  refine g_copyq hκ hz (kd := kd) (C := C) (nw_old fa1 ha0) (nw_at fa1) qw_396 qw_398 qw_397 qw_17 (by decide) (by decide) (nI_pos (by omega)) (by rw [nI_clamp (by omega), nw_Nb fa1 ha0.1]; exact Nat.le_of_eq (Nat.zero_add _)) (by rw [nI_clamp (by omega), nw_N]; exact Nat.le_trans (Nat.le_of_eq (Nat.zero_add _)) hN) hRc hCa (fun i hi y hy => ?_) ⟨Nat.le_of_ble_eq_true rfl, Nat.le_of_ble_eq_true rfl⟩ dJ7_copyOf_6403c_35 ?_
  · rw [nI_clamp (by omega)] at hi
    rw [nw_Wb fa1 ha0.1] at hy
    exact nw_old fa1 (hel i y hi (by have e : (0 : Int32).toNatClampNeg + i = i := Nat.zero_add i; rw [e] at hy; exact hy))
  refine g_aload_n hκ 0 dJ7_copyOf_6403c_38 rfl rfl ?_
  exact hend _ _ (some a1) _ _ _ dJ7_copyOf_6403c_39 (⟨a1, fa1, nea1, rfl, by rw [nw_Wb fa1 ha0.1, nw_W, nI_clamp (by omega)]; rfl⟩)
set_option maxHeartbeats 4000000 in
set_option maxRecDepth 100000 in
theorem k_copyOf1 (e9 : Nat × Nat) (S : wPS) (a0 N : Nat) (w : Int32) (kd : Nat) (C : String) (ha0 : a0 ∈ sL S ∧ sK S a0 = 12) (hw : w = nI N) (hN : sN S a0 ≤ N) (hN2 : N ≤ 100000) (hel : ∀ i y : Nat, i < sN S a0 → sW S a0 i = some y → y ∈ sL S ∧ sK S y = kd) (hRc : RcK kd C) (hCa : C ∈ castO) : MVq e9 yJ7_copyOf_1904c cJ7_copyOf_1904c 2 (some (.array (.object "java/lang/Object"))) ({ frames := 2, cells := 1, slots := N, locals := 63 }) S [.ref a0, .int w] (fun r S1 => ∃ a : Nat, a ∉ sL S ∧ a ≠ e9.1 ∧ r = some a ∧ S1 = putW (newS S a 12 N) a (va_cpy (sW S a0) (fun _ => none) 0 0 (sN S a0))) 1 N := by
  refine stV_q (post := (fun r S1 => ∃ a : Nat, a ∉ sL S ∧ a ≠ e9.1 ∧ r = some a ∧ S1 = putW (newS S a 12 N) a (va_cpy (sW S a0) (fun _ => none) 0 0 (sN S a0)))) (by decide) (Nat.le_of_ble_eq_true rfl) ⟨Nat.le_refl _, Nat.le_refl _⟩ rfl (by first | exact Or.inl ⟨_, rfl⟩ | exact Or.inr ⟨_, rfl⟩) (fun κ hκ hz hnm hend => ?_)
  show Gj κ _ 0 [(0, .ref a0), (1, .int w)] []
  refine g_aload_n hκ 0 dJ7_copyOf_1904c_0 rfl rfl ?_
  refine g_iload_n hκ 1 dJ7_copyOf_1904c_1 rfl rfl ?_
  refine g_aload_n hκ 0 dJ7_copyOf_1904c_2 rfl rfl ?_
  refine g_getC hκ hz ha0 qw_368 (by decide +kernel) qw_1109 qw_369 qw_386 ⟨Nat.le_of_ble_eq_true rfl, Nat.le_of_ble_eq_true rfl⟩ dJ7_copyOf_1904c_3 ?_
  refine vS_q hκ hz [.ref a0, .int w, .ref e9.2] sd_J7_copyOf_6403c qw_387 (k_copyOf6 e9 S a0 N w kd C ha0 hw hN hN2 hel hRc hCa) ⟨rfl, rfl, Nat.le_of_ble_eq_true rfl, Nat.le_of_ble_eq_true rfl⟩ rfl rfl (Nat.le_of_ble_eq_true rfl) dJ7_copyOf_1904c_6 (by omega) (by omega) (fun r1 S2 hS2 => ?_)
  obtain ⟨a, fa, ne, rfl, rfl⟩ := hS2
  refine g_rf rfl ?_
  exact hend _ _ (some a) _ _ _ dJ7_copyOf_1904c_9 (⟨a, fa, ne, rfl, rfl⟩)
set_option maxHeartbeats 4000000 in
set_option maxRecDepth 100000 in
theorem k_growI0 (e9 : Nat × Nat) (S : wPS) (l : Nat) (hl : l ∈ sL S ∧ sK S l = 11) (h0 : sR S q_List_elementData l = some e9.1) : MVq e9 yJx4a65c_grow_92f84 cJx4a65c_grow_92f84 4 (some (.array (.object "java/lang/Object"))) ({ frames := 1, cells := 1, slots := 10, locals := 14 }) S [.ref l, .int 1] (fun r S1 => ∃ (a : Nat) (f : Nat → Option Nat), a ∉ sL S ∧ a ≠ e9.1 ∧ r = some a ∧ S1 = GrS S l a 10 f ∧ True) 1 10 := by
  refine stV_q (post := (fun r S1 => ∃ (a : Nat) (f : Nat → Option Nat), a ∉ sL S ∧ a ≠ e9.1 ∧ r = some a ∧ S1 = GrS S l a 10 f ∧ True)) (by decide) (Nat.le_of_ble_eq_true rfl) ⟨Nat.le_refl _, Nat.le_refl _⟩ rfl (by first | exact Or.inl ⟨_, rfl⟩ | exact Or.inr ⟨_, rfl⟩) (fun κ hκ hz hnm hend => ?_)
  show Gj κ _ 0 [(0, .ref l), (1, .int 1)] []
  refine g_aload_n hκ 0 dJx4a65c_grow_92f84_0 rfl rfl ?_
  refine gt_List_elementData hκ (hdV hz) hl qw_49 (Or.inl rfl) dJx4a65c_grow_92f84_1 ?_
  refine g_rf h0 ?_
  refine ga_e0len hκ hz dJx4a65c_grow_92f84_4 ?_
  refine g_istore_n hκ [(2, .int 0), (0, .ref l), (1, .int 1)] dJx4a65c_grow_92f84_5 rfl (by decide) rfl ?_
  refine g_iload_n hκ 0 dJx4a65c_grow_92f84_6 rfl rfl ?_
  refine g_if_gt hκ 20 dJx4a65c_grow_92f84_7 (by decide) (fun z => absurd z (by decide)) (fun _ => ?_)
  refine g_aload_n hκ 1 dJx4a65c_grow_92f84_10 rfl rfl ?_
  refine gt_List_elementData hκ (hdV hz) hl qw_49 (Or.inl rfl) dJx4a65c_grow_92f84_11 ?_
  refine g_rf h0 ?_
  refine ga_e0 hκ hz qw_47 dJx4a65c_grow_92f84_14 ?_
  refine g_acmp_eq (rx := some e9.1) (ry := some e9.1) hκ 45 dJx4a65c_grow_92f84_17 (by decide) (fun _ => ?_) (fun z => absurd rfl z)
  refine g_aload_n hκ 1 dJx4a65c_grow_92f84_45 rfl rfl ?_
  refine g_bipush hκ (v := 10) dJx4a65c_grow_92f84_46 (by decide) ?_
  refine g_iload_n hκ 2 dJx4a65c_grow_92f84_48 rfl rfl ?_
  refine g_max hκ (hdV hz) qw_399 ⟨Nat.le_of_ble_eq_true rfl, Nat.le_of_ble_eq_true rfl⟩ dJx4a65c_grow_92f84_49 ?_
  refine g_eqi (y := 10) (by decide) ?_
  refine ga_new hκ hz (N := 10) qw_400 (by decide) (by decide) (by decide) (by omega) (by omega) dJx4a65c_grow_92f84_52 (fun a1 fa1 => ?_)
  refine g_e0out hκ hz (fun hoa1 => ?_)
  have nea1 := nw_ne hoa1
  refine g_dup_x1 hκ dJx4a65c_grow_92f84_55 rfl rfl ?_
  refine pt_List_elementData (v := (some a1)) hκ (nw_old fa1 hl) qw_49 (Or.inl rfl) dJx4a65c_grow_92f84_56 ?_
  exact hend _ _ (some a1) _ _ _ dJx4a65c_grow_92f84_59 (⟨a1, _, fa1, nea1, rfl, GrS_0, trivial⟩)
set_option maxHeartbeats 4000000 in
set_option maxRecDepth 100000 in
theorem k_growI1 (e9 : Nat × Nat) (S : wPS) (l r0 n : Nat) (kd : Nat) (C : String) (hl : l ∈ sL S ∧ sK S l = 11) (he : sR S q_List_elementData l = some r0) (hr0 : r0 ∈ sL S ∧ sK S r0 = 12) (hc : sN S r0 = n) (hn0 : 0 < n) (hn : n ≤ 60000) (hel : ∀ i y : Nat, i < n → sW S r0 i = some y → y ∈ sL S ∧ sK S y = kd) (hRc : RcK kd C) (hCa : C ∈ castO) : MVq e9 yJx4a65c_grow_92f84 cJx4a65c_grow_92f84 4 (some (.array (.object "java/lang/Object"))) ({ frames := 3, cells := 1, slots := (gN n), locals := 84 }) S [.ref l, .int (nI (n + 1))] (fun r S1 => ∃ (a : Nat) (f : Nat → Option Nat), a ∉ sL S ∧ a ≠ e9.1 ∧ r = some a ∧ S1 = GrS S l a (gN n) f ∧ (∀ i : Nat, i < n → f i = sW S r0 i)) 1 (gN n) := by
  refine stV_q (post := (fun r S1 => ∃ (a : Nat) (f : Nat → Option Nat), a ∉ sL S ∧ a ≠ e9.1 ∧ r = some a ∧ S1 = GrS S l a (gN n) f ∧ (∀ i : Nat, i < n → f i = sW S r0 i))) (by decide) (Nat.le_of_ble_eq_true rfl) ⟨Nat.le_refl _, Nat.le_refl _⟩ rfl (by first | exact Or.inl ⟨_, rfl⟩ | exact Or.inr ⟨_, rfl⟩) (fun κ hκ hz hnm hend => ?_)
  show Gj κ _ 0 [(0, .ref l), (1, .int (nI (n + 1)))] []
  refine g_aload_n hκ 0 dJx4a65c_grow_92f84_0 rfl rfl ?_
  refine gt_List_elementData hκ (hdV hz) hl qw_49 (Or.inl rfl) dJx4a65c_grow_92f84_1 ?_
  refine g_rf he ?_
  refine ga_len hκ (hdV hz) hr0 dJx4a65c_grow_92f84_4 ?_
  rw [show Int32.ofNat (sN S r0) = nI n from congrArg nI hc]
  refine g_istore_n hκ [(2, .int (nI n)), (0, .ref l), (1, .int (nI (n + 1)))] dJx4a65c_grow_92f84_5 rfl (by decide) rfl ?_
  refine g_iload_n hκ 0 dJx4a65c_grow_92f84_6 rfl rfl ?_
  refine g_if_gt hκ 20 dJx4a65c_grow_92f84_7 (by decide) (fun _ => ?_) (fun z => absurd (show 0 < nI n from nI_0 ▸ nI_lt hn0 (by omega)) z)
  refine g_iload_n hκ 0 dJx4a65c_grow_92f84_20 rfl rfl ?_
  refine g_iload_n hκ 2 dJx4a65c_grow_92f84_21 rfl rfl ?_
  refine g_iload_n hκ 0 dJx4a65c_grow_92f84_22 rfl rfl ?_
  refine g_isub hκ dJx4a65c_grow_92f84_23 ?_
  refine g_eqi (y := nI (n + 1 - n)) (sub_nI (by omega)) ?_
  refine g_iload_n hκ 0 dJx4a65c_grow_92f84_24 rfl rfl ?_
  refine g_iconst hκ (v := 1) dJx4a65c_grow_92f84_25 (by decide) ?_
  refine g_ishr hκ dJx4a65c_grow_92f84_26 ?_
  refine g_eqi (shr_nI (by omega)) ?_
  refine rS_i hκ (hdV hz) [.int (nI n), .int (nI (n + 1 - n)), .int (nI (n / 2))] sd_J8_newLength_cabcc qw_355 (k_newLength S n (n + 1 - n) (n / 2) (by omega) (by omega)) ⟨rfl, rfl, Nat.le_of_ble_eq_true rfl, Nat.le_of_ble_eq_true rfl⟩ rfl rfl (Nat.le_of_ble_eq_true rfl) dJx4a65c_grow_92f84_27 (fun r1 hr1 => ?_)
  refine g_eqi (y := nI (gN n)) (hr1.trans (by unfold gN; congr 2; omega)) ?_
  refine g_istore_n hκ [(3, .int (nI (gN n))), (2, .int (nI n)), (0, .ref l), (1, .int (nI (n + 1)))] dJx4a65c_grow_92f84_30 rfl (by decide) rfl ?_
  refine g_aload_n hκ 2 dJx4a65c_grow_92f84_31 rfl rfl ?_
  refine g_aload_n hκ 2 dJx4a65c_grow_92f84_32 rfl rfl ?_
  refine gt_List_elementData hκ (hdV hz) hl qw_49 (Or.inl rfl) dJx4a65c_grow_92f84_33 ?_
  refine g_rf he ?_
  refine g_iload_n hκ 0 dJx4a65c_grow_92f84_36 rfl rfl ?_
  refine vS_q hκ hz [.ref r0, .int (nI (gN n))] sd_J7_copyOf_1904c qw_365 (k_copyOf1 e9 S r0 (gN n) _ kd C hr0 rfl (by rw [hc]; exact Nat.le_add_right _ _) (by unfold gN; omega) (by rw [hc]; exact hel) hRc hCa) ⟨rfl, rfl, Nat.le_of_ble_eq_true rfl, Nat.le_of_ble_eq_true rfl⟩ rfl rfl (Nat.le_of_ble_eq_true rfl) dJx4a65c_grow_92f84_37 (by omega) (by omega) (fun r2 S3 hS3 => ?_)
  obtain ⟨a, fa, ne, rfl, rfl⟩ := hS3
  refine g_rf rfl ?_
  refine g_dup_x1 hκ dJx4a65c_grow_92f84_40 rfl rfl ?_
  refine pt_List_elementData (v := (some a)) hκ (nw_old (n := gN n) fa hl) qw_49 (Or.inl rfl) dJx4a65c_grow_92f84_41 ?_
  exact hend _ _ (some a) _ _ _ dJx4a65c_grow_92f84_44 (⟨a, _, fa, ne, rfl, rfl, by rw [hc]; intro i hi; show (if 0 ≤ i ∧ i < 0 + n then sW S r0 (0 + (i - 0)) else none) = _; rw [if_pos ⟨Nat.zero_le _, by omega⟩]; congr 1; omega⟩)
set_option maxHeartbeats 4000000 in
set_option maxRecDepth 100000 in
theorem k_grow0 (e9 : Nat × Nat) (S : wPS) (l : Nat) (hl : l ∈ sL S ∧ sK S l = 11) (h0 : sR S q_List_elementData l = some e9.1) (hsz : sI S q_List_size l = 0) : MVq e9 yJx4a65c_grow_d5877 cJx4a65c_grow_d5877 1 (some (.array (.object "java/lang/Object"))) ({ frames := 2, cells := 1, slots := 10, locals := 37 }) S [.ref l] (fun r S1 => ∃ (a : Nat) (f : Nat → Option Nat), a ∉ sL S ∧ a ≠ e9.1 ∧ r = some a ∧ S1 = GrS S l a 10 f ∧ True) 1 10 := by
  refine stV_q (post := (fun r S1 => ∃ (a : Nat) (f : Nat → Option Nat), a ∉ sL S ∧ a ≠ e9.1 ∧ r = some a ∧ S1 = GrS S l a 10 f ∧ True)) (by decide) (Nat.le_of_ble_eq_true rfl) ⟨Nat.le_refl _, Nat.le_refl _⟩ rfl (by first | exact Or.inl ⟨_, rfl⟩ | exact Or.inr ⟨_, rfl⟩) (fun κ hκ hz hnm hend => ?_)
  show Gj κ _ 0 [(0, .ref l)] []
  refine g_aload_n hκ 0 dJx4a65c_grow_d5877_0 rfl rfl ?_
  refine g_aload_n hκ 0 dJx4a65c_grow_d5877_1 rfl rfl ?_
  refine gt_List_size hκ (hdV hz) hl qw_50 (Or.inl rfl) dJx4a65c_grow_d5877_2 ?_
  refine g_iconst hκ (v := 1) dJx4a65c_grow_d5877_5 (by decide) ?_
  refine g_iadd hκ dJx4a65c_grow_d5877_6 ?_
  refine g_eqi (y := 1) (by rw [hsz]; decide) ?_
  refine vV_q hκ hz [.int 1] sd_Jx4a65c_grow_92f84 qw_351 (fun D cO H s hK hP => rc_List hK hP hl) (k_growI0 e9 S l hl h0) ⟨rfl, rfl, Nat.le_of_ble_eq_true rfl, Nat.le_of_ble_eq_true rfl⟩ rfl rfl (Nat.le_of_ble_eq_true rfl) dJx4a65c_grow_d5877_7 (by omega) (by omega) (fun r1 S2 hS2 => ?_)
  obtain ⟨a, f, fa, ne, rfl, rfl, hf⟩ := hS2
  refine g_rf rfl ?_
  exact hend _ _ (some a) _ _ _ dJx4a65c_grow_d5877_10 (⟨a, f, fa, ne, rfl, rfl, hf⟩)
set_option maxHeartbeats 4000000 in
set_option maxRecDepth 100000 in
theorem k_grow1 (e9 : Nat × Nat) (S : wPS) (l r0 n : Nat) (kd : Nat) (C : String) (hl : l ∈ sL S ∧ sK S l = 11) (he : sR S q_List_elementData l = some r0) (hr0 : r0 ∈ sL S ∧ sK S r0 = 12) (hc : sN S r0 = n) (hn0 : 0 < n) (hn : n ≤ 60000) (hel : ∀ i y : Nat, i < n → sW S r0 i = some y → y ∈ sL S ∧ sK S y = kd) (hRc : RcK kd C) (hCa : C ∈ castO) (hsz : sI S q_List_size l = nI n) : MVq e9 yJx4a65c_grow_d5877 cJx4a65c_grow_d5877 1 (some (.array (.object "java/lang/Object"))) ({ frames := 4, cells := 1, slots := (gN n), locals := 107 }) S [.ref l] (fun r S1 => ∃ (a : Nat) (f : Nat → Option Nat), a ∉ sL S ∧ a ≠ e9.1 ∧ r = some a ∧ S1 = GrS S l a (gN n) f ∧ (∀ i : Nat, i < n → f i = sW S r0 i)) 1 (gN n) := by
  refine stV_q (post := (fun r S1 => ∃ (a : Nat) (f : Nat → Option Nat), a ∉ sL S ∧ a ≠ e9.1 ∧ r = some a ∧ S1 = GrS S l a (gN n) f ∧ (∀ i : Nat, i < n → f i = sW S r0 i))) (by decide) (Nat.le_of_ble_eq_true rfl) ⟨Nat.le_refl _, Nat.le_refl _⟩ rfl (by first | exact Or.inl ⟨_, rfl⟩ | exact Or.inr ⟨_, rfl⟩) (fun κ hκ hz hnm hend => ?_)
  show Gj κ _ 0 [(0, .ref l)] []
  refine g_aload_n hκ 0 dJx4a65c_grow_d5877_0 rfl rfl ?_
  refine g_aload_n hκ 0 dJx4a65c_grow_d5877_1 rfl rfl ?_
  refine gt_List_size hκ (hdV hz) hl qw_50 (Or.inl rfl) dJx4a65c_grow_d5877_2 ?_
  refine g_iconst hκ (v := 1) dJx4a65c_grow_d5877_5 (by decide) ?_
  refine g_iadd hκ dJx4a65c_grow_d5877_6 ?_
  refine g_eqi (y := nI (n + 1)) (by rw [hsz]; exact nI_1 n) ?_
  refine vV_q hκ hz [.int (nI (n + 1))] sd_Jx4a65c_grow_92f84 qw_351 (fun D cO H s hK hP => rc_List hK hP hl) (k_growI1 e9 S l r0 n kd C hl he hr0 hc hn0 hn hel hRc hCa) ⟨rfl, rfl, Nat.le_of_ble_eq_true rfl, Nat.le_of_ble_eq_true rfl⟩ rfl rfl (Nat.le_of_ble_eq_true rfl) dJx4a65c_grow_d5877_7 (by omega) (by omega) (fun r1 S2 hS2 => ?_)
  obtain ⟨a, f, fa, ne, rfl, rfl, hf⟩ := hS2
  refine g_rf rfl ?_
  exact hend _ _ (some a) _ _ _ dJx4a65c_grow_d5877_10 (⟨a, f, fa, ne, rfl, rfl, hf⟩)
set_option maxHeartbeats 4000000 in
set_option maxRecDepth 100000 in
theorem k_apA (e9 : Nat × Nat) (S : wPS) (l r0 n v : Nat) (kd : Nat) (C : String) (hl : l ∈ sL S ∧ sK S l = 11) (hr0 : r0 ∈ sL S ∧ sK S r0 = 12) (hc : n < sN S r0) (hn : n ≤ 100000) (hcap : sN S r0 ≤ 200000) (hv : v ∈ sL S ∧ sK S v = kd) (hRc : RcK kd C) (hCa : C ∈ castO) : MVv e9 yJx4a65c_add_72be8 cJx4a65c_add_72be8 4 none ({ frames := 0, cells := 0, slots := 0, locals := 0 }) S [.ref l, .ref v, .ref r0, .int (nI n)] (fun S1 => S1 = putI (putW S r0 (va_up (sW S r0) (nI n).toNatClampNeg (some v))) q_List_size l (nI n + 1)) 0 0 := by
  refine stV_v (post := (fun S1 => S1 = putI (putW S r0 (va_up (sW S r0) (nI n).toNatClampNeg (some v))) q_List_size l (nI n + 1))) (by decide) (Nat.le_of_ble_eq_true rfl) ⟨Nat.le_refl _, Nat.le_refl _⟩ rfl (fun κ hκ hz hnm hend => ?_)
  show Gj κ _ 0 [(0, .ref l), (1, .ref v), (2, .ref r0), (3, .int (nI n))] []
  refine g_iload_n hκ 3 dJx4a65c_add_72be8_0 rfl rfl ?_
  refine g_aload_n hκ 2 dJx4a65c_add_72be8_1 rfl rfl ?_
  refine ga_len hκ (hdV hz) hr0 dJx4a65c_add_72be8_2 ?_
  refine g_icmp_ne hκ 11 dJx4a65c_add_72be8_3 (by decide) (fun _ => ?_) (fun z => absurd z (fun e9z => absurd ((nI_eq (a := n) (b := sN S r0) (by omega) (by omega)).mp e9z) (by omega)))
  refine g_aload_n hκ 2 dJx4a65c_add_72be8_11 rfl rfl ?_
  refine g_iload_n hκ 3 dJx4a65c_add_72be8_12 rfl rfl ?_
  refine g_aload_n hκ 1 dJx4a65c_add_72be8_13 rfl rfl ?_
  refine ga_ast hκ hz (C := C) hr0 (vp_in_nI hc (by omega)) hCa (fun D cO H s hK hP => hRc _ D cO H s v hK hP hv) dJx4a65c_add_72be8_14 ?_
  refine g_aload_n hκ 0 dJx4a65c_add_72be8_15 rfl rfl ?_
  refine g_iload_n hκ 3 dJx4a65c_add_72be8_16 rfl rfl ?_
  refine g_iconst hκ (v := 1) dJx4a65c_add_72be8_17 (by decide) ?_
  refine g_iadd hκ dJx4a65c_add_72be8_18 ?_
  refine g_eqi (y := nI n + 1) rfl ?_
  refine pt_List_size hκ hl qw_50 (Or.inl rfl) dJx4a65c_add_72be8_19 ?_
  exact hend _ _ _ _ _ dJx4a65c_add_72be8_22 (rfl)
set_option maxHeartbeats 4000000 in
set_option maxRecDepth 100000 in
theorem k_apB0 (e9 : Nat × Nat) (S : wPS) (l v : Nat) (kd : Nat) (C : String) (hl : l ∈ sL S ∧ sK S l = 11) (h0 : sR S q_List_elementData l = some e9.1) (hsz : sI S q_List_size l = 0) (hv : v ∈ sL S ∧ sK S v = kd) (hRc : RcK kd C) (hCa : C ∈ castO) : MVv e9 yJx4a65c_add_72be8 cJx4a65c_add_72be8 4 none ({ frames := 3, cells := 1, slots := 10, locals := 57 }) S [.ref l, .ref v, .ref e9.1, .int 0] (fun S1 => ∃ (a : Nat) (f : Nat → Option Nat), a ∉ sL S ∧ a ≠ e9.1 ∧ S1 = AddB S l a 10 f v 0 ∧ True) 1 10 := by
  refine stV_v (post := (fun S1 => ∃ (a : Nat) (f : Nat → Option Nat), a ∉ sL S ∧ a ≠ e9.1 ∧ S1 = AddB S l a 10 f v 0 ∧ True)) (by decide) (Nat.le_of_ble_eq_true rfl) ⟨Nat.le_refl _, Nat.le_refl _⟩ rfl (fun κ hκ hz hnm hend => ?_)
  show Gj κ _ 0 [(0, .ref l), (1, .ref v), (2, .ref e9.1), (3, .int 0)] []
  refine g_iload_n hκ 3 dJx4a65c_add_72be8_0 rfl rfl ?_
  refine g_aload_n hκ 2 dJx4a65c_add_72be8_1 rfl rfl ?_
  refine ga_e0len hκ hz dJx4a65c_add_72be8_2 ?_
  refine g_icmp_ne hκ 11 dJx4a65c_add_72be8_3 (by decide) (fun z => absurd z (by decide)) (fun _ => ?_)
  refine g_aload_n hκ 0 dJx4a65c_add_72be8_6 rfl rfl ?_
  refine vV_q hκ hz [] sd_Jx4a65c_grow_d5877 qw_347 (fun D cO H s hK hP => rc_List hK hP hl) (k_grow0 e9 S l hl h0 hsz) ⟨rfl, rfl, Nat.le_of_ble_eq_true rfl, Nat.le_of_ble_eq_true rfl⟩ rfl rfl (Nat.le_of_ble_eq_true rfl) dJx4a65c_add_72be8_7 (by omega) (by omega) (fun r1 S2 hS2 => ?_)
  obtain ⟨a, f, fa, ne, rfl, rfl, hf⟩ := hS2
  refine g_rf rfl ?_
  refine g_astore_n hκ [(2, .ref a), (0, .ref l), (1, .ref v), (3, .int 0)] dJx4a65c_add_72be8_10 rfl (by decide) rfl ?_
  refine g_aload_n hκ 0 dJx4a65c_add_72be8_11 rfl rfl ?_
  refine g_iload_n hκ 3 dJx4a65c_add_72be8_12 rfl rfl ?_
  refine g_aload_n hκ 2 dJx4a65c_add_72be8_13 rfl rfl ?_
  refine ga_ast hκ hz (C := C) (gr_at (l := l) (N := 10) (f := f) fa) (by rw [GrS_N]; exact (show vp_in (nI 0) 10 from vp_in_nI (by omega) (by omega))) hCa (fun D cO H s hK hP => hRc _ D cO H s v hK hP (gr_old (l := l) (N := 10) (f := f) fa hv)) dJx4a65c_add_72be8_14 ?_
  refine g_aload_n hκ 1 dJx4a65c_add_72be8_15 rfl rfl ?_
  refine g_iload_n hκ 3 dJx4a65c_add_72be8_16 rfl rfl ?_
  refine g_iconst hκ (v := 1) dJx4a65c_add_72be8_17 (by decide) ?_
  refine g_iadd hκ dJx4a65c_add_72be8_18 ?_
  refine g_eqi (y := 1) (by decide) ?_
  refine pt_List_size hκ (gr_old (l := l) (N := 10) (f := f) fa hl) qw_50 (Or.inl rfl) dJx4a65c_add_72be8_19 ?_
  exact hend _ _ _ _ _ dJx4a65c_add_72be8_22 (⟨a, f, fa, ne, by unfold AddB; rw [GrS_W]; try rfl, hf⟩)
set_option maxHeartbeats 4000000 in
set_option maxRecDepth 100000 in
theorem k_apB1 (e9 : Nat × Nat) (S : wPS) (l r0 n : Nat) (kd : Nat) (C : String) (v : Nat) (hl : l ∈ sL S ∧ sK S l = 11) (he : sR S q_List_elementData l = some r0) (hr0 : r0 ∈ sL S ∧ sK S r0 = 12) (hc : sN S r0 = n) (hn0 : 0 < n) (hn : n ≤ 60000) (hel : ∀ i y : Nat, i < n → sW S r0 i = some y → y ∈ sL S ∧ sK S y = kd) (hRc : RcK kd C) (hCa : C ∈ castO) (hsz : sI S q_List_size l = nI n) (hv : v ∈ sL S ∧ sK S v = kd) : MVv e9 yJx4a65c_add_72be8 cJx4a65c_add_72be8 4 none ({ frames := 5, cells := 1, slots := (gN n), locals := 127 }) S [.ref l, .ref v, .ref r0, .int (nI n)] (fun S1 => ∃ (a : Nat) (f : Nat → Option Nat), a ∉ sL S ∧ a ≠ e9.1 ∧ S1 = AddB S l a (gN n) f v n ∧ (∀ i : Nat, i < n → f i = sW S r0 i)) 1 (gN n) := by
  refine stV_v (post := (fun S1 => ∃ (a : Nat) (f : Nat → Option Nat), a ∉ sL S ∧ a ≠ e9.1 ∧ S1 = AddB S l a (gN n) f v n ∧ (∀ i : Nat, i < n → f i = sW S r0 i))) (by decide) (Nat.le_of_ble_eq_true rfl) ⟨Nat.le_refl _, Nat.le_refl _⟩ rfl (fun κ hκ hz hnm hend => ?_)
  show Gj κ _ 0 [(0, .ref l), (1, .ref v), (2, .ref r0), (3, .int (nI n))] []
  refine g_iload_n hκ 3 dJx4a65c_add_72be8_0 rfl rfl ?_
  refine g_aload_n hκ 2 dJx4a65c_add_72be8_1 rfl rfl ?_
  refine ga_len hκ (hdV hz) hr0 dJx4a65c_add_72be8_2 ?_
  rw [show Int32.ofNat (sN S r0) = nI n from congrArg nI hc]
  refine g_icmp_ne hκ 11 dJx4a65c_add_72be8_3 (by decide) (fun z => absurd rfl z) (fun _ => ?_)
  refine g_aload_n hκ 0 dJx4a65c_add_72be8_6 rfl rfl ?_
  refine vV_q hκ hz [] sd_Jx4a65c_grow_d5877 qw_347 (fun D cO H s hK hP => rc_List hK hP hl) (k_grow1 e9 S l r0 n kd C hl he hr0 hc hn0 hn hel hRc hCa hsz) ⟨rfl, rfl, Nat.le_of_ble_eq_true rfl, Nat.le_of_ble_eq_true rfl⟩ rfl rfl (Nat.le_of_ble_eq_true rfl) dJx4a65c_add_72be8_7 (by omega) (by omega) (fun r1 S2 hS2 => ?_)
  obtain ⟨a, f, fa, ne, rfl, rfl, hf⟩ := hS2
  refine g_rf rfl ?_
  refine g_astore_n hκ [(2, .ref a), (0, .ref l), (1, .ref v), (3, .int (nI n))] dJx4a65c_add_72be8_10 rfl (by decide) rfl ?_
  refine g_aload_n hκ 0 dJx4a65c_add_72be8_11 rfl rfl ?_
  refine g_iload_n hκ 3 dJx4a65c_add_72be8_12 rfl rfl ?_
  refine g_aload_n hκ 2 dJx4a65c_add_72be8_13 rfl rfl ?_
  refine ga_ast hκ hz (C := C) (gr_at (l := l) (N := (gN n)) (f := f) fa) (by rw [GrS_N]; exact vp_in_nI (by unfold gN; omega) (by unfold gN; omega)) hCa (fun D cO H s hK hP => hRc _ D cO H s v hK hP (gr_old (l := l) (N := (gN n)) (f := f) fa hv)) dJx4a65c_add_72be8_14 ?_
  refine g_aload_n hκ 1 dJx4a65c_add_72be8_15 rfl rfl ?_
  refine g_iload_n hκ 3 dJx4a65c_add_72be8_16 rfl rfl ?_
  refine g_iconst hκ (v := 1) dJx4a65c_add_72be8_17 (by decide) ?_
  refine g_iadd hκ dJx4a65c_add_72be8_18 ?_
  refine pt_List_size hκ (gr_old (l := l) (N := (gN n)) (f := f) fa hl) qw_50 (Or.inl rfl) dJx4a65c_add_72be8_19 ?_
  exact hend _ _ _ _ _ dJx4a65c_add_72be8_22 (⟨a, f, fa, ne, by unfold AddB; rw [GrS_W]; try rfl, hf⟩)
set_option maxHeartbeats 4000000 in
set_option maxRecDepth 100000 in
theorem k_addA (e9 : Nat × Nat) (S : wPS) (l r0 n v : Nat) (kd : Nat) (C : String) (hl : l ∈ sL S ∧ sK S l = 11) (hr0 : r0 ∈ sL S ∧ sK S r0 = 12) (hc : n < sN S r0) (hn : n ≤ 100000) (hcap : sN S r0 ≤ 200000) (hv : v ∈ sL S ∧ sK S v = kd) (hRc : RcK kd C) (hCa : C ∈ castO) (he : sR S q_List_elementData l = some r0) (hsz : sI S q_List_size l = nI n) : MVi e9 yJx4a65c_add_9ea2d cJx4a65c_add_9ea2d 2 (some .boolean) ({ frames := 1, cells := 0, slots := 0, locals := 23 }) S [.ref l, .ref v] (fun r S1 => r = 1 ∧ S1 = AddA S l r0 v n) 0 0 := by
  refine stV_i (post := (fun r S1 => r = 1 ∧ S1 = AddA S l r0 v n)) (by decide) (Nat.le_of_ble_eq_true rfl) ⟨Nat.le_refl _, Nat.le_refl _⟩ rfl (fun v S1 hv => by obtain ⟨rfl, -⟩ := hv; rfl) (fun κ hκ hz hnm hend => ?_)
  show Gj κ _ 0 [(0, .ref l), (1, .ref v)] []
  refine g_aload_n hκ 0 dJx4a65c_add_9ea2d_0 rfl rfl ?_
  refine g_dup hκ dJx4a65c_add_9ea2d_1 rfl ?_
  refine gt_List_modCount hκ (hdV hz) hl qw_52 (Or.inr qw_53) dJx4a65c_add_9ea2d_2 ?_
  refine g_iconst hκ (v := 1) dJx4a65c_add_9ea2d_5 (by decide) ?_
  refine g_iadd hκ dJx4a65c_add_9ea2d_6 ?_
  refine pt_List_modCount hκ hl qw_52 (Or.inr qw_53) dJx4a65c_add_9ea2d_7 ?_
  refine g_aload_n hκ 0 dJx4a65c_add_9ea2d_10 rfl rfl ?_
  refine g_aload_n hκ 1 dJx4a65c_add_9ea2d_11 rfl rfl ?_
  refine g_aload_n hκ 0 dJx4a65c_add_9ea2d_12 rfl rfl ?_
  refine gt_List_elementData hκ (hdV hz) hl qw_49 (Or.inl rfl) dJx4a65c_add_9ea2d_13 ?_
  refine g_rf he ?_
  refine g_aload_n hκ 0 dJx4a65c_add_9ea2d_16 rfl rfl ?_
  refine gt_List_size hκ (hdV hz) hl qw_50 (Or.inl rfl) dJx4a65c_add_9ea2d_17 ?_
  refine g_eqi (show sI (putI S q_List_modCount l ((sI S q_List_modCount l) + 1)) q_List_size l = nI n from hsz) ?_
  refine vV_v hκ hz [.ref v, .ref r0, .int (nI n)] sd_Jx4a65c_add_72be8 qw_343 (fun D cO H s hK hP => rc_List hK hP hl) (k_apA e9 (putI S q_List_modCount l (sI S q_List_modCount l + 1)) l r0 n v kd C hl hr0 hc hn hcap hv hRc hCa) ⟨rfl, rfl, Nat.le_of_ble_eq_true rfl, Nat.le_of_ble_eq_true rfl⟩ rfl rfl (Nat.le_of_ble_eq_true rfl) dJx4a65c_add_9ea2d_20 (by omega) (by omega) (fun S2 hS2 => ?_)
  obtain rfl := hS2
  refine g_iconst hκ (v := 1) dJx4a65c_add_9ea2d_23 (by decide) ?_
  exact hend _ _ _ _ _ _ dJx4a65c_add_9ea2d_24 (⟨rfl, rfl⟩)
set_option maxHeartbeats 4000000 in
set_option maxRecDepth 100000 in
theorem k_addB0 (e9 : Nat × Nat) (S : wPS) (l v : Nat) (kd : Nat) (C : String) (hl : l ∈ sL S ∧ sK S l = 11) (h0 : sR S q_List_elementData l = some e9.1) (hsz : sI S q_List_size l = 0) (hv : v ∈ sL S ∧ sK S v = kd) (hRc : RcK kd C) (hCa : C ∈ castO) : MVi e9 yJx4a65c_add_9ea2d cJx4a65c_add_9ea2d 2 (some .boolean) ({ frames := 4, cells := 1, slots := 10, locals := 80 }) S [.ref l, .ref v] (fun r S1 => r = 1 ∧ ∃ (a : Nat) (f : Nat → Option Nat), a ∉ sL S ∧ a ≠ e9.1 ∧ S1 = AddB (putI S q_List_modCount l (sI S q_List_modCount l + 1)) l a 10 f v 0 ∧ True) 1 10 := by
  refine stV_i (post := (fun r S1 => r = 1 ∧ ∃ (a : Nat) (f : Nat → Option Nat), a ∉ sL S ∧ a ≠ e9.1 ∧ S1 = AddB (putI S q_List_modCount l (sI S q_List_modCount l + 1)) l a 10 f v 0 ∧ True)) (by decide) (Nat.le_of_ble_eq_true rfl) ⟨Nat.le_refl _, Nat.le_refl _⟩ rfl (fun v S1 hv => by obtain ⟨rfl, -⟩ := hv; rfl) (fun κ hκ hz hnm hend => ?_)
  show Gj κ _ 0 [(0, .ref l), (1, .ref v)] []
  refine g_aload_n hκ 0 dJx4a65c_add_9ea2d_0 rfl rfl ?_
  refine g_dup hκ dJx4a65c_add_9ea2d_1 rfl ?_
  refine gt_List_modCount hκ (hdV hz) hl qw_52 (Or.inr qw_53) dJx4a65c_add_9ea2d_2 ?_
  refine g_iconst hκ (v := 1) dJx4a65c_add_9ea2d_5 (by decide) ?_
  refine g_iadd hκ dJx4a65c_add_9ea2d_6 ?_
  refine pt_List_modCount hκ hl qw_52 (Or.inr qw_53) dJx4a65c_add_9ea2d_7 ?_
  refine g_aload_n hκ 0 dJx4a65c_add_9ea2d_10 rfl rfl ?_
  refine g_aload_n hκ 1 dJx4a65c_add_9ea2d_11 rfl rfl ?_
  refine g_aload_n hκ 0 dJx4a65c_add_9ea2d_12 rfl rfl ?_
  refine gt_List_elementData hκ (hdV hz) hl qw_49 (Or.inl rfl) dJx4a65c_add_9ea2d_13 ?_
  refine g_rf h0 ?_
  refine g_aload_n hκ 0 dJx4a65c_add_9ea2d_16 rfl rfl ?_
  refine gt_List_size hκ (hdV hz) hl qw_50 (Or.inl rfl) dJx4a65c_add_9ea2d_17 ?_
  refine g_eqi (show sI (putI S q_List_modCount l ((sI S q_List_modCount l) + 1)) q_List_size l = 0 from hsz) ?_
  refine vV_v hκ hz [.ref v, .ref e9.1, .int 0] sd_Jx4a65c_add_72be8 qw_343 (fun D cO H s hK hP => rc_List hK hP hl) (k_apB0 e9 (putI S q_List_modCount l (sI S q_List_modCount l + 1)) l v kd C hl h0 hsz hv hRc hCa) ⟨rfl, rfl, Nat.le_of_ble_eq_true rfl, Nat.le_of_ble_eq_true rfl⟩ rfl rfl (Nat.le_of_ble_eq_true rfl) dJx4a65c_add_9ea2d_20 (by omega) (by omega) (fun S2 hS2 => ?_)
  obtain ⟨a, f, fa, ne, rfl, hf⟩ := hS2
  refine g_iconst hκ (v := 1) dJx4a65c_add_9ea2d_23 (by decide) ?_
  exact hend _ _ _ _ _ _ dJx4a65c_add_9ea2d_24 (⟨rfl, a, f, fa, ne, rfl, hf⟩)
set_option maxHeartbeats 4000000 in
set_option maxRecDepth 100000 in
theorem k_addB1 (e9 : Nat × Nat) (S : wPS) (l r0 n : Nat) (kd : Nat) (C : String) (v : Nat) (hl : l ∈ sL S ∧ sK S l = 11) (he : sR S q_List_elementData l = some r0) (hr0 : r0 ∈ sL S ∧ sK S r0 = 12) (hc : sN S r0 = n) (hn0 : 0 < n) (hn : n ≤ 60000) (hel : ∀ i y : Nat, i < n → sW S r0 i = some y → y ∈ sL S ∧ sK S y = kd) (hRc : RcK kd C) (hCa : C ∈ castO) (hsz : sI S q_List_size l = nI n) (hv : v ∈ sL S ∧ sK S v = kd) : MVi e9 yJx4a65c_add_9ea2d cJx4a65c_add_9ea2d 2 (some .boolean) ({ frames := 6, cells := 1, slots := (gN n), locals := 150 }) S [.ref l, .ref v] (fun r S1 => r = 1 ∧ ∃ (a : Nat) (f : Nat → Option Nat), a ∉ sL S ∧ a ≠ e9.1 ∧ S1 = AddB (putI S q_List_modCount l (sI S q_List_modCount l + 1)) l a (gN n) f v n ∧ (∀ i : Nat, i < n → f i = sW S r0 i)) 1 (gN n) := by
  refine stV_i (post := (fun r S1 => r = 1 ∧ ∃ (a : Nat) (f : Nat → Option Nat), a ∉ sL S ∧ a ≠ e9.1 ∧ S1 = AddB (putI S q_List_modCount l (sI S q_List_modCount l + 1)) l a (gN n) f v n ∧ (∀ i : Nat, i < n → f i = sW S r0 i))) (by decide) (Nat.le_of_ble_eq_true rfl) ⟨Nat.le_refl _, Nat.le_refl _⟩ rfl (fun v S1 hv => by obtain ⟨rfl, -⟩ := hv; rfl) (fun κ hκ hz hnm hend => ?_)
  show Gj κ _ 0 [(0, .ref l), (1, .ref v)] []
  refine g_aload_n hκ 0 dJx4a65c_add_9ea2d_0 rfl rfl ?_
  refine g_dup hκ dJx4a65c_add_9ea2d_1 rfl ?_
  refine gt_List_modCount hκ (hdV hz) hl qw_52 (Or.inr qw_53) dJx4a65c_add_9ea2d_2 ?_
  refine g_iconst hκ (v := 1) dJx4a65c_add_9ea2d_5 (by decide) ?_
  refine g_iadd hκ dJx4a65c_add_9ea2d_6 ?_
  refine pt_List_modCount hκ hl qw_52 (Or.inr qw_53) dJx4a65c_add_9ea2d_7 ?_
  refine g_aload_n hκ 0 dJx4a65c_add_9ea2d_10 rfl rfl ?_
  refine g_aload_n hκ 1 dJx4a65c_add_9ea2d_11 rfl rfl ?_
  refine g_aload_n hκ 0 dJx4a65c_add_9ea2d_12 rfl rfl ?_
  refine gt_List_elementData hκ (hdV hz) hl qw_49 (Or.inl rfl) dJx4a65c_add_9ea2d_13 ?_
  refine g_rf he ?_
  refine g_aload_n hκ 0 dJx4a65c_add_9ea2d_16 rfl rfl ?_
  refine gt_List_size hκ (hdV hz) hl qw_50 (Or.inl rfl) dJx4a65c_add_9ea2d_17 ?_
  refine g_eqi (show sI (putI S q_List_modCount l ((sI S q_List_modCount l) + 1)) q_List_size l = nI n from hsz) ?_
  refine vV_v hκ hz [.ref v, .ref r0, .int (nI n)] sd_Jx4a65c_add_72be8 qw_343 (fun D cO H s hK hP => rc_List hK hP hl) (k_apB1 e9 (putI S q_List_modCount l (sI S q_List_modCount l + 1)) l r0 n kd C v hl he hr0 hc hn0 hn hel hRc hCa hsz hv) ⟨rfl, rfl, Nat.le_of_ble_eq_true rfl, Nat.le_of_ble_eq_true rfl⟩ rfl rfl (Nat.le_of_ble_eq_true rfl) dJx4a65c_add_9ea2d_20 (by omega) (by omega) (fun S2 hS2 => ?_)
  obtain ⟨a, f, fa, ne, rfl, hf⟩ := hS2
  refine g_iconst hκ (v := 1) dJx4a65c_add_9ea2d_23 (by decide) ?_
  exact hend _ _ _ _ _ _ dJx4a65c_add_9ea2d_24 (⟨rfl, a, f, fa, ne, rfl, hf⟩)
set_option maxHeartbeats 4000000 in
set_option maxRecDepth 100000 in
theorem k_addL (e9 : Nat × Nat) (S : wPS) (l v n c : Nat) (e : Nat → Nat) (kd : Nat) (C : String) (hLS : LSt e9 S l kd e n c) (hn : n ≤ 30000) (hv : v ∈ sL S ∧ sK S v = kd) (hRc : RcK kd C) (hCa : C ∈ castO) : MVi e9 yJx4a65c_add_9ea2d cJx4a65c_add_9ea2d 2 (some .boolean) ({ frames := 6, cells := 1, slots := (gN n + 10), locals := 150 }) S [.ref l, .ref v] (fun r S1 => r = 1 ∧ AddP e9 S l kd e n c v S1) 1 (gN n + 10) := by
  refine stV_i (post := (fun r S1 => r = 1 ∧ AddP e9 S l kd e n c v S1)) (by decide) (Nat.le_of_ble_eq_true rfl) ⟨Nat.le_refl _, Nat.le_refl _⟩ rfl (fun v S1 hv => by obtain ⟨rfl, -⟩ := hv; rfl) (fun κ hκ hz hnm hend => ?_)
  show Gj κ _ 0 [(0, .ref l), (1, .ref v)] []
  rcases hLS.cases with ⟨r0, he, hr0, hc, hcc⟩ | ⟨hn0, hc0, h0, hsz⟩ | ⟨r0, he, hr0, hc, hn0, hnc, hel⟩
  · skip
    refine g_aload_n hκ 0 dJx4a65c_add_9ea2d_0 rfl rfl ?_
    refine g_dup hκ dJx4a65c_add_9ea2d_1 rfl ?_
    refine gt_List_modCount hκ (hdV hz) hLS.1.1 qw_52 (Or.inr qw_53) dJx4a65c_add_9ea2d_2 ?_
    refine g_iconst hκ (v := 1) dJx4a65c_add_9ea2d_5 (by decide) ?_
    refine g_iadd hκ dJx4a65c_add_9ea2d_6 ?_
    refine pt_List_modCount hκ hLS.1.1 qw_52 (Or.inr qw_53) dJx4a65c_add_9ea2d_7 ?_
    refine g_aload_n hκ 0 dJx4a65c_add_9ea2d_10 rfl rfl ?_
    refine g_aload_n hκ 1 dJx4a65c_add_9ea2d_11 rfl rfl ?_
    refine g_aload_n hκ 0 dJx4a65c_add_9ea2d_12 rfl rfl ?_
    refine gt_List_elementData hκ (hdV hz) hLS.1.1 qw_49 (Or.inl rfl) dJx4a65c_add_9ea2d_13 ?_
    refine g_rf he ?_
    refine g_aload_n hκ 0 dJx4a65c_add_9ea2d_16 rfl rfl ?_
    refine gt_List_size hκ (hdV hz) hLS.1.1 qw_50 (Or.inl rfl) dJx4a65c_add_9ea2d_17 ?_
    refine g_eqi (show sI (putI S q_List_modCount l ((sI S q_List_modCount l) + 1)) q_List_size l = nI n from hLS.sz) ?_
    refine vV_v hκ hz [.ref v, .ref r0, .int (nI n)] sd_Jx4a65c_add_72be8 qw_343 (fun D cO H s hK hP => rc_List hK hP hLS.1.1) (k_apA e9 (putI S q_List_modCount l (sI S q_List_modCount l + 1)) l r0 n v kd C hLS.1.1 hr0 hc (by have := hLS.1.2.2.1; omega) (by have := hLS.2.2.1; have e : sN (putI S q_List_modCount l (sI S q_List_modCount l + 1)) r0 = sN S r0 := rfl; omega) hv hRc hCa) ⟨rfl, rfl, Nat.le_of_ble_eq_true rfl, Nat.le_of_ble_eq_true rfl⟩ rfl rfl (Nat.le_of_ble_eq_true rfl) dJx4a65c_add_9ea2d_20 (by omega) (by omega) (fun S2 hS2 => ?_)
    obtain rfl := hS2
    refine g_iconst hκ (v := 1) dJx4a65c_add_9ea2d_23 (by decide) ?_
    exact hend _ _ _ _ _ _ dJx4a65c_add_9ea2d_24 (⟨rfl, addA_P hLS he hr0 hc hcc (by omega) hv⟩)
  · skip
    subst hn0
    subst hc0
    refine g_aload_n hκ 0 dJx4a65c_add_9ea2d_0 rfl rfl ?_
    refine g_dup hκ dJx4a65c_add_9ea2d_1 rfl ?_
    refine gt_List_modCount hκ (hdV hz) hLS.1.1 qw_52 (Or.inr qw_53) dJx4a65c_add_9ea2d_2 ?_
    refine g_iconst hκ (v := 1) dJx4a65c_add_9ea2d_5 (by decide) ?_
    refine g_iadd hκ dJx4a65c_add_9ea2d_6 ?_
    refine pt_List_modCount hκ hLS.1.1 qw_52 (Or.inr qw_53) dJx4a65c_add_9ea2d_7 ?_
    refine g_aload_n hκ 0 dJx4a65c_add_9ea2d_10 rfl rfl ?_
    refine g_aload_n hκ 1 dJx4a65c_add_9ea2d_11 rfl rfl ?_
    refine g_aload_n hκ 0 dJx4a65c_add_9ea2d_12 rfl rfl ?_
    refine gt_List_elementData hκ (hdV hz) hLS.1.1 qw_49 (Or.inl rfl) dJx4a65c_add_9ea2d_13 ?_
    refine g_rf h0 ?_
    refine g_aload_n hκ 0 dJx4a65c_add_9ea2d_16 rfl rfl ?_
    refine gt_List_size hκ (hdV hz) hLS.1.1 qw_50 (Or.inl rfl) dJx4a65c_add_9ea2d_17 ?_
    refine g_eqi (show sI (putI S q_List_modCount l ((sI S q_List_modCount l) + 1)) q_List_size l = 0 from hLS.sz.trans nI_0) ?_
    refine vV_v hκ hz [.ref v, .ref e9.1, .int 0] sd_Jx4a65c_add_72be8 qw_343 (fun D cO H s hK hP => rc_List hK hP hLS.1.1) (k_apB0 e9 (putI S q_List_modCount l (sI S q_List_modCount l + 1)) l v kd C hLS.1.1 h0 hsz hv hRc hCa) ⟨rfl, rfl, Nat.le_of_ble_eq_true rfl, Nat.le_of_ble_eq_true rfl⟩ rfl rfl (Nat.le_of_ble_eq_true rfl) dJx4a65c_add_9ea2d_20 (by omega) (by unfold gN; omega) (fun S4 hS4 => ?_)
    obtain ⟨a, f, fa, ne, rfl, hf⟩ := hS4
    refine g_iconst hκ (v := 1) dJx4a65c_add_9ea2d_23 (by decide) ?_
    exact hend _ _ _ _ _ _ dJx4a65c_add_9ea2d_24 (⟨rfl, addB_P hLS fa ne (by omega) (by omega) (by omega) (by omega) hv (fun i hi => absurd hi (Nat.not_lt_zero i))⟩)
  · skip
    refine g_aload_n hκ 0 dJx4a65c_add_9ea2d_0 rfl rfl ?_
    refine g_dup hκ dJx4a65c_add_9ea2d_1 rfl ?_
    refine gt_List_modCount hκ (hdV hz) hLS.1.1 qw_52 (Or.inr qw_53) dJx4a65c_add_9ea2d_2 ?_
    refine g_iconst hκ (v := 1) dJx4a65c_add_9ea2d_5 (by decide) ?_
    refine g_iadd hκ dJx4a65c_add_9ea2d_6 ?_
    refine pt_List_modCount hκ hLS.1.1 qw_52 (Or.inr qw_53) dJx4a65c_add_9ea2d_7 ?_
    refine g_aload_n hκ 0 dJx4a65c_add_9ea2d_10 rfl rfl ?_
    refine g_aload_n hκ 1 dJx4a65c_add_9ea2d_11 rfl rfl ?_
    refine g_aload_n hκ 0 dJx4a65c_add_9ea2d_12 rfl rfl ?_
    refine gt_List_elementData hκ (hdV hz) hLS.1.1 qw_49 (Or.inl rfl) dJx4a65c_add_9ea2d_13 ?_
    refine g_rf he ?_
    refine g_aload_n hκ 0 dJx4a65c_add_9ea2d_16 rfl rfl ?_
    refine gt_List_size hκ (hdV hz) hLS.1.1 qw_50 (Or.inl rfl) dJx4a65c_add_9ea2d_17 ?_
    refine g_eqi (show sI (putI S q_List_modCount l ((sI S q_List_modCount l) + 1)) q_List_size l = nI n from hLS.sz) ?_
    refine vV_v hκ hz [.ref v, .ref r0, .int (nI n)] sd_Jx4a65c_add_72be8 qw_343 (fun D cO H s hK hP => rc_List hK hP hLS.1.1) (k_apB1 e9 (putI S q_List_modCount l (sI S q_List_modCount l + 1)) l r0 n kd C v hLS.1.1 he hr0 hc hn0 (by omega) hel hRc hCa hLS.sz hv) ⟨rfl, rfl, Nat.le_of_ble_eq_true rfl, Nat.le_of_ble_eq_true rfl⟩ rfl rfl (Nat.le_of_ble_eq_true rfl) dJx4a65c_add_9ea2d_20 (by omega) (by omega) (fun S6 hS6 => ?_)
    obtain ⟨a, f, fa, ne, rfl, hf⟩ := hS6
    refine g_iconst hκ (v := 1) dJx4a65c_add_9ea2d_23 (by decide) ?_
    exact hend _ _ _ _ _ _ dJx4a65c_add_9ea2d_24 (⟨rfl, addB_P hLS fa ne (by omega) (by unfold gN; omega) (by rw [hnc]; omega) (by unfold gN; omega) hv (fun i hi => (hf i hi).trans (LSt.wat hLS he hi))⟩)
set_option maxHeartbeats 4000000 in
set_option maxRecDepth 100000 in
theorem k_set (e9 : Nat × Nat) (S : wPS) (l r0 n j y v : Nat) (kd : Nat) (C : String) (hj : j < n) (hl : l ∈ sL S ∧ sK S l = 11) (he : sR S q_List_elementData l = some r0) (hr0 : r0 ∈ sL S ∧ sK S r0 = 12) (hc : n ≤ sN S r0) (hcap : sN S r0 ≤ 200000) (hsz : sI S q_List_size l = nI n) (hy : sW S r0 j = some y) (hv : v ∈ sL S ∧ sK S v = kd) (hRc : RcK kd C) (hCa : C ∈ castO) : MVq e9 yJx4a65c_set_bcc79 cJx4a65c_set_bcc79 4 (some (.object "java/lang/Object")) ({ frames := 2, cells := 0, slots := 0, locals := 43 }) S [.ref l, .int (nI j), .ref v] (fun r S1 => r = some y ∧ S1 = putW S r0 (va_up (sW S r0) (nI j).toNatClampNeg (some v))) 0 0 := by
  refine stV_q (post := (fun r S1 => r = some y ∧ S1 = putW S r0 (va_up (sW S r0) (nI j).toNatClampNeg (some v)))) (by decide) (Nat.le_of_ble_eq_true rfl) ⟨Nat.le_refl _, Nat.le_refl _⟩ rfl (by first | exact Or.inl ⟨_, rfl⟩ | exact Or.inr ⟨_, rfl⟩) (fun κ hκ hz hnm hend => ?_)
  show Gj κ _ 0 [(0, .ref l), (1, .int (nI j)), (2, .ref v)] []
  refine g_iload_n hκ 1 dJx4a65c_set_bcc79_0 rfl rfl ?_
  refine g_aload_n hκ 0 dJx4a65c_set_bcc79_1 rfl rfl ?_
  refine gt_List_size hκ (hdV hz) hl qw_50 (Or.inl rfl) dJx4a65c_set_bcc79_2 ?_
  refine g_eqi hsz ?_
  refine rS_i hκ (hdV hz) [.int (nI j), .int (nI n)] sd_J15_checkIndex_7cf53 qw_444 (k_check S (nI j) (nI n) (nI_pos (by omega)) (nI_lt hj (by omega))) ⟨rfl, rfl, Nat.le_of_ble_eq_true rfl, Nat.le_of_ble_eq_true rfl⟩ rfl rfl (Nat.le_of_ble_eq_true rfl) dJx4a65c_set_bcc79_5 (fun r1 hr1 => ?_)
  refine g_eqi hr1 ?_
  refine g_pop hκ dJx4a65c_set_bcc79_8 rfl ?_
  refine g_aload_n hκ 0 dJx4a65c_set_bcc79_9 rfl rfl ?_
  refine g_iload_n hκ 1 dJx4a65c_set_bcc79_10 rfl rfl ?_
  refine rV_q hκ (hdV hz) [.int (nI j)] sd_Jx4a65c_elementData_915e3 qw_450 (fun D cO H s hK hP => rc_List hK hP hl) (k_elem S l r0 y (nI j) hl he hr0 (vp_in_nI (by omega) (by omega)) (by rw [nI_clamp (by omega)]; exact hy)) ⟨rfl, rfl, Nat.le_of_ble_eq_true rfl, Nat.le_of_ble_eq_true rfl⟩ rfl rfl (Nat.le_of_ble_eq_true rfl) dJx4a65c_set_bcc79_11 (fun r2 hr2 => ?_)
  refine g_rf hr2 ?_
  refine g_astore_n hκ [(3, .ref y), (0, .ref l), (1, .int (nI j)), (2, .ref v)] dJx4a65c_set_bcc79_14 rfl (by decide) rfl ?_
  refine g_aload_n hκ 1 dJx4a65c_set_bcc79_15 rfl rfl ?_
  refine gt_List_elementData hκ (hdV hz) hl qw_49 (Or.inl rfl) dJx4a65c_set_bcc79_16 ?_
  refine g_rf he ?_
  refine g_iload_n hκ 2 dJx4a65c_set_bcc79_19 rfl rfl ?_
  refine g_aload_n hκ 3 dJx4a65c_set_bcc79_20 rfl rfl ?_
  refine ga_ast hκ hz (C := C) hr0 (by exact vp_in_nI (by omega) (by omega)) hCa (fun D cO H s hK hP => hRc _ D cO H s v hK hP hv) dJx4a65c_set_bcc79_21 ?_
  refine g_aload_n hκ 0 dJx4a65c_set_bcc79_22 rfl rfl ?_
  exact hend _ _ (some y) _ _ _ dJx4a65c_set_bcc79_23 (⟨rfl, rfl⟩)
