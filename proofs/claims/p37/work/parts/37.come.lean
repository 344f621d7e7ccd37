set_option maxHeartbeats 4000000 in
set_option maxRecDepth 100000 in
theorem k_take (e9 : Nat × Nat) (S : wPS) (t p : Nat) (ht : t ∈ sL S ∧ sK S t = 9) (hp : p ∈ sL S ∧ sK S p = 5) : MVv e9 yX10_take cX10_take 3 none ({ frames := 1, cells := 0, slots := 0, locals := 22 }) S [.ref t, .ref p] (fun S1 => TK S t p S1) 0 0 := by
  refine stV_v (post := (fun S1 => TK S t p S1)) (by decide) (Nat.le_of_ble_eq_true rfl) ⟨Nat.le_refl _, Nat.le_refl _⟩ rfl (fun κ hκ hz hnm hend => ?_)
  show Gj κ _ 0 [(0, .ref t), (1, .ref p)] []
  have hpt : p ≠ t := fun z => by rw [z, ht.2] at hp; exact absurd hp.2 (by decide)
  refine g_aload_n hκ 1 dX10_take_0 rfl rfl ?_
  refine gtN_Plot_seenAt (host := "Plotroom") hκ (hdV hz) hp (by decide +kernel) (Or.inl rfl) dX10_take_1 ?_
  refine g_aload_n hκ 0 dX10_take_4 rfl rfl ?_
  refine gt_Track_minute hκ (hdV hz) ht qw_708 (Or.inl rfl) dX10_take_5 ?_
  refine g_isub hκ dX10_take_8 ?_
  refine g_istore_n hκ [(2, .int ((sI S q_Plot_seenAt p) - (sI S q_Track_minute t))), (0, .ref t), (1, .ref p)] dX10_take_9 rfl (by decide) rfl ?_
  refine g_iload_n hκ 0 dX10_take_10 rfl rfl ?_
  refine g_if_le hκ 98 dX10_take_11 (by decide) (fun c1 => ?_) (fun c1 => ?_)
  · skip
    refine g_aload_n hκ 1 dX10_take_98 rfl rfl ?_
    refine g_aload_n hκ 1 dX10_take_99 rfl rfl ?_
    refine gt_Track_x hκ (hdV hz) ht qw_276 (Or.inr qw_277) dX10_take_100 ?_
    refine g_aload_n hκ 2 dX10_take_103 rfl rfl ?_
    refine gt_Plot_x hκ (hdV hz) hp qw_273 (Or.inr qw_274) dX10_take_104 ?_
    refine g_iadd hκ dX10_take_107 ?_
    refine g_iconst hκ (v := 2) dX10_take_108 (by decide) ?_
    refine g_idiv hκ dX10_take_109 (by decide) ?_
    refine pt_Track_x hκ ht qw_276 (Or.inr qw_277) dX10_take_110 ?_
    refine g_gen (P := fun Sz => TQ S t (((sI S q_Track_x t) + (sI S q_Plot_x p)) / 2) (sI S q_Track_y t) (sI S q_Track_hits t) Sz) ((TQ.refl (S := S) (t := t)).px) (fun S2 hT3 => ?_)
    refine g_aload_n hκ 1 dX10_take_113 rfl rfl ?_
    refine g_aload_n hκ 1 dX10_take_114 rfl rfl ?_
    refine gt_Track_y hκ (hdV hz) (hT3.1.o ht) qw_306 (Or.inr qw_304) dX10_take_115 ?_
    refine g_eqi hT3.2.2.2.2.1 ?_
    refine g_aload_n hκ 2 dX10_take_118 rfl rfl ?_
    refine gt_Plot_y hκ (hdV hz) (hT3.1.o hp) qw_297 (Or.inr qw_298) dX10_take_119 ?_
    refine g_eqi (hT3.2.2.1 p hpt q_Plot_y) ?_
    refine g_iadd hκ dX10_take_122 ?_
    refine g_iconst hκ (v := 2) dX10_take_123 (by decide) ?_
    refine g_idiv hκ dX10_take_124 (by decide) ?_
    refine pt_Track_y hκ (hT3.1.o ht) qw_306 (Or.inr qw_304) dX10_take_125 ?_
    refine g_gen (P := fun Sz => TQ S t (((sI S q_Track_x t) + (sI S q_Plot_x p)) / 2) (((sI S q_Track_y t) + (sI S q_Plot_y p)) / 2) (sI S q_Track_hits t) Sz) (hT3.py) (fun S4 hT5 => ?_)
    refine g_aload_n hκ 1 dX10_take_128 rfl rfl ?_
    refine g_aload_n hκ 1 dX10_take_129 rfl rfl ?_
    refine gt_Track_guess hκ (hdV hz) (hT5.1.o ht) qw_714 (Or.inl rfl) dX10_take_130 ?_
    refine g_aload_n hκ 2 dX10_take_133 rfl rfl ?_
    refine gtN_Plot_guess (host := "Plotroom") hκ (hdV hz) (hT5.1.o hp) (by decide +kernel) (Or.inl rfl) dX10_take_134 ?_
    refine g_eqi (hT5.2.2.1 p hpt q_Plot_guess) ?_
    refine g_max hκ (hdV hz) qw_700 ⟨Nat.le_of_ble_eq_true rfl, Nat.le_of_ble_eq_true rfl⟩ dX10_take_137 ?_
    refine pt_Track_guess hκ (hT5.1.o ht) qw_714 (Or.inl rfl) dX10_take_140 ?_
    refine g_gen (P := fun Sz => TQ S t (((sI S q_Track_x t) + (sI S q_Plot_x p)) / 2) (((sI S q_Track_y t) + (sI S q_Plot_y p)) / 2) (sI S q_Track_hits t) Sz) (hT5.put (by decide)) (fun S6 hT7 => ?_)
    refine g_aload_n hκ 1 dX10_take_143 rfl rfl ?_
    refine g_dup hκ dX10_take_144 rfl ?_
    refine gt_Track_hits hκ (hdV hz) (hT7.1.o ht) qw_715 (Or.inl rfl) dX10_take_145 ?_
    refine g_eqi hT7.2.2.2.2.2 ?_
    refine g_iconst hκ (v := 1) dX10_take_148 (by decide) ?_
    refine g_iadd hκ dX10_take_149 ?_
    refine pt_Track_hits hκ (hT7.1.o ht) qw_715 (Or.inl rfl) dX10_take_150 ?_
    refine g_gen (P := fun Sz => TQ S t (((sI S q_Track_x t) + (sI S q_Plot_x p)) / 2) (((sI S q_Track_y t) + (sI S q_Plot_y p)) / 2) ((sI S q_Track_hits t) + 1) Sz) (hT7.ph) (fun S8 hT9 => ?_)
    exact hend _ _ _ _ _ dX10_take_153 (hT9.tk (fun h1 h2 => half_pl h1 h2) rfl)
  · skip
    refine g_aload_n hκ 1 dX10_take_14 rfl rfl ?_
    refine g_aload_n hκ 1 dX10_take_15 rfl rfl ?_
    refine g_aload_n hκ 1 dX10_take_16 rfl rfl ?_
    refine gt_Track_courseX hκ (hdV hz) ht qw_711 (Or.inl rfl) dX10_take_17 ?_
    refine g_bipush hκ (v := 10) dX10_take_20 (by decide) ?_
    refine g_aload_n hκ 2 dX10_take_22 rfl rfl ?_
    refine gt_Plot_x hκ (hdV hz) hp qw_273 (Or.inr qw_274) dX10_take_23 ?_
    refine g_aload_n hκ 1 dX10_take_26 rfl rfl ?_
    refine gt_Track_x hκ (hdV hz) ht qw_276 (Or.inr qw_277) dX10_take_27 ?_
    refine g_isub hκ dX10_take_30 ?_
    refine g_imul hκ dX10_take_31 ?_
    refine g_iload_n hκ 0 dX10_take_32 rfl rfl ?_
    refine g_idiv hκ dX10_take_33 (fun z => c1 (by rw [z]; decide)) ?_
    refine rV_i hκ (hdV hz) [.int (sI S q_Track_courseX t), .int ((10 * ((sI S q_Plot_x p) - (sI S q_Track_x t))) / ((sI S q_Plot_seenAt p) - (sI S q_Track_minute t)))] sd_X10_courseBy qw_695 (fun D cO H s hK hP => rc_Track hK hP ht) (k_courseBy S t (sI S q_Track_courseX t) ((10 * ((sI S q_Plot_x p) - (sI S q_Track_x t))) / ((sI S q_Plot_seenAt p) - (sI S q_Track_minute t))) ht) ⟨rfl, rfl, Nat.le_of_ble_eq_true rfl, Nat.le_of_ble_eq_true rfl⟩ rfl rfl (Nat.le_of_ble_eq_true rfl) dX10_take_34 (fun r10 hr10 => ?_)
    refine g_eqi hr10 ?_
    refine pt_Track_courseX hκ ht qw_711 (Or.inl rfl) dX10_take_37 ?_
    refine g_gen (P := fun Sz => TQ S t (sI S q_Track_x t) (sI S q_Track_y t) (sI S q_Track_hits t) Sz) ((TQ.refl (S := S) (t := t)).put (by decide)) (fun S11 hT12 => ?_)
    refine g_aload_n hκ 1 dX10_take_40 rfl rfl ?_
    refine g_aload_n hκ 1 dX10_take_41 rfl rfl ?_
    refine g_aload_n hκ 1 dX10_take_42 rfl rfl ?_
    refine gt_Track_courseY hκ (hdV hz) (hT12.1.o ht) qw_712 (Or.inl rfl) dX10_take_43 ?_
    refine g_bipush hκ (v := 10) dX10_take_46 (by decide) ?_
    refine g_aload_n hκ 2 dX10_take_48 rfl rfl ?_
    refine gt_Plot_y hκ (hdV hz) (hT12.1.o hp) qw_297 (Or.inr qw_298) dX10_take_49 ?_
    refine g_eqi (hT12.2.2.1 p hpt q_Plot_y) ?_
    refine g_aload_n hκ 1 dX10_take_52 rfl rfl ?_
    refine gt_Track_y hκ (hdV hz) (hT12.1.o ht) qw_306 (Or.inr qw_304) dX10_take_53 ?_
    refine g_eqi hT12.2.2.2.2.1 ?_
    refine g_isub hκ dX10_take_56 ?_
    refine g_imul hκ dX10_take_57 ?_
    refine g_iload_n hκ 0 dX10_take_58 rfl rfl ?_
    refine g_idiv hκ dX10_take_59 (fun z => c1 (by rw [z]; decide)) ?_
    refine rV_i hκ (hdV hz) [.int (sI S11 q_Track_courseY t), .int ((10 * ((sI S q_Plot_y p) - (sI S q_Track_y t))) / ((sI S q_Plot_seenAt p) - (sI S q_Track_minute t)))] sd_X10_courseBy qw_695 (fun D cO H s hK hP => rc_Track hK hP (hT12.1.o ht)) (k_courseBy S11 t (sI S11 q_Track_courseY t) ((10 * ((sI S q_Plot_y p) - (sI S q_Track_y t))) / ((sI S q_Plot_seenAt p) - (sI S q_Track_minute t))) (hT12.1.o ht)) ⟨rfl, rfl, Nat.le_of_ble_eq_true rfl, Nat.le_of_ble_eq_true rfl⟩ rfl rfl (Nat.le_of_ble_eq_true rfl) dX10_take_60 (fun r13 hr13 => ?_)
    refine g_eqi hr13 ?_
    refine pt_Track_courseY hκ (hT12.1.o ht) qw_712 (Or.inl rfl) dX10_take_63 ?_
    refine g_gen (P := fun Sz => TQ S t (sI S q_Track_x t) (sI S q_Track_y t) (sI S q_Track_hits t) Sz) (hT12.put (by decide)) (fun S14 hT15 => ?_)
    refine g_aload_n hκ 1 dX10_take_66 rfl rfl ?_
    refine g_iconst hκ (v := 1) dX10_take_67 (by decide) ?_
    refine pt_Track_hasCourse hκ (hT15.1.o ht) qw_713 (Or.inl rfl) (by decide) dX10_take_68 ?_
    refine g_gen (P := fun Sz => TQ S t (sI S q_Track_x t) (sI S q_Track_y t) (sI S q_Track_hits t) Sz) (hT15.put (by decide)) (fun S16 hT17 => ?_)
    refine g_aload_n hκ 1 dX10_take_71 rfl rfl ?_
    refine g_aload_n hκ 2 dX10_take_72 rfl rfl ?_
    refine gt_Plot_x hκ (hdV hz) (hT17.1.o hp) qw_273 (Or.inr qw_274) dX10_take_73 ?_
    refine g_eqi (hT17.2.2.1 p hpt q_Plot_x) ?_
    refine pt_Track_x hκ (hT17.1.o ht) qw_276 (Or.inr qw_277) dX10_take_76 ?_
    refine g_gen (P := fun Sz => TQ S t (sI S q_Plot_x p) (sI S q_Track_y t) (sI S q_Track_hits t) Sz) (hT17.px) (fun S18 hT19 => ?_)
    refine g_aload_n hκ 1 dX10_take_79 rfl rfl ?_
    refine g_aload_n hκ 2 dX10_take_80 rfl rfl ?_
    refine gt_Plot_y hκ (hdV hz) (hT19.1.o hp) qw_297 (Or.inr qw_298) dX10_take_81 ?_
    refine g_eqi (hT19.2.2.1 p hpt q_Plot_y) ?_
    refine pt_Track_y hκ (hT19.1.o ht) qw_306 (Or.inr qw_304) dX10_take_84 ?_
    refine g_gen (P := fun Sz => TQ S t (sI S q_Plot_x p) (sI S q_Plot_y p) (sI S q_Track_hits t) Sz) (hT19.py) (fun S20 hT21 => ?_)
    refine g_aload_n hκ 1 dX10_take_87 rfl rfl ?_
    refine g_aload_n hκ 2 dX10_take_88 rfl rfl ?_
    refine gtN_Plot_seenAt (host := "Plotroom") hκ (hdV hz) (hT21.1.o hp) (by decide +kernel) (Or.inl rfl) dX10_take_89 ?_
    refine g_eqi (hT21.2.2.1 p hpt q_Plot_seenAt) ?_
    refine pt_Track_minute hκ (hT21.1.o ht) qw_708 (Or.inl rfl) dX10_take_92 ?_
    refine g_gen (P := fun Sz => TQ S t (sI S q_Plot_x p) (sI S q_Plot_y p) (sI S q_Track_hits t) Sz) (hT21.put (by decide)) (fun S22 hT23 => ?_)
    refine g_goto hκ 128 dX10_take_95 (by decide) ?_
    refine g_aload_n hκ 1 dX10_take_128 rfl rfl ?_
    refine g_aload_n hκ 1 dX10_take_129 rfl rfl ?_
    refine gt_Track_guess hκ (hdV hz) (hT23.1.o ht) qw_714 (Or.inl rfl) dX10_take_130 ?_
    refine g_aload_n hκ 2 dX10_take_133 rfl rfl ?_
    refine gtN_Plot_guess (host := "Plotroom") hκ (hdV hz) (hT23.1.o hp) (by decide +kernel) (Or.inl rfl) dX10_take_134 ?_
    refine g_eqi (hT23.2.2.1 p hpt q_Plot_guess) ?_
    refine g_max hκ (hdV hz) qw_700 ⟨Nat.le_of_ble_eq_true rfl, Nat.le_of_ble_eq_true rfl⟩ dX10_take_137 ?_
    refine pt_Track_guess hκ (hT23.1.o ht) qw_714 (Or.inl rfl) dX10_take_140 ?_
    refine g_gen (P := fun Sz => TQ S t (sI S q_Plot_x p) (sI S q_Plot_y p) (sI S q_Track_hits t) Sz) (hT23.put (by decide)) (fun S24 hT25 => ?_)
    refine g_aload_n hκ 1 dX10_take_143 rfl rfl ?_
    refine g_dup hκ dX10_take_144 rfl ?_
    refine gt_Track_hits hκ (hdV hz) (hT25.1.o ht) qw_715 (Or.inl rfl) dX10_take_145 ?_
    refine g_eqi hT25.2.2.2.2.2 ?_
    refine g_iconst hκ (v := 1) dX10_take_148 (by decide) ?_
    refine g_iadd hκ dX10_take_149 ?_
    refine pt_Track_hits hκ (hT25.1.o ht) qw_715 (Or.inl rfl) dX10_take_150 ?_
    refine g_gen (P := fun Sz => TQ S t (sI S q_Plot_x p) (sI S q_Plot_y p) ((sI S q_Track_hits t) + 1) Sz) (hT25.ph) (fun S26 hT27 => ?_)
    exact hend _ _ _ _ _ dX10_take_153 (hT27.tk (fun _ h2 => h2) rfl)
