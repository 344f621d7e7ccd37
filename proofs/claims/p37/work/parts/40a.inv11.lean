theorem IV.plot {e9 : Nat × Nat} {x lo ta M cnts pw ow dn i p : Nat} {told : Int32} {la : Nat → Nat} {S : wPS} {el : Nat → Nat → Nat} {sz cp : Nat → Nat} (h : IV e9 x lo ta la M cnts told S el sz cp pw ow dn) (hi : i < pw) (hp : el 8 i = p) : isPlaceB (sI S q_Plot_x p) (sI S q_Plot_y p) = true ∧ ∃ k : Nat, k < sz 0 ∧ sR S q_Plot_mast p = some (el 0 k) := hp ▸ h.2.2.2.2.2.1 i hi
theorem IV.cut {e9 : Nat × Nat} {x lo ta M cnts pw ow dn i : Nat} {told : Int32} {la : Nat → Nat} {S : wPS} {el : Nat → Nat → Nat} {sz cp : Nat → Nat} (h : IV e9 x lo ta la M cnts told S el sz cp pw ow dn) (hi : i < sz 0) : sI S q_Mast_isCut (el 0 i) = 0 := (h.2.2.2.2.1 i hi).1
def cameF (S : wPS) (m : Nat) : wPS := putI S q_Mast_came m (sI S q_Mast_came m + 1)
theorem cameF_ch {S : wPS} {m : Nat} : Ch [q_Mast_came] [] S (cameF S m) := ch_I (by decide)
theorem cameF_ST {e9 : Nat × Nat} {x lo ta m : Nat} {la : Nat → Nat} {S : wPS} {el : Nat → Nat → Nat} {sz cp : Nat → Nat} (h : ST e9 x lo ta la S el sz cp) : ST e9 x lo ta la (cameF S m) el sz cp := h.ch cameF_ch kw_I (by decide) (fun c hc => absurd hc List.not_mem_nil)
theorem nx_x {S : wPS} {a c b kd n : Nat} (hb : b ∈ sL S) (fa : a ∉ sL S) : sI (newS S a kd n) c b = sI S c b := if_neg (fun z : b = a => fa (z ▸ hb))
theorem initTrack_ch {S : wPS} {a p : Nat} {nu : Int32} (fa : a ∉ sL S) : Ch [] [] S (initTrack (newS S a 9 0) a nu p) ∧ Kw S (initTrack (newS S a 9 0) a nu p) := by
  refine ⟨?_, kw_new (kd := 9) (n := 0) fa⟩
  unfold initTrack pinitTrack
  exact ch_In (ch_In (ch_In (ch_In (ch_In (ch_In (ch_In (ch_new fa) fa) fa) fa) fa) fa) fa) fa
theorem initTrack_x {S : wPS} {a p : Nat} {nu : Int32} : sI (initTrack S a nu p) q_Track_x a = sI S q_Plot_x p := by
  unfold initTrack pinitTrack
  repeat (first | rw [putI_at] | rw [putI_col q_Track_x a (Or.inl (by decide))])
theorem initTrack_y {S : wPS} {a p : Nat} {nu : Int32} : sI (initTrack S a nu p) q_Track_y a = sI S q_Plot_y p := by
  unfold initTrack pinitTrack
  repeat (first | rw [putI_at] | rw [putI_col q_Track_y a (Or.inl (by decide))])
theorem initTrack_hits {S : wPS} {a p : Nat} {nu : Int32} : sI (initTrack S a nu p) q_Track_hits a = 1 := by
  unfold initTrack
  repeat (first | rw [putI_at] | rw [putI_col q_Track_hits a (Or.inl (by decide))])
/-- a plot has come and a new track is made of it -/
theorem IV_addTrack {e9 : Nat × Nat} {x lo ta M cnts pw ow dn k a p : Nat} {told nu : Int32} {la : Nat → Nat} {S S1 : wPS} {el : Nat → Nat → Nat} {sz cp : Nat → Nat} (h : IV e9 x lo ta la M cnts told S el sz cp pw (ow + 1) dn) (hk : k < sz 0) (hpo : p ∈ sL S ∧ sK S p = 5) (hp : isPlaceB (sI S q_Plot_x p) (sI S q_Plot_y p) = true) (fa : a ∉ sL S) (hA : AddP e9 (initTrack (newS (cameF S (el 0 k)) a 9 0) a nu p) (la 7) 9 (el 7) (sz 7) (cp 7) a S1) : ∃ c1 : Nat, IV e9 x lo ta la M cnts told S1 (va_up el 7 (va_up (el 7) (sz 7) a)) (va_up sz 7 (sz 7 + 1)) (va_up cp 7 c1) pw ow dn := by
  have hc := (IV_came h hk).2
  obtain ⟨h1, h2, h3, h4, h5, h6, h7, h8, h9, h10, h11, h12⟩ := h
  have hC1 : Ch [q_Mast_came] [] S (cameF S (el 0 k)) := cameF_ch
  have fa1 : a ∉ sL (cameF S (el 0 k)) := fa
  have hC2 := initTrack_ch (p := p) (nu := nu) fa1
  have hT1 : ST e9 x lo ta la (cameF S (el 0 k)) el sz cp := cameF_ST h1
  have hT2 := hT1.ch hC2.1 hC2.2 (by decide) (fun c hc => absurd hc List.not_mem_nil)
  have hC3 := hA.ch
  have haS : a ∈ sL (initTrack (newS (cameF S (el 0 k)) a 9 0) a nu p) ∧ sK (initTrack (newS (cameF S (el 0 k)) a 9 0) a nu p) a = 9 := nw_at (n := 0) fa1
  have hne : ∀ i : Nat, i < sz 7 → el 7 i ≠ a := fun i hi z => fa (z ▸ (h1.ob (j := 7) (by decide) hi).1)
  obtain ⟨c1, -, hs⟩ := hT2.add (j := 7) (by decide) (by decide) hne hA
  have hC : Ch [q_Mast_came, q_List_size, q_List_modCount] [q_List_elementData] S S1 := ((hC1.weak (by decide) (by decide)).trans (hC2.1.weak (by decide) (by decide))).trans (hC3.weak (by decide) (by decide))
  have hC0 : Ch [q_List_size, q_List_modCount] [q_List_elementData] (cameF S (el 0 k)) S1 := (hC2.1.weak (by decide) (by decide)).trans hC3
  have E : ∀ j : Nat, j ≠ 7 → va_up el 7 (va_up (el 7) (sz 7) a) j = el j := fun j hj => if_neg hj
  have Z : ∀ j : Nat, j ≠ 7 → va_up sz 7 (sz 7 + 1) j = sz j := fun j hj => if_neg hj
  have E7 : va_up el 7 (va_up (el 7) (sz 7) a) 7 = va_up (el 7) (sz 7) a := if_pos rfl
  have Z7 : va_up sz 7 (sz 7 + 1) 7 = sz 7 + 1 := if_pos rfl
  have hpx : ∀ c : Nat, c ≠ q_Mast_came → sI (newS (cameF S (el 0 k)) a 9 0) c p = sI S c p := fun c hc9 => (nx_x (S := cameF S (el 0 k)) hpo.1 fa1).trans (putI_col c p (Or.inl hc9))
  have hax : sI S1 q_Track_x a = sI S q_Plot_x p := (hC3.2.1 q_Track_x (by decide) a haS.1).trans (initTrack_x.trans (hpx _ (by decide)))
  have hay : sI S1 q_Track_y a = sI S q_Plot_y p := (hC3.2.1 q_Track_y (by decide) a haS.1).trans (initTrack_y.trans (hpx _ (by decide)))
  have hah : sI S1 q_Track_hits a = 1 := (hC3.2.1 q_Track_hits (by decide) a haS.1).trans initTrack_hits
  refine ⟨c1, hs, (h2.ch h1 hC (by decide)).cg (E 5 (by decide)) (Z 5 (by decide)), (h3.ch h1 hC (by decide) (by decide)).cg (E 2 (by decide)) (Z 2 (by decide)), fun i hi => ?_, (h5.ch h1 hC (by decide)).cg (E 0 (by decide)) (Z 0 (by decide)), (h6.ch h12 h1 hC (by decide) (by decide)).cg (E 0 (by decide)) (Z 0 (by decide)) (fun i hi => congrFun (E 8 (by decide)) i), h7.ch h1 hC (by decide), ?_, (h9.ch h1 hC (by decide)).cg (E 5 (by decide)) (Z 5 (by decide)) (E 2 (by decide)) (Z 2 (by decide)), (h10.ch h1 hC (by decide)).cg (E 2 (by decide)) (Z 2 (by decide)), (h11.ch h1 hC (by decide)).cg (E 2 (by decide)) (Z 2 (by decide)), by rw [Z 8 (by decide)]; exact h12⟩
  · rw [E7]
    rw [Z7] at hi
    by_cases hi7 : i = sz 7
    · rw [show va_up (el 7) (sz 7) a i = a from if_pos hi7, hax, hay]; exact hp
    · rw [show va_up (el 7) (sz 7) a i = el 7 i from if_neg hi7]
      exact (h4.ch h1 hC (by decide)) i (by omega)
  · obtain ⟨a1, a2⟩ := h8
    have hca : sumR (fun i => sI S1 q_Mast_came (el 0 i)) (sz 0) 0 0 = sumR (fun i => sI S q_Mast_came (el 0 i)) (sz 0) 0 0 + 1 := (sumR_cg (sz 0) 0 0 (fun i _ hi => hC0.2.1 q_Mast_came (by decide) _ (h1.ob (j := 0) (by decide) (by omega)).1)).trans hc
    have hht : sumR (fun i => sI S1 q_Track_hits (va_up (el 7) (sz 7) a i)) (sz 7 + 1) 0 0 = sumR (fun i => sI S q_Track_hits (el 7 i)) (sz 7) 0 0 + 1 := by
      rw [sumR_sn, Nat.zero_add, show va_up (el 7) (sz 7) a (sz 7) = a from if_pos rfl, hah]
      refine congrArg (fun z => z + 1) (sumR_cg (sz 7) 0 0 (fun i _ hi => ?_))
      rw [show va_up (el 7) (sz 7) a i = el 7 i from if_neg (by omega)]
      exact hC.2.1 q_Track_hits (by decide) _ (h1.ob (j := 7) (by decide) (by omega)).1
    unfold SM1
    rw [E 0 (by decide), Z 0 (by decide), E7, Z7, hht, hca, sum_ch (sz 0) (fun i hi => hC.2.1 q_Mast_made (by decide) _ (h1.ob (j := 0) (by decide) hi).1), hC.2.1 q_Tally_plotsWithoutTrack (by decide) _ h1.ta_ob.1, a1, ← nI_1]
    refine ⟨?_, ?_⟩
    · grind
    · rw [a2]; grind
theorem ex_r {P : Prop} {n : Nat} (hP : P → n < 16) (hn : n ≤ 16) : ∃ r : Nat, (P → r = 1) ∧ (¬ P → r = 0) ∧ r + n ≤ 16 := by
  by_cases h : P
  · exact ⟨1, fun _ => rfl, fun z => absurd h z, by have := hP h; omega⟩
  · exact ⟨0, fun z => absurd z h, fun _ => rfl, by omega⟩
theorem t16 {n : Nat} (h : n ≤ 100000) (c : ¬ (16 : Int32) ≤ nI n) : n < 16 := by
  by_cases hn : n < 16
  · exact hn
  · exact absurd (show (16 : Int32) ≤ nI n from nI_le (a := 16) (by omega) (by omega)) c
theorem t16' {n : Nat} (h : n ≤ 100000) (c : (16 : Int32) ≤ nI n) : ¬ n < 16 := fun hn => absurd c (show ¬ nI 16 ≤ nI n from nI_ge hn (by decide))

