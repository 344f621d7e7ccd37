theorem EL1.cg {S : wPS} {el el1 : Nat → Nat → Nat} {sz sz1 : Nat → Nat} (h : EL1 S el sz) (e : el1 5 = el 5) (z : sz1 5 = sz 5) : EL1 S el1 sz1 := by unfold EL1; rw [e, z]; exact h
theorem EL2.cg {S : wPS} {el el1 : Nat → Nat → Nat} {sz sz1 : Nat → Nat} (h : EL2 S el sz) (e : el1 2 = el 2) (z : sz1 2 = sz 2) : EL2 S el1 sz1 := by unfold EL2; rw [e, z]; exact h
theorem EL3.cg {S : wPS} {el el1 : Nat → Nat → Nat} {sz sz1 : Nat → Nat} (h : EL3 S el sz) (e : el1 7 = el 7) (z : sz1 7 = sz 7) : EL3 S el1 sz1 := by unfold EL3; rw [e, z]; exact h
theorem EL4.cg {S : wPS} {el el1 : Nat → Nat → Nat} {sz sz1 : Nat → Nat} (h : EL4 S el sz) (e : el1 0 = el 0) (z : sz1 0 = sz 0) : EL4 S el1 sz1 := by unfold EL4; rw [e, z]; exact h
theorem EL5.cg {S : wPS} {el el1 : Nat → Nat → Nat} {sz sz1 : Nat → Nat} {pw : Nat} (h : EL5 S el sz pw) (e : el1 0 = el 0) (z : sz1 0 = sz 0) (e8 : ∀ i : Nat, i < pw → el1 8 i = el 8 i) : EL5 S el1 sz1 pw := fun i hi => by
  rw [e, z, e8 i hi]; exact h i hi
theorem SM1.cg {S : wPS} {ta ow : Nat} {el el1 : Nat → Nat → Nat} {sz sz1 : Nat → Nat} (h : SM1 S ta el sz ow) (e : el1 0 = el 0) (z : sz1 0 = sz 0) (e7 : el1 7 = el 7) (z7 : sz1 7 = sz 7) : SM1 S ta el1 sz1 ow := by unfold SM1; rw [e, z, e7, z7]; exact h
theorem SM2.cg {S : wPS} {ta cnts : Nat} {el el1 : Nat → Nat → Nat} {sz sz1 : Nat → Nat} (h : SM2 S ta el sz cnts) (e : el1 5 = el 5) (z : sz1 5 = sz 5) (e2 : el1 2 = el 2) (z2 : sz1 2 = sz 2) : SM2 S ta el1 sz1 cnts := by unfold SM2; rw [e, z, e2, z2]; exact h
theorem SM3.cg {S : wPS} {ta : Nat} {told : Int32} {el el1 : Nat → Nat → Nat} {sz sz1 : Nat → Nat} (h : SM3 S ta el sz told) (e2 : el1 2 = el 2) (z2 : sz1 2 = sz 2) : SM3 S ta el1 sz1 told := by unfold SM3; rw [e2, z2]; exact h
theorem SM4.cg {S : wPS} {el el1 : Nat → Nat → Nat} {sz sz1 : Nat → Nat} (h : SM4 S el sz) (e2 : el1 2 = el 2) (z2 : sz1 2 = sz 2) : SM4 S el1 sz1 := by
  obtain ⟨tk, h1, h2⟩ := h
  refine ⟨tk, h1, ?_⟩
  unfold countTalksF at h2 ⊢
  rw [e2, z2]; exact h2
theorem newPlot_ch {S : wPS} {a m : Nat} (fa : a ∉ sL S) : Ch [] [] S (initPlot (newS S a 5 0) a m) ∧ Kw S (initPlot (newS S a 5 0) a m) := ⟨ch_Rn (ch_In (ch_In (ch_new fa) fa) fa) fa, kw_new (kd := 5) (n := 0) fa⟩
/-- a thing more in the list of plots -/
theorem IV_addPlot {e9 : Nat × Nat} {x lo ta M cnts pw ow dn a : Nat} {told : Int32} {la : Nat → Nat} {S S1 : wPS} {el : Nat → Nat → Nat} {sz cp : Nat → Nat} (h : IV e9 x lo ta la M cnts told S el sz cp pw ow dn) (hne : ∀ i : Nat, i < sz 8 → el 8 i ≠ a) (hA : AddP e9 S (la 8) 5 (el 8) (sz 8) (cp 8) a S1) : ∃ c1 : Nat, IV e9 x lo ta la M cnts told S1 (va_up el 8 (va_up (el 8) (sz 8) a)) (va_up sz 8 (sz 8 + 1)) (va_up cp 8 c1) pw ow dn := by
  obtain ⟨h1, h2, h3, h4, h5, h6, h7, h8, h9, h10, h11, h12⟩ := h
  have hC := hA.ch
  obtain ⟨c1, -, hs⟩ := h1.add (j := 8) (by decide) (by decide) hne hA
  have E : ∀ j : Nat, j ≠ 8 → va_up el 8 (va_up (el 8) (sz 8) a) j = el j := fun j hj => if_neg hj
  have Z : ∀ j : Nat, j ≠ 8 → va_up sz 8 (sz 8 + 1) j = sz j := fun j hj => if_neg hj
  have Z8 : va_up sz 8 (sz 8 + 1) 8 = sz 8 + 1 := if_pos rfl
  refine ⟨c1, hs, (h2.ch h1 hC (by decide)).cg (E 5 (by decide)) (Z 5 (by decide)), (h3.ch h1 hC (by decide) (by decide)).cg (E 2 (by decide)) (Z 2 (by decide)), (h4.ch h1 hC (by decide)).cg (E 7 (by decide)) (Z 7 (by decide)), (h5.ch h1 hC (by decide)).cg (E 0 (by decide)) (Z 0 (by decide)), (h6.ch h12 h1 hC (by decide) (by decide)).cg (E 0 (by decide)) (Z 0 (by decide)) (fun i hi => ?_), h7.ch h1 hC (by decide), (h8.ch h1 hC (by decide)).cg (E 0 (by decide)) (Z 0 (by decide)) (E 7 (by decide)) (Z 7 (by decide)), (h9.ch h1 hC (by decide)).cg (E 5 (by decide)) (Z 5 (by decide)) (E 2 (by decide)) (Z 2 (by decide)), (h10.ch h1 hC (by decide)).cg (E 2 (by decide)) (Z 2 (by decide)), (h11.ch h1 hC (by decide)).cg (E 2 (by decide)) (Z 2 (by decide)), by rw [Z8]; omega⟩
  have e1 : va_up el 8 (va_up (el 8) (sz 8) a) 8 = va_up (el 8) (sz 8) a := if_pos rfl
  rw [e1]
  exact if_neg (by omega)
/-- a plot is written, and on its way -/
theorem IV_write {e9 : Nat × Nat} {x lo ta M cnts pw ow dn k : Nat} {told : Int32} {la : Nat → Nat} {S : wPS} {el : Nat → Nat → Nat} {sz cp : Nat → Nat} {u v g w : Int32} (h : IV e9 x lo ta la M cnts told S el sz cp pw ow dn) (hk : k < sz 0) (hp : pw < sz 8) (huv : isPlaceB u v = true) : IV e9 x lo ta la M cnts told (putI (putI (writeF S (el 8 pw) (el 0 k) u v g w) q_Room_plotsOnWay x (sI (writeF S (el 8 pw) (el 0 k) u v g w) q_Room_plotsOnWay x + 1)) q_Mast_made (el 0 k) (sI (putI (writeF S (el 8 pw) (el 0 k) u v g w) q_Room_plotsOnWay x (sI (writeF S (el 8 pw) (el 0 k) u v g w) q_Room_plotsOnWay x + 1)) q_Mast_made (el 0 k) + 1)) el sz cp (pw + 1) (ow + 1) dn := by
  obtain ⟨h1, h2, h3, h4, h5, h6, h7, h8, h9, h10, h11, h12⟩ := h
  have hCw : Ch [q_Plot_x, q_Plot_y, q_Plot_guess, q_Plot_seenAt, q_Plot_due] [q_Plot_mast] S (writeF S (el 8 pw) (el 0 k) u v g w) := ch_I' (ch_I' (ch_I' (ch_I' (ch_I' (ch_R (by decide)) (by decide)) (by decide)) (by decide)) (by decide)) (by decide)
  obtain ⟨S1, hS1⟩ : ∃ z : wPS, z = writeF S (el 8 pw) (el 0 k) u v g w := ⟨_, rfl⟩
  have hwI : ∀ (c b : Nat), b ≠ el 8 pw → sI S1 c b = sI S c b := fun c b hb => by
    rw [hS1]; unfold writeF
    exact (putI_col c b (Or.inr hb)).trans ((putI_col c b (Or.inr hb)).trans ((putI_col c b (Or.inr hb)).trans ((putI_col c b (Or.inr hb)).trans (putI_col c b (Or.inr hb)))))
  have hwR : ∀ (c b : Nat), b ≠ el 8 pw → sR S1 c b = sR S c b := fun c b hb => by
    rw [hS1]; unfold writeF
    exact putR_col c b (Or.inr hb)
  have hw1 : sI S1 q_Plot_x (el 8 pw) = u ∧ sI S1 q_Plot_y (el 8 pw) = v ∧ sR S1 q_Plot_mast (el 8 pw) = some (el 0 k) := by
    rw [hS1]; unfold writeF
    refine ⟨?_, ?_, putR_at (S := S) (c := q_Plot_mast) (a := el 8 pw) (v := some (el 0 k))⟩
    · rw [putI_col q_Plot_x _ (Or.inl (by decide)), putI_col q_Plot_x _ (Or.inl (by decide)), putI_col q_Plot_x _ (Or.inl (by decide)), putI_col q_Plot_x _ (Or.inl (by decide)), putI_at]
    · rw [putI_col q_Plot_y _ (Or.inl (by decide)), putI_col q_Plot_y _ (Or.inl (by decide)), putI_col q_Plot_y _ (Or.inl (by decide)), putI_at]
  rw [← hS1] at hCw ⊢
  have hW1 : Kw S S1 := by rw [hS1]; exact fun _ _ => ⟨rfl, rfl⟩
  have hC : Ch [q_Plot_x, q_Plot_y, q_Plot_guess, q_Plot_seenAt, q_Plot_due, q_Room_plotsOnWay, q_Mast_made] [q_Plot_mast] S (putI (putI S1 q_Room_plotsOnWay x (sI S1 q_Room_plotsOnWay x + 1)) q_Mast_made (el 0 k) (sI (putI S1 q_Room_plotsOnWay x (sI S1 q_Room_plotsOnWay x + 1)) q_Mast_made (el 0 k) + 1)) := ch_I' (ch_I' (hCw.weak (by decide) (by decide)) (by decide)) (by decide)
  have hW : Kw S (putI (putI S1 q_Room_plotsOnWay x (sI S1 q_Room_plotsOnWay x + 1)) q_Mast_made (el 0 k) (sI (putI S1 q_Room_plotsOnWay x (sI S1 q_Room_plotsOnWay x + 1)) q_Mast_made (el 0 k) + 1)) := hW1
  obtain ⟨a1, a2, a3, a4, a5⟩ := h7
  have hox : x ≠ el 8 pw := fun z => by
    have e2 := (h1.ob (j := 8) (by decide) hp).2
    rw [← z, h1.1.2] at e2; exact absurd e2 (by decide)
  have hom : ∀ i : Nat, i < sz 0 → el 0 i ≠ el 8 pw := fun i hi z => by
    have e1 := (h1.ob (j := 0) (by decide) hi).2
    have e2 := (h1.ob (j := 8) (by decide) hp).2
    rw [z, e2] at e1; exact absurd e1 (by decide)
  refine ⟨h1.ch hC hW (by decide) (by decide), h2.ch h1 hC (by decide), h3.ch h1 hC (by decide) (by decide), h4.ch h1 hC (by decide), h5.ch h1 hC (by decide), fun i hi => ?_, ⟨(hC.2.1 q_Room_minute (by decide) _ h1.1.1).trans a1, ?_, by rw [hC.2.1 q_Lots_next (by decide) _ h1.lo_ob.1]; exact a3, (hC.2.1 q_Lots_drawn (by decide) _ h1.lo_ob.1).trans a4, (hC.2.1 q_Tally_refused (by decide) _ h1.ta_ob.1).trans a5⟩, ?_, h9.ch h1 hC (by decide), h10.ch h1 hC (by decide), h11.ch h1 hC (by decide), by omega⟩
  · rw [putI_col q_Plot_x _ (Or.inl (by decide)), putI_col q_Plot_x _ (Or.inl (by decide)), putI_col q_Plot_y _ (Or.inl (by decide)), putI_col q_Plot_y _ (Or.inl (by decide))]
    show isPlaceB (sI S1 q_Plot_x (el 8 i)) (sI S1 q_Plot_y (el 8 i)) = true ∧ ∃ k0 : Nat, k0 < sz 0 ∧ sR S1 q_Plot_mast (el 8 i) = some (el 0 k0)
    by_cases hip : i = pw
    · rw [hip, hw1.1, hw1.2.1, hw1.2.2]
      exact ⟨huv, k, hk, rfl⟩
    · have hne : el 8 i ≠ el 8 pw := fun z => hip (h1.2.2.2.2.2.2.1 8 i pw (by decide) (by omega) hp z)
      rw [hwI _ _ hne, hwI _ _ hne, hwR _ _ hne]
      exact h6 i (by omega)
  · rw [putI_col q_Room_plotsOnWay x (Or.inl (by decide)), putI_at, hwI _ _ hox, a2]
    exact nI_1 pw
  · obtain ⟨b1, b2⟩ := h8
    have hma : sumR (fun i => sI (putI (putI S1 q_Room_plotsOnWay x (sI S1 q_Room_plotsOnWay x + 1)) q_Mast_made (el 0 k) (sI (putI S1 q_Room_plotsOnWay x (sI S1 q_Room_plotsOnWay x + 1)) q_Mast_made (el 0 k) + 1)) q_Mast_made (el 0 i)) (sz 0) 0 0 = sumR (fun i => sI S q_Mast_made (el 0 i)) (sz 0) 0 0 + 1 :=
      sumR_up (k0 := k) (sz 0) 0 0 (Nat.zero_le k) (by omega) (fun i _ hi hne2 => (putI_col _ _ (Or.inr (fun z => hne2 (h1.2.2.2.2.2.2.1 0 i k (by decide) (by omega) hk z)))).trans ((putI_col _ _ (Or.inl (by decide))).trans (hwI _ _ (hom i (by omega))))) (putI_at.trans (by rw [putI_col q_Mast_made _ (Or.inl (by decide)), hwI _ _ (hom k hk)]))
    refine ⟨?_, ?_⟩
    · rw [hma, b1, sum_ch (sz 0) (fun i hi => hC.2.1 q_Mast_came (by decide) _ (h1.ob (j := 0) (by decide) hi).1), ← nI_1]
      grind
    · rw [sum_ch (sz 0) (fun i hi => hC.2.1 q_Mast_came (by decide) _ (h1.ob (j := 0) (by decide) hi).1), sum_ch (sz 7) (fun i hi => hC.2.1 q_Track_hits (by decide) _ (h1.ob (j := 7) (by decide) hi).1), hC.2.1 q_Tally_plotsWithoutTrack (by decide) _ h1.ta_ob.1]
      exact b2

