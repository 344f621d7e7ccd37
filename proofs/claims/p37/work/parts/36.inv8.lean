/-- what a track takes from a plot leaves: itself alone is changed, it stays on the map, one hit more -/
def TK (S : wPS) (t p : Nat) (S1 : wPS) : Prop := Ch [q_Track_courseX, q_Track_courseY, q_Track_hasCourse, q_Track_x, q_Track_y, q_Track_minute, q_Track_guess, q_Track_hits] [] S S1 ∧ Kw S S1 ∧ (∀ b : Nat, b ≠ t → ∀ c : Nat, sI S1 c b = sI S c b) ∧ (isPlaceB (sI S q_Track_x t) (sI S q_Track_y t) = true → isPlaceB (sI S q_Plot_x p) (sI S q_Plot_y p) = true → isPlaceB (sI S1 q_Track_x t) (sI S1 q_Track_y t) = true) ∧ sI S1 q_Track_hits t = sI S q_Track_hits t + 1
theorem IV_came {e9 : Nat × Nat} {x lo ta M cnts pw ow dn k : Nat} {told : Int32} {la : Nat → Nat} {S : wPS} {el : Nat → Nat → Nat} {sz cp : Nat → Nat} (h : IV e9 x lo ta la M cnts told S el sz cp pw (ow + 1) dn) (hk : k < sz 0) : (∀ b : Nat, Ch [q_Mast_came] [] S (putI S q_Mast_came (el 0 k) (sI S q_Mast_came (el 0 k) + 1))) ∧ sumR (fun i => sI (putI S q_Mast_came (el 0 k) (sI S q_Mast_came (el 0 k) + 1)) q_Mast_came (el 0 i)) (sz 0) 0 0 = sumR (fun i => sI S q_Mast_came (el 0 i)) (sz 0) 0 0 + 1 := by
  refine ⟨fun _ => ch_I (by decide), ?_⟩
  refine sumR_up (k0 := k) (sz 0) 0 0 (Nat.zero_le k) (by omega) (fun j _ hj hne => putI_col _ _ (Or.inr (fun z => hne (h.1.2.2.2.2.2.2.1 0 j k (by decide) (by omega) hk z)))) putI_at
/-- a plot has come and a track has taken it -/
theorem IV_take {e9 : Nat × Nat} {x lo ta M cnts pw ow dn k j p : Nat} {told : Int32} {la : Nat → Nat} {S S2 : wPS} {el : Nat → Nat → Nat} {sz cp : Nat → Nat} (h : IV e9 x lo ta la M cnts told S el sz cp pw (ow + 1) dn) (hk : k < sz 0) (hj : j < sz 7) (hp : isPlaceB (sI S q_Plot_x p) (sI S q_Plot_y p) = true) (ht : TK (putI S q_Mast_came (el 0 k) (sI S q_Mast_came (el 0 k) + 1)) (el 7 j) p S2) : IV e9 x lo ta la M cnts told S2 el sz cp pw ow dn := by
  have hc := (IV_came h hk).2
  obtain ⟨h1, h2, h3, h4, h5, h6, h7, h8, h9, h10, h11, h12⟩ := h
  obtain ⟨tC, tW, tO, tP, tH⟩ := ht
  have hC : Ch [q_Mast_came, q_Track_courseX, q_Track_courseY, q_Track_hasCourse, q_Track_x, q_Track_y, q_Track_minute, q_Track_guess, q_Track_hits] [] S S2 := (ch_I (by decide)).trans (tC.weak (fun c hc => List.mem_cons_of_mem _ hc) (fun c hc => hc))
  have hW : Kw S S2 := tW
  refine ⟨h1.ch hC hW (by decide) (fun c hc => absurd hc List.not_mem_nil), h2.ch h1 hC (by decide), h3.ch h1 hC (by decide) (by decide), fun i hi => ?_, h5.ch h1 hC (by decide), h6.ch h12 h1 hC (by decide) (by decide), h7.ch h1 hC (by decide), ?_, h9.ch h1 hC (by decide), h10.ch h1 hC (by decide), h11.ch h1 hC (by decide), h12⟩
  · by_cases hij : el 7 i = el 7 j
    · rw [hij]
      exact tP (by rw [putI_col q_Track_x _ (Or.inl (by decide)), putI_col q_Track_y _ (Or.inl (by decide))]; exact h4 j hj) (by rw [putI_col q_Plot_x _ (Or.inl (by decide)), putI_col q_Plot_y _ (Or.inl (by decide))]; exact hp)
    · rw [tO _ hij, tO _ hij, putI_col q_Track_x _ (Or.inl (by decide)), putI_col q_Track_y _ (Or.inl (by decide))]
      exact h4 i hi
  · obtain ⟨a1, a2⟩ := h8
    have hne : ∀ i : Nat, i < sz 0 → el 0 i ≠ el 7 j := fun i hi z => by
      have e1 := (h1.ob (j := 0) (by decide) hi).2
      have e2 := (h1.ob (j := 7) (by decide) hj).2
      rw [z, e2] at e1
      exact absurd e1 (by decide)
    have hht : sumR (fun i => sI S2 q_Track_hits (el 7 i)) (sz 7) 0 0 = sumR (fun i => sI S q_Track_hits (el 7 i)) (sz 7) 0 0 + 1 :=
      sumR_up (k0 := j) (sz 7) 0 0 (Nat.zero_le j) (by omega) (fun i _ hi hne2 => (tO _ (fun z => hne2 (h1.2.2.2.2.2.2.1 7 i j (by decide) (by omega) hj z)) _).trans (putI_col _ _ (Or.inl (by decide)))) (tH.trans (by rw [putI_col q_Track_hits _ (Or.inl (by decide))]))
    have hca : sumR (fun i => sI S2 q_Mast_came (el 0 i)) (sz 0) 0 0 = sumR (fun i => sI S q_Mast_came (el 0 i)) (sz 0) 0 0 + 1 := (sumR_cg (sz 0) 0 0 (fun i _ hi => tO _ (hne i (by omega)) _)).trans hc
    refine ⟨?_, ?_⟩
    · rw [sum_ch (sz 0) (fun i hi => hC.2.1 q_Mast_made (by decide) _ (h1.ob (j := 0) (by decide) hi).1), hca, a1, ← nI_1]
      grind
    · rw [hca, hht, hC.2.1 q_Tally_plotsWithoutTrack (by decide) _ h1.ta_ob.1, a2]
      grind
/-- a plot has come and there is no room for a track -/
theorem IV_without {e9 : Nat × Nat} {x lo ta M cnts pw ow dn k : Nat} {told : Int32} {la : Nat → Nat} {S : wPS} {el : Nat → Nat → Nat} {sz cp : Nat → Nat} (h : IV e9 x lo ta la M cnts told S el sz cp pw (ow + 1) dn) (hk : k < sz 0) : IV e9 x lo ta la M cnts told (putI (putI S q_Mast_came (el 0 k) (sI S q_Mast_came (el 0 k) + 1)) q_Tally_plotsWithoutTrack ta (sI (putI S q_Mast_came (el 0 k) (sI S q_Mast_came (el 0 k) + 1)) q_Tally_plotsWithoutTrack ta + 1)) el sz cp pw ow dn := by
  have hc := (IV_came h hk).2
  obtain ⟨h1, h2, h3, h4, h5, h6, h7, h8, h9, h10, h11, h12⟩ := h
  have hC : Ch [q_Mast_came, q_Tally_plotsWithoutTrack] [] S (putI (putI S q_Mast_came (el 0 k) (sI S q_Mast_came (el 0 k) + 1)) q_Tally_plotsWithoutTrack ta (sI (putI S q_Mast_came (el 0 k) (sI S q_Mast_came (el 0 k) + 1)) q_Tally_plotsWithoutTrack ta + 1)) := ch_I' (ch_I (by decide)) (by decide)
  have hW : Kw S (putI (putI S q_Mast_came (el 0 k) (sI S q_Mast_came (el 0 k) + 1)) q_Tally_plotsWithoutTrack ta (sI (putI S q_Mast_came (el 0 k) (sI S q_Mast_came (el 0 k) + 1)) q_Tally_plotsWithoutTrack ta + 1)) := fun _ _ => ⟨rfl, rfl⟩
  refine ⟨h1.ch hC hW (by decide) (fun c hc => absurd hc List.not_mem_nil), h2.ch h1 hC (by decide), h3.ch h1 hC (by decide) (by decide), h4.ch h1 hC (by decide), h5.ch h1 hC (by decide), h6.ch h12 h1 hC (by decide) (by decide), h7.ch h1 hC (by decide), ?_, h9.ch h1 hC (by decide), h10.ch h1 hC (by decide), h11.ch h1 hC (by decide), h12⟩
  obtain ⟨a1, a2⟩ := h8
  have hca : sumR (fun i => sI (putI (putI S q_Mast_came (el 0 k) (sI S q_Mast_came (el 0 k) + 1)) q_Tally_plotsWithoutTrack ta (sI (putI S q_Mast_came (el 0 k) (sI S q_Mast_came (el 0 k) + 1)) q_Tally_plotsWithoutTrack ta + 1)) q_Mast_came (el 0 i)) (sz 0) 0 0 = sumR (fun i => sI S q_Mast_came (el 0 i)) (sz 0) 0 0 + 1 := (sumR_cg (sz 0) 0 0 (fun i _ _ => putI_col _ _ (Or.inl (by decide)))).trans hc
  refine ⟨?_, ?_⟩
  · rw [sum_ch (sz 0) (fun i hi => hC.2.1 q_Mast_made (by decide) _ (h1.ob (j := 0) (by decide) hi).1), hca, a1, ← nI_1]
    grind
  · rw [hca, sum_ch (sz 7) (fun i hi => hC.2.1 q_Track_hits (by decide) _ (h1.ob (j := 7) (by decide) hi).1), putI_at, putI_col q_Tally_plotsWithoutTrack _ (Or.inl (by decide)), a2]
    grind

