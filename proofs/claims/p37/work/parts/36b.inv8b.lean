def TQ (S : wPS) (t : Nat) (u v h : Int32) (Sz : wPS) : Prop := Ch [q_Track_courseX, q_Track_courseY, q_Track_hasCourse, q_Track_x, q_Track_y, q_Track_minute, q_Track_guess, q_Track_hits] [] S Sz ∧ Kw S Sz ∧ (∀ b : Nat, b ≠ t → ∀ c : Nat, sI Sz c b = sI S c b) ∧ sI Sz q_Track_x t = u ∧ sI Sz q_Track_y t = v ∧ sI Sz q_Track_hits t = h
theorem TQ.refl {S : wPS} {t : Nat} : TQ S t (sI S q_Track_x t) (sI S q_Track_y t) (sI S q_Track_hits t) S := ⟨Ch.refl S, Kw.refl S, fun _ _ _ => rfl, rfl, rfl, rfl⟩
theorem TQ.put {S Sz : wPS} {t c : Nat} {u v h w : Int32} (H : TQ S t u v h Sz) (hc : c ∈ [q_Track_courseX, q_Track_courseY, q_Track_hasCourse, q_Track_minute, q_Track_guess]) : TQ S t u v h (putI Sz c t w) := by
  obtain ⟨h1, h2, h3, h4, h5, h6⟩ := H
  have hm : c ∈ [q_Track_courseX, q_Track_courseY, q_Track_hasCourse, q_Track_x, q_Track_y, q_Track_minute, q_Track_guess, q_Track_hits] := by
    rcases List.mem_cons.mp hc with rfl | hc; · decide
    rcases List.mem_cons.mp hc with rfl | hc; · decide
    rcases List.mem_cons.mp hc with rfl | hc; · decide
    rcases List.mem_cons.mp hc with rfl | hc; · decide
    rcases List.mem_cons.mp hc with rfl | hc; · decide
    exact absurd hc List.not_mem_nil
  have hx : ∀ q : Nat, q ∉ [q_Track_courseX, q_Track_courseY, q_Track_hasCourse, q_Track_minute, q_Track_guess] → q ≠ c := fun q hq z => hq (z ▸ hc)
  exact ⟨ch_I' h1 hm, h2, fun b hb c2 => (putI_col c2 b (Or.inr hb)).trans (h3 b hb c2), (putI_col _ t (Or.inl (hx _ (by decide)))).trans h4, (putI_col _ t (Or.inl (hx _ (by decide)))).trans h5, (putI_col _ t (Or.inl (hx _ (by decide)))).trans h6⟩
theorem TQ.px {S Sz : wPS} {t : Nat} {u v h w : Int32} (H : TQ S t u v h Sz) : TQ S t w v h (putI Sz q_Track_x t w) := by
  obtain ⟨h1, h2, h3, h4, h5, h6⟩ := H
  exact ⟨ch_I' h1 (by decide), h2, fun b hb c2 => (putI_col c2 b (Or.inr hb)).trans (h3 b hb c2), putI_at, (putI_col _ t (Or.inl (by decide))).trans h5, (putI_col _ t (Or.inl (by decide))).trans h6⟩
theorem TQ.py {S Sz : wPS} {t : Nat} {u v h w : Int32} (H : TQ S t u v h Sz) : TQ S t u w h (putI Sz q_Track_y t w) := by
  obtain ⟨h1, h2, h3, h4, h5, h6⟩ := H
  exact ⟨ch_I' h1 (by decide), h2, fun b hb c2 => (putI_col c2 b (Or.inr hb)).trans (h3 b hb c2), (putI_col _ t (Or.inl (by decide))).trans h4, putI_at, (putI_col _ t (Or.inl (by decide))).trans h6⟩
theorem TQ.ph {S Sz : wPS} {t : Nat} {u v h w : Int32} (H : TQ S t u v h Sz) : TQ S t u v w (putI Sz q_Track_hits t w) := by
  obtain ⟨h1, h2, h3, h4, h5, h6⟩ := H
  exact ⟨ch_I' h1 (by decide), h2, fun b hb c2 => (putI_col c2 b (Or.inr hb)).trans (h3 b hb c2), (putI_col _ t (Or.inl (by decide))).trans h4, (putI_col _ t (Or.inl (by decide))).trans h5, putI_at⟩
theorem TQ.tk {S Sz : wPS} {t p : Nat} {u v h : Int32} (H : TQ S t u v h Sz) (h1 : isPlaceB (sI S q_Track_x t) (sI S q_Track_y t) = true → isPlaceB (sI S q_Plot_x p) (sI S q_Plot_y p) = true → isPlaceB u v = true) (h2 : h = sI S q_Track_hits t + 1) : TK S t p Sz := by
  obtain ⟨a1, a2, a3, a4, a5, a6⟩ := H
  exact ⟨a1, a2, a3, fun z1 z2 => by rw [a4, a5]; exact h1 z1 z2, a6.trans h2⟩
