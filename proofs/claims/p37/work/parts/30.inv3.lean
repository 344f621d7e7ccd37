theorem ch_I' {cs rs : List Nat} {S X : wPS} {c a : Nat} {v : Int32} (h : Ch cs rs S X) (hc : c ∈ cs) : Ch cs rs S (putI X c a v) := h.trans (ch_I hc)
theorem ch_R' {cs rs : List Nat} {S X : wPS} {c a : Nat} {v : Option Nat} (h : Ch cs rs S X) (hc : c ∈ rs) : Ch cs rs S (putR X c a v) := h.trans (ch_R hc)
theorem moveF_ch {S : wPS} {f : Nat} : Ch [q_Flight_x, q_Flight_y, q_Flight_isUp] [] S (moveF S f) ∧ Kw S (moveF S f) := by
  unfold moveF
  by_cases h1 : sI S q_Flight_isUp f = 0
  · rw [if_pos h1]; exact ⟨Ch.refl S, Kw.refl S⟩
  · rw [if_neg h1]
    by_cases h2 : isPlaceB (sI S q_Flight_x f + sI S q_Flight_courseX f) (sI S q_Flight_y f + sI S q_Flight_courseY f) = true
    · rw [if_pos h2]; exact ⟨ch_I' (ch_I (by decide)) (by decide), fun b hb => ⟨rfl, rfl⟩⟩
    · rw [if_neg h2]; exact ⟨ch_I (by decide), fun b hb => ⟨rfl, rfl⟩⟩
theorem loseF_ch {S : wPS} {f : Nat} {m : Int32} : Ch [q_Flight_count, q_Flight_isUp] [] S (loseF S f m) ∧ Kw S (loseF S f m) := by
  unfold loseF
  by_cases h1 : 0 < sI S q_Flight_count f - m
  · rw [if_pos h1]; exact ⟨ch_I (by decide), fun b hb => ⟨rfl, rfl⟩⟩
  · rw [if_neg h1]; exact ⟨ch_I' (ch_I (by decide)) (by decide), fun b hb => ⟨rfl, rfl⟩⟩
theorem drawF_ch {S : wPS} {l : Nat} : Ch [q_Lots_next, q_Lots_drawn] [] S (drawF S l) ∧ Kw S (drawF S l) := by
  unfold drawF
  exact ⟨ch_I' (ch_I (by decide)) (by decide), fun b hb => ⟨rfl, rfl⟩⟩
theorem goF_ch {S : wPS} {q : Nat} {tx ty : Int32} : Ch [q_Squadron_x, q_Squadron_y] [] S (goF S q tx ty) ∧ Kw S (goF S q tx ty) := by
  unfold goF
  by_cases h1 : withinB (sI S q_Squadron_x q) (sI S q_Squadron_y q) (sI S q_Squadron_speed q) tx ty = true
  · rw [if_pos h1]; exact ⟨ch_I' (ch_I (by decide)) (by decide), fun b hb => ⟨rfl, rfl⟩⟩
  · rw [if_neg h1]; exact ⟨ch_I' (ch_I (by decide)) (by decide), fun b hb => ⟨rfl, rfl⟩⟩
theorem IV_minute {e9 : Nat × Nat} {x lo ta M cnts pw ow dn : Nat} {told : Int32} {la : Nat → Nat} {S : wPS} {el : Nat → Nat → Nat} {sz cp : Nat → Nat} (h : IV e9 x lo ta la M cnts told S el sz cp pw ow dn) : IV e9 x lo ta la (M + 1) cnts told (putI S q_Room_minute x (sI S q_Room_minute x + 1)) el sz cp pw ow dn := by
  obtain ⟨h1, h2, h3, h4, h5, h6, h7, h8, h9, h10, h11, h12⟩ := h
  have hC : Ch [q_Room_minute] [] S (putI S q_Room_minute x (sI S q_Room_minute x + 1)) := ch_I (by decide)
  have hW : Kw S (putI S q_Room_minute x (sI S q_Room_minute x + 1)) := kw_I
  refine ⟨h1.ch hC hW (by decide) (fun c hc => absurd hc List.not_mem_nil), h2.ch h1 hC (by decide), h3.ch h1 hC (by decide) (by decide), h4.ch h1 hC (by decide), h5.ch h1 hC (by decide), h6.ch h12 h1 hC (by decide) (by decide), ?_, h8.ch h1 hC (by decide), h9.ch h1 hC (by decide), h10.ch h1 hC (by decide), h11.ch h1 hC (by decide), h12⟩
  obtain ⟨a1, a2, a3, a4, a5⟩ := h7
  exact ⟨putI_at.trans (by rw [a1]; exact nI_1 M), (putI_col _ _ (Or.inl (by decide))).trans a2, by rw [putI_col q_Lots_next lo (Or.inl (by decide))]; exact a3, (putI_col _ _ (Or.inl (by decide))).trans a4, (putI_col _ _ (Or.inl (by decide))).trans a5⟩
theorem moveF_other {S : wPS} {f b : Nat} (c : Nat) (hb : b ≠ f) : sI (moveF S f) c b = sI S c b := by
  unfold moveF
  by_cases h1 : sI S q_Flight_isUp f = 0
  · rw [if_pos h1]
  · rw [if_neg h1]
    by_cases h2 : isPlaceB (sI S q_Flight_x f + sI S q_Flight_courseX f) (sI S q_Flight_y f + sI S q_Flight_courseY f) = true
    · rw [if_pos h2]; exact (putI_col _ _ (Or.inr hb)).trans (putI_col _ _ (Or.inr hb))
    · rw [if_neg h2]; exact putI_col _ _ (Or.inr hb)
theorem moveF_fl {S : wPS} {f : Nat} (h : flI S f) : flI (moveF S f) f := by
  obtain ⟨a1, a2⟩ := h
  unfold moveF
  by_cases h1 : sI S q_Flight_isUp f = 0
  · rw [if_pos h1]; exact ⟨a1, a2⟩
  · rw [if_neg h1]
    by_cases h2 : isPlaceB (sI S q_Flight_x f + sI S q_Flight_courseX f) (sI S q_Flight_y f + sI S q_Flight_courseY f) = true
    · rw [if_pos h2]
      unfold flI
      rw [putI_at, putI_col q_Flight_x f (Or.inl (by decide)), putI_at, putI_col q_Flight_isUp f (Or.inl (by decide)), putI_col q_Flight_isUp f (Or.inl (by decide)), putI_col q_Flight_count f (Or.inl (by decide)), putI_col q_Flight_count f (Or.inl (by decide))]
      exact ⟨h2, a2⟩
    · rw [if_neg h2]
      unfold flI
      rw [putI_col q_Flight_x f (Or.inl (by decide)), putI_col q_Flight_y f (Or.inl (by decide)), putI_at]
      exact ⟨a1, Or.inl rfl⟩
theorem IV_move {e9 : Nat × Nat} {x lo ta M cnts pw ow dn i : Nat} {told : Int32} {la : Nat → Nat} {S : wPS} {el : Nat → Nat → Nat} {sz cp : Nat → Nat} (h : IV e9 x lo ta la M cnts told S el sz cp pw ow dn) (hi : i < sz 5) : IV e9 x lo ta la M cnts told (moveF S (el 5 i)) el sz cp pw ow dn := by
  obtain ⟨h1, h2, h3, h4, h5, h6, h7, h8, h9, h10, h11, h12⟩ := h
  obtain ⟨hC, hW⟩ := moveF_ch (S := S) (f := el 5 i)
  refine ⟨h1.ch hC hW (by decide) (fun c hc => absurd hc List.not_mem_nil), fun k hk => ?_, h3.ch h1 hC (by decide) (by decide), h4.ch h1 hC (by decide), h5.ch h1 hC (by decide), h6.ch h12 h1 hC (by decide) (by decide), h7.ch h1 hC (by decide), h8.ch h1 hC (by decide), h9.ch h1 hC (by decide), h10.ch h1 hC (by decide), h11.ch h1 hC (by decide), h12⟩
  by_cases hk2 : el 5 k = el 5 i
  · rw [hk2]; exact moveF_fl (h2 i hi)
  · have h9 := h2 k hk
    unfold flI at h9 ⊢
    rw [moveF_other _ hk2, moveF_other _ hk2, moveF_other _ hk2, moveF_other _ hk2]
    exact h9
theorem draw_all : ((List.range 241).all fun t => decide (53 * nI t + 29 - (53 * nI t + 29) / 241 * 241 = nI ((53 * t + 29) % 241))) = true := by decide +kernel
theorem IV_draw {e9 : Nat × Nat} {x lo ta M cnts pw ow dn : Nat} {told : Int32} {la : Nat → Nat} {S : wPS} {el : Nat → Nat → Nat} {sz cp : Nat → Nat} (h : IV e9 x lo ta la M cnts told S el sz cp pw ow dn) : IV e9 x lo ta la M cnts told (drawF S lo) el sz cp pw ow (dn + 1) ∧ ∃ t : Nat, t ≤ 240 ∧ drawFR S lo = nI t := by
  obtain ⟨h1, h2, h3, h4, h5, h6, h7, h8, h9, h10, h11, h12⟩ := h
  obtain ⟨hC, hW⟩ := drawF_ch (S := S) (l := lo)
  obtain ⟨a1, a2, ⟨t, a3, a3'⟩, a4, a5⟩ := h7
  refine ⟨⟨h1.ch hC hW (by decide) (fun c hc => absurd hc List.not_mem_nil), h2.ch h1 hC (by decide), h3.ch h1 hC (by decide) (by decide), h4.ch h1 hC (by decide), h5.ch h1 hC (by decide), h6.ch h12 h1 hC (by decide) (by decide), ?_, h8.ch h1 hC (by decide), h9.ch h1 hC (by decide), h10.ch h1 hC (by decide), h11.ch h1 hC (by decide), h12⟩, t, a3, a3'⟩
  refine ⟨(hC.2.1 q_Room_minute (by decide) _ h1.1.1).trans a1, (hC.2.1 q_Room_plotsOnWay (by decide) _ h1.1.1).trans a2, ⟨(53 * t + 29) % 241, by omega, ?_⟩, ?_, (hC.2.1 q_Tally_refused (by decide) _ h1.ta_ob.1).trans a5⟩
  · unfold drawF
    rw [putI_col q_Lots_next lo (Or.inl (by decide)), putI_at, a3']
    exact of_decide_eq_true (List.all_eq_true.mp draw_all t (List.mem_range.mpr (by omega)))
  · unfold drawF
    rw [putI_at, putI_col q_Lots_drawn lo (Or.inl (by decide)), a4]
    exact nI_1 dn
/-- a squadron's own step -/
def SqS (q ta : Nat) (S S1 : wPS) : Prop := Ch [q_Squadron_state, q_Squadron_due, q_Squadron_fuel, q_Squadron_x, q_Squadron_y, q_Squadron_machines, q_Tally_machinesLost] [q_Squadron_target] S S1 ∧ Kw S S1 ∧ (∀ b : Nat, b ∈ sL S → b ≠ q → (∀ c : Nat, c ≠ q_Tally_machinesLost → sI S1 c b = sI S c b) ∧ ∀ c : Nat, sR S1 c b = sR S c b) ∧ sI S1 q_Squadron_machines q + sI S1 q_Tally_machinesLost ta = sI S q_Squadron_machines q + sI S q_Tally_machinesLost ta
theorem SqS.refl {q ta : Nat} (S : wPS) : SqS q ta S S := ⟨Ch.refl S, Kw.refl S, fun _ _ _ => ⟨fun _ _ => rfl, fun _ => rfl⟩, rfl⟩
theorem SqS.trans {q ta : Nat} {S S1 S2 : wPS} (h1 : SqS q ta S S1) (h2 : SqS q ta S1 S2) : SqS q ta S S2 := ⟨h1.1.trans h2.1, Kw.trans h1.1 h1.2.1 h2.2.1, fun b hb hn => ⟨fun c hc => ((h2.2.2.1 b (h1.1.1 b hb).1 hn).1 c hc).trans ((h1.2.2.1 b hb hn).1 c hc), fun c => ((h2.2.2.1 b (h1.1.1 b hb).1 hn).2 c).trans ((h1.2.2.1 b hb hn).2 c)⟩, h2.2.2.2.trans h1.2.2.2⟩
theorem SqS.i {q ta : Nat} {S : wPS} {c : Nat} {v : Int32} (hc : c ∈ [q_Squadron_state, q_Squadron_due, q_Squadron_fuel, q_Squadron_x, q_Squadron_y]) : SqS q ta S (putI S c q v) := by
  have hm : c ≠ q_Squadron_machines ∧ c ≠ q_Tally_machinesLost := by
    simp only [List.mem_cons, List.not_mem_nil, or_false] at hc
    rcases hc with rfl | rfl | rfl | rfl | rfl <;> exact ⟨by decide, by decide⟩
  refine ⟨ch_I ?_, kw_I, fun b _ hn => ⟨fun c2 _ => putI_col c2 b (Or.inr hn), fun _ => rfl⟩, ?_⟩
  · simp only [List.mem_cons, List.not_mem_nil, or_false] at hc ⊢
    rcases hc with rfl | rfl | rfl | rfl | rfl <;> simp
  · rw [putI_col q_Squadron_machines q (Or.inl (fun z => hm.1 z.symm)), putI_col q_Tally_machinesLost ta (Or.inl (fun z => hm.2 z.symm))]
theorem SqS.r {q ta : Nat} {S : wPS} {v : Option Nat} : SqS q ta S (putR S q_Squadron_target q v) := ⟨ch_R (by decide), kw_R, fun b _ hn => ⟨fun _ _ => rfl, fun c2 => putR_col c2 b (Or.inr hn)⟩, rfl⟩
theorem SqS.lm {q ta : Nat} {S : wPS} {l : Int32} : SqS q ta S (putI (putI S q_Squadron_machines q (sI S q_Squadron_machines q - l)) q_Tally_machinesLost ta (sI S q_Tally_machinesLost ta + l)) := by
  refine ⟨ch_I' (ch_I (by decide)) (by decide), fun _ _ => ⟨rfl, rfl⟩, fun b _ hn => ⟨fun c2 hc => (putI_col c2 b (Or.inl hc)).trans (putI_col c2 b (Or.inr hn)), fun _ => rfl⟩, ?_⟩
  rw [putI_at, putI_col q_Squadron_machines q (Or.inl (by decide)), putI_at]
  grind
theorem SqS.go {q ta : Nat} {S : wPS} {tx ty : Int32} : SqS q ta S (goF S q tx ty) := by
  unfold goF
  by_cases h1 : withinB (sI S q_Squadron_x q) (sI S q_Squadron_y q) (sI S q_Squadron_speed q) tx ty = true
  · rw [if_pos h1]; exact (SqS.i (by decide)).trans (SqS.i (by decide))
  · rw [if_neg h1]; exact (SqS.i (by decide)).trans (SqS.i (by decide))
theorem SqS.up {q ta : Nat} {S : wPS} : SqS q ta S (comeUpF S q) := (SqS.i (by decide)).trans (SqS.i (by decide))
theorem SqS.hh {q ta : Nat} {S : wPS} : SqS q ta S (headHomeF S q) := (SqS.i (by decide)).trans SqS.r
theorem SqS.rest {q ta b : Nat} {S : wPS} {gs du : Int32} : SqS q ta S (restF S q gs du b) := (SqS.i (by decide)).trans ((SqS.i (by decide)).trans (SqS.r.trans ((SqS.i (by decide)).trans ((SqS.i (by decide)).trans (SqS.i (by decide))))))
theorem IV_sq {e9 : Nat × Nat} {x lo ta M cnts pw ow dn i : Nat} {told : Int32} {la : Nat → Nat} {S S1 : wPS} {el : Nat → Nat → Nat} {sz cp : Nat → Nat} (h : IV e9 x lo ta la M cnts told S el sz cp pw ow dn) (hi : i < sz 2) (hs : SqS (el 2 i) ta S S1) (hq : sqI S1 (el 2 i)) (ht : talkB S1 (el 2 i) = true → talkB S (el 2 i) = true) : IV e9 x lo ta la M cnts told S1 el sz cp pw ow dn := by
  obtain ⟨h1, h2, h3, h4, h5, h6, h7, h8, h9, h10, h11, h12⟩ := h
  obtain ⟨hC, hW, hO, hM⟩ := hs
  refine ⟨h1.ch hC hW (by decide) (by decide), h2.ch h1 hC (by decide), fun k hk => ?_, h4.ch h1 hC (by decide), h5.ch h1 hC (by decide), h6.ch h12 h1 hC (by decide) (by decide), h7.ch h1 hC (by decide), h8.ch h1 hC (by decide), h9.ch h1 hC (by decide), ?_, h11.mono (h1.ls (j := 2) (by decide)).1.2.2.1 (fun k hk hb => ?_), h12⟩
  · by_cases hki : el 2 k = el 2 i
    · rw [hki]; exact hq
    · have ho := (h1.ob (j := 2) (by decide) hk).1
      obtain ⟨e1, e2⟩ := hO _ ho hki
      obtain ⟨a1, a2, a3, a4, a5, ⟨b, a6, a7, a8⟩, a9⟩ := h3 k hk
      unfold sqI
      rw [e1 _ (by decide), e1 _ (by decide), e1 _ (by decide), e1 _ (by decide), e1 _ (by decide), e1 _ (by decide), e1 _ (by decide), e2, e2]
      refine ⟨a1, a2, a3, a4, a5, ⟨b, a6, hC.o a7, ?_⟩, ?_⟩
      · rw [hC.2.1 q_Place_x (by decide) _ a7.1, hC.2.1 q_Place_y (by decide) _ a7.1]; exact a8
      · rcases a9 with a9 | ⟨t, a9, a10⟩
        · exact Or.inl a9
        · exact Or.inr ⟨t, a9, hC.o a10⟩
  · unfold SM3 at h10 ⊢
    have e := sumR_up (f := fun k => sI S q_Squadron_machines (el 2 k)) (g := fun k => sI S1 q_Squadron_machines (el 2 k)) (k0 := i) (v := sI S1 q_Squadron_machines (el 2 i) - sI S q_Squadron_machines (el 2 i)) (sz 2) 0 0 (Nat.zero_le i) (by omega) (fun k _ hk hne => (hO _ (h1.ob (j := 2) (by decide) (by omega)).1 (fun z => hne (h1.2.2.2.2.2.2.1 2 k i (by decide) (by omega) hi z))).1 _ (by decide)) (by show sI S1 q_Squadron_machines (el 2 i) = _ ; grind)
    rw [e]
    grind
  · by_cases hki : el 2 k = el 2 i
    · rw [hki] at hb ⊢; exact ht hb
    · have ho := (h1.ob (j := 2) (by decide) hk).1
      unfold talkB at hb ⊢
      rw [(hO _ ho hki).1 _ (by decide)] at hb
      exact hb

