/-- a room in the making: its first n lists -/
def RI (e9 : Nat × Nat) (x : Nat) (la : Nat → Nat) (n : Nat) (S : wPS) : Prop := (x ∈ sL S ∧ sK S x = 10) ∧ (∀ j : Nat, j < n → sR S (q_Room_masts + j) x = some (la j) ∧ (la j ∈ sL S ∧ sK S (la j) = 11) ∧ sI S q_List_size (la j) = 0 ∧ sR S q_List_elementData (la j) = some e9.1) ∧ (∀ j k : Nat, j < n → k < n → la j = la k → j = k) ∧ sI S q_Room_minute x = 0 ∧ sI S q_Room_plotsOnWay x = 0
theorem RI.ch {e9 : Nat × Nat} {x n : Nat} {la : Nat → Nat} {S S1 : wPS} {cs rs : List Nat} (h : RI e9 x la n S) (hC : Ch cs rs S S1) (h1 : Nc [q_List_size, q_Room_minute, q_Room_plotsOnWay] cs) (h2 : ∀ c : Nat, c ∈ rs → q_Room_masts + n ≤ c ∧ c ≠ q_List_elementData) : RI e9 x la n S1 := by
  obtain ⟨a1, a2, a3, a4, a5⟩ := h
  refine ⟨hC.o a1, fun j hj => ?_, a3, (hC.2.1 _ (h1.n (by decide)) x a1.1).trans a4, (hC.2.1 _ (h1.n (by decide)) x a1.1).trans a5⟩
  obtain ⟨b1, b2, b3, b4⟩ := a2 j hj
  exact ⟨(hC.2.2 _ (fun z => absurd (h2 _ z).1 (by omega)) x a1.1).trans b1, hC.o b2, (hC.2.1 _ (h1.n (by decide)) _ b2.1).trans b3, (hC.2.2 _ (fun z => absurd rfl (h2 _ z).2) _ b2.1).trans b4⟩
theorem initList_ch {e9 : Nat × Nat} {S : wPS} {a : Nat} (fa : a ∉ sL S) : Ch [] [] S (initList (newS S a 11 0) e9 a) := by
  unfold initList initAL initAC
  exact ch_Rn (ch_In (ch_new fa) fa) fa
theorem RI.step {e9 : Nat × Nat} {x n a : Nat} {la : Nat → Nat} {S : wPS} (h : RI e9 x la n S) (fa : a ∉ sL S) (hn : n < 9) : RI e9 x (va_up la n a) (n + 1) (putR (initList (newS S a 11 0) e9 a) (q_Room_masts + n) x (some a)) := by
  have h1 := h.ch (initList_ch (e9 := e9) fa) (by decide) (fun c hc => absurd hc List.not_mem_nil)
  have ha : a ∈ sL (initList (newS S a 11 0) e9 a) ∧ sK (initList (newS S a 11 0) e9 a) a = 11 := nw_at (n := 0) fa
  have hax : x ≠ a := fun z => fa (z ▸ h.1.1)
  have hsz : sI (initList (newS S a 11 0) e9 a) q_List_size a = 0 := (putI_col (S := newS S a 11 0) (c := q_List_modCount) (a := a) (v := 0) q_List_size a (Or.inl (by decide))).trans (if_pos rfl)
  have hed : sR (initList (newS S a 11 0) e9 a) q_List_elementData a = some e9.1 := putR_at (S := putI (newS S a 11 0) q_List_modCount a 0) (c := q_List_elementData) (a := a) (v := some e9.1)
  obtain ⟨S1, hS1⟩ : ∃ z : wPS, z = initList (newS S a 11 0) e9 a := ⟨_, rfl⟩
  rw [← hS1] at h1 ha hsz hed ⊢
  obtain ⟨a1, a2, a3, a4, a5⟩ := h1
  have hne : ∀ j : Nat, j < n → la j ≠ a := fun j hj z => fa (z ▸ (h.2.1 j hj).2.1.1)
  refine ⟨a1, fun j hj => ?_, ?_, a4, a5⟩
  · by_cases hjn : j = n
    · subst hjn
      rw [show va_up la j a j = a from if_pos rfl]
      exact ⟨putR_at, ha, hsz, (putR_col q_List_elementData a (Or.inr (fun z => hax z.symm))).trans hed⟩
    · rw [show va_up la n a j = la j from if_neg hjn]
      obtain ⟨b1, b2, b3, b4⟩ := a2 j (by omega)
      exact ⟨(putR_col _ x (Or.inl (by omega))).trans b1, b2, b3, (putR_col q_List_elementData (la j) (Or.inr (fun z => by have e1 := b2.2; rw [z, a1.2] at e1; exact absurd e1 (by decide)))).trans b4⟩
  · intro j k hj hk hjk
    by_cases hjn : j = n
    · by_cases hkn : k = n
      · rw [hjn, hkn]
      · rw [show va_up la n a j = a from if_pos hjn, show va_up la n a k = la k from if_neg hkn] at hjk
        exact absurd hjk.symm (hne k (by omega))
    · by_cases hkn : k = n
      · rw [show va_up la n a k = a from if_pos hkn, show va_up la n a j = la j from if_neg hjn] at hjk
        exact absurd hjk (hne j (by omega))
      · rw [show va_up la n a k = la k from if_neg hkn, show va_up la n a j = la j from if_neg hjn] at hjk
        exact a3 j k (by omega) (by omega) hjk
def RIl (x lo : Nat) (S : wPS) : Prop := sR S q_Room_lots x = some lo ∧ (lo ∈ sL S ∧ sK S lo = 2) ∧ sI S q_Lots_next lo = 11 ∧ sI S q_Lots_drawn lo = 0
theorem RIl.ch {x lo : Nat} {S S1 : wPS} {cs rs : List Nat} (h : RIl x lo S) (hx : x ∈ sL S) (hC : Ch cs rs S S1) (h1 : Nc [q_Lots_next, q_Lots_drawn] cs) (h2 : Nc [q_Room_lots] rs) : RIl x lo S1 := by
  obtain ⟨a1, a2, a3, a4⟩ := h
  exact ⟨(hC.2.2 _ (h2.n (by decide)) x hx).trans a1, hC.o a2, (hC.2.1 _ (h1.n (by decide)) _ a2.1).trans a3, (hC.2.1 _ (h1.n (by decide)) _ a2.1).trans a4⟩
theorem RI.lots {e9 : Nat × Nat} {x a : Nat} {la : Nat → Nat} {S : wPS} (h : RI e9 x la 9 S) (fa : a ∉ sL S) : RI e9 x la 9 (putR (initLots (newS S a 2 0) a) q_Room_lots x (some a)) ∧ RIl x a (putR (initLots (newS S a 2 0) a) q_Room_lots x (some a)) := by
  have hC : Ch [] [q_Room_lots] S (putR (initLots (newS S a 2 0) a) q_Room_lots x (some a)) := ch_R' (by unfold initLots; exact ch_In (ch_new fa) fa) (by decide)
  refine ⟨h.ch hC (by decide) (by decide), putR_at, nw_at (n := 0) fa, putI_at (S := newS S a 2 0) (c := q_Lots_next) (a := a) (v := 11), ?_⟩
  exact (putI_col (S := newS S a 2 0) (c := q_Lots_next) (a := a) (v := 11) q_Lots_drawn a (Or.inl (by decide))).trans (if_pos rfl)
def RIt (x ta : Nat) (S : wPS) : Prop := sR S q_Room_tally x = some ta ∧ (ta ∈ sL S ∧ sK S ta = 7) ∧ sI S q_Tally_refused ta = 0 ∧ sI S q_Tally_plotsWithoutTrack ta = 0 ∧ sI S q_Tally_claims ta = 0 ∧ sI S q_Tally_machinesLost ta = 0
theorem RIt.ch {x ta : Nat} {S S1 : wPS} {cs rs : List Nat} (h : RIt x ta S) (hx : x ∈ sL S) (hC : Ch cs rs S S1) (h1 : Nc [q_Tally_refused, q_Tally_plotsWithoutTrack, q_Tally_claims, q_Tally_machinesLost] cs) (h2 : Nc [q_Room_tally] rs) : RIt x ta S1 := by
  obtain ⟨a1, a2, a3, a4, a5, a6⟩ := h
  exact ⟨(hC.2.2 _ (h2.n (by decide)) x hx).trans a1, hC.o a2, (hC.2.1 _ (h1.n (by decide)) _ a2.1).trans a3, (hC.2.1 _ (h1.n (by decide)) _ a2.1).trans a4, (hC.2.1 _ (h1.n (by decide)) _ a2.1).trans a5, (hC.2.1 _ (h1.n (by decide)) _ a2.1).trans a6⟩
theorem RI.tally {e9 : Nat × Nat} {x a lo : Nat} {la : Nat → Nat} {S : wPS} (h : RI e9 x la 9 S) (hl : RIl x lo S) (fa : a ∉ sL S) : RI e9 x la 9 (putR (initTally (newS S a 7 0) a) q_Room_tally x (some a)) ∧ RIl x lo (putR (initTally (newS S a 7 0) a) q_Room_tally x (some a)) ∧ RIt x a (putR (initTally (newS S a 7 0) a) q_Room_tally x (some a)) := by
  have hC : Ch [] [q_Room_tally] S (putR (initTally (newS S a 7 0) a) q_Room_tally x (some a)) := ch_R' (by unfold initTally; exact ch_new fa) (by decide)
  exact ⟨h.ch hC (by decide) (by decide), hl.ch h.1.1 hC (by decide) (by decide), putR_at, nw_at (n := 0) fa, if_pos rfl, if_pos rfl, if_pos rfl, if_pos rfl⟩
theorem RI.iv {e9 : Nat × Nat} {x lo ta : Nat} {la : Nat → Nat} {S : wPS} (h : RI e9 x la 9 S) (hl : RIl x lo S) (ht : RIt x ta S) : IV e9 x lo ta la 0 0 0 S (fun _ _ => 0) (fun _ => 0) (fun _ => 0) 0 0 0 := by
  obtain ⟨a1, a2, a3, a4, a5⟩ := h
  obtain ⟨l1, l2, l3, l4⟩ := hl
  obtain ⟨t1, t2, t3, t4, t5, t6⟩ := ht
  refine ⟨⟨a1, fun j hj => ⟨(a2 j hj).1, ⟨(a2 j hj).2.1, (a2 j hj).2.2.1.trans nI_0.symm, Nat.zero_le _, fun i hi => absurd hi (Nat.not_lt_zero i), fun i hi => absurd hi (Nat.not_lt_zero i)⟩, Nat.le_refl _, Nat.zero_le _, Or.inl ⟨rfl, (a2 j hj).2.2.2⟩⟩, ⟨l1, l2⟩, ⟨t1, t2⟩, a3, fun j k r hj hk hr e1 e2 => absurd (Option.some.inj (e1.symm.trans (a2 j hj).2.2.2)) hr, fun j i k hj hi => absurd hi (Nat.not_lt_zero i), rfl⟩, fun i hi => absurd hi (Nat.not_lt_zero i), fun i hi => absurd hi (Nat.not_lt_zero i), fun i hi => absurd hi (Nat.not_lt_zero i), fun i hi => absurd hi (Nat.not_lt_zero i), fun i hi => absurd hi (Nat.not_lt_zero i), ⟨a4.trans nI_0.symm, a5.trans nI_0.symm, ⟨11, by decide, l3⟩, l4.trans nI_0.symm, t3⟩, ⟨?_, ?_⟩, ⟨fun _ => 0, fun _ => 0, 0, fun i hi => absurd hi (Nat.not_lt_zero i), fun i hi => absurd hi (Nat.not_lt_zero i), t5.trans nI_0.symm, Nat.le_refl _, Nat.le_refl _, Nat.le_refl _⟩, ?_, ⟨0, by decide, nI_0.symm⟩, Nat.le_refl _⟩
  · show (0 : Int32) = 0 + nI 0
    decide
  · show (0 : Int32) = 0 + sI S q_Tally_plotsWithoutTrack ta
    rw [t4]; decide
  · show (0 : Int32) + sI S q_Tally_machinesLost ta = 0
    rw [t6]; decide

