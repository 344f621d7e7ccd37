theorem pl_b {u v : Int32} (h : isPlaceB u v = true) : ¬ u < 0 ∧ ¬ 199 < u ∧ ¬ v < 0 ∧ ¬ 199 < v := by
  obtain ⟨a, b, ha, hb, rfl, rfl⟩ := pl_nI h
  exact ⟨nI_pos (by omega), (show ¬ nI 199 < nI a from nI_nlt ha (by decide)), nI_pos (by omega), (show ¬ nI 199 < nI b from nI_nlt hb (by decide))⟩
theorem ag0 {S : wPS} {x t : Nat} (h : AG S x t) (c : ¬ sI S q_Room_minute x - sI S q_Track_minute t ≤ 6) : zb (!decide (sI S q_Track_isLive t = 0)) = 0 := by
  rcases h with h | h
  · rw [decide_eq_true h]; rfl
  · exact absurd (Int32.not_lt.mp h) c
theorem SM2.sums {S : wPS} {ta cnts : Nat} {el : Nat → Nat → Nat} {sz : Nat → Nat} (h : SM2 S ta el sz cnts) : ∃ L W cn : Nat, sumR (fun i => sI S q_Flight_count (el 5 i)) (sz 5) 0 0 = nI L ∧ countWonF S el sz = nI W ∧ sI S q_Tally_claims ta = nI cn ∧ L + W ≤ cnts ∧ W ≤ cn ∧ cn ≤ 2 * W := by
  obtain ⟨cf, wf, cn, h1, h2, h3, h4, h5, h6⟩ := h
  exact ⟨ns cf (sz 5), ns wf (sz 2), cn, sumR_ns (sz 5) h1, sumR_ns (sz 2) h2, h3, h4, h5, h6⟩
theorem sumR_zero {f : Nat → Int32} : ∀ (d i : Nat), (∀ k : Nat, i ≤ k → k < i + d → f k = 0) → sumR f d i 0 = 0
  | 0, _, _ => rfl
  | d + 1, i, h => by
    show sumR f d (i + 1) (0 + f i) = 0
    rw [h i (Nat.le_refl i) (by omega), Int32.add_zero]
    exact sumR_zero d (i + 1) (fun k h1 h2 => h k (by omega) (by omega))
theorem up_le {S : wPS} {el : Nat → Nat → Nat} {sz : Nat → Nat} (hz : sz 5 ≤ 100000) : ¬ countUpF S el sz 0 < countUpF S el sz 1 := by
  obtain ⟨c1, c2, a1, a2, a3, a4⟩ := cntR_mono (p := fun i => upB S 1 (el 5 i)) (q := fun i => upB S 0 (el 5 i)) (sz 5) 0 0 0 (Nat.le_refl 0) (fun k _ _ hk => by
    unfold upB at hk ⊢
    rw [Bool.and_eq_true_iff] at hk ⊢
    exact ⟨hk.1, by rw [Bool.or_eq_true_iff]; exact Or.inr (by decide)⟩)
  have e1 : countUpF S el sz 1 = nI c1 := a3
  have e0 : countUpF S el sz 0 = nI c2 := a4
  rw [e0, e1]
  exact nI_nlt a1 (by omega)
theorem cntR_two {p q r : Nat → Bool} : ∀ (d i : Nat) (a b c : Nat), a + b ≤ c → (∀ k : Nat, i ≤ k → k < i + d → p k = true → q k = false ∧ r k = true) → (∀ k : Nat, i ≤ k → k < i + d → q k = true → r k = true) → ∃ a1 b1 c1 : Nat, a1 + b1 ≤ c1 ∧ c1 ≤ c + d ∧ cntR p d i (nI a) = nI a1 ∧ cntR q d i (nI b) = nI b1 ∧ cntR r d i (nI c) = nI c1
  | 0, _, a, b, c, h, _, _ => ⟨a, b, c, h, Nat.le_refl c, rfl, rfl, rfl⟩
  | d + 1, i, a, b, c, h, hp, hq => by
    show ∃ a1 b1 c1 : Nat, a1 + b1 ≤ c1 ∧ c1 ≤ c + (d + 1) ∧ cntR p d (i + 1) (if p i = true then nI a + 1 else nI a) = nI a1 ∧ cntR q d (i + 1) (if q i = true then nI b + 1 else nI b) = nI b1 ∧ cntR r d (i + 1) (if r i = true then nI c + 1 else nI c) = nI c1
    have hp2 : ∀ k : Nat, i + 1 ≤ k → k < i + 1 + d → p k = true → q k = false ∧ r k = true := fun k a1 a2 => hp k (by omega) (by omega)
    have hq2 : ∀ k : Nat, i + 1 ≤ k → k < i + 1 + d → q k = true → r k = true := fun k a1 a2 => hq k (by omega) (by omega)
    by_cases h1 : p i = true
    · obtain ⟨h2, h3⟩ := hp i (Nat.le_refl i) (by omega) h1
      rw [if_pos h1, if_neg (by rw [h2]; decide), if_pos h3, nI_1, nI_1]
      obtain ⟨a1, b1, c1, e1, e2, e3⟩ := cntR_two d (i + 1) (a + 1) b (c + 1) (by omega) hp2 hq2
      exact ⟨a1, b1, c1, e1, by omega, e3⟩
    · rw [if_neg h1]
      by_cases h2 : q i = true
      · rw [if_pos h2, if_pos (hq i (Nat.le_refl i) (by omega) h2), nI_1, nI_1]
        obtain ⟨a1, b1, c1, e1, e2, e3⟩ := cntR_two d (i + 1) a (b + 1) (c + 1) (by omega) hp2 hq2
        exact ⟨a1, b1, c1, e1, by omega, e3⟩
      · rw [if_neg h2]
        by_cases h3 : r i = true
        · rw [if_pos h3, nI_1]
          obtain ⟨a1, b1, c1, e1, e2, e3⟩ := cntR_two d (i + 1) a b (c + 1) (by omega) hp2 hq2
          exact ⟨a1, b1, c1, e1, by omega, e3⟩
        · rw [if_neg h3]
          obtain ⟨a1, b1, c1, e1, e2, e3⟩ := cntR_two d (i + 1) a b c h hp2 hq2
          exact ⟨a1, b1, c1, e1, by omega, e3⟩
theorem kinds_le {S : wPS} {el : Nat → Nat → Nat} {sz : Nat → Nat} (hz : sz 7 ≤ 100000) : ¬ countLiveF S el sz < countKindF S el sz 0 + countKindF S el sz 2 := by
  obtain ⟨a1, b1, c1, e1, e2, e3, e4, e5⟩ := cntR_two (p := fun i => liveB S (el 7 i) && decide (kindF S el sz (el 7 i) = 0)) (q := fun i => liveB S (el 7 i) && decide (kindF S el sz (el 7 i) = 2)) (r := fun i => liveB S (el 7 i)) (sz 7) 0 0 0 0 (Nat.le_refl 0)
    (fun k _ _ hk => by
      obtain ⟨h1, h2⟩ := Bool.and_eq_true_iff.mp hk
      have h3 : kindF S el sz (el 7 k) = 0 := of_decide_eq_true h2
      refine ⟨?_, h1⟩
      show (liveB S (el 7 k) && decide (kindF S el sz (el 7 k) = 2)) = false
      rw [h3, Bool.and_eq_false_iff]; exact Or.inr (by decide))
    (fun k _ _ hk => (Bool.and_eq_true_iff.mp hk).1)
  have f1 : countKindF S el sz 0 = nI a1 := e3
  have f2 : countKindF S el sz 2 = nI b1 := e4
  have f3 : countLiveF S el sz = nI c1 := e5
  rw [f1, f2, f3, nI_add]
  exact nI_nlt e1 (by omega)
theorem talks_le {S : wPS} {el : Nat → Nat → Nat} {sz : Nat → Nat} (h : SM4 S el sz) : ¬ 3 < countTalksF S el sz := by
  obtain ⟨tk, h1, h2⟩ := h
  rw [h2]
  exact (show ¬ nI 3 < nI tk from nI_nlt h1 (by decide))

