/-- a track's age: it isn't live, or no more than six minutes old -/
def AG (S : wPS) (x t : Nat) : Prop := sI S q_Track_isLive t = 0 ∨ ¬ 6 < sI S q_Room_minute x - sI S q_Track_minute t
def AGA (S : wPS) (x : Nat) (el : Nat → Nat → Nat) (sz : Nat → Nat) : Prop := ∀ k : Nat, k < sz 7 → AG S x (el 7 k)
theorem AGA.ch {e9 : Nat × Nat} {x lo ta : Nat} {la : Nat → Nat} {S S1 : wPS} {el : Nat → Nat → Nat} {sz cp : Nat → Nat} {cs rs : List Nat} (h : AGA S x el sz) (hs : ST e9 x lo ta la S el sz cp) (hC : Ch cs rs S S1) (n : Nc [q_Track_isLive, q_Room_minute, q_Track_minute] cs) : AGA S1 x el sz := fun k hk => by
  have ho := (hs.ob (j := 7) (by decide) hk).1
  unfold AG
  rw [hC.2.1 q_Track_isLive (n.n (by decide)) _ ho, hC.2.1 q_Room_minute (n.n (by decide)) _ hs.1.1, hC.2.1 q_Track_minute (n.n (by decide)) _ ho]
  exact h k hk
theorem lt_skip {S : wPS} {x i k : Nat} {el : Nat → Nat → Nat} (hk : k < i + 1) (hA : ∀ k : Nat, k < i → AG S x (el 7 k)) (hc : ¬ 6 < sI S q_Room_minute x - sI S q_Track_minute (el 7 i)) : AG S x (el 7 k) := by
  by_cases h : k = i
  · rw [h]; exact Or.inr hc
  · exact hA k (by omega)
theorem lt_put {e9 : Nat × Nat} {x lo ta M cnts pw ow dn i k : Nat} {told : Int32} {la : Nat → Nat} {S : wPS} {el : Nat → Nat → Nat} {sz cp : Nat → Nat} (h : IV e9 x lo ta la M cnts told S el sz cp pw ow dn) (hi : i < sz 7) (hk : k < i + 1) (hA : ∀ k : Nat, k < i → AG S x (el 7 k)) : AG (putI S q_Track_isLive (el 7 i) 0) x (el 7 k) := by
  by_cases hki : k = i
  · rw [hki]; exact Or.inl putI_at
  · have hne : el 7 k ≠ el 7 i := fun z => hki (h.1.2.2.2.2.2.2.1 7 k i (by decide) (by omega) hi z)
    have h9 := hA k (by omega)
    unfold AG at h9 ⊢
    rw [putI_col q_Track_isLive _ (Or.inr hne), putI_col q_Room_minute x (Or.inl (by decide)), putI_col q_Track_minute _ (Or.inl (by decide))]
    exact h9

