theorem nd_div {w d : Nat} (hw : w < 2 ^ 31) (h0 : 0 < d) (hd : d < 2 ^ 31) : (-nI w) / nI d = -nI (w / d) := by
  obtain ⟨k, hk⟩ : ∃ k : Nat, k = w / d := ⟨_, rfl⟩
  have hle : k ≤ w := hk ▸ Nat.div_le_self w d
  have e : ((w : Int) / (d : Int)) = (k : Int) := by rw [hk]; exact (Int.natCast_ediv w d).symm
  apply Int32.toInt_inj.mp
  rw [Int32.toInt_div, sb_negT hw, nI_toInt hd, ← hk, sb_negT (by omega), Int.neg_tdiv, Int.tdiv_eq_ediv_of_nonneg (by omega), e, Int.bmod_eq_of_le (by omega) (by omega)]
theorem pl_nI {x y : Int32} (h : isPlaceB x y = true) : ∃ a b : Nat, a ≤ 199 ∧ b ≤ 199 ∧ x = nI a ∧ y = nI b := by
  unfold isPlaceB isInB at h
  simp only [Bool.and_eq_true, Bool.not_eq_true', decide_eq_false_iff_not] at h
  obtain ⟨⟨h1, h2⟩, h3, h4⟩ := h
  obtain ⟨a, ha, ea⟩ := nI_of2 (x := x) (M := 199) (n := 199) (by decide) h1 (Int32.not_lt.mp h2)
  obtain ⟨b, hb, eb⟩ := nI_of2 (x := y) (M := 199) (n := 199) (by decide) h3 (Int32.not_lt.mp h4)
  exact ⟨a, b, ha, hb, ea, eb⟩
theorem pl_mk {a b : Nat} (ha : a ≤ 199) (hb : b ≤ 199) : isPlaceB (nI a) (nI b) = true := by
  unfold isPlaceB isInB
  have e : (199 : Int32) = nI 199 := by decide
  rw [e, decide_eq_false (nI_pos (n := a) (by omega)), decide_eq_false (nI_pos (n := b) (by omega)), decide_eq_false (nI_nlt (a := 199) (b := a) ha (by omega)), decide_eq_false (nI_nlt (a := 199) (b := b) hb (by omega))]
  rfl
theorem hold_nI (v : Int32) : ∃ a : Nat, a ≤ 199 ∧ holdF v = nI a := by
  unfold holdF
  by_cases h1 : 0 ≤ v
  · rw [if_pos h1]
    by_cases h2 : v ≤ 199
    · rw [if_pos h2]
      exact nI_of2 (M := 199) (n := 199) (by decide) (Int32.not_lt.mpr h1) h2
    · rw [if_neg h2]; exact ⟨199, Nat.le_refl _, by decide⟩
  · rw [if_neg h1]; exact ⟨0, by omega, nI_0.symm⟩
theorem hold_pl (u v : Int32) : isPlaceB (holdF u) (holdF v) = true := by
  obtain ⟨a, ha, ea⟩ := hold_nI u
  obtain ⟨b, hb, eb⟩ := hold_nI v
  rw [ea, eb]; exact pl_mk ha hb
theorem half_nI {a b : Nat} (ha : a ≤ 199) (hb : b ≤ 199) : ∃ e : Nat, e ≤ 199 ∧ (nI a + nI b) / 2 = nI e := by
  refine ⟨(a + b) / 2, by omega, ?_⟩
  rw [nI_add, show (2 : Int32) = nI 2 by decide]
  exact pk_div (by omega) (by omega) (by omega)
theorem half_pl {x y u v : Int32} (h : isPlaceB x y = true) (h2 : isPlaceB u v = true) : isPlaceB ((x + u) / 2) ((y + v) / 2) = true := by
  obtain ⟨a, b, ha, hb, rfl, rfl⟩ := pl_nI h
  obtain ⟨c, d, hc, hd, rfl, rfl⟩ := pl_nI h2
  obtain ⟨e, he, e1⟩ := half_nI ha hc
  obtain ⟨f, hf, e2⟩ := half_nI hb hd
  rw [e1, e2]; exact pl_mk he hf
theorem sq_nI (a c : Nat) : (nI a - nI c) * (nI a - nI c) = nI (((a - c) + (c - a)) * ((a - c) + (c - a))) := by
  by_cases h : c ≤ a
  · rw [pk_sub h, pk_mul, show c - a = 0 by omega, Nat.add_zero]
  · have e : nI a - nI c = -nI (c - a) := by
      have e1 := pk_sub (a := c) (b := a) (by omega)
      rw [← e1]; grind
    rw [e, show a - c = 0 by omega, Nat.zero_add, ← pk_mul]; grind
theorem rtR_sq (q : Int32) : ∀ (d i : Nat), ∃ j : Nat, i ≤ j ∧ j ≤ i + d ∧ rtR d i q = nI j ∧ (j = i + d ∨ ¬ nI j * nI j < q)
  | 0, i => ⟨i, Nat.le_refl i, Nat.le_refl i, rfl, Or.inl rfl⟩
  | d + 1, i => by
    by_cases hc : nI i * nI i < q
    · obtain ⟨j, h1, h2, h3, h4⟩ := rtR_sq q d (i + 1)
      refine ⟨j, by omega, by omega, ?_, ?_⟩
      · show (if nI i * nI i < q then rtR d (i + 1) q else nI i) = _
        rw [if_pos hc, h3]
      · rcases h4 with h4 | h4
        · exact Or.inl (by omega)
        · exact Or.inr h4
    · refine ⟨i, Nat.le_refl i, by omega, ?_, Or.inr hc⟩
      show (if nI i * nI i < q then rtR d (i + 1) q else nI i) = _
      rw [if_neg hc]
theorem step_nI {a c s j : Nat} (ha : a ≤ 199) (hc : c ≤ 199) (hs : s ≤ 20) (hj : 0 < j) (hj2 : j ≤ 400) (hsj : s ≤ j) : ∃ e : Nat, e ≤ 199 ∧ nI a + (nI c - nI a) * nI s / nI j = nI e := by
  have hle : ∀ d : Nat, d * s / j ≤ d := fun d => Nat.div_le_of_le_mul (by rw [Nat.mul_comm j d]; exact Nat.mul_le_mul_left d hsj)
  have hb : ∀ d : Nat, d ≤ 199 → d * s < 2 ^ 31 := fun d hd => Nat.lt_of_le_of_lt (Nat.mul_le_mul hd hs) (by decide)
  by_cases h : a ≤ c
  · have h9 := hle (c - a)
    refine ⟨a + (c - a) * s / j, by omega, ?_⟩
    rw [pk_sub h, pk_mul, pk_div (hb _ (by omega)) hj (by omega), nI_add]
  · obtain ⟨z, hz⟩ : ∃ z : Nat, z = (a - c) * s / j := ⟨_, rfl⟩
    have h9 : z ≤ a - c := hz ▸ hle (a - c)
    refine ⟨a - z, by omega, ?_⟩
    have e : nI c - nI a = -nI (a - c) := by
      have e1 := pk_sub (a := a) (b := c) (by omega)
      rw [← e1]; grind
    have e2 : (-nI (a - c)) * nI s = -nI ((a - c) * s) := by rw [← pk_mul]; grind
    rw [e, e2, nd_div (hb _ (by omega)) hj (by omega), ← hz, ← pk_sub (a := a) (b := z) (by omega)]
    grind
/-- going stays on the map -/
theorem go_pl {S : wPS} {q s : Nat} {tx ty : Int32} (h : isPlaceB (sI S q_Squadron_x q) (sI S q_Squadron_y q) = true) (hs : 5 ≤ s) (hs2 : s ≤ 20) (hsp : sI S q_Squadron_speed q = nI s) (ht : isPlaceB tx ty = true) : isPlaceB (sI (goF S q tx ty) q_Squadron_x q) (sI (goF S q tx ty) q_Squadron_y q) = true := by
  unfold goF
  by_cases h1 : withinB (sI S q_Squadron_x q) (sI S q_Squadron_y q) (sI S q_Squadron_speed q) tx ty = true
  · rw [if_pos h1, putI_at, putI_col q_Squadron_x q (Or.inl (by decide)), putI_at]; exact ht
  · rw [if_neg h1, putI_at, putI_col q_Squadron_x q (Or.inl (by decide)), putI_at]
    obtain ⟨a, b, ha, hb, ea, eb⟩ := pl_nI h
    obtain ⟨c, d, hc, hd, rfl, rfl⟩ := pl_nI ht
    unfold withinB at h1
    rw [hsp, ea, eb] at h1 ⊢
    have hf : farF (nI a) (nI b) (nI c) (nI d) = nI (((a - c) + (c - a)) * ((a - c) + (c - a)) + ((b - d) + (d - b)) * ((b - d) + (d - b))) := by
      unfold farF
      rw [sq_nI, sq_nI, nI_add]
    rw [hf] at h1 ⊢
    have b1 : ((a - c) + (c - a)) * ((a - c) + (c - a)) ≤ 199 * 199 := Nat.mul_le_mul (by omega) (by omega)
    have b2 : ((b - d) + (d - b)) * ((b - d) + (d - b)) ≤ 199 * 199 := Nat.mul_le_mul (by omega) (by omega)
    obtain ⟨F, hF⟩ : ∃ F : Nat, F = ((a - c) + (c - a)) * ((a - c) + (c - a)) + ((b - d) + (d - b)) * ((b - d) + (d - b)) := ⟨_, rfl⟩
    rw [← hF] at h1 ⊢
    have bF : F ≤ 79202 := by rw [hF]; omega
    have bs : s * s ≤ 20 * 20 := Nat.mul_le_mul hs2 hs2
    have h2 : nI (s * s) < nI F := by
      rw [pk_mul] at h1
      by_cases hh : nI (s * s) < nI F
      · exact hh
      · rw [decide_eq_false hh] at h1; exact absurd rfl h1
    have h3 : s * s < F := (nI_ltI (by omega) (by omega)).mp h2
    obtain ⟨j, j1, j2, j3, j4⟩ := rtR_sq (nI F) 399 1
    have ej : rootF (nI F) = nI j := j3
    have bj : j * j ≤ 400 * 400 := Nat.mul_le_mul (by omega) (by omega)
    have hsj : s ≤ j := by
      rcases j4 with j4 | j4
      · omega
      · rw [pk_mul] at j4
        have j5 : ¬ j * j < F := fun z => j4 ((nI_ltI (by omega) (by omega)).mpr z)
        by_cases hh : s ≤ j
        · exact hh
        · have : j * j ≤ s * s := Nat.mul_le_mul (by omega) (by omega)
          omega
    rw [ej]
    obtain ⟨e, he, e1⟩ := step_nI (a := a) (c := c) (s := s) (j := j) ha hc hs2 (by omega) (by omega) hsj
    obtain ⟨g, hg, e2⟩ := step_nI (a := b) (c := d) (s := s) (j := j) hb hd hs2 (by omega) (by omega) hsj
    rw [e1, e2]
    exact pl_mk he hg

