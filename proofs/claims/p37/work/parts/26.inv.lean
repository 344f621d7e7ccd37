def kdl : Nat → Nat
  | 0 => 3
  | 1 => 4
  | 2 => 6
  | 3 => 1
  | 4 => 8
  | 5 => 0
  | 6 => 4
  | 7 => 9
  | _ => 5
/-- the room's own things: nine lists apart from each other, the lots, the tally -/
def ST (e9 : Nat × Nat) (x lo ta : Nat) (la : Nat → Nat) (S : wPS) (el : Nat → Nat → Nat) (sz cp : Nat → Nat) : Prop := (x ∈ sL S ∧ sK S x = 10) ∧ (∀ j : Nat, j < 9 → sR S (q_Room_masts + j) x = some (la j) ∧ LSt e9 S (la j) (kdl j) (el j) (sz j) (cp j)) ∧ (sR S q_Room_lots x = some lo ∧ lo ∈ sL S ∧ sK S lo = 2) ∧ (sR S q_Room_tally x = some ta ∧ ta ∈ sL S ∧ sK S ta = 7) ∧ (∀ j k : Nat, j < 9 → k < 9 → la j = la k → j = k) ∧ (∀ j k r : Nat, j < 9 → k < 9 → r ≠ e9.1 → sR S q_List_elementData (la j) = some r → sR S q_List_elementData (la k) = some r → j = k) ∧ (∀ j i k : Nat, j < 9 → i < sz j → k < sz j → el j i = el j k → i = k) ∧ sz 6 = 0
theorem ST.rm {e9 : Nat × Nat} {x lo ta : Nat} {la : Nat → Nat} {S : wPS} {el : Nat → Nat → Nat} {sz cp : Nat → Nat} (h : ST e9 x lo ta la S el sz cp) : RMx S x lo ta la el sz := by
  obtain ⟨h1, h2, h3, h4, -, -, -, h8⟩ := h
  have g6 := h2 6 (by decide)
  rw [h8] at g6
  exact ⟨h1, ⟨(h2 0 (by decide)).1, (h2 0 (by decide)).2.1⟩, ⟨(h2 1 (by decide)).1, (h2 1 (by decide)).2.1⟩, ⟨(h2 2 (by decide)).1, (h2 2 (by decide)).2.1⟩, ⟨(h2 3 (by decide)).1, (h2 3 (by decide)).2.1⟩, ⟨(h2 4 (by decide)).1, (h2 4 (by decide)).2.1⟩, ⟨(h2 5 (by decide)).1, (h2 5 (by decide)).2.1⟩, ⟨g6.1, g6.2.1⟩, ⟨(h2 7 (by decide)).1, (h2 7 (by decide)).2.1⟩, ⟨(h2 8 (by decide)).1, (h2 8 (by decide)).2.1⟩, h3, h4⟩
theorem ST.ls {e9 : Nat × Nat} {x lo ta : Nat} {la : Nat → Nat} {S : wPS} {el : Nat → Nat → Nat} {sz cp : Nat → Nat} (h : ST e9 x lo ta la S el sz cp) {j : Nat} (hj : j < 9) : LSt e9 S (la j) (kdl j) (el j) (sz j) (cp j) := (h.2.1 j hj).2
theorem ST.ob {e9 : Nat × Nat} {x lo ta : Nat} {la : Nat → Nat} {S : wPS} {el : Nat → Nat → Nat} {sz cp : Nat → Nat} (h : ST e9 x lo ta la S el sz cp) {j i : Nat} (hj : j < 9) (hi : i < sz j) : el j i ∈ sL S ∧ sK S (el j i) = kdl j := (h.ls hj).1.2.2.2.2 i hi
theorem ST.la_ob {e9 : Nat × Nat} {x lo ta : Nat} {la : Nat → Nat} {S : wPS} {el : Nat → Nat → Nat} {sz cp : Nat → Nat} (h : ST e9 x lo ta la S el sz cp) {j : Nat} (hj : j < 9) : la j ∈ sL S ∧ sK S (la j) = 11 := (h.ls hj).1.1
theorem ST.lo_ob {e9 : Nat × Nat} {x lo ta : Nat} {la : Nat → Nat} {S : wPS} {el : Nat → Nat → Nat} {sz cp : Nat → Nat} (h : ST e9 x lo ta la S el sz cp) : lo ∈ sL S ∧ sK S lo = 2 := h.2.2.1.2
theorem ST.ta_ob {e9 : Nat × Nat} {x lo ta : Nat} {la : Nat → Nat} {S : wPS} {el : Nat → Nat → Nat} {sz cp : Nat → Nat} (h : ST e9 x lo ta la S el sz cp) : ta ∈ sL S ∧ sK S ta = 7 := h.2.2.2.1.2
theorem isL.fr {AI AR : Nat → Prop} {S S1 : wPS} {l kd : Nat} {e : Nat → Nat} {n : Nat} (h : isL S l kd e n) (hF : Fr AI AR S S1) (hI : ¬ AI l) (hR : ¬ AR l) (hA : ∀ r : Nat, sR S q_List_elementData l = some r → r ∈ sL S → sK S r = 12 → ¬ AR r) : isL S1 l kd e n := by
  obtain ⟨h1, h2, h3, h4, h5⟩ := h
  refine ⟨hF.obj h1, (hF.i h1.1 hI).trans h2, h3, fun i hi => ?_, fun i hi => hF.obj (h5 i hi)⟩
  obtain ⟨r, he, hr, hn, hc, hw⟩ := h4 i hi
  have hn9 := hA r he hr.1 hr.2
  exact ⟨r, (hF.r h1.1 hR).trans he, hF.obj hr, by rw [hF.n hr.1 hn9]; exact hn, by rw [hF.n hr.1 hn9]; exact hc, by rw [hF.w hr.1 hn9]; exact hw⟩
theorem LSt.fr {e9 : Nat × Nat} {AI AR : Nat → Prop} {S S1 : wPS} {l kd : Nat} {e : Nat → Nat} {n c : Nat} (h : LSt e9 S l kd e n c) (hF : Fr AI AR S S1) (hI : ¬ AI l) (hR : ¬ AR l) (hA : ∀ r : Nat, sR S q_List_elementData l = some r → r ∈ sL S → sK S r = 12 → r ≠ e9.1 → ¬ AR r) : LSt e9 S1 l kd e n c := by
  obtain ⟨h1, h2, h3, h4⟩ := h
  have hl := h1.1
  rcases h4 with ⟨hc, h0⟩ | ⟨hc, r, he, hr, hN, hne⟩
  · have hn : n = 0 := by omega
    subst hn
    exact ⟨⟨hF.obj h1.1, (hF.i h1.1.1 hI).trans h1.2.1, h1.2.2.1, fun i hi => absurd hi (Nat.not_lt_zero i), fun i hi => absurd hi (Nat.not_lt_zero i)⟩, h2, h3, Or.inl ⟨hc, (hF.r hl.1 hR).trans h0⟩⟩
  · have hn9 := hA r he hr.1 hr.2 hne
    refine ⟨h1.fr hF hI hR (fun r1 he1 _ _ => ?_), h2, h3, Or.inr ⟨hc, r, (hF.r hl.1 hR).trans he, hF.obj hr, (hF.n hr.1 hn9).trans hN, hne⟩⟩
    have e1 : r1 = r := Option.some.inj (he1.symm.trans he)
    rw [e1]; exact hn9
/-- the room stays where neither lists nor arrays nor its own references change -/
theorem ST.fr {e9 : Nat × Nat} {x lo ta : Nat} {la : Nat → Nat} {S S1 : wPS} {el : Nat → Nat → Nat} {sz cp : Nat → Nat} {AI AR : Nat → Prop} (h : ST e9 x lo ta la S el sz cp) (hF : Fr AI AR S S1) (hI : ∀ b : Nat, b ∈ sL S → sK S b = 11 → ¬ AI b) (hR : ∀ b : Nat, b ∈ sL S → (sK S b = 10 ∨ sK S b = 11 ∨ sK S b = 12) → ¬ AR b) : ST e9 x lo ta la S1 el sz cp := by
  obtain ⟨h1, h2, h3, h4, h5, h6, h7, h8⟩ := h
  have hx := hR x h1.1 (Or.inl h1.2)
  have hl : ∀ j : Nat, j < 9 → la j ∈ sL S ∧ sK S (la j) = 11 := fun j hj => (h2 j hj).2.1.1
  have hlr : ∀ j : Nat, j < 9 → sR S1 q_List_elementData (la j) = sR S q_List_elementData (la j) := fun j hj => hF.r (hl j hj).1 (hR _ (hl j hj).1 (Or.inr (Or.inl (hl j hj).2)))
  refine ⟨hF.obj h1, fun j hj => ⟨(hF.r h1.1 hx).trans (h2 j hj).1, (h2 j hj).2.fr hF (hI _ (hl j hj).1 (hl j hj).2) (hR _ (hl j hj).1 (Or.inr (Or.inl (hl j hj).2))) (fun r _ hr hk _ => hR r hr (Or.inr (Or.inr hk)))⟩, ⟨(hF.r h1.1 hx).trans h3.1, hF.obj h3.2⟩, ⟨(hF.r h1.1 hx).trans h4.1, hF.obj h4.2⟩, h5, fun j k r hj hk hne e1 e2 => h6 j k r hj hk hne ((hlr j hj).symm.trans e1) ((hlr k hk).symm.trans e2), h7, h8⟩
theorem ST.add {e9 : Nat × Nat} {x lo ta : Nat} {la : Nat → Nat} {S S1 : wPS} {el : Nat → Nat → Nat} {sz cp : Nat → Nat} (h : ST e9 x lo ta la S el sz cp) {j v : Nat} (hj : j < 9) (hj6 : j ≠ 6) (hv : ∀ i : Nat, i < sz j → el j i ≠ v) (hA : AddP e9 S (la j) (kdl j) (el j) (sz j) (cp j) v S1) : ∃ c1 : Nat, c1 ≤ gN (cp j) + 10 ∧ ST e9 x lo ta la S1 (va_up el j (va_up (el j) (sz j) v)) (va_up sz j (sz j + 1)) (va_up cp j c1) := by
  obtain ⟨c1, hc1, hL1, hF, hd, -, -⟩ := hA
  obtain ⟨h1, h2, h3, h4, h5, h6, h7, h8⟩ := h
  have hl : ∀ k : Nat, k < 9 → la k ∈ sL S ∧ sK S (la k) = 11 := fun k hk => (h2 k hk).2.1.1
  have hlj := hl j hj
  have hx1 : ¬ (x = la j ∨ (sK S x = 12 ∧ x ≠ e9.1 ∧ sR S q_List_elementData (la j) = some x)) := by
    rintro (z | ⟨z, -⟩)
    · have := h1.2; rw [z, hlj.2] at this; omega
    · have := h1.2; omega
  have hlk : ∀ k : Nat, k < 9 → k ≠ j → la k ≠ la j := fun k hk hne z => hne (h5 k j hk hj z)
  have hlr : ∀ k : Nat, k < 9 → k ≠ j → ¬ (la k = la j ∨ (sK S (la k) = 12 ∧ la k ≠ e9.1 ∧ sR S q_List_elementData (la j) = some (la k))) := by
    rintro k hk hne (z | ⟨z, -⟩)
    · exact hlk k hk hne z
    · have := (hl k hk).2; omega
  have hro : ∀ k : Nat, k < 9 → k ≠ j → sR S1 q_List_elementData (la k) = sR S q_List_elementData (la k) := fun k hk hne => hF.r (hl k hk).1 (hlr k hk hne)
  have hin : ∀ k r : Nat, k < 9 → r ≠ e9.1 → sR S q_List_elementData (la k) = some r → r ∈ sL S := by
    intro k r hk hne he
    rcases (h2 k hk).2.2.2.2 with ⟨-, h0⟩ | ⟨-, r1, he1, hr1, -, -⟩
    · exact absurd (Option.some.inj (he.symm.trans h0)) hne
    · exact (Option.some.inj (he.symm.trans he1)) ▸ hr1.1
  refine ⟨c1, hc1, hF.obj h1, fun k hk => ⟨(hF.r h1.1 hx1).trans (h2 k hk).1, ?_⟩, ⟨(hF.r h1.1 hx1).trans h3.1, hF.obj h3.2⟩, ⟨(hF.r h1.1 hx1).trans h4.1, hF.obj h4.2⟩, h5, ?_, ?_, ?_⟩
  · by_cases hkj : k = j
    · subst hkj
      rw [show va_up el k (va_up (el k) (sz k) v) k = va_up (el k) (sz k) v from if_pos rfl, show va_up sz k (sz k + 1) k = sz k + 1 from if_pos rfl, show va_up cp k c1 k = c1 from if_pos rfl]
      exact hL1
    · rw [show va_up el j (va_up (el j) (sz j) v) k = el k from if_neg hkj, show va_up sz j (sz j + 1) k = sz k from if_neg hkj, show va_up cp j c1 k = cp k from if_neg hkj]
      refine (h2 k hk).2.fr hF (hlk k hk hkj) (hlr k hk hkj) ?_
      rintro r he hr hk12 hne (z | ⟨-, -, z⟩)
      · rw [z] at hk12; have := hlj.2; omega
      · exact hkj (h6 k j r hk hj hne he z)
  · intro k1 k2 r hk1 hk2 hne e1 e2
    by_cases a1 : k1 = j
    · by_cases a2 : k2 = j
      · rw [a1, a2]
      · exfalso
        subst a1
        rw [hro k2 hk2 a2] at e2
        rcases hd with d | ⟨a, d, hfa, -⟩
        · rw [d] at e1; exact a2 (h6 k2 k1 r hk2 hk1 hne e2 e1)
        · have : r = a := Option.some.inj (e1.symm.trans d)
          exact hfa (this ▸ hin k2 r hk2 hne e2)
    · by_cases a2 : k2 = j
      · exfalso
        subst a2
        rw [hro k1 hk1 a1] at e1
        rcases hd with d | ⟨a, d, hfa, -⟩
        · rw [d] at e2; exact a1 (h6 k1 k2 r hk1 hk2 hne e1 e2)
        · have : r = a := Option.some.inj (e2.symm.trans d)
          exact hfa (this ▸ hin k1 r hk1 hne e1)
      · rw [hro k1 hk1 a1] at e1; rw [hro k2 hk2 a2] at e2
        exact h6 k1 k2 r hk1 hk2 hne e1 e2
  · intro k i1 i2 hk hi1 hi2 he
    by_cases hkj : k = j
    · subst hkj
      rw [show va_up sz k (sz k + 1) k = sz k + 1 from if_pos rfl] at hi1 hi2
      rw [show va_up el k (va_up (el k) (sz k) v) k = va_up (el k) (sz k) v from if_pos rfl] at he
      by_cases b1 : i1 = sz k
      · by_cases b2 : i2 = sz k
        · rw [b1, b2]
        · rw [show va_up (el k) (sz k) v i1 = v from if_pos b1, show va_up (el k) (sz k) v i2 = el k i2 from if_neg b2] at he
          exact absurd he.symm (hv i2 (by omega))
      · by_cases b2 : i2 = sz k
        · rw [show va_up (el k) (sz k) v i2 = v from if_pos b2, show va_up (el k) (sz k) v i1 = el k i1 from if_neg b1] at he
          exact absurd he (hv i1 (by omega))
        · rw [show va_up (el k) (sz k) v i1 = el k i1 from if_neg b1, show va_up (el k) (sz k) v i2 = el k i2 from if_neg b2] at he
          exact h7 k i1 i2 hk (by omega) (by omega) he
    · rw [show va_up sz j (sz j + 1) k = sz k from if_neg hkj] at hi1 hi2
      rw [show va_up el j (va_up (el j) (sz j) v) k = el k from if_neg hkj] at he
      exact h7 k i1 i2 hk hi1 hi2 he
  · exact (show va_up sz j (sz j + 1) 6 = sz 6 from if_neg (fun z => hj6 z.symm)).trans h8
/-- sums over naturals -/
def ns (f : Nat → Nat) : Nat → Nat
  | 0 => 0
  | n + 1 => ns f n + f n
theorem ns_up (f : Nat → Nat) (i v : Nat) : ∀ n : Nat, (i < n → ns (va_up f i v) n + f i = ns f n + v) ∧ (n ≤ i → ns (va_up f i v) n = ns f n)
  | 0 => ⟨fun h => absurd h (Nat.not_lt_zero i), fun _ => rfl⟩
  | n + 1 => by
    obtain ⟨h1, h2⟩ := ns_up f i v n
    constructor
    · intro hi
      show ns (va_up f i v) n + va_up f i v n + f i = ns f n + f n + v
      by_cases hin : n = i
      · subst hin
        rw [show va_up f n v n = v from if_pos rfl, h2 (Nat.le_refl n)]; omega
      · rw [show va_up f i v n = f n from if_neg hin]
        have := h1 (by omega); omega
    · intro hi
      show ns (va_up f i v) n + va_up f i v n = ns f n + f n
      rw [show va_up f i v n = f n from if_neg (by omega), h2 (by omega)]
theorem ns_ge (f : Nat → Nat) (i : Nat) : ∀ n : Nat, i < n → f i ≤ ns f n
  | 0, h => absurd h (Nat.not_lt_zero i)
  | n + 1, h => by
    show f i ≤ ns f n + f n
    by_cases hin : i = n
    · subst hin; omega
    · have := ns_ge f i n (by omega); omega
theorem ns_cg {f g : Nat → Nat} : ∀ n : Nat, (∀ i : Nat, i < n → f i = g i) → ns f n = ns g n
  | 0, _ => rfl
  | n + 1, h => by
    show ns f n + f n = ns g n + g n
    rw [ns_cg n (fun i hi => h i (by omega)), h n (by omega)]
theorem sumR_acc (f : Nat → Int32) : ∀ (d i : Nat) (a : Int32), sumR f d i a = a + sumR f d i 0
  | 0, _, a => (Int32.add_zero a).symm
  | d + 1, i, a => by
    show sumR f d (i + 1) (a + f i) = a + sumR f d (i + 1) (0 + f i)
    rw [sumR_acc f d (i + 1) (a + f i), sumR_acc f d (i + 1) (0 + f i), Int32.zero_add, Int32.add_assoc]
theorem sumR_cg {f g : Nat → Int32} : ∀ (d i : Nat) (a : Int32), (∀ k : Nat, i ≤ k → k < i + d → f k = g k) → sumR f d i a = sumR g d i a
  | 0, _, _, _ => rfl
  | d + 1, i, a, h => by
    show sumR f d (i + 1) (a + f i) = sumR g d (i + 1) (a + g i)
    rw [h i (Nat.le_refl i) (by omega)]
    exact sumR_cg d (i + 1) (a + g i) (fun k h1 h2 => h k (by omega) (by omega))
theorem sumR_up {f g : Nat → Int32} {k0 : Nat} {v : Int32} : ∀ (d i : Nat) (a : Int32), i ≤ k0 → k0 < i + d → (∀ k : Nat, i ≤ k → k < i + d → k ≠ k0 → g k = f k) → g k0 = f k0 + v → sumR g d i a = sumR f d i a + v
  | 0, i, a, h1, h2, _, _ => absurd h2 (by omega)
  | d + 1, i, a, h1, h2, h3, h4 => by
    show sumR g d (i + 1) (a + g i) = sumR f d (i + 1) (a + f i) + v
    by_cases hik : i = k0
    · subst hik
      rw [h4, sumR_cg d (i + 1) (a + (f i + v)) (fun k a1 a2 => h3 k (by omega) (by omega) (by omega)), sumR_acc f d (i + 1) (a + (f i + v)), sumR_acc f d (i + 1) (a + f i)]
      rw [← Int32.add_assoc a (f i) v, Int32.add_assoc (a + f i) v, Int32.add_comm v, ← Int32.add_assoc]
    · rw [h3 i (Nat.le_refl i) (by omega) hik]
      exact sumR_up d (i + 1) (a + f i) (by omega) (by omega) (fun k a1 a2 a3 => h3 k (by omega) (by omega) a3) h4
theorem sumR_sn (f : Nat → Int32) : ∀ (d i : Nat) (a : Int32), sumR f (d + 1) i a = sumR f d i a + f (i + d)
  | 0, i, a => rfl
  | d + 1, i, a => by
    show sumR f (d + 1) (i + 1) (a + f i) = sumR f d (i + 1) (a + f i) + f (i + (d + 1))
    rw [sumR_sn f d (i + 1) (a + f i)]
    congr 2; omega
theorem sumR_ns {f : Nat → Int32} {g : Nat → Nat} : ∀ n : Nat, (∀ k : Nat, k < n → f k = nI (g k)) → sumR f n 0 0 = nI (ns g n)
  | 0, _ => nI_0.symm
  | n + 1, h => by
    rw [sumR_sn f n 0 0, sumR_ns n (fun k hk => h k (by omega)), Nat.zero_add, h n (by omega), nI_add]; rfl
theorem cntR_mono {p q : Nat → Bool} : ∀ (d i : Nat) (a b : Nat), a ≤ b → (∀ k : Nat, i ≤ k → k < i + d → p k = true → q k = true) → ∃ c1 c2 : Nat, c1 ≤ c2 ∧ c2 ≤ b + d ∧ cntR p d i (nI a) = nI c1 ∧ cntR q d i (nI b) = nI c2
  | 0, _, a, b, h, _ => ⟨a, b, h, Nat.le_refl b, rfl, rfl⟩
  | d + 1, i, a, b, h, hpq => by
    show ∃ c1 c2 : Nat, c1 ≤ c2 ∧ c2 ≤ b + (d + 1) ∧ cntR p d (i + 1) (if p i = true then nI a + 1 else nI a) = nI c1 ∧ cntR q d (i + 1) (if q i = true then nI b + 1 else nI b) = nI c2
    have h2 : ∀ k : Nat, i + 1 ≤ k → k < i + 1 + d → p k = true → q k = true := fun k a1 a2 => hpq k (by omega) (by omega)
    by_cases hp : p i = true
    · have hq := hpq i (Nat.le_refl i) (by omega) hp
      rw [if_pos hp, if_pos hq, nI_1, nI_1]
      obtain ⟨c1, c2, a1, a2, a3, a4⟩ := cntR_mono d (i + 1) (a + 1) (b + 1) (by omega) h2
      exact ⟨c1, c2, a1, by omega, a3, a4⟩
    · rw [if_neg hp]
      by_cases hq : q i = true
      · rw [if_pos hq, nI_1]
        obtain ⟨c1, c2, a1, a2, a3, a4⟩ := cntR_mono d (i + 1) a (b + 1) (by omega) h2
        exact ⟨c1, c2, a1, by omega, a3, a4⟩
      · rw [if_neg hq]
        obtain ⟨c1, c2, a1, a2, a3, a4⟩ := cntR_mono d (i + 1) a b h h2
        exact ⟨c1, c2, a1, by omega, a3, a4⟩

