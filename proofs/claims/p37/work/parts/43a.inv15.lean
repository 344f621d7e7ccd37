/-- one list has a thing more -/
def GJ (j : Nat) (el : Nat → Nat → Nat) (sz : Nat → Nat) (el1 : Nat → Nat → Nat) (sz1 : Nat → Nat) : Prop := (∀ k : Nat, k ≠ j → el1 k = el k ∧ sz1 k = sz k) ∧ sz1 j = sz j + 1
theorem GJ_up {j a : Nat} {el : Nat → Nat → Nat} {sz : Nat → Nat} : GJ j el sz (va_up el j (va_up (el j) (sz j) a)) (va_up sz j (sz j + 1)) := ⟨fun _ hk => ⟨if_neg hk, if_neg hk⟩, if_pos rfl⟩
theorem add_common {e9 : Nat × Nat} {x lo ta j a : Nat} {la : Nat → Nat} {S S0 S1 : wPS} {el : Nat → Nat → Nat} {sz cp : Nat → Nat} (h1 : ST e9 x lo ta la S el sz cp) (hj : j < 9) (hj6 : j ≠ 6) (hC0 : Ch [] [] S S0) (hK0 : Kw S S0) (fa : a ∉ sL S) (ha : a ∈ sL S0) (hA : AddP e9 S0 (la j) (kdl j) (el j) (sz j) (cp j) a S1) : (∃ c1 : Nat, ST e9 x lo ta la S1 (va_up el j (va_up (el j) (sz j) a)) (va_up sz j (sz j + 1)) (va_up cp j c1)) ∧ Ch [q_List_size, q_List_modCount] [q_List_elementData] S S1 ∧ (∀ c : Nat, c ∉ [q_List_size, q_List_modCount] → sI S1 c a = sI S0 c a) ∧ (∀ c : Nat, c ∉ [q_List_elementData] → sR S1 c a = sR S0 c a) ∧ (∀ k : Nat, k ≠ j → va_up el j (va_up (el j) (sz j) a) k = el k) ∧ (∀ k : Nat, k ≠ j → va_up sz j (sz j + 1) k = sz k) ∧ va_up el j (va_up (el j) (sz j) a) j = va_up (el j) (sz j) a ∧ va_up sz j (sz j + 1) j = sz j + 1 := by
  have hT := h1.ch hC0 hK0 (by decide) (fun c hc => absurd hc List.not_mem_nil)
  have hne : ∀ i : Nat, i < sz j → el j i ≠ a := fun i hi z => fa (z ▸ (h1.ob hj hi).1)
  obtain ⟨c1, -, hs⟩ := hT.add hj hj6 hne hA
  have hC3 := hA.ch
  exact ⟨⟨c1, hs⟩, (hC0.weak (by decide) (by decide)).trans hC3, fun c hc => hC3.2.1 c hc a ha, fun c hc => hC3.2.2 c hc a ha, fun _ hk => if_neg hk, fun _ hk => if_neg hk, if_pos rfl, if_pos rfl⟩
/-- a station, a gun, a town more -/
theorem IV_addInert {e9 : Nat × Nat} {x lo ta M cnts pw ow dn j a : Nat} {told : Int32} {la : Nat → Nat} {S S0 S1 : wPS} {el : Nat → Nat → Nat} {sz cp : Nat → Nat} (h : IV e9 x lo ta la M cnts told S el sz cp pw ow dn) (hj : j = 1 ∨ j = 3 ∨ j = 4) (hC0 : Ch [] [] S S0) (hK0 : Kw S S0) (fa : a ∉ sL S) (ha : a ∈ sL S0) (hA : AddP e9 S0 (la j) (kdl j) (el j) (sz j) (cp j) a S1) : ∃ c1 : Nat, IV e9 x lo ta la M cnts told S1 (va_up el j (va_up (el j) (sz j) a)) (va_up sz j (sz j + 1)) (va_up cp j c1) pw ow dn := by
  obtain ⟨h1, h2, h3, h4, h5, h6, h7, h8, h9, h10, h11, h12⟩ := h
  obtain ⟨⟨c1, hs⟩, hC, -, -, E, Z, -, -⟩ := add_common h1 (by omega) (by omega) hC0 hK0 fa ha hA
  exact ⟨c1, hs, (h2.ch h1 hC (by decide)).cg (E 5 (by omega)) (Z 5 (by omega)), (h3.ch h1 hC (by decide) (by decide)).cg (E 2 (by omega)) (Z 2 (by omega)), (h4.ch h1 hC (by decide)).cg (E 7 (by omega)) (Z 7 (by omega)), (h5.ch h1 hC (by decide)).cg (E 0 (by omega)) (Z 0 (by omega)), (h6.ch h12 h1 hC (by decide) (by decide)).cg (E 0 (by omega)) (Z 0 (by omega)) (fun i _ => congrFun (E 8 (by omega)) i), h7.ch h1 hC (by decide), (h8.ch h1 hC (by decide)).cg (E 0 (by omega)) (Z 0 (by omega)) (E 7 (by omega)) (Z 7 (by omega)), (h9.ch h1 hC (by decide)).cg (E 5 (by omega)) (Z 5 (by omega)) (E 2 (by omega)) (Z 2 (by omega)), (h10.ch h1 hC (by decide)).cg (E 2 (by omega)) (Z 2 (by omega)), (h11.ch h1 hC (by decide)).cg (E 2 (by omega)) (Z 2 (by omega)), by rw [Z 8 (by omega)]; exact h12⟩
/-- a mast more -/
theorem IV_addMast {e9 : Nat × Nat} {x lo ta M cnts pw ow dn a : Nat} {told : Int32} {la : Nat → Nat} {S S0 S1 : wPS} {el : Nat → Nat → Nat} {sz cp : Nat → Nat} (h : IV e9 x lo ta la M cnts told S el sz cp pw ow dn) (hC0 : Ch [] [] S S0) (hK0 : Kw S S0) (fa : a ∉ sL S) (ha : a ∈ sL S0) (hA : AddP e9 S0 (la 0) 3 (el 0) (sz 0) (cp 0) a S1) (n1 : sI S0 q_Mast_isCut a = 0) (n2 : sI S0 q_Mast_lost a = 0) (n3 : ∃ s : Nat, s ≤ 9 ∧ sI S0 q_Mast_slip a = nI s) (n4 : sI S0 q_Mast_made a = 0) (n5 : sI S0 q_Mast_came a = 0) : ∃ c1 : Nat, IV e9 x lo ta la M cnts told S1 (va_up el 0 (va_up (el 0) (sz 0) a)) (va_up sz 0 (sz 0 + 1)) (va_up cp 0 c1) pw ow dn := by
  obtain ⟨h1, h2, h3, h4, h5, h6, h7, h8, h9, h10, h11, h12⟩ := h
  obtain ⟨⟨c1, hs⟩, hC, hai, -, E, Z, Ej, Zj⟩ := add_common (j := 0) h1 (by decide) (by decide) hC0 hK0 fa ha hA
  refine ⟨c1, hs, (h2.ch h1 hC (by decide)).cg (E 5 (by decide)) (Z 5 (by decide)), (h3.ch h1 hC (by decide) (by decide)).cg (E 2 (by decide)) (Z 2 (by decide)), (h4.ch h1 hC (by decide)).cg (E 7 (by decide)) (Z 7 (by decide)), fun i hi => ?_, fun i hi => ?_, h7.ch h1 hC (by decide), ?_, (h9.ch h1 hC (by decide)).cg (E 5 (by decide)) (Z 5 (by decide)) (E 2 (by decide)) (Z 2 (by decide)), (h10.ch h1 hC (by decide)).cg (E 2 (by decide)) (Z 2 (by decide)), (h11.ch h1 hC (by decide)).cg (E 2 (by decide)) (Z 2 (by decide)), by rw [Z 8 (by decide)]; exact h12⟩
  · rw [Ej]; rw [Zj] at hi
    by_cases h0 : i = sz 0
    · rw [show va_up (el 0) (sz 0) a i = a from if_pos h0, hai _ (by decide), hai _ (by decide), hai _ (by decide)]
      exact ⟨n1, n2, n3⟩
    · rw [show va_up (el 0) (sz 0) a i = el 0 i from if_neg h0]
      exact (h5.ch h1 hC (by decide)) i (by omega)
  · rw [Ej, E 8 (by decide), Zj]
    obtain ⟨b1, k, b2, b3⟩ := (h6.ch h12 h1 hC (by decide) (by decide)) i hi
    exact ⟨b1, k, by omega, b3.trans (congrArg some (if_neg (by omega : k ≠ sz 0)).symm)⟩
  · have h8' := h8.ch (S1 := S1) h1 hC (by decide)
    obtain ⟨b1, b2⟩ := h8'
    unfold SM1
    rw [Ej, Zj, E 7 (by decide), Z 7 (by decide), sumR_sn, sumR_sn, Nat.zero_add, show va_up (el 0) (sz 0) a (sz 0) = a from if_pos rfl, hai _ (by decide), hai _ (by decide), n4, n5, Int32.add_zero, Int32.add_zero]
    rw [sumR_cg (f := fun i => sI S1 q_Mast_made (va_up (el 0) (sz 0) a i)) (g := fun i => sI S1 q_Mast_made (el 0 i)) (sz 0) 0 0 (fun i _ hi => congrArg (sI S1 q_Mast_made) (if_neg (by omega : i ≠ sz 0))), sumR_cg (f := fun i => sI S1 q_Mast_came (va_up (el 0) (sz 0) a i)) (g := fun i => sI S1 q_Mast_came (el 0 i)) (sz 0) 0 0 (fun i _ hi => congrArg (sI S1 q_Mast_came) (if_neg (by omega : i ≠ sz 0)))]
    exact ⟨b1, b2⟩
/-- a flight more -/
theorem IV_addFlight {e9 : Nat × Nat} {x lo ta M cnts pw ow dn a c : Nat} {told : Int32} {la : Nat → Nat} {S S0 S1 : wPS} {el : Nat → Nat → Nat} {sz cp : Nat → Nat} (h : IV e9 x lo ta la M cnts told S el sz cp pw ow dn) (hC0 : Ch [] [] S S0) (hK0 : Kw S S0) (fa : a ∉ sL S) (ha : a ∈ sL S0) (hA : AddP e9 S0 (la 5) 0 (el 5) (sz 5) (cp 5) a S1) (n1 : isPlaceB (sI S0 q_Flight_x a) (sI S0 q_Flight_y a) = true) (n2 : sI S0 q_Flight_count a = nI c) (hc1 : 1 ≤ c) (hc2 : c ≤ 99) : ∃ c1 : Nat, IV e9 x lo ta la M (cnts + c) told S1 (va_up el 5 (va_up (el 5) (sz 5) a)) (va_up sz 5 (sz 5 + 1)) (va_up cp 5 c1) pw ow dn := by
  obtain ⟨h1, h2, h3, h4, h5, h6, h7, h8, h9, h10, h11, h12⟩ := h
  obtain ⟨⟨c1, hs⟩, hC, hai, -, E, Z, Ej, Zj⟩ := add_common (j := 5) h1 (by decide) (by decide) hC0 hK0 fa ha hA
  refine ⟨c1, hs, fun i hi => ?_, (h3.ch h1 hC (by decide) (by decide)).cg (E 2 (by decide)) (Z 2 (by decide)), (h4.ch h1 hC (by decide)).cg (E 7 (by decide)) (Z 7 (by decide)), (h5.ch h1 hC (by decide)).cg (E 0 (by decide)) (Z 0 (by decide)), (h6.ch h12 h1 hC (by decide) (by decide)).cg (E 0 (by decide)) (Z 0 (by decide)) (fun i _ => congrFun (E 8 (by decide)) i), h7.ch h1 hC (by decide), (h8.ch h1 hC (by decide)).cg (E 0 (by decide)) (Z 0 (by decide)) (E 7 (by decide)) (Z 7 (by decide)), ?_, (h10.ch h1 hC (by decide)).cg (E 2 (by decide)) (Z 2 (by decide)), (h11.ch h1 hC (by decide)).cg (E 2 (by decide)) (Z 2 (by decide)), by rw [Z 8 (by decide)]; exact h12⟩
  · rw [Ej]; rw [Zj] at hi
    by_cases h0 : i = sz 5
    · rw [show va_up (el 5) (sz 5) a i = a from if_pos h0]
      unfold flI
      rw [hai _ (by decide), hai _ (by decide), hai _ (by decide), hai _ (by decide), n2]
      exact ⟨n1, Or.inr (by rw [← nI_0]; exact nI_lt (by omega) (by omega))⟩
    · rw [show va_up (el 5) (sz 5) a i = el 5 i from if_neg h0]
      exact (h2.ch h1 hC (by decide)) i (by omega)
  · obtain ⟨cf, wf, cn, b1, b2, b3, b4, b5, b6⟩ := h9.ch (S1 := S1) h1 hC (by decide)
    refine ⟨va_up cf (sz 5) c, wf, cn, fun i hi => ?_, fun i hi => ?_, b3, ?_, ?_, ?_⟩
    · rw [Ej]; rw [Zj] at hi
      by_cases h0 : i = sz 5
      · rw [show va_up (el 5) (sz 5) a i = a from if_pos h0, show va_up cf (sz 5) c i = c from if_pos h0, hai _ (by decide)]
        exact n2
      · rw [show va_up (el 5) (sz 5) a i = el 5 i from if_neg h0, show va_up cf (sz 5) c i = cf i from if_neg h0]
        exact b1 i (by omega)
    · rw [E 2 (by decide)]; rw [Z 2 (by decide)] at hi
      exact b2 i hi
    · rw [Zj, Z 2 (by decide)]
      show ns (va_up cf (sz 5) c) (sz 5) + va_up cf (sz 5) c (sz 5) + ns wf (sz 2) ≤ cnts + c
      rw [(ns_up cf (sz 5) c (sz 5)).2 (Nat.le_refl _), show va_up cf (sz 5) c (sz 5) = c from if_pos rfl]
      omega
    · rw [Z 2 (by decide)]; exact b5
    · rw [Z 2 (by decide)]; exact b6
theorem cntR_sn (p : Nat → Bool) : ∀ (d i : Nat) (a : Int32), cntR p (d + 1) i a = if p (i + d) then cntR p d i a + 1 else cntR p d i a
  | 0, i, a => rfl
  | d + 1, i, a => by
    show cntR p (d + 1) (i + 1) (if p i then a + 1 else a) = if p (i + (d + 1)) then cntR p d (i + 1) (if p i then a + 1 else a) + 1 else cntR p d (i + 1) (if p i then a + 1 else a)
    rw [cntR_sn p d (i + 1), show i + 1 + d = i + (d + 1) by omega]
theorem cntR_cg {p q : Nat → Bool} : ∀ (d i : Nat) (a : Int32), (∀ k : Nat, i ≤ k → k < i + d → p k = q k) → cntR p d i a = cntR q d i a
  | 0, _, _, _ => rfl
  | d + 1, i, a, h => by
    show cntR p d (i + 1) (if p i then a + 1 else a) = cntR q d (i + 1) (if q i then a + 1 else a)
    rw [h i (Nat.le_refl i) (by omega)]
    exact cntR_cg d (i + 1) _ (fun k h1 h2 => h k (by omega) (by omega))
/-- a squadron more -/
theorem IV_addSq {e9 : Nat × Nat} {x lo ta M cnts pw ow dn a m : Nat} {told : Int32} {la : Nat → Nat} {S S0 S1 : wPS} {el : Nat → Nat → Nat} {sz cp : Nat → Nat} (h : IV e9 x lo ta la M cnts told S el sz cp pw ow dn) (hC0 : Ch [] [] S S0) (hK0 : Kw S S0) (fa : a ∉ sL S) (ha : a ∈ sL S0) (hA : AddP e9 S0 (la 2) 6 (el 2) (sz 2) (cp 2) a S1) (n1 : sqI S0 a) (n2 : sI S0 q_Squadron_machines a = nI m) (n3 : sI S0 q_Squadron_won a = 0) (n4 : sI S0 q_Squadron_state a = 0) : ∃ c1 : Nat, IV e9 x lo ta la M cnts (told + nI m) S1 (va_up el 2 (va_up (el 2) (sz 2) a)) (va_up sz 2 (sz 2 + 1)) (va_up cp 2 c1) pw ow dn := by
  obtain ⟨h1, h2, h3, h4, h5, h6, h7, h8, h9, h10, h11, h12⟩ := h
  have hC3 := hA.ch
  obtain ⟨⟨c1, hs⟩, hC, hai, har, E, Z, Ej, Zj⟩ := add_common (j := 2) h1 (by decide) (by decide) hC0 hK0 fa ha hA
  refine ⟨c1, hs, (h2.ch h1 hC (by decide)).cg (E 5 (by decide)) (Z 5 (by decide)), fun i hi => ?_, (h4.ch h1 hC (by decide)).cg (E 7 (by decide)) (Z 7 (by decide)), (h5.ch h1 hC (by decide)).cg (E 0 (by decide)) (Z 0 (by decide)), (h6.ch h12 h1 hC (by decide) (by decide)).cg (E 0 (by decide)) (Z 0 (by decide)) (fun i _ => congrFun (E 8 (by decide)) i), h7.ch h1 hC (by decide), (h8.ch h1 hC (by decide)).cg (E 0 (by decide)) (Z 0 (by decide)) (E 7 (by decide)) (Z 7 (by decide)), ?_, ?_, ?_, by rw [Z 8 (by decide)]; exact h12⟩
  · rw [Ej]; rw [Zj] at hi
    by_cases h0 : i = sz 2
    · rw [show va_up (el 2) (sz 2) a i = a from if_pos h0]
      exact n1.ch ha hC3 (by decide) (by decide)
    · rw [show va_up (el 2) (sz 2) a i = el 2 i from if_neg h0]
      exact (h3.ch h1 hC (by decide) (by decide)) i (by omega)
  · obtain ⟨cf, wf, cn, b1, b2, b3, b4, b5, b6⟩ := h9.ch (S1 := S1) h1 hC (by decide)
    have hw : ns (va_up wf (sz 2) 0) (sz 2 + 1) = ns wf (sz 2) := by
      show ns (va_up wf (sz 2) 0) (sz 2) + va_up wf (sz 2) 0 (sz 2) = _
      rw [(ns_up wf (sz 2) 0 (sz 2)).2 (Nat.le_refl _), show va_up wf (sz 2) 0 (sz 2) = 0 from if_pos rfl, Nat.add_zero]
    refine ⟨cf, va_up wf (sz 2) 0, cn, fun i hi => ?_, fun i hi => ?_, b3, ?_, ?_, ?_⟩
    · rw [E 5 (by decide)]; rw [Z 5 (by decide)] at hi
      exact b1 i hi
    · rw [Ej]; rw [Zj] at hi
      by_cases h0 : i = sz 2
      · rw [show va_up (el 2) (sz 2) a i = a from if_pos h0, show va_up wf (sz 2) 0 i = 0 from if_pos h0, hai _ (by decide)]
        exact n3.trans nI_0.symm
      · rw [show va_up (el 2) (sz 2) a i = el 2 i from if_neg h0, show va_up wf (sz 2) 0 i = wf i from if_neg h0]
        exact b2 i (by omega)
    · rw [Zj, Z 5 (by decide), hw]; exact b4
    · rw [Zj, hw]; exact b5
    · rw [Zj, hw]; exact b6
  · have b1 := h10.ch (S1 := S1) h1 hC (by decide)
    unfold SM3 at b1 ⊢
    rw [Ej, Zj, sumR_sn, Nat.zero_add, show va_up (el 2) (sz 2) a (sz 2) = a from if_pos rfl, hai _ (by decide), n2, sumR_cg (f := fun i => sI S1 q_Squadron_machines (va_up (el 2) (sz 2) a i)) (g := fun i => sI S1 q_Squadron_machines (el 2 i)) (sz 2) 0 0 (fun i _ hi => congrArg (sI S1 q_Squadron_machines) (if_neg (by omega : i ≠ sz 2))), ← b1]
    grind
  · obtain ⟨tk, b1, b2⟩ := h11.ch (S1 := S1) h1 hC (by decide)
    refine ⟨tk, b1, ?_⟩
    unfold countTalksF at b2 ⊢
    rw [Ej, Zj, cntR_sn, Nat.zero_add, show va_up (el 2) (sz 2) a (sz 2) = a from if_pos rfl, if_neg (by unfold talkB; rw [hai _ (by decide), n4]; decide), cntR_cg (p := fun i => talkB S1 (va_up (el 2) (sz 2) a i)) (q := fun i => talkB S1 (el 2 i)) (sz 2) 0 0 (fun i _ hi => congrArg (talkB S1) (if_neg (by omega : i ≠ sz 2)))]
    exact b2
def PL1 (S : wPS) (el : Nat → Nat → Nat) (sz : Nat → Nat) : Prop := ∀ i : Nat, i < sz 1 → isPlaceB (sI S q_Place_x (el 1 i)) (sI S q_Place_y (el 1 i)) = true
theorem PL1.ch {e9 : Nat × Nat} {x lo ta : Nat} {la : Nat → Nat} {S S1 : wPS} {el : Nat → Nat → Nat} {sz cp : Nat → Nat} {cs rs : List Nat} (h : PL1 S el sz) (hs : ST e9 x lo ta la S el sz cp) (hC : Ch cs rs S S1) (n : Nc [q_Place_x, q_Place_y] cs) : PL1 S1 el sz := fun i hi => by
  have ho := (hs.ob (j := 1) (by decide) hi).1
  rw [hC.2.1 q_Place_x (n.n (by decide)) _ ho, hC.2.1 q_Place_y (n.n (by decide)) _ ho]
  exact h i hi
theorem PL1_add {e9 : Nat × Nat} {x lo ta a : Nat} {la : Nat → Nat} {S S0 S1 : wPS} {el : Nat → Nat → Nat} {sz cp : Nat → Nat} (h : PL1 S el sz) (h1 : ST e9 x lo ta la S el sz cp) (hC0 : Ch [] [] S S0) (hK0 : Kw S S0) (fa : a ∉ sL S) (ha : a ∈ sL S0) (hA : AddP e9 S0 (la 1) 4 (el 1) (sz 1) (cp 1) a S1) (n1 : isPlaceB (sI S0 q_Place_x a) (sI S0 q_Place_y a) = true) : PL1 S1 (va_up el 1 (va_up (el 1) (sz 1) a)) (va_up sz 1 (sz 1 + 1)) := fun i hi => by
  obtain ⟨-, hC, hai, -, E, Z, Ej, Zj⟩ := add_common (j := 1) h1 (by decide) (by decide) hC0 hK0 fa ha hA
  rw [Ej]; rw [Zj] at hi
  by_cases h0 : i = sz 1
  · rw [show va_up (el 1) (sz 1) a i = a from if_pos h0, hai _ (by decide), hai _ (by decide)]
    exact n1
  · rw [show va_up (el 1) (sz 1) a i = el 1 i from if_neg h0]
    exact (h.ch h1 hC (by decide)) i (by omega)
theorem PL1_sq {e9 : Nat × Nat} {x lo ta a : Nat} {la : Nat → Nat} {S S0 S1 : wPS} {el : Nat → Nat → Nat} {sz cp : Nat → Nat} (h : PL1 S el sz) (h1 : ST e9 x lo ta la S el sz cp) (hC0 : Ch [] [] S S0) (hK0 : Kw S S0) (fa : a ∉ sL S) (ha : a ∈ sL S0) (hA : AddP e9 S0 (la 2) 6 (el 2) (sz 2) (cp 2) a S1) : PL1 S1 (va_up el 2 (va_up (el 2) (sz 2) a)) (va_up sz 2 (sz 2 + 1)) := fun i hi => by
  obtain ⟨-, hC, hai, -, E, Z, Ej, Zj⟩ := add_common (j := 2) h1 (by decide) (by decide) hC0 hK0 fa ha hA
  rw [E 1 (by decide)]; rw [Z 1 (by decide)] at hi
  exact (h.ch h1 hC (by decide)) i hi

