def swp (e : Nat → Nat) (i j : Nat) : Nat → Nat := va_up (va_up e i (e j)) j (e i)
theorem swp_j {e : Nat → Nat} {i j : Nat} : swp e i j j = e i := if_pos rfl
theorem swp_i {e : Nat → Nat} {i j : Nat} : swp e i j i = e j := by
  by_cases h : i = j
  · subst h; exact if_pos rfl
  · exact (if_neg h).trans (if_pos rfl)
theorem swp_o {e : Nat → Nat} {i j k : Nat} (h1 : k ≠ i) (h2 : k ≠ j) : swp e i j k = e k := (if_neg h2).trans (if_neg h1)
theorem swp_in {e : Nat → Nat} {i j n : Nat} (hi : i < n) (hj : j < n) {k : Nat} (hk : k < n) : ∃ k2 : Nat, k2 < n ∧ swp e i j k = e k2 := by
  by_cases h2 : k = j
  · subst h2; exact ⟨i, hi, swp_j⟩
  · by_cases h1 : k = i
    · subst h1; exact ⟨j, hj, swp_i⟩
    · exact ⟨k, hk, swp_o h1 h2⟩
theorem swp_inj {e : Nat → Nat} {i j n : Nat} (hi : i < n) (hj : j < n) (he : ∀ a b : Nat, a < n → b < n → e a = e b → a = b) {a b : Nat} (ha : a < n) (hb : b < n) (h : swp e i j a = swp e i j b) : a = b := by
  by_cases a2 : a = j
  · subst a2; rw [swp_j] at h
    by_cases b2 : b = a
    · exact b2.symm
    · by_cases b1 : b = i
      · subst b1; rw [swp_i] at h; exact he _ _ hj hb h.symm
      · rw [swp_o b1 b2] at h; exact absurd (he _ _ hi hb h).symm b1
  · by_cases a1 : a = i
    · subst a1; rw [swp_i] at h
      by_cases b2 : b = j
      · subst b2; rw [swp_j] at h; exact he _ _ ha hj h.symm
      · by_cases b1 : b = a
        · exact b1.symm
        · rw [swp_o b1 b2] at h; exact absurd (he _ _ hj hb h).symm b2
    · rw [swp_o a1 a2] at h
      by_cases b2 : b = j
      · subst b2; rw [swp_j] at h; exact absurd (he _ _ ha hi h) a1
      · by_cases b1 : b = i
        · subst b1; rw [swp_i] at h; exact absurd (he _ _ ha hj h) a2
        · rw [swp_o b1 b2] at h; exact he _ _ ha hb h
/-- two places of the list of plots change what they hold -/
theorem IV_swap {e9 : Nat × Nat} {x lo ta M cnts pw ow dn i j r0 : Nat} {told : Int32} {la : Nat → Nat} {S S2 : wPS} {el : Nat → Nat → Nat} {sz cp : Nat → Nat} (h : IV e9 x lo ta la M cnts told S el sz cp pw ow dn) (hi : i < pw) (hj : j < pw) (he : sR S q_List_elementData (la 8) = some r0) (hW : sW S2 r0 = va_up (va_up (sW S r0) i (some (el 8 j))) j (some (el 8 i))) (hWb : ∀ b : Nat, b ≠ r0 → sW S2 b = sW S b) (hL : sL S2 = sL S) (hK : sK S2 = sK S) (hI : sI S2 = sI S) (hR : sR S2 = sR S) (hN : sN S2 = sN S) : IV e9 x lo ta la M cnts told S2 (va_up el 8 (swp (el 8) i j)) sz cp pw ow dn := by
  obtain ⟨h1, h2, h3, h4, h5, h6, h7, h8, h9, h10, h11, h12⟩ := h
  have E : ∀ k : Nat, k ≠ 8 → va_up el 8 (swp (el 8) i j) k = el k := fun k hk => if_neg hk
  have E8 : va_up el 8 (swp (el 8) i j) 8 = swp (el 8) i j := if_pos rfl
  have hC : Ch [] [] S S2 := ⟨fun b hb => by rw [hL, hK]; exact ⟨hb, rfl⟩, fun c _ b _ => by rw [hI], fun c _ b _ => by rw [hR]⟩
  have hF : Fr (fun _ => False) (fun b => b = r0) S S2 := fun b hb => ⟨by rw [hL, hK]; exact ⟨hb, rfl⟩, fun _ c => by rw [hI], fun hn => ⟨fun c => by rw [hR], by rw [hN], hWb b hn⟩⟩
  have h8L := h1.ls (j := 8) (by decide)
  have hne : r0 ≠ e9.1 := by
    rcases h8L.2.2.2 with ⟨hc, -⟩ | ⟨-, r1, e1, -, -, e2⟩
    · have := h8L.2.1; omega
    · exact (Option.some.inj (e1.symm.trans he)) ▸ e2
  have hr0 : r0 ∈ sL S ∧ sK S r0 = 12 ∧ sz 8 ≤ sN S r0 ∧ sN S r0 ≤ 200000 := by
    obtain ⟨r1, e1, e2, e3, e4, -⟩ := h8L.1.2.2.2.1 i (by omega)
    have : r1 = r0 := Option.some.inj (e1.symm.trans he)
    subst this
    exact ⟨e2.1, e2.2, e3, e4⟩
  have hT : ST e9 x lo ta la S2 (va_up el 8 (swp (el 8) i j)) sz cp := by
    obtain ⟨a1, a2, a3, a4, a5, a6, a7, a8⟩ := h1
    refine ⟨hC.o a1, fun k hk => ⟨by rw [hR]; exact (a2 k hk).1, ?_⟩, ⟨by rw [hR]; exact a3.1, hC.o a3.2⟩, ⟨by rw [hR]; exact a4.1, hC.o a4.2⟩, a5, fun k1 k2 r b1 b2 b3 b4 b5 => by rw [hR] at b4 b5; exact a6 k1 k2 r b1 b2 b3 b4 b5, ?_, a8⟩
    · by_cases hk8 : k = 8
      · subst hk8
        rw [E8]
        obtain ⟨⟨b1, b2, b3, b4, b5⟩, b6, b7, b8⟩ := (a2 8 hk).2
        refine ⟨⟨hC.o b1, by rw [hI]; exact b2, b3, fun q hq => ?_, fun q hq => ?_⟩, b6, b7, ?_⟩
        · refine ⟨r0, by rw [hR]; exact he, hC.o ⟨hr0.1, hr0.2.1⟩, by rw [hN]; exact hr0.2.2.1, by rw [hN]; exact hr0.2.2.2, ?_⟩
          obtain ⟨r1, c1, -, -, -, c2⟩ := b4 q hq
          have c3 : r1 = r0 := Option.some.inj (c1.symm.trans he)
          rw [c3] at c2
          rw [hW]
          by_cases q2 : q = j
          · subst q2; rw [swp_j]; exact if_pos rfl
          · by_cases q1 : q = i
            · subst q1; rw [swp_i]; exact (if_neg q2).trans (if_pos rfl)
            · rw [swp_o q1 q2]; exact ((if_neg q2).trans (if_neg q1)).trans c2
        · obtain ⟨k2, d1, d2⟩ := swp_in (e := el 8) (Nat.lt_of_lt_of_le hi h12) (Nat.lt_of_lt_of_le hj h12) hq
          rw [d2]; exact hC.o (b5 k2 d1)
        · rcases b8 with ⟨c1, c2⟩ | ⟨c1, r, c2, c3, c4, c5⟩
          · exact Or.inl ⟨c1, by rw [hR]; exact c2⟩
          · exact Or.inr ⟨c1, r, by rw [hR]; exact c2, hC.o c3, by rw [hN]; exact c4, c5⟩
      · rw [E k hk8]
        refine (a2 k hk).2.fr hF (fun z => z) (fun z => ?_) (fun r e1 _ _ hr9 z => ?_)
        · have e1 := (a2 k hk).2.1.1.2
          rw [z, hr0.2.1] at e1; exact absurd e1 (by decide)
        · subst z; exact hk8 (a6 k 8 r hk (by decide) hr9 e1 he)
    · intro k a b hk ha hb hab
      by_cases hk8 : k = 8
      · subst hk8
        rw [E8] at hab
        exact swp_inj (Nat.lt_of_lt_of_le hi h12) (Nat.lt_of_lt_of_le hj h12) (fun a b ha hb => a7 8 a b (by decide) ha hb) ha hb hab
      · rw [E k hk8] at hab
        exact a7 k a b hk ha hb hab
  refine ⟨hT, (h2.ch h1 hC (by decide)).cg (E 5 (by decide)) rfl, (h3.ch h1 hC (by decide) (by decide)).cg (E 2 (by decide)) rfl, (h4.ch h1 hC (by decide)).cg (E 7 (by decide)) rfl, (h5.ch h1 hC (by decide)).cg (E 0 (by decide)) rfl, fun q hq => ?_, h7.ch h1 hC (by decide), (h8.ch h1 hC (by decide)).cg (E 0 (by decide)) rfl (E 7 (by decide)) rfl, (h9.ch h1 hC (by decide)).cg (E 5 (by decide)) rfl (E 2 (by decide)) rfl, (h10.ch h1 hC (by decide)).cg (E 2 (by decide)) rfl, (h11.ch h1 hC (by decide)).cg (E 2 (by decide)) rfl, h12⟩
  obtain ⟨k2, d1, d2⟩ := swp_in (e := el 8) hi hj hq
  rw [E8, d2, E 0 (by decide)]
  exact (h6.ch h12 h1 hC (by decide) (by decide)) k2 d1
/-- as many plots are on their way as were kept -/
theorem IV_kept {e9 : Nat × Nat} {x lo ta M cnts pw ow dn kp : Nat} {told : Int32} {la : Nat → Nat} {S : wPS} {el : Nat → Nat → Nat} {sz cp : Nat → Nat} (h : IV e9 x lo ta la M cnts told S el sz cp pw ow dn) (hk : kp ≤ pw) : IV e9 x lo ta la M cnts told (putI S q_Room_plotsOnWay x (nI kp)) el sz cp kp ow dn := by
  obtain ⟨h1, h2, h3, h4, h5, h6, h7, h8, h9, h10, h11, h12⟩ := h
  have hC : Ch [q_Room_plotsOnWay] [] S (putI S q_Room_plotsOnWay x (nI kp)) := ch_I (by decide)
  obtain ⟨a1, a2, a3, a4, a5⟩ := h7
  refine ⟨h1.ch hC kw_I (by decide) (fun c hc => absurd hc List.not_mem_nil), h2.ch h1 hC (by decide), h3.ch h1 hC (by decide) (by decide), h4.ch h1 hC (by decide), h5.ch h1 hC (by decide), fun i hi => (h6.ch h12 h1 hC (by decide) (by decide)) i (by omega), ⟨(hC.2.1 q_Room_minute (by decide) _ h1.1.1).trans a1, putI_at, by rw [hC.2.1 q_Lots_next (by decide) _ h1.lo_ob.1]; exact a3, (hC.2.1 q_Lots_drawn (by decide) _ h1.lo_ob.1).trans a4, (hC.2.1 q_Tally_refused (by decide) _ h1.ta_ob.1).trans a5⟩, h8.ch h1 hC (by decide), h9.ch h1 hC (by decide), h10.ch h1 hC (by decide), h11.ch h1 hC (by decide), by omega⟩
theorem GR.sw {el el1 : Nat → Nat → Nat} {sz sz1 : Nat → Nat} {e : Nat → Nat} (h : GR el sz el1 sz1) : GR el sz (va_up el1 8 e) sz1 := ⟨fun j h7 h8 => ⟨(if_neg h8).trans (h.1 j h7 h8).1, (h.1 j h7 h8).2⟩, h.2.1, h.2.2⟩
theorem set_y {S : wPS} {r0 i j k v : Nat} (h : sW S r0 j = some v) (hk : k = i) : sW (putW S r0 (va_up (sW S r0) k (some v))) r0 j = some v := by
  show va_up (sW S) r0 (va_up (sW S r0) k (some v)) r0 j = some v
  rw [show va_up (sW S) r0 (va_up (sW S r0) k (some v)) r0 = va_up (sW S r0) k (some v) from if_pos rfl]
  by_cases hj : j = k
  · exact if_pos hj
  · exact (if_neg hj).trans h
theorem sw_W {S : wPS} {r0 i j ki kj u v : Nat} (hi : ki = i) (hj : kj = j) : sW (putW (putW S r0 (va_up (sW S r0) ki (some u))) r0 (va_up (sW (putW S r0 (va_up (sW S r0) ki (some u))) r0) kj (some v))) r0 = va_up (va_up (sW S r0) i (some u)) j (some v) := by
  subst hi; subst hj
  have h1 : sW (putW S r0 (va_up (sW S r0) ki (some u))) r0 = va_up (sW S r0) ki (some u) := if_pos rfl
  exact (if_pos rfl : sW (putW (putW S r0 (va_up (sW S r0) ki (some u))) r0 (va_up (sW (putW S r0 (va_up (sW S r0) ki (some u))) r0) kj (some v))) r0 = va_up (sW (putW S r0 (va_up (sW S r0) ki (some u))) r0) kj (some v)).trans (by rw [h1])
theorem sw_Wb {S : wPS} {r0 b : Nat} {f g : Nat → Option Nat} (hb : b ≠ r0) : sW (putW (putW S r0 f) r0 g) b = sW S b := (if_neg hb).trans (if_neg hb)

