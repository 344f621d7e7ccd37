theorem g_gen {κ : KX} {S : wPS} {k n pc : Nat} {lv : List (Nat × Value)} {st : List Value} {P : wPS → Prop} (hP : P S) (kk : ∀ S1 : wPS, P S1 → Gj κ (PV κ S1 k n) pc lv st) : Gj κ (PV κ S k n) pc lv st := kk S hP
theorem rem_all : ((List.range 241).all fun t => decide (nI t - nI t / 6 * 6 = nI (t % 6)) && decide (nI t - nI t / 5 * 5 = nI (t % 5))) = true := by decide +kernel
theorem rem6 {t : Nat} (h : t ≤ 240) : nI t - nI t / 6 * 6 = nI (t % 6) := of_decide_eq_true (Bool.and_eq_true_iff.mp (List.all_eq_true.mp rem_all t (List.mem_range.mpr (by omega)))).1
theorem win_nI {S : wPS} {q f m c t : Nat} (hm : m ≤ 12) (hmm : sI S q_Squadron_machines q = nI m) (hc : sI S q_Flight_count f = nI c) (hc2 : c ≤ 1188) (ht : t ≤ 240) : ∃ w : Nat, w ≤ c ∧ winF S q f (nI t) = nI w := by
  have e : sI S q_Squadron_machines q * (2 + (nI t - nI t / 6 * 6)) / 8 = nI (m * (2 + t % 6) / 8) := by
    have b : m * (2 + t % 6) ≤ 12 * 8 := Nat.mul_le_mul hm (by omega)
    rw [hmm, rem6 ht, show (2 : Int32) = nI 2 by decide, nI_add, pk_mul, show (8 : Int32) = nI 8 by decide]
    exact pk_div (by omega) (by omega) (by omega)
  have b : m * (2 + t % 6) ≤ 12 * 8 := Nat.mul_le_mul hm (by omega)
  have b2 : m * (2 + t % 6) / 8 ≤ m * (2 + t % 6) := Nat.div_le_self _ _
  unfold winF
  rw [e, hc]
  by_cases h : nI (m * (2 + t % 6) / 8) < nI c
  · rw [if_pos h]
    have := (nI_ltI (by omega) (by omega)).mp h
    exact ⟨_, by omega, rfl⟩
  · rw [if_neg h]; exact ⟨c, Nat.le_refl c, rfl⟩
theorem lost_nI {c t : Nat} (hc : c ≤ 1188) (ht : t ≤ 240) : ∃ l : Nat, l ≤ 5940 ∧ nI c * (nI t - nI t / 6 * 6) / 40 = nI l := by
  have b : c * (t % 6) ≤ 1188 * 5 := Nat.mul_le_mul hc (by omega)
  have b2 : c * (t % 6) / 40 ≤ c * (t % 6) := Nat.div_le_self _ _
  refine ⟨c * (t % 6) / 40, by omega, ?_⟩
  rw [rem6 ht, pk_mul, show (40 : Int32) = nI 40 by decide]
  exact pk_div (by omega) (by omega) (by omega)
theorem min_nI {m l : Nat} (hm : m ≤ 12) (hl : l ≤ 5940) : ∃ r : Nat, r ≤ m ∧ (if nI l < nI m then nI l else nI m) = nI r := by
  by_cases h : nI l < nI m
  · rw [if_pos h]
    have := (nI_ltI (by omega) (by omega)).mp h
    exact ⟨l, by omega, rfl⟩
  · rw [if_neg h]; exact ⟨m, Nat.le_refl m, rfl⟩
theorem SM2.cnt {S : wPS} {ta cnts i : Nat} {el : Nat → Nat → Nat} {sz : Nat → Nat} (h : SM2 S ta el sz cnts) (hi : i < sz 5) : ∃ c : Nat, c ≤ cnts ∧ sI S q_Flight_count (el 5 i) = nI c := by
  obtain ⟨cf, wf, cn, h1, h2, h3, h4, h5, h6⟩ := h
  have := ns_ge cf i (sz 5) hi
  exact ⟨cf i, by omega, h1 i hi⟩
theorem loseF_at {S : wPS} {f : Nat} {m : Int32} : sI (loseF S f m) q_Flight_count f = sI S q_Flight_count f - m ∧ (sI (loseF S f m) q_Flight_isUp f = 0 ∨ 0 < sI S q_Flight_count f - m) := by
  unfold loseF
  by_cases h : 0 < sI S q_Flight_count f - m
  · rw [if_pos h]; exact ⟨putI_at, Or.inr h⟩
  · rw [if_neg h]; exact ⟨(putI_col _ _ (Or.inl (by decide))).trans putI_at, Or.inl putI_at⟩
theorem loseF_other {S : wPS} {f b : Nat} {m : Int32} (c : Nat) (hb : b ≠ f) : sI (loseF S f m) c b = sI S c b := by
  unfold loseF
  by_cases h : 0 < sI S q_Flight_count f - m
  · rw [if_pos h]; exact putI_col _ _ (Or.inr hb)
  · rw [if_neg h]; exact (putI_col _ _ (Or.inr hb)).trans (putI_col _ _ (Or.inr hb))
theorem lose_EL1 {e9 : Nat × Nat} {x lo ta i : Nat} {la : Nat → Nat} {S S1 : wPS} {el : Nat → Nat → Nat} {sz cp : Nat → Nat} {m : Int32} (h2 : EL1 S el sz) (hs : ST e9 x lo ta la S el sz cp) (hi : i < sz 5) (hx : ∀ c : Nat, (c = q_Flight_x ∨ c = q_Flight_y ∨ c = q_Flight_isUp ∨ c = q_Flight_count) → ∀ b : Nat, b ∈ sL S → sI S1 c b = sI (loseF S (el 5 i) m) c b) : EL1 S1 el sz := fun k hk => by
  have ho := (hs.ob (j := 5) (by decide) hk).1
  unfold flI
  rw [hx _ (Or.inl rfl) _ ho, hx _ (Or.inr (Or.inl rfl)) _ ho, hx _ (Or.inr (Or.inr (Or.inl rfl))) _ ho, hx _ (Or.inr (Or.inr (Or.inr rfl))) _ ho]
  have h9 := h2 k hk
  by_cases hki : el 5 k = el 5 i
  · rw [hki] at h9 ⊢
    have hho := (hs.ob (j := 5) (by decide) hi).1
    rw [loseF_ch.1.2.1 q_Flight_x (by decide) _ hho, loseF_ch.1.2.1 q_Flight_y (by decide) _ hho]
    refine ⟨h9.1, ?_⟩
    rcases (loseF_at (S := S) (f := el 5 i) (m := m)).2 with a | a
    · exact Or.inl a
    · exact Or.inr (by rw [loseF_at.1]; exact a)
  · unfold flI at h9
    rw [loseF_other _ hki, loseF_other _ hki, loseF_other _ hki, loseF_other _ hki]
    exact h9
theorem IV_lose {e9 : Nat × Nat} {x lo ta M cnts pw ow dn i : Nat} {told : Int32} {la : Nat → Nat} {S : wPS} {el : Nat → Nat → Nat} {sz cp : Nat → Nat} (h : IV e9 x lo ta la M cnts told S el sz cp pw ow dn) (hi : i < sz 5) (hup : ¬ sI S q_Flight_isUp (el 5 i) = 0) (hcn : cnts ≤ 1188) : IV e9 x lo ta la M cnts told (loseF S (el 5 i) 1) el sz cp pw ow dn := by
  obtain ⟨h1, h2, h3, h4, h5, h6, h7, h8, h9, h10, h11, h12⟩ := h
  obtain ⟨hC, hW⟩ := loseF_ch (S := S) (f := el 5 i) (m := 1)
  refine ⟨h1.ch hC hW (by decide) (fun c hc => absurd hc List.not_mem_nil), lose_EL1 h2 h1 hi (fun _ _ _ _ => rfl), h3.ch h1 hC (by decide) (by decide), h4.ch h1 hC (by decide), h5.ch h1 hC (by decide), h6.ch h12 h1 hC (by decide) (by decide), h7.ch h1 hC (by decide), h8.ch h1 hC (by decide), ?_, h10.ch h1 hC (by decide), h11.ch h1 hC (by decide), h12⟩
  obtain ⟨cf, wf, cn, a1, a2, a3, a4, a5, a6⟩ := h9
  have hge := ns_ge cf i (sz 5) hi
  have hc1 : 0 < cf i := by
    rcases (h2 i hi).2 with z | z
    · exact absurd z hup
    · rw [a1 i hi] at z
      have := (nI_ltI (a := 0) (b := cf i) (by omega) (by omega)).mp (by rw [nI_0]; exact z)
      omega
  have hn := (ns_up cf i (cf i - 1) (sz 5)).1 hi
  refine ⟨va_up cf i (cf i - 1), wf, cn, fun k hk => ?_, fun k hk => (hC.2.1 q_Squadron_won (by decide) _ (h1.ob (j := 2) (by decide) hk).1).trans (a2 k hk), (hC.2.1 q_Tally_claims (by decide) _ h1.ta_ob.1).trans a3, by omega, a5, a6⟩
  by_cases hki : k = i
  · subst hki
    rw [show va_up cf k (cf k - 1) k = cf k - 1 from if_pos rfl, loseF_at.1, a1 k hk, ← pk_sub (a := cf k) (b := 1) (by omega)]
    rfl
  · rw [show va_up cf i (cf i - 1) k = cf k from if_neg hki, loseF_other _ (fun z => hki (h1.2.2.2.2.2.2.1 5 k i (by decide) hk hi z)), a1 k hk]
def winS (S : wPS) (q f ta w : Nat) : wPS := putI (putI (putI (loseF S f (nI w)) q_Squadron_won q (sI (loseF S f (nI w)) q_Squadron_won q + nI w)) q_Tally_fights ta (sI (putI (loseF S f (nI w)) q_Squadron_won q (sI (loseF S f (nI w)) q_Squadron_won q + nI w)) q_Tally_fights ta + 1)) q_Tally_claims ta (sI (putI (putI (loseF S f (nI w)) q_Squadron_won q (sI (loseF S f (nI w)) q_Squadron_won q + nI w)) q_Tally_fights ta (sI (putI (loseF S f (nI w)) q_Squadron_won q (sI (loseF S f (nI w)) q_Squadron_won q + nI w)) q_Tally_fights ta + 1)) q_Tally_claims ta + (nI w + nI w / 2))
theorem IV_win {e9 : Nat × Nat} {x lo ta M cnts pw ow dn i k w c : Nat} {told : Int32} {la : Nat → Nat} {S : wPS} {el : Nat → Nat → Nat} {sz cp : Nat → Nat} (h : IV e9 x lo ta la M cnts told S el sz cp pw ow dn) (hi : i < sz 2) (hk : k < sz 5) (hcn : cnts ≤ 1188) (hc : sI S q_Flight_count (el 5 k) = nI c) (hc2 : c ≤ cnts) (hw : w ≤ c) : IV e9 x lo ta la M cnts told (winS S (el 2 i) (el 5 k) ta w) el sz cp pw ow dn := by
  obtain ⟨h1, h2, h3, h4, h5, h6, h7, h8, h9, h10, h11, h12⟩ := h
  have hL := loseF_ch (S := S) (f := el 5 k) (m := nI w)
  have hC : Ch [q_Flight_count, q_Flight_isUp, q_Squadron_won, q_Tally_fights, q_Tally_claims] [] S (winS S (el 2 i) (el 5 k) ta w) := ch_I' (ch_I' (ch_I' (hL.1.weak (by decide) (by decide)) (by decide)) (by decide)) (by decide)
  have hW : Kw S (winS S (el 2 i) (el 5 k) ta w) := hL.2
  have ex : ∀ c0 b : Nat, c0 ≠ q_Squadron_won → c0 ≠ q_Tally_fights → c0 ≠ q_Tally_claims → sI (winS S (el 2 i) (el 5 k) ta w) c0 b = sI (loseF S (el 5 k) (nI w)) c0 b := fun c0 b n1 n2 n3 => (putI_col c0 b (Or.inl n3)).trans ((putI_col c0 b (Or.inl n2)).trans (putI_col c0 b (Or.inl n1)))
  refine ⟨h1.ch hC hW (by decide) (fun c hc => absurd hc List.not_mem_nil), lose_EL1 h2 h1 hk (m := nI w) (fun c0 hc0 b _ => ex c0 b (by rcases hc0 with z | z | z | z <;> rw [z] <;> decide) (by rcases hc0 with z | z | z | z <;> rw [z] <;> decide) (by rcases hc0 with z | z | z | z <;> rw [z] <;> decide)), h3.ch h1 hC (by decide) (by decide), h4.ch h1 hC (by decide), h5.ch h1 hC (by decide), h6.ch h12 h1 hC (by decide) (by decide), h7.ch h1 hC (by decide), h8.ch h1 hC (by decide), ?_, h10.ch h1 hC (by decide), h11.ch h1 hC (by decide), h12⟩
  obtain ⟨cf, wf, cn, a1, a2, a3, a4, a5, a6⟩ := h9
  have hge := ns_ge cf k (sz 5) hk
  have hck : cf k = c := (nI_eq (by omega) (by omega)).mp ((a1 k hk).symm.trans hc)
  have hn := (ns_up cf k (cf k - w) (sz 5)).1 hk
  have hn2 := (ns_up wf i (wf i + w) (sz 2)).1 hi
  have e2 : nI w / 2 = nI (w / 2) := by rw [show (2 : Int32) = nI 2 by decide]; exact pk_div (by omega) (by omega) (by omega)
  refine ⟨va_up cf k (cf k - w), va_up wf i (wf i + w), cn + (w + w / 2), fun j hj => ?_, fun j hj => ?_, ?_, by omega, by omega, by omega⟩
  · rw [ex _ _ (by decide) (by decide) (by decide)]
    by_cases hki : j = k
    · subst hki
      rw [show va_up cf j (cf j - w) j = cf j - w from if_pos rfl, loseF_at.1, a1 j hj]
      exact pk_sub (by omega)
    · rw [show va_up cf k (cf k - w) j = cf j from if_neg hki, loseF_other _ (fun z => hki (h1.2.2.2.2.2.2.1 5 j k (by decide) hj hk z)), a1 j hj]
  · have e3 : sI (winS S (el 2 i) (el 5 k) ta w) q_Squadron_won (el 2 j) = sI (putI (loseF S (el 5 k) (nI w)) q_Squadron_won (el 2 i) (sI (loseF S (el 5 k) (nI w)) q_Squadron_won (el 2 i) + nI w)) q_Squadron_won (el 2 j) := (putI_col _ _ (Or.inl (by decide))).trans (putI_col _ _ (Or.inl (by decide)))
    rw [e3]
    by_cases hji : j = i
    · subst hji
      rw [show va_up wf j (wf j + w) j = wf j + w from if_pos rfl, putI_at, hL.1.2.1 q_Squadron_won (by decide) _ (h1.ob (j := 2) (by decide) hj).1, a2 j hj, nI_add]
    · rw [show va_up wf i (wf i + w) j = wf j from if_neg hji, putI_col _ _ (Or.inr (fun z => hji (h1.2.2.2.2.2.2.1 2 j i (by decide) hj hi z))), hL.1.2.1 q_Squadron_won (by decide) _ (h1.ob (j := 2) (by decide) hj).1, a2 j hj]
  · unfold winS
    rw [putI_at, putI_col q_Tally_claims ta (Or.inl (by decide)), putI_col q_Tally_claims ta (Or.inl (by decide)), hL.1.2.1 q_Tally_claims (by decide) _ h1.ta_ob.1, a3, e2, nI_add, nI_add]

