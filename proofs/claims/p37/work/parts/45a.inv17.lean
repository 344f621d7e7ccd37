theorem IV_sqG {e9 : Nat × Nat} {x lo ta M cnts pw ow dn i : Nat} {told told1 : Int32} {la : Nat → Nat} {S S1 : wPS} {el : Nat → Nat → Nat} {sz cp : Nat → Nat} (h : IV e9 x lo ta la M cnts told S el sz cp pw ow dn) (hC : Ch [q_Squadron_state, q_Squadron_due, q_Squadron_fuel, q_Squadron_x, q_Squadron_y, q_Squadron_machines, q_Tally_machinesLost] [q_Squadron_target] S S1) (hW : Kw S S1) (hO : ∀ b : Nat, b ∈ sL S → b ≠ el 2 i → (∀ c : Nat, c ≠ q_Tally_machinesLost → sI S1 c b = sI S c b) ∧ ∀ c : Nat, sR S1 c b = sR S c b) (hq : sqI S1 (el 2 i)) (hM : SM3 S1 ta el sz told1) (hT : SM4 S1 el sz) : IV e9 x lo ta la M cnts told1 S1 el sz cp pw ow dn := by
  obtain ⟨h1, h2, h3, h4, h5, h6, h7, h8, h9, h10, h11, h12⟩ := h
  refine ⟨h1.ch hC hW (by decide) (by decide), h2.ch h1 hC (by decide), fun k hk => ?_, h4.ch h1 hC (by decide), h5.ch h1 hC (by decide), h6.ch h12 h1 hC (by decide) (by decide), h7.ch h1 hC (by decide), h8.ch h1 hC (by decide), h9.ch h1 hC (by decide), hM, hT, h12⟩
  by_cases hki : el 2 k = el 2 i
  · rw [hki]; exact hq
  · have ho := (h1.ob (j := 2) (by decide) hk).1
    obtain ⟨e1, e2⟩ := hO _ ho hki
    obtain ⟨a1, a2, a3, a4, a5, ⟨b, a6, a7, a8⟩, a9⟩ := h3 k hk
    unfold sqI
    rw [e1 _ (by decide), e1 _ (by decide), e1 _ (by decide), e1 _ (by decide), e1 _ (by decide), e1 _ (by decide), e1 _ (by decide), e2, e2]
    refine ⟨a1, a2, a3, a4, a5, ⟨b, a6, hC.o a7, ?_⟩, ?_⟩
    · rw [hC.2.1 q_Place_x (by decide) _ a7.1, hC.2.1 q_Place_y (by decide) _ a7.1]; exact a8
    · rcases a9 with a9 | ⟨t, a9, a10⟩
      · exact Or.inl a9
      · exact Or.inr ⟨t, a9, hC.o a10⟩
theorem SM3_sq {e9 : Nat × Nat} {x lo ta i : Nat} {told : Int32} {la : Nat → Nat} {S S1 : wPS} {el : Nat → Nat → Nat} {sz cp : Nat → Nat} (h10 : SM3 S ta el sz told) (h1 : ST e9 x lo ta la S el sz cp) (hi : i < sz 2) (hO : ∀ b : Nat, b ∈ sL S → b ≠ el 2 i → sI S1 q_Squadron_machines b = sI S q_Squadron_machines b) (hl : sI S1 q_Tally_machinesLost ta = sI S q_Tally_machinesLost ta) : SM3 S1 ta el sz (told + (sI S1 q_Squadron_machines (el 2 i) - sI S q_Squadron_machines (el 2 i))) := by
  unfold SM3 at h10 ⊢
  have e := sumR_up (f := fun k => sI S q_Squadron_machines (el 2 k)) (g := fun k => sI S1 q_Squadron_machines (el 2 k)) (k0 := i) (v := sI S1 q_Squadron_machines (el 2 i) - sI S q_Squadron_machines (el 2 i)) (sz 2) 0 0 (Nat.zero_le i) (by omega) (fun k _ hk hne => hO _ (h1.ob (j := 2) (by decide) (by omega)).1 (fun z => hne (h1.2.2.2.2.2.2.1 2 k i (by decide) (by omega) hi z))) (by show sI S1 q_Squadron_machines (el 2 i) = _ ; grind)
  rw [e, hl, ← h10]
  grind
theorem cntR_sum (p : Nat → Bool) : ∀ (d i : Nat) (a : Int32), cntR p d i a = sumR (fun k => if p k then 1 else 0) d i a
  | 0, _, _ => rfl
  | d + 1, i, a => by
    show cntR p d (i + 1) (if p i then a + 1 else a) = sumR (fun k => if p k then 1 else 0) d (i + 1) (a + (if p i then 1 else 0))
    rw [cntR_sum p d (i + 1)]
    congr 1
    by_cases h : p i = true
    · rw [if_pos h, if_pos h]
    · rw [if_neg h, if_neg h, Int32.add_zero]
theorem talks_up {S S1 : wPS} {el : Nat → Nat → Nat} {sz : Nat → Nat} {i : Nat} (hi : i < sz 2) (h0 : talkB S (el 2 i) = false) (h1 : talkB S1 (el 2 i) = true) (ho : ∀ k : Nat, k < sz 2 → k ≠ i → talkB S1 (el 2 k) = talkB S (el 2 k)) : countTalksF S1 el sz = countTalksF S el sz + 1 := by
  unfold countTalksF
  rw [cntR_sum, cntR_sum]
  refine sumR_up (k0 := i) (sz 2) 0 0 (Nat.zero_le i) (by omega) (fun k _ hk hne => ?_) ?_
  · show (if talkB S1 (el 2 k) = true then (1 : Int32) else 0) = if talkB S (el 2 k) = true then 1 else 0
    rw [ho k (by omega) hne]
  · show (if talkB S1 (el 2 i) = true then (1 : Int32) else 0) = (if talkB S (el 2 i) = true then 1 else 0) + 1
    rw [h0, h1]; decide
theorem od_i {S : wPS} {q t b c : Nat} {w : Int32} (hc : c ≠ q_Squadron_state) (hd : c ≠ q_Squadron_due) : sI (orderF S q t w) c b = sI S c b := (putI_col (S := putR (putI S q_Squadron_state q 1) q_Squadron_target q (some t)) (c := q_Squadron_due) (a := q) (v := w) c b (Or.inl hd)).trans (putI_col (S := S) (c := q_Squadron_state) (a := q) (v := 1) c b (Or.inl hc))
theorem od_st {S : wPS} {q t : Nat} {w : Int32} : sI (orderF S q t w) q_Squadron_state q = 1 := (putI_col (S := putR (putI S q_Squadron_state q 1) q_Squadron_target q (some t)) (c := q_Squadron_due) (a := q) (v := w) q_Squadron_state q (Or.inl (by decide))).trans (putI_at (S := S) (c := q_Squadron_state) (a := q) (v := 1))
theorem od_tg {S : wPS} {q t : Nat} {w : Int32} : sR (orderF S q t w) q_Squadron_target q = some t := putR_at (S := putI S q_Squadron_state q 1) (c := q_Squadron_target) (a := q) (v := some t)
theorem SqS.od {q ta t : Nat} {S : wPS} {w : Int32} : SqS q ta S (orderF S q t w) := (SqS.i (by decide)).trans (SqS.r.trans (SqS.i (by decide)))
/-- a squadron is scrambled -/
theorem IV_scr {e9 : Nat × Nat} {x lo ta M cnts pw ow dn i t : Nat} {told w : Int32} {la : Nat → Nat} {S : wPS} {el : Nat → Nat → Nat} {sz cp : Nat → Nat} (h : IV e9 x lo ta la M cnts told S el sz cp pw ow dn) (hi : i < sz 2) (hs : canStartB S (el 2 i) = true) (ht : t ∈ sL S ∧ sK S t = 9) (hc : countTalksF S el sz < 3) : IV e9 x lo ta la M cnts told (orderF S (el 2 i) t w) el sz cp pw ow dn := by
  have hq := h.1.ob (j := 2) (by decide) hi
  have h3 := h.2.2.1 i hi
  obtain ⟨b, hB⟩ := sqI.b hq h3
  obtain ⟨⟨m, hm, hmm, -⟩, hfu, -, hpl, -, -, -⟩ := h3
  unfold canStartB at hs
  obtain ⟨hs1, hs2⟩ := Bool.and_eq_true_iff.mp hs
  have hst : sI S q_Squadron_state (el 2 i) = 0 := of_decide_eq_true hs1
  have h0 : 0 < m := by
    rcases Nat.eq_zero_or_pos m with hz | hz
    · rw [hz, nI_0] at hmm
      rw [hmm] at hs2
      exact absurd hs2 (by decide)
    · exact hz
  have hS : SqS (el 2 i) ta S (orderF S (el 2 i) t w) := SqS.od
  obtain ⟨tk, k1, k2⟩ := h.2.2.2.2.2.2.2.2.2.2.1
  have hk3 : tk < 3 := by
    rw [k2] at hc
    exact (nI_ltI (b := 3) (by omega) (by decide)).mp hc
  have ht0 : talkB S (el 2 i) = false := by unfold talkB; rw [hst]; rfl
  have ht1 : talkB (orderF S (el 2 i) t w) (el 2 i) = true := by unfold talkB; rw [od_st]; rfl
  refine IV_sqG h hS.1 hS.2.1 hS.2.2.1 (sq_mk (hB.st hS) hm ((od_i (by decide) (by decide)).trans hmm) h0 (Or.inl od_st) (by rw [od_i (by decide) (by decide)]; exact hfu) (by rw [od_i (by decide) (by decide), od_i (by decide) (by decide)]; exact hpl) (Or.inr ⟨t, od_tg, hS.1.o ht⟩)) ?_ ⟨tk + 1, by omega, ?_⟩
  · have e := SM3_sq (S1 := orderF S (el 2 i) t w) h.2.2.2.2.2.2.2.2.2.1 h.1 hi (fun b _ _ => od_i (by decide) (by decide)) (od_i (by decide) (by decide))
    rw [od_i (by decide) (by decide), Int32.sub_self, Int32.add_zero] at e
    exact e
  · rw [talks_up hi ht0 ht1 (fun k hk hne => ?_), k2]
    · exact nI_1 tk
    · have hne2 : el 2 k ≠ el 2 i := fun z => hne (h.1.2.2.2.2.2.2.1 2 k i (by decide) hk hi z)
      unfold talkB
      rw [(hS.2.2.1 _ (h.1.ob (j := 2) (by decide) hk).1 hne2).1 _ (by decide)]
/-- a squadron is led to another track -/
theorem IV_lead {e9 : Nat × Nat} {x lo ta M cnts pw ow dn i t : Nat} {told : Int32} {la : Nat → Nat} {S : wPS} {el : Nat → Nat → Nat} {sz cp : Nat → Nat} (h : IV e9 x lo ta la M cnts told S el sz cp pw ow dn) (hi : i < sz 2) (ht : t ∈ sL S ∧ sK S t = 9) : IV e9 x lo ta la M cnts told (putR S q_Squadron_target (el 2 i) (some t)) el sz cp pw ow dn := by
  have hq := h.1.ob (j := 2) (by decide) hi
  obtain ⟨a1, a2, a3, a4, a5, ⟨b, a6, a7, a8⟩, -⟩ := h.2.2.1 i hi
  exact IV_turn h hi ⟨SqS.r, ⟨a1, a2, a3, a4, a5, ⟨b, (putR_col q_Squadron_base _ (Or.inl (by decide))).trans a6, a7, a8⟩, Or.inr ⟨t, putR_at, ht⟩⟩, fun z => z⟩
/-- a squadron that is ordered is grounded -/
theorem IV_back1 {e9 : Nat × Nat} {x lo ta M cnts pw ow dn i b : Nat} {told : Int32} {la : Nat → Nat} {S : wPS} {el : Nat → Nat → Nat} {sz cp : Nat → Nat} (h : IV e9 x lo ta la M cnts told S el sz cp pw ow dn) (hi : i < sz 2) (hb : sR S q_Squadron_base (el 2 i) = some b) : IV e9 x lo ta la M cnts told (restF S (el 2 i) 0 (-1) b) el sz cp pw ow dn := by
  have hq := h.1.ob (j := 2) (by decide) hi
  have h3 := h.2.2.1 i hi
  obtain ⟨b2, hB⟩ := sqI.b hq h3
  have hbb : b2 = b := Option.some.inj (hB.2.2.2.1.symm.trans hb)
  subst hbb
  obtain ⟨⟨m, hm, hmm, -⟩, -⟩ := h3
  exact IV_turn h hi ⟨SqS.rest, rest_sq hB hm hmm (Or.inl rfl), fun z => absurd z (fun z => rest_talk (Or.inl rfl) z)⟩
theorem rest_mach {S : wPS} {q b b0 : Nat} {gs du : Int32} : sI (restF S q gs du b) q_Squadron_machines b0 = sI S q_Squadron_machines b0 := by
  unfold restF
  rw [putI_col q_Squadron_machines b0 (Or.inl (by decide)), putI_col q_Squadron_machines b0 (Or.inl (by decide)), putI_col q_Squadron_machines b0 (Or.inl (by decide))]
  show sI (putI (putI S q_Squadron_state q gs) q_Squadron_due q du) q_Squadron_machines b0 = _
  rw [putI_col q_Squadron_machines b0 (Or.inl (by decide)), putI_col q_Squadron_machines b0 (Or.inl (by decide))]
/-- one that is up is on its way home -/
theorem IV_back2 {e9 : Nat × Nat} {x lo ta M cnts pw ow dn i : Nat} {told : Int32} {la : Nat → Nat} {S : wPS} {el : Nat → Nat → Nat} {sz cp : Nat → Nat} (h : IV e9 x lo ta la M cnts told S el sz cp pw ow dn) (hi : i < sz 2) (ht : talkB S (el 2 i) = true) (hn : ¬ sI S q_Squadron_state (el 2 i) = 1) : IV e9 x lo ta la M cnts told (headHomeF S (el 2 i)) el sz cp pw ow dn := by
  have hq := h.1.ob (j := 2) (by decide) hi
  have h3 := h.2.2.1 i hi
  obtain ⟨b, hB⟩ := sqI.b hq h3
  obtain ⟨⟨m, hm, hmm, hst⟩, hfu, -, hpl, -, -, -⟩ := h3
  have h2 : sI S q_Squadron_state (el 2 i) = 2 := by
    unfold talkB at ht
    rcases Bool.or_eq_true_iff.mp ht with z | z
    · exact absurd (of_decide_eq_true z) hn
    · exact of_decide_eq_true z
  have h0 : 0 < m := sq_m0 hst (Or.inl h2)
  have hS : SqS (el 2 i) ta S (headHomeF S (el 2 i)) := SqS.hh
  exact IV_turn h hi ⟨hS, sq_mk (hB.st hS) hm ((hh_i (by decide)).trans hmm) h0 (Or.inr (Or.inr hh_st)) (by rw [hh_i (by decide)]; exact hfu) (by rw [hh_i (by decide), hh_i (by decide)]; exact hpl) (Or.inl hh_tg), fun z => absurd z (fun z => talk3 hh_st z)⟩
theorem min12 {m n : Nat} (hm : m ≤ 12) (hn : n ≤ 12) : ∃ r : Nat, r ≤ 12 ∧ (if nI m + nI n < 12 then nI m + nI n else 12) = nI r := by
  rw [nI_add]
  by_cases h : m + n < 12
  · exact ⟨m + n, by omega, if_pos (show nI (m + n) < 12 from nI_lt (b := 12) h (by decide))⟩
  · exact ⟨12, Nat.le_refl _, if_neg (show ¬ nI (m + n) < nI 12 from nI_nlt (by omega) (by omega))⟩
/-- new machines -/
theorem IV_reinf {e9 : Nat × Nat} {x lo ta M cnts pw ow dn i r : Nat} {told : Int32} {la : Nat → Nat} {S : wPS} {el : Nat → Nat → Nat} {sz cp : Nat → Nat} (h : IV e9 x lo ta la M cnts told S el sz cp pw ow dn) (hi : i < sz 2) (hr : r ≤ 12) (hst : sI S q_Squadron_state (el 2 i) = 0) : IV e9 x lo ta la M cnts (told + (nI r - sI S q_Squadron_machines (el 2 i))) (putI S q_Squadron_machines (el 2 i) (nI r)) el sz cp pw ow dn := by
  have hC : Ch [q_Squadron_machines] [] S (putI S q_Squadron_machines (el 2 i) (nI r)) := ch_I (by decide)
  have hta : ta ≠ el 2 i := fun z => by
    have e1 := h.1.ta_ob.2
    rw [z, (h.1.ob (j := 2) (by decide) hi).2] at e1
    exact absurd e1 (by decide)
  obtain ⟨⟨m, hm, hmm, -⟩, a2, a3, a4, a5, ⟨b, a6, a7, a8⟩, a9⟩ := h.2.2.1 i hi
  refine IV_sqG h (hC.weak (by decide) (by decide)) kw_I (fun b _ hb => ⟨fun c _ => putI_col c b (Or.inr hb), fun _ => rfl⟩) ⟨⟨r, hr, putI_at, Or.inl ?_⟩, ?_, ?_, ?_, ?_, ⟨b, a6, a7, ?_⟩, a9⟩ ?_ (h.2.2.2.2.2.2.2.2.2.2.1.ch h.1 hC (by decide))
  · rw [putI_col q_Squadron_state _ (Or.inl (by decide))]; exact hst
  · rw [putI_col q_Squadron_fuel _ (Or.inl (by decide))]; exact a2
  · rw [putI_col q_Squadron_tank _ (Or.inl (by decide))]; exact a3
  · rw [putI_col q_Squadron_x _ (Or.inl (by decide)), putI_col q_Squadron_y _ (Or.inl (by decide))]; exact a4
  · rw [putI_col q_Squadron_speed _ (Or.inl (by decide))]; exact a5
  · rw [putI_col q_Place_x _ (Or.inl (by decide)), putI_col q_Place_y _ (Or.inl (by decide))]; exact a8
  · have e := SM3_sq (S1 := putI S q_Squadron_machines (el 2 i) (nI r)) h.2.2.2.2.2.2.2.2.2.1 h.1 hi (fun b _ hb => putI_col _ b (Or.inr hb)) (putI_col _ ta (Or.inr hta))
    rw [putI_at] at e
    exact e
theorem isNum_n {i n : Nat} (h : i < n) (hn : n < 2 ^ 31) : isNumB (nI i) (nI n) = true := by
  unfold isNumB
  rw [decide_eq_false (nI_pos (by omega)), decide_eq_false (nI_ge h hn)]
  rfl

