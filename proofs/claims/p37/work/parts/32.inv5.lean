def lmS (S : wPS) (q ta : Nat) (l : Int32) : wPS := putI (putI S q_Squadron_machines q (sI S q_Squadron_machines q - l)) q_Tally_machinesLost ta (sI S q_Tally_machinesLost ta + l)
def lmF (S : wPS) (q ta : Nat) (l : Int32) (b : Nat) : wPS := if 0 < sI S q_Squadron_machines q - l then lmS S q ta l else restF (lmS S q ta l) q 0 (-1) b
theorem SqS.lose {q ta b : Nat} {S : wPS} {l : Int32} : SqS q ta S (lmF S q ta l b) := by
  unfold lmF
  by_cases h : 0 < sI S q_Squadron_machines q - l
  · rw [if_pos h]; exact SqS.lm
  · rw [if_neg h]; exact SqS.lm.trans SqS.rest
/-- what a squadron keeps through all that moves it: its base, its speed, its tank -/
def sqB (S : wPS) (q b : Nat) : Prop := (q ∈ sL S ∧ sK S q = 6) ∧ 0 < sI S q_Squadron_tank q ∧ (∃ s : Nat, 5 ≤ s ∧ s ≤ 20 ∧ sI S q_Squadron_speed q = nI s) ∧ (sR S q_Squadron_base q = some b ∧ (b ∈ sL S ∧ sK S b = 4) ∧ isPlaceB (sI S q_Place_x b) (sI S q_Place_y b) = true)
theorem sqB.st {S S1 : wPS} {q b ta : Nat} (h : sqB S q b) (hs : SqS q ta S S1) : sqB S1 q b := by
  obtain ⟨h1, h2, h3, h4, h5, h6⟩ := h
  unfold sqB
  rw [hs.1.2.1 q_Squadron_tank (by decide) _ h1.1, hs.1.2.1 q_Squadron_speed (by decide) _ h1.1, hs.1.2.2 q_Squadron_base (by decide) _ h1.1, hs.1.2.1 q_Place_x (by decide) _ h5.1, hs.1.2.1 q_Place_y (by decide) _ h5.1]
  exact ⟨hs.1.o h1, h2, h3, h4, hs.1.o h5, h6⟩
theorem sqI.b {S : wPS} {q : Nat} (hq : q ∈ sL S ∧ sK S q = 6) (h : sqI S q) : ∃ b : Nat, sqB S q b := by
  obtain ⟨-, -, h3, -, h5, ⟨b, h6⟩, -⟩ := h
  exact ⟨b, hq, h3, h5, h6⟩
/-- at rest -/
theorem rest_sq {S : wPS} {q b m : Nat} {gs du : Int32} (h : sqB S q b) (hm : m ≤ 12) (hmm : sI S q_Squadron_machines q = nI m) (hg : gs = 0 ∨ gs = 4) : sqI (restF S q gs du b) q := by
  obtain ⟨h1, h2, ⟨s, h3⟩, h4, h5, h6⟩ := h
  have c1 : sI (restF S q gs du b) q_Squadron_state q = gs := by
    unfold restF
    rw [putI_col q_Squadron_state q (Or.inl (by decide)), putI_col q_Squadron_state q (Or.inl (by decide)), putI_col q_Squadron_state q (Or.inl (by decide))]
    show sI (putI (putI S q_Squadron_state q gs) q_Squadron_due q du) q_Squadron_state q = gs
    rw [putI_col q_Squadron_state q (Or.inl (by decide)), putI_at]
  have c2 : sI (restF S q gs du b) q_Squadron_fuel q = sI S q_Squadron_tank q := by
    unfold restF
    rw [putI_col q_Squadron_fuel q (Or.inl (by decide)), putI_col q_Squadron_fuel q (Or.inl (by decide)), putI_at]
    show sI (putI (putI S q_Squadron_state q gs) q_Squadron_due q du) q_Squadron_tank q = _
    rw [putI_col q_Squadron_tank q (Or.inl (by decide)), putI_col q_Squadron_tank q (Or.inl (by decide))]
  have c3 : sI (restF S q gs du b) q_Squadron_y q = sI S q_Place_y b := by
    unfold restF
    rw [putI_at]
    rw [putI_col q_Place_y b (Or.inl (by decide)), putI_col q_Place_y b (Or.inl (by decide))]
    show sI (putI (putI S q_Squadron_state q gs) q_Squadron_due q du) q_Place_y b = _
    rw [putI_col q_Place_y b (Or.inl (by decide)), putI_col q_Place_y b (Or.inl (by decide))]
  have c4 : sI (restF S q gs du b) q_Squadron_x q = sI S q_Place_x b := by
    unfold restF
    rw [putI_col q_Squadron_x q (Or.inl (by decide)), putI_at]
    rw [putI_col q_Place_x b (Or.inl (by decide))]
    show sI (putI (putI S q_Squadron_state q gs) q_Squadron_due q du) q_Place_x b = _
    rw [putI_col q_Place_x b (Or.inl (by decide)), putI_col q_Place_x b (Or.inl (by decide))]
  have c5 : sR (restF S q gs du b) q_Squadron_target q = none := putR_at (S := putI (putI S q_Squadron_state q gs) q_Squadron_due q du) (c := q_Squadron_target) (a := q) (v := none)
  have hs : SqS q 0 S (restF S q gs du b) := SqS.rest
  have c6 : sI (restF S q gs du b) q_Squadron_machines q = sI S q_Squadron_machines q := by
    unfold restF
    rw [putI_col q_Squadron_machines q (Or.inl (by decide)), putI_col q_Squadron_machines q (Or.inl (by decide)), putI_col q_Squadron_machines q (Or.inl (by decide))]
    show sI (putI (putI S q_Squadron_state q gs) q_Squadron_due q du) q_Squadron_machines q = _
    rw [putI_col q_Squadron_machines q (Or.inl (by decide)), putI_col q_Squadron_machines q (Or.inl (by decide))]
  unfold sqI
  rw [c1, c2, c3, c4, c5, c6, hs.1.2.1 q_Squadron_tank (by decide) _ h1.1, hs.1.2.1 q_Squadron_speed (by decide) _ h1.1, hs.1.2.2 q_Squadron_base (by decide) _ h1.1]
  refine ⟨⟨m, hm, hmm, ?_⟩, h2, h2, h6, ⟨s, h3⟩, ⟨b, h4, hs.1.o h5, ?_⟩, Or.inl rfl⟩
  · rcases hg with rfl | rfl
    · exact Or.inl rfl
    · exact Or.inr (Or.inl rfl)
  · rw [hs.1.2.1 q_Place_x (by decide) _ h5.1, hs.1.2.1 q_Place_y (by decide) _ h5.1]; exact h6
theorem rest_talk {S : wPS} {q b : Nat} {gs du : Int32} (hg : gs = 0 ∨ gs = 4) : talkB (restF S q gs du b) q = true → False := by
  intro h
  have c1 : sI (restF S q gs du b) q_Squadron_state q = gs := by
    unfold restF
    rw [putI_col q_Squadron_state q (Or.inl (by decide)), putI_col q_Squadron_state q (Or.inl (by decide)), putI_col q_Squadron_state q (Or.inl (by decide))]
    show sI (putI (putI S q_Squadron_state q gs) q_Squadron_due q du) q_Squadron_state q = gs
    rw [putI_col q_Squadron_state q (Or.inl (by decide)), putI_at]
  unfold talkB at h
  rw [c1] at h
  rcases hg with rfl | rfl <;> exact absurd h (by decide)
/-- a squadron's turn: its own step, and it is as it should be; it isn't talked to if it wasn't -/
def TT (q ta : Nat) (S S1 : wPS) : Prop := SqS q ta S S1 ∧ sqI S1 q ∧ (talkB S1 q = true → talkB S q = true)
/-- loses machines: some are left, or it rests -/
theorem lm_TT {S : wPS} {q ta b m l : Nat} (h : sqB S q b) (hq : sqI S q ∨ l = m) (hm : m ≤ 12) (hmm : sI S q_Squadron_machines q = nI m) (hl : l ≤ m) : SqS q ta S (lmF S q ta (nI l) b) ∧ sqI (lmF S q ta (nI l) b) q ∧ (talkB (lmF S q ta (nI l) b) q = true → talkB S q = true) := by
  have e1 : sI S q_Squadron_machines q - nI l = nI (m - l) := by rw [hmm]; exact pk_sub hl
  have k1 : sI (lmS S q ta (nI l)) q_Squadron_machines q = nI (m - l) := by
    unfold lmS
    rw [putI_col q_Squadron_machines q (Or.inl (by decide)), putI_at]; exact e1
  refine ⟨SqS.lose, ?_⟩
  unfold lmF
  by_cases hh : 0 < sI S q_Squadron_machines q - nI l
  · rw [if_pos hh]
    rw [e1] at hh
    have hml : 0 < m - l := by
      by_cases z : m - l = 0
      · rw [z, nI_0] at hh; exact absurd hh (by decide)
      · omega
    rcases hq with hq | hq
    · obtain ⟨⟨m0, a1, a1', a2⟩, a3, a4, a5, a6, ⟨b0, a7⟩, a8⟩ := hq
      have es : ∀ c : Nat, c ≠ q_Squadron_machines → c ≠ q_Tally_machinesLost → sI (lmS S q ta (nI l)) c q = sI S c q := fun c n1 n2 => (putI_col c q (Or.inl n2)).trans (putI_col c q (Or.inl n1))
      refine ⟨?_, fun ht => ?_⟩
      · unfold sqI
        rw [k1, es _ (by decide) (by decide), es _ (by decide) (by decide), es _ (by decide) (by decide), es _ (by decide) (by decide), es _ (by decide) (by decide), es _ (by decide) (by decide)]
        refine ⟨⟨m - l, by omega, rfl, ?_⟩, a3, a4, a5, a6, ⟨b0, a7.1, a7.2.1, ?_⟩, a8⟩
        · rcases a2 with a2 | a2 | ⟨a2, -⟩
          · exact Or.inl a2
          · exact Or.inr (Or.inl a2)
          · exact Or.inr (Or.inr ⟨a2, hml⟩)
        · show isPlaceB (sI (lmS S q ta (nI l)) q_Place_x b0) (sI (lmS S q ta (nI l)) q_Place_y b0) = true
          unfold lmS
          rw [putI_col q_Place_x b0 (Or.inl (by decide)), putI_col q_Place_x b0 (Or.inl (by decide)), putI_col q_Place_y b0 (Or.inl (by decide)), putI_col q_Place_y b0 (Or.inl (by decide))]
          exact a7.2.2
      · unfold talkB at ht ⊢
        rw [es _ (by decide) (by decide)] at ht
        exact ht
    · omega
  · rw [if_neg hh]
    exact ⟨rest_sq (h.st (ta := ta) SqS.lm) (m := m - l) (by omega) k1 (Or.inl rfl), fun z => absurd z (fun z => rest_talk (Or.inl rfl) z)⟩
theorem ST.sq {e9 : Nat × Nat} {x lo ta q : Nat} {la : Nat → Nat} {S S1 : wPS} {el : Nat → Nat → Nat} {sz cp : Nat → Nat} (h : ST e9 x lo ta la S el sz cp) (hs : SqS q ta S S1) : ST e9 x lo ta la S1 el sz cp := h.ch hs.1 hs.2.1 (by decide) (by decide)
theorem sq_mk {S : wPS} {q b m : Nat} (h : sqB S q b) (hm : m ≤ 12) (hmm : sI S q_Squadron_machines q = nI m) (h0 : 0 < m) (hst : sI S q_Squadron_state q = 1 ∨ sI S q_Squadron_state q = 2 ∨ sI S q_Squadron_state q = 3) (hf : 0 < sI S q_Squadron_fuel q) (hp : isPlaceB (sI S q_Squadron_x q) (sI S q_Squadron_y q) = true) (ht : sR S q_Squadron_target q = none ∨ ∃ t : Nat, sR S q_Squadron_target q = some t ∧ t ∈ sL S ∧ sK S t = 9) : sqI S q := by
  obtain ⟨h1, h2, h3, h4, h5, h6⟩ := h
  exact ⟨⟨m, hm, hmm, Or.inr (Or.inr ⟨hst, h0⟩)⟩, hf, h2, hp, h3, ⟨b, h4, h5, h6⟩, ht⟩
theorem hh_i {S : wPS} {q b c : Nat} (hc : c ≠ q_Squadron_state) : sI (headHomeF S q) c b = sI S c b := putI_col c b (Or.inl hc)
theorem hh_st {S : wPS} {q : Nat} : sI (headHomeF S q) q_Squadron_state q = 3 := putI_at (S := S) (c := q_Squadron_state) (a := q) (v := 3)
theorem hh_tg {S : wPS} {q : Nat} : sR (headHomeF S q) q_Squadron_target q = none := putR_at (S := putI S q_Squadron_state q 3) (c := q_Squadron_target) (a := q) (v := none)
theorem cu_i {S : wPS} {q b c : Nat} (hc : c ≠ q_Squadron_state) (hd : c ≠ q_Squadron_due) : sI (comeUpF S q) c b = sI S c b := (putI_col c b (Or.inl hd)).trans (putI_col c b (Or.inl hc))
theorem cu_st {S : wPS} {q : Nat} : sI (comeUpF S q) q_Squadron_state q = 2 := (putI_col q_Squadron_state q (Or.inl (by decide))).trans putI_at
theorem talk3 {S : wPS} {q : Nat} (h : sI S q_Squadron_state q = 3) : talkB S q = true → False := fun z => by
  unfold talkB at z
  rw [h] at z
  exact absurd z (by decide)
theorem cu_TT {S : wPS} {q ta : Nat} (hq : q ∈ sL S ∧ sK S q = 6) (h : sqI S q) (h1 : sI S q_Squadron_state q = 1) : TT q ta S (comeUpF S q) := by
  obtain ⟨b, hB⟩ := sqI.b hq h
  obtain ⟨⟨m, hm, hmm, hst⟩, hfu, -, hpl, -, -, htg⟩ := h
  have h0 : 0 < m := by
    rcases hst with a | a | ⟨-, a⟩
    · rw [h1] at a; exact absurd a (by decide)
    · rw [h1] at a; exact absurd a (by decide)
    · exact a
  refine ⟨SqS.up, sq_mk (hB.st (ta := ta) SqS.up) hm ((cu_i (by decide) (by decide)).trans hmm) h0 (Or.inr (Or.inl cu_st)) (by rw [cu_i (by decide) (by decide)]; exact hfu) (by rw [cu_i (by decide) (by decide), cu_i (by decide) (by decide)]; exact hpl) htg, fun _ => ?_⟩
  unfold talkB
  rw [h1]; rfl
theorem fuel_i {S : wPS} {q b c : Nat} {v : Int32} (hc : c ≠ q_Squadron_fuel) : sI (putI S q_Squadron_fuel q v) c b = sI S c b := putI_col c b (Or.inl hc)
theorem sq_m0 {v : Int32} {m : Nat} (h : v = 0 ∨ v = 4 ∨ ((v = 1 ∨ v = 2 ∨ v = 3) ∧ 0 < m)) (h2 : v = 2 ∨ v = 3) : 0 < m := by
  rcases h with a | a | ⟨-, a⟩
  · rcases h2 with c | c <;> rw [a] at c <;> exact absurd c (by decide)
  · rcases h2 with c | c <;> rw [a] at c <;> exact absurd c (by decide)
  · exact a
theorem IV_turn {e9 : Nat × Nat} {x lo ta M cnts pw ow dn i : Nat} {told : Int32} {la : Nat → Nat} {S S1 : wPS} {el : Nat → Nat → Nat} {sz cp : Nat → Nat} (h : IV e9 x lo ta la M cnts told S el sz cp pw ow dn) (hi : i < sz 2) (ht : TT (el 2 i) ta S S1) : IV e9 x lo ta la M cnts told S1 el sz cp pw ow dn := IV_sq h hi ht.1 ht.2.1 ht.2.2
theorem st5 {v : Int32} {m : Nat} (h : v = 0 ∨ v = 4 ∨ ((v = 1 ∨ v = 2 ∨ v = 3) ∧ 0 < m)) : v = 0 ∨ v = 4 ∨ v = 1 ∨ v = 2 ∨ v = 3 := by
  rcases h with a | a | ⟨a, -⟩
  · exact Or.inl a
  · exact Or.inr (Or.inl a)
  · exact Or.inr (Or.inr a)

