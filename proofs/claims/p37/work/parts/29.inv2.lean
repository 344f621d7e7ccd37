/-- a change: the old things stay; int columns outside cs and reference columns outside rs stay for them -/
def Ch (cs rs : List Nat) (S S1 : wPS) : Prop := (∀ b : Nat, b ∈ sL S → b ∈ sL S1 ∧ sK S1 b = sK S b) ∧ (∀ c : Nat, c ∉ cs → ∀ b : Nat, b ∈ sL S → sI S1 c b = sI S c b) ∧ (∀ c : Nat, c ∉ rs → ∀ b : Nat, b ∈ sL S → sR S1 c b = sR S c b)
def Kw (S S1 : wPS) : Prop := ∀ b : Nat, b ∈ sL S → sN S1 b = sN S b ∧ sW S1 b = sW S b
theorem Ch.refl {cs rs : List Nat} (S : wPS) : Ch cs rs S S := ⟨fun _ h => ⟨h, rfl⟩, fun _ _ _ _ => rfl, fun _ _ _ _ => rfl⟩
theorem Kw.refl (S : wPS) : Kw S S := fun _ _ => ⟨rfl, rfl⟩
theorem Ch.trans {cs rs : List Nat} {S S1 S2 : wPS} (h1 : Ch cs rs S S1) (h2 : Ch cs rs S1 S2) : Ch cs rs S S2 := ⟨fun b hb => ⟨(h2.1 b (h1.1 b hb).1).1, (h2.1 b (h1.1 b hb).1).2.trans (h1.1 b hb).2⟩, fun c hc b hb => (h2.2.1 c hc b (h1.1 b hb).1).trans (h1.2.1 c hc b hb), fun c hc b hb => (h2.2.2 c hc b (h1.1 b hb).1).trans (h1.2.2 c hc b hb)⟩
theorem Kw.trans {cs rs : List Nat} {S S1 S2 : wPS} (h0 : Ch cs rs S S1) (h1 : Kw S S1) (h2 : Kw S1 S2) : Kw S S2 := fun b hb => ⟨(h2 b (h0.1 b hb).1).1.trans (h1 b hb).1, (h2 b (h0.1 b hb).1).2.trans (h1 b hb).2⟩
theorem Ch.weak {cs rs cs2 rs2 : List Nat} {S S1 : wPS} (h : Ch cs rs S S1) (h1 : ∀ c : Nat, c ∈ cs → c ∈ cs2) (h2 : ∀ c : Nat, c ∈ rs → c ∈ rs2) : Ch cs2 rs2 S S1 := ⟨h.1, fun c hc => h.2.1 c (fun z => hc (h1 c z)), fun c hc => h.2.2 c (fun z => hc (h2 c z))⟩
theorem ch_I {cs rs : List Nat} {S : wPS} {c a : Nat} {v : Int32} (h : c ∈ cs) : Ch cs rs S (putI S c a v) := ⟨fun _ hb => ⟨hb, rfl⟩, fun c2 hc b _ => putI_col c2 b (Or.inl (fun z => hc (z ▸ h))), fun _ _ _ _ => rfl⟩
theorem ch_R {cs rs : List Nat} {S : wPS} {c a : Nat} {v : Option Nat} (h : c ∈ rs) : Ch cs rs S (putR S c a v) := ⟨fun _ hb => ⟨hb, rfl⟩, fun _ _ _ _ => rfl, fun c2 hc b _ => putR_col c2 b (Or.inl (fun z => hc (z ▸ h)))⟩
theorem kw_I {S : wPS} {c a : Nat} {v : Int32} : Kw S (putI S c a v) := fun _ _ => ⟨rfl, rfl⟩
theorem kw_R {S : wPS} {c a : Nat} {v : Option Nat} : Kw S (putR S c a v) := fun _ _ => ⟨rfl, rfl⟩
theorem ch_new {cs rs : List Nat} {S : wPS} {a kd n : Nat} (h : a ∉ sL S) : Ch cs rs S (newS S a kd n) := ⟨fun b hb => ⟨List.mem_append_left _ hb, if_neg (fun z : b = a => h (z ▸ hb))⟩, fun _ _ b hb => if_neg (fun z : b = a => h (z ▸ hb)), fun _ _ b hb => if_neg (fun z : b = a => h (z ▸ hb))⟩
theorem kw_new {S : wPS} {a kd n : Nat} (h : a ∉ sL S) : Kw S (newS S a kd n) := fun b hb => ⟨if_neg (fun z : b = a => h (z ▸ hb)), if_neg (fun z : b = a => h (z ▸ hb))⟩
/-- what is written into a thing that is new is no change of the old -/
theorem ch_In {cs rs : List Nat} {S S1 : wPS} {c a : Nat} {v : Int32} (h0 : Ch cs rs S S1) (h : a ∉ sL S) : Ch cs rs S (putI S1 c a v) := ⟨h0.1, fun c2 hc b hb => (putI_col c2 b (Or.inr (fun z : b = a => h (z ▸ hb)))).trans (h0.2.1 c2 hc b hb), h0.2.2⟩
theorem ch_Rn {cs rs : List Nat} {S S1 : wPS} {c a : Nat} {v : Option Nat} (h0 : Ch cs rs S S1) (h : a ∉ sL S) : Ch cs rs S (putR S1 c a v) := ⟨h0.1, h0.2.1, fun c2 hc b hb => (putR_col c2 b (Or.inr (fun z : b = a => h (z ▸ hb)))).trans (h0.2.2 c2 hc b hb)⟩
theorem kw_In {S S1 : wPS} {c a : Nat} {v : Int32} (h0 : Kw S S1) : Kw S (putI S1 c a v) := h0
theorem kw_Rn {S S1 : wPS} {c a : Nat} {v : Option Nat} (h0 : Kw S S1) : Kw S (putR S1 c a v) := h0
theorem Ch.o {cs rs : List Nat} {S S1 : wPS} (h : Ch cs rs S S1) {b k : Nat} (hb : b ∈ sL S ∧ sK S b = k) : b ∈ sL S1 ∧ sK S1 b = k := ⟨(h.1 b hb.1).1, (h.1 b hb.1).2.trans hb.2⟩
theorem AddP.ch {e9 : Nat × Nat} {S S1 : wPS} {l kd n c v : Nat} {e : Nat → Nat} (h : AddP e9 S l kd e n c v S1) : Ch [q_List_size, q_List_modCount] [q_List_elementData] S S1 := by
  obtain ⟨c1, -, -, hF, -, h1, h2⟩ := h
  exact ⟨fun b hb => (hF b hb).1, fun c0 hc b hb => h1 c0 (fun z => hc (z ▸ List.mem_cons_self)) (fun z => hc (z ▸ List.mem_cons_of_mem _ List.mem_cons_self)) b hb, fun c0 hc b hb => h2 c0 (fun z => hc (z ▸ List.mem_cons_self)) b hb⟩
theorem ST.ch {e9 : Nat × Nat} {x lo ta : Nat} {la : Nat → Nat} {S S1 : wPS} {el : Nat → Nat → Nat} {sz cp : Nat → Nat} {cs rs : List Nat} (h : ST e9 x lo ta la S el sz cp) (hC : Ch cs rs S S1) (hW : Kw S S1) (h1 : q_List_size ∉ cs) (h2 : ∀ c : Nat, c ∈ rs → c < q_Room_masts ∨ (q_Room_tally < c ∧ c ≠ q_List_elementData)) : ST e9 x lo ta la S1 el sz cp := by
  have hne : ∀ c : Nat, (q_Room_masts ≤ c ∧ c ≤ q_Room_tally) ∨ c = q_List_elementData → c ∉ rs := fun c hc z => by
    rcases h2 c z with a | ⟨a, b⟩
    · rcases hc with ⟨d, -⟩ | d
      · exact absurd d (Nat.not_le_of_lt a)
      · subst d; exact absurd a (by decide)
    · rcases hc with ⟨-, d⟩ | d
      · exact absurd d (Nat.not_le_of_lt a)
      · exact b d
  have hF : Fr (fun b => b ∈ sL S ∧ sK S b ≠ 11) (fun b => b ∈ sL S ∧ sK S b ≠ 10 ∧ sK S b ≠ 11 ∧ sK S b ≠ 12) S S := Fr.refl S
  obtain ⟨a1, a2, a3, a4, a5, a6, a7, a8⟩ := h
  have hl : ∀ j : Nat, j < 9 → la j ∈ sL S ∧ sK S (la j) = 11 := fun j hj => (a2 j hj).2.1.1
  have hE : ∀ j : Nat, j < 9 → sR S1 q_List_elementData (la j) = sR S q_List_elementData (la j) := fun j hj => hC.2.2 _ (hne _ (Or.inr rfl)) _ (hl j hj).1
  refine ⟨hC.o a1, fun j hj => ⟨(hC.2.2 (q_Room_masts + j) (hne _ (Or.inl ⟨Nat.le_add_right _ _, by show 3 + j ≤ 13; omega⟩)) x a1.1).trans (a2 j hj).1, ?_⟩, ⟨(hC.2.2 _ (hne _ (Or.inl (by decide))) x a1.1).trans a3.1, hC.o a3.2⟩, ⟨(hC.2.2 _ (hne _ (Or.inl (by decide))) x a1.1).trans a4.1, hC.o a4.2⟩, a5, fun j k r hj hk hn e1 e2 => a6 j k r hj hk hn ((hE j hj).symm.trans e1) ((hE k hk).symm.trans e2), a7, a8⟩
  obtain ⟨⟨b1, b2, b3, b4, b5⟩, b6, b7, b8⟩ := (a2 j hj).2
  refine ⟨⟨hC.o b1, (hC.2.1 _ h1 _ b1.1).trans b2, b3, fun i hi => ?_, fun i hi => hC.o (b5 i hi)⟩, b6, b7, ?_⟩
  · obtain ⟨r, c1, c2, c3, c4, c5⟩ := b4 i hi
    exact ⟨r, (hE j hj).trans c1, hC.o c2, by rw [(hW r c2.1).1]; exact c3, by rw [(hW r c2.1).1]; exact c4, by rw [(hW r c2.1).2]; exact c5⟩
  · rcases b8 with ⟨c1, c2⟩ | ⟨c1, r, c2, c3, c4, c5⟩
    · exact Or.inl ⟨c1, (hE j hj).trans c2⟩
    · exact Or.inr ⟨c1, r, (hE j hj).trans c2, hC.o c3, by rw [(hW r c3.1).1]; exact c4, c5⟩
def flI (S : wPS) (f : Nat) : Prop := isPlaceB (sI S q_Flight_x f) (sI S q_Flight_y f) = true ∧ (sI S q_Flight_isUp f = 0 ∨ 0 < sI S q_Flight_count f)
def sqI (S : wPS) (q : Nat) : Prop := (∃ m : Nat, m ≤ 12 ∧ sI S q_Squadron_machines q = nI m ∧ (sI S q_Squadron_state q = 0 ∨ sI S q_Squadron_state q = 4 ∨ ((sI S q_Squadron_state q = 1 ∨ sI S q_Squadron_state q = 2 ∨ sI S q_Squadron_state q = 3) ∧ 0 < m))) ∧ 0 < sI S q_Squadron_fuel q ∧ 0 < sI S q_Squadron_tank q ∧ isPlaceB (sI S q_Squadron_x q) (sI S q_Squadron_y q) = true ∧ (∃ s : Nat, 5 ≤ s ∧ s ≤ 20 ∧ sI S q_Squadron_speed q = nI s) ∧ (∃ b : Nat, sR S q_Squadron_base q = some b ∧ (b ∈ sL S ∧ sK S b = 4) ∧ isPlaceB (sI S q_Place_x b) (sI S q_Place_y b) = true) ∧ (sR S q_Squadron_target q = none ∨ ∃ t : Nat, sR S q_Squadron_target q = some t ∧ t ∈ sL S ∧ sK S t = 9)
def EL1 (S : wPS) (el : Nat → Nat → Nat) (sz : Nat → Nat) : Prop := ∀ i : Nat, i < sz 5 → flI S (el 5 i)
def EL2 (S : wPS) (el : Nat → Nat → Nat) (sz : Nat → Nat) : Prop := ∀ i : Nat, i < sz 2 → sqI S (el 2 i)
def EL3 (S : wPS) (el : Nat → Nat → Nat) (sz : Nat → Nat) : Prop := ∀ i : Nat, i < sz 7 → isPlaceB (sI S q_Track_x (el 7 i)) (sI S q_Track_y (el 7 i)) = true
def EL4 (S : wPS) (el : Nat → Nat → Nat) (sz : Nat → Nat) : Prop := ∀ i : Nat, i < sz 0 → sI S q_Mast_isCut (el 0 i) = 0 ∧ sI S q_Mast_lost (el 0 i) = 0 ∧ ∃ s : Nat, s ≤ 9 ∧ sI S q_Mast_slip (el 0 i) = nI s
def EL5 (S : wPS) (el : Nat → Nat → Nat) (sz : Nat → Nat) (pw : Nat) : Prop := ∀ i : Nat, i < pw → isPlaceB (sI S q_Plot_x (el 8 i)) (sI S q_Plot_y (el 8 i)) = true ∧ ∃ k : Nat, k < sz 0 ∧ sR S q_Plot_mast (el 8 i) = some (el 0 k)
def SC (S : wPS) (x lo ta M pw dn : Nat) : Prop := sI S q_Room_minute x = nI M ∧ sI S q_Room_plotsOnWay x = nI pw ∧ (∃ nx : Nat, nx ≤ 240 ∧ sI S q_Lots_next lo = nI nx) ∧ sI S q_Lots_drawn lo = nI dn ∧ sI S q_Tally_refused ta = 0
def SM1 (S : wPS) (ta : Nat) (el : Nat → Nat → Nat) (sz : Nat → Nat) (ow : Nat) : Prop := sumR (fun i => sI S q_Mast_made (el 0 i)) (sz 0) 0 0 = sumR (fun i => sI S q_Mast_came (el 0 i)) (sz 0) 0 0 + nI ow ∧ sumR (fun i => sI S q_Mast_came (el 0 i)) (sz 0) 0 0 = sumR (fun i => sI S q_Track_hits (el 7 i)) (sz 7) 0 0 + sI S q_Tally_plotsWithoutTrack ta
def SM2 (S : wPS) (ta : Nat) (el : Nat → Nat → Nat) (sz : Nat → Nat) (cnts : Nat) : Prop := ∃ (cf wf : Nat → Nat) (cn : Nat), (∀ i : Nat, i < sz 5 → sI S q_Flight_count (el 5 i) = nI (cf i)) ∧ (∀ i : Nat, i < sz 2 → sI S q_Squadron_won (el 2 i) = nI (wf i)) ∧ sI S q_Tally_claims ta = nI cn ∧ ns cf (sz 5) + ns wf (sz 2) ≤ cnts ∧ ns wf (sz 2) ≤ cn ∧ cn ≤ 2 * ns wf (sz 2)
def SM3 (S : wPS) (ta : Nat) (el : Nat → Nat → Nat) (sz : Nat → Nat) (told : Int32) : Prop := sumR (fun i => sI S q_Squadron_machines (el 2 i)) (sz 2) 0 0 + sI S q_Tally_machinesLost ta = told
def SM4 (S : wPS) (el : Nat → Nat → Nat) (sz : Nat → Nat) : Prop := ∃ tk : Nat, tk ≤ 3 ∧ countTalksF S el sz = nI tk
def IV (e9 : Nat × Nat) (x lo ta : Nat) (la : Nat → Nat) (M cnts : Nat) (told : Int32) (S : wPS) (el : Nat → Nat → Nat) (sz cp : Nat → Nat) (pw ow dn : Nat) : Prop := ST e9 x lo ta la S el sz cp ∧ EL1 S el sz ∧ EL2 S el sz ∧ EL3 S el sz ∧ EL4 S el sz ∧ EL5 S el sz pw ∧ SC S x lo ta M pw dn ∧ SM1 S ta el sz ow ∧ SM2 S ta el sz cnts ∧ SM3 S ta el sz told ∧ SM4 S el sz ∧ pw ≤ sz 8
theorem EL2.sq {S : wPS} {el : Nat → Nat → Nat} {sz : Nat → Nat} (h : EL2 S el sz) : SQx S el sz := fun i hi => by
  obtain ⟨-, -, -, -, -, ⟨b, h1, h2, -⟩, h3⟩ := h i hi
  exact ⟨⟨b, h1, h2⟩, h3⟩
/-- no column of these is among the changed -/
abbrev Nc (l cs : List Nat) : Prop := l.all (fun c => !cs.contains c) = true
theorem Nc.n {l cs : List Nat} (h : Nc l cs) {c : Nat} (hc : c ∈ l) : c ∉ cs := fun z => by
  have h1 := List.all_eq_true.mp h c hc
  rw [List.contains_iff_mem.mpr z] at h1
  exact absurd h1 (by decide)
theorem EL1.ch {e9 : Nat × Nat} {x lo ta : Nat} {la : Nat → Nat} {S S1 : wPS} {el : Nat → Nat → Nat} {sz cp : Nat → Nat} {cs rs : List Nat} (h : EL1 S el sz) (hs : ST e9 x lo ta la S el sz cp) (hC : Ch cs rs S S1) (n : Nc [q_Flight_x, q_Flight_y, q_Flight_isUp, q_Flight_count] cs) : EL1 S1 el sz := fun i hi => by
  have ho := (hs.ob (j := 5) (by decide) hi).1
  have h1 := h i hi
  unfold flI at h1 ⊢
  rw [hC.2.1 q_Flight_x (n.n (by decide)) _ ho, hC.2.1 q_Flight_y (n.n (by decide)) _ ho, hC.2.1 q_Flight_isUp (n.n (by decide)) _ ho, hC.2.1 q_Flight_count (n.n (by decide)) _ ho]
  exact h1
theorem sqI.ch {S S1 : wPS} {q : Nat} {cs rs : List Nat} (h : sqI S q) (hq : q ∈ sL S) (hC : Ch cs rs S S1) (n : Nc [q_Squadron_machines, q_Squadron_state, q_Squadron_fuel, q_Squadron_tank, q_Squadron_x, q_Squadron_y, q_Squadron_speed, q_Place_x, q_Place_y] cs) (nr : Nc [q_Squadron_base, q_Squadron_target] rs) : sqI S1 q := by
  obtain ⟨h1, h2, h3, h4, h5, ⟨b, h6, h7, h8⟩, h9⟩ := h
  unfold sqI
  rw [hC.2.1 q_Squadron_machines (n.n (by decide)) _ hq, hC.2.1 q_Squadron_state (n.n (by decide)) _ hq, hC.2.1 q_Squadron_fuel (n.n (by decide)) _ hq, hC.2.1 q_Squadron_tank (n.n (by decide)) _ hq, hC.2.1 q_Squadron_x (n.n (by decide)) _ hq, hC.2.1 q_Squadron_y (n.n (by decide)) _ hq, hC.2.1 q_Squadron_speed (n.n (by decide)) _ hq, hC.2.2 q_Squadron_base (nr.n (by decide)) _ hq, hC.2.2 q_Squadron_target (nr.n (by decide)) _ hq]
  refine ⟨h1, h2, h3, h4, h5, ⟨b, h6, hC.o h7, ?_⟩, ?_⟩
  · rw [hC.2.1 q_Place_x (n.n (by decide)) _ h7.1, hC.2.1 q_Place_y (n.n (by decide)) _ h7.1]; exact h8
  · rcases h9 with h9 | ⟨t, h9, h10⟩
    · exact Or.inl h9
    · exact Or.inr ⟨t, h9, hC.o h10⟩
theorem EL2.ch {e9 : Nat × Nat} {x lo ta : Nat} {la : Nat → Nat} {S S1 : wPS} {el : Nat → Nat → Nat} {sz cp : Nat → Nat} {cs rs : List Nat} (h : EL2 S el sz) (hs : ST e9 x lo ta la S el sz cp) (hC : Ch cs rs S S1) (n : Nc [q_Squadron_machines, q_Squadron_state, q_Squadron_fuel, q_Squadron_tank, q_Squadron_x, q_Squadron_y, q_Squadron_speed, q_Place_x, q_Place_y] cs) (nr : Nc [q_Squadron_base, q_Squadron_target] rs) : EL2 S1 el sz := fun i hi => (h i hi).ch (hs.ob (j := 2) (by decide) hi).1 hC n nr
theorem EL3.ch {e9 : Nat × Nat} {x lo ta : Nat} {la : Nat → Nat} {S S1 : wPS} {el : Nat → Nat → Nat} {sz cp : Nat → Nat} {cs rs : List Nat} (h : EL3 S el sz) (hs : ST e9 x lo ta la S el sz cp) (hC : Ch cs rs S S1) (n : Nc [q_Track_x, q_Track_y] cs) : EL3 S1 el sz := fun i hi => by
  have ho := (hs.ob (j := 7) (by decide) hi).1
  rw [hC.2.1 q_Track_x (n.n (by decide)) _ ho, hC.2.1 q_Track_y (n.n (by decide)) _ ho]
  exact h i hi
theorem EL4.ch {e9 : Nat × Nat} {x lo ta : Nat} {la : Nat → Nat} {S S1 : wPS} {el : Nat → Nat → Nat} {sz cp : Nat → Nat} {cs rs : List Nat} (h : EL4 S el sz) (hs : ST e9 x lo ta la S el sz cp) (hC : Ch cs rs S S1) (n : Nc [q_Mast_isCut, q_Mast_lost, q_Mast_slip] cs) : EL4 S1 el sz := fun i hi => by
  have ho := (hs.ob (j := 0) (by decide) hi).1
  rw [hC.2.1 q_Mast_isCut (n.n (by decide)) _ ho, hC.2.1 q_Mast_lost (n.n (by decide)) _ ho, hC.2.1 q_Mast_slip (n.n (by decide)) _ ho]
  exact h i hi
theorem EL5.ch {e9 : Nat × Nat} {x lo ta pw : Nat} {la : Nat → Nat} {S S1 : wPS} {el : Nat → Nat → Nat} {sz cp : Nat → Nat} {cs rs : List Nat} (h : EL5 S el sz pw) (hp : pw ≤ sz 8) (hs : ST e9 x lo ta la S el sz cp) (hC : Ch cs rs S S1) (n : Nc [q_Plot_x, q_Plot_y] cs) (nr : Nc [q_Plot_mast] rs) : EL5 S1 el sz pw := fun i hi => by
  have ho := (hs.ob (j := 8) (by decide) (Nat.lt_of_lt_of_le hi hp)).1
  rw [hC.2.1 q_Plot_x (n.n (by decide)) _ ho, hC.2.1 q_Plot_y (n.n (by decide)) _ ho, hC.2.2 q_Plot_mast (nr.n (by decide)) _ ho]
  exact h i hi
theorem SC.ch {e9 : Nat × Nat} {x lo ta M pw dn : Nat} {la : Nat → Nat} {S S1 : wPS} {el : Nat → Nat → Nat} {sz cp : Nat → Nat} {cs rs : List Nat} (h : SC S x lo ta M pw dn) (hs : ST e9 x lo ta la S el sz cp) (hC : Ch cs rs S S1) (n : Nc [q_Room_minute, q_Room_plotsOnWay, q_Lots_next, q_Lots_drawn, q_Tally_refused] cs) : SC S1 x lo ta M pw dn := by
  unfold SC
  rw [hC.2.1 q_Room_minute (n.n (by decide)) _ hs.1.1, hC.2.1 q_Room_plotsOnWay (n.n (by decide)) _ hs.1.1, hC.2.1 q_Lots_next (n.n (by decide)) _ hs.lo_ob.1, hC.2.1 q_Lots_drawn (n.n (by decide)) _ hs.lo_ob.1, hC.2.1 q_Tally_refused (n.n (by decide)) _ hs.ta_ob.1]
  exact h
theorem sum_ch {S S1 : wPS} {c : Nat} {e : Nat → Nat} (n : Nat) (h : ∀ i : Nat, i < n → sI S1 c (e i) = sI S c (e i)) : sumR (fun i => sI S1 c (e i)) n 0 0 = sumR (fun i => sI S c (e i)) n 0 0 := sumR_cg n 0 0 (fun k _ hk => h k (by omega))
theorem SM1.ch {e9 : Nat × Nat} {x lo ta ow : Nat} {la : Nat → Nat} {S S1 : wPS} {el : Nat → Nat → Nat} {sz cp : Nat → Nat} {cs rs : List Nat} (h : SM1 S ta el sz ow) (hs : ST e9 x lo ta la S el sz cp) (hC : Ch cs rs S S1) (n : Nc [q_Mast_made, q_Mast_came, q_Track_hits, q_Tally_plotsWithoutTrack] cs) : SM1 S1 ta el sz ow := by
  unfold SM1
  rw [sum_ch (sz 0) (fun i hi => hC.2.1 q_Mast_made (n.n (by decide)) _ (hs.ob (j := 0) (by decide) hi).1), sum_ch (sz 0) (fun i hi => hC.2.1 q_Mast_came (n.n (by decide)) _ (hs.ob (j := 0) (by decide) hi).1), sum_ch (sz 7) (fun i hi => hC.2.1 q_Track_hits (n.n (by decide)) _ (hs.ob (j := 7) (by decide) hi).1), hC.2.1 q_Tally_plotsWithoutTrack (n.n (by decide)) _ hs.ta_ob.1]
  exact h
theorem SM2.ch {e9 : Nat × Nat} {x lo ta cnts : Nat} {la : Nat → Nat} {S S1 : wPS} {el : Nat → Nat → Nat} {sz cp : Nat → Nat} {cs rs : List Nat} (h : SM2 S ta el sz cnts) (hs : ST e9 x lo ta la S el sz cp) (hC : Ch cs rs S S1) (n : Nc [q_Flight_count, q_Squadron_won, q_Tally_claims] cs) : SM2 S1 ta el sz cnts := by
  obtain ⟨cf, wf, cn, h1, h2, h3, h4⟩ := h
  exact ⟨cf, wf, cn, fun i hi => (hC.2.1 q_Flight_count (n.n (by decide)) _ (hs.ob (j := 5) (by decide) hi).1).trans (h1 i hi), fun i hi => (hC.2.1 q_Squadron_won (n.n (by decide)) _ (hs.ob (j := 2) (by decide) hi).1).trans (h2 i hi), (hC.2.1 q_Tally_claims (n.n (by decide)) _ hs.ta_ob.1).trans h3, h4⟩
theorem SM3.ch {e9 : Nat × Nat} {x lo ta : Nat} {told : Int32} {la : Nat → Nat} {S S1 : wPS} {el : Nat → Nat → Nat} {sz cp : Nat → Nat} {cs rs : List Nat} (h : SM3 S ta el sz told) (hs : ST e9 x lo ta la S el sz cp) (hC : Ch cs rs S S1) (n : Nc [q_Squadron_machines, q_Tally_machinesLost] cs) : SM3 S1 ta el sz told := by
  unfold SM3
  rw [sum_ch (sz 2) (fun i hi => hC.2.1 q_Squadron_machines (n.n (by decide)) _ (hs.ob (j := 2) (by decide) hi).1), hC.2.1 q_Tally_machinesLost (n.n (by decide)) _ hs.ta_ob.1]
  exact h
theorem SM4.mono {S S1 : wPS} {el : Nat → Nat → Nat} {sz : Nat → Nat} (h : SM4 S el sz) (hz : sz 2 ≤ 100000) (hm : ∀ i : Nat, i < sz 2 → talkB S1 (el 2 i) = true → talkB S (el 2 i) = true) : SM4 S1 el sz := by
  obtain ⟨tk, h1, h2⟩ := h
  obtain ⟨c1, c2, a1, a2, a3, a4⟩ := cntR_mono (p := fun i => talkB S1 (el 2 i)) (q := fun i => talkB S (el 2 i)) (sz 2) 0 0 0 (Nat.le_refl 0) (fun k _ hk => hm k (by omega))
  have e2 : countTalksF S el sz = nI c2 := a4
  have e1 : countTalksF S1 el sz = nI c1 := a3
  rw [e2] at h2
  have h3 := (nI_eq (a := c2) (b := tk) (by omega) (by omega)).mp h2
  exact ⟨c1, by omega, e1⟩
theorem SM4.ch {e9 : Nat × Nat} {x lo ta : Nat} {la : Nat → Nat} {S S1 : wPS} {el : Nat → Nat → Nat} {sz cp : Nat → Nat} {cs rs : List Nat} (h : SM4 S el sz) (hs : ST e9 x lo ta la S el sz cp) (hC : Ch cs rs S S1) (n : Nc [q_Squadron_state] cs) : SM4 S1 el sz := h.mono (hs.ls (j := 2) (by decide)).1.2.2.1 (fun i hi ht => by
  unfold talkB at ht ⊢
  rw [hC.2.1 q_Squadron_state (n.n (by decide)) _ (hs.ob (j := 2) (by decide) hi).1] at ht
  exact ht)
/-- a change that touches none of what holds -/
theorem IV.ch {e9 : Nat × Nat} {x lo ta M cnts pw ow dn : Nat} {told : Int32} {la : Nat → Nat} {S S1 : wPS} {el : Nat → Nat → Nat} {sz cp : Nat → Nat} {cs rs : List Nat} (h : IV e9 x lo ta la M cnts told S el sz cp pw ow dn) (hC : Ch cs rs S S1) (hW : Kw S S1) (n : Nc [q_List_size, q_Flight_x, q_Flight_y, q_Flight_isUp, q_Flight_count, q_Squadron_machines, q_Squadron_state, q_Squadron_fuel, q_Squadron_tank, q_Squadron_x, q_Squadron_y, q_Squadron_speed, q_Place_x, q_Place_y, q_Track_x, q_Track_y, q_Mast_isCut, q_Mast_lost, q_Mast_slip, q_Plot_x, q_Plot_y, q_Room_minute, q_Room_plotsOnWay, q_Lots_next, q_Lots_drawn, q_Tally_refused, q_Mast_made, q_Mast_came, q_Track_hits, q_Tally_plotsWithoutTrack, q_Squadron_won, q_Tally_claims, q_Tally_machinesLost] cs) (nr : rs = []) : IV e9 x lo ta la M cnts told S1 el sz cp pw ow dn := by
  subst nr
  obtain ⟨h1, h2, h3, h4, h5, h6, h7, h8, h9, h10, h11, h12⟩ := h
  have sub : ∀ l : List Nat, (∀ c : Nat, c ∈ l → c ∈ [q_List_size, q_Flight_x, q_Flight_y, q_Flight_isUp, q_Flight_count, q_Squadron_machines, q_Squadron_state, q_Squadron_fuel, q_Squadron_tank, q_Squadron_x, q_Squadron_y, q_Squadron_speed, q_Place_x, q_Place_y, q_Track_x, q_Track_y, q_Mast_isCut, q_Mast_lost, q_Mast_slip, q_Plot_x, q_Plot_y, q_Room_minute, q_Room_plotsOnWay, q_Lots_next, q_Lots_drawn, q_Tally_refused, q_Mast_made, q_Mast_came, q_Track_hits, q_Tally_plotsWithoutTrack, q_Squadron_won, q_Tally_claims, q_Tally_machinesLost]) → Nc l cs := fun l hl => List.all_eq_true.mpr (fun c hc => List.all_eq_true.mp n c (hl c hc))
  exact ⟨h1.ch hC hW (n.n (by decide)) (fun c hc => absurd hc List.not_mem_nil), h2.ch h1 hC (sub _ (by decide)), h3.ch h1 hC (sub _ (by decide)) (by decide), h4.ch h1 hC (sub _ (by decide)), h5.ch h1 hC (sub _ (by decide)), h6.ch h12 h1 hC (sub _ (by decide)) (by decide), h7.ch h1 hC (sub _ (by decide)), h8.ch h1 hC (sub _ (by decide)), h9.ch h1 hC (sub _ (by decide)), h10.ch h1 hC (sub _ (by decide)), h11.ch h1 hC (sub _ (by decide)), h12⟩

