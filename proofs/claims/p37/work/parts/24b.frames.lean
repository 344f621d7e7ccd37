/-- what stays: of every old thing its kind; its ints outside AI; its references, length and row outside AR -/
def Fr (AI AR : Nat → Prop) (S S1 : wPS) : Prop := ∀ b : Nat, b ∈ sL S → (b ∈ sL S1 ∧ sK S1 b = sK S b) ∧ (¬ AI b → ∀ c : Nat, sI S1 c b = sI S c b) ∧ (¬ AR b → (∀ c : Nat, sR S1 c b = sR S c b) ∧ sN S1 b = sN S b ∧ sW S1 b = sW S b)
theorem Fr.refl {AI AR : Nat → Prop} (S : wPS) : Fr AI AR S S := fun b hb => ⟨⟨hb, rfl⟩, fun _ _ => rfl, fun _ => ⟨fun _ => rfl, rfl, rfl⟩⟩
theorem Fr.trans {AI AR : Nat → Prop} {S S1 S2 : wPS} (h1 : Fr AI AR S S1) (h2 : Fr AI AR S1 S2) : Fr AI AR S S2 := fun b hb => by
  obtain ⟨⟨a1, a2⟩, a3, a4⟩ := h1 b hb
  obtain ⟨⟨b1, b2⟩, b3, b4⟩ := h2 b a1
  exact ⟨⟨b1, b2.trans a2⟩, fun n c => (b3 n c).trans (a3 n c), fun n => ⟨fun c => ((b4 n).1 c).trans ((a4 n).1 c), (b4 n).2.1.trans (a4 n).2.1, (b4 n).2.2.trans (a4 n).2.2⟩⟩
theorem Fr.weak {AI AR BI BR : Nat → Prop} {S S1 : wPS} (h : Fr AI AR S S1) (hI : ∀ b : Nat, b ∈ sL S → AI b → BI b) (hR : ∀ b : Nat, b ∈ sL S → AR b → BR b) : Fr BI BR S S1 := fun b hb => by
  obtain ⟨a1, a3, a4⟩ := h b hb
  exact ⟨a1, fun n c => a3 (fun z => n (hI b hb z)) c, fun n => a4 (fun z => n (hR b hb z))⟩
theorem fr_I {AI AR : Nat → Prop} {S : wPS} {c a : Nat} {v : Int32} (h : AI a) : Fr AI AR S (putI S c a v) := fun b hb => ⟨⟨hb, rfl⟩, fun n c2 => putI_col c2 b (Or.inr (fun z : b = a => n (z ▸ h))), fun _ => ⟨fun _ => rfl, rfl, rfl⟩⟩
theorem fr_R {AI AR : Nat → Prop} {S : wPS} {c a : Nat} {v : Option Nat} (h : AR a) : Fr AI AR S (putR S c a v) := fun b hb => ⟨⟨hb, rfl⟩, fun _ _ => rfl, fun n => ⟨fun c2 => putR_col c2 b (Or.inr (fun z : b = a => n (z ▸ h))), rfl, rfl⟩⟩
theorem fr_W {AI AR : Nat → Prop} {S : wPS} {a : Nat} {f : Nat → Option Nat} (h : AR a) : Fr AI AR S (putW S a f) := fun b hb => ⟨⟨hb, rfl⟩, fun _ _ => rfl, fun n => ⟨fun _ => rfl, rfl, if_neg (fun z : b = a => n (z ▸ h))⟩⟩
theorem fr_new {AI AR : Nat → Prop} {S : wPS} {a kd n : Nat} (h : a ∉ sL S) : Fr AI AR S (newS S a kd n) := fun b hb => by
  have ne : ¬ b = a := fun z => h (z ▸ hb)
  exact ⟨⟨List.mem_append_left _ hb, if_neg ne⟩, fun _ c => if_neg ne, fun _ => ⟨fun c => if_neg ne, if_neg ne, if_neg ne⟩⟩
theorem Fr.obj {AI AR : Nat → Prop} {S S1 : wPS} (h : Fr AI AR S S1) {b kb : Nat} (hb : b ∈ sL S ∧ sK S b = kb) : b ∈ sL S1 ∧ sK S1 b = kb := ⟨(h b hb.1).1.1, (h b hb.1).1.2.trans hb.2⟩
theorem Fr.i {AI AR : Nat → Prop} {S S1 : wPS} (h : Fr AI AR S S1) {b c : Nat} (hb : b ∈ sL S) (hn : ¬ AI b) : sI S1 c b = sI S c b := (h b hb).2.1 hn c
theorem Fr.r {AI AR : Nat → Prop} {S S1 : wPS} (h : Fr AI AR S S1) {b c : Nat} (hb : b ∈ sL S) (hn : ¬ AR b) : sR S1 c b = sR S c b := ((h b hb).2.2 hn).1 c
theorem Fr.n {AI AR : Nat → Prop} {S S1 : wPS} (h : Fr AI AR S S1) {b : Nat} (hb : b ∈ sL S) (hn : ¬ AR b) : sN S1 b = sN S b := ((h b hb).2.2 hn).2.1
theorem Fr.w {AI AR : Nat → Prop} {S S1 : wPS} (h : Fr AI AR S S1) {b : Nat} (hb : b ∈ sL S) (hn : ¬ AR b) : sW S1 b = sW S b := ((h b hb).2.2 hn).2.2
/-- a list with its room -/
def LSt (e9 : Nat × Nat) (S : wPS) (l kd : Nat) (e : Nat → Nat) (n c : Nat) : Prop := isL S l kd e n ∧ n ≤ c ∧ c ≤ 60000 ∧ ((c = 0 ∧ sR S q_List_elementData l = some e9.1) ∨ (0 < c ∧ ∃ r : Nat, sR S q_List_elementData l = some r ∧ (r ∈ sL S ∧ sK S r = 12) ∧ sN S r = c ∧ r ≠ e9.1))
theorem LSt.cases {e9 : Nat × Nat} {S : wPS} {l kd : Nat} {e : Nat → Nat} {n c : Nat} (h : LSt e9 S l kd e n c) : (∃ r0 : Nat, sR S q_List_elementData l = some r0 ∧ (r0 ∈ sL S ∧ sK S r0 = 12) ∧ n < sN S r0 ∧ sN S r0 = c) ∨ (n = 0 ∧ c = 0 ∧ sR S q_List_elementData l = some e9.1 ∧ sI S q_List_size l = 0) ∨ (∃ r0 : Nat, sR S q_List_elementData l = some r0 ∧ (r0 ∈ sL S ∧ sK S r0 = 12) ∧ sN S r0 = n ∧ 0 < n ∧ n = c ∧ ∀ i y : Nat, i < n → sW S r0 i = some y → y ∈ sL S ∧ sK S y = kd) := by
  obtain ⟨hL, hnc, hc, h0 | ⟨h0, r, he, hr, hN, -⟩⟩ := h
  · obtain ⟨rfl, h0⟩ := h0
    have hn : n = 0 := by omega
    subst hn
    exact Or.inr (Or.inl ⟨rfl, rfl, h0, hL.2.1.trans nI_0⟩)
  · by_cases hlt : n < c
    · exact Or.inl ⟨r, he, hr, by omega, hN⟩
    · have hnc2 : n = c := by omega
      subst hnc2
      refine Or.inr (Or.inr ⟨r, he, hr, hN, h0, rfl, fun i y hi hy => ?_⟩)
      obtain ⟨r1, he1, -, -, -, hw⟩ := hL.2.2.2.1 i hi
      have hrr : r1 = r := Option.some.inj (he1.symm.trans he)
      subst hrr
      have hye : y = e i := Option.some.inj (hy.symm.trans hw)
      subst hye
      exact hL.2.2.2.2 i hi
theorem LSt.sz {e9 : Nat × Nat} {S : wPS} {l kd : Nat} {e : Nat → Nat} {n c : Nat} (h : LSt e9 S l kd e n c) : sI S q_List_size l = nI n := h.1.2.1
theorem LSt.wat {e9 : Nat × Nat} {S : wPS} {l kd r0 i : Nat} {e : Nat → Nat} {n c : Nat} (h : LSt e9 S l kd e n c) (he : sR S q_List_elementData l = some r0) (hi : i < n) : sW S r0 i = some (e i) := by
  obtain ⟨r1, he1, -, -, -, hw⟩ := h.1.2.2.2.1 i hi
  have hrr : r1 = r0 := Option.some.inj (he1.symm.trans he)
  rw [hrr] at hw
  exact hw
/-- what a list's add leaves -/
def AddP (e9 : Nat × Nat) (S : wPS) (l kd : Nat) (e : Nat → Nat) (n c v : Nat) (S1 : wPS) : Prop := ∃ c1 : Nat, c1 ≤ gN c + 10 ∧ LSt e9 S1 l kd (va_up e n v) (n + 1) c1 ∧ Fr (fun b => b = l) (fun b => b = l ∨ (sK S b = 12 ∧ b ≠ e9.1 ∧ sR S q_List_elementData l = some b)) S S1 ∧ (sR S1 q_List_elementData l = sR S q_List_elementData l ∨ ∃ a : Nat, sR S1 q_List_elementData l = some a ∧ a ∉ sL S ∧ a ≠ e9.1) ∧ (∀ c0 : Nat, c0 ≠ q_List_size → c0 ≠ q_List_modCount → ∀ b : Nat, b ∈ sL S → sI S1 c0 b = sI S c0 b) ∧ (∀ c0 : Nat, c0 ≠ q_List_elementData → ∀ b : Nat, b ∈ sL S → sR S1 c0 b = sR S c0 b)
theorem addA_P {e9 : Nat × Nat} {S : wPS} {l kd r0 v : Nat} {e : Nat → Nat} {n c : Nat} (h : LSt e9 S l kd e n c) (he : sR S q_List_elementData l = some r0) (hr0 : r0 ∈ sL S ∧ sK S r0 = 12) (hc : n < sN S r0) (hcc : sN S r0 = c) (hn : n ≤ 50000) (hv : v ∈ sL S ∧ sK S v = kd) : AddP e9 S l kd e n c v (AddA S l r0 v n) := by
  obtain ⟨hL, hnc, hc6, h9⟩ := h
  have hne : r0 ≠ e9.1 := by
    rcases h9 with ⟨h91, -⟩ | ⟨-, r1, h92, -, -, h93⟩
    · omega
    · exact (Option.some.inj (h92.symm.trans he)) ▸ h93
  have hW : sW (AddA S l r0 v n) r0 = va_up (sW S r0) n (some v) := by
    show va_up (sW S) r0 (va_up (sW S r0) (nI n).toNatClampNeg (some v)) r0 = _
    rw [nI_clamp (by omega)]
    exact if_pos rfl
  refine ⟨c, by unfold gN; omega, ⟨⟨hL.1, ?_, by omega, fun i hi => ⟨r0, he, hr0, by show n + 1 ≤ sN S r0; omega, by show sN S r0 ≤ 200000; omega, ?_⟩, fun i hi => ?_⟩, by omega, hc6, Or.inr ⟨by omega, r0, he, hr0, hcc, hne⟩⟩, ?_, Or.inl rfl, fun c0 n1 n2 b _ => (putI_col c0 b (Or.inl n1)).trans (putI_col c0 b (Or.inl n2)), fun c0 _ b _ => rfl⟩
  · exact putI_at.trans (nI_1 n)
  · rw [hW]
    by_cases hin : i = n
    · subst hin
      show (if i = i then some v else _) = some (if i = i then v else _)
      rw [if_pos rfl, if_pos rfl]
    · show (if i = n then some v else sW S r0 i) = some (if i = n then v else e i)
      rw [if_neg hin, if_neg hin]
      obtain ⟨r1, he1, -, -, -, hw⟩ := hL.2.2.2.1 i (by omega)
      have hrr : r1 = r0 := Option.some.inj (he1.symm.trans he)
      rw [hrr] at hw
      exact hw
  · by_cases hin : i = n
    · have e1 : va_up e n v i = v := if_pos hin
      rw [e1]; exact hv
    · have e1 : va_up e n v i = e i := if_neg hin
      rw [e1]; exact hL.2.2.2.2 i (by omega)
  · exact Fr.trans (Fr.trans (fr_I rfl) (fr_W (Or.inr ⟨hr0.2, hne, he⟩))) (fr_I rfl)
theorem addB_P {e9 : Nat × Nat} {S : wPS} {l kd v a N : Nat} {f : Nat → Option Nat} {e : Nat → Nat} {n c : Nat} (h : LSt e9 S l kd e n c) (fa : a ∉ sL S) (ne : a ≠ e9.1) (hn : n ≤ 50000) (hN : n < N) (hN2 : N ≤ gN c + 10) (hN3 : N ≤ 60000) (hv : v ∈ sL S ∧ sK S v = kd) (hf : ∀ i : Nat, i < n → f i = some (e i)) : AddP e9 S l kd e n c v (AddB (putI S q_List_modCount l (sI S q_List_modCount l + 1)) l a N f v n) := by
  obtain ⟨hL, hnc, hc6, -⟩ := h
  have hla : ¬ l = a := fun z => fa (z ▸ hL.1.1)
  have hR : sR (AddB (putI S q_List_modCount l (sI S q_List_modCount l + 1)) l a N f v n) q_List_elementData l = some a := putR_at (S := putW (newS (putI S q_List_modCount l (sI S q_List_modCount l + 1)) a 12 N) a f) (c := q_List_elementData) (a := l) (v := some a)
  have hA : a ∈ sL (AddB (putI S q_List_modCount l (sI S q_List_modCount l + 1)) l a N f v n) ∧ sK (AddB (putI S q_List_modCount l (sI S q_List_modCount l + 1)) l a N f v n) a = 12 := nw_at (n := N) fa
  have hO : ∀ b kb : Nat, b ∈ sL S ∧ sK S b = kb → b ∈ sL (AddB (putI S q_List_modCount l (sI S q_List_modCount l + 1)) l a N f v n) ∧ sK (AddB (putI S q_List_modCount l (sI S q_List_modCount l + 1)) l a N f v n) b = kb := fun b kb hb => nw_old (n := N) fa hb
  have hNN : sN (AddB (putI S q_List_modCount l (sI S q_List_modCount l + 1)) l a N f v n) a = N := if_pos rfl
  have hW : sW (AddB (putI S q_List_modCount l (sI S q_List_modCount l + 1)) l a N f v n) a = va_up f n (some v) := by
    show va_up _ a (va_up f (nI n).toNatClampNeg (some v)) a = _
    rw [nI_clamp (by omega)]
    exact if_pos rfl
  refine ⟨N, hN2, ⟨⟨hO l 11 hL.1, ?_, by omega, fun i hi => ⟨a, hR, hA, by rw [hNN]; omega, by rw [hNN]; omega, ?_⟩, fun i hi => ?_⟩, by omega, hN3, Or.inr ⟨by omega, a, hR, hA, hNN, ne⟩⟩, ?_, Or.inr ⟨a, hR, fa, ne⟩, fun c0 n1 n2 b hb => ?_, fun c0 n1 b hb => ?_⟩
  · exact putI_at.trans (nI_1 n)
  · rw [hW]
    by_cases hin : i = n
    · show (if i = n then some v else _) = some (if i = n then v else _)
      rw [if_pos hin, if_pos hin]
    · show (if i = n then some v else f i) = some (if i = n then v else e i)
      rw [if_neg hin, if_neg hin, hf i (by omega)]
  · by_cases hin : i = n
    · have e1 : va_up e n v i = v := if_pos hin
      rw [e1]; exact hO v kd hv
    · have e1 : va_up e n v i = e i := if_neg hin
      rw [e1]; exact hO _ kd (hL.2.2.2.2 i (by omega))
  · intro b hb
    have hba : ¬ b = a := fun z => fa (z ▸ hb)
    refine ⟨⟨List.mem_append_left _ hb, if_neg hba⟩, fun hnl c2 => ?_, fun hnr => ⟨fun c2 => ?_, if_neg hba, ?_⟩⟩
    · refine (putI_col c2 b (Or.inr hnl)).trans ?_
      show va_up (sI (putI S q_List_modCount l (sI S q_List_modCount l + 1)) c2) a 0 b = _
      exact (if_neg hba).trans (putI_col c2 b (Or.inr hnl))
    · refine (putR_col c2 b (Or.inr (fun z => hnr (Or.inl z)))).trans ?_
      exact if_neg hba
    · show va_up (va_up (va_up (sW S) a (fun _ => none)) a f) a _ b = _
      exact (if_neg hba).trans ((if_neg hba).trans (if_neg hba))
  · have hba : ¬ b = a := fun z => fa (z ▸ hb)
    refine (putI_col c0 b (Or.inl n1)).trans ?_
    show va_up (sI (putI S q_List_modCount l (sI S q_List_modCount l + 1)) c0) a 0 b = _
    exact (if_neg hba).trans (putI_col c0 b (Or.inl n2))
  · have hba : ¬ b = a := fun z => fa (z ▸ hb)
    refine (putR_col c0 b (Or.inl n1)).trans ?_
    exact if_neg hba

