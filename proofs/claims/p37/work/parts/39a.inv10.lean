theorem slip_ne {s : Nat} (h : s ≤ 9) : ¬ 2 * nI s + 1 = 0 := by
  have hall : ((List.range 10).all fun t => decide (¬ 2 * nI t + 1 = 0)) = true := by decide +kernel
  exact of_decide_eq_true (List.all_eq_true.mp hall s (List.mem_range.mpr (by omega)))
theorem eob {S : wPS} {f g : Nat → Nat} {j kd : Nat} (e : f = g) (h : f j ∈ sL S ∧ sK S (f j) = kd) : g j ∈ sL S ∧ sK S (g j) = kd := e ▸ h
/-- lists but those of tracks and plots stay, those grow -/
def GR (el : Nat → Nat → Nat) (sz : Nat → Nat) (el1 : Nat → Nat → Nat) (sz1 : Nat → Nat) : Prop := (∀ j : Nat, j ≠ 7 → j ≠ 8 → el1 j = el j ∧ sz1 j = sz j) ∧ sz 7 ≤ sz1 7 ∧ sz 8 ≤ sz1 8
theorem GR.refl {el : Nat → Nat → Nat} {sz : Nat → Nat} : GR el sz el sz := ⟨fun _ _ _ => ⟨rfl, rfl⟩, Nat.le_refl _, Nat.le_refl _⟩
theorem GR.trans {el el1 el2 : Nat → Nat → Nat} {sz sz1 sz2 : Nat → Nat} (h : GR el sz el1 sz1) (h2 : GR el1 sz1 el2 sz2) : GR el sz el2 sz2 := ⟨fun j h7 h8 => ⟨(h2.1 j h7 h8).1.trans (h.1 j h7 h8).1, (h2.1 j h7 h8).2.trans (h.1 j h7 h8).2⟩, Nat.le_trans h.2.1 h2.2.1, Nat.le_trans h.2.2 h2.2.2⟩
theorem GR.e {el el1 : Nat → Nat → Nat} {sz sz1 : Nat → Nat} (h : GR el sz el1 sz1) {j : Nat} (h7 : j ≠ 7) (h8 : j ≠ 8) : el1 j = el j := (h.1 j h7 h8).1
theorem GR.z {el el1 : Nat → Nat → Nat} {sz sz1 : Nat → Nat} (h : GR el sz el1 sz1) {j : Nat} (h7 : j ≠ 7) (h8 : j ≠ 8) : sz1 j = sz j := (h.1 j h7 h8).2
theorem GR_up8 {el : Nat → Nat → Nat} {sz : Nat → Nat} {e : Nat → Nat} : GR el sz (va_up el 8 e) (va_up sz 8 (sz 8 + 1)) := ⟨fun j _ h8 => ⟨if_neg h8, if_neg h8⟩, Nat.le_of_eq (show sz 7 = va_up sz 8 (sz 8 + 1) 7 from (if_neg (by decide)).symm), by rw [show va_up sz 8 (sz 8 + 1) 8 = sz 8 + 1 from if_pos rfl]; omega⟩
theorem GR_up7 {el : Nat → Nat → Nat} {sz : Nat → Nat} {e : Nat → Nat} : GR el sz (va_up el 7 e) (va_up sz 7 (sz 7 + 1)) := ⟨fun j h7 _ => ⟨if_neg h7, if_neg h7⟩, by rw [show va_up sz 7 (sz 7 + 1) 7 = sz 7 + 1 from if_pos rfl]; omega, Nat.le_of_eq (show sz 8 = va_up sz 7 (sz 7 + 1) 8 from (if_neg (by decide)).symm)⟩
theorem IV.p8 {e9 : Nat × Nat} {x lo ta M cnts pw ow dn : Nat} {told : Int32} {la : Nat → Nat} {S : wPS} {el : Nat → Nat → Nat} {sz cp : Nat → Nat} (h : IV e9 x lo ta la M cnts told S el sz cp pw ow dn) : pw ≤ sz 8 := h.2.2.2.2.2.2.2.2.2.2.2
theorem IV.pwv {e9 : Nat × Nat} {x lo ta M cnts pw ow dn : Nat} {told : Int32} {la : Nat → Nat} {S : wPS} {el : Nat → Nat → Nat} {sz cp : Nat → Nat} (h : IV e9 x lo ta la M cnts told S el sz cp pw ow dn) : sI S q_Room_plotsOnWay x = nI pw := h.2.2.2.2.2.2.1.2.1
theorem IV.mnv {e9 : Nat × Nat} {x lo ta M cnts pw ow dn : Nat} {told : Int32} {la : Nat → Nat} {S : wPS} {el : Nat → Nat → Nat} {sz cp : Nat → Nat} (h : IV e9 x lo ta la M cnts told S el sz cp pw ow dn) : sI S q_Room_minute x = nI M := h.2.2.2.2.2.2.1.1
theorem IV.slip {e9 : Nat × Nat} {x lo ta M cnts pw ow dn i : Nat} {told : Int32} {la : Nat → Nat} {S : wPS} {el : Nat → Nat → Nat} {sz cp : Nat → Nat} (h : IV e9 x lo ta la M cnts told S el sz cp pw ow dn) (hi : i < sz 0) : ∃ s : Nat, s ≤ 9 ∧ sI S q_Mast_slip (el 0 i) = nI s := (h.2.2.2.2.1 i hi).2.2
theorem IV_write2 {e9 : Nat × Nat} {x lo ta M cnts pw ow dn k m p : Nat} {told : Int32} {la : Nat → Nat} {S : wPS} {el : Nat → Nat → Nat} {sz cp : Nat → Nat} {u v g w : Int32} (h : IV e9 x lo ta la M cnts told S el sz cp pw ow dn) (hk : k < sz 0) (hm : el 0 k = m) (hpp : el 8 pw = p) (hp : pw < sz 8) (huv : isPlaceB u v = true) : IV e9 x lo ta la M cnts told (putI (putI (writeF S p m u v g w) q_Room_plotsOnWay x (sI (writeF S p m u v g w) q_Room_plotsOnWay x + 1)) q_Mast_made m (sI (putI (writeF S p m u v g w) q_Room_plotsOnWay x (sI (writeF S p m u v g w) q_Room_plotsOnWay x + 1)) q_Mast_made m + 1)) el sz cp (pw + 1) (ow + 1) dn := by
  subst hm; subst hpp
  exact IV_write h hk hp huv
theorem eo2 {S : wPS} {a b kd : Nat} (e : a = b) (h : a ∈ sL S ∧ sK S a = kd) : b ∈ sL S ∧ sK S b = kd := e ▸ h
theorem IV.slip2 {e9 : Nat × Nat} {x lo ta M cnts pw ow dn i m : Nat} {told : Int32} {la : Nat → Nat} {S : wPS} {el : Nat → Nat → Nat} {sz cp : Nat → Nat} (h : IV e9 x lo ta la M cnts told S el sz cp pw ow dn) (hi : i < sz 0) (hm : el 0 i = m) : ∃ s : Nat, s ≤ 9 ∧ sI S q_Mast_slip m = nI s := hm ▸ h.slip hi
theorem gN_mono {a b : Nat} (h : a ≤ b) : gN a ≤ gN b := by unfold gN; omega

