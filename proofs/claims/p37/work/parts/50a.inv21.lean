theorem isIn_b {v a b : Nat} (h1 : a ≤ v) (h2 : v ≤ b) (hb : b < 2 ^ 31) : isInB (nI v) (nI a) (nI b) = true := by
  unfold isInB
  rw [decide_eq_false (nI_nlt h1 (by omega)), decide_eq_false (nI_nlt h2 hb)]
  rfl
theorem course_all : ((List.range 11).all fun t => (List.range 11).all fun u => isCourseB (nI t - 5) (nI u - 5)) = true := by decide +kernel
theorem course_t {t u : Nat} (ht : t < 11) (hu : u < 11) : isCourseB (nI t - 5) (nI u - 5) = true := List.all_eq_true.mp (List.all_eq_true.mp course_all t (List.mem_range.mpr ht)) u (List.mem_range.mpr hu)
def nnR : Nat → Nat
  | 0 => 0
  | d + 1 => nnR d + (7776 * (39 - d) + 11250)
theorem nnR_40 : nnR 40 = 6515280 := by decide +kernel
theorem told_eq {S : wPS} {ta : Nat} {el : Nat → Nat → Nat} {sz : Nat → Nat} {told a : Int32} (h : SM3 S ta el sz told) (hl : sI S q_Tally_machinesLost ta = 0) (hz : sz 2 = 5) (ha : a = sumR (fun i => sI S q_Squadron_machines (el 2 i)) 5 0 0) : a = told := by
  unfold SM3 at h
  rw [hl, Int32.add_zero, hz] at h
  exact ha.trans h
theorem IV.dnv {e9 : Nat × Nat} {x lo ta M cnts pw ow dn : Nat} {told : Int32} {la : Nat → Nat} {S : wPS} {el : Nat → Nat → Nat} {sz cp : Nat → Nat} (h : IV e9 x lo ta la M cnts told S el sz cp pw ow dn) : sI S q_Lots_drawn lo = nI dn := h.2.2.2.2.2.2.1.2.2.2.1
theorem lost_ch {S S1 : wPS} {ta : Nat} (h : Ch [q_List_size, q_List_modCount] [q_List_elementData] S S1) (ho : ta ∈ sL S) (hl : sI S q_Tally_machinesLost ta = 0) : sI S1 q_Tally_machinesLost ta = 0 := (h.2.1 q_Tally_machinesLost (by decide) ta ho).trans hl
theorem int_pos {t : Nat} : (1 : Int32) = 0 ∨ (1 : Int32) = 1 := Or.inr rfl
theorem lt12 {n : Nat} (h : n ≤ 100000) (c : ¬ (12 : Int32) ≤ nI n) : n < 12 := by
  by_cases hn : n < 12
  · exact hn
  · exact absurd (show (12 : Int32) ≤ nI n from nI_le (a := 12) (by omega) (by omega)) c

