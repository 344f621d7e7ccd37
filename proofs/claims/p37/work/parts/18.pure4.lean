def fldR (f : Nat → Int64 → Int64) : Nat → Nat → Int64 → Int64
  | 0, _, a => a
  | d + 1, i, a => fldR f d (i + 1) (f i a)
theorem fld_s {f : Nat → Int64 → Int64} {d i : Nat} {a b : Int64} (h : f i a = b) : fldR f (d + 1) i a = fldR f d (i + 1) b := by rw [← h]; rfl
def bsF (S : wPS) (q : Nat) : Nat := (sR S q_Squadron_base q).getD 0
theorem SQx.bs {S : wPS} {el : Nat → Nat → Nat} {sz : Nat → Nat} {i : Nat} (h : SQx S el sz) (hi : i < sz 2) : sR S q_Squadron_base (el 2 i) = some (bsF S (el 2 i)) ∧ (bsF S (el 2 i) ∈ sL S ∧ sK S (bsF S (el 2 i)) = 4) := by
  obtain ⟨⟨b, h1, h2⟩, -⟩ := h i hi
  unfold bsF
  rw [h1]
  exact ⟨rfl, h2⟩
def ttF (S : wPS) (x : Nat) (el : Nat → Nat → Nat) (sz : Nat → Nat) (t : Nat) : Nat → Int32
  | 0 => sI S q_Track_x t
  | 1 => sI S q_Track_y t
  | 2 => sI S q_Track_minute t
  | 3 => sI S q_Track_courseX t
  | 4 => sI S q_Track_courseY t
  | 5 => sI S q_Track_guess t
  | 6 => sI S q_Track_hits t
  | 7 => zb (!decide (sI S q_Track_isLive t = 0))
  | 8 => kindF S el sz t
  | 9 => sI S q_Room_minute x - sI S q_Track_minute t
  | _ => countSentF S el sz t
def rmF (S : wPS) (x lo ta : Nat) (el : Nat → Nat → Nat) (sz : Nat → Nat) : Nat → Int32
  | 0 => sI S q_Room_minute x
  | 1 => countUpF S el sz 0
  | 2 => countUpF S el sz 1
  | 3 => countFoeF S el sz
  | 4 => nI (sz 7)
  | 5 => countLiveF S el sz
  | 6 => countKindF S el sz 0
  | 7 => countKindF S el sz 2
  | 8 => sI S q_Room_plotsOnWay x
  | 9 => sI S q_Tally_plotsWithoutTrack ta
  | 10 => countAirF S el sz
  | 11 => countTalksF S el sz
  | 12 => sI S q_Tally_fights ta
  | 13 => countWonF S el sz
  | 14 => sI S q_Tally_claims ta
  | 15 => sI S q_Tally_machinesLost ta
  | 16 => sI S q_Tally_shames ta
  | 17 => sI S q_Tally_work ta
  | 18 => sI S q_Tally_lives ta
  | 19 => sI S q_Lots_drawn lo
  | _ => sI S q_Tally_refused ta
def sqF (S : wPS) (q : Nat) : Nat → Int32
  | 1 => sI S q_Squadron_machines q
  | 2 => sI S q_Squadron_state q
  | 3 => sI S q_Squadron_x q
  | 4 => sI S q_Squadron_y q
  | 5 => sI S q_Squadron_fuel q
  | 6 => tnF S q
  | 7 => sI S q_Squadron_due q
  | 8 => mbF S q (bsF S q)
  | _ => sI S q_Squadron_won q
def dg (f : Nat → Int32) : Nat → Nat → Int64 → Int64
  | 0, _, a => a
  | d + 1, k, a => dg f d (k + 1) (a * 31 + Int32.toInt64 (f k))
def msF (S : wPS) (m : Nat) : Nat → Int32
  | 6 => zb (!decide (sI S q_Mast_isCut m = 0))
  | 7 => sI S q_Mast_made m
  | 8 => sI S q_Mast_came m
  | _ => sI S q_Mast_lost m
def skyM (S : wPS) (el : Nat → Nat → Nat) (sz : Nat → Nat) (a : Int64) : Int64 := fldR (fun i a => dg (msF S (el 0 i)) 4 6 a) (sz 0) 0 a
def flF (S : wPS) (f : Nat) (a : Int64) : Int64 := (((a * 31 + Int32.toInt64 (sI S q_Flight_x f)) * 31 + Int32.toInt64 (sI S q_Flight_y f)) * 31 + Int32.toInt64 (sI S q_Flight_count f)) * 31 + Int32.toInt64 (zb (!decide (sI S q_Flight_isUp f = 0)))
def skyF (S : wPS) (el : Nat → Nat → Nat) (sz : Nat → Nat) (a : Int64) : Int64 := skyM S el sz (fldR (fun i a => flF S (el 5 i) a) (sz 5) 0 a)
def dtrF (S : wPS) (x : Nat) (el : Nat → Nat → Nat) (sz : Nat → Nat) (a : Int64) : Int64 := fldR (fun i a => dg (ttF S x el sz (el 7 i)) 11 0 a * 31 + Int32.toInt64 (behF S x el sz (el 7 i))) (sz 7) 0 a
def digE (S : wPS) (x ta : Nat) (el : Nat → Nat → Nat) (sz : Nat → Nat) (a : Int64) : Int64 := (a * 31 + FP.d2l (FP.dmul 4634204016564240384 (seenF S x el sz))) * 31 + Int32.toInt64 (zb (soundB S x ta el sz))
def digT (S : wPS) (x ta : Nat) (el : Nat → Nat → Nat) (sz : Nat → Nat) (a : Int64) : Int64 := digE S x ta el sz (fldR (fun i a => (a * 31 + Int32.toInt64 (if thrF S x el sz (el 4 i) 8 = -1 then 0 else 1)) * 31 + Int32.toInt64 (sirF S x el sz (el 4 i))) (sz 4) 0 a)
def digK (S : wPS) (x ta : Nat) (el : Nat → Nat → Nat) (sz : Nat → Nat) (a : Int64) : Int64 := digT S x ta el sz (fldR (fun i a => a * 31 + Int32.toInt64 (bestF S x el sz (el 7 i))) (sz 7) 0 a)
def digQ (S : wPS) (x ta : Nat) (el : Nat → Nat → Nat) (sz : Nat → Nat) (a : Int64) : Int64 := digK S x ta el sz (fldR (fun i a => dg (sqF S (el 2 i)) 9 1 a) (sz 2) 0 a)
def digF (S : wPS) (x lo ta : Nat) (el : Nat → Nat → Nat) (sz : Nat → Nat) : Int64 := digQ S x ta el sz (dtrF S x el sz (skyF S el sz (dg (rmF S x lo ta el sz) 21 0 7001)))
theorem isNum_t {k n : Nat} {w : Int32} (hw : w = nI k) (h : k < n) (hn : n ≤ 100000) : isNumB w (nI n) = true := by
  subst hw
  unfold isNumB
  rw [decide_eq_false (nI_pos (by omega)), decide_eq_false (nI_ge h (by omega))]; rfl
theorem cntR_nI (p : Nat → Bool) : ∀ (d i : Nat) (a : Int32), ∃ c : Nat, c ≤ d ∧ cntR p d i a = a + nI c
  | 0, _, a => ⟨0, Nat.le_refl 0, by rw [nI_0]; exact (Int32.add_zero a).symm⟩
  | d + 1, i, a => by
    by_cases h : p i = true
    · obtain ⟨c, h1, h2⟩ := cntR_nI p d (i + 1) (a + 1)
      refine ⟨c + 1, by omega, ?_⟩
      show cntR p d (i + 1) (if p i = true then a + 1 else a) = _
      rw [if_pos h, h2, nI_succ, Int32.add_assoc, Int32.add_comm 1 (nI c)]
    · obtain ⟨c, h1, h2⟩ := cntR_nI p d (i + 1) a
      refine ⟨c, by omega, ?_⟩
      show cntR p d (i + 1) (if p i = true then a + 1 else a) = _
      rw [if_neg h, h2]
theorem cntR_0 (p : Nat → Bool) (d : Nat) : ∃ c : Nat, c ≤ d ∧ cntR p d 0 0 = nI c := by
  obtain ⟨c, h1, h2⟩ := cntR_nI p d 0 0
  exact ⟨c, h1, h2.trans (Int32.zero_add _)⟩
def fpOk (c k : Nat) : Bool := decide (FP.ddiv (FP.i2d (nI c)) (FP.i2d (nI k)) &&& 0x7fffffffffffffff ≤ 0x7ff0000000000000) && decide (FP.dmul 4634204016564240384 (FP.ddiv (FP.i2d (nI c)) (FP.i2d (nI k))) &&& 0x7fffffffffffffff ≤ 0x7ff0000000000000)
theorem fp_all : ((List.range 13).all fun c => (List.range 13).all fun k => k == 0 || fpOk c k) = true := by decide +kernel
theorem fp_ok {c k : Nat} (hc : c ≤ 12) (hk : k ≤ 12) (h0 : ¬ k = 0) : fpOk c k = true := by
  have h := List.all_eq_true.mp fp_all c (List.mem_range.mpr (by omega))
  have h1 := List.all_eq_true.mp h k (List.mem_range.mpr (by omega))
  simpa [h0] using h1
theorem nI_z {c : Nat} (hc : c ≤ 12) (h : ¬ nI c = 0) : ¬ c = 0 := fun z => h (by rw [z]; exact nI_0)
theorem seen_n {S : wPS} {x : Nat} {el : Nat → Nat → Nat} {sz : Nat → Nat} (h : sz 5 ≤ 12) (hu : ¬ countUpF S el sz 0 = 0) : vf_n64 (FP.ddiv (FP.i2d (knownF S x el sz)) (FP.i2d (countUpF S el sz 0))) := by
  obtain ⟨c, h1, h2⟩ := cntR_0 (fun i => !decide (sI S q_Flight_isUp (el 5 i) = 0) && onTabB S x el sz (el 5 i)) (sz 5)
  obtain ⟨k, h3, h4⟩ := cntR_0 (fun i => upB S 0 (el 5 i)) (sz 5)
  have e1 : knownF S x el sz = nI c := h2
  have e2 : countUpF S el sz 0 = nI k := h4
  rw [e2] at hu
  rw [e1, e2]
  have h9 := fp_ok (c := c) (k := k) (by omega) (by omega) (nI_z (by omega) hu)
  have h8 := of_decide_eq_true (Bool.and_eq_true_iff.mp h9).1; exact h8
theorem seen_m {S : wPS} {x : Nat} {el : Nat → Nat → Nat} {sz : Nat → Nat} (h : sz 5 ≤ 12) : vf_n64 (FP.dmul 4634204016564240384 (seenF S x el sz)) := by
  unfold seenF
  by_cases hu : countUpF S el sz 0 = 0
  · rw [if_pos hu]
    exact of_decide_eq_true (p := (FP.dmul 4634204016564240384 FP.dconst1 &&& 0x7fffffffffffffff ≤ 0x7ff0000000000000)) (by decide +kernel)
  · rw [if_neg hu]
    obtain ⟨c, h1, h2⟩ := cntR_0 (fun i => !decide (sI S q_Flight_isUp (el 5 i) = 0) && onTabB S x el sz (el 5 i)) (sz 5)
    obtain ⟨k, h3, h4⟩ := cntR_0 (fun i => upB S 0 (el 5 i)) (sz 5)
    have e1 : knownF S x el sz = nI c := h2
    have e2 : countUpF S el sz 0 = nI k := h4
    rw [e2] at hu
    rw [e1, e2]
    have h9 := fp_ok (c := c) (k := k) (by omega) (by omega) (nI_z (by omega) hu)
    have h8 := of_decide_eq_true (Bool.and_eq_true_iff.mp h9).2; exact h8
