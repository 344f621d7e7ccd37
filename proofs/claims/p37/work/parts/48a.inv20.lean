def fqOk (c k : Nat) : Bool := !decide (Op.cmpValue (FP.dcmp (FP.ddiv (FP.i2d (nI c)) (FP.i2d (nI k))) FP.dconst0) .g < 0) && !decide (0 < Op.cmpValue (FP.dcmp (FP.ddiv (FP.i2d (nI c)) (FP.i2d (nI k))) FP.dconst1) .l)
theorem fq_all : ((List.range 13).all fun c => (List.range 13).all fun k => k == 0 || (decide (k < c) || fqOk c k)) = true := by decide +kernel
theorem fq_ok {c k : Nat} (hk : k ≤ 12) (h0 : ¬ k = 0) (hck : c ≤ k) : fqOk c k = true := by
  have h := List.all_eq_true.mp fq_all c (List.mem_range.mpr (by omega))
  have h1 := List.all_eq_true.mp h k (List.mem_range.mpr (by omega))
  rcases Bool.or_eq_true_iff.mp h1 with z | z
  · exact absurd (by simpa using z) h0
  · rcases Bool.or_eq_true_iff.mp z with z | z
    · exact absurd (of_decide_eq_true z) (by omega)
    · exact z
theorem seen_b {S : wPS} {x : Nat} {el : Nat → Nat → Nat} {sz : Nat → Nat} (h : sz 5 ≤ 12) : ¬ Op.cmpValue (FP.dcmp (seenF S x el sz) FP.dconst0) .g < 0 ∧ ¬ 0 < Op.cmpValue (FP.dcmp (seenF S x el sz) FP.dconst1) .l := by
  unfold seenF
  by_cases hu : countUpF S el sz 0 = 0
  · rw [if_pos hu]
    have hd : (!decide (Op.cmpValue (FP.dcmp FP.dconst1 FP.dconst0) .g < 0) && !decide (0 < Op.cmpValue (FP.dcmp FP.dconst1 FP.dconst1) .l)) = true := by decide +kernel
    obtain ⟨h1, h2⟩ := Bool.and_eq_true_iff.mp hd
    exact ⟨by simpa using h1, by simpa using h2⟩
  · rw [if_neg hu]
    obtain ⟨c, k, a1, a2, a3, a4⟩ := cntR_mono (p := fun i => !decide (sI S q_Flight_isUp (el 5 i) = 0) && onTabB S x el sz (el 5 i)) (q := fun i => upB S 0 (el 5 i)) (sz 5) 0 0 0 (Nat.le_refl 0) (fun k _ _ hk => by
      unfold upB
      rw [Bool.and_eq_true_iff] at hk ⊢
      exact ⟨hk.1, by rw [Bool.or_eq_true_iff]; exact Or.inr (by decide)⟩)
    have e1 : knownF S x el sz = nI c := a3
    have e2 : countUpF S el sz 0 = nI k := a4
    rw [e2] at hu
    rw [e1, e2]
    have h9 := fq_ok (c := c) (k := k) (by omega) (nI_z (by omega) hu) a1
    obtain ⟨h1, h2⟩ := Bool.and_eq_true_iff.mp h9
    exact ⟨by simpa using h1, by simpa using h2⟩
theorem bestR_ge {fl all mac : Nat → Int32} {ok : Nat → Bool} : ∀ (d i : Nat) (b a m : Int32), i + d ≤ 100000 → ¬ b < -1 → ¬ bestR fl all mac ok d i b a m < -1
  | 0, _, _, _, _, _, h => h
  | d + 1, i, b, a, m, hn, h => by
    unfold bestR
    split
    · refine bestR_ge d (i + 1) _ _ _ (by omega) (fun z => ?_)
      have h1 : nI i < 0 := Int32.lt_trans z (by decide)
      exact nI_pos (by omega) h1
    · exact bestR_ge d (i + 1) _ _ _ (by omega) h
theorem best_ge {S : wPS} {x t : Nat} {el : Nat → Nat → Nat} {sz : Nat → Nat} (h : sz 2 ≤ 100000) : ¬ bestF S x el sz t < -1 := bestR_ge (sz 2) 0 (-1) 0 0 (by omega) (by decide)
theorem sir_ge {S : wPS} {x T : Nat} {el : Nat → Nat → Nat} {sz : Nat → Nat} : ¬ sirF S x el sz T < -1 := by
  unfold sirF
  split
  · decide
  · split
    · rename_i h
      intro z
      exact absurd (Int32.lt_trans h z) (by decide)
    · decide
theorem lg_self (a : Int64) : lg_cmp a a = 0 := by
  unfold lg_cmp
  rw [if_neg (show ¬ a > a from Int64.lt_irrefl), if_pos rfl]
theorem allR_true {p : Nat → Bool} : ∀ (d i : Nat), (∀ k : Nat, i ≤ k → k < i + d → p k = true) → allR p d i = true
  | 0, _, _ => rfl
  | d + 1, i, h => by
    show (if p i = true then allR p d (i + 1) else false) = true
    rw [if_pos (h i (Nat.le_refl i) (by omega))]
    exact allR_true d (i + 1) (fun k h1 h2 => h k (by omega) (by omega))
theorem sound_of {S : wPS} {x ta cnts ow : Nat} {el : Nat → Nat → Nat} {sz : Nat → Nat} (h1 : EL1 S el sz) (h2 : EL2 S el sz) (h3 : EL3 S el sz) (h4 : EL4 S el sz) (h5 : SM1 S ta el sz ow) (h6 : sI S q_Room_plotsOnWay x = nI ow) (h7 : SM2 S ta el sz cnts) (h8 : SM4 S el sz) (hc : cnts ≤ 1188) : soundB S x ta el sz = true := by
  obtain ⟨L, W, cn, s1, s2, s3, s4, s5, s6⟩ := h7.sums
  have hlost : sumR (fun i => sI S q_Mast_lost (el 0 i)) (sz 0) 0 0 = 0 := sumR_zero (sz 0) 0 (fun k _ hk => (h4 k (by omega)).2.1)
  unfold soundB
  rw [Bool.and_eq_true_iff, Bool.and_eq_true_iff, Bool.and_eq_true_iff]
  refine ⟨⟨⟨?_, ?_⟩, ?_⟩, ?_⟩
  · unfold sqSoundB
    rw [Bool.and_eq_true_iff]
    refine ⟨decide_eq_true (Int32.not_lt.mp (talks_le h8)), allR_true (sz 2) 0 (fun k _ hk => ?_)⟩
    obtain ⟨⟨m, hm, hmm, hst⟩, hf, -⟩ := h2 k (by omega)
    show (!inAirB S (el 2 k) || (!decide (sI S q_Squadron_machines (el 2 k) ≤ 0) && decide (0 < sI S q_Squadron_fuel (el 2 k)))) = true
    by_cases ha : inAirB S (el 2 k) = true
    · unfold inAirB at ha
      have h0 : 0 < m := sq_m0 hst (by
        rcases Bool.or_eq_true_iff.mp ha with z | z
        · exact Or.inl (of_decide_eq_true z)
        · exact Or.inr (of_decide_eq_true z))
      rw [hmm, decide_eq_false (nI_nle h0 (by omega)), decide_eq_true hf]
      exact Bool.or_true _
    · rw [Bool.not_eq_true] at ha
      rw [ha]; rfl
  · unfold plSoundB
    rw [Bool.and_eq_true_iff]
    obtain ⟨a1, a2⟩ := h5
    exact ⟨decide_eq_true (by rw [hlost, Int32.add_zero, a1, h6]), decide_eq_true a2⟩
  · rw [s2, s3, decide_eq_false (nI_nlt s5 (by omega))]; rfl
  · unfold plcSoundB
    rw [Bool.and_eq_true_iff, Bool.and_eq_true_iff]
    exact ⟨⟨allR_true (sz 5) 0 (fun k _ hk => (h1 k (by omega)).1), allR_true (sz 7) 0 (fun k _ hk => h3 k (by omega))⟩, allR_true (sz 2) 0 (fun k _ hk => (h2 k (by omega)).2.2.2.1)⟩
/-- behind the winding of the clock -/
theorem refused_sound {e9 : Nat × Nat} {x lo ta M cnts pw dn : Nat} {told v : Int32} {la : Nat → Nat} {S : wPS} {el : Nat → Nat → Nat} {sz cp : Nat → Nat} (h : IV e9 x lo ta la M cnts told S el sz cp pw pw dn) (hc : cnts ≤ 1188) : soundB (putI S q_Tally_refused ta v) x ta el sz = true ∧ ST e9 x lo ta la (putI S q_Tally_refused ta v) el sz cp := by
  have hC : Ch [q_Tally_refused] [] S (putI S q_Tally_refused ta v) := ch_I (by decide)
  have hp := h.pwv
  obtain ⟨h1, h2, h3, h4, h5, h6, h7, h8, h9, h10, h11, h12⟩ := h
  exact ⟨sound_of (h2.ch h1 hC (by decide)) (h3.ch h1 hC (by decide) (by decide)) (h4.ch h1 hC (by decide)) (h5.ch h1 hC (by decide)) (h8.ch h1 hC (by decide)) ((hC.2.1 q_Room_plotsOnWay (by decide) _ h1.1.1).trans hp) (h9.ch h1 hC (by decide)) (h11.ch h1 hC (by decide)) hc, h1.ch hC kw_I (by decide) (fun c hc => absurd hc List.not_mem_nil)⟩
/-- the script, as a method of the law sees it -/
def Scr (b L : Nat) (xs : Nat → Int32) : KX → Prop
  | (p, l, e, R, s, m, args, below, meth, c, Q, D, cO, e0, A, mc, ms) => va_X b L xs s s.heap ∧ b < s.heap.size ∧ ¬ A b
def CS (b L : Nat) (xs : Nat → Int32) (j : Nat) : Array Value → State → Prop := va_Pc [.ref b, .int (nI j)] (fun U => va_X b L xs U U.heap ∧ b < U.heap.size)
theorem CS.blind {b L j : Nat} {xs : Nat → Int32} : FrameBlind (CS b L xs j) := fun a U g mk h => ⟨h.1, va_X.moved (u := U) (U := U.calling g mk a) (Vm.Alike.refl U.vm) h.2.1, h.2.2⟩
set_option maxHeartbeats 4000000 in
set_option maxRecDepth 100000 in
theorem k_cell (l : Launch) (b L : Nat) (xs : Nat → Int32) (j : Nat) (hj : j < 2 ^ 31) (hL : L ≤ 260) : Met l yL_cell (Cond.code yL_cell cL_cell 2 (some .int) :: GA) { frames := 0, cells := 0, slots := 0, locals := 0 } (CS b L xs j) (vp_Si (fun _ => True)) 0 0 (fun _ => False) := by
  refine Met.ofW (cc := cL_cell) (maxL := 2) (ret := some .int) (by decide) rfl ?_
  intro p e s m args below meth c s₁ B hml hv
  obtain ⟨rfl, hX, hbl⟩ := hv
  have hts0 := atoms_spec (ws := Cond.code yL_cell cL_cell 2 (some .int) :: GA) B.pre
  have hts : ∀ w ∈ GA, w.before ([.ref b, .int (nI j)] : List Value).toArray s = true := fun w hw => hts0 w (List.mem_cons_of_mem _ hw)
  have hx := B.exec
  have hb := B.bytes
  have hown := findClass_of_methodNamed B.named
  have hr := B.returns
  have hlk := B.notSynchronized
  have hl := lv_entry ([.ref b, .int (nI j)]) (n := 2) (Nat.le_of_ble_eq_true rfl)
  rw [lg_entry_eq]
  generalize (lg_sl ([.ref b, .int (nI j)]) ++ List.replicate (2 - (lg_sl ([.ref b, .int (nI j)])).length) Slot.unset).toArray = ls at hl ⊢
  have hl : lv_has ls 2 [(0, .ref b), (1, .int (nI j))] := hl
  refine lv_iload_n hx hb dL_cell_0 rfl (lv_at hl 1 rfl) ?_
  refine lv_aload_n hx hb dL_cell_1 rfl (lv_at hl 0 rfl) ?_
  refine va_slen (A := fun _ => False) hx hb hX hbl (fun h => h) va_S.rf dL_cell_2 ?_
  refine lv_icmp_ge (tgt := 12) hx hb dL_cell_3 (by decide) (fun c1 => ?_) (fun c1 => ?_)
  · refine lv_ldc hx hb hown (hts _ qw_1032) dL_cell_12 ?_
    refine lv_iload_n hx hb dL_cell_14 rfl (lv_at hl 1 rfl) ?_
    refine lv_iconst (v := 3) hx hb dL_cell_15 (by decide) ?_
    refine lv_iadd hx hb dL_cell_16 ?_
    refine lv_imul hx hb dL_cell_17 ?_
    exact W.zret hx hb hr rfl (fun t ht hW => ⟨_, rfl, trivial, ht⟩) (fun q hq => absurd hq List.not_mem_nil) dL_cell_18 hlk
  · have hjL : j < L := by
      rcases Nat.lt_or_ge j L with h | h
      · exact h
      · exact absurd (show nI L ≤ nI j from nI_le h hj) c1
    refine lv_aload_n hx hb dL_cell_6 rfl (lv_at hl 0 rfl) ?_
    refine lv_iload_n hx hb dL_cell_7 rfl (lv_at hl 1 rfl) ?_
    refine va_sld (A := fun _ => False) hx hb hX hbl (fun h => h) va_S.rf (vp_in_nI hjL (by omega)) dL_cell_8 ?_
    refine lv_goto (tgt := 18) hx hb dL_cell_9 (by decide) ?_
    exact W.zret hx hb hr rfl (fun t ht hW => ⟨_, rfl, trivial, ht⟩) (fun q hq => absurd hq List.not_mem_nil) dL_cell_18 hlk
theorem g_cell {cc : ByteArray} {nL : Nat} {own : String} {rm : Room} {κ : KX} (hκ : Cx cc nL own rm κ) {pc : Nat} {lv : List (Nat × Value)} {st : List Value} {e9 : Nat × Nat} (hz : Vz e9 κ) {b L : Nat} {xs : Nat → Int32} (hs9 : Scr b L xs κ) {S : wPS} {k n idx j : Nat} (hj : j < 2 ^ 31) (hL : L ≤ 260) (hlk : Cond.methodLink own idx yL_cell ∈ GA) (hrm : RmOk { frames := 0, cells := 0, slots := 0, locals := 0 } rm 0 0 2) (hw : (st.map fun v => v.category).sum ≤ 8) (hdg : decode cc pc = .ok (.invokestatic idx, 3)) (kk : ∀ r : Int32, Gj κ (PV κ S k n) (pc + 3) lv (.int r :: st)) : Gj κ (PV κ S k n) pc lv (.int (nI j) :: .ref b :: st) := by
  obtain ⟨p, l, e, R, s, m, args, below, meth, c, Q, D, cO, e0, A, mc, ms⟩ := κ
  obtain ⟨hx, hb, hml, hown, hts, hK, hG, hR, hlk9⟩ := hκ
  obtain ⟨rfl, hmi, hA, hH, hmc, hms⟩ := hz
  obtain ⟨hX, hbl, hbA⟩ := hs9
  intro H locs cells slots ls hF hl
  obtain ⟨hP, hD, hS, hc, hs⟩ := hF
  exact vp_callSi (va_Run.run (va_runS (As := [.ref b, .int (nI j)]) (rest := st) ⟨hx, hb, rfl, hown, hts⟩ (k_cell l b L xs j hj hL) ⟨cb_of hts (hR ▸ hrm) sd_L_cell.1.2.2 sd_L_cell.1.2.1 sd_L_cell.2.1 sd_L_cell.2.2.1 sd_L_cell.2.2.2 hlk, hts _ sd_L_cell.1.1⟩ ⟨CS.blind, fun U hU hW => ⟨rfl, by rw [hU]; exact va_X.moved hW.alike (hX.kept (hS.2.1 b hbl hbA)), by rw [hU]; exact Nat.lt_of_lt_of_le hbl hS.1⟩⟩ rfl rfl hl.1 rfl (lv_room hw) hdg ⟨by omega, by omega⟩)) (fun r hr => kk r H locs cells slots ls ⟨hP, hD, hS, hc, hs⟩ hl)

