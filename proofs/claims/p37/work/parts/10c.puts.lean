theorem pt_Flight_x {cc : ByteArray} {nL : Nat} {own : String} {rm : Room} {κ : KX} (hκ : Cx cc nL own rm κ) {pc : Nat} {lv : List (Nat × Value)} {st : List Value} {S : wPS} {k n : Nat} {a idx : Nat} {ref : String} {v : Int32} (hO : a ∈ sL S ∧ sK S a = 0) (hlink : Cond.fieldLink own idx ref "x" "I" ∈ GA) (hsm : ref = "Plotroom$Place" ∨ Cond.sameField ref "Plotroom$Place" "x" "I" ∈ GA)   (hdg : decode cc pc = .ok (.putfield idx, 3)) (kk : Gj κ (PV κ (putI S 0 a v) k n) (pc + 3) lv st) : Gj κ (PV κ S k n) pc lv (.int v :: .ref a :: st) := by
  obtain ⟨p, l, e, R, s, m, args, below, meth, c, Q, D, cO, e0, A, mc, ms⟩ := κ
  obtain ⟨hx, hb, hml, hown, hts, hK, hG, hR, hlk9⟩ := hκ
  intro H locs cells slots ls hF hl
  obtain ⟨hP, hD, hS, hc, hs⟩ := hF
  obtain ⟨k0, hk0, hk1⟩ := wG_Flight cO S hO
  have eq9 := wU_Flight_x cO S hD hO hk0 v
  have h1 : vwCl[1]? = some (RX0, TX0, 8) := rfl
  have h2 : ∀ x, s.fieldFound? (TX0 0).1 (TX0 0).2.1 (TX0 0).2.2.1 = some x → s.fieldFound? ref (TX0 0).2.1 (TX0 0).2.2.1 = some x := fun x9 h9 => hsm.elim (fun z => by rw [z]; exact h9) (fun z => u_same (hts _ z) x9 h9)
  have h3 : (Cond.fieldLink own idx ref (TX0 0).2.1 (TX0 0).2.2.1).before args s = true := hts _ hlink
  have h4 : ∀ w ∈ u_ws RX0 TX0 8, w ∈ GA := inlX0
  have h5 : parseFieldDescriptor (TX0 0).2.2.1 = some (.int) := tyX0_ok 0 (by decide)
  have h6 : narrow (.int) (.int v) = .int v := rfl
  have h7 : fits (.int) (.int v) = true := rfl
  refine va_put (D := D) (ci := 1) (v := .int v) (ty := .int) (C := RX0) (T := TX0) (N := 8) hx hb hts h4 tyX0 tyX0_ok nmX0 hown hK hP hD hS k0 hk1 h1 0 (by decide) h3 h2 rfl h5 h6 h7 (Nat.le_of_ble_eq_true rfl) hdg (fun H1 locs1 hP1 hD1 hS1 => ?_)
  exact kk H1 locs1 cells slots ls ⟨Eq.mp (congrArg (fun z => va_P D vwCl z H1) eq9) hP1, Eq.mp (congrArg (fun z => va_D A z) eq9) hD1, hS1, hc, hs⟩ hl
theorem pt_Flight_y {cc : ByteArray} {nL : Nat} {own : String} {rm : Room} {κ : KX} (hκ : Cx cc nL own rm κ) {pc : Nat} {lv : List (Nat × Value)} {st : List Value} {S : wPS} {k n : Nat} {a idx : Nat} {ref : String} {v : Int32} (hO : a ∈ sL S ∧ sK S a = 0) (hlink : Cond.fieldLink own idx ref "y" "I" ∈ GA) (hsm : ref = "Plotroom$Place" ∨ Cond.sameField ref "Plotroom$Place" "y" "I" ∈ GA)   (hdg : decode cc pc = .ok (.putfield idx, 3)) (kk : Gj κ (PV κ (putI S 1 a v) k n) (pc + 3) lv st) : Gj κ (PV κ S k n) pc lv (.int v :: .ref a :: st) := by
  obtain ⟨p, l, e, R, s, m, args, below, meth, c, Q, D, cO, e0, A, mc, ms⟩ := κ
  obtain ⟨hx, hb, hml, hown, hts, hK, hG, hR, hlk9⟩ := hκ
  intro H locs cells slots ls hF hl
  obtain ⟨hP, hD, hS, hc, hs⟩ := hF
  obtain ⟨k0, hk0, hk1⟩ := wG_Flight cO S hO
  have eq9 := wU_Flight_y cO S hD hO hk0 v
  have h1 : vwCl[1]? = some (RX0, TX0, 8) := rfl
  have h2 : ∀ x, s.fieldFound? (TX0 1).1 (TX0 1).2.1 (TX0 1).2.2.1 = some x → s.fieldFound? ref (TX0 1).2.1 (TX0 1).2.2.1 = some x := fun x9 h9 => hsm.elim (fun z => by rw [z]; exact h9) (fun z => u_same (hts _ z) x9 h9)
  have h3 : (Cond.fieldLink own idx ref (TX0 1).2.1 (TX0 1).2.2.1).before args s = true := hts _ hlink
  have h4 : ∀ w ∈ u_ws RX0 TX0 8, w ∈ GA := inlX0
  have h5 : parseFieldDescriptor (TX0 1).2.2.1 = some (.int) := tyX0_ok 1 (by decide)
  have h6 : narrow (.int) (.int v) = .int v := rfl
  have h7 : fits (.int) (.int v) = true := rfl
  refine va_put (D := D) (ci := 1) (v := .int v) (ty := .int) (C := RX0) (T := TX0) (N := 8) hx hb hts h4 tyX0 tyX0_ok nmX0 hown hK hP hD hS k0 hk1 h1 1 (by decide) h3 h2 rfl h5 h6 h7 (Nat.le_of_ble_eq_true rfl) hdg (fun H1 locs1 hP1 hD1 hS1 => ?_)
  exact kk H1 locs1 cells slots ls ⟨Eq.mp (congrArg (fun z => va_P D vwCl z H1) eq9) hP1, Eq.mp (congrArg (fun z => va_D A z) eq9) hD1, hS1, hc, hs⟩ hl
theorem pt_Flight_isFoe {cc : ByteArray} {nL : Nat} {own : String} {rm : Room} {κ : KX} (hκ : Cx cc nL own rm κ) {pc : Nat} {lv : List (Nat × Value)} {st : List Value} {S : wPS} {k n : Nat} {a idx : Nat} {ref : String} {v : Int32} (hO : a ∈ sL S ∧ sK S a = 0) (hlink : Cond.fieldLink own idx ref "isFoe" "Z" ∈ GA) (hsm : ref = "Plotroom$Flight" ∨ Cond.sameField ref "Plotroom$Flight" "isFoe" "Z" ∈ GA) (hv : v = 0 ∨ v = 1) (hin : Nm "<init>" κ) (hde : "Plotroom$Flight" = own) (hdg : decode cc pc = .ok (.putfield idx, 3)) (kk : Gj κ (PV κ (putI S 2 a v) k n) (pc + 3) lv st) : Gj κ (PV κ S k n) pc lv (.int v :: .ref a :: st) := by
  obtain ⟨p, l, e, R, s, m, args, below, meth, c, Q, D, cO, e0, A, mc, ms⟩ := κ
  obtain ⟨hx, hb, hml, hown, hts, hK, hG, hR, hlk9⟩ := hκ
  intro H locs cells slots ls hF hl
  obtain ⟨hP, hD, hS, hc, hs⟩ := hF
  obtain ⟨k0, hk0, hk1⟩ := wG_Flight cO S hO
  have eq9 := wU_Flight_isFoe cO S hD hO hk0 v
  have h1 : vwCl[1]? = some (RX0, TX0, 8) := rfl
  have h2 : ∀ x, s.fieldFound? (TX0 2).1 (TX0 2).2.1 (TX0 2).2.2.1 = some x → s.fieldFound? ref (TX0 2).2.1 (TX0 2).2.2.1 = some x := fun x9 h9 => hsm.elim (fun z => by rw [z]; exact h9) (fun z => u_same (hts _ z) x9 h9)
  have h3 : (Cond.fieldLink own idx ref (TX0 2).2.1 (TX0 2).2.2.1).before args s = true := hts _ hlink
  have h4 : ∀ w ∈ u_ws RX0 TX0 8, w ∈ GA := inlX0
  have h5 : parseFieldDescriptor (TX0 2).2.2.1 = some (.boolean) := tyX0_ok 2 (by decide)
  have h6 : narrow (.boolean) (.int v) = .int v := by rcases hv with rfl | rfl <;> rfl
  have h7 : fits (.boolean) (.int v) = true := by rcases hv with rfl | rfl <;> rfl
  refine va_putF (D := D) (ci := 1) (v := .int v) (ty := .boolean) (C := RX0) (T := TX0) (N := 8) hx hb hts h4 tyX0 tyX0_ok nmX0 hown hK hP hD hS k0 hk1 h1 2 (by decide) h3 h2 rfl hin hde h5 h6 h7 (Nat.le_of_ble_eq_true rfl) hdg (fun H1 locs1 hP1 hD1 hS1 => ?_)
  exact kk H1 locs1 cells slots ls ⟨Eq.mp (congrArg (fun z => va_P D vwCl z H1) eq9) hP1, Eq.mp (congrArg (fun z => va_D A z) eq9) hD1, hS1, hc, hs⟩ hl
theorem pt_Flight_height {cc : ByteArray} {nL : Nat} {own : String} {rm : Room} {κ : KX} (hκ : Cx cc nL own rm κ) {pc : Nat} {lv : List (Nat × Value)} {st : List Value} {S : wPS} {k n : Nat} {a idx : Nat} {ref : String} {v : Int32} (hO : a ∈ sL S ∧ sK S a = 0) (hlink : Cond.fieldLink own idx ref "height" "I" ∈ GA) (hsm : ref = "Plotroom$Flight" ∨ Cond.sameField ref "Plotroom$Flight" "height" "I" ∈ GA)  (hin : Nm "<init>" κ) (hde : "Plotroom$Flight" = own) (hdg : decode cc pc = .ok (.putfield idx, 3)) (kk : Gj κ (PV κ (putI S 3 a v) k n) (pc + 3) lv st) : Gj κ (PV κ S k n) pc lv (.int v :: .ref a :: st) := by
  obtain ⟨p, l, e, R, s, m, args, below, meth, c, Q, D, cO, e0, A, mc, ms⟩ := κ
  obtain ⟨hx, hb, hml, hown, hts, hK, hG, hR, hlk9⟩ := hκ
  intro H locs cells slots ls hF hl
  obtain ⟨hP, hD, hS, hc, hs⟩ := hF
  obtain ⟨k0, hk0, hk1⟩ := wG_Flight cO S hO
  have eq9 := wU_Flight_height cO S hD hO hk0 v
  have h1 : vwCl[1]? = some (RX0, TX0, 8) := rfl
  have h2 : ∀ x, s.fieldFound? (TX0 3).1 (TX0 3).2.1 (TX0 3).2.2.1 = some x → s.fieldFound? ref (TX0 3).2.1 (TX0 3).2.2.1 = some x := fun x9 h9 => hsm.elim (fun z => by rw [z]; exact h9) (fun z => u_same (hts _ z) x9 h9)
  have h3 : (Cond.fieldLink own idx ref (TX0 3).2.1 (TX0 3).2.2.1).before args s = true := hts _ hlink
  have h4 : ∀ w ∈ u_ws RX0 TX0 8, w ∈ GA := inlX0
  have h5 : parseFieldDescriptor (TX0 3).2.2.1 = some (.int) := tyX0_ok 3 (by decide)
  have h6 : narrow (.int) (.int v) = .int v := rfl
  have h7 : fits (.int) (.int v) = true := rfl
  refine va_putF (D := D) (ci := 1) (v := .int v) (ty := .int) (C := RX0) (T := TX0) (N := 8) hx hb hts h4 tyX0 tyX0_ok nmX0 hown hK hP hD hS k0 hk1 h1 3 (by decide) h3 h2 rfl hin hde h5 h6 h7 (Nat.le_of_ble_eq_true rfl) hdg (fun H1 locs1 hP1 hD1 hS1 => ?_)
  exact kk H1 locs1 cells slots ls ⟨Eq.mp (congrArg (fun z => va_P D vwCl z H1) eq9) hP1, Eq.mp (congrArg (fun z => va_D A z) eq9) hD1, hS1, hc, hs⟩ hl
theorem pt_Flight_courseX {cc : ByteArray} {nL : Nat} {own : String} {rm : Room} {κ : KX} (hκ : Cx cc nL own rm κ) {pc : Nat} {lv : List (Nat × Value)} {st : List Value} {S : wPS} {k n : Nat} {a idx : Nat} {ref : String} {v : Int32} (hO : a ∈ sL S ∧ sK S a = 0) (hlink : Cond.fieldLink own idx ref "courseX" "I" ∈ GA) (hsm : ref = "Plotroom$Flight" ∨ Cond.sameField ref "Plotroom$Flight" "courseX" "I" ∈ GA)   (hdg : decode cc pc = .ok (.putfield idx, 3)) (kk : Gj κ (PV κ (putI S 4 a v) k n) (pc + 3) lv st) : Gj κ (PV κ S k n) pc lv (.int v :: .ref a :: st) := by
  obtain ⟨p, l, e, R, s, m, args, below, meth, c, Q, D, cO, e0, A, mc, ms⟩ := κ
  obtain ⟨hx, hb, hml, hown, hts, hK, hG, hR, hlk9⟩ := hκ
  intro H locs cells slots ls hF hl
  obtain ⟨hP, hD, hS, hc, hs⟩ := hF
  obtain ⟨k0, hk0, hk1⟩ := wG_Flight cO S hO
  have eq9 := wU_Flight_courseX cO S hD hO hk0 v
  have h1 : vwCl[1]? = some (RX0, TX0, 8) := rfl
  have h2 : ∀ x, s.fieldFound? (TX0 4).1 (TX0 4).2.1 (TX0 4).2.2.1 = some x → s.fieldFound? ref (TX0 4).2.1 (TX0 4).2.2.1 = some x := fun x9 h9 => hsm.elim (fun z => by rw [z]; exact h9) (fun z => u_same (hts _ z) x9 h9)
  have h3 : (Cond.fieldLink own idx ref (TX0 4).2.1 (TX0 4).2.2.1).before args s = true := hts _ hlink
  have h4 : ∀ w ∈ u_ws RX0 TX0 8, w ∈ GA := inlX0
  have h5 : parseFieldDescriptor (TX0 4).2.2.1 = some (.int) := tyX0_ok 4 (by decide)
  have h6 : narrow (.int) (.int v) = .int v := rfl
  have h7 : fits (.int) (.int v) = true := rfl
  refine va_put (D := D) (ci := 1) (v := .int v) (ty := .int) (C := RX0) (T := TX0) (N := 8) hx hb hts h4 tyX0 tyX0_ok nmX0 hown hK hP hD hS k0 hk1 h1 4 (by decide) h3 h2 rfl h5 h6 h7 (Nat.le_of_ble_eq_true rfl) hdg (fun H1 locs1 hP1 hD1 hS1 => ?_)
  exact kk H1 locs1 cells slots ls ⟨Eq.mp (congrArg (fun z => va_P D vwCl z H1) eq9) hP1, Eq.mp (congrArg (fun z => va_D A z) eq9) hD1, hS1, hc, hs⟩ hl
theorem pt_Flight_courseY {cc : ByteArray} {nL : Nat} {own : String} {rm : Room} {κ : KX} (hκ : Cx cc nL own rm κ) {pc : Nat} {lv : List (Nat × Value)} {st : List Value} {S : wPS} {k n : Nat} {a idx : Nat} {ref : String} {v : Int32} (hO : a ∈ sL S ∧ sK S a = 0) (hlink : Cond.fieldLink own idx ref "courseY" "I" ∈ GA) (hsm : ref = "Plotroom$Flight" ∨ Cond.sameField ref "Plotroom$Flight" "courseY" "I" ∈ GA)   (hdg : decode cc pc = .ok (.putfield idx, 3)) (kk : Gj κ (PV κ (putI S 5 a v) k n) (pc + 3) lv st) : Gj κ (PV κ S k n) pc lv (.int v :: .ref a :: st) := by
  obtain ⟨p, l, e, R, s, m, args, below, meth, c, Q, D, cO, e0, A, mc, ms⟩ := κ
  obtain ⟨hx, hb, hml, hown, hts, hK, hG, hR, hlk9⟩ := hκ
  intro H locs cells slots ls hF hl
  obtain ⟨hP, hD, hS, hc, hs⟩ := hF
  obtain ⟨k0, hk0, hk1⟩ := wG_Flight cO S hO
  have eq9 := wU_Flight_courseY cO S hD hO hk0 v
  have h1 : vwCl[1]? = some (RX0, TX0, 8) := rfl
  have h2 : ∀ x, s.fieldFound? (TX0 5).1 (TX0 5).2.1 (TX0 5).2.2.1 = some x → s.fieldFound? ref (TX0 5).2.1 (TX0 5).2.2.1 = some x := fun x9 h9 => hsm.elim (fun z => by rw [z]; exact h9) (fun z => u_same (hts _ z) x9 h9)
  have h3 : (Cond.fieldLink own idx ref (TX0 5).2.1 (TX0 5).2.2.1).before args s = true := hts _ hlink
  have h4 : ∀ w ∈ u_ws RX0 TX0 8, w ∈ GA := inlX0
  have h5 : parseFieldDescriptor (TX0 5).2.2.1 = some (.int) := tyX0_ok 5 (by decide)
  have h6 : narrow (.int) (.int v) = .int v := rfl
  have h7 : fits (.int) (.int v) = true := rfl
  refine va_put (D := D) (ci := 1) (v := .int v) (ty := .int) (C := RX0) (T := TX0) (N := 8) hx hb hts h4 tyX0 tyX0_ok nmX0 hown hK hP hD hS k0 hk1 h1 5 (by decide) h3 h2 rfl h5 h6 h7 (Nat.le_of_ble_eq_true rfl) hdg (fun H1 locs1 hP1 hD1 hS1 => ?_)
  exact kk H1 locs1 cells slots ls ⟨Eq.mp (congrArg (fun z => va_P D vwCl z H1) eq9) hP1, Eq.mp (congrArg (fun z => va_D A z) eq9) hD1, hS1, hc, hs⟩ hl
theorem pt_Flight_count {cc : ByteArray} {nL : Nat} {own : String} {rm : Room} {κ : KX} (hκ : Cx cc nL own rm κ) {pc : Nat} {lv : List (Nat × Value)} {st : List Value} {S : wPS} {k n : Nat} {a idx : Nat} {ref : String} {v : Int32} (hO : a ∈ sL S ∧ sK S a = 0) (hlink : Cond.fieldLink own idx ref "count" "I" ∈ GA) (hsm : ref = "Plotroom$Flight" ∨ Cond.sameField ref "Plotroom$Flight" "count" "I" ∈ GA)   (hdg : decode cc pc = .ok (.putfield idx, 3)) (kk : Gj κ (PV κ (putI S 6 a v) k n) (pc + 3) lv st) : Gj κ (PV κ S k n) pc lv (.int v :: .ref a :: st) := by
  obtain ⟨p, l, e, R, s, m, args, below, meth, c, Q, D, cO, e0, A, mc, ms⟩ := κ
  obtain ⟨hx, hb, hml, hown, hts, hK, hG, hR, hlk9⟩ := hκ
  intro H locs cells slots ls hF hl
  obtain ⟨hP, hD, hS, hc, hs⟩ := hF
  obtain ⟨k0, hk0, hk1⟩ := wG_Flight cO S hO
  have eq9 := wU_Flight_count cO S hD hO hk0 v
  have h1 : vwCl[1]? = some (RX0, TX0, 8) := rfl
  have h2 : ∀ x, s.fieldFound? (TX0 6).1 (TX0 6).2.1 (TX0 6).2.2.1 = some x → s.fieldFound? ref (TX0 6).2.1 (TX0 6).2.2.1 = some x := fun x9 h9 => hsm.elim (fun z => by rw [z]; exact h9) (fun z => u_same (hts _ z) x9 h9)
  have h3 : (Cond.fieldLink own idx ref (TX0 6).2.1 (TX0 6).2.2.1).before args s = true := hts _ hlink
  have h4 : ∀ w ∈ u_ws RX0 TX0 8, w ∈ GA := inlX0
  have h5 : parseFieldDescriptor (TX0 6).2.2.1 = some (.int) := tyX0_ok 6 (by decide)
  have h6 : narrow (.int) (.int v) = .int v := rfl
  have h7 : fits (.int) (.int v) = true := rfl
  refine va_put (D := D) (ci := 1) (v := .int v) (ty := .int) (C := RX0) (T := TX0) (N := 8) hx hb hts h4 tyX0 tyX0_ok nmX0 hown hK hP hD hS k0 hk1 h1 6 (by decide) h3 h2 rfl h5 h6 h7 (Nat.le_of_ble_eq_true rfl) hdg (fun H1 locs1 hP1 hD1 hS1 => ?_)
  exact kk H1 locs1 cells slots ls ⟨Eq.mp (congrArg (fun z => va_P D vwCl z H1) eq9) hP1, Eq.mp (congrArg (fun z => va_D A z) eq9) hD1, hS1, hc, hs⟩ hl
theorem pt_Flight_isUp {cc : ByteArray} {nL : Nat} {own : String} {rm : Room} {κ : KX} (hκ : Cx cc nL own rm κ) {pc : Nat} {lv : List (Nat × Value)} {st : List Value} {S : wPS} {k n : Nat} {a idx : Nat} {ref : String} {v : Int32} (hO : a ∈ sL S ∧ sK S a = 0) (hlink : Cond.fieldLink own idx ref "isUp" "Z" ∈ GA) (hsm : ref = "Plotroom$Flight" ∨ Cond.sameField ref "Plotroom$Flight" "isUp" "Z" ∈ GA) (hv : v = 0 ∨ v = 1)  (hdg : decode cc pc = .ok (.putfield idx, 3)) (kk : Gj κ (PV κ (putI S 7 a v) k n) (pc + 3) lv st) : Gj κ (PV κ S k n) pc lv (.int v :: .ref a :: st) := by
  obtain ⟨p, l, e, R, s, m, args, below, meth, c, Q, D, cO, e0, A, mc, ms⟩ := κ
  obtain ⟨hx, hb, hml, hown, hts, hK, hG, hR, hlk9⟩ := hκ
  intro H locs cells slots ls hF hl
  obtain ⟨hP, hD, hS, hc, hs⟩ := hF
  obtain ⟨k0, hk0, hk1⟩ := wG_Flight cO S hO
  have eq9 := wU_Flight_isUp cO S hD hO hk0 v
  have h1 : vwCl[1]? = some (RX0, TX0, 8) := rfl
  have h2 : ∀ x, s.fieldFound? (TX0 7).1 (TX0 7).2.1 (TX0 7).2.2.1 = some x → s.fieldFound? ref (TX0 7).2.1 (TX0 7).2.2.1 = some x := fun x9 h9 => hsm.elim (fun z => by rw [z]; exact h9) (fun z => u_same (hts _ z) x9 h9)
  have h3 : (Cond.fieldLink own idx ref (TX0 7).2.1 (TX0 7).2.2.1).before args s = true := hts _ hlink
  have h4 : ∀ w ∈ u_ws RX0 TX0 8, w ∈ GA := inlX0
  have h5 : parseFieldDescriptor (TX0 7).2.2.1 = some (.boolean) := tyX0_ok 7 (by decide)
  have h6 : narrow (.boolean) (.int v) = .int v := by rcases hv with rfl | rfl <;> rfl
  have h7 : fits (.boolean) (.int v) = true := by rcases hv with rfl | rfl <;> rfl
  refine va_put (D := D) (ci := 1) (v := .int v) (ty := .boolean) (C := RX0) (T := TX0) (N := 8) hx hb hts h4 tyX0 tyX0_ok nmX0 hown hK hP hD hS k0 hk1 h1 7 (by decide) h3 h2 rfl h5 h6 h7 (Nat.le_of_ble_eq_true rfl) hdg (fun H1 locs1 hP1 hD1 hS1 => ?_)
  exact kk H1 locs1 cells slots ls ⟨Eq.mp (congrArg (fun z => va_P D vwCl z H1) eq9) hP1, Eq.mp (congrArg (fun z => va_D A z) eq9) hD1, hS1, hc, hs⟩ hl
theorem pt_Gun_x {cc : ByteArray} {nL : Nat} {own : String} {rm : Room} {κ : KX} (hκ : Cx cc nL own rm κ) {pc : Nat} {lv : List (Nat × Value)} {st : List Value} {S : wPS} {k n : Nat} {a idx : Nat} {ref : String} {v : Int32} (hO : a ∈ sL S ∧ sK S a = 1) (hlink : Cond.fieldLink own idx ref "x" "I" ∈ GA) (hsm : ref = "Plotroom$Place" ∨ Cond.sameField ref "Plotroom$Place" "x" "I" ∈ GA)   (hdg : decode cc pc = .ok (.putfield idx, 3)) (kk : Gj κ (PV κ (putI S 8 a v) k n) (pc + 3) lv st) : Gj κ (PV κ S k n) pc lv (.int v :: .ref a :: st) := by
  obtain ⟨p, l, e, R, s, m, args, below, meth, c, Q, D, cO, e0, A, mc, ms⟩ := κ
  obtain ⟨hx, hb, hml, hown, hts, hK, hG, hR, hlk9⟩ := hκ
  intro H locs cells slots ls hF hl
  obtain ⟨hP, hD, hS, hc, hs⟩ := hF
  obtain ⟨k0, hk0, hk1⟩ := wG_Gun cO S hO
  have eq9 := wU_Gun_x cO S hD hO hk0 v
  have h1 : vwCl[2]? = some (RX1, TX1, 4) := rfl
  have h2 : ∀ x, s.fieldFound? (TX1 0).1 (TX1 0).2.1 (TX1 0).2.2.1 = some x → s.fieldFound? ref (TX1 0).2.1 (TX1 0).2.2.1 = some x := fun x9 h9 => hsm.elim (fun z => by rw [z]; exact h9) (fun z => u_same (hts _ z) x9 h9)
  have h3 : (Cond.fieldLink own idx ref (TX1 0).2.1 (TX1 0).2.2.1).before args s = true := hts _ hlink
  have h4 : ∀ w ∈ u_ws RX1 TX1 4, w ∈ GA := inlX1
  have h5 : parseFieldDescriptor (TX1 0).2.2.1 = some (.int) := tyX1_ok 0 (by decide)
  have h6 : narrow (.int) (.int v) = .int v := rfl
  have h7 : fits (.int) (.int v) = true := rfl
  refine va_put (D := D) (ci := 2) (v := .int v) (ty := .int) (C := RX1) (T := TX1) (N := 4) hx hb hts h4 tyX1 tyX1_ok nmX1 hown hK hP hD hS k0 hk1 h1 0 (by decide) h3 h2 rfl h5 h6 h7 (Nat.le_of_ble_eq_true rfl) hdg (fun H1 locs1 hP1 hD1 hS1 => ?_)
  exact kk H1 locs1 cells slots ls ⟨Eq.mp (congrArg (fun z => va_P D vwCl z H1) eq9) hP1, Eq.mp (congrArg (fun z => va_D A z) eq9) hD1, hS1, hc, hs⟩ hl
theorem pt_Gun_y {cc : ByteArray} {nL : Nat} {own : String} {rm : Room} {κ : KX} (hκ : Cx cc nL own rm κ) {pc : Nat} {lv : List (Nat × Value)} {st : List Value} {S : wPS} {k n : Nat} {a idx : Nat} {ref : String} {v : Int32} (hO : a ∈ sL S ∧ sK S a = 1) (hlink : Cond.fieldLink own idx ref "y" "I" ∈ GA) (hsm : ref = "Plotroom$Place" ∨ Cond.sameField ref "Plotroom$Place" "y" "I" ∈ GA)   (hdg : decode cc pc = .ok (.putfield idx, 3)) (kk : Gj κ (PV κ (putI S 9 a v) k n) (pc + 3) lv st) : Gj κ (PV κ S k n) pc lv (.int v :: .ref a :: st) := by
  obtain ⟨p, l, e, R, s, m, args, below, meth, c, Q, D, cO, e0, A, mc, ms⟩ := κ
  obtain ⟨hx, hb, hml, hown, hts, hK, hG, hR, hlk9⟩ := hκ
  intro H locs cells slots ls hF hl
  obtain ⟨hP, hD, hS, hc, hs⟩ := hF
  obtain ⟨k0, hk0, hk1⟩ := wG_Gun cO S hO
  have eq9 := wU_Gun_y cO S hD hO hk0 v
  have h1 : vwCl[2]? = some (RX1, TX1, 4) := rfl
  have h2 : ∀ x, s.fieldFound? (TX1 1).1 (TX1 1).2.1 (TX1 1).2.2.1 = some x → s.fieldFound? ref (TX1 1).2.1 (TX1 1).2.2.1 = some x := fun x9 h9 => hsm.elim (fun z => by rw [z]; exact h9) (fun z => u_same (hts _ z) x9 h9)
  have h3 : (Cond.fieldLink own idx ref (TX1 1).2.1 (TX1 1).2.2.1).before args s = true := hts _ hlink
  have h4 : ∀ w ∈ u_ws RX1 TX1 4, w ∈ GA := inlX1
  have h5 : parseFieldDescriptor (TX1 1).2.2.1 = some (.int) := tyX1_ok 1 (by decide)
  have h6 : narrow (.int) (.int v) = .int v := rfl
  have h7 : fits (.int) (.int v) = true := rfl
  refine va_put (D := D) (ci := 2) (v := .int v) (ty := .int) (C := RX1) (T := TX1) (N := 4) hx hb hts h4 tyX1 tyX1_ok nmX1 hown hK hP hD hS k0 hk1 h1 1 (by decide) h3 h2 rfl h5 h6 h7 (Nat.le_of_ble_eq_true rfl) hdg (fun H1 locs1 hP1 hD1 hS1 => ?_)
  exact kk H1 locs1 cells slots ls ⟨Eq.mp (congrArg (fun z => va_P D vwCl z H1) eq9) hP1, Eq.mp (congrArg (fun z => va_D A z) eq9) hD1, hS1, hc, hs⟩ hl
theorem pt_Gun_radius {cc : ByteArray} {nL : Nat} {own : String} {rm : Room} {κ : KX} (hκ : Cx cc nL own rm κ) {pc : Nat} {lv : List (Nat × Value)} {st : List Value} {S : wPS} {k n : Nat} {a idx : Nat} {ref : String} {v : Int32} (hO : a ∈ sL S ∧ sK S a = 1) (hlink : Cond.fieldLink own idx ref "radius" "I" ∈ GA) (hsm : ref = "Plotroom$Gun" ∨ Cond.sameField ref "Plotroom$Gun" "radius" "I" ∈ GA)  (hin : Nm "<init>" κ) (hde : "Plotroom$Gun" = own) (hdg : decode cc pc = .ok (.putfield idx, 3)) (kk : Gj κ (PV κ (putI S 10 a v) k n) (pc + 3) lv st) : Gj κ (PV κ S k n) pc lv (.int v :: .ref a :: st) := by
  obtain ⟨p, l, e, R, s, m, args, below, meth, c, Q, D, cO, e0, A, mc, ms⟩ := κ
  obtain ⟨hx, hb, hml, hown, hts, hK, hG, hR, hlk9⟩ := hκ
  intro H locs cells slots ls hF hl
  obtain ⟨hP, hD, hS, hc, hs⟩ := hF
  obtain ⟨k0, hk0, hk1⟩ := wG_Gun cO S hO
  have eq9 := wU_Gun_radius cO S hD hO hk0 v
  have h1 : vwCl[2]? = some (RX1, TX1, 4) := rfl
  have h2 : ∀ x, s.fieldFound? (TX1 2).1 (TX1 2).2.1 (TX1 2).2.2.1 = some x → s.fieldFound? ref (TX1 2).2.1 (TX1 2).2.2.1 = some x := fun x9 h9 => hsm.elim (fun z => by rw [z]; exact h9) (fun z => u_same (hts _ z) x9 h9)
  have h3 : (Cond.fieldLink own idx ref (TX1 2).2.1 (TX1 2).2.2.1).before args s = true := hts _ hlink
  have h4 : ∀ w ∈ u_ws RX1 TX1 4, w ∈ GA := inlX1
  have h5 : parseFieldDescriptor (TX1 2).2.2.1 = some (.int) := tyX1_ok 2 (by decide)
  have h6 : narrow (.int) (.int v) = .int v := rfl
  have h7 : fits (.int) (.int v) = true := rfl
  refine va_putF (D := D) (ci := 2) (v := .int v) (ty := .int) (C := RX1) (T := TX1) (N := 4) hx hb hts h4 tyX1 tyX1_ok nmX1 hown hK hP hD hS k0 hk1 h1 2 (by decide) h3 h2 rfl hin hde h5 h6 h7 (Nat.le_of_ble_eq_true rfl) hdg (fun H1 locs1 hP1 hD1 hS1 => ?_)
  exact kk H1 locs1 cells slots ls ⟨Eq.mp (congrArg (fun z => va_P D vwCl z H1) eq9) hP1, Eq.mp (congrArg (fun z => va_D A z) eq9) hD1, hS1, hc, hs⟩ hl
theorem pt_Lots_next {cc : ByteArray} {nL : Nat} {own : String} {rm : Room} {κ : KX} (hκ : Cx cc nL own rm κ) {pc : Nat} {lv : List (Nat × Value)} {st : List Value} {S : wPS} {k n : Nat} {a idx : Nat} {ref : String} {v : Int32} (hO : a ∈ sL S ∧ sK S a = 2) (hlink : Cond.fieldLink own idx ref "next" "I" ∈ GA) (hsm : ref = "Plotroom$Lots" ∨ Cond.sameField ref "Plotroom$Lots" "next" "I" ∈ GA)   (hdg : decode cc pc = .ok (.putfield idx, 3)) (kk : Gj κ (PV κ (putI S 12 a v) k n) (pc + 3) lv st) : Gj κ (PV κ S k n) pc lv (.int v :: .ref a :: st) := by
  obtain ⟨p, l, e, R, s, m, args, below, meth, c, Q, D, cO, e0, A, mc, ms⟩ := κ
  obtain ⟨hx, hb, hml, hown, hts, hK, hG, hR, hlk9⟩ := hκ
  intro H locs cells slots ls hF hl
  obtain ⟨hP, hD, hS, hc, hs⟩ := hF
  obtain ⟨k0, hk0, hk1⟩ := wG_Lots cO S hO
  have eq9 := wU_Lots_next cO S hD hO hk0 v
  have h1 : vwCl[3]? = some (RX2, TX2, 2) := rfl
  have h2 : ∀ x, s.fieldFound? (TX2 0).1 (TX2 0).2.1 (TX2 0).2.2.1 = some x → s.fieldFound? ref (TX2 0).2.1 (TX2 0).2.2.1 = some x := fun x9 h9 => hsm.elim (fun z => by rw [z]; exact h9) (fun z => u_same (hts _ z) x9 h9)
  have h3 : (Cond.fieldLink own idx ref (TX2 0).2.1 (TX2 0).2.2.1).before args s = true := hts _ hlink
  have h4 : ∀ w ∈ u_ws RX2 TX2 2, w ∈ GA := inlX2
  have h5 : parseFieldDescriptor (TX2 0).2.2.1 = some (.int) := tyX2_ok 0 (by decide)
  have h6 : narrow (.int) (.int v) = .int v := rfl
  have h7 : fits (.int) (.int v) = true := rfl
  refine va_put (D := D) (ci := 3) (v := .int v) (ty := .int) (C := RX2) (T := TX2) (N := 2) hx hb hts h4 tyX2 tyX2_ok nmX2 hown hK hP hD hS k0 hk1 h1 0 (by decide) h3 h2 rfl h5 h6 h7 (Nat.le_of_ble_eq_true rfl) hdg (fun H1 locs1 hP1 hD1 hS1 => ?_)
  exact kk H1 locs1 cells slots ls ⟨Eq.mp (congrArg (fun z => va_P D vwCl z H1) eq9) hP1, Eq.mp (congrArg (fun z => va_D A z) eq9) hD1, hS1, hc, hs⟩ hl
theorem pt_Lots_drawn {cc : ByteArray} {nL : Nat} {own : String} {rm : Room} {κ : KX} (hκ : Cx cc nL own rm κ) {pc : Nat} {lv : List (Nat × Value)} {st : List Value} {S : wPS} {k n : Nat} {a idx : Nat} {ref : String} {v : Int32} (hO : a ∈ sL S ∧ sK S a = 2) (hlink : Cond.fieldLink own idx ref "drawn" "I" ∈ GA) (hsm : ref = "Plotroom$Lots" ∨ Cond.sameField ref "Plotroom$Lots" "drawn" "I" ∈ GA)   (hdg : decode cc pc = .ok (.putfield idx, 3)) (kk : Gj κ (PV κ (putI S 13 a v) k n) (pc + 3) lv st) : Gj κ (PV κ S k n) pc lv (.int v :: .ref a :: st) := by
  obtain ⟨p, l, e, R, s, m, args, below, meth, c, Q, D, cO, e0, A, mc, ms⟩ := κ
  obtain ⟨hx, hb, hml, hown, hts, hK, hG, hR, hlk9⟩ := hκ
  intro H locs cells slots ls hF hl
  obtain ⟨hP, hD, hS, hc, hs⟩ := hF
  obtain ⟨k0, hk0, hk1⟩ := wG_Lots cO S hO
  have eq9 := wU_Lots_drawn cO S hD hO hk0 v
  have h1 : vwCl[3]? = some (RX2, TX2, 2) := rfl
  have h2 : ∀ x, s.fieldFound? (TX2 1).1 (TX2 1).2.1 (TX2 1).2.2.1 = some x → s.fieldFound? ref (TX2 1).2.1 (TX2 1).2.2.1 = some x := fun x9 h9 => hsm.elim (fun z => by rw [z]; exact h9) (fun z => u_same (hts _ z) x9 h9)
  have h3 : (Cond.fieldLink own idx ref (TX2 1).2.1 (TX2 1).2.2.1).before args s = true := hts _ hlink
  have h4 : ∀ w ∈ u_ws RX2 TX2 2, w ∈ GA := inlX2
  have h5 : parseFieldDescriptor (TX2 1).2.2.1 = some (.int) := tyX2_ok 1 (by decide)
  have h6 : narrow (.int) (.int v) = .int v := rfl
  have h7 : fits (.int) (.int v) = true := rfl
  refine va_put (D := D) (ci := 3) (v := .int v) (ty := .int) (C := RX2) (T := TX2) (N := 2) hx hb hts h4 tyX2 tyX2_ok nmX2 hown hK hP hD hS k0 hk1 h1 1 (by decide) h3 h2 rfl h5 h6 h7 (Nat.le_of_ble_eq_true rfl) hdg (fun H1 locs1 hP1 hD1 hS1 => ?_)
  exact kk H1 locs1 cells slots ls ⟨Eq.mp (congrArg (fun z => va_P D vwCl z H1) eq9) hP1, Eq.mp (congrArg (fun z => va_D A z) eq9) hD1, hS1, hc, hs⟩ hl
theorem pt_Mast_x {cc : ByteArray} {nL : Nat} {own : String} {rm : Room} {κ : KX} (hκ : Cx cc nL own rm κ) {pc : Nat} {lv : List (Nat × Value)} {st : List Value} {S : wPS} {k n : Nat} {a idx : Nat} {ref : String} {v : Int32} (hO : a ∈ sL S ∧ sK S a = 3) (hlink : Cond.fieldLink own idx ref "x" "I" ∈ GA) (hsm : ref = "Plotroom$Place" ∨ Cond.sameField ref "Plotroom$Place" "x" "I" ∈ GA)   (hdg : decode cc pc = .ok (.putfield idx, 3)) (kk : Gj κ (PV κ (putI S 14 a v) k n) (pc + 3) lv st) : Gj κ (PV κ S k n) pc lv (.int v :: .ref a :: st) := by
  obtain ⟨p, l, e, R, s, m, args, below, meth, c, Q, D, cO, e0, A, mc, ms⟩ := κ
  obtain ⟨hx, hb, hml, hown, hts, hK, hG, hR, hlk9⟩ := hκ
  intro H locs cells slots ls hF hl
  obtain ⟨hP, hD, hS, hc, hs⟩ := hF
  obtain ⟨k0, hk0, hk1⟩ := wG_Mast cO S hO
  have eq9 := wU_Mast_x cO S hD hO hk0 v
  have h1 : vwCl[4]? = some (RX3, TX3, 10) := rfl
  have h2 : ∀ x, s.fieldFound? (TX3 0).1 (TX3 0).2.1 (TX3 0).2.2.1 = some x → s.fieldFound? ref (TX3 0).2.1 (TX3 0).2.2.1 = some x := fun x9 h9 => hsm.elim (fun z => by rw [z]; exact h9) (fun z => u_same (hts _ z) x9 h9)
  have h3 : (Cond.fieldLink own idx ref (TX3 0).2.1 (TX3 0).2.2.1).before args s = true := hts _ hlink
  have h4 : ∀ w ∈ u_ws RX3 TX3 10, w ∈ GA := inlX3
  have h5 : parseFieldDescriptor (TX3 0).2.2.1 = some (.int) := tyX3_ok 0 (by decide)
  have h6 : narrow (.int) (.int v) = .int v := rfl
  have h7 : fits (.int) (.int v) = true := rfl
  refine va_put (D := D) (ci := 4) (v := .int v) (ty := .int) (C := RX3) (T := TX3) (N := 10) hx hb hts h4 tyX3 tyX3_ok nmX3 hown hK hP hD hS k0 hk1 h1 0 (by decide) h3 h2 rfl h5 h6 h7 (Nat.le_of_ble_eq_true rfl) hdg (fun H1 locs1 hP1 hD1 hS1 => ?_)
  exact kk H1 locs1 cells slots ls ⟨Eq.mp (congrArg (fun z => va_P D vwCl z H1) eq9) hP1, Eq.mp (congrArg (fun z => va_D A z) eq9) hD1, hS1, hc, hs⟩ hl
theorem pt_Mast_y {cc : ByteArray} {nL : Nat} {own : String} {rm : Room} {κ : KX} (hκ : Cx cc nL own rm κ) {pc : Nat} {lv : List (Nat × Value)} {st : List Value} {S : wPS} {k n : Nat} {a idx : Nat} {ref : String} {v : Int32} (hO : a ∈ sL S ∧ sK S a = 3) (hlink : Cond.fieldLink own idx ref "y" "I" ∈ GA) (hsm : ref = "Plotroom$Place" ∨ Cond.sameField ref "Plotroom$Place" "y" "I" ∈ GA)   (hdg : decode cc pc = .ok (.putfield idx, 3)) (kk : Gj κ (PV κ (putI S 15 a v) k n) (pc + 3) lv st) : Gj κ (PV κ S k n) pc lv (.int v :: .ref a :: st) := by
  obtain ⟨p, l, e, R, s, m, args, below, meth, c, Q, D, cO, e0, A, mc, ms⟩ := κ
  obtain ⟨hx, hb, hml, hown, hts, hK, hG, hR, hlk9⟩ := hκ
  intro H locs cells slots ls hF hl
  obtain ⟨hP, hD, hS, hc, hs⟩ := hF
  obtain ⟨k0, hk0, hk1⟩ := wG_Mast cO S hO
  have eq9 := wU_Mast_y cO S hD hO hk0 v
  have h1 : vwCl[4]? = some (RX3, TX3, 10) := rfl
  have h2 : ∀ x, s.fieldFound? (TX3 1).1 (TX3 1).2.1 (TX3 1).2.2.1 = some x → s.fieldFound? ref (TX3 1).2.1 (TX3 1).2.2.1 = some x := fun x9 h9 => hsm.elim (fun z => by rw [z]; exact h9) (fun z => u_same (hts _ z) x9 h9)
  have h3 : (Cond.fieldLink own idx ref (TX3 1).2.1 (TX3 1).2.2.1).before args s = true := hts _ hlink
  have h4 : ∀ w ∈ u_ws RX3 TX3 10, w ∈ GA := inlX3
  have h5 : parseFieldDescriptor (TX3 1).2.2.1 = some (.int) := tyX3_ok 1 (by decide)
  have h6 : narrow (.int) (.int v) = .int v := rfl
  have h7 : fits (.int) (.int v) = true := rfl
  refine va_put (D := D) (ci := 4) (v := .int v) (ty := .int) (C := RX3) (T := TX3) (N := 10) hx hb hts h4 tyX3 tyX3_ok nmX3 hown hK hP hD hS k0 hk1 h1 1 (by decide) h3 h2 rfl h5 h6 h7 (Nat.le_of_ble_eq_true rfl) hdg (fun H1 locs1 hP1 hD1 hS1 => ?_)
  exact kk H1 locs1 cells slots ls ⟨Eq.mp (congrArg (fun z => va_P D vwCl z H1) eq9) hP1, Eq.mp (congrArg (fun z => va_D A z) eq9) hD1, hS1, hc, hs⟩ hl
theorem pt_Mast_range {cc : ByteArray} {nL : Nat} {own : String} {rm : Room} {κ : KX} (hκ : Cx cc nL own rm κ) {pc : Nat} {lv : List (Nat × Value)} {st : List Value} {S : wPS} {k n : Nat} {a idx : Nat} {ref : String} {v : Int32} (hO : a ∈ sL S ∧ sK S a = 3) (hlink : Cond.fieldLink own idx ref "range" "I" ∈ GA) (hsm : ref = "Plotroom$Mast" ∨ Cond.sameField ref "Plotroom$Mast" "range" "I" ∈ GA)  (hin : Nm "<init>" κ) (hde : "Plotroom$Mast" = own) (hdg : decode cc pc = .ok (.putfield idx, 3)) (kk : Gj κ (PV κ (putI S 16 a v) k n) (pc + 3) lv st) : Gj κ (PV κ S k n) pc lv (.int v :: .ref a :: st) := by
  obtain ⟨p, l, e, R, s, m, args, below, meth, c, Q, D, cO, e0, A, mc, ms⟩ := κ
  obtain ⟨hx, hb, hml, hown, hts, hK, hG, hR, hlk9⟩ := hκ
  intro H locs cells slots ls hF hl
  obtain ⟨hP, hD, hS, hc, hs⟩ := hF
  obtain ⟨k0, hk0, hk1⟩ := wG_Mast cO S hO
  have eq9 := wU_Mast_range cO S hD hO hk0 v
  have h1 : vwCl[4]? = some (RX3, TX3, 10) := rfl
  have h2 : ∀ x, s.fieldFound? (TX3 2).1 (TX3 2).2.1 (TX3 2).2.2.1 = some x → s.fieldFound? ref (TX3 2).2.1 (TX3 2).2.2.1 = some x := fun x9 h9 => hsm.elim (fun z => by rw [z]; exact h9) (fun z => u_same (hts _ z) x9 h9)
  have h3 : (Cond.fieldLink own idx ref (TX3 2).2.1 (TX3 2).2.2.1).before args s = true := hts _ hlink
  have h4 : ∀ w ∈ u_ws RX3 TX3 10, w ∈ GA := inlX3
  have h5 : parseFieldDescriptor (TX3 2).2.2.1 = some (.int) := tyX3_ok 2 (by decide)
  have h6 : narrow (.int) (.int v) = .int v := rfl
  have h7 : fits (.int) (.int v) = true := rfl
  refine va_putF (D := D) (ci := 4) (v := .int v) (ty := .int) (C := RX3) (T := TX3) (N := 10) hx hb hts h4 tyX3 tyX3_ok nmX3 hown hK hP hD hS k0 hk1 h1 2 (by decide) h3 h2 rfl hin hde h5 h6 h7 (Nat.le_of_ble_eq_true rfl) hdg (fun H1 locs1 hP1 hD1 hS1 => ?_)
  exact kk H1 locs1 cells slots ls ⟨Eq.mp (congrArg (fun z => va_P D vwCl z H1) eq9) hP1, Eq.mp (congrArg (fun z => va_D A z) eq9) hD1, hS1, hc, hs⟩ hl
theorem pt_Mast_blind {cc : ByteArray} {nL : Nat} {own : String} {rm : Room} {κ : KX} (hκ : Cx cc nL own rm κ) {pc : Nat} {lv : List (Nat × Value)} {st : List Value} {S : wPS} {k n : Nat} {a idx : Nat} {ref : String} {v : Int32} (hO : a ∈ sL S ∧ sK S a = 3) (hlink : Cond.fieldLink own idx ref "blind" "I" ∈ GA) (hsm : ref = "Plotroom$Mast" ∨ Cond.sameField ref "Plotroom$Mast" "blind" "I" ∈ GA)  (hin : Nm "<init>" κ) (hde : "Plotroom$Mast" = own) (hdg : decode cc pc = .ok (.putfield idx, 3)) (kk : Gj κ (PV κ (putI S 17 a v) k n) (pc + 3) lv st) : Gj κ (PV κ S k n) pc lv (.int v :: .ref a :: st) := by
  obtain ⟨p, l, e, R, s, m, args, below, meth, c, Q, D, cO, e0, A, mc, ms⟩ := κ
  obtain ⟨hx, hb, hml, hown, hts, hK, hG, hR, hlk9⟩ := hκ
  intro H locs cells slots ls hF hl
  obtain ⟨hP, hD, hS, hc, hs⟩ := hF
  obtain ⟨k0, hk0, hk1⟩ := wG_Mast cO S hO
  have eq9 := wU_Mast_blind cO S hD hO hk0 v
  have h1 : vwCl[4]? = some (RX3, TX3, 10) := rfl
  have h2 : ∀ x, s.fieldFound? (TX3 3).1 (TX3 3).2.1 (TX3 3).2.2.1 = some x → s.fieldFound? ref (TX3 3).2.1 (TX3 3).2.2.1 = some x := fun x9 h9 => hsm.elim (fun z => by rw [z]; exact h9) (fun z => u_same (hts _ z) x9 h9)
  have h3 : (Cond.fieldLink own idx ref (TX3 3).2.1 (TX3 3).2.2.1).before args s = true := hts _ hlink
  have h4 : ∀ w ∈ u_ws RX3 TX3 10, w ∈ GA := inlX3
  have h5 : parseFieldDescriptor (TX3 3).2.2.1 = some (.int) := tyX3_ok 3 (by decide)
  have h6 : narrow (.int) (.int v) = .int v := rfl
  have h7 : fits (.int) (.int v) = true := rfl
  refine va_putF (D := D) (ci := 4) (v := .int v) (ty := .int) (C := RX3) (T := TX3) (N := 10) hx hb hts h4 tyX3 tyX3_ok nmX3 hown hK hP hD hS k0 hk1 h1 3 (by decide) h3 h2 rfl hin hde h5 h6 h7 (Nat.le_of_ble_eq_true rfl) hdg (fun H1 locs1 hP1 hD1 hS1 => ?_)
  exact kk H1 locs1 cells slots ls ⟨Eq.mp (congrArg (fun z => va_P D vwCl z H1) eq9) hP1, Eq.mp (congrArg (fun z => va_D A z) eq9) hD1, hS1, hc, hs⟩ hl
theorem pt_Mast_slip {cc : ByteArray} {nL : Nat} {own : String} {rm : Room} {κ : KX} (hκ : Cx cc nL own rm κ) {pc : Nat} {lv : List (Nat × Value)} {st : List Value} {S : wPS} {k n : Nat} {a idx : Nat} {ref : String} {v : Int32} (hO : a ∈ sL S ∧ sK S a = 3) (hlink : Cond.fieldLink own idx ref "slip" "I" ∈ GA) (hsm : ref = "Plotroom$Mast" ∨ Cond.sameField ref "Plotroom$Mast" "slip" "I" ∈ GA)  (hin : Nm "<init>" κ) (hde : "Plotroom$Mast" = own) (hdg : decode cc pc = .ok (.putfield idx, 3)) (kk : Gj κ (PV κ (putI S 18 a v) k n) (pc + 3) lv st) : Gj κ (PV κ S k n) pc lv (.int v :: .ref a :: st) := by
  obtain ⟨p, l, e, R, s, m, args, below, meth, c, Q, D, cO, e0, A, mc, ms⟩ := κ
  obtain ⟨hx, hb, hml, hown, hts, hK, hG, hR, hlk9⟩ := hκ
  intro H locs cells slots ls hF hl
  obtain ⟨hP, hD, hS, hc, hs⟩ := hF
  obtain ⟨k0, hk0, hk1⟩ := wG_Mast cO S hO
  have eq9 := wU_Mast_slip cO S hD hO hk0 v
  have h1 : vwCl[4]? = some (RX3, TX3, 10) := rfl
  have h2 : ∀ x, s.fieldFound? (TX3 4).1 (TX3 4).2.1 (TX3 4).2.2.1 = some x → s.fieldFound? ref (TX3 4).2.1 (TX3 4).2.2.1 = some x := fun x9 h9 => hsm.elim (fun z => by rw [z]; exact h9) (fun z => u_same (hts _ z) x9 h9)
  have h3 : (Cond.fieldLink own idx ref (TX3 4).2.1 (TX3 4).2.2.1).before args s = true := hts _ hlink
  have h4 : ∀ w ∈ u_ws RX3 TX3 10, w ∈ GA := inlX3
  have h5 : parseFieldDescriptor (TX3 4).2.2.1 = some (.int) := tyX3_ok 4 (by decide)
  have h6 : narrow (.int) (.int v) = .int v := rfl
  have h7 : fits (.int) (.int v) = true := rfl
  refine va_putF (D := D) (ci := 4) (v := .int v) (ty := .int) (C := RX3) (T := TX3) (N := 10) hx hb hts h4 tyX3 tyX3_ok nmX3 hown hK hP hD hS k0 hk1 h1 4 (by decide) h3 h2 rfl hin hde h5 h6 h7 (Nat.le_of_ble_eq_true rfl) hdg (fun H1 locs1 hP1 hD1 hS1 => ?_)
  exact kk H1 locs1 cells slots ls ⟨Eq.mp (congrArg (fun z => va_P D vwCl z H1) eq9) hP1, Eq.mp (congrArg (fun z => va_D A z) eq9) hD1, hS1, hc, hs⟩ hl
theorem pt_Mast_lag {cc : ByteArray} {nL : Nat} {own : String} {rm : Room} {κ : KX} (hκ : Cx cc nL own rm κ) {pc : Nat} {lv : List (Nat × Value)} {st : List Value} {S : wPS} {k n : Nat} {a idx : Nat} {ref : String} {v : Int32} (hO : a ∈ sL S ∧ sK S a = 3) (hlink : Cond.fieldLink own idx ref "lag" "I" ∈ GA) (hsm : ref = "Plotroom$Mast" ∨ Cond.sameField ref "Plotroom$Mast" "lag" "I" ∈ GA)  (hin : Nm "<init>" κ) (hde : "Plotroom$Mast" = own) (hdg : decode cc pc = .ok (.putfield idx, 3)) (kk : Gj κ (PV κ (putI S 19 a v) k n) (pc + 3) lv st) : Gj κ (PV κ S k n) pc lv (.int v :: .ref a :: st) := by
  obtain ⟨p, l, e, R, s, m, args, below, meth, c, Q, D, cO, e0, A, mc, ms⟩ := κ
  obtain ⟨hx, hb, hml, hown, hts, hK, hG, hR, hlk9⟩ := hκ
  intro H locs cells slots ls hF hl
  obtain ⟨hP, hD, hS, hc, hs⟩ := hF
  obtain ⟨k0, hk0, hk1⟩ := wG_Mast cO S hO
  have eq9 := wU_Mast_lag cO S hD hO hk0 v
  have h1 : vwCl[4]? = some (RX3, TX3, 10) := rfl
  have h2 : ∀ x, s.fieldFound? (TX3 5).1 (TX3 5).2.1 (TX3 5).2.2.1 = some x → s.fieldFound? ref (TX3 5).2.1 (TX3 5).2.2.1 = some x := fun x9 h9 => hsm.elim (fun z => by rw [z]; exact h9) (fun z => u_same (hts _ z) x9 h9)
  have h3 : (Cond.fieldLink own idx ref (TX3 5).2.1 (TX3 5).2.2.1).before args s = true := hts _ hlink
  have h4 : ∀ w ∈ u_ws RX3 TX3 10, w ∈ GA := inlX3
  have h5 : parseFieldDescriptor (TX3 5).2.2.1 = some (.int) := tyX3_ok 5 (by decide)
  have h6 : narrow (.int) (.int v) = .int v := rfl
  have h7 : fits (.int) (.int v) = true := rfl
  refine va_putF (D := D) (ci := 4) (v := .int v) (ty := .int) (C := RX3) (T := TX3) (N := 10) hx hb hts h4 tyX3 tyX3_ok nmX3 hown hK hP hD hS k0 hk1 h1 5 (by decide) h3 h2 rfl hin hde h5 h6 h7 (Nat.le_of_ble_eq_true rfl) hdg (fun H1 locs1 hP1 hD1 hS1 => ?_)
  exact kk H1 locs1 cells slots ls ⟨Eq.mp (congrArg (fun z => va_P D vwCl z H1) eq9) hP1, Eq.mp (congrArg (fun z => va_D A z) eq9) hD1, hS1, hc, hs⟩ hl
theorem ptN_Mast_made {cc : ByteArray} {nL : Nat} {own : String} {rm : Room} {κ : KX} (hκ : Cx cc nL own rm κ) {pc : Nat} {lv : List (Nat × Value)} {st : List Value} {S : wPS} {k n : Nat} {a idx : Nat} {ref host : String} {v : Int32} (hO : a ∈ sL S ∧ sK S a = 3) (hlink : (own, idx, ref, "made", "I", host) ∈ nestF) (hsm : ref = "Plotroom$Mast" ∨ Cond.sameField ref "Plotroom$Mast" "made" "I" ∈ GA)   (hdg : decode cc pc = .ok (.putfield idx, 3)) (kk : Gj κ (PV κ (putI S 21 a v) k n) (pc + 3) lv st) : Gj κ (PV κ S k n) pc lv (.int v :: .ref a :: st) := by
  obtain ⟨p, l, e, R, s, m, args, below, meth, c, Q, D, cO, e0, A, mc, ms⟩ := κ
  obtain ⟨hx, hb, hml, hown, hts, hK, hG, hR, hlk9⟩ := hκ
  intro H locs cells slots ls hF hl
  obtain ⟨hP, hD, hS, hc, hs⟩ := hF
  obtain ⟨k0, hk0, hk1⟩ := wG_Mast cO S hO
  have eq9 := wU_Mast_made cO S hD hO hk0 v
  have h30 : va_Nw (Cond.fieldLinkNest own idx ref "made" "I" host) s := hG.nf hlink
  have h31 : (Cond.fieldLinkNest own idx ref "made" "I" host).onTables = true := rfl
  have h1 : vwCl[4]? = some (RX3, TX3, 10) := rfl
  have h2 : ∀ x, s.fieldFound? (TX3 7).1 (TX3 7).2.1 (TX3 7).2.2.1 = some x → s.fieldFound? ref (TX3 7).2.1 (TX3 7).2.2.1 = some x := fun x9 h9 => hsm.elim (fun z => by rw [z]; exact h9) (fun z => u_same (hts _ z) x9 h9)
  have h3 : (Cond.fieldLinkNest own idx ref (TX3 7).2.1 (TX3 7).2.2.1 host).before args s = true := va_Nw.use h31 h30
  have h4 : ∀ w ∈ u_ws RX3 TX3 10, w ∈ GA := inlX3
  have h5 : parseFieldDescriptor (TX3 7).2.2.1 = some (.int) := tyX3_ok 7 (by decide)
  have h6 : narrow (.int) (.int v) = .int v := rfl
  have h7 : fits (.int) (.int v) = true := rfl
  refine va_putN (D := D) (ci := 4) (v := .int v) (ty := .int) (C := RX3) (T := TX3) (N := 10) hx hb hts h4 tyX3 tyX3_ok nmX3 hown hK hP hD hS k0 hk1 h1 7 (by decide) h3 h2 rfl h5 h6 h7 (Nat.le_of_ble_eq_true rfl) hdg (fun H1 locs1 hP1 hD1 hS1 => ?_)
  exact kk H1 locs1 cells slots ls ⟨Eq.mp (congrArg (fun z => va_P D vwCl z H1) eq9) hP1, Eq.mp (congrArg (fun z => va_D A z) eq9) hD1, hS1, hc, hs⟩ hl
theorem ptN_Mast_came {cc : ByteArray} {nL : Nat} {own : String} {rm : Room} {κ : KX} (hκ : Cx cc nL own rm κ) {pc : Nat} {lv : List (Nat × Value)} {st : List Value} {S : wPS} {k n : Nat} {a idx : Nat} {ref host : String} {v : Int32} (hO : a ∈ sL S ∧ sK S a = 3) (hlink : (own, idx, ref, "came", "I", host) ∈ nestF) (hsm : ref = "Plotroom$Mast" ∨ Cond.sameField ref "Plotroom$Mast" "came" "I" ∈ GA)   (hdg : decode cc pc = .ok (.putfield idx, 3)) (kk : Gj κ (PV κ (putI S 22 a v) k n) (pc + 3) lv st) : Gj κ (PV κ S k n) pc lv (.int v :: .ref a :: st) := by
  obtain ⟨p, l, e, R, s, m, args, below, meth, c, Q, D, cO, e0, A, mc, ms⟩ := κ
  obtain ⟨hx, hb, hml, hown, hts, hK, hG, hR, hlk9⟩ := hκ
  intro H locs cells slots ls hF hl
  obtain ⟨hP, hD, hS, hc, hs⟩ := hF
  obtain ⟨k0, hk0, hk1⟩ := wG_Mast cO S hO
  have eq9 := wU_Mast_came cO S hD hO hk0 v
  have h30 : va_Nw (Cond.fieldLinkNest own idx ref "came" "I" host) s := hG.nf hlink
  have h31 : (Cond.fieldLinkNest own idx ref "came" "I" host).onTables = true := rfl
  have h1 : vwCl[4]? = some (RX3, TX3, 10) := rfl
  have h2 : ∀ x, s.fieldFound? (TX3 8).1 (TX3 8).2.1 (TX3 8).2.2.1 = some x → s.fieldFound? ref (TX3 8).2.1 (TX3 8).2.2.1 = some x := fun x9 h9 => hsm.elim (fun z => by rw [z]; exact h9) (fun z => u_same (hts _ z) x9 h9)
  have h3 : (Cond.fieldLinkNest own idx ref (TX3 8).2.1 (TX3 8).2.2.1 host).before args s = true := va_Nw.use h31 h30
  have h4 : ∀ w ∈ u_ws RX3 TX3 10, w ∈ GA := inlX3
  have h5 : parseFieldDescriptor (TX3 8).2.2.1 = some (.int) := tyX3_ok 8 (by decide)
  have h6 : narrow (.int) (.int v) = .int v := rfl
  have h7 : fits (.int) (.int v) = true := rfl
  refine va_putN (D := D) (ci := 4) (v := .int v) (ty := .int) (C := RX3) (T := TX3) (N := 10) hx hb hts h4 tyX3 tyX3_ok nmX3 hown hK hP hD hS k0 hk1 h1 8 (by decide) h3 h2 rfl h5 h6 h7 (Nat.le_of_ble_eq_true rfl) hdg (fun H1 locs1 hP1 hD1 hS1 => ?_)
  exact kk H1 locs1 cells slots ls ⟨Eq.mp (congrArg (fun z => va_P D vwCl z H1) eq9) hP1, Eq.mp (congrArg (fun z => va_D A z) eq9) hD1, hS1, hc, hs⟩ hl
theorem ptN_Mast_lost {cc : ByteArray} {nL : Nat} {own : String} {rm : Room} {κ : KX} (hκ : Cx cc nL own rm κ) {pc : Nat} {lv : List (Nat × Value)} {st : List Value} {S : wPS} {k n : Nat} {a idx : Nat} {ref host : String} {v : Int32} (hO : a ∈ sL S ∧ sK S a = 3) (hlink : (own, idx, ref, "lost", "I", host) ∈ nestF) (hsm : ref = "Plotroom$Mast" ∨ Cond.sameField ref "Plotroom$Mast" "lost" "I" ∈ GA)   (hdg : decode cc pc = .ok (.putfield idx, 3)) (kk : Gj κ (PV κ (putI S 23 a v) k n) (pc + 3) lv st) : Gj κ (PV κ S k n) pc lv (.int v :: .ref a :: st) := by
  obtain ⟨p, l, e, R, s, m, args, below, meth, c, Q, D, cO, e0, A, mc, ms⟩ := κ
  obtain ⟨hx, hb, hml, hown, hts, hK, hG, hR, hlk9⟩ := hκ
  intro H locs cells slots ls hF hl
  obtain ⟨hP, hD, hS, hc, hs⟩ := hF
  obtain ⟨k0, hk0, hk1⟩ := wG_Mast cO S hO
  have eq9 := wU_Mast_lost cO S hD hO hk0 v
  have h30 : va_Nw (Cond.fieldLinkNest own idx ref "lost" "I" host) s := hG.nf hlink
  have h31 : (Cond.fieldLinkNest own idx ref "lost" "I" host).onTables = true := rfl
  have h1 : vwCl[4]? = some (RX3, TX3, 10) := rfl
  have h2 : ∀ x, s.fieldFound? (TX3 9).1 (TX3 9).2.1 (TX3 9).2.2.1 = some x → s.fieldFound? ref (TX3 9).2.1 (TX3 9).2.2.1 = some x := fun x9 h9 => hsm.elim (fun z => by rw [z]; exact h9) (fun z => u_same (hts _ z) x9 h9)
  have h3 : (Cond.fieldLinkNest own idx ref (TX3 9).2.1 (TX3 9).2.2.1 host).before args s = true := va_Nw.use h31 h30
  have h4 : ∀ w ∈ u_ws RX3 TX3 10, w ∈ GA := inlX3
  have h5 : parseFieldDescriptor (TX3 9).2.2.1 = some (.int) := tyX3_ok 9 (by decide)
  have h6 : narrow (.int) (.int v) = .int v := rfl
  have h7 : fits (.int) (.int v) = true := rfl
  refine va_putN (D := D) (ci := 4) (v := .int v) (ty := .int) (C := RX3) (T := TX3) (N := 10) hx hb hts h4 tyX3 tyX3_ok nmX3 hown hK hP hD hS k0 hk1 h1 9 (by decide) h3 h2 rfl h5 h6 h7 (Nat.le_of_ble_eq_true rfl) hdg (fun H1 locs1 hP1 hD1 hS1 => ?_)
  exact kk H1 locs1 cells slots ls ⟨Eq.mp (congrArg (fun z => va_P D vwCl z H1) eq9) hP1, Eq.mp (congrArg (fun z => va_D A z) eq9) hD1, hS1, hc, hs⟩ hl
theorem pt_Place_x {cc : ByteArray} {nL : Nat} {own : String} {rm : Room} {κ : KX} (hκ : Cx cc nL own rm κ) {pc : Nat} {lv : List (Nat × Value)} {st : List Value} {S : wPS} {k n : Nat} {a idx : Nat} {ref : String} {v : Int32} (hO : a ∈ sL S ∧ sK S a = 4) (hlink : Cond.fieldLink own idx ref "x" "I" ∈ GA) (hsm : ref = "Plotroom$Place" ∨ Cond.sameField ref "Plotroom$Place" "x" "I" ∈ GA)   (hdg : decode cc pc = .ok (.putfield idx, 3)) (kk : Gj κ (PV κ (putI S 24 a v) k n) (pc + 3) lv st) : Gj κ (PV κ S k n) pc lv (.int v :: .ref a :: st) := by
  obtain ⟨p, l, e, R, s, m, args, below, meth, c, Q, D, cO, e0, A, mc, ms⟩ := κ
  obtain ⟨hx, hb, hml, hown, hts, hK, hG, hR, hlk9⟩ := hκ
  intro H locs cells slots ls hF hl
  obtain ⟨hP, hD, hS, hc, hs⟩ := hF
  obtain ⟨k0, hk0, hk1⟩ := wG_Place cO S hO
  have eq9 := wU_Place_x cO S hD hO hk0 v
  have h1 : vwCl[5]? = some (RX4, TX4, 2) := rfl
  have h2 : ∀ x, s.fieldFound? (TX4 0).1 (TX4 0).2.1 (TX4 0).2.2.1 = some x → s.fieldFound? ref (TX4 0).2.1 (TX4 0).2.2.1 = some x := fun x9 h9 => hsm.elim (fun z => by rw [z]; exact h9) (fun z => u_same (hts _ z) x9 h9)
  have h3 : (Cond.fieldLink own idx ref (TX4 0).2.1 (TX4 0).2.2.1).before args s = true := hts _ hlink
  have h4 : ∀ w ∈ u_ws RX4 TX4 2, w ∈ GA := inlX4
  have h5 : parseFieldDescriptor (TX4 0).2.2.1 = some (.int) := tyX4_ok 0 (by decide)
  have h6 : narrow (.int) (.int v) = .int v := rfl
  have h7 : fits (.int) (.int v) = true := rfl
  refine va_put (D := D) (ci := 5) (v := .int v) (ty := .int) (C := RX4) (T := TX4) (N := 2) hx hb hts h4 tyX4 tyX4_ok nmX4 hown hK hP hD hS k0 hk1 h1 0 (by decide) h3 h2 rfl h5 h6 h7 (Nat.le_of_ble_eq_true rfl) hdg (fun H1 locs1 hP1 hD1 hS1 => ?_)
  exact kk H1 locs1 cells slots ls ⟨Eq.mp (congrArg (fun z => va_P D vwCl z H1) eq9) hP1, Eq.mp (congrArg (fun z => va_D A z) eq9) hD1, hS1, hc, hs⟩ hl
theorem pt_Place_y {cc : ByteArray} {nL : Nat} {own : String} {rm : Room} {κ : KX} (hκ : Cx cc nL own rm κ) {pc : Nat} {lv : List (Nat × Value)} {st : List Value} {S : wPS} {k n : Nat} {a idx : Nat} {ref : String} {v : Int32} (hO : a ∈ sL S ∧ sK S a = 4) (hlink : Cond.fieldLink own idx ref "y" "I" ∈ GA) (hsm : ref = "Plotroom$Place" ∨ Cond.sameField ref "Plotroom$Place" "y" "I" ∈ GA)   (hdg : decode cc pc = .ok (.putfield idx, 3)) (kk : Gj κ (PV κ (putI S 25 a v) k n) (pc + 3) lv st) : Gj κ (PV κ S k n) pc lv (.int v :: .ref a :: st) := by
  obtain ⟨p, l, e, R, s, m, args, below, meth, c, Q, D, cO, e0, A, mc, ms⟩ := κ
  obtain ⟨hx, hb, hml, hown, hts, hK, hG, hR, hlk9⟩ := hκ
  intro H locs cells slots ls hF hl
  obtain ⟨hP, hD, hS, hc, hs⟩ := hF
  obtain ⟨k0, hk0, hk1⟩ := wG_Place cO S hO
  have eq9 := wU_Place_y cO S hD hO hk0 v
  have h1 : vwCl[5]? = some (RX4, TX4, 2) := rfl
  have h2 : ∀ x, s.fieldFound? (TX4 1).1 (TX4 1).2.1 (TX4 1).2.2.1 = some x → s.fieldFound? ref (TX4 1).2.1 (TX4 1).2.2.1 = some x := fun x9 h9 => hsm.elim (fun z => by rw [z]; exact h9) (fun z => u_same (hts _ z) x9 h9)
  have h3 : (Cond.fieldLink own idx ref (TX4 1).2.1 (TX4 1).2.2.1).before args s = true := hts _ hlink
  have h4 : ∀ w ∈ u_ws RX4 TX4 2, w ∈ GA := inlX4
  have h5 : parseFieldDescriptor (TX4 1).2.2.1 = some (.int) := tyX4_ok 1 (by decide)
  have h6 : narrow (.int) (.int v) = .int v := rfl
  have h7 : fits (.int) (.int v) = true := rfl
  refine va_put (D := D) (ci := 5) (v := .int v) (ty := .int) (C := RX4) (T := TX4) (N := 2) hx hb hts h4 tyX4 tyX4_ok nmX4 hown hK hP hD hS k0 hk1 h1 1 (by decide) h3 h2 rfl h5 h6 h7 (Nat.le_of_ble_eq_true rfl) hdg (fun H1 locs1 hP1 hD1 hS1 => ?_)
  exact kk H1 locs1 cells slots ls ⟨Eq.mp (congrArg (fun z => va_P D vwCl z H1) eq9) hP1, Eq.mp (congrArg (fun z => va_D A z) eq9) hD1, hS1, hc, hs⟩ hl
theorem pt_Plot_x {cc : ByteArray} {nL : Nat} {own : String} {rm : Room} {κ : KX} (hκ : Cx cc nL own rm κ) {pc : Nat} {lv : List (Nat × Value)} {st : List Value} {S : wPS} {k n : Nat} {a idx : Nat} {ref : String} {v : Int32} (hO : a ∈ sL S ∧ sK S a = 5) (hlink : Cond.fieldLink own idx ref "x" "I" ∈ GA) (hsm : ref = "Plotroom$Place" ∨ Cond.sameField ref "Plotroom$Place" "x" "I" ∈ GA)   (hdg : decode cc pc = .ok (.putfield idx, 3)) (kk : Gj κ (PV κ (putI S 26 a v) k n) (pc + 3) lv st) : Gj κ (PV κ S k n) pc lv (.int v :: .ref a :: st) := by
  obtain ⟨p, l, e, R, s, m, args, below, meth, c, Q, D, cO, e0, A, mc, ms⟩ := κ
  obtain ⟨hx, hb, hml, hown, hts, hK, hG, hR, hlk9⟩ := hκ
  intro H locs cells slots ls hF hl
  obtain ⟨hP, hD, hS, hc, hs⟩ := hF
  obtain ⟨k0, hk0, hk1⟩ := wG_Plot cO S hO
  have eq9 := wU_Plot_x cO S hD hO hk0 v
  have h1 : vwCl[6]? = some (RX6, TX6, 6) := rfl
  have h2 : ∀ x, s.fieldFound? (TX6 0).1 (TX6 0).2.1 (TX6 0).2.2.1 = some x → s.fieldFound? ref (TX6 0).2.1 (TX6 0).2.2.1 = some x := fun x9 h9 => hsm.elim (fun z => by rw [z]; exact h9) (fun z => u_same (hts _ z) x9 h9)
  have h3 : (Cond.fieldLink own idx ref (TX6 0).2.1 (TX6 0).2.2.1).before args s = true := hts _ hlink
  have h4 : ∀ w ∈ u_ws RX6 TX6 6, w ∈ GA := inlX6
  have h5 : parseFieldDescriptor (TX6 0).2.2.1 = some (.int) := tyX6_ok 0 (by decide)
  have h6 : narrow (.int) (.int v) = .int v := rfl
  have h7 : fits (.int) (.int v) = true := rfl
  refine va_put (D := D) (ci := 6) (v := .int v) (ty := .int) (C := RX6) (T := TX6) (N := 6) hx hb hts h4 tyX6 tyX6_ok nmX6 hown hK hP hD hS k0 hk1 h1 0 (by decide) h3 h2 rfl h5 h6 h7 (Nat.le_of_ble_eq_true rfl) hdg (fun H1 locs1 hP1 hD1 hS1 => ?_)
  exact kk H1 locs1 cells slots ls ⟨Eq.mp (congrArg (fun z => va_P D vwCl z H1) eq9) hP1, Eq.mp (congrArg (fun z => va_D A z) eq9) hD1, hS1, hc, hs⟩ hl
theorem pt_Plot_y {cc : ByteArray} {nL : Nat} {own : String} {rm : Room} {κ : KX} (hκ : Cx cc nL own rm κ) {pc : Nat} {lv : List (Nat × Value)} {st : List Value} {S : wPS} {k n : Nat} {a idx : Nat} {ref : String} {v : Int32} (hO : a ∈ sL S ∧ sK S a = 5) (hlink : Cond.fieldLink own idx ref "y" "I" ∈ GA) (hsm : ref = "Plotroom$Place" ∨ Cond.sameField ref "Plotroom$Place" "y" "I" ∈ GA)   (hdg : decode cc pc = .ok (.putfield idx, 3)) (kk : Gj κ (PV κ (putI S 27 a v) k n) (pc + 3) lv st) : Gj κ (PV κ S k n) pc lv (.int v :: .ref a :: st) := by
  obtain ⟨p, l, e, R, s, m, args, below, meth, c, Q, D, cO, e0, A, mc, ms⟩ := κ
  obtain ⟨hx, hb, hml, hown, hts, hK, hG, hR, hlk9⟩ := hκ
  intro H locs cells slots ls hF hl
  obtain ⟨hP, hD, hS, hc, hs⟩ := hF
  obtain ⟨k0, hk0, hk1⟩ := wG_Plot cO S hO
  have eq9 := wU_Plot_y cO S hD hO hk0 v
  have h1 : vwCl[6]? = some (RX6, TX6, 6) := rfl
  have h2 : ∀ x, s.fieldFound? (TX6 1).1 (TX6 1).2.1 (TX6 1).2.2.1 = some x → s.fieldFound? ref (TX6 1).2.1 (TX6 1).2.2.1 = some x := fun x9 h9 => hsm.elim (fun z => by rw [z]; exact h9) (fun z => u_same (hts _ z) x9 h9)
  have h3 : (Cond.fieldLink own idx ref (TX6 1).2.1 (TX6 1).2.2.1).before args s = true := hts _ hlink
  have h4 : ∀ w ∈ u_ws RX6 TX6 6, w ∈ GA := inlX6
  have h5 : parseFieldDescriptor (TX6 1).2.2.1 = some (.int) := tyX6_ok 1 (by decide)
  have h6 : narrow (.int) (.int v) = .int v := rfl
  have h7 : fits (.int) (.int v) = true := rfl
  refine va_put (D := D) (ci := 6) (v := .int v) (ty := .int) (C := RX6) (T := TX6) (N := 6) hx hb hts h4 tyX6 tyX6_ok nmX6 hown hK hP hD hS k0 hk1 h1 1 (by decide) h3 h2 rfl h5 h6 h7 (Nat.le_of_ble_eq_true rfl) hdg (fun H1 locs1 hP1 hD1 hS1 => ?_)
  exact kk H1 locs1 cells slots ls ⟨Eq.mp (congrArg (fun z => va_P D vwCl z H1) eq9) hP1, Eq.mp (congrArg (fun z => va_D A z) eq9) hD1, hS1, hc, hs⟩ hl
theorem pt_Plot_mast {cc : ByteArray} {nL : Nat} {own : String} {rm : Room} {κ : KX} (hκ : Cx cc nL own rm κ) {pc : Nat} {lv : List (Nat × Value)} {st : List Value} {S : wPS} {k n : Nat} {a idx : Nat} {ref : String} {v : Option Nat} (hO : a ∈ sL S ∧ sK S a = 5) (hlink : Cond.fieldLink own idx ref "mast" "LPlotroom$Mast;" ∈ GA) (hsm : ref = "Plotroom$Plot" ∨ Cond.sameField ref "Plotroom$Plot" "mast" "LPlotroom$Mast;" ∈ GA)   (hdg : decode cc pc = .ok (.putfield idx, 3)) (kk : Gj κ (PV κ (putR S 0 a v) k n) (pc + 3) lv st) : Gj κ (PV κ S k n) pc lv (va_rf v :: .ref a :: st) := by
  obtain ⟨p, l, e, R, s, m, args, below, meth, c, Q, D, cO, e0, A, mc, ms⟩ := κ
  obtain ⟨hx, hb, hml, hown, hts, hK, hG, hR, hlk9⟩ := hκ
  intro H locs cells slots ls hF hl
  obtain ⟨hP, hD, hS, hc, hs⟩ := hF
  obtain ⟨k0, hk0, hk1⟩ := wG_Plot cO S hO
  have eq9 := wU_Plot_mast cO S hD hO hk0 v
  have h1 : vwCl[6]? = some (RX6, TX6, 6) := rfl
  have h2 : ∀ x, s.fieldFound? (TX6 2).1 (TX6 2).2.1 (TX6 2).2.2.1 = some x → s.fieldFound? ref (TX6 2).2.1 (TX6 2).2.2.1 = some x := fun x9 h9 => hsm.elim (fun z => by rw [z]; exact h9) (fun z => u_same (hts _ z) x9 h9)
  have h3 : (Cond.fieldLink own idx ref (TX6 2).2.1 (TX6 2).2.2.1).before args s = true := hts _ hlink
  have h4 : ∀ w ∈ u_ws RX6 TX6 6, w ∈ GA := inlX6
  have h5 : parseFieldDescriptor (TX6 2).2.2.1 = some (.object "Plotroom$Mast") := tyX6_ok 2 (by decide)
  have h6 : narrow (.object "Plotroom$Mast") (va_rf v) = va_rf v := by cases v <;> rfl
  have h7 : fits (.object "Plotroom$Mast") (va_rf v) = true := by cases v <;> rfl
  refine va_put (D := D) (ci := 6) (v := va_rf v) (ty := .object "Plotroom$Mast") (C := RX6) (T := TX6) (N := 6) hx hb hts h4 tyX6 tyX6_ok nmX6 hown hK hP hD hS k0 hk1 h1 2 (by decide) h3 h2 rfl h5 h6 h7 (Nat.le_of_ble_eq_true rfl) hdg (fun H1 locs1 hP1 hD1 hS1 => ?_)
  exact kk H1 locs1 cells slots ls ⟨Eq.mp (congrArg (fun z => va_P D vwCl z H1) eq9) hP1, Eq.mp (congrArg (fun z => va_D A z) eq9) hD1, hS1, hc, hs⟩ hl
theorem pt_Plot_guess {cc : ByteArray} {nL : Nat} {own : String} {rm : Room} {κ : KX} (hκ : Cx cc nL own rm κ) {pc : Nat} {lv : List (Nat × Value)} {st : List Value} {S : wPS} {k n : Nat} {a idx : Nat} {ref : String} {v : Int32} (hO : a ∈ sL S ∧ sK S a = 5) (hlink : Cond.fieldLink own idx ref "guess" "I" ∈ GA) (hsm : ref = "Plotroom$Plot" ∨ Cond.sameField ref "Plotroom$Plot" "guess" "I" ∈ GA)   (hdg : decode cc pc = .ok (.putfield idx, 3)) (kk : Gj κ (PV κ (putI S 28 a v) k n) (pc + 3) lv st) : Gj κ (PV κ S k n) pc lv (.int v :: .ref a :: st) := by
  obtain ⟨p, l, e, R, s, m, args, below, meth, c, Q, D, cO, e0, A, mc, ms⟩ := κ
  obtain ⟨hx, hb, hml, hown, hts, hK, hG, hR, hlk9⟩ := hκ
  intro H locs cells slots ls hF hl
  obtain ⟨hP, hD, hS, hc, hs⟩ := hF
  obtain ⟨k0, hk0, hk1⟩ := wG_Plot cO S hO
  have eq9 := wU_Plot_guess cO S hD hO hk0 v
  have h1 : vwCl[6]? = some (RX6, TX6, 6) := rfl
  have h2 : ∀ x, s.fieldFound? (TX6 3).1 (TX6 3).2.1 (TX6 3).2.2.1 = some x → s.fieldFound? ref (TX6 3).2.1 (TX6 3).2.2.1 = some x := fun x9 h9 => hsm.elim (fun z => by rw [z]; exact h9) (fun z => u_same (hts _ z) x9 h9)
  have h3 : (Cond.fieldLink own idx ref (TX6 3).2.1 (TX6 3).2.2.1).before args s = true := hts _ hlink
  have h4 : ∀ w ∈ u_ws RX6 TX6 6, w ∈ GA := inlX6
  have h5 : parseFieldDescriptor (TX6 3).2.2.1 = some (.int) := tyX6_ok 3 (by decide)
  have h6 : narrow (.int) (.int v) = .int v := rfl
  have h7 : fits (.int) (.int v) = true := rfl
  refine va_put (D := D) (ci := 6) (v := .int v) (ty := .int) (C := RX6) (T := TX6) (N := 6) hx hb hts h4 tyX6 tyX6_ok nmX6 hown hK hP hD hS k0 hk1 h1 3 (by decide) h3 h2 rfl h5 h6 h7 (Nat.le_of_ble_eq_true rfl) hdg (fun H1 locs1 hP1 hD1 hS1 => ?_)
  exact kk H1 locs1 cells slots ls ⟨Eq.mp (congrArg (fun z => va_P D vwCl z H1) eq9) hP1, Eq.mp (congrArg (fun z => va_D A z) eq9) hD1, hS1, hc, hs⟩ hl
theorem pt_Plot_seenAt {cc : ByteArray} {nL : Nat} {own : String} {rm : Room} {κ : KX} (hκ : Cx cc nL own rm κ) {pc : Nat} {lv : List (Nat × Value)} {st : List Value} {S : wPS} {k n : Nat} {a idx : Nat} {ref : String} {v : Int32} (hO : a ∈ sL S ∧ sK S a = 5) (hlink : Cond.fieldLink own idx ref "seenAt" "I" ∈ GA) (hsm : ref = "Plotroom$Plot" ∨ Cond.sameField ref "Plotroom$Plot" "seenAt" "I" ∈ GA)   (hdg : decode cc pc = .ok (.putfield idx, 3)) (kk : Gj κ (PV κ (putI S 29 a v) k n) (pc + 3) lv st) : Gj κ (PV κ S k n) pc lv (.int v :: .ref a :: st) := by
  obtain ⟨p, l, e, R, s, m, args, below, meth, c, Q, D, cO, e0, A, mc, ms⟩ := κ
  obtain ⟨hx, hb, hml, hown, hts, hK, hG, hR, hlk9⟩ := hκ
  intro H locs cells slots ls hF hl
  obtain ⟨hP, hD, hS, hc, hs⟩ := hF
  obtain ⟨k0, hk0, hk1⟩ := wG_Plot cO S hO
  have eq9 := wU_Plot_seenAt cO S hD hO hk0 v
  have h1 : vwCl[6]? = some (RX6, TX6, 6) := rfl
  have h2 : ∀ x, s.fieldFound? (TX6 4).1 (TX6 4).2.1 (TX6 4).2.2.1 = some x → s.fieldFound? ref (TX6 4).2.1 (TX6 4).2.2.1 = some x := fun x9 h9 => hsm.elim (fun z => by rw [z]; exact h9) (fun z => u_same (hts _ z) x9 h9)
  have h3 : (Cond.fieldLink own idx ref (TX6 4).2.1 (TX6 4).2.2.1).before args s = true := hts _ hlink
  have h4 : ∀ w ∈ u_ws RX6 TX6 6, w ∈ GA := inlX6
  have h5 : parseFieldDescriptor (TX6 4).2.2.1 = some (.int) := tyX6_ok 4 (by decide)
  have h6 : narrow (.int) (.int v) = .int v := rfl
  have h7 : fits (.int) (.int v) = true := rfl
  refine va_put (D := D) (ci := 6) (v := .int v) (ty := .int) (C := RX6) (T := TX6) (N := 6) hx hb hts h4 tyX6 tyX6_ok nmX6 hown hK hP hD hS k0 hk1 h1 4 (by decide) h3 h2 rfl h5 h6 h7 (Nat.le_of_ble_eq_true rfl) hdg (fun H1 locs1 hP1 hD1 hS1 => ?_)
  exact kk H1 locs1 cells slots ls ⟨Eq.mp (congrArg (fun z => va_P D vwCl z H1) eq9) hP1, Eq.mp (congrArg (fun z => va_D A z) eq9) hD1, hS1, hc, hs⟩ hl
theorem pt_Plot_due {cc : ByteArray} {nL : Nat} {own : String} {rm : Room} {κ : KX} (hκ : Cx cc nL own rm κ) {pc : Nat} {lv : List (Nat × Value)} {st : List Value} {S : wPS} {k n : Nat} {a idx : Nat} {ref : String} {v : Int32} (hO : a ∈ sL S ∧ sK S a = 5) (hlink : Cond.fieldLink own idx ref "due" "I" ∈ GA) (hsm : ref = "Plotroom$Plot" ∨ Cond.sameField ref "Plotroom$Plot" "due" "I" ∈ GA)   (hdg : decode cc pc = .ok (.putfield idx, 3)) (kk : Gj κ (PV κ (putI S 30 a v) k n) (pc + 3) lv st) : Gj κ (PV κ S k n) pc lv (.int v :: .ref a :: st) := by
  obtain ⟨p, l, e, R, s, m, args, below, meth, c, Q, D, cO, e0, A, mc, ms⟩ := κ
  obtain ⟨hx, hb, hml, hown, hts, hK, hG, hR, hlk9⟩ := hκ
  intro H locs cells slots ls hF hl
  obtain ⟨hP, hD, hS, hc, hs⟩ := hF
  obtain ⟨k0, hk0, hk1⟩ := wG_Plot cO S hO
  have eq9 := wU_Plot_due cO S hD hO hk0 v
  have h1 : vwCl[6]? = some (RX6, TX6, 6) := rfl
  have h2 : ∀ x, s.fieldFound? (TX6 5).1 (TX6 5).2.1 (TX6 5).2.2.1 = some x → s.fieldFound? ref (TX6 5).2.1 (TX6 5).2.2.1 = some x := fun x9 h9 => hsm.elim (fun z => by rw [z]; exact h9) (fun z => u_same (hts _ z) x9 h9)
  have h3 : (Cond.fieldLink own idx ref (TX6 5).2.1 (TX6 5).2.2.1).before args s = true := hts _ hlink
  have h4 : ∀ w ∈ u_ws RX6 TX6 6, w ∈ GA := inlX6
  have h5 : parseFieldDescriptor (TX6 5).2.2.1 = some (.int) := tyX6_ok 5 (by decide)
  have h6 : narrow (.int) (.int v) = .int v := rfl
  have h7 : fits (.int) (.int v) = true := rfl
  refine va_put (D := D) (ci := 6) (v := .int v) (ty := .int) (C := RX6) (T := TX6) (N := 6) hx hb hts h4 tyX6 tyX6_ok nmX6 hown hK hP hD hS k0 hk1 h1 5 (by decide) h3 h2 rfl h5 h6 h7 (Nat.le_of_ble_eq_true rfl) hdg (fun H1 locs1 hP1 hD1 hS1 => ?_)
  exact kk H1 locs1 cells slots ls ⟨Eq.mp (congrArg (fun z => va_P D vwCl z H1) eq9) hP1, Eq.mp (congrArg (fun z => va_D A z) eq9) hD1, hS1, hc, hs⟩ hl
theorem pt_Squadron_x {cc : ByteArray} {nL : Nat} {own : String} {rm : Room} {κ : KX} (hκ : Cx cc nL own rm κ) {pc : Nat} {lv : List (Nat × Value)} {st : List Value} {S : wPS} {k n : Nat} {a idx : Nat} {ref : String} {v : Int32} (hO : a ∈ sL S ∧ sK S a = 6) (hlink : Cond.fieldLink own idx ref "x" "I" ∈ GA) (hsm : ref = "Plotroom$Place" ∨ Cond.sameField ref "Plotroom$Place" "x" "I" ∈ GA)   (hdg : decode cc pc = .ok (.putfield idx, 3)) (kk : Gj κ (PV κ (putI S 31 a v) k n) (pc + 3) lv st) : Gj κ (PV κ S k n) pc lv (.int v :: .ref a :: st) := by
  obtain ⟨p, l, e, R, s, m, args, below, meth, c, Q, D, cO, e0, A, mc, ms⟩ := κ
  obtain ⟨hx, hb, hml, hown, hts, hK, hG, hR, hlk9⟩ := hκ
  intro H locs cells slots ls hF hl
  obtain ⟨hP, hD, hS, hc, hs⟩ := hF
  obtain ⟨k0, hk0, hk1⟩ := wG_Squadron cO S hO
  have eq9 := wU_Squadron_x cO S hD hO hk0 v
  have h1 : vwCl[7]? = some (RX7, TX7, 13) := rfl
  have h2 : ∀ x, s.fieldFound? (TX7 0).1 (TX7 0).2.1 (TX7 0).2.2.1 = some x → s.fieldFound? ref (TX7 0).2.1 (TX7 0).2.2.1 = some x := fun x9 h9 => hsm.elim (fun z => by rw [z]; exact h9) (fun z => u_same (hts _ z) x9 h9)
  have h3 : (Cond.fieldLink own idx ref (TX7 0).2.1 (TX7 0).2.2.1).before args s = true := hts _ hlink
  have h4 : ∀ w ∈ u_ws RX7 TX7 13, w ∈ GA := inlX7
  have h5 : parseFieldDescriptor (TX7 0).2.2.1 = some (.int) := tyX7_ok 0 (by decide)
  have h6 : narrow (.int) (.int v) = .int v := rfl
  have h7 : fits (.int) (.int v) = true := rfl
  refine va_put (D := D) (ci := 7) (v := .int v) (ty := .int) (C := RX7) (T := TX7) (N := 13) hx hb hts h4 tyX7 tyX7_ok nmX7 hown hK hP hD hS k0 hk1 h1 0 (by decide) h3 h2 rfl h5 h6 h7 (Nat.le_of_ble_eq_true rfl) hdg (fun H1 locs1 hP1 hD1 hS1 => ?_)
  exact kk H1 locs1 cells slots ls ⟨Eq.mp (congrArg (fun z => va_P D vwCl z H1) eq9) hP1, Eq.mp (congrArg (fun z => va_D A z) eq9) hD1, hS1, hc, hs⟩ hl
theorem pt_Squadron_y {cc : ByteArray} {nL : Nat} {own : String} {rm : Room} {κ : KX} (hκ : Cx cc nL own rm κ) {pc : Nat} {lv : List (Nat × Value)} {st : List Value} {S : wPS} {k n : Nat} {a idx : Nat} {ref : String} {v : Int32} (hO : a ∈ sL S ∧ sK S a = 6) (hlink : Cond.fieldLink own idx ref "y" "I" ∈ GA) (hsm : ref = "Plotroom$Place" ∨ Cond.sameField ref "Plotroom$Place" "y" "I" ∈ GA)   (hdg : decode cc pc = .ok (.putfield idx, 3)) (kk : Gj κ (PV κ (putI S 32 a v) k n) (pc + 3) lv st) : Gj κ (PV κ S k n) pc lv (.int v :: .ref a :: st) := by
  obtain ⟨p, l, e, R, s, m, args, below, meth, c, Q, D, cO, e0, A, mc, ms⟩ := κ
  obtain ⟨hx, hb, hml, hown, hts, hK, hG, hR, hlk9⟩ := hκ
  intro H locs cells slots ls hF hl
  obtain ⟨hP, hD, hS, hc, hs⟩ := hF
  obtain ⟨k0, hk0, hk1⟩ := wG_Squadron cO S hO
  have eq9 := wU_Squadron_y cO S hD hO hk0 v
  have h1 : vwCl[7]? = some (RX7, TX7, 13) := rfl
  have h2 : ∀ x, s.fieldFound? (TX7 1).1 (TX7 1).2.1 (TX7 1).2.2.1 = some x → s.fieldFound? ref (TX7 1).2.1 (TX7 1).2.2.1 = some x := fun x9 h9 => hsm.elim (fun z => by rw [z]; exact h9) (fun z => u_same (hts _ z) x9 h9)
  have h3 : (Cond.fieldLink own idx ref (TX7 1).2.1 (TX7 1).2.2.1).before args s = true := hts _ hlink
  have h4 : ∀ w ∈ u_ws RX7 TX7 13, w ∈ GA := inlX7
  have h5 : parseFieldDescriptor (TX7 1).2.2.1 = some (.int) := tyX7_ok 1 (by decide)
  have h6 : narrow (.int) (.int v) = .int v := rfl
  have h7 : fits (.int) (.int v) = true := rfl
  refine va_put (D := D) (ci := 7) (v := .int v) (ty := .int) (C := RX7) (T := TX7) (N := 13) hx hb hts h4 tyX7 tyX7_ok nmX7 hown hK hP hD hS k0 hk1 h1 1 (by decide) h3 h2 rfl h5 h6 h7 (Nat.le_of_ble_eq_true rfl) hdg (fun H1 locs1 hP1 hD1 hS1 => ?_)
  exact kk H1 locs1 cells slots ls ⟨Eq.mp (congrArg (fun z => va_P D vwCl z H1) eq9) hP1, Eq.mp (congrArg (fun z => va_D A z) eq9) hD1, hS1, hc, hs⟩ hl
theorem pt_Squadron_stationNumber {cc : ByteArray} {nL : Nat} {own : String} {rm : Room} {κ : KX} (hκ : Cx cc nL own rm κ) {pc : Nat} {lv : List (Nat × Value)} {st : List Value} {S : wPS} {k n : Nat} {a idx : Nat} {ref : String} {v : Int32} (hO : a ∈ sL S ∧ sK S a = 6) (hlink : Cond.fieldLink own idx ref "stationNumber" "I" ∈ GA) (hsm : ref = "Plotroom$Squadron" ∨ Cond.sameField ref "Plotroom$Squadron" "stationNumber" "I" ∈ GA)  (hin : Nm "<init>" κ) (hde : "Plotroom$Squadron" = own) (hdg : decode cc pc = .ok (.putfield idx, 3)) (kk : Gj κ (PV κ (putI S 33 a v) k n) (pc + 3) lv st) : Gj κ (PV κ S k n) pc lv (.int v :: .ref a :: st) := by
  obtain ⟨p, l, e, R, s, m, args, below, meth, c, Q, D, cO, e0, A, mc, ms⟩ := κ
  obtain ⟨hx, hb, hml, hown, hts, hK, hG, hR, hlk9⟩ := hκ
  intro H locs cells slots ls hF hl
  obtain ⟨hP, hD, hS, hc, hs⟩ := hF
  obtain ⟨k0, hk0, hk1⟩ := wG_Squadron cO S hO
  have eq9 := wU_Squadron_stationNumber cO S hD hO hk0 v
  have h1 : vwCl[7]? = some (RX7, TX7, 13) := rfl
  have h2 : ∀ x, s.fieldFound? (TX7 2).1 (TX7 2).2.1 (TX7 2).2.2.1 = some x → s.fieldFound? ref (TX7 2).2.1 (TX7 2).2.2.1 = some x := fun x9 h9 => hsm.elim (fun z => by rw [z]; exact h9) (fun z => u_same (hts _ z) x9 h9)
  have h3 : (Cond.fieldLink own idx ref (TX7 2).2.1 (TX7 2).2.2.1).before args s = true := hts _ hlink
  have h4 : ∀ w ∈ u_ws RX7 TX7 13, w ∈ GA := inlX7
  have h5 : parseFieldDescriptor (TX7 2).2.2.1 = some (.int) := tyX7_ok 2 (by decide)
  have h6 : narrow (.int) (.int v) = .int v := rfl
  have h7 : fits (.int) (.int v) = true := rfl
  refine va_putF (D := D) (ci := 7) (v := .int v) (ty := .int) (C := RX7) (T := TX7) (N := 13) hx hb hts h4 tyX7 tyX7_ok nmX7 hown hK hP hD hS k0 hk1 h1 2 (by decide) h3 h2 rfl hin hde h5 h6 h7 (Nat.le_of_ble_eq_true rfl) hdg (fun H1 locs1 hP1 hD1 hS1 => ?_)
  exact kk H1 locs1 cells slots ls ⟨Eq.mp (congrArg (fun z => va_P D vwCl z H1) eq9) hP1, Eq.mp (congrArg (fun z => va_D A z) eq9) hD1, hS1, hc, hs⟩ hl
theorem pt_Squadron_base {cc : ByteArray} {nL : Nat} {own : String} {rm : Room} {κ : KX} (hκ : Cx cc nL own rm κ) {pc : Nat} {lv : List (Nat × Value)} {st : List Value} {S : wPS} {k n : Nat} {a idx : Nat} {ref : String} {v : Option Nat} (hO : a ∈ sL S ∧ sK S a = 6) (hlink : Cond.fieldLink own idx ref "base" "LPlotroom$Place;" ∈ GA) (hsm : ref = "Plotroom$Squadron" ∨ Cond.sameField ref "Plotroom$Squadron" "base" "LPlotroom$Place;" ∈ GA)  (hin : Nm "<init>" κ) (hde : "Plotroom$Squadron" = own) (hdg : decode cc pc = .ok (.putfield idx, 3)) (kk : Gj κ (PV κ (putR S 1 a v) k n) (pc + 3) lv st) : Gj κ (PV κ S k n) pc lv (va_rf v :: .ref a :: st) := by
  obtain ⟨p, l, e, R, s, m, args, below, meth, c, Q, D, cO, e0, A, mc, ms⟩ := κ
  obtain ⟨hx, hb, hml, hown, hts, hK, hG, hR, hlk9⟩ := hκ
  intro H locs cells slots ls hF hl
  obtain ⟨hP, hD, hS, hc, hs⟩ := hF
  obtain ⟨k0, hk0, hk1⟩ := wG_Squadron cO S hO
  have eq9 := wU_Squadron_base cO S hD hO hk0 v
  have h1 : vwCl[7]? = some (RX7, TX7, 13) := rfl
  have h2 : ∀ x, s.fieldFound? (TX7 3).1 (TX7 3).2.1 (TX7 3).2.2.1 = some x → s.fieldFound? ref (TX7 3).2.1 (TX7 3).2.2.1 = some x := fun x9 h9 => hsm.elim (fun z => by rw [z]; exact h9) (fun z => u_same (hts _ z) x9 h9)
  have h3 : (Cond.fieldLink own idx ref (TX7 3).2.1 (TX7 3).2.2.1).before args s = true := hts _ hlink
  have h4 : ∀ w ∈ u_ws RX7 TX7 13, w ∈ GA := inlX7
  have h5 : parseFieldDescriptor (TX7 3).2.2.1 = some (.object "Plotroom$Place") := tyX7_ok 3 (by decide)
  have h6 : narrow (.object "Plotroom$Place") (va_rf v) = va_rf v := by cases v <;> rfl
  have h7 : fits (.object "Plotroom$Place") (va_rf v) = true := by cases v <;> rfl
  refine va_putF (D := D) (ci := 7) (v := va_rf v) (ty := .object "Plotroom$Place") (C := RX7) (T := TX7) (N := 13) hx hb hts h4 tyX7 tyX7_ok nmX7 hown hK hP hD hS k0 hk1 h1 3 (by decide) h3 h2 rfl hin hde h5 h6 h7 (Nat.le_of_ble_eq_true rfl) hdg (fun H1 locs1 hP1 hD1 hS1 => ?_)
  exact kk H1 locs1 cells slots ls ⟨Eq.mp (congrArg (fun z => va_P D vwCl z H1) eq9) hP1, Eq.mp (congrArg (fun z => va_D A z) eq9) hD1, hS1, hc, hs⟩ hl
theorem pt_Squadron_speed {cc : ByteArray} {nL : Nat} {own : String} {rm : Room} {κ : KX} (hκ : Cx cc nL own rm κ) {pc : Nat} {lv : List (Nat × Value)} {st : List Value} {S : wPS} {k n : Nat} {a idx : Nat} {ref : String} {v : Int32} (hO : a ∈ sL S ∧ sK S a = 6) (hlink : Cond.fieldLink own idx ref "speed" "I" ∈ GA) (hsm : ref = "Plotroom$Squadron" ∨ Cond.sameField ref "Plotroom$Squadron" "speed" "I" ∈ GA)  (hin : Nm "<init>" κ) (hde : "Plotroom$Squadron" = own) (hdg : decode cc pc = .ok (.putfield idx, 3)) (kk : Gj κ (PV κ (putI S 34 a v) k n) (pc + 3) lv st) : Gj κ (PV κ S k n) pc lv (.int v :: .ref a :: st) := by
  obtain ⟨p, l, e, R, s, m, args, below, meth, c, Q, D, cO, e0, A, mc, ms⟩ := κ
  obtain ⟨hx, hb, hml, hown, hts, hK, hG, hR, hlk9⟩ := hκ
  intro H locs cells slots ls hF hl
  obtain ⟨hP, hD, hS, hc, hs⟩ := hF
  obtain ⟨k0, hk0, hk1⟩ := wG_Squadron cO S hO
  have eq9 := wU_Squadron_speed cO S hD hO hk0 v
  have h1 : vwCl[7]? = some (RX7, TX7, 13) := rfl
  have h2 : ∀ x, s.fieldFound? (TX7 4).1 (TX7 4).2.1 (TX7 4).2.2.1 = some x → s.fieldFound? ref (TX7 4).2.1 (TX7 4).2.2.1 = some x := fun x9 h9 => hsm.elim (fun z => by rw [z]; exact h9) (fun z => u_same (hts _ z) x9 h9)
  have h3 : (Cond.fieldLink own idx ref (TX7 4).2.1 (TX7 4).2.2.1).before args s = true := hts _ hlink
  have h4 : ∀ w ∈ u_ws RX7 TX7 13, w ∈ GA := inlX7
  have h5 : parseFieldDescriptor (TX7 4).2.2.1 = some (.int) := tyX7_ok 4 (by decide)
  have h6 : narrow (.int) (.int v) = .int v := rfl
  have h7 : fits (.int) (.int v) = true := rfl
  refine va_putF (D := D) (ci := 7) (v := .int v) (ty := .int) (C := RX7) (T := TX7) (N := 13) hx hb hts h4 tyX7 tyX7_ok nmX7 hown hK hP hD hS k0 hk1 h1 4 (by decide) h3 h2 rfl hin hde h5 h6 h7 (Nat.le_of_ble_eq_true rfl) hdg (fun H1 locs1 hP1 hD1 hS1 => ?_)
  exact kk H1 locs1 cells slots ls ⟨Eq.mp (congrArg (fun z => va_P D vwCl z H1) eq9) hP1, Eq.mp (congrArg (fun z => va_D A z) eq9) hD1, hS1, hc, hs⟩ hl
theorem pt_Squadron_tank {cc : ByteArray} {nL : Nat} {own : String} {rm : Room} {κ : KX} (hκ : Cx cc nL own rm κ) {pc : Nat} {lv : List (Nat × Value)} {st : List Value} {S : wPS} {k n : Nat} {a idx : Nat} {ref : String} {v : Int32} (hO : a ∈ sL S ∧ sK S a = 6) (hlink : Cond.fieldLink own idx ref "tank" "I" ∈ GA) (hsm : ref = "Plotroom$Squadron" ∨ Cond.sameField ref "Plotroom$Squadron" "tank" "I" ∈ GA)  (hin : Nm "<init>" κ) (hde : "Plotroom$Squadron" = own) (hdg : decode cc pc = .ok (.putfield idx, 3)) (kk : Gj κ (PV κ (putI S 35 a v) k n) (pc + 3) lv st) : Gj κ (PV κ S k n) pc lv (.int v :: .ref a :: st) := by
  obtain ⟨p, l, e, R, s, m, args, below, meth, c, Q, D, cO, e0, A, mc, ms⟩ := κ
  obtain ⟨hx, hb, hml, hown, hts, hK, hG, hR, hlk9⟩ := hκ
  intro H locs cells slots ls hF hl
  obtain ⟨hP, hD, hS, hc, hs⟩ := hF
  obtain ⟨k0, hk0, hk1⟩ := wG_Squadron cO S hO
  have eq9 := wU_Squadron_tank cO S hD hO hk0 v
  have h1 : vwCl[7]? = some (RX7, TX7, 13) := rfl
  have h2 : ∀ x, s.fieldFound? (TX7 5).1 (TX7 5).2.1 (TX7 5).2.2.1 = some x → s.fieldFound? ref (TX7 5).2.1 (TX7 5).2.2.1 = some x := fun x9 h9 => hsm.elim (fun z => by rw [z]; exact h9) (fun z => u_same (hts _ z) x9 h9)
  have h3 : (Cond.fieldLink own idx ref (TX7 5).2.1 (TX7 5).2.2.1).before args s = true := hts _ hlink
  have h4 : ∀ w ∈ u_ws RX7 TX7 13, w ∈ GA := inlX7
  have h5 : parseFieldDescriptor (TX7 5).2.2.1 = some (.int) := tyX7_ok 5 (by decide)
  have h6 : narrow (.int) (.int v) = .int v := rfl
  have h7 : fits (.int) (.int v) = true := rfl
  refine va_putF (D := D) (ci := 7) (v := .int v) (ty := .int) (C := RX7) (T := TX7) (N := 13) hx hb hts h4 tyX7 tyX7_ok nmX7 hown hK hP hD hS k0 hk1 h1 5 (by decide) h3 h2 rfl hin hde h5 h6 h7 (Nat.le_of_ble_eq_true rfl) hdg (fun H1 locs1 hP1 hD1 hS1 => ?_)
  exact kk H1 locs1 cells slots ls ⟨Eq.mp (congrArg (fun z => va_P D vwCl z H1) eq9) hP1, Eq.mp (congrArg (fun z => va_D A z) eq9) hD1, hS1, hc, hs⟩ hl
theorem pt_Squadron_ready {cc : ByteArray} {nL : Nat} {own : String} {rm : Room} {κ : KX} (hκ : Cx cc nL own rm κ) {pc : Nat} {lv : List (Nat × Value)} {st : List Value} {S : wPS} {k n : Nat} {a idx : Nat} {ref : String} {v : Int32} (hO : a ∈ sL S ∧ sK S a = 6) (hlink : Cond.fieldLink own idx ref "ready" "I" ∈ GA) (hsm : ref = "Plotroom$Squadron" ∨ Cond.sameField ref "Plotroom$Squadron" "ready" "I" ∈ GA)  (hin : Nm "<init>" κ) (hde : "Plotroom$Squadron" = own) (hdg : decode cc pc = .ok (.putfield idx, 3)) (kk : Gj κ (PV κ (putI S 36 a v) k n) (pc + 3) lv st) : Gj κ (PV κ S k n) pc lv (.int v :: .ref a :: st) := by
  obtain ⟨p, l, e, R, s, m, args, below, meth, c, Q, D, cO, e0, A, mc, ms⟩ := κ
  obtain ⟨hx, hb, hml, hown, hts, hK, hG, hR, hlk9⟩ := hκ
  intro H locs cells slots ls hF hl
  obtain ⟨hP, hD, hS, hc, hs⟩ := hF
  obtain ⟨k0, hk0, hk1⟩ := wG_Squadron cO S hO
  have eq9 := wU_Squadron_ready cO S hD hO hk0 v
  have h1 : vwCl[7]? = some (RX7, TX7, 13) := rfl
  have h2 : ∀ x, s.fieldFound? (TX7 6).1 (TX7 6).2.1 (TX7 6).2.2.1 = some x → s.fieldFound? ref (TX7 6).2.1 (TX7 6).2.2.1 = some x := fun x9 h9 => hsm.elim (fun z => by rw [z]; exact h9) (fun z => u_same (hts _ z) x9 h9)
  have h3 : (Cond.fieldLink own idx ref (TX7 6).2.1 (TX7 6).2.2.1).before args s = true := hts _ hlink
  have h4 : ∀ w ∈ u_ws RX7 TX7 13, w ∈ GA := inlX7
  have h5 : parseFieldDescriptor (TX7 6).2.2.1 = some (.int) := tyX7_ok 6 (by decide)
  have h6 : narrow (.int) (.int v) = .int v := rfl
  have h7 : fits (.int) (.int v) = true := rfl
  refine va_putF (D := D) (ci := 7) (v := .int v) (ty := .int) (C := RX7) (T := TX7) (N := 13) hx hb hts h4 tyX7 tyX7_ok nmX7 hown hK hP hD hS k0 hk1 h1 6 (by decide) h3 h2 rfl hin hde h5 h6 h7 (Nat.le_of_ble_eq_true rfl) hdg (fun H1 locs1 hP1 hD1 hS1 => ?_)
  exact kk H1 locs1 cells slots ls ⟨Eq.mp (congrArg (fun z => va_P D vwCl z H1) eq9) hP1, Eq.mp (congrArg (fun z => va_D A z) eq9) hD1, hS1, hc, hs⟩ hl
theorem pt_Squadron_machines {cc : ByteArray} {nL : Nat} {own : String} {rm : Room} {κ : KX} (hκ : Cx cc nL own rm κ) {pc : Nat} {lv : List (Nat × Value)} {st : List Value} {S : wPS} {k n : Nat} {a idx : Nat} {ref : String} {v : Int32} (hO : a ∈ sL S ∧ sK S a = 6) (hlink : Cond.fieldLink own idx ref "machines" "I" ∈ GA) (hsm : ref = "Plotroom$Squadron" ∨ Cond.sameField ref "Plotroom$Squadron" "machines" "I" ∈ GA)   (hdg : decode cc pc = .ok (.putfield idx, 3)) (kk : Gj κ (PV κ (putI S 37 a v) k n) (pc + 3) lv st) : Gj κ (PV κ S k n) pc lv (.int v :: .ref a :: st) := by
  obtain ⟨p, l, e, R, s, m, args, below, meth, c, Q, D, cO, e0, A, mc, ms⟩ := κ
  obtain ⟨hx, hb, hml, hown, hts, hK, hG, hR, hlk9⟩ := hκ
  intro H locs cells slots ls hF hl
  obtain ⟨hP, hD, hS, hc, hs⟩ := hF
  obtain ⟨k0, hk0, hk1⟩ := wG_Squadron cO S hO
  have eq9 := wU_Squadron_machines cO S hD hO hk0 v
  have h1 : vwCl[7]? = some (RX7, TX7, 13) := rfl
  have h2 : ∀ x, s.fieldFound? (TX7 7).1 (TX7 7).2.1 (TX7 7).2.2.1 = some x → s.fieldFound? ref (TX7 7).2.1 (TX7 7).2.2.1 = some x := fun x9 h9 => hsm.elim (fun z => by rw [z]; exact h9) (fun z => u_same (hts _ z) x9 h9)
  have h3 : (Cond.fieldLink own idx ref (TX7 7).2.1 (TX7 7).2.2.1).before args s = true := hts _ hlink
  have h4 : ∀ w ∈ u_ws RX7 TX7 13, w ∈ GA := inlX7
  have h5 : parseFieldDescriptor (TX7 7).2.2.1 = some (.int) := tyX7_ok 7 (by decide)
  have h6 : narrow (.int) (.int v) = .int v := rfl
  have h7 : fits (.int) (.int v) = true := rfl
  refine va_put (D := D) (ci := 7) (v := .int v) (ty := .int) (C := RX7) (T := TX7) (N := 13) hx hb hts h4 tyX7 tyX7_ok nmX7 hown hK hP hD hS k0 hk1 h1 7 (by decide) h3 h2 rfl h5 h6 h7 (Nat.le_of_ble_eq_true rfl) hdg (fun H1 locs1 hP1 hD1 hS1 => ?_)
  exact kk H1 locs1 cells slots ls ⟨Eq.mp (congrArg (fun z => va_P D vwCl z H1) eq9) hP1, Eq.mp (congrArg (fun z => va_D A z) eq9) hD1, hS1, hc, hs⟩ hl
theorem ptN_Squadron_machines {cc : ByteArray} {nL : Nat} {own : String} {rm : Room} {κ : KX} (hκ : Cx cc nL own rm κ) {pc : Nat} {lv : List (Nat × Value)} {st : List Value} {S : wPS} {k n : Nat} {a idx : Nat} {ref host : String} {v : Int32} (hO : a ∈ sL S ∧ sK S a = 6) (hlink : (own, idx, ref, "machines", "I", host) ∈ nestF) (hsm : ref = "Plotroom$Squadron" ∨ Cond.sameField ref "Plotroom$Squadron" "machines" "I" ∈ GA)   (hdg : decode cc pc = .ok (.putfield idx, 3)) (kk : Gj κ (PV κ (putI S 37 a v) k n) (pc + 3) lv st) : Gj κ (PV κ S k n) pc lv (.int v :: .ref a :: st) := by
  obtain ⟨p, l, e, R, s, m, args, below, meth, c, Q, D, cO, e0, A, mc, ms⟩ := κ
  obtain ⟨hx, hb, hml, hown, hts, hK, hG, hR, hlk9⟩ := hκ
  intro H locs cells slots ls hF hl
  obtain ⟨hP, hD, hS, hc, hs⟩ := hF
  obtain ⟨k0, hk0, hk1⟩ := wG_Squadron cO S hO
  have eq9 := wU_Squadron_machines cO S hD hO hk0 v
  have h30 : va_Nw (Cond.fieldLinkNest own idx ref "machines" "I" host) s := hG.nf hlink
  have h31 : (Cond.fieldLinkNest own idx ref "machines" "I" host).onTables = true := rfl
  have h1 : vwCl[7]? = some (RX7, TX7, 13) := rfl
  have h2 : ∀ x, s.fieldFound? (TX7 7).1 (TX7 7).2.1 (TX7 7).2.2.1 = some x → s.fieldFound? ref (TX7 7).2.1 (TX7 7).2.2.1 = some x := fun x9 h9 => hsm.elim (fun z => by rw [z]; exact h9) (fun z => u_same (hts _ z) x9 h9)
  have h3 : (Cond.fieldLinkNest own idx ref (TX7 7).2.1 (TX7 7).2.2.1 host).before args s = true := va_Nw.use h31 h30
  have h4 : ∀ w ∈ u_ws RX7 TX7 13, w ∈ GA := inlX7
  have h5 : parseFieldDescriptor (TX7 7).2.2.1 = some (.int) := tyX7_ok 7 (by decide)
  have h6 : narrow (.int) (.int v) = .int v := rfl
  have h7 : fits (.int) (.int v) = true := rfl
  refine va_putN (D := D) (ci := 7) (v := .int v) (ty := .int) (C := RX7) (T := TX7) (N := 13) hx hb hts h4 tyX7 tyX7_ok nmX7 hown hK hP hD hS k0 hk1 h1 7 (by decide) h3 h2 rfl h5 h6 h7 (Nat.le_of_ble_eq_true rfl) hdg (fun H1 locs1 hP1 hD1 hS1 => ?_)
  exact kk H1 locs1 cells slots ls ⟨Eq.mp (congrArg (fun z => va_P D vwCl z H1) eq9) hP1, Eq.mp (congrArg (fun z => va_D A z) eq9) hD1, hS1, hc, hs⟩ hl
theorem pt_Squadron_state {cc : ByteArray} {nL : Nat} {own : String} {rm : Room} {κ : KX} (hκ : Cx cc nL own rm κ) {pc : Nat} {lv : List (Nat × Value)} {st : List Value} {S : wPS} {k n : Nat} {a idx : Nat} {ref : String} {v : Int32} (hO : a ∈ sL S ∧ sK S a = 6) (hlink : Cond.fieldLink own idx ref "state" "I" ∈ GA) (hsm : ref = "Plotroom$Squadron" ∨ Cond.sameField ref "Plotroom$Squadron" "state" "I" ∈ GA)   (hdg : decode cc pc = .ok (.putfield idx, 3)) (kk : Gj κ (PV κ (putI S 38 a v) k n) (pc + 3) lv st) : Gj κ (PV κ S k n) pc lv (.int v :: .ref a :: st) := by
  obtain ⟨p, l, e, R, s, m, args, below, meth, c, Q, D, cO, e0, A, mc, ms⟩ := κ
  obtain ⟨hx, hb, hml, hown, hts, hK, hG, hR, hlk9⟩ := hκ
  intro H locs cells slots ls hF hl
  obtain ⟨hP, hD, hS, hc, hs⟩ := hF
  obtain ⟨k0, hk0, hk1⟩ := wG_Squadron cO S hO
  have eq9 := wU_Squadron_state cO S hD hO hk0 v
  have h1 : vwCl[7]? = some (RX7, TX7, 13) := rfl
  have h2 : ∀ x, s.fieldFound? (TX7 8).1 (TX7 8).2.1 (TX7 8).2.2.1 = some x → s.fieldFound? ref (TX7 8).2.1 (TX7 8).2.2.1 = some x := fun x9 h9 => hsm.elim (fun z => by rw [z]; exact h9) (fun z => u_same (hts _ z) x9 h9)
  have h3 : (Cond.fieldLink own idx ref (TX7 8).2.1 (TX7 8).2.2.1).before args s = true := hts _ hlink
  have h4 : ∀ w ∈ u_ws RX7 TX7 13, w ∈ GA := inlX7
  have h5 : parseFieldDescriptor (TX7 8).2.2.1 = some (.int) := tyX7_ok 8 (by decide)
  have h6 : narrow (.int) (.int v) = .int v := rfl
  have h7 : fits (.int) (.int v) = true := rfl
  refine va_put (D := D) (ci := 7) (v := .int v) (ty := .int) (C := RX7) (T := TX7) (N := 13) hx hb hts h4 tyX7 tyX7_ok nmX7 hown hK hP hD hS k0 hk1 h1 8 (by decide) h3 h2 rfl h5 h6 h7 (Nat.le_of_ble_eq_true rfl) hdg (fun H1 locs1 hP1 hD1 hS1 => ?_)
  exact kk H1 locs1 cells slots ls ⟨Eq.mp (congrArg (fun z => va_P D vwCl z H1) eq9) hP1, Eq.mp (congrArg (fun z => va_D A z) eq9) hD1, hS1, hc, hs⟩ hl
theorem pt_Squadron_fuel {cc : ByteArray} {nL : Nat} {own : String} {rm : Room} {κ : KX} (hκ : Cx cc nL own rm κ) {pc : Nat} {lv : List (Nat × Value)} {st : List Value} {S : wPS} {k n : Nat} {a idx : Nat} {ref : String} {v : Int32} (hO : a ∈ sL S ∧ sK S a = 6) (hlink : Cond.fieldLink own idx ref "fuel" "I" ∈ GA) (hsm : ref = "Plotroom$Squadron" ∨ Cond.sameField ref "Plotroom$Squadron" "fuel" "I" ∈ GA)   (hdg : decode cc pc = .ok (.putfield idx, 3)) (kk : Gj κ (PV κ (putI S 39 a v) k n) (pc + 3) lv st) : Gj κ (PV κ S k n) pc lv (.int v :: .ref a :: st) := by
  obtain ⟨p, l, e, R, s, m, args, below, meth, c, Q, D, cO, e0, A, mc, ms⟩ := κ
  obtain ⟨hx, hb, hml, hown, hts, hK, hG, hR, hlk9⟩ := hκ
  intro H locs cells slots ls hF hl
  obtain ⟨hP, hD, hS, hc, hs⟩ := hF
  obtain ⟨k0, hk0, hk1⟩ := wG_Squadron cO S hO
  have eq9 := wU_Squadron_fuel cO S hD hO hk0 v
  have h1 : vwCl[7]? = some (RX7, TX7, 13) := rfl
  have h2 : ∀ x, s.fieldFound? (TX7 9).1 (TX7 9).2.1 (TX7 9).2.2.1 = some x → s.fieldFound? ref (TX7 9).2.1 (TX7 9).2.2.1 = some x := fun x9 h9 => hsm.elim (fun z => by rw [z]; exact h9) (fun z => u_same (hts _ z) x9 h9)
  have h3 : (Cond.fieldLink own idx ref (TX7 9).2.1 (TX7 9).2.2.1).before args s = true := hts _ hlink
  have h4 : ∀ w ∈ u_ws RX7 TX7 13, w ∈ GA := inlX7
  have h5 : parseFieldDescriptor (TX7 9).2.2.1 = some (.int) := tyX7_ok 9 (by decide)
  have h6 : narrow (.int) (.int v) = .int v := rfl
  have h7 : fits (.int) (.int v) = true := rfl
  refine va_put (D := D) (ci := 7) (v := .int v) (ty := .int) (C := RX7) (T := TX7) (N := 13) hx hb hts h4 tyX7 tyX7_ok nmX7 hown hK hP hD hS k0 hk1 h1 9 (by decide) h3 h2 rfl h5 h6 h7 (Nat.le_of_ble_eq_true rfl) hdg (fun H1 locs1 hP1 hD1 hS1 => ?_)
  exact kk H1 locs1 cells slots ls ⟨Eq.mp (congrArg (fun z => va_P D vwCl z H1) eq9) hP1, Eq.mp (congrArg (fun z => va_D A z) eq9) hD1, hS1, hc, hs⟩ hl
theorem ptN_Squadron_fuel {cc : ByteArray} {nL : Nat} {own : String} {rm : Room} {κ : KX} (hκ : Cx cc nL own rm κ) {pc : Nat} {lv : List (Nat × Value)} {st : List Value} {S : wPS} {k n : Nat} {a idx : Nat} {ref host : String} {v : Int32} (hO : a ∈ sL S ∧ sK S a = 6) (hlink : (own, idx, ref, "fuel", "I", host) ∈ nestF) (hsm : ref = "Plotroom$Squadron" ∨ Cond.sameField ref "Plotroom$Squadron" "fuel" "I" ∈ GA)   (hdg : decode cc pc = .ok (.putfield idx, 3)) (kk : Gj κ (PV κ (putI S 39 a v) k n) (pc + 3) lv st) : Gj κ (PV κ S k n) pc lv (.int v :: .ref a :: st) := by
  obtain ⟨p, l, e, R, s, m, args, below, meth, c, Q, D, cO, e0, A, mc, ms⟩ := κ
  obtain ⟨hx, hb, hml, hown, hts, hK, hG, hR, hlk9⟩ := hκ
  intro H locs cells slots ls hF hl
  obtain ⟨hP, hD, hS, hc, hs⟩ := hF
  obtain ⟨k0, hk0, hk1⟩ := wG_Squadron cO S hO
  have eq9 := wU_Squadron_fuel cO S hD hO hk0 v
  have h30 : va_Nw (Cond.fieldLinkNest own idx ref "fuel" "I" host) s := hG.nf hlink
  have h31 : (Cond.fieldLinkNest own idx ref "fuel" "I" host).onTables = true := rfl
  have h1 : vwCl[7]? = some (RX7, TX7, 13) := rfl
  have h2 : ∀ x, s.fieldFound? (TX7 9).1 (TX7 9).2.1 (TX7 9).2.2.1 = some x → s.fieldFound? ref (TX7 9).2.1 (TX7 9).2.2.1 = some x := fun x9 h9 => hsm.elim (fun z => by rw [z]; exact h9) (fun z => u_same (hts _ z) x9 h9)
  have h3 : (Cond.fieldLinkNest own idx ref (TX7 9).2.1 (TX7 9).2.2.1 host).before args s = true := va_Nw.use h31 h30
  have h4 : ∀ w ∈ u_ws RX7 TX7 13, w ∈ GA := inlX7
  have h5 : parseFieldDescriptor (TX7 9).2.2.1 = some (.int) := tyX7_ok 9 (by decide)
  have h6 : narrow (.int) (.int v) = .int v := rfl
  have h7 : fits (.int) (.int v) = true := rfl
  refine va_putN (D := D) (ci := 7) (v := .int v) (ty := .int) (C := RX7) (T := TX7) (N := 13) hx hb hts h4 tyX7 tyX7_ok nmX7 hown hK hP hD hS k0 hk1 h1 9 (by decide) h3 h2 rfl h5 h6 h7 (Nat.le_of_ble_eq_true rfl) hdg (fun H1 locs1 hP1 hD1 hS1 => ?_)
  exact kk H1 locs1 cells slots ls ⟨Eq.mp (congrArg (fun z => va_P D vwCl z H1) eq9) hP1, Eq.mp (congrArg (fun z => va_D A z) eq9) hD1, hS1, hc, hs⟩ hl
theorem pt_Squadron_target {cc : ByteArray} {nL : Nat} {own : String} {rm : Room} {κ : KX} (hκ : Cx cc nL own rm κ) {pc : Nat} {lv : List (Nat × Value)} {st : List Value} {S : wPS} {k n : Nat} {a idx : Nat} {ref : String} {v : Option Nat} (hO : a ∈ sL S ∧ sK S a = 6) (hlink : Cond.fieldLink own idx ref "target" "LPlotroom$Track;" ∈ GA) (hsm : ref = "Plotroom$Squadron" ∨ Cond.sameField ref "Plotroom$Squadron" "target" "LPlotroom$Track;" ∈ GA)   (hdg : decode cc pc = .ok (.putfield idx, 3)) (kk : Gj κ (PV κ (putR S 2 a v) k n) (pc + 3) lv st) : Gj κ (PV κ S k n) pc lv (va_rf v :: .ref a :: st) := by
  obtain ⟨p, l, e, R, s, m, args, below, meth, c, Q, D, cO, e0, A, mc, ms⟩ := κ
  obtain ⟨hx, hb, hml, hown, hts, hK, hG, hR, hlk9⟩ := hκ
  intro H locs cells slots ls hF hl
  obtain ⟨hP, hD, hS, hc, hs⟩ := hF
  obtain ⟨k0, hk0, hk1⟩ := wG_Squadron cO S hO
  have eq9 := wU_Squadron_target cO S hD hO hk0 v
  have h1 : vwCl[7]? = some (RX7, TX7, 13) := rfl
  have h2 : ∀ x, s.fieldFound? (TX7 10).1 (TX7 10).2.1 (TX7 10).2.2.1 = some x → s.fieldFound? ref (TX7 10).2.1 (TX7 10).2.2.1 = some x := fun x9 h9 => hsm.elim (fun z => by rw [z]; exact h9) (fun z => u_same (hts _ z) x9 h9)
  have h3 : (Cond.fieldLink own idx ref (TX7 10).2.1 (TX7 10).2.2.1).before args s = true := hts _ hlink
  have h4 : ∀ w ∈ u_ws RX7 TX7 13, w ∈ GA := inlX7
  have h5 : parseFieldDescriptor (TX7 10).2.2.1 = some (.object "Plotroom$Track") := tyX7_ok 10 (by decide)
  have h6 : narrow (.object "Plotroom$Track") (va_rf v) = va_rf v := by cases v <;> rfl
  have h7 : fits (.object "Plotroom$Track") (va_rf v) = true := by cases v <;> rfl
  refine va_put (D := D) (ci := 7) (v := va_rf v) (ty := .object "Plotroom$Track") (C := RX7) (T := TX7) (N := 13) hx hb hts h4 tyX7 tyX7_ok nmX7 hown hK hP hD hS k0 hk1 h1 10 (by decide) h3 h2 rfl h5 h6 h7 (Nat.le_of_ble_eq_true rfl) hdg (fun H1 locs1 hP1 hD1 hS1 => ?_)
  exact kk H1 locs1 cells slots ls ⟨Eq.mp (congrArg (fun z => va_P D vwCl z H1) eq9) hP1, Eq.mp (congrArg (fun z => va_D A z) eq9) hD1, hS1, hc, hs⟩ hl
theorem ptN_Squadron_target {cc : ByteArray} {nL : Nat} {own : String} {rm : Room} {κ : KX} (hκ : Cx cc nL own rm κ) {pc : Nat} {lv : List (Nat × Value)} {st : List Value} {S : wPS} {k n : Nat} {a idx : Nat} {ref host : String} {v : Option Nat} (hO : a ∈ sL S ∧ sK S a = 6) (hlink : (own, idx, ref, "target", "LPlotroom$Track;", host) ∈ nestF) (hsm : ref = "Plotroom$Squadron" ∨ Cond.sameField ref "Plotroom$Squadron" "target" "LPlotroom$Track;" ∈ GA)   (hdg : decode cc pc = .ok (.putfield idx, 3)) (kk : Gj κ (PV κ (putR S 2 a v) k n) (pc + 3) lv st) : Gj κ (PV κ S k n) pc lv (va_rf v :: .ref a :: st) := by
  obtain ⟨p, l, e, R, s, m, args, below, meth, c, Q, D, cO, e0, A, mc, ms⟩ := κ
  obtain ⟨hx, hb, hml, hown, hts, hK, hG, hR, hlk9⟩ := hκ
  intro H locs cells slots ls hF hl
  obtain ⟨hP, hD, hS, hc, hs⟩ := hF
  obtain ⟨k0, hk0, hk1⟩ := wG_Squadron cO S hO
  have eq9 := wU_Squadron_target cO S hD hO hk0 v
  have h30 : va_Nw (Cond.fieldLinkNest own idx ref "target" "LPlotroom$Track;" host) s := hG.nf hlink
  have h31 : (Cond.fieldLinkNest own idx ref "target" "LPlotroom$Track;" host).onTables = true := rfl
  have h1 : vwCl[7]? = some (RX7, TX7, 13) := rfl
  have h2 : ∀ x, s.fieldFound? (TX7 10).1 (TX7 10).2.1 (TX7 10).2.2.1 = some x → s.fieldFound? ref (TX7 10).2.1 (TX7 10).2.2.1 = some x := fun x9 h9 => hsm.elim (fun z => by rw [z]; exact h9) (fun z => u_same (hts _ z) x9 h9)
  have h3 : (Cond.fieldLinkNest own idx ref (TX7 10).2.1 (TX7 10).2.2.1 host).before args s = true := va_Nw.use h31 h30
  have h4 : ∀ w ∈ u_ws RX7 TX7 13, w ∈ GA := inlX7
  have h5 : parseFieldDescriptor (TX7 10).2.2.1 = some (.object "Plotroom$Track") := tyX7_ok 10 (by decide)
  have h6 : narrow (.object "Plotroom$Track") (va_rf v) = va_rf v := by cases v <;> rfl
  have h7 : fits (.object "Plotroom$Track") (va_rf v) = true := by cases v <;> rfl
  refine va_putN (D := D) (ci := 7) (v := va_rf v) (ty := .object "Plotroom$Track") (C := RX7) (T := TX7) (N := 13) hx hb hts h4 tyX7 tyX7_ok nmX7 hown hK hP hD hS k0 hk1 h1 10 (by decide) h3 h2 rfl h5 h6 h7 (Nat.le_of_ble_eq_true rfl) hdg (fun H1 locs1 hP1 hD1 hS1 => ?_)
  exact kk H1 locs1 cells slots ls ⟨Eq.mp (congrArg (fun z => va_P D vwCl z H1) eq9) hP1, Eq.mp (congrArg (fun z => va_D A z) eq9) hD1, hS1, hc, hs⟩ hl
theorem pt_Squadron_due {cc : ByteArray} {nL : Nat} {own : String} {rm : Room} {κ : KX} (hκ : Cx cc nL own rm κ) {pc : Nat} {lv : List (Nat × Value)} {st : List Value} {S : wPS} {k n : Nat} {a idx : Nat} {ref : String} {v : Int32} (hO : a ∈ sL S ∧ sK S a = 6) (hlink : Cond.fieldLink own idx ref "due" "I" ∈ GA) (hsm : ref = "Plotroom$Squadron" ∨ Cond.sameField ref "Plotroom$Squadron" "due" "I" ∈ GA)   (hdg : decode cc pc = .ok (.putfield idx, 3)) (kk : Gj κ (PV κ (putI S 40 a v) k n) (pc + 3) lv st) : Gj κ (PV κ S k n) pc lv (.int v :: .ref a :: st) := by
  obtain ⟨p, l, e, R, s, m, args, below, meth, c, Q, D, cO, e0, A, mc, ms⟩ := κ
  obtain ⟨hx, hb, hml, hown, hts, hK, hG, hR, hlk9⟩ := hκ
  intro H locs cells slots ls hF hl
  obtain ⟨hP, hD, hS, hc, hs⟩ := hF
  obtain ⟨k0, hk0, hk1⟩ := wG_Squadron cO S hO
  have eq9 := wU_Squadron_due cO S hD hO hk0 v
  have h1 : vwCl[7]? = some (RX7, TX7, 13) := rfl
  have h2 : ∀ x, s.fieldFound? (TX7 11).1 (TX7 11).2.1 (TX7 11).2.2.1 = some x → s.fieldFound? ref (TX7 11).2.1 (TX7 11).2.2.1 = some x := fun x9 h9 => hsm.elim (fun z => by rw [z]; exact h9) (fun z => u_same (hts _ z) x9 h9)
  have h3 : (Cond.fieldLink own idx ref (TX7 11).2.1 (TX7 11).2.2.1).before args s = true := hts _ hlink
  have h4 : ∀ w ∈ u_ws RX7 TX7 13, w ∈ GA := inlX7
  have h5 : parseFieldDescriptor (TX7 11).2.2.1 = some (.int) := tyX7_ok 11 (by decide)
  have h6 : narrow (.int) (.int v) = .int v := rfl
  have h7 : fits (.int) (.int v) = true := rfl
  refine va_put (D := D) (ci := 7) (v := .int v) (ty := .int) (C := RX7) (T := TX7) (N := 13) hx hb hts h4 tyX7 tyX7_ok nmX7 hown hK hP hD hS k0 hk1 h1 11 (by decide) h3 h2 rfl h5 h6 h7 (Nat.le_of_ble_eq_true rfl) hdg (fun H1 locs1 hP1 hD1 hS1 => ?_)
  exact kk H1 locs1 cells slots ls ⟨Eq.mp (congrArg (fun z => va_P D vwCl z H1) eq9) hP1, Eq.mp (congrArg (fun z => va_D A z) eq9) hD1, hS1, hc, hs⟩ hl
theorem ptN_Squadron_won {cc : ByteArray} {nL : Nat} {own : String} {rm : Room} {κ : KX} (hκ : Cx cc nL own rm κ) {pc : Nat} {lv : List (Nat × Value)} {st : List Value} {S : wPS} {k n : Nat} {a idx : Nat} {ref host : String} {v : Int32} (hO : a ∈ sL S ∧ sK S a = 6) (hlink : (own, idx, ref, "won", "I", host) ∈ nestF) (hsm : ref = "Plotroom$Squadron" ∨ Cond.sameField ref "Plotroom$Squadron" "won" "I" ∈ GA)   (hdg : decode cc pc = .ok (.putfield idx, 3)) (kk : Gj κ (PV κ (putI S 41 a v) k n) (pc + 3) lv st) : Gj κ (PV κ S k n) pc lv (.int v :: .ref a :: st) := by
  obtain ⟨p, l, e, R, s, m, args, below, meth, c, Q, D, cO, e0, A, mc, ms⟩ := κ
  obtain ⟨hx, hb, hml, hown, hts, hK, hG, hR, hlk9⟩ := hκ
  intro H locs cells slots ls hF hl
  obtain ⟨hP, hD, hS, hc, hs⟩ := hF
  obtain ⟨k0, hk0, hk1⟩ := wG_Squadron cO S hO
  have eq9 := wU_Squadron_won cO S hD hO hk0 v
  have h30 : va_Nw (Cond.fieldLinkNest own idx ref "won" "I" host) s := hG.nf hlink
  have h31 : (Cond.fieldLinkNest own idx ref "won" "I" host).onTables = true := rfl
  have h1 : vwCl[7]? = some (RX7, TX7, 13) := rfl
  have h2 : ∀ x, s.fieldFound? (TX7 12).1 (TX7 12).2.1 (TX7 12).2.2.1 = some x → s.fieldFound? ref (TX7 12).2.1 (TX7 12).2.2.1 = some x := fun x9 h9 => hsm.elim (fun z => by rw [z]; exact h9) (fun z => u_same (hts _ z) x9 h9)
  have h3 : (Cond.fieldLinkNest own idx ref (TX7 12).2.1 (TX7 12).2.2.1 host).before args s = true := va_Nw.use h31 h30
  have h4 : ∀ w ∈ u_ws RX7 TX7 13, w ∈ GA := inlX7
  have h5 : parseFieldDescriptor (TX7 12).2.2.1 = some (.int) := tyX7_ok 12 (by decide)
  have h6 : narrow (.int) (.int v) = .int v := rfl
  have h7 : fits (.int) (.int v) = true := rfl
  refine va_putN (D := D) (ci := 7) (v := .int v) (ty := .int) (C := RX7) (T := TX7) (N := 13) hx hb hts h4 tyX7 tyX7_ok nmX7 hown hK hP hD hS k0 hk1 h1 12 (by decide) h3 h2 rfl h5 h6 h7 (Nat.le_of_ble_eq_true rfl) hdg (fun H1 locs1 hP1 hD1 hS1 => ?_)
  exact kk H1 locs1 cells slots ls ⟨Eq.mp (congrArg (fun z => va_P D vwCl z H1) eq9) hP1, Eq.mp (congrArg (fun z => va_D A z) eq9) hD1, hS1, hc, hs⟩ hl
theorem ptN_Tally_refused {cc : ByteArray} {nL : Nat} {own : String} {rm : Room} {κ : KX} (hκ : Cx cc nL own rm κ) {pc : Nat} {lv : List (Nat × Value)} {st : List Value} {S : wPS} {k n : Nat} {a idx : Nat} {ref host : String} {v : Int32} (hO : a ∈ sL S ∧ sK S a = 7) (hlink : (own, idx, ref, "refused", "I", host) ∈ nestF) (hsm : ref = "Plotroom$Tally" ∨ Cond.sameField ref "Plotroom$Tally" "refused" "I" ∈ GA)   (hdg : decode cc pc = .ok (.putfield idx, 3)) (kk : Gj κ (PV κ (putI S 42 a v) k n) (pc + 3) lv st) : Gj κ (PV κ S k n) pc lv (.int v :: .ref a :: st) := by
  obtain ⟨p, l, e, R, s, m, args, below, meth, c, Q, D, cO, e0, A, mc, ms⟩ := κ
  obtain ⟨hx, hb, hml, hown, hts, hK, hG, hR, hlk9⟩ := hκ
  intro H locs cells slots ls hF hl
  obtain ⟨hP, hD, hS, hc, hs⟩ := hF
  obtain ⟨k0, hk0, hk1⟩ := wG_Tally cO S hO
  have eq9 := wU_Tally_refused cO S hD hO hk0 v
  have h30 : va_Nw (Cond.fieldLinkNest own idx ref "refused" "I" host) s := hG.nf hlink
  have h31 : (Cond.fieldLinkNest own idx ref "refused" "I" host).onTables = true := rfl
  have h1 : vwCl[8]? = some (RX8, TX8, 8) := rfl
  have h2 : ∀ x, s.fieldFound? (TX8 0).1 (TX8 0).2.1 (TX8 0).2.2.1 = some x → s.fieldFound? ref (TX8 0).2.1 (TX8 0).2.2.1 = some x := fun x9 h9 => hsm.elim (fun z => by rw [z]; exact h9) (fun z => u_same (hts _ z) x9 h9)
  have h3 : (Cond.fieldLinkNest own idx ref (TX8 0).2.1 (TX8 0).2.2.1 host).before args s = true := va_Nw.use h31 h30
  have h4 : ∀ w ∈ u_ws RX8 TX8 8, w ∈ GA := inlX8
  have h5 : parseFieldDescriptor (TX8 0).2.2.1 = some (.int) := tyX8_ok 0 (by decide)
  have h6 : narrow (.int) (.int v) = .int v := rfl
  have h7 : fits (.int) (.int v) = true := rfl
  refine va_putN (D := D) (ci := 8) (v := .int v) (ty := .int) (C := RX8) (T := TX8) (N := 8) hx hb hts h4 tyX8 tyX8_ok nmX8 hown hK hP hD hS k0 hk1 h1 0 (by decide) h3 h2 rfl h5 h6 h7 (Nat.le_of_ble_eq_true rfl) hdg (fun H1 locs1 hP1 hD1 hS1 => ?_)
  exact kk H1 locs1 cells slots ls ⟨Eq.mp (congrArg (fun z => va_P D vwCl z H1) eq9) hP1, Eq.mp (congrArg (fun z => va_D A z) eq9) hD1, hS1, hc, hs⟩ hl
theorem ptN_Tally_plotsWithoutTrack {cc : ByteArray} {nL : Nat} {own : String} {rm : Room} {κ : KX} (hκ : Cx cc nL own rm κ) {pc : Nat} {lv : List (Nat × Value)} {st : List Value} {S : wPS} {k n : Nat} {a idx : Nat} {ref host : String} {v : Int32} (hO : a ∈ sL S ∧ sK S a = 7) (hlink : (own, idx, ref, "plotsWithoutTrack", "I", host) ∈ nestF) (hsm : ref = "Plotroom$Tally" ∨ Cond.sameField ref "Plotroom$Tally" "plotsWithoutTrack" "I" ∈ GA)   (hdg : decode cc pc = .ok (.putfield idx, 3)) (kk : Gj κ (PV κ (putI S 43 a v) k n) (pc + 3) lv st) : Gj κ (PV κ S k n) pc lv (.int v :: .ref a :: st) := by
  obtain ⟨p, l, e, R, s, m, args, below, meth, c, Q, D, cO, e0, A, mc, ms⟩ := κ
  obtain ⟨hx, hb, hml, hown, hts, hK, hG, hR, hlk9⟩ := hκ
  intro H locs cells slots ls hF hl
  obtain ⟨hP, hD, hS, hc, hs⟩ := hF
  obtain ⟨k0, hk0, hk1⟩ := wG_Tally cO S hO
  have eq9 := wU_Tally_plotsWithoutTrack cO S hD hO hk0 v
  have h30 : va_Nw (Cond.fieldLinkNest own idx ref "plotsWithoutTrack" "I" host) s := hG.nf hlink
  have h31 : (Cond.fieldLinkNest own idx ref "plotsWithoutTrack" "I" host).onTables = true := rfl
  have h1 : vwCl[8]? = some (RX8, TX8, 8) := rfl
  have h2 : ∀ x, s.fieldFound? (TX8 1).1 (TX8 1).2.1 (TX8 1).2.2.1 = some x → s.fieldFound? ref (TX8 1).2.1 (TX8 1).2.2.1 = some x := fun x9 h9 => hsm.elim (fun z => by rw [z]; exact h9) (fun z => u_same (hts _ z) x9 h9)
  have h3 : (Cond.fieldLinkNest own idx ref (TX8 1).2.1 (TX8 1).2.2.1 host).before args s = true := va_Nw.use h31 h30
  have h4 : ∀ w ∈ u_ws RX8 TX8 8, w ∈ GA := inlX8
  have h5 : parseFieldDescriptor (TX8 1).2.2.1 = some (.int) := tyX8_ok 1 (by decide)
  have h6 : narrow (.int) (.int v) = .int v := rfl
  have h7 : fits (.int) (.int v) = true := rfl
  refine va_putN (D := D) (ci := 8) (v := .int v) (ty := .int) (C := RX8) (T := TX8) (N := 8) hx hb hts h4 tyX8 tyX8_ok nmX8 hown hK hP hD hS k0 hk1 h1 1 (by decide) h3 h2 rfl h5 h6 h7 (Nat.le_of_ble_eq_true rfl) hdg (fun H1 locs1 hP1 hD1 hS1 => ?_)
  exact kk H1 locs1 cells slots ls ⟨Eq.mp (congrArg (fun z => va_P D vwCl z H1) eq9) hP1, Eq.mp (congrArg (fun z => va_D A z) eq9) hD1, hS1, hc, hs⟩ hl
theorem ptN_Tally_fights {cc : ByteArray} {nL : Nat} {own : String} {rm : Room} {κ : KX} (hκ : Cx cc nL own rm κ) {pc : Nat} {lv : List (Nat × Value)} {st : List Value} {S : wPS} {k n : Nat} {a idx : Nat} {ref host : String} {v : Int32} (hO : a ∈ sL S ∧ sK S a = 7) (hlink : (own, idx, ref, "fights", "I", host) ∈ nestF) (hsm : ref = "Plotroom$Tally" ∨ Cond.sameField ref "Plotroom$Tally" "fights" "I" ∈ GA)   (hdg : decode cc pc = .ok (.putfield idx, 3)) (kk : Gj κ (PV κ (putI S 44 a v) k n) (pc + 3) lv st) : Gj κ (PV κ S k n) pc lv (.int v :: .ref a :: st) := by
  obtain ⟨p, l, e, R, s, m, args, below, meth, c, Q, D, cO, e0, A, mc, ms⟩ := κ
  obtain ⟨hx, hb, hml, hown, hts, hK, hG, hR, hlk9⟩ := hκ
  intro H locs cells slots ls hF hl
  obtain ⟨hP, hD, hS, hc, hs⟩ := hF
  obtain ⟨k0, hk0, hk1⟩ := wG_Tally cO S hO
  have eq9 := wU_Tally_fights cO S hD hO hk0 v
  have h30 : va_Nw (Cond.fieldLinkNest own idx ref "fights" "I" host) s := hG.nf hlink
  have h31 : (Cond.fieldLinkNest own idx ref "fights" "I" host).onTables = true := rfl
  have h1 : vwCl[8]? = some (RX8, TX8, 8) := rfl
  have h2 : ∀ x, s.fieldFound? (TX8 2).1 (TX8 2).2.1 (TX8 2).2.2.1 = some x → s.fieldFound? ref (TX8 2).2.1 (TX8 2).2.2.1 = some x := fun x9 h9 => hsm.elim (fun z => by rw [z]; exact h9) (fun z => u_same (hts _ z) x9 h9)
  have h3 : (Cond.fieldLinkNest own idx ref (TX8 2).2.1 (TX8 2).2.2.1 host).before args s = true := va_Nw.use h31 h30
  have h4 : ∀ w ∈ u_ws RX8 TX8 8, w ∈ GA := inlX8
  have h5 : parseFieldDescriptor (TX8 2).2.2.1 = some (.int) := tyX8_ok 2 (by decide)
  have h6 : narrow (.int) (.int v) = .int v := rfl
  have h7 : fits (.int) (.int v) = true := rfl
  refine va_putN (D := D) (ci := 8) (v := .int v) (ty := .int) (C := RX8) (T := TX8) (N := 8) hx hb hts h4 tyX8 tyX8_ok nmX8 hown hK hP hD hS k0 hk1 h1 2 (by decide) h3 h2 rfl h5 h6 h7 (Nat.le_of_ble_eq_true rfl) hdg (fun H1 locs1 hP1 hD1 hS1 => ?_)
  exact kk H1 locs1 cells slots ls ⟨Eq.mp (congrArg (fun z => va_P D vwCl z H1) eq9) hP1, Eq.mp (congrArg (fun z => va_D A z) eq9) hD1, hS1, hc, hs⟩ hl
theorem ptN_Tally_claims {cc : ByteArray} {nL : Nat} {own : String} {rm : Room} {κ : KX} (hκ : Cx cc nL own rm κ) {pc : Nat} {lv : List (Nat × Value)} {st : List Value} {S : wPS} {k n : Nat} {a idx : Nat} {ref host : String} {v : Int32} (hO : a ∈ sL S ∧ sK S a = 7) (hlink : (own, idx, ref, "claims", "I", host) ∈ nestF) (hsm : ref = "Plotroom$Tally" ∨ Cond.sameField ref "Plotroom$Tally" "claims" "I" ∈ GA)   (hdg : decode cc pc = .ok (.putfield idx, 3)) (kk : Gj κ (PV κ (putI S 45 a v) k n) (pc + 3) lv st) : Gj κ (PV κ S k n) pc lv (.int v :: .ref a :: st) := by
  obtain ⟨p, l, e, R, s, m, args, below, meth, c, Q, D, cO, e0, A, mc, ms⟩ := κ
  obtain ⟨hx, hb, hml, hown, hts, hK, hG, hR, hlk9⟩ := hκ
  intro H locs cells slots ls hF hl
  obtain ⟨hP, hD, hS, hc, hs⟩ := hF
  obtain ⟨k0, hk0, hk1⟩ := wG_Tally cO S hO
  have eq9 := wU_Tally_claims cO S hD hO hk0 v
  have h30 : va_Nw (Cond.fieldLinkNest own idx ref "claims" "I" host) s := hG.nf hlink
  have h31 : (Cond.fieldLinkNest own idx ref "claims" "I" host).onTables = true := rfl
  have h1 : vwCl[8]? = some (RX8, TX8, 8) := rfl
  have h2 : ∀ x, s.fieldFound? (TX8 3).1 (TX8 3).2.1 (TX8 3).2.2.1 = some x → s.fieldFound? ref (TX8 3).2.1 (TX8 3).2.2.1 = some x := fun x9 h9 => hsm.elim (fun z => by rw [z]; exact h9) (fun z => u_same (hts _ z) x9 h9)
  have h3 : (Cond.fieldLinkNest own idx ref (TX8 3).2.1 (TX8 3).2.2.1 host).before args s = true := va_Nw.use h31 h30
  have h4 : ∀ w ∈ u_ws RX8 TX8 8, w ∈ GA := inlX8
  have h5 : parseFieldDescriptor (TX8 3).2.2.1 = some (.int) := tyX8_ok 3 (by decide)
  have h6 : narrow (.int) (.int v) = .int v := rfl
  have h7 : fits (.int) (.int v) = true := rfl
  refine va_putN (D := D) (ci := 8) (v := .int v) (ty := .int) (C := RX8) (T := TX8) (N := 8) hx hb hts h4 tyX8 tyX8_ok nmX8 hown hK hP hD hS k0 hk1 h1 3 (by decide) h3 h2 rfl h5 h6 h7 (Nat.le_of_ble_eq_true rfl) hdg (fun H1 locs1 hP1 hD1 hS1 => ?_)
  exact kk H1 locs1 cells slots ls ⟨Eq.mp (congrArg (fun z => va_P D vwCl z H1) eq9) hP1, Eq.mp (congrArg (fun z => va_D A z) eq9) hD1, hS1, hc, hs⟩ hl
theorem ptN_Tally_machinesLost {cc : ByteArray} {nL : Nat} {own : String} {rm : Room} {κ : KX} (hκ : Cx cc nL own rm κ) {pc : Nat} {lv : List (Nat × Value)} {st : List Value} {S : wPS} {k n : Nat} {a idx : Nat} {ref host : String} {v : Int32} (hO : a ∈ sL S ∧ sK S a = 7) (hlink : (own, idx, ref, "machinesLost", "I", host) ∈ nestF) (hsm : ref = "Plotroom$Tally" ∨ Cond.sameField ref "Plotroom$Tally" "machinesLost" "I" ∈ GA)   (hdg : decode cc pc = .ok (.putfield idx, 3)) (kk : Gj κ (PV κ (putI S 46 a v) k n) (pc + 3) lv st) : Gj κ (PV κ S k n) pc lv (.int v :: .ref a :: st) := by
  obtain ⟨p, l, e, R, s, m, args, below, meth, c, Q, D, cO, e0, A, mc, ms⟩ := κ
  obtain ⟨hx, hb, hml, hown, hts, hK, hG, hR, hlk9⟩ := hκ
  intro H locs cells slots ls hF hl
  obtain ⟨hP, hD, hS, hc, hs⟩ := hF
  obtain ⟨k0, hk0, hk1⟩ := wG_Tally cO S hO
  have eq9 := wU_Tally_machinesLost cO S hD hO hk0 v
  have h30 : va_Nw (Cond.fieldLinkNest own idx ref "machinesLost" "I" host) s := hG.nf hlink
  have h31 : (Cond.fieldLinkNest own idx ref "machinesLost" "I" host).onTables = true := rfl
  have h1 : vwCl[8]? = some (RX8, TX8, 8) := rfl
  have h2 : ∀ x, s.fieldFound? (TX8 4).1 (TX8 4).2.1 (TX8 4).2.2.1 = some x → s.fieldFound? ref (TX8 4).2.1 (TX8 4).2.2.1 = some x := fun x9 h9 => hsm.elim (fun z => by rw [z]; exact h9) (fun z => u_same (hts _ z) x9 h9)
  have h3 : (Cond.fieldLinkNest own idx ref (TX8 4).2.1 (TX8 4).2.2.1 host).before args s = true := va_Nw.use h31 h30
  have h4 : ∀ w ∈ u_ws RX8 TX8 8, w ∈ GA := inlX8
  have h5 : parseFieldDescriptor (TX8 4).2.2.1 = some (.int) := tyX8_ok 4 (by decide)
  have h6 : narrow (.int) (.int v) = .int v := rfl
  have h7 : fits (.int) (.int v) = true := rfl
  refine va_putN (D := D) (ci := 8) (v := .int v) (ty := .int) (C := RX8) (T := TX8) (N := 8) hx hb hts h4 tyX8 tyX8_ok nmX8 hown hK hP hD hS k0 hk1 h1 4 (by decide) h3 h2 rfl h5 h6 h7 (Nat.le_of_ble_eq_true rfl) hdg (fun H1 locs1 hP1 hD1 hS1 => ?_)
  exact kk H1 locs1 cells slots ls ⟨Eq.mp (congrArg (fun z => va_P D vwCl z H1) eq9) hP1, Eq.mp (congrArg (fun z => va_D A z) eq9) hD1, hS1, hc, hs⟩ hl
theorem ptN_Tally_shames {cc : ByteArray} {nL : Nat} {own : String} {rm : Room} {κ : KX} (hκ : Cx cc nL own rm κ) {pc : Nat} {lv : List (Nat × Value)} {st : List Value} {S : wPS} {k n : Nat} {a idx : Nat} {ref host : String} {v : Int32} (hO : a ∈ sL S ∧ sK S a = 7) (hlink : (own, idx, ref, "shames", "I", host) ∈ nestF) (hsm : ref = "Plotroom$Tally" ∨ Cond.sameField ref "Plotroom$Tally" "shames" "I" ∈ GA)   (hdg : decode cc pc = .ok (.putfield idx, 3)) (kk : Gj κ (PV κ (putI S 47 a v) k n) (pc + 3) lv st) : Gj κ (PV κ S k n) pc lv (.int v :: .ref a :: st) := by
  obtain ⟨p, l, e, R, s, m, args, below, meth, c, Q, D, cO, e0, A, mc, ms⟩ := κ
  obtain ⟨hx, hb, hml, hown, hts, hK, hG, hR, hlk9⟩ := hκ
  intro H locs cells slots ls hF hl
  obtain ⟨hP, hD, hS, hc, hs⟩ := hF
  obtain ⟨k0, hk0, hk1⟩ := wG_Tally cO S hO
  have eq9 := wU_Tally_shames cO S hD hO hk0 v
  have h30 : va_Nw (Cond.fieldLinkNest own idx ref "shames" "I" host) s := hG.nf hlink
  have h31 : (Cond.fieldLinkNest own idx ref "shames" "I" host).onTables = true := rfl
  have h1 : vwCl[8]? = some (RX8, TX8, 8) := rfl
  have h2 : ∀ x, s.fieldFound? (TX8 5).1 (TX8 5).2.1 (TX8 5).2.2.1 = some x → s.fieldFound? ref (TX8 5).2.1 (TX8 5).2.2.1 = some x := fun x9 h9 => hsm.elim (fun z => by rw [z]; exact h9) (fun z => u_same (hts _ z) x9 h9)
  have h3 : (Cond.fieldLinkNest own idx ref (TX8 5).2.1 (TX8 5).2.2.1 host).before args s = true := va_Nw.use h31 h30
  have h4 : ∀ w ∈ u_ws RX8 TX8 8, w ∈ GA := inlX8
  have h5 : parseFieldDescriptor (TX8 5).2.2.1 = some (.int) := tyX8_ok 5 (by decide)
  have h6 : narrow (.int) (.int v) = .int v := rfl
  have h7 : fits (.int) (.int v) = true := rfl
  refine va_putN (D := D) (ci := 8) (v := .int v) (ty := .int) (C := RX8) (T := TX8) (N := 8) hx hb hts h4 tyX8 tyX8_ok nmX8 hown hK hP hD hS k0 hk1 h1 5 (by decide) h3 h2 rfl h5 h6 h7 (Nat.le_of_ble_eq_true rfl) hdg (fun H1 locs1 hP1 hD1 hS1 => ?_)
  exact kk H1 locs1 cells slots ls ⟨Eq.mp (congrArg (fun z => va_P D vwCl z H1) eq9) hP1, Eq.mp (congrArg (fun z => va_D A z) eq9) hD1, hS1, hc, hs⟩ hl
theorem ptN_Tally_work {cc : ByteArray} {nL : Nat} {own : String} {rm : Room} {κ : KX} (hκ : Cx cc nL own rm κ) {pc : Nat} {lv : List (Nat × Value)} {st : List Value} {S : wPS} {k n : Nat} {a idx : Nat} {ref host : String} {v : Int32} (hO : a ∈ sL S ∧ sK S a = 7) (hlink : (own, idx, ref, "work", "I", host) ∈ nestF) (hsm : ref = "Plotroom$Tally" ∨ Cond.sameField ref "Plotroom$Tally" "work" "I" ∈ GA)   (hdg : decode cc pc = .ok (.putfield idx, 3)) (kk : Gj κ (PV κ (putI S 48 a v) k n) (pc + 3) lv st) : Gj κ (PV κ S k n) pc lv (.int v :: .ref a :: st) := by
  obtain ⟨p, l, e, R, s, m, args, below, meth, c, Q, D, cO, e0, A, mc, ms⟩ := κ
  obtain ⟨hx, hb, hml, hown, hts, hK, hG, hR, hlk9⟩ := hκ
  intro H locs cells slots ls hF hl
  obtain ⟨hP, hD, hS, hc, hs⟩ := hF
  obtain ⟨k0, hk0, hk1⟩ := wG_Tally cO S hO
  have eq9 := wU_Tally_work cO S hD hO hk0 v
  have h30 : va_Nw (Cond.fieldLinkNest own idx ref "work" "I" host) s := hG.nf hlink
  have h31 : (Cond.fieldLinkNest own idx ref "work" "I" host).onTables = true := rfl
  have h1 : vwCl[8]? = some (RX8, TX8, 8) := rfl
  have h2 : ∀ x, s.fieldFound? (TX8 6).1 (TX8 6).2.1 (TX8 6).2.2.1 = some x → s.fieldFound? ref (TX8 6).2.1 (TX8 6).2.2.1 = some x := fun x9 h9 => hsm.elim (fun z => by rw [z]; exact h9) (fun z => u_same (hts _ z) x9 h9)
  have h3 : (Cond.fieldLinkNest own idx ref (TX8 6).2.1 (TX8 6).2.2.1 host).before args s = true := va_Nw.use h31 h30
  have h4 : ∀ w ∈ u_ws RX8 TX8 8, w ∈ GA := inlX8
  have h5 : parseFieldDescriptor (TX8 6).2.2.1 = some (.int) := tyX8_ok 6 (by decide)
  have h6 : narrow (.int) (.int v) = .int v := rfl
  have h7 : fits (.int) (.int v) = true := rfl
  refine va_putN (D := D) (ci := 8) (v := .int v) (ty := .int) (C := RX8) (T := TX8) (N := 8) hx hb hts h4 tyX8 tyX8_ok nmX8 hown hK hP hD hS k0 hk1 h1 6 (by decide) h3 h2 rfl h5 h6 h7 (Nat.le_of_ble_eq_true rfl) hdg (fun H1 locs1 hP1 hD1 hS1 => ?_)
  exact kk H1 locs1 cells slots ls ⟨Eq.mp (congrArg (fun z => va_P D vwCl z H1) eq9) hP1, Eq.mp (congrArg (fun z => va_D A z) eq9) hD1, hS1, hc, hs⟩ hl
theorem ptN_Tally_lives {cc : ByteArray} {nL : Nat} {own : String} {rm : Room} {κ : KX} (hκ : Cx cc nL own rm κ) {pc : Nat} {lv : List (Nat × Value)} {st : List Value} {S : wPS} {k n : Nat} {a idx : Nat} {ref host : String} {v : Int32} (hO : a ∈ sL S ∧ sK S a = 7) (hlink : (own, idx, ref, "lives", "I", host) ∈ nestF) (hsm : ref = "Plotroom$Tally" ∨ Cond.sameField ref "Plotroom$Tally" "lives" "I" ∈ GA)   (hdg : decode cc pc = .ok (.putfield idx, 3)) (kk : Gj κ (PV κ (putI S 49 a v) k n) (pc + 3) lv st) : Gj κ (PV κ S k n) pc lv (.int v :: .ref a :: st) := by
  obtain ⟨p, l, e, R, s, m, args, below, meth, c, Q, D, cO, e0, A, mc, ms⟩ := κ
  obtain ⟨hx, hb, hml, hown, hts, hK, hG, hR, hlk9⟩ := hκ
  intro H locs cells slots ls hF hl
  obtain ⟨hP, hD, hS, hc, hs⟩ := hF
  obtain ⟨k0, hk0, hk1⟩ := wG_Tally cO S hO
  have eq9 := wU_Tally_lives cO S hD hO hk0 v
  have h30 : va_Nw (Cond.fieldLinkNest own idx ref "lives" "I" host) s := hG.nf hlink
  have h31 : (Cond.fieldLinkNest own idx ref "lives" "I" host).onTables = true := rfl
  have h1 : vwCl[8]? = some (RX8, TX8, 8) := rfl
  have h2 : ∀ x, s.fieldFound? (TX8 7).1 (TX8 7).2.1 (TX8 7).2.2.1 = some x → s.fieldFound? ref (TX8 7).2.1 (TX8 7).2.2.1 = some x := fun x9 h9 => hsm.elim (fun z => by rw [z]; exact h9) (fun z => u_same (hts _ z) x9 h9)
  have h3 : (Cond.fieldLinkNest own idx ref (TX8 7).2.1 (TX8 7).2.2.1 host).before args s = true := va_Nw.use h31 h30
  have h4 : ∀ w ∈ u_ws RX8 TX8 8, w ∈ GA := inlX8
  have h5 : parseFieldDescriptor (TX8 7).2.2.1 = some (.int) := tyX8_ok 7 (by decide)
  have h6 : narrow (.int) (.int v) = .int v := rfl
  have h7 : fits (.int) (.int v) = true := rfl
  refine va_putN (D := D) (ci := 8) (v := .int v) (ty := .int) (C := RX8) (T := TX8) (N := 8) hx hb hts h4 tyX8 tyX8_ok nmX8 hown hK hP hD hS k0 hk1 h1 7 (by decide) h3 h2 rfl h5 h6 h7 (Nat.le_of_ble_eq_true rfl) hdg (fun H1 locs1 hP1 hD1 hS1 => ?_)
  exact kk H1 locs1 cells slots ls ⟨Eq.mp (congrArg (fun z => va_P D vwCl z H1) eq9) hP1, Eq.mp (congrArg (fun z => va_D A z) eq9) hD1, hS1, hc, hs⟩ hl
theorem pt_Town_x {cc : ByteArray} {nL : Nat} {own : String} {rm : Room} {κ : KX} (hκ : Cx cc nL own rm κ) {pc : Nat} {lv : List (Nat × Value)} {st : List Value} {S : wPS} {k n : Nat} {a idx : Nat} {ref : String} {v : Int32} (hO : a ∈ sL S ∧ sK S a = 8) (hlink : Cond.fieldLink own idx ref "x" "I" ∈ GA) (hsm : ref = "Plotroom$Place" ∨ Cond.sameField ref "Plotroom$Place" "x" "I" ∈ GA)   (hdg : decode cc pc = .ok (.putfield idx, 3)) (kk : Gj κ (PV κ (putI S 50 a v) k n) (pc + 3) lv st) : Gj κ (PV κ S k n) pc lv (.int v :: .ref a :: st) := by
  obtain ⟨p, l, e, R, s, m, args, below, meth, c, Q, D, cO, e0, A, mc, ms⟩ := κ
  obtain ⟨hx, hb, hml, hown, hts, hK, hG, hR, hlk9⟩ := hκ
  intro H locs cells slots ls hF hl
  obtain ⟨hP, hD, hS, hc, hs⟩ := hF
  obtain ⟨k0, hk0, hk1⟩ := wG_Town cO S hO
  have eq9 := wU_Town_x cO S hD hO hk0 v
  have h1 : vwCl[9]? = some (RX9, TX9, 3) := rfl
  have h2 : ∀ x, s.fieldFound? (TX9 0).1 (TX9 0).2.1 (TX9 0).2.2.1 = some x → s.fieldFound? ref (TX9 0).2.1 (TX9 0).2.2.1 = some x := fun x9 h9 => hsm.elim (fun z => by rw [z]; exact h9) (fun z => u_same (hts _ z) x9 h9)
  have h3 : (Cond.fieldLink own idx ref (TX9 0).2.1 (TX9 0).2.2.1).before args s = true := hts _ hlink
  have h4 : ∀ w ∈ u_ws RX9 TX9 3, w ∈ GA := inlX9
  have h5 : parseFieldDescriptor (TX9 0).2.2.1 = some (.int) := tyX9_ok 0 (by decide)
  have h6 : narrow (.int) (.int v) = .int v := rfl
  have h7 : fits (.int) (.int v) = true := rfl
  refine va_put (D := D) (ci := 9) (v := .int v) (ty := .int) (C := RX9) (T := TX9) (N := 3) hx hb hts h4 tyX9 tyX9_ok nmX9 hown hK hP hD hS k0 hk1 h1 0 (by decide) h3 h2 rfl h5 h6 h7 (Nat.le_of_ble_eq_true rfl) hdg (fun H1 locs1 hP1 hD1 hS1 => ?_)
  exact kk H1 locs1 cells slots ls ⟨Eq.mp (congrArg (fun z => va_P D vwCl z H1) eq9) hP1, Eq.mp (congrArg (fun z => va_D A z) eq9) hD1, hS1, hc, hs⟩ hl
theorem pt_Town_y {cc : ByteArray} {nL : Nat} {own : String} {rm : Room} {κ : KX} (hκ : Cx cc nL own rm κ) {pc : Nat} {lv : List (Nat × Value)} {st : List Value} {S : wPS} {k n : Nat} {a idx : Nat} {ref : String} {v : Int32} (hO : a ∈ sL S ∧ sK S a = 8) (hlink : Cond.fieldLink own idx ref "y" "I" ∈ GA) (hsm : ref = "Plotroom$Place" ∨ Cond.sameField ref "Plotroom$Place" "y" "I" ∈ GA)   (hdg : decode cc pc = .ok (.putfield idx, 3)) (kk : Gj κ (PV κ (putI S 51 a v) k n) (pc + 3) lv st) : Gj κ (PV κ S k n) pc lv (.int v :: .ref a :: st) := by
  obtain ⟨p, l, e, R, s, m, args, below, meth, c, Q, D, cO, e0, A, mc, ms⟩ := κ
  obtain ⟨hx, hb, hml, hown, hts, hK, hG, hR, hlk9⟩ := hκ
  intro H locs cells slots ls hF hl
  obtain ⟨hP, hD, hS, hc, hs⟩ := hF
  obtain ⟨k0, hk0, hk1⟩ := wG_Town cO S hO
  have eq9 := wU_Town_y cO S hD hO hk0 v
  have h1 : vwCl[9]? = some (RX9, TX9, 3) := rfl
  have h2 : ∀ x, s.fieldFound? (TX9 1).1 (TX9 1).2.1 (TX9 1).2.2.1 = some x → s.fieldFound? ref (TX9 1).2.1 (TX9 1).2.2.1 = some x := fun x9 h9 => hsm.elim (fun z => by rw [z]; exact h9) (fun z => u_same (hts _ z) x9 h9)
  have h3 : (Cond.fieldLink own idx ref (TX9 1).2.1 (TX9 1).2.2.1).before args s = true := hts _ hlink
  have h4 : ∀ w ∈ u_ws RX9 TX9 3, w ∈ GA := inlX9
  have h5 : parseFieldDescriptor (TX9 1).2.2.1 = some (.int) := tyX9_ok 1 (by decide)
  have h6 : narrow (.int) (.int v) = .int v := rfl
  have h7 : fits (.int) (.int v) = true := rfl
  refine va_put (D := D) (ci := 9) (v := .int v) (ty := .int) (C := RX9) (T := TX9) (N := 3) hx hb hts h4 tyX9 tyX9_ok nmX9 hown hK hP hD hS k0 hk1 h1 1 (by decide) h3 h2 rfl h5 h6 h7 (Nat.le_of_ble_eq_true rfl) hdg (fun H1 locs1 hP1 hD1 hS1 => ?_)
  exact kk H1 locs1 cells slots ls ⟨Eq.mp (congrArg (fun z => va_P D vwCl z H1) eq9) hP1, Eq.mp (congrArg (fun z => va_D A z) eq9) hD1, hS1, hc, hs⟩ hl
theorem pt_Town_people {cc : ByteArray} {nL : Nat} {own : String} {rm : Room} {κ : KX} (hκ : Cx cc nL own rm κ) {pc : Nat} {lv : List (Nat × Value)} {st : List Value} {S : wPS} {k n : Nat} {a idx : Nat} {ref : String} {v : Int32} (hO : a ∈ sL S ∧ sK S a = 8) (hlink : Cond.fieldLink own idx ref "people" "I" ∈ GA) (hsm : ref = "Plotroom$Town" ∨ Cond.sameField ref "Plotroom$Town" "people" "I" ∈ GA)  (hin : Nm "<init>" κ) (hde : "Plotroom$Town" = own) (hdg : decode cc pc = .ok (.putfield idx, 3)) (kk : Gj κ (PV κ (putI S 52 a v) k n) (pc + 3) lv st) : Gj κ (PV κ S k n) pc lv (.int v :: .ref a :: st) := by
  obtain ⟨p, l, e, R, s, m, args, below, meth, c, Q, D, cO, e0, A, mc, ms⟩ := κ
  obtain ⟨hx, hb, hml, hown, hts, hK, hG, hR, hlk9⟩ := hκ
  intro H locs cells slots ls hF hl
  obtain ⟨hP, hD, hS, hc, hs⟩ := hF
  obtain ⟨k0, hk0, hk1⟩ := wG_Town cO S hO
  have eq9 := wU_Town_people cO S hD hO hk0 v
  have h1 : vwCl[9]? = some (RX9, TX9, 3) := rfl
  have h2 : ∀ x, s.fieldFound? (TX9 2).1 (TX9 2).2.1 (TX9 2).2.2.1 = some x → s.fieldFound? ref (TX9 2).2.1 (TX9 2).2.2.1 = some x := fun x9 h9 => hsm.elim (fun z => by rw [z]; exact h9) (fun z => u_same (hts _ z) x9 h9)
  have h3 : (Cond.fieldLink own idx ref (TX9 2).2.1 (TX9 2).2.2.1).before args s = true := hts _ hlink
  have h4 : ∀ w ∈ u_ws RX9 TX9 3, w ∈ GA := inlX9
  have h5 : parseFieldDescriptor (TX9 2).2.2.1 = some (.int) := tyX9_ok 2 (by decide)
  have h6 : narrow (.int) (.int v) = .int v := rfl
  have h7 : fits (.int) (.int v) = true := rfl
  refine va_putF (D := D) (ci := 9) (v := .int v) (ty := .int) (C := RX9) (T := TX9) (N := 3) hx hb hts h4 tyX9 tyX9_ok nmX9 hown hK hP hD hS k0 hk1 h1 2 (by decide) h3 h2 rfl hin hde h5 h6 h7 (Nat.le_of_ble_eq_true rfl) hdg (fun H1 locs1 hP1 hD1 hS1 => ?_)
  exact kk H1 locs1 cells slots ls ⟨Eq.mp (congrArg (fun z => va_P D vwCl z H1) eq9) hP1, Eq.mp (congrArg (fun z => va_D A z) eq9) hD1, hS1, hc, hs⟩ hl
theorem pt_Track_x {cc : ByteArray} {nL : Nat} {own : String} {rm : Room} {κ : KX} (hκ : Cx cc nL own rm κ) {pc : Nat} {lv : List (Nat × Value)} {st : List Value} {S : wPS} {k n : Nat} {a idx : Nat} {ref : String} {v : Int32} (hO : a ∈ sL S ∧ sK S a = 9) (hlink : Cond.fieldLink own idx ref "x" "I" ∈ GA) (hsm : ref = "Plotroom$Place" ∨ Cond.sameField ref "Plotroom$Place" "x" "I" ∈ GA)   (hdg : decode cc pc = .ok (.putfield idx, 3)) (kk : Gj κ (PV κ (putI S 53 a v) k n) (pc + 3) lv st) : Gj κ (PV κ S k n) pc lv (.int v :: .ref a :: st) := by
  obtain ⟨p, l, e, R, s, m, args, below, meth, c, Q, D, cO, e0, A, mc, ms⟩ := κ
  obtain ⟨hx, hb, hml, hown, hts, hK, hG, hR, hlk9⟩ := hκ
  intro H locs cells slots ls hF hl
  obtain ⟨hP, hD, hS, hc, hs⟩ := hF
  obtain ⟨k0, hk0, hk1⟩ := wG_Track cO S hO
  have eq9 := wU_Track_x cO S hD hO hk0 v
  have h1 : vwCl[10]? = some (RX10, TX10, 10) := rfl
  have h2 : ∀ x, s.fieldFound? (TX10 0).1 (TX10 0).2.1 (TX10 0).2.2.1 = some x → s.fieldFound? ref (TX10 0).2.1 (TX10 0).2.2.1 = some x := fun x9 h9 => hsm.elim (fun z => by rw [z]; exact h9) (fun z => u_same (hts _ z) x9 h9)
  have h3 : (Cond.fieldLink own idx ref (TX10 0).2.1 (TX10 0).2.2.1).before args s = true := hts _ hlink
  have h4 : ∀ w ∈ u_ws RX10 TX10 10, w ∈ GA := inlX10
  have h5 : parseFieldDescriptor (TX10 0).2.2.1 = some (.int) := tyX10_ok 0 (by decide)
  have h6 : narrow (.int) (.int v) = .int v := rfl
  have h7 : fits (.int) (.int v) = true := rfl
  refine va_put (D := D) (ci := 10) (v := .int v) (ty := .int) (C := RX10) (T := TX10) (N := 10) hx hb hts h4 tyX10 tyX10_ok nmX10 hown hK hP hD hS k0 hk1 h1 0 (by decide) h3 h2 rfl h5 h6 h7 (Nat.le_of_ble_eq_true rfl) hdg (fun H1 locs1 hP1 hD1 hS1 => ?_)
  exact kk H1 locs1 cells slots ls ⟨Eq.mp (congrArg (fun z => va_P D vwCl z H1) eq9) hP1, Eq.mp (congrArg (fun z => va_D A z) eq9) hD1, hS1, hc, hs⟩ hl
theorem pt_Track_y {cc : ByteArray} {nL : Nat} {own : String} {rm : Room} {κ : KX} (hκ : Cx cc nL own rm κ) {pc : Nat} {lv : List (Nat × Value)} {st : List Value} {S : wPS} {k n : Nat} {a idx : Nat} {ref : String} {v : Int32} (hO : a ∈ sL S ∧ sK S a = 9) (hlink : Cond.fieldLink own idx ref "y" "I" ∈ GA) (hsm : ref = "Plotroom$Place" ∨ Cond.sameField ref "Plotroom$Place" "y" "I" ∈ GA)   (hdg : decode cc pc = .ok (.putfield idx, 3)) (kk : Gj κ (PV κ (putI S 54 a v) k n) (pc + 3) lv st) : Gj κ (PV κ S k n) pc lv (.int v :: .ref a :: st) := by
  obtain ⟨p, l, e, R, s, m, args, below, meth, c, Q, D, cO, e0, A, mc, ms⟩ := κ
  obtain ⟨hx, hb, hml, hown, hts, hK, hG, hR, hlk9⟩ := hκ
  intro H locs cells slots ls hF hl
  obtain ⟨hP, hD, hS, hc, hs⟩ := hF
  obtain ⟨k0, hk0, hk1⟩ := wG_Track cO S hO
  have eq9 := wU_Track_y cO S hD hO hk0 v
  have h1 : vwCl[10]? = some (RX10, TX10, 10) := rfl
  have h2 : ∀ x, s.fieldFound? (TX10 1).1 (TX10 1).2.1 (TX10 1).2.2.1 = some x → s.fieldFound? ref (TX10 1).2.1 (TX10 1).2.2.1 = some x := fun x9 h9 => hsm.elim (fun z => by rw [z]; exact h9) (fun z => u_same (hts _ z) x9 h9)
  have h3 : (Cond.fieldLink own idx ref (TX10 1).2.1 (TX10 1).2.2.1).before args s = true := hts _ hlink
  have h4 : ∀ w ∈ u_ws RX10 TX10 10, w ∈ GA := inlX10
  have h5 : parseFieldDescriptor (TX10 1).2.2.1 = some (.int) := tyX10_ok 1 (by decide)
  have h6 : narrow (.int) (.int v) = .int v := rfl
  have h7 : fits (.int) (.int v) = true := rfl
  refine va_put (D := D) (ci := 10) (v := .int v) (ty := .int) (C := RX10) (T := TX10) (N := 10) hx hb hts h4 tyX10 tyX10_ok nmX10 hown hK hP hD hS k0 hk1 h1 1 (by decide) h3 h2 rfl h5 h6 h7 (Nat.le_of_ble_eq_true rfl) hdg (fun H1 locs1 hP1 hD1 hS1 => ?_)
  exact kk H1 locs1 cells slots ls ⟨Eq.mp (congrArg (fun z => va_P D vwCl z H1) eq9) hP1, Eq.mp (congrArg (fun z => va_D A z) eq9) hD1, hS1, hc, hs⟩ hl
theorem pt_Track_number {cc : ByteArray} {nL : Nat} {own : String} {rm : Room} {κ : KX} (hκ : Cx cc nL own rm κ) {pc : Nat} {lv : List (Nat × Value)} {st : List Value} {S : wPS} {k n : Nat} {a idx : Nat} {ref : String} {v : Int32} (hO : a ∈ sL S ∧ sK S a = 9) (hlink : Cond.fieldLink own idx ref "number" "I" ∈ GA) (hsm : ref = "Plotroom$Track" ∨ Cond.sameField ref "Plotroom$Track" "number" "I" ∈ GA)  (hin : Nm "<init>" κ) (hde : "Plotroom$Track" = own) (hdg : decode cc pc = .ok (.putfield idx, 3)) (kk : Gj κ (PV κ (putI S 55 a v) k n) (pc + 3) lv st) : Gj κ (PV κ S k n) pc lv (.int v :: .ref a :: st) := by
  obtain ⟨p, l, e, R, s, m, args, below, meth, c, Q, D, cO, e0, A, mc, ms⟩ := κ
  obtain ⟨hx, hb, hml, hown, hts, hK, hG, hR, hlk9⟩ := hκ
  intro H locs cells slots ls hF hl
  obtain ⟨hP, hD, hS, hc, hs⟩ := hF
  obtain ⟨k0, hk0, hk1⟩ := wG_Track cO S hO
  have eq9 := wU_Track_number cO S hD hO hk0 v
  have h1 : vwCl[10]? = some (RX10, TX10, 10) := rfl
  have h2 : ∀ x, s.fieldFound? (TX10 2).1 (TX10 2).2.1 (TX10 2).2.2.1 = some x → s.fieldFound? ref (TX10 2).2.1 (TX10 2).2.2.1 = some x := fun x9 h9 => hsm.elim (fun z => by rw [z]; exact h9) (fun z => u_same (hts _ z) x9 h9)
  have h3 : (Cond.fieldLink own idx ref (TX10 2).2.1 (TX10 2).2.2.1).before args s = true := hts _ hlink
  have h4 : ∀ w ∈ u_ws RX10 TX10 10, w ∈ GA := inlX10
  have h5 : parseFieldDescriptor (TX10 2).2.2.1 = some (.int) := tyX10_ok 2 (by decide)
  have h6 : narrow (.int) (.int v) = .int v := rfl
  have h7 : fits (.int) (.int v) = true := rfl
  refine va_putF (D := D) (ci := 10) (v := .int v) (ty := .int) (C := RX10) (T := TX10) (N := 10) hx hb hts h4 tyX10 tyX10_ok nmX10 hown hK hP hD hS k0 hk1 h1 2 (by decide) h3 h2 rfl hin hde h5 h6 h7 (Nat.le_of_ble_eq_true rfl) hdg (fun H1 locs1 hP1 hD1 hS1 => ?_)
  exact kk H1 locs1 cells slots ls ⟨Eq.mp (congrArg (fun z => va_P D vwCl z H1) eq9) hP1, Eq.mp (congrArg (fun z => va_D A z) eq9) hD1, hS1, hc, hs⟩ hl
theorem pt_Track_minute {cc : ByteArray} {nL : Nat} {own : String} {rm : Room} {κ : KX} (hκ : Cx cc nL own rm κ) {pc : Nat} {lv : List (Nat × Value)} {st : List Value} {S : wPS} {k n : Nat} {a idx : Nat} {ref : String} {v : Int32} (hO : a ∈ sL S ∧ sK S a = 9) (hlink : Cond.fieldLink own idx ref "minute" "I" ∈ GA) (hsm : ref = "Plotroom$Track" ∨ Cond.sameField ref "Plotroom$Track" "minute" "I" ∈ GA)   (hdg : decode cc pc = .ok (.putfield idx, 3)) (kk : Gj κ (PV κ (putI S 56 a v) k n) (pc + 3) lv st) : Gj κ (PV κ S k n) pc lv (.int v :: .ref a :: st) := by
  obtain ⟨p, l, e, R, s, m, args, below, meth, c, Q, D, cO, e0, A, mc, ms⟩ := κ
  obtain ⟨hx, hb, hml, hown, hts, hK, hG, hR, hlk9⟩ := hκ
  intro H locs cells slots ls hF hl
  obtain ⟨hP, hD, hS, hc, hs⟩ := hF
  obtain ⟨k0, hk0, hk1⟩ := wG_Track cO S hO
  have eq9 := wU_Track_minute cO S hD hO hk0 v
  have h1 : vwCl[10]? = some (RX10, TX10, 10) := rfl
  have h2 : ∀ x, s.fieldFound? (TX10 3).1 (TX10 3).2.1 (TX10 3).2.2.1 = some x → s.fieldFound? ref (TX10 3).2.1 (TX10 3).2.2.1 = some x := fun x9 h9 => hsm.elim (fun z => by rw [z]; exact h9) (fun z => u_same (hts _ z) x9 h9)
  have h3 : (Cond.fieldLink own idx ref (TX10 3).2.1 (TX10 3).2.2.1).before args s = true := hts _ hlink
  have h4 : ∀ w ∈ u_ws RX10 TX10 10, w ∈ GA := inlX10
  have h5 : parseFieldDescriptor (TX10 3).2.2.1 = some (.int) := tyX10_ok 3 (by decide)
  have h6 : narrow (.int) (.int v) = .int v := rfl
  have h7 : fits (.int) (.int v) = true := rfl
  refine va_put (D := D) (ci := 10) (v := .int v) (ty := .int) (C := RX10) (T := TX10) (N := 10) hx hb hts h4 tyX10 tyX10_ok nmX10 hown hK hP hD hS k0 hk1 h1 3 (by decide) h3 h2 rfl h5 h6 h7 (Nat.le_of_ble_eq_true rfl) hdg (fun H1 locs1 hP1 hD1 hS1 => ?_)
  exact kk H1 locs1 cells slots ls ⟨Eq.mp (congrArg (fun z => va_P D vwCl z H1) eq9) hP1, Eq.mp (congrArg (fun z => va_D A z) eq9) hD1, hS1, hc, hs⟩ hl
theorem pt_Track_courseX {cc : ByteArray} {nL : Nat} {own : String} {rm : Room} {κ : KX} (hκ : Cx cc nL own rm κ) {pc : Nat} {lv : List (Nat × Value)} {st : List Value} {S : wPS} {k n : Nat} {a idx : Nat} {ref : String} {v : Int32} (hO : a ∈ sL S ∧ sK S a = 9) (hlink : Cond.fieldLink own idx ref "courseX" "I" ∈ GA) (hsm : ref = "Plotroom$Track" ∨ Cond.sameField ref "Plotroom$Track" "courseX" "I" ∈ GA)   (hdg : decode cc pc = .ok (.putfield idx, 3)) (kk : Gj κ (PV κ (putI S 57 a v) k n) (pc + 3) lv st) : Gj κ (PV κ S k n) pc lv (.int v :: .ref a :: st) := by
  obtain ⟨p, l, e, R, s, m, args, below, meth, c, Q, D, cO, e0, A, mc, ms⟩ := κ
  obtain ⟨hx, hb, hml, hown, hts, hK, hG, hR, hlk9⟩ := hκ
  intro H locs cells slots ls hF hl
  obtain ⟨hP, hD, hS, hc, hs⟩ := hF
  obtain ⟨k0, hk0, hk1⟩ := wG_Track cO S hO
  have eq9 := wU_Track_courseX cO S hD hO hk0 v
  have h1 : vwCl[10]? = some (RX10, TX10, 10) := rfl
  have h2 : ∀ x, s.fieldFound? (TX10 4).1 (TX10 4).2.1 (TX10 4).2.2.1 = some x → s.fieldFound? ref (TX10 4).2.1 (TX10 4).2.2.1 = some x := fun x9 h9 => hsm.elim (fun z => by rw [z]; exact h9) (fun z => u_same (hts _ z) x9 h9)
  have h3 : (Cond.fieldLink own idx ref (TX10 4).2.1 (TX10 4).2.2.1).before args s = true := hts _ hlink
  have h4 : ∀ w ∈ u_ws RX10 TX10 10, w ∈ GA := inlX10
  have h5 : parseFieldDescriptor (TX10 4).2.2.1 = some (.int) := tyX10_ok 4 (by decide)
  have h6 : narrow (.int) (.int v) = .int v := rfl
  have h7 : fits (.int) (.int v) = true := rfl
  refine va_put (D := D) (ci := 10) (v := .int v) (ty := .int) (C := RX10) (T := TX10) (N := 10) hx hb hts h4 tyX10 tyX10_ok nmX10 hown hK hP hD hS k0 hk1 h1 4 (by decide) h3 h2 rfl h5 h6 h7 (Nat.le_of_ble_eq_true rfl) hdg (fun H1 locs1 hP1 hD1 hS1 => ?_)
  exact kk H1 locs1 cells slots ls ⟨Eq.mp (congrArg (fun z => va_P D vwCl z H1) eq9) hP1, Eq.mp (congrArg (fun z => va_D A z) eq9) hD1, hS1, hc, hs⟩ hl
theorem pt_Track_courseY {cc : ByteArray} {nL : Nat} {own : String} {rm : Room} {κ : KX} (hκ : Cx cc nL own rm κ) {pc : Nat} {lv : List (Nat × Value)} {st : List Value} {S : wPS} {k n : Nat} {a idx : Nat} {ref : String} {v : Int32} (hO : a ∈ sL S ∧ sK S a = 9) (hlink : Cond.fieldLink own idx ref "courseY" "I" ∈ GA) (hsm : ref = "Plotroom$Track" ∨ Cond.sameField ref "Plotroom$Track" "courseY" "I" ∈ GA)   (hdg : decode cc pc = .ok (.putfield idx, 3)) (kk : Gj κ (PV κ (putI S 58 a v) k n) (pc + 3) lv st) : Gj κ (PV κ S k n) pc lv (.int v :: .ref a :: st) := by
  obtain ⟨p, l, e, R, s, m, args, below, meth, c, Q, D, cO, e0, A, mc, ms⟩ := κ
  obtain ⟨hx, hb, hml, hown, hts, hK, hG, hR, hlk9⟩ := hκ
  intro H locs cells slots ls hF hl
  obtain ⟨hP, hD, hS, hc, hs⟩ := hF
  obtain ⟨k0, hk0, hk1⟩ := wG_Track cO S hO
  have eq9 := wU_Track_courseY cO S hD hO hk0 v
  have h1 : vwCl[10]? = some (RX10, TX10, 10) := rfl
  have h2 : ∀ x, s.fieldFound? (TX10 5).1 (TX10 5).2.1 (TX10 5).2.2.1 = some x → s.fieldFound? ref (TX10 5).2.1 (TX10 5).2.2.1 = some x := fun x9 h9 => hsm.elim (fun z => by rw [z]; exact h9) (fun z => u_same (hts _ z) x9 h9)
  have h3 : (Cond.fieldLink own idx ref (TX10 5).2.1 (TX10 5).2.2.1).before args s = true := hts _ hlink
  have h4 : ∀ w ∈ u_ws RX10 TX10 10, w ∈ GA := inlX10
  have h5 : parseFieldDescriptor (TX10 5).2.2.1 = some (.int) := tyX10_ok 5 (by decide)
  have h6 : narrow (.int) (.int v) = .int v := rfl
  have h7 : fits (.int) (.int v) = true := rfl
  refine va_put (D := D) (ci := 10) (v := .int v) (ty := .int) (C := RX10) (T := TX10) (N := 10) hx hb hts h4 tyX10 tyX10_ok nmX10 hown hK hP hD hS k0 hk1 h1 5 (by decide) h3 h2 rfl h5 h6 h7 (Nat.le_of_ble_eq_true rfl) hdg (fun H1 locs1 hP1 hD1 hS1 => ?_)
  exact kk H1 locs1 cells slots ls ⟨Eq.mp (congrArg (fun z => va_P D vwCl z H1) eq9) hP1, Eq.mp (congrArg (fun z => va_D A z) eq9) hD1, hS1, hc, hs⟩ hl
theorem pt_Track_hasCourse {cc : ByteArray} {nL : Nat} {own : String} {rm : Room} {κ : KX} (hκ : Cx cc nL own rm κ) {pc : Nat} {lv : List (Nat × Value)} {st : List Value} {S : wPS} {k n : Nat} {a idx : Nat} {ref : String} {v : Int32} (hO : a ∈ sL S ∧ sK S a = 9) (hlink : Cond.fieldLink own idx ref "hasCourse" "Z" ∈ GA) (hsm : ref = "Plotroom$Track" ∨ Cond.sameField ref "Plotroom$Track" "hasCourse" "Z" ∈ GA) (hv : v = 0 ∨ v = 1)  (hdg : decode cc pc = .ok (.putfield idx, 3)) (kk : Gj κ (PV κ (putI S 59 a v) k n) (pc + 3) lv st) : Gj κ (PV κ S k n) pc lv (.int v :: .ref a :: st) := by
  obtain ⟨p, l, e, R, s, m, args, below, meth, c, Q, D, cO, e0, A, mc, ms⟩ := κ
  obtain ⟨hx, hb, hml, hown, hts, hK, hG, hR, hlk9⟩ := hκ
  intro H locs cells slots ls hF hl
  obtain ⟨hP, hD, hS, hc, hs⟩ := hF
  obtain ⟨k0, hk0, hk1⟩ := wG_Track cO S hO
  have eq9 := wU_Track_hasCourse cO S hD hO hk0 v
  have h1 : vwCl[10]? = some (RX10, TX10, 10) := rfl
  have h2 : ∀ x, s.fieldFound? (TX10 6).1 (TX10 6).2.1 (TX10 6).2.2.1 = some x → s.fieldFound? ref (TX10 6).2.1 (TX10 6).2.2.1 = some x := fun x9 h9 => hsm.elim (fun z => by rw [z]; exact h9) (fun z => u_same (hts _ z) x9 h9)
  have h3 : (Cond.fieldLink own idx ref (TX10 6).2.1 (TX10 6).2.2.1).before args s = true := hts _ hlink
  have h4 : ∀ w ∈ u_ws RX10 TX10 10, w ∈ GA := inlX10
  have h5 : parseFieldDescriptor (TX10 6).2.2.1 = some (.boolean) := tyX10_ok 6 (by decide)
  have h6 : narrow (.boolean) (.int v) = .int v := by rcases hv with rfl | rfl <;> rfl
  have h7 : fits (.boolean) (.int v) = true := by rcases hv with rfl | rfl <;> rfl
  refine va_put (D := D) (ci := 10) (v := .int v) (ty := .boolean) (C := RX10) (T := TX10) (N := 10) hx hb hts h4 tyX10 tyX10_ok nmX10 hown hK hP hD hS k0 hk1 h1 6 (by decide) h3 h2 rfl h5 h6 h7 (Nat.le_of_ble_eq_true rfl) hdg (fun H1 locs1 hP1 hD1 hS1 => ?_)
  exact kk H1 locs1 cells slots ls ⟨Eq.mp (congrArg (fun z => va_P D vwCl z H1) eq9) hP1, Eq.mp (congrArg (fun z => va_D A z) eq9) hD1, hS1, hc, hs⟩ hl
theorem pt_Track_guess {cc : ByteArray} {nL : Nat} {own : String} {rm : Room} {κ : KX} (hκ : Cx cc nL own rm κ) {pc : Nat} {lv : List (Nat × Value)} {st : List Value} {S : wPS} {k n : Nat} {a idx : Nat} {ref : String} {v : Int32} (hO : a ∈ sL S ∧ sK S a = 9) (hlink : Cond.fieldLink own idx ref "guess" "I" ∈ GA) (hsm : ref = "Plotroom$Track" ∨ Cond.sameField ref "Plotroom$Track" "guess" "I" ∈ GA)   (hdg : decode cc pc = .ok (.putfield idx, 3)) (kk : Gj κ (PV κ (putI S 60 a v) k n) (pc + 3) lv st) : Gj κ (PV κ S k n) pc lv (.int v :: .ref a :: st) := by
  obtain ⟨p, l, e, R, s, m, args, below, meth, c, Q, D, cO, e0, A, mc, ms⟩ := κ
  obtain ⟨hx, hb, hml, hown, hts, hK, hG, hR, hlk9⟩ := hκ
  intro H locs cells slots ls hF hl
  obtain ⟨hP, hD, hS, hc, hs⟩ := hF
  obtain ⟨k0, hk0, hk1⟩ := wG_Track cO S hO
  have eq9 := wU_Track_guess cO S hD hO hk0 v
  have h1 : vwCl[10]? = some (RX10, TX10, 10) := rfl
  have h2 : ∀ x, s.fieldFound? (TX10 7).1 (TX10 7).2.1 (TX10 7).2.2.1 = some x → s.fieldFound? ref (TX10 7).2.1 (TX10 7).2.2.1 = some x := fun x9 h9 => hsm.elim (fun z => by rw [z]; exact h9) (fun z => u_same (hts _ z) x9 h9)
  have h3 : (Cond.fieldLink own idx ref (TX10 7).2.1 (TX10 7).2.2.1).before args s = true := hts _ hlink
  have h4 : ∀ w ∈ u_ws RX10 TX10 10, w ∈ GA := inlX10
  have h5 : parseFieldDescriptor (TX10 7).2.2.1 = some (.int) := tyX10_ok 7 (by decide)
  have h6 : narrow (.int) (.int v) = .int v := rfl
  have h7 : fits (.int) (.int v) = true := rfl
  refine va_put (D := D) (ci := 10) (v := .int v) (ty := .int) (C := RX10) (T := TX10) (N := 10) hx hb hts h4 tyX10 tyX10_ok nmX10 hown hK hP hD hS k0 hk1 h1 7 (by decide) h3 h2 rfl h5 h6 h7 (Nat.le_of_ble_eq_true rfl) hdg (fun H1 locs1 hP1 hD1 hS1 => ?_)
  exact kk H1 locs1 cells slots ls ⟨Eq.mp (congrArg (fun z => va_P D vwCl z H1) eq9) hP1, Eq.mp (congrArg (fun z => va_D A z) eq9) hD1, hS1, hc, hs⟩ hl
theorem pt_Track_hits {cc : ByteArray} {nL : Nat} {own : String} {rm : Room} {κ : KX} (hκ : Cx cc nL own rm κ) {pc : Nat} {lv : List (Nat × Value)} {st : List Value} {S : wPS} {k n : Nat} {a idx : Nat} {ref : String} {v : Int32} (hO : a ∈ sL S ∧ sK S a = 9) (hlink : Cond.fieldLink own idx ref "hits" "I" ∈ GA) (hsm : ref = "Plotroom$Track" ∨ Cond.sameField ref "Plotroom$Track" "hits" "I" ∈ GA)   (hdg : decode cc pc = .ok (.putfield idx, 3)) (kk : Gj κ (PV κ (putI S 61 a v) k n) (pc + 3) lv st) : Gj κ (PV κ S k n) pc lv (.int v :: .ref a :: st) := by
  obtain ⟨p, l, e, R, s, m, args, below, meth, c, Q, D, cO, e0, A, mc, ms⟩ := κ
  obtain ⟨hx, hb, hml, hown, hts, hK, hG, hR, hlk9⟩ := hκ
  intro H locs cells slots ls hF hl
  obtain ⟨hP, hD, hS, hc, hs⟩ := hF
  obtain ⟨k0, hk0, hk1⟩ := wG_Track cO S hO
  have eq9 := wU_Track_hits cO S hD hO hk0 v
  have h1 : vwCl[10]? = some (RX10, TX10, 10) := rfl
  have h2 : ∀ x, s.fieldFound? (TX10 8).1 (TX10 8).2.1 (TX10 8).2.2.1 = some x → s.fieldFound? ref (TX10 8).2.1 (TX10 8).2.2.1 = some x := fun x9 h9 => hsm.elim (fun z => by rw [z]; exact h9) (fun z => u_same (hts _ z) x9 h9)
  have h3 : (Cond.fieldLink own idx ref (TX10 8).2.1 (TX10 8).2.2.1).before args s = true := hts _ hlink
  have h4 : ∀ w ∈ u_ws RX10 TX10 10, w ∈ GA := inlX10
  have h5 : parseFieldDescriptor (TX10 8).2.2.1 = some (.int) := tyX10_ok 8 (by decide)
  have h6 : narrow (.int) (.int v) = .int v := rfl
  have h7 : fits (.int) (.int v) = true := rfl
  refine va_put (D := D) (ci := 10) (v := .int v) (ty := .int) (C := RX10) (T := TX10) (N := 10) hx hb hts h4 tyX10 tyX10_ok nmX10 hown hK hP hD hS k0 hk1 h1 8 (by decide) h3 h2 rfl h5 h6 h7 (Nat.le_of_ble_eq_true rfl) hdg (fun H1 locs1 hP1 hD1 hS1 => ?_)
  exact kk H1 locs1 cells slots ls ⟨Eq.mp (congrArg (fun z => va_P D vwCl z H1) eq9) hP1, Eq.mp (congrArg (fun z => va_D A z) eq9) hD1, hS1, hc, hs⟩ hl
theorem pt_Track_isLive {cc : ByteArray} {nL : Nat} {own : String} {rm : Room} {κ : KX} (hκ : Cx cc nL own rm κ) {pc : Nat} {lv : List (Nat × Value)} {st : List Value} {S : wPS} {k n : Nat} {a idx : Nat} {ref : String} {v : Int32} (hO : a ∈ sL S ∧ sK S a = 9) (hlink : Cond.fieldLink own idx ref "isLive" "Z" ∈ GA) (hsm : ref = "Plotroom$Track" ∨ Cond.sameField ref "Plotroom$Track" "isLive" "Z" ∈ GA) (hv : v = 0 ∨ v = 1)  (hdg : decode cc pc = .ok (.putfield idx, 3)) (kk : Gj κ (PV κ (putI S 62 a v) k n) (pc + 3) lv st) : Gj κ (PV κ S k n) pc lv (.int v :: .ref a :: st) := by
  obtain ⟨p, l, e, R, s, m, args, below, meth, c, Q, D, cO, e0, A, mc, ms⟩ := κ
  obtain ⟨hx, hb, hml, hown, hts, hK, hG, hR, hlk9⟩ := hκ
  intro H locs cells slots ls hF hl
  obtain ⟨hP, hD, hS, hc, hs⟩ := hF
  obtain ⟨k0, hk0, hk1⟩ := wG_Track cO S hO
  have eq9 := wU_Track_isLive cO S hD hO hk0 v
  have h1 : vwCl[10]? = some (RX10, TX10, 10) := rfl
  have h2 : ∀ x, s.fieldFound? (TX10 9).1 (TX10 9).2.1 (TX10 9).2.2.1 = some x → s.fieldFound? ref (TX10 9).2.1 (TX10 9).2.2.1 = some x := fun x9 h9 => hsm.elim (fun z => by rw [z]; exact h9) (fun z => u_same (hts _ z) x9 h9)
  have h3 : (Cond.fieldLink own idx ref (TX10 9).2.1 (TX10 9).2.2.1).before args s = true := hts _ hlink
  have h4 : ∀ w ∈ u_ws RX10 TX10 10, w ∈ GA := inlX10
  have h5 : parseFieldDescriptor (TX10 9).2.2.1 = some (.boolean) := tyX10_ok 9 (by decide)
  have h6 : narrow (.boolean) (.int v) = .int v := by rcases hv with rfl | rfl <;> rfl
  have h7 : fits (.boolean) (.int v) = true := by rcases hv with rfl | rfl <;> rfl
  refine va_put (D := D) (ci := 10) (v := .int v) (ty := .boolean) (C := RX10) (T := TX10) (N := 10) hx hb hts h4 tyX10 tyX10_ok nmX10 hown hK hP hD hS k0 hk1 h1 9 (by decide) h3 h2 rfl h5 h6 h7 (Nat.le_of_ble_eq_true rfl) hdg (fun H1 locs1 hP1 hD1 hS1 => ?_)
  exact kk H1 locs1 cells slots ls ⟨Eq.mp (congrArg (fun z => va_P D vwCl z H1) eq9) hP1, Eq.mp (congrArg (fun z => va_D A z) eq9) hD1, hS1, hc, hs⟩ hl
theorem ptN_Track_isLive {cc : ByteArray} {nL : Nat} {own : String} {rm : Room} {κ : KX} (hκ : Cx cc nL own rm κ) {pc : Nat} {lv : List (Nat × Value)} {st : List Value} {S : wPS} {k n : Nat} {a idx : Nat} {ref host : String} {v : Int32} (hO : a ∈ sL S ∧ sK S a = 9) (hlink : (own, idx, ref, "isLive", "Z", host) ∈ nestF) (hsm : ref = "Plotroom$Track" ∨ Cond.sameField ref "Plotroom$Track" "isLive" "Z" ∈ GA) (hv : v = 0 ∨ v = 1)  (hdg : decode cc pc = .ok (.putfield idx, 3)) (kk : Gj κ (PV κ (putI S 62 a v) k n) (pc + 3) lv st) : Gj κ (PV κ S k n) pc lv (.int v :: .ref a :: st) := by
  obtain ⟨p, l, e, R, s, m, args, below, meth, c, Q, D, cO, e0, A, mc, ms⟩ := κ
  obtain ⟨hx, hb, hml, hown, hts, hK, hG, hR, hlk9⟩ := hκ
  intro H locs cells slots ls hF hl
  obtain ⟨hP, hD, hS, hc, hs⟩ := hF
  obtain ⟨k0, hk0, hk1⟩ := wG_Track cO S hO
  have eq9 := wU_Track_isLive cO S hD hO hk0 v
  have h30 : va_Nw (Cond.fieldLinkNest own idx ref "isLive" "Z" host) s := hG.nf hlink
  have h31 : (Cond.fieldLinkNest own idx ref "isLive" "Z" host).onTables = true := rfl
  have h1 : vwCl[10]? = some (RX10, TX10, 10) := rfl
  have h2 : ∀ x, s.fieldFound? (TX10 9).1 (TX10 9).2.1 (TX10 9).2.2.1 = some x → s.fieldFound? ref (TX10 9).2.1 (TX10 9).2.2.1 = some x := fun x9 h9 => hsm.elim (fun z => by rw [z]; exact h9) (fun z => u_same (hts _ z) x9 h9)
  have h3 : (Cond.fieldLinkNest own idx ref (TX10 9).2.1 (TX10 9).2.2.1 host).before args s = true := va_Nw.use h31 h30
  have h4 : ∀ w ∈ u_ws RX10 TX10 10, w ∈ GA := inlX10
  have h5 : parseFieldDescriptor (TX10 9).2.2.1 = some (.boolean) := tyX10_ok 9 (by decide)
  have h6 : narrow (.boolean) (.int v) = .int v := by rcases hv with rfl | rfl <;> rfl
  have h7 : fits (.boolean) (.int v) = true := by rcases hv with rfl | rfl <;> rfl
  refine va_putN (D := D) (ci := 10) (v := .int v) (ty := .boolean) (C := RX10) (T := TX10) (N := 10) hx hb hts h4 tyX10 tyX10_ok nmX10 hown hK hP hD hS k0 hk1 h1 9 (by decide) h3 h2 rfl h5 h6 h7 (Nat.le_of_ble_eq_true rfl) hdg (fun H1 locs1 hP1 hD1 hS1 => ?_)
  exact kk H1 locs1 cells slots ls ⟨Eq.mp (congrArg (fun z => va_P D vwCl z H1) eq9) hP1, Eq.mp (congrArg (fun z => va_D A z) eq9) hD1, hS1, hc, hs⟩ hl
theorem pt_Room_masts {cc : ByteArray} {nL : Nat} {own : String} {rm : Room} {κ : KX} (hκ : Cx cc nL own rm κ) {pc : Nat} {lv : List (Nat × Value)} {st : List Value} {S : wPS} {k n : Nat} {a idx : Nat} {ref : String} {v : Option Nat} (hO : a ∈ sL S ∧ sK S a = 10) (hlink : Cond.fieldLink own idx ref "masts" "Ljava/util/ArrayList;" ∈ GA) (hsm : ref = "Plotroom" ∨ Cond.sameField ref "Plotroom" "masts" "Ljava/util/ArrayList;" ∈ GA)  (hin : Nm "<init>" κ) (hde : "Plotroom" = own) (hdg : decode cc pc = .ok (.putfield idx, 3)) (kk : Gj κ (PV κ (putR S 3 a v) k n) (pc + 3) lv st) : Gj κ (PV κ S k n) pc lv (va_rf v :: .ref a :: st) := by
  obtain ⟨p, l, e, R, s, m, args, below, meth, c, Q, D, cO, e0, A, mc, ms⟩ := κ
  obtain ⟨hx, hb, hml, hown, hts, hK, hG, hR, hlk9⟩ := hκ
  intro H locs cells slots ls hF hl
  obtain ⟨hP, hD, hS, hc, hs⟩ := hF
  obtain ⟨k0, hk0, hk1⟩ := wG_Room cO S hO
  have eq9 := wU_Room_masts cO S hD hO hk0 v
  have h1 : vwCl[11]? = some (RX11, TX11, 14) := rfl
  have h2 : ∀ x, s.fieldFound? (TX11 0).1 (TX11 0).2.1 (TX11 0).2.2.1 = some x → s.fieldFound? ref (TX11 0).2.1 (TX11 0).2.2.1 = some x := fun x9 h9 => hsm.elim (fun z => by rw [z]; exact h9) (fun z => u_same (hts _ z) x9 h9)
  have h3 : (Cond.fieldLink own idx ref (TX11 0).2.1 (TX11 0).2.2.1).before args s = true := hts _ hlink
  have h4 : ∀ w ∈ u_ws RX11 TX11 14, w ∈ GA := inlX11
  have h5 : parseFieldDescriptor (TX11 0).2.2.1 = some (.object "java/util/ArrayList") := tyX11_ok 0 (by decide)
  have h6 : narrow (.object "java/util/ArrayList") (va_rf v) = va_rf v := by cases v <;> rfl
  have h7 : fits (.object "java/util/ArrayList") (va_rf v) = true := by cases v <;> rfl
  refine va_putF (D := D) (ci := 11) (v := va_rf v) (ty := .object "java/util/ArrayList") (C := RX11) (T := TX11) (N := 14) hx hb hts h4 tyX11 tyX11_ok nmX11 hown hK hP hD hS k0 hk1 h1 0 (by decide) h3 h2 rfl hin hde h5 h6 h7 (Nat.le_of_ble_eq_true rfl) hdg (fun H1 locs1 hP1 hD1 hS1 => ?_)
  exact kk H1 locs1 cells slots ls ⟨Eq.mp (congrArg (fun z => va_P D vwCl z H1) eq9) hP1, Eq.mp (congrArg (fun z => va_D A z) eq9) hD1, hS1, hc, hs⟩ hl
theorem pt_Room_stations {cc : ByteArray} {nL : Nat} {own : String} {rm : Room} {κ : KX} (hκ : Cx cc nL own rm κ) {pc : Nat} {lv : List (Nat × Value)} {st : List Value} {S : wPS} {k n : Nat} {a idx : Nat} {ref : String} {v : Option Nat} (hO : a ∈ sL S ∧ sK S a = 10) (hlink : Cond.fieldLink own idx ref "stations" "Ljava/util/ArrayList;" ∈ GA) (hsm : ref = "Plotroom" ∨ Cond.sameField ref "Plotroom" "stations" "Ljava/util/ArrayList;" ∈ GA)  (hin : Nm "<init>" κ) (hde : "Plotroom" = own) (hdg : decode cc pc = .ok (.putfield idx, 3)) (kk : Gj κ (PV κ (putR S 4 a v) k n) (pc + 3) lv st) : Gj κ (PV κ S k n) pc lv (va_rf v :: .ref a :: st) := by
  obtain ⟨p, l, e, R, s, m, args, below, meth, c, Q, D, cO, e0, A, mc, ms⟩ := κ
  obtain ⟨hx, hb, hml, hown, hts, hK, hG, hR, hlk9⟩ := hκ
  intro H locs cells slots ls hF hl
  obtain ⟨hP, hD, hS, hc, hs⟩ := hF
  obtain ⟨k0, hk0, hk1⟩ := wG_Room cO S hO
  have eq9 := wU_Room_stations cO S hD hO hk0 v
  have h1 : vwCl[11]? = some (RX11, TX11, 14) := rfl
  have h2 : ∀ x, s.fieldFound? (TX11 1).1 (TX11 1).2.1 (TX11 1).2.2.1 = some x → s.fieldFound? ref (TX11 1).2.1 (TX11 1).2.2.1 = some x := fun x9 h9 => hsm.elim (fun z => by rw [z]; exact h9) (fun z => u_same (hts _ z) x9 h9)
  have h3 : (Cond.fieldLink own idx ref (TX11 1).2.1 (TX11 1).2.2.1).before args s = true := hts _ hlink
  have h4 : ∀ w ∈ u_ws RX11 TX11 14, w ∈ GA := inlX11
  have h5 : parseFieldDescriptor (TX11 1).2.2.1 = some (.object "java/util/ArrayList") := tyX11_ok 1 (by decide)
  have h6 : narrow (.object "java/util/ArrayList") (va_rf v) = va_rf v := by cases v <;> rfl
  have h7 : fits (.object "java/util/ArrayList") (va_rf v) = true := by cases v <;> rfl
  refine va_putF (D := D) (ci := 11) (v := va_rf v) (ty := .object "java/util/ArrayList") (C := RX11) (T := TX11) (N := 14) hx hb hts h4 tyX11 tyX11_ok nmX11 hown hK hP hD hS k0 hk1 h1 1 (by decide) h3 h2 rfl hin hde h5 h6 h7 (Nat.le_of_ble_eq_true rfl) hdg (fun H1 locs1 hP1 hD1 hS1 => ?_)
  exact kk H1 locs1 cells slots ls ⟨Eq.mp (congrArg (fun z => va_P D vwCl z H1) eq9) hP1, Eq.mp (congrArg (fun z => va_D A z) eq9) hD1, hS1, hc, hs⟩ hl
theorem pt_Room_squadrons {cc : ByteArray} {nL : Nat} {own : String} {rm : Room} {κ : KX} (hκ : Cx cc nL own rm κ) {pc : Nat} {lv : List (Nat × Value)} {st : List Value} {S : wPS} {k n : Nat} {a idx : Nat} {ref : String} {v : Option Nat} (hO : a ∈ sL S ∧ sK S a = 10) (hlink : Cond.fieldLink own idx ref "squadrons" "Ljava/util/ArrayList;" ∈ GA) (hsm : ref = "Plotroom" ∨ Cond.sameField ref "Plotroom" "squadrons" "Ljava/util/ArrayList;" ∈ GA)  (hin : Nm "<init>" κ) (hde : "Plotroom" = own) (hdg : decode cc pc = .ok (.putfield idx, 3)) (kk : Gj κ (PV κ (putR S 5 a v) k n) (pc + 3) lv st) : Gj κ (PV κ S k n) pc lv (va_rf v :: .ref a :: st) := by
  obtain ⟨p, l, e, R, s, m, args, below, meth, c, Q, D, cO, e0, A, mc, ms⟩ := κ
  obtain ⟨hx, hb, hml, hown, hts, hK, hG, hR, hlk9⟩ := hκ
  intro H locs cells slots ls hF hl
  obtain ⟨hP, hD, hS, hc, hs⟩ := hF
  obtain ⟨k0, hk0, hk1⟩ := wG_Room cO S hO
  have eq9 := wU_Room_squadrons cO S hD hO hk0 v
  have h1 : vwCl[11]? = some (RX11, TX11, 14) := rfl
  have h2 : ∀ x, s.fieldFound? (TX11 2).1 (TX11 2).2.1 (TX11 2).2.2.1 = some x → s.fieldFound? ref (TX11 2).2.1 (TX11 2).2.2.1 = some x := fun x9 h9 => hsm.elim (fun z => by rw [z]; exact h9) (fun z => u_same (hts _ z) x9 h9)
  have h3 : (Cond.fieldLink own idx ref (TX11 2).2.1 (TX11 2).2.2.1).before args s = true := hts _ hlink
  have h4 : ∀ w ∈ u_ws RX11 TX11 14, w ∈ GA := inlX11
  have h5 : parseFieldDescriptor (TX11 2).2.2.1 = some (.object "java/util/ArrayList") := tyX11_ok 2 (by decide)
  have h6 : narrow (.object "java/util/ArrayList") (va_rf v) = va_rf v := by cases v <;> rfl
  have h7 : fits (.object "java/util/ArrayList") (va_rf v) = true := by cases v <;> rfl
  refine va_putF (D := D) (ci := 11) (v := va_rf v) (ty := .object "java/util/ArrayList") (C := RX11) (T := TX11) (N := 14) hx hb hts h4 tyX11 tyX11_ok nmX11 hown hK hP hD hS k0 hk1 h1 2 (by decide) h3 h2 rfl hin hde h5 h6 h7 (Nat.le_of_ble_eq_true rfl) hdg (fun H1 locs1 hP1 hD1 hS1 => ?_)
  exact kk H1 locs1 cells slots ls ⟨Eq.mp (congrArg (fun z => va_P D vwCl z H1) eq9) hP1, Eq.mp (congrArg (fun z => va_D A z) eq9) hD1, hS1, hc, hs⟩ hl
theorem pt_Room_guns {cc : ByteArray} {nL : Nat} {own : String} {rm : Room} {κ : KX} (hκ : Cx cc nL own rm κ) {pc : Nat} {lv : List (Nat × Value)} {st : List Value} {S : wPS} {k n : Nat} {a idx : Nat} {ref : String} {v : Option Nat} (hO : a ∈ sL S ∧ sK S a = 10) (hlink : Cond.fieldLink own idx ref "guns" "Ljava/util/ArrayList;" ∈ GA) (hsm : ref = "Plotroom" ∨ Cond.sameField ref "Plotroom" "guns" "Ljava/util/ArrayList;" ∈ GA)  (hin : Nm "<init>" κ) (hde : "Plotroom" = own) (hdg : decode cc pc = .ok (.putfield idx, 3)) (kk : Gj κ (PV κ (putR S 6 a v) k n) (pc + 3) lv st) : Gj κ (PV κ S k n) pc lv (va_rf v :: .ref a :: st) := by
  obtain ⟨p, l, e, R, s, m, args, below, meth, c, Q, D, cO, e0, A, mc, ms⟩ := κ
  obtain ⟨hx, hb, hml, hown, hts, hK, hG, hR, hlk9⟩ := hκ
  intro H locs cells slots ls hF hl
  obtain ⟨hP, hD, hS, hc, hs⟩ := hF
  obtain ⟨k0, hk0, hk1⟩ := wG_Room cO S hO
  have eq9 := wU_Room_guns cO S hD hO hk0 v
  have h1 : vwCl[11]? = some (RX11, TX11, 14) := rfl
  have h2 : ∀ x, s.fieldFound? (TX11 3).1 (TX11 3).2.1 (TX11 3).2.2.1 = some x → s.fieldFound? ref (TX11 3).2.1 (TX11 3).2.2.1 = some x := fun x9 h9 => hsm.elim (fun z => by rw [z]; exact h9) (fun z => u_same (hts _ z) x9 h9)
  have h3 : (Cond.fieldLink own idx ref (TX11 3).2.1 (TX11 3).2.2.1).before args s = true := hts _ hlink
  have h4 : ∀ w ∈ u_ws RX11 TX11 14, w ∈ GA := inlX11
  have h5 : parseFieldDescriptor (TX11 3).2.2.1 = some (.object "java/util/ArrayList") := tyX11_ok 3 (by decide)
  have h6 : narrow (.object "java/util/ArrayList") (va_rf v) = va_rf v := by cases v <;> rfl
  have h7 : fits (.object "java/util/ArrayList") (va_rf v) = true := by cases v <;> rfl
  refine va_putF (D := D) (ci := 11) (v := va_rf v) (ty := .object "java/util/ArrayList") (C := RX11) (T := TX11) (N := 14) hx hb hts h4 tyX11 tyX11_ok nmX11 hown hK hP hD hS k0 hk1 h1 3 (by decide) h3 h2 rfl hin hde h5 h6 h7 (Nat.le_of_ble_eq_true rfl) hdg (fun H1 locs1 hP1 hD1 hS1 => ?_)
  exact kk H1 locs1 cells slots ls ⟨Eq.mp (congrArg (fun z => va_P D vwCl z H1) eq9) hP1, Eq.mp (congrArg (fun z => va_D A z) eq9) hD1, hS1, hc, hs⟩ hl
theorem pt_Room_towns {cc : ByteArray} {nL : Nat} {own : String} {rm : Room} {κ : KX} (hκ : Cx cc nL own rm κ) {pc : Nat} {lv : List (Nat × Value)} {st : List Value} {S : wPS} {k n : Nat} {a idx : Nat} {ref : String} {v : Option Nat} (hO : a ∈ sL S ∧ sK S a = 10) (hlink : Cond.fieldLink own idx ref "towns" "Ljava/util/ArrayList;" ∈ GA) (hsm : ref = "Plotroom" ∨ Cond.sameField ref "Plotroom" "towns" "Ljava/util/ArrayList;" ∈ GA)  (hin : Nm "<init>" κ) (hde : "Plotroom" = own) (hdg : decode cc pc = .ok (.putfield idx, 3)) (kk : Gj κ (PV κ (putR S 7 a v) k n) (pc + 3) lv st) : Gj κ (PV κ S k n) pc lv (va_rf v :: .ref a :: st) := by
  obtain ⟨p, l, e, R, s, m, args, below, meth, c, Q, D, cO, e0, A, mc, ms⟩ := κ
  obtain ⟨hx, hb, hml, hown, hts, hK, hG, hR, hlk9⟩ := hκ
  intro H locs cells slots ls hF hl
  obtain ⟨hP, hD, hS, hc, hs⟩ := hF
  obtain ⟨k0, hk0, hk1⟩ := wG_Room cO S hO
  have eq9 := wU_Room_towns cO S hD hO hk0 v
  have h1 : vwCl[11]? = some (RX11, TX11, 14) := rfl
  have h2 : ∀ x, s.fieldFound? (TX11 4).1 (TX11 4).2.1 (TX11 4).2.2.1 = some x → s.fieldFound? ref (TX11 4).2.1 (TX11 4).2.2.1 = some x := fun x9 h9 => hsm.elim (fun z => by rw [z]; exact h9) (fun z => u_same (hts _ z) x9 h9)
  have h3 : (Cond.fieldLink own idx ref (TX11 4).2.1 (TX11 4).2.2.1).before args s = true := hts _ hlink
  have h4 : ∀ w ∈ u_ws RX11 TX11 14, w ∈ GA := inlX11
  have h5 : parseFieldDescriptor (TX11 4).2.2.1 = some (.object "java/util/ArrayList") := tyX11_ok 4 (by decide)
  have h6 : narrow (.object "java/util/ArrayList") (va_rf v) = va_rf v := by cases v <;> rfl
  have h7 : fits (.object "java/util/ArrayList") (va_rf v) = true := by cases v <;> rfl
  refine va_putF (D := D) (ci := 11) (v := va_rf v) (ty := .object "java/util/ArrayList") (C := RX11) (T := TX11) (N := 14) hx hb hts h4 tyX11 tyX11_ok nmX11 hown hK hP hD hS k0 hk1 h1 4 (by decide) h3 h2 rfl hin hde h5 h6 h7 (Nat.le_of_ble_eq_true rfl) hdg (fun H1 locs1 hP1 hD1 hS1 => ?_)
  exact kk H1 locs1 cells slots ls ⟨Eq.mp (congrArg (fun z => va_P D vwCl z H1) eq9) hP1, Eq.mp (congrArg (fun z => va_D A z) eq9) hD1, hS1, hc, hs⟩ hl
theorem pt_Room_flights {cc : ByteArray} {nL : Nat} {own : String} {rm : Room} {κ : KX} (hκ : Cx cc nL own rm κ) {pc : Nat} {lv : List (Nat × Value)} {st : List Value} {S : wPS} {k n : Nat} {a idx : Nat} {ref : String} {v : Option Nat} (hO : a ∈ sL S ∧ sK S a = 10) (hlink : Cond.fieldLink own idx ref "flights" "Ljava/util/ArrayList;" ∈ GA) (hsm : ref = "Plotroom" ∨ Cond.sameField ref "Plotroom" "flights" "Ljava/util/ArrayList;" ∈ GA)  (hin : Nm "<init>" κ) (hde : "Plotroom" = own) (hdg : decode cc pc = .ok (.putfield idx, 3)) (kk : Gj κ (PV κ (putR S 8 a v) k n) (pc + 3) lv st) : Gj κ (PV κ S k n) pc lv (va_rf v :: .ref a :: st) := by
  obtain ⟨p, l, e, R, s, m, args, below, meth, c, Q, D, cO, e0, A, mc, ms⟩ := κ
  obtain ⟨hx, hb, hml, hown, hts, hK, hG, hR, hlk9⟩ := hκ
  intro H locs cells slots ls hF hl
  obtain ⟨hP, hD, hS, hc, hs⟩ := hF
  obtain ⟨k0, hk0, hk1⟩ := wG_Room cO S hO
  have eq9 := wU_Room_flights cO S hD hO hk0 v
  have h1 : vwCl[11]? = some (RX11, TX11, 14) := rfl
  have h2 : ∀ x, s.fieldFound? (TX11 5).1 (TX11 5).2.1 (TX11 5).2.2.1 = some x → s.fieldFound? ref (TX11 5).2.1 (TX11 5).2.2.1 = some x := fun x9 h9 => hsm.elim (fun z => by rw [z]; exact h9) (fun z => u_same (hts _ z) x9 h9)
  have h3 : (Cond.fieldLink own idx ref (TX11 5).2.1 (TX11 5).2.2.1).before args s = true := hts _ hlink
  have h4 : ∀ w ∈ u_ws RX11 TX11 14, w ∈ GA := inlX11
  have h5 : parseFieldDescriptor (TX11 5).2.2.1 = some (.object "java/util/ArrayList") := tyX11_ok 5 (by decide)
  have h6 : narrow (.object "java/util/ArrayList") (va_rf v) = va_rf v := by cases v <;> rfl
  have h7 : fits (.object "java/util/ArrayList") (va_rf v) = true := by cases v <;> rfl
  refine va_putF (D := D) (ci := 11) (v := va_rf v) (ty := .object "java/util/ArrayList") (C := RX11) (T := TX11) (N := 14) hx hb hts h4 tyX11 tyX11_ok nmX11 hown hK hP hD hS k0 hk1 h1 5 (by decide) h3 h2 rfl hin hde h5 h6 h7 (Nat.le_of_ble_eq_true rfl) hdg (fun H1 locs1 hP1 hD1 hS1 => ?_)
  exact kk H1 locs1 cells slots ls ⟨Eq.mp (congrArg (fun z => va_P D vwCl z H1) eq9) hP1, Eq.mp (congrArg (fun z => va_D A z) eq9) hD1, hS1, hc, hs⟩ hl
theorem pt_Room_plans {cc : ByteArray} {nL : Nat} {own : String} {rm : Room} {κ : KX} (hκ : Cx cc nL own rm κ) {pc : Nat} {lv : List (Nat × Value)} {st : List Value} {S : wPS} {k n : Nat} {a idx : Nat} {ref : String} {v : Option Nat} (hO : a ∈ sL S ∧ sK S a = 10) (hlink : Cond.fieldLink own idx ref "plans" "Ljava/util/ArrayList;" ∈ GA) (hsm : ref = "Plotroom" ∨ Cond.sameField ref "Plotroom" "plans" "Ljava/util/ArrayList;" ∈ GA)  (hin : Nm "<init>" κ) (hde : "Plotroom" = own) (hdg : decode cc pc = .ok (.putfield idx, 3)) (kk : Gj κ (PV κ (putR S 9 a v) k n) (pc + 3) lv st) : Gj κ (PV κ S k n) pc lv (va_rf v :: .ref a :: st) := by
  obtain ⟨p, l, e, R, s, m, args, below, meth, c, Q, D, cO, e0, A, mc, ms⟩ := κ
  obtain ⟨hx, hb, hml, hown, hts, hK, hG, hR, hlk9⟩ := hκ
  intro H locs cells slots ls hF hl
  obtain ⟨hP, hD, hS, hc, hs⟩ := hF
  obtain ⟨k0, hk0, hk1⟩ := wG_Room cO S hO
  have eq9 := wU_Room_plans cO S hD hO hk0 v
  have h1 : vwCl[11]? = some (RX11, TX11, 14) := rfl
  have h2 : ∀ x, s.fieldFound? (TX11 6).1 (TX11 6).2.1 (TX11 6).2.2.1 = some x → s.fieldFound? ref (TX11 6).2.1 (TX11 6).2.2.1 = some x := fun x9 h9 => hsm.elim (fun z => by rw [z]; exact h9) (fun z => u_same (hts _ z) x9 h9)
  have h3 : (Cond.fieldLink own idx ref (TX11 6).2.1 (TX11 6).2.2.1).before args s = true := hts _ hlink
  have h4 : ∀ w ∈ u_ws RX11 TX11 14, w ∈ GA := inlX11
  have h5 : parseFieldDescriptor (TX11 6).2.2.1 = some (.object "java/util/ArrayList") := tyX11_ok 6 (by decide)
  have h6 : narrow (.object "java/util/ArrayList") (va_rf v) = va_rf v := by cases v <;> rfl
  have h7 : fits (.object "java/util/ArrayList") (va_rf v) = true := by cases v <;> rfl
  refine va_putF (D := D) (ci := 11) (v := va_rf v) (ty := .object "java/util/ArrayList") (C := RX11) (T := TX11) (N := 14) hx hb hts h4 tyX11 tyX11_ok nmX11 hown hK hP hD hS k0 hk1 h1 6 (by decide) h3 h2 rfl hin hde h5 h6 h7 (Nat.le_of_ble_eq_true rfl) hdg (fun H1 locs1 hP1 hD1 hS1 => ?_)
  exact kk H1 locs1 cells slots ls ⟨Eq.mp (congrArg (fun z => va_P D vwCl z H1) eq9) hP1, Eq.mp (congrArg (fun z => va_D A z) eq9) hD1, hS1, hc, hs⟩ hl
theorem pt_Room_tracks {cc : ByteArray} {nL : Nat} {own : String} {rm : Room} {κ : KX} (hκ : Cx cc nL own rm κ) {pc : Nat} {lv : List (Nat × Value)} {st : List Value} {S : wPS} {k n : Nat} {a idx : Nat} {ref : String} {v : Option Nat} (hO : a ∈ sL S ∧ sK S a = 10) (hlink : Cond.fieldLink own idx ref "tracks" "Ljava/util/ArrayList;" ∈ GA) (hsm : ref = "Plotroom" ∨ Cond.sameField ref "Plotroom" "tracks" "Ljava/util/ArrayList;" ∈ GA)  (hin : Nm "<init>" κ) (hde : "Plotroom" = own) (hdg : decode cc pc = .ok (.putfield idx, 3)) (kk : Gj κ (PV κ (putR S 10 a v) k n) (pc + 3) lv st) : Gj κ (PV κ S k n) pc lv (va_rf v :: .ref a :: st) := by
  obtain ⟨p, l, e, R, s, m, args, below, meth, c, Q, D, cO, e0, A, mc, ms⟩ := κ
  obtain ⟨hx, hb, hml, hown, hts, hK, hG, hR, hlk9⟩ := hκ
  intro H locs cells slots ls hF hl
  obtain ⟨hP, hD, hS, hc, hs⟩ := hF
  obtain ⟨k0, hk0, hk1⟩ := wG_Room cO S hO
  have eq9 := wU_Room_tracks cO S hD hO hk0 v
  have h1 : vwCl[11]? = some (RX11, TX11, 14) := rfl
  have h2 : ∀ x, s.fieldFound? (TX11 7).1 (TX11 7).2.1 (TX11 7).2.2.1 = some x → s.fieldFound? ref (TX11 7).2.1 (TX11 7).2.2.1 = some x := fun x9 h9 => hsm.elim (fun z => by rw [z]; exact h9) (fun z => u_same (hts _ z) x9 h9)
  have h3 : (Cond.fieldLink own idx ref (TX11 7).2.1 (TX11 7).2.2.1).before args s = true := hts _ hlink
  have h4 : ∀ w ∈ u_ws RX11 TX11 14, w ∈ GA := inlX11
  have h5 : parseFieldDescriptor (TX11 7).2.2.1 = some (.object "java/util/ArrayList") := tyX11_ok 7 (by decide)
  have h6 : narrow (.object "java/util/ArrayList") (va_rf v) = va_rf v := by cases v <;> rfl
  have h7 : fits (.object "java/util/ArrayList") (va_rf v) = true := by cases v <;> rfl
  refine va_putF (D := D) (ci := 11) (v := va_rf v) (ty := .object "java/util/ArrayList") (C := RX11) (T := TX11) (N := 14) hx hb hts h4 tyX11 tyX11_ok nmX11 hown hK hP hD hS k0 hk1 h1 7 (by decide) h3 h2 rfl hin hde h5 h6 h7 (Nat.le_of_ble_eq_true rfl) hdg (fun H1 locs1 hP1 hD1 hS1 => ?_)
  exact kk H1 locs1 cells slots ls ⟨Eq.mp (congrArg (fun z => va_P D vwCl z H1) eq9) hP1, Eq.mp (congrArg (fun z => va_D A z) eq9) hD1, hS1, hc, hs⟩ hl
theorem pt_Room_plots {cc : ByteArray} {nL : Nat} {own : String} {rm : Room} {κ : KX} (hκ : Cx cc nL own rm κ) {pc : Nat} {lv : List (Nat × Value)} {st : List Value} {S : wPS} {k n : Nat} {a idx : Nat} {ref : String} {v : Option Nat} (hO : a ∈ sL S ∧ sK S a = 10) (hlink : Cond.fieldLink own idx ref "plots" "Ljava/util/ArrayList;" ∈ GA) (hsm : ref = "Plotroom" ∨ Cond.sameField ref "Plotroom" "plots" "Ljava/util/ArrayList;" ∈ GA)  (hin : Nm "<init>" κ) (hde : "Plotroom" = own) (hdg : decode cc pc = .ok (.putfield idx, 3)) (kk : Gj κ (PV κ (putR S 11 a v) k n) (pc + 3) lv st) : Gj κ (PV κ S k n) pc lv (va_rf v :: .ref a :: st) := by
  obtain ⟨p, l, e, R, s, m, args, below, meth, c, Q, D, cO, e0, A, mc, ms⟩ := κ
  obtain ⟨hx, hb, hml, hown, hts, hK, hG, hR, hlk9⟩ := hκ
  intro H locs cells slots ls hF hl
  obtain ⟨hP, hD, hS, hc, hs⟩ := hF
  obtain ⟨k0, hk0, hk1⟩ := wG_Room cO S hO
  have eq9 := wU_Room_plots cO S hD hO hk0 v
  have h1 : vwCl[11]? = some (RX11, TX11, 14) := rfl
  have h2 : ∀ x, s.fieldFound? (TX11 8).1 (TX11 8).2.1 (TX11 8).2.2.1 = some x → s.fieldFound? ref (TX11 8).2.1 (TX11 8).2.2.1 = some x := fun x9 h9 => hsm.elim (fun z => by rw [z]; exact h9) (fun z => u_same (hts _ z) x9 h9)
  have h3 : (Cond.fieldLink own idx ref (TX11 8).2.1 (TX11 8).2.2.1).before args s = true := hts _ hlink
  have h4 : ∀ w ∈ u_ws RX11 TX11 14, w ∈ GA := inlX11
  have h5 : parseFieldDescriptor (TX11 8).2.2.1 = some (.object "java/util/ArrayList") := tyX11_ok 8 (by decide)
  have h6 : narrow (.object "java/util/ArrayList") (va_rf v) = va_rf v := by cases v <;> rfl
  have h7 : fits (.object "java/util/ArrayList") (va_rf v) = true := by cases v <;> rfl
  refine va_putF (D := D) (ci := 11) (v := va_rf v) (ty := .object "java/util/ArrayList") (C := RX11) (T := TX11) (N := 14) hx hb hts h4 tyX11 tyX11_ok nmX11 hown hK hP hD hS k0 hk1 h1 8 (by decide) h3 h2 rfl hin hde h5 h6 h7 (Nat.le_of_ble_eq_true rfl) hdg (fun H1 locs1 hP1 hD1 hS1 => ?_)
  exact kk H1 locs1 cells slots ls ⟨Eq.mp (congrArg (fun z => va_P D vwCl z H1) eq9) hP1, Eq.mp (congrArg (fun z => va_D A z) eq9) hD1, hS1, hc, hs⟩ hl
theorem pt_Room_plotsOnWay {cc : ByteArray} {nL : Nat} {own : String} {rm : Room} {κ : KX} (hκ : Cx cc nL own rm κ) {pc : Nat} {lv : List (Nat × Value)} {st : List Value} {S : wPS} {k n : Nat} {a idx : Nat} {ref : String} {v : Int32} (hO : a ∈ sL S ∧ sK S a = 10) (hlink : Cond.fieldLink own idx ref "plotsOnWay" "I" ∈ GA) (hsm : ref = "Plotroom" ∨ Cond.sameField ref "Plotroom" "plotsOnWay" "I" ∈ GA)   (hdg : decode cc pc = .ok (.putfield idx, 3)) (kk : Gj κ (PV κ (putI S 63 a v) k n) (pc + 3) lv st) : Gj κ (PV κ S k n) pc lv (.int v :: .ref a :: st) := by
  obtain ⟨p, l, e, R, s, m, args, below, meth, c, Q, D, cO, e0, A, mc, ms⟩ := κ
  obtain ⟨hx, hb, hml, hown, hts, hK, hG, hR, hlk9⟩ := hκ
  intro H locs cells slots ls hF hl
  obtain ⟨hP, hD, hS, hc, hs⟩ := hF
  obtain ⟨k0, hk0, hk1⟩ := wG_Room cO S hO
  have eq9 := wU_Room_plotsOnWay cO S hD hO hk0 v
  have h1 : vwCl[11]? = some (RX11, TX11, 14) := rfl
  have h2 : ∀ x, s.fieldFound? (TX11 9).1 (TX11 9).2.1 (TX11 9).2.2.1 = some x → s.fieldFound? ref (TX11 9).2.1 (TX11 9).2.2.1 = some x := fun x9 h9 => hsm.elim (fun z => by rw [z]; exact h9) (fun z => u_same (hts _ z) x9 h9)
  have h3 : (Cond.fieldLink own idx ref (TX11 9).2.1 (TX11 9).2.2.1).before args s = true := hts _ hlink
  have h4 : ∀ w ∈ u_ws RX11 TX11 14, w ∈ GA := inlX11
  have h5 : parseFieldDescriptor (TX11 9).2.2.1 = some (.int) := tyX11_ok 9 (by decide)
  have h6 : narrow (.int) (.int v) = .int v := rfl
  have h7 : fits (.int) (.int v) = true := rfl
  refine va_put (D := D) (ci := 11) (v := .int v) (ty := .int) (C := RX11) (T := TX11) (N := 14) hx hb hts h4 tyX11 tyX11_ok nmX11 hown hK hP hD hS k0 hk1 h1 9 (by decide) h3 h2 rfl h5 h6 h7 (Nat.le_of_ble_eq_true rfl) hdg (fun H1 locs1 hP1 hD1 hS1 => ?_)
  exact kk H1 locs1 cells slots ls ⟨Eq.mp (congrArg (fun z => va_P D vwCl z H1) eq9) hP1, Eq.mp (congrArg (fun z => va_D A z) eq9) hD1, hS1, hc, hs⟩ hl
theorem pt_Room_lots {cc : ByteArray} {nL : Nat} {own : String} {rm : Room} {κ : KX} (hκ : Cx cc nL own rm κ) {pc : Nat} {lv : List (Nat × Value)} {st : List Value} {S : wPS} {k n : Nat} {a idx : Nat} {ref : String} {v : Option Nat} (hO : a ∈ sL S ∧ sK S a = 10) (hlink : Cond.fieldLink own idx ref "lots" "LPlotroom$Lots;" ∈ GA) (hsm : ref = "Plotroom" ∨ Cond.sameField ref "Plotroom" "lots" "LPlotroom$Lots;" ∈ GA)  (hin : Nm "<init>" κ) (hde : "Plotroom" = own) (hdg : decode cc pc = .ok (.putfield idx, 3)) (kk : Gj κ (PV κ (putR S 12 a v) k n) (pc + 3) lv st) : Gj κ (PV κ S k n) pc lv (va_rf v :: .ref a :: st) := by
  obtain ⟨p, l, e, R, s, m, args, below, meth, c, Q, D, cO, e0, A, mc, ms⟩ := κ
  obtain ⟨hx, hb, hml, hown, hts, hK, hG, hR, hlk9⟩ := hκ
  intro H locs cells slots ls hF hl
  obtain ⟨hP, hD, hS, hc, hs⟩ := hF
  obtain ⟨k0, hk0, hk1⟩ := wG_Room cO S hO
  have eq9 := wU_Room_lots cO S hD hO hk0 v
  have h1 : vwCl[11]? = some (RX11, TX11, 14) := rfl
  have h2 : ∀ x, s.fieldFound? (TX11 10).1 (TX11 10).2.1 (TX11 10).2.2.1 = some x → s.fieldFound? ref (TX11 10).2.1 (TX11 10).2.2.1 = some x := fun x9 h9 => hsm.elim (fun z => by rw [z]; exact h9) (fun z => u_same (hts _ z) x9 h9)
  have h3 : (Cond.fieldLink own idx ref (TX11 10).2.1 (TX11 10).2.2.1).before args s = true := hts _ hlink
  have h4 : ∀ w ∈ u_ws RX11 TX11 14, w ∈ GA := inlX11
  have h5 : parseFieldDescriptor (TX11 10).2.2.1 = some (.object "Plotroom$Lots") := tyX11_ok 10 (by decide)
  have h6 : narrow (.object "Plotroom$Lots") (va_rf v) = va_rf v := by cases v <;> rfl
  have h7 : fits (.object "Plotroom$Lots") (va_rf v) = true := by cases v <;> rfl
  refine va_putF (D := D) (ci := 11) (v := va_rf v) (ty := .object "Plotroom$Lots") (C := RX11) (T := TX11) (N := 14) hx hb hts h4 tyX11 tyX11_ok nmX11 hown hK hP hD hS k0 hk1 h1 10 (by decide) h3 h2 rfl hin hde h5 h6 h7 (Nat.le_of_ble_eq_true rfl) hdg (fun H1 locs1 hP1 hD1 hS1 => ?_)
  exact kk H1 locs1 cells slots ls ⟨Eq.mp (congrArg (fun z => va_P D vwCl z H1) eq9) hP1, Eq.mp (congrArg (fun z => va_D A z) eq9) hD1, hS1, hc, hs⟩ hl
theorem pt_Room_tally {cc : ByteArray} {nL : Nat} {own : String} {rm : Room} {κ : KX} (hκ : Cx cc nL own rm κ) {pc : Nat} {lv : List (Nat × Value)} {st : List Value} {S : wPS} {k n : Nat} {a idx : Nat} {ref : String} {v : Option Nat} (hO : a ∈ sL S ∧ sK S a = 10) (hlink : Cond.fieldLink own idx ref "tally" "LPlotroom$Tally;" ∈ GA) (hsm : ref = "Plotroom" ∨ Cond.sameField ref "Plotroom" "tally" "LPlotroom$Tally;" ∈ GA)  (hin : Nm "<init>" κ) (hde : "Plotroom" = own) (hdg : decode cc pc = .ok (.putfield idx, 3)) (kk : Gj κ (PV κ (putR S 13 a v) k n) (pc + 3) lv st) : Gj κ (PV κ S k n) pc lv (va_rf v :: .ref a :: st) := by
  obtain ⟨p, l, e, R, s, m, args, below, meth, c, Q, D, cO, e0, A, mc, ms⟩ := κ
  obtain ⟨hx, hb, hml, hown, hts, hK, hG, hR, hlk9⟩ := hκ
  intro H locs cells slots ls hF hl
  obtain ⟨hP, hD, hS, hc, hs⟩ := hF
  obtain ⟨k0, hk0, hk1⟩ := wG_Room cO S hO
  have eq9 := wU_Room_tally cO S hD hO hk0 v
  have h1 : vwCl[11]? = some (RX11, TX11, 14) := rfl
  have h2 : ∀ x, s.fieldFound? (TX11 11).1 (TX11 11).2.1 (TX11 11).2.2.1 = some x → s.fieldFound? ref (TX11 11).2.1 (TX11 11).2.2.1 = some x := fun x9 h9 => hsm.elim (fun z => by rw [z]; exact h9) (fun z => u_same (hts _ z) x9 h9)
  have h3 : (Cond.fieldLink own idx ref (TX11 11).2.1 (TX11 11).2.2.1).before args s = true := hts _ hlink
  have h4 : ∀ w ∈ u_ws RX11 TX11 14, w ∈ GA := inlX11
  have h5 : parseFieldDescriptor (TX11 11).2.2.1 = some (.object "Plotroom$Tally") := tyX11_ok 11 (by decide)
  have h6 : narrow (.object "Plotroom$Tally") (va_rf v) = va_rf v := by cases v <;> rfl
  have h7 : fits (.object "Plotroom$Tally") (va_rf v) = true := by cases v <;> rfl
  refine va_putF (D := D) (ci := 11) (v := va_rf v) (ty := .object "Plotroom$Tally") (C := RX11) (T := TX11) (N := 14) hx hb hts h4 tyX11 tyX11_ok nmX11 hown hK hP hD hS k0 hk1 h1 11 (by decide) h3 h2 rfl hin hde h5 h6 h7 (Nat.le_of_ble_eq_true rfl) hdg (fun H1 locs1 hP1 hD1 hS1 => ?_)
  exact kk H1 locs1 cells slots ls ⟨Eq.mp (congrArg (fun z => va_P D vwCl z H1) eq9) hP1, Eq.mp (congrArg (fun z => va_D A z) eq9) hD1, hS1, hc, hs⟩ hl
theorem pt_Room_minute {cc : ByteArray} {nL : Nat} {own : String} {rm : Room} {κ : KX} (hκ : Cx cc nL own rm κ) {pc : Nat} {lv : List (Nat × Value)} {st : List Value} {S : wPS} {k n : Nat} {a idx : Nat} {ref : String} {v : Int32} (hO : a ∈ sL S ∧ sK S a = 10) (hlink : Cond.fieldLink own idx ref "minute" "I" ∈ GA) (hsm : ref = "Plotroom" ∨ Cond.sameField ref "Plotroom" "minute" "I" ∈ GA)   (hdg : decode cc pc = .ok (.putfield idx, 3)) (kk : Gj κ (PV κ (putI S 64 a v) k n) (pc + 3) lv st) : Gj κ (PV κ S k n) pc lv (.int v :: .ref a :: st) := by
  obtain ⟨p, l, e, R, s, m, args, below, meth, c, Q, D, cO, e0, A, mc, ms⟩ := κ
  obtain ⟨hx, hb, hml, hown, hts, hK, hG, hR, hlk9⟩ := hκ
  intro H locs cells slots ls hF hl
  obtain ⟨hP, hD, hS, hc, hs⟩ := hF
  obtain ⟨k0, hk0, hk1⟩ := wG_Room cO S hO
  have eq9 := wU_Room_minute cO S hD hO hk0 v
  have h1 : vwCl[11]? = some (RX11, TX11, 14) := rfl
  have h2 : ∀ x, s.fieldFound? (TX11 12).1 (TX11 12).2.1 (TX11 12).2.2.1 = some x → s.fieldFound? ref (TX11 12).2.1 (TX11 12).2.2.1 = some x := fun x9 h9 => hsm.elim (fun z => by rw [z]; exact h9) (fun z => u_same (hts _ z) x9 h9)
  have h3 : (Cond.fieldLink own idx ref (TX11 12).2.1 (TX11 12).2.2.1).before args s = true := hts _ hlink
  have h4 : ∀ w ∈ u_ws RX11 TX11 14, w ∈ GA := inlX11
  have h5 : parseFieldDescriptor (TX11 12).2.2.1 = some (.int) := tyX11_ok 12 (by decide)
  have h6 : narrow (.int) (.int v) = .int v := rfl
  have h7 : fits (.int) (.int v) = true := rfl
  refine va_put (D := D) (ci := 11) (v := .int v) (ty := .int) (C := RX11) (T := TX11) (N := 14) hx hb hts h4 tyX11 tyX11_ok nmX11 hown hK hP hD hS k0 hk1 h1 12 (by decide) h3 h2 rfl h5 h6 h7 (Nat.le_of_ble_eq_true rfl) hdg (fun H1 locs1 hP1 hD1 hS1 => ?_)
  exact kk H1 locs1 cells slots ls ⟨Eq.mp (congrArg (fun z => va_P D vwCl z H1) eq9) hP1, Eq.mp (congrArg (fun z => va_D A z) eq9) hD1, hS1, hc, hs⟩ hl
theorem pt_Room_gateRadius {cc : ByteArray} {nL : Nat} {own : String} {rm : Room} {κ : KX} (hκ : Cx cc nL own rm κ) {pc : Nat} {lv : List (Nat × Value)} {st : List Value} {S : wPS} {k n : Nat} {a idx : Nat} {ref : String} {v : Int32} (hO : a ∈ sL S ∧ sK S a = 10) (hlink : Cond.fieldLink own idx ref "gateRadius" "I" ∈ GA) (hsm : ref = "Plotroom" ∨ Cond.sameField ref "Plotroom" "gateRadius" "I" ∈ GA)   (hdg : decode cc pc = .ok (.putfield idx, 3)) (kk : Gj κ (PV κ (putI S 65 a v) k n) (pc + 3) lv st) : Gj κ (PV κ S k n) pc lv (.int v :: .ref a :: st) := by
  obtain ⟨p, l, e, R, s, m, args, below, meth, c, Q, D, cO, e0, A, mc, ms⟩ := κ
  obtain ⟨hx, hb, hml, hown, hts, hK, hG, hR, hlk9⟩ := hκ
  intro H locs cells slots ls hF hl
  obtain ⟨hP, hD, hS, hc, hs⟩ := hF
  obtain ⟨k0, hk0, hk1⟩ := wG_Room cO S hO
  have eq9 := wU_Room_gateRadius cO S hD hO hk0 v
  have h1 : vwCl[11]? = some (RX11, TX11, 14) := rfl
  have h2 : ∀ x, s.fieldFound? (TX11 13).1 (TX11 13).2.1 (TX11 13).2.2.1 = some x → s.fieldFound? ref (TX11 13).2.1 (TX11 13).2.2.1 = some x := fun x9 h9 => hsm.elim (fun z => by rw [z]; exact h9) (fun z => u_same (hts _ z) x9 h9)
  have h3 : (Cond.fieldLink own idx ref (TX11 13).2.1 (TX11 13).2.2.1).before args s = true := hts _ hlink
  have h4 : ∀ w ∈ u_ws RX11 TX11 14, w ∈ GA := inlX11
  have h5 : parseFieldDescriptor (TX11 13).2.2.1 = some (.int) := tyX11_ok 13 (by decide)
  have h6 : narrow (.int) (.int v) = .int v := rfl
  have h7 : fits (.int) (.int v) = true := rfl
  refine va_put (D := D) (ci := 11) (v := .int v) (ty := .int) (C := RX11) (T := TX11) (N := 14) hx hb hts h4 tyX11 tyX11_ok nmX11 hown hK hP hD hS k0 hk1 h1 13 (by decide) h3 h2 rfl h5 h6 h7 (Nat.le_of_ble_eq_true rfl) hdg (fun H1 locs1 hP1 hD1 hS1 => ?_)
  exact kk H1 locs1 cells slots ls ⟨Eq.mp (congrArg (fun z => va_P D vwCl z H1) eq9) hP1, Eq.mp (congrArg (fun z => va_D A z) eq9) hD1, hS1, hc, hs⟩ hl
theorem pt_List_modCount {cc : ByteArray} {nL : Nat} {own : String} {rm : Room} {κ : KX} (hκ : Cx cc nL own rm κ) {pc : Nat} {lv : List (Nat × Value)} {st : List Value} {S : wPS} {k n : Nat} {a idx : Nat} {ref : String} {v : Int32} (hO : a ∈ sL S ∧ sK S a = 11) (hlink : Cond.fieldLink own idx ref "modCount" "I" ∈ GA) (hsm : ref = "java/util/AbstractList" ∨ Cond.sameField ref "java/util/AbstractList" "modCount" "I" ∈ GA)   (hdg : decode cc pc = .ok (.putfield idx, 3)) (kk : Gj κ (PV κ (putI S 66 a v) k n) (pc + 3) lv st) : Gj κ (PV κ S k n) pc lv (.int v :: .ref a :: st) := by
  obtain ⟨p, l, e, R, s, m, args, below, meth, c, Q, D, cO, e0, A, mc, ms⟩ := κ
  obtain ⟨hx, hb, hml, hown, hts, hK, hG, hR, hlk9⟩ := hκ
  intro H locs cells slots ls hF hl
  obtain ⟨hP, hD, hS, hc, hs⟩ := hF
  obtain ⟨k0, hk0, hk1⟩ := wG_List cO S hO
  have eq9 := wU_List_modCount cO S hD hO hk0 v
  have h1 : vwCl[0]? = some (RJx4a65c, TJx4a65c, 3) := rfl
  have h2 : ∀ x, s.fieldFound? (TJx4a65c 0).1 (TJx4a65c 0).2.1 (TJx4a65c 0).2.2.1 = some x → s.fieldFound? ref (TJx4a65c 0).2.1 (TJx4a65c 0).2.2.1 = some x := fun x9 h9 => hsm.elim (fun z => by rw [z]; exact h9) (fun z => u_same (hts _ z) x9 h9)
  have h3 : (Cond.fieldLink own idx ref (TJx4a65c 0).2.1 (TJx4a65c 0).2.2.1).before args s = true := hts _ hlink
  have h4 : ∀ w ∈ u_ws RJx4a65c TJx4a65c 3, w ∈ GA := inlJx4a65c
  have h5 : parseFieldDescriptor (TJx4a65c 0).2.2.1 = some (.int) := tyJx4a65c_ok 0 (by decide)
  have h6 : narrow (.int) (.int v) = .int v := rfl
  have h7 : fits (.int) (.int v) = true := rfl
  refine va_put (D := D) (ci := 0) (v := .int v) (ty := .int) (C := RJx4a65c) (T := TJx4a65c) (N := 3) hx hb hts h4 tyJx4a65c tyJx4a65c_ok nmJx4a65c hown hK hP hD hS k0 hk1 h1 0 (by decide) h3 h2 rfl h5 h6 h7 (Nat.le_of_ble_eq_true rfl) hdg (fun H1 locs1 hP1 hD1 hS1 => ?_)
  exact kk H1 locs1 cells slots ls ⟨Eq.mp (congrArg (fun z => va_P D vwCl z H1) eq9) hP1, Eq.mp (congrArg (fun z => va_D A z) eq9) hD1, hS1, hc, hs⟩ hl
theorem pt_List_elementData {cc : ByteArray} {nL : Nat} {own : String} {rm : Room} {κ : KX} (hκ : Cx cc nL own rm κ) {pc : Nat} {lv : List (Nat × Value)} {st : List Value} {S : wPS} {k n : Nat} {a idx : Nat} {ref : String} {v : Option Nat} (hO : a ∈ sL S ∧ sK S a = 11) (hlink : Cond.fieldLink own idx ref "elementData" "[Ljava/lang/Object;" ∈ GA) (hsm : ref = "java/util/ArrayList" ∨ Cond.sameField ref "java/util/ArrayList" "elementData" "[Ljava/lang/Object;" ∈ GA)   (hdg : decode cc pc = .ok (.putfield idx, 3)) (kk : Gj κ (PV κ (putR S 14 a v) k n) (pc + 3) lv st) : Gj κ (PV κ S k n) pc lv (va_rf v :: .ref a :: st) := by
  obtain ⟨p, l, e, R, s, m, args, below, meth, c, Q, D, cO, e0, A, mc, ms⟩ := κ
  obtain ⟨hx, hb, hml, hown, hts, hK, hG, hR, hlk9⟩ := hκ
  intro H locs cells slots ls hF hl
  obtain ⟨hP, hD, hS, hc, hs⟩ := hF
  obtain ⟨k0, hk0, hk1⟩ := wG_List cO S hO
  have eq9 := wU_List_elementData cO S hD hO hk0 v
  have h1 : vwCl[0]? = some (RJx4a65c, TJx4a65c, 3) := rfl
  have h2 : ∀ x, s.fieldFound? (TJx4a65c 1).1 (TJx4a65c 1).2.1 (TJx4a65c 1).2.2.1 = some x → s.fieldFound? ref (TJx4a65c 1).2.1 (TJx4a65c 1).2.2.1 = some x := fun x9 h9 => hsm.elim (fun z => by rw [z]; exact h9) (fun z => u_same (hts _ z) x9 h9)
  have h3 : (Cond.fieldLink own idx ref (TJx4a65c 1).2.1 (TJx4a65c 1).2.2.1).before args s = true := hts _ hlink
  have h4 : ∀ w ∈ u_ws RJx4a65c TJx4a65c 3, w ∈ GA := inlJx4a65c
  have h5 : parseFieldDescriptor (TJx4a65c 1).2.2.1 = some (.array (.object "java/lang/Object")) := tyJx4a65c_ok 1 (by decide)
  have h6 : narrow (.array (.object "java/lang/Object")) (va_rf v) = va_rf v := by cases v <;> rfl
  have h7 : fits (.array (.object "java/lang/Object")) (va_rf v) = true := by cases v <;> rfl
  refine va_put (D := D) (ci := 0) (v := va_rf v) (ty := .array (.object "java/lang/Object")) (C := RJx4a65c) (T := TJx4a65c) (N := 3) hx hb hts h4 tyJx4a65c tyJx4a65c_ok nmJx4a65c hown hK hP hD hS k0 hk1 h1 1 (by decide) h3 h2 rfl h5 h6 h7 (Nat.le_of_ble_eq_true rfl) hdg (fun H1 locs1 hP1 hD1 hS1 => ?_)
  exact kk H1 locs1 cells slots ls ⟨Eq.mp (congrArg (fun z => va_P D vwCl z H1) eq9) hP1, Eq.mp (congrArg (fun z => va_D A z) eq9) hD1, hS1, hc, hs⟩ hl
theorem pt_List_size {cc : ByteArray} {nL : Nat} {own : String} {rm : Room} {κ : KX} (hκ : Cx cc nL own rm κ) {pc : Nat} {lv : List (Nat × Value)} {st : List Value} {S : wPS} {k n : Nat} {a idx : Nat} {ref : String} {v : Int32} (hO : a ∈ sL S ∧ sK S a = 11) (hlink : Cond.fieldLink own idx ref "size" "I" ∈ GA) (hsm : ref = "java/util/ArrayList" ∨ Cond.sameField ref "java/util/ArrayList" "size" "I" ∈ GA)   (hdg : decode cc pc = .ok (.putfield idx, 3)) (kk : Gj κ (PV κ (putI S 67 a v) k n) (pc + 3) lv st) : Gj κ (PV κ S k n) pc lv (.int v :: .ref a :: st) := by
  obtain ⟨p, l, e, R, s, m, args, below, meth, c, Q, D, cO, e0, A, mc, ms⟩ := κ
  obtain ⟨hx, hb, hml, hown, hts, hK, hG, hR, hlk9⟩ := hκ
  intro H locs cells slots ls hF hl
  obtain ⟨hP, hD, hS, hc, hs⟩ := hF
  obtain ⟨k0, hk0, hk1⟩ := wG_List cO S hO
  have eq9 := wU_List_size cO S hD hO hk0 v
  have h1 : vwCl[0]? = some (RJx4a65c, TJx4a65c, 3) := rfl
  have h2 : ∀ x, s.fieldFound? (TJx4a65c 2).1 (TJx4a65c 2).2.1 (TJx4a65c 2).2.2.1 = some x → s.fieldFound? ref (TJx4a65c 2).2.1 (TJx4a65c 2).2.2.1 = some x := fun x9 h9 => hsm.elim (fun z => by rw [z]; exact h9) (fun z => u_same (hts _ z) x9 h9)
  have h3 : (Cond.fieldLink own idx ref (TJx4a65c 2).2.1 (TJx4a65c 2).2.2.1).before args s = true := hts _ hlink
  have h4 : ∀ w ∈ u_ws RJx4a65c TJx4a65c 3, w ∈ GA := inlJx4a65c
  have h5 : parseFieldDescriptor (TJx4a65c 2).2.2.1 = some (.int) := tyJx4a65c_ok 2 (by decide)
  have h6 : narrow (.int) (.int v) = .int v := rfl
  have h7 : fits (.int) (.int v) = true := rfl
  refine va_put (D := D) (ci := 0) (v := .int v) (ty := .int) (C := RJx4a65c) (T := TJx4a65c) (N := 3) hx hb hts h4 tyJx4a65c tyJx4a65c_ok nmJx4a65c hown hK hP hD hS k0 hk1 h1 2 (by decide) h3 h2 rfl h5 h6 h7 (Nat.le_of_ble_eq_true rfl) hdg (fun H1 locs1 hP1 hD1 hS1 => ?_)
  exact kk H1 locs1 cells slots ls ⟨Eq.mp (congrArg (fun z => va_P D vwCl z H1) eq9) hP1, Eq.mp (congrArg (fun z => va_D A z) eq9) hD1, hS1, hc, hs⟩ hl
